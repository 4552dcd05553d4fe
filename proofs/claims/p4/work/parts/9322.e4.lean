section ED
variable {B X F : Nat} {τ : zK} {n c s : Nat} {σ σ' : zS} {k m i : Nat} {D : Nat → Nat → Int32} {ft : Nat → Int32} {q : Nat → List Nat} {lt ga ds : Int32}
theorem nw_len {inC : Nat → Bool} (y : Nat) : (nw ft inC y).length ≤ y := by
  induction y with
  | zero => exact Nat.le_refl _
  | succ y ih =>
    show (if inC y = true ∧ ft y = 0 then nw ft inC y ++ [y] else nw ft inC y).length ≤ y + 1
    split
    · rw [List.length_append]
      simp only [List.length_cons, List.length_nil]
      omega
    · omega
def elF (D : Nat → Nat → Int32) (l : List Nat) : Int32 := if ∃ a, a ∈ l ∧ D 3 a ≠ 0 then 1 else 0
theorem elF_pos {l : List Nat} (h : ∃ a, a ∈ l ∧ D 3 a ≠ 0) : elF D l = 1 := if_pos h
theorem elF_neg {l : List Nat} (h : ¬ ∃ a, a ∈ l ∧ D 3 a ≠ 0) : elF D l = 0 := if_neg h
theorem mS.q0 {inC : Nat → Bool} (hS : mS σ k m D ft q lt ga ds) : mS σ k m D (fy ft inC 0) (fun b => if b = 0 then q 0 ++ nw ft inC 0 else q 1) lt ga ds := by
  have f0 : fy ft inC 0 = ft := by
    funext a
    unfold fy
    rw [if_neg (by omega)]
  rw [f0]
  refine ⟨hS.1, hS.2.1, fun b hb => ?_, hS.2.2.2⟩
  have z := hS.2.2.1 b hb
  rcases (by omega : b = 0 ∨ b = 1) with rfl | rfl
  · show qM σ (2 * k + 0) (q 0 ++ []) _
    rw [List.append_nil]
    exact z
  · exact z
theorem n_take1 {p g g1 : Nat} {L H : Nat → Int64} (hk : k < 3) (hg1 : g1 ≤ m) (hg : g < m) (delay : Int32) (hS : mS σ k m D ft q lt (nI g1) 0) (hcl : clM σ p L H) (hgR : inR p L H g = true) (h3 : σ.1 31 21 = -1 ∨ 0 ≤ σ.1 31 21) (h4 : σ.1 31 22 = -1 ∨ 0 ≤ σ.1 31 22) : ∀ (N y : Nat), y ≤ m → pW B X τ n c s (j_AckBookModel_takes F X N 0 (some (B + 31)) (nI k) delay (nI g) (nI (nw ft (inR p L H) y).length) (elF D (nw ft (inR p L H) y)) (nI y) (o_w B X τ σ n c s)) (fun v σ' => if nw ft (inR p L H) m = [] then v = some (.int 0) ∧ σ' = σ else v = some (.int (nI (nw ft (inR p L H) m).length)) ∧ nU k σ σ' ∧ (∀ f, f < 5 → σ'.1 31 (18 + f) = wyA (fun f => σ.1 31 (18 + f)) k D ft (inR p L H) m g (σ.1 31 1) delay f) ∧ σ'.1 31 23 = 0 ∧ mS σ' k m D (lsN (D 2) g1 (σ.1 31 1) (limV (wyA (fun f => σ.1 31 (18 + f)) k D ft (inR p L H) m g (σ.1 31 1) delay 0) (wyA (fun f => σ.1 31 (18 + f)) k D ft (inR p L H) m g (σ.1 31 1) delay 2)) (fy ft (inR p L H) m)).1 (fun b => if b = 0 then q 0 ++ nw ft (inR p L H) m else q 1 ++ (lsN (D 2) g1 (σ.1 31 1) (limV (wyA (fun f => σ.1 31 (18 + f)) k D ft (inR p L H) m g (σ.1 31 1) delay 0) (wyA (fun f => σ.1 31 (18 + f)) k D ft (inR p L H) m g (σ.1 31 1) delay 2)) (fy ft (inR p L H) m)).2.1) (lsN (D 2) g1 (σ.1 31 1) (limV (wyA (fun f => σ.1 31 (18 + f)) k D ft (inR p L H) m g (σ.1 31 1) delay 0) (wyA (fun f => σ.1 31 (18 + f)) k D ft (inR p L H) m g (σ.1 31 1) delay 2)) (fy ft (inR p L H) m)).2.2 (nI g1) 0) := by
  have hm := hS.1.2.1
  intro N
  induction N with
  | zero => exact fun _ _ => pW.none
  | succ N ih =>
    intro y hy
    rw [j_AckBookModel_takes, if_pos rfl]
    simp (disch := omega) only [or_31_4, oln_32, hS.1.1, e_le]
    by_cases h : m ≤ y
    · obtain rfl : y = m := by omega
      rw [if_pos h]
      have hlen := nw_len (ft := ft) (inC := inR p L H) y
      by_cases hl : nw ft (inR p L H) y = []
      · simp only [if_pos hl]
        rw [if_pos (show nI (nw ft (inR p L H) y).length = 0 by rw [hl]; rfl)]
        exact pW.ret ⟨rfl, rfl⟩
      · simp only [if_neg hl]
        have hpos : 0 < (nw ft (inR p L H) y).length := List.length_pos_iff.mpr hl
        rw [if_neg (nI_ne0 hpos (by omega))]
        have go : ∀ (σ1 : zS) (W : Nat → Int32) (x2 x3 x5 : Int32), nU k σ σ1 → mS σ1 k y D ft q lt (nI g1) 0 → (∀ f, f < 5 → σ1.1 31 (18 + f) = W f) → σ1.1 31 1 = σ.1 31 1 → pW B X τ n c s (j_AckBookModel_takes F X N 1 (some (B + 31)) (nI k) x2 x3 (nI (nw ft (inR p L H) y).length) x5 0 (o_w B X τ σ1 n c s)) (fun v σ' => v = some (.int (nI (nw ft (inR p L H) y).length)) ∧ nU k σ σ' ∧ (∀ f, f < 5 → σ'.1 31 (18 + f) = W f) ∧ σ'.1 31 23 = 0 ∧ mS σ' k y D (lsN (D 2) g1 (σ.1 31 1) (limV (W 0) (W 2)) (fy ft (inR p L H) y)).1 (fun b => if b = 0 then q 0 ++ nw ft (inR p L H) y else q 1 ++ (lsN (D 2) g1 (σ.1 31 1) (limV (W 0) (W 2)) (fy ft (inR p L H) y)).2.1) (lsN (D 2) g1 (σ.1 31 1) (limV (W 0) (W 2)) (fy ft (inR p L H) y)).2.2 (nI g1) 0) := by
          intro σ1 W x2 x3 x5 w1 w2 w3 w4
          refine (n_take2 (B := B) (X := X) (F := F) (τ := τ) (n := n) (c := c) (s := s) (ft := ft) (q := q) (p := p) (L := L) (H := H) hk hg1 _ x2 x3 x5 N 0 σ1 (Nat.zero_le _) w2.q0 (hcl.u hk w1)).mono ?_
          rintro v σ2 ⟨b1, b2, b3, b4, b5⟩
          have e0 : σ1.1 31 18 = W 0 := w3 0 (by omega)
          have e2 : σ1.1 31 20 = W 2 := w3 2 (by omega)
          rw [w4, e0, e2] at b5
          exact ⟨b1, w1.trans b2, fun f hf => (b3 f hf).trans (w3 f hf), b4, b5⟩
        by_cases z2 : ∃ a, a ∈ nw ft (inR p L H) y ∧ D 3 a ≠ 0
        · rw [elF_pos z2, if_neg (by decide)]
          simp only [ot_31]
          refine pW.cI (n_isNew (B := B) (X := X) (F := F) (τ := τ) (n := n) (c := c) (s := s) hk hS hg hcl.1 hcl.2.1 hcl.2.2.1 hcl.2.2.2) ?_
          rintro v σ1 ⟨rfl, hv⟩
          have hv := Option.some.inj hv
          injection hv with hv
          subst hv
          by_cases z1 : ft g = 0
          · rw [show (if inR p L H g = true ∧ (0 : Int32) = 0 ∧ ft g = 0 then (1 : Int32) else 0) = 1 from if_pos ⟨hgR, rfl, z1⟩, if_neg (by decide)]
            have f34 := (hS.2.1 g hg).1.2.1
            simp (disch := omega) only [oi_31_1, or_31_6, e_mu, nI_add, oln_34, f34]
            have h154 : ∀ d : Int32, d = (if k = 2 then (if 25 < delay then 25 else delay) else 0) → pW B X τ n c s (q_AckBookModel_takes_154 F X (j_AckBookModel_takes F X N) (some (B + 31)) (nI k) (nI (nw ft (inR p L H) y).length) (some (B + 31)) (σ1.1 31 1 - D 2 g) d (o_w B X τ σ1 n c s)) (fun v σ' => v = some (.int (nI (nw ft (inR p L H) y).length)) ∧ nU k σ1 σ' ∧ (∀ f, f < 5 → σ'.1 31 (18 + f) = wyA (fun f => σ1.1 31 (18 + f)) k D ft (inR p L H) y g (σ1.1 31 1) delay f) ∧ σ'.1 31 23 = 0 ∧ mS σ' k y D (lsN (D 2) g1 (σ1.1 31 1) (limV (wyA (fun f => σ1.1 31 (18 + f)) k D ft (inR p L H) y g (σ1.1 31 1) delay 0) (wyA (fun f => σ1.1 31 (18 + f)) k D ft (inR p L H) y g (σ1.1 31 1) delay 2)) (fy ft (inR p L H) y)).1 (fun b => if b = 0 then q 0 ++ nw ft (inR p L H) y else q 1 ++ (lsN (D 2) g1 (σ1.1 31 1) (limV (wyA (fun f => σ1.1 31 (18 + f)) k D ft (inR p L H) y g (σ1.1 31 1) delay 0) (wyA (fun f => σ1.1 31 (18 + f)) k D ft (inR p L H) y g (σ1.1 31 1) delay 2)) (fy ft (inR p L H) y)).2.1) (lsN (D 2) g1 (σ1.1 31 1) (limV (wyA (fun f => σ1.1 31 (18 + f)) k D ft (inR p L H) y g (σ1.1 31 1) delay 0) (wyA (fun f => σ1.1 31 (18 + f)) k D ft (inR p L H) y g (σ1.1 31 1) delay 2)) (fy ft (inR p L H) y)).2.2 (nI g1) 0) := by
              intro d hd
              obtain ⟨σ2, a1, a2, a3, a4⟩ := n_sample (B := B) (X := X) (F := F) (τ := τ) (n := n) (c := c) (s := s) (σ := σ1) (σ1.1 31 1 - D 2 g) d h3 h4
              have hw : wyA (fun f => σ1.1 31 (18 + f)) k D ft (inR p L H) y g (σ1.1 31 1) delay = wyT (fun f => σ1.1 31 (18 + f)) (σ1.1 31 1 - D 2 g) d (σ1.1 31 1) := by
                unfold wyA
                rw [if_pos ⟨z1, z2⟩, hd]
              rw [hw]
              unfold q_AckBookModel_takes_154
              simp only [ot_31, a1, y_cV]
              exact go σ2 _ _ _ _ ⟨a2, fun o f p1 p2 p3 p4 p5 => a3 o f (fun w => p5 ⟨w.1, by omega⟩)⟩ (hS.f31 (fun o f ho => a3 o f (fun w => ho w.1))) a4 (a3 31 1 (by omega))
            by_cases z3 : k = 2
            · rw [if_pos (show (2 : Int32) ≤ nI k by rw [z3]; decide)]
              by_cases z4 : delay ≤ 25
              · rw [if_pos z4]
                exact h154 _ (by rw [if_pos z3, if_neg (Int32.not_lt.mpr z4)])
              · rw [if_neg z4]
                exact h154 _ (by rw [if_pos z3, if_pos (Int32.not_le.mp z4)])
            · rw [if_neg (show ¬ (2 : Int32) ≤ nI k from nI_ge (b := 2) (by omega) (by decide))]
              exact h154 _ (by rw [if_neg z3])
          · rw [show (if inR p L H g = true ∧ (0 : Int32) = 0 ∧ ft g = 0 then (1 : Int32) else 0) = 0 from if_neg (fun z => z1 z.2.2), if_pos rfl]
            have hw : wyA (fun f => σ1.1 31 (18 + f)) k D ft (inR p L H) y g (σ1.1 31 1) delay = fun f => σ1.1 31 (18 + f) := by
              unfold wyA
              rw [if_neg (fun z => z1 z.1)]
            rw [hw]
            exact go σ1 _ _ _ _ (nU.refl k σ1) hS (fun _ _ => rfl) rfl
        · rw [elF_neg z2, if_pos rfl]
          have hw : wyA (fun f => σ.1 31 (18 + f)) k D ft (inR p L H) y g (σ.1 31 1) delay = fun f => σ.1 31 (18 + f) := by
            unfold wyA
            rw [if_neg (fun z => z2 z.2)]
          rw [hw]
          exact go σ _ _ _ _ (nU.refl k σ) hS (fun _ _ => rfl) rfl
    · rw [if_neg h]
      have hym : y < m := by omega
      simp only [ot_31]
      refine pW.cI (n_isNew (B := B) (X := X) (F := F) (τ := τ) (n := n) (c := c) (s := s) hk hS hym hcl.1 hcl.2.1 hcl.2.2.1 hcl.2.2.2) ?_
      rintro v σ1 ⟨rfl, hv⟩
      have hv := Option.some.inj hv
      injection hv with hv
      subst hv
      have next := ih (y + 1) (by omega)
      by_cases w : inR p L H y = true ∧ ft y = 0
      · rw [show (if inR p L H y = true ∧ (0 : Int32) = 0 ∧ ft y = 0 then (1 : Int32) else 0) = 1 from if_pos ⟨w.1, rfl, w.2⟩, if_neg (by decide)]
        have en : nw ft (inR p L H) (y + 1) = nw ft (inR p L H) y ++ [y] := by
          show (if _ then _ else _) = _
          rw [if_pos w]
        have el : nI (nw ft (inR p L H) y).length + 1 = nI (nw ft (inR p L H) (y + 1)).length := by rw [en, List.length_append, nI_1]; rfl
        have f36 := (hS.2.1 y hym).1.2.2.1
        simp (disch := omega) only [or_31_8, e_mu, nI_add, oln_36, f36, el, nI_1]
        by_cases z2 : ∃ a, a ∈ nw ft (inR p L H) y ∧ D 3 a ≠ 0
        · have z3 : ∃ a, a ∈ nw ft (inR p L H) (y + 1) ∧ D 3 a ≠ 0 := by
            obtain ⟨a, h1, h2⟩ := z2
            exact ⟨a, by rw [en]; exact List.mem_append.mpr (Or.inl h1), h2⟩
          rw [elF_pos z2, if_neg (by decide)]
          rw [elF_pos z3] at next
          exact next
        · rw [elF_neg z2, if_pos rfl]
          by_cases z4 : D 3 y = 0
          · rw [if_pos z4]
            rw [elF_neg (by
              rintro ⟨a, h1, h2⟩
              rw [en] at h1
              rcases List.mem_append.mp h1 with h1 | h1
              · exact z2 ⟨a, h1, h2⟩
              · rw [List.mem_singleton.mp h1] at h2
                exact h2 z4)] at next
            exact next
          · rw [if_neg z4]
            rw [elF_pos ⟨y, by rw [en]; exact List.mem_append.mpr (Or.inr (by simp)), z4⟩] at next
            exact next
      · rw [show (if inR p L H y = true ∧ (0 : Int32) = 0 ∧ ft y = 0 then (1 : Int32) else 0) = 0 from if_neg (fun z => w ⟨z.1, z.2.2⟩), if_pos rfl, nI_1]
        have en : nw ft (inR p L H) (y + 1) = nw ft (inR p L H) y := by
          show (if _ then _ else _) = _
          rw [if_neg w]
        rw [en] at next
        exact next
/-- the reference's acknowledgement that is right -/
theorem n_takes {p g g1 : Nat} {L H : Nat → Int64} (hk : k < 3) (hg : g < m) (hg1 : g1 < m) (delay : Int32) (hS : mS σ k m D ft q lt ga 0) (hga : (if ga < nI g then nI g else ga) = nI g1) (hcl : clM σ p L H) (h0 : σ.2.1 46 0 = lN g) (hgR : inR p L H g = true) (h3 : σ.1 31 21 = -1 ∨ 0 ≤ σ.1 31 21) (h4 : σ.1 31 22 = -1 ∨ 0 ≤ σ.1 31 22) : pW B X τ n c s (f_AckBookModel_takes F X (some (B + 31)) (nI k) delay (o_w B X τ σ n c s)) (fun v σ' => if nw ft (inR p L H) m = [] then v = some (.int 0) ∧ σ' = o_I σ 40 k (nI g1) else v = some (.int (nI (nw ft (inR p L H) m).length)) ∧ nU k σ σ' ∧ (∀ f, f < 5 → σ'.1 31 (18 + f) = wyA (fun f => σ.1 31 (18 + f)) k D ft (inR p L H) m g (σ.1 31 1) delay f) ∧ σ'.1 31 23 = 0 ∧ mS σ' k m D (lsN (D 2) g1 (σ.1 31 1) (limV (wyA (fun f => σ.1 31 (18 + f)) k D ft (inR p L H) m g (σ.1 31 1) delay 0) (wyA (fun f => σ.1 31 (18 + f)) k D ft (inR p L H) m g (σ.1 31 1) delay 2)) (fy ft (inR p L H) m)).1 (fun b => if b = 0 then q 0 ++ nw ft (inR p L H) m else q 1 ++ (lsN (D 2) g1 (σ.1 31 1) (limV (wyA (fun f => σ.1 31 (18 + f)) k D ft (inR p L H) m g (σ.1 31 1) delay 0) (wyA (fun f => σ.1 31 (18 + f)) k D ft (inR p L H) m g (σ.1 31 1) delay 2)) (fy ft (inR p L H) m)).2.1) (lsN (D 2) g1 (σ.1 31 1) (limV (wyA (fun f => σ.1 31 (18 + f)) k D ft (inR p L H) m g (σ.1 31 1) delay 0) (wyA (fun f => σ.1 31 (18 + f)) k D ft (inR p L H) m g (σ.1 31 1) delay 2)) (fy ft (inR p L H) m)).2.2 (nI g1) 0) := by
  have e0 : ∀ K : Int64 → zR, z_ldL (o_w B X τ σ n c s) (some (B + 46)) 0 K = K (lN g) := fun K => by
    rw [← h0]
    exact oln_46 (i := 0) (by decide) K
  have h40 : σ.1 40 k = ga := hS.2.2.2.2
  have eg : (if ga ≤ nI g then nI g else ga) = nI g1 := by
    rw [← hga]
    by_cases w : ga < nI g
    · rw [if_pos w, if_pos (Int32.le_of_lt w)]
    · rw [if_neg w]
      by_cases w2 : ga ≤ nI g
      · rw [if_pos w2]
        exact Int32.le_antisymm (Int32.not_lt.mp w) w2
      · rw [if_neg w2]
  have hS1 := hS.ga40 hk (nI g1)
  have hU1 : nU k σ (o_I σ 40 k (nI g1)) := ⟨rfl, fun o f _ _ _ p4 _ => by rw [i11, if_neg (fun w => p4 ⟨Or.inl w.1, w.2⟩)]⟩
  have k31 : ∀ f, (o_I σ 40 k (nI g1)).1 31 f = σ.1 31 f := fun f => by rw [i11, if_neg (by omega)]
  have start := n_take1 (B := B) (X := X) (F := F) (τ := τ) (n := n) (c := c) (s := s) (p := p) (g := g) (g1 := g1) (L := L) (H := H) hk (by omega) hg delay hS1 (hcl.u hk hU1) hgR (by rw [k31]; exact h3) (by rw [k31]; exact h4) F 0 (Nat.zero_le _)
  have ez : elF D (nw ft (inR p L H) 0) = 0 := elF_neg (by rintro ⟨a, h, -⟩; cases h)
  rw [ez] at start
  simp only [k31] at start
  unfold f_AckBookModel_takes
  simp (disch := omega) only [or_31_29, e0, or_31_12, oln_40, h40, lN_i, s_greater, y_cI, eg, osn_40]
  refine start.mono ?_
  intro v σ' hq
  by_cases hl : nw ft (inR p L H) m = []
  · simp only [if_pos hl] at hq ⊢
    exact hq
  · simp only [if_neg hl] at hq ⊢
    exact ⟨hq.1, hU1.trans hq.2.1, hq.2.2⟩
end ED
