section EC
variable {B X F : Nat} {τ : zK} {n c s : Nat} {σ σ' : zS} {k m i : Nat} {D : Nat → Nat → Int32} {ft : Nat → Int32} {q : Nat → List Nat} {lt ga ds : Int32}
theorem e_ng (x : Int32) : (0 : Int32) - x = -x := by simp
theorem e_ngm {x : Int32} (h : x = -1 ∨ 0 ≤ x) : (x < 0) = (x = -1) := by
  refine propext ⟨fun z => h.resolve_right (Int32.not_le.mpr z), fun z => by rw [z]; decide⟩
/-- the reference's sample -/
theorem n_sample (r d : Int32) (h3 : σ.1 31 21 = -1 ∨ 0 ≤ σ.1 31 21) (h4 : σ.1 31 22 = -1 ∨ 0 ≤ σ.1 31 22) : ∃ σ', f_AckBookModel_sample F X (some (B + 31)) r d (o_w B X τ σ n c s) = some (.inl none, o_w B X τ σ' n c s) ∧ σ'.2 = σ.2 ∧ (∀ o f, ¬ (o = 31 ∧ 18 ≤ f ∧ f ≤ 22) → σ'.1 o f = σ.1 o f) ∧ ∀ f, f < 5 → σ'.1 31 (18 + f) = wyT (fun f => σ.1 31 (18 + f)) r d (σ.1 31 1) f := by
  have h80 : ∀ (σ1 : zS) (x : Int32), ∃ σ', q_AckBookModel_sample_80 F X (some (B + 31)) x (o_w B X τ σ1 n c s) = some (.inl none, o_w B X τ σ' n c s) ∧ σ'.2 = σ1.2 ∧ (∀ o f, ¬ (o = 31 ∧ 18 ≤ f ∧ f ≤ 19) → σ'.1 o f = σ1.1 o f) ∧ σ'.1 31 18 = σ1.1 31 18 + (x - σ1.1 31 18 / 8) ∧ σ'.1 31 19 = σ1.1 31 19 + ((if 0 ≤ σ1.1 31 18 / 8 - x then σ1.1 31 18 / 8 - x else 0 - (σ1.1 31 18 / 8 - x)) - σ1.1 31 19 / 4) := by
    intro σ1 x
    have e18 : ∀ y, (o_I σ1 31 19 y).1 31 18 = σ1.1 31 18 := fun y => by simp [i11]
    have h110 : ∀ y : Int32, ∃ σ', q_AckBookModel_sample_110 F X (some (B + 31)) x (some (B + 31)) (σ1.1 31 19) y (o_w B X τ σ1 n c s) = some (.inl none, o_w B X τ σ' n c s) ∧ σ'.2 = σ1.2 ∧ (∀ o f, ¬ (o = 31 ∧ 18 ≤ f ∧ f ≤ 19) → σ'.1 o f = σ1.1 o f) ∧ σ'.1 31 18 = σ1.1 31 18 + (x - σ1.1 31 18 / 8) ∧ σ'.1 31 19 = σ1.1 31 19 + (y - σ1.1 31 19 / 4) := by
      intro y
      unfold q_AckBookModel_sample_110
      simp only [oi_31_19, op_31_19, oi_31_18, e18, op_31_18]
      exact ⟨_, rfl, rfl, fun o f hf => by rw [i11, if_neg (fun w => hf ⟨w.1, by omega⟩), i11, if_neg (fun w => hf ⟨w.1, by omega⟩)], by rw [i11, if_pos ⟨rfl, rfl⟩], by rw [i11, if_neg (by omega), i11, if_pos ⟨rfl, rfl⟩]⟩
    unfold q_AckBookModel_sample_80
    simp only [oi_31_18, oi_31_19]
    by_cases w : 0 ≤ σ1.1 31 18 / 8 - x
    · simp only [if_pos w]
      exact h110 _
    · simp only [if_neg w, e_ng]
      exact h110 _
  have h29 : ∀ x : Int32, x = (if σ.1 31 21 = -1 then r else (if r < σ.1 31 21 then r else σ.1 31 21)) → ∃ σ', q_AckBookModel_sample_29 F X (some (B + 31)) r d (some (B + 31)) x (o_w B X τ (o_I σ 31 20 r) n c s) = some (.inl none, o_w B X τ σ' n c s) ∧ σ'.2 = σ.2 ∧ (∀ o f, ¬ (o = 31 ∧ 18 ≤ f ∧ f ≤ 22) → σ'.1 o f = σ.1 o f) ∧ ∀ f, f < 5 → σ'.1 31 (18 + f) = wyT (fun f => σ.1 31 (18 + f)) r d (σ.1 31 1) f := by
    intro x hx
    have e4 : (o_I (o_I σ 31 20 r) 31 21 x).1 31 22 = σ.1 31 22 := by simp [i11]
    have e3 : (o_I (o_I σ 31 20 r) 31 21 x).1 31 21 = x := by simp [i11]
    have e0 : (o_I (o_I σ 31 20 r) 31 21 x).1 31 18 = σ.1 31 18 := by simp [i11]
    have e1 : (o_I (o_I σ 31 20 r) 31 21 x).1 31 19 = σ.1 31 19 := by simp [i11]
    have e2 : (o_I (o_I σ 31 20 r) 31 21 x).1 31 20 = r := by simp [i11]
    have e5 : (o_I (o_I σ 31 20 r) 31 21 x).1 31 1 = σ.1 31 1 := by simp [i11]
    have eo : ∀ o f, ¬ (o = 31 ∧ 18 ≤ f ∧ f ≤ 22) → (o_I (o_I σ 31 20 r) 31 21 x).1 o f = σ.1 o f := fun o f hf => by rw [i11, if_neg (fun w => hf ⟨w.1, by omega⟩), i11, if_neg (fun w => hf ⟨w.1, by omega⟩)]
    have e6 : (o_I (o_I σ 31 20 r) 31 21 x).2 = σ.2 := rfl
    unfold q_AckBookModel_sample_29
    simp only [op_31_21, oi_31_22, e4, oi_31_21, e3, oi_31_1, e5, op_31_22, op_31_18, op_31_19]
    generalize o_I (o_I σ 31 20 r) 31 21 x = σ1 at e0 e1 e2 e3 e4 e5 e6 eo
    by_cases w : σ.1 31 22 = -1
    · rw [if_neg (by rw [w]; decide)]
      refine ⟨_, rfl, ?_, fun o f hf => ?_, fun f hf => ?_⟩
      · exact e6
      · rw [i11, if_neg (fun z => hf ⟨z.1, by omega⟩), i11, if_neg (fun z => hf ⟨z.1, by omega⟩), i11, if_neg (fun z => hf ⟨z.1, by omega⟩)]
        exact eo o f hf
      · unfold wyT
        rcases (by omega : f = 0 ∨ f = 1 ∨ f = 2 ∨ f = 3 ∨ f = 4) with rfl | rfl | rfl | rfl | rfl <;> simp [i11, w, hx, e2, e3]
    · rw [if_pos (h4.resolve_left w)]
      have fin : ∀ y : Int32, y = (if r < x + d then r else r - d) → ∃ σ', q_AckBookModel_sample_80 F X (some (B + 31)) y (o_w B X τ σ1 n c s) = some (.inl none, o_w B X τ σ' n c s) ∧ σ'.2 = σ.2 ∧ (∀ o f, ¬ (o = 31 ∧ 18 ≤ f ∧ f ≤ 22) → σ'.1 o f = σ.1 o f) ∧ ∀ f, f < 5 → σ'.1 31 (18 + f) = wyT (fun f => σ.1 31 (18 + f)) r d (σ.1 31 1) f := by
        intro y hy
        obtain ⟨σ2, a1, a2, a3, a4, a5⟩ := h80 σ1 y
        rw [e0] at a4 a5
        rw [e1] at a5
        refine ⟨σ2, a1, a2.trans e6, fun o f hf => (a3 o f (fun z => hf ⟨z.1, by omega⟩)).trans (eo o f hf), fun f hf => ?_⟩
        unfold wyT
        rcases (by omega : f = 0 ∨ f = 1 ∨ f = 2 ∨ f = 3 ∨ f = 4) with rfl | rfl | rfl | rfl | rfl
        · simp only [if_true, if_neg w, ← hx, ← hy]
          exact a4
        · simp only [if_true, if_neg w, ← hx, ← hy]
          exact a5
        · simp only [if_true]
          exact (a3 31 20 (by omega)).trans e2
        · simp only [if_true, ← hx]
          exact (a3 31 21 (by omega)).trans e3
        · simp only [if_true, if_neg w]
          exact (a3 31 22 (by omega)).trans e4
      by_cases w2 : r < x + d
      · rw [if_pos w2]
        exact fin r (by rw [if_pos w2])
      · rw [if_neg w2]
        exact fin (r - d) (by rw [if_neg w2])
  have e3 : (o_I σ 31 20 r).1 31 21 = σ.1 31 21 := by simp [i11]
  unfold f_AckBookModel_sample
  simp only [op_31_20, oi_31_21, e3, q_AckBookModel_sample_21]
  by_cases w : σ.1 31 21 = -1
  · rw [if_pos (by rw [w]; decide)]
    exact h29 r (by rw [if_pos w])
  · rw [if_neg (Int32.not_lt.mpr (h3.resolve_left w))]
    by_cases w2 : σ.1 31 21 ≤ r
    · rw [if_pos w2]
      exact h29 _ (by rw [if_neg w, if_neg (Int32.not_lt.mpr w2)])
    · rw [if_neg w2]
      exact h29 _ (by rw [if_neg w, if_pos (Int32.not_le.mp w2)])
/-- what an acknowledgement may change on the reference's side -/
def nU (k : Nat) (σ σ' : zS) : Prop := σ'.2 = σ.2 ∧ ∀ o f, ¬ (o = 35 ∧ 4096 * k ≤ f ∧ f < 4096 * k + 4096) → ¬ (o = 42 ∧ 4096 * (2 * k) ≤ f ∧ f < 4096 * (2 * k) + 8192) → ¬ (o = 43 ∧ 2 * k ≤ f ∧ f < 2 * k + 2) → ¬ ((o = 40 ∨ o = 41) ∧ f = k) → ¬ (o = 31 ∧ 18 ≤ f ∧ f ≤ 26) → σ'.1 o f = σ.1 o f
theorem nU.refl (k : Nat) (σ : zS) : nU k σ σ := ⟨rfl, fun _ _ _ _ _ _ _ => rfl⟩
theorem nU.trans {a b d : zS} (h1 : nU k a b) (h2 : nU k b d) : nU k a d := ⟨h2.1.trans h1.1, fun o f p1 p2 p3 p4 p5 => (h2.2 o f p1 p2 p3 p4 p5).trans (h1.2 o f p1 p2 p3 p4 p5)⟩
theorem nF.u (h : nF k σ σ') : nU k σ σ' := ⟨h.1, fun o f p1 p2 p3 p4 p5 => h.2 o f p1 p2 p3 p4 (fun w => p5 ⟨w.1, by omega⟩)⟩
theorem mS.f31 (hS : mS σ k m D ft q lt ga ds) (h1 : ∀ o f, o ≠ 31 → σ'.1 o f = σ.1 o f) : mS σ' k m D ft q lt ga ds := by
  obtain ⟨⟨a1, a2, a3⟩, b, d, f1, f2⟩ := hS
  refine ⟨⟨(h1 _ _ (by decide)).trans a1, a2, (h1 _ _ (by decide)).trans a3⟩, fun i hi => ?_, fun b' hb' => ?_, (h1 _ _ (by decide)).trans f1, (h1 _ _ (by decide)).trans f2⟩
  · rw [h1 33 _ (by decide), h1 34 _ (by decide), h1 36 _ (by decide), h1 37 _ (by decide), h1 38 _ (by decide), h1 35 _ (by decide)]
    exact b i hi
  · obtain ⟨h', t, ⟨g1, g2⟩, g3, g4, g5⟩ := d b' hb'
    exact ⟨h', t, ⟨(h1 _ _ (by decide)).trans g1, (h1 _ _ (by decide)).trans g2⟩, g3, g4, fun j x hx => (h1 _ _ (by decide)).trans (g5 j x hx)⟩
theorem mS.ga40 (hS : mS σ k m D ft q lt ga ds) (hk : k < 3) (x : Int32) : mS (o_I σ 40 k x) k m D ft q lt x ds := by
  have e : ∀ o f, o ≠ 40 → (o_I σ 40 k x).1 o f = σ.1 o f := fun o f ho => by rw [i_fun_ne ho]
  obtain ⟨⟨a1, a2, a3⟩, b, d, f1, f2⟩ := hS
  refine ⟨⟨(e _ _ (by decide)).trans a1, a2, (e _ _ (by decide)).trans a3⟩, fun i hi => ?_, fun b' hb' => ?_, (e _ _ (by decide)).trans f1, by rw [i11, if_pos ⟨rfl, rfl⟩]⟩
  · rw [e 33 _ (by decide), e 34 _ (by decide), e 36 _ (by decide), e 37 _ (by decide), e 38 _ (by decide), e 35 _ (by decide)]
    exact b i hi
  · obtain ⟨h', t, ⟨g1, g2⟩, g3, g4, g5⟩ := d b' hb'
    exact ⟨h', t, ⟨(e _ _ (by decide)).trans g1, (e _ _ (by decide)).trans g2⟩, g3, g4, fun j x hx => (e _ _ (by decide)).trans (g5 j x hx)⟩
/-- the claim, on the reference's side -/
def clM (σ : zS) (p : Nat) (L H : Nat → Int64) : Prop := p ≤ 64 ∧ σ.1 31 27 = nI p ∧ (∀ j, j < p → σ.2.1 45 j = L j) ∧ ∀ j, j < p → σ.2.1 46 j = H j
theorem clM.u {p : Nat} {L H : Nat → Int64} (h : clM σ p L H) (hk : k < 3) (hU : nU k σ σ') : clM σ' p L H := ⟨h.1, by rw [hU.2 31 27 (by omega) (by omega) (by omega) (by omega) (by omega)]; exact h.2.1, by rw [hU.1]; exact h.2.2.1, by rw [hU.1]; exact h.2.2.2⟩
/-- the second walk: each new one is found, and the window grows; then the losses -/
theorem n_take2 {p g1 : Nat} {L H : Nat → Int64} (hk : k < 3) (hg1 : g1 ≤ m) (xc x2 x3 x5 : Int32) : ∀ (N y : Nat) (σ : zS), y ≤ m → mS σ k m D (fy ft (inR p L H) y) (fun b => if b = 0 then q 0 ++ nw ft (inR p L H) y else q 1) lt (nI g1) 0 → clM σ p L H → pW B X τ n c s (j_AckBookModel_takes F X N 1 (some (B + 31)) (nI k) x2 x3 xc x5 (nI y) (o_w B X τ σ n c s)) (fun v σ' => v = some (.int xc) ∧ nU k σ σ' ∧ (∀ f, f < 5 → σ'.1 31 (18 + f) = σ.1 31 (18 + f)) ∧ σ'.1 31 23 = 0 ∧ mS σ' k m D (lsN (D 2) g1 (σ.1 31 1) (limV (σ.1 31 18) (σ.1 31 20)) (fy ft (inR p L H) m)).1 (fun b => if b = 0 then q 0 ++ nw ft (inR p L H) m else q 1 ++ (lsN (D 2) g1 (σ.1 31 1) (limV (σ.1 31 18) (σ.1 31 20)) (fy ft (inR p L H) m)).2.1) (lsN (D 2) g1 (σ.1 31 1) (limV (σ.1 31 18) (σ.1 31 20)) (fy ft (inR p L H) m)).2.2 (nI g1) 0) := by
  intro N
  induction N generalizing x2 x3 x5 with
  | zero => exact fun _ _ _ _ _ => pW.none
  | succ N ih =>
    intro y σ hy hS hcl
    have hm := hS.1.2.1
    rw [j_AckBookModel_takes, if_neg (by decide)]
    simp (disch := omega) only [or_31_4, oln_32, hS.1.1, e_le]
    by_cases h : m ≤ y
    · obtain rfl : y = m := by omega
      rw [if_pos h]
      simp only [ot_31]
      refine pW.cV (n_losses (B := B) (X := X) (F := F) (τ := τ) (n := n) (c := c) (s := s) (q := fun b => if b = 0 then q 0 ++ nw ft (inR p L H) y else q 1) hk hS hg1) ?_
      rintro σ1 ⟨z1, z2⟩
      simp only [op_31_23]
      refine pW.ret ⟨rfl, ?_, fun f hf => ?_, by rw [i11, if_pos ⟨rfl, rfl⟩], z2.f31 (fun o f ho => by rw [i_fun_ne ho])⟩
      · refine z1.u.trans ⟨rfl, fun o f p1 p2 p3 p4 p5 => ?_⟩
        rw [i11, if_neg (fun w => p5 ⟨w.1, by omega⟩)]
      · rw [i11, if_neg (by omega)]
        exact z1.2 _ _ (by omega) (by omega) (by omega) (by omega) (by omega)
    · rw [if_neg h]
      have hym : y < m := by omega
      simp only [ot_31]
      refine pW.cI (n_isNew (B := B) (X := X) (F := F) (τ := τ) (n := n) (c := c) (s := s) hk hS hym hcl.1 hcl.2.1 hcl.2.2.1 hcl.2.2.2) ?_
      rintro v σ1 ⟨rfl, hv⟩
      have hv := Option.some.inj hv
      injection hv with hv
      subst hv
      have ef : fy ft (inR p L H) y y = ft y := fy_at (Nat.le_refl _)
      by_cases w : inR p L H y = true ∧ ft y = 0
      · rw [show (if inR p L H y = true ∧ (0 : Int32) = 0 ∧ fy ft (inR p L H) y y = 0 then (1 : Int32) else 0) = 1 from if_pos ⟨w.1, rfl, ef.trans w.2⟩, if_neg (by decide)]
        obtain ⟨σ2, a1, a2, a3⟩ := n_find (B := B) (X := X) (F := F) (τ := τ) (n := n) (c := c) (s := s) (b := 0) hk (by decide) hS hym (ef.trans w.2)
        have a1 : f_AckBookModel_find F X (some (B + 31)) (nI k) (nI y) 1 (o_w B X τ σ1 n c s) = _ := a1
        simp only [a1, y_cV, ot_31]
        refine pW.cV (hl_f_AckBookModel_grow _ σ2) ?_
        rintro σ3 g3
        have en : nw ft (inR p L H) (y + 1) = nw ft (inR p L H) y ++ [y] := by
          show (if _ then _ else _) = _
          rw [if_pos w]
        have a4 : mS σ3 k m D (fy ft (inR p L H) (y + 1)) (fun b => if b = 0 then q 0 ++ nw ft (inR p L H) (y + 1) else q 1) lt (nI g1) 0 := by
          rw [fy_step w.1 w.2, en]
          have z := g3.ms a3
          refine ⟨z.1, z.2.1, fun b hb => ?_, z.2.2.2⟩
          have y' := z.2.2.1 b hb
          rcases (by omega : b = 0 ∨ b = 1) with rfl | rfl
          · have y' : qM σ3 (2 * k + 0) ((q 0 ++ nw ft (inR p L H) y) ++ [y]) (cn (nI (0 + 1)) (rU (fy ft (inR p L H) y) y (nI (0 + 1))) m) := y'
            rw [List.append_assoc] at y'
            exact y'
          · exact y'
        have hF : nF k σ1 σ3 := a2.trans g3.nf
        rw [nI_1]
        refine (ih 0 0 0 (y + 1) σ3 (by omega) a4 (hcl.u hk hF.u)).mono ?_
        rintro v σ4 ⟨b1, b2, b3, b4, b5⟩
        have k31 : ∀ f, f ≤ 23 → σ3.1 31 f = σ1.1 31 f := fun f hf => hF.2 31 f (by omega) (by omega) (by omega) (by omega) (by omega)
        rw [k31 1 (by omega), k31 18 (by omega), k31 20 (by omega)] at b5
        exact ⟨b1, hF.u.trans b2, fun f hf => (b3 f hf).trans (k31 (18 + f) (by omega)), b4, b5⟩
      · rw [show (if inR p L H y = true ∧ (0 : Int32) = 0 ∧ fy ft (inR p L H) y y = 0 then (1 : Int32) else 0) = 0 from if_neg (fun z => w ⟨z.1, ef.symm.trans z.2.2⟩), if_pos rfl, nI_1]
        have en : nw ft (inR p L H) (y + 1) = nw ft (inR p L H) y := by
          show (if _ then _ else _) = _
          rw [if_neg w]
        have ey : fy ft (inR p L H) (y + 1) = fy ft (inR p L H) y := by
          by_cases z : ft y = 0
          · exact fy_skip (by omega) (fun a h1 h2 h3 => by
              have : a = y := by omega
              subst this
              exact w ⟨h3, z⟩)
          · exact fy_keep z
        refine ih 0 0 0 (y + 1) σ1 (by omega) ?_ hcl
        rw [en, ey]
        exact hS
end EC
