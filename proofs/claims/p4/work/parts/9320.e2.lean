section EB
variable {B X F : Nat} {τ : zK} {n c s : Nat} {σ σ' : zS} {k m i : Nat} {D : Nat → Nat → Int32} {ft : Nat → Int32} {q : Nat → List Nat} {lt ga ds : Int32}
theorem n_isOut (hk : k < 3) (hS : mS σ k m D ft q lt ga ds) (hi : i < m) : f_AckBookModel_isOut F X (some (B + 31)) (nI k) (nI i) (o_w B X τ σ n c s) = some (.inl (some (.int (if ds = 0 ∧ ft i = 0 then 1 else 0))), o_w B X τ σ n c s) := by
  obtain ⟨⟨a1, a2, a3⟩, hD, -⟩ := hS
  unfold f_AckBookModel_isOut
  simp (disch := omega) only [or_31_11, oln_39, a3, or_31_7, e_mu, nI_add, oln_35, (hD i hi).2]
  by_cases h : ds = 0
  · rw [if_pos h]
    by_cases h2 : ft i = 0
    · rw [if_pos h2, if_pos ⟨h, h2⟩]
    · rw [if_neg h2, if_neg (fun z => h2 z.2)]
  · rw [if_neg h, if_neg (fun z => h z.1)]
theorem n_isNewJ {p : Nat} {L H : Nat → Int64} (hk : k < 3) (hS : mS σ k m D ft q lt ga ds) (hi : i < m) (hp : p ≤ 64) (h27 : σ.1 31 27 = nI p) (hL : ∀ j, j < p → σ.2.1 45 j = L j) (hH : ∀ j, j < p → σ.2.1 46 j = H j) : ∀ (N x : Nat) (b : Bool), x ≤ p → pW B X τ n c s (j_AckBookModel_isNew F X N (some (B + 31)) (nI k) (nI i) (if b then 1 else 0) (nI x) (o_w B X τ σ n c s)) (fun v σ' => σ' = σ ∧ ∃ r : Bool, v = some (.int (if r = true ∧ ds = 0 ∧ ft i = 0 then 1 else 0)) ∧ (r = true ↔ (b = true ∨ ∃ j, x ≤ j ∧ j < p ∧ (L j).toInt ≤ (i : Int) ∧ (i : Int) ≤ (H j).toInt))) := by
  have hm := hS.1.2.1
  intro N
  induction N with
  | zero => exact fun _ _ _ => pW.none
  | succ N ih =>
    intro x b hx
    rw [j_AckBookModel_isNew]
    simp (disch := omega) only [oi_31_27, h27, e_le]
    by_cases h : p ≤ x
    · rw [if_pos h]
      cases b with
      | false =>
        rw [if_pos (by rfl)]
        refine pW.ret ⟨rfl, false, by rw [if_neg (fun z => absurd z.1 (by decide))], ⟨fun z => absurd z (by decide), ?_⟩⟩
        rintro (z | ⟨j, z1, z2, -⟩)
        · cases z
        · omega
      | true =>
        rw [if_neg (by decide)]
        simp only [ot_31, n_isOut hk hS hi, y_cI]
        by_cases w : ds = 0 ∧ ft i = 0
        · rw [if_pos w, if_neg (by decide)]
          exact pW.ret ⟨rfl, true, by rw [if_pos ⟨rfl, w⟩], ⟨fun _ => Or.inl trivial, fun _ => rfl⟩⟩
        · rw [if_neg w, if_pos rfl]
          exact pW.ret ⟨rfl, true, by rw [if_neg (fun z => w z.2)], ⟨fun _ => Or.inl trivial, fun _ => rfl⟩⟩
    · rw [if_neg h]
      have go : ∀ b' : Bool, ((b' = true ∨ ∃ j, x + 1 ≤ j ∧ j < p ∧ (L j).toInt ≤ (i : Int) ∧ (i : Int) ≤ (H j).toInt) ↔ (b = true ∨ ∃ j, x ≤ j ∧ j < p ∧ (L j).toInt ≤ (i : Int) ∧ (i : Int) ≤ (H j).toInt)) → pW B X τ n c s (j_AckBookModel_isNew F X N (some (B + 31)) (nI k) (nI i) (if b' then 1 else 0) (nI (x + 1)) (o_w B X τ σ n c s)) (fun v σ' => σ' = σ ∧ ∃ r : Bool, v = some (.int (if r = true ∧ ds = 0 ∧ ft i = 0 then 1 else 0)) ∧ (r = true ↔ (b = true ∨ ∃ j, x ≤ j ∧ j < p ∧ (L j).toInt ≤ (i : Int) ∧ (i : Int) ≤ (H j).toInt))) := fun b' hb' => (ih (x + 1) b' (by omega)).mono fun v σ' ⟨z1, r, z2, z3⟩ => ⟨z1, r, z2, z3.trans hb'⟩
      cases b with
      | true =>
        rw [if_neg (by decide), nI_1]
        exact go true ⟨fun _ => Or.inl rfl, fun _ => Or.inl rfl⟩
      | false =>
        rw [if_pos (by rfl)]
        have ei := lN_toInt (n := i) (by omega)
        simp (disch := omega) only [or_31_28, oln_45, hL x (show x < p by omega), or_31_29, oln_46, hH x (show x < p by omega), nI_l (show i < 2 ^ 31 by omega), lg_cmp_lt, lg_cmp_gt, nI_1]
        refine pW.ite (fun h1 => ?_) (fun h1 => pW.ite (fun h2 => ?_) (fun h2 => ?_))
        · rw [Int64.lt_iff_toInt_lt, ei] at h1
          refine go false ⟨?_, ?_⟩
          · rintro (z | ⟨j, z1, z2⟩)
            · cases z
            · exact Or.inr ⟨j, by omega, z2⟩
          · rintro (z | ⟨j, z1, z2, z3, z4⟩)
            · cases z
            · by_cases w : j = x
              · subst w; omega
              · exact Or.inr ⟨j, by omega, z2, z3, z4⟩
        · rw [Int64.lt_iff_toInt_lt, ei] at h2
          refine go false ⟨?_, ?_⟩
          · rintro (z | ⟨j, z1, z2⟩)
            · cases z
            · exact Or.inr ⟨j, by omega, z2⟩
          · rintro (z | ⟨j, z1, z2, z3, z4⟩)
            · cases z
            · by_cases w : j = x
              · subst w; omega
              · exact Or.inr ⟨j, by omega, z2, z3, z4⟩
        · rw [Int64.lt_iff_toInt_lt, ei] at h1 h2
          exact go true ⟨fun _ => Or.inr ⟨x, Nat.le_refl _, by omega, by omega, by omega⟩, fun _ => Or.inl rfl⟩
theorem n_isNew {p : Nat} {L H : Nat → Int64} (hk : k < 3) (hS : mS σ k m D ft q lt ga ds) (hi : i < m) (hp : p ≤ 64) (h27 : σ.1 31 27 = nI p) (hL : ∀ j, j < p → σ.2.1 45 j = L j) (hH : ∀ j, j < p → σ.2.1 46 j = H j) : pW B X τ n c s (f_AckBookModel_isNew F X (some (B + 31)) (nI k) (nI i) (o_w B X τ σ n c s)) (fun v σ' => σ' = σ ∧ v = some (.int (if inR p L H i = true ∧ ds = 0 ∧ ft i = 0 then 1 else 0))) := by
  unfold f_AckBookModel_isNew
  refine (n_isNewJ (B := B) (X := X) (F := F) (τ := τ) (n := n) (c := c) (s := s) hk hS hi hp h27 hL hH F 0 false (Nat.zero_le _)).mono fun v σ' ⟨z1, r, z2, z3⟩ => ⟨z1, ?_⟩
  have hr : r = inR p L H i := by
    rw [Bool.eq_iff_iff, z3, inR_iff]
    constructor
    · rintro (z | ⟨j, -, z⟩)
      · cases z
      · exact ⟨j, z⟩
    · rintro ⟨j, z⟩
      exact Or.inr ⟨j, Nat.zero_le _, z⟩
  rw [z2, hr]
/-- the reference's own step in the look for losses -/
def lsM (at_ : Nat → Int32) (g : Nat) (now limit : Int32) (x : (Nat → Int32) × List Nat × Int32) (j : Nat) : (Nat → Int32) × List Nat × Int32 :=
  if x.1 j = 0 then (if j + 3 ≤ g ∨ ¬ now < at_ j + limit then (rU x.1 j 2, x.2.1 ++ [j], x.2.2) else (x.1, x.2.1, if x.2.2 < 0 then at_ j + limit else if x.2.2 ≤ at_ j + limit then x.2.2 else at_ j + limit)) else x
theorem mS.lt41 (hS : mS σ k m D ft q lt ga ds) (hk : k < 3) (x : Int32) : mS (o_I σ 41 k x) k m D ft q x ga ds := by
  have e : ∀ o f, o ≠ 41 → (o_I σ 41 k x).1 o f = σ.1 o f := fun o f ho => by rw [i_fun_ne ho]
  obtain ⟨⟨a1, a2, a3⟩, b, d, f1, f2⟩ := hS
  refine ⟨⟨(e _ _ (by decide)).trans a1, a2, (e _ _ (by decide)).trans a3⟩, fun i hi => ?_, fun b' hb' => ?_, by rw [i11, if_pos ⟨rfl, rfl⟩], (e _ _ (by decide)).trans f2⟩
  · rw [e 33 _ (by decide), e 34 _ (by decide), e 36 _ (by decide), e 37 _ (by decide), e 38 _ (by decide), e 35 _ (by decide)]
    exact b i hi
  · obtain ⟨h', t, ⟨g1, g2⟩, g3, g4, g5⟩ := d b' hb'
    exact ⟨h', t, ⟨(e _ _ (by decide)).trans g1, (e _ _ (by decide)).trans g2⟩, g3, g4, fun j x hx => (e _ _ (by decide)).trans (g5 j x hx)⟩
theorem n_lossJ {g : Nat} {now limit : Int32} (hk : k < 3) (hgm : g ≤ m) (x2 : Int32) : ∀ (N i : Nat) (σ : zS) (ft : Nat → Int32) (l : List Nat) (lt x6 : Int32), i ≤ g → mS σ k m D ft (fun b => if b = 0 then q 0 else q 1 ++ l) lt (nI g) 0 → σ.1 31 1 = now → pW B X τ n c s (j_AckBookModel_losses F X N 0 (some (B + 31)) (nI k) x2 limit (nI i) x6 (o_w B X τ σ n c s)) (fun v σ' => nF k σ σ' ∧ mS σ' k m D ((List.range' i (g - i)).foldl (lsM (D 2) g now limit) (ft, l, lt)).1 (fun b => if b = 0 then q 0 else q 1 ++ ((List.range' i (g - i)).foldl (lsM (D 2) g now limit) (ft, l, lt)).2.1) ((List.range' i (g - i)).foldl (lsM (D 2) g now limit) (ft, l, lt)).2.2 (nI g) 0) := by
  intro N
  induction N with
  | zero => exact fun _ _ _ _ _ _ _ _ _ => pW.none
  | succ N ih =>
    intro i σ ft l lt x6 hi hS hnow
    have hm := hS.1.2.1
    have h40 : σ.1 40 k = nI g := hS.2.2.2.2
    have h41 : σ.1 41 k = lt := hS.2.2.2.1
    rw [j_AckBookModel_losses, if_pos rfl]
    simp (disch := omega) only [or_31_12, oln_40, h40, e_le]
    by_cases h : g ≤ i
    · rw [if_pos h, show g - i = 0 by omega]
      exact (hl_losses2 _ _ _ _ _ _ σ).mono fun v σ' g2 => ⟨g2.nf, g2.ms hS⟩
    · rw [if_neg h]
      have him : i < m := by omega
      have hfold : (List.range' i (g - i)).foldl (lsM (D 2) g now limit) (ft, l, lt) = (List.range' (i + 1) (g - (i + 1))).foldl (lsM (D 2) g now limit) (lsM (D 2) g now limit (ft, l, lt) i) := by
        rw [show g - i = (g - (i + 1)) + 1 by omega, List.range'_succ, List.foldl_cons]
      rw [hfold]
      simp only [ot_31, n_isOut hk hS him, y_cI, true_and]
      have pass : ∀ (σ1 : zS) (lt1 : Int32), nF k σ σ1 → mS σ1 k m D ft (fun b => if b = 0 then q 0 else q 1 ++ l) lt1 (nI g) 0 → lsM (D 2) g now limit (ft, l, lt) i = (ft, l, lt1) → pW B X τ n c s (j_AckBookModel_losses F X N 0 (some (B + 31)) (nI k) x2 limit (nI (i + 1)) 0 (o_w B X τ σ1 n c s)) (fun v σ' => nF k σ σ' ∧ mS σ' k m D ((List.range' (i + 1) (g - (i + 1))).foldl (lsM (D 2) g now limit) (lsM (D 2) g now limit (ft, l, lt) i)).1 (fun b => if b = 0 then q 0 else q 1 ++ ((List.range' (i + 1) (g - (i + 1))).foldl (lsM (D 2) g now limit) (lsM (D 2) g now limit (ft, l, lt) i)).2.1) ((List.range' (i + 1) (g - (i + 1))).foldl (lsM (D 2) g now limit) (lsM (D 2) g now limit (ft, l, lt) i)).2.2 (nI g) 0) := by
        intro σ1 lt1 w1 w2 w3
        rw [w3]
        refine (ih (i + 1) σ1 ft l lt1 0 (by omega) w2 ?_).mono fun v σ' ⟨z1, z2⟩ => ⟨w1.trans z1, z2⟩
        rw [w1.2 31 1 (by omega) (by omega) (by omega) (by omega) (by omega)]
        exact hnow
      by_cases w1 : ft i = 0
      · rw [if_pos w1, if_neg (show ¬ (1 : Int32) = 0 by decide)]
        have f34 := (hS.2.1 i him).1.2.1
        simp (disch := omega) only [or_31_6, e_mu, nI_add, oln_34, f34, or_31_12, oln_40, h40, e_g3 (show g ≤ 4096 by omega) (show i < g by omega), oi_31_1, hnow, or_31_13, oln_41, h41, osn_41, nI_1]
        have found : (i + 3 ≤ g ∨ ¬ now < D 2 i + limit) → pW B X τ n c s (q_AckBookModel_losses_89 F X (j_AckBookModel_losses F X N) (some (B + 31)) (nI k) x2 limit (nI i) (o_w B X τ σ n c s)) (fun v σ' => nF k σ σ' ∧ mS σ' k m D ((List.range' (i + 1) (g - (i + 1))).foldl (lsM (D 2) g now limit) (lsM (D 2) g now limit (ft, l, lt) i)).1 (fun b => if b = 0 then q 0 else q 1 ++ ((List.range' (i + 1) (g - (i + 1))).foldl (lsM (D 2) g now limit) (lsM (D 2) g now limit (ft, l, lt) i)).2.1) ((List.range' (i + 1) (g - (i + 1))).foldl (lsM (D 2) g now limit) (lsM (D 2) g now limit (ft, l, lt) i)).2.2 (nI g) 0) := by
          intro w2
          obtain ⟨σ1, a1, a2, a3⟩ := n_find (B := B) (X := X) (F := F) (τ := τ) (n := n) (c := c) (s := s) (b := 1) hk (by decide) hS him w1
          have a1 : f_AckBookModel_find F X (some (B + 31)) (nI k) (nI i) 2 (o_w B X τ σ n c s) = _ := a1
          have eq : lsM (D 2) g now limit (ft, l, lt) i = (rU ft i 2, l ++ [i], lt) := by
            unfold lsM
            rw [if_pos w1, if_pos w2]
          rw [eq]
          unfold q_AckBookModel_losses_89
          simp only [ot_31, a1, y_cV, nI_1]
          have a3 : mS σ1 k m D (rU ft i 2) (fun b => if b = 0 then q 0 else q 1 ++ (l ++ [i])) lt (nI g) 0 := by
            refine ⟨a3.1, a3.2.1, fun b hb => ?_, a3.2.2.2⟩
            have z := a3.2.2.1 b hb
            rcases (by omega : b = 0 ∨ b = 1) with rfl | rfl
            · exact z
            · have z : qM σ1 (2 * k + 1) ((q 1 ++ l) ++ [i]) (cn (nI (1 + 1)) (rU ft i (nI (1 + 1))) m) := z
              rw [List.append_assoc] at z
              exact z
          refine (ih (i + 1) σ1 (rU ft i 2) (l ++ [i]) lt 0 (by omega) a3 ?_).mono fun v σ' ⟨z1, z2⟩ => ⟨a2.trans z1, z2⟩
          rw [a2.2 31 1 (by omega) (by omega) (by omega) (by omega) (by omega)]
          exact hnow
        by_cases w2 : i + 3 ≤ g
        · rw [if_pos w2]
          exact found (Or.inl w2)
        · rw [if_neg w2]
          by_cases w3 : now < D 2 i + limit
          · rw [if_pos w3]
            have eq : lsM (D 2) g now limit (ft, l, lt) i = (ft, l, if lt < 0 then D 2 i + limit else if lt ≤ D 2 i + limit then lt else D 2 i + limit) := by
              unfold lsM
              rw [if_pos w1, if_neg (by rintro (z | z); exact w2 z; exact z w3)]
            have hF41 : ∀ x, nF k σ (o_I σ 41 k x) := fun x => nF.I (o := 41) (f := k) (Or.inr (Or.inr (Or.inr (Or.inl ⟨Or.inr rfl, rfl⟩))))
            by_cases w4 : lt < 0
            · rw [if_pos w4]
              rw [if_pos w4] at eq
              exact pass _ _ (hF41 _) (hS.lt41 hk _) eq
            · rw [if_neg w4]
              rw [if_neg w4] at eq
              by_cases w5 : lt ≤ D 2 i + limit
              · rw [if_pos w5]
                rw [if_pos w5] at eq
                exact pass _ _ (hF41 _) (hS.lt41 hk _) eq
              · rw [if_neg w5]
                rw [if_neg w5] at eq
                exact pass _ _ (hF41 _) (hS.lt41 hk _) eq
          · rw [if_neg w3]
            exact found (Or.inr w3)
      · rw [if_neg w1, if_pos rfl, nI_1]
        refine pass σ lt (nF.refl k σ) hS ?_
        unfold lsM
        rw [if_neg w1]
def lsN (at_ : Nat → Int32) (g : Nat) (now limit : Int32) (ft : Nat → Int32) : (Nat → Int32) × List Nat × Int32 := (List.range' 0 g).foldl (lsM at_ g now limit) (ft, [], -1)
theorem n_losses {g : Nat} (hk : k < 3) (hS : mS σ k m D ft q lt (nI g) 0) (hgm : g ≤ m) : pW B X τ n c s (f_AckBookModel_losses F X (some (B + 31)) (nI k) (o_w B X τ σ n c s)) (fun v σ' => nF k σ σ' ∧ mS σ' k m D (lsN (D 2) g (σ.1 31 1) (limV (σ.1 31 18) (σ.1 31 20)) ft).1 (fun b => if b = 0 then q 0 else q 1 ++ (lsN (D 2) g (σ.1 31 1) (limV (σ.1 31 18) (σ.1 31 20)) ft).2.1) (lsN (D 2) g (σ.1 31 1) (limV (σ.1 31 18) (σ.1 31 20)) ft).2.2 (nI g) 0) := by
  obtain ⟨h', t, ⟨g1, g2⟩, -⟩ := hS.2.2.1 1 (by decide)
  have em : nI (2 * k) + 1 = nI (2 * k + 1) := nI_1 (2 * k)
  have e1 : (o_I σ 41 k (-1)).1 31 1 = σ.1 31 1 := by rw [i11, if_neg (by omega)]
  unfold f_AckBookModel_losses lsN
  simp (disch := omega) only [or_31_16, e_m2, em, oln_43, g2, ot_31, s_limit, limV_eq, y_cI, or_31_13, osn_41]
  have hq : mS (o_I σ 41 k (-1)) k m D ft (fun b => if b = 0 then q 0 else q 1 ++ []) (-1) (nI g) 0 := by
    have z := hS.lt41 hk (-1)
    refine ⟨z.1, z.2.1, fun b hb => ?_, z.2.2.2⟩
    have y := z.2.2.1 b hb
    rcases (by omega : b = 0 ∨ b = 1) with rfl | rfl
    · exact y
    · show qM _ (2 * k + 1) (q 1 ++ []) _
      rw [List.append_nil]
      exact y
  refine (n_lossJ (B := B) (X := X) (F := F) (τ := τ) (n := n) (c := c) (s := s) (now := σ.1 31 1) (limit := limV (σ.1 31 18) (σ.1 31 20)) hk hgm _ F 0 _ ft [] (-1) 0 (Nat.zero_le _) hq e1).mono fun v σ' ⟨z1, z2⟩ => ⟨(nF.I (o := 41) (f := k) (Or.inr (Or.inr (Or.inr (Or.inl ⟨Or.inr rfl, rfl⟩))))).trans z1, z2⟩
end EB
