/-! The reference's acknowledgement and losses, with the window. -/
section KF
variable {B X F : Nat} {τ : zK} {n c s : Nat} {σ σ' : zS} {k m i : Nat} {D : Nat → Nat → Int32} {ft : Nat → Int32} {q : Nat → List Nat} {lt ga ds : Int32}
theorem n_findX {b : Nat} (hk : k < 3) (hb : b < 2) (hS : mS σ k m D ft q lt ga ds) (hi : i < m) (h0 : ft i = 0) : ∃ σ', f_AckBookModel_find F X (some (B + 31)) (nI k) (nI i) (nI (b + 1)) (o_w B X τ σ n c s) = some (.inl none, o_w B X τ σ' n c s) ∧ nF k σ σ' ∧ mq σ' = mq σ ∧ mS σ' k m D (rU ft i (nI (b + 1))) (fun b' => if b' = b then q b ++ [i] else q b') lt ga ds := by
  obtain ⟨⟨a1, a2, a3⟩, hD, hQ, f1, f2⟩ := hS
  obtain ⟨h, t, ⟨g1, g2⟩, g3, g4, g5⟩ := hQ b hb
  have hne : ft i ≠ nI (b + 1) := by rw [h0]; exact fun z => nI_ne0 (by omega) (by omega) z.symm
  have hcn := cn_more (ft := ft) (i := i) (x := nI (b + 1)) hne m hi
  have hle := cn_le (nI (b + 1)) (rU ft i (nI (b + 1))) m
  have ht : t < 4096 := by omega
  have el : ∀ x : Nat, nI (2 * k) + nI (b + 1) - 1 = nI (2 * k + b) := fun _ => by rw [nI_add]; exact nI_pred (2 * k + b)
  have v2 : (o_I σ 35 (4096 * k + i) (nI (b + 1))).1 43 (2 * k + b) = nI t := by rw [i11, if_neg (by omega)]; exact g2
  have v3 : (o_I (o_I σ 35 (4096 * k + i) (nI (b + 1))) 42 (4096 * (2 * k + b) + t) (nI i)).1 43 (2 * k + b) = nI t := by rw [i11, if_neg (by omega)]; exact v2
  unfold f_AckBookModel_find
  simp (disch := omega) only [or_31_7, e_mu, nI_add, osn_35, or_31_15, or_31_16, e_m2]
  have el2 : nI (2 * k + (b + 1)) - 1 = nI (2 * k + b) := nI_pred (2 * k + b)
  simp (disch := omega) only [el2, oln_43, v2, e_mu, nI_add, osn_42, or_31_16, v3, nI_1, osn_43]
  have e : ∀ o f, ¬ (o = 35 ∧ f = 4096 * k + i) → ¬ (o = 42 ∧ f = 4096 * (2 * k + b) + t) → ¬ (o = 43 ∧ f = 2 * k + b) → (o_I (o_I (o_I σ 35 (4096 * k + i) (nI (b + 1))) 42 (4096 * (2 * k + b) + t) (nI i)) 43 (2 * k + b) (nI (t + 1))).1 o f = σ.1 o f := fun o f p1 p2 p3 => by rw [i11, if_neg p3, i11, if_neg p2, i11, if_neg p1]
  have e35 : (o_I (o_I (o_I σ 35 (4096 * k + i) (nI (b + 1))) 42 (4096 * (2 * k + b) + t) (nI i)) 43 (2 * k + b) (nI (t + 1))).1 35 (4096 * k + i) = nI (b + 1) := by rw [i11, if_neg (by omega), i11, if_neg (by omega), i11, if_pos ⟨rfl, rfl⟩]
  have e42 : (o_I (o_I (o_I σ 35 (4096 * k + i) (nI (b + 1))) 42 (4096 * (2 * k + b) + t) (nI i)) 43 (2 * k + b) (nI (t + 1))).1 42 (4096 * (2 * k + b) + t) = nI i := by rw [i11, if_neg (by omega), i11, if_pos ⟨rfl, rfl⟩]
  have e43 : (o_I (o_I (o_I σ 35 (4096 * k + i) (nI (b + 1))) 42 (4096 * (2 * k + b) + t) (nI i)) 43 (2 * k + b) (nI (t + 1))).1 43 (2 * k + b) = nI (t + 1) := by rw [i11, if_pos ⟨rfl, rfl⟩]
  have hNF : nF k σ (o_I (o_I (o_I σ 35 (4096 * k + i) (nI (b + 1))) 42 (4096 * (2 * k + b) + t) (nI i)) 43 (2 * k + b) (nI (t + 1))) := ((nF.I (o := 35) (f := 4096 * k + i) (Or.inl ⟨rfl, by omega, by omega⟩)).trans (nF.I (o := 42) (f := 4096 * (2 * k + b) + t) (Or.inr (Or.inl ⟨rfl, by omega, by omega⟩)))).trans (nF.I (o := 43) (f := 2 * k + b) (Or.inr (Or.inr (Or.inl ⟨rfl, by omega, by omega⟩))))
  refine ⟨_, rfl, hNF, by unfold mq; rw [e 31 24 (by omega) (by omega) (by omega), e 31 25 (by omega) (by omega) (by omega), e 31 26 (by omega) (by omega) (by omega)], ?_⟩
  generalize o_I (o_I (o_I σ 35 (4096 * k + i) (nI (b + 1))) 42 (4096 * (2 * k + b) + t) (nI i)) 43 (2 * k + b) (nI (t + 1)) = σ3 at e e35 e42 e43
  refine ⟨⟨by rw [e _ _ (by omega) (by omega) (by omega)]; exact a1, a2, by rw [e _ _ (by omega) (by omega) (by omega)]; exact a3⟩, fun j hj => ⟨?_, ?_⟩, fun b' hb' => ?_, by rw [e _ _ (by omega) (by omega) (by omega)]; exact f1, by rw [e _ _ (by omega) (by omega) (by omega)]; exact f2⟩
  · rw [e 33 _ (by omega) (by omega) (by omega), e 34 _ (by omega) (by omega) (by omega), e 36 _ (by omega) (by omega) (by omega), e 37 _ (by omega) (by omega) (by omega), e 38 _ (by omega) (by omega) (by omega)]
    exact (hD j hj).1
  · unfold rU
    by_cases w : j = i
    · rw [if_pos w, w]; exact e35
    · rw [if_neg w, e 35 _ (by omega) (by omega) (by omega)]
      exact (hD j hj).2
  · by_cases w : b' = b
    · subst w
      simp only [if_true]
      refine ⟨h, t + 1, ⟨by rw [e 44 _ (by omega) (by omega) (by omega)]; exact g1, e43⟩, by rw [List.length_append]; simp only [List.length_cons, List.length_nil]; omega, by omega, fun j x hx => ?_⟩
      rcases Nat.lt_or_ge j (q b').length with z | z
      · rw [List.getElem?_append_left z] at hx
        rw [e 42 _ (by omega) (by omega) (by omega)]
        exact g5 j x hx
      · rw [List.getElem?_append_right z] at hx
        have z2 : j - (q b').length = 0 := by
          rcases Nat.eq_zero_or_pos (j - (q b').length) with z2 | z2
          · exact z2
          · rw [List.getElem?_eq_none (by simp only [List.length_cons, List.length_nil]; omega)] at hx
            cases hx
        rw [z2] at hx
        have hx : some i = some x := hx
        injection hx with hx
        subst hx
        rw [show h + j = t by omega]
        exact e42
    · simp only [if_neg w]
      obtain ⟨h', t', ⟨k1, k2⟩, k3, k4, k5⟩ := hQ b' hb'
      have hc2 : cn (nI (b' + 1)) (rU ft i (nI (b + 1))) m = cn (nI (b' + 1)) ft m := cn_same (fun z => w (by have := (nI_eq (by omega) (by omega)).mp z; omega)) (by rw [h0]; exact fun z => nI_ne0 (by omega) (by omega) z.symm) m
      have hle2 := cn_le (nI (b' + 1)) ft m
      refine ⟨h', t', ⟨by rw [e 44 _ (by omega) (by omega) (by omega)]; exact k1, by rw [e 43 _ (by omega) (by omega) (by omega)]; exact k2⟩, k3, by rw [hc2]; exact k4, fun j x hx => ?_⟩
      have hj : j < (q b').length := (List.getElem?_eq_some_iff.mp hx).1
      rw [e 42 _ (by omega) (by omega) (by omega)]
      exact k5 j x hx
theorem mq41 (x : Int32) : mq (o_I σ 41 k x) = mq σ := by
  unfold mq
  rw [i11, if_neg (by omega), i11, if_neg (by omega), i11, if_neg (by omega)]
/-- the list's place -/
theorem fl2.of {h0 : Nat} {l : List Nat} (hS : mS σ k m D ft (fun b => if b = 0 then q 0 else q 1 ++ l) lt ga ds) (h44 : σ.1 44 (2 * k + 1) = nI h0) (h0m : h0 ≤ 4096) (hl : ∀ a, a ∈ l → a < m ∧ ft a = 2) : fl2 σ k m (h0 + (q 1).length) l := by
  have hm := hS.1.2.1
  obtain ⟨h', t', ⟨g1, g2⟩, g3, g4, g5⟩ := hS.2.2.1 1 (by decide)
  have hc := cn_le (nI (1 + 1)) ft m
  have g3 : t' = h' + (q 1 ++ l).length := g3
  rw [List.length_append] at g3
  have eh : h0 = h' := (nI_eq (by omega) (by omega)).mp (h44.symm.trans g1)
  subst eh
  refine ⟨by rw [g2, g3, Nat.add_assoc], by omega, fun j a hj => ⟨?_, (hl a (List.mem_of_getElem? hj)).1⟩⟩
  have g5 : ∀ j x, (q 1 ++ l)[j]? = some x → σ.1 42 (4096 * (2 * k + 1) + (h0 + j)) = nI x := g5
  have := g5 ((q 1).length + j) a (by rw [List.getElem?_append_right (by omega), show (q 1).length + j - (q 1).length = j by omega]; exact hj)
  rw [Nat.add_assoc]
  exact this
theorem n_lossJX {g h0 : Nat} {now limit : Int32} (hk : k < 3) (hgm : g ≤ m) (h0m : h0 ≤ 4096) : ∀ (N i : Nat) (σ : zS) (ft : Nat → Int32) (l : List Nat) (lt x6 : Int32), i ≤ g → mS σ k m D ft (fun b => if b = 0 then q 0 else q 1 ++ l) lt (nI g) 0 → σ.1 31 1 = now → σ.1 44 (2 * k + 1) = nI h0 → (∀ a, a ∈ l → a < m ∧ ft a = 2) → nn (σ.1 31 22) → nn (mq σ).2.2 → pW B X τ n c s (j_AckBookModel_losses F X N 0 (some (B + 31)) (nI k) (nI (h0 + (q 1).length)) limit (nI i) x6 (o_w B X τ σ n c s)) (fun v σ' => nF k σ σ' ∧ mq σ' = fwX D ((List.range' i (g - i)).foldl (lsM (D 2) g now limit) (ft, l, lt)).1 (fun f => σ.1 31 (18 + f)) now ((List.range' i (g - i)).foldl (lsM (D 2) g now limit) (ft, l, lt)).2.1 (mq σ) ∧ mS σ' k m D ((List.range' i (g - i)).foldl (lsM (D 2) g now limit) (ft, l, lt)).1 (fun b => if b = 0 then q 0 else q 1 ++ ((List.range' i (g - i)).foldl (lsM (D 2) g now limit) (ft, l, lt)).2.1) ((List.range' i (g - i)).foldl (lsM (D 2) g now limit) (ft, l, lt)).2.2 (nI g) 0) := by
  intro N
  induction N with
  | zero => exact fun _ _ _ _ _ _ _ _ _ _ _ _ _ => pW.none
  | succ N ih =>
    intro i σ ft l lt x6 hi hS hnow h44 hl hW4 hr
    have hm := hS.1.2.1
    have h40 : σ.1 40 k = nI g := hS.2.2.2.2
    have h41 : σ.1 41 k = lt := hS.2.2.2.1
    rw [j_AckBookModel_losses, if_pos rfl]
    simp (disch := omega) only [or_31_12, oln_40, h40, e_le]
    by_cases h : g ≤ i
    · rw [if_pos h, show g - i = 0 by omega]
      refine (n_los1 (B := B) (X := X) (F := F) (τ := τ) (n := n) (c := c) (s := s) (t0 := h0 + (q 1).length) (l := l) hk hS (fl2.of hS h44 h0m hl) (fun a ha z => absurd ((hl a ha).2.symm.trans z) (by decide)) hW4 hr hnow N [] l 0 0 rfl (Or.inl rfl) ⟨fun z => absurd z (by decide), fun ⟨a, z, _⟩ => by cases z⟩).mono fun v σ' ⟨_, g2, g3⟩ => ⟨g2.nf, g3, g2.ms hS⟩
    · rw [if_neg h]
      have him : i < m := by omega
      have hfold : (List.range' i (g - i)).foldl (lsM (D 2) g now limit) (ft, l, lt) = (List.range' (i + 1) (g - (i + 1))).foldl (lsM (D 2) g now limit) (lsM (D 2) g now limit (ft, l, lt) i) := by
        rw [show g - i = (g - (i + 1)) + 1 by omega, List.range'_succ, List.foldl_cons]
      rw [hfold]
      simp only [ot_31, n_isOut hk hS him, y_cI, true_and]
      have pass : ∀ (σ1 : zS) (lt1 : Int32), nF k σ σ1 → mq σ1 = mq σ → mS σ1 k m D ft (fun b => if b = 0 then q 0 else q 1 ++ l) lt1 (nI g) 0 → lsM (D 2) g now limit (ft, l, lt) i = (ft, l, lt1) → pW B X τ n c s (j_AckBookModel_losses F X N 0 (some (B + 31)) (nI k) (nI (h0 + (q 1).length)) limit (nI (i + 1)) 0 (o_w B X τ σ1 n c s)) (fun v σ' => nF k σ σ' ∧ mq σ' = fwX D ((List.range' (i + 1) (g - (i + 1))).foldl (lsM (D 2) g now limit) (lsM (D 2) g now limit (ft, l, lt) i)).1 (fun f => σ.1 31 (18 + f)) now ((List.range' (i + 1) (g - (i + 1))).foldl (lsM (D 2) g now limit) (lsM (D 2) g now limit (ft, l, lt) i)).2.1 (mq σ) ∧ mS σ' k m D ((List.range' (i + 1) (g - (i + 1))).foldl (lsM (D 2) g now limit) (lsM (D 2) g now limit (ft, l, lt) i)).1 (fun b => if b = 0 then q 0 else q 1 ++ ((List.range' (i + 1) (g - (i + 1))).foldl (lsM (D 2) g now limit) (lsM (D 2) g now limit (ft, l, lt) i)).2.1) ((List.range' (i + 1) (g - (i + 1))).foldl (lsM (D 2) g now limit) (lsM (D 2) g now limit (ft, l, lt) i)).2.2 (nI g) 0) := by
        intro σ1 lt1 w1 wq w2 w3
        rw [w3]
        have k31 : ∀ f, f ≤ 23 → σ1.1 31 f = σ.1 31 f := fun f hf => w1.2 31 f (by omega) (by omega) (by omega) (by omega) (by omega)
        exact (ih (i + 1) σ1 ft l lt1 0 (by omega) w2 ((k31 1 (by omega)).trans hnow) ((w1.2 44 _ (by omega) (by omega) (by omega) (by omega) (by omega)).trans h44) hl (by rw [k31 22 (by omega)]; exact hW4) (by rw [wq]; exact hr)).mono (fun v σ' ⟨z1, zq, z2⟩ => ⟨w1.trans z1, by rw [zq, fwX_W (fun f hf => k31 (18 + f) (by omega)), wq], z2⟩)
      by_cases w1 : ft i = 0
      · rw [if_pos w1, if_neg (show ¬ (1 : Int32) = 0 by decide)]
        have f34 := (hS.2.1 i him).1.2.1
        simp (disch := omega) only [or_31_6, e_mu, nI_add, oln_34, f34, or_31_12, oln_40, h40, e_g3 (show g ≤ 4096 by omega) (show i < g by omega), oi_31_1, hnow, or_31_13, oln_41, h41, osn_41, nI_1]
        have found : (i + 3 ≤ g ∨ ¬ now < D 2 i + limit) → pW B X τ n c s (q_AckBookModel_losses_89 F X (j_AckBookModel_losses F X N) (some (B + 31)) (nI k) (nI (h0 + (q 1).length)) limit (nI i) (o_w B X τ σ n c s)) (fun v σ' => nF k σ σ' ∧ mq σ' = fwX D ((List.range' (i + 1) (g - (i + 1))).foldl (lsM (D 2) g now limit) (lsM (D 2) g now limit (ft, l, lt) i)).1 (fun f => σ.1 31 (18 + f)) now ((List.range' (i + 1) (g - (i + 1))).foldl (lsM (D 2) g now limit) (lsM (D 2) g now limit (ft, l, lt) i)).2.1 (mq σ) ∧ mS σ' k m D ((List.range' (i + 1) (g - (i + 1))).foldl (lsM (D 2) g now limit) (lsM (D 2) g now limit (ft, l, lt) i)).1 (fun b => if b = 0 then q 0 else q 1 ++ ((List.range' (i + 1) (g - (i + 1))).foldl (lsM (D 2) g now limit) (lsM (D 2) g now limit (ft, l, lt) i)).2.1) ((List.range' (i + 1) (g - (i + 1))).foldl (lsM (D 2) g now limit) (lsM (D 2) g now limit (ft, l, lt) i)).2.2 (nI g) 0) := by
          intro w2
          obtain ⟨σ1, a1, a2, aq, a3⟩ := n_findX (B := B) (X := X) (F := F) (τ := τ) (n := n) (c := c) (s := s) (b := 1) hk (by decide) hS him w1
          have a1 : f_AckBookModel_find F X (some (B + 31)) (nI k) (nI i) 2 (o_w B X τ σ n c s) = _ := a1
          have eq : lsM (D 2) g now limit (ft, l, lt) i = (rU ft i 2, l ++ [i], lt) := by
            unfold lsM
            rw [if_pos w1, if_pos w2]
          rw [eq]
          unfold q_AckBookModel_losses_89
          simp only [ot_31, a1, y_cV, nI_1]
          have a3 : mS σ1 k m D (rU ft i 2) (fun b => if b = 0 then q 0 else q 1 ++ (l ++ [i])) lt (nI g) 0 := by
            refine ⟨a3.1, a3.2.1, fun b hb => ?_, a3.2.2.2⟩
            have z := a3.2.2.1 b hb
            rcases (by omega : b = 0 ∨ b = 1) with rfl | rfl
            · exact z
            · have z : qM σ1 (2 * k + 1) ((q 1 ++ l) ++ [i]) (cn (nI (1 + 1)) (rU ft i (nI (1 + 1))) m) := z
              rw [List.append_assoc] at z
              exact z
          have k31 : ∀ f, f ≤ 23 → σ1.1 31 f = σ.1 31 f := fun f hf => a2.2 31 f (by omega) (by omega) (by omega) (by omega) (by omega)
          refine (ih (i + 1) σ1 (rU ft i 2) (l ++ [i]) lt 0 (by omega) a3 ((k31 1 (by omega)).trans hnow) ((a2.2 44 _ (by omega) (by omega) (by omega) (by omega) (by omega)).trans h44) (fun a ha => ?_) (by rw [k31 22 (by omega)]; exact hW4) (by rw [aq]; exact hr)).mono (fun v σ' ⟨z1, zq, z2⟩ => ⟨a2.trans z1, by rw [zq, fwX_W (fun f hf => k31 (18 + f) (by omega)), aq], z2⟩)
          unfold rU
          by_cases z : a = i
          · rw [if_pos z, z]
            exact ⟨him, rfl⟩
          · rw [if_neg z]
            rcases List.mem_append.mp ha with ha | ha
            · exact hl a ha
            · exact absurd (List.mem_singleton.mp ha) z
        by_cases w2 : i + 3 ≤ g
        · rw [if_pos w2]
          exact found (Or.inl w2)
        · rw [if_neg w2]
          by_cases w3 : now < D 2 i + limit
          · rw [if_pos w3]
            have eq : lsM (D 2) g now limit (ft, l, lt) i = (ft, l, if lt < 0 then D 2 i + limit else if lt ≤ D 2 i + limit then lt else D 2 i + limit) := by
              unfold lsM
              rw [if_pos w1, if_neg (by rintro (z | z); exact w2 z; exact z w3)]
            have hF41 : ∀ x, nF k σ (o_I σ 41 k x) := fun x => nF.I (o := 41) (f := k) (Or.inr (Or.inr (Or.inr (Or.inl ⟨Or.inr rfl, rfl⟩))))
            by_cases w4 : lt < 0
            · rw [if_pos w4]
              rw [if_pos w4] at eq
              exact pass _ _ (hF41 _) (mq41 _) (hS.lt41 hk _) eq
            · rw [if_neg w4]
              rw [if_neg w4] at eq
              by_cases w5 : lt ≤ D 2 i + limit
              · rw [if_pos w5]
                rw [if_pos w5] at eq
                exact pass _ _ (hF41 _) (mq41 _) (hS.lt41 hk _) eq
              · rw [if_neg w5]
                rw [if_neg w5] at eq
                exact pass _ _ (hF41 _) (mq41 _) (hS.lt41 hk _) eq
          · rw [if_neg w3]
            exact found (Or.inr w3)
      · rw [if_neg w1, if_pos rfl, nI_1]
        refine pass σ lt (nF.refl k σ) rfl hS ?_
        unfold lsM
        rw [if_neg w1]
theorem n_lossesX {g : Nat} (hk : k < 3) (hS : mS σ k m D ft q lt (nI g) 0) (hgm : g ≤ m) (hW4 : nn (σ.1 31 22)) (hr : nn (mq σ).2.2) : pW B X τ n c s (f_AckBookModel_losses F X (some (B + 31)) (nI k) (o_w B X τ σ n c s)) (fun v σ' => nF k σ σ' ∧ mq σ' = fwX D (lsN (D 2) g (σ.1 31 1) (limV (σ.1 31 18) (σ.1 31 20)) ft).1 (fun f => σ.1 31 (18 + f)) (σ.1 31 1) (lsN (D 2) g (σ.1 31 1) (limV (σ.1 31 18) (σ.1 31 20)) ft).2.1 (mq σ) ∧ mS σ' k m D (lsN (D 2) g (σ.1 31 1) (limV (σ.1 31 18) (σ.1 31 20)) ft).1 (fun b => if b = 0 then q 0 else q 1 ++ (lsN (D 2) g (σ.1 31 1) (limV (σ.1 31 18) (σ.1 31 20)) ft).2.1) (lsN (D 2) g (σ.1 31 1) (limV (σ.1 31 18) (σ.1 31 20)) ft).2.2 (nI g) 0) := by
  obtain ⟨h', t, ⟨g1, g2⟩, g3, g4, -⟩ := hS.2.2.1 1 (by decide)
  have hm := hS.1.2.1
  have hc := cn_le (nI (1 + 1)) ft m
  rw [g3] at g2
  have k31 : ∀ f, (o_I σ 41 k (-1)).1 31 f = σ.1 31 f := fun f => by rw [i11, if_neg (by omega)]
  have em : nI (2 * k) + 1 = nI (2 * k + 1) := nI_1 (2 * k)
  have e1 : (o_I σ 41 k (-1)).1 31 1 = σ.1 31 1 := by rw [i11, if_neg (by omega)]
  unfold f_AckBookModel_losses lsN
  simp (disch := omega) only [or_31_16, e_m2, em, oln_43, g2, ot_31, s_limit, limV_eq, y_cI, or_31_13, osn_41]
  have hq : mS (o_I σ 41 k (-1)) k m D ft (fun b => if b = 0 then q 0 else q 1 ++ []) (-1) (nI g) 0 := by
    have z := hS.lt41 hk (-1)
    refine ⟨z.1, z.2.1, fun b hb => ?_, z.2.2.2⟩
    have y := z.2.2.1 b hb
    rcases (by omega : b = 0 ∨ b = 1) with rfl | rfl
    · exact y
    · show qM _ (2 * k + 1) (q 1 ++ []) _
      rw [List.append_nil]
      exact y
  refine (n_lossJX (B := B) (X := X) (F := F) (τ := τ) (n := n) (c := c) (s := s) (h0 := h') (now := σ.1 31 1) (limit := limV (σ.1 31 18) (σ.1 31 20)) hk hgm (by omega) F 0 _ ft [] (-1) 0 (Nat.zero_le _) hq e1 (by rw [i11, if_neg (by omega)]; exact g1) (fun a ha => by cases ha) (by rw [k31]; exact hW4) (by rw [mq41]; exact hr)).mono fun v σ' ⟨z1, zq, z2⟩ => ⟨(nF.I (o := 41) (f := k) (Or.inr (Or.inr (Or.inr (Or.inl ⟨Or.inr rfl, rfl⟩))))).trans z1, ?_, z2⟩
  rw [zq, fwX_W (fun f _ => k31 (18 + f)), mq41]
  rfl
theorem nw_pre {inC : Nat → Bool} {y : Nat} : ∀ d : Nat, ∃ l2, nw ft inC (y + d) = nw ft inC y ++ l2
  | 0 => ⟨[], (List.append_nil _).symm⟩
  | d + 1 => by
    obtain ⟨l2, h⟩ := nw_pre (y := y) (inC := inC) d
    by_cases z : inC (y + d) = true ∧ ft (y + d) = 0
    · refine ⟨l2 ++ [y + d], ?_⟩
      show (if inC (y + d) = true ∧ ft (y + d) = 0 then nw ft inC (y + d) ++ [y + d] else nw ft inC (y + d)) = _
      rw [if_pos z, h, List.append_assoc]
    · refine ⟨l2, ?_⟩
      show (if inC (y + d) = true ∧ ft (y + d) = 0 then nw ft inC (y + d) ++ [y + d] else nw ft inC (y + d)) = _
      rw [if_neg z, h]
theorem wyT_nn {w : Nat → Int32} {r d now : Int32} (h : nn (w 4)) (hn : nn now) : nn (wyT w r d now 4) := by
  show nn (if w 4 = -1 then now else w 4)
  by_cases z : w 4 = -1
  · rw [if_pos z]
    exact hn
  · rw [if_neg z]
    exact h
theorem fwA_thrc : ∀ (l : List Nat) (x : Int32 × Int32 × Int32), (l.foldl (fwA D) x).2 = x.2
  | [], _ => rfl
  | a :: l, x => by
    rw [List.foldl_cons, fwA_thrc l]
    unfold fwA
    split <;> rfl
theorem n_take2X {p g1 : Nat} {L H : Nat → Int64} (hk : k < 3) (hg1 : g1 ≤ m) (xc x2 x3 x5 : Int32) {x0 : Int32 × Int32 × Int32} (hr : nn x0.2.2) (ht : nn x0.2.1) (hw : ∀ l1 l2, nw ft (inR p L H) m = l1 ++ l2 → ¬ (l1.foldl (fwA D) x0).1 = 0) : ∀ (N y : Nat) (σ : zS), y ≤ m → mS σ k m D (fy ft (inR p L H) y) (fun b => if b = 0 then q 0 ++ nw ft (inR p L H) y else q 1) lt (nI g1) 0 → clM σ p L H → nn (σ.1 31 22) → mq σ = (nw ft (inR p L H) y).foldl (fwA D) x0 → pW B X τ n c s (j_AckBookModel_takes F X N 1 (some (B + 31)) (nI k) x2 x3 xc x5 (nI y) (o_w B X τ σ n c s)) (fun v σ' => v = some (.int xc) ∧ nU k σ σ' ∧ (∀ f, f < 5 → σ'.1 31 (18 + f) = σ.1 31 (18 + f)) ∧ (σ'.1 31 23 = 0 ∧ mq σ' = fwX D (lsN (D 2) g1 (σ.1 31 1) (limV (σ.1 31 18) (σ.1 31 20)) (fy ft (inR p L H) m)).1 (fun f => σ.1 31 (18 + f)) (σ.1 31 1) (lsN (D 2) g1 (σ.1 31 1) (limV (σ.1 31 18) (σ.1 31 20)) (fy ft (inR p L H) m)).2.1 ((nw ft (inR p L H) m).foldl (fwA D) x0)) ∧ mS σ' k m D (lsN (D 2) g1 (σ.1 31 1) (limV (σ.1 31 18) (σ.1 31 20)) (fy ft (inR p L H) m)).1 (fun b => if b = 0 then q 0 ++ nw ft (inR p L H) m else q 1 ++ (lsN (D 2) g1 (σ.1 31 1) (limV (σ.1 31 18) (σ.1 31 20)) (fy ft (inR p L H) m)).2.1) (lsN (D 2) g1 (σ.1 31 1) (limV (σ.1 31 18) (σ.1 31 20)) (fy ft (inR p L H) m)).2.2 (nI g1) 0) := by
  intro N
  induction N generalizing x2 x3 x5 with
  | zero => exact fun _ _ _ _ _ _ _ => pW.none
  | succ N ih =>
    intro y σ hy hS hcl hW4 hq
    have hr' : nn (mq σ).2.2 := by rw [hq, fwA_thrc]; exact hr
    have ht' : nn (mq σ).2.1 := by rw [hq, fwA_thrc]; exact ht
    have hw' : ¬ (mq σ).1 = 0 := by
      obtain ⟨l2, h2⟩ := nw_pre (ft := ft) (inC := inR p L H) (y := y) (m - y)
      rw [show y + (m - y) = m by omega] at h2
      rw [hq]
      exact hw _ _ h2
    have hm := hS.1.2.1
    rw [j_AckBookModel_takes, if_neg (by decide)]
    simp (disch := omega) only [or_31_4, oln_32, hS.1.1, e_le]
    by_cases h : m ≤ y
    · obtain rfl : y = m := by omega
      rw [if_pos h]
      simp only [ot_31]
      refine pW.cV (n_lossesX (B := B) (X := X) (F := F) (τ := τ) (n := n) (c := c) (s := s) (q := fun b => if b = 0 then q 0 ++ nw ft (inR p L H) y else q 1) hk hS hg1 hW4 hr') ?_
      rintro σ1 ⟨z1, zq, z2⟩
      rw [hq] at zq
      simp only [op_31_23]
      refine pW.ret ⟨rfl, ?_, fun f hf => ?_, ⟨by rw [i11, if_pos ⟨rfl, rfl⟩], by rw [← zq]; unfold mq; rw [i11, if_neg (by omega), i11, if_neg (by omega), i11, if_neg (by omega)]⟩, z2.f31 (fun o f ho => by rw [i_fun_ne ho])⟩
      · refine z1.u.trans ⟨rfl, fun o f p1 p2 p3 p4 p5 => ?_⟩
        rw [i11, if_neg (fun w => p5 ⟨w.1, by omega⟩)]
      · rw [i11, if_neg (by omega)]
        exact z1.2 _ _ (by omega) (by omega) (by omega) (by omega) (by omega)
    · rw [if_neg h]
      have hym : y < m := by omega
      simp only [ot_31]
      refine pW.cI (n_isNew (B := B) (X := X) (F := F) (τ := τ) (n := n) (c := c) (s := s) hk hS hym hcl.1 hcl.2.1 hcl.2.2.1 hcl.2.2.2) ?_
      rintro v σ1 ⟨rfl, hv⟩
      have hv := Option.some.inj hv
      injection hv with hv
      subst hv
      have ef : fy ft (inR p L H) y y = ft y := fy_at (Nat.le_refl _)
      by_cases w : inR p L H y = true ∧ ft y = 0
      · rw [show (if inR p L H y = true ∧ (0 : Int32) = 0 ∧ fy ft (inR p L H) y y = 0 then (1 : Int32) else 0) = 1 from if_pos ⟨w.1, rfl, ef.trans w.2⟩, if_neg (by decide)]
        obtain ⟨σ2, a1, a2, aq, a3⟩ := n_findX (B := B) (X := X) (F := F) (τ := τ) (n := n) (c := c) (s := s) (b := 0) hk (by decide) hS hym (ef.trans w.2)
        have a1 : f_AckBookModel_find F X (some (B + 31)) (nI k) (nI y) 1 (o_w B X τ σ1 n c s) = _ := a1
        obtain ⟨σ3, eg, g3, gq⟩ := n_growX (B := B) (X := X) (F := F) (τ := τ) (n := n) (c := c) (s := s) hk a3 hym (by rw [aq]; exact hr') (by rw [aq]; exact ht') (by rw [aq]; exact hw')
        simp only [a1, y_cV, ot_31, e_mu, nI_add, eg]
        have en : nw ft (inR p L H) (y + 1) = nw ft (inR p L H) y ++ [y] := by
          show (if _ then _ else _) = _
          rw [if_pos w]
        have a4 : mS σ3 k m D (fy ft (inR p L H) (y + 1)) (fun b => if b = 0 then q 0 ++ nw ft (inR p L H) (y + 1) else q 1) lt (nI g1) 0 := by
          rw [fy_step w.1 w.2, en]
          have z := g3.ms a3
          refine ⟨z.1, z.2.1, fun b hb => ?_, z.2.2.2⟩
          have y' := z.2.2.1 b hb
          rcases (by omega : b = 0 ∨ b = 1) with rfl | rfl
          · have y' : qM σ3 (2 * k + 0) ((q 0 ++ nw ft (inR p L H) y) ++ [y]) (cn (nI (0 + 1)) (rU (fy ft (inR p L H) y) y (nI (0 + 1))) m) := y'
            rw [List.append_assoc] at y'
            exact y'
          · exact y'
        have hF : nF k σ1 σ3 := a2.trans g3.nf
        rw [nI_1]
        have k31 : ∀ f, f ≤ 23 → σ3.1 31 f = σ1.1 31 f := fun f hf => hF.2 31 f (by omega) (by omega) (by omega) (by omega) (by omega)
        refine (ih 0 0 0 (y + 1) σ3 (by omega) a4 (hcl.u hk hF.u) (by rw [k31 22 (by omega)]; exact hW4) (by rw [gq, aq, hq, en, List.foldl_append]; rfl)).mono ?_
        rintro v σ4 ⟨b1, b2, b3, ⟨b4, bq⟩, b5⟩
        rw [k31 1 (by omega), k31 18 (by omega), k31 20 (by omega)] at b5 bq
        rw [fwX_W (fun f hf => k31 (18 + f) (by omega))] at bq
        exact ⟨b1, hF.u.trans b2, fun f hf => (b3 f hf).trans (k31 (18 + f) (by omega)), ⟨b4, bq⟩, b5⟩
      · rw [show (if inR p L H y = true ∧ (0 : Int32) = 0 ∧ fy ft (inR p L H) y y = 0 then (1 : Int32) else 0) = 0 from if_neg (fun z => w ⟨z.1, ef.symm.trans z.2.2⟩), if_pos rfl, nI_1]
        have en : nw ft (inR p L H) (y + 1) = nw ft (inR p L H) y := by
          show (if _ then _ else _) = _
          rw [if_neg w]
        have ey : fy ft (inR p L H) (y + 1) = fy ft (inR p L H) y := by
          by_cases z : ft y = 0
          · exact fy_skip (by omega) (fun a h1 h2 h3 => by
              have : a = y := by omega
              subst this
              exact w ⟨h3, z⟩)
          · exact fy_keep z
        refine ih 0 0 0 (y + 1) σ1 (by omega) ?_ hcl hW4 (by rw [en]; exact hq)
        rw [en, ey]
        exact hS
theorem n_take1X {p g g1 : Nat} {L H : Nat → Int64} (hk : k < 3) (hg1 : g1 ≤ m) (hg : g < m) (delay : Int32) (hS : mS σ k m D ft q lt (nI g1) 0) (hcl : clM σ p L H) (hgR : inR p L H g = true) (h3 : σ.1 31 21 = -1 ∨ 0 ≤ σ.1 31 21) (h4 : σ.1 31 22 = -1 ∨ 0 ≤ σ.1 31 22) (hn : nn (σ.1 31 1)) (hr : nn (mq σ).2.2) (ht : nn (mq σ).2.1) (hw : ∀ l1 l2, nw ft (inR p L H) m = l1 ++ l2 → ¬ (l1.foldl (fwA D) (mq σ)).1 = 0) : ∀ (N y : Nat), y ≤ m → pW B X τ n c s (j_AckBookModel_takes F X N 0 (some (B + 31)) (nI k) delay (nI g) (nI (nw ft (inR p L H) y).length) (elF D (nw ft (inR p L H) y)) (nI y) (o_w B X τ σ n c s)) (fun v σ' => if nw ft (inR p L H) m = [] then v = some (.int 0) ∧ σ' = σ else v = some (.int (nI (nw ft (inR p L H) m).length)) ∧ nU k σ σ' ∧ (∀ f, f < 5 → σ'.1 31 (18 + f) = wyA (fun f => σ.1 31 (18 + f)) k D ft (inR p L H) m g (σ.1 31 1) delay f) ∧ (σ'.1 31 23 = 0 ∧ mq σ' = fwX D (lsN (D 2) g1 (σ.1 31 1) (limV (wyA (fun f => σ.1 31 (18 + f)) k D ft (inR p L H) m g (σ.1 31 1) delay 0) (wyA (fun f => σ.1 31 (18 + f)) k D ft (inR p L H) m g (σ.1 31 1) delay 2)) (fy ft (inR p L H) m)).1 (wyA (fun f => σ.1 31 (18 + f)) k D ft (inR p L H) m g (σ.1 31 1) delay) (σ.1 31 1) (lsN (D 2) g1 (σ.1 31 1) (limV (wyA (fun f => σ.1 31 (18 + f)) k D ft (inR p L H) m g (σ.1 31 1) delay 0) (wyA (fun f => σ.1 31 (18 + f)) k D ft (inR p L H) m g (σ.1 31 1) delay 2)) (fy ft (inR p L H) m)).2.1 ((nw ft (inR p L H) m).foldl (fwA D) (mq σ))) ∧ mS σ' k m D (lsN (D 2) g1 (σ.1 31 1) (limV (wyA (fun f => σ.1 31 (18 + f)) k D ft (inR p L H) m g (σ.1 31 1) delay 0) (wyA (fun f => σ.1 31 (18 + f)) k D ft (inR p L H) m g (σ.1 31 1) delay 2)) (fy ft (inR p L H) m)).1 (fun b => if b = 0 then q 0 ++ nw ft (inR p L H) m else q 1 ++ (lsN (D 2) g1 (σ.1 31 1) (limV (wyA (fun f => σ.1 31 (18 + f)) k D ft (inR p L H) m g (σ.1 31 1) delay 0) (wyA (fun f => σ.1 31 (18 + f)) k D ft (inR p L H) m g (σ.1 31 1) delay 2)) (fy ft (inR p L H) m)).2.1) (lsN (D 2) g1 (σ.1 31 1) (limV (wyA (fun f => σ.1 31 (18 + f)) k D ft (inR p L H) m g (σ.1 31 1) delay 0) (wyA (fun f => σ.1 31 (18 + f)) k D ft (inR p L H) m g (σ.1 31 1) delay 2)) (fy ft (inR p L H) m)).2.2 (nI g1) 0) := by
  have hm := hS.1.2.1
  intro N
  induction N with
  | zero => exact fun _ _ => pW.none
  | succ N ih =>
    intro y hy
    rw [j_AckBookModel_takes, if_pos rfl]
    simp (disch := omega) only [or_31_4, oln_32, hS.1.1, e_le]
    by_cases h : m ≤ y
    · obtain rfl : y = m := by omega
      rw [if_pos h]
      have hlen := nw_len (ft := ft) (inC := inR p L H) y
      by_cases hl : nw ft (inR p L H) y = []
      · simp only [if_pos hl]
        rw [if_pos (show nI (nw ft (inR p L H) y).length = 0 by rw [hl]; rfl)]
        exact pW.ret ⟨rfl, rfl⟩
      · simp only [if_neg hl]
        have hpos : 0 < (nw ft (inR p L H) y).length := List.length_pos_iff.mpr hl
        rw [if_neg (nI_ne0 hpos (by omega))]
        have go : ∀ (σ1 : zS) (W : Nat → Int32) (x2 x3 x5 : Int32), nU k σ σ1 → mS σ1 k y D ft q lt (nI g1) 0 → (∀ f, f < 5 → σ1.1 31 (18 + f) = W f) → σ1.1 31 1 = σ.1 31 1 → mq σ1 = mq σ → nn (W 4) → pW B X τ n c s (j_AckBookModel_takes F X N 1 (some (B + 31)) (nI k) x2 x3 (nI (nw ft (inR p L H) y).length) x5 0 (o_w B X τ σ1 n c s)) (fun v σ' => v = some (.int (nI (nw ft (inR p L H) y).length)) ∧ nU k σ σ' ∧ (∀ f, f < 5 → σ'.1 31 (18 + f) = W f) ∧ (σ'.1 31 23 = 0 ∧ mq σ' = fwX D (lsN (D 2) g1 (σ.1 31 1) (limV (W 0) (W 2)) (fy ft (inR p L H) y)).1 W (σ.1 31 1) (lsN (D 2) g1 (σ.1 31 1) (limV (W 0) (W 2)) (fy ft (inR p L H) y)).2.1 ((nw ft (inR p L H) y).foldl (fwA D) (mq σ))) ∧ mS σ' k y D (lsN (D 2) g1 (σ.1 31 1) (limV (W 0) (W 2)) (fy ft (inR p L H) y)).1 (fun b => if b = 0 then q 0 ++ nw ft (inR p L H) y else q 1 ++ (lsN (D 2) g1 (σ.1 31 1) (limV (W 0) (W 2)) (fy ft (inR p L H) y)).2.1) (lsN (D 2) g1 (σ.1 31 1) (limV (W 0) (W 2)) (fy ft (inR p L H) y)).2.2 (nI g1) 0) := by
          intro σ1 W x2 x3 x5 w1 w2 w3 w4 wq wn
          refine (n_take2X (B := B) (X := X) (F := F) (τ := τ) (n := n) (c := c) (s := s) (ft := ft) (q := q) (p := p) (L := L) (H := H) hk hg1 _ x2 x3 x5 (x0 := mq σ) hr ht hw N 0 σ1 (Nat.zero_le _) w2.q0 (hcl.u hk w1) (by rw [show σ1.1 31 22 = W 4 from w3 4 (by omega)]; exact wn) wq).mono ?_
          rintro v σ2 ⟨b1, b2, b3, ⟨b4, bq⟩, b5⟩
          have e0 : σ1.1 31 18 = W 0 := w3 0 (by omega)
          have e2 : σ1.1 31 20 = W 2 := w3 2 (by omega)
          rw [w4, e0, e2] at b5 bq
          rw [fwX_W w3] at bq
          exact ⟨b1, w1.trans b2, fun f hf => (b3 f hf).trans (w3 f hf), ⟨b4, bq⟩, b5⟩
        by_cases z2 : ∃ a, a ∈ nw ft (inR p L H) y ∧ D 3 a ≠ 0
        · rw [elF_pos z2, if_neg (by decide)]
          simp only [ot_31]
          refine pW.cI (n_isNew (B := B) (X := X) (F := F) (τ := τ) (n := n) (c := c) (s := s) hk hS hg hcl.1 hcl.2.1 hcl.2.2.1 hcl.2.2.2) ?_
          rintro v σ1 ⟨rfl, hv⟩
          have hv := Option.some.inj hv
          injection hv with hv
          subst hv
          by_cases z1 : ft g = 0
          · rw [show (if inR p L H g = true ∧ (0 : Int32) = 0 ∧ ft g = 0 then (1 : Int32) else 0) = 1 from if_pos ⟨hgR, rfl, z1⟩, if_neg (by decide)]
            have f34 := (hS.2.1 g hg).1.2.1
            simp (disch := omega) only [oi_31_1, or_31_6, e_mu, nI_add, oln_34, f34]
            have h154 : ∀ d : Int32, d = (if k = 2 then (if 25 < delay then 25 else delay) else 0) → pW B X τ n c s (q_AckBookModel_takes_154 F X (j_AckBookModel_takes F X N) (some (B + 31)) (nI k) (nI (nw ft (inR p L H) y).length) (some (B + 31)) (σ1.1 31 1 - D 2 g) d (o_w B X τ σ1 n c s)) (fun v σ' => v = some (.int (nI (nw ft (inR p L H) y).length)) ∧ nU k σ1 σ' ∧ (∀ f, f < 5 → σ'.1 31 (18 + f) = wyA (fun f => σ1.1 31 (18 + f)) k D ft (inR p L H) y g (σ1.1 31 1) delay f) ∧ (σ'.1 31 23 = 0 ∧ mq σ' = fwX D (lsN (D 2) g1 (σ1.1 31 1) (limV (wyA (fun f => σ1.1 31 (18 + f)) k D ft (inR p L H) y g (σ1.1 31 1) delay 0) (wyA (fun f => σ1.1 31 (18 + f)) k D ft (inR p L H) y g (σ1.1 31 1) delay 2)) (fy ft (inR p L H) y)).1 (wyA (fun f => σ1.1 31 (18 + f)) k D ft (inR p L H) y g (σ1.1 31 1) delay) (σ1.1 31 1) (lsN (D 2) g1 (σ1.1 31 1) (limV (wyA (fun f => σ1.1 31 (18 + f)) k D ft (inR p L H) y g (σ1.1 31 1) delay 0) (wyA (fun f => σ1.1 31 (18 + f)) k D ft (inR p L H) y g (σ1.1 31 1) delay 2)) (fy ft (inR p L H) y)).2.1 ((nw ft (inR p L H) y).foldl (fwA D) (mq σ1))) ∧ mS σ' k y D (lsN (D 2) g1 (σ1.1 31 1) (limV (wyA (fun f => σ1.1 31 (18 + f)) k D ft (inR p L H) y g (σ1.1 31 1) delay 0) (wyA (fun f => σ1.1 31 (18 + f)) k D ft (inR p L H) y g (σ1.1 31 1) delay 2)) (fy ft (inR p L H) y)).1 (fun b => if b = 0 then q 0 ++ nw ft (inR p L H) y else q 1 ++ (lsN (D 2) g1 (σ1.1 31 1) (limV (wyA (fun f => σ1.1 31 (18 + f)) k D ft (inR p L H) y g (σ1.1 31 1) delay 0) (wyA (fun f => σ1.1 31 (18 + f)) k D ft (inR p L H) y g (σ1.1 31 1) delay 2)) (fy ft (inR p L H) y)).2.1) (lsN (D 2) g1 (σ1.1 31 1) (limV (wyA (fun f => σ1.1 31 (18 + f)) k D ft (inR p L H) y g (σ1.1 31 1) delay 0) (wyA (fun f => σ1.1 31 (18 + f)) k D ft (inR p L H) y g (σ1.1 31 1) delay 2)) (fy ft (inR p L H) y)).2.2 (nI g1) 0) := by
              intro d hd
              obtain ⟨σ2, a1, a2, a3, a4⟩ := n_sample (B := B) (X := X) (F := F) (τ := τ) (n := n) (c := c) (s := s) (σ := σ1) (σ1.1 31 1 - D 2 g) d h3 h4
              have hw : wyA (fun f => σ1.1 31 (18 + f)) k D ft (inR p L H) y g (σ1.1 31 1) delay = wyT (fun f => σ1.1 31 (18 + f)) (σ1.1 31 1 - D 2 g) d (σ1.1 31 1) := by
                unfold wyA
                rw [if_pos ⟨z1, z2⟩, hd]
              rw [hw]
              unfold q_AckBookModel_takes_154
              simp only [ot_31, a1, y_cV]
              exact go σ2 _ _ _ _ ⟨a2, fun o f p1 p2 p3 p4 p5 => a3 o f (fun w => p5 ⟨w.1, by omega⟩)⟩ (hS.f31 (fun o f ho => a3 o f (fun w => ho w.1))) a4 (a3 31 1 (by omega)) (by unfold mq; rw [a3 31 24 (by omega), a3 31 25 (by omega), a3 31 26 (by omega)]) (wyT_nn (h4.elim Or.inl (fun z => Or.inr (Int32.not_lt.mpr z))) hn)
            by_cases z3 : k = 2
            · rw [if_pos (show (2 : Int32) ≤ nI k by rw [z3]; decide)]
              by_cases z4 : delay ≤ 25
              · rw [if_pos z4]
                exact h154 _ (by rw [if_pos z3, if_neg (Int32.not_lt.mpr z4)])
              · rw [if_neg z4]
                exact h154 _ (by rw [if_pos z3, if_pos (Int32.not_le.mp z4)])
            · rw [if_neg (show ¬ (2 : Int32) ≤ nI k from nI_ge (b := 2) (by omega) (by decide))]
              exact h154 _ (by rw [if_neg z3])
          · rw [show (if inR p L H g = true ∧ (0 : Int32) = 0 ∧ ft g = 0 then (1 : Int32) else 0) = 0 from if_neg (fun z => z1 z.2.2), if_pos rfl]
            have hw : wyA (fun f => σ1.1 31 (18 + f)) k D ft (inR p L H) y g (σ1.1 31 1) delay = fun f => σ1.1 31 (18 + f) := by
              unfold wyA
              rw [if_neg (fun z => z1 z.1)]
            rw [hw]
            exact go σ1 _ _ _ _ (nU.refl k σ1) hS (fun _ _ => rfl) rfl rfl (h4.elim Or.inl (fun z => Or.inr (Int32.not_lt.mpr z)))
        · rw [elF_neg z2, if_pos rfl]
          have hw : wyA (fun f => σ.1 31 (18 + f)) k D ft (inR p L H) y g (σ.1 31 1) delay = fun f => σ.1 31 (18 + f) := by
            unfold wyA
            rw [if_neg (fun z => z2 z.2)]
          rw [hw]
          exact go σ _ _ _ _ (nU.refl k σ) hS (fun _ _ => rfl) rfl rfl (h4.elim Or.inl (fun z => Or.inr (Int32.not_lt.mpr z)))
    · rw [if_neg h]
      have hym : y < m := by omega
      simp only [ot_31]
      refine pW.cI (n_isNew (B := B) (X := X) (F := F) (τ := τ) (n := n) (c := c) (s := s) hk hS hym hcl.1 hcl.2.1 hcl.2.2.1 hcl.2.2.2) ?_
      rintro v σ1 ⟨rfl, hv⟩
      have hv := Option.some.inj hv
      injection hv with hv
      subst hv
      have next := ih (y + 1) (by omega)
      by_cases w : inR p L H y = true ∧ ft y = 0
      · rw [show (if inR p L H y = true ∧ (0 : Int32) = 0 ∧ ft y = 0 then (1 : Int32) else 0) = 1 from if_pos ⟨w.1, rfl, w.2⟩, if_neg (by decide)]
        have en : nw ft (inR p L H) (y + 1) = nw ft (inR p L H) y ++ [y] := by
          show (if _ then _ else _) = _
          rw [if_pos w]
        have el : nI (nw ft (inR p L H) y).length + 1 = nI (nw ft (inR p L H) (y + 1)).length := by rw [en, List.length_append, nI_1]; rfl
        have f36 := (hS.2.1 y hym).1.2.2.1
        simp (disch := omega) only [or_31_8, e_mu, nI_add, oln_36, f36, el, nI_1]
        by_cases z2 : ∃ a, a ∈ nw ft (inR p L H) y ∧ D 3 a ≠ 0
        · have z3 : ∃ a, a ∈ nw ft (inR p L H) (y + 1) ∧ D 3 a ≠ 0 := by
            obtain ⟨a, h1, h2⟩ := z2
            exact ⟨a, by rw [en]; exact List.mem_append.mpr (Or.inl h1), h2⟩
          rw [elF_pos z2, if_neg (by decide)]
          rw [elF_pos z3] at next
          exact next
        · rw [elF_neg z2, if_pos rfl]
          by_cases z4 : D 3 y = 0
          · rw [if_pos z4]
            rw [elF_neg (by
              rintro ⟨a, h1, h2⟩
              rw [en] at h1
              rcases List.mem_append.mp h1 with h1 | h1
              · exact z2 ⟨a, h1, h2⟩
              · rw [List.mem_singleton.mp h1] at h2
                exact h2 z4)] at next
            exact next
          · rw [if_neg z4]
            rw [elF_pos ⟨y, by rw [en]; exact List.mem_append.mpr (Or.inr (by simp)), z4⟩] at next
            exact next
      · rw [show (if inR p L H y = true ∧ (0 : Int32) = 0 ∧ ft y = 0 then (1 : Int32) else 0) = 0 from if_neg (fun z => w ⟨z.1, z.2.2⟩), if_pos rfl, nI_1]
        have en : nw ft (inR p L H) (y + 1) = nw ft (inR p L H) y := by
          show (if _ then _ else _) = _
          rw [if_neg w]
        rw [en] at next
        exact next
theorem n_takesX {p g g1 : Nat} {L H : Nat → Int64} (hk : k < 3) (hg : g < m) (hg1 : g1 < m) (delay : Int32) (hS : mS σ k m D ft q lt ga 0) (hga : (if ga < nI g then nI g else ga) = nI g1) (hcl : clM σ p L H) (h0 : σ.2.1 46 0 = lN g) (hgR : inR p L H g = true) (h3 : σ.1 31 21 = -1 ∨ 0 ≤ σ.1 31 21) (h4 : σ.1 31 22 = -1 ∨ 0 ≤ σ.1 31 22) (hn : nn (σ.1 31 1)) (hr : nn (mq σ).2.2) (ht : nn (mq σ).2.1) (hw : ∀ l1 l2, nw ft (inR p L H) m = l1 ++ l2 → ¬ (l1.foldl (fwA D) (mq σ)).1 = 0) : pW B X τ n c s (f_AckBookModel_takes F X (some (B + 31)) (nI k) delay (o_w B X τ σ n c s)) (fun v σ' => if nw ft (inR p L H) m = [] then v = some (.int 0) ∧ σ' = o_I σ 40 k (nI g1) else v = some (.int (nI (nw ft (inR p L H) m).length)) ∧ nU k σ σ' ∧ (∀ f, f < 5 → σ'.1 31 (18 + f) = wyA (fun f => σ.1 31 (18 + f)) k D ft (inR p L H) m g (σ.1 31 1) delay f) ∧ (σ'.1 31 23 = 0 ∧ mq σ' = fwX D (lsN (D 2) g1 (σ.1 31 1) (limV (wyA (fun f => σ.1 31 (18 + f)) k D ft (inR p L H) m g (σ.1 31 1) delay 0) (wyA (fun f => σ.1 31 (18 + f)) k D ft (inR p L H) m g (σ.1 31 1) delay 2)) (fy ft (inR p L H) m)).1 (wyA (fun f => σ.1 31 (18 + f)) k D ft (inR p L H) m g (σ.1 31 1) delay) (σ.1 31 1) (lsN (D 2) g1 (σ.1 31 1) (limV (wyA (fun f => σ.1 31 (18 + f)) k D ft (inR p L H) m g (σ.1 31 1) delay 0) (wyA (fun f => σ.1 31 (18 + f)) k D ft (inR p L H) m g (σ.1 31 1) delay 2)) (fy ft (inR p L H) m)).2.1 ((nw ft (inR p L H) m).foldl (fwA D) (mq σ))) ∧ mS σ' k m D (lsN (D 2) g1 (σ.1 31 1) (limV (wyA (fun f => σ.1 31 (18 + f)) k D ft (inR p L H) m g (σ.1 31 1) delay 0) (wyA (fun f => σ.1 31 (18 + f)) k D ft (inR p L H) m g (σ.1 31 1) delay 2)) (fy ft (inR p L H) m)).1 (fun b => if b = 0 then q 0 ++ nw ft (inR p L H) m else q 1 ++ (lsN (D 2) g1 (σ.1 31 1) (limV (wyA (fun f => σ.1 31 (18 + f)) k D ft (inR p L H) m g (σ.1 31 1) delay 0) (wyA (fun f => σ.1 31 (18 + f)) k D ft (inR p L H) m g (σ.1 31 1) delay 2)) (fy ft (inR p L H) m)).2.1) (lsN (D 2) g1 (σ.1 31 1) (limV (wyA (fun f => σ.1 31 (18 + f)) k D ft (inR p L H) m g (σ.1 31 1) delay 0) (wyA (fun f => σ.1 31 (18 + f)) k D ft (inR p L H) m g (σ.1 31 1) delay 2)) (fy ft (inR p L H) m)).2.2 (nI g1) 0) := by
  have e0 : ∀ K : Int64 → zR, z_ldL (o_w B X τ σ n c s) (some (B + 46)) 0 K = K (lN g) := fun K => by
    rw [← h0]
    exact oln_46 (i := 0) (by decide) K
  have h40 : σ.1 40 k = ga := hS.2.2.2.2
  have eg : (if ga ≤ nI g then nI g else ga) = nI g1 := by
    rw [← hga]
    by_cases w : ga < nI g
    · rw [if_pos w, if_pos (Int32.le_of_lt w)]
    · rw [if_neg w]
      by_cases w2 : ga ≤ nI g
      · rw [if_pos w2]
        exact Int32.le_antisymm (Int32.not_lt.mp w) w2
      · rw [if_neg w2]
  have hS1 := hS.ga40 hk (nI g1)
  have hU1 : nU k σ (o_I σ 40 k (nI g1)) := ⟨rfl, fun o f _ _ _ p4 _ => by rw [i11, if_neg (fun w => p4 ⟨Or.inl w.1, w.2⟩)]⟩
  have k31 : ∀ f, (o_I σ 40 k (nI g1)).1 31 f = σ.1 31 f := fun f => by rw [i11, if_neg (by omega)]
  have m40 : mq (o_I σ 40 k (nI g1)) = mq σ := by
    unfold mq
    rw [k31, k31, k31]
  have start := n_take1X (B := B) (X := X) (F := F) (τ := τ) (n := n) (c := c) (s := s) (p := p) (g := g) (g1 := g1) (L := L) (H := H) hk (by omega) hg delay hS1 (hcl.u hk hU1) hgR (by rw [k31]; exact h3) (by rw [k31]; exact h4) (by rw [k31]; exact hn) (by rw [m40]; exact hr) (by rw [m40]; exact ht) (by rw [m40]; exact hw) F 0 (Nat.zero_le _)
  have ez : elF D (nw ft (inR p L H) 0) = 0 := elF_neg (by rintro ⟨a, h, -⟩; cases h)
  rw [ez] at start
  simp only [k31, m40] at start
  unfold f_AckBookModel_takes
  simp (disch := omega) only [or_31_29, e0, or_31_12, oln_40, h40, lN_i, s_greater, y_cI, eg, osn_40]
  refine start.mono ?_
  intro v σ' hq
  by_cases hl : nw ft (inR p L H) m = []
  · simp only [if_pos hl] at hq ⊢
    exact hq
  · simp only [if_neg hl] at hq ⊢
    exact ⟨hq.1, hU1.trans hq.2.1, hq.2.2⟩
end KF
