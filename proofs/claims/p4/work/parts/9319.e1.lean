/-! The packets of one space, on the reference's side. -/
section EA
variable {B X F : Nat} {τ : zK} {n c s : Nat} {σ σ' : zS} {k m i : Nat} {D : Nat → Nat → Int32} {ft : Nat → Int32} {q : Nat → List Nat} {lt ga ds : Int32}
def cn (x : Int32) (ft : Nat → Int32) : Nat → Nat
  | 0 => 0
  | m + 1 => cn x ft m + (if ft m = x then 1 else 0)
theorem cn_le (x : Int32) (ft : Nat → Int32) : ∀ m, cn x ft m ≤ m
  | 0 => Nat.le_refl _
  | m + 1 => by
    have := cn_le x ft m
    show cn x ft m + (if ft m = x then 1 else 0) ≤ m + 1
    split <;> omega
theorem cn_same {x y : Int32} (hy : y ≠ x) (h0 : ft i ≠ y) : ∀ m, cn y (rU ft i x) m = cn y ft m
  | 0 => rfl
  | m + 1 => by
    show cn y (rU ft i x) m + (if rU ft i x m = y then 1 else 0) = cn y ft m + (if ft m = y then 1 else 0)
    rw [cn_same hy h0 m]
    unfold rU
    by_cases w : m = i
    · rw [if_pos w, if_neg (fun z => hy z.symm), w, if_neg h0]
    · rw [if_neg w]
theorem cn_far {x : Int32} : ∀ m, m ≤ i → cn x (rU ft i x) m = cn x ft m
  | 0, _ => rfl
  | m + 1, h => by
    show cn x (rU ft i x) m + (if rU ft i x m = x then 1 else 0) = cn x ft m + (if ft m = x then 1 else 0)
    rw [cn_far m (by omega)]
    unfold rU
    rw [if_neg (show ¬ m = i by omega)]
theorem cn_more {x : Int32} (h0 : ft i ≠ x) : ∀ m, i < m → cn x (rU ft i x) m = cn x ft m + 1
  | 0, h => absurd h (Nat.not_lt_zero _)
  | m + 1, h => by
    show cn x (rU ft i x) m + (if rU ft i x m = x then 1 else 0) = cn x ft m + (if ft m = x then 1 else 0) + 1
    by_cases w : m = i
    · rw [cn_far m (by omega), w, if_neg h0, if_pos (show rU ft i x i = x from if_pos rfl)]
    · rw [cn_more h0 m (by omega)]
      have : rU ft i x m = ft m := if_neg w
      rw [this]
      omega
def qM (σ : zS) (l : Nat) (L : List Nat) (bnd : Nat) : Prop := ∃ h t, (σ.1 44 l = nI h ∧ σ.1 43 l = nI t) ∧ t = h + L.length ∧ t ≤ bnd ∧ ∀ j x, L[j]? = some x → σ.1 42 (4096 * l + (h + j)) = nI x
def mS (σ : zS) (k m : Nat) (D : Nat → Nat → Int32) (ft : Nat → Int32) (q : Nat → List Nat) (lt ga ds : Int32) : Prop := (σ.1 32 k = nI m ∧ m ≤ 4096 ∧ σ.1 39 k = ds) ∧ (∀ i, i < m → (σ.1 33 (4096 * k + i) = D 1 i ∧ σ.1 34 (4096 * k + i) = D 2 i ∧ σ.1 36 (4096 * k + i) = D 3 i ∧ σ.1 37 (4096 * k + i) = D 4 i ∧ σ.1 38 (4096 * k + i) = D 5 i) ∧ σ.1 35 (4096 * k + i) = ft i) ∧ (∀ b, b < 2 → qM σ (2 * k + b) (q b) (cn (nI (b + 1)) ft m)) ∧ σ.1 41 k = lt ∧ σ.1 40 k = ga
/-- what the reference's methods of space k may change: fates, those found, times, the window -/
def nF (k : Nat) (σ σ' : zS) : Prop := σ'.2 = σ.2 ∧ ∀ o f, ¬ (o = 35 ∧ 4096 * k ≤ f ∧ f < 4096 * k + 4096) → ¬ (o = 42 ∧ 4096 * (2 * k) ≤ f ∧ f < 4096 * (2 * k) + 8192) → ¬ (o = 43 ∧ 2 * k ≤ f ∧ f < 2 * k + 2) → ¬ ((o = 40 ∨ o = 41) ∧ f = k) → ¬ (o = 31 ∧ 24 ≤ f ∧ f ≤ 26) → σ'.1 o f = σ.1 o f
theorem nF.refl (k : Nat) (σ : zS) : nF k σ σ := ⟨rfl, fun _ _ _ _ _ _ _ => rfl⟩
theorem nF.trans {a b d : zS} (h1 : nF k a b) (h2 : nF k b d) : nF k a d := ⟨h2.1.trans h1.1, fun o f p1 p2 p3 p4 p5 => (h2.2 o f p1 p2 p3 p4 p5).trans (h1.2 o f p1 p2 p3 p4 p5)⟩
theorem nF.I {o f : Nat} {x : Int32} (h : (o = 35 ∧ 4096 * k ≤ f ∧ f < 4096 * k + 4096) ∨ (o = 42 ∧ 4096 * (2 * k) ≤ f ∧ f < 4096 * (2 * k) + 8192) ∨ (o = 43 ∧ 2 * k ≤ f ∧ f < 2 * k + 2) ∨ ((o = 40 ∨ o = 41) ∧ f = k) ∨ (o = 31 ∧ 24 ≤ f ∧ f ≤ 26)) : nF k σ (o_I σ o f x) := ⟨rfl, fun a b p1 p2 p3 p4 p5 => by
  rw [i11, if_neg]
  rintro ⟨rfl, rfl⟩
  rcases h with h | h | h | h | h
  · exact p1 h
  · exact p2 h
  · exact p3 h
  · exact p4 h
  · exact p5 h⟩
theorem fL.nf (h : fL σ σ') : nF k σ σ' := ⟨h.1, fun o f _ _ _ _ p5 => h.2 o f p5⟩
theorem fL.ms (h : fL σ σ') (hS : mS σ k m D ft q lt ga ds) : mS σ' k m D ft q lt ga ds := by
  have e : ∀ o f, o ≠ 31 → σ'.1 o f = σ.1 o f := fun o f ho => h.2 o f (fun w => ho w.1)
  obtain ⟨⟨a1, a2, a3⟩, b, d, f1, f2⟩ := hS
  refine ⟨⟨(e _ _ (by decide)).trans a1, a2, (e _ _ (by decide)).trans a3⟩, fun i hi => ?_, fun b' hb' => ?_, (e _ _ (by decide)).trans f1, (e _ _ (by decide)).trans f2⟩
  · rw [e 33 _ (by decide), e 34 _ (by decide), e 36 _ (by decide), e 37 _ (by decide), e 38 _ (by decide), e 35 _ (by decide)]
    exact b i hi
  · obtain ⟨h', t, ⟨g1, g2⟩, g3, g4, g5⟩ := d b' hb'
    exact ⟨h', t, ⟨(e _ _ (by decide)).trans g1, (e _ _ (by decide)).trans g2⟩, g3, g4, fun j x hx => (e _ _ (by decide)).trans (g5 j x hx)⟩
theorem n_find {b : Nat} (hk : k < 3) (hb : b < 2) (hS : mS σ k m D ft q lt ga ds) (hi : i < m) (h0 : ft i = 0) : ∃ σ', f_AckBookModel_find F X (some (B + 31)) (nI k) (nI i) (nI (b + 1)) (o_w B X τ σ n c s) = some (.inl none, o_w B X τ σ' n c s) ∧ nF k σ σ' ∧ mS σ' k m D (rU ft i (nI (b + 1))) (fun b' => if b' = b then q b ++ [i] else q b') lt ga ds := by
  obtain ⟨⟨a1, a2, a3⟩, hD, hQ, f1, f2⟩ := hS
  obtain ⟨h, t, ⟨g1, g2⟩, g3, g4, g5⟩ := hQ b hb
  have hne : ft i ≠ nI (b + 1) := by rw [h0]; exact fun z => nI_ne0 (by omega) (by omega) z.symm
  have hcn := cn_more (ft := ft) (i := i) (x := nI (b + 1)) hne m hi
  have hle := cn_le (nI (b + 1)) (rU ft i (nI (b + 1))) m
  have ht : t < 4096 := by omega
  have el : ∀ x : Nat, nI (2 * k) + nI (b + 1) - 1 = nI (2 * k + b) := fun _ => by rw [nI_add]; exact nI_pred (2 * k + b)
  have v2 : (o_I σ 35 (4096 * k + i) (nI (b + 1))).1 43 (2 * k + b) = nI t := by rw [i11, if_neg (by omega)]; exact g2
  have v3 : (o_I (o_I σ 35 (4096 * k + i) (nI (b + 1))) 42 (4096 * (2 * k + b) + t) (nI i)).1 43 (2 * k + b) = nI t := by rw [i11, if_neg (by omega)]; exact v2
  unfold f_AckBookModel_find
  simp (disch := omega) only [or_31_7, e_mu, nI_add, osn_35, or_31_15, or_31_16, e_m2]
  have el2 : nI (2 * k + (b + 1)) - 1 = nI (2 * k + b) := nI_pred (2 * k + b)
  simp (disch := omega) only [el2, oln_43, v2, e_mu, nI_add, osn_42, or_31_16, v3, nI_1, osn_43]
  have e : ∀ o f, ¬ (o = 35 ∧ f = 4096 * k + i) → ¬ (o = 42 ∧ f = 4096 * (2 * k + b) + t) → ¬ (o = 43 ∧ f = 2 * k + b) → (o_I (o_I (o_I σ 35 (4096 * k + i) (nI (b + 1))) 42 (4096 * (2 * k + b) + t) (nI i)) 43 (2 * k + b) (nI (t + 1))).1 o f = σ.1 o f := fun o f p1 p2 p3 => by rw [i11, if_neg p3, i11, if_neg p2, i11, if_neg p1]
  have e35 : (o_I (o_I (o_I σ 35 (4096 * k + i) (nI (b + 1))) 42 (4096 * (2 * k + b) + t) (nI i)) 43 (2 * k + b) (nI (t + 1))).1 35 (4096 * k + i) = nI (b + 1) := by rw [i11, if_neg (by omega), i11, if_neg (by omega), i11, if_pos ⟨rfl, rfl⟩]
  have e42 : (o_I (o_I (o_I σ 35 (4096 * k + i) (nI (b + 1))) 42 (4096 * (2 * k + b) + t) (nI i)) 43 (2 * k + b) (nI (t + 1))).1 42 (4096 * (2 * k + b) + t) = nI i := by rw [i11, if_neg (by omega), i11, if_pos ⟨rfl, rfl⟩]
  have e43 : (o_I (o_I (o_I σ 35 (4096 * k + i) (nI (b + 1))) 42 (4096 * (2 * k + b) + t) (nI i)) 43 (2 * k + b) (nI (t + 1))).1 43 (2 * k + b) = nI (t + 1) := by rw [i11, if_pos ⟨rfl, rfl⟩]
  have hNF : nF k σ (o_I (o_I (o_I σ 35 (4096 * k + i) (nI (b + 1))) 42 (4096 * (2 * k + b) + t) (nI i)) 43 (2 * k + b) (nI (t + 1))) := ((nF.I (o := 35) (f := 4096 * k + i) (Or.inl ⟨rfl, by omega, by omega⟩)).trans (nF.I (o := 42) (f := 4096 * (2 * k + b) + t) (Or.inr (Or.inl ⟨rfl, by omega, by omega⟩)))).trans (nF.I (o := 43) (f := 2 * k + b) (Or.inr (Or.inr (Or.inl ⟨rfl, by omega, by omega⟩))))
  refine ⟨_, rfl, hNF, ?_⟩
  generalize o_I (o_I (o_I σ 35 (4096 * k + i) (nI (b + 1))) 42 (4096 * (2 * k + b) + t) (nI i)) 43 (2 * k + b) (nI (t + 1)) = σ3 at e e35 e42 e43
  refine ⟨⟨by rw [e _ _ (by omega) (by omega) (by omega)]; exact a1, a2, by rw [e _ _ (by omega) (by omega) (by omega)]; exact a3⟩, fun j hj => ⟨?_, ?_⟩, fun b' hb' => ?_, by rw [e _ _ (by omega) (by omega) (by omega)]; exact f1, by rw [e _ _ (by omega) (by omega) (by omega)]; exact f2⟩
  · rw [e 33 _ (by omega) (by omega) (by omega), e 34 _ (by omega) (by omega) (by omega), e 36 _ (by omega) (by omega) (by omega), e 37 _ (by omega) (by omega) (by omega), e 38 _ (by omega) (by omega) (by omega)]
    exact (hD j hj).1
  · unfold rU
    by_cases w : j = i
    · rw [if_pos w, w]; exact e35
    · rw [if_neg w, e 35 _ (by omega) (by omega) (by omega)]
      exact (hD j hj).2
  · by_cases w : b' = b
    · subst w
      simp only [if_true]
      refine ⟨h, t + 1, ⟨by rw [e 44 _ (by omega) (by omega) (by omega)]; exact g1, e43⟩, by rw [List.length_append]; simp only [List.length_cons, List.length_nil]; omega, by omega, fun j x hx => ?_⟩
      rcases Nat.lt_or_ge j (q b').length with z | z
      · rw [List.getElem?_append_left z] at hx
        rw [e 42 _ (by omega) (by omega) (by omega)]
        exact g5 j x hx
      · rw [List.getElem?_append_right z] at hx
        have z2 : j - (q b').length = 0 := by
          rcases Nat.eq_zero_or_pos (j - (q b').length) with z2 | z2
          · exact z2
          · rw [List.getElem?_eq_none (by simp only [List.length_cons, List.length_nil]; omega)] at hx
            cases hx
        rw [z2] at hx
        have hx : some i = some x := hx
        injection hx with hx
        subst hx
        rw [show h + j = t by omega]
        exact e42
    · simp only [if_neg w]
      obtain ⟨h', t', ⟨k1, k2⟩, k3, k4, k5⟩ := hQ b' hb'
      have hc2 : cn (nI (b' + 1)) (rU ft i (nI (b + 1))) m = cn (nI (b' + 1)) ft m := cn_same (fun z => w (by have := (nI_eq (by omega) (by omega)).mp z; omega)) (by rw [h0]; exact fun z => nI_ne0 (by omega) (by omega) z.symm) m
      have hle2 := cn_le (nI (b' + 1)) ft m
      refine ⟨h', t', ⟨by rw [e 44 _ (by omega) (by omega) (by omega)]; exact k1, by rw [e 43 _ (by omega) (by omega) (by omega)]; exact k2⟩, k3, by rw [hc2]; exact k4, fun j x hx => ?_⟩
      have hj : j < (q b').length := (List.getElem?_eq_some_iff.mp hx).1
      rw [e 42 _ (by omega) (by omega) (by omega)]
      exact k5 j x hx
end EA
