section GA
variable {ft : Nat → Int32}
theorem e_tm {t x a : Nat} (ht : t ≤ 100000) (hx : x ≤ 100000) (ha : a ≤ 100000) : (nI t - nI x < nI a) = (t < a + x) := by
  refine propext ?_
  rw [Int32.lt_iff_toInt_lt, Int32.toInt_sub, nI_toInt (by omega), nI_toInt (by omega), nI_toInt (by omega), Int.bmod_eq_of_le (by omega) (by omega)]
  omega
/-- both look for losses alike: times do not fall with the numbers -/
theorem nI_nm1 {z : Nat} (hz : z < 2147483648) : ¬ nI z = -1 := fun y => by
  have y2 := congrArg Int32.toInt y
  rw [nI_toInt hz, show (-1 : Int32).toInt = -1 by decide] at y2
  omega
theorem ls_step {d2 : Nat → Int32} {g t x i v : Nat} (hd : d2 i = nI v) (hv : v ≤ t) (ht : t ≤ 1000) (hx : x ≤ 2000) (st : (Nat → Int32) × List Nat × Int32) (h : st.2.2 = -1 ∨ ∃ z, st.2.2 = nI z ∧ z ≤ 3000 ∧ z ≤ v + x) : lsM d2 g (nI t) (nI x) st i = lsF d2 g (nI t) (nI x) st i := by
  unfold lsM lsF
  by_cases w : st.1 i = 0
  · rw [if_pos w, if_pos w]
    have hc : (i + 3 ≤ g ∨ ¬ nI t < d2 i + nI x) = (i + 3 ≤ g ∨ ¬ nI t - nI x < d2 i) := by
      rw [hd, nI_add, e_lt (by omega) (by omega), e_tm (by omega) (by omega) (by omega)]
    by_cases w2 : i + 3 ≤ g ∨ ¬ nI t < d2 i + nI x
    · rw [if_pos w2, if_pos (hc.mp w2)]
    · rw [if_neg w2]
      have : (if st.2.2 < 0 then d2 i + nI x else if st.2.2 ≤ d2 i + nI x then st.2.2 else d2 i + nI x) = (if st.2.2 = -1 then d2 i + nI x else st.2.2) := by
        rcases h with h | ⟨z, h1, h2, h3⟩
        · rw [h, if_pos (show (-1 : Int32) < 0 by decide), if_pos rfl]
        · rw [h1, if_neg (nI_pos (by omega)), if_neg (nI_nm1 (by omega)), hd, nI_add, if_pos (nI_le (by omega) (by omega))]
      rw [this, if_neg (show ¬ (i + 3 ≤ g ∨ ¬ nI t - nI x < d2 i) from fun y => w2 (hc.mpr y))]
  · rw [if_neg w, if_neg w]
theorem ls_inv {d2 : Nat → Int32} {g t x i v : Nat} (hd : d2 i = nI v) (hv : v ≤ t) (ht : t ≤ 1000) (hx : x ≤ 2000) (st : (Nat → Int32) × List Nat × Int32) (h : st.2.2 = -1 ∨ ∃ z, st.2.2 = nI z ∧ z ≤ 3000 ∧ z ≤ v + x) : (lsF d2 g (nI t) (nI x) st i).2.2 = -1 ∨ ∃ z, (lsF d2 g (nI t) (nI x) st i).2.2 = nI z ∧ z ≤ 3000 ∧ z ≤ v + x := by
  unfold lsF
  by_cases w : st.1 i = 0
  · rw [if_pos w]
    by_cases w2 : i + 3 ≤ g ∨ ¬ nI t - nI x < d2 i
    · rw [if_pos w2]
      exact h
    · rw [if_neg w2]
      rcases h with h | ⟨z, h1, h2, h3⟩
      · refine Or.inr ⟨v + x, ?_, by omega, Nat.le_refl _⟩
        show (if st.2.2 = -1 then d2 i + nI x else st.2.2) = _
        rw [if_pos h, hd, nI_add]
      · refine Or.inr ⟨z, ?_, h2, h3⟩
        show (if st.2.2 = -1 then d2 i + nI x else st.2.2) = _
        rw [h1, if_neg (nI_nm1 (by omega))]
  · rw [if_neg w]
    exact h
theorem ls_fold {d2 : Nat → Int32} {a : Nat → Nat} {g t x : Nat} (hd : ∀ j, j < g → d2 j = nI (a j)) (hmono : ∀ i j, i ≤ j → j < g → a i ≤ a j) (ha : ∀ j, j < g → a j ≤ t) (ht : t ≤ 1000) (hx : x ≤ 2000) : ∀ (n i : Nat) (st : (Nat → Int32) × List Nat × Int32), i + n = g → (st.2.2 = -1 ∨ ∃ z, st.2.2 = nI z ∧ z ≤ 3000 ∧ ∀ j, i ≤ j → j < g → z ≤ a j + x) → (List.range' i n).foldl (lsM d2 g (nI t) (nI x)) st = (List.range' i n).foldl (lsF d2 g (nI t) (nI x)) st ∧ (((List.range' i n).foldl (lsF d2 g (nI t) (nI x)) st).2.2 = -1 ∨ ∃ z, ((List.range' i n).foldl (lsF d2 g (nI t) (nI x)) st).2.2 = nI z ∧ z ≤ 3000) := by
  intro n
  induction n with
  | zero =>
    intro i st _ h
    simp only [List.range'_zero, List.foldl_nil, true_and]
    rcases h with h | ⟨z, h1, h2, -⟩
    · exact Or.inl h
    · exact Or.inr ⟨z, h1, h2⟩
  | succ n ih =>
    intro i st hi h
    have hig : i < g := by omega
    have h' : st.2.2 = -1 ∨ ∃ z, st.2.2 = nI z ∧ z ≤ 3000 ∧ z ≤ a i + x := by
      rcases h with h | ⟨z, h1, h2, h3⟩
      · exact Or.inl h
      · exact Or.inr ⟨z, h1, h2, h3 i (Nat.le_refl _) hig⟩
    rw [List.range'_succ, List.foldl_cons, List.foldl_cons, ls_step (hd i hig) (ha i hig) ht hx st h']
    refine ih (i + 1) _ (by omega) ?_
    rcases ls_inv (g := g) (hd i hig) (ha i hig) ht hx st h' with q | ⟨z, q1, q2, q3⟩
    · exact Or.inl q
    · exact Or.inr ⟨z, q1, q2, fun j p1 p2 => by have := hmono i j (by omega) p2; omega⟩
theorem ls_eq {d2 : Nat → Int32} {a : Nat → Nat} {g t x : Nat} (hd : ∀ j, j < g → d2 j = nI (a j)) (hmono : ∀ i j, i ≤ j → j < g → a i ≤ a j) (ha : ∀ j, j < g → a j ≤ t) (ht : t ≤ 1000) (hx : x ≤ 2000) : lsN d2 g (nI t) (nI x) ft = lsR d2 g (nI t) (nI x) ft ∧ ((lsR d2 g (nI t) (nI x) ft).2.2 = -1 ∨ ∃ z, (lsR d2 g (nI t) (nI x) ft).2.2 = nI z ∧ z ≤ 3000) := ls_fold hd hmono ha ht hx g 0 (ft, [], -1) (Nat.zero_add g) (Or.inl rfl)
theorem limV_nI {s l : Nat} (hs : s ≤ 8000) (hl : l ≤ 1000) : ∃ x, x ≤ 2000 ∧ limV (nI s) (nI l) = nI x := by
  have e8 : nI s / 8 = nI (s / 8) := pk_div (a := s) (d := 8) (by omega) (by decide) (by decide)
  unfold limV
  rw [e8]
  have key : ∀ y, y ≤ 1000 → ∃ x, x ≤ 2000 ∧ (if (9 : Int32) * nI y / 8 < 1 then 1 else (9 : Int32) * nI y / 8) = nI x := by
    intro y hy
    have e1 : (9 : Int32) * nI y / 8 = nI (9 * y / 8) := by
      rw [show (9 : Int32) * nI y = nI (9 * y) from pk_mul 9 y]
      exact pk_div (a := 9 * y) (d := 8) (by omega) (by decide) (by decide)
    rw [e1]
    split
    · exact ⟨1, by omega, rfl⟩
    · exact ⟨9 * y / 8, by omega, rfl⟩
  split
  · exact key l (by omega)
  · exact key (s / 8) (by omega)
/-- the way's numbers keep within bounds -/
def wB (W : Nat → Int32) : Prop := (∃ s, s ≤ 8000 ∧ W 0 = nI s) ∧ (∃ l, l ≤ 1000 ∧ W 2 = nI l) ∧ (W 3 = -1 ∨ ∃ z, z ≤ 1000 ∧ W 3 = nI z) ∧ (W 4 = -1 ∨ ∃ z, z ≤ 1000 ∧ W 4 = nI z)
theorem wB.take {W : Nat → Int32} {r d t : Nat} (h : wB W) (hr : r ≤ 1000) (hd : d ≤ 25) (ht : t ≤ 1000) : wB (wyT W (nI r) (nI d) (nI t)) := by
  obtain ⟨⟨s, hs, h0⟩, h2, h3, h4⟩ := h
  obtain ⟨z, hz, hz2, ez⟩ : ∃ z, z ≤ 1000 ∧ z ≤ r ∧ (if W 3 = -1 then nI r else (if nI r < W 3 then nI r else W 3)) = nI z := by
    rcases h3 with h3 | ⟨z, hz, h3⟩
    · exact ⟨r, hr, Nat.le_refl _, if_pos h3⟩
    · rw [h3, if_neg (nI_nm1 (by omega))]
      by_cases w : r < z
      · exact ⟨r, hr, Nat.le_refl _, if_pos (nI_lt w (by omega))⟩
      · exact ⟨z, hz, by omega, if_neg (nI_nlt (by omega) (by omega))⟩
  obtain ⟨cc, hcc, ec⟩ : ∃ cc, cc ≤ 1000 ∧ (if nI r < nI z + nI d then nI r else nI r - nI d) = nI cc := by
    rw [nI_add]
    by_cases w : r < z + d
    · exact ⟨r, hr, if_pos (nI_lt w (by omega))⟩
    · exact ⟨r - d, by omega, by rw [if_neg (nI_nlt (by omega) (by omega)), pk_sub (by omega)]⟩
  have e8 : nI s / 8 = nI (s / 8) := pk_div (a := s) (d := 8) (by omega) (by decide) (by decide)
  unfold wB wyT
  refine ⟨?_, ⟨r, hr, rfl⟩, Or.inr ⟨z, hz, by simp only [ez]; rfl⟩, ?_⟩
  · simp only [if_true, ez, ec]
    by_cases w : W 4 = -1
    · rw [if_pos w]
      exact ⟨8 * r, by omega, pk_mul 8 r⟩
    · rw [if_neg w, h0, e8]
      refine ⟨s + cc - s / 8, by omega, ?_⟩
      have : nI s + (nI cc - nI (s / 8)) = (nI s + nI cc) - nI (s / 8) := by
        rw [Int32.sub_eq_add_neg, Int32.sub_eq_add_neg, Int32.add_assoc]
      rw [this, nI_add, pk_sub (by omega)]
  · by_cases w : W 4 = -1
    · exact Or.inr ⟨t, ht, if_pos w⟩
    · rcases h4 with h4 | ⟨y, hy, h4⟩
      · exact absurd h4 w
      · exact Or.inr ⟨y, hy, by simp only [if_neg w]; exact h4⟩
theorem wB.m3 {W : Nat → Int32} (h : wB W) : (W 3 = -1 ∨ 0 ≤ W 3) ∧ (W 4 = -1 ∨ 0 ≤ W 4) := by
  obtain ⟨-, -, h3, h4⟩ := h
  refine ⟨?_, ?_⟩
  · rcases h3 with h | ⟨z, hz, h⟩
    · exact Or.inl h
    · exact Or.inr (by rw [h]; exact nI_pos' (by omega))
  · rcases h4 with h | ⟨z, hz, h⟩
    · exact Or.inl h
    · exact Or.inr (by rw [h]; exact nI_pos' (by omega))
end GA
