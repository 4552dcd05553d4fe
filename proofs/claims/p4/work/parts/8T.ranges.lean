/-! What came: ranges as functions; the class's go down, the reference's go up. -/
section AX
variable {r p b a0 q i : Nat} {L H l h L' H' l1 h1 : Nat → Int64} {y v : Int64}
def rIns (L : Nat → Int64) (r p : Nat) (y : Int64) : Nat → Int64 := fun j => if j = p then y else if p < j ∧ j ≤ r then L (j - 1) else L j
def rRem (L : Nat → Int64) (r q : Nat) : Nat → Int64 := fun j => if q ≤ j ∧ j < r then L (j + 1) else L j
def rUpd (L : Nat → Int64) (q : Nat) (v : Int64) : Nat → Int64 := fun j => if j = q then v else L j
def aS (r : Nat) (L H : Nat → Int64) : Prop := (∀ i, i < r → 0 ≤ (L i).toInt ∧ (L i).toInt ≤ (H i).toInt ∧ (H i).toInt < 4611686018427387904) ∧ ∀ i j, i < j → j < r → (H j).toInt + 1 < (L i).toInt
def aR (r : Nat) (L H : Nat → Int64) (b : Nat) (l h : Nat → Int64) : Prop := ∀ i j, i + j + 1 = r → l (b + i) = L j ∧ h (b + i) = H j
theorem a_place (hR : aR r L H b l h) (hp : p ≤ r) (h1 : ∀ j, j < p → y < L j) (h2 : p < r → L p ≤ y) (g0 : b ≤ a0) (g1 : a0 ≤ b + r) (g2 : ∀ j, a0 ≤ j → j < b + r → y < l j) (g3 : a0 = b ∨ l (a0 - 1) ≤ y) : a0 = b + (r - p) := by
  rcases Nat.lt_trichotomy a0 (b + (r - p)) with q | q | q
  · have hpr : p < r := by omega
    have z := g2 (b + (r - 1 - p)) (by omega) (by omega)
    rw [(hR (r - 1 - p) p (by omega)).1] at z
    exact absurd (h2 hpr) (Int64.not_le.mpr z)
  · exact q
  · have g4 := g3.resolve_left (by omega)
    rw [show a0 - 1 = b + (a0 - 1 - b) by omega, (hR (a0 - 1 - b) (r - 1 - (a0 - 1 - b)) (by omega)).1] at g4
    exact absurd g4 (Int64.not_le.mpr (h1 _ (by omega)))
theorem a_old (hS : aS r L H) (hR : aR r L H b l h) (hp : p ≤ r) (h1 : ∀ j, j < p → y < L j) (h2 : p < r → L p ≤ y) : (p < r ∧ y ≤ H p) ↔ ∃ j, b ≤ j ∧ j < b + r ∧ l j ≤ y ∧ y ≤ h j := by
  constructor
  · rintro ⟨q1, q2⟩
    have z := hR (r - 1 - p) p (by omega)
    exact ⟨b + (r - 1 - p), by omega, by omega, by rw [z.1]; exact h2 q1, by rw [z.2]; exact q2⟩
  · rintro ⟨j, q1, q2, q3, q4⟩
    have z := hR (j - b) (r - 1 - (j - b)) (by omega)
    rw [show b + (j - b) = j by omega] at z
    rw [z.1] at q3
    rw [z.2] at q4
    have w1 : p ≤ r - 1 - (j - b) := by
      rcases Nat.lt_or_ge (r - 1 - (j - b)) p with w | w
      · exact absurd q3 (Int64.not_le.mpr (h1 _ w))
      · exact w
    by_cases w2 : p = r - 1 - (j - b)
    · rw [w2]
      exact ⟨by omega, q4⟩
    · have w3 := hS.2 p (r - 1 - (j - b)) (by omega) (by omega)
      have w4 := Int64.le_iff_toInt_le.mp (h2 (by omega))
      have w5 := Int64.le_iff_toInt_le.mp q4
      omega
/-- one range more -/
theorem aR.ins (hR : aR r L H b l h) (hp : p ≤ r) (f1 : ∀ j, l1 j = if j = b + (r - p) then y else if b + (r - p) < j ∧ j ≤ b + r then l (j - 1) else l j) (f2 : ∀ j, h1 j = if j = b + (r - p) then y else if b + (r - p) < j ∧ j ≤ b + r then h (j - 1) else h j) : aR (r + 1) (rIns L r p y) (rIns H r p y) b l1 h1 := by
  intro i j hi
  rw [f1, f2]
  unfold rIns
  rcases Nat.lt_trichotomy i (r - p) with q | q | q
  · rw [if_neg (show ¬ b + i = b + (r - p) by omega), if_neg (show ¬ (b + (r - p) < b + i ∧ b + i ≤ b + r) by omega), if_neg (show ¬ j = p by omega), if_pos (show p < j ∧ j ≤ r by omega), if_neg (show ¬ b + i = b + (r - p) by omega), if_neg (show ¬ (b + (r - p) < b + i ∧ b + i ≤ b + r) by omega), if_neg (show ¬ j = p by omega), if_pos (show p < j ∧ j ≤ r by omega)]
    exact hR i (j - 1) (by omega)
  · rw [if_pos (show b + i = b + (r - p) by omega), if_pos (show j = p by omega), if_pos (show b + i = b + (r - p) by omega), if_pos (show j = p by omega)]
    exact ⟨rfl, rfl⟩
  · rw [if_neg (show ¬ b + i = b + (r - p) by omega), if_pos (show b + (r - p) < b + i ∧ b + i ≤ b + r by omega), if_neg (show ¬ j = p by omega), if_neg (show ¬ (p < j ∧ j ≤ r) by omega), if_neg (show ¬ b + i = b + (r - p) by omega), if_pos (show b + (r - p) < b + i ∧ b + i ≤ b + r by omega), if_neg (show ¬ j = p by omega), if_neg (show ¬ (p < j ∧ j ≤ r) by omega), show b + i - 1 = b + (i - 1) by omega]
    exact hR (i - 1) j (by omega)
theorem aR.take (hR : aR (r + 1) L H b l h) (hi : i + q = r) (f1 : ∀ j, l1 j = if b + i ≤ j ∧ j < b + r then l (j + 1) else l j) (f2 : ∀ j, h1 j = if b + i ≤ j ∧ j < b + r then h (j + 1) else h j) : aR r (rRem L r q) (rRem H r q) b l1 h1 := by
  intro a j ha
  rw [f1, f2]
  unfold rRem
  by_cases z : i ≤ a
  · rw [if_pos (show b + i ≤ b + a ∧ b + a < b + r by omega), if_pos (show b + i ≤ b + a ∧ b + a < b + r by omega), if_neg (show ¬ (q ≤ j ∧ j < r) by omega), if_neg (show ¬ (q ≤ j ∧ j < r) by omega)]
    exact hR (a + 1) j (by omega)
  · rw [if_neg (show ¬ (b + i ≤ b + a ∧ b + a < b + r) by omega), if_neg (show ¬ (b + i ≤ b + a ∧ b + a < b + r) by omega), if_pos (show q ≤ j ∧ j < r by omega), if_pos (show q ≤ j ∧ j < r by omega)]
    exact hR a (j + 1) (by omega)
theorem aR.upd (hR : aR r L H b l h) (hi : i + q + 1 = r) (f2 : ∀ j, h1 j = if j = b + i then v else h j) : aR r L (rUpd H q v) b l h1 := by
  intro a j ha
  rw [f2]
  unfold rUpd
  by_cases z : a = i
  · rw [if_pos (show b + a = b + i by omega), if_pos (show j = q by omega)]
    exact ⟨(hR a j ha).1, rfl⟩
  · rw [if_neg (show ¬ b + a = b + i by omega), if_neg (show ¬ j = q by omega)]
    exact hR a j ha
theorem aR.cong (hR : aR r L H b l h) (e : ∀ j, j < r → L' j = L j ∧ H' j = H j) : aR r L' H' b l h := fun a j ha => ⟨(hR a j ha).1.trans (e j (by omega)).1.symm, (hR a j ha).2.trans (e j (by omega)).2.symm⟩
theorem aR.lh (hR : aR r L H b l h) (f1 : ∀ j, l1 j = l j) (f2 : ∀ j, h1 j = h j) : aR r L H b l1 h1 := fun a j ha => ⟨(f1 _).trans (hR a j ha).1, (f2 _).trans (hR a j ha).2⟩
theorem rIns_lt {j : Nat} (h : j < p) : rIns L r p y j = L j := by
  unfold rIns
  rw [if_neg (by omega), if_neg (by omega)]
theorem rIns_eq {j : Nat} (h : j = p) : rIns L r p y j = y := if_pos h
theorem rIns_gt {j : Nat} (h : p < j) (h2 : j ≤ r) : rIns L r p y j = L (j - 1) := by
  unfold rIns
  rw [if_neg (by omega), if_pos ⟨h, h2⟩]
theorem rRem_lt {j : Nat} (h : j < q) : rRem L r q j = L j := if_neg (by omega)
theorem rRem_ge {j : Nat} (h : q ≤ j) (h2 : j < r) : rRem L r q j = L (j + 1) := if_pos ⟨h, h2⟩
theorem rUpd_eq {j : Nat} (h : j = q) : rUpd L q v j = v := if_pos h
theorem rUpd_ne {j : Nat} (h : j ≠ q) : rUpd L q v j = L j := if_neg h
/-- joined above alone -/
theorem r_above (hp : p ≤ r) (h0 : 0 < p) (j : Nat) (hj : j < r) : rUpd L (p - 1) y j = rRem (rIns L r p y) r (p - 1) j := by
  rcases Nat.lt_trichotomy j (p - 1) with z | z | z
  · rw [rUpd_ne (by omega), rRem_lt z, rIns_lt (by omega)]
  · rw [rUpd_eq z, rRem_ge (by omega) hj, rIns_eq (by omega)]
  · rw [rUpd_ne (by omega), rRem_ge (by omega) hj, rIns_gt (by omega) (by omega)]
    rfl
theorem r_above2 (hp : p ≤ r) (h0 : 0 < p) (j : Nat) (hj : j < r) : H j = rRem (rUpd (rIns H r p y) p (H (p - 1))) r (p - 1) j := by
  rcases Nat.lt_trichotomy j (p - 1) with z | z | z
  · rw [rRem_lt z, rUpd_ne (by omega), rIns_lt (by omega)]
  · rw [rRem_ge (by omega) hj, rUpd_eq (by omega), z]
  · rw [rRem_ge (by omega) hj, rUpd_ne (by omega), rIns_gt (by omega) (by omega)]
    rfl
theorem r_below (hp : p < r) (j : Nat) (hj : j < r) : L j = rRem (rIns L r p y) r p j := by
  by_cases z : j < p
  · rw [rRem_lt z, rIns_lt z]
  · rw [rRem_ge (by omega) hj, rIns_gt (by omega) (by omega)]
    rfl
theorem r_below2 (hp : p < r) (j : Nat) (hj : j < r) : rUpd H p y j = rRem (rUpd (rIns H r p y) (p + 1) y) r p j := by
  rcases Nat.lt_trichotomy j p with z | z | z
  · rw [rUpd_ne (by omega), rRem_lt z, rUpd_ne (by omega), rIns_lt z]
  · rw [rUpd_eq z, rRem_ge (by omega) hj, rUpd_eq (by omega)]
  · rw [rUpd_ne (by omega), rRem_ge (by omega) hj, rUpd_ne (by omega), rIns_gt (by omega) (by omega)]
    rfl
/-- joined above and below: what follows the join above -/
theorem r_both (hp : p < r + 1) (h0 : 0 < p) (j : Nat) (hj : j < r) : rRem (rUpd L (p - 1) (L p)) r p j = rRem (rUpd L (p - 1) y) r (p - 1) j := by
  rcases Nat.lt_trichotomy j (p - 1) with z | z | z
  · rw [rRem_lt (by omega), rUpd_ne (by omega), rRem_lt z, rUpd_ne (by omega)]
  · rw [rRem_lt (by omega), rUpd_eq z, rRem_ge (by omega) hj, rUpd_ne (by omega), z, Nat.sub_add_cancel h0]
  · rw [rRem_ge (by omega) hj, rUpd_ne (by omega), rRem_ge (by omega) hj, rUpd_ne (by omega)]
theorem r_both2 (hp : p < r + 1) (h0 : 0 < p) (j : Nat) (hj : j < r) : rRem H r p j = rRem (rUpd H p (H (p - 1))) r (p - 1) j := by
  rcases Nat.lt_trichotomy j (p - 1) with z | z | z
  · rw [rRem_lt (by omega), rRem_lt z, rUpd_ne (by omega)]
  · rw [rRem_lt (by omega), rRem_ge (by omega) hj, rUpd_eq (by omega), z]
  · rw [rRem_ge (by omega) hj, rRem_ge (by omega) hj, rUpd_ne (by omega)]
theorem l_succ (h0 : 0 ≤ y.toInt) (h1 : y.toInt < 4611686018427387904) : (y + 1).toInt = y.toInt + 1 := by
  rw [Int64.toInt_add, show (1 : Int64).toInt = 1 by decide, Int.bmod_eq_of_le (by omega) (by omega)]
theorem l_pred (h0 : 0 ≤ y.toInt) (h1 : y.toInt < 4611686018427387904) : (y - 1).toInt = y.toInt - 1 := by
  rw [Int64.toInt_sub, show (1 : Int64).toInt = 1 by decide, Int.bmod_eq_of_le (by omega) (by omega)]
/-- the new number and what stands around it -/
theorem aS.ins (hS : aS r L H) (hp : p ≤ r) (y0 : 0 ≤ y.toInt) (y1 : y.toInt < 4611686018427387904) (g1 : 0 < p → y.toInt + 1 < (L (p - 1)).toInt) (g2 : p < r → (H p).toInt + 1 < y.toInt) : aS (r + 1) (rIns L r p y) (rIns H r p y) := by
  have eL : ∀ (Z : Nat → Int64) j, j < r + 1 → (j < p ∧ rIns Z r p y j = Z j) ∨ (j = p ∧ rIns Z r p y j = y) ∨ (p < j ∧ rIns Z r p y j = Z (j - 1)) := by
    intro Z j hj
    unfold rIns
    rcases Nat.lt_trichotomy j p with z | z | z
    · exact Or.inl ⟨z, by rw [if_neg (by omega), if_neg (by omega)]⟩
    · exact Or.inr (Or.inl ⟨z, if_pos z⟩)
    · exact Or.inr (Or.inr ⟨z, by rw [if_neg (by omega), if_pos (by omega)]⟩)
  have gL : ∀ j, j < p → y.toInt + 1 < (L j).toInt := by
    intro j hj
    have z := g1 (by omega)
    by_cases e : j = p - 1
    · rw [e]; exact z
    · have z2 := hS.2 j (p - 1) (by omega) (by omega)
      have z3 := hS.1 (p - 1) (by omega)
      omega
  have gH : ∀ j, p ≤ j → j < r → (H j).toInt + 1 < y.toInt := by
    intro j h1 h2
    have z := g2 (by omega)
    by_cases e : j = p
    · rw [e]; exact z
    · have z2 := hS.2 p j (by omega) h2
      have z3 := hS.1 p (by omega)
      omega
  refine ⟨fun i hi => ?_, fun i j hij hj => ?_⟩
  · rcases eL L i hi with ⟨a, e⟩ | ⟨a, e⟩ | ⟨a, e⟩ <;> rcases eL H i hi with ⟨a', e'⟩ | ⟨a', e'⟩ | ⟨a', e'⟩ <;> first | omega | (rw [e, e'])
    · exact hS.1 i (by omega)
    · exact ⟨y0, Int.le_refl _, y1⟩
    · exact hS.1 (i - 1) (by omega)
  · rcases eL L i (by omega) with ⟨a, e⟩ | ⟨a, e⟩ | ⟨a, e⟩ <;> rcases eL H j hj with ⟨a', e'⟩ | ⟨a', e'⟩ | ⟨a', e'⟩ <;> first | omega | (rw [e, e'])
    · exact hS.2 i j hij (by omega)
    · exact gL i (by omega)
    · by_cases q : p ≤ i
      · omega
      · have z := gL i (by omega)
        have z2 := gH (j - 1) (by omega) (by omega)
        omega
    · exact gH (j - 1) (by omega) (by omega)
    · exact hS.2 (i - 1) (j - 1) (by omega) (by omega)
theorem aS.low (hS : aS r L H) (hq : q < r) (y0 : 0 ≤ y.toInt) (g1 : y.toInt ≤ (L q).toInt) (g2 : ∀ j, q < j → j < r → (H j).toInt + 1 < y.toInt) : aS r (rUpd L q y) H := by
  unfold rUpd
  refine ⟨fun i hi => ?_, fun i j hij hj => ?_⟩
  · show 0 ≤ (if i = q then y else L i).toInt ∧ (if i = q then y else L i).toInt ≤ _ ∧ _
    have z := hS.1 i hi
    by_cases e : i = q
    · subst e
      rw [if_pos rfl]
      omega
    · rw [if_neg e]
      exact z
  · show _ < (if i = q then y else L i).toInt
    by_cases e : i = q
    · subst e
      rw [if_pos rfl]
      exact g2 j hij hj
    · rw [if_neg e]
      exact hS.2 i j hij hj
theorem aS.high (hS : aS r L H) (hq : q < r) (y1 : y.toInt < 4611686018427387904) (g1 : (H q).toInt ≤ y.toInt) (g2 : ∀ j, j < q → y.toInt + 1 < (L j).toInt) : aS r L (rUpd H q y) := by
  unfold rUpd
  refine ⟨fun i hi => ?_, fun i j hij hj => ?_⟩
  · show 0 ≤ (L i).toInt ∧ _ ≤ (if i = q then y else H i).toInt ∧ (if i = q then y else H i).toInt < _
    have z := hS.1 i hi
    by_cases e : i = q
    · subst e
      rw [if_pos rfl]
      omega
    · rw [if_neg e]
      exact z
  · show (if j = q then y else H j).toInt + 1 < _
    by_cases e : j = q
    · subst e
      rw [if_pos rfl]
      exact g2 i hij
    · rw [if_neg e]
      exact hS.2 i j hij hj
theorem aS.both (hS : aS (r + 1) L H) (hp : p < r + 1) (h0 : 0 < p) : aS r (rRem (rUpd L (p - 1) (L p)) r p) (rRem H r p) := by
  have eL : ∀ j, j < r → (j < p - 1 ∧ rRem (rUpd L (p - 1) (L p)) r p j = L j) ∨ (j = p - 1 ∧ rRem (rUpd L (p - 1) (L p)) r p j = L p) ∨ (p ≤ j ∧ rRem (rUpd L (p - 1) (L p)) r p j = L (j + 1)) := by
    intro j hj
    unfold rRem rUpd
    rcases Nat.lt_trichotomy j (p - 1) with z | z | z
    · exact Or.inl ⟨z, by rw [if_neg (by omega), if_neg (by omega)]⟩
    · exact Or.inr (Or.inl ⟨z, by rw [if_neg (by omega), if_pos z]⟩)
    · exact Or.inr (Or.inr ⟨by omega, by rw [if_pos (by omega), if_neg (by omega)]⟩)
  have eH : ∀ j, j < r → (j < p ∧ rRem H r p j = H j) ∨ (p ≤ j ∧ rRem H r p j = H (j + 1)) := by
    intro j hj
    unfold rRem
    by_cases z : p ≤ j
    · exact Or.inr ⟨z, by rw [if_pos (by omega)]⟩
    · exact Or.inl ⟨by omega, by rw [if_neg (by omega)]⟩
  refine ⟨fun i hi => ?_, fun i j hij hj => ?_⟩
  · rcases eL i hi with ⟨a, e⟩ | ⟨a, e⟩ | ⟨a, e⟩ <;> rcases eH i hi with ⟨a', e'⟩ | ⟨a', e'⟩ <;> first | omega | (rw [e, e'])
    · exact hS.1 i (by omega)
    · have z1 := hS.1 p hp
      have z2 := hS.1 i (by omega)
      have z3 := hS.2 i p (by omega) hp
      omega
    · exact hS.1 (i + 1) (by omega)
  · rcases eL i (by omega) with ⟨a, e⟩ | ⟨a, e⟩ | ⟨a, e⟩ <;> rcases eH j hj with ⟨a', e'⟩ | ⟨a', e'⟩ <;> first | omega | (rw [e, e'])
    · exact hS.2 i j hij (by omega)
    · exact hS.2 i (j + 1) (by omega) (by omega)
    · exact hS.2 p (j + 1) (by omega) (by omega)
    · exact hS.2 (i + 1) (j + 1) (by omega) (by omega)
theorem aS.cong (hS : aS r L H) (e : ∀ j, j < r → L' j = L j ∧ H' j = H j) : aS r L' H' := by
  refine ⟨fun i hi => ?_, fun i j hij hj => ?_⟩
  · rw [(e i hi).1, (e i hi).2]
    exact hS.1 i hi
  · rw [(e i (by omega)).1, (e j hj).2]
    exact hS.2 i j hij hj
theorem aS.less (hS : aS r L H) {r' : Nat} (h : r' ≤ r) : aS r' L H := ⟨fun i hi => hS.1 i (by omega), fun i j hij hj => hS.2 i j hij (by omega)⟩
/-- what becomes of the ranges and the floor when y comes, which was not there; its place is p -/
def rK (r p : Nat) (y : Int64) (L H : Nat → Int64) (fl : Int64) : Nat × (Nat → Int64) × (Nat → Int64) × Int64 :=
  if 0 < p ∧ L (p - 1) = y + 1 then
    (if p < r ∧ H p = y - 1 then (r - 1, rRem (rUpd L (p - 1) (L p)) (r - 1) p, rRem H (r - 1) p, fl) else (r, rUpd L (p - 1) y, H, fl))
  else if p < r ∧ H p = y - 1 then (r, L, rUpd H p y, fl)
  else if r < 64 then (r + 1, rIns L r p y, rIns H r p y, fl)
  else (r, rIns L r p y, rIns H r p y, rIns H r p y r + 1)
theorem rK_S (fl : Int64) (hS : aS r L H) (h64 : r ≤ 64) (hp : p ≤ r) (y0 : 0 ≤ y.toInt) (y1 : y.toInt < 4611686018427387904) (h1 : ∀ j, j < p → y < L j) (h3 : p < r → H p < y) : aS (rK r p y L H fl).1 (rK r p y L H fl).2.1 (rK r p y L H fl).2.2.1 ∧ (rK r p y L H fl).1 ≤ 64 := by
  have e1 := l_succ y0 y1
  have e2 := l_pred y0 y1
  have k1 : ∀ j, j < p → y.toInt < (L j).toInt := fun j hj => Int64.lt_iff_toInt_lt.mp (h1 j hj)
  have k3 : p < r → (H p).toInt < y.toInt := fun q => Int64.lt_iff_toInt_lt.mp (h3 q)
  have k4 : ∀ j, p ≤ j → j < r → (H j).toInt < y.toInt := by
    intro j q1 q2
    by_cases e : j = p
    · rw [e]; exact k3 (by omega)
    · have z2 := hS.2 p j (by omega) q2
      have z3 := hS.1 p (by omega)
      have z4 := k3 (by omega)
      omega
  have nA : ¬ (0 < p ∧ L (p - 1) = y + 1) → 0 < p → y.toInt + 1 < (L (p - 1)).toInt := by
    intro q q0
    have z := k1 (p - 1) (by omega)
    rcases Int.lt_or_le (y.toInt + 1) (L (p - 1)).toInt with w | w
    · exact w
    · exact absurd ⟨q0, Int64.toInt_inj.mp (by omega)⟩ q
  have nB : ¬ (p < r ∧ H p = y - 1) → p < r → (H p).toInt + 1 < y.toInt := by
    intro q q0
    have z := k3 q0
    rcases Int.lt_or_le ((H p).toInt + 1) y.toInt with w | w
    · exact w
    · exact absurd ⟨q0, Int64.toInt_inj.mp (by omega)⟩ q
  unfold rK
  by_cases a : 0 < p ∧ L (p - 1) = y + 1
  · rw [if_pos a]
    have ea : (L (p - 1)).toInt = y.toInt + 1 := by rw [a.2]; exact e1
    by_cases b : p < r ∧ H p = y - 1
    · rw [if_pos b]
      obtain ⟨r', rfl⟩ : ∃ r', r = r' + 1 := ⟨r - 1, by omega⟩
      exact ⟨aS.both hS b.1 a.1, show r' + 1 - 1 ≤ 64 by omega⟩
    · rw [if_neg b]
      refine ⟨hS.low (by omega) y0 (by omega) fun j q1 q2 => ?_, h64⟩
      by_cases e : j = p
      · rw [e]; exact nB b (by omega)
      · have z1 := k4 p (Nat.le_refl _) (by omega)
        have z2 := hS.2 p j (by omega) q2
        have z3 := hS.1 p (by omega)
        omega
  · rw [if_neg a]
    by_cases b : p < r ∧ H p = y - 1
    · rw [if_pos b]
      have := k3 b.1
      refine ⟨hS.high b.1 y1 (by omega) fun j q => ?_, h64⟩
      have z := nA a (by omega)
      by_cases e : j = p - 1
      · rw [e]; exact z
      · have z2 := hS.2 j (p - 1) (by omega) (by omega)
        have z3 := hS.1 (p - 1) (by omega)
        omega
    · rw [if_neg b]
      have z := hS.ins hp y0 y1 (nA a) (nB b)
      by_cases e : r < 64
      · rw [if_pos e]
        exact ⟨z, e⟩
      · rw [if_neg e]
        exact ⟨z.less (Nat.le_succ r), h64⟩
theorem rRem_step (h : i < r) : rRem (rUpd L i (L (i + 1))) r (i + 1) = rRem L r i := by
  funext j
  rcases Nat.lt_trichotomy j i with z | z | z
  · rw [rRem_lt (by omega), rUpd_ne (by omega), rRem_lt z]
  · rw [rRem_lt (by omega), rUpd_eq z, rRem_ge (by omega) (by omega), z]
  · by_cases e : j < r
    · rw [rRem_ge (by omega) e, rUpd_ne (by omega), rRem_ge (by omega) e]
    · unfold rRem
      rw [if_neg (by omega), if_neg (by omega), rUpd_ne (by omega)]
theorem rRem_end (h : r ≤ i) : rRem L r i = L := by
  funext j
  unfold rRem
  rw [if_neg (by omega)]
theorem rIns_step (h : p ≤ i) : rIns (rUpd L (i + 1) (L i)) i p y = rIns L (i + 1) p y := by
  funext j
  rcases Nat.lt_trichotomy j p with z | z | z
  · rw [rIns_lt z, rUpd_ne (by omega), rIns_lt z]
  · rw [rIns_eq z, rIns_eq z]
  · by_cases e : j ≤ i
    · rw [rIns_gt z e, rUpd_ne (by omega), rIns_gt z (by omega)]
    · unfold rIns
      rw [if_neg (by omega), if_neg (by omega), if_neg (by omega)]
      by_cases e2 : j = i + 1
      · rw [rUpd_eq e2, if_pos (by omega), e2]
        rfl
      · rw [rUpd_ne e2, if_neg (by omega)]
theorem rIns_base : rIns L p p y = rUpd L p y := by
  funext j
  unfold rIns rUpd
  by_cases e : j = p
  · rw [if_pos e, if_pos e]
  · rw [if_neg e, if_neg (by omega), if_neg e]
/-- all from a0 on one place up, as far as a -/
def rSh (L : Nat → Int64) (a0 a : Nat) : Nat → Int64 := fun j => if a0 < j ∧ j ≤ a then L (j - 1) else L j
theorem rSh_base : rSh L i i = L := by
  funext j
  unfold rSh
  rw [if_neg (by omega)]
theorem rSh_step (h : a0 ≤ i) : rSh (rUpd L (i + 1) (L i)) a0 i = rSh L a0 (i + 1) := by
  funext j
  unfold rSh
  by_cases e : a0 < j ∧ j ≤ i
  · rw [if_pos e, if_pos (by omega), rUpd_ne (by omega)]
  · rw [if_neg e]
    by_cases e2 : j = i + 1
    · rw [rUpd_eq e2, if_pos (by omega), e2]
      rfl
    · rw [rUpd_ne e2, if_neg (by omega)]
end AX
