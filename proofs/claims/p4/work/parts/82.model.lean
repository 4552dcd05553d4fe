theorem e_in {n N : Nat} (h : n < N) (hN : N < 2147483648) : (¬ (nI n < 0 ∨ N ≤ (nI n).toNatClampNeg)) = True := eq_true (nI_in h hN)
theorem e_cl {n : Nat} (h : n < 2147483648) : (nI n).toNatClampNeg = n := nI_clamp h
theorem e_mu (k : Nat) : (4096 : Int32) * nI k = nI (4096 * k) := pk_mul 4096 k
theorem e_l0 : (0 : Int32) = nI 0 := rfl
theorem e_l1 : (1 : Int32) = nI 1 := rfl
theorem e_l2 : (2 : Int32) = nI 2 := rfl
theorem e_l3 : (3 : Int32) = nI 3 := rfl
theorem e_le {a b : Nat} (ha : a < 2147483648) (hb : b < 2147483648) : (nI a ≤ nI b) = (a ≤ b) := propext (nI_leI ha hb)
theorem e_lt {a b : Nat} (ha : a < 2147483648) (hb : b < 2147483648) : (nI a < nI b) = (a < b) := propext (nI_ltI ha hb)
theorem e_eq {a b : Nat} (ha : a < 2147483648) (hb : b < 2147483648) : (nI a = nI b) = (a = b) := propext (nI_eq ha hb)
/-- what is known of the model's spaces: how many were sent -/
def m_S (σ : zS) (m : Nat → Nat) : Prop := ∀ k, k < 3 → σ.1 32 k = nI (m k) ∧ m k ≤ 4096
section PM
variable {B X F : Nat} {τ : zK} {σ : zS} {n c s : Nat}
theorem s_noSpace (x : Int32) (w : zW) : f_AckBookModel_noSpace F X x w = some (.inl (some (.int (if x < 0 ∨ 2 < x then 1 else 0))), w) := by
  unfold f_AckBookModel_noSpace
  by_cases h : x < 0
  · simp [h]
  · by_cases h2 : x ≤ 2
    · rw [if_neg h, if_pos h2, if_neg (by rintro (q | q); exact h q; exact absurd h2 (Int32.not_le.mpr q))]
    · rw [if_neg h, if_neg h2, if_pos (Or.inr (Int32.not_le.mp h2))]
theorem s_fails (b d : Int32) (hb : b = 0 ∨ b = 1) : f_AckBookModel_fails F X (some (B + 31)) b d (o_w B X τ σ n c s) = some (.inl (some (.int b)), o_w B X τ (o_I σ 31 0 (if b = 0 then 0 else d)) n c s) := by
  unfold f_AckBookModel_fails
  simp only [op_31_0, z_retZ, if_pos hb]
  split <;> rfl
theorem s_isOut {k i : Nat} (hk : k < 3) (hi : i < 4096) : f_AckBookModel_isOut F X (some (B + 31)) (nI k) (nI i) (o_w B X τ σ n c s) = some (.inl (some (.int (if σ.1 39 k = 0 ∧ σ.1 35 (4096 * k + i) = 0 then 1 else 0))), o_w B X τ σ n c s) := by
  unfold f_AckBookModel_isOut
  simp (disch := omega) only [or_31_11, or_31_7, oln_39, oln_35, e_mu, nI_add]
  by_cases h1 : σ.1 39 k = 0
  · by_cases h2 : σ.1 35 (4096 * k + i) = 0 <;> simp [h1, h2]
  · simp [h1]
theorem s_flightJ {m : Nat → Nat} (hS : m_S σ m) : ∀ N : Nat, (∀ k x y, k ≤ 3 → (3 - k) * 5000 + 1 < N → ∃ v, j_AckBookModel_flight F X N 0 (some (B + 31)) x (nI k) y (o_w B X τ σ n c s) = some (.inl (some (.int v)), o_w B X τ σ n c s)) ∧ ∀ k i x, k < 3 → i ≤ m k → (3 - k) * 5000 - i < N → ∃ v, j_AckBookModel_flight F X N 1 (some (B + 31)) x (nI k) (nI i) (o_w B X τ σ n c s) = some (.inl (some (.int v)), o_w B X τ σ n c s) := by
  intro N
  induction N with
  | zero => exact ⟨fun _ _ _ _ h => absurd h (Nat.not_lt_zero _), fun _ _ _ _ _ h => absurd h (Nat.not_lt_zero _)⟩
  | succ N ih =>
    refine ⟨fun k x y hk hN => ?_, fun k i x hk hi hN => ?_⟩
    · rw [j_AckBookModel_flight, if_pos rfl]
      by_cases h : k = 3
      · subst h
        exact ⟨_, if_pos (by decide)⟩
      · rw [if_neg (by rw [e_l3, e_le (by omega) (by omega)]; omega)]
        exact ih.2 k 0 x (by omega) (Nat.zero_le _) (by omega)
    · obtain ⟨h1, h2⟩ := hS k hk
      rw [j_AckBookModel_flight, if_neg (by decide)]
      simp (disch := omega) only [or_31_4, oln_32, h1, e_le]
      by_cases h : m k ≤ i
      · rw [if_pos h, nI_1]
        exact ih.1 (k + 1) x _ (by omega) (by omega)
      · rw [if_neg h]
        simp (disch := omega) only [ot_31, s_isOut hk (show i < 4096 by omega), z_cI, or_31_9, or_31_5, oln_37, oln_33, e_mu, nI_add, nI_1]
        have e1 := fun x => ih.2 k (i + 1) x hk (by omega) (by omega)
        (repeat' split) <;> exact e1 _
theorem s_flight {m : Nat → Nat} (hS : m_S σ m) (hF : 20000 ≤ F) : ∃ v, f_AckBookModel_flight F X (some (B + 31)) (o_w B X τ σ n c s) = some (.inl (some (.int v)), o_w B X τ σ n c s) :=
  (s_flightJ (F := F) hS F).1 0 0 0 (by omega) (by omega)
theorem s_outsJ {m : Nat → Nat} (hS : m_S σ m) {k : Nat} (hk : k < 3) (a : Int32) : ∀ (N i : Nat) (x : Int32), i ≤ m k → m k - i < N → ∃ v, j_AckBookModel_outs F X N (some (B + 31)) (nI k) a x (nI i) (o_w B X τ σ n c s) = some (.inl (some (.int v)), o_w B X τ σ n c s) := by
  intro N
  induction N with
  | zero => exact fun _ _ _ h => absurd h (Nat.not_lt_zero _)
  | succ N ih =>
    intro i x hi hN
    obtain ⟨h1, h2⟩ := hS k hk
    rw [j_AckBookModel_outs]
    simp (disch := omega) only [or_31_4, oln_32, h1, e_le]
    by_cases h : m k ≤ i
    · exact ⟨_, if_pos h⟩
    · rw [if_neg h]
      simp (disch := omega) only [ot_31, s_isOut hk (show i < 4096 by omega), z_cI, or_31_8, oln_36, q_AckBookModel_outs_47, e_mu, nI_add, nI_1]
      have e1 := fun x => ih (i + 1) x (by omega) (by omega)
      (repeat' split) <;> exact e1 _
theorem s_outs {m : Nat → Nat} (hS : m_S σ m) (hF : 20000 ≤ F) {k : Nat} (hk : k < 3) (a : Int32) : ∃ v, f_AckBookModel_outs F X (some (B + 31)) (nI k) a (o_w B X τ σ n c s) = some (.inl (some (.int v)), o_w B X τ σ n c s) := by
  have h2 := (hS k hk).2
  exact s_outsJ (F := F) hS hk a F 0 0 (Nat.zero_le _) (by omega)
theorem s_greater (a b : Int32) (w : zW) : f_AckBookModel_greater F X a b w = some (.inl (some (.int (if a ≤ b then b else a))), w) := by
  unfold f_AckBookModel_greater
  split <;> rfl
theorem s_limit : f_AckBookModel_limit F X (some (B + 31)) (o_w B X τ σ n c s) = some (.inl (some (.int (if (9 : Int32) * (if σ.1 31 18 / 8 ≤ σ.1 31 20 then σ.1 31 20 else σ.1 31 18 / 8) / 8 ≤ 1 then 1 else (9 : Int32) * (if σ.1 31 18 / 8 ≤ σ.1 31 20 then σ.1 31 20 else σ.1 31 18 / 8) / 8))), o_w B X τ σ n c s) := by
  unfold f_AckBookModel_limit
  simp only [oi_31_18, oi_31_20, s_greater, z_cI]
theorem s_patience (x : Int32) : ∃ v, f_AckBookModel_patience F X (some (B + 31)) x (o_w B X τ σ n c s) = some (.inl (some (.int v)), o_w B X τ σ n c s) := by
  unfold f_AckBookModel_patience
  simp only [oi_31_18, oi_31_19, oi_31_2, s_greater, z_cI]
  split
  · split <;> exact ⟨_, rfl⟩
  · exact ⟨_, rfl⟩
theorem s_firstSpaceJ : ∀ N k : Nat, k ≤ 3 → 3 - k < N → ∃ v, j_AckBookModel_firstSpace F X N (some (B + 31)) (nI k) (o_w B X τ σ n c s) = some (.inl (some (.int v)), o_w B X τ σ n c s) := by
  intro N
  induction N with
  | zero => exact fun _ _ h => absurd h (Nat.not_lt_zero _)
  | succ N ih =>
    intro k hk hN
    rw [j_AckBookModel_firstSpace]
    by_cases h : k = 3
    · subst h
      exact ⟨_, if_pos (by decide)⟩
    · rw [if_neg (by rw [e_l3, e_le (by omega) (by omega)]; omega)]
      simp (disch := omega) only [or_31_11, oln_39, nI_1]
      split
      · exact ⟨_, rfl⟩
      · exact ih (k + 1) (by omega) (by omega)
theorem s_firstSpace (hF : 20000 ≤ F) : ∃ v, f_AckBookModel_firstSpace F X (some (B + 31)) (o_w B X τ σ n c s) = some (.inl (some (.int v)), o_w B X τ σ n c s) :=
  s_firstSpaceJ (F := F) F 0 (by omega) (by omega)
theorem s_probeTimeJ {m : Nat → Nat} (hS : m_S σ m) {k : Nat} (hk : k < 3) : ∀ (N i : Nat) (x : Int32), i ≤ m k → m k - i < N → ∃ v, j_AckBookModel_probeTime F X N (some (B + 31)) (nI k) x (nI i) (o_w B X τ σ n c s) = some (.inl (some (.int v)), o_w B X τ σ n c s) := by
  intro N
  induction N with
  | zero => exact fun _ _ _ h => absurd h (Nat.not_lt_zero _)
  | succ N ih =>
    intro i x hi hN
    obtain ⟨h1, h2⟩ := hS k hk
    rw [j_AckBookModel_probeTime]
    simp (disch := omega) only [or_31_4, oln_32, h1, e_le]
    by_cases h : m k ≤ i
    · rw [if_pos h]
      obtain ⟨v, hv⟩ := s_patience (B := B) (X := X) (F := F) (τ := τ) (σ := σ) (n := n) (c := c) (s := s) (nI k)
      simp only [ot_31, hv, z_cI, oi_31_23]
      exact ⟨_, rfl⟩
    · rw [if_neg h]
      simp (disch := omega) only [or_31_8, or_31_6, oln_36, oln_34, e_mu, nI_add, nI_1]
      have e1 := fun x => ih (i + 1) x (by omega) (by omega)
      split
      · exact e1 _
      · exact e1 _
theorem s_probeTime {m : Nat → Nat} (hS : m_S σ m) (hF : 20000 ≤ F) {k : Nat} (hk : k < 3) : ∃ v, f_AckBookModel_probeTime F X (some (B + 31)) (nI k) (o_w B X τ σ n c s) = some (.inl (some (.int v)), o_w B X τ σ n c s) := by
  have h2 := (hS k hk).2
  have hq : ∃ v, q_AckBookModel_probeTime_23 F X (j_AckBookModel_probeTime F X F) (some (B + 31)) (nI k) (o_w B X τ σ n c s) = some (.inl (some (.int v)), o_w B X τ σ n c s) := by
    unfold q_AckBookModel_probeTime_23
    obtain ⟨v1, e1⟩ := s_outs (B := B) (X := X) (τ := τ) (n := n) (c := c) (s := s) hS hF hk 0
    obtain ⟨v2, e2⟩ := s_outs (B := B) (X := X) (τ := τ) (n := n) (c := c) (s := s) hS hF (show 0 < 3 by omega) 0
    obtain ⟨v3, e3⟩ := s_outs (B := B) (X := X) (τ := τ) (n := n) (c := c) (s := s) hS hF (show 1 < 3 by omega) 0
    obtain ⟨v4, e4⟩ := s_outs (B := B) (X := X) (τ := τ) (n := n) (c := c) (s := s) hS hF (show 2 < 3 by omega) 0
    obtain ⟨v5, e5⟩ := s_firstSpace (B := B) (X := X) (τ := τ) (σ := σ) (n := n) (c := c) (s := s) hF
    obtain ⟨v6, e6⟩ := s_patience (B := B) (X := X) (F := F) (τ := τ) (σ := σ) (n := n) (c := c) (s := s) (nI k)
    have e2 : f_AckBookModel_outs F X (some (B + 31)) 0 0 (o_w B X τ σ n c s) = _ := e2
    have e3 : f_AckBookModel_outs F X (some (B + 31)) 1 0 (o_w B X τ σ n c s) = _ := e3
    have e4 : f_AckBookModel_outs F X (some (B + 31)) 2 0 (o_w B X τ σ n c s) = _ := e4
    simp only [ot_31, e1, e2, e3, e4, z_cI, q_AckBookModel_probeTime_125, oi_31_3, e5, oi_31_14, e6, oi_31_23]
    split
    · split
      · split
        · exact ⟨_, rfl⟩
        · split
          · split <;> exact ⟨_, rfl⟩
          · exact ⟨_, rfl⟩
      · split
        · exact ⟨_, rfl⟩
        · split
          · split <;> exact ⟨_, rfl⟩
          · exact ⟨_, rfl⟩
    · exact s_probeTimeJ (F := F) hS hk F 0 0 (Nat.zero_le _) (by omega)
  unfold f_AckBookModel_probeTime
  simp (disch := omega) only [or_31_11, oln_39, oi_31_2]
  split
  · split
    · split
      · exact ⟨_, rfl⟩
      · exact hq
    · exact hq
  · exact ⟨_, rfl⟩
end PM
