theorem e_m2 (k : Nat) : (2 : Int32) * nI k = nI (2 * k) := pk_mul 2 k
theorem e_m1200 (k : Nat) : (1200 : Int32) * nI k = nI (1200 * k) := pk_mul 1200 k
theorem e_m1 {k : Nat} (h : 1 ≤ k) : nI k - 1 = nI (k - 1) := pk_sub (a := k) (b := 1) h
theorem e_s3 {k : Nat} (h : 3 ≤ k) : nI k - 3 = nI (k - 3) := pk_sub (a := k) (b := 3) h
theorem e_n1 {n : Nat} (h : n < 2147483648) : (nI n ≤ (-1 : Int32)) = False := by
  refine eq_false fun q => ?_
  have h1 := Int32.le_iff_toInt_le.mp q
  rw [nI_toInt h] at h1
  have h2 : (-1 : Int32).toInt = -1 := by decide
  omega
theorem e_neg1 {n : Nat} (h : n < 2147483648) : ((-1 : Int32) ≤ nI n) = True := by
  refine eq_true (Int32.le_iff_toInt_le.mpr ?_)
  rw [nI_toInt h]
  have h2 : (-1 : Int32).toInt = -1 := by decide
  omega
theorem e_nn {n : Nat} (h : n < 2147483648) : (nI n < (0 : Int32)) = False := eq_false (nI_pos h)
theorem e_pp {n : Nat} (h : n < 2147483648) : ((0 : Int32) ≤ nI n) = True := eq_true (nI_pos' h)
section PM2
variable {B X F : Nat} {τ : zK} {σ : zS} {n c s : Nat} {T : Nat} {m g : Nat → Nat}
theorem s_find (hJ : mJ T m g σ) (hT : T ≤ 4096) {k i wh : Nat} (hk : k < 3) (hi : i < m k) (hw : wh = 1 ∨ wh = 2) (h0 : σ.1 35 (4096 * k + i) = 0) : f_AckBookModel_find F X (some (B + 31)) (nI k) (nI i) (nI wh) (o_w B X τ σ n c s) = some (.inl none, o_w B X τ (m_find σ k i wh (g (2 * k + wh - 1))) n c s) := by
  have hgl := hJ.gl hk hi hw h0
  have hmk := (hJ.1 k hk).2
  have hG := hJ.2.2.1.1 (2 * k + wh - 1) (by omega)
  unfold f_AckBookModel_find
  simp (disch := omega) only [or_31_7, or_31_15, or_31_16, e_mu, e_m2, nI_add, e_m1, osn_35, oln_43, osn_42, osn_43, i11]
  rw [if_neg (by omega), hG]
  simp (disch := omega) only [nI_add, osn_42, or_31_16, oln_43, i11]
  rw [if_neg (by omega), if_neg (by omega), hG]
  simp (disch := omega) only [nI_1, osn_43, m_find]
theorem s_isNewJ (hJ : mJ T m g σ) (hT : T ≤ 4096) {k i : Nat} (hk : k < 3) (hi : i < 4096) {sp : Nat} (hsp : σ.1 31 27 = nI sp) (h64 : sp ≤ 64) : ∀ (N j : Nat) (b : Int32), (b = 0 ∨ b = 1) → j ≤ sp → sp - j < N → ∃ v : Int32, (v = 1 → σ.1 39 k = 0 ∧ σ.1 35 (4096 * k + i) = 0) ∧ (v = 0 ∨ v = 1) ∧ j_AckBookModel_isNew F X N (some (B + 31)) (nI k) (nI i) b (nI j) (o_w B X τ σ n c s) = some (.inl (some (.int v)), o_w B X τ σ n c s) := by
  intro N
  induction N with
  | zero => exact fun _ _ _ _ h => absurd h (Nat.not_lt_zero _)
  | succ N ih =>
    intro j b hb hj hN
    rw [j_AckBookModel_isNew]
    simp (disch := omega) only [oi_31_27, hsp, e_le]
    by_cases h : sp ≤ j
    · rw [if_pos h]
      by_cases h1 : b = 0
      · rw [if_pos h1]
        exact ⟨0, fun q => absurd q (by decide), Or.inl rfl, rfl⟩
      · rw [if_neg h1]
        simp (disch := omega) only [ot_31, s_isOut hk hi, z_cI]
        by_cases h2 : σ.1 39 k = 0 ∧ σ.1 35 (4096 * k + i) = 0
        · refine ⟨1, fun _ => h2, Or.inr rfl, ?_⟩
          rw [if_pos h2, if_neg (by decide)]
        · refine ⟨0, fun q => absurd q (by decide), Or.inl rfl, ?_⟩
          rw [if_neg h2, if_pos rfl]
    · rw [if_neg h]
      simp (disch := omega) only [or_31_28, or_31_29, oln_45, oln_46, nI_1]
      have e0 := ih (j + 1) 0 (Or.inl rfl) (by omega) (by omega)
      have e1 := ih (j + 1) 1 (Or.inr rfl) (by omega) (by omega)
      (repeat' split) <;> first | exact e0 | exact e1
theorem s_isNew (hJ : mJ T m g σ) (hT : T ≤ 4096) (hF : 20000 ≤ F) {k i : Nat} (hk : k < 3) (hi : i < 4096) : ∃ v : Int32, (v = 1 → σ.1 39 k = 0 ∧ σ.1 35 (4096 * k + i) = 0) ∧ (v = 0 ∨ v = 1) ∧ f_AckBookModel_isNew F X (some (B + 31)) (nI k) (nI i) (o_w B X τ σ n c s) = some (.inl (some (.int v)), o_w B X τ σ n c s) := by
  obtain ⟨sp, q1, q2, -⟩ := hJ.2.2.2.2.2.2.2.1
  exact s_isNewJ (F := F) hJ hT hk hi q1 q2 F 0 0 (Or.inl rfl) (Nat.zero_le _) (by omega)
theorem s_sample (hJ : mJ T m g σ) {W : Nat} (hW : mW W σ) (a d : Int32) : ∃ σ', f_AckBookModel_sample F X (some (B + 31)) a d (o_w B X τ σ n c s) = some (.inl none, o_w B X τ σ' n c s) ∧ mJ T m g σ' ∧ mW W σ' ∧ mK σ σ' := by
  have h29 : ∀ (σ : zS) (x : Int32), mJ T m g σ → mW W σ → ∃ σ', q_AckBookModel_sample_29 F X (some (B + 31)) a d (some (B + 31)) x (o_w B X τ σ n c s) = some (.inl none, o_w B X τ σ' n c s) ∧ mJ T m g σ' ∧ mW W σ' ∧ mK σ σ' := by
    intro σ x hJ hW
    unfold q_AckBookModel_sample_29
    simp only [op_31_21, oi_31_22, oi_31_21, oi_31_1, op_31_22, op_31_18, op_31_19, q_AckBookModel_sample_80, q_AckBookModel_sample_110, oi_31_18, oi_31_19]
    have key : ∀ y z u v : Int32, mJ T m g (o_I (o_I (o_I σ 31 21 x) 31 19 y) 31 18 z) ∧ mW W (o_I (o_I (o_I σ 31 21 x) 31 19 y) 31 18 z) ∧ mK σ (o_I (o_I (o_I σ 31 21 x) 31 19 y) 31 18 z) := fun y z _ _ => ⟨((hJ.w (by decide)).w (by decide)).w (by decide), by simpa [mW, i11] using hW, ((mK.I (by omega)).trans (mK.I (by omega))).trans (mK.I (by omega))⟩
    (repeat' split) <;> first | exact ⟨_, rfl, key _ _ 0 0⟩ | exact ⟨_, rfl, (((hJ.w (by decide)).w (by decide)).w (by decide)).w (by decide), by simpa [mW, i11] using hW, (((mK.I (by omega)).trans (mK.I (by omega))).trans (mK.I (by omega))).trans (mK.I (by omega))⟩
  have hJ1 : mJ T m g (o_I σ 31 20 a) := hJ.w (by decide)
  have hW1 : mW W (o_I σ 31 20 a) := by simpa [mW, i11] using hW
  have e := fun x => h29 (o_I σ 31 20 a) x hJ1 hW1
  unfold f_AckBookModel_sample
  simp only [op_31_20, oi_31_21, q_AckBookModel_sample_21]
  have fin : ∀ x, ∃ σ', q_AckBookModel_sample_29 F X (some (B + 31)) a d (some (B + 31)) x (o_w B X τ (o_I σ 31 20 a) n c s) = some (.inl none, o_w B X τ σ' n c s) ∧ mJ T m g σ' ∧ mW W σ' ∧ mK σ σ' := fun x => by
    obtain ⟨σ', q1, q2, q3, q4⟩ := e x
    exact ⟨σ', q1, q2, q3, (mK.I (by omega)).trans q4⟩
  (repeat' split) <;> exact fin _
theorem s_behind {p : Nat} (hp : p < 12288) : ∃ v : Int32, f_AckBookModel_isBehindRecovery F X (some (B + 31)) (nI p) (o_w B X τ σ n c s) = some (.inl (some (.int v)), o_w B X τ σ n c s) := by
  unfold f_AckBookModel_isBehindRecovery
  simp (disch := omega) only [oi_31_26, or_31_6, oln_34]
  (repeat' split) <;> exact ⟨_, rfl⟩
theorem s_grow (hJ : mJ T m g σ) (hT : T ≤ 4096) {W : Nat} (hW : mW W σ) (hW2 : W + 1200 < 2000000000) {k i : Nat} (hk : k < 3) (hi : i < m k) : ∃ σ' W', f_AckBookModel_grow F X (some (B + 31)) (nI (4096 * k + i)) (o_w B X τ σ n c s) = some (.inl none, o_w B X τ σ' n c s) ∧ mJ T m g σ' ∧ mW W' σ' ∧ W' ≤ W + 1200 ∧ mK σ σ' := by
  have hmk := (hJ.1 k hk).2
  have hp : 4096 * k + i < 12288 := by omega
  obtain ⟨z, hz, hz2⟩ := hJ.2.2.2.2.2.2.1 k hk i hi
  obtain ⟨v, hv⟩ := s_behind (B := B) (X := X) (F := F) (τ := τ) (σ := σ) (n := n) (c := c) (s := s) hp
  obtain ⟨w1, w2, w3⟩ := hW
  have hnz : ¬ nI W = 0 := nI_ne0 (by omega) (by omega)
  have hdv : nI (1200 * z) / nI W = nI (1200 * z / W) := pk_div (by omega) (by omega) (by omega)
  have hle : 1200 * z / W ≤ 1200 := Nat.div_le_of_le_mul (by
    have : 1200 * z ≤ W * 1200 := by rw [Nat.mul_comm W]; exact Nat.mul_le_mul_left _ (by omega)
    exact this)
  unfold f_AckBookModel_grow
  simp (disch := omega) only [or_31_9, or_31_10, or_31_5, oln_37, oln_38, oln_33, ot_31, hv, z_cI, oi_31_24, oi_31_25, q_AckBookModel_grow_50, hz, w1, e_m1200, hdv, nI_add, op_31_24, z_nz, if_neg hnz]
  have k0 : ∃ σ' W', (some ((.inl none : zO), o_w B X τ σ n c s) : zR) = some (.inl none, o_w B X τ σ' n c s) ∧ mJ T m g σ' ∧ mW W' σ' ∧ W' ≤ W + 1200 ∧ mK σ σ' := ⟨σ, W, rfl, hJ, ⟨w1, w2, w3⟩, by omega, mK.refl σ⟩
  have k1 : ∀ y, y ≤ 1200 → ∃ σ' W', (some ((.inl none : zO), o_w B X τ (o_I σ 31 24 (nI (W + y))) n c s) : zR) = some (.inl none, o_w B X τ σ' n c s) ∧ mJ T m g σ' ∧ mW W' σ' ∧ W' ≤ W + 1200 ∧ mK σ σ' := fun y hy => ⟨_, W + y, rfl, hJ.w (by decide), ⟨by simp [i11], by omega, by omega⟩, by omega, mK.I (by omega)⟩
  (repeat' split) <;> first | exact k0 | exact k1 _ hz2 | exact k1 _ hle
end PM2
section PM3
variable {B X F : Nat} {τ : zK} {n c s : Nat} {T : Nat} {m : Nat → Nat}
def m_ok (B X T : Nat) (τ : zK) (n c s : Nat) (m g : Nat → Nat) (σ : zS) (W : Nat) (r : zR) : Prop := ∃ σ' W', r = some (.inl none, o_w B X τ σ' n c s) ∧ mJ T m g σ' ∧ mW W' σ' ∧ W' ≤ W ∧ mK σ σ'
theorem s_persistsJ {σ : zS} {g : Nat → Nat} (hJ : mJ T m g σ) (hT : T ≤ 4096) {W : Nat} (hW : mW W σ) {k : Nat} (hk : k < 3) : ∀ N : Nat, (∀ (a b : Int32) (j : Nat) (y : Int32), (a = -1 ∧ b = -1 ∨ ∃ a' b', a = nI a' ∧ b = nI b' ∧ a' < m k ∧ b' < m k) → j ≤ g (2 * k + 1) → 5000 + (g (2 * k + 1) - j) < N → m_ok B X T τ n c s m g σ W (j_AckBookModel_persists F X N 0 (some (B + 31)) (nI k) a b (nI j) y (o_w B X τ σ n c s))) ∧ ∀ (a b i : Nat) (x : Int32), a < m k → b < m k → i ≤ 4096 → (b - i) < N → m_ok B X T τ n c s m g σ W (j_AckBookModel_persists F X N 1 (some (B + 31)) (nI k) (nI a) (nI b) x (nI i) (o_w B X τ σ n c s)) := by
  intro N
  have hmk := (hJ.1 k hk).2
  have hgm : g (2 * k + 1) ≤ m k := by have := hJ.2.2.1.2 k hk; omega
  have ok0 : m_ok B X T τ n c s m g σ W (some (.inl none, o_w B X τ σ n c s)) := ⟨σ, W, rfl, hJ, hW, Nat.le_refl _, mK.refl σ⟩
  induction N with
  | zero => exact ⟨fun _ _ _ _ _ _ h => absurd h (Nat.not_lt_zero _), fun _ _ _ _ _ _ _ h => absurd h (Nat.not_lt_zero _)⟩
  | succ N ih =>
    refine ⟨fun a b j y hab hj hN => ?_, fun a b i x ha hb hi hN => ?_⟩
    · rw [j_AckBookModel_persists, if_pos rfl]
      have hG := hJ.2.2.1.1 (2 * k + 1) (by omega)
      simp (disch := omega) only [or_31_16, e_m2, nI_1, oln_43, hG, e_le]
      by_cases h : g (2 * k + 1) ≤ j
      · rw [if_pos h]
        rcases hab with ⟨rfl, rfl⟩ | ⟨a', b', rfl, rfl, ha, hb⟩
        · rw [if_neg (by decide)]; exact ok0
        · rw [if_pos (nI_pos' (by omega))]
          exact ih.2 a' b' a' 0 ha hb (by omega) (by omega)
      · rw [if_neg h]
        obtain ⟨e, he, he2⟩ := hJ.2.2.2.1 (2 * k + 1) (by omega) j (by omega)
        rw [show (2 * k + 1) / 2 = k from by omega] at he2
        simp (disch := omega) only [or_31_15, e_mu, nI_add, oln_42, he, oi_31_22, or_31_8, oln_36, or_31_6, oln_34, nI_1]
        have e1 := ih.1 a b (j + 1) 0 hab (by omega) (by omega)
        have e3 := ih.1 (nI e) (nI e) (j + 1) 0 (Or.inr ⟨e, e, rfl, rfl, he2, he2⟩) (by omega) (by omega)
        split
        · exact e1
        · split
          · exact e1
          · split
            · rcases hab with ⟨rfl, rfl⟩ | ⟨a', b', rfl, rfl, ha, hb⟩
              · rw [if_neg (by decide)]; exact e3
              · rw [if_pos (nI_pos' (by omega))]
                exact ih.1 (nI a') (nI e) (j + 1) 0 (Or.inr ⟨a', e, rfl, rfl, ha, he2⟩) (by omega) (by omega)
            · exact e1
    · rw [j_AckBookModel_persists, if_neg (by decide)]
      have ok1 : m_ok B X T τ n c s m g σ W (some (.inl none, o_w B X τ (o_I (o_I σ 31 24 2400) 31 26 (-1)) n c s)) := by
        refine ⟨_, 2400, rfl, (hJ.w (by decide)).w (by decide), ⟨?_, Nat.le_refl _, by decide⟩, hW.2.1, (mK.I (by omega)).trans (mK.I (by omega))⟩
        simp [i11]
        rfl
      by_cases h : b ≤ i
      · rw [if_pos (nI_le h (by omega))]
        simp (disch := omega) only [oi_31_18, oi_31_19, s_greater, z_cI, or_31_6, e_mu, nI_add, oln_34, op_31_24, op_31_26]
        (repeat' split) <;> first | exact ok0 | exact ok1
      · rw [if_neg (nI_ge (by omega) (by omega))]
        simp (disch := omega) only [or_31_7, e_mu, nI_add, oln_35, nI_1]
        have e1 := fun x => ih.2 a b (i + 1) x ha hb (by omega) (by omega)
        (repeat' split) <;> exact e1 _
end PM3
