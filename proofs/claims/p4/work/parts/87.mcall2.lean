theorem e_m65 (k : Nat) : (65 : Int32) * nI k = nI (65 * k) := pk_mul 65 k
section PM6
variable {B X F : Nat} {τ : zK} {n c s : Nat} {T : Nat} {σ : zS}
theorem m_qL.w (h : mM T σ) (f : Nat) (x : Int32) (v : Int64) (hf : f ≠ 27 ∧ f ≠ 24) : m_qL B X T τ n c s σ (some (.inl (some (.long v)), o_w B X τ (o_I σ 31 f x) n c s)) := ⟨v, _, rfl, h.w hf, mX.I (by omega), mU.I ⟨by decide, by decide, fun _ => hf.1⟩⟩
theorem u_space (h : mM T σ) (hT : T ≤ 4096) (hF : 20000 ≤ F) (x y : Int32) : m_qL B X T τ n c s σ (f_AckBookModel_space F X (some (B + 31)) x y (o_w B X τ σ n c s)) := by
  unfold f_AckBookModel_space
  simp only [s_noSpace, z_cI, ot_31]
  rcases e_sp x with hx | ⟨k, hk, rfl⟩
  · simp only [if_pos hx, s_fails 1 1 (Or.inr rfl), z_cI]
    rw [if_neg (by decide)]
    exact m_qL.w h 0 _ _ (by decide)
  · simp only [if_neg (e_spk hk), s_fails 0 1 (Or.inl rfl), z_cI, if_true]
    have h0 : mM T (o_I σ 31 0 0) := h.w (by decide)
    have b0 : mX σ (o_I σ 31 0 0) := mX.I (by omega)
    have c0 : mU σ (o_I σ 31 0 0) := mU.I ⟨by decide, by decide, fun _ => by decide⟩
    have h1 : m_qL B X T τ n c s (o_I σ 31 0 0) (q_AckBookModel_space_23 F X (some (B + 31)) (nI k) y (some (B + 31)) (o_w B X τ (o_I σ 31 0 0) n c s)) := by
      simp only [q_AckBookModel_space_23, q_AckBookModel_space_28, ot_31, s_fails 1 2 (Or.inr rfl), z_cI]
      rw [if_neg (by decide)]
      exact m_qL.w h0 0 _ _ (by decide)
    have h2 : m_qL B X T τ n c s (o_I σ 31 0 0) (q_AckBookModel_space_28 F X (some (B + 31)) (nI k) y (some (B + 31)) 0 (o_w B X τ (o_I σ 31 0 0) n c s)) := by
      have h00 : mM T (o_I (o_I σ 31 0 0) 31 0 0) := h0.w (by decide)
      obtain ⟨m, g, W, q1, q2, q3⟩ := h00
      obtain ⟨v1, e1⟩ := s_probeTime (B := B) (X := X) (τ := τ) (n := n) (c := c) (s := s) (q1.m hT) hF hk
      obtain ⟨v2, e2⟩ := s_outs (B := B) (X := X) (τ := τ) (n := n) (c := c) (s := s) (q1.m hT) hF hk 1
      obtain ⟨v3, e3⟩ := s_outs (B := B) (X := X) (τ := τ) (n := n) (c := c) (s := s) (q1.m hT) hF hk 0
      obtain ⟨v4, e4⟩ := s_patience (B := B) (X := X) (F := F) (τ := τ) (σ := o_I (o_I σ 31 0 0) 31 0 0) (n := n) (c := c) (s := s) (nI k)
      unfold q_AckBookModel_space_28
      rw [ot_31, s_fails 0 2 (Or.inl rfl)]
      simp only [z_cI, if_true]
      (repeat' refine m_qL.ite (fun _ => ?_) (fun _ => ?_)) <;> simp (disch := omega) only [ot_31, z_cI, or_31_4, oln_32, or_31_12, oln_40, or_31_13, oln_41, e1, e2, e3, e4, or_31_30, oln_47, or_31_35, oln_52, or_31_11, oln_39, or_31_33, oln_50] <;> (repeat' refine m_qL.ite (fun _ => ?_) (fun _ => ?_)) <;> exact m_qL.w h0 0 _ _ (by decide)
    (repeat' split) <;> first | exact h1.of b0 c0 | exact h2.of b0 c0
theorem u_state (h : mM T σ) (hT : T ≤ 4096) (x y : Int32) : m_qI B X T τ n c s σ (f_AckBookModel_state F X (some (B + 31)) x y (o_w B X τ σ n c s)) := by
  unfold f_AckBookModel_state
  simp only [s_noSpace, z_cI, ot_31]
  rcases e_sp x with hx | ⟨k, hk, rfl⟩
  · simp only [if_pos hx, s_fails 1 1 (Or.inr rfl), z_cI]
    rw [if_neg (by decide)]
    exact m_qI.w h 0 _ _ (by decide)
  · simp only [if_neg (e_spk hk), s_fails 0 1 (Or.inl rfl), z_cI, if_true]
    by_cases hy : y < 0
    · rw [if_pos hy]
      exact m_qI.w h 0 _ _ (by decide)
    · rw [if_neg hy]
      obtain ⟨j, hj, rfl⟩ := nI_of hy
      obtain ⟨m, g, W, q1, q2, q3⟩ := id h
      have hA := q1.1 k hk
      have hA' : (o_I σ 31 0 0).1 32 k = nI (m k) := by rw [i11, if_neg (by omega)]; exact hA.1
      simp (disch := omega) only [or_31_4, oln_32, hA', e_lt]
      by_cases hl : j < m k
      · rw [if_pos hl]
        simp (disch := omega) only [or_31_11, oln_39, or_31_7, e_mu, nI_add, oln_35]
        (repeat' refine m_qI.ite (fun _ => ?_) (fun _ => ?_)) <;> exact m_qI.w h 0 _ _ (by decide)
      · rw [if_neg hl]
        exact m_qI.w h 0 _ _ (by decide)
theorem u_due (h : mM T σ) (x : Int32) : m_qI B X T τ n c s σ (f_AckBookModel_due F X (some (B + 31)) x (o_w B X τ σ n c s)) := by
  unfold f_AckBookModel_due
  simp only [s_noSpace, z_cI, ot_31]
  rcases e_sp x with hx | ⟨k, hk, rfl⟩
  · simp only [if_pos hx, s_fails 1 1 (Or.inr rfl), z_cI]
    rw [if_neg (by decide)]
    exact m_qI.w h 0 _ _ (by decide)
  · simp (disch := omega) only [if_neg (e_spk hk), s_fails 0 1 (Or.inl rfl), z_cI, if_true, or_31_35, oln_52, or_31_37, oln_54, oi_31_1, or_31_36, oln_53]
    (repeat' refine m_qI.ite (fun _ => ?_) (fun _ => ?_)) <;> exact m_qI.w h 0 _ _ (by decide)
theorem u_confirm (h : mM T σ) : m_q B X T τ n c s σ (f_AckBookModel_confirm F X (some (B + 31)) (o_w B X τ σ n c s)) := by
  unfold f_AckBookModel_confirm
  simp only [op_31_0, oz_31_2]
  rw [if_pos (by simp)]
  exact ⟨_, rfl, (h.w (by decide)).w (by decide), (mX.I (by omega)).trans (mX.I (by omega)), (mU.I (by simp)).trans (mU.I (by simp))⟩
theorem u_anxious (h : mM T σ) (x : Int32) (hx : x = 0 ∨ x = 1) : m_q B X T τ n c s σ (f_AckBookModel_anxious F X (some (B + 31)) x (o_w B X τ σ n c s)) := by
  unfold f_AckBookModel_anxious
  simp only [op_31_0, oz_31_3]
  rw [if_pos hx]
  exact ⟨_, rfl, (h.w (by decide)).w (by decide), (mX.I (by omega)).trans (mX.I (by omega)), (mU.I (by simp)).trans (mU.I (by simp))⟩
theorem u_written (h : mM T σ) (x : Int32) : m_qI B X T τ n c s σ (f_AckBookModel_written F X (some (B + 31)) x (o_w B X τ σ n c s)) := by
  unfold f_AckBookModel_written
  simp only [s_noSpace, z_cI, ot_31]
  rcases e_sp x with hx | ⟨k, hk, rfl⟩
  · simp only [if_pos hx, s_fails 1 1 (Or.inr rfl), z_cI]
    rw [if_neg (by decide)]
    exact m_qI.w h 0 _ _ (by decide)
  · have h0 : mM T (o_I σ 31 0 0) := h.w (by decide)
    have b0 : mX σ (o_I σ 31 0 0) := mX.I (by omega)
    have c0 : mU σ (o_I σ 31 0 0) := mU.I ⟨by decide, by decide, fun _ => by decide⟩
    have h1 : m_qI B X T τ n c s (o_I σ 31 0 0) (q_AckBookModel_written_31 F X (some (B + 31)) (nI k) (some (B + 31)) (o_w B X τ (o_I σ 31 0 0) n c s)) := by
      simp only [q_AckBookModel_written_31, q_AckBookModel_written_36, ot_31, s_fails 1 2 (Or.inr rfl), z_cI]
      rw [if_neg (by decide)]
      exact m_qI.w h0 0 _ _ (by decide)
    have h2 : m_qI B X T τ n c s (o_I σ 31 0 0) (q_AckBookModel_written_36 F X (some (B + 31)) (nI k) (some (B + 31)) 0 (o_w B X τ (o_I σ 31 0 0) n c s)) := by
      simp (disch := omega) only [q_AckBookModel_written_36, ot_31, s_fails 0 2 (Or.inl rfl), z_cI, if_true, or_31_35, osn_52, or_31_37, osn_54, oi_31_1, or_31_34, oln_51]
      rw [if_pos (by simp)]
      exact ⟨_, _, rfl, ((h0.w (by decide)).t (by omega)).t (by omega), ((mX.I (by omega)).trans (mX.I (by omega))).trans (mX.I (by omega)), ((mU.I (by simp)).trans (mU.I (by simp))).trans (mU.I (by simp))⟩
    simp (disch := omega) only [if_neg (e_spk hk), s_fails 0 1 (Or.inl rfl), z_cI, if_true, or_31_30, oln_47, or_31_11, oln_39]
    (repeat' split) <;> first | exact h1.of b0 c0 | exact h2.of b0 c0
theorem u_range (h : mM T σ) (x y z : Int32) : m_qL B X T τ n c s σ (f_AckBookModel_range F X (some (B + 31)) x y z (o_w B X τ σ n c s)) := by
  unfold f_AckBookModel_range
  simp only [s_noSpace, z_cI, ot_31]
  rcases e_sp x with hx | ⟨k, hk, rfl⟩
  · simp only [if_pos hx, s_fails 1 1 (Or.inr rfl), z_cI]
    rw [if_neg (by decide)]
    exact m_qL.w h 0 _ _ (by decide)
  · have h0 : mM T (o_I σ 31 0 0) := h.w (by decide)
    have b0 : mX σ (o_I σ 31 0 0) := mX.I (by omega)
    have c0 : mU σ (o_I σ 31 0 0) := mU.I ⟨by decide, by decide, fun _ => by decide⟩
    have h1 : m_qL B X T τ n c s (o_I σ 31 0 0) (q_AckBookModel_range_27 F X (some (B + 31)) (nI k) y z (some (B + 31)) (o_w B X τ (o_I σ 31 0 0) n c s)) := by
      simp only [q_AckBookModel_range_27, q_AckBookModel_range_32, ot_31, s_fails 1 2 (Or.inr rfl), z_cI]
      rw [if_neg (by decide)]
      exact m_qL.w h0 0 _ _ (by decide)
    obtain ⟨r, hr, hr2⟩ := h0.rg hk
    simp (disch := omega) only [if_neg (e_spk hk), s_fails 0 1 (Or.inl rfl), z_cI, if_true, or_31_30, oln_47]
    by_cases hy : y < 0
    · rw [if_pos hy]
      exact h1.of b0 c0
    · rw [if_neg hy]
      obtain ⟨j, hj, rfl⟩ := nI_of hy
      rw [hr]
      simp (disch := omega) only [e_lt]
      by_cases hl : j < r
      · rw [if_pos hl]
        have h2 : m_qL B X T τ n c s (o_I σ 31 0 0) (q_AckBookModel_range_32 F X (some (B + 31)) (nI k) (nI j) z (some (B + 31)) 0 (o_w B X τ (o_I σ 31 0 0) n c s)) := by
          have hr' : (o_I (o_I σ 31 0 0) 31 0 0).1 47 k = nI r := by
            rw [i11, if_neg (by omega)]; exact hr
          simp (disch := omega) only [q_AckBookModel_range_32, ot_31, s_fails 0 2 (Or.inl rfl), z_cI, or_31_30, oln_47, hr', e_m65, nI_add, e_m1, pk_sub, or_31_31, oln_48, or_31_32, oln_49, if_true]
          (repeat' refine m_qL.ite (fun _ => ?_) (fun _ => ?_)) <;> exact m_qL.w h0 0 _ _ (by decide)
        exact h2.of b0 c0
      · rw [if_neg hl]
        exact h1.of b0 c0
end PM6
