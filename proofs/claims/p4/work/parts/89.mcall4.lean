section PM8
variable {B X F : Nat} {τ : zK} {n c s : Nat} {T : Nat} {σ : zS}
theorem u_came (h : mM T σ) (hF : 20000 ≤ F) (x : Int32) (y : Int64) (z : Int32) : m_qI B X T τ n c s σ (f_AckBookModel_came F X (some (B + 31)) x y z (o_w B X τ σ n c s)) := by
  have h22 : m_qI B X T τ n c s σ (q_AckBookModel_came_22 F X (some (B + 31)) x y z (some (B + 31)) (o_w B X τ σ n c s)) := by
    simp only [q_AckBookModel_came_22, q_AckBookModel_came_27, ot_31, s_fails 1 1 (Or.inr rfl), z_cI]
    rw [if_neg (by decide)]
    exact m_qI.w h 0 _ _ (by decide)
  unfold f_AckBookModel_came
  simp only [s_noSpace, z_cI]
  rcases e_sp x with hx | ⟨k, hk, rfl⟩
  · rw [if_pos hx, if_neg (by decide)]
    exact h22
  · rw [if_neg (e_spk hk), if_pos rfl]
    refine m_qI.ite (fun _ => h22) (fun _ => m_qI.ite (fun _ => ?_) (fun _ => h22))
    unfold q_AckBookModel_came_27
    have h0 : mM T (o_I σ 31 0 0) := h.w (by decide)
    have b0 : mX σ (o_I σ 31 0 0) := mX.I (by omega)
    have c0 : mU σ (o_I σ 31 0 0) := mU.I ⟨by decide, by decide, fun _ => by decide⟩
    have hd := h0.d hk
    simp (disch := omega) only [ot_31, s_fails 0 1 (Or.inl rfl), z_cI, if_true, or_31_11, oln_39, s_fails _ 2 hd]
    refine m_qI.ite (fun hd0 => ?_) (fun _ => (m_qI.w h0 0 _ _ (by decide)).of b0 c0)
    have h1 : mM T (o_I (o_I σ 31 0 0) 31 0 (if (o_I σ 31 0 0).1 39 k = 0 then 0 else 2)) := h0.w (by decide)
    have b1 : mX σ (o_I (o_I σ 31 0 0) 31 0 (if (o_I σ 31 0 0).1 39 k = 0 then 0 else 2)) := b0.trans (mX.I (by omega))
    have c1 : mU σ (o_I (o_I σ 31 0 0) 31 0 (if (o_I σ 31 0 0).1 39 k = 0 then 0 else 2)) := c0.trans (mU.I (by simp))
    generalize o_I (o_I σ 31 0 0) 31 0 (if (o_I σ 31 0 0).1 39 k = 0 then 0 else 2) = σ1 at h1 b1 c1
    obtain ⟨r, hr, hr2⟩ := h1.rg hk
    have h83 : ∀ (σ2 : zS) (u : Int64), mM T σ2 → m_qI B X T τ n c s σ2 (q_AckBookModel_came_83 F X (some (B + 31)) (nI k) y z u (o_w B X τ σ2 n c s)) := by
      intro σ2 u h2
      obtain ⟨r, hr, hr2⟩ := h2.rg hk
      have hc : m_q B X T τ n c s σ2 (f_AckBookModel_comeIn F X (some (B + 31)) (nI k) y (o_w B X τ σ2 n c s)) := by
        unfold f_AckBookModel_comeIn
        simp (disch := omega) only [or_31_30, oln_47, hr, e_m65, nI_add]
        exact s_comeInJ hk hr2 hF y F _ σ2 h2.nn hr (by omega) (by omega) (by omega)
      obtain ⟨σ3, p1, p2, p3, p4⟩ := hc
      unfold q_AckBookModel_came_83
      simp (disch := omega) only [ot_31, p1, z_cV]
      refine m_qI.ite (fun _ => ⟨_, _, rfl, p2, p3, p4⟩) (fun _ => ?_)
      have h115 : ∀ σ4, mM T σ4 → mX σ2 σ4 → mU σ2 σ4 → m_qI B X T τ n c s σ2 (q_AckBookModel_came_115 F X (some (B + 31)) (nI k) y u (o_w B X τ σ4 n c s)) := by
        intro σ4 g1 g2 g3
        unfold q_AckBookModel_came_115
        simp (disch := omega) only [or_31_35, oln_52, osn_52, or_31_37, oln_54, osz0_54, osz1_54]
        have fin : ∀ b : Int32, m_qI B X T τ n c s σ2 (some (.inl (some (.int 1)), o_w B X τ (o_I (o_I σ4 52 k (σ4.1 52 k + 1)) 54 k b) n c s)) := fun b => ⟨_, _, rfl, (g1.t (by omega)).t (by omega), g2.trans ((mX.I (by omega)).trans (mX.I (by omega))), g3.trans ((mU.I (by simp)).trans (mU.I (by simp)))⟩
        (repeat' refine m_qI.ite (fun _ => ?_) (fun _ => ?_)) <;> exact fin _
      simp (disch := omega) only [or_31_35, oln_52, or_31_36, oi_31_1, osn_53]
      refine m_qI.ite (fun _ => h115 _ (p2.t (by omega)) (p3.trans (mX.I (by omega))) (p4.trans (mU.I (by simp)))) (fun _ => h115 _ p2 p3 p4)
    have hold : ∃ v, f_AckBookModel_isOld F X (some (B + 31)) (nI k) y (o_w B X τ σ1 n c s) = some (.inl (some (.int v)), o_w B X τ σ1 n c s) := by
      unfold f_AckBookModel_isOld
      simp (disch := omega) only [or_31_33, oln_50, e_m65]
      have e := fun b hb => s_isOldJ (B := B) (X := X) (F := F) (τ := τ) (n := n) (c := c) (s := s) hk hr2 hr y F (65 * k) b hb (by omega) (by omega) (by omega)
      split
      · exact e 0 (Or.inl rfl)
      · exact e 1 (Or.inr rfl)
    obtain ⟨v, hv⟩ := hold
    have hgr : ∃ v, f_AckBookModel_greatest F X (some (B + 31)) (nI k) (o_w B X τ σ1 n c s) = some (.inl (some (.long v)), o_w B X τ σ1 n c s) := by
      unfold f_AckBookModel_greatest
      simp (disch := omega) only [or_31_30, oln_47, hr]
      by_cases h0 : r = 0
      · subst h0
        exact ⟨_, if_pos rfl⟩
      · rw [if_neg (nI_ne0 (by omega) (by omega))]
        simp (disch := omega) only [or_31_32, e_m65, nI_add, e_m1, oln_49]
        exact ⟨_, rfl⟩
    obtain ⟨u, hu⟩ := hgr
    simp (disch := omega) only [hv, hu, z_cI, z_cL, ot_31, or_31_34, oi_31_1, osn_51]
    refine m_qI.ite (fun _ => m_qI.ite (fun _ => (h83 σ1 u h1).of b1 c1) (fun _ => (h83 _ u (h1.t (by omega))).of (b1.trans (mX.I (by omega))) (c1.trans (mU.I (by simp))))) (fun _ => ⟨_, _, rfl, h1, b1, c1⟩)
end PM8
