theorem e_d2 {W : Nat} (h : W < 2147483648) : nI W / (2 : Int32) = nI (W / 2) := pk_div (a := W) (d := 2) h (by decide) (by decide)
theorem e_w12 (q : Nat) : 12000 + 1200 * q + 1200 ≤ 12000 + 1200 * (q + 1) := by omega
theorem l_of {x : Int64} {n : Nat} (h0 : 0 ≤ x.toInt) (h : x < lN n) (hn : n < 2147483648) : ∃ e, x = lN e ∧ e < n := by
  have h1 := Int64.lt_iff_toInt_lt.mp h
  rw [lN_toInt hn] at h1
  refine ⟨x.toInt.toNat, Int64.toInt_inj.mp ?_, by omega⟩
  rw [lN_toInt (by omega)]
  omega
section PM4
variable {B X F : Nat} {τ : zK} {n c s : Nat} {T : Nat} {m : Nat → Nat}
def m_ok2 (B X T : Nat) (τ : zK) (n c s : Nat) (m g : Nat → Nat) (σ : zS) (W : Nat) (r : zR) : Prop := ∃ σ' W' g', r = some (.inl none, o_w B X τ σ' n c s) ∧ mJ T m g' σ' ∧ mW W' σ' ∧ W' ≤ W ∧ mK σ σ' ∧ ∀ l, g' (2 * l) = g (2 * l)
theorem m_ok2.trans {g g1 : Nat → Nat} {σ σ1 : zS} {W W1 : Nat} {r : zR} (h : m_ok2 B X T τ n c s m g1 σ1 W1 r) (hK : mK σ σ1) (hW : W1 ≤ W) (hg : ∀ l, g1 (2 * l) = g (2 * l)) : m_ok2 B X T τ n c s m g σ W r := by
  obtain ⟨σ', W', g', h1, h2, h3, h4, h5, h6⟩ := h
  exact ⟨σ', W', g', h1, h2, h3, by omega, hK.trans h5, fun l => (h6 l).trans (hg l)⟩
theorem s_persists {σ : zS} {g : Nat → Nat} (hJ : mJ T m g σ) (hT : T ≤ 4096) (hF : 20000 ≤ F) {W : Nat} (hW : mW W σ) {k fr : Nat} (hk : k < 3) (hfr : fr ≤ g (2 * k + 1)) : m_ok2 B X T τ n c s m g σ W (f_AckBookModel_persists F X (some (B + 31)) (nI k) (nI fr) (o_w B X τ σ n c s)) := by
  have hmk := (hJ.1 k hk).2
  have hgm : g (2 * k + 1) ≤ m k := by have := hJ.2.2.1.2 k hk; omega
  obtain ⟨σ', W', h1, h2, h3, h4, h5⟩ := (s_persistsJ (B := B) (X := X) (F := F) (τ := τ) (n := n) (c := c) (s := s) hJ hT hW hk F).1 (-1) (-1) fr 0 (Or.inl ⟨rfl, rfl⟩) hfr (by omega)
  exact ⟨σ', W', g, h1, h2, h3, h4, h5, fun _ => rfl⟩
theorem s_lossesJ (hT : T ≤ 4096) (hF : 20000 ≤ F) {k fr : Nat} (hk : k < 3) (far : Int32) : ∀ N : Nat, (∀ (σ : zS) (g : Nat → Nat) (W i : Nat) (y : Int32), mJ T m g σ → mW W σ → fr ≤ g (2 * k + 1) → i ≤ m k → 6000 + (m k - i) < N → m_ok2 B X T τ n c s m g σ W (j_AckBookModel_losses F X N 0 (some (B + 31)) (nI k) (nI fr) far (nI i) y (o_w B X τ σ n c s))) ∧ ∀ (σ : zS) (g : Nat → Nat) (W j : Nat) (z b : Int32), mJ T m g σ → mW W σ → fr ≤ g (2 * k + 1) → j ≤ g (2 * k + 1) → (g (2 * k + 1) - j) < N → m_ok2 B X T τ n c s m g σ W (j_AckBookModel_losses F X N 1 (some (B + 31)) (nI k) (nI fr) z b (nI j) (o_w B X τ σ n c s)) := by
  intro N
  induction N with
  | zero => exact ⟨fun _ _ _ _ _ _ _ _ _ h => absurd h (Nat.not_lt_zero _), fun _ _ _ _ _ _ _ _ _ _ h => absurd h (Nat.not_lt_zero _)⟩
  | succ N ih =>
    refine ⟨fun σ g W i y hJ hW hfr hi hN => ?_, fun σ g W j z b hJ hW hfr hj hN => ?_⟩
    · have hmk := (hJ.1 k hk).2
      have hgm : g (2 * k + 1) ≤ m k := by have := hJ.2.2.1.2 k hk; omega
      have l1 := fun (σ : zS) (hJ : mJ T m g σ) (hW : mW W σ) => ih.2 σ g W fr 0 0 hJ hW hfr hfr (by omega)
      rw [j_AckBookModel_losses, if_pos rfl]
      simp (disch := omega) only [or_31_12, oln_40]
      rcases hJ.2.2.2.2.2.1 k hk with ht | ⟨t, ht, ht2⟩
      · rw [ht]
        simp (disch := omega) only [e_neg1, if_true]
        exact l1 σ hJ hW
      · rw [ht]
        simp (disch := omega) only [e_le]
        by_cases h : t ≤ i
        · rw [if_pos h]
          exact l1 σ hJ hW
        · rw [if_neg h]
          simp (disch := omega) only [ot_31, s_isOut hk (show i < 4096 by omega), z_cI]
          by_cases ho : σ.1 39 k = 0 ∧ σ.1 35 (4096 * k + i) = 0
          · rw [if_pos ho, if_neg (by decide)]
            have hfd : m_ok2 B X T τ n c s m g σ W (q_AckBookModel_losses_89 F X (j_AckBookModel_losses F X N) (some (B + 31)) (nI k) (nI fr) far (nI i) (o_w B X τ σ n c s)) := by
              unfold q_AckBookModel_losses_89
              have e := s_find (B := B) (X := X) (F := F) (τ := τ) (n := n) (c := c) (s := s) hJ hT hk (show i < m k by omega) (Or.inr rfl) ho.2
              rw [show nI 2 = (2 : Int32) from rfl] at e
              simp only [ot_31, e, z_cV, nI_1]
              have hJ' := hJ.find hT hk (show i < m k by omega) (Or.inr rfl) ho.2
              refine m_ok2.trans (ih.1 _ _ W (i + 1) 0 hJ' (by simpa [mW, m_find_31] using hW) ?_ (by omega) (by omega)) (m_find_K _ _ _ _ _) (Nat.le_refl _) (fun l => if_neg (by omega))
              show fr ≤ if 2 * k + 1 = 2 * k + 2 - 1 then g (2 * k + 1) + 1 else g (2 * k + 1)
              rw [if_pos (by omega)]
              omega
            have hst : ∀ x : Int32, m_ok2 B X T τ n c s m g σ W (j_AckBookModel_losses F X N 0 (some (B + 31)) (nI k) (nI fr) far (nI (i + 1)) 0 (o_w B X τ (o_I σ 41 k x) n c s)) := fun x => m_ok2.trans (ih.1 _ g W (i + 1) 0 (hJ.t (by omega)) (by simpa [mW, i11] using hW) hfr (by omega) (by omega)) (mK.I (by omega)) (Nat.le_refl _) (fun _ => rfl)
            simp (disch := omega) only [or_31_6, e_mu, nI_add, oln_34, or_31_12, oln_40, oi_31_1, or_31_13, oln_41, osn_41, nI_1]
            (repeat' split) <;> first | exact hfd | exact hst _
          · rw [if_neg ho, if_pos rfl, nI_1]
            exact ih.1 σ g W (i + 1) 0 hJ hW hfr (by omega) (by omega)
    · have hmk := (hJ.1 k hk).2
      have hgm : g (2 * k + 1) ≤ m k := by have := hJ.2.2.1.2 k hk; omega
      have hG := hJ.2.2.1.1 (2 * k + 1) (by omega)
      rw [j_AckBookModel_losses, if_neg (by decide)]
      simp (disch := omega) only [or_31_16, e_m2, nI_1, oln_43, hG, e_le]
      by_cases h : g (2 * k + 1) ≤ j
      · rw [if_pos h]
        have fin : ∀ (σ' : zS) (W' : Nat), mJ T m g σ' → mW W' σ' → mK σ σ' → W' ≤ W → m_ok2 B X T τ n c s m g σ W (q_AckBookModel_losses_263 F X (j_AckBookModel_losses F X N) (some (B + 31)) (nI k) (nI fr) (o_w B X τ σ' n c s)) := by
          intro σ' W' hJ' hW' hK' hle
          obtain ⟨σ2, W2, g2, q1, q2⟩ := s_persists (B := B) (X := X) (F := F) (τ := τ) (n := n) (c := c) (s := s) hJ' hT hF hW' hk hfr
          unfold q_AckBookModel_losses_263
          simp only [ot_31, q1, z_cV]
          exact m_ok2.trans ⟨σ2, W2, g2, rfl, q2⟩ hK' hle (fun _ => rfl)
        obtain ⟨w1, w2, w3⟩ := hW
        split
        · exact fin σ W hJ ⟨w1, w2, w3⟩ (mK.refl σ) (Nat.le_refl _)
        · simp (disch := omega) only [oi_31_1, op_31_26, oi_31_24, op_31_25, oi_31_25, i11, s_greater, z_cI, op_31_24, w1, e_d2]
          simp only [and_true, true_and, if_true, Nat.reduceEqDiff, and_false, if_false, w1]
          rw [e_d2 (by omega)]
          by_cases hq : W / 2 ≤ 2400
          · rw [if_pos (show nI (W / 2) ≤ (2400 : Int32) from nI_le (a := W / 2) (b := 2400) hq (by decide))]
            refine fin _ 2400 (((hJ.w (by decide)).w (by decide)).w (by decide)) ⟨by simp [i11]; rfl, Nat.le_refl _, by decide⟩ (((mK.I (by omega)).trans (mK.I (by omega))).trans (mK.I (by omega))) w2
          · rw [if_neg (show ¬ nI (W / 2) ≤ (2400 : Int32) from nI_ge (a := 2400) (b := W / 2) (by omega) (by omega))]
            refine fin _ (W / 2) (((hJ.w (by decide)).w (by decide)).w (by decide)) ⟨by simp [i11], by omega, by omega⟩ (((mK.I (by omega)).trans (mK.I (by omega))).trans (mK.I (by omega))) (by omega)
      · rw [if_neg h]
        obtain ⟨e, he, he2⟩ := hJ.2.2.2.1 (2 * k + 1) (by omega) j (by omega)
        rw [show (2 * k + 1) / 2 = k from by omega] at he2
        obtain ⟨v, hv⟩ := s_behind (B := B) (X := X) (F := F) (τ := τ) (σ := σ) (n := n) (c := c) (s := s) (show 4096 * k + e < 12288 by omega)
        simp (disch := omega) only [or_31_15, e_mu, nI_add, oln_42, he, or_31_9, oln_37, ot_31, hv, z_cI, nI_1]
        have e1 := fun b => ih.2 σ g W (j + 1) 0 b hJ hW hfr (by omega) (by omega)
        (repeat' split) <;> exact e1 _
theorem s_losses {σ : zS} {g : Nat → Nat} (hJ : mJ T m g σ) (hT : T ≤ 4096) (hF : 20000 ≤ F) {W : Nat} (hW : mW W σ) {k : Nat} (hk : k < 3) : m_ok2 B X T τ n c s m g σ W (f_AckBookModel_losses F X (some (B + 31)) (nI k) (o_w B X τ σ n c s)) := by
  have hmk := (hJ.1 k hk).2
  have hG := hJ.2.2.1.1 (2 * k + 1) (by omega)
  unfold f_AckBookModel_losses
  simp (disch := omega) only [or_31_16, e_m2, nI_1, oln_43, hG, ot_31, s_limit, z_cI, or_31_13, osn_41]
  exact m_ok2.trans ((s_lossesJ (B := B) (X := X) (F := F) (τ := τ) (n := n) (c := c) (s := s) (m := m) hT hF hk _ F).1 _ g W 0 0 (hJ.t (by omega)) (by simpa [mW, i11] using hW) (Nat.le_refl _) (Nat.zero_le _) (by omega)) (mK.I (by omega)) (Nat.le_refl _) (fun _ => rfl)
def m_okI (B X T : Nat) (τ : zK) (n c s : Nat) (m : Nat → Nat) (σ : zS) (r : zR) : Prop := ∃ σ' W' g' v, r = some (.inl (some (.int v)), o_w B X τ σ' n c s) ∧ mJ T m g' σ' ∧ mW W' σ' ∧ W' ≤ 12000 + 1200 * (g' 0 + g' 2 + g' 4) ∧ mK σ σ'
theorem m_okI.trans {σ σ1 : zS} {r : zR} (h : m_okI B X T τ n c s m σ1 r) (hK : mK σ σ1) : m_okI B X T τ n c s m σ r := by
  obtain ⟨σ', W', g', v, h1, h2, h3, h4, h5⟩ := h
  exact ⟨σ', W', g', v, h1, h2, h3, h4, hK.trans h5⟩
theorem s_takesJ (hT : T ≤ 4096) (hF : 20000 ≤ F) {k most : Nat} (hk : k < 3) (hmost : most < 4096) (dl : Int32) : ∀ N : Nat, (∀ (σ : zS) (g : Nat → Nat) (W i : Nat) (x b : Int32), mJ T m g σ → mW W σ → W ≤ 12000 + 1200 * (g 0 + g 2 + g 4) → i ≤ m k → 6000 + (m k - i) < N → m_okI B X T τ n c s m σ (j_AckBookModel_takes F X N 0 (some (B + 31)) (nI k) dl (nI most) x b (nI i) (o_w B X τ σ n c s))) ∧ ∀ (σ : zS) (g : Nat → Nat) (W i : Nat) (u v x y : Int32), mJ T m g σ → mW W σ → W ≤ 12000 + 1200 * (g 0 + g 2 + g 4) → i ≤ m k → (m k - i) < N → m_okI B X T τ n c s m σ (j_AckBookModel_takes F X N 1 (some (B + 31)) (nI k) u v x y (nI i) (o_w B X τ σ n c s)) := by
  intro N
  induction N with
  | zero => exact ⟨fun _ _ _ _ _ _ _ _ _ _ h => absurd h (Nat.not_lt_zero _), fun _ _ _ _ _ _ _ _ _ _ _ _ h => absurd h (Nat.not_lt_zero _)⟩
  | succ N ih =>
    refine ⟨fun σ g W i x b hJ hW hle hi hN => ?_, fun σ g W i u v x y hJ hW hle hi hN => ?_⟩
    · have hmk := (hJ.1 k hk).2
      have hA := (hJ.1 k hk).1
      have l1 := fun (σ : zS) (hJ : mJ T m g σ) (hW : mW W σ) (x : Int32) => ih.2 σ g W 0 0 0 x 0 hJ hW hle (Nat.zero_le _) (by omega)
      rw [j_AckBookModel_takes, if_pos rfl]
      simp (disch := omega) only [or_31_4, oln_32, hA, e_le]
      by_cases h : m k ≤ i
      · rw [if_pos h]
        have ok0 : m_okI B X T τ n c s m σ (some (.inl (some (.int 0)), o_w B X τ σ n c s)) := ⟨σ, W, g, 0, rfl, hJ, hW, hle, mK.refl σ⟩
        obtain ⟨v, hv1, hv2, hv⟩ := s_isNew (B := B) (X := X) (F := F) (τ := τ) (n := n) (c := c) (s := s) hJ hT hF hk hmost
        have l2 : ∀ a d : Int32, m_okI B X T τ n c s m σ (q_AckBookModel_takes_154 F X (j_AckBookModel_takes F X N) (some (B + 31)) (nI k) x (some (B + 31)) a d (o_w B X τ σ n c s)) := by
          intro a d
          obtain ⟨σ1, q1, q2, q3, q4⟩ := s_sample (B := B) (X := X) (F := F) (τ := τ) (n := n) (c := c) (s := s) hJ hW a d
          unfold q_AckBookModel_takes_154
          simp only [ot_31, q1, z_cV]
          exact m_okI.trans (l1 σ1 q2 q3 x) q4
        simp (disch := omega) only [ot_31, hv, z_cI, oi_31_1, or_31_6, e_mu, nI_add, oln_34]
        (repeat' split) <;> first | exact ok0 | exact l1 σ hJ hW _ | exact l2 _ _
      · rw [if_neg h]
        obtain ⟨v, hv1, hv2, hv⟩ := s_isNew (B := B) (X := X) (F := F) (τ := τ) (n := n) (c := c) (s := s) hJ hT hF hk (show i < 4096 by omega)
        simp (disch := omega) only [ot_31, hv, z_cI, or_31_8, e_mu, nI_add, oln_36, nI_1]
        have e1 := fun x b => ih.1 σ g W (i + 1) x b hJ hW hle (by omega) (by omega)
        (repeat' split) <;> exact e1 _ _
    · have hmk := (hJ.1 k hk).2
      have hA := (hJ.1 k hk).1
      rw [j_AckBookModel_takes, if_neg (by decide)]
      simp (disch := omega) only [or_31_4, oln_32, hA, e_le]
      by_cases h : m k ≤ i
      · rw [if_pos h]
        obtain ⟨σ1, W1, g1, q1, q2, q3, q4, q5, q6⟩ := s_losses (B := B) (X := X) (F := F) (τ := τ) (n := n) (c := c) (s := s) hJ hT hF hW hk
        simp only [ot_31, q1, z_cV, op_31_23]
        have e0 := q6 0
        have e1 := q6 1
        have e2 := q6 2
        refine ⟨_, W1, g1, x, rfl, q2.w (by decide), by simpa [mW, i11] using q3, ?_, q5.trans (mK.I (by omega))⟩
        simp only [Nat.mul_zero, Nat.mul_one, Nat.reduceMul] at e0 e1 e2
        omega
      · rw [if_neg h]
        obtain ⟨v, hv1, hv2, hv⟩ := s_isNew (B := B) (X := X) (F := F) (τ := τ) (n := n) (c := c) (s := s) hJ hT hF hk (show i < 4096 by omega)
        simp (disch := omega) only [ot_31, hv, z_cI]
        by_cases hv0 : v = 0
        · rw [if_pos hv0, nI_1]
          exact ih.2 σ g W (i + 1) 0 0 x 0 hJ hW hle (by omega) (by omega)
        · rw [if_neg hv0]
          have ho := hv1 (hv2.resolve_left hv0)
          have e := s_find (B := B) (X := X) (F := F) (τ := τ) (n := n) (c := c) (s := s) hJ hT hk (show i < m k by omega) (Or.inl rfl) ho.2
          rw [show nI 1 = (1 : Int32) from rfl] at e
          have hJ' := hJ.find hT hk (show i < m k by omega) (Or.inl rfl) ho.2
          have hW' : mW W (m_find σ k i 1 (g (2 * k + 1 - 1))) := by simpa [mW, m_find_31] using hW
          have hgs : g 0 + g 2 + g 4 ≤ 3 * 4096 := by
            have a0 := hJ.2.2.1.2 0 (by omega)
            have a1 := hJ.2.2.1.2 1 (by omega)
            have a2 := hJ.2.2.1.2 2 (by omega)
            have b0 := (hJ.1 0 (by omega)).2
            have b1 := (hJ.1 1 (by omega)).2
            have b2 := (hJ.1 2 (by omega)).2
            simp only [Nat.mul_zero, Nat.mul_one, Nat.reduceMul] at a0 a1 a2
            omega
          obtain ⟨σ2, W2, q1, q2, q3, q4, q5⟩ := s_grow (B := B) (X := X) (F := F) (τ := τ) (n := n) (c := c) (s := s) hJ' hT hW' (by omega) hk (show i < m k by omega)
          simp (disch := omega) only [e, z_cV, ot_31, e_mu, nI_add, q1, nI_1]
          refine m_okI.trans (ih.2 σ2 _ W2 (i + 1) 0 0 x 0 q2 q3 ?_ (by omega) (by omega)) ((m_find_K _ _ _ _ _).trans q5)
          have hS : (if 0 = 2 * k + 1 - 1 then g 0 + 1 else g 0) + (if 2 = 2 * k + 1 - 1 then g 2 + 1 else g 2) + (if 4 = 2 * k + 1 - 1 then g 4 + 1 else g 4) = g 0 + g 2 + g 4 + 1 := by
            rcases (show k = 0 ∨ k = 1 ∨ k = 2 from by omega) with rfl | rfl | rfl <;> simp <;> omega
          show W2 ≤ 12000 + 1200 * ((if 0 = 2 * k + 1 - 1 then g 0 + 1 else g 0) + (if 2 = 2 * k + 1 - 1 then g 2 + 1 else g 2) + (if 4 = 2 * k + 1 - 1 then g 4 + 1 else g 4))
          rw [hS]
          exact Nat.le_trans q4 (Nat.le_trans (Nat.add_le_add_right hle 1200) (e_w12 _))
end PM4
