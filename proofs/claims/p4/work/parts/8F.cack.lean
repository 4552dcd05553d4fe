theorem e_m1n (j : Nat) : nI j + (-1 : Int32) = nI j - 1 := by
  cases j with
  | zero => decide
  | succ j => rw [pk_m1, nI_pred]
section CF
variable {B X F : Nat} {τ : zK} {n c s T R D : Nat} {σ : zS} {N rk : Nat → Nat}
theorem c_low {i : Nat} (hi : i < 64) : f_AckBook_Claim_low F X (some (B + 26)) (nI i) (o_w B X τ σ n c s) = some (.inl (some (.long (σ.2.1 27 i))), o_w B X τ σ n c s) := by
  unfold f_AckBook_Claim_low
  rw [if_neg (nI_pos (by omega)), if_neg (show ¬ (64 : Int32) ≤ nI i from nI_ge (b := 64) hi (by decide))]
  simp only [or_26_0, oln_27 hi]
theorem c_high {i : Nat} (hi : i < 64) : f_AckBook_Claim_high F X (some (B + 26)) (nI i) (o_w B X τ σ n c s) = some (.inl (some (.long (σ.2.1 28 i))), o_w B X τ σ n c s) := by
  unfold f_AckBook_Claim_high
  rw [if_neg (nI_pos (by omega)), if_neg (show ¬ (64 : Int32) ≤ nI i from nI_ge (b := 64) hi (by decide))]
  simp only [or_26_1, oln_28 hi]
theorem s_markAckJ (hT : T ≤ 4096) {k : Nat} (hk : k < 3) : ∀ M : Nat, (∀ (j : Nat) (fl : Option Nat) (y4 y6 : Int64) (σ : zS) (R : Nat) (rk : Nat → Nat), cJ T R τ σ N rk → (∀ q, fl = some q → o_pk τ q ∧ σ.1 q 6 ≠ 0) → j ≤ 64 → j * 6000 < M → c_F B X T τ n c s N σ (R + j * N k) (j_AckBook_Sent_markAcknowledged F X M 0 (some (B + (3 + 8 * k))) (some (B + 26)) (Option.map (B + ·) fl) (nI j - 1) y4 y6 (o_w B X τ σ n c s))) ∧ ∀ (j : Nat) (fl : Option Nat) (y4 y6 : Int64) (σ : zS) (R : Nat) (rk : Nat → Nat), cJ T R τ σ N rk → (∀ q, fl = some q → o_pk τ q ∧ σ.1 q 6 ≠ 0) → j < 64 → 0 ≤ y6.toInt → y4.toInt < N k → j * 6000 + 100 + (N k - y6.toInt.toNat) < M → c_F B X T τ n c s N σ (R + j * N k + (N k - y6.toInt.toNat)) (j_AckBook_Sent_markAcknowledged F X M 1 (some (B + (3 + 8 * k))) (some (B + 26)) (Option.map (B + ·) fl) (nI j) y4 y6 (o_w B X τ σ n c s)) := by
  intro M
  induction M with
  | zero => exact ⟨fun _ _ _ _ _ _ _ _ _ _ h => absurd h (Nat.not_lt_zero _), fun _ _ _ _ _ _ _ _ _ _ _ _ h => absurd h (Nat.not_lt_zero _)⟩
  | succ M ih =>
    refine ⟨fun j fl y4 y6 σ R rk hJ hfl hj hM => ?_, fun j fl y4 y6 σ R rk hJ hfl hj h6 h4 hM => ?_⟩
    · obtain ⟨h1, h2, -⟩ := hJ.1 k hk
      rw [j_AckBook_Sent_markAcknowledged, if_pos rfl]
      cases j with
      | zero =>
        rw [if_pos (show nI 0 - 1 < 0 from by decide)]
        exact ⟨fl, σ, rk, R, rfl, hJ, by omega, cK.refl σ, hfl⟩
      | succ j =>
        rw [nI_pred, if_neg (nI_pos (by omega))]
        simp only [ot_26, c_high (show j < 64 by omega), c_low (show j < 64 by omega), z_cL, or_s3_2 hk, ot_s6 hk, c_size hk, z_cI, h1]
        have hl := hJ.2.2.2.1.2.2 j (by omega)
        have hb : ∀ y : Int64, (if (nI (N k) - 1).toInt64 < y then (nI (N k) - 1).toInt64 else y).toInt < N k := by
          intro y
          have e1 : (nI (N k) - 1).toInt64.toInt < N k := by
            rw [Int32.toInt_toInt64]
            cases hN : N k with
            | zero =>
              have : (nI 0 - 1).toInt = -1 := by decide
              rw [this]
              omega
            | succ m =>
              rw [nI_pred, nI_toInt (by omega)]
              omega
          split
          · exact e1
          · rename_i hle
            have := Int64.le_iff_toInt_le.mp (Int64.not_lt.mp hle)
            omega
        have hmu : N k - (σ.2.1 27 j).toInt.toNat ≤ N k := Nat.sub_le _ _
        obtain ⟨v, σ', rk', R', p1, p2, p3, p4, p5⟩ := ih.2 j fl _ (σ.2.1 27 j) σ R rk hJ hfl (by omega) hl (hb (σ.2.1 28 j)) (by omega)
        refine ⟨v, σ', rk', R', p1, p2, Nat.le_trans p3 ?_, p4, p5⟩
        rw [Nat.succ_mul]
        omega
    · obtain ⟨h1, h2, -⟩ := hJ.1 k hk
      rw [j_AckBook_Sent_markAcknowledged, if_neg (by decide)]
      simp only [lg_cmp_gt]
      by_cases hgt : y4 < y6
      · rw [if_pos hgt]
        have hM2 : j * 6000 < M := Nat.lt_of_lt_of_le (Nat.lt_add_of_pos_right (by decide)) (Nat.le_of_lt_succ (Nat.lt_of_le_of_lt (Nat.le_add_right (j * 6000 + 100) _) hM))
        have := ih.1 j fl 0 0 σ R rk hJ hfl (Nat.le_of_lt hj) hM2
        rw [e_m1n]
        obtain ⟨v, σ', rk', R', p1, p2, p3, p4, p5⟩ := this
        exact ⟨v, σ', rk', R', p1, p2, Nat.le_trans p3 (Nat.le_add_right _ _), p4, p5⟩
      · rw [if_neg hgt]
        have hle := Int64.le_iff_toInt_le.mp (Int64.not_lt.mp hgt)
        obtain ⟨i, rfl, hi⟩ := l_of (x := y6) (n := N k) h6 (Int64.lt_iff_toInt_lt.mpr (by rw [lN_toInt (by omega)]; omega)) (by omega)
        have ei : (lN i).toInt.toNat = i := by rw [lN_toInt (by omega)]; rfl
        have ei1 : (lN (i + 1)).toInt.toNat = i + 1 := by rw [lN_toInt (by omega)]; rfl
        have e0 : 0 ≤ (lN (i + 1)).toInt := by rw [lN_toInt (by omega)]; omega
        rw [ei] at hM ⊢
        simp only [ot_s3 hk, lN_1]
        have e1 : c_F B X T τ n c s N σ (R + j * N k + (N k - i)) (j_AckBook_Sent_markAcknowledged F X M 1 (some (B + (3 + 8 * k))) (some (B + 26)) (Option.map (B + ·) fl) (nI j) y4 (lN (i + 1)) (o_w B X τ σ n c s)) := by
          obtain ⟨v, σ', rk', R', p1, p2, p3, p4, p5⟩ := ih.2 j fl y4 (lN (i + 1)) σ R rk hJ hfl hj e0 h4 (by rw [ei1]; omega)
          exact ⟨v, σ', rk', R', p1, p2, by rw [ei1] at p3; omega, p4, p5⟩
        rcases c_packet (B := B) (X := X) (F := F) (n := n) (c := c) (s := s) hJ.1 hT hk (lN i) with ⟨q, q1, q2⟩ | q2
        · simp only [q2, z_cR, reduceCtorEq, if_false, d_gI q1 6 (by omega)]
          refine c_F.ite (fun h0 => ?_) (fun _ => e1)
          obtain ⟨σ1, rk1, p1, p2, p3, p4⟩ := c_end (B := B) (X := X) (F := F) (n := n) (c := c) (s := s) hJ hk (Or.inl rfl : 4 + 8 * k = 4 + 8 * k ∨ 4 + 8 * k = 5 + 8 * k) q1 h0 (wh := 1) (by decide)
          simp only [or_s3_0 hk, ot_s3 hk, p1, z_cV, c_mapn, q_AckBook_Sent_markAcknowledged_90, lN_1]
          have fin : ∀ fl' : Option Nat, (∀ p, fl' = some p → o_pk τ p ∧ σ1.1 p 6 ≠ 0) → c_F B X T τ n c s N σ (R + j * N k + (N k - i)) (j_AckBook_Sent_markAcknowledged F X M 1 (some (B + (3 + 8 * k))) (some (B + 26)) (Option.map (B + ·) fl') (nI j) y4 (lN (i + 1)) (o_w B X τ σ1 n c s)) := fun fl' hf' => by
            obtain ⟨v, σ', rk', R', a1, a2, a3, a4, a5⟩ := ih.2 j fl' y4 (lN (i + 1)) σ1 (R + 1) rk1 p2 hf' hj e0 h4 (by rw [ei1]; omega)
            exact ⟨v, σ', rk', R', a1, a2, by rw [ei1] at a3; omega, p3.trans a4, a5⟩
          refine c_F.ite (fun _ => fin (some q) (fun p hp => ?_)) (fun _ => fin fl (fun p hp => ?_))
          · obtain rfl : q = p := Option.some.inj hp
            exact ⟨q1, p4 q q1.1 (Or.inl rfl)⟩
          · exact ⟨(hfl p hp).1, p4 p (hfl p hp).1.1 (Or.inr (hfl p hp).2)⟩
        · simp only [q2, z_cR, if_true]
          exact e1
theorem s_markAck (hJ : cJ T R τ σ N rk) (hT : T ≤ 512) (hF : 1000000 ≤ F) {k : Nat} (hk : k < 3) : c_F B X T τ n c s N σ (R + 64 * 512) (f_AckBook_Sent_markAcknowledged F X (some (B + (3 + 8 * k))) (some (B + 26)) (o_w B X τ σ n c s)) := by
  obtain ⟨p, hp1, hp2⟩ := hJ.2.2.2.1.2.1
  have h2 := (hJ.1 k hk).2.1
  unfold f_AckBook_Sent_markAcknowledged
  simp only [oi_26_3, hp1]
  obtain ⟨v, σ', rk', R', a1, a2, a3, a4, a5⟩ := (s_markAckJ (B := B) (X := X) (F := F) (τ := τ) (n := n) (c := c) (s := s) (N := N) (T := T) (by omega) hk F).1 p none 0 0 σ R rk hJ (fun _ h => by cases h) hp2 (by omega)
  refine ⟨v, σ', rk', R', a1, a2, Nat.le_trans a3 ?_, a4, a5⟩
  have := Nat.mul_le_mul hp2 (show N k ≤ 512 by omega)
  omega
theorem s_settle (hJ : cJ T R τ σ N rk) (hT : T ≤ 512) (hF : R + 1000000 ≤ F) {k g : Nat} (hk : k < 3) (hg : o_pk τ g) (x : Int32) : c_I B X T τ n c s N σ (R + 40000) (f_AckBook_settle F X (some (B + 0)) (some (B + (2 + 8 * k))) (some (B + g)) x (o_w B X τ σ n c s)) := by
  have h100 : ∀ (σ1 : zS) (R1 : Nat) (rk1 : Nat → Nat) (q : Nat), cJ T R1 τ σ1 N rk1 → R1 ≤ R + 64 * 512 → cK σ σ1 → o_pk τ q → c_I B X T τ n c s N σ (R + 40000) (q_AckBook_settle_100 F X (some (B + 0)) (some (B + (2 + 8 * k))) (some (B + q)) (o_w B X τ σ1 n c s)) := by
    intro σ1 R1 rk1 q hJ1 hR1 hK1 hq
    have hN := (hJ1.1 k hk).2.1
    obtain ⟨v, σ2, rk2, R2, a1, a2, a3, a4⟩ := s_leaveAckJ (B := B) (X := X) (F := F) (n := n) (c := c) (s := s) (τ := τ) (N := N) (T := T) (R := R1) (rk := rk1) F 0 (some q) σ1 hJ1 ⟨by omega, fun q' hq' => by obtain rfl : q = q' := Option.some.inj hq'; exact ⟨hq, by omega⟩⟩
    have a1 : f_AckBook_Flow_leaveAcknowledged F X (some (B + 30)) (some (B + q)) (o_w B X τ σ1 n c s) = _ := a1
    obtain ⟨σ3, rk3, R3, b1, b2, b3, b4⟩ := s_look (B := B) (X := X) (F := F) (n := n) (c := c) (s := s) a2 (by omega) (by omega) hk
    unfold q_AckBook_settle_100
    simp only [or_0_3, ot_30, a1, z_cI, or_s2_1 hk, ot_0, b1, z_cV, op_0_5]
    exact ⟨_, _, rk3, R3, rfl, b2.I (Or.inl (by omega)), by omega, ((hK1.trans a4).trans b4).trans (cK.I (by omega))⟩
  have h76 : ∀ (σ1 : zS) (R1 : Nat) (rk1 : Nat → Nat) (q : Nat) (y : Int32), cJ T R1 τ σ1 N rk1 → R1 ≤ R + 64 * 512 → cK σ σ1 → o_pk τ q → c_I B X T τ n c s N σ (R + 40000) (q_AckBook_settle_76 F X (some (B + 0)) (some (B + (2 + 8 * k))) (some (B + g)) (some (B + q)) y (o_w B X τ σ1 n c s)) := by
    intro σ1 R1 rk1 q y hJ1 hR1 hK1 hq
    obtain ⟨σ2, a1, a2, a3⟩ := s_take (B := B) (X := X) (F := F) (n := n) (c := c) (s := s) hJ1 (σ1.1 0 4 - σ1.1 g 2) y (σ1.1 0 4)
    unfold q_AckBook_settle_76
    simp only [or_0_2, oi_0_4, d_gI hg 2 (by omega), ot_29, a1, z_cV]
    exact h100 σ2 R1 rk1 q a2 hR1 (hK1.trans a3) hq
  have h12 : ∀ y : Int32, c_I B X T τ n c s N σ (R + 40000) (q_AckBook_settle_12 F X (some (B + 0)) (some (B + (2 + 8 * k))) (some (B + g)) x y (o_w B X τ σ n c s)) := by
    intro y
    unfold q_AckBook_settle_12
    simp only [or_s2_1 hk, d_gI hg 0 (by omega), ot_s3 hk, f_AckBook_Sent_raiseGreatest, oi_s3_6 hk, op_s3_6 hk, z_cV, or_0_1]
    have hJ1 : cJ T R τ (o_I σ (3 + 8 * k) 6 (if σ.1 (3 + 8 * k) 6 < σ.1 g 0 then σ.1 g 0 else σ.1 (3 + 8 * k) 6)) N rk := hJ.I (Or.inl (by omega))
    have hK1 : cK σ (o_I σ (3 + 8 * k) 6 (if σ.1 (3 + 8 * k) 6 < σ.1 g 0 then σ.1 g 0 else σ.1 (3 + 8 * k) 6)) := cK.I (by omega)
    generalize o_I σ (3 + 8 * k) 6 (if σ.1 (3 + 8 * k) 6 < σ.1 g 0 then σ.1 g 0 else σ.1 (3 + 8 * k) 6) = σ1 at hJ1 hK1
    obtain ⟨o, σ2, rk2, R2, a1, a2, a3, a4, a5⟩ := s_markAck (B := B) (X := X) (F := F) (n := n) (c := c) (s := s) hJ1 hT (by omega) hk
    simp only [a1]
    cases o with
    | none =>
      simp only [Option.map_none, va_rf, z_cR, if_true]
      exact ⟨_, σ2, rk2, R2, rfl, a2, by omega, hK1.trans a4⟩
    | some q =>
      have hq := a5 q rfl
      obtain ⟨v, hv⟩ := s_elicJ (B := B) (X := X) (F := F) (n := n) (c := c) (s := s) a2 F (some q) ⟨by omega, fun q' hq' => by obtain rfl : q = q' := Option.some.inj hq'; exact ⟨hq.1, by omega⟩⟩
      have hv : f_AckBook_hasEliciting F X (some (B + q)) (o_w B X τ σ2 n c s) = _ := hv
      simp only [Option.map_some, va_rf, z_cR, reduceCtorEq, if_false, hv, z_cI, oi_s2_0 hk]
      have f1 := h100 σ2 R2 rk2 q a2 a3 (hK1.trans a4) hq.1
      have f2 := fun y => h76 σ2 R2 rk2 q y a2 a3 (hK1.trans a4) hq.1
      exact c_I.ite (fun _ => f1) (fun _ => c_I.ite (fun _ => f1) (fun _ => c_I.ite (fun _ => f2 _) (fun _ => f2 _)))
  unfold f_AckBook_settle
  simp only [d_gI hg 6 (by omega)]
  exact c_I.ite (fun _ => h12 _) (fun _ => h12 _)
end CF
