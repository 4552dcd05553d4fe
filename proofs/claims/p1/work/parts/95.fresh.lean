/-! The first call on a fresh object. -/
section LF
variable {B X F : Nat} {τ τ1 : zK} {n c s n1 c1 s1 T : Nat} {σ σ1 σ2 : zS}
def f0C (σ : zS) : Prop := (∀ k, k < 3 → (σ.1 (2 + 8 * k) 3 = 0 ∧ σ.1 (3 + 8 * k) 4 = 0 ∧ σ.1 (3 + 8 * k) 7 = -1 ∧ σ.1 (6 + 8 * k) 1 = 0) ∧ σ.2.2 (4 + 8 * k) 0 = none ∧ σ.2.2 (5 + 8 * k) 0 = none) ∧ σ.1 0 7 = 0 ∧ σ.1 0 8 = 0
theorem f0C.s0 : f0C o_s0 := ⟨fun k hk => by rcases (by omega : k = 0 ∨ k = 1 ∨ k = 2) with rfl | rfl | rfl <;> exact ⟨⟨rfl, rfl, rfl, rfl⟩, rfl, rfl⟩, rfl, rfl⟩
theorem f0C.t (h : f0C σ) (x : Int32) : f0C (o_I σ 0 4 x) := by
  refine ⟨fun k hk => ?_, ?_, ?_⟩
  · obtain ⟨⟨h1, h2, h3, h4⟩, h5⟩ := h.1 k hk
    exact ⟨⟨by rw [i11, if_neg (by omega)]; exact h1, by rw [i11, if_neg (by omega)]; exact h2, by rw [i11, if_neg (by omega)]; exact h3, by rw [i11, if_neg (by omega)]; exact h4⟩, h5⟩
  · rw [i11, if_neg (by omega)]; exact h.2.1
  · rw [i11, if_neg (by omega)]; exact h.2.2
theorem c_probe0 (h : f0C σ) {k : Nat} (hk : k < 3) : f_AckBook_probeTime F X (some (B + 0)) (some (B + (2 + 8 * k))) (o_w B X τ σ n c s) = some (.inl (some (.int (-1))), o_w B X τ σ n c s) := by
  obtain ⟨⟨h1, h2, h3, h4⟩, -⟩ := h.1 k hk
  obtain ⟨u, hu⟩ := s_pat (B := B) (X := X) (F := F) (τ := τ) (σ := σ) (n := n) (c := c) (s := s) hk
  have h24 : q_AckBook_probeTime_24 F X (some (B + 0)) (some (B + (2 + 8 * k))) (o_w B X τ σ n c s) = some (.inl (some (.int (-1))), o_w B X τ σ n c s) := by
    unfold q_AckBook_probeTime_24 f_AckBook_probesWithoutCause
    simp only [ot_0, hu, y_cI, oi_0_5, or_s2_1 hk, oi_s3_4 hk, h2, oi_0_8, h.2.2, if_true]
    rw [if_pos (by decide)]
  unfold f_AckBook_probeTime
  simp only [oi_s2_3 hk, h1, oi_s2_0 hk, oi_0_7, h.2.1, if_true]
  split
  · rfl
  · exact h24
theorem c_earl0 (h : f0C σ) (x1 : Int32) (hF : 20000 ≤ F) : f_AckBook_earliest F X (some (B + 0)) x1 (o_w B X τ σ n c s) = some (.inl (some (va_rf none)), o_w B X τ σ n c s) := by
  have step : ∀ (N k : Nat) (t : Int32), k < 3 → j_AckBook_earliest F X (N + 1) (some (B + 0)) x1 none t (nI k) (o_w B X τ σ n c s) = j_AckBook_earliest F X N (some (B + 0)) x1 none t (nI (k + 1)) (o_w B X τ σ n c s) := by
    intro N k t hk
    obtain ⟨⟨h1, h2, h3, h4⟩, -⟩ := h.1 k hk
    have hp := c_probe0 (B := B) (X := X) (F := F) (τ := τ) (n := n) (c := c) (s := s) h hk
    rw [j_AckBook_earliest]
    simp only [or_0_0, oan_1]
    rw [if_neg (show ¬ Int32.ofNat 3 ≤ nI k from nI_ge (b := 3) hk (by decide))]
    simp only [oln_1 hk, or_s2_1 hk, oi_s3_7 hk, h3, ot_0, hp, y_cI, q_AckBook_earliest_50, q_AckBook_earliest_71, q_AckBook_earliest_72, if_true, nI_1]
    split <;> rfl
  obtain ⟨N, rfl⟩ : ∃ N, F = N + 4 := ⟨F - 4, by omega⟩
  unfold f_AckBook_earliest
  simp only [oi_0_4]
  refine (step (N + 3) 0 _ (by decide)).trans ((step (N + 2) 1 _ (by decide)).trans ((step (N + 1) 2 _ (by decide)).trans ?_))
  rw [j_AckBook_earliest]
  simp only [or_0_0, oan_1]
  rw [if_pos (by decide)]
theorem c_tick0 (h : f0C σ) (hF : 20000 ≤ F) : f_AckBook_tick F X (some (B + 0)) (o_w B X τ σ n c s) = some (.inl (some (.int 0)), o_w B X τ (o_I σ 0 4 (σ.1 0 4 + 1)) n c s) := by
  have h1 := h.t (σ.1 0 4 + 1)
  unfold f_AckBook_tick
  simp only [oi_0_4, op_0_4, ot_0, c_earl0 h1 _ hF, va_rf, z_cR, if_true]
theorem c_next0 (h : f0C σ) {k : Nat} (hk : k < 3) (y : Int32) : f_AckBook_next F X (some (B + 0)) (nI k) y (o_w B X τ σ n c s) = some (.inl (some (.int (-1))), o_w B X τ σ n c s) := by
  obtain ⟨-, h5, h6⟩ := h.1 k hk
  unfold f_AckBook_next f_AckBook_Chain_removeFirst
  simp only [ot_0, c_known hk, y_cRs, or_s2_1 hk, or_s3_0 hk, or_s3_1 hk, ot_s4 hk, ot_s5 hk, c_chG hk (Or.inl rfl : 4 + 8 * k = 4 + 8 * k ∨ 4 + 8 * k = 5 + 8 * k) (Or.inl rfl), c_chG hk (Or.inr rfl : 5 + 8 * k = 4 + 8 * k ∨ 5 + 8 * k = 5 + 8 * k) (Or.inl rfl), h5, h6, Option.map_none, if_true, y_cI]
  split <;> rfl
theorem c_packet0 (h : f0C σ) {k : Nat} (hk : k < 3) (y : Int64) : f_AckBook_Sent_packet F X (some (B + (3 + 8 * k))) y (o_w B X τ σ n c s) = some (.inl (some (va_rf none)), o_w B X τ σ n c s) := by
  obtain ⟨⟨h1, h2, h3, h4⟩, -⟩ := h.1 k hk
  unfold f_AckBook_Sent_packet
  simp only [or_s3_2 hk, ot_s6 hk, c_size hk, h4, y_cI, lg_cmp_lt]
  by_cases q : y < 0
  · rw [if_pos q]
  · rw [if_neg q, if_neg (show ¬ y < (0 : Int32).toInt64 from q)]
theorem c_state0 (h : f0C σ) {k : Nat} (hk : k < 3) (y : Int32) : f_AckBook_state F X (some (B + 0)) (nI k) y (o_w B X τ σ n c s) = some (.inl (some (.int (-1))), o_w B X τ σ n c s) := by
  unfold f_AckBook_state
  simp only [ot_0, c_known hk, y_cRs, or_s2_1 hk, ot_s3 hk, c_packet0 h hk, va_rf, z_cR, if_true]
/-- where nothing is put together and nothing was sent, an acknowledgement is refused -/
theorem c_ack0 (x y : Int32) : f_AckBook_acknowledge F X (some (B + 0)) x y (o_w B X τ o_s0 n c s) = z_thr (o_w B X τ (o_I (o_I o_s0 26 3 0) 26 2 0) n c s) 11 := by
  have h1 : f0C (o_I (o_I o_s0 26 3 0) 26 2 0) := ⟨fun k hk => by rcases (by omega : k = 0 ∨ k = 1 ∨ k = 2) with rfl | rfl | rfl <;> exact ⟨⟨rfl, rfl, rfl, rfl⟩, rfl, rfl⟩, rfl, rfl⟩
  have e0 : o_s0.1 26 2 = 0 := rfl
  have e3 : (o_I (o_I o_s0 26 3 0) 26 2 0).1 26 3 = 0 := rfl
  unfold f_AckBook_acknowledge f_AckBook_Claim_close
  simp only [or_0_1, ot_26, oi_26_2, e0, op_26_3, op_26_2, y_cV, ot_0]
  rcases e_sp x with hx | ⟨k, hk, rfl⟩
  · rw [c_knownB hx, z_thr_cR]
  · have hd := (h1.1 k hk).1.1
    simp only [c_known hk, y_cRs, f_AckBook_refuseDiscarded, oi_s2_3 hk, hd, if_true, y_cV]
    by_cases q : y < 0
    · rw [if_pos q]
    · rw [if_neg q]
      by_cases q2 : y ≤ 100000
      · rw [if_pos q2]
        simp only [or_s2_1 hk, or_0_1, ot_26, f_AckBook_Claim_greatest, oi_26_3, e3, if_true, y_cL, ot_s3 hk, c_packet0 h1 hk, va_rf, z_cR]
      · rw [if_neg q2]
def lk0 (j : Nat) : Int32 := [(0 : Int32), 0, 12000, -1, -1, 800, 200, 0, -1, 0, 112, 12000].getD j 0
theorem c_look0 {j : Nat} (hj : j < 12) : f_AckBook_look F X (some (B + 0)) (nI j) (o_w B X τ o_s0 n c s) = some (.inl (some (.int (lk0 j))), o_w B X τ o_s0 n c s) := by
  unfold f_AckBook_look
  simp only [oi_0_4, or_0_3, oi_30_0, oi_30_1, oi_30_2, oi_30_3, or_0_2, oi_29_0, oi_29_1, oi_29_2, oi_29_3, oi_0_5, ot_29, f_AckBook_Way_limit, y_cI]
  rcases (by omega : j = 0 ∨ j = 1 ∨ j = 2 ∨ j = 3 ∨ j = 4 ∨ j = 5 ∨ j = 6 ∨ j = 7 ∨ j = 8 ∨ j = 9 ∨ j = 10 ∨ j = 11) with rfl | rfl | rfl | rfl | rfl | rfl | rfl | rfl | rfl | rfl | rfl | rfl <;> rfl
theorem e_11 (N : Nat) (hN : N < 100) (x : Int32) : (x < 0 ∨ nI N < x) ∨ ∃ j, j ≤ N ∧ x = nI j := by
  by_cases h : x < 0
  · exact Or.inl (Or.inl h)
  · obtain ⟨j, hj, rfl⟩ := nI_of h
    by_cases h2 : j ≤ N
    · exact Or.inr ⟨j, h2, rfl⟩
    · exact Or.inl (Or.inr (nI_lt (by omega) hj))
theorem e_11n {N : Nat} (hN : N < 100) {x : Int32} (hx : x < 0 ∨ nI N < x) {i : Nat} (hi : i ≤ N) : ¬ x = nI i := by
  rintro rfl
  rcases hx with h | h
  · exact nI_pos (by omega) h
  · exact nI_nlt hi (by omega) h
theorem c_lookB {x : Int32} (hx : x < 0 ∨ nI 11 < x) : f_AckBook_look F X (some (B + 0)) x (o_w B X τ σ n c s) = z_thr (o_w B X τ σ n c s) 13 := by
  have g := fun {i : Nat} (hi : i ≤ 11) => e_11n (N := 11) (by decide) hx hi
  unfold f_AckBook_look
  rw [if_neg (show ¬ x = 0 from g (i := 0) (by decide)), if_neg (show ¬ x = 1 from g (i := 1) (by decide)), if_neg (show ¬ x = 2 from g (i := 2) (by decide)), if_neg (show ¬ x = 3 from g (i := 3) (by decide)), if_neg (show ¬ x = 4 from g (i := 4) (by decide)), if_neg (show ¬ x = 5 from g (i := 5) (by decide)), if_neg (show ¬ x = 6 from g (i := 6) (by decide)), if_neg (show ¬ x = 7 from g (i := 7) (by decide)), if_neg (show ¬ x = 8 from g (i := 8) (by decide)), if_neg (show ¬ x = 9 from g (i := 9) (by decide)), if_neg (show ¬ x = 10 from g (i := 10) (by decide)), if_neg (show ¬ x = 11 from g (i := 11) (by decide))]
def sp0 (j : Nat) : Int64 := [(0 : Int64), -1, -1, -1, 0, 0, 0, 0, 300, 0, 0].getD j 0
theorem c_space0 {k j : Nat} (hk : k < 3) (hj : j < 11) : f_AckBook_space F X (some (B + 0)) (nI k) (nI j) (o_w B X τ o_s0 n c s) = some (.inl (some (.long (sp0 j))), o_w B X τ o_s0 n c s) := by
  have hp := c_probe0 (B := B) (X := X) (F := F) (τ := τ) (n := n) (c := c) (s := s) f0C.s0 hk
  have hpa : f_AckBook_patience F X (some (B + 0)) (some (B + (2 + 8 * k))) (o_w B X τ o_s0 n c s) = some (.inl (some (.int 300)), o_w B X τ o_s0 n c s) := by
    have e7 : o_s0.1 0 7 = 0 := rfl
    unfold f_AckBook_patience
    simp only [oi_s2_0 hk, oi_0_7, e7, if_true, q_AckBook_patience_19, q_AckBook_patience_20, or_0_2, ot_29, f_AckBook_Way_patience, oi_29_0, oi_29_1, y_cI]
    split <;> rfl
  unfold f_AckBook_space
  simp only [ot_0, c_known hk, y_cRs, or_s2_1 hk, ot_s3 hk, f_AckBook_Sent_count, or_s3_2 hk, ot_s6 hk, c_size hk, y_cI, oi_s3_6 hk, oi_s3_7 hk, hp, oi_s3_3 hk, oi_s3_4 hk, or_s2_2 hk, oi_s7_2 hk, oi_s7_4 hk, hpa, oi_s2_3 hk, ol_s7_3 hk, ot_0]
  rcases (by omega : k = 0 ∨ k = 1 ∨ k = 2) with rfl | rfl | rfl <;> rcases (by omega : j = 0 ∨ j = 1 ∨ j = 2 ∨ j = 3 ∨ j = 4 ∨ j = 5 ∨ j = 6 ∨ j = 7 ∨ j = 8 ∨ j = 9 ∨ j = 10) with rfl | rfl | rfl | rfl | rfl | rfl | rfl | rfl | rfl | rfl | rfl <;> rfl
theorem c_spaceB {k : Nat} (hk : k < 3) {x : Int32} (hx : x < 0 ∨ nI 10 < x) : f_AckBook_space F X (some (B + 0)) (nI k) x (o_w B X τ σ n c s) = z_thr (o_w B X τ σ n c s) 13 := by
  have g := fun {i : Nat} (hi : i ≤ 10) => e_11n (N := 10) (by decide) hx hi
  unfold f_AckBook_space
  simp only [ot_0, c_known hk, y_cRs]
  rw [if_neg (show ¬ x = 0 from g (i := 0) (by decide)), if_neg (show ¬ x = 1 from g (i := 1) (by decide)), if_neg (show ¬ x = 2 from g (i := 2) (by decide)), if_neg (show ¬ x = 3 from g (i := 3) (by decide)), if_neg (show ¬ x = 4 from g (i := 4) (by decide)), if_neg (show ¬ x = 5 from g (i := 5) (by decide)), if_neg (show ¬ x = 6 from g (i := 6) (by decide)), if_neg (show ¬ x = 7 from g (i := 7) (by decide)), if_neg (show ¬ x = 8 from g (i := 8) (by decide)), if_neg (show ¬ x = 9 from g (i := 9) (by decide)), if_neg (show ¬ x = 10 from g (i := 10) (by decide))]
end LF
