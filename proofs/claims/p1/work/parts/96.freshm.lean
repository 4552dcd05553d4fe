section LM
variable {B X F : Nat} {τ : zK} {n c s T : Nat} {σ : zS}
/-- the reference as it is made, but for its throw and its clock -/
def f0M (σ : zS) : Prop := ∀ o f, 31 ≤ o → o < 55 → ¬ (o = 31 ∧ f ≤ 1) → σ.1 o f = o_s0.1 o f ∧ σ.2.1 o f = 0
theorem f0M.of {σ : zS} (h : xE o_s0 σ) : f0M σ := fun o f h1 h2 _ => ⟨by rw [(h o h1 h2).1], by rw [(h o h1 h2).2.1]; rfl⟩
theorem f0M.w (h : f0M σ) {f : Nat} (hf : f ≤ 1) (x : Int32) : f0M (o_I σ 31 f x) := fun o g h1 h2 h3 => ⟨by rw [i11, if_neg (fun z => h3 ⟨z.1, by omega⟩)]; exact (h o g h1 h2 h3).1, (h o g h1 h2 h3).2⟩
theorem f0M.z (h : f0M σ) (o : Nat) {k : Nat} (hk : k < 3) (ho : o = 32 ∨ o = 39 ∨ o = 47 ∨ o = 52) : σ.1 o k = 0 := by
  rw [(h o k (by omega) (by omega) (by omega)).1]
  rcases ho with rfl | rfl | rfl | rfl <;> rfl
theorem f0M.m (h : f0M σ) (o : Nat) {k : Nat} (hk : k < 3) (ho : o = 40 ∨ o = 41) : σ.1 o k = -1 := by
  rw [(h o k (by omega) (by omega) (by omega)).1]
  rcases ho with rfl | rfl <;> (rcases (by omega : k = 0 ∨ k = 1 ∨ k = 2) with rfl | rfl | rfl <;> rfl)
theorem f0M.f (h : f0M σ) {f : Nat} (hf : 1 < f) : σ.1 31 f = o_s0.1 31 f := (h 31 f (by omega) (by omega) (by omega)).1
theorem m_outs0 (h : f0M σ) {k : Nat} (hk : k < 3) (b : Int32) (hF : 20000 ≤ F) : f_AckBookModel_outs F X (some (B + 31)) (nI k) b (o_w B X τ σ n c s) = some (.inl (some (.int 0)), o_w B X τ σ n c s) := by
  obtain ⟨N, rfl⟩ : ∃ N, F = N + 1 := ⟨F - 1, by omega⟩
  unfold f_AckBookModel_outs
  rw [j_AckBookModel_outs]
  simp (disch := omega) only [or_31_4, oln_32, h.z 32 hk (Or.inl rfl)]
  rw [if_pos (by decide)]
theorem m_probe0 (h : f0M σ) {k : Nat} (hk : k < 3) (hF : 20000 ≤ F) : f_AckBookModel_probeTime F X (some (B + 31)) (nI k) (o_w B X τ σ n c s) = some (.inl (some (.int (-1))), o_w B X τ σ n c s) := by
  have e2 : σ.1 31 2 = 0 := h.f (by decide)
  have e3 : σ.1 31 3 = 0 := h.f (by decide)
  have o0 := fun b => m_outs0 (B := B) (X := X) (F := F) (τ := τ) (n := n) (c := c) (s := s) h (k := 0) (by decide) b hF
  have o1 := fun b => m_outs0 (B := B) (X := X) (F := F) (τ := τ) (n := n) (c := c) (s := s) h (k := 1) (by decide) b hF
  have o2 := fun b => m_outs0 (B := B) (X := X) (F := F) (τ := τ) (n := n) (c := c) (s := s) h (k := 2) (by decide) b hF
  have ok := fun b => m_outs0 (B := B) (X := X) (F := F) (τ := τ) (n := n) (c := c) (s := s) h hk b hF
  have o0 : ∀ b, f_AckBookModel_outs F X (some (B + 31)) 0 b (o_w B X τ σ n c s) = _ := o0
  have o1 : ∀ b, f_AckBookModel_outs F X (some (B + 31)) 1 b (o_w B X τ σ n c s) = _ := o1
  have o2 : ∀ b, f_AckBookModel_outs F X (some (B + 31)) 2 b (o_w B X τ σ n c s) = _ := o2
  have h23 : q_AckBookModel_probeTime_23 F X (j_AckBookModel_probeTime F X F) (some (B + 31)) (nI k) (o_w B X τ σ n c s) = some (.inl (some (.int (-1))), o_w B X τ σ n c s) := by
    unfold q_AckBookModel_probeTime_23 q_AckBookModel_probeTime_125
    simp only [ot_31, ok, o0, o1, o2, y_cI, oi_31_3, e3, if_true]
    rw [if_pos (by decide), if_pos (by decide)]
  unfold f_AckBookModel_probeTime
  simp (disch := omega) only [or_31_11, oln_39, h.z 39 hk (Or.inr (Or.inl rfl)), if_true, oi_31_2, e2]
  split
  · rfl
  · exact h23
theorem m_flight0 (h : f0M σ) (hF : 20000 ≤ F) : f_AckBookModel_flight F X (some (B + 31)) (o_w B X τ σ n c s) = some (.inl (some (.int 0)), o_w B X τ σ n c s) := by
  have step : ∀ (N k : Nat) (x : Int32), k < 3 → j_AckBookModel_flight F X (N + 2) 0 (some (B + 31)) 0 (nI k) x (o_w B X τ σ n c s) = j_AckBookModel_flight F X N 0 (some (B + 31)) 0 (nI (k + 1)) 0 (o_w B X τ σ n c s) := by
    intro N k x hk
    rw [j_AckBookModel_flight, if_pos rfl, if_neg (show ¬ (3 : Int32) ≤ nI k from nI_ge (b := 3) hk (by decide)), j_AckBookModel_flight, if_neg (by decide)]
    simp (disch := omega) only [or_31_4, oln_32, h.z 32 hk (Or.inl rfl), nI_1]
    rw [if_pos (by decide)]
  obtain ⟨N, rfl⟩ : ∃ N, F = N + 7 := ⟨F - 7, by omega⟩
  unfold f_AckBookModel_flight
  refine (step (N + 5) 0 _ (by decide)).trans ((step (N + 3) 1 _ (by decide)).trans ((step (N + 1) 2 _ (by decide)).trans ?_))
  rw [j_AckBookModel_flight, if_pos rfl, if_pos (by decide)]
theorem m_tick0 (h : f0M σ) (hF : 20000 ≤ F) : f_AckBookModel_tick F X (some (B + 31)) (o_w B X τ σ n c s) = some (.inl (some (.int 0)), o_w B X τ (o_I (o_I σ 31 0 0) 31 1 (σ.1 31 1 + 1)) n c s) := by
  have e : (o_I σ 31 0 0).1 31 1 = σ.1 31 1 := by simp [i11]
  have h1 : f0M (o_I (o_I σ 31 0 0) 31 1 (σ.1 31 1 + 1)) := (h.w (by decide) 0).w (by decide) _
  unfold f_AckBookModel_tick
  rw [op_31_0, oi_31_1, e, op_31_1]
  generalize o_I (o_I σ 31 0 0) 31 1 (σ.1 31 1 + 1) = σ2 at h1
  have s0 : ∀ (N k : Nat) (x : Int32), k < 3 → j_AckBookModel_tick F X (N + 1) 0 (some (B + 31)) (-1) (nI k) x (o_w B X τ σ2 n c s) = j_AckBookModel_tick F X N 0 (some (B + 31)) (-1) (nI (k + 1)) 0 (o_w B X τ σ2 n c s) := by
    intro N k x hk
    rw [j_AckBookModel_tick, if_pos rfl, if_neg (show ¬ (3 : Int32) ≤ nI k from nI_ge (b := 3) hk (by decide))]
    simp (disch := omega) only [or_31_13, oln_41, h1.m 41 hk (Or.inr rfl), nI_1]
    rw [if_pos (by decide)]
  have s1 : ∀ (N k : Nat) (y : Int32), k < 3 → j_AckBookModel_tick F X (N + 1) 1 (some (B + 31)) (-1) y (nI k) (o_w B X τ σ2 n c s) = j_AckBookModel_tick F X N 1 (some (B + 31)) (-1) y (nI (k + 1)) (o_w B X τ σ2 n c s) := by
    intro N k y hk
    rw [j_AckBookModel_tick, if_neg (by decide), if_neg (show ¬ (3 : Int32) ≤ nI k from nI_ge (b := 3) hk (by decide))]
    simp only [ot_31, m_probe0 h1 hk hF, y_cI, nI_1]
    rw [if_pos (by decide)]
  obtain ⟨N, hN⟩ : ∃ N, F = N + 8 := ⟨F - 8, by omega⟩
  have key : ∀ M, M = N + 8 → j_AckBookModel_tick F X M 0 (some (B + 31)) (-1) 0 0 (o_w B X τ σ2 n c s) = some (.inl (some (.int 0)), o_w B X τ σ2 n c s) := by
    rintro M rfl
    refine (s0 (N + 7) 0 _ (by decide)).trans ((s0 (N + 6) 1 _ (by decide)).trans ((s0 (N + 5) 2 _ (by decide)).trans ?_))
    rw [j_AckBookModel_tick, if_pos rfl, if_pos (by decide), if_pos (by decide)]
    refine (s1 (N + 3) 0 _ (by decide)).trans ((s1 (N + 2) 1 _ (by decide)).trans ((s1 (N + 1) 2 _ (by decide)).trans ?_))
    rw [j_AckBookModel_tick, if_neg (by decide), if_pos (by decide), if_neg (by decide)]
  exact key F hN
theorem m_nextB {x y : Int32} (hx : x < 0 ∨ 2 < x) : f_AckBookModel_next F X (some (B + 31)) x y (o_w B X τ σ n c s) = some (.inl (some (.int 0)), o_w B X τ (o_I σ 31 0 1) n c s) := by
  unfold f_AckBookModel_next
  simp only [s_noSpace, z_cI, ot_31, if_pos hx, s_fails 1 1 (Or.inr rfl)]
  rw [if_neg (by decide), if_neg (by decide)]
theorem m_next0 (h : f0M σ) {k : Nat} (hk : k < 3) (y : Int32) : f_AckBookModel_next F X (some (B + 31)) (nI k) y (o_w B X τ σ n c s) = some (.inl (some (.int (-1))), o_w B X τ (o_I σ 31 0 0) n c s) := by
  have h1 := h.w (Nat.zero_le 1) 0
  have q26 : ∀ b : Nat, b < 2 → q_AckBookModel_next_26 F X (some (B + 31)) (2 * nI k) (nI b) (o_w B X τ (o_I σ 31 0 0) n c s) = some (.inl (some (.int (-1))), o_w B X τ (o_I σ 31 0 0) n c s) := by
    intro b hb
    have e4 : (o_I σ 31 0 0).1 44 (2 * k + b) = 0 := (h1 44 _ (by omega) (by omega) (by omega)).1
    have e3 : (o_I σ 31 0 0).1 43 (2 * k + b) = 0 := (h1 43 _ (by omega) (by omega) (by omega)).1
    unfold q_AckBookModel_next_26
    simp (disch := omega) only [e_m2, nI_add, or_31_17, oln_44, or_31_16, oln_43, e3, e4, if_true]
  unfold f_AckBookModel_next
  simp only [s_noSpace, z_cI, ot_31, if_neg (e_spk hk), s_fails 0 1 (Or.inl rfl), if_true]
  split
  · exact q26 0 (by decide)
  · exact q26 1 (by decide)
theorem m_stateB {x y : Int32} (hx : x < 0 ∨ 2 < x) : f_AckBookModel_state F X (some (B + 31)) x y (o_w B X τ σ n c s) = some (.inl (some (.int 0)), o_w B X τ (o_I σ 31 0 1) n c s) := by
  unfold f_AckBookModel_state
  simp only [s_noSpace, z_cI, ot_31, if_pos hx, s_fails 1 1 (Or.inr rfl)]
  rw [if_neg (by decide), if_neg (by decide)]
theorem m_state0 (h : f0M σ) {k : Nat} (hk : k < 3) (y : Int32) : f_AckBookModel_state F X (some (B + 31)) (nI k) y (o_w B X τ σ n c s) = some (.inl (some (.int (-1))), o_w B X τ (o_I σ 31 0 0) n c s) := by
  have h1 := h.w (Nat.zero_le 1) 0
  unfold f_AckBookModel_state
  simp (disch := omega) only [s_noSpace, z_cI, ot_31, if_neg (e_spk hk), s_fails 0 1 (Or.inl rfl), if_true, or_31_4, oln_32, h1.z 32 hk (Or.inl rfl)]
  by_cases q : y < 0
  · rw [if_pos q]
  · rw [if_neg q, if_neg q]
theorem m_ack0 (h : f0M σ) (x y : Int32) : ∃ σ', f_AckBookModel_acknowledge F X (some (B + 31)) x y (o_w B X τ σ n c s) = some (.inl (some (.int 0)), o_w B X τ σ' n c s) ∧ σ'.1 31 0 = 1 := by
  have e27 : σ.1 31 27 = 0 := h.f (by decide)
  have h17 : ∃ σ', q_AckBookModel_acknowledge_17 F X (some (B + 31)) x y (o_w B X τ σ n c s) = some (.inl (some (.int 0)), o_w B X τ σ' n c s) ∧ σ'.1 31 0 = 1 := by
    unfold q_AckBookModel_acknowledge_17 q_AckBookModel_acknowledge_22
    simp only [s_noSpace, z_cI, ot_31]
    rcases e_sp x with hx | ⟨k, hk, rfl⟩
    · simp only [if_pos hx, s_fails 1 1 (Or.inr rfl), z_cI, op_31_27]
      rw [if_neg (by decide), if_neg (by decide)]
      exact ⟨_, rfl, by simp [i11]⟩
    · have hd := (h.w (Nat.zero_le 1) 0).z 39 hk (Or.inr (Or.inl rfl))
      simp (disch := omega) only [if_neg (e_spk hk), s_fails 0 1 (Or.inl rfl), z_cI, if_true, or_31_11, oln_39, hd, ot_31, s_fails 0 2 (Or.inl rfl), q_AckBookModel_acknowledge_71, q_AckBookModel_acknowledge_76, s_fails 1 1 (Or.inr rfl), op_31_27]
      rw [if_neg (by decide), if_neg (by decide), if_neg (by decide)]
      exact ⟨_, rfl, by simp [i11]⟩
  unfold f_AckBookModel_acknowledge
  simp only [oi_31_27, e27, if_true]
  split
  · exact h17
  · split
    · exact h17
    · exact h17
theorem m_lookB {x : Int32} (hx : x < 0 ∨ nI 11 < x) : f_AckBookModel_look F X (some (B + 31)) x (o_w B X τ σ n c s) = some (.inl (some (.int 0)), o_w B X τ (o_I σ 31 0 1) n c s) := by
  have h11 : q_AckBookModel_look_11 F X (some (B + 31)) x (some (B + 31)) (o_w B X τ σ n c s) = some (.inl (some (.int 0)), o_w B X τ (o_I σ 31 0 1) n c s) := by
    unfold q_AckBookModel_look_11 q_AckBookModel_look_16
    simp only [ot_31, s_fails 1 1 (Or.inr rfl), z_cI]
    rw [if_neg (by decide), if_neg (by decide)]
  unfold f_AckBookModel_look
  by_cases q : x < 0
  · rw [if_pos q]; exact h11
  · rw [if_neg q, if_neg (show ¬ x ≤ 11 from Int32.not_le.mpr (hx.resolve_left q))]
    exact h11
theorem m_look0 (h : f0M σ) (h1 : σ.1 31 1 = 0) (hF : 20000 ≤ F) {j : Nat} (hj : j < 12) : f_AckBookModel_look F X (some (B + 31)) (nI j) (o_w B X τ σ n c s) = some (.inl (some (.int (lk0 j))), o_w B X τ (o_I σ 31 0 0) n c s) := by
  have h2 := h.w (Nat.zero_le 1) 0
  have z1 : (o_I σ 31 0 0).1 31 1 = 0 := by rw [i11, if_neg (by omega)]; exact h1
  unfold f_AckBookModel_look
  rw [if_neg (nI_pos (by omega)), if_pos (show nI j ≤ (11 : Int32) from nI_le (b := 11) (by omega) (by decide))]
  unfold q_AckBookModel_look_16
  simp only [ot_31, s_fails 0 1 (Or.inl rfl), y_cI, if_true, oi_31_1, z1, m_flight0 h2 hF, oi_31_24, oi_31_25, oi_31_26, oi_31_18, oi_31_19, oi_31_20, oi_31_21, oi_31_23, s_limit, s_greater, h2.f (show 1 < 24 by decide), h2.f (show 1 < 25 by decide), h2.f (show 1 < 26 by decide), h2.f (show 1 < 18 by decide), h2.f (show 1 < 19 by decide), h2.f (show 1 < 20 by decide), h2.f (show 1 < 21 by decide), h2.f (show 1 < 23 by decide)]
  rcases (by omega : j = 0 ∨ j = 1 ∨ j = 2 ∨ j = 3 ∨ j = 4 ∨ j = 5 ∨ j = 6 ∨ j = 7 ∨ j = 8 ∨ j = 9 ∨ j = 10 ∨ j = 11) with rfl | rfl | rfl | rfl | rfl | rfl | rfl | rfl | rfl | rfl | rfl | rfl <;> rfl
theorem m_spB {x y : Int32} (hx : x < 0 ∨ 2 < x) : f_AckBookModel_space F X (some (B + 31)) x y (o_w B X τ σ n c s) = some (.inl (some (.long 0)), o_w B X τ (o_I σ 31 0 1) n c s) := by
  unfold f_AckBookModel_space
  simp only [s_noSpace, z_cI, ot_31, if_pos hx, s_fails 1 1 (Or.inr rfl)]
  rw [if_neg (by decide), if_neg (by decide)]
theorem m_spN {k : Nat} (hk : k < 3) {y : Int32} (hy : y < 0 ∨ nI 10 < y) : f_AckBookModel_space F X (some (B + 31)) (nI k) y (o_w B X τ σ n c s) = some (.inl (some (.long 0)), o_w B X τ (o_I (o_I σ 31 0 0) 31 0 2) n c s) := by
  have h23 : q_AckBookModel_space_23 F X (some (B + 31)) (nI k) y (some (B + 31)) (o_w B X τ (o_I σ 31 0 0) n c s) = some (.inl (some (.long 0)), o_w B X τ (o_I (o_I σ 31 0 0) 31 0 2) n c s) := by
    unfold q_AckBookModel_space_23 q_AckBookModel_space_28
    simp only [ot_31, s_fails 1 2 (Or.inr rfl), z_cI]
    rw [if_neg (by decide), if_neg (by decide)]
  unfold f_AckBookModel_space
  simp only [s_noSpace, z_cI, ot_31, if_neg (e_spk hk), s_fails 0 1 (Or.inl rfl), if_true]
  by_cases q : y < 0
  · rw [if_pos q]; exact h23
  · rw [if_neg q, if_neg (show ¬ y ≤ 10 from Int32.not_le.mpr (hy.resolve_left q))]
    exact h23
theorem m_sp0 (h : f0M σ) (hF : 20000 ≤ F) {k j : Nat} (hk : k < 3) (hj : j < 11) : f_AckBookModel_space F X (some (B + 31)) (nI k) (nI j) (o_w B X τ σ n c s) = some (.inl (some (.long (sp0 j))), o_w B X τ (o_I (o_I σ 31 0 0) 31 0 0) n c s) := by
  have h2 := (h.w (Nat.zero_le 1) 0).w (Nat.zero_le 1) 0
  have z50 : (o_I (o_I σ 31 0 0) 31 0 0).2.1 50 k = 0 := (h2 50 k (by omega) (by omega) (by omega)).2
  have e2 : (o_I (o_I σ 31 0 0) 31 0 0).1 31 2 = 0 := h2.f (by decide)
  have hpa : f_AckBookModel_patience F X (some (B + 31)) (nI k) (o_w B X τ (o_I (o_I σ 31 0 0) 31 0 0) n c s) = some (.inl (some (.int 300)), o_w B X τ (o_I (o_I σ 31 0 0) 31 0 0) n c s) := by
    unfold f_AckBookModel_patience
    simp only [oi_31_18, oi_31_19, h2.f (show 1 < 18 by decide), h2.f (show 1 < 19 by decide), s_greater, y_cI, oi_31_2, e2, if_true]
    split <;> rfl
  unfold f_AckBookModel_space
  simp only [s_noSpace, z_cI, ot_31, if_neg (e_spk hk), s_fails 0 1 (Or.inl rfl), if_true]
  rw [if_neg (nI_pos (by omega)), if_pos (show nI j ≤ (10 : Int32) from nI_le (b := 10) (by omega) (by decide))]
  unfold q_AckBookModel_space_28
  simp (config := { maxSteps := 2000000 }) (disch := omega) only [ot_31, s_fails 0 2 (Or.inl rfl), y_cI, if_true, or_31_4, oln_32, h2.z 32 hk (Or.inl rfl), or_31_12, oln_40, h2.m 40 hk (Or.inl rfl), or_31_13, oln_41, h2.m 41 hk (Or.inr rfl), m_probe0 h2 hk hF, m_outs0 h2 hk _ hF, or_31_30, oln_47, h2.z 47 hk (by omega), or_31_35, oln_52, h2.z 52 hk (by omega), hpa, or_31_11, oln_39, h2.z 39 hk (by omega), or_31_33, oln_50, z50]
  rcases (by omega : j = 0 ∨ j = 1 ∨ j = 2 ∨ j = 3 ∨ j = 4 ∨ j = 5 ∨ j = 6 ∨ j = 7 ∨ j = 8 ∨ j = 9 ∨ j = 10) with rfl | rfl | rfl | rfl | rfl | rfl | rfl | rfl | rfl | rfl | rfl <;> rfl
end LM
