section CI
variable {B X F : Nat} {τ : zK} {n c s T R D : Nat} {σ : zS} {N rk : Nat → Nat}
theorem k_due (h : kI T τ σ n c s) (hT : T < 512) (x : Int32) : k_c B X T (f_AckBook_due F X (some (B + 0)) x (o_w B X τ σ n c s)) (qO σ) := by
  obtain ⟨N, rk, R, hJ, hR, hN⟩ := h
  have q0 : ∀ v : Int32, k_c B X T (some (.inl (some (.int v)), o_w B X τ σ n c s)) (qO σ) := fun v => k_ret hJ (by omega) hN ⟨xF.refl σ, xU.refl σ, Or.inl ⟨v, rfl⟩⟩
  unfold f_AckBook_due
  simp only [ot_0]
  rcases e_sp x with hx | ⟨k, hk, rfl⟩
  · rw [c_knownB hx, z_thr_cR]
    exact k_thr hJ (by omega) hN hT 11 (by decide) ⟨xF.refl σ, xU.refl σ, Or.inr rfl⟩
  · have hp : ∃ v : Int32, (v = 0 ∨ v = 1) ∧ f_AckBook_Arrivals_isPressing F X (some (B + (7 + 8 * k))) (σ.1 0 4) (o_w B X τ σ n c s) = some (.inl (some (.int v)), o_w B X τ σ n c s) := by
      unfold f_AckBook_Arrivals_isPressing
      simp only [oi_s7_4 hk, oi_s7_5 hk, oi_s7_6 hk]
      (repeat' split) <;> first | exact ⟨0, Or.inl rfl, rfl⟩ | exact ⟨1, Or.inr rfl, rfl⟩
    obtain ⟨v, hv, hv2⟩ := hp
    simp only [c_known hk, y_cRs, oi_s2_0 hk, or_s2_2 hk, oi_0_4, ot_s7 hk, hv2, y_cI, z_retZ, if_pos hv, oi_s7_4 hk]
    (repeat' refine k_c.ite (fun _ => ?_) (fun _ => ?_)) <;> exact q0 _
theorem k_written (h : kI T τ σ n c s) (hT : T < 512) (x : Int32) : k_c B X T (f_AckBook_written F X (some (B + 0)) x (o_w B X τ σ n c s)) (qI σ) := by
  obtain ⟨N, rk, R, hJ, hR, hN⟩ := h
  have t12 : k_c B X T (z_thr (o_w B X τ σ n c s) 12) (qI σ) := k_thr hJ (by omega) hN hT 12 (by decide) ⟨xF.refl σ, xU.refl σ, Or.inr (Or.inr rfl)⟩
  unfold f_AckBook_written
  simp only [ot_0]
  rcases e_sp x with hx | ⟨k, hk, rfl⟩
  · rw [c_knownB hx, z_thr_cR]
    exact k_thr hJ (by omega) hN hT 11 (by decide) ⟨xF.refl σ, xU.refl σ, Or.inr (Or.inl rfl)⟩
  · simp only [c_known hk, y_cRs, f_AckBook_refuseDiscarded, oi_s2_3 hk]
    by_cases hd : σ.1 (2 + 8 * k) 3 = 0
    · rw [if_pos hd]
      simp only [y_cV, or_s2_2 hk, oi_s7_2 hk, oi_0_4, ot_s7 hk, f_AckBook_Arrivals_settle, op_s7_4 hk, oz0_s7_6 hk, oi_s7_7 hk, y_cI]
      refine k_c.ite (fun _ => t12) (fun _ => ?_)
      have hy : yK k σ (o_I (o_I σ (7 + 8 * k) 4 0) (7 + 8 * k) 6 0) := yK.I.trans yK.I
      refine k_ret (hJ.y hk hy ?_) (by omega) hN ⟨hy.f hk, hy.u hk, Or.inl ⟨_, rfl⟩⟩
      rw [i11, if_neg (by omega), i11, if_neg (by omega)]
      exact hJ.2.2.2.2 k hk
    · rw [if_neg hd, z_thr_cV]
      exact t12
def qL (σ : zS) (o : Option Value ⊕ Nat) (σ' : zS) : Prop := xF σ σ' ∧ xU σ σ' ∧ ((∃ v : Int64, o = .inl (some (.long v))) ∨ o = .inr 11 ∨ o = .inr 13)
theorem k_range (h : kI T τ σ n c s) (hT : T < 512) (x y z : Int32) : k_c B X T (f_AckBook_range F X (some (B + 0)) x y z (o_w B X τ σ n c s)) (qL σ) := by
  obtain ⟨N, rk, R, hJ, hR, hN⟩ := h
  have t13 : k_c B X T (z_thr (o_w B X τ σ n c s) 13) (qL σ) := k_thr hJ (by omega) hN hT 13 (by decide) ⟨xF.refl σ, xU.refl σ, Or.inr (Or.inr rfl)⟩
  have q0 : ∀ v : Int64, k_c B X T (some (.inl (some (.long v)), o_w B X τ σ n c s)) (qL σ) := fun v => k_ret hJ (by omega) hN ⟨xF.refl σ, xU.refl σ, Or.inl ⟨v, rfl⟩⟩
  unfold f_AckBook_range
  simp only [ot_0]
  rcases e_sp x with hx | ⟨k, hk, rfl⟩
  · rw [c_knownB hx, z_thr_cR]
    exact k_thr hJ (by omega) hN hT 11 (by decide) ⟨xF.refl σ, xU.refl σ, Or.inr (Or.inl rfl)⟩
  · obtain ⟨r, hr, h64⟩ := hJ.2.2.2.2 k hk
    simp only [c_known hk, y_cRs, or_s2_2 hk, oi_s7_2 hk, hr]
    by_cases hy : y < 0
    · rw [if_pos hy]; exact t13
    · rw [if_neg hy]
      obtain ⟨j, hj, rfl⟩ := nI_of hy
      simp (disch := omega) only [e_lt]
      refine k_c.ite (fun hl => ?_) (fun _ => t13)
      simp only [or_s7_0 hk, or_s7_1 hk, oln_s8 hk (show j < 65 by omega), oln_s9 hk (show j < 65 by omega)]
      exact k_c.ite (fun _ => q0 _) (fun _ => q0 _)
theorem k_look (h : kI T τ σ n c s) (hT : T < 512) (x : Int32) : k_c B X T (f_AckBook_look F X (some (B + 0)) x (o_w B X τ σ n c s)) (fun o σ' => xF σ σ' ∧ xU σ σ' ∧ ((∃ v : Int32, o = .inl (some (.int v))) ∨ o = .inr 13)) := by
  obtain ⟨N, rk, R, hJ, hR, hN⟩ := h
  have q0 : ∀ v : Int32, k_c B X T (some (.inl (some (.int v)), o_w B X τ σ n c s)) (fun o σ' => xF σ σ' ∧ xU σ σ' ∧ ((∃ v : Int32, o = .inl (some (.int v))) ∨ o = .inr 13)) := fun v => k_ret hJ (by omega) hN ⟨xF.refl σ, xU.refl σ, Or.inl ⟨v, rfl⟩⟩
  unfold f_AckBook_look
  simp only [oi_0_4, or_0_3, oi_30_0, oi_30_1, oi_30_2, oi_30_3, or_0_2, oi_29_0, oi_29_1, oi_29_2, oi_29_3, oi_0_5, ot_29, f_AckBook_Way_limit, y_cI]
  repeat (refine k_c.ite (fun _ => q0 _) (fun _ => ?_))
  exact k_thr hJ (by omega) hN hT 13 (by decide) ⟨xF.refl σ, xU.refl σ, Or.inr rfl⟩
theorem k_space (h : kI T τ σ n c s) (hT : T < 512) (hF : 100000000 ≤ F) (x y : Int32) : k_c B X T (f_AckBook_space F X (some (B + 0)) x y (o_w B X τ σ n c s)) (qL σ) := by
  obtain ⟨N, rk, R, hJ, hR, hN⟩ := h
  have q0 : ∀ v : Int64, k_c B X T (some (.inl (some (.long v)), o_w B X τ σ n c s)) (qL σ) := fun v => k_ret hJ (by omega) hN ⟨xF.refl σ, xU.refl σ, Or.inl ⟨v, rfl⟩⟩
  unfold f_AckBook_space
  simp only [ot_0]
  rcases e_sp x with hx | ⟨k, hk, rfl⟩
  · rw [c_knownB hx, z_thr_cR]
    exact k_thr hJ (by omega) hN hT 11 (by decide) ⟨xF.refl σ, xU.refl σ, Or.inr (Or.inl rfl)⟩
  · obtain ⟨v, hv⟩ := s_cprobe (B := B) (X := X) (F := F) (τ := τ) (σ := σ) (n := n) (c := c) (s := s) hk (by omega)
    obtain ⟨u, hu⟩ := s_pat (B := B) (X := X) (F := F) (τ := τ) (σ := σ) (n := n) (c := c) (s := s) hk
    simp only [c_known hk, y_cRs, or_s2_1 hk, ot_s3 hk, f_AckBook_Sent_count, or_s3_2 hk, ot_s6 hk, c_size hk, y_cI, oi_s3_6 hk, oi_s3_7 hk, hv, oi_s3_3 hk, oi_s3_4 hk, or_s2_2 hk, oi_s7_2 hk, oi_s7_4 hk, hu, oi_s2_3 hk, ol_s7_3 hk, ot_0]
    repeat (refine k_c.ite (fun _ => q0 _) (fun _ => ?_))
    refine k_c.ite (fun _ => k_c.ite (fun _ => q0 _) (fun _ => q0 _)) (fun _ => k_c.ite (fun _ => q0 _) (fun _ => ?_))
    exact k_thr hJ (by omega) hN hT 13 (by decide) ⟨xF.refl σ, xU.refl σ, Or.inr (Or.inr rfl)⟩
def qV (σ : zS) (o : Option Value ⊕ Nat) (σ' : zS) : Prop := xF σ σ' ∧ xU σ σ' ∧ o = .inl none
theorem k_confirm (h : kI T τ σ n c s) : k_c B X T (f_AckBook_confirm F X (some (B + 0)) (o_w B X τ σ n c s)) (qV σ) := by
  obtain ⟨N, rk, R, hJ, hR, hN⟩ := h
  have hK : cK σ (o_I σ 0 7 1) := cK.I (by omega)
  unfold f_AckBook_confirm
  rw [oz1_0_7]
  exact k_ret (hJ.I (Or.inl (by omega))) (by omega) hN ⟨hK.f, hK.u, rfl⟩
theorem k_anxious (h : kI T τ σ n c s) (x : Int32) (hx : x = 0 ∨ x = 1) : k_c B X T (f_AckBook_anxious F X (some (B + 0)) x (o_w B X τ σ n c s)) (qV σ) := by
  obtain ⟨N, rk, R, hJ, hR, hN⟩ := h
  have hK : cK σ (o_I σ 0 8 x) := cK.I (by omega)
  unfold f_AckBook_anxious
  rw [oz_0_8, if_pos hx]
  exact k_ret (hJ.I (Or.inl (by omega))) (by omega) hN ⟨hK.f, hK.u, rfl⟩
theorem cJ.ch (hJ : cJ T R τ σ N rk) {k ch : Nat} (hk : k < 3) (hc : ch = 4 + 8 * k ∨ ch = 5 + 8 * k) {o : Option Nat} (ho : ∀ q, o = some q → o_pk τ q ∧ σ.1 q 6 ≠ 0) : cJ T R τ (o_R σ ch 0 o) N rk ∧ cK σ (o_R σ ch 0 o) := by
  obtain ⟨h1, h2, h3, h4, h5⟩ := hJ
  have e : ∀ a b, a ≠ ch → (o_R σ ch 0 o).2.2 a b = σ.2.2 a b := fun a b ha => by rw [r13, if_neg (fun z => ha z.1)]
  refine ⟨⟨fun j hj => ?_, fun j hj f' hf => ⟨fun q hq => ?_, fun q hq => ?_⟩, fun q hq => ?_, h4, h5⟩, cK.R (by omega)⟩
  · obtain ⟨a1, a2, a3⟩ := h1 j hj
    refine ⟨a1, a2, ?_⟩
    rw [e _ _ (by omega)]
    rcases a3 with a3 | ⟨p, cap, g1, g2, g3, g4, g5, g6, g7⟩
    · exact Or.inl a3
    · have hp := g2.1
      exact Or.inr ⟨p, cap, g1, g2, g3, g4, g5, fun i hi => by rw [e _ _ (by omega)]; exact g6 i hi, fun i hi => by rw [e _ _ (by omega)]; exact g7 i hi⟩
  · rw [r13] at hq
    split at hq
    · exact ho q hq
    · exact (h2 j hj f' hf).1 q hq
  · rw [r13] at hq
    split at hq
    · exact ho q hq
    · exact (h2 j hj f' hf).2 q hq
  · have := hq.1
    rw [e _ _ (by omega)]
    exact h3 q hq
theorem s_rem (hJ : cJ T R τ σ N rk) {k ch : Nat} (hk : k < 3) (hc : ch = 4 + 8 * k ∨ ch = 5 + 8 * k) : ∃ v σ', f_AckBook_Chain_removeFirst F X (some (B + ch)) (o_w B X τ σ n c s) = some (.inl (some (.int v)), o_w B X τ σ' n c s) ∧ cJ T R τ σ' N rk ∧ cK σ σ' := by
  have hf : ∀ q, σ.2.2 ch 0 = some q → o_pk τ q ∧ σ.1 q 6 ≠ 0 := fun q hq => by
    rcases hc with rfl | rfl
    · exact (hJ.2.1 k hk 0 (by omega)).1 q hq
    · exact (hJ.2.1 k hk 0 (by omega)).2 q hq
  have hput : ∀ (x : Option Nat) (K : zW → zR), z_put (o_w B X τ σ n c s) 3 0 (some (B + ch)) (va_rf (x.map (B + ·))) K = K (o_w B X τ (o_R σ ch 0 x) n c s) := fun x K => by
    rcases hc with rfl | rfl
    · exact opr_s4_0 hk x K
    · exact opr_s5_0 hk x K
  unfold f_AckBook_Chain_removeFirst
  simp only [c_chG hk hc (Or.inl rfl)]
  cases hq : σ.2.2 ch 0 with
  | none => exact ⟨_, σ, rfl, hJ, cK.refl σ⟩
  | some q =>
    have h1 := (hf q hq).1
    simp only [Option.map_some, reduceCtorEq, if_false, d_gI h1 0 (by omega), d_gR h1, hput]
    have := hJ.ch hk hc (o := σ.2.2 q 7) (fun q' hq' => ⟨((hJ.2.2.1 q h1).2.2.2 q' hq').1, ((hJ.2.2.1 q h1).2.2.2 q' hq').2.1⟩)
    exact ⟨_, _, rfl, this⟩
theorem k_next (h : kI T τ σ n c s) (hT : T < 512) (x y : Int32) : k_c B X T (f_AckBook_next F X (some (B + 0)) x y (o_w B X τ σ n c s)) (qO σ) := by
  obtain ⟨N, rk, R, hJ, hR, hN⟩ := h
  unfold f_AckBook_next
  simp only [ot_0]
  rcases e_sp x with hx | ⟨k, hk, rfl⟩
  · rw [c_knownB hx, z_thr_cR]
    exact k_thr hJ (by omega) hN hT 11 (by decide) ⟨xF.refl σ, xU.refl σ, Or.inr rfl⟩
  · obtain ⟨v, σ1, a1, a2, a3⟩ := s_rem (B := B) (X := X) (F := F) (n := n) (c := c) (s := s) hJ hk (Or.inl rfl : 4 + 8 * k = 4 + 8 * k ∨ 4 + 8 * k = 5 + 8 * k)
    obtain ⟨u, σ2, b1, b2, b3⟩ := s_rem (B := B) (X := X) (F := F) (n := n) (c := c) (s := s) hJ hk (Or.inr rfl : 5 + 8 * k = 4 + 8 * k ∨ 5 + 8 * k = 5 + 8 * k)
    simp only [c_known hk, y_cRs, or_s2_1 hk, or_s3_0 hk, or_s3_1 hk, ot_s4 hk, ot_s5 hk, a1, b1, y_cI]
    exact k_c.ite (fun _ => k_ret a2 (by omega) hN ⟨a3.f, a3.u, Or.inl ⟨_, rfl⟩⟩) (fun _ => k_ret b2 (by omega) hN ⟨b3.f, b3.u, Or.inl ⟨_, rfl⟩⟩)
theorem s_forgetJ (hT : T ≤ 4096) {k : Nat} (hk : k < 3) : ∀ (M i : Nat) (σ : zS), cJ T R τ σ N rk → i ≤ N k → N k - i < M → c_V B X T τ n c s N σ R (j_AckBook_Sent_forget F X M (some (B + (3 + 8 * k))) (some (B + 30)) (nI i) (o_w B X τ σ n c s)) := by
  intro M
  induction M with
  | zero => exact fun _ _ _ _ h => absurd h (Nat.not_lt_zero _)
  | succ M ih =>
    intro i σ hJ hi hM
    obtain ⟨h1, h2, -⟩ := hJ.1 k hk
    rw [j_AckBook_Sent_forget]
    simp (disch := omega) only [or_s3_2 hk, ot_s6 hk, c_size hk, y_cI, h1, e_le]
    refine c_V.ite (fun _ => ?_) (fun hlt => ?_)
    · have cl : ∀ (σ : zS) (K : zW → zR), z_put (o_w B X τ σ n c s) 3 0 (some (B + (4 + 8 * k))) (va_rf none) K = K (o_w B X τ (o_R σ (4 + 8 * k) 0 none) n c s) := fun σ K => opr_s4_0 hk none K
      have cl2 : ∀ (σ : zS) (K : zW → zR), z_put (o_w B X τ σ n c s) 3 0 (some (B + (5 + 8 * k))) (va_rf none) K = K (o_w B X τ (o_R σ (5 + 8 * k) 0 none) n c s) := fun σ K => opr_s5_0 hk none K
      simp only [op_s3_3 hk, op_s3_4 hk, op_s3_6 hk, op_s3_7 hk, or_s3_0 hk, or_s3_1 hk, ot_s4 hk, ot_s5 hk, f_AckBook_Chain_clear, cl, cl2, y_cV]
      have j4 := (((hJ.I (o := 3 + 8 * k) (f := 3) (x := 0) (Or.inl (by omega))).I (o := 3 + 8 * k) (f := 4) (x := 0) (Or.inl (by omega))).I (o := 3 + 8 * k) (f := 6) (x := -1) (Or.inl (by omega))).I (o := 3 + 8 * k) (f := 7) (x := -1) (Or.inl (by omega))
      have k4 : cK σ (o_I (o_I (o_I (o_I σ (3 + 8 * k) 3 0) (3 + 8 * k) 4 0) (3 + 8 * k) 6 (-1)) (3 + 8 * k) 7 (-1)) := (((cK.I (by omega)).trans (cK.I (by omega))).trans (cK.I (by omega))).trans (cK.I (by omega))
      have j5 := j4.ch hk (Or.inl rfl : 4 + 8 * k = 4 + 8 * k ∨ 4 + 8 * k = 5 + 8 * k) (o := none) (fun _ h => by cases h)
      have j6 := j5.1.ch hk (Or.inr rfl : 5 + 8 * k = 4 + 8 * k ∨ 5 + 8 * k = 5 + 8 * k) (o := none) (fun _ h => by cases h)
      exact ⟨_, rk, R, rfl, j6.1, Nat.le_refl _, (k4.trans j5.2).trans j6.2⟩
    · obtain ⟨q, q1, q2⟩ := c_get (B := B) (X := X) (F := F) (n := n) (c := c) (s := s) hJ.1 hT hk (show i < N k by omega)
      obtain ⟨σ1, p1, p2, p3, p4⟩ := s_leave (B := B) (X := X) (F := F) (n := n) (c := c) (s := s) hJ q1
      simp only [q2, y_cRs, d_cast q1, d_gI q1 6 (by omega), ot_30, p1, y_cV, nI_1]
      exact c_V.ite (fun _ => (ih (i + 1) σ1 p2 (by omega) (by omega)).of p3) (fun _ => ih (i + 1) σ hJ (by omega) (by omega))
/-- discard's three ends -/
theorem k_disB (h : kI T τ σ n c s) (hT : T < 512) (x : Int32) (hx : x < 0 ∨ 2 < x) : k_c B X T (f_AckBook_discard F X (some (B + 0)) x (o_w B X τ σ n c s)) (fun o σ' => xF σ σ' ∧ xU σ σ' ∧ o = .inr 11) := by
  obtain ⟨N, rk, R, hJ, hR, hN⟩ := h
  unfold f_AckBook_discard
  rw [ot_0, c_knownB hx, z_thr_cR]
  exact k_thr hJ (by omega) hN hT 11 (by decide) ⟨xF.refl σ, xU.refl σ, rfl⟩
theorem k_disD (h : kI T τ σ n c s) (hT : T < 512) {k : Nat} (hk : k < 3) (hd : σ.1 (2 + 8 * k) 3 ≠ 0) : k_c B X T (f_AckBook_discard F X (some (B + 0)) (nI k) (o_w B X τ σ n c s)) (fun o σ' => xF σ σ' ∧ xU σ σ' ∧ o = .inr 12) := by
  obtain ⟨N, rk, R, hJ, hR, hN⟩ := h
  unfold f_AckBook_discard
  simp only [ot_0, c_known hk, y_cRs, f_AckBook_refuseDiscarded, oi_s2_3 hk]
  rw [if_neg hd, z_thr_cV]
  exact k_thr hJ (by omega) hN hT 12 (by decide) ⟨xF.refl σ, xU.refl σ, rfl⟩
theorem k_disO (h : kI T τ σ n c s) (hT : T < 512) (hF : 100000000 ≤ F) {k : Nat} (hk : k < 3) (hd : σ.1 (2 + 8 * k) 3 = 0) : k_c B X T (f_AckBook_discard F X (some (B + 0)) (nI k) (o_w B X τ σ n c s)) (fun o σ' => xF σ σ' ∧ ((∀ j, j < 3 → σ'.1 (6 + 8 * j) 1 = σ.1 (6 + 8 * j) 1) ∧ (∀ j, j < 3 → σ'.1 (2 + 8 * j) 3 = if j = k then 1 else σ.1 (2 + 8 * j) 3) ∧ σ'.1 26 2 = σ.1 26 2 ∧ ∀ i, σ'.2.1 27 i = σ.2.1 27 i) ∧ o = .inl none) := by
  obtain ⟨N, rk, R, hJ, hR, hN⟩ := h
  have h2 := (hJ.1 k hk).2.1
  have hJ1 : cJ T R τ (o_I σ (2 + 8 * k) 3 1) N rk := hJ.I (Or.inl (by omega))
  obtain ⟨σ2, rk2, R2, a1, a2, a3, a4⟩ := s_forgetJ (B := B) (X := X) (F := F) (n := n) (c := c) (s := s) (τ := τ) (N := N) (rk := rk) (R := R) (T := T) (by omega) hk F 0 _ hJ1 (Nat.zero_le _) (by omega)
  have a1 : f_AckBook_Sent_forget F X (some (B + (3 + 8 * k))) (some (B + 30)) (o_w B X τ (o_I σ (2 + 8 * k) 3 1) n c s) = _ := a1
  unfold f_AckBook_discard
  simp only [ot_0, c_known hk, y_cRs, f_AckBook_refuseDiscarded, oi_s2_3 hk]
  rw [if_pos hd]
  simp only [y_cV, oz1_s2_3 hk, or_s2_1 hk, or_0_3, ot_s3 hk, a1, or_s2_2 hk, ot_s7 hk, f_AckBook_Arrivals_forget, op_s7_2 hk, opl_s7_3 hk, op_s7_4 hk, oz0_s7_6 hk, op_0_5]
  have hy : yK k σ2 (o_I (o_I (o_L (o_I σ2 (7 + 8 * k) 2 0) (7 + 8 * k) 3 0) (7 + 8 * k) 4 0) (7 + 8 * k) 6 0) := ((yK.I.trans (yK.L (by omega))).trans yK.I).trans yK.I
  have hr : (o_I (o_I (o_L (o_I σ2 (7 + 8 * k) 2 0) (7 + 8 * k) 3 0) (7 + 8 * k) 4 0) (7 + 8 * k) 6 0).1 (7 + 8 * k) 2 = nI 0 := by
    rw [i11, if_neg (by omega), i11, if_neg (by omega), l11, i11, if_pos ⟨rfl, rfl⟩]
    rfl
  have hJ3 := a2.y hk hy ⟨0, hr, by omega⟩
  have hK4 : cK (o_I (o_I (o_L (o_I σ2 (7 + 8 * k) 2 0) (7 + 8 * k) 3 0) (7 + 8 * k) 4 0) (7 + 8 * k) 6 0) (o_I (o_I (o_I (o_L (o_I σ2 (7 + 8 * k) 2 0) (7 + 8 * k) 3 0) (7 + 8 * k) 4 0) (7 + 8 * k) 6 0) 0 5 0) := cK.I (by omega)
  have u := (a4.u.trans (hy.u hk)).trans hK4.u
  have f := (a4.f.trans (hy.f hk)).trans hK4.f
  have f0 : xF σ (o_I σ (2 + 8 * k) 3 1) := fun o h1 h2 => ⟨funext fun b => by rw [i11, if_neg (by omega)], rfl, rfl⟩
  refine k_ret (hJ3.I (Or.inl (by omega))) (by omega) hN ⟨f0.trans f, ⟨fun j hj => ?_, fun j hj => ?_, ?_, fun i => u.2.2.2 i⟩, rfl⟩
  · rw [u.1 j hj, i11, if_neg (by omega)]
  · rw [u.2.1 j hj, i11]
    by_cases q : j = k
    · subst q; simp
    · rw [if_neg (by omega), if_neg q]
  · rw [u.2.2.1, i11, if_neg (by omega)]
/-- span's ends -/
def k_sBad (σ : zS) (l h : Int64) : Prop := l < 0 ∨ h < l ∨ ∃ p, σ.1 26 2 = nI (p + 1) ∧ p < 64 ∧ ¬ h < σ.2.1 27 p - 1
theorem k_spanB (hI : kI T τ σ n c s) (hT : T < 512) (l h : Int64) (hb : k_sBad σ l h) : k_c B X T (f_AckBook_span F X (some (B + 0)) l h (o_w B X τ σ n c s)) (fun o σ' => xF σ σ' ∧ xU σ σ' ∧ o = .inr 11) := by
  obtain ⟨N, rk, R, hJ, hR, hN⟩ := hI
  have t11 : k_c B X T (z_thr (o_w B X τ σ n c s) 11) (fun o σ' => xF σ σ' ∧ xU σ σ' ∧ o = .inr 11) := k_thr hJ (by omega) hN hT 11 (by decide) ⟨xF.refl σ, xU.refl σ, rfl⟩
  unfold f_AckBook_span
  simp only [lg_cmp_lt, lg_cmp_ge]
  by_cases h1 : l < 0
  · rw [if_pos h1]; exact t11
  · rw [if_neg h1]
    by_cases h2 : l ≤ h
    · rw [if_pos h2]
      rcases hb with q | q | ⟨p, q1, q2, q3⟩
      · exact absurd q h1
      · exact absurd h2 (Int64.not_le.mpr q)
      · simp only [or_0_1, ot_26, f_AckBook_Claim_isBelow, oi_26_2, q1, or_26_0, nI_pred, oln_27 q2, lg_cmp_ge]
        rw [if_neg (nI_nle (by omega) (by omega)), if_pos (show nI (p + 1) ≤ (64 : Int32) from nI_le (b := 64) (by omega) (by decide)), if_pos (Int64.not_lt.mp q3)]
        simp only [y_cI, if_true]
        exact t11
    · rw [if_neg h2]; exact t11
theorem k_spanG (hI : kI T τ σ n c s) (hT : T < 512) (l h : Int64) (hb : ¬ k_sBad σ l h) {p : Nat} (hp : σ.1 26 2 = nI p) (hp64 : p ≤ 64) : k_c B X T (f_AckBook_span F X (some (B + 0)) l h (o_w B X τ σ n c s)) (fun o σ' => xF σ σ' ∧ (p = 64 ∧ xU σ σ' ∧ o = .inr 12 ∨ p < 64 ∧ o = .inl (some (.int (nI (p + 1)))) ∧ (∀ j, j < 3 → σ'.1 (6 + 8 * j) 1 = σ.1 (6 + 8 * j) 1) ∧ (∀ j, j < 3 → σ'.1 (2 + 8 * j) 3 = σ.1 (2 + 8 * j) 3) ∧ σ'.1 26 2 = nI (p + 1) ∧ ∀ i, σ'.2.1 27 i = if i = p then l else σ.2.1 27 i)) := by
  obtain ⟨N, rk, R, hJ, hR, hN⟩ := hI
  have h1 : ¬ l < 0 := fun q => hb (Or.inl q)
  have h2 : l ≤ h := Int64.not_lt.mp fun q => hb (Or.inr (Or.inl q))
  have hbel : f_AckBook_Claim_isBelow F X (some (B + 26)) h (o_w B X τ σ n c s) = some (.inl (some (.int 1)), o_w B X τ σ n c s) := by
    unfold f_AckBook_Claim_isBelow
    simp only [oi_26_2, hp, or_26_0, lg_cmp_ge]
    rcases Nat.eq_zero_or_pos p with q | q
    · subst q
      rw [if_pos (by decide)]
    · obtain ⟨p', rfl⟩ : ∃ p', p = p' + 1 := ⟨p - 1, by omega⟩
      rw [if_neg (nI_nle (by omega) (by omega)), if_pos (show nI (p' + 1) ≤ (64 : Int32) from nI_le (b := 64) (by omega) (by decide)), nI_pred]
      simp only [oln_27 (show p' < 64 by omega)]
      rw [if_neg]
      intro q3
      exact hb (Or.inr (Or.inr ⟨p', hp, by omega, Int64.not_lt.mpr q3⟩))
  unfold f_AckBook_span
  simp only [lg_cmp_lt, lg_cmp_ge]
  rw [if_neg h1, if_pos h2]
  simp only [or_0_1, ot_26, hbel, y_cI]
  rw [if_neg (by decide)]
  simp only [f_AckBook_Claim_isFull, oi_26_2, hp]
  by_cases q : p < 64
  · rw [if_pos (show nI p < (64 : Int32) from nI_lt (b := 64) q (by decide))]
    have e1 : (o_L σ 27 p l).1 26 2 = nI p := hp
    have e2 : (o_L (o_L σ 27 p l) 28 p h).1 26 2 = nI p := hp
    have e3 : (o_I (o_L (o_L σ 27 p l) 28 p h) 26 2 (nI (p + 1))).1 26 2 = nI (p + 1) := by rw [i11, if_pos ⟨rfl, rfl⟩]
    simp only [y_cI, if_true, or_0_1, ot_26, f_AckBook_Claim_add, oi_26_2, hp]
    rw [if_neg (nI_pos (by omega)), if_neg (show ¬ (64 : Int32) ≤ nI p from nI_ge (b := 64) q (by decide))]
    simp only [or_26_0, osn_27 q, or_26_1, oi_26_2, e1, osn_28 q, e2, nI_1, op_26_2, e3, y_cI]
    have hJ2 : cJ T R τ (o_I (o_L (o_L σ 27 p l) 28 p h) 26 2 (nI (p + 1))) N rk := by
      obtain ⟨a1, a2, a3, a4, a5⟩ := hJ
      have e : ∀ a b, a ≠ 26 → (o_I (o_L (o_L σ 27 p l) 28 p h) 26 2 (nI (p + 1))).1 a b = σ.1 a b := fun a b ha => by rw [i11, if_neg (fun z => ha z.1)]; rfl
      refine ⟨fun k hk => ?_, fun k hk f' hf => ⟨fun q hq => ?_, fun q hq => ?_⟩, fun q hq => ?_, ?_, fun k hk => ?_⟩
      · rw [e _ _ (by omega)]; exact a1 k hk
      · have := (a2 k hk f' hf).1 q hq
        exact ⟨this.1, by rw [e _ _ (by have := this.1.1; omega)]; exact this.2⟩
      · have := (a2 k hk f' hf).2 q hq
        exact ⟨this.1, by rw [e _ _ (by have := this.1.1; omega)]; exact this.2⟩
      · have hq1 := hq.1
        obtain ⟨b1, b2, b3, b4⟩ := a3 q hq
        refine ⟨by rw [e _ _ (by omega)]; exact b1, by rw [e _ _ (by omega)]; exact b2, b3, fun q' hq' => ?_⟩
        obtain ⟨d1, d2, d3⟩ := b4 q' hq'
        exact ⟨d1, by rw [e _ _ (by have := d1.1; omega)]; exact d2, d3⟩
      · obtain ⟨b1, ⟨p2, b2, b3⟩, b4⟩ := a4
        refine ⟨⟨p + 1, e3, by omega⟩, ⟨p2, by rw [i11, if_neg (by omega)]; exact b2, b3⟩, fun i hi => ?_⟩
        show 0 ≤ ((o_L (o_L σ 27 p l) 28 p h).2.1 27 i).toInt
        rw [l12, if_neg (by omega), l12]
        split
        · have z1 := Int64.le_iff_toInt_le.mp (Int64.not_lt.mp h1)
          have z3 : (0 : Int64).toInt = 0 := by decide
          omega
        · exact b4 i hi
      · rw [e _ _ (by omega)]; exact a5 k hk
    refine k_ret hJ2 (by omega) hN ⟨fun o h1 h2 => ⟨funext fun b => by rw [i11, if_neg (by omega)]; rfl, funext fun b => ?_, rfl⟩, Or.inr ⟨q, rfl, fun j hj => ?_, fun j hj => ?_, e3, fun i => ?_⟩⟩
    · show (o_L (o_L σ 27 p l) 28 p h).2.1 o b = σ.2.1 o b
      rw [l12, if_neg (by omega), l12, if_neg (by omega)]
    · rw [i11, if_neg (by omega)]; rfl
    · rw [i11, if_neg (by omega)]; rfl
    · show (o_L (o_L σ 27 p l) 28 p h).2.1 27 i = _
      rw [l12, if_neg (by omega), l12]
      simp
  · have q64 : p = 64 := by omega
    rw [if_neg (show ¬ nI p < (64 : Int32) from nI_nlt (b := 64) (by omega) (by omega))]
    simp only [y_cI]
    rw [if_neg (by decide)]
    exact k_thr hJ (by omega) hN hT 12 (by decide) ⟨xF.refl σ, Or.inl ⟨q64, xU.refl σ, rfl⟩⟩
end CI
