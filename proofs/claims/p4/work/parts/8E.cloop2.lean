section CE
variable {B X F : Nat} {τ : zK} {n c s T R D : Nat} {σ : zS} {N rk : Nat → Nat}
theorem s_pat {k : Nat} (hk : k < 3) : ∃ v : Int32, f_AckBook_patience F X (some (B + 0)) (some (B + (2 + 8 * k))) (o_w B X τ σ n c s) = some (.inl (some (.int v)), o_w B X τ σ n c s) := by
  unfold f_AckBook_patience
  simp only [oi_s2_0 hk, oi_0_7, q_AckBook_patience_19, q_AckBook_patience_20, or_0_2, ot_29, f_AckBook_Way_patience, oi_29_0, oi_29_1, z_cI]
  (repeat' split) <;> exact ⟨_, rfl⟩
theorem s_pwcJ {k : Nat} (hk : k < 3) : ∀ (M i : Nat) (b : Int32), (b = 0 ∨ b = 1) → i ≤ 3 → 3 - i < M → ∃ v : Int32, j_AckBook_probesWithoutCause F X M (some (B + 0)) (some (B + (2 + 8 * k))) b (nI i) (o_w B X τ σ n c s) = some (.inl (some (.int v)), o_w B X τ σ n c s) := by
  intro M
  induction M with
  | zero => exact fun _ _ _ _ h => absurd h (Nat.not_lt_zero _)
  | succ M ih =>
    intro i b hb hi hM
    rw [j_AckBook_probesWithoutCause]
    simp only [or_0_0, oan_1]
    by_cases h : i = 3
    · subst h
      rw [if_pos (by decide)]
      unfold z_retZ
      rw [if_pos hb]
      exact ⟨_, rfl⟩
    · rw [if_neg (show ¬ Int32.ofNat 3 ≤ nI i from nI_ge (b := 3) (by omega) (by decide))]
      have hi3 : i < 3 := by omega
      simp only [oln_1 hi3, or_s2_1 hi3, oi_s3_4 hi3, oi_s2_0 hk, oi_s2_3 hi3, nI_1]
      have e0 := ih (i + 1) 0 (Or.inl rfl) (by omega) (by omega)
      have e1 := ih (i + 1) b hb (by omega) (by omega)
      (repeat' split) <;> first | exact e0 | exact e1 | exact ⟨_, rfl⟩
theorem s_cprobe {k : Nat} (hk : k < 3) (hF : 20000 ≤ F) : ∃ v : Int32, f_AckBook_probeTime F X (some (B + 0)) (some (B + (2 + 8 * k))) (o_w B X τ σ n c s) = some (.inl (some (.int v)), o_w B X τ σ n c s) := by
  obtain ⟨v, hv⟩ := s_pat (B := B) (X := X) (F := F) (τ := τ) (σ := σ) (n := n) (c := c) (s := s) hk
  obtain ⟨u, hu⟩ := s_pwcJ (B := B) (X := X) (F := F) (τ := τ) (σ := σ) (n := n) (c := c) (s := s) hk F 0 1 (Or.inr rfl) (by omega) (by omega)
  have hw : ∃ u : Int32, f_AckBook_probesWithoutCause F X (some (B + 0)) (some (B + (2 + 8 * k))) (o_w B X τ σ n c s) = some (.inl (some (.int u)), o_w B X τ σ n c s) := by
    unfold f_AckBook_probesWithoutCause
    simp only [oi_0_8]
    split
    · exact ⟨_, rfl⟩
    · exact ⟨u, hu⟩
  obtain ⟨u', hu'⟩ := hw
  have h24 : ∃ v : Int32, q_AckBook_probeTime_24 F X (some (B + 0)) (some (B + (2 + 8 * k))) (o_w B X τ σ n c s) = some (.inl (some (.int v)), o_w B X τ σ n c s) := by
    unfold q_AckBook_probeTime_24
    simp only [ot_0, hv, z_cI, oi_0_5, or_s2_1 hk, oi_s3_4 hk, hu', oi_0_6, oi_s3_5 hk]
    (repeat' split) <;> exact ⟨_, rfl⟩
  unfold f_AckBook_probeTime
  simp only [oi_s2_3 hk, oi_s2_0 hk, oi_0_7]
  (repeat' split) <;> first | exact h24 | exact ⟨_, rfl⟩
theorem s_earlJ (hF : 20000 ≤ F) (x1 : Int32) : ∀ (M i : Nat) (o : Option Nat) (x3 : Int32), (∀ k, o = some k → k < 3) → i ≤ 3 → 3 - i < M → ∃ o' : Option Nat, (∀ k, o' = some k → k < 3) ∧ j_AckBook_earliest F X M (some (B + 0)) x1 (o.map fun k => B + (2 + 8 * k)) x3 (nI i) (o_w B X τ σ n c s) = some (.inl (some (va_rf (o'.map fun k => B + (2 + 8 * k)))), o_w B X τ σ n c s) := by
  intro M
  induction M with
  | zero => exact fun _ _ _ _ _ h => absurd h (Nat.not_lt_zero _)
  | succ M ih =>
    intro i o x3 ho hi hM
    rw [j_AckBook_earliest]
    simp only [or_0_0, oan_1]
    by_cases h : i = 3
    · subst h
      rw [if_pos (by decide)]
      exact ⟨o, ho, rfl⟩
    · rw [if_neg (show ¬ Int32.ofNat 3 ≤ nI i from nI_ge (b := 3) (by omega) (by decide))]
      have hi3 : i < 3 := by omega
      obtain ⟨v, hv⟩ := s_cprobe (B := B) (X := X) (F := F) (τ := τ) (σ := σ) (n := n) (c := c) (s := s) hi3 hF
      have e1 := fun x3 => ih (i + 1) o x3 ho (by omega) (by omega)
      have e2 := fun x3 => ih (i + 1) (some i) x3 (fun k hk => by obtain rfl := Option.some.inj hk; exact hi3) (by omega) (by omega)
      have h50 : ∀ x : Int32, ∃ o' : Option Nat, (∀ k, o' = some k → k < 3) ∧ q_AckBook_earliest_50 F X (j_AckBook_earliest F X M) (some (B + 0)) x1 (o.map fun k => B + (2 + 8 * k)) x3 (nI i) (some (B + (2 + 8 * i))) x (o_w B X τ σ n c s) = some (.inl (some (va_rf (o'.map fun k => B + (2 + 8 * k)))), o_w B X τ σ n c s) := by
        intro x
        simp only [q_AckBook_earliest_50, q_AckBook_earliest_71, q_AckBook_earliest_72, q_AckBook_earliest_89, oi_0_4, nI_1]
        (repeat' split) <;> first | exact e1 _ | exact e2 _
      simp only [oln_1 hi3, or_s2_1 hi3, oi_s3_7 hi3, ot_0, hv, z_cI]
      split
      · exact h50 _
      · exact h50 _
theorem s_earliest (hF : 20000 ≤ F) (x1 : Int32) : ∃ o' : Option Nat, (∀ k, o' = some k → k < 3) ∧ f_AckBook_earliest F X (some (B + 0)) x1 (o_w B X τ σ n c s) = some (.inl (some (va_rf (o'.map fun k => B + (2 + 8 * k)))), o_w B X τ σ n c s) := by
  unfold f_AckBook_earliest
  simp only [oi_0_4]
  exact s_earlJ hF x1 F 0 none _ (fun _ h => by cases h) (by omega) (by omega)
theorem s_ctick (hJ : cJ T R τ σ N rk) (hT : T ≤ 4096) (hF : R + 20000 ≤ F) : c_I B X T τ n c s N σ (R + T) (f_AckBook_tick F X (some (B + 0)) (o_w B X τ σ n c s)) := by
  have hJ1 : cJ T R τ (o_I σ 0 4 (σ.1 0 4 + 1)) N rk := hJ.I (Or.inl (by omega))
  have hK1 : cK σ (o_I σ 0 4 (σ.1 0 4 + 1)) := cK.I (by omega)
  unfold f_AckBook_tick
  simp only [oi_0_4, op_0_4, ot_0]
  generalize o_I σ 0 4 (σ.1 0 4 + 1) = σ1 at hJ1 hK1
  obtain ⟨o1, a1, a2⟩ := s_earliest (B := B) (X := X) (F := F) (τ := τ) (σ := σ1) (n := n) (c := c) (s := s) (by omega) 0
  obtain ⟨o2, b1, b2⟩ := s_earliest (B := B) (X := X) (F := F) (τ := τ) (σ := σ1) (n := n) (c := c) (s := s) (by omega) 1
  simp only [a2]
  cases o1 with
  | none =>
    simp only [Option.map_none, va_rf, z_cR, if_true, ot_0, b2]
    cases o2 with
    | none =>
      simp only [Option.map_none, va_rf, z_cR, if_true]
      exact ⟨_, σ1, rk, R, rfl, hJ1, by omega, hK1⟩
    | some k2 =>
      have hk2 := b1 k2 rfl
      simp only [Option.map_some, va_rf, z_cR, reduceCtorEq, if_false, oi_0_5, op_0_5, oi_s2_0 hk2]
      exact ⟨_, _, rk, R, rfl, hJ1.I (Or.inl (by omega)), by omega, hK1.trans (cK.I (by omega))⟩
  | some k1 =>
    have hk1 := a1 k1 rfl
    have h2 := (hJ1.1 k1 hk1).2.1
    obtain ⟨σ2, rk2, R2, p1, p2, p3, p4⟩ := s_look (B := B) (X := X) (F := F) (n := n) (c := c) (s := s) hJ1 hT hF hk1
    simp only [Option.map_some, va_rf, z_cR, reduceCtorEq, if_false, or_s2_1 hk1, ot_0, p1, z_cV]
    exact ⟨_, σ2, rk2, R2, rfl, p2, by omega, hK1.trans p4⟩
theorem s_elicJ (hJ : cJ T R τ σ N rk) : ∀ (M : Nat) (o : Option Nat), c_to τ R rk o M → ∃ v : Int32, j_AckBook_hasEliciting F X M (Option.map (B + ·) o) (o_w B X τ σ n c s) = some (.inl (some (.int v)), o_w B X τ σ n c s) := by
  intro M
  induction M with
  | zero => exact fun _ h => absurd h.1 (Nat.not_lt_zero _)
  | succ M ih =>
    intro o hto
    rw [j_AckBook_hasEliciting]
    cases o with
    | none => exact ⟨_, rfl⟩
    | some q =>
      have hq := (hto.2 q rfl).1
      simp only [Option.map_some, reduceCtorEq, if_false, d_gI hq 3 (by omega), d_gR hq]
      split
      · exact ih _ (c_to.next hJ hto)
      · exact ⟨_, rfl⟩
theorem s_cgrow (hJ : cJ T R τ σ N rk) (x : Int32) : ∃ σ', f_AckBook_Flow_grow F X (some (B + 30)) x (o_w B X τ σ n c s) = some (.inl none, o_w B X τ σ' n c s) ∧ cJ T R τ σ' N rk ∧ cK σ σ' := by
  have w : ∀ y, cJ T R τ (o_I σ 30 1 y) N rk ∧ cK σ (o_I σ 30 1 y) := fun y => ⟨hJ.I (Or.inl (by omega)), cK.I (by omega)⟩
  unfold f_AckBook_Flow_grow
  simp only [oi_30_2, oi_30_1, q_AckBook_Flow_grow_19, op_30_1, z_nz]
  by_cases h1 : σ.1 30 2 = -1
  · rw [if_pos h1]; exact ⟨_, rfl, w _⟩
  · rw [if_neg h1]
    by_cases h2 : σ.1 30 2 ≤ σ.1 30 1
    · rw [if_pos h2]
      by_cases h3 : σ.1 30 1 ≤ 0
      · rw [if_pos h3]; exact ⟨σ, rfl, hJ, cK.refl σ⟩
      · rw [if_neg h3, if_neg (fun q => h3 (by rw [q]; decide))]
        exact ⟨_, rfl, w _⟩
    · rw [if_neg h2]; exact ⟨_, rfl, w _⟩
theorem s_leaveAckJ : ∀ (M : Nat) (x : Int32) (o : Option Nat) (σ : zS), cJ T R τ σ N rk → c_to τ R rk o M → c_I B X T τ n c s N σ R (j_AckBook_Flow_leaveAcknowledged F X M (some (B + 30)) x (Option.map (B + ·) o) (o_w B X τ σ n c s)) := by
  intro M
  induction M with
  | zero => exact fun _ _ _ _ h => absurd h.1 (Nat.not_lt_zero _)
  | succ M ih =>
    intro x o σ hJ hto
    rw [j_AckBook_Flow_leaveAcknowledged]
    cases o with
    | none => exact ⟨_, σ, rk, R, rfl, hJ, Nat.le_refl _, cK.refl σ⟩
    | some q =>
      have hq := (hto.2 q rfl).1
      obtain ⟨σ1, p1, p2, p3, p4⟩ := s_leave (B := B) (X := X) (F := F) (n := n) (c := c) (s := s) hJ hq
      obtain ⟨v, hv⟩ := s_after (B := B) (X := X) (F := F) (n := n) (c := c) (s := s) (σ := σ1) hq
      obtain ⟨σ2, g1, g2, g3⟩ := s_cgrow (B := B) (X := X) (F := F) (n := n) (c := c) (s := s) p2 (σ1.1 q 1)
      have e1 := (ih (x + 1) (σ1.2.2 q 7) σ1 p2 (c_to.next p2 hto)).of p3
      have e2 := (ih (x + 1) (σ2.2.2 q 7) σ2 g2 (c_to.next g2 hto)).of (p3.trans g3)
      simp only [Option.map_some, reduceCtorEq, if_false, ot_30, p1, z_cV, d_gI hq 4 (by omega), d_gI hq 5 (by omega), d_gI hq 1 (by omega), hv, z_cI, d_gR hq, g1]
      (repeat' refine c_I.ite (fun _ => ?_) (fun _ => ?_)) <;> first | exact e1 | exact e2
theorem s_take (hJ : cJ T R τ σ N rk) (a b d : Int32) : ∃ σ', f_AckBook_Way_take F X (some (B + 29)) a b d (o_w B X τ σ n c s) = some (.inl none, o_w B X τ σ' n c s) ∧ cJ T R τ σ' N rk ∧ cK σ σ' := by
  have w : ∀ (σ1 : zS) (f : Nat) (y : Int32), cJ T R τ σ1 N rk ∧ cK σ σ1 → cJ T R τ (o_I σ1 29 f y) N rk ∧ cK σ (o_I σ1 29 f y) := fun σ1 f y q => ⟨q.1.I (Or.inl (by omega)), q.2.trans (cK.I (by omega))⟩
  have b0 : cJ T R τ σ N rk ∧ cK σ σ := ⟨hJ, cK.refl σ⟩
  have h26 : ∀ (σ1 : zS) (x : Int32), cJ T R τ σ1 N rk ∧ cK σ σ1 → ∃ σ', q_AckBook_Way_take_26 F X (some (B + 29)) a b d (some (B + 29)) x (o_w B X τ σ1 n c s) = some (.inl none, o_w B X τ σ' n c s) ∧ cJ T R τ σ' N rk ∧ cK σ σ' := by
    intro σ1 x q
    simp only [q_AckBook_Way_take_26, op_29_3, oi_29_4, op_29_4, op_29_0, op_29_1, oi_29_3, q_AckBook_Way_take_75, oi_29_0, oi_29_1]
    split
    · exact ⟨_, rfl, w _ _ _ (w _ _ _ (w _ _ _ (w _ _ _ q)))⟩
    · split
      · exact ⟨_, rfl, w _ _ _ (w _ _ _ (w _ _ _ q))⟩
      · exact ⟨_, rfl, w _ _ _ (w _ _ _ (w _ _ _ q))⟩
  unfold f_AckBook_Way_take
  simp only [op_29_2, oi_29_3]
  split
  · exact h26 _ _ (w _ _ _ b0)
  · exact h26 _ _ (w _ _ _ b0)
end CE
