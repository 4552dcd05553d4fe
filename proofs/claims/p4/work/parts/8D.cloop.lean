section CD
variable {B X F : Nat} {τ : zK} {n c s T R D : Nat} {σ : zS} {N rk : Nat → Nat}
def c_V (B X T : Nat) (τ : zK) (n c s : Nat) (N : Nat → Nat) (σ : zS) (D : Nat) (r : zR) : Prop := ∃ σ' rk' R', r = some (.inl none, o_w B X τ σ' n c s) ∧ cJ T R' τ σ' N rk' ∧ R' ≤ D ∧ cK σ σ'
def c_I (B X T : Nat) (τ : zK) (n c s : Nat) (N : Nat → Nat) (σ : zS) (D : Nat) (r : zR) : Prop := ∃ v σ' rk' R', r = some (.inl (some (.int v)), o_w B X τ σ' n c s) ∧ cJ T R' τ σ' N rk' ∧ R' ≤ D ∧ cK σ σ'
/-- a reference into a chain, or null -/
def c_F (B X T : Nat) (τ : zK) (n c s : Nat) (N : Nat → Nat) (σ : zS) (D : Nat) (r : zR) : Prop := ∃ o σ' rk' R', r = some (.inl (some (va_rf (Option.map (B + ·) o))), o_w B X τ σ' n c s) ∧ cJ T R' τ σ' N rk' ∧ R' ≤ D ∧ cK σ σ' ∧ ∀ q, o = some q → o_pk τ q ∧ σ'.1 q 6 ≠ 0
theorem c_V.of {σ1 : zS} {r : zR} (h : c_V B X T τ n c s N σ1 D r) (hK : cK σ σ1) : c_V B X T τ n c s N σ D r := by
  obtain ⟨σ', rk', R', h1, h2, h3, h4⟩ := h
  exact ⟨σ', rk', R', h1, h2, h3, hK.trans h4⟩
theorem c_I.of {σ1 : zS} {r : zR} (h : c_I B X T τ n c s N σ1 D r) (hK : cK σ σ1) : c_I B X T τ n c s N σ D r := by
  obtain ⟨v, σ', rk', R', h1, h2, h3, h4⟩ := h
  exact ⟨v, σ', rk', R', h1, h2, h3, hK.trans h4⟩
theorem c_F.of {σ1 : zS} {r : zR} (h : c_F B X T τ n c s N σ1 D r) (hK : cK σ σ1) : c_F B X T τ n c s N σ D r := by
  obtain ⟨v, σ', rk', R', h1, h2, h3, h4, h5⟩ := h
  exact ⟨v, σ', rk', R', h1, h2, h3, hK.trans h4, h5⟩
theorem c_V.ite {p : Prop} [Decidable p] {a b : zR} (h1 : p → c_V B X T τ n c s N σ D a) (h2 : ¬ p → c_V B X T τ n c s N σ D b) : c_V B X T τ n c s N σ D (if p then a else b) := by
  split
  · exact h1 (by assumption)
  · exact h2 (by assumption)
theorem c_I.ite {p : Prop} [Decidable p] {a b : zR} (h1 : p → c_I B X T τ n c s N σ D a) (h2 : ¬ p → c_I B X T τ n c s N σ D b) : c_I B X T τ n c s N σ D (if p then a else b) := by
  split
  · exact h1 (by assumption)
  · exact h2 (by assumption)
theorem c_F.ite {p : Prop} [Decidable p] {a b : zR} (h1 : p → c_F B X T τ n c s N σ D a) (h2 : ¬ p → c_F B X T τ n c s N σ D b) : c_F B X T τ n c s N σ D (if p then a else b) := by
  split
  · exact h1 (by assumption)
  · exact h2 (by assumption)
theorem c_mapn (o : Option Nat) : (Option.map (B + ·) o = none) = (o = none) := by
  cases o <;> simp
theorem s_markLostJ (hT : T ≤ 4096) {k : Nat} (hk : k < 3) (x1 x2 : Int32) : ∀ (M i : Nat) (fl : Option Nat) (σ : zS) (R : Nat) (rk : Nat → Nat), cJ T R τ σ N rk → (∀ q, fl = some q → o_pk τ q ∧ σ.1 q 6 ≠ 0) → i ≤ N k → N k - i < M → c_F B X T τ n c s N σ (R + (N k - i)) (j_AckBook_Sent_markLost F X M (some (B + (3 + 8 * k))) x1 x2 (Option.map (B + ·) fl) (nI i) (o_w B X τ σ n c s)) := by
  intro M
  induction M with
  | zero => exact fun _ _ _ _ _ _ _ _ h => absurd h (Nat.not_lt_zero _)
  | succ M ih =>
    intro i fl σ R rk hJ hfl hi hM
    obtain ⟨h1, h2, -⟩ := hJ.1 k hk
    have ok0 : c_F B X T τ n c s N σ (R + (N k - i)) (some (.inl (some (va_rf (Option.map (B + ·) fl))), o_w B X τ σ n c s)) := ⟨fl, σ, rk, R, rfl, hJ, by omega, cK.refl σ, hfl⟩
    rw [j_AckBook_Sent_markLost]
    simp (disch := omega) only [or_s3_2 hk, ot_s6 hk, c_size hk, z_cI, h1, e_le, oi_s3_6 hk]
    refine c_F.ite (fun _ => ok0) (fun hlt => c_F.ite (fun _ => ok0) (fun _ => ?_))
    obtain ⟨q, q1, q2⟩ := c_get (B := B) (X := X) (F := F) (n := n) (c := c) (s := s) hJ.1 hT hk (show i < N k by omega)
    simp only [q2, z_cR, d_cast q1, d_gI q1 6 (by omega), nI_1, oi_s3_6 hk]
    have e1 : ∀ σ1, cJ T R τ σ1 N rk → cK σ σ1 → (∀ q, fl = some q → o_pk τ q ∧ σ1.1 q 6 ≠ 0) → c_F B X T τ n c s N σ (R + (N k - i)) (j_AckBook_Sent_markLost F X M (some (B + (3 + 8 * k))) x1 x2 (Option.map (B + ·) fl) (nI (i + 1)) (o_w B X τ σ1 n c s)) := fun σ1 a b d => by
      obtain ⟨v, σ', rk', R', p1, p2, p3, p4, p5⟩ := ih (i + 1) fl σ1 R rk a d (by omega) (by omega)
      exact ⟨v, σ', rk', R', p1, p2, by omega, b.trans p4, p5⟩
    refine c_F.ite (fun h0 => ?_) (fun _ => e1 σ hJ (cK.refl σ) hfl)
    have e78 : c_F B X T τ n c s N σ (R + (N k - i)) (q_AckBook_Sent_markLost_78 F X (j_AckBook_Sent_markLost F X M) (some (B + (3 + 8 * k))) x1 x2 (Option.map (B + ·) fl) (nI i) (some (B + q)) (o_w B X τ σ n c s)) := by
      obtain ⟨σ1, rk1, p1, p2, p3, p4⟩ := c_end (B := B) (X := X) (F := F) (n := n) (c := c) (s := s) hJ hk (Or.inr rfl : 5 + 8 * k = 4 + 8 * k ∨ 5 + 8 * k = 5 + 8 * k) q1 h0 (wh := 2) (by decide)
      unfold q_AckBook_Sent_markLost_78
      simp only [or_s3_1 hk, ot_s3 hk, p1, z_cV, nI_1, c_mapn]
      have fin : ∀ fl' : Option Nat, (∀ p, fl' = some p → o_pk τ p ∧ σ1.1 p 6 ≠ 0) → c_F B X T τ n c s N σ (R + (N k - i)) (j_AckBook_Sent_markLost F X M (some (B + (3 + 8 * k))) x1 x2 (Option.map (B + ·) fl') (nI (i + 1)) (o_w B X τ σ1 n c s)) := fun fl' hf' => by
        obtain ⟨v, σ', rk', R', a1, a2, a3, a4, a5⟩ := ih (i + 1) fl' σ1 (R + 1) rk1 p2 hf' (by omega) (by omega)
        exact ⟨v, σ', rk', R', a1, a2, by omega, p3.trans a4, a5⟩
      refine c_F.ite (fun _ => fin (some q) (fun p hp => ?_)) (fun _ => fin fl (fun p hp => ?_))
      · obtain rfl : q = p := Option.some.inj hp
        exact ⟨q1, p4 q q1.1 (Or.inl rfl)⟩
      · exact ⟨(hfl p hp).1, p4 p (hfl p hp).1.1 (Or.inr (hfl p hp).2)⟩
    refine c_F.ite (fun _ => e78) (fun _ => ?_)
    simp only [d_gI q1 2 (by omega), oi_s3_7 hk, op_s3_7 hk]
    refine c_F.ite (fun _ => c_F.ite (fun _ => e1 _ (hJ.I (Or.inl (by omega))) (cK.I (by omega)) (fun p hp => ?_)) (fun _ => e1 σ hJ (cK.refl σ) hfl)) (fun _ => e78)
    have := hfl p hp
    exact ⟨this.1, by rw [i11, if_neg (fun z => by have := this.1.1; omega)]; exact this.2⟩
theorem s_markLost (hJ : cJ T R τ σ N rk) (hT : T ≤ 4096) (hF : 20000 ≤ F) {k : Nat} (hk : k < 3) (x1 x2 : Int32) : c_F B X T τ n c s N σ (R + N k) (f_AckBook_Sent_markLost F X (some (B + (3 + 8 * k))) x1 x2 (o_w B X τ σ n c s)) := by
  have h2 := (hJ.1 k hk).2.1
  unfold f_AckBook_Sent_markLost
  simp only [op_s3_7 hk]
  exact c_F.of (s_markLostJ hT hk x1 x2 F 0 none _ R rk (hJ.I (Or.inl (by omega))) (fun q hq => by cases hq) (Nat.zero_le _) (by omega)) (cK.I (by omega))
/-- how far it is to the end of a chain -/
def c_to (τ : zK) (R : Nat) (rk : Nat → Nat) (o : Option Nat) (M : Nat) : Prop := 0 < M ∧ ∀ q, o = some q → o_pk τ q ∧ R - rk q + 1 < M
theorem c_to.next (hJ : cJ T R τ σ N rk) {q M : Nat} (h : c_to τ R rk (some q) (M + 1)) : c_to τ R rk (σ.2.2 q 7) M := by
  obtain ⟨-, h⟩ := h
  obtain ⟨h1, h2⟩ := h q rfl
  refine ⟨by omega, fun q' hq' => ?_⟩
  obtain ⟨-, -, a3, a4⟩ := hJ.2.2.1 q h1
  obtain ⟨b1, b2, b3⟩ := a4 q' hq'
  have := (hJ.2.2.1 q' b1).2.2.1
  exact ⟨b1, by omega⟩
theorem s_leave (hJ : cJ T R τ σ N rk) {q : Nat} (hq : o_pk τ q) : ∃ σ', f_AckBook_Flow_leave F X (some (B + 30)) (some (B + q)) (o_w B X τ σ n c s) = some (.inl none, o_w B X τ σ' n c s) ∧ cJ T R τ σ' N rk ∧ cK σ σ' ∧ ∀ a, 56 ≤ a → σ'.1 a = σ.1 a ∧ σ'.2.2 a = σ.2.2 a := by
  unfold f_AckBook_Flow_leave
  simp only [d_gI hq 4 (by omega), d_gI hq 1 (by omega), oi_30_0, op_30_0]
  split
  · exact ⟨σ, rfl, hJ, cK.refl σ, fun _ _ => ⟨rfl, rfl⟩⟩
  · exact ⟨_, rfl, hJ.I (Or.inl (by omega)), cK.I (by omega), fun a ha => ⟨funext fun b => by rw [i11, if_neg (by omega)], rfl⟩⟩
theorem s_after {q : Nat} (hq : o_pk τ q) : ∃ v : Int32, f_AckBook_Flow_isAfterRecovery F X (some (B + 30)) (some (B + q)) (o_w B X τ σ n c s) = some (.inl (some (.int v)), o_w B X τ σ n c s) := by
  unfold f_AckBook_Flow_isAfterRecovery
  simp only [oi_30_3, d_gI hq 2 (by omega)]
  (repeat' split) <;> exact ⟨_, rfl⟩
theorem s_leaveLostJ (x2 : Int32) : ∀ (M : Nat) (x3 : Int32) (o : Option Nat) (σ : zS), cJ T R τ σ N rk → c_to τ R rk o M → c_V B X T τ n c s N σ R (j_AckBook_Flow_leaveLost F X M (some (B + 30)) x2 x3 (Option.map (B + ·) o) (o_w B X τ σ n c s)) := by
  intro M
  induction M with
  | zero => exact fun _ _ _ _ h => absurd h.1 (Nat.not_lt_zero _)
  | succ M ih =>
    intro x3 o σ hJ hto
    rw [j_AckBook_Flow_leaveLost]
    cases o with
    | none =>
      simp only [Option.map, if_true, op_30_3, oi_30_1, op_30_2, oi_30_2, op_30_1]
      refine c_V.ite (fun _ => ⟨σ, rk, R, rfl, hJ, Nat.le_refl _, cK.refl σ⟩) (fun _ => ⟨_, rk, R, rfl, ((hJ.I (Or.inl (by omega))).I (Or.inl (by omega))).I (Or.inl (by omega)), Nat.le_refl _, ((cK.I (by omega)).trans (cK.I (by omega))).trans (cK.I (by omega))⟩)
    | some q =>
      have hq := (hto.2 q rfl).1
      obtain ⟨σ1, p1, p2, p3, p4⟩ := s_leave (B := B) (X := X) (F := F) (n := n) (c := c) (s := s) hJ hq
      obtain ⟨v, hv⟩ := s_after (B := B) (X := X) (F := F) (n := n) (c := c) (s := s) (σ := σ1) hq
      simp only [Option.map, reduceCtorEq, if_false, ot_30, p1, z_cV, d_gI hq 4 (by omega), hv, z_cI, q_AckBook_Flow_leaveLost_41, q_AckBook_Flow_leaveLost_37, d_gR hq]
      have hn : c_to τ R rk (σ1.2.2 q 7) M := c_to.next p2 hto
      have e := fun x => (ih x (σ1.2.2 q 7) σ1 p2 hn).of p3
      (repeat' refine c_V.ite (fun _ => ?_) (fun _ => ?_)) <;> exact e _
theorem s_leaveLost (hJ : cJ T R τ σ N rk) (hF : R + 10 ≤ F) {q : Nat} (hq : o_pk τ q) (x2 : Int32) : c_V B X T τ n c s N σ R (f_AckBook_Flow_leaveLost F X (some (B + 30)) (some (B + q)) x2 (o_w B X τ σ n c s)) :=
  s_leaveLostJ x2 F 0 (some q) σ hJ ⟨by omega, fun q' hq' => by obtain rfl : q = q' := Option.some.inj hq'; exact ⟨hq, by omega⟩⟩
theorem s_hasAckJ (hJ : cJ T R τ σ N rk) (hT : T ≤ 4096) {k : Nat} (hk : k < 3) (x2 : Int32) : ∀ (M i : Nat), i ≤ 5000 → 6000 - i < M → ∃ v : Int32, j_AckBook_Sent_hasAcknowledged F X M (some (B + (3 + 8 * k))) x2 (nI i) (o_w B X τ σ n c s) = some (.inl (some (.int v)), o_w B X τ σ n c s) := by
  intro M
  induction M with
  | zero => exact fun _ _ h => absurd h (Nat.not_lt_zero _)
  | succ M ih =>
    intro i hi hM
    obtain ⟨h1, h2, -⟩ := hJ.1 k hk
    rw [j_AckBook_Sent_hasAcknowledged]
    simp (disch := omega) only [or_s3_2 hk, ot_s6 hk, c_size hk, z_cI, h1, e_le]
    by_cases hx : x2 ≤ nI i
    · rw [if_pos hx]; exact ⟨_, rfl⟩
    · rw [if_neg hx]
      by_cases hl : N k ≤ i
      · rw [if_pos hl]; exact ⟨_, rfl⟩
      · rw [if_neg hl]
        obtain ⟨q, q1, q2⟩ := c_get (B := B) (X := X) (F := F) (n := n) (c := c) (s := s) hJ.1 hT hk (show i < N k by omega)
        simp only [q2, z_cR, d_cast q1, d_gI q1 6 (by omega), nI_1]
        split
        · exact ⟨_, rfl⟩
        · exact ih (i + 1) (by omega) (by omega)
theorem s_wasCutJ (hJ : cJ T R τ σ N rk) (hT : T ≤ 4096) (hF : 20000 ≤ F) {k : Nat} (hk : k < 3) (x2 x3 : Int32) : ∀ (M : Nat) (o4 o5 o6 : Option Nat), (∀ q, o4 = some q → o_pk τ q) → (∀ q, o5 = some q → o_pk τ q) → c_to τ R rk o6 M → ∃ v : Int32, j_AckBook_Sent_wasCutOff F X M (some (B + (3 + 8 * k))) x2 x3 (Option.map (B + ·) o4) (Option.map (B + ·) o5) (Option.map (B + ·) o6) (o_w B X τ σ n c s) = some (.inl (some (.int v)), o_w B X τ σ n c s) := by
  intro M
  induction M with
  | zero => exact fun _ _ _ _ _ h => absurd h.1 (Nat.not_lt_zero _)
  | succ M ih =>
    intro o4 o5 o6 h4 h5 hto
    rw [j_AckBook_Sent_wasCutOff]
    cases o6 with
    | none =>
      cases o4 with
      | none => exact ⟨_, rfl⟩
      | some a =>
        cases o5 with
        | none => exact ⟨_, rfl⟩
        | some b =>
          have ha := h4 a rfl
          have hb := h5 b rfl
          obtain ⟨i, hi1, hi2⟩ := (hJ.2.2.1 a ha).1
          obtain ⟨v, hv⟩ := s_hasAckJ (B := B) (X := X) (F := F) (n := n) (c := c) (s := s) hJ hT hk (σ.1 b 0) F (i + 1) (by omega) (by omega)
          simp only [Option.map, reduceCtorEq, if_false, if_true, d_gI hb 2 (by omega), d_gI ha 2 (by omega), d_gI ha 0 (by omega), d_gI hb 0 (by omega), ot_s3 hk, f_AckBook_Sent_hasAcknowledged, hi1, nI_1, hv, z_cI]
          (repeat' split) <;> exact ⟨_, rfl⟩
    | some q =>
      have hq := (hto.2 q rfl).1
      have hn : c_to τ R rk (σ.2.2 q 7) M := c_to.next hJ hto
      simp only [Option.map_some, reduceCtorEq, if_false, d_gI hq 3 (by omega), d_gR hq, d_gI hq 2 (by omega), q_AckBook_Sent_wasCutOff_43, c_mapn]
      have e1 := ih o4 o5 (σ.2.2 q 7) h4 h5 hn
      have e2 := ih (some q) (some q) (σ.2.2 q 7) (fun p hp => by obtain rfl := Option.some.inj hp; exact hq) (fun p hp => by obtain rfl := Option.some.inj hp; exact hq) hn
      have e3 := ih o4 (some q) (σ.2.2 q 7) h4 (fun p hp => by obtain rfl := Option.some.inj hp; exact hq) hn
      (repeat' split) <;> first | exact e1 | exact e2 | exact e3
theorem s_look (hJ : cJ T R τ σ N rk) (hT : T ≤ 4096) (hF : R + 20000 ≤ F) {k : Nat} (hk : k < 3) : c_V B X T τ n c s N σ (R + N k) (f_AckBook_lookForLosses F X (some (B + 0)) (some (B + (3 + 8 * k))) (o_w B X τ σ n c s)) := by
  have h2 := (hJ.1 k hk).2.1
  obtain ⟨o, σ1, rk1, R1, p1, p2, p3, p4, p5⟩ := s_markLost (B := B) (X := X) (F := F) (n := n) (c := c) (s := s) hJ hT (by omega) hk (σ.1 0 4) (if (9 : Int32) * (if σ.1 29 0 / 8 < σ.1 29 2 then σ.1 29 2 else σ.1 29 0 / 8) / 8 < 1 then 1 else (9 : Int32) * (if σ.1 29 0 / 8 < σ.1 29 2 then σ.1 29 2 else σ.1 29 0 / 8) / 8)
  unfold f_AckBook_lookForLosses
  simp only [oi_0_4, or_0_2, ot_29, f_AckBook_Way_limit, oi_29_0, oi_29_2, z_cI, ot_s3 hk, p1]
  cases o with
  | none => exact ⟨σ1, rk1, R1, rfl, p2, p3, p4⟩
  | some q =>
    have hq := p5 q rfl
    obtain ⟨σ2, rk2, R2, a1, a2, a3, a4⟩ := s_leaveLost (B := B) (X := X) (F := F) (n := n) (c := c) (s := s) p2 (by omega) hq.1 (σ1.1 0 4)
    simp only [Option.map_some, va_rf, z_cR, reduceCtorEq, if_false, or_0_3, oi_0_4, ot_30, a1, z_cV, or_0_2, oi_29_4]
    refine c_V.ite (fun _ => ⟨σ2, rk2, R2, rfl, a2, by omega, p4.trans a4⟩) (fun _ => ?_)
    have hcut : ∀ x y : Int32, ∃ v : Int32, f_AckBook_Sent_wasCutOff F X (some (B + (3 + 8 * k))) (some (B + q)) x y (o_w B X τ σ2 n c s) = some (.inl (some (.int v)), o_w B X τ σ2 n c s) := fun x y =>
      s_wasCutJ (B := B) (X := X) (F := F) (n := n) (c := c) (s := s) a2 hT (by omega) hk x y F none none (some q) (fun _ h => by cases h) (fun _ h => by cases h) ⟨by omega, fun q' hq' => by obtain rfl : q = q' := Option.some.inj hq'; exact ⟨hq.1, by omega⟩⟩
    obtain ⟨v, hv⟩ := hcut (σ2.1 29 4) ((3 : Int32) * ((σ2.1 29 0 / 8 + if σ2.1 29 1 < 1 then 1 else σ2.1 29 1) + 25))
    simp only [ot_29, f_AckBook_Way_patience, oi_29_0, oi_29_1, z_cI, ot_s3 hk, hv, or_0_3, ot_30, f_AckBook_Flow_collapse, op_30_1, op_30_3, z_cV]
    exact c_V.ite (fun _ => ⟨σ2, rk2, R2, rfl, a2, by omega, p4.trans a4⟩) (fun _ => ⟨_, rk2, R2, rfl, (a2.I (Or.inl (by omega))).I (Or.inl (by omega)), by omega, (p4.trans a4).trans ((cK.I (by omega)).trans (cK.I (by omega)))⟩)
end CD
