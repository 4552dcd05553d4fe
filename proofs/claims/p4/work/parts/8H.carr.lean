/-- all but the cells of what came in space k -/
def yK (k : Nat) (σ σ' : zS) : Prop := σ'.2.2 = σ.2.2 ∧ ∀ o, o ≠ 7 + 8 * k → o ≠ 8 + 8 * k → o ≠ 9 + 8 * k → σ'.1 o = σ.1 o ∧ σ'.2.1 o = σ.2.1 o
theorem yK.refl (k : Nat) (σ : zS) : yK k σ σ := ⟨rfl, fun _ _ _ _ => ⟨rfl, rfl⟩⟩
theorem yK.trans {k : Nat} {a b d : zS} (h1 : yK k a b) (h2 : yK k b d) : yK k a d := ⟨h2.1.trans h1.1, fun o p q r => ⟨(h2.2 o p q r).1.trans (h1.2 o p q r).1, (h2.2 o p q r).2.trans (h1.2 o p q r).2⟩⟩
theorem yK.I {k f : Nat} {σ : zS} {x : Int32} : yK k σ (o_I σ (7 + 8 * k) f x) := ⟨rfl, fun o p _ _ => ⟨funext fun b => by rw [i11, if_neg (fun z => p z.1)], rfl⟩⟩
theorem yK.L {k o f : Nat} {σ : zS} {x : Int64} (ho : o = 7 + 8 * k ∨ o = 8 + 8 * k ∨ o = 9 + 8 * k) : yK k σ (o_L σ o f x) := ⟨rfl, fun a p q r => ⟨rfl, funext fun b => by rw [l12, if_neg (fun z => by omega)]⟩⟩
theorem yK.f {k : Nat} {σ σ' : zS} (hk : k < 3) (h : yK k σ σ') : xF σ σ' := fun o h1 h2 => ⟨(h.2 o (by omega) (by omega) (by omega)).1, (h.2 o (by omega) (by omega) (by omega)).2, by rw [h.1]⟩
theorem yK.u {k : Nat} {σ σ' : zS} (hk : k < 3) (h : yK k σ σ') : xU σ σ' := ⟨fun j hj => by rw [(h.2 (6 + 8 * j) (by omega) (by omega) (by omega)).1], fun j hj => by rw [(h.2 (2 + 8 * j) (by omega) (by omega) (by omega)).1], by rw [(h.2 26 (by omega) (by omega) (by omega)).1], fun i => by rw [(h.2 27 (by omega) (by omega) (by omega)).2]⟩
theorem cJ.y {T R k : Nat} {τ : zK} {σ σ' : zS} {N rk : Nat → Nat} (h : cJ T R τ σ N rk) (hk : k < 3) (hy : yK k σ σ') (hr : ∃ r, σ'.1 (7 + 8 * k) 2 = nI r ∧ r ≤ 64) : cJ T R τ σ' N rk := by
  obtain ⟨h1, h2, h3, h4, h5⟩ := h
  have e : ∀ a b, a ≠ 7 + 8 * k → a ≠ 8 + 8 * k → a ≠ 9 + 8 * k → σ'.1 a b = σ.1 a b := fun a b p q r => by rw [(hy.2 a p q r).1]
  refine ⟨fun j hj => ?_, fun j hj f' hf => ?_, fun q hq => ?_, ?_, fun j hj => ?_⟩
  · rw [hy.1, e _ _ (by omega) (by omega) (by omega)]; exact h1 j hj
  · rw [hy.1]
    refine ⟨fun q hq => ?_, fun q hq => ?_⟩
    · have := (h2 j hj f' hf).1 q hq
      have h9 := this.1.1
      exact ⟨this.1, by rw [e _ _ (by omega) (by omega) (by omega)]; exact this.2⟩
    · have := (h2 j hj f' hf).2 q hq
      have h9 := this.1.1
      exact ⟨this.1, by rw [e _ _ (by omega) (by omega) (by omega)]; exact this.2⟩
  · have hq1 := hq.1
    obtain ⟨a1, a2, a3, a4⟩ := h3 q hq
    rw [hy.1]
    refine ⟨by rw [e _ _ (by omega) (by omega) (by omega)]; exact a1, by rw [e _ _ (by omega) (by omega) (by omega)]; exact a2, a3, fun q' hq' => ?_⟩
    obtain ⟨b1, b2, b3⟩ := a4 q' hq'
    have h9 := b1.1
    exact ⟨b1, by rw [e _ _ (by omega) (by omega) (by omega)]; exact b2, b3⟩
  · obtain ⟨b1, b2, b3⟩ := h4
    exact ⟨by rw [e _ _ (by omega) (by omega) (by omega)]; exact b1, by rw [e _ _ (by omega) (by omega) (by omega)]; exact b2, by rw [(hy.2 27 (by omega) (by omega) (by omega)).2]; exact b3⟩
  · by_cases q : j = k
    · subst q; exact hr
    · rw [e _ _ (by omega) (by omega) (by omega)]; exact h5 j hj
section CH
variable {B X F : Nat} {τ : zK} {n c s T R D : Nat} {σ : zS} {N rk : Nat → Nat}
theorem s_fnaJ {k r : Nat} (hk : k < 3) (hr : σ.1 (7 + 8 * k) 2 = nI r) (h64 : r ≤ 64) (y : Int64) : ∀ (M i : Nat), i ≤ r → r - i < M → ∃ p, p ≤ r ∧ j_AckBook_Arrivals_firstNotAbove F X M (some (B + (7 + 8 * k))) y (nI i) (o_w B X τ σ n c s) = some (.inl (some (.int (nI p))), o_w B X τ σ n c s) := by
  intro M
  induction M with
  | zero => exact fun _ _ h => absurd h (Nat.not_lt_zero _)
  | succ M ih =>
    intro i hi hM
    rw [j_AckBook_Arrivals_firstNotAbove]
    simp (disch := omega) only [oi_s7_2 hk, hr, e_le, or_s7_0 hk, oan_s8 hk, lg_cmp_gt, nI_1]
    by_cases h : r ≤ i
    · rw [if_pos h]
      exact ⟨r, Nat.le_refl _, rfl⟩
    · rw [if_neg h, if_neg (show ¬ Int32.ofNat 65 ≤ nI i from nI_ge (b := 65) (by omega) (by decide))]
      simp only [oln_s8 hk (show i < 65 by omega)]
      split
      · exact ih (i + 1) (by omega) (by omega)
      · exact ⟨i, hi, rfl⟩
def y_V (B X T R : Nat) (τ : zK) (n c s : Nat) (N rk : Nat → Nat) (k : Nat) (σ : zS) (r : zR) : Prop := ∃ σ', r = some (.inl none, o_w B X τ σ' n c s) ∧ cJ T R τ σ' N rk ∧ yK k σ σ'
theorem y_V.ite {k : Nat} {p : Prop} [Decidable p] {a b : zR} (h1 : p → y_V B X T R τ n c s N rk k σ a) (h2 : ¬ p → y_V B X T R τ n c s N rk k σ b) : y_V B X T R τ n c s N rk k σ (if p then a else b) := by
  split
  · exact h1 (by assumption)
  · exact h2 (by assumption)
theorem y_V.of {k : Nat} {σ1 : zS} {r : zR} (h : y_V B X T R τ n c s N rk k σ1 r) (hK : yK k σ σ1) : y_V B X T R τ n c s N rk k σ r := by
  obtain ⟨σ', h1, h2, h3⟩ := h
  exact ⟨σ', h1, h2, hK.trans h3⟩
theorem s_cremJ (hJ : cJ T R τ σ N rk) {k r : Nat} (hk : k < 3) (h64 : r ≤ 63) : ∀ (M i : Nat) (σ1 : zS), yK k σ σ1 → σ1.1 (7 + 8 * k) 2 = nI r → i ≤ 65 → 66 - i < M → y_V B X T R τ n c s N rk k σ (j_AckBook_Arrivals_remove F X M (some (B + (7 + 8 * k))) (nI i) (o_w B X τ σ1 n c s)) := by
  intro M
  induction M with
  | zero => exact fun _ _ _ _ _ h => absurd h (Nat.not_lt_zero _)
  | succ M ih =>
    intro i σ1 hy hr hi hM
    rw [j_AckBook_Arrivals_remove]
    simp (disch := omega) only [oi_s7_2 hk, hr, e_le]
    refine y_V.ite (fun _ => ⟨σ1, rfl, hJ.y hk hy ⟨r, hr, by omega⟩, hy⟩) (fun h => ?_)
    simp only [or_s7_0 hk, or_s7_1 hk, nI_1, oln_s8 hk (show i + 1 < 65 by omega), osn_s8 hk (show i < 65 by omega), oln_s9 hk (show i + 1 < 65 by omega), osn_s9 hk (show i < 65 by omega)]
    exact ih (i + 1) _ (hy.trans ((yK.L (by omega)).trans (yK.L (by omega)))) hr (by omega) (by omega)
theorem s_crem (hJ : cJ T R τ σ N rk) (hF : 20000 ≤ F) {k r p : Nat} (hk : k < 3) (hr : σ.1 (7 + 8 * k) 2 = nI (r + 1)) (h64 : r ≤ 63) (hp : p ≤ 64) : y_V B X T R τ n c s N rk k σ (f_AckBook_Arrivals_remove F X (some (B + (7 + 8 * k))) (nI p) (o_w B X τ σ n c s)) := by
  unfold f_AckBook_Arrivals_remove
  simp only [oi_s7_2 hk, hr, nI_pred, op_s7_2 hk]
  exact s_cremJ hJ hk h64 F p _ yK.I (by rw [i11, if_pos ⟨rfl, rfl⟩]) (by omega) (by omega)
theorem s_cinsJ (hJ : cJ T R τ σ N rk) {k r p : Nat} (hk : k < 3) (h64 : r ≤ 64) (hp : p ≤ r) (y : Int64) : ∀ (M i : Nat) (σ1 : zS), yK k σ σ1 → σ1.1 (7 + 8 * k) 2 = nI r → p ≤ i → i ≤ r → i - p < M → y_V B X T R τ n c s N rk k σ (j_AckBook_Arrivals_insert F X M (some (B + (7 + 8 * k))) y (nI p) (nI i) (o_w B X τ σ1 n c s)) := by
  intro M
  induction M with
  | zero => exact fun _ _ _ _ _ _ h => absurd h (Nat.not_lt_zero _)
  | succ M ih =>
    intro i σ1 hy hr hpi hi hM
    rw [j_AckBook_Arrivals_insert]
    simp (disch := omega) only [e_le]
    by_cases h : i ≤ p
    · rw [if_pos h]
      have hr2 : (o_L (o_L σ1 (8 + 8 * k) p y) (9 + 8 * k) p y).1 (7 + 8 * k) 2 = nI r := hr
      simp only [or_s7_0 hk, or_s7_1 hk, osn_s8 hk (show p < 65 by omega), osn_s9 hk (show p < 65 by omega), oi_s7_2 hk, hr2, nI_1, op_s7_2 hk]
      have hr3 : (o_I (o_L (o_L σ1 (8 + 8 * k) p y) (9 + 8 * k) p y) (7 + 8 * k) 2 (nI (r + 1))).1 (7 + 8 * k) 2 = nI (r + 1) := by rw [i11, if_pos ⟨rfl, rfl⟩]
      have hy3 : yK k σ (o_I (o_L (o_L σ1 (8 + 8 * k) p y) (9 + 8 * k) p y) (7 + 8 * k) 2 (nI (r + 1))) := (hy.trans ((yK.L (by omega)).trans (yK.L (by omega)))).trans yK.I
      rw [hr3]
      by_cases h6 : r + 1 ≤ 64
      · rw [if_pos (show nI (r + 1) ≤ (64 : Int32) from nI_le (b := 64) h6 (by decide))]
        exact ⟨_, rfl, hJ.y hk hy3 ⟨r + 1, hr3, h6⟩, hy3⟩
      · rw [if_neg (show ¬ nI (r + 1) ≤ (64 : Int32) from nI_ge (a := 64) (by omega) (by omega)), nI_pred]
        have hr4 : (o_I (o_I (o_L (o_L σ1 (8 + 8 * k) p y) (9 + 8 * k) p y) (7 + 8 * k) 2 (nI (r + 1))) (7 + 8 * k) 2 (nI r)).1 (7 + 8 * k) 2 = nI r := by rw [i11, if_pos ⟨rfl, rfl⟩]
        simp only [or_s7_1 hk, hr4, oln_s9 hk (show r < 65 by omega), opl_s7_3 hk]
        have hy4 : yK k σ (o_L (o_I (o_I (o_L (o_L σ1 (8 + 8 * k) p y) (9 + 8 * k) p y) (7 + 8 * k) 2 (nI (r + 1))) (7 + 8 * k) 2 (nI r)) (7 + 8 * k) 3 ((o_I (o_I (o_L (o_L σ1 (8 + 8 * k) p y) (9 + 8 * k) p y) (7 + 8 * k) 2 (nI (r + 1))) (7 + 8 * k) 2 (nI r)).2.1 (9 + 8 * k) r + 1)) := (hy3.trans yK.I).trans (yK.L (by omega))
        exact ⟨_, rfl, hJ.y hk hy4 ⟨r, hr4, h64⟩, hy4⟩
    · rw [if_neg h]
      obtain ⟨i', rfl⟩ : ∃ i', i = i' + 1 := ⟨i - 1, by omega⟩
      simp only [or_s7_0 hk, or_s7_1 hk, nI_pred, oln_s8 hk (show i' < 65 by omega), osn_s8 hk (show i' + 1 < 65 by omega), oln_s9 hk (show i' < 65 by omega), osn_s9 hk (show i' + 1 < 65 by omega), pk_m1]
      exact ih i' _ (hy.trans ((yK.L (by omega)).trans (yK.L (by omega)))) hr (by omega) (by omega) (by omega)
theorem s_ckeep (hJ : cJ T R τ σ N rk) (hF : 20000 ≤ F) {k r p : Nat} (hk : k < 3) (hr : σ.1 (7 + 8 * k) 2 = nI r) (h64 : r ≤ 64) (hp : p ≤ r) (y : Int64) : y_V B X T R τ n c s N rk k σ (f_AckBook_Arrivals_keep F X (some (B + (7 + 8 * k))) y (nI p) (o_w B X τ σ n c s)) := by
  have fin : ∀ σ1, yK k σ σ1 → σ1.1 (7 + 8 * k) 2 = nI r → y_V B X T R τ n c s N rk k σ (some (.inl none, o_w B X τ σ1 n c s)) := fun σ1 h1 h2 => ⟨σ1, rfl, hJ.y hk h1 ⟨r, h2, h64⟩, h1⟩
  have h86 : ∀ a b : Int32, (a ≠ 0 → 1 ≤ p) → (b ≠ 0 → p < r) → y_V B X T R τ n c s N rk k σ (q_AckBook_Arrivals_keep_86 F X (some (B + (7 + 8 * k))) y (nI p) a b (o_w B X τ σ n c s)) := by
    intro a b ha hb
    unfold q_AckBook_Arrivals_keep_86
    refine y_V.ite (fun _ => y_V.ite (fun _ => ?_) (fun hb0 => ?_)) (fun ha0 => ?_)
    · obtain ⟨σ1, q1, q2, q3⟩ := s_cinsJ (B := B) (X := X) (F := F) (n := n) (c := c) (s := s) hJ hk h64 hp y F r σ (yK.refl k σ) hr hp (Nat.le_refl _) (by omega)
      simp only [ot_s7 hk, f_AckBook_Arrivals_insert, oi_s7_2 hk, hr, q1, z_cV]
      exact ⟨σ1, rfl, q2, q3⟩
    · have := hb hb0
      simp only [or_s7_1 hk, osn_s9 hk (show p < 65 by omega)]
      exact fin _ (yK.L (by omega)) hr
    · have := ha ha0
      simp only [or_s7_0 hk, e_m1 this, osn_s8 hk (show p - 1 < 65 by omega)]
      exact fin _ (yK.L (by omega)) hr
  have h52 : ∀ a b : Int32, (a ≠ 0 → 1 ≤ p) → (b ≠ 0 → p < r) → y_V B X T R τ n c s N rk k σ (q_AckBook_Arrivals_keep_52 F X (some (B + (7 + 8 * k))) y (nI p) a b (o_w B X τ σ n c s)) := by
    intro a b ha hb
    unfold q_AckBook_Arrivals_keep_52
    refine y_V.ite (fun _ => h86 a b ha hb) (fun ha0 => y_V.ite (fun _ => h86 a b ha hb) (fun hb0 => ?_))
    have h1 := ha ha0
    have h2 := hb hb0
    simp only [or_s7_0 hk, oln_s8 hk (show p < 65 by omega), e_m1 h1, osn_s8 hk (show p - 1 < 65 by omega), ot_s7 hk]
    obtain ⟨r', rfl⟩ : ∃ r', r = r' + 1 := ⟨r - 1, by omega⟩
    have hy1 : yK k σ (o_L σ (8 + 8 * k) (p - 1) (σ.2.1 (8 + 8 * k) p)) := yK.L (by omega)
    obtain ⟨σ1, q1, q2, q3⟩ := s_crem (B := B) (X := X) (F := F) (n := n) (c := c) (s := s) (hJ.y hk hy1 ⟨_, hr, h64⟩) hF hk (r := r') (p := p) hr (by omega) (by omega)
    simp only [q1, z_cV]
    exact ⟨σ1, rfl, q2, hy1.trans q3⟩
  have h24 : ∀ a : Int32, (a ≠ 0 → 1 ≤ p) → y_V B X T R τ n c s N rk k σ (q_AckBook_Arrivals_keep_24 F X (some (B + (7 + 8 * k))) y (nI p) a (o_w B X τ σ n c s)) := by
    intro a ha
    unfold q_AckBook_Arrivals_keep_24
    simp (disch := omega) only [oi_s7_2 hk, hr, e_le, q_AckBook_Arrivals_keep_51]
    refine y_V.ite (fun _ => h52 a 0 ha (fun q => absurd rfl q)) (fun h => ?_)
    simp only [or_s7_1 hk, oln_s9 hk (show p < 65 by omega)]
    exact y_V.ite (fun _ => h52 a 1 ha (fun _ => by omega)) (fun _ => h52 a 0 ha (fun q => absurd rfl q))
  unfold f_AckBook_Arrivals_keep
  simp only [q_AckBook_Arrivals_keep_23]
  rcases Nat.eq_zero_or_pos p with q | q
  · subst q
    rw [if_pos (by decide)]
    exact h24 0 (fun q => absurd rfl q)
  · rw [if_neg (nI_nle q (by omega))]
    simp only [or_s7_0 hk, e_m1 q, oln_s8 hk (show p - 1 < 65 by omega)]
    exact y_V.ite (fun _ => h24 1 (fun _ => q)) (fun _ => h24 0 (fun q => absurd rfl q))
theorem s_enter (hJ : cJ T R τ σ N rk) (hF : 20000 ≤ F) {k : Nat} (hk : k < 3) (y : Int64) (x z : Int32) : ∃ v σ', (v = 0 ∨ v = 1) ∧ f_AckBook_Arrivals_enter F X (some (B + (7 + 8 * k))) y x z (o_w B X τ σ n c s) = some (.inl (some (.int v)), o_w B X τ σ' n c s) ∧ cJ T R τ σ' N rk ∧ yK k σ σ' := by
  obtain ⟨r, hr, h64⟩ := hJ.2.2.2.2 k hk
  obtain ⟨p, hp, hp2⟩ := s_fnaJ (B := B) (X := X) (F := F) (τ := τ) (n := n) (c := c) (s := s) hk hr h64 y F 0 (Nat.zero_le _) (by omega)
  have hp2 : f_AckBook_Arrivals_firstNotAbove F X (some (B + (7 + 8 * k))) y (o_w B X τ σ n c s) = _ := hp2
  have w : ∀ (σ1 : zS) (f : Nat) (x : Int32), f ≠ 2 → cJ T R τ σ1 N rk ∧ yK k σ σ1 → cJ T R τ (o_I σ1 (7 + 8 * k) f x) N rk ∧ yK k σ (o_I σ1 (7 + 8 * k) f x) := fun σ1 f x hf q => ⟨q.1.y hk yK.I (by rw [i11, if_neg (fun z => hf z.2.symm)]; exact q.1.2.2.2.2 k hk), q.2.trans yK.I⟩
  have h91 : ∀ (u : Int64) (σ1 : zS), cJ T R τ σ1 N rk ∧ yK k σ σ1 → ∃ v σ', (v = 0 ∨ v = 1) ∧ q_AckBook_Arrivals_enter_91 F X (some (B + (7 + 8 * k))) y z u (o_w B X τ σ1 n c s) = some (.inl (some (.int v)), o_w B X τ σ' n c s) ∧ cJ T R τ σ' N rk ∧ yK k σ σ' := by
    intro u σ1 q
    unfold q_AckBook_Arrivals_enter_91
    simp only [op_s7_7 hk]
    split
    · exact ⟨1, σ1, Or.inr rfl, rfl, q⟩
    · exact ⟨1, _, Or.inr rfl, rfl, w σ1 7 z (by decide) q⟩
  have h86 : ∀ (u : Int64) (b : Int32) (σ1 : zS), cJ T R τ σ1 N rk ∧ yK k σ σ1 → ∃ v σ', (v = 0 ∨ v = 1) ∧ q_AckBook_Arrivals_enter_86 F X (some (B + (7 + 8 * k))) y z u (some (B + (7 + 8 * k))) b (o_w B X τ σ1 n c s) = some (.inl (some (.int v)), o_w B X τ σ' n c s) ∧ cJ T R τ σ' N rk ∧ yK k σ σ' := by
    intro u b σ1 q
    have hh : ∃ σ', f_AckBook_Arrivals_hold F X (some (B + (7 + 8 * k))) b z (o_w B X τ σ1 n c s) = some (.inl none, o_w B X τ σ' n c s) ∧ cJ T R τ σ' N rk ∧ yK k σ σ' := by
      unfold f_AckBook_Arrivals_hold
      simp only [oi_s7_4 hk, op_s7_5 hk, q_AckBook_Arrivals_hold_12, op_s7_4 hk, oi_s7_6 hk, oz0_s7_6 hk, oz1_s7_6 hk]
      (repeat' split) <;> first | exact ⟨_, rfl, w _ _ _ (by decide) (w _ _ _ (by decide) q)⟩ | exact ⟨_, rfl, w _ _ _ (by decide) (w _ _ _ (by decide) (w _ _ _ (by decide) q))⟩
    obtain ⟨σ2, a1, a2⟩ := hh
    unfold q_AckBook_Arrivals_enter_86
    simp only [ot_s7 hk, a1, y_cV]
    exact h91 u σ2 a2
  have h58 : ∀ u : Int64, ∃ v σ', (v = 0 ∨ v = 1) ∧ q_AckBook_Arrivals_enter_58 F X (some (B + (7 + 8 * k))) y x z (nI p) u (o_w B X τ σ n c s) = some (.inl (some (.int v)), o_w B X τ σ' n c s) ∧ cJ T R τ σ' N rk ∧ yK k σ σ' := by
    intro u
    obtain ⟨σ1, a1, a2⟩ := s_ckeep (B := B) (X := X) (F := F) (n := n) (c := c) (s := s) hJ hF hk hr h64 hp y
    unfold q_AckBook_Arrivals_enter_58
    simp only [ot_s7 hk, a1, y_cV]
    split
    · exact h91 u σ1 a2
    · split
      · exact h86 u 0 σ1 a2
      · exact h86 u 1 σ1 a2
  have h39 : ∃ v σ', (v = 0 ∨ v = 1) ∧ q_AckBook_Arrivals_enter_39 F X (some (B + (7 + 8 * k))) y x z (nI p) (o_w B X τ σ n c s) = some (.inl (some (.int v)), o_w B X τ σ' n c s) ∧ cJ T R τ σ' N rk ∧ yK k σ σ' := by
    have e0 : ∀ K : Int64 → zR, z_ldL (o_w B X τ σ n c s) (some (B + (9 + 8 * k))) 0 K = K (σ.2.1 (9 + 8 * k) 0) := fun K => oln_s9 hk (i := 0) (by decide) K
    unfold q_AckBook_Arrivals_enter_39
    simp only [oi_s7_2 hk, or_s7_1 hk, e0]
    split
    · exact h58 _
    · exact h58 _
  unfold f_AckBook_Arrivals_enter
  simp (disch := omega) only [ot_s7 hk, hp2, y_cI, ol_s7_3 hk, oi_s7_2 hk, hr, e_le, or_s7_1 hk]
  split
  · exact ⟨0, σ, Or.inl rfl, rfl, hJ, yK.refl k σ⟩
  · split
    · exact h39
    · rename_i hlt
      simp only [oln_s9 hk (show p < 65 by omega)]
      split
      · exact h39
      · exact ⟨0, σ, Or.inl rfl, rfl, hJ, yK.refl k σ⟩
theorem k_came (h : kI T τ σ n c s) (hT : T < 512) (hF : 100000000 ≤ F) (x : Int32) (y : Int64) (z : Int32) : k_c B X T (f_AckBook_came F X (some (B + 0)) x y z (o_w B X τ σ n c s)) (qI σ) := by
  obtain ⟨N, rk, R, hJ, hR, hN⟩ := h
  have t11 : k_c B X T (z_thr (o_w B X τ σ n c s) 11) (qI σ) := k_thr hJ (by omega) hN hT 11 (by decide) ⟨xF.refl σ, xU.refl σ, Or.inr (Or.inl rfl)⟩
  unfold f_AckBook_came
  simp only [ot_0]
  rcases e_sp x with hx | ⟨k, hk, rfl⟩
  · rw [c_knownB hx, z_thr_cR]
    exact t11
  · simp only [c_known hk, y_cRs]
    refine k_c.ite (fun _ => t11) (fun _ => k_c.ite (fun _ => ?_) (fun _ => t11))
    simp only [f_AckBook_refuseDiscarded, oi_s2_3 hk]
    by_cases hd : σ.1 (2 + 8 * k) 3 = 0
    · rw [if_pos hd]
      obtain ⟨v, σ1, hv, a1, a2, a3⟩ := s_enter (B := B) (X := X) (F := F) (n := n) (c := c) (s := s) hJ (by omega) hk y z (σ.1 0 4)
      simp only [y_cV, or_s2_2 hk, oi_0_4, ot_s7 hk, a1, y_cI, z_retZ, if_pos hv]
      exact k_ret a2 (by omega) hN ⟨a3.f hk, a3.u hk, Or.inl ⟨v, rfl⟩⟩
    · rw [if_neg hd, z_thr_cV]
      exact k_thr hJ (by omega) hN hT 12 (by decide) ⟨xF.refl σ, xU.refl σ, Or.inr (Or.inr rfl)⟩
end CH
