/-! What holds of the class's cells. -/
def cN (T : Nat) (τ : zK) (n c s : Nat) : Prop := 56 ≤ n ∧ (∀ o, n ≤ o → τ o = none) ∧ 10 * (512 - T) ≤ c ∧ 5000 * (512 - T) ≤ s
def cL (T : Nat) (τ : zK) (σ : zS) (N : Nat → Nat) : Prop := ∀ k, k < 3 → σ.1 (6 + 8 * k) 1 = nI (N k) ∧ N k ≤ T ∧ (σ.2.2 (6 + 8 * k) 0 = none ∧ N k = 0 ∨ ∃ e cap, σ.2.2 (6 + 8 * k) 0 = some e ∧ o_ar τ e cap ∧ N k ≤ cap ∧ cap ≤ 2 * T + 10 ∧ 1 ≤ cap ∧ (∀ j, j < cap → σ.2.2 e j = none ∨ ∃ q, σ.2.2 e j = some q ∧ o_pk τ q) ∧ ∀ j, j < N k → σ.2.2 e j ≠ none)
/-- the chains' ends -/
def cC (τ : zK) (σ : zS) : Prop := ∀ k, k < 3 → ∀ f, f < 2 → (∀ q, σ.2.2 (4 + 8 * k) f = some q → o_pk τ q ∧ σ.1 q 6 ≠ 0) ∧ ∀ q, σ.2.2 (5 + 8 * k) f = some q → o_pk τ q ∧ σ.1 q 6 ≠ 0
/-- packets: their numbers, and that their chains come to an end -/
def cP (R : Nat) (τ : zK) (σ : zS) (rk : Nat → Nat) : Prop := ∀ q, o_pk τ q → (∃ j, σ.1 q 0 = nI j ∧ j ≤ 4096) ∧ (σ.1 q 6 = 0 → σ.2.2 q 7 = none) ∧ rk q ≤ R ∧ ∀ q', σ.2.2 q 7 = some q' → o_pk τ q' ∧ σ.1 q' 6 ≠ 0 ∧ rk q < rk q'
def cM (σ : zS) : Prop := (∃ p, σ.1 26 2 = nI p ∧ p ≤ 64) ∧ (∃ p, σ.1 26 3 = nI p ∧ p ≤ 64) ∧ ∀ i, i < 64 → 0 ≤ (σ.2.1 27 i).toInt
def cR (σ : zS) : Prop := ∀ k, k < 3 → ∃ r, σ.1 (7 + 8 * k) 2 = nI r ∧ r ≤ 64
def cJ (T R : Nat) (τ : zK) (σ : zS) (N rk : Nat → Nat) : Prop := cL T τ σ N ∧ cC τ σ ∧ cP R τ σ rk ∧ cM σ ∧ cR σ
/-- what the inner methods of the class leave as it is -/
def cK (σ σ' : zS) : Prop := σ'.2.1 = σ.2.1 ∧ ∀ o, (31 ≤ o ∧ o < 56) ∨ o = 26 ∨ (o < 26 ∧ (o % 8 = 2 ∨ o % 8 = 6 ∨ o % 8 = 7)) → σ'.1 o = σ.1 o ∧ σ'.2.2 o = σ.2.2 o
theorem cK.refl (σ : zS) : cK σ σ := ⟨rfl, fun _ _ => ⟨rfl, rfl⟩⟩
theorem cK.trans {a b d : zS} (h1 : cK a b) (h2 : cK b d) : cK a d := ⟨h2.1.trans h1.1, fun o ho => ⟨(h2.2 o ho).1.trans (h1.2 o ho).1, (h2.2 o ho).2.trans (h1.2 o ho).2⟩⟩
theorem cK.I {σ : zS} {o f : Nat} {x : Int32} (h : ¬ ((31 ≤ o ∧ o < 56) ∨ o = 26 ∨ (o < 26 ∧ (o % 8 = 2 ∨ o % 8 = 6 ∨ o % 8 = 7)))) : cK σ (o_I σ o f x) := ⟨rfl, fun a ha => ⟨funext fun b => by rw [i11, if_neg]; rintro ⟨rfl, rfl⟩; exact h ha, rfl⟩⟩
theorem cK.R {σ : zS} {o f : Nat} {x : Option Nat} (h : ¬ ((31 ≤ o ∧ o < 56) ∨ o = 26 ∨ (o < 26 ∧ (o % 8 = 2 ∨ o % 8 = 6 ∨ o % 8 = 7)))) : cK σ (o_R σ o f x) := ⟨rfl, fun a ha => ⟨rfl, funext fun b => by rw [r13, if_neg]; rintro ⟨rfl, rfl⟩; exact h ha⟩⟩
/-- a write of an int of which nothing is asked -/
theorem cJ.I {T R : Nat} {τ : zK} {σ : zS} {N rk : Nat → Nat} (h : cJ T R τ σ N rk) {o f : Nat} {x : Int32} (ho : (o < 56 ∧ ¬ (o < 26 ∧ (o % 8 = 6 ∨ o % 8 = 7)) ∧ o ≠ 26) ∨ (56 ≤ o ∧ f ≠ 0 ∧ f ≠ 6)) : cJ T R τ (o_I σ o f x) N rk := by
  obtain ⟨h1, h2, h3, h4, h5⟩ := h
  have e : ∀ a b, (a < 26 ∧ (a % 8 = 6 ∨ a % 8 = 7)) ∨ a = 26 ∨ (56 ≤ a ∧ (b = 0 ∨ b = 6)) → (o_I σ o f x).1 a b = σ.1 a b := fun a b hab => by
    rw [i11, if_neg]
    rintro ⟨rfl, rfl⟩
    omega
  refine ⟨fun k hk => ?_, fun k hk f' hf => ⟨fun q hq => ?_, fun q hq => ?_⟩, fun q hq => ?_, ?_, fun k hk => ?_⟩
  · rw [e _ _ (Or.inl (by omega))]; exact h1 k hk
  · have := (h2 k hk f' hf).1 q hq
    exact ⟨this.1, by rw [e _ _ (Or.inr (Or.inr ⟨this.1.1, Or.inr rfl⟩))]; exact this.2⟩
  · have := (h2 k hk f' hf).2 q hq
    exact ⟨this.1, by rw [e _ _ (Or.inr (Or.inr ⟨this.1.1, Or.inr rfl⟩))]; exact this.2⟩
  · obtain ⟨a1, a2, a3, a4⟩ := h3 q hq
    refine ⟨by rw [e _ _ (Or.inr (Or.inr ⟨hq.1, Or.inl rfl⟩))]; exact a1, by rw [e _ _ (Or.inr (Or.inr ⟨hq.1, Or.inr rfl⟩))]; exact a2, a3, fun q' hq' => ?_⟩
    obtain ⟨b1, b2, b3⟩ := a4 q' hq'
    exact ⟨b1, by rw [e _ _ (Or.inr (Or.inr ⟨b1.1, Or.inr rfl⟩))]; exact b2, b3⟩
  · obtain ⟨b1, b2, b3⟩ := h4
    exact ⟨by rw [e _ _ (Or.inr (Or.inl rfl))]; exact b1, by rw [e _ _ (Or.inr (Or.inl rfl))]; exact b2, b3⟩
  · rw [e _ _ (Or.inl (by omega))]; exact h5 k hk
section CM
variable {B X F : Nat} {τ : zK} {n c s T R : Nat} {σ : zS} {N rk : Nat → Nat}
theorem c_size {k : Nat} (hk : k < 3) : f_ArrayList_size F X (some (B + (6 + 8 * k))) (o_w B X τ σ n c s) = some (.inl (some (.int (σ.1 (6 + 8 * k) 1))), o_w B X τ σ n c s) := by
  unfold f_ArrayList_size
  rw [oi_s6_1 hk]
theorem c_get (hJ : cL T τ σ N) (hT : T ≤ 4096) {k i : Nat} (hk : k < 3) (hi : i < N k) : ∃ q, o_pk τ q ∧ f_ArrayList_get F X (some (B + (6 + 8 * k))) (nI i) (o_w B X τ σ n c s) = some (.inl (some (.ref (B + q))), o_w B X τ σ n c s) := by
  obtain ⟨h1, h2, h3⟩ := hJ k hk
  rcases h3 with ⟨-, h3⟩ | ⟨e, cap, g1, g2, g3, g4, g5, g6, g7⟩
  · omega
  · rcases g6 i (by omega) with q | ⟨q, q1, q2⟩
    · exact absurd q (g7 i hi)
    · refine ⟨q, q2, ?_⟩
      have hE : o_E B X (σ.2.2 (6 + 8 * k) 0) = B + e := by rw [g1]; rfl
      unfold f_ArrayList_get
      simp only [oi_s6_1 hk, h1, f_Objects_checkIndex, f_Preconditions_checkIndex]
      rw [if_neg (nI_pos (by omega)), if_pos (nI_lt hi (by omega))]
      simp only [z_cI, ot_s6 hk, f_ArrayList_elementData, or_s6_0 hk, hE, d_ldR g2]
      rw [if_pos (nI_in (show i < cap by omega) (by omega)), nI_clamp (by omega), q1]
      simp only [Option.map, va_rf, z_cR]
theorem c_packet (hJ : cL T τ σ N) (hT : T ≤ 4096) {k : Nat} (hk : k < 3) (y : Int64) : (∃ q, o_pk τ q ∧ f_AckBook_Sent_packet F X (some (B + (3 + 8 * k))) y (o_w B X τ σ n c s) = some (.inl (some (.ref (B + q))), o_w B X τ σ n c s)) ∨ f_AckBook_Sent_packet F X (some (B + (3 + 8 * k))) y (o_w B X τ σ n c s) = some (.inl (some .null), o_w B X τ σ n c s) := by
  obtain ⟨h1, h2, -⟩ := hJ k hk
  unfold f_AckBook_Sent_packet
  simp only [lg_cmp_lt, or_s3_2 hk, ot_s6 hk, c_size hk, z_cI, h1, nI_l (show N k < 2 ^ 31 by omega)]
  by_cases h0 : y < 0
  · rw [if_pos h0]; exact Or.inr rfl
  · rw [if_neg h0]
    by_cases hl : y < lN (N k)
    · rw [if_pos hl]
      have h00 : 0 ≤ y.toInt := by
        have a1 := Int64.le_iff_toInt_le.mp (Int64.not_lt.mp h0)
        have a3 : (0 : Int64).toInt = 0 := by decide
        omega
      obtain ⟨e, rfl, he⟩ := l_of h00 hl (by omega)
      obtain ⟨q, q1, q2⟩ := c_get (B := B) (X := X) (F := F) (n := n) (c := c) (s := s) hJ hT hk he
      rw [lN_i, q2]
      exact Or.inl ⟨q, q1, by simp only [z_cR, d_cast q1, va_rf]⟩
    · rw [if_neg hl]; exact Or.inr rfl
/-! a chain's object, by its offset -/
theorem c_chT {k ch : Nat} (hk : k < 3) (hc : ch = 4 + 8 * k ∨ ch = 5 + 8 * k) (K : zR) : z_this (o_w B X τ σ n c s) 3 (some (B + ch)) K = K := by
  rcases hc with rfl | rfl
  · exact ot_s4 hk K
  · exact ot_s5 hk K
theorem c_chG {k ch f : Nat} (hk : k < 3) (hc : ch = 4 + 8 * k ∨ ch = 5 + 8 * k) (hf : f = 0 ∨ f = 1) (K : Option Nat → zR) : z_getR (o_w B X τ σ n c s) 3 f (some (B + ch)) K = K ((σ.2.2 ch f).map (B + ·)) := by
  rcases hc with rfl | rfl <;> rcases hf with rfl | rfl
  · exact or_s4_0 hk K
  · exact or_s4_1 hk K
  · exact or_s5_0 hk K
  · exact or_s5_1 hk K
theorem c_chP {k ch f : Nat} (hk : k < 3) (hc : ch = 4 + 8 * k ∨ ch = 5 + 8 * k) (hf : f = 0 ∨ f = 1) (x : Nat) (K : zW → zR) : z_put (o_w B X τ σ n c s) 3 f (some (B + ch)) (va_rf (some (B + x))) K = K (o_w B X τ (o_R σ ch f (some x)) n c s) := by
  rcases hc with rfl | rfl <;> rcases hf with rfl | rfl
  · exact opr_s4_0 hk (some x) K
  · exact opr_s4_1 hk (some x) K
  · exact opr_s5_0 hk (some x) K
  · exact opr_s5_1 hk (some x) K
theorem d_pRS {o : Nat} (h : o_pk τ o) (x : Nat) (K : zW → zR) : z_put (o_w B X τ σ n c s) 9 7 (some (B + o)) (va_rf (some (B + x))) K = K (o_w B X τ (o_R σ o 7 (some x)) n c s) := d_pR h (some x)
theorem c_app {k q ch : Nat} (hk : k < 3) (hc : ch = 4 + 8 * k ∨ ch = 5 + 8 * k) (hl : ∀ l, σ.2.2 ch 1 = some l → o_pk τ l) : f_AckBook_Chain_append F X (some (B + ch)) (some (B + q)) (o_w B X τ σ n c s) = some (.inl none, o_w B X τ (o_R (o_R σ ch 0 (some q)) ch 1 (some q)) n c s) ∨ ∃ l, σ.2.2 ch 1 = some l ∧ f_AckBook_Chain_append F X (some (B + ch)) (some (B + q)) (o_w B X τ σ n c s) = some (.inl none, o_w B X τ (o_R (o_R σ l 7 (some q)) ch 1 (some q)) n c s) := by
  unfold f_AckBook_Chain_append
  simp only [c_chG hk hc (Or.inl rfl), c_chG hk hc (Or.inr rfl)]
  have h14 : q_AckBook_Chain_append_14 F X (some (B + ch)) (some (B + q)) (o_w B X τ σ n c s) = some (.inl none, o_w B X τ (o_R (o_R σ ch 0 (some q)) ch 1 (some q)) n c s) := by
    simp only [q_AckBook_Chain_append_14, c_chP hk hc (Or.inl rfl), c_chP hk hc (Or.inr rfl)]
  cases h0 : σ.2.2 ch 0 with
  | none => simp only [Option.map, if_true]; exact Or.inl h14
  | some a =>
    cases h1 : σ.2.2 ch 1 with
    | none => simp only [Option.map, reduceCtorEq, if_false, if_true]; exact Or.inl h14
    | some l =>
      simp only [Option.map, reduceCtorEq, if_false, d_pRS (hl l h1), c_chP hk hc (Or.inr rfl)]
      exact Or.inr ⟨l, rfl, rfl⟩
theorem c_endA (hJ : cJ T R τ σ N rk) {k q ch : Nat} (hk : k < 3) (hc : ch = 4 + 8 * k ∨ ch = 5 + 8 * k) (hq : o_pk τ q) (h0 : σ.1 q 6 = 0) {wh : Int32} (hw : wh ≠ 0) {l : Nat} (hl : l = ch ∨ (o_pk τ l ∧ σ.1 l 6 ≠ 0)) {f : Nat} (hf : (l = ch ∧ f = 0) ∨ (56 ≤ l ∧ f = 7)) : cJ T (R + 1) τ (o_R (o_R (o_I σ q 6 wh) l f (some q)) ch 1 (some q)) N (fun a => if a = q then R + 1 else rk a) ∧ cK σ (o_R (o_R (o_I σ q 6 wh) l f (some q)) ch 1 (some q)) := by
  obtain ⟨h1, h2, h3, h4, h5⟩ := hJ
  have hq1 := hq.1
  have hch : ch < 26 ∧ ¬ (ch % 8 = 2 ∨ ch % 8 = 6 ∨ ch % 8 = 7) := by omega
  have eI : ∀ a b, (o_R (o_R (o_I σ q 6 wh) l f (some q)) ch 1 (some q)).1 a b = if a = q ∧ b = 6 then wh else σ.1 a b := fun a b => rfl
  have eR : ∀ a b, (o_R (o_R (o_I σ q 6 wh) l f (some q)) ch 1 (some q)).2.2 a b = if a = ch ∧ b = 1 then some q else if a = l ∧ b = f then some q else σ.2.2 a b := fun a b => rfl
  refine ⟨⟨fun k' hk' => ?_, fun k' hk' f' hf' => ⟨fun p hp => ?_, fun p hp => ?_⟩, fun p hp => ?_, ?_, fun k' hk' => ?_⟩, ?_⟩
  · rw [eI, if_neg (by omega)]
    obtain ⟨a1, a2, a3⟩ := h1 k' hk'
    refine ⟨a1, a2, ?_⟩
    rw [eR, if_neg (by omega), if_neg (by omega)]
    rcases a3 with a3 | ⟨e, cap, g1, g2, g3, g4, g5, g6, g7⟩
    · exact Or.inl a3
    · have hne : ∀ j, (o_R (o_R (o_I σ q 6 wh) l f (some q)) ch 1 (some q)).2.2 e j = σ.2.2 e j := fun j => by
        have he := g2.1
        rw [eR, if_neg (by omega), if_neg]
        rintro ⟨rfl, -⟩
        rcases hl with rfl | ⟨hl, -⟩
        · omega
        · have := hl.2.symm.trans g2.2
          cases this
      exact Or.inr ⟨e, cap, g1, g2, g3, g4, g5, fun j hj => by rw [hne]; exact g6 j hj, fun j hj => by rw [hne]; exact g7 j hj⟩
  · have hh : p = q ∨ (o_pk τ p ∧ σ.1 p 6 ≠ 0) := by
      rw [eR] at hp
      split at hp
      · exact Or.inl (Option.some.inj hp).symm
      · split at hp
        · exact Or.inl (Option.some.inj hp).symm
        · exact Or.inr ((h2 k' hk' f' hf').1 p hp)
    rw [eI]
    rcases hh with rfl | ⟨a, b⟩
    · exact ⟨hq, by rw [if_pos ⟨rfl, rfl⟩]; exact hw⟩
    · exact ⟨a, by split; exact hw; exact b⟩
  · have hh : p = q ∨ (o_pk τ p ∧ σ.1 p 6 ≠ 0) := by
      rw [eR] at hp
      split at hp
      · exact Or.inl (Option.some.inj hp).symm
      · split at hp
        · exact Or.inl (Option.some.inj hp).symm
        · exact Or.inr ((h2 k' hk' f' hf').2 p hp)
    rw [eI]
    rcases hh with rfl | ⟨a, b⟩
    · exact ⟨hq, by rw [if_pos ⟨rfl, rfl⟩]; exact hw⟩
    · exact ⟨a, by split; exact hw; exact b⟩
  · obtain ⟨a1, a2, a3, a4⟩ := h3 p hp
    have hp1 := hp.1
    have hqf : σ.2.2 q 7 = none := (h3 q hq).2.1 h0
    refine ⟨by rw [eI, if_neg (by omega)]; exact a1, fun hz => ?_, ?_, fun p' hp' => ?_⟩
    · rw [eI] at hz
      split at hz
      · exact absurd hz hw
      · rename_i hne
        rw [eR, if_neg (by omega), if_neg]
        · exact a2 hz
        · rintro ⟨rfl, rfl⟩
          rcases hl with rfl | ⟨-, hl2⟩
          · omega
          · exact hl2 hz
    · show (if p = q then R + 1 else rk p) ≤ R + 1
      split <;> omega
    · rw [eR, if_neg (by omega)] at hp'
      split at hp'
      · rename_i hpl
        obtain rfl : q = p' := Option.some.inj hp'
        refine ⟨hq, by rw [eI, if_pos ⟨rfl, rfl⟩]; exact hw, ?_⟩
        show (if p = q then R + 1 else rk p) < if q = q then R + 1 else rk q
        rw [if_pos rfl, if_neg]
        · omega
        · rintro rfl
          rcases hl with rfl | ⟨-, hl2⟩
          · omega
          · exact hl2 (hpl.1 ▸ h0)
      · obtain ⟨b1, b2, b3⟩ := a4 p' hp'
        have hpq : p ≠ q := by rintro rfl; rw [hqf] at hp'; cases hp'
        have hpq' : p' ≠ q := by rintro rfl; exact b2 h0
        refine ⟨b1, by rw [eI, if_neg (fun z => hpq' z.1)]; exact b2, ?_⟩
        show (if p = q then R + 1 else rk p) < if p' = q then R + 1 else rk p'
        rw [if_neg hpq, if_neg hpq']
        exact b3
  · obtain ⟨b1, b2, b3⟩ := h4
    exact ⟨by rw [eI, if_neg (by omega)]; exact b1, by rw [eI, if_neg (by omega)]; exact b2, b3⟩
  · rw [eI, if_neg (by omega)]; exact h5 k' hk'
  · refine (((cK.I ?_).trans (cK.R ?_)).trans (cK.R ?_))
    · omega
    · rcases hf with ⟨rfl, -⟩ | ⟨hf, -⟩ <;> omega
    · omega
/-- a packet that is out gets its fate, and stands last in a chain -/
theorem c_end (hJ : cJ T R τ σ N rk) {k q ch : Nat} (hk : k < 3) (hc : ch = 4 + 8 * k ∨ ch = 5 + 8 * k) (hq : o_pk τ q) (h0 : σ.1 q 6 = 0) {wh : Int32} (hw : wh ≠ 0) : ∃ σ' rk', f_AckBook_Sent_end F X (some (B + (3 + 8 * k))) (some (B + q)) wh (some (B + ch)) (o_w B X τ σ n c s) = some (.inl none, o_w B X τ σ' n c s) ∧ cJ T (R + 1) τ σ' N rk' ∧ cK σ σ' ∧ ∀ p, 56 ≤ p → (p = q ∨ σ.1 p 6 ≠ 0) → σ'.1 p 6 ≠ 0 := by
  have hq1 := hq.1
  have key : ∃ σ1 rk', f_AckBook_Chain_append F X (some (B + ch)) (some (B + q)) (o_w B X τ (o_I σ q 6 wh) n c s) = some (.inl none, o_w B X τ σ1 n c s) ∧ cJ T (R + 1) τ σ1 N rk' ∧ cK σ σ1 ∧ ∀ p, σ1.1 p 6 = if p = q then wh else σ.1 p 6 := by
    have hls : ∀ l, σ.2.2 ch 1 = some l → o_pk τ l ∧ σ.1 l 6 ≠ 0 := fun l hl => by
      rcases hc with rfl | rfl
      · exact (hJ.2.1 k hk 1 (by omega)).1 l hl
      · exact (hJ.2.1 k hk 1 (by omega)).2 l hl
    rcases c_app (B := B) (X := X) (F := F) (n := n) (c := c) (s := s) (σ := o_I σ q 6 wh) (q := q) hk hc (fun l hl => (hls l hl).1) with h | ⟨l, hl, h⟩
    · have := c_endA hJ hk hc hq h0 hw (l := ch) (f := 0) (Or.inl rfl) (Or.inl ⟨rfl, rfl⟩)
      exact ⟨_, _, h, this.1, this.2, fun p => by show (o_I σ q 6 wh).1 p 6 = _; rw [i11]; simp⟩
    · have hl2 := hls l hl
      have := c_endA hJ hk hc hq h0 hw (l := l) (f := 7) (Or.inr hl2) (Or.inr ⟨hl2.1.1, rfl⟩)
      exact ⟨_, _, h, this.1, this.2, fun p => by show (o_I σ q 6 wh).1 p 6 = _; rw [i11]; simp⟩
  obtain ⟨σ1, rk', k1, k2, k3, k4⟩ := key
  unfold f_AckBook_Sent_end
  simp only [d_pI hq 6 (by omega), c_chT hk hc, k1, z_cV, oi_s3_3 hk, op_s3_3 hk, d_gI hq 3 (by omega), oi_s3_4 hk, op_s3_4 hk]
  have w1 := k2.I (o := 3 + 8 * k) (f := 3) (x := σ1.1 (3 + 8 * k) 3 - 1) (Or.inl (by omega))
  have c1 : cK σ (o_I σ1 (3 + 8 * k) 3 (σ1.1 (3 + 8 * k) 3 - 1)) := k3.trans (cK.I (by omega))
  have k5 : ∀ p, (p = q ∨ σ.1 p 6 ≠ 0) → σ1.1 p 6 ≠ 0 := fun p hp => by
    rw [k4]
    split
    · exact hw
    · rename_i hne
      exact hp.resolve_left hne
  split
  · exact ⟨_, rk', rfl, w1, c1, fun p hp hz => by rw [i11, if_neg (by omega)]; exact k5 p hz⟩
  · exact ⟨_, rk', rfl, w1.I (Or.inl (by omega)), c1.trans (cK.I (by omega)), fun p hp hz => by rw [i11, if_neg (by omega), i11, if_neg (by omega)]; exact k5 p hz⟩
end CM
