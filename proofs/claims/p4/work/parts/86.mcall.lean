theorem e_sp (x : Int32) : (x < 0 ∨ 2 < x) ∨ ∃ k, k < 3 ∧ x = nI k := by
  rcases pk_ix x (n := 3) (by decide) with h | h | h
  · exact Or.inl (Or.inl h)
  · refine Or.inl (Or.inr ?_)
    have h1 := Int32.le_iff_toInt_le.mp h
    rw [nI_toInt (by decide)] at h1
    refine Int32.lt_iff_toInt_lt.mpr ?_
    have h2 : (2 : Int32).toInt = 2 := by decide
    omega
  · exact Or.inr h
theorem e_spk {k : Nat} (h : k < 3) : ¬ (nI k < 0 ∨ 2 < nI k) := by
  rintro (q | q)
  · exact nI_pos (by omega) q
  · exact absurd q (Int32.not_lt.mpr (nI_le (a := k) (b := 2) (by omega) (by decide)))
def mM (T : Nat) (σ : zS) : Prop := ∃ m g W, mJ T m g σ ∧ mW W σ ∧ W ≤ 12000 + 1200 * (g 0 + g 2 + g 4)
/-- what no call of the model touches -/
def mX (σ σ' : zS) : Prop := ∀ o, o < 31 ∨ 55 ≤ o → σ'.1 o = σ.1 o ∧ σ'.2.1 o = σ.2.1 o ∧ σ'.2.2 o = σ.2.2 o
theorem mX.refl (σ : zS) : mX σ σ := fun _ _ => ⟨rfl, rfl, rfl⟩
theorem mX.trans {a b c : zS} (h1 : mX a b) (h2 : mX b c) : mX a c := fun o ho => ⟨(h2 o ho).1.trans (h1 o ho).1, (h2 o ho).2.1.trans (h1 o ho).2.1, (h2 o ho).2.2.trans (h1 o ho).2.2⟩
theorem mX.I {σ : zS} {o f : Nat} {x : Int32} (h : 31 ≤ o ∧ o < 55) : mX σ (o_I σ o f x) := fun a ha => ⟨by funext b; rw [i11, if_neg (fun q => by omega)], rfl, rfl⟩
theorem mX.L {σ : zS} {o f : Nat} {x : Int64} (h : 31 ≤ o ∧ o < 55) : mX σ (o_L σ o f x) := fun a ha => ⟨rfl, by funext b; rw [l12, if_neg (fun q => by omega)], rfl⟩
theorem mK.x {σ σ' : zS} (h : mK σ σ') : mX σ σ' := fun o ho => ⟨h.2.1 o (by omega), by rw [h.1], by rw [h.1]⟩
/-- what the parts of the law look at, as it was -/
def mU (σ σ' : zS) : Prop := (∀ k, σ'.1 32 k = σ.1 32 k) ∧ (∀ k, σ'.1 39 k = σ.1 39 k) ∧ σ'.1 31 27 = σ.1 31 27 ∧ ∀ i, σ'.2.1 45 i = σ.2.1 45 i
theorem mU.refl (σ : zS) : mU σ σ := ⟨fun _ => rfl, fun _ => rfl, rfl, fun _ => rfl⟩
theorem mU.trans {a b c : zS} (h1 : mU a b) (h2 : mU b c) : mU a c := ⟨fun k => (h2.1 k).trans (h1.1 k), fun k => (h2.2.1 k).trans (h1.2.1 k), h2.2.2.1.trans h1.2.2.1, fun i => (h2.2.2.2 i).trans (h1.2.2.2 i)⟩
theorem mU.I {σ : zS} {o f : Nat} {x : Int32} (h : o ≠ 32 ∧ o ≠ 39 ∧ (o = 31 → f ≠ 27)) : mU σ (o_I σ o f x) := ⟨fun k => by rw [i11, if_neg (fun q => h.1 q.1.symm)], fun k => by rw [i11, if_neg (fun q => h.2.1 q.1.symm)], by rw [i11, if_neg (fun q => h.2.2 q.1.symm q.2.symm)], fun _ => rfl⟩
theorem mU.L {σ : zS} {o f : Nat} {x : Int64} (h : o ≠ 45) : mU σ (o_L σ o f x) := ⟨fun _ => rfl, fun _ => rfl, rfl, fun i => by rw [l12, if_neg (fun q => h q.1.symm)]⟩
theorem mK.u {σ σ' : zS} (h : mK σ σ') : mU σ σ' := ⟨fun k => by rw [h.2.1 32 (by omega)], fun k => by rw [h.2.1 39 (by omega)], h.2.2.1, fun i => by rw [h.1]⟩
theorem mJ.up {T T' : Nat} {m g : Nat → Nat} {σ : zS} (h : mJ T m g σ) (hT : T ≤ T') : mJ T' m g σ := ⟨fun k hk => ⟨(h.1 k hk).1, Nat.le_trans (h.1 k hk).2 hT⟩, h.2⟩
theorem mM.up {T T' : Nat} {σ : zS} (h : mM T σ) (hT : T ≤ T') : mM T' σ := by
  obtain ⟨m, g, W, h1, h2⟩ := h
  exact ⟨m, g, W, h1.up hT, h2⟩
theorem mM.w {T : Nat} {σ : zS} (h : mM T σ) {f : Nat} {x : Int32} (hf : f ≠ 27 ∧ f ≠ 24) : mM T (o_I σ 31 f x) := by
  obtain ⟨m, g, W, h1, h2, h3⟩ := h
  refine ⟨m, g, W, h1.w hf.1, ?_, h3⟩
  unfold mW
  rw [i11, if_neg (fun q => hf.2 q.2.symm)]
  exact h2
theorem mM.t {T : Nat} {σ : zS} (h : mM T σ) {o f : Nat} {x : Int32} (ho : o = 41 ∨ o = 34 ∨ o = 36 ∨ o = 37 ∨ o = 38 ∨ 51 ≤ o) : mM T (o_I σ o f x) := by
  obtain ⟨m, g, W, h1, h2, h3⟩ := h
  refine ⟨m, g, W, h1.t ho, ?_, h3⟩
  unfold mW
  rw [i11, if_neg (fun q => by omega)]
  exact h2
/-- a write into an array of longs of which only its start is asked -/
theorem mJ.l {T : Nat} {m g : Nat → Nat} {σ : zS} (h : mJ T m g σ) {o f : Nat} {x : Int64} (ho : o ≠ 46) : mJ T m g (o_L σ o f x) := by
  obtain ⟨h1, h2, h3, h4, h5, h6, h7, h8, h9⟩ := h
  refine ⟨h1, h2, h3, h4, h5, h6, h7, ?_, h9⟩
  obtain ⟨sp, q1, q2, q3⟩ := h8
  exact ⟨sp, q1, q2, fun h => by rw [l12, if_neg (fun q => ho q.1.symm)]; exact q3 h⟩
theorem mM.l {T : Nat} {σ : zS} (h : mM T σ) {o f : Nat} {x : Int64} (ho : o ≠ 46) : mM T (o_L σ o f x) := by
  obtain ⟨m, g, W, h1, h2, h3⟩ := h
  exact ⟨m, g, W, h1.l ho, h2, h3⟩
/-- how many ranges there are -/
theorem mM.r {T : Nat} {σ : zS} (h : mM T σ) {k r : Nat} (hr : r ≤ 64) : mM T (o_I σ 47 k (nI r)) := by
  obtain ⟨m, g, W, ⟨h1, h2, h3, h4, h5, h6, h7, h8, h9⟩, h10, h11⟩ := h
  have e : ∀ a b, a ≠ 47 → (o_I σ 47 k (nI r)).1 a b = σ.1 a b := fun a b ha => by rw [i11, if_neg (fun q => ha q.1)]
  refine ⟨m, g, W, ⟨fun k hk => ?_, fun k hk => ?_, ⟨fun l hl => ?_, fun k' hk => ?_⟩, fun l hl i hi => ?_, fun l hl => ?_, fun k hk => ?_, fun k hk i hi => ?_, ?_, fun k' hk => ?_⟩, ?_, h11⟩
  · rw [e _ _ (by decide)]; exact h1 k hk
  · rw [e _ _ (by decide)]; exact h2 k hk
  · rw [e _ _ (by decide)]; exact h3.1 l hl
  · rw [show (fun i => (o_I σ 47 k (nI r)).1 35 (4096 * k' + i)) = fun i => σ.1 35 (4096 * k' + i) from funext fun i => e _ _ (by decide)]; exact h3.2 k' hk
  · rw [e _ _ (by decide)]; exact h4 l hl i hi
  · rw [e _ _ (by decide)]; exact h5 l hl
  · rw [e _ _ (by decide)]; exact h6 k hk
  · rw [e _ _ (by decide)]; exact h7 k hk i hi
  · obtain ⟨sp, q⟩ := h8
    exact ⟨sp, by rw [e _ _ (by decide)]; exact q⟩
  · rw [i11]
    by_cases hq : k' = k
    · rw [if_pos ⟨rfl, hq⟩]; exact ⟨r, rfl, hr⟩
    · rw [if_neg (fun q => hq q.2)]; exact h9 k' hk
  · unfold mW; rw [e _ _ (by decide)]; exact h10
section PM5
variable {B X F : Nat} {τ : zK} {n c s : Nat} {T : Nat} {σ : zS}
/-- a call of the model that leaves what the law's parts look at -/
def m_q (B X T : Nat) (τ : zK) (n c s : Nat) (σ : zS) (r : zR) : Prop := ∃ σ', r = some (.inl none, o_w B X τ σ' n c s) ∧ mM T σ' ∧ mX σ σ' ∧ mU σ σ'
theorem m_q.of {σ1 : zS} {r : zR} (h : m_q B X T τ n c s σ1 r) (hX : mX σ σ1) (hU : mU σ σ1) : m_q B X T τ n c s σ r := by
  obtain ⟨σ', h1, h2, h3, h4⟩ := h
  exact ⟨σ', h1, h2, hX.trans h3, hU.trans h4⟩
def m_qI (B X T : Nat) (τ : zK) (n c s : Nat) (σ : zS) (r : zR) : Prop := ∃ v σ', r = some (.inl (some (.int v)), o_w B X τ σ' n c s) ∧ mM T σ' ∧ mX σ σ' ∧ mU σ σ'
theorem m_qI.of {σ1 : zS} {r : zR} (h : m_qI B X T τ n c s σ1 r) (hX : mX σ σ1) (hU : mU σ σ1) : m_qI B X T τ n c s σ r := by
  obtain ⟨o, σ', h1, h2, h3, h4⟩ := h
  exact ⟨o, σ', h1, h2, hX.trans h3, hU.trans h4⟩
def m_qL (B X T : Nat) (τ : zK) (n c s : Nat) (σ : zS) (r : zR) : Prop := ∃ v σ', r = some (.inl (some (.long v)), o_w B X τ σ' n c s) ∧ mM T σ' ∧ mX σ σ' ∧ mU σ σ'
theorem m_qL.of {σ1 : zS} {r : zR} (h : m_qL B X T τ n c s σ1 r) (hX : mX σ σ1) (hU : mU σ σ1) : m_qL B X T τ n c s σ r := by
  obtain ⟨o, σ', h1, h2, h3, h4⟩ := h
  exact ⟨o, σ', h1, h2, hX.trans h3, hU.trans h4⟩
theorem m_qI.w (h : mM T σ) (f : Nat) (x v : Int32) (hf : f ≠ 27 ∧ f ≠ 24) : m_qI B X T τ n c s σ (some (.inl (some (.int v)), o_w B X τ (o_I σ 31 f x) n c s)) := ⟨v, _, rfl, h.w hf, mX.I (by omega), mU.I ⟨by decide, by decide, fun _ => hf.1⟩⟩
theorem m_qI.ite {p : Prop} [Decidable p] {a b : zR} (h1 : p → m_qI B X T τ n c s σ a) (h2 : ¬ p → m_qI B X T τ n c s σ b) : m_qI B X T τ n c s σ (if p then a else b) := by
  split
  · exact h1 (by assumption)
  · exact h2 (by assumption)
theorem m_qL.ite {p : Prop} [Decidable p] {a b : zR} (h1 : p → m_qL B X T τ n c s σ a) (h2 : ¬ p → m_qL B X T τ n c s σ b) : m_qL B X T τ n c s σ (if p then a else b) := by
  split
  · exact h1 (by assumption)
  · exact h2 (by assumption)
theorem m_q.ite {p : Prop} [Decidable p] {a b : zR} (h1 : p → m_q B X T τ n c s σ a) (h2 : ¬ p → m_q B X T τ n c s σ b) : m_q B X T τ n c s σ (if p then a else b) := by
  split
  · exact h1 (by assumption)
  · exact h2 (by assumption)
theorem mM.sp (h : mM T σ) : ∃ sp, σ.1 31 27 = nI sp ∧ sp ≤ 64 ∧ (0 < sp → 0 ≤ (σ.2.1 46 0).toInt) := by
  obtain ⟨m, g, W, h1, -⟩ := h
  exact h1.2.2.2.2.2.2.2.1
theorem mM.d (h : mM T σ) {k : Nat} (hk : k < 3) : σ.1 39 k = 0 ∨ σ.1 39 k = 1 := by
  obtain ⟨m, g, W, h1, -⟩ := h
  exact h1.2.1 k hk
theorem mM.rg (h : mM T σ) {k : Nat} (hk : k < 3) : ∃ r, σ.1 47 k = nI r ∧ r ≤ 64 := by
  obtain ⟨m, g, W, h1, -⟩ := h
  exact h1.2.2.2.2.2.2.2.2 k hk
theorem u_look (h : mM T σ) (hT : T ≤ 4096) (hF : 20000 ≤ F) (x : Int32) : m_qI B X T τ n c s σ (f_AckBookModel_look F X (some (B + 31)) x (o_w B X τ σ n c s)) := by
  have h1 : m_qI B X T τ n c s σ (q_AckBookModel_look_11 F X (some (B + 31)) x (some (B + 31)) (o_w B X τ σ n c s)) := by
    simp only [q_AckBookModel_look_11, q_AckBookModel_look_16, ot_31, s_fails 1 1 (Or.inr rfl), z_cI]
    rw [if_neg (by decide)]
    exact m_qI.w h 0 _ _ (by decide)
  have h2 : m_qI B X T τ n c s σ (q_AckBookModel_look_16 F X (some (B + 31)) x (some (B + 31)) 0 (o_w B X τ σ n c s)) := by
    have h0 : mM T (o_I σ 31 0 0) := h.w (by decide)
    obtain ⟨m, g, W, q1, q2, q3⟩ := h0
    obtain ⟨v, hv⟩ := s_flight (B := B) (X := X) (τ := τ) (n := n) (c := c) (s := s) (q1.m hT) hF
    simp only [q_AckBookModel_look_16, ot_31, s_fails 0 1 (Or.inl rfl), z_cI, if_true, oi_31_1, oi_31_24, oi_31_25, oi_31_26, oi_31_18, oi_31_19, oi_31_20, oi_31_21, oi_31_23, hv, s_limit, s_greater]
    repeat (refine m_qI.ite (fun _ => m_qI.w h 0 _ _ (by decide)) (fun _ => ?_))
    exact m_qI.w h 0 _ _ (by decide)
  unfold f_AckBookModel_look
  (repeat' split) <;> first | exact h1 | exact h2
end PM5
