/-! What holds of the model's cells before and behind each call: enough that no index is out of its array and no divisor is 0. -/
def o_cnt (f : Nat → Int32) : Nat → Nat
  | 0 => 0
  | n + 1 => o_cnt f n + if f n = 0 then 1 else 0
theorem o_cnt_le (f : Nat → Int32) (n : Nat) : o_cnt f n ≤ n := by
  induction n with
  | zero => exact Nat.le_refl _
  | succ n ih =>
    rw [o_cnt]
    split <;> omega
theorem o_cnt_congr {f g : Nat → Int32} {n : Nat} (h : ∀ i, i < n → f i = g i) : o_cnt f n = o_cnt g n := by
  induction n with
  | zero => rfl
  | succ n ih => rw [o_cnt, o_cnt, ih (fun i hi => h i (by omega)), h n (by omega)]
theorem o_cnt_upd {f : Nat → Int32} {x : Int32} {i n : Nat} (hi : i < n) (h0 : f i = 0) (hx : x ≠ 0) : o_cnt (fun j => if j = i then x else f j) n + 1 = o_cnt f n := by
  induction n with
  | zero => omega
  | succ n ih =>
    rw [o_cnt, o_cnt]
    by_cases hn : n = i
    · subst hn
      rw [if_pos h0, if_pos rfl, if_neg hx]
      have e : o_cnt (fun j => if j = n then x else f j) n = o_cnt f n := o_cnt_congr fun j hj => by rw [if_neg (by omega)]
      omega
    · rw [if_neg hn]
      have := ih (by omega)
      omega
theorem o_cnt_pos {f : Nat → Int32} {i n : Nat} (hi : i < n) (h0 : f i = 0) : 0 < o_cnt f n := by
  have := o_cnt_upd (x := 1) hi h0 (by decide)
  omega
def mA (T : Nat) (σ : zS) (m : Nat → Nat) : Prop := ∀ k, k < 3 → σ.1 32 k = nI (m k) ∧ m k ≤ T
def mD (σ : zS) : Prop := ∀ k, k < 3 → σ.1 39 k = 0 ∨ σ.1 39 k = 1
def mG (σ : zS) (m g : Nat → Nat) : Prop := (∀ l, l < 6 → σ.1 43 l = nI (g l)) ∧ ∀ k, k < 3 → g (2 * k) + g (2 * k + 1) + o_cnt (fun i => σ.1 35 (4096 * k + i)) (m k) = m k
def mF (σ : zS) (m g : Nat → Nat) : Prop := ∀ l, l < 6 → ∀ i, i < g l → ∃ e, σ.1 42 (4096 * l + i) = nI e ∧ e < m (l / 2)
def mT (σ : zS) (g : Nat → Nat) : Prop := ∀ l, l < 6 → ∃ t, σ.1 44 l = nI t ∧ t ≤ g l
def mP (σ : zS) (m : Nat → Nat) : Prop := ∀ k, k < 3 → σ.1 40 k = -1 ∨ ∃ t, σ.1 40 k = nI t ∧ t < m k
def mZ (σ : zS) (m : Nat → Nat) : Prop := ∀ k, k < 3 → ∀ i, i < m k → ∃ z, σ.1 33 (4096 * k + i) = nI z ∧ z ≤ 1200
def mC (σ : zS) : Prop := ∃ sp, σ.1 31 27 = nI sp ∧ sp ≤ 64 ∧ (0 < sp → 0 ≤ (σ.2.1 46 0).toInt)
def mR (σ : zS) : Prop := ∀ k, k < 3 → ∃ r, σ.1 47 k = nI r ∧ r ≤ 64
def mJ (T : Nat) (m g : Nat → Nat) (σ : zS) : Prop := mA T σ m ∧ mD σ ∧ mG σ m g ∧ mF σ m g ∧ mT σ g ∧ mP σ m ∧ mZ σ m ∧ mC σ ∧ mR σ
def mW (W : Nat) (σ : zS) : Prop := σ.1 31 24 = nI W ∧ 2400 ≤ W ∧ W < 2000000000
/-- what the inner methods leave as it is -/
def mK (σ σ' : zS) : Prop := σ'.2 = σ.2 ∧ (∀ o, o < 31 ∨ 44 ≤ o ∨ o = 32 ∨ o = 33 ∨ o = 34 ∨ o = 36 ∨ o = 37 ∨ o = 38 ∨ o = 39 → σ'.1 o = σ.1 o) ∧ σ'.1 31 27 = σ.1 31 27 ∧ σ'.1 31 0 = σ.1 31 0 ∧ σ'.1 31 1 = σ.1 31 1 ∧ σ'.1 31 2 = σ.1 31 2 ∧ σ'.1 31 3 = σ.1 31 3
theorem mK.refl (σ : zS) : mK σ σ := ⟨rfl, fun _ _ => rfl, rfl, rfl, rfl, rfl, rfl⟩
theorem mK.trans {a b c : zS} (h1 : mK a b) (h2 : mK b c) : mK a c := ⟨h2.1.trans h1.1, fun o ho => (h2.2.1 o ho).trans (h1.2.1 o ho), h2.2.2.1.trans h1.2.2.1, h2.2.2.2.1.trans h1.2.2.2.1, h2.2.2.2.2.1.trans h1.2.2.2.2.1, h2.2.2.2.2.2.1.trans h1.2.2.2.2.2.1, h2.2.2.2.2.2.2.trans h1.2.2.2.2.2.2⟩
theorem mK.I {σ : zS} {o f : Nat} {x : Int32} (h : o = 35 ∨ o = 40 ∨ o = 41 ∨ o = 42 ∨ o = 43 ∨ (o = 31 ∧ 4 ≤ f ∧ f ≠ 27)) : mK σ (o_I σ o f x) := by
  refine ⟨rfl, fun a ha => ?_, ?_, ?_, ?_, ?_, ?_⟩
  · funext b
    rw [i11, if_neg]
    rintro ⟨rfl, rfl⟩
    omega
  all_goals
    rw [i11, if_neg]
    rintro ⟨h1, h2⟩
    omega
theorem mJ.m {T : Nat} {m g : Nat → Nat} {σ : zS} (h : mJ T m g σ) (hT : T ≤ 4096) : m_S σ m := fun k hk => ⟨(h.1 k hk).1, Nat.le_trans (h.1 k hk).2 hT⟩
/-- a write into a field of the model's object that is none of those -/
theorem mJ.w {T : Nat} {m g : Nat → Nat} {σ : zS} (h : mJ T m g σ) {f : Nat} {x : Int32} (hf : f ≠ 27) : mJ T m g (o_I σ 31 f x) := by
  obtain ⟨h1, h2, h3, h4, h5, h6, h7, h8, h9⟩ := h
  have e : ∀ o b, o ≠ 31 → (o_I σ 31 f x).1 o b = σ.1 o b := fun o b ho => by rw [i11, if_neg (fun q => ho q.1)]
  have e27 : (o_I σ 31 f x).1 31 27 = σ.1 31 27 := by rw [i11, if_neg (fun q => hf q.2.symm)]
  refine ⟨fun k hk => ?_, fun k hk => ?_, ⟨fun l hl => ?_, fun k hk => ?_⟩, fun l hl i hi => ?_, fun l hl => ?_, fun k hk => ?_, fun k hk i hi => ?_, ?_, fun k hk => ?_⟩
  · rw [e _ _ (by decide)]; exact h1 k hk
  · rw [e _ _ (by decide)]; exact h2 k hk
  · rw [e _ _ (by decide)]; exact h3.1 l hl
  · rw [show (fun i => (o_I σ 31 f x).1 35 (4096 * k + i)) = fun i => σ.1 35 (4096 * k + i) from funext fun i => e _ _ (by decide)]; exact h3.2 k hk
  · rw [e _ _ (by decide)]; exact h4 l hl i hi
  · rw [e _ _ (by decide)]; exact h5 l hl
  · rw [e _ _ (by decide)]; exact h6 k hk
  · rw [e _ _ (by decide)]; exact h7 k hk i hi
  · obtain ⟨sp, q⟩ := h8
    exact ⟨sp, by rw [e27]; exact q⟩
  · rw [e _ _ (by decide)]; exact h9 k hk
/-- a write into LOSS TIME, or into an array of which nothing is asked -/
theorem mJ.t {T : Nat} {m g : Nat → Nat} {σ : zS} (h : mJ T m g σ) {o f : Nat} {x : Int32} (ho : o = 41 ∨ o = 34 ∨ o = 36 ∨ o = 37 ∨ o = 38 ∨ 51 ≤ o) : mJ T m g (o_I σ o f x) := by
  obtain ⟨h1, h2, h3, h4, h5, h6, h7, h8, h9⟩ := h
  have e : ∀ a b, a = 31 ∨ a = 32 ∨ a = 33 ∨ a = 35 ∨ a = 39 ∨ a = 40 ∨ a = 42 ∨ a = 43 ∨ a = 44 ∨ a = 47 → (o_I σ o f x).1 a b = σ.1 a b := fun a b ha => by rw [i11, if_neg (fun q => by omega)]
  refine ⟨fun k hk => ?_, fun k hk => ?_, ⟨fun l hl => ?_, fun k hk => ?_⟩, fun l hl i hi => ?_, fun l hl => ?_, fun k hk => ?_, fun k hk i hi => ?_, ?_, fun k hk => ?_⟩
  · rw [e _ _ (by omega)]; exact h1 k hk
  · rw [e _ _ (by omega)]; exact h2 k hk
  · rw [e _ _ (by omega)]; exact h3.1 l hl
  · rw [show (fun i => (o_I σ o f x).1 35 (4096 * k + i)) = fun i => σ.1 35 (4096 * k + i) from funext fun i => e _ _ (by omega)]; exact h3.2 k hk
  · rw [e _ _ (by omega)]; exact h4 l hl i hi
  · rw [e _ _ (by omega)]; exact h5 l hl
  · rw [e _ _ (by omega)]; exact h6 k hk
  · rw [e _ _ (by omega)]; exact h7 k hk i hi
  · obtain ⟨sp, q⟩ := h8
    exact ⟨sp, by rw [e _ _ (by omega)]; exact q⟩
  · rw [e _ _ (by omega)]; exact h9 k hk
/-- a write into GREATEST ACKNOWLEDGED -/
theorem mJ.p {T : Nat} {m g : Nat → Nat} {σ : zS} (h : mJ T m g σ) {k0 : Nat} {x : Int32} (hx : x = -1 ∨ ∃ t, x = nI t ∧ t < m k0) : mJ T m g (o_I σ 40 k0 x) := by
  obtain ⟨h1, h2, h3, h4, h5, h6, h7, h8, h9⟩ := h
  have e : ∀ a b, a ≠ 40 → (o_I σ 40 k0 x).1 a b = σ.1 a b := fun a b ha => by rw [i11, if_neg (fun q => ha q.1)]
  refine ⟨fun k hk => ?_, fun k hk => ?_, ⟨fun l hl => ?_, fun k hk => ?_⟩, fun l hl i hi => ?_, fun l hl => ?_, fun k hk => ?_, fun k hk i hi => ?_, ?_, fun k hk => ?_⟩
  · rw [e _ _ (by decide)]; exact h1 k hk
  · rw [e _ _ (by decide)]; exact h2 k hk
  · rw [e _ _ (by decide)]; exact h3.1 l hl
  · rw [show (fun i => (o_I σ 40 k0 x).1 35 (4096 * k + i)) = fun i => σ.1 35 (4096 * k + i) from funext fun i => e _ _ (by decide)]; exact h3.2 k hk
  · rw [e _ _ (by decide)]; exact h4 l hl i hi
  · rw [e _ _ (by decide)]; exact h5 l hl
  · rw [i11]
    by_cases hq : k = k0
    · subst hq
      rw [if_pos ⟨rfl, rfl⟩]; exact hx
    · rw [if_neg (fun q => hq q.2)]; exact h6 k hk
  · rw [e _ _ (by decide)]; exact h7 k hk i hi
  · obtain ⟨sp, q⟩ := h8
    exact ⟨sp, by rw [e _ _ (by decide)]; exact q⟩
  · rw [e _ _ (by decide)]; exact h9 k hk
def m_find (σ : zS) (k i wh gl : Nat) : zS := o_I (o_I (o_I σ 35 (4096 * k + i) (nI wh)) 42 (4096 * (2 * k + wh - 1) + gl) (nI i)) 43 (2 * k + wh - 1) (nI (gl + 1))
theorem m_find_K (σ : zS) (k i wh gl : Nat) : mK σ (m_find σ k i wh gl) := ((mK.I (by omega)).trans (mK.I (by omega))).trans (mK.I (by omega))
theorem m_find_31 (σ : zS) (k i wh gl b : Nat) : (m_find σ k i wh gl).1 31 b = σ.1 31 b := by
  simp [m_find, i11]
theorem mJ.gl {T : Nat} {m g : Nat → Nat} {σ : zS} (h : mJ T m g σ) {k i wh : Nat} (hk : k < 3) (hi : i < m k) (hw : wh = 1 ∨ wh = 2) (h0 : σ.1 35 (4096 * k + i) = 0) : g (2 * k + wh - 1) < m k := by
  have h1 := h.2.2.1.2 k hk
  have h2 := o_cnt_pos (f := fun i => σ.1 35 (4096 * k + i)) hi h0
  rcases hw with rfl | rfl
  · rw [show 2 * k + 1 - 1 = 2 * k from by omega]; omega
  · rw [show 2 * k + 2 - 1 = 2 * k + 1 from by omega]; omega
theorem mJ.find {T : Nat} {m g : Nat → Nat} {σ : zS} (h : mJ T m g σ) (hT : T ≤ 4096) {k i wh : Nat} (hk : k < 3) (hi : i < m k) (hw : wh = 1 ∨ wh = 2) (h0 : σ.1 35 (4096 * k + i) = 0) : mJ T m (fun l => if l = 2 * k + wh - 1 then g l + 1 else g l) (m_find σ k i wh (g (2 * k + wh - 1))) := by
  have hgl := h.gl hk hi hw h0
  obtain ⟨h1, h2, h3, h4, h5, h6, h7, h8, h9⟩ := h
  have hmk := (h1 k hk).2
  have hwl : ∃ l, l = 2 * k + wh - 1 ∧ l < 6 ∧ l / 2 = k := ⟨_, rfl, by omega, by omega⟩
  obtain ⟨l0, hl0, hl6, hl2⟩ := hwl
  rw [← hl0] at hgl ⊢
  have e : ∀ a b, a ≠ 35 → a ≠ 42 → a ≠ 43 → (m_find σ k i wh (g l0)).1 a b = σ.1 a b := fun a b q1 q2 q3 => by simp [m_find, i11, q1, q2, q3]
  have e35 : ∀ b, (m_find σ k i wh (g l0)).1 35 b = if b = 4096 * k + i then nI wh else σ.1 35 b := fun b => by simp [m_find, i11]
  have e42 : ∀ b, (m_find σ k i wh (g l0)).1 42 b = if b = 4096 * l0 + g l0 then nI i else σ.1 42 b := fun b => by simp [m_find, i11, ← hl0]
  have e43 : ∀ b, (m_find σ k i wh (g l0)).1 43 b = if b = l0 then nI (g l0 + 1) else σ.1 43 b := fun b => by simp [m_find, i11, ← hl0]
  refine ⟨fun k hk => ?_, fun k hk => ?_, ⟨fun l hl => ?_, fun k' hk' => ?_⟩, fun l hl j hj => ?_, fun l hl => ?_, fun k hk => ?_, fun k hk i hi => ?_, ?_, fun k hk => ?_⟩
  · rw [e _ _ (by decide) (by decide) (by decide)]; exact h1 k hk
  · rw [e _ _ (by decide) (by decide) (by decide)]; exact h2 k hk
  · rw [e43]
    by_cases hq : l = l0
    · subst hq; simp
    · simp only [if_neg hq]; exact h3.1 l hl
  · simp only [e35]
    by_cases hq : k' = k
    · subst hq
      have e1 : (fun j => if 4096 * k' + j = 4096 * k' + i then nI wh else σ.1 35 (4096 * k' + j)) = fun j => if j = i then nI wh else σ.1 35 (4096 * k' + j) := by
        funext j
        by_cases hj : j = i
        · subst hj; simp
        · rw [if_neg (by omega), if_neg hj]
      have e2 : o_cnt (fun j => if j = i then nI wh else σ.1 35 (4096 * k' + j)) (m k') + 1 = o_cnt (fun j => σ.1 35 (4096 * k' + j)) (m k') := o_cnt_upd (f := fun j => σ.1 35 (4096 * k' + j)) (x := nI wh) hi h0 (by rcases hw with rfl | rfl <;> decide)
      rw [e1]
      have e3 := h3.2 k' hk'
      rcases hw with rfl | rfl
      · rw [if_pos (by omega), if_neg (by omega)]; omega
      · rw [if_neg (by omega), if_pos (by omega)]; omega
    · have e1 : o_cnt (fun j => if 4096 * k' + j = 4096 * k + i then nI wh else σ.1 35 (4096 * k' + j)) (m k') = o_cnt (fun j => σ.1 35 (4096 * k' + j)) (m k') := o_cnt_congr fun j hj => by
        have := (h1 k' hk').2
        rw [if_neg (by omega)]
      rw [e1, if_neg (by omega), if_neg (by omega)]
      exact h3.2 k' hk'
  · rw [e42]
    by_cases hq : l = l0
    · subst hq
      simp only [if_pos] at hj
      by_cases hj2 : j = g l
      · subst hj2
        rw [if_pos rfl]
        exact ⟨i, rfl, by rw [hl2]; exact hi⟩
      · rw [if_neg (by omega)]
        exact h4 l hl j (by omega)
    · simp only [if_neg hq] at hj
      have hg : g l ≤ 4096 := by
        have a1 := h3.2 (l / 2) (by omega)
        have a2 := (h1 (l / 2) (by omega)).2
        rcases (show l = 2 * (l / 2) ∨ l = 2 * (l / 2) + 1 from by omega) with q | q
        · rw [q]; omega
        · rw [q]; omega
      rw [if_neg (by omega)]
      exact h4 l hl j hj
  · obtain ⟨t, q1, q2⟩ := h5 l hl
    exact ⟨t, by rw [e _ _ (by decide) (by decide) (by decide)]; exact q1, by show t ≤ if l = l0 then g l + 1 else g l; split <;> omega⟩
  · rw [e _ _ (by decide) (by decide) (by decide)]; exact h6 k hk
  · rw [e _ _ (by decide) (by decide) (by decide)]; exact h7 k hk i hi
  · obtain ⟨sp, q⟩ := h8
    refine ⟨sp, ?_⟩
    rw [m_find_31]; exact q
  · rw [e _ _ (by decide) (by decide) (by decide)]; exact h9 k hk
