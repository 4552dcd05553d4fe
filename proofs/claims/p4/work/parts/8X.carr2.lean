/-! What came: the class's methods as functions. -/
section AV
variable {B X F : Nat} {τ : zK} {n c s : Nat} {σ : zS}
/-- only the two arrays of ranges of space k may differ -/
def zA (k : Nat) (σ σ' : zS) : Prop := σ'.1 = σ.1 ∧ σ'.2.2 = σ.2.2 ∧ ∀ o, o ≠ 8 + 8 * k → o ≠ 9 + 8 * k → σ'.2.1 o = σ.2.1 o
theorem zA.refl (k : Nat) (σ : zS) : zA k σ σ := ⟨rfl, rfl, fun _ _ _ => rfl⟩
theorem zA.trans {k : Nat} {a b d : zS} (h1 : zA k a b) (h2 : zA k b d) : zA k a d := ⟨h2.1.trans h1.1, h2.2.1.trans h1.2.1, fun o p q => (h2.2.2 o p q).trans (h1.2.2 o p q)⟩
theorem zA.L {k o f : Nat} {σ : zS} {x : Int64} (ho : o = 8 + 8 * k ∨ o = 9 + 8 * k) : zA k σ (o_L σ o f x) := ⟨rfl, rfl, fun a p q => funext fun b => by rw [l12, if_neg (fun z => by omega)]⟩
theorem zA.y {k : Nat} {σ σ' : zS} (h : zA k σ σ') : yK k σ σ' := ⟨h.2.1, fun o _ q r => ⟨by rw [h.1], h.2.2 o q r⟩⟩
theorem a_fnaJ {k r : Nat} (hk : k < 3) (hr : σ.1 (7 + 8 * k) 2 = nI r) (h64 : r ≤ 64) (y : Int64) : ∀ (M i : Nat), i ≤ r → r - i < M → (∀ j, j < i → y < σ.2.1 (8 + 8 * k) j) → ∃ p, p ≤ r ∧ (∀ j, j < p → y < σ.2.1 (8 + 8 * k) j) ∧ (p < r → σ.2.1 (8 + 8 * k) p ≤ y) ∧ j_AckBook_Arrivals_firstNotAbove F X M (some (B + (7 + 8 * k))) y (nI i) (o_w B X τ σ n c s) = some (.inl (some (.int (nI p))), o_w B X τ σ n c s) := by
  intro M
  induction M with
  | zero => exact fun _ _ h => absurd h (Nat.not_lt_zero _)
  | succ M ih =>
    intro i hi hM hb
    rw [j_AckBook_Arrivals_firstNotAbove]
    simp (disch := omega) only [oi_s7_2 hk, hr, e_le, or_s7_0 hk, oan_s8 hk, lg_cmp_gt, nI_1]
    by_cases h : r ≤ i
    · rw [if_pos h]
      obtain rfl : i = r := by omega
      exact ⟨i, Nat.le_refl _, hb, fun q => absurd q (Nat.lt_irrefl _), rfl⟩
    · rw [if_neg h, if_neg (show ¬ Int32.ofNat 65 ≤ nI i from nI_ge (b := 65) (by omega) (by decide))]
      simp only [oln_s8 hk (show i < 65 by omega)]
      by_cases q : y < σ.2.1 (8 + 8 * k) i
      · rw [if_pos q]
        refine ih (i + 1) (by omega) (by omega) (fun j hj => ?_)
        by_cases e : j = i
        · rw [e]; exact q
        · exact hb j (by omega)
      · rw [if_neg q]
        exact ⟨i, hi, hb, fun _ => Int64.not_lt.mp q, rfl⟩
theorem l_fun {o f : Nat} {x : Int64} : (o_L σ o f x).2.1 o = rUpd (σ.2.1 o) f x := funext fun j => by
  rw [l12]
  unfold rUpd
  by_cases h : j = f
  · rw [if_pos ⟨rfl, h⟩, if_pos h]
  · rw [if_neg (fun z => h z.2), if_neg h]
theorem l_fun_ne {o o' f : Nat} {x : Int64} (h : o' ≠ o) : (o_L σ o f x).2.1 o' = σ.2.1 o' := funext fun j => by rw [l12, if_neg (fun z => h z.1)]
theorem l_step {o1 o2 i : Nat} {σ : zS} (h : o1 ≠ o2) (i' : Nat) : (o_L (o_L σ o1 i (σ.2.1 o1 i')) o2 i ((o_L σ o1 i (σ.2.1 o1 i')).2.1 o2 i')).2.1 o1 = rUpd (σ.2.1 o1) i (σ.2.1 o1 i') ∧ (o_L (o_L σ o1 i (σ.2.1 o1 i')) o2 i ((o_L σ o1 i (σ.2.1 o1 i')).2.1 o2 i')).2.1 o2 = rUpd (σ.2.1 o2) i (σ.2.1 o2 i') := by
  refine ⟨?_, ?_⟩
  · rw [l_fun_ne h, l_fun]
  · rw [l_fun, l_fun_ne (fun z => h z.symm)]
theorem a_remJ {k r : Nat} (hk : k < 3) (h64 : r ≤ 63) : ∀ (M i : Nat) (σ1 : zS), σ1.1 (7 + 8 * k) 2 = nI r → i ≤ 65 → 66 - i < M → ∃ σ', j_AckBook_Arrivals_remove F X M (some (B + (7 + 8 * k))) (nI i) (o_w B X τ σ1 n c s) = some (.inl none, o_w B X τ σ' n c s) ∧ zA k σ1 σ' ∧ ∀ o, o = 8 + 8 * k ∨ o = 9 + 8 * k → σ'.2.1 o = rRem (σ1.2.1 o) r i := by
  intro M
  induction M with
  | zero => exact fun _ _ _ _ h => absurd h (Nat.not_lt_zero _)
  | succ M ih =>
    intro i σ1 hr hi hM
    rw [j_AckBook_Arrivals_remove]
    simp (disch := omega) only [oi_s7_2 hk, hr, e_le]
    by_cases h : r ≤ i
    · rw [if_pos h]
      exact ⟨σ1, rfl, zA.refl k σ1, fun o ho => (rRem_end h).symm⟩
    · rw [if_neg h]
      simp only [or_s7_0 hk, or_s7_1 hk, nI_1, oln_s8 hk (show i + 1 < 65 by omega), osn_s8 hk (show i < 65 by omega), oln_s9 hk (show i + 1 < 65 by omega), osn_s9 hk (show i < 65 by omega)]
      obtain ⟨σ', e1, e2, e3⟩ := ih (i + 1) (o_L (o_L σ1 (8 + 8 * k) i (σ1.2.1 (8 + 8 * k) (i + 1))) (9 + 8 * k) i ((o_L σ1 (8 + 8 * k) i (σ1.2.1 (8 + 8 * k) (i + 1))).2.1 (9 + 8 * k) (i + 1))) hr (by omega) (by omega)
      have ls := l_step (σ := σ1) (i := i) (show 8 + 8 * k ≠ 9 + 8 * k by omega) (i + 1)
      refine ⟨σ', e1, ((zA.L (Or.inl rfl)).trans (zA.L (Or.inr rfl))).trans e2, fun o ho => ?_⟩
      rw [e3 o ho]
      rcases ho with rfl | rfl
      · rw [ls.1]
        exact rRem_step (by omega)
      · rw [ls.2]
        exact rRem_step (by omega)
/-- the class's insert: everything from place p on moves down by one, y stands at p -/
theorem a_insJ {k r p : Nat} (hk : k < 3) (h64 : r ≤ 64) (hp : p ≤ r) (y : Int64) : ∀ (M i : Nat) (σ1 : zS), σ1.1 (7 + 8 * k) 2 = nI r → p ≤ i → i ≤ r → i - p < M → ∃ σ2 σ', j_AckBook_Arrivals_insert F X M (some (B + (7 + 8 * k))) y (nI p) (nI i) (o_w B X τ σ1 n c s) = some (.inl none, o_w B X τ σ' n c s) ∧ zA k σ1 σ2 ∧ (∀ o, o = 8 + 8 * k ∨ o = 9 + 8 * k → σ2.2.1 o = rIns (σ1.2.1 o) i p y) ∧ σ' = if r < 64 then o_I σ2 (7 + 8 * k) 2 (nI (r + 1)) else o_L (o_I (o_I σ2 (7 + 8 * k) 2 (nI (r + 1))) (7 + 8 * k) 2 (nI r)) (7 + 8 * k) 3 (σ2.2.1 (9 + 8 * k) r + 1) := by
  intro M
  induction M with
  | zero => exact fun _ _ _ _ _ h => absurd h (Nat.not_lt_zero _)
  | succ M ih =>
    intro i σ1 hr hpi hi hM
    rw [j_AckBook_Arrivals_insert]
    simp (disch := omega) only [e_le]
    by_cases h : i ≤ p
    · rw [if_pos h]
      have hip : i = p := by omega
      have hr2 : (o_L (o_L σ1 (8 + 8 * k) p y) (9 + 8 * k) p y).1 (7 + 8 * k) 2 = nI r := hr
      simp only [or_s7_0 hk, or_s7_1 hk, osn_s8 hk (show p < 65 by omega), osn_s9 hk (show p < 65 by omega), oi_s7_2 hk, hr2, nI_1, op_s7_2 hk]
      have hr3 : (o_I (o_L (o_L σ1 (8 + 8 * k) p y) (9 + 8 * k) p y) (7 + 8 * k) 2 (nI (r + 1))).1 (7 + 8 * k) 2 = nI (r + 1) := by rw [i11, if_pos ⟨rfl, rfl⟩]
      rw [hr3]
      refine ⟨o_L (o_L σ1 (8 + 8 * k) p y) (9 + 8 * k) p y, _, ?_, (zA.L (Or.inl rfl)).trans (zA.L (Or.inr rfl)), fun o ho => ?_, rfl⟩
      · by_cases h6 : r + 1 ≤ 64
        · rw [if_pos (show nI (r + 1) ≤ (64 : Int32) from nI_le (b := 64) h6 (by decide)), if_pos (show r < 64 by omega)]
        · rw [if_neg (show ¬ nI (r + 1) ≤ (64 : Int32) from nI_ge (a := 64) (by omega) (by omega)), if_neg (show ¬ r < 64 by omega), nI_pred]
          have hr4 : (o_I (o_I (o_L (o_L σ1 (8 + 8 * k) p y) (9 + 8 * k) p y) (7 + 8 * k) 2 (nI (r + 1))) (7 + 8 * k) 2 (nI r)).1 (7 + 8 * k) 2 = nI r := by rw [i11, if_pos ⟨rfl, rfl⟩]
          simp only [or_s7_1 hk, hr4, oln_s9 hk (show r < 65 by omega), opl_s7_3 hk]
          rfl
      · rw [hip, rIns_base]
        rcases ho with rfl | rfl
        · rw [l_fun_ne (by omega), l_fun]
        · rw [l_fun, l_fun_ne (by omega)]
    · rw [if_neg h]
      obtain ⟨i', rfl⟩ : ∃ i', i = i' + 1 := ⟨i - 1, by omega⟩
      simp only [or_s7_0 hk, or_s7_1 hk, nI_pred, oln_s8 hk (show i' < 65 by omega), osn_s8 hk (show i' + 1 < 65 by omega), oln_s9 hk (show i' < 65 by omega), osn_s9 hk (show i' + 1 < 65 by omega), pk_m1]
      obtain ⟨σ2, σ', e1, e2, e3, e4⟩ := ih i' (o_L (o_L σ1 (8 + 8 * k) (i' + 1) (σ1.2.1 (8 + 8 * k) i')) (9 + 8 * k) (i' + 1) ((o_L σ1 (8 + 8 * k) (i' + 1) (σ1.2.1 (8 + 8 * k) i')).2.1 (9 + 8 * k) i')) hr (by omega) (by omega) (by omega)
      have ls := l_step (σ := σ1) (i := i' + 1) (show 8 + 8 * k ≠ 9 + 8 * k by omega) i'
      refine ⟨σ2, σ', e1, ((zA.L (Or.inl rfl)).trans (zA.L (Or.inr rfl))).trans e2, fun o ho => ?_, e4⟩
      rw [e3 o ho]
      rcases ho with rfl | rfl
      · rw [ls.1]
        exact rIns_step (by omega)
      · rw [ls.2]
        exact rIns_step (by omega)
/-- the four cells of the ranges -/
def aQ (k : Nat) (σ : zS) (q : Nat × (Nat → Int64) × (Nat → Int64) × Int64) : Prop := σ.1 (7 + 8 * k) 2 = nI q.1 ∧ σ.2.1 (8 + 8 * k) = q.2.1 ∧ σ.2.1 (9 + 8 * k) = q.2.2.1 ∧ σ.2.1 (7 + 8 * k) 3 = q.2.2.2
theorem a_keep24 {k p : Nat} (hk : k < 3) (hp : p ≤ 64) (y : Int64) : f_AckBook_Arrivals_keep F X (some (B + (7 + 8 * k))) y (nI p) (o_w B X τ σ n c s) = q_AckBook_Arrivals_keep_24 F X (some (B + (7 + 8 * k))) y (nI p) (if 0 < p ∧ σ.2.1 (8 + 8 * k) (p - 1) = y + 1 then 1 else 0) (o_w B X τ σ n c s) := by
  unfold f_AckBook_Arrivals_keep
  simp only [q_AckBook_Arrivals_keep_23]
  rcases Nat.eq_zero_or_pos p with q | q
  · subst q
    rw [if_pos (by decide), if_neg (by omega)]
  · rw [if_neg (nI_nle q (by omega))]
    simp only [or_s7_0 hk, e_m1 q, oln_s8 hk (show p - 1 < 65 by omega)]
    by_cases e : σ.2.1 (8 + 8 * k) (p - 1) = y + 1
    · rw [if_pos ((lg_cmp_eq _ _).mpr e), if_pos ⟨q, e⟩]
    · rw [if_neg (fun z => e ((lg_cmp_eq _ _).mp z)), if_neg (fun z => e z.2)]
theorem a_keep52 {k r p : Nat} (hk : k < 3) (hr : σ.1 (7 + 8 * k) 2 = nI r) (h64 : r ≤ 64) (hp : p ≤ r) (y : Int64) (a : Int32) : q_AckBook_Arrivals_keep_24 F X (some (B + (7 + 8 * k))) y (nI p) a (o_w B X τ σ n c s) = q_AckBook_Arrivals_keep_52 F X (some (B + (7 + 8 * k))) y (nI p) a (if p < r ∧ σ.2.1 (9 + 8 * k) p = y - 1 then 1 else 0) (o_w B X τ σ n c s) := by
  unfold q_AckBook_Arrivals_keep_24
  simp (disch := omega) only [oi_s7_2 hk, hr, e_le, q_AckBook_Arrivals_keep_51]
  by_cases h : r ≤ p
  · rw [if_pos h, if_neg (by omega)]
  · rw [if_neg h]
    simp only [or_s7_1 hk, oln_s9 hk (show p < 65 by omega)]
    by_cases e : σ.2.1 (9 + 8 * k) p = y - 1
    · rw [if_pos ((lg_cmp_eq _ _).mpr e), if_pos ⟨by omega, e⟩]
    · rw [if_neg (fun z => e ((lg_cmp_eq _ _).mp z)), if_neg (fun z => e z.2)]
theorem a_keep (hF : 20000 ≤ F) {k r p : Nat} (hk : k < 3) (hr : σ.1 (7 + 8 * k) 2 = nI r) (h64 : r ≤ 64) (hp : p ≤ r) (y : Int64) : ∃ σ', f_AckBook_Arrivals_keep F X (some (B + (7 + 8 * k))) y (nI p) (o_w B X τ σ n c s) = some (.inl none, o_w B X τ σ' n c s) ∧ yK k σ σ' ∧ (∀ f, f ≠ 2 → σ'.1 (7 + 8 * k) f = σ.1 (7 + 8 * k) f) ∧ aQ k σ' (rK r p y (σ.2.1 (8 + 8 * k)) (σ.2.1 (9 + 8 * k)) (σ.2.1 (7 + 8 * k) 3)) := by
  rw [a_keep24 hk (by omega), a_keep52 hk hr h64 hp]
  unfold rK q_AckBook_Arrivals_keep_52 q_AckBook_Arrivals_keep_86
  by_cases a : 0 < p ∧ σ.2.1 (8 + 8 * k) (p - 1) = y + 1
  · simp only [if_pos a]
    rw [if_neg (show ¬ (1 : Int32) = 0 by decide)]
    by_cases b : p < r ∧ σ.2.1 (9 + 8 * k) p = y - 1
    · simp only [if_pos b]
      rw [if_neg (show ¬ (1 : Int32) = 0 by decide)]
      obtain ⟨r', rfl⟩ : ∃ r', r = r' + 1 := ⟨r - 1, by omega⟩
      simp only [or_s7_0 hk, oln_s8 hk (show p < 65 by omega), e_m1 a.1, osn_s8 hk (show p - 1 < 65 by omega), ot_s7 hk]
      have hr1 : (o_L σ (8 + 8 * k) (p - 1) (σ.2.1 (8 + 8 * k) p)).1 (7 + 8 * k) 2 = nI (r' + 1) := hr
      obtain ⟨σ1, q1, q2, q3⟩ := a_remJ (B := B) (X := X) (F := F) (τ := τ) (n := n) (c := c) (s := s) hk (r := r') (by omega) F p (o_I (o_L σ (8 + 8 * k) (p - 1) (σ.2.1 (8 + 8 * k) p)) (7 + 8 * k) 2 (nI r')) (by rw [i11, if_pos ⟨rfl, rfl⟩]) (by omega) (by omega)
      simp only [f_AckBook_Arrivals_remove, oi_s7_2 hk, hr1, nI_pred, op_s7_2 hk, q1, y_cV]
      refine ⟨σ1, rfl, ((zA.L (Or.inl rfl)).y.trans yK.I).trans q2.y, fun f hf => ?_, ?_, ?_, ?_, ?_⟩
      · rw [q2.1, i11, if_neg (fun z => hf z.2)]
        rfl
      · rw [q2.1, i11, if_pos ⟨rfl, rfl⟩]
        rfl
      · rw [q3 _ (Or.inl rfl), i12, l_fun]
        rfl
      · rw [q3 _ (Or.inr rfl), i12, l_fun_ne (by omega)]
        rfl
      · rw [q2.2.2 _ (by omega) (by omega), i12, l_fun_ne (by omega)]
    · simp only [if_neg b, if_true]
      rw [if_neg (show ¬ (1 : Int32) = 0 by decide)]
      simp only [or_s7_0 hk, e_m1 a.1, osn_s8 hk (show p - 1 < 65 by omega)]
      exact ⟨_, rfl, (zA.L (Or.inl rfl)).y, fun f hf => rfl, hr, l_fun, l_fun_ne (by omega), by rw [l_fun_ne (by omega)]⟩
  · simp only [if_neg a, if_true]
    by_cases b : p < r ∧ σ.2.1 (9 + 8 * k) p = y - 1
    · simp only [if_pos b]
      rw [if_neg (show ¬ (1 : Int32) = 0 by decide)]
      simp only [or_s7_1 hk, osn_s9 hk (show p < 65 by omega)]
      exact ⟨_, rfl, (zA.L (Or.inr rfl)).y, fun f hf => rfl, hr, l_fun_ne (by omega), l_fun, by rw [l_fun_ne (by omega)]⟩
    · simp only [if_neg b, if_true]
      obtain ⟨σ2, σ', q1, q2, q3, q4⟩ := a_insJ (B := B) (X := X) (F := F) (τ := τ) (n := n) (c := c) (s := s) hk h64 hp y F r σ hr hp (Nat.le_refl _) (by omega)
      simp only [ot_s7 hk, f_AckBook_Arrivals_insert, oi_s7_2 hk, hr, q1, y_cV]
      have e8 : σ2.2.1 (8 + 8 * k) = rIns (σ.2.1 (8 + 8 * k)) r p y := q3 _ (Or.inl rfl)
      have e9 : σ2.2.1 (9 + 8 * k) = rIns (σ.2.1 (9 + 8 * k)) r p y := q3 _ (Or.inr rfl)
      by_cases e : r < 64
      · rw [if_pos e] at q4
        simp only [if_pos e]
        subst q4
        refine ⟨_, rfl, q2.y.trans yK.I, fun f hf => ?_, ?_, e8, e9, ?_⟩
        · rw [i11, if_neg (fun z => hf z.2), q2.1]
        · rw [i11, if_pos ⟨rfl, rfl⟩]
        · rw [i12, q2.2.2 _ (by omega) (by omega)]
      · rw [if_neg e] at q4
        simp only [if_neg e]
        subst q4
        refine ⟨_, rfl, ((q2.y.trans yK.I).trans yK.I).trans (yK.L (by omega)), fun f hf => ?_, ?_, ?_, ?_, ?_⟩
        · rw [l11, i11, if_neg (fun z => hf z.2), i11, if_neg (fun z => hf z.2), q2.1]
        · rw [l11, i11, if_pos ⟨rfl, rfl⟩]
        · rw [l_fun_ne (by omega)]
          exact e8
        · rw [l_fun_ne (by omega)]
          exact e9
        · rw [l12, if_pos ⟨rfl, rfl⟩, e9]
theorem a_hold {k : Nat} (hk : k < 3) (b z : Int32) : ∃ σ', f_AckBook_Arrivals_hold F X (some (B + (7 + 8 * k))) b z (o_w B X τ σ n c s) = some (.inl none, o_w B X τ σ' n c s) ∧ yK k σ σ' ∧ σ'.2 = σ.2 ∧ σ'.1 (7 + 8 * k) 2 = σ.1 (7 + 8 * k) 2 ∧ σ'.1 (7 + 8 * k) 4 = σ.1 (7 + 8 * k) 4 + 1 ∧ σ'.1 (7 + 8 * k) 5 = (if σ.1 (7 + 8 * k) 4 = 0 then z else σ.1 (7 + 8 * k) 5) ∧ σ'.1 (7 + 8 * k) 6 = (if σ.1 (7 + 8 * k) 6 = 0 ∧ b = 0 then 0 else 1) ∧ σ'.1 (7 + 8 * k) 7 = σ.1 (7 + 8 * k) 7 := by
  have h12 : ∀ σ1 : zS, σ1.1 (7 + 8 * k) 6 = σ.1 (7 + 8 * k) 6 → q_AckBook_Arrivals_hold_12 F X (some (B + (7 + 8 * k))) b (o_w B X τ σ1 n c s) = some (.inl none, o_w B X τ (o_I (o_I σ1 (7 + 8 * k) 4 (σ1.1 (7 + 8 * k) 4 + 1)) (7 + 8 * k) 6 (if σ.1 (7 + 8 * k) 6 = 0 ∧ b = 0 then 0 else 1)) n c s) := by
    intro σ1 h6
    unfold q_AckBook_Arrivals_hold_12
    have h6' : (o_I σ1 (7 + 8 * k) 4 (σ1.1 (7 + 8 * k) 4 + 1)).1 (7 + 8 * k) 6 = σ.1 (7 + 8 * k) 6 := by rw [i11, if_neg (fun z => absurd z.2 (by decide))]; exact h6
    simp only [oi_s7_4 hk, op_s7_4 hk, oi_s7_6 hk, h6', oz0_s7_6 hk, oz1_s7_6 hk]
    by_cases e : σ.1 (7 + 8 * k) 6 = 0
    · rw [if_pos e]
      by_cases e2 : b = 0
      · rw [if_pos e2, if_pos ⟨e, e2⟩]
      · rw [if_neg e2, if_neg (fun z => e2 z.2)]
    · rw [if_neg e, if_neg (fun z => e z.1)]
  unfold f_AckBook_Arrivals_hold
  simp only [oi_s7_4 hk, op_s7_5 hk]
  by_cases e : σ.1 (7 + 8 * k) 4 = 0
  · rw [if_pos e, h12 _ (by rw [i11, if_neg (fun z => absurd z.2 (by decide))])]
    refine ⟨_, rfl, (yK.I.trans yK.I).trans yK.I, rfl, ?_, ?_, ?_, ?_, ?_⟩ <;> simp [i11, e]
  · rw [if_neg e, h12 _ rfl]
    refine ⟨_, rfl, yK.I.trans yK.I, rfl, ?_, ?_, ?_, ?_, ?_⟩ <;> simp [i11, e]
theorem a_91 {k : Nat} (hk : k < 3) (y g : Int64) (z : Int32) : ∃ σ', q_AckBook_Arrivals_enter_91 F X (some (B + (7 + 8 * k))) y z g (o_w B X τ σ n c s) = some (.inl (some (.int 1)), o_w B X τ σ' n c s) ∧ yK k σ σ' ∧ σ'.2 = σ.2 ∧ (∀ f, f ≠ 7 → σ'.1 (7 + 8 * k) f = σ.1 (7 + 8 * k) f) ∧ σ'.1 (7 + 8 * k) 7 = (if g < y then z else σ.1 (7 + 8 * k) 7) := by
  unfold q_AckBook_Arrivals_enter_91
  simp only [op_s7_7 hk, lg_cmp_le]
  by_cases h : y ≤ g
  · rw [if_pos h, if_neg (Int64.not_lt.mpr h)]
    exact ⟨σ, rfl, yK.refl k σ, rfl, fun _ _ => rfl, rfl⟩
  · rw [if_neg h, if_pos (Int64.not_le.mp h)]
    refine ⟨_, rfl, yK.I, rfl, fun f hf => ?_, ?_⟩
    · rw [i11, if_neg (fun z => hf z.2)]
    · rw [i11, if_pos ⟨rfl, rfl⟩]
/-- what becomes of the rest -/
def aT (x z : Int32) (y g : Int64) (p5 p6 p7 p8 q5 q6 q7 q8 : Int32) : Prop := q5 = (if x = 0 then p5 else p5 + 1) ∧ q6 = (if x = 0 then p6 else if p5 = 0 then z else p6) ∧ q7 = (if x = 0 then p7 else if p7 = 0 ∧ y = g + 1 then 0 else 1) ∧ q8 = (if g < y then z else p8)
theorem a_enter (hF : 20000 ≤ F) {k r : Nat} (hk : k < 3) (hr : σ.1 (7 + 8 * k) 2 = nI r) (h64 : r ≤ 64) (y : Int64) (x z : Int32) : ∃ p, p ≤ r ∧ (∀ j, j < p → y < σ.2.1 (8 + 8 * k) j) ∧ (p < r → σ.2.1 (8 + 8 * k) p ≤ y) ∧ ((y < σ.2.1 (7 + 8 * k) 3 ∨ (p < r ∧ y ≤ σ.2.1 (9 + 8 * k) p)) → f_AckBook_Arrivals_enter F X (some (B + (7 + 8 * k))) y x z (o_w B X τ σ n c s) = some (.inl (some (.int 0)), o_w B X τ σ n c s)) ∧ (¬ (y < σ.2.1 (7 + 8 * k) 3 ∨ (p < r ∧ y ≤ σ.2.1 (9 + 8 * k) p)) → ∃ σ', f_AckBook_Arrivals_enter F X (some (B + (7 + 8 * k))) y x z (o_w B X τ σ n c s) = some (.inl (some (.int 1)), o_w B X τ σ' n c s) ∧ yK k σ σ' ∧ aQ k σ' (rK r p y (σ.2.1 (8 + 8 * k)) (σ.2.1 (9 + 8 * k)) (σ.2.1 (7 + 8 * k) 3)) ∧ aT x z y (if r = 0 then -1 else σ.2.1 (9 + 8 * k) 0) (σ.1 (7 + 8 * k) 4) (σ.1 (7 + 8 * k) 5) (σ.1 (7 + 8 * k) 6) (σ.1 (7 + 8 * k) 7) (σ'.1 (7 + 8 * k) 4) (σ'.1 (7 + 8 * k) 5) (σ'.1 (7 + 8 * k) 6) (σ'.1 (7 + 8 * k) 7)) := by
  obtain ⟨p, hp, h1, h2, hp2⟩ := a_fnaJ (B := B) (X := X) (F := F) (τ := τ) (n := n) (c := c) (s := s) hk hr h64 y F 0 (Nat.zero_le _) (by omega) (fun j hj => absurd hj (Nat.not_lt_zero _))
  have hp2 : f_AckBook_Arrivals_firstNotAbove F X (some (B + (7 + 8 * k))) y (o_w B X τ σ n c s) = _ := hp2
  refine ⟨p, hp, h1, h2, fun ho => ?_, fun hno => ?_⟩
  · unfold f_AckBook_Arrivals_enter
    simp (disch := omega) only [ot_s7 hk, hp2, y_cI, ol_s7_3 hk, oi_s7_2 hk, hr, e_le, or_s7_1 hk, lg_cmp_lt, lg_cmp_gt]
    by_cases e : y < σ.2.1 (7 + 8 * k) 3
    · rw [if_pos e]
    · have := ho.resolve_left e
      rw [if_neg e, if_neg (show ¬ r ≤ p by omega)]
      simp only [oln_s9 hk (show p < 65 by omega)]
      rw [if_neg (Int64.not_lt.mpr this.2)]
  · have e1 : ¬ y < σ.2.1 (7 + 8 * k) 3 := fun q => hno (Or.inl q)
    have e2 : p < r → σ.2.1 (9 + 8 * k) p < y := fun q => Int64.not_le.mp fun z => hno (Or.inr ⟨q, z⟩)
    have to39 : f_AckBook_Arrivals_enter F X (some (B + (7 + 8 * k))) y x z (o_w B X τ σ n c s) = q_AckBook_Arrivals_enter_39 F X (some (B + (7 + 8 * k))) y x z (nI p) (o_w B X τ σ n c s) := by
      unfold f_AckBook_Arrivals_enter
      simp (disch := omega) only [ot_s7 hk, hp2, y_cI, ol_s7_3 hk, oi_s7_2 hk, hr, e_le, or_s7_1 hk, lg_cmp_lt, lg_cmp_gt]
      rw [if_neg e1]
      by_cases e : r ≤ p
      · rw [if_pos e]
      · rw [if_neg e]
        simp only [oln_s9 hk (show p < 65 by omega)]
        rw [if_pos (e2 (by omega))]
    have to58 : q_AckBook_Arrivals_enter_39 F X (some (B + (7 + 8 * k))) y x z (nI p) (o_w B X τ σ n c s) = q_AckBook_Arrivals_enter_58 F X (some (B + (7 + 8 * k))) y x z (nI p) (if r = 0 then -1 else σ.2.1 (9 + 8 * k) 0) (o_w B X τ σ n c s) := by
      have e0 : ∀ K : Int64 → zR, z_ldL (o_w B X τ σ n c s) (some (B + (9 + 8 * k))) 0 K = K (σ.2.1 (9 + 8 * k) 0) := fun K => oln_s9 hk (i := 0) (by decide) K
      unfold q_AckBook_Arrivals_enter_39
      simp only [oi_s7_2 hk, hr, or_s7_1 hk, e0]
      by_cases e : r = 0
      · subst e
        rw [if_pos rfl, if_pos (show nI 0 = 0 from rfl)]
      · rw [if_neg e, if_neg (nI_ne0 (by omega) (by omega))]
    rw [to39, to58]
    generalize (if r = 0 then -1 else σ.2.1 (9 + 8 * k) 0) = g
    obtain ⟨σ1, b1, b2, b3, b4⟩ := a_keep (B := B) (X := X) (F := F) (τ := τ) (n := n) (c := c) (s := s) hF hk hr h64 hp y
    unfold q_AckBook_Arrivals_enter_58 aT
    simp only [ot_s7 hk, b1, y_cV]
    have qc : ∀ σ3 : zS, σ3.2 = σ1.2 → σ3.1 (7 + 8 * k) 2 = σ1.1 (7 + 8 * k) 2 → aQ k σ3 (rK r p y (σ.2.1 (8 + 8 * k)) (σ.2.1 (9 + 8 * k)) (σ.2.1 (7 + 8 * k) 3)) := fun σ3 z1 z2 => ⟨z2.trans b4.1, by rw [z1]; exact b4.2.1, by rw [z1]; exact b4.2.2.1, by rw [z1]; exact b4.2.2.2⟩
    by_cases ex : x = 0
    · simp only [if_pos ex]
      obtain ⟨σ3, d1, d2, d3, d4, d5⟩ := a_91 (B := B) (X := X) (F := F) (τ := τ) (n := n) (c := c) (s := s) (σ := σ1) hk y g z
      refine ⟨σ3, d1, b2.trans d2, qc σ3 d3 (d4 2 (by decide)), ?_, ?_, ?_, ?_⟩
      · rw [d4 4 (by decide), b3 4 (by decide)]
      · rw [d4 5 (by decide), b3 5 (by decide)]
      · rw [d4 6 (by decide), b3 6 (by decide)]
      · rw [d5, b3 7 (by decide)]
    · simp only [if_neg ex]
      have to86 : (if lg_cmp y (g + 1) = 0 then q_AckBook_Arrivals_enter_86 F X (some (B + (7 + 8 * k))) y z g (some (B + (7 + 8 * k))) 0 (o_w B X τ σ1 n c s) else q_AckBook_Arrivals_enter_86 F X (some (B + (7 + 8 * k))) y z g (some (B + (7 + 8 * k))) 1 (o_w B X τ σ1 n c s)) = q_AckBook_Arrivals_enter_86 F X (some (B + (7 + 8 * k))) y z g (some (B + (7 + 8 * k))) (if y = g + 1 then 0 else 1) (o_w B X τ σ1 n c s) := by
        by_cases e : y = g + 1
        · rw [if_pos ((lg_cmp_eq _ _).mpr e), if_pos e]
        · rw [if_neg (fun z => e ((lg_cmp_eq _ _).mp z)), if_neg e]
      rw [to86]
      obtain ⟨σ2, a1, a2, a3, a4, a5, a6, a7, a8⟩ := a_hold (B := B) (X := X) (F := F) (τ := τ) (n := n) (c := c) (s := s) (σ := σ1) hk (if y = g + 1 then 0 else 1) z
      unfold q_AckBook_Arrivals_enter_86
      simp only [ot_s7 hk, a1, y_cV]
      obtain ⟨σ3, d1, d2, d3, d4, d5⟩ := a_91 (B := B) (X := X) (F := F) (τ := τ) (n := n) (c := c) (s := s) (σ := σ2) hk y g z
      refine ⟨σ3, d1, (b2.trans a2).trans d2, qc σ3 (d3.trans a3) ((d4 2 (by decide)).trans a4), ?_, ?_, ?_, ?_⟩
      · rw [d4 4 (by decide), a5, b3 4 (by decide)]
      · rw [d4 5 (by decide), a6, b3 4 (by decide), b3 5 (by decide)]
      · rw [d4 6 (by decide), a7, b3 6 (by decide)]
        by_cases e : y = g + 1
        · simp [e]
        · simp [e]
      · rw [d5, a8, b3 7 (by decide)]
end AV
