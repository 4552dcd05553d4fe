/-! What came: the reference's methods as functions. -/
section AW
variable {B X F : Nat} {τ : zK} {n c s : Nat} {σ : zS}
/-- what came in space k, and the reference's throw, may differ -/
def bG (k : Nat) (σ σ' : zS) : Prop := σ'.2.2 = σ.2.2 ∧ (∀ o f, ¬ (o = 31 ∧ f = 0) → ¬ (f = k ∧ (o = 47 ∨ (51 ≤ o ∧ o ≤ 54))) → σ'.1 o f = σ.1 o f) ∧ ∀ o f, ¬ (o = 50 ∧ f = k) → ¬ ((o = 48 ∨ o = 49) ∧ 65 * k ≤ f ∧ f < 65 * k + 65) → σ'.2.1 o f = σ.2.1 o f
theorem bG.refl (k : Nat) (σ : zS) : bG k σ σ := ⟨rfl, fun _ _ _ _ => rfl, fun _ _ _ _ => rfl⟩
theorem bG.trans {k : Nat} {a b d : zS} (h1 : bG k a b) (h2 : bG k b d) : bG k a d := ⟨h2.1.trans h1.1, fun o f p q => (h2.2.1 o f p q).trans (h1.2.1 o f p q), fun o f p q => (h2.2.2 o f p q).trans (h1.2.2 o f p q)⟩
theorem bG.I {k o f : Nat} {x : Int32} (h : (o = 31 ∧ f = 0) ∨ (f = k ∧ (o = 47 ∨ (51 ≤ o ∧ o ≤ 54)))) : bG k σ (o_I σ o f x) := ⟨rfl, fun a b p q => by
  rw [i11, if_neg]
  rintro ⟨rfl, rfl⟩
  rcases h with h | h
  · exact p h
  · exact q h, fun _ _ _ _ => rfl⟩
theorem bG.L {k o f : Nat} {x : Int64} (h : (o = 50 ∧ f = k) ∨ ((o = 48 ∨ o = 49) ∧ 65 * k ≤ f ∧ f < 65 * k + 65)) : bG k σ (o_L σ o f x) := ⟨rfl, fun _ _ _ _ => rfl, fun a b p q => by
  rw [l12, if_neg]
  rintro ⟨rfl, rfl⟩
  rcases h with h | h
  · exact p h
  · exact q h⟩
theorem b_takeJ {k r : Nat} (hk : k < 3) (hr : r ≤ 64) : ∀ (N a : Nat) (σ : zS), σ.1 47 k = nI r → 65 * k ≤ a → a ≤ 65 * k + 65 → 66 - (a - 65 * k) < N → ∃ σ', j_AckBookModel_takeOut F X N (some (B + 31)) (nI k) (nI a) (o_w B X τ σ n c s) = some (.inl none, o_w B X τ σ' n c s) ∧ bG k σ σ' ∧ σ'.1 = σ.1 ∧ σ'.2.1 50 = σ.2.1 50 ∧ ∀ o, o = 48 ∨ o = 49 → σ'.2.1 o = rRem (σ.2.1 o) (65 * k + r) a := by
  intro N
  induction N with
  | zero => exact fun _ _ _ _ _ h => absurd h (Nat.not_lt_zero _)
  | succ N ih =>
    intro a σ hr1 h1 h2 hf
    rw [j_AckBookModel_takeOut]
    simp (disch := omega) only [or_31_30, oln_47, hr1, e_m65, nI_add, e_le]
    by_cases h : 65 * k + r ≤ a
    · rw [if_pos h]
      exact ⟨σ, rfl, bG.refl k σ, rfl, rfl, fun o ho => (rRem_end h).symm⟩
    · rw [if_neg h]
      simp (disch := omega) only [or_31_31, or_31_32, nI_1, oln_48, osn_48, oln_49, osn_49]
      obtain ⟨σ', e1, e2, e4, e5, e3⟩ := ih (a + 1) (o_L (o_L σ 48 a (σ.2.1 48 (a + 1))) 49 a ((o_L σ 48 a (σ.2.1 48 (a + 1))).2.1 49 (a + 1))) hr1 (by omega) (by omega) (by omega)
      have ls := l_step (σ := σ) (i := a) (show 48 ≠ 49 by decide) (a + 1)
      refine ⟨σ', e1, ((bG.L (Or.inr ⟨Or.inl rfl, by omega, by omega⟩)).trans (bG.L (Or.inr ⟨Or.inr rfl, by omega, by omega⟩))).trans e2, e4, ?_, fun o ho => ?_⟩
      · rw [e5, l_fun_ne (by decide), l_fun_ne (by decide)]
      rw [e3 o ho]
      rcases ho with rfl | rfl
      · rw [ls.1]
        exact rRem_step (by omega)
      · rw [ls.2]
        exact rRem_step (by omega)
theorem b_take {k r a : Nat} (hk : k < 3) (hr : r ≤ 64) (hF : 20000 ≤ F) (hr1 : σ.1 47 k = nI (r + 1)) (h1 : 65 * k ≤ a) (h2 : a ≤ 65 * k + 65) : ∃ σ', f_AckBookModel_takeOut F X (some (B + 31)) (nI k) (nI a) (o_w B X τ σ n c s) = some (.inl none, o_w B X τ σ' n c s) ∧ bG k σ σ' ∧ σ'.1 = (o_I σ 47 k (nI r)).1 ∧ σ'.2.1 50 = σ.2.1 50 ∧ ∀ o, o = 48 ∨ o = 49 → σ'.2.1 o = rRem (σ.2.1 o) (65 * k + r) a := by
  unfold f_AckBookModel_takeOut
  simp (disch := omega) only [or_31_30, oln_47, hr1, nI_pred, osn_47]
  obtain ⟨σ', e1, e2, e3, e4, e5⟩ := b_takeJ (B := B) (X := X) (F := F) (τ := τ) (n := n) (c := c) (s := s) hk hr F a (o_I σ 47 k (nI r)) (by rw [i11, if_pos ⟨rfl, rfl⟩]) h1 h2 (by omega)
  exact ⟨σ', e1, (bG.I (Or.inr ⟨rfl, Or.inl rfl⟩)).trans e2, e3, e4, e5⟩
/-- the reference makes room: it stops at a0, all from there on has moved up by one -/
theorem b_comeJ {k : Nat} (hk : k < 3) (y : Int64) : ∀ (N a : Nat) (σ : zS), 65 * k ≤ a → a ≤ 65 * k + 64 → a - 65 * k < N → ∃ a0 σ1 N', 65 * k ≤ a0 ∧ a0 ≤ a ∧ bG k σ σ1 ∧ σ1.1 = σ.1 ∧ σ1.2.1 50 = σ.2.1 50 ∧ (∀ o, o = 48 ∨ o = 49 → σ1.2.1 o = rSh (σ.2.1 o) a0 a) ∧ (∀ j, a0 ≤ j → j < a → y < σ.2.1 48 j) ∧ (a0 = 65 * k ∨ σ.2.1 48 (a0 - 1) ≤ y) ∧ j_AckBookModel_comeIn F X N (some (B + 31)) (nI k) y (nI a) (o_w B X τ σ n c s) = q_AckBookModel_comeIn_74 F X (j_AckBookModel_comeIn F X N') (some (B + 31)) (nI k) y (nI a0) (o_w B X τ σ1 n c s) := by
  intro N
  induction N with
  | zero => exact fun _ _ _ _ h => absurd h (Nat.not_lt_zero _)
  | succ N ih =>
    intro a σ h1 h2 hf
    rw [j_AckBookModel_comeIn]
    simp (disch := omega) only [e_m65, e_le]
    by_cases h : a ≤ 65 * k
    · rw [if_pos h]
      exact ⟨a, σ, N, h1, Nat.le_refl _, bG.refl k σ, rfl, rfl, fun o ho => rSh_base.symm, fun j q1 q2 => absurd q2 (by omega), Or.inl (by omega), rfl⟩
    · rw [if_neg h]
      simp (disch := omega) only [or_31_31, e_m1, oln_48, lg_cmp_le]
      by_cases q : σ.2.1 48 (a - 1) ≤ y
      · rw [if_pos q]
        exact ⟨a, σ, N, h1, Nat.le_refl _, bG.refl k σ, rfl, rfl, fun o ho => rSh_base.symm, fun j q1 q2 => absurd q2 (by omega), Or.inr q, rfl⟩
      · rw [if_neg q]
        obtain ⟨a', rfl⟩ : ∃ a', a = a' + 1 := ⟨a - 1, by omega⟩
        rw [Nat.add_sub_cancel] at q ⊢
        simp (disch := omega) only [osn_48, or_31_32, oln_49, osn_49, pk_m1]
        obtain ⟨a0, σ1, N', e1, e2, e3, e8, e9, e4, e5, e6, e7⟩ := ih a' (o_L (o_L σ 48 (a' + 1) (σ.2.1 48 a')) 49 (a' + 1) ((o_L σ 48 (a' + 1) (σ.2.1 48 a')).2.1 49 a')) (by omega) (by omega) (by omega)
        have ls := l_step (σ := σ) (i := a' + 1) (show 48 ≠ 49 by decide) a'
        refine ⟨a0, σ1, N', e1, by omega, ((bG.L (Or.inr ⟨Or.inl rfl, by omega, by omega⟩)).trans (bG.L (Or.inr ⟨Or.inr rfl, by omega, by omega⟩))).trans e3, e8, ?_, fun o ho => ?_, fun j q1 q2 => ?_, ?_, e7⟩
        · rw [e9, l_fun_ne (by decide), l_fun_ne (by decide)]
        · rw [e4 o ho]
          rcases ho with rfl | rfl
          · rw [ls.1]
            exact rSh_step e2
          · rw [ls.2]
            exact rSh_step e2
        · by_cases z : j = a'
          · rw [z]; exact Int64.not_le.mp q
          · have z2 := e5 j q1 (by omega)
            rw [ls.1, rUpd_ne (by omega)] at z2
            exact z2
        · rcases e6 with e6 | e6
          · exact Or.inl e6
          · refine Or.inr ?_
            rw [ls.1, rUpd_ne (by omega)] at e6
            exact e6
/-- the reference's look for a number that came already -/
theorem b_oldJ {k r : Nat} (hk : k < 3) (hr : r ≤ 64) (hr1 : σ.1 47 k = nI r) (y : Int64) : ∀ (N a : Nat) (b : Bool), 65 * k ≤ a → a ≤ 65 * k + r → 66 - (a - 65 * k) < N → ∃ b' : Bool, j_AckBookModel_isOld F X N (some (B + 31)) (nI k) y (if b then 1 else 0) (nI a) (o_w B X τ σ n c s) = some (.inl (some (.int (if b' then 1 else 0))), o_w B X τ σ n c s) ∧ (b' = true ↔ b = true ∨ ∃ j, a ≤ j ∧ j < 65 * k + r ∧ σ.2.1 48 j ≤ y ∧ y ≤ σ.2.1 49 j) := by
  intro N
  induction N with
  | zero => exact fun _ _ _ _ h => absurd h (Nat.not_lt_zero _)
  | succ N ih =>
    intro a b h1 h2 hf
    rw [j_AckBookModel_isOld]
    simp (disch := omega) only [or_31_30, oln_47, hr1, e_m65, nI_add, e_le]
    by_cases h : 65 * k + r ≤ a
    · rw [if_pos h]
      refine ⟨b, by cases b <;> rfl, ⟨fun q => Or.inl q, fun q => q.elim id ?_⟩⟩
      rintro ⟨j, q1, q2, -⟩
      omega
    · rw [if_neg h]
      simp (disch := omega) only [or_31_31, oln_48, or_31_32, oln_49, nI_1, lg_cmp_lt, lg_cmp_gt]
      have e0 := ih (a + 1) false (by omega) (by omega) (by omega)
      have e1 := ih (a + 1) true (by omega) (by omega) (by omega)
      cases b with
      | true =>
        obtain ⟨b', q1, q2⟩ := e1
        refine ⟨b', by rw [if_neg (by decide)]; exact q1, ⟨fun _ => Or.inl rfl, fun _ => q2.mpr (Or.inl rfl)⟩⟩
      | false =>
        rw [if_pos (by rfl)]
        by_cases z1 : y < σ.2.1 48 a
        · rw [if_pos z1]
          obtain ⟨b', q1, q2⟩ := e0
          refine ⟨b', q1, q2.trans ⟨fun q => Or.inr ?_, fun q => Or.inr ?_⟩⟩
          · rcases q with q | ⟨j, w1, w2, w3⟩
            · cases q
            · exact ⟨j, by omega, w2, w3⟩
          · rcases q with q | ⟨j, w1, w2, w3, w4⟩
            · cases q
            · by_cases ja : j = a
              · rw [ja] at w3
                exact absurd z1 (Int64.not_lt.mpr w3)
              · exact ⟨j, by omega, w2, w3, w4⟩
        · rw [if_neg z1]
          by_cases z2 : σ.2.1 49 a < y
          · rw [if_pos z2]
            obtain ⟨b', q1, q2⟩ := e0
            refine ⟨b', q1, q2.trans ⟨fun q => Or.inr ?_, fun q => Or.inr ?_⟩⟩
            · rcases q with q | ⟨j, w1, w2, w3⟩
              · cases q
              · exact ⟨j, by omega, w2, w3⟩
            · rcases q with q | ⟨j, w1, w2, w3, w4⟩
              · cases q
              · by_cases ja : j = a
                · rw [ja] at w4
                  exact absurd z2 (Int64.not_lt.mpr w4)
                · exact ⟨j, by omega, w2, w3, w4⟩
          · rw [if_neg z2]
            obtain ⟨b', q1, q2⟩ := e1
            refine ⟨b', q1, ⟨fun _ => Or.inr ⟨a, Nat.le_refl _, by omega, Int64.not_lt.mp z1, Int64.not_lt.mp z2⟩, fun _ => q2.mpr (Or.inl rfl)⟩⟩
theorem b_207 (hF : 20000 ≤ F) {k R : Nat} {L H : Nat → Int64} (hk : k < 3) (hR65 : R ≤ 65) (hr : σ.1 47 k = nI R) (hA : aR R L H (65 * k) (σ.2.1 48) (σ.2.1 49)) (J : Option Nat → Int32 → Int64 → Int32 → zW → zR) : ∃ σ', q_AckBookModel_comeIn_207 F X J (some (B + 31)) (nI k) (o_w B X τ σ n c s) = some (.inl none, o_w B X τ σ' n c s) ∧ bG k σ σ' ∧ (∀ o f, o ≠ 47 → σ'.1 o f = σ.1 o f) ∧ σ'.1 47 k = nI (if R ≤ 64 then R else 64) ∧ aR (if R ≤ 64 then R else 64) L H (65 * k) (σ'.2.1 48) (σ'.2.1 49) ∧ σ'.2.1 50 k = if R ≤ 64 then σ.2.1 50 k else H 64 + 1 := by
  unfold q_AckBookModel_comeIn_207
  simp (disch := omega) only [or_31_30, oln_47, hr]
  by_cases e : R ≤ 64
  · simp only [if_pos e]
    rw [if_pos (show nI R ≤ (64 : Int32) from nI_le (b := 64) e (by decide))]
    exact ⟨σ, rfl, bG.refl k σ, fun _ _ _ => rfl, hr, hA, rfl⟩
  · obtain rfl : R = 65 := by omega
    simp only [if_neg e]
    rw [if_neg (show ¬ nI 65 ≤ (64 : Int32) from nI_ge (a := 64) (by omega) (by omega))]
    simp (disch := omega) only [or_31_33, or_31_32, e_m65, oln_49, osn_50, ot_31]
    obtain ⟨σ', e1, e2, e3, e4, e5⟩ := b_take (B := B) (X := X) (F := F) (τ := τ) (n := n) (c := c) (s := s) (σ := o_L σ 50 k (σ.2.1 49 (65 * k) + 1)) (r := 64) (a := 65 * k) hk (Nat.le_refl _) hF hr (Nat.le_refl _) (by omega)
    simp only [e1, y_cV]
    have e48 : σ'.2.1 48 = rRem (σ.2.1 48) (65 * k + 64) (65 * k) := (e5 48 (Or.inl rfl)).trans (by rw [l_fun_ne (by decide)])
    have e49 : σ'.2.1 49 = rRem (σ.2.1 49) (65 * k + 64) (65 * k) := (e5 49 (Or.inr rfl)).trans (by rw [l_fun_ne (by decide)])
    refine ⟨σ', rfl, (bG.L (Or.inl ⟨rfl, rfl⟩)).trans e2, fun o f ho => ?_, ?_, ?_, ?_⟩
    · rw [e3, i11, if_neg (fun z => ho z.1), l11]
    · rw [e3, i11, if_pos ⟨rfl, rfl⟩]
    · refine (aR.take (r := 64) (i := 0) (q := 64) hA (by decide) (l1 := σ'.2.1 48) (h1 := σ'.2.1 49) (fun j => by rw [e48]; rfl) (fun j => by rw [e49]; rfl)).cong fun j hj => ?_
      rw [rRem_lt hj, rRem_lt hj]
      exact ⟨rfl, rfl⟩
    · rw [e4, l12, if_pos ⟨rfl, rfl⟩]
      have z := (hA 0 64 (by decide)).2
      rw [Nat.add_zero] at z
      rw [z]
theorem b_159 (hF : 20000 ≤ F) {k R q : Nat} {L H : Nat → Int64} (hk : k < 3) (hR65 : R ≤ 65) (hr : σ.1 47 k = nI R) (hA : aR R L H (65 * k) (σ.2.1 48) (σ.2.1 49)) (J : Option Nat → Int32 → Int64 → Int32 → zW → zR) {i : Nat} (hi : i + q + 1 = R) (y : Int64) : ∃ σ', q_AckBookModel_comeIn_159 F X J (some (B + 31)) (nI k) y (nI (65 * k + i)) (o_w B X τ σ n c s) = q_AckBookModel_comeIn_207 F X J (some (B + 31)) (nI k) (o_w B X τ σ' n c s) ∧ bG k σ σ' ∧ (∀ o f, o ≠ 47 → σ'.1 o f = σ.1 o f) ∧ σ'.2.1 50 = σ.2.1 50 ∧ if q + 1 < R ∧ H (q + 1) = y - 1 then (σ'.1 47 k = nI (R - 1) ∧ aR (R - 1) (rRem L (R - 1) q) (rRem (rUpd H (q + 1) (H q)) (R - 1) q) (65 * k) (σ'.2.1 48) (σ'.2.1 49)) else (σ'.1 47 k = nI R ∧ aR R L H (65 * k) (σ'.2.1 48) (σ'.2.1 49)) := by
  unfold q_AckBookModel_comeIn_159
  simp (disch := omega) only [e_m65, e_le]
  rcases Nat.eq_zero_or_pos i with z | z
  · subst z
    rw [if_pos (by omega)]
    refine ⟨σ, rfl, bG.refl k σ, fun _ _ _ => rfl, rfl, ?_⟩
    rw [if_neg (by omega)]
    exact ⟨hr, hA⟩
  · rw [if_neg (by omega)]
    obtain ⟨i', rfl⟩ : ∃ i', i = i' + 1 := ⟨i - 1, by omega⟩
    have e8 := (hA i' (q + 1) (by omega)).2
    have e9 := (hA (i' + 1) q (by omega)).2
    have em : nI (65 * k + (i' + 1)) - 1 = nI (65 * k + i') := nI_pred (65 * k + i')
    simp (disch := omega) only [or_31_32, em, oln_49, e8]
    by_cases e : H (q + 1) = y - 1
    · rw [if_pos ((lg_cmp_eq _ _).mpr e)]
      simp (disch := omega) only [oln_49, osn_49, e9, ot_31]
      obtain ⟨R', rfl⟩ : ∃ R', R = R' + 1 := ⟨R - 1, by omega⟩
      obtain ⟨σ', d1, d2, d3, d4, d5⟩ := b_take (B := B) (X := X) (F := F) (τ := τ) (n := n) (c := c) (s := s) (σ := o_L σ 49 (65 * k + i') (H q)) (r := R') (a := 65 * k + (i' + 1)) hk (by omega) hF hr (by omega) (by omega)
      simp only [d1, y_cV]
      refine ⟨σ', rfl, (bG.L (Or.inr ⟨Or.inr rfl, by omega, by omega⟩)).trans d2, fun o f ho => ?_, ?_, ?_⟩
      · rw [d3, i11, if_neg (fun z => ho z.1), l11]
      · rw [d4, l_fun_ne (by decide)]
      · rw [if_pos ⟨by omega, e⟩]
        refine ⟨by rw [d3, i11, if_pos ⟨rfl, rfl⟩]; rfl, ?_⟩
        have hu : aR (R' + 1) L (rUpd H (q + 1) (H q)) (65 * k) (σ.2.1 48) (rUpd (σ.2.1 49) (65 * k + i') (H q)) := aR.upd (i := i') hA (by omega) (fun j => rfl)
        refine aR.take (i := i' + 1) hu (by omega) (fun j => ?_) (fun j => ?_)
        · rw [d5 48 (Or.inl rfl), l_fun_ne (by decide)]
          rfl
        · rw [d5 49 (Or.inr rfl), l_fun]
          rfl
    · rw [if_neg (fun z => e ((lg_cmp_eq _ _).mp z))]
      refine ⟨σ, rfl, bG.refl k σ, fun _ _ _ => rfl, rfl, ?_⟩
      rw [if_neg (fun z => e z.2)]
      exact ⟨hr, hA⟩
end AW
