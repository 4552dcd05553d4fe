/-! The reference's window, to the number. -/
section KE
variable {B X F : Nat} {τ : zK} {n c s : Nat} {σ σ' : zS} {k m a : Nat} {D : Nat → Nat → Int32} {ft : Nat → Int32} {q : Nat → List Nat} {lt ga ds : Int32}
def mq (σ : zS) : Int32 × Int32 × Int32 := (σ.1 31 24, σ.1 31 25, σ.1 31 26)
/-- a number or none -/
def nn (x : Int32) : Prop := x = -1 ∨ ¬ x < 0
theorem nn.neg {x : Int32} (h : nn x) : (x < 0) = (x = -1) := propext ⟨fun z => h.elim id (fun w => absurd z w), fun z => by rw [z]; decide⟩
theorem n_behindX (hk : k < 3) (hS : mS σ k m D ft q lt ga ds) (ha : a < m) (hr : nn (mq σ).2.2) : f_AckBookModel_isBehindRecovery F X (some (B + 31)) (nI (4096 * k + a)) (o_w B X τ σ n c s) = some (.inl (some (.int (if (mq σ).2.2 = -1 ∨ (mq σ).2.2 < D 2 a then 1 else 0))), o_w B X τ σ n c s) := by
  have hm := hS.1.2.1
  have f34 := (hS.2.1 a ha).1.2.1
  have hr' : (σ.1 31 26 < 0) = (σ.1 31 26 = -1) := hr.neg
  unfold f_AckBookModel_isBehindRecovery
  simp (disch := omega) only [oi_31_26, or_31_6, oln_34, f34, hr']
  show _ = (some (.inl (some (.int (if σ.1 31 26 = -1 ∨ σ.1 31 26 < D 2 a then 1 else 0))), o_w B X τ σ n c s) : zR)
  by_cases h : σ.1 31 26 = -1
  · rw [if_pos h, if_pos (Or.inl h)]
  · rw [if_neg h]
    by_cases h2 : D 2 a ≤ σ.1 31 26
    · rw [if_pos h2, if_neg (fun z => z.elim h (Int32.not_lt.mpr h2))]
    · rw [if_neg h2, if_pos (Or.inr (Int32.not_le.mp h2))]
theorem n_growX (hk : k < 3) (hS : mS σ k m D ft q lt ga ds) (ha : a < m) (hr : nn (mq σ).2.2) (ht : nn (mq σ).2.1) (hw : ¬ (mq σ).1 = 0) : ∃ σ', f_AckBookModel_grow F X (some (B + 31)) (nI (4096 * k + a)) (o_w B X τ σ n c s) = some (.inl none, o_w B X τ σ' n c s) ∧ fL σ σ' ∧ mq σ' = fwA D (mq σ) a := by
  have hm := hS.1.2.1
  obtain ⟨f33, -, -, f37, f38⟩ := (hS.2.1 a ha).1
  have e2 := n_behindX (B := B) (X := X) (F := F) (τ := τ) (n := n) (c := c) (s := s) hk hS ha hr
  have ht' : (σ.1 31 25 < 0) = (σ.1 31 25 = -1) := ht.neg
  have hw' : ¬ σ.1 31 24 = 0 := hw
  have key : ∀ y : Int32, fL σ (o_I σ 31 24 y) ∧ mq (o_I σ 31 24 y) = (y, σ.1 31 25, σ.1 31 26) := fun y => by
    refine ⟨fL.I (by omega), ?_⟩
    unfold mq
    rw [i11, if_pos ⟨rfl, rfl⟩, i11, if_neg (by omega), i11, if_neg (by omega)]
  unfold f_AckBookModel_grow
  simp (disch := omega) only [or_31_9, oln_37, f37, or_31_10, oln_38, f38, ot_31, e2, y_cI, oi_31_24, oi_31_25, ht', or_31_5, oln_33, f33, q_AckBookModel_grow_50, op_31_24, z_nz, if_neg hw']
  unfold fwA
  by_cases h4 : D 4 a = 0
  · rw [if_pos h4, if_neg (fun z => z.1 h4)]
    exact ⟨σ, rfl, fL.refl σ, rfl⟩
  · rw [if_neg h4]
    by_cases h5 : D 5 a = 0
    · rw [if_pos h5, if_neg (fun z => z.2.1 h5)]
      exact ⟨σ, rfl, fL.refl σ, rfl⟩
    · rw [if_neg h5]
      by_cases h6 : (mq σ).2.2 = -1 ∨ (mq σ).2.2 < D 2 a
      · rw [if_pos h6, if_neg (by decide), if_pos (show D 4 a ≠ 0 ∧ D 5 a ≠ 0 ∧ ((mq σ).2.2 = -1 ∨ (mq σ).2.2 < D 2 a) from ⟨h4, h5, h6⟩)]
        show ∃ σ', _ ∧ _ ∧ mq σ' = (if σ.1 31 25 = -1 ∨ σ.1 31 24 < σ.1 31 25 then σ.1 31 24 + D 1 a else σ.1 31 24 + 1200 * D 1 a / σ.1 31 24, σ.1 31 25, σ.1 31 26)
        by_cases h7 : σ.1 31 25 = -1
        · rw [if_pos h7, if_pos (Or.inl h7)]
          exact ⟨_, rfl, key _⟩
        · rw [if_neg h7]
          by_cases h8 : σ.1 31 25 ≤ σ.1 31 24
          · rw [if_pos h8, if_neg (fun z => z.elim h7 (Int32.not_lt.mpr h8))]
            exact ⟨_, rfl, key _⟩
          · rw [if_neg h8, if_pos (Or.inr (Int32.not_le.mp h8))]
            exact ⟨_, rfl, key _⟩
      · rw [if_neg h6, if_pos rfl, if_neg (fun z => h6 z.2.2)]
        exact ⟨σ, rfl, fL.refl σ, rfl⟩
/-- the list of those found lost behind t0 -/
def fl2 (σ : zS) (k m t0 : Nat) (l : List Nat) : Prop := σ.1 43 (2 * k + 1) = nI (t0 + l.length) ∧ t0 + l.length ≤ 4096 ∧ ∀ j a, l[j]? = some a → σ.1 42 (4096 * (2 * k + 1) + (t0 + j)) = nI a ∧ a < m
theorem fl2.at {t0 : Nat} {l1 l2 : List Nat} (h : fl2 σ k m t0 (l1 ++ a :: l2)) : σ.1 42 (4096 * (2 * k + 1) + (t0 + l1.length)) = nI a ∧ a < m := h.2.2 _ _ (by rw [List.getElem?_append_right (Nat.le_refl _), Nat.sub_self]; rfl)
theorem ctF_both {since : Int32} : ∀ (l : List Nat) (x : Option Nat × Option Nat), (x.1 = none ↔ x.2 = none) → ((l.foldl (ctF D since) x).1 = none ↔ (l.foldl (ctF D since) x).2 = none)
  | [], _, h => h
  | a :: l, x, h => by
    rw [List.foldl_cons]
    refine ctF_both l _ ?_
    unfold ctF
    by_cases z : D 3 a ≠ 0 ∧ since < D 2 a
    · rw [if_pos z]
      refine ⟨fun w => ?_, fun w => by cases w⟩
      by_cases z2 : x.1 = none
      · have w : (if x.1 = none then some a else x.1) = none := w
        rw [if_pos z2] at w
        cases w
      · have w : (if x.1 = none then some a else x.1) = none := w
        rw [if_neg z2] at w
        exact absurd w z2
    · rw [if_neg z]
      exact h
theorem fwC_W {W W' : Nat → Int32} {l : List Nat} {x : Int32 × Int32 × Int32} (h : ∀ f, f < 5 → W f = W' f) : fwC D ft W l x = fwC D ft W' l x := by
  unfold fwC bdW
  rw [h 0 (by omega), h 1 (by omega), h 4 (by omega)]
theorem e_2k1 (k : Nat) : (2 : Int32) * nI k + 1 = nI (2 * k + 1) := by rw [e_m2, nI_1]
/-- the end of persists -/
def pQ (σ : zS) (x : Bool) : Option Value → zS → Prop := fun v σ' => v = none ∧ fL σ σ' ∧ mq σ' = (if x = true then (2400, (mq σ).2.1, -1) else mq σ)
/-- whether one came through between a and b -/
theorem n_per1 {b : Nat} (hk : k < 3) (hS : mS σ k m D ft q lt ga ds) (ha : a < m) (hb : b < m) (hf : ¬ ft a = 1) : ∀ (N i : Nat) (y : Int32), a ≤ i → (i ≤ b ∨ i = a) → (y = 0 ∨ y = 1) → (y = 1 ↔ ∃ j, a + 1 ≤ j ∧ j < i ∧ j < b ∧ ft j = 1) → pW B X τ n c s (j_AckBookModel_persists F X N 1 (some (B + 31)) (nI k) (nI a) (nI b) y (nI i) (o_w B X τ σ n c s)) (pQ σ (cutB D ft (bdW (fun f => σ.1 31 (18 + f))) (some a, some b))) := by
  have hm := hS.1.2.1
  have fa := (hS.2.1 a ha).1.2.1
  have fb := (hS.2.1 b hb).1.2.1
  intro N
  induction N with
  | zero => exact fun _ _ _ _ _ _ => pW.none
  | succ N ih =>
    intro i y hai hib hy hyi
    rw [j_AckBookModel_persists, if_neg (by decide)]
    simp (disch := omega) only [e_le, oi_31_18, oi_31_19, s_greater, y_cI, or_31_6, e_mu, nI_add, oln_34, fa, fb, op_31_24, op_31_26, or_31_7]
    have ebd : (3 : Int32) * (σ.1 31 18 / 8 + (if σ.1 31 19 ≤ 1 then 1 else σ.1 31 19) + 25) = bdW (fun f => σ.1 31 (18 + f)) := by
      unfold bdW
      have e1 : (if σ.1 31 19 ≤ 1 then 1 else σ.1 31 19) = (if σ.1 31 19 < 1 then 1 else σ.1 31 19) := by
        by_cases w : σ.1 31 19 < 1
        · rw [if_pos w, if_pos (Int32.le_of_lt w)]
        · rw [if_neg w]
          by_cases w2 : σ.1 31 19 ≤ 1
          · rw [if_pos w2]
            exact Int32.le_antisymm (Int32.not_lt.mp w) w2
          · rw [if_neg w2]
      rw [e1]
    rw [ebd]
    by_cases hbi : b ≤ i
    · rw [if_pos hbi]
      have hyA : y = 1 ↔ hsA ft a b = true := by
        rw [hsA_iff, hyi]
        exact ⟨fun ⟨j, h1, h2, h3, h4⟩ => ⟨j, h1, h3, h4⟩, fun ⟨j, h1, h2, h3⟩ => ⟨j, h1, by omega, h2, h3⟩⟩
      show pW B X τ n c s _ (pQ σ (decide (bdW (fun f => σ.1 31 (18 + f)) < D 2 b - D 2 a) && !hsA ft a b))
      rcases hy with rfl | rfl
      · rw [if_pos rfl]
        have : hsA ft a b = false := Bool.eq_false_iff.mpr (fun w => absurd (hyA.mpr w) (by decide))
        rw [this]
        by_cases w : bdW (fun f => σ.1 31 (18 + f)) < D 2 b - D 2 a
        · rw [if_pos w, decide_eq_true w]
          refine pW.ret ⟨rfl, (fL.I (by omega)).trans (fL.I (by omega)), ?_⟩
          rw [if_pos (by decide)]
          unfold mq
          simp only [i11]
          rfl
        · rw [if_neg w, decide_eq_false w]
          exact pW.ret ⟨rfl, fL.refl σ, by rw [if_neg (by decide)]⟩
      · rw [if_neg (by decide), hyA.mp rfl]
        refine pW.ret ⟨rfl, fL.refl σ, ?_⟩
        rw [if_neg]
        rw [Bool.not_true, Bool.and_false]
        decide
    · rw [if_neg hbi]
      have f35 := (hS.2.1 i (by omega)).2
      simp (disch := omega) only [oln_35, f35, nI_1]
      have key : ∀ y' : Int32, (y' = 0 ∨ y' = 1) → (y' = 1 ↔ (y = 1 ∨ ft i = 1)) → pW B X τ n c s (j_AckBookModel_persists F X N 1 (some (B + 31)) (nI k) (nI a) (nI b) y' (nI (i + 1)) (o_w B X τ σ n c s)) (pQ σ (cutB D ft (bdW (fun f => σ.1 31 (18 + f))) (some a, some b))) := fun y' h1 h2 => ih (i + 1) y' (by omega) (by omega) h1 (h2.trans (by
        rw [hyi]
        constructor
        · rintro (⟨j, z1, z2, z3, z4⟩ | z)
          · exact ⟨j, z1, by omega, z3, z4⟩
          · refine ⟨i, ?_, by omega, by omega, z⟩
            rcases Nat.lt_or_ge a i with w | w
            · exact w
            · obtain rfl : a = i := by omega
              exact absurd z hf
        · rintro ⟨j, z1, z2, z3, z4⟩
          rcases Nat.lt_or_ge j i with w | w
          · exact Or.inl ⟨j, z1, w, z3, z4⟩
          · obtain rfl : j = i := by omega
            exact Or.inr z4))
      rcases hy with rfl | rfl
      · rw [if_pos rfl]
        by_cases w : ft i = 1
        · rw [if_pos w]
          exact key 1 (Or.inr rfl) ⟨fun _ => Or.inr w, fun _ => rfl⟩
        · rw [if_neg w]
          exact key 0 (Or.inl rfl) ⟨fun z => absurd z (by decide), fun z => z.elim (fun z => absurd z (by decide)) (fun z => absurd z w)⟩
      · rw [if_neg (by decide)]
        exact key 1 (Or.inr rfl) ⟨fun _ => Or.inl rfl, fun _ => rfl⟩
/-- persists, no sample yet -/
theorem n_perA {t0 : Nat} {l : List Nat} (hk : k < 3) (hl : fl2 σ k m t0 l) (h4 : σ.1 31 22 < 0) : ∀ (N : Nat) (l1 l2 : List Nat) (x6 : Int32), l = l1 ++ l2 → pW B X τ n c s (j_AckBookModel_persists F X N 0 (some (B + 31)) (nI k) (-1) (-1) (nI (t0 + l1.length)) x6 (o_w B X τ σ n c s)) (pQ σ false) := by
  intro N
  induction N with
  | zero => exact fun _ _ _ _ => pW.none
  | succ N ih =>
    intro l1 l2 x6 hz
    have h43 := hl.1
    have hle := hl.2.1
    rw [hz, List.length_append] at hle h43
    rw [j_AckBookModel_persists, if_pos rfl]
    simp (disch := omega) only [or_31_16, e_2k1, oln_43, h43, e_le]
    cases l2 with
    | nil =>
      rw [if_pos (by simp), if_neg (by decide)]
      exact pW.ret ⟨rfl, fL.refl σ, rfl⟩
    | cons a t =>
      rw [List.length_cons] at hle
      rw [hz] at hl
      have h42 := hl.at
      rw [if_neg (by rw [List.length_cons]; omega)]
      simp (disch := omega) only [or_31_15, e_2k1, e_mu, nI_add, oln_42, h42.1, oi_31_22]
      rw [if_pos h4, nI_1]
      have := ih (l1 ++ [a]) t 0 (by rw [hz, List.append_assoc]; rfl)
      rw [List.length_append] at this
      exact this
/-- persists, with a sample -/
theorem n_perB {t0 : Nat} {l : List Nat} (hk : k < 3) (hS : mS σ k m D ft q lt ga ds) (hl : fl2 σ k m t0 l) (hf : ∀ a, a ∈ l → ¬ ft a = 1) (h4 : ¬ σ.1 31 22 < 0) : ∀ (N : Nat) (l1 l2 : List Nat) (x6 : Int32), l = l1 ++ l2 → pW B X τ n c s (j_AckBookModel_persists F X N 0 (some (B + 31)) (nI k) (cdN (l1.foldl (ctF D (σ.1 31 22)) (none, none)).1) (cdN (l1.foldl (ctF D (σ.1 31 22)) (none, none)).2) (nI (t0 + l1.length)) x6 (o_w B X τ σ n c s)) (pQ σ (cutB D ft (bdW (fun f => σ.1 31 (18 + f))) (l.foldl (ctF D (σ.1 31 22)) (none, none)))) := by
  have hm := hS.1.2.1
  intro N
  induction N with
  | zero => exact fun _ _ _ _ => pW.none
  | succ N ih =>
    intro l1 l2 x6 hz
    have hlm : ∀ a, a ∈ l → a < m := fun a ha => by
      obtain ⟨j, hj⟩ := List.getElem?_of_mem ha
      exact (hl.2.2 j a hj).2
    have hmem := ctF_mem (D := D) (since := σ.1 31 22) (l2 := l) l1 (none, none) (fun a ha => by rcases ha with ha | ha <;> cases ha) (fun a ha => by rw [hz]; exact List.mem_append.mpr (Or.inl ha))
    have h43 := hl.1
    have hle := hl.2.1
    rw [hz, List.length_append] at hle h43
    rw [j_AckBookModel_persists, if_pos rfl]
    simp (disch := omega) only [or_31_16, e_2k1, oln_43, h43, e_le]
    cases l2 with
    | nil =>
      rw [if_pos (by simp)]
      have hz' : l = l1 := by rw [hz, List.append_nil]
      rw [hz'] at hf hlm ⊢
      rw [hz'] at hmem
      generalize hx : l1.foldl (ctF D (σ.1 31 22)) (none, none) = x at hmem
      have hboth := ctF_both (D := D) (since := σ.1 31 22) l1 (none, none) ⟨fun _ => rfl, fun _ => rfl⟩
      rw [hx] at hboth
      obtain ⟨x1, x2⟩ := x
      cases x1 with
      | none =>
        rw [if_neg (show ¬ 0 ≤ cdN none by decide)]
        have e : cutB D ft (bdW (fun f => σ.1 31 (18 + f))) (none, x2) = false := rfl
        rw [e]
        exact pW.ret ⟨rfl, fL.refl σ, rfl⟩
      | some a =>
        cases x2 with
        | none => exact absurd (hboth.mpr rfl) (fun z => by cases z)
        | some b =>
          have ha := hmem a (Or.inl rfl)
          have hb := hmem b (Or.inr rfl)
          have ham := hlm a ha
          rw [if_pos (show 0 ≤ cdN (some a) from Int32.not_lt.mp (nI_pos (by omega)))]
          exact n_per1 hk hS ham (hlm b hb) (hf a ha) N a 0 (Nat.le_refl _) (Or.inr rfl) (Or.inl rfl) ⟨fun z => absurd z (by decide), fun ⟨j, z1, z2, _⟩ => absurd z2 (by omega)⟩
    | cons a t =>
      rw [List.length_cons] at hle
      rw [hz] at hl
      have h42 := hl.at
      rw [← hz] at hl
      have ham := h42.2
      obtain ⟨-, f34, f36, -, -⟩ := (hS.2.1 a ham).1
      rw [if_neg (by rw [List.length_cons]; omega)]
      simp (disch := omega) only [or_31_15, e_2k1, e_mu, nI_add, oln_42, h42.1, oi_31_22, or_31_8, oln_36, f36, or_31_6, oln_34, f34, nI_1]
      rw [if_neg h4]
      have go := ih (l1 ++ [a]) t 0 (by rw [hz, List.append_assoc]; rfl)
      rw [List.length_append, List.foldl_append, List.foldl_cons, List.foldl_nil] at go
      have go : pW B X τ n c s (j_AckBookModel_persists F X N 0 (some (B + 31)) (nI k) (cdN (ctF D (σ.1 31 22) (l1.foldl (ctF D (σ.1 31 22)) (none, none)) a).1) (cdN (ctF D (σ.1 31 22) (l1.foldl (ctF D (σ.1 31 22)) (none, none)) a).2) (nI (t0 + l1.length + 1)) 0 (o_w B X τ σ n c s)) (pQ σ (cutB D ft (bdW (fun f => σ.1 31 (18 + f))) (l.foldl (ctF D (σ.1 31 22)) (none, none)))) := go
      generalize l1.foldl (ctF D (σ.1 31 22)) (none, none) = x at go hmem
      unfold ctF at go
      by_cases h3 : D 3 a = 0
      · rw [if_pos h3]
        rw [if_neg (fun z => z.1 h3)] at go
        exact go
      · rw [if_neg h3]
        by_cases h2 : σ.1 31 22 < D 2 a
        · rw [if_pos h2]
          rw [if_pos ⟨h3, h2⟩] at go
          obtain ⟨x1, x2⟩ := x
          cases x1 with
          | none =>
            rw [if_neg (show ¬ 0 ≤ cdN none by decide)]
            exact go
          | some b =>
            have hb := hlm b (hmem b (Or.inl rfl))
            rw [if_pos (show 0 ≤ cdN (some b) from Int32.not_lt.mp (nI_pos (by omega)))]
            exact go
        · rw [if_neg h2]
          rw [if_neg (fun z => h2 z.2)] at go
          exact go
/-- persists as a whole -/
theorem n_per {t0 : Nat} {l : List Nat} (hk : k < 3) (hS : mS σ k m D ft q lt ga ds) (hl : fl2 σ k m t0 l) (hf : ∀ a, a ∈ l → ¬ ft a = 1) (h4 : nn (σ.1 31 22)) : pW B X τ n c s (f_AckBookModel_persists F X (some (B + 31)) (nI k) (nI t0) (o_w B X τ σ n c s)) (fun v σ' => v = none ∧ fL σ σ' ∧ mq σ' = fwC D ft (fun f => σ.1 31 (18 + f)) l (mq σ)) := by
  unfold f_AckBookModel_persists fwC
  by_cases w : σ.1 31 22 < 0
  · refine (n_perA (B := B) (X := X) (F := F) (τ := τ) (n := n) (c := c) (s := s) hk hl w F [] l 0 rfl).mono fun v σ' ⟨z1, z2, z3⟩ => ⟨z1, z2, ?_⟩
    rw [h4.neg] at w
    have z3 : mq σ' = mq σ := z3
    rw [z3]
    exact (if_neg (fun z => z.1 w)).symm
  · refine (n_perB (B := B) (X := X) (F := F) (τ := τ) (n := n) (c := c) (s := s) hk hS hl hf w F [] l 0 rfl).mono fun v σ' ⟨z1, z2, z3⟩ => ⟨z1, z2, ?_⟩
    have w' : ¬ σ.1 31 22 = -1 := fun z => w (by rw [z]; decide)
    rw [z3]
    by_cases z : cutB D ft (bdW (fun f => σ.1 31 (18 + f))) (l.foldl (ctF D (σ.1 31 22)) (none, none)) = true
    · rw [if_pos z, if_pos ⟨w', z⟩]
    · rw [if_neg z, if_neg (fun y => z y.2)]
/-- the reference's walk over those found lost, the window, persists -/
theorem n_los1 {t0 : Nat} {l : List Nat} {now : Int32} (hk : k < 3) (hS : mS σ k m D ft q lt ga ds) (hl : fl2 σ k m t0 l) (hf : ∀ a, a ∈ l → ¬ ft a = 1) (h4 : nn (σ.1 31 22)) (hr : nn (mq σ).2.2) (h1 : σ.1 31 1 = now) : ∀ (N : Nat) (l1 l2 : List Nat) (x3 y : Int32), l = l1 ++ l2 → (y = 0 ∨ y = 1) → (y = 1 ↔ ∃ a, a ∈ l1 ∧ D 4 a ≠ 0 ∧ ((mq σ).2.2 = -1 ∨ (mq σ).2.2 < D 2 a)) → pW B X τ n c s (j_AckBookModel_losses F X N 1 (some (B + 31)) (nI k) (nI t0) x3 y (nI (t0 + l1.length)) (o_w B X τ σ n c s)) (fun v σ' => v = none ∧ fL σ σ' ∧ mq σ' = fwX D ft (fun f => σ.1 31 (18 + f)) now l (mq σ)) := by
  have hm := hS.1.2.1
  intro N
  induction N with
  | zero => exact fun _ _ _ _ _ _ _ => pW.none
  | succ N ih =>
    intro l1 l2 x3 y hz hy hyi
    have h43 := hl.1
    have hle := hl.2.1
    rw [hz, List.length_append] at hle h43
    rw [j_AckBookModel_losses, if_neg (by decide)]
    simp (disch := omega) only [or_31_16, e_2k1, oln_43, h43, e_le]
    cases l2 with
    | nil =>
      rw [if_pos (by simp)]
      have hz' : l = l1 := by rw [hz, List.append_nil]
      have per : ∀ σ1, fL σ σ1 → mq σ1 = fwL D now l (mq σ) → pW B X τ n c s (q_AckBookModel_losses_263 F X (j_AckBookModel_losses F X N) (some (B + 31)) (nI k) (nI t0) (o_w B X τ σ1 n c s)) (fun v σ' => v = none ∧ fL σ σ' ∧ mq σ' = fwX D ft (fun f => σ.1 31 (18 + f)) now l (mq σ)) := fun σ1 g1 q1 => by
        have e31 : ∀ f, f < 24 → σ1.1 31 f = σ.1 31 f := fun f hf => g1.2 31 f (by omega)
        have eo : ∀ o f, o ≠ 31 → σ1.1 o f = σ.1 o f := fun o f ho => g1.2 o f (fun z => ho z.1)
        unfold q_AckBookModel_losses_263
        rw [ot_31]
        refine pW.cV (n_per (B := B) (X := X) (F := F) (τ := τ) (n := n) (c := c) (s := s) (t0 := t0) (l := l) hk (g1.ms hS) ⟨(eo _ _ (by decide)).trans hl.1, hl.2.1, fun j a h => ⟨(eo _ _ (by decide)).trans (hl.2.2 j a h).1, (hl.2.2 j a h).2⟩⟩ hf (by rw [e31 22 (by omega)]; exact h4)) ?_
        rintro σ2 ⟨-, z2, z3⟩
        refine pW.ret ⟨rfl, g1.trans z2, ?_⟩
        rw [z3, q1, show (fun f => σ1.1 31 (18 + f)) = (fun f => σ1.1 31 (18 + f)) from rfl]
        unfold fwX
        rw [fwC_W (fun f hf => e31 (18 + f) (by omega))]
      rw [← hz'] at hyi
      simp (disch := omega) only [oi_31_1, op_31_26, oi_31_24, op_31_25, oi_31_25, s_greater, y_cI, op_31_24]
      rcases hy with rfl | rfl
      · rw [if_pos rfl]
        refine per σ (fL.refl σ) ?_
        unfold fwL
        rw [if_neg (fun z => absurd (hyi.mpr z) (by decide))]
      · rw [if_neg (by decide)]
        refine per _ (((fL.I (by omega)).trans (fL.I (by omega))).trans (fL.I (by omega))) ?_
        unfold fwL
        rw [if_pos (hyi.mp rfl)]
        have e1 : ∀ x : Int32, (if x ≤ 2400 then 2400 else x) = (if x < 2400 then 2400 else x) := fun x => by
          by_cases w : x < 2400
          · rw [if_pos w, if_pos (Int32.le_of_lt w)]
          · rw [if_neg w]
            by_cases w2 : x ≤ 2400
            · rw [if_pos w2]
              exact Int32.le_antisymm (Int32.not_lt.mp w) w2
            · rw [if_neg w2]
        unfold mq
        simp only [i11]
        rw [← h1]
        simp [e1]
    | cons a t =>
      rw [List.length_cons] at hle
      have h42 := (show fl2 σ k m t0 (l1 ++ a :: t) from hz ▸ hl).at
      have ham := h42.2
      obtain ⟨-, -, -, f37, -⟩ := (hS.2.1 a ham).1
      have e2 := n_behindX (B := B) (X := X) (F := F) (τ := τ) (n := n) (c := c) (s := s) hk hS ham hr
      rw [if_neg (by rw [List.length_cons]; omega)]
      simp (disch := omega) only [or_31_15, e_2k1, e_mu, nI_add, oln_42, h42.1, or_31_9, oln_37, f37, ot_31, e2, y_cI, nI_1]
      have go := fun (y' : Int32) h1 h2 => ih (l1 ++ [a]) t 0 y' (by rw [hz, List.append_assoc]; rfl) h1 h2
      have key : ∀ y' : Int32, (y' = 0 ∨ y' = 1) → (y' = 1 ↔ (y = 1 ∨ (D 4 a ≠ 0 ∧ ((mq σ).2.2 = -1 ∨ (mq σ).2.2 < D 2 a)))) → pW B X τ n c s (j_AckBookModel_losses F X N 1 (some (B + 31)) (nI k) (nI t0) 0 y' (nI (t0 + l1.length + 1)) (o_w B X τ σ n c s)) (fun v σ' => v = none ∧ fL σ σ' ∧ mq σ' = fwX D ft (fun f => σ.1 31 (18 + f)) now l (mq σ)) := fun y' h1 h2 => by
        have := go y' h1 (h2.trans (by
          rw [hyi]
          constructor
          · rintro (⟨b, z1, z2⟩ | z)
            · exact ⟨b, List.mem_append.mpr (Or.inl z1), z2⟩
            · exact ⟨a, List.mem_append.mpr (Or.inr (by simp)), z⟩
          · rintro ⟨b, z1, z2⟩
            rcases List.mem_append.mp z1 with z1 | z1
            · exact Or.inl ⟨b, z1, z2⟩
            · rw [List.mem_singleton.mp z1] at z2
              exact Or.inr z2))
        rw [List.length_append] at this
        exact this
      rcases hy with rfl | rfl
      · rw [if_pos rfl]
        by_cases h4' : D 4 a = 0
        · rw [if_pos h4']
          exact key 0 (Or.inl rfl) ⟨fun z => absurd z (by decide), fun z => z.elim (fun z => absurd z (by decide)) (fun z => absurd h4' z.1)⟩
        · rw [if_neg h4']
          by_cases h6 : (mq σ).2.2 = -1 ∨ (mq σ).2.2 < D 2 a
          · rw [if_pos h6, if_neg (by decide)]
            exact key 1 (Or.inr rfl) ⟨fun _ => Or.inr ⟨h4', h6⟩, fun _ => rfl⟩
          · rw [if_neg h6, if_pos rfl]
            exact key 0 (Or.inl rfl) ⟨fun z => absurd z (by decide), fun z => z.elim (fun z => absurd z (by decide)) (fun z => absurd z.2 h6)⟩
      · rw [if_neg (by decide)]
        exact key 1 (Or.inr rfl) ⟨fun _ => Or.inl rfl, fun _ => rfl⟩
end KE
