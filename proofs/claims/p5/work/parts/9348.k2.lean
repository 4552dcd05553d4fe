/-! The class's flow, to the number. -/
section KB
variable {B X F : Nat} {τ : zK} {n c s : Nat} {σ σ' : zS} {k m a : Nat} {P : Nat → Nat} {D : Nat → Nat → Int32} {ft : Nat → Int32} {q : Nat → List Nat} {S : Nat → Int32}
def fq (σ : zS) : Int32 × Int32 × Int32 := (σ.1 30 1, σ.1 30 2, σ.1 30 3)
theorem d_leaveX (hP : dP τ σ P m D ft) (ha : a < m) : ∃ σ', f_AckBook_Flow_leave F X (some (B + 30)) (some (B + P a)) (o_w B X τ σ n c s) = some (.inl none, o_w B X τ σ' n c s) ∧ cG σ σ' ∧ fq σ' = fq σ ∧ σ'.1 30 0 = σ.1 30 0 - cz D a := by
  have hpk := (hP a ha).1.1
  have f4 : σ.1 (P a) 4 = D 4 a := (hP a ha).2.1 4 (by omega) (by omega)
  have f1 : σ.1 (P a) 1 = D 1 a := (hP a ha).2.1 1 (by omega) (by omega)
  unfold f_AckBook_Flow_leave
  simp only [d_gI hpk 4 (by omega), d_gI hpk 1 (by omega), oi_30_0, op_30_0, f4, f1]
  unfold cz
  by_cases h : D 4 a = 0
  · rw [if_pos h, if_pos h]
    exact ⟨σ, rfl, cG.refl σ, rfl, by rw [Int32.sub_zero]⟩
  · rw [if_neg h, if_neg h]
    refine ⟨_, rfl, cG.I, ?_, by rw [i11, if_pos ⟨rfl, rfl⟩]⟩
    unfold fq
    rw [i11, if_neg (by omega), i11, if_neg (by omega), i11, if_neg (by omega)]
theorem d_afterX (hP : dP τ σ P m D ft) (ha : a < m) : f_AckBook_Flow_isAfterRecovery F X (some (B + 30)) (some (B + P a)) (o_w B X τ σ n c s) = some (.inl (some (.int (if (fq σ).2.2 = -1 ∨ (fq σ).2.2 < D 2 a then 1 else 0))), o_w B X τ σ n c s) := by
  have hpk := (hP a ha).1.1
  have f2 : σ.1 (P a) 2 = D 2 a := (hP a ha).2.1 2 (by omega) (by omega)
  unfold f_AckBook_Flow_isAfterRecovery
  simp only [d_gI hpk 2 (by omega), oi_30_3, f2]
  show _ = (some (.inl (some (.int (if σ.1 30 3 = -1 ∨ σ.1 30 3 < D 2 a then 1 else 0))), o_w B X τ σ n c s) : zR)
  by_cases h : σ.1 30 3 = -1
  · rw [if_pos h, if_pos (Or.inl h)]
  · rw [if_neg h]
    by_cases h2 : D 2 a ≤ σ.1 30 3
    · rw [if_pos h2, if_neg (fun z => z.elim h (Int32.not_lt.mpr h2))]
    · rw [if_neg h2, if_pos (Or.inr (Int32.not_le.mp h2))]
theorem d_growX (x : Int32) (hw : ¬ σ.1 30 1 ≤ 0) : ∃ σ', f_AckBook_Flow_grow F X (some (B + 30)) x (o_w B X τ σ n c s) = some (.inl none, o_w B X τ σ' n c s) ∧ cG σ σ' ∧ fq σ' = (if (fq σ).2.1 = -1 ∨ (fq σ).1 < (fq σ).2.1 then (fq σ).1 + x else (fq σ).1 + 1200 * x / (fq σ).1, (fq σ).2.1, (fq σ).2.2) ∧ σ'.1 30 0 = σ.1 30 0 := by
  have h0 : ¬ σ.1 30 1 = 0 := fun z => hw (by rw [z]; decide)
  have key : ∀ y : Int32, cG σ (o_I σ 30 1 y) ∧ fq (o_I σ 30 1 y) = (y, σ.1 30 2, σ.1 30 3) ∧ (o_I σ 30 1 y).1 30 0 = σ.1 30 0 := fun y => by
    refine ⟨cG.I, ?_, by rw [i11, if_neg (by omega)]⟩
    unfold fq
    rw [i11, if_pos ⟨rfl, rfl⟩, i11, if_neg (by omega), i11, if_neg (by omega)]
  unfold f_AckBook_Flow_grow
  simp only [oi_30_2, oi_30_1, op_30_1, q_AckBook_Flow_grow_19, z_nz, if_neg h0, if_neg hw]
  show ∃ σ', _ ∧ _ ∧ fq σ' = (if σ.1 30 2 = -1 ∨ σ.1 30 1 < σ.1 30 2 then σ.1 30 1 + x else σ.1 30 1 + 1200 * x / σ.1 30 1, σ.1 30 2, σ.1 30 3) ∧ _
  by_cases h : σ.1 30 2 = -1
  · rw [if_pos h, if_pos (Or.inl h)]
    exact ⟨_, rfl, key _⟩
  · rw [if_neg h]
    by_cases h2 : σ.1 30 2 ≤ σ.1 30 1
    · rw [if_pos h2, if_neg (fun z => z.elim h (Int32.not_lt.mpr h2))]
      exact ⟨_, rfl, key _⟩
    · rw [if_neg h2, if_pos (Or.inr (Int32.not_le.mp h2))]
      exact ⟨_, rfl, key _⟩
theorem d_leaveAckX : ∀ (N : Nat) (l : List Nat) (σ : zS) (x : Nat), dP τ σ P m D ft → lnk σ P l → (∀ a, a ∈ l → a < m) → (∀ l1 l2, l = l1 ++ l2 → ¬ (l1.foldl (fwA D) (fq σ)).1 ≤ 0) → pW B X τ n c s (j_AckBook_Flow_leaveAcknowledged F X N (some (B + 30)) (nI x) (l.head?.map (fun a => B + P a)) (o_w B X τ σ n c s)) (fun v σ' => cG σ σ' ∧ v = some (.int (nI (x + l.length))) ∧ fq σ' = l.foldl (fwA D) (fq σ) ∧ σ'.1 30 0 = sb (cz D) l (σ.1 30 0)) := by
  intro N
  induction N with
  | zero => exact fun _ _ _ _ _ _ _ => pW.none
  | succ N ih =>
    intro l σ x hP hl hm hw
    rw [j_AckBook_Flow_leaveAcknowledged]
    cases l with
    | nil =>
      simp only [List.head?_nil, Option.map_none, if_true]
      exact pW.ret ⟨cG.refl σ, rfl, rfl, rfl⟩
    | cons a t =>
      have ha := hm a (by simp)
      have hpk := (hP a ha).1.1
      obtain ⟨σ1, e1, g1, q1, v1⟩ := d_leaveX (B := B) (X := X) (F := F) (n := n) (c := c) (s := s) hP ha
      have hP1 := g1.dp hP
      have e2 := d_afterX (B := B) (X := X) (F := F) (n := n) (c := c) (s := s) hP1 ha
      rw [q1] at e2
      have f4 : σ1.1 (P a) 4 = D 4 a := (hP1 a ha).2.1 4 (by omega) (by omega)
      have f5 : σ1.1 (P a) 5 = D 5 a := (hP1 a ha).2.1 5 (by omega) (by omega)
      have f1 : σ1.1 (P a) 1 = D 1 a := (hP1 a ha).2.1 1 (by omega) (by omega)
      have go : ∀ σ2, cG σ σ2 → fq σ2 = fwA D (fq σ) a → σ2.1 30 0 = σ.1 30 0 - cz D a → pW B X τ n c s (j_AckBook_Flow_leaveAcknowledged F X N (some (B + 30)) (nI (x + 1)) ((σ2.2.2 (P a) 7).map (B + ·)) (o_w B X τ σ2 n c s)) (fun v σ' => cG σ σ' ∧ v = some (.int (nI (x + (a :: t).length))) ∧ fq σ' = (a :: t).foldl (fwA D) (fq σ) ∧ σ'.1 30 0 = sb (cz D) (a :: t) (σ.1 30 0)) := by
        intro σ2 g2 q2 v2
        have hl2 := g2.lnk hl
        rw [hl2.next, map_BP]
        refine (ih t σ2 (x + 1) (g2.dp hP) hl2.tail (fun b hb => hm b (List.mem_cons_of_mem _ hb)) (fun l1 l2 hz => ?_)).mono fun v σ' ⟨z1, z2, z3, z4⟩ => ⟨g2.trans z1, ?_, ?_, ?_⟩
        · rw [q2]
          exact hw (a :: l1) l2 (by rw [hz]; rfl)
        · rw [z2, List.length_cons, show x + 1 + t.length = x + (t.length + 1) by omega]
        · rw [z3, q2]
          rfl
        · rw [z4, v2, sb_cons]
      have w0 : ¬ σ1.1 30 1 ≤ 0 := by
        have := hw [] (a :: t) rfl
        rw [← q1] at this
        exact this
      obtain ⟨σ2, e3, g3, q3, v3⟩ := d_growX (B := B) (X := X) (F := F) (τ := τ) (n := n) (c := c) (s := s) (D 1 a) w0
      simp only [List.head?_cons, Option.map_some, reduceCtorEq, if_false, ot_30, e1, y_cV, d_gI hpk 4 (by omega), d_gI hpk 5 (by omega), d_gI hpk 1 (by omega), f4, f5, f1, d_gR hpk, e2, y_cI, nI_1, e3]
      by_cases h4 : D 4 a = 0
      · rw [if_pos h4]
        exact go σ1 g1 (by rw [q1]; exact (if_neg (fun z => z.1 h4)).symm) v1
      · rw [if_neg h4]
        by_cases h5 : D 5 a = 0
        · rw [if_pos h5]
          exact go σ1 g1 (by rw [q1]; exact (if_neg (fun z => z.2.1 h5)).symm) v1
        · rw [if_neg h5]
          by_cases h6 : (fq σ).2.2 = -1 ∨ (fq σ).2.2 < D 2 a
          · rw [if_pos h6, if_neg (by decide)]
            refine go σ2 (g1.trans g3) ?_ (v3.trans v1)
            rw [q3, q1]
            exact (if_pos ⟨h4, h5, h6⟩).symm
          · rw [if_neg h6, if_pos rfl]
            exact go σ1 g1 (by rw [q1]; exact (if_neg (fun z => h6 z.2.2)).symm) v1
theorem d_leaveLostX (now : Int32) : ∀ (N : Nat) (l : List Nat) (σ : zS) (x : Int32), dP τ σ P m D ft → lnk σ P l → (∀ a, a ∈ l → a < m) → pW B X τ n c s (j_AckBook_Flow_leaveLost F X N (some (B + 30)) now x (l.head?.map (fun a => B + P a)) (o_w B X τ σ n c s)) (fun v σ' => cG σ σ' ∧ v = none ∧ σ'.1 30 0 = sb (cz D) l (σ.1 30 0) ∧ fq σ' = (if ¬ x = 0 ∨ ∃ a, a ∈ l ∧ D 4 a ≠ 0 ∧ ((fq σ).2.2 = -1 ∨ (fq σ).2.2 < D 2 a) then (if (fq σ).1 / 2 < 2400 then 2400 else (fq σ).1 / 2, (fq σ).1 / 2, now) else fq σ)) := by
  intro N
  induction N with
  | zero => exact fun _ _ _ _ _ _ => pW.none
  | succ N ih =>
    intro l σ x hP hl hm
    rw [j_AckBook_Flow_leaveLost]
    cases l with
    | nil =>
      simp only [List.head?_nil, Option.map_none, if_true, op_30_3, oi_30_1, op_30_2, oi_30_2, op_30_1]
      refine pW.ite (fun h => pW.ret ⟨cG.refl σ, rfl, rfl, ?_⟩) (fun h => pW.ret ⟨(cG.I.trans cG.I).trans cG.I, rfl, ?_, ?_⟩)
      · rw [if_neg]
        rintro (z | ⟨b, z, -⟩)
        · exact z h
        · cases z
      · simp only [i11]
        rfl
      · rw [if_pos (Or.inl h)]
        unfold fq
        simp only [i11]
        rfl
    | cons a t =>
      have ha := hm a (by simp)
      have hpk := (hP a ha).1.1
      obtain ⟨σ1, e1, g1, q1, v1⟩ := d_leaveX (B := B) (X := X) (F := F) (n := n) (c := c) (s := s) hP ha
      have hP1 := g1.dp hP
      have e2 := d_afterX (B := B) (X := X) (F := F) (n := n) (c := c) (s := s) hP1 ha
      rw [q1] at e2
      have f4 : σ1.1 (P a) 4 = D 4 a := (hP1 a ha).2.1 4 (by omega) (by omega)
      have hl2 := g1.lnk hl
      have go : ∀ y : Int32, (¬ y = 0 ↔ (¬ x = 0 ∨ (D 4 a ≠ 0 ∧ ((fq σ).2.2 = -1 ∨ (fq σ).2.2 < D 2 a)))) → pW B X τ n c s (j_AckBook_Flow_leaveLost F X N (some (B + 30)) now y (t.head?.map (fun a => B + P a)) (o_w B X τ σ1 n c s)) (fun v σ' => cG σ σ' ∧ v = none ∧ σ'.1 30 0 = sb (cz D) (a :: t) (σ.1 30 0) ∧ fq σ' = (if ¬ x = 0 ∨ ∃ b, b ∈ a :: t ∧ D 4 b ≠ 0 ∧ ((fq σ).2.2 = -1 ∨ (fq σ).2.2 < D 2 b) then (if (fq σ).1 / 2 < 2400 then 2400 else (fq σ).1 / 2, (fq σ).1 / 2, now) else fq σ)) := fun y hy => (ih t σ1 y hP1 hl2.tail (fun b hb => hm b (List.mem_cons_of_mem _ hb))).mono fun v σ' ⟨z1, z2, z3, z4⟩ => ⟨g1.trans z1, z2, by rw [z3, v1, sb_cons], by
        rw [z4, q1]
        by_cases w : ¬ x = 0 ∨ ∃ b, b ∈ a :: t ∧ D 4 b ≠ 0 ∧ ((fq σ).2.2 = -1 ∨ (fq σ).2.2 < D 2 b)
        · rw [if_pos w, if_pos]
          rcases w with w | ⟨b, w1, w2⟩
          · exact Or.inl (hy.mpr (Or.inl w))
          · rcases List.mem_cons.mp w1 with rfl | w1
            · exact Or.inl (hy.mpr (Or.inr w2))
            · exact Or.inr ⟨b, w1, w2⟩
        · rw [if_neg w, if_neg]
          rintro (z | ⟨b, z1, z2⟩)
          · rcases hy.mp z with z | z
            · exact w (Or.inl z)
            · exact w (Or.inr ⟨a, by simp, z⟩)
          · exact w (Or.inr ⟨b, List.mem_cons_of_mem _ z1, z2⟩)⟩
      simp only [List.head?_cons, Option.map_some, reduceCtorEq, if_false, ot_30, e1, y_cV, d_gI hpk 4 (by omega), f4, q_AckBook_Flow_leaveLost_41, q_AckBook_Flow_leaveLost_37, d_gR hpk, hl2.next, map_BP, e2, y_cI]
      by_cases hx : x = 0
      · rw [if_pos hx]
        by_cases h4 : D 4 a = 0
        · rw [if_pos h4]
          exact go 0 ⟨fun z => absurd rfl z, fun z => z.elim (fun z => absurd hx z) (fun z => absurd h4 z.1)⟩
        · rw [if_neg h4]
          by_cases h6 : (fq σ).2.2 = -1 ∨ (fq σ).2.2 < D 2 a
          · rw [if_pos h6, if_neg (by decide)]
            exact go 1 ⟨fun _ => Or.inr ⟨h4, h6⟩, fun _ => by decide⟩
          · rw [if_neg h6, if_pos rfl]
            exact go 0 ⟨fun z => absurd rfl z, fun z => z.elim (fun z => absurd hx z) (fun z => absurd z.2 h6)⟩
      · rw [if_neg hx]
        exact go 1 ⟨fun _ => Or.inl hx, fun _ => by decide⟩
theorem hsA_iff {a b : Nat} : hsA ft a b = true ↔ ∃ j, a + 1 ≤ j ∧ j < b ∧ ft j = 1 := by
  unfold hsA
  rw [List.any_eq_true]
  constructor
  · rintro ⟨j, h1, h2⟩
    have h2 := of_decide_eq_true h2
    exact ⟨j, h2.1, List.mem_range.mp h1, h2.2⟩
  · rintro ⟨j, h1, h2, h3⟩
    exact ⟨j, List.mem_range.mpr h2, decide_eq_true ⟨h1, h3⟩⟩
theorem d_hasAckJ {b : Nat} (hk : k < 3) (hS : cS τ σ k P m D ft q S) (hb : b ≤ m) : ∀ (N i : Nat), i ≤ 4096 → pW B X τ n c s (j_AckBook_Sent_hasAcknowledged F X N (some (B + (3 + 8 * k))) (nI b) (nI i) (o_w B X τ σ n c s)) (fun v σ' => σ' = σ ∧ ∃ y : Int32, v = some (.int y) ∧ (y = 0 ∨ y = 1) ∧ (y = 1 ↔ ∃ j, i ≤ j ∧ j < b ∧ ft j = 1)) := by
  have hm := hS.1.1.1.2
  intro N
  induction N with
  | zero => exact fun _ _ => pW.none
  | succ N ih =>
    intro i hi
    rw [j_AckBook_Sent_hasAcknowledged]
    simp (disch := omega) only [e_le, or_s3_2 hk, ot_s6 hk, c_size hk, y_cI, hS.1.1.1.1]
    refine pW.ite (fun h => pW.ret ⟨rfl, 0, rfl, Or.inl rfl, ?_⟩) (fun h => pW.ite (fun h2 => absurd h2 (by omega)) (fun h2 => ?_))
    · exact ⟨fun z => absurd z (by decide), fun ⟨j, h1, h2, _⟩ => absurd h (by omega)⟩
    · have him : i < m := by omega
      have hpk := (hS.1.2.2 i him).1.1
      have f6 := (hS.1.2.2 i him).2.2.1
      simp only [d_get hS.1.1 hk him, y_cRs, d_cast hpk, d_gI hpk 6 (by omega), f6, nI_1]
      refine pW.ite (fun h3 => pW.ret ⟨rfl, 1, rfl, Or.inr rfl, ⟨fun _ => ⟨i, Nat.le_refl _, by omega, h3⟩, fun _ => rfl⟩⟩) (fun h3 => (ih (i + 1) (by omega)).mono ?_)
      rintro v σ' ⟨z1, y, z2, z3, z4⟩
      refine ⟨z1, y, z2, z3, z4.trans ⟨fun ⟨j, h1, h2, h3⟩ => ⟨j, by omega, h2, h3⟩, fun ⟨j, h1, h2, h3'⟩ => ⟨j, ?_, h2, h3'⟩⟩⟩
      rcases Nat.lt_or_ge i j with w | w
      · exact w
      · obtain rfl : i = j := by omega
        exact absurd h3' h3
theorem map_isn {x : Option Nat} : (x.map (fun a => B + P a) = none) = (x = none) := by
  cases x with
  | none => simp
  | some a => simp
theorem d_cutJ {since bound : Int32} (hk : k < 3) (hS : cS τ σ k P m D ft q S) : ∀ (N : Nat) (l : List Nat) (x : Option Nat × Option Nat), lnk σ P l → (∀ a, a ∈ l → a < m) → (∀ a, (x.1 = some a ∨ x.2 = some a) → a < m) → pW B X τ n c s (j_AckBook_Sent_wasCutOff F X N (some (B + (3 + 8 * k))) since bound (x.1.map (fun a => B + P a)) (x.2.map (fun a => B + P a)) (l.head?.map (fun a => B + P a)) (o_w B X τ σ n c s)) (fun v σ' => σ' = σ ∧ v = some (.int (if cutB D ft bound (l.foldl (ctF D since) x) = true then 1 else 0))) := by
  have hm := hS.1.1.1.2
  intro N
  induction N with
  | zero => exact fun _ _ _ _ _ => pW.none
  | succ N ih =>
    intro l x hl hlm hx
    rw [j_AckBook_Sent_wasCutOff]
    cases l with
    | nil =>
      simp only [List.head?_nil, Option.map_none, if_true, map_isn, List.foldl_nil]
      obtain ⟨x1, x2⟩ := x
      cases x1 with
      | none =>
        rw [if_pos rfl]
        exact pW.ret ⟨rfl, rfl⟩
      | some a =>
        rw [if_neg (fun z => by cases z)]
        cases x2 with
        | none =>
          rw [if_pos rfl]
          exact pW.ret ⟨rfl, rfl⟩
        | some b =>
          rw [if_neg (fun z => by cases z)]
          have ha := hx a (Or.inl rfl)
          have hb := hx b (Or.inr rfl)
          have pa := hS.1.2.2 a ha
          have pb := hS.1.2.2 b hb
          have a2 := pa.2.1 2 (by omega) (by omega)
          have b2 := pb.2.1 2 (by omega) (by omega)
          simp only [Option.map_some, d_gI pa.1.1 2 (by omega), d_gI pb.1.1 2 (by omega), d_gI pa.1.1 0 (by omega), d_gI pb.1.1 0 (by omega), a2, b2, pa.1.2, pb.1.2, ot_s3 hk]
          show pW B X τ n c s _ (fun v σ' => σ' = σ ∧ v = some (.int (if (decide (bound < D 2 b - D 2 a) && !hsA ft a b) = true then 1 else 0)))
          refine pW.ite (fun h => pW.ret ⟨rfl, ?_⟩) (fun h => ?_)
          · rw [decide_eq_false (Int32.not_lt.mpr h)]
            rfl
          · rw [decide_eq_true (Int32.not_le.mp h)]
            unfold f_AckBook_Sent_hasAcknowledged
            simp only [nI_1]
            refine pW.cI (d_hasAckJ (B := B) (X := X) (F := F) (n := n) (c := c) (s := s) hk hS (by omega : b ≤ m) F (a + 1) (by omega)) ?_
            rintro v σ1 ⟨rfl, y, z1, z2, z3⟩
            have z1 := Option.some.inj z1
            injection z1 with z1
            subst z1
            rw [← hsA_iff] at z3
            rcases z2 with rfl | rfl
            · rw [if_pos rfl]
              have : hsA ft a b = false := Bool.eq_false_iff.mpr (fun w => absurd (z3.mpr w) (by decide))
              rw [this]
              exact pW.ret ⟨rfl, rfl⟩
            · rw [if_neg (by decide), z3.mp rfl]
              exact pW.ret ⟨rfl, rfl⟩
    | cons a t =>
      have ha := hlm a (by simp)
      have pa := hS.1.2.2 a ha
      have a2 := pa.2.1 2 (by omega) (by omega)
      have a3 := pa.2.1 3 (by omega) (by omega)
      simp only [List.head?_cons, Option.map_some, reduceCtorEq, if_false, d_gI pa.1.1 2 (by omega), d_gI pa.1.1 3 (by omega), a2, a3, d_gR pa.1.1, hl.next, map_BP, map_isn, q_AckBook_Sent_wasCutOff_43]
      show pW B X τ n c s _ (fun v σ' => σ' = σ ∧ v = some (.int (if cutB D ft bound (t.foldl (ctF D since) (ctF D since x a)) = true then 1 else 0)))
      have skip : ¬ (D 3 a ≠ 0 ∧ since < D 2 a) → pW B X τ n c s (j_AckBook_Sent_wasCutOff F X N (some (B + (3 + 8 * k))) since bound (x.1.map (fun a => B + P a)) (x.2.map (fun a => B + P a)) (t.head?.map (fun a => B + P a)) (o_w B X τ σ n c s)) (fun v σ' => σ' = σ ∧ v = some (.int (if cutB D ft bound (t.foldl (ctF D since) (ctF D since x a)) = true then 1 else 0))) := fun z => by
        rw [show ctF D since x a = x from if_neg z]
        exact ih t x hl.tail (fun b hb => hlm b (List.mem_cons_of_mem _ hb)) hx
      by_cases h3 : D 3 a = 0
      · rw [if_pos h3]
        exact skip (fun z => z.1 h3)
      · rw [if_neg h3]
        by_cases h2 : D 2 a ≤ since
        · rw [if_pos h2]
          exact skip (fun z => Int32.not_lt.mpr h2 z.2)
        · rw [if_neg h2]
          have hz : D 3 a ≠ 0 ∧ since < D 2 a := ⟨h3, Int32.not_le.mp h2⟩
          rw [show ctF D since x a = ((if x.1 = none then some a else x.1), some a) from if_pos hz]
          have go := fun y hy => ih t (y, some a) hl.tail (fun b hb => hlm b (List.mem_cons_of_mem _ hb)) hy
          by_cases h1 : x.1 = none
          · rw [if_pos h1, if_pos h1]
            exact go (some a) (fun b hb => by
              have : a = b := by rcases hb with hb | hb <;> exact Option.some.inj hb
              rw [← this]
              exact ha)
          · rw [if_neg h1, if_neg h1]
            exact go x.1 (fun b hb => by
              rcases hb with hb | hb
              · exact hx b (Or.inl hb)
              · have : a = b := Option.some.inj hb
                rw [← this]
                exact ha)
end KB
