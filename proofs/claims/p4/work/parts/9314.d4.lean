section DD
variable {B X F : Nat} {τ : zK} {n c s : Nat} {σ σ' : zS} {k m i : Nat} {P : Nat → Nat} {D : Nat → Nat → Int32} {ft : Nat → Int32} {q : Nat → List Nat} {S : Nat → Int32}
theorem lnk.next {a : Nat} {t : List Nat} (h : lnk σ P (a :: t)) : σ.2.2 (P a) 7 = t.head?.map P := by
  cases t with
  | nil => exact h
  | cons b u => exact h.1
theorem map_BP (l : List Nat) : (l.head?.map P).map (B + ·) = l.head?.map (fun a => B + P a) := by cases l <;> rfl
/-- only the flow may differ -/
def cG (σ σ' : zS) : Prop := σ'.2 = σ.2 ∧ ∀ o, o ≠ 30 → σ'.1 o = σ.1 o
theorem cG.refl (σ : zS) : cG σ σ := ⟨rfl, fun _ _ => rfl⟩
theorem cG.trans {a b d : zS} (h1 : cG a b) (h2 : cG b d) : cG a d := ⟨h2.1.trans h1.1, fun o ho => (h2.2 o ho).trans (h1.2 o ho)⟩
theorem cG.I {f : Nat} {x : Int32} : cG σ (o_I σ 30 f x) := ⟨rfl, fun _ ho => i_fun_ne ho⟩
theorem cG.dp (h : cG σ σ') (hP : dP τ σ P m D ft) : dP τ σ' P m D ft := fun i hi => by
  obtain ⟨⟨a1, a2⟩, a3, a4, a5⟩ := hP i hi
  have := a1.1
  rw [h.2 _ (by omega), h.1]
  exact ⟨⟨a1, a2⟩, a3, a4, a5⟩
theorem cG.lnk (h : cG σ σ') {l : List Nat} (hl : lnk σ P l) : lnk σ' P l := hl.cong fun a _ => by rw [h.1]
theorem d_hasEl (hP : dP τ σ P m D ft) : ∀ (N : Nat) (l : List Nat), lnk σ P l → (∀ a, a ∈ l → a < m) → pW B X τ n c s (j_AckBook_hasEliciting F X N (l.head?.map (fun a => B + P a)) (o_w B X τ σ n c s)) (fun v σ' => σ' = σ ∧ v = some (.int (if ∃ a, a ∈ l ∧ D 3 a ≠ 0 then 1 else 0))) := by
  intro N
  induction N with
  | zero => exact fun _ _ _ => pW.none
  | succ N ih =>
    intro l hl hm
    rw [j_AckBook_hasEliciting]
    cases l with
    | nil =>
      simp only [List.head?_nil, Option.map_none, if_true]
      exact pW.ret ⟨rfl, by rw [if_neg (by rintro ⟨a, h, -⟩; cases h)]⟩
    | cons a t =>
      obtain ⟨⟨hpk, -⟩, hD, -, -⟩ := hP a (hm a (by simp))
      have h3 : σ.1 (P a) 3 = D 3 a := hD 3 (by omega) (by omega)
      simp only [List.head?_cons, Option.map_some, reduceCtorEq, if_false, d_gI hpk 3 (by omega), d_gR hpk, h3, hl.next, map_BP]
      refine pW.ite (fun h0 => ?_) (fun h0 => pW.ret ⟨rfl, by rw [if_pos ⟨a, by simp, h0⟩]⟩)
      refine (ih t hl.tail (fun b hb => hm b (List.mem_cons_of_mem _ hb))).mono fun v σ' ⟨z1, z2⟩ => ⟨z1, ?_⟩
      rw [z2]
      by_cases e : ∃ b, b ∈ t ∧ D 3 b ≠ 0
      · obtain ⟨b, e1, e2⟩ := e
        rw [if_pos ⟨b, e1, e2⟩, if_pos ⟨b, List.mem_cons_of_mem _ e1, e2⟩]
      · rw [if_neg e, if_neg]
        rintro ⟨b, e1, e2⟩
        rcases List.mem_cons.mp e1 with rfl | e1
        · exact e2 h0
        · exact e ⟨b, e1, e2⟩
theorem d_leaveF {q0 : Nat} (hpk : o_pk τ q0) : ∃ σ', f_AckBook_Flow_leave F X (some (B + 30)) (some (B + q0)) (o_w B X τ σ n c s) = some (.inl none, o_w B X τ σ' n c s) ∧ cG σ σ' := by
  unfold f_AckBook_Flow_leave
  simp only [d_gI hpk 4 (by omega), d_gI hpk 1 (by omega), oi_30_0, op_30_0]
  split
  · exact ⟨σ, rfl, cG.refl σ⟩
  · exact ⟨_, rfl, cG.I⟩
theorem d_afterR {q0 : Nat} (hpk : o_pk τ q0) : ∃ v, f_AckBook_Flow_isAfterRecovery F X (some (B + 30)) (some (B + q0)) (o_w B X τ σ n c s) = some (.inl (some (.int v)), o_w B X τ σ n c s) := by
  unfold f_AckBook_Flow_isAfterRecovery
  simp only [d_gI hpk 2 (by omega), oi_30_3]
  (repeat' split) <;> exact ⟨_, rfl⟩
theorem d_growF (x : Int32) : pW B X τ n c s (f_AckBook_Flow_grow F X (some (B + 30)) x (o_w B X τ σ n c s)) (fun v σ' => v = none ∧ cG σ σ') := by
  unfold f_AckBook_Flow_grow
  simp only [oi_30_2, oi_30_1, op_30_1, q_AckBook_Flow_grow_19, z_nz]
  (repeat' refine pW.ite (fun _ => ?_) (fun _ => ?_)) <;> first | exact pW.none | exact pW.ret ⟨rfl, cG.I⟩ | exact pW.ret ⟨rfl, cG.refl _⟩
theorem pW.of {r : zR} {Q : Option Value → zS → Prop} {v : Option Value} {σ1 : zS} (h : r = some (.inl v, o_w B X τ σ1 n c s)) (hQ : Q v σ1) : pW B X τ n c s r Q := by
  rw [h]
  exact pW.ret hQ
theorem d_leaveAck : ∀ (N : Nat) (l : List Nat) (σ : zS) (x : Nat), dP τ σ P m D ft → lnk σ P l → (∀ a, a ∈ l → a < m) → pW B X τ n c s (j_AckBook_Flow_leaveAcknowledged F X N (some (B + 30)) (nI x) (l.head?.map (fun a => B + P a)) (o_w B X τ σ n c s)) (fun v σ' => cG σ σ' ∧ v = some (.int (nI (x + l.length)))) := by
  intro N
  induction N with
  | zero => exact fun _ _ _ _ _ _ => pW.none
  | succ N ih =>
    intro l σ x hP hl hm
    rw [j_AckBook_Flow_leaveAcknowledged]
    cases l with
    | nil =>
      simp only [List.head?_nil, Option.map_none, if_true]
      exact pW.ret ⟨cG.refl σ, rfl⟩
    | cons a t =>
      have hpk := (hP a (hm a (by simp))).1.1
      obtain ⟨σ1, e1, g1⟩ := d_leaveF (B := B) (X := X) (F := F) (n := n) (c := c) (s := s) (σ := σ) hpk
      obtain ⟨v, e2⟩ := d_afterR (B := B) (X := X) (F := F) (n := n) (c := c) (s := s) (σ := σ1) hpk
      have go : ∀ σ2, cG σ σ2 → pW B X τ n c s (j_AckBook_Flow_leaveAcknowledged F X N (some (B + 30)) (nI (x + 1)) ((σ2.2.2 (P a) 7).map (B + ·)) (o_w B X τ σ2 n c s)) (fun v σ' => cG σ σ' ∧ v = some (.int (nI (x + (a :: t).length)))) := by
        intro σ2 g2
        have hl2 := g2.lnk hl
        rw [hl2.next, map_BP]
        refine (ih t σ2 (x + 1) (g2.dp hP) hl2.tail (fun b hb => hm b (List.mem_cons_of_mem _ hb))).mono fun v σ' ⟨z1, z2⟩ => ⟨g2.trans z1, ?_⟩
        rw [z2, List.length_cons, show x + 1 + t.length = x + (t.length + 1) by omega]
      simp only [List.head?_cons, Option.map_some, reduceCtorEq, if_false, ot_30, e1, y_cV, d_gI hpk 4 (by omega), d_gI hpk 5 (by omega), d_gI hpk 1 (by omega), d_gR hpk, e2, y_cI, nI_1]
      refine pW.ite (fun _ => go σ1 g1) (fun _ => pW.ite (fun _ => go σ1 g1) (fun _ => pW.ite (fun _ => go σ1 g1) (fun _ => ?_)))
      refine pW.cV (d_growF _) fun σ2 ⟨_, g2⟩ => ?_
      simp only [d_gR hpk, nI_1]
      exact go σ2 (g1.trans g2)
theorem d_leaveLost (now : Int32) : ∀ (N : Nat) (l : List Nat) (σ : zS) (x : Int32), dP τ σ P m D ft → lnk σ P l → (∀ a, a ∈ l → a < m) → pW B X τ n c s (j_AckBook_Flow_leaveLost F X N (some (B + 30)) now x (l.head?.map (fun a => B + P a)) (o_w B X τ σ n c s)) (fun v σ' => cG σ σ' ∧ v = none) := by
  intro N
  induction N with
  | zero => exact fun _ _ _ _ _ _ => pW.none
  | succ N ih =>
    intro l σ x hP hl hm
    rw [j_AckBook_Flow_leaveLost]
    cases l with
    | nil =>
      simp only [List.head?_nil, Option.map_none, if_true, op_30_3, oi_30_1, op_30_2, oi_30_2, op_30_1]
      exact pW.ite (fun _ => pW.ret ⟨cG.refl σ, rfl⟩) (fun _ => pW.ret ⟨(cG.I.trans cG.I).trans cG.I, rfl⟩)
    | cons a t =>
      have hpk := (hP a (hm a (by simp))).1.1
      obtain ⟨σ1, e1, g1⟩ := d_leaveF (B := B) (X := X) (F := F) (n := n) (c := c) (s := s) (σ := σ) hpk
      obtain ⟨v, e2⟩ := d_afterR (B := B) (X := X) (F := F) (n := n) (c := c) (s := s) (σ := σ1) hpk
      have hl2 := g1.lnk hl
      have go : ∀ y, pW B X τ n c s (j_AckBook_Flow_leaveLost F X N (some (B + 30)) now y (t.head?.map (fun a => B + P a)) (o_w B X τ σ1 n c s)) (fun v σ' => cG σ σ' ∧ v = none) := fun y => (ih t σ1 y (g1.dp hP) hl2.tail (fun b hb => hm b (List.mem_cons_of_mem _ hb))).mono fun v σ' ⟨z1, z2⟩ => ⟨g1.trans z1, z2⟩
      simp only [List.head?_cons, Option.map_some, reduceCtorEq, if_false, ot_30, e1, y_cV, d_gI hpk 4 (by omega), q_AckBook_Flow_leaveLost_41, q_AckBook_Flow_leaveLost_37, d_gR hpk, hl2.next, map_BP, e2, y_cI]
      exact pW.ite (fun _ => pW.ite (fun _ => go 0) (fun _ => pW.ite (fun _ => go 0) (fun _ => go 1))) (fun _ => go 1)
theorem pW.rd {r : zR} (h : zV (o_w B X τ σ n c s) r) : pW B X τ n c s r (fun v σ' => σ' = σ) := fun o w' e => by
  obtain ⟨h1, v, h2⟩ := h o w' e
  exact ⟨v, σ, h2, h1, rfl⟩
end DD
