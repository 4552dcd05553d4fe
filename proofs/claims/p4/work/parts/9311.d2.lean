section DB
variable {B X F : Nat} {τ : zK} {n c s : Nat} {σ σ' : zS} {k m i : Nat} {P : Nat → Nat} {D : Nat → Nat → Int32} {ft : Nat → Int32} {q : Nat → List Nat} {S : Nat → Int32}
def dAp (σ : zS) (P : Nat → Nat) (ch : Nat) (l : List Nat) (i : Nat) : zS := match l.getLast? with
  | none => o_R (o_R σ ch 0 (some (P i))) ch 1 (some (P i))
  | some z => o_R (o_R σ (P z) 7 (some (P i))) ch 1 (some (P i))
theorem dAp.i1 (ch : Nat) (l : List Nat) : (dAp σ P ch l i).1 = σ.1 := by unfold dAp; split <;> rfl
theorem dAp.l1 (ch : Nat) (l : List Nat) : (dAp σ P ch l i).2.1 = σ.2.1 := by unfold dAp; split <;> rfl
theorem dAp.r1 {ch : Nat} {l : List Nat} {o f : Nat} (h1 : o ≠ ch) (h2 : ∀ a, a ∈ l → ¬ (o = P a ∧ f = 7)) : (dAp σ P ch l i).2.2 o f = σ.2.2 o f := by
  unfold dAp
  split
  · rw [r13, if_neg (fun w => h1 w.1), r13, if_neg (fun w => h1 w.1)]
  · rename_i z hz
    rw [r13, if_neg (fun w => h1 w.1), r13, if_neg (h2 z (List.mem_of_getLast? hz))]
theorem dAp.C {ch : Nat} {l : List Nat} (hC : dC σ P ch l) (hd : l.Nodup) (h56 : ch < 56) (hl : ∀ a, a ∈ l → 56 ≤ P a) (hi : 56 ≤ P i) (h1 : ∀ a, a ∈ l → P a ≠ P i) (h2 : ∀ a b, a ∈ l → b ∈ l → P a = P b → a = b) (h3 : σ.2.2 (P i) 7 = none) : dC (dAp σ P ch l i) P ch (l ++ [i]) := by
  unfold dAp
  cases hz : l.getLast? with
  | none =>
    have hl0 : l = [] := List.getLast?_eq_none_iff.mp hz
    subst hl0
    refine ⟨?_, fun _ => ?_, ?_⟩
    · rw [r13, if_neg (by omega), r13, if_pos ⟨rfl, rfl⟩]
      rfl
    · rw [r13, if_pos ⟨rfl, rfl⟩]
      rfl
    · show (o_R (o_R σ ch 0 (some (P i))) ch 1 (some (P i))).2.2 (P i) 7 = none
      rw [r13, if_neg (by omega), r13, if_neg (by omega)]
      exact h3
  | some z =>
    have hzm := List.mem_of_getLast? hz
    have hne : l ≠ [] := fun w => by rw [w] at hzm; cases hzm
    refine ⟨?_, fun _ => ?_, ?_⟩
    · have := hl z hzm
      rw [r13, if_neg (by omega), r13, if_neg (by omega), hC.1]
      cases l with
      | nil => exact absurd rfl hne
      | cons a t => rfl
    · rw [r13, if_pos ⟨rfl, rfl⟩]
      simp
    · refine lnk.cong (σ := o_R σ (P z) 7 (some (P i))) (fun a ha => ?_) (lnk.app hC.2.2 hd h1 h2 h3 hz)
      have : 56 ≤ P a := by
        rcases List.mem_append.mp ha with w | w
        · exact hl a w
        · rw [List.mem_singleton.mp w]; exact hi
      rw [r13, if_neg (by omega)]
theorem dC.cong {ch : Nat} {l : List Nat} (hC : dC σ P ch l) (h0 : σ'.2.2 ch = σ.2.2 ch) (h7 : ∀ a, a ∈ l → σ'.2.2 (P a) 7 = σ.2.2 (P a) 7) : dC σ' P ch l := ⟨by rw [h0]; exact hC.1, by rw [h0]; exact hC.2.1, hC.2.2.cong h7⟩
/-- one space of the class: packets sent, found acknowledged (0) or lost (1) and not told yet, the counts -/
def cS (τ : zK) (σ : zS) (k : Nat) (P : Nat → Nat) (m : Nat) (D : Nat → Nat → Int32) (ft : Nat → Int32) (q : Nat → List Nat) (S : Nat → Int32) : Prop := (dA τ σ P m k ∧ dI P m ∧ dP τ σ P m D ft) ∧ (∀ b, b < 2 → dC σ P (4 + b + 8 * k) (q b) ∧ (q b).Nodup ∧ ∀ a, a ∈ q b → a < m ∧ ft a = nI (b + 1)) ∧ ∀ f, 3 ≤ f → f ≤ 7 → σ.1 (3 + 8 * k) f = S f
/-- what the class's methods of one space may change -/
def cF (k : Nat) (P : Nat → Nat) (m : Nat) (σ σ' : zS) : Prop := σ'.2.1 = σ.2.1 ∧ ∀ o, o ≠ 3 + 8 * k → o ≠ 4 + 8 * k → o ≠ 5 + 8 * k → (∀ i, i < m → o ≠ P i) → σ'.1 o = σ.1 o ∧ σ'.2.2 o = σ.2.2 o
theorem cF.refl (k : Nat) (P : Nat → Nat) (m : Nat) (σ : zS) : cF k P m σ σ := ⟨rfl, fun _ _ _ _ _ => ⟨rfl, rfl⟩⟩
theorem cF.trans {a b d : zS} (h1 : cF k P m a b) (h2 : cF k P m b d) : cF k P m a d := ⟨h2.1.trans h1.1, fun o p1 p2 p3 p4 => ⟨(h2.2 o p1 p2 p3 p4).1.trans (h1.2 o p1 p2 p3 p4).1, (h2.2 o p1 p2 p3 p4).2.trans (h1.2 o p1 p2 p3 p4).2⟩⟩
theorem cF.I {o f : Nat} {x : Int32} (h : o = 3 + 8 * k ∨ ∃ i, i < m ∧ o = P i) : cF k P m σ (o_I σ o f x) := ⟨rfl, fun a p1 p2 p3 p4 => ⟨i_fun_ne (fun w => by
  rcases h with h | ⟨i, h1, h2⟩
  · exact p1 (w.trans h)
  · exact p4 i h1 (w.trans h2)), rfl⟩⟩
def rU (ft : Nat → Int32) (i : Nat) (x : Int32) : Nat → Int32 := fun j => if j = i then x else ft j
theorem d_end {b : Nat} (hk : k < 3) (hb : b < 2) (hS : cS τ σ k P m D ft q S) (hi : i < m) (h0 : ft i = 0) : ∃ σ', f_AckBook_Sent_end F X (some (B + (3 + 8 * k))) (some (B + P i)) (nI (b + 1)) (some (B + (4 + b + 8 * k))) (o_w B X τ σ n c s) = some (.inl none, o_w B X τ σ' n c s) ∧ cF k P m σ σ' ∧ cS τ σ' k P m D (rU ft i (nI (b + 1))) (fun b' => if b' = b then q b ++ [i] else q b') (rU (if D 3 i = 0 then S else rU S 4 (S 4 - 1)) 3 (S 3 - 1)) := by
  obtain ⟨⟨hA, hI, hP⟩, hQ, hSt⟩ := hS
  have hpk := (hP i hi).1.1
  have h56 : ∀ j, j < m → 56 ≤ P j := fun j hj => (hP j hj).1.1.1
  have hc : 4 + b + 8 * k = 4 + 8 * k ∨ 4 + b + 8 * k = 5 + 8 * k := by omega
  have hq0 : ∀ b', b' < 2 → ∀ a, a ∈ q b' → a < m ∧ a ≠ i := fun b' hb' a ha => ⟨((hQ b' hb').2.2 a ha).1, fun w => by
    have := ((hQ b' hb').2.2 a ha).2
    rw [w, h0] at this
    exact nI_ne0 (Nat.succ_pos b') (by omega) this.symm⟩
  have e1 : dC (o_I σ (P i) 6 (nI (b + 1))) P (4 + b + 8 * k) (q b) := (hQ b hb).1.cong rfl (fun _ _ => rfl)
  have ap := d_append (B := B) (X := X) (F := F) (τ := τ) (n := n) (c := c) (s := s) (i := i) (z := 0) hk hc e1 (fun a ha => (hP a (hq0 b hb a ha).1).1.1) hpk
  have ap : f_AckBook_Chain_append F X (some (B + (4 + b + 8 * k))) (some (B + P i)) (o_w B X τ (o_I σ (P i) 6 (nI (b + 1))) n c s) = some (.inl none, o_w B X τ (dAp (o_I σ (P i) 6 (nI (b + 1))) P (4 + b + 8 * k) (q b) i) n c s) := ap
  have nC := dAp.C e1 (hQ b hb).2.1 (by omega) (fun a ha => h56 a (hq0 b hb a ha).1) (h56 i hi) (fun a ha w => (hq0 b hb a ha).2 (hI a i (hq0 b hb a ha).1 hi w)) (fun a b' ha hb' w => hI a b' (hq0 b hb a ha).1 (hq0 b hb b' hb').1 w) ((hP i hi).2.2.2 h0)
  have r1 : ∀ o f, o ≠ 4 + b + 8 * k → (∀ a, a ∈ q b → ¬ (o = P a ∧ f = 7)) → (dAp (o_I σ (P i) 6 (nI (b + 1))) P (4 + b + 8 * k) (q b) i).2.2 o f = σ.2.2 o f := fun o f p1 p2 => dAp.r1 p1 p2
  have i1 : (dAp (o_I σ (P i) 6 (nI (b + 1))) P (4 + b + 8 * k) (q b) i).1 = (o_I σ (P i) 6 (nI (b + 1))).1 := dAp.i1 _ _
  have l1 : (dAp (o_I σ (P i) 6 (nI (b + 1))) P (4 + b + 8 * k) (q b) i).2.1 = σ.2.1 := dAp.l1 _ _
  generalize dAp (o_I σ (P i) 6 (nI (b + 1))) P (4 + b + 8 * k) (q b) i = σ2 at ap nC r1 i1 l1
  have s3 : σ2.1 (3 + 8 * k) 3 = S 3 := by
    rw [i1, i11, if_neg (fun w => by have := h56 i hi; omega)]
    exact hSt 3 (by omega) (by omega)
  have s4 : (o_I σ2 (3 + 8 * k) 3 (S 3 - 1)).1 (3 + 8 * k) 4 = S 4 := by
    rw [i11, if_neg (by omega), i1, i11, if_neg (fun w => by have := h56 i hi; omega)]
    exact hSt 4 (by omega) (by omega)
  have e3 : (o_I σ2 (3 + 8 * k) 3 (S 3 - 1)).1 (P i) 3 = D 3 i := by
    rw [i11, if_neg (fun w => by have := h56 i hi; omega), i1, i11, if_neg (by omega)]
    exact (hP i hi).2.1 3 (by omega) (by omega)
  have fin : ∀ σ3 : zS, σ3.2 = σ2.2 → (∀ o, o ≠ 3 + 8 * k → σ3.1 o = σ2.1 o) → (∀ f, 3 ≤ f → f ≤ 7 → σ3.1 (3 + 8 * k) f = (rU (if D 3 i = 0 then S else rU S 4 (S 4 - 1)) 3 (S 3 - 1)) f) → cF k P m σ σ3 ∧ cS τ σ3 k P m D (rU ft i (nI (b + 1))) (fun b' => if b' = b then q b ++ [i] else q b') (rU (if D 3 i = 0 then S else rU S 4 (S 4 - 1)) 3 (S 3 - 1)) := by
    intro σ3 g1 g2 g3
    have gI : ∀ o f, o ≠ 3 + 8 * k → ¬ (o = P i ∧ f = 6) → σ3.1 o f = σ.1 o f := fun o f p1 p2 => by rw [g2 o p1, i1, i11, if_neg p2]
    have gR : ∀ o f, o ≠ 4 + b + 8 * k → (∀ a, a ∈ q b → ¬ (o = P a ∧ f = 7)) → σ3.2.2 o f = σ.2.2 o f := fun o f p1 p2 => by rw [g1]; exact r1 o f p1 p2
    refine ⟨⟨by rw [g1]; exact l1, fun o p1 p2 p3 p4 => ⟨funext fun f => gI o f p1 (fun w => p4 i hi w.1), funext fun f => gR o f (by omega) (fun a ha w => p4 a (hq0 b hb a ha).1 w.1)⟩⟩, ⟨?_, hI, fun j hj => ?_⟩, fun b' hb' => ?_, g3⟩
    · refine ⟨⟨by rw [gI _ _ (by omega) (fun w => by have := h56 i hi; omega)]; exact hA.1.1, hA.1.2⟩, ?_⟩
      rcases hA.2 with h | ⟨e, cap, d1, d2, d3, d4, d5⟩
      · exact Or.inl ⟨h.1, by rw [gR _ _ (by omega) (fun a ha w => by have := h56 a (hq0 b hb a ha).1; omega)]; exact h.2⟩
      · refine Or.inr ⟨e, cap, by rw [gR _ _ (by omega) (fun a ha w => by have := h56 a (hq0 b hb a ha).1; omega)]; exact d1, d2, d3, d4, fun j hj => ?_⟩
        rw [gR e j (by have := d2.1; omega) (fun a ha w => ?_)]
        · exact d5 j hj
        · have z1 := (hP a (hq0 b hb a ha).1).1.1.2
          have z2 := d2.2
          rw [w.1, z1] at z2
          cases z2
    · obtain ⟨⟨a1, a2⟩, a3, a4, a5⟩ := hP j hj
      have := h56 j hj
      refine ⟨⟨a1, by rw [gI _ _ (by omega) (by omega)]; exact a2⟩, fun f f1 f2 => by rw [gI _ _ (by omega) (by omega)]; exact a3 f f1 f2, ?_, fun hz => ?_⟩
      · unfold rU
        by_cases w : j = i
        · rw [if_pos w, w, g2 _ (by have := h56 i hi; omega), i1, i11, if_pos ⟨rfl, rfl⟩]
        · rw [if_neg w, gI _ _ (by omega) (fun z => w (hI j i hj hi z.1))]
          exact a4
      · unfold rU at hz
        by_cases w : j = i
        · rw [if_pos w] at hz
          exact absurd hz (nI_ne0 (by omega) (by omega))
        · rw [if_neg w] at hz
          rw [gR _ _ (by omega) (fun a ha z => ?_)]
          · exact a5 hz
          · have := hI j a hj (hq0 b hb a ha).1 z.1
            subst this
            have z2 := ((hQ b hb).2.2 j ha).2
            rw [hz] at z2
            exact nI_ne0 (by omega) (by omega) z2.symm
    · by_cases w : b' = b
      · subst w
        simp only [if_true]
        refine ⟨nC.cong (by rw [g1]) (fun a _ => by rw [g1]), ?_, fun a ha => ?_⟩
        · refine List.nodup_append.mpr ⟨(hQ b' hb).2.1, by simp, fun a ha b'' hb'' => ?_⟩
          rw [List.mem_singleton.mp hb'']
          exact (hq0 b' hb a ha).2
        · rcases List.mem_append.mp ha with z | z
          · refine ⟨(hq0 b' hb a z).1, ?_⟩
            unfold rU
            rw [if_neg (hq0 b' hb a z).2]
            exact ((hQ b' hb).2.2 a z).2
          · rw [List.mem_singleton.mp z]
            exact ⟨hi, if_pos rfl⟩
      · simp only [if_neg w]
        have hne : 4 + b' + 8 * k ≠ 4 + b + 8 * k := by omega
        refine ⟨(hQ b' hb').1.cong (funext fun f => gR _ f hne (fun a ha z => by have := h56 a (hq0 b hb a ha).1; omega)) (fun a ha => gR _ _ (by have := h56 a (hq0 b' hb' a ha).1; omega) (fun a' ha' z => ?_)), (hQ b' hb').2.1, fun a ha => ⟨(hq0 b' hb' a ha).1, ?_⟩⟩
        · have z3 := hI a a' (hq0 b' hb' a ha).1 (hq0 b hb a' ha').1 z.1
          subst z3
          have z1 := ((hQ b hb).2.2 a ha').2
          have z2 := ((hQ b' hb').2.2 a ha).2
          rw [z1] at z2
          have := (nI_eq (by omega) (by omega)).mp z2
          omega
        · unfold rU
          rw [if_neg (hq0 b' hb' a ha).2]
          exact ((hQ b' hb').2.2 a ha).2
  unfold f_AckBook_Sent_end
  simp only [d_pI hpk 6 (by omega), c_chT hk hc, ap, y_cV, oi_s3_3 hk, s3, op_s3_3 hk, d_gI hpk 3 (by omega), e3]
  by_cases w : D 3 i = 0
  · rw [if_pos w]
    refine ⟨_, rfl, fin _ rfl (fun o ho => i_fun_ne ho) (fun f f1 f2 => ?_)⟩
    rw [if_pos w]
    unfold rU
    by_cases z : f = 3
    · rw [if_pos z, z, i11, if_pos ⟨rfl, rfl⟩]
    · rw [if_neg z, i11, if_neg (fun y => z y.2), i1, i11, if_neg (fun y => by have := h56 i hi; omega)]
      exact hSt f f1 f2
  · rw [if_neg w]
    simp only [oi_s3_4 hk, s4, op_s3_4 hk]
    refine ⟨_, rfl, fin _ rfl (fun o ho => by rw [i_fun_ne ho, i_fun_ne ho]) (fun f f1 f2 => ?_)⟩
    rw [if_neg w]
    unfold rU
    by_cases z : f = 3
    · rw [if_pos z, z, i11, if_neg (by omega), i11, if_pos ⟨rfl, rfl⟩]
    · rw [if_neg z]
      by_cases z4 : f = 4
      · rw [if_pos z4, z4, i11, if_pos ⟨rfl, rfl⟩]
      · rw [if_neg z4, i11, if_neg (fun y => z4 y.2), i11, if_neg (fun y => z y.2), i1, i11, if_neg (fun y => by have := h56 i hi; omega)]
        exact hSt f f1 f2
end DB
