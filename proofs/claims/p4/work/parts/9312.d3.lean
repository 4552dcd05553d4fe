section DC
variable {B X F : Nat} {τ : zK} {n c s : Nat} {σ σ' : zS} {k m i : Nat} {P : Nat → Nat} {D : Nat → Nat → Int32} {ft : Nat → Int32} {q : Nat → List Nat} {S : Nat → Int32}
/-- if it ends, it answers, in a world of ours with Q -/
def pW (B X : Nat) (τ : zK) (n c s : Nat) (r : zR) (Q : Option Value → zS → Prop) : Prop := ∀ o w', r = some (o, w') → ∃ v σ', o = .inl v ∧ w' = o_w B X τ σ' n c s ∧ Q v σ'
variable {Q Q1 : Option Value → zS → Prop}
theorem pW.none : pW B X τ n c s none Q := fun _ _ h => nomatch h
theorem pW.ret {v : Option Value} (h : Q v σ) : pW B X τ n c s (some (.inl v, o_w B X τ σ n c s)) Q := fun _ _ e => by
  injection e with e
  injection e with e1 e2
  exact ⟨v, σ, e1.symm, e2.symm, h⟩
theorem pW.ite {p : Prop} [Decidable p] {a b : zR} (h1 : p → pW B X τ n c s a Q) (h2 : ¬ p → pW B X τ n c s b Q) : pW B X τ n c s (if p then a else b) Q := by
  split
  · exact h1 (by assumption)
  · exact h2 (by assumption)
theorem pW.cV {r : zR} {K : zW → zR} (h : pW B X τ n c s r Q1) (hK : ∀ σ', Q1 Option.none σ' → pW B X τ n c s (K (o_w B X τ σ' n c s)) Q) : pW B X τ n c s (z_cV r K) Q := by
  intro o w' e
  obtain ⟨w1, o1, e1, hz⟩ := z_cV_spec e
  obtain ⟨v, σ', q1, q2, q3⟩ := h _ _ e1
  subst q2
  rcases hz with ⟨v', a, a2⟩ | ⟨y, a, a2⟩
  · have a : o1 = .inl v' := a
    rw [q1] at a
    injection a with a
    rw [a, a2.1] at q3
    exact hK σ' q3 o w' a2.2
  · have a : o1 = .inr y := a
    rw [q1] at a
    cases a
theorem pW.cI {r : zR} {K : Int32 → zW → zR} (h : pW B X τ n c s r Q1) (hK : ∀ v σ', Q1 (some (.int v)) σ' → pW B X τ n c s (K v (o_w B X τ σ' n c s)) Q) : pW B X τ n c s (z_cI r K) Q := by
  intro o w' e
  obtain ⟨w1, o1, e1, hz⟩ := z_cI_spec e
  obtain ⟨v, σ', q1, q2, q3⟩ := h _ _ e1
  subst q2
  rcases hz with ⟨v', a, y, b, a2⟩ | ⟨y, a, a2⟩
  · have a : o1 = .inl v' := a
    rw [q1] at a
    injection a with a
    rw [a, b] at q3
    exact hK y σ' q3 o w' a2
  · have a : o1 = .inr y := a
    rw [q1] at a
    cases a
theorem pW.cL {r : zR} {K : Int64 → zW → zR} (h : pW B X τ n c s r Q1) (hK : ∀ v σ', Q1 (some (.long v)) σ' → pW B X τ n c s (K v (o_w B X τ σ' n c s)) Q) : pW B X τ n c s (z_cL r K) Q := by
  intro o w' e
  obtain ⟨w1, o1, e1, hz⟩ := z_cL_spec e
  obtain ⟨v, σ', q1, q2, q3⟩ := h _ _ e1
  subst q2
  rcases hz with ⟨v', a, y, b, a2⟩ | ⟨y, a, a2⟩
  · have a : o1 = .inl v' := a
    rw [q1] at a
    injection a with a
    rw [a, b] at q3
    exact hK y σ' q3 o w' a2
  · have a : o1 = .inr y := a
    rw [q1] at a
    cases a
theorem pW.cR {r : zR} {K : Option Nat → zW → zR} (h : pW B X τ n c s r Q1) (hK : ∀ v σ', Q1 (some (va_rf v)) σ' → pW B X τ n c s (K v (o_w B X τ σ' n c s)) Q) : pW B X τ n c s (z_cR r K) Q := by
  intro o w' e
  obtain ⟨w1, o1, e1, hz⟩ := z_cR_spec e
  obtain ⟨v, σ', q1, q2, q3⟩ := h _ _ e1
  subst q2
  rcases hz with ⟨v', a, y, b, a2⟩ | ⟨y, a, a2⟩
  · have a : o1 = .inl v' := a
    rw [q1] at a
    injection a with a
    rw [a, b] at q3
    exact hK y σ' q3 o w' a2
  · have a : o1 = .inr y := a
    rw [q1] at a
    cases a
theorem pW.mono {r : zR} (h : pW B X τ n c s r Q1) (hQ : ∀ v σ', Q1 v σ' → Q v σ') : pW B X τ n c s r Q := fun o w' e => by
  obtain ⟨v, σ', q1, q2, q3⟩ := h o w' e
  exact ⟨v, σ', q1, q2, hQ _ _ q3⟩
theorem va_rf.inj {a b : Option Nat} (h : va_rf a = va_rf b) : a = b := by
  cases a <;> cases b
  · rfl
  · cases h
  · cases h
  · injection h with h
    rw [h]
theorem d_get (hA : dA τ σ P m k) (hk : k < 3) (hi : i < m) : f_ArrayList_get F X (some (B + (6 + 8 * k))) (nI i) (o_w B X τ σ n c s) = some (.inl (some (.ref (B + P i))), o_w B X τ σ n c s) := by
  obtain ⟨⟨h1, h2⟩, h3⟩ := hA
  rcases h3 with ⟨h3, -⟩ | ⟨e, cap, g1, g2, g3, g4, g5⟩
  · omega
  · have hE : o_E B X (σ.2.2 (6 + 8 * k) 0) = B + e := by rw [g1]; rfl
    unfold f_ArrayList_get
    simp only [oi_s6_1 hk, h1, f_Objects_checkIndex, f_Preconditions_checkIndex]
    rw [if_neg (nI_pos (by omega)), if_pos (nI_lt hi (by omega))]
    simp only [z_cI, ot_s6 hk, f_ArrayList_elementData, or_s6_0 hk, hE, d_ldR g2]
    rw [if_pos (nI_in (show i < cap by omega) (by omega)), nI_clamp (by omega), g5 i hi]
    simp only [Option.map, va_rf, z_cR]
theorem rUS {d x y : Int32} {f : Nat} (h3 : f ≠ 3) (h4 : f ≠ 4) : (rU (if d = 0 then S else rU S 4 x) 3 y) f = S f := by
  unfold rU
  rw [if_neg h3]
  by_cases h : d = 0
  · rw [if_pos h]
  · rw [if_neg h]
    exact if_neg h4
/-- one number in the look for losses: fates, those found, the loss time -/
def lsF (at_ : Nat → Int32) (g : Nat) (now limit : Int32) (x : (Nat → Int32) × List Nat × Int32) (j : Nat) : (Nat → Int32) × List Nat × Int32 :=
  if x.1 j = 0 then (if j + 3 ≤ g ∨ ¬ now - limit < at_ j then (rU x.1 j 2, x.2.1 ++ [j], x.2.2) else (x.1, x.2.1, if x.2.2 = -1 then at_ j + limit else x.2.2)) else x
theorem e_g3 {g i : Nat} (hg : g ≤ 4096) (hi : i < g) : (nI i ≤ nI g - 3) = (i + 3 ≤ g) := by
  refine propext ?_
  rw [Int32.le_iff_toInt_le, Int32.toInt_sub, nI_toInt (by omega), nI_toInt (by omega), show (3 : Int32).toInt = 3 by decide, Int.bmod_eq_of_le (by omega) (by omega)]
  omega
/-- the class's look for losses; r is the first one found, of those behind q0 -/
theorem d_lostJ {g : Nat} {now limit : Int32} (hk : k < 3) (hgm : g ≤ m) : ∀ (N i : Nat) (σ : zS) (ft : Nat → Int32) (l : List Nat) (S : Nat → Int32) (r : Option Nat), i ≤ g → cS τ σ k P m D ft (fun b => if b = 0 then q 0 else q 1 ++ l) S → S 6 = nI g → r = l.head?.map (fun a => B + P a) → pW B X τ n c s (j_AckBook_Sent_markLost F X N (some (B + (3 + 8 * k))) now limit r (nI i) (o_w B X τ σ n c s)) (fun v σ' => ∃ l' S', v = some (va_rf (l'.head?.map (fun a => B + P a))) ∧ cF k P m σ σ' ∧ ((List.range' i (g - i)).foldl (lsF (D 2) g now limit) (ft, l, S 7)).2.1 = l' ∧ cS τ σ' k P m D ((List.range' i (g - i)).foldl (lsF (D 2) g now limit) (ft, l, S 7)).1 (fun b => if b = 0 then q 0 else q 1 ++ l') S' ∧ S' 5 = S 5 ∧ S' 6 = S 6 ∧ S' 7 = ((List.range' i (g - i)).foldl (lsF (D 2) g now limit) (ft, l, S 7)).2.2) := by
  intro N
  induction N with
  | zero => exact fun _ _ _ _ _ _ _ _ _ _ => pW.none
  | succ N ih =>
    intro i σ ft l S r hi hS h6 hr
    have hA := hS.1.1
    have hm := hA.1.2
    have s6 : σ.1 (3 + 8 * k) 6 = nI g := (hS.2.2 6 (by omega) (by omega)).trans h6
    have s7 : σ.1 (3 + 8 * k) 7 = S 7 := hS.2.2 7 (by omega) (by omega)
    rw [j_AckBook_Sent_markLost]
    simp (disch := omega) only [or_s3_2 hk, ot_s6 hk, c_size hk, y_cI, hA.1.1, e_le, oi_s3_6 hk, s6]
    have stop : g ≤ i → pW B X τ n c s (some (.inl (some (va_rf r)), o_w B X τ σ n c s)) (fun v σ' => ∃ l' S', v = some (va_rf (l'.head?.map (fun a => B + P a))) ∧ cF k P m σ σ' ∧ ((List.range' i (g - i)).foldl (lsF (D 2) g now limit) (ft, l, S 7)).2.1 = l' ∧ cS τ σ' k P m D ((List.range' i (g - i)).foldl (lsF (D 2) g now limit) (ft, l, S 7)).1 (fun b => if b = 0 then q 0 else q 1 ++ l') S' ∧ S' 5 = S 5 ∧ S' 6 = S 6 ∧ S' 7 = ((List.range' i (g - i)).foldl (lsF (D 2) g now limit) (ft, l, S 7)).2.2) := by
      intro h
      refine pW.ret ⟨l, S, by rw [hr], cF.refl k P m σ, ?_⟩
      rw [show g - i = 0 by omega]
      exact ⟨rfl, hS, rfl, rfl, rfl⟩
    refine pW.ite (fun h => stop (by omega)) (fun h => pW.ite (fun h' => stop h') (fun h' => ?_))
    have him : i < m := by omega
    obtain ⟨⟨hpk, -⟩, hD, hf, -⟩ := hS.1.2.2 i him
    have hfold : (List.range' i (g - i)).foldl (lsF (D 2) g now limit) (ft, l, S 7) = (List.range' (i + 1) (g - (i + 1))).foldl (lsF (D 2) g now limit) (lsF (D 2) g now limit (ft, l, S 7) i) := by
      rw [show g - i = (g - (i + 1)) + 1 by omega, List.range'_succ, List.foldl_cons]
    have f2 : σ.1 (P i) 2 = D 2 i := hD 2 (by omega) (by omega)
    simp (disch := omega) only [d_get hA hk him, y_cRs, d_cast hpk, d_gI hpk 6, hf, d_gI hpk 2, f2, oi_s3_6 hk, s6, oi_s3_7 hk, s7, op_s3_7 hk, nI_1, e_g3 (show g ≤ 4096 by omega) (show i < g by omega)]
    rw [hfold]
    -- the one that is found lost
    have found : ft i = 0 → (i + 3 ≤ g ∨ ¬ now - limit < D 2 i) → pW B X τ n c s (q_AckBook_Sent_markLost_78 F X (j_AckBook_Sent_markLost F X N) (some (B + (3 + 8 * k))) now limit r (nI i) (some (B + P i)) (o_w B X τ σ n c s)) (fun v σ' => ∃ l' S', v = some (va_rf (l'.head?.map (fun a => B + P a))) ∧ cF k P m σ σ' ∧ ((List.range' (i + 1) (g - (i + 1))).foldl (lsF (D 2) g now limit) (lsF (D 2) g now limit (ft, l, S 7) i)).2.1 = l' ∧ cS τ σ' k P m D ((List.range' (i + 1) (g - (i + 1))).foldl (lsF (D 2) g now limit) (lsF (D 2) g now limit (ft, l, S 7) i)).1 (fun b => if b = 0 then q 0 else q 1 ++ l') S' ∧ S' 5 = S 5 ∧ S' 6 = S 6 ∧ S' 7 = ((List.range' (i + 1) (g - (i + 1))).foldl (lsF (D 2) g now limit) (lsF (D 2) g now limit (ft, l, S 7) i)).2.2) := by
      intro w1 w2
      obtain ⟨σ1, a1, a2, a3⟩ := d_end (B := B) (X := X) (F := F) (n := n) (c := c) (s := s) (b := 1) hk (by decide) hS him w1
      have a1 : f_AckBook_Sent_end F X (some (B + (3 + 8 * k))) (some (B + P i)) 2 (some (B + (5 + 8 * k))) (o_w B X τ σ n c s) = _ := a1
      have eq : lsF (D 2) g now limit (ft, l, S 7) i = (rU ft i 2, l ++ [i], S 7) := by
        unfold lsF
        rw [if_pos w1, if_pos w2]
      rw [eq]
      unfold q_AckBook_Sent_markLost_78
      simp only [or_s3_1 hk, ot_s3 hk, a1, y_cV, nI_1]
      have a3 : cS τ σ1 k P m D (rU ft i 2) (fun b => if b = 0 then q 0 else q 1 ++ (l ++ [i])) (rU (if D 3 i = 0 then S else rU S 4 (S 4 - 1)) 3 (S 3 - 1)) := by
        refine ⟨a3.1, fun b hb => ?_, a3.2.2⟩
        have z := a3.2.1 b hb
        rcases (by omega : b = 0 ∨ b = 1) with rfl | rfl
        · exact z
        · have z : dC σ1 P (4 + 1 + 8 * k) ((q 1 ++ l) ++ [i]) ∧ ((q 1 ++ l) ++ [i]).Nodup ∧ ∀ a, a ∈ (q 1 ++ l) ++ [i] → a < m ∧ rU ft i (nI (1 + 1)) a = nI (1 + 1) := z
          rw [List.append_assoc] at z
          exact z
      have e5 : (rU (if D 3 i = 0 then S else rU S 4 (S 4 - 1)) 3 (S 3 - 1)) 5 = S 5 := rUS (by decide) (by decide)
      have e6 : (rU (if D 3 i = 0 then S else rU S 4 (S 4 - 1)) 3 (S 3 - 1)) 6 = S 6 := rUS (by decide) (by decide)
      have e7 : (rU (if D 3 i = 0 then S else rU S 4 (S 4 - 1)) 3 (S 3 - 1)) 7 = S 7 := rUS (by decide) (by decide)
      have go := fun r' hr' => ih (i + 1) σ1 (rU ft i 2) (l ++ [i]) _ r' (by omega) a3 (e6.trans h6) hr'
      rw [e5, e6, e7] at go
      have close : ∀ r', r' = (l ++ [i]).head?.map (fun a => B + P a) → pW B X τ n c s (j_AckBook_Sent_markLost F X N (some (B + (3 + 8 * k))) now limit r' (nI (i + 1)) (o_w B X τ σ1 n c s)) (fun v σ' => ∃ l' S', v = some (va_rf (l'.head?.map (fun a => B + P a))) ∧ cF k P m σ σ' ∧ ((List.range' (i + 1) (g - (i + 1))).foldl (lsF (D 2) g now limit) (rU ft i 2, l ++ [i], S 7)).2.1 = l' ∧ cS τ σ' k P m D ((List.range' (i + 1) (g - (i + 1))).foldl (lsF (D 2) g now limit) (rU ft i 2, l ++ [i], S 7)).1 (fun b => if b = 0 then q 0 else q 1 ++ l') S' ∧ S' 5 = S 5 ∧ S' 6 = S 6 ∧ S' 7 = ((List.range' (i + 1) (g - (i + 1))).foldl (lsF (D 2) g now limit) (rU ft i 2, l ++ [i], S 7)).2.2) := fun r' hr' => (go r' hr').mono fun v σ' ⟨l', S', b1, b2, b3⟩ => ⟨l', S', b1, a2.trans b2, b3⟩
      rw [hr]
      cases l with
      | nil =>
        simp only [List.head?_nil, Option.map_none, if_true]
        exact close _ rfl
      | cons a t =>
        simp only [List.head?_cons, Option.map_some, reduceCtorEq, if_false]
        exact close _ rfl
    have pass : ∀ (σ1 : zS) (S1 : Nat → Int32), cF k P m σ σ1 → cS τ σ1 k P m D ft (fun b => if b = 0 then q 0 else q 1 ++ l) S1 → S1 5 = S 5 → S1 6 = S 6 → lsF (D 2) g now limit (ft, l, S 7) i = (ft, l, S1 7) → pW B X τ n c s (j_AckBook_Sent_markLost F X N (some (B + (3 + 8 * k))) now limit r (nI (i + 1)) (o_w B X τ σ1 n c s)) (fun v σ' => ∃ l' S', v = some (va_rf (l'.head?.map (fun a => B + P a))) ∧ cF k P m σ σ' ∧ ((List.range' (i + 1) (g - (i + 1))).foldl (lsF (D 2) g now limit) (lsF (D 2) g now limit (ft, l, S 7) i)).2.1 = l' ∧ cS τ σ' k P m D ((List.range' (i + 1) (g - (i + 1))).foldl (lsF (D 2) g now limit) (lsF (D 2) g now limit (ft, l, S 7) i)).1 (fun b => if b = 0 then q 0 else q 1 ++ l') S' ∧ S' 5 = S 5 ∧ S' 6 = S 6 ∧ S' 7 = ((List.range' (i + 1) (g - (i + 1))).foldl (lsF (D 2) g now limit) (lsF (D 2) g now limit (ft, l, S 7) i)).2.2) := by
      intro σ1 S1 w1 w2 w3 w4 w5
      rw [w5, ← w3, ← w4]
      refine (ih (i + 1) σ1 ft l S1 r (by omega) w2 (w4.trans h6) hr).mono fun v σ' ⟨l', S', b1, b2, b3⟩ => ⟨l', S', b1, w1.trans b2, b3⟩
    by_cases w1 : ft i = 0
    · rw [if_pos w1]
      by_cases w2 : i + 3 ≤ g
      · rw [if_pos w2]
        exact found w1 (Or.inl w2)
      · rw [if_neg w2]
        by_cases w3 : now - limit < D 2 i
        · rw [if_pos w3]
          have eq : lsF (D 2) g now limit (ft, l, S 7) i = (ft, l, if S 7 = -1 then D 2 i + limit else S 7) := by
            unfold lsF
            rw [if_pos w1, if_neg (by rintro (z | z); exact w2 z; exact z w3)]
          by_cases w4 : S 7 = -1
          · rw [if_pos w4]
            rw [if_pos w4] at eq
            refine pass (o_I σ (3 + 8 * k) 7 (D 2 i + limit)) (rU S 7 (D 2 i + limit)) (cF.I (Or.inl rfl)) ?_ rfl rfl eq
            have h56 : ∀ j, j < m → 56 ≤ P j := fun j hj => (hS.1.2.2 j hj).1.1.1
            have ne : ∀ o f, o ≠ 3 + 8 * k → (o_I σ (3 + 8 * k) 7 (D 2 i + limit)).1 o f = σ.1 o f := fun o f ho => by rw [i_fun_ne ho]
            refine ⟨⟨⟨⟨by rw [ne _ _ (by omega)]; exact hA.1.1, hm⟩, hA.2⟩, hS.1.2.1, fun j hj => ?_⟩, fun b hb => ⟨(hS.2.1 b hb).1.cong rfl (fun _ _ => rfl), (hS.2.1 b hb).2⟩, fun f f1 f2 => ?_⟩
            · obtain ⟨⟨b1, b2⟩, b3, b4, b5⟩ := hS.1.2.2 j hj
              have := h56 j hj
              exact ⟨⟨b1, by rw [ne _ _ (by omega)]; exact b2⟩, fun f f1 f2 => by rw [ne _ _ (by omega)]; exact b3 f f1 f2, by rw [ne _ _ (by omega)]; exact b4, b5⟩
            · unfold rU
              by_cases z : f = 7
              · rw [if_pos z, z, i11, if_pos ⟨rfl, rfl⟩]
              · rw [if_neg z, i11, if_neg (fun y => z y.2)]
                exact hS.2.2 f f1 f2
          · rw [if_neg w4]
            rw [if_neg w4] at eq
            exact pass σ S (cF.refl k P m σ) hS rfl rfl eq
        · rw [if_neg w3]
          exact found w1 (Or.inr w3)
    · rw [if_neg w1]
      refine pass σ S (cF.refl k P m σ) hS rfl rfl ?_
      unfold lsF
      rw [if_neg w1]
end DC
