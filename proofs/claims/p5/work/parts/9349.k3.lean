/-! The class's look for losses, with what is out and eliciting, and the flow. -/
section KC
variable {B X F : Nat} {τ : zK} {n c s : Nat} {σ σ' : zS} {k m i : Nat} {P : Nat → Nat} {D : Nat → Nat → Int32} {ft : Nat → Int32} {q : Nat → List Nat} {S : Nat → Int32}
theorem rU4 {S : Nat → Int32} {d y : Int32} : (rU (if d = 0 then S else rU S 4 (S 4 - 1)) 3 y) 4 = S 4 - (if d = 0 then 0 else 1) := by
  unfold rU
  rw [if_neg (by decide)]
  by_cases h : d = 0
  · rw [if_pos h, if_pos h, Int32.sub_zero]
  · rw [if_neg h, if_neg h]
    rfl
theorem d_lostJX {g : Nat} {now limit : Int32} (hk : k < 3) (hgm : g ≤ m) : ∀ (N i : Nat) (σ : zS) (ft : Nat → Int32) (l : List Nat) (S : Nat → Int32) (r : Option Nat), i ≤ g → cS τ σ k P m D ft (fun b => if b = 0 then q 0 else q 1 ++ l) S → S 6 = nI g → S 4 = sm (ez D) ft m → r = l.head?.map (fun a => B + P a) → pW B X τ n c s (j_AckBook_Sent_markLost F X N (some (B + (3 + 8 * k))) now limit r (nI i) (o_w B X τ σ n c s)) (fun v σ' => ∃ l' S', v = some (va_rf (l'.head?.map (fun a => B + P a))) ∧ cF k P m σ σ' ∧ ((List.range' i (g - i)).foldl (lsF (D 2) g now limit) (ft, l, S 7)).2.1 = l' ∧ cS τ σ' k P m D ((List.range' i (g - i)).foldl (lsF (D 2) g now limit) (ft, l, S 7)).1 (fun b => if b = 0 then q 0 else q 1 ++ l') S' ∧ S' 4 = sm (ez D) ((List.range' i (g - i)).foldl (lsF (D 2) g now limit) (ft, l, S 7)).1 m ∧ S' 5 = S 5 ∧ S' 6 = S 6 ∧ S' 7 = ((List.range' i (g - i)).foldl (lsF (D 2) g now limit) (ft, l, S 7)).2.2) := by
  intro N
  induction N with
  | zero => exact fun _ _ _ _ _ _ _ _ _ _ _ => pW.none
  | succ N ih =>
    intro i σ ft l S r hi hS h6 h4 hr
    have hA := hS.1.1
    have hm := hA.1.2
    have s6 : σ.1 (3 + 8 * k) 6 = nI g := (hS.2.2 6 (by omega) (by omega)).trans h6
    have s7 : σ.1 (3 + 8 * k) 7 = S 7 := hS.2.2 7 (by omega) (by omega)
    rw [j_AckBook_Sent_markLost]
    simp (disch := omega) only [or_s3_2 hk, ot_s6 hk, c_size hk, y_cI, hA.1.1, e_le, oi_s3_6 hk, s6]
    have stop : g ≤ i → pW B X τ n c s (some (.inl (some (va_rf r)), o_w B X τ σ n c s)) (fun v σ' => ∃ l' S', v = some (va_rf (l'.head?.map (fun a => B + P a))) ∧ cF k P m σ σ' ∧ ((List.range' i (g - i)).foldl (lsF (D 2) g now limit) (ft, l, S 7)).2.1 = l' ∧ cS τ σ' k P m D ((List.range' i (g - i)).foldl (lsF (D 2) g now limit) (ft, l, S 7)).1 (fun b => if b = 0 then q 0 else q 1 ++ l') S' ∧ S' 4 = sm (ez D) ((List.range' i (g - i)).foldl (lsF (D 2) g now limit) (ft, l, S 7)).1 m ∧ S' 5 = S 5 ∧ S' 6 = S 6 ∧ S' 7 = ((List.range' i (g - i)).foldl (lsF (D 2) g now limit) (ft, l, S 7)).2.2) := by
      intro h
      refine pW.ret ⟨l, S, by rw [hr], cF.refl k P m σ, ?_⟩
      rw [show g - i = 0 by omega]
      exact ⟨rfl, hS, h4, rfl, rfl, rfl⟩
    refine pW.ite (fun h => stop (by omega)) (fun h => pW.ite (fun h' => stop h') (fun h' => ?_))
    have him : i < m := by omega
    obtain ⟨⟨hpk, -⟩, hD, hf, -⟩ := hS.1.2.2 i him
    have hfold : (List.range' i (g - i)).foldl (lsF (D 2) g now limit) (ft, l, S 7) = (List.range' (i + 1) (g - (i + 1))).foldl (lsF (D 2) g now limit) (lsF (D 2) g now limit (ft, l, S 7) i) := by
      rw [show g - i = (g - (i + 1)) + 1 by omega, List.range'_succ, List.foldl_cons]
    have f2 : σ.1 (P i) 2 = D 2 i := hD 2 (by omega) (by omega)
    simp (disch := omega) only [d_get hA hk him, y_cRs, d_cast hpk, d_gI hpk 6, hf, d_gI hpk 2, f2, oi_s3_6 hk, s6, oi_s3_7 hk, s7, op_s3_7 hk, nI_1, e_g3 (show g ≤ 4096 by omega) (show i < g by omega)]
    rw [hfold]
    -- the one that is found lost
    have found : ft i = 0 → (i + 3 ≤ g ∨ ¬ now - limit < D 2 i) → pW B X τ n c s (q_AckBook_Sent_markLost_78 F X (j_AckBook_Sent_markLost F X N) (some (B + (3 + 8 * k))) now limit r (nI i) (some (B + P i)) (o_w B X τ σ n c s)) (fun v σ' => ∃ l' S', v = some (va_rf (l'.head?.map (fun a => B + P a))) ∧ cF k P m σ σ' ∧ ((List.range' (i + 1) (g - (i + 1))).foldl (lsF (D 2) g now limit) (lsF (D 2) g now limit (ft, l, S 7) i)).2.1 = l' ∧ cS τ σ' k P m D ((List.range' (i + 1) (g - (i + 1))).foldl (lsF (D 2) g now limit) (lsF (D 2) g now limit (ft, l, S 7) i)).1 (fun b => if b = 0 then q 0 else q 1 ++ l') S' ∧ S' 4 = sm (ez D) ((List.range' (i + 1) (g - (i + 1))).foldl (lsF (D 2) g now limit) (lsF (D 2) g now limit (ft, l, S 7) i)).1 m ∧ S' 5 = S 5 ∧ S' 6 = S 6 ∧ S' 7 = ((List.range' (i + 1) (g - (i + 1))).foldl (lsF (D 2) g now limit) (lsF (D 2) g now limit (ft, l, S 7) i)).2.2) := by
      intro w1 w2
      obtain ⟨σ1, a1, a2, a3⟩ := d_end (B := B) (X := X) (F := F) (n := n) (c := c) (s := s) (b := 1) hk (by decide) hS him w1
      have a1 : f_AckBook_Sent_end F X (some (B + (3 + 8 * k))) (some (B + P i)) 2 (some (B + (5 + 8 * k))) (o_w B X τ σ n c s) = _ := a1
      have eq : lsF (D 2) g now limit (ft, l, S 7) i = (rU ft i 2, l ++ [i], S 7) := by
        unfold lsF
        rw [if_pos w1, if_pos w2]
      rw [eq]
      unfold q_AckBook_Sent_markLost_78
      simp only [or_s3_1 hk, ot_s3 hk, a1, y_cV, nI_1]
      have a3 : cS τ σ1 k P m D (rU ft i 2) (fun b => if b = 0 then q 0 else q 1 ++ (l ++ [i])) (rU (if D 3 i = 0 then S else rU S 4 (S 4 - 1)) 3 (S 3 - 1)) := by
        refine ⟨a3.1, fun b hb => ?_, a3.2.2⟩
        have z := a3.2.1 b hb
        rcases (by omega : b = 0 ∨ b = 1) with rfl | rfl
        · exact z
        · have z : dC σ1 P (4 + 1 + 8 * k) ((q 1 ++ l) ++ [i]) ∧ ((q 1 ++ l) ++ [i]).Nodup ∧ ∀ a, a ∈ (q 1 ++ l) ++ [i] → a < m ∧ rU ft i (nI (1 + 1)) a = nI (1 + 1) := z
          rw [List.append_assoc] at z
          exact z
      have e5 : (rU (if D 3 i = 0 then S else rU S 4 (S 4 - 1)) 3 (S 3 - 1)) 5 = S 5 := rUS (by decide) (by decide)
      have e6 : (rU (if D 3 i = 0 then S else rU S 4 (S 4 - 1)) 3 (S 3 - 1)) 6 = S 6 := rUS (by decide) (by decide)
      have e7 : (rU (if D 3 i = 0 then S else rU S 4 (S 4 - 1)) 3 (S 3 - 1)) 7 = S 7 := rUS (by decide) (by decide)
      have e4 : (rU (if D 3 i = 0 then S else rU S 4 (S 4 - 1)) 3 (S 3 - 1)) 4 = sm (ez D) (rU ft i 2) m := by
        rw [rU4, h4, sm_rU w1 (by decide) m him]
        rfl
      have go := fun r' hr' => ih (i + 1) σ1 (rU ft i 2) (l ++ [i]) _ r' (by omega) a3 (e6.trans h6) e4 hr'
      rw [e5, e6, e7] at go
      have close : ∀ r', r' = (l ++ [i]).head?.map (fun a => B + P a) → pW B X τ n c s (j_AckBook_Sent_markLost F X N (some (B + (3 + 8 * k))) now limit r' (nI (i + 1)) (o_w B X τ σ1 n c s)) (fun v σ' => ∃ l' S', v = some (va_rf (l'.head?.map (fun a => B + P a))) ∧ cF k P m σ σ' ∧ ((List.range' (i + 1) (g - (i + 1))).foldl (lsF (D 2) g now limit) (rU ft i 2, l ++ [i], S 7)).2.1 = l' ∧ cS τ σ' k P m D ((List.range' (i + 1) (g - (i + 1))).foldl (lsF (D 2) g now limit) (rU ft i 2, l ++ [i], S 7)).1 (fun b => if b = 0 then q 0 else q 1 ++ l') S' ∧ S' 4 = sm (ez D) ((List.range' (i + 1) (g - (i + 1))).foldl (lsF (D 2) g now limit) (rU ft i 2, l ++ [i], S 7)).1 m ∧ S' 5 = S 5 ∧ S' 6 = S 6 ∧ S' 7 = ((List.range' (i + 1) (g - (i + 1))).foldl (lsF (D 2) g now limit) (rU ft i 2, l ++ [i], S 7)).2.2) := fun r' hr' => (go r' hr').mono fun v σ' ⟨l', S', b1, b2, b3⟩ => ⟨l', S', b1, a2.trans b2, b3⟩
      rw [hr]
      cases l with
      | nil =>
        simp only [List.head?_nil, Option.map_none, if_true]
        exact close _ rfl
      | cons a t =>
        simp only [List.head?_cons, Option.map_some, reduceCtorEq, if_false]
        exact close _ rfl
    have pass : ∀ (σ1 : zS) (S1 : Nat → Int32), cF k P m σ σ1 → cS τ σ1 k P m D ft (fun b => if b = 0 then q 0 else q 1 ++ l) S1 → S1 4 = S 4 → S1 5 = S 5 → S1 6 = S 6 → lsF (D 2) g now limit (ft, l, S 7) i = (ft, l, S1 7) → pW B X τ n c s (j_AckBook_Sent_markLost F X N (some (B + (3 + 8 * k))) now limit r (nI (i + 1)) (o_w B X τ σ1 n c s)) (fun v σ' => ∃ l' S', v = some (va_rf (l'.head?.map (fun a => B + P a))) ∧ cF k P m σ σ' ∧ ((List.range' (i + 1) (g - (i + 1))).foldl (lsF (D 2) g now limit) (lsF (D 2) g now limit (ft, l, S 7) i)).2.1 = l' ∧ cS τ σ' k P m D ((List.range' (i + 1) (g - (i + 1))).foldl (lsF (D 2) g now limit) (lsF (D 2) g now limit (ft, l, S 7) i)).1 (fun b => if b = 0 then q 0 else q 1 ++ l') S' ∧ S' 4 = sm (ez D) ((List.range' (i + 1) (g - (i + 1))).foldl (lsF (D 2) g now limit) (lsF (D 2) g now limit (ft, l, S 7) i)).1 m ∧ S' 5 = S 5 ∧ S' 6 = S 6 ∧ S' 7 = ((List.range' (i + 1) (g - (i + 1))).foldl (lsF (D 2) g now limit) (lsF (D 2) g now limit (ft, l, S 7) i)).2.2) := by
      intro σ1 S1 w1 w2 w24 w3 w4 w5
      rw [w5, ← w3, ← w4]
      refine (ih (i + 1) σ1 ft l S1 r (by omega) w2 (w4.trans h6) (w24.trans h4) hr).mono fun v σ' ⟨l', S', b1, b2, b3⟩ => ⟨l', S', b1, w1.trans b2, b3⟩
    by_cases w1 : ft i = 0
    · rw [if_pos w1]
      by_cases w2 : i + 3 ≤ g
      · rw [if_pos w2]
        exact found w1 (Or.inl w2)
      · rw [if_neg w2]
        by_cases w3 : now - limit < D 2 i
        · rw [if_pos w3]
          have eq : lsF (D 2) g now limit (ft, l, S 7) i = (ft, l, if S 7 = -1 then D 2 i + limit else S 7) := by
            unfold lsF
            rw [if_pos w1, if_neg (by rintro (z | z); exact w2 z; exact z w3)]
          by_cases w4 : S 7 = -1
          · rw [if_pos w4]
            rw [if_pos w4] at eq
            refine pass (o_I σ (3 + 8 * k) 7 (D 2 i + limit)) (rU S 7 (D 2 i + limit)) (cF.I (Or.inl rfl)) ?_ rfl rfl rfl eq
            have h56 : ∀ j, j < m → 56 ≤ P j := fun j hj => (hS.1.2.2 j hj).1.1.1
            have ne : ∀ o f, o ≠ 3 + 8 * k → (o_I σ (3 + 8 * k) 7 (D 2 i + limit)).1 o f = σ.1 o f := fun o f ho => by rw [i_fun_ne ho]
            refine ⟨⟨⟨⟨by rw [ne _ _ (by omega)]; exact hA.1.1, hm⟩, hA.2⟩, hS.1.2.1, fun j hj => ?_⟩, fun b hb => ⟨(hS.2.1 b hb).1.cong rfl (fun _ _ => rfl), (hS.2.1 b hb).2⟩, fun f f1 f2 => ?_⟩
            · obtain ⟨⟨b1, b2⟩, b3, b4, b5⟩ := hS.1.2.2 j hj
              have := h56 j hj
              exact ⟨⟨b1, by rw [ne _ _ (by omega)]; exact b2⟩, fun f f1 f2 => by rw [ne _ _ (by omega)]; exact b3 f f1 f2, by rw [ne _ _ (by omega)]; exact b4, b5⟩
            · unfold rU
              by_cases z : f = 7
              · rw [if_pos z, z, i11, if_pos ⟨rfl, rfl⟩]
              · rw [if_neg z, i11, if_neg (fun y => z y.2)]
                exact hS.2.2 f f1 f2
          · rw [if_neg w4]
            rw [if_neg w4] at eq
            exact pass σ S (cF.refl k P m σ) hS rfl rfl rfl eq
        · rw [if_neg w3]
          exact found w1 (Or.inr w3)
    · rw [if_neg w1]
      refine pass σ S (cF.refl k P m σ) hS rfl rfl rfl ?_
      unfold lsF
      rw [if_neg w1]
theorem d_lossesX {g : Nat} (hk : k < 3) (hS : cS τ σ k P m D ft q S) (h6 : S 6 = nI g) (h4 : S 4 = sm (ez D) ft m) (hgm : g ≤ m) : pW B X τ n c s (f_AckBook_lookForLosses F X (some (B + 0)) (some (B + (3 + 8 * k))) (o_w B X τ σ n c s)) (fun v σ' => v = none ∧ cH k P m σ σ' ∧ (fq σ' = fwX D (lsR (D 2) g (σ.1 0 4) (limV (σ.1 29 0) (σ.1 29 2)) ft).1 (σ.1 29) (σ.1 0 4) (lsR (D 2) g (σ.1 0 4) (limV (σ.1 29 0) (σ.1 29 2)) ft).2.1 (fq σ) ∧ σ'.1 30 0 = sb (cz D) (lsR (D 2) g (σ.1 0 4) (limV (σ.1 29 0) (σ.1 29 2)) ft).2.1 (σ.1 30 0)) ∧ ∃ S', cS τ σ' k P m D (lsR (D 2) g (σ.1 0 4) (limV (σ.1 29 0) (σ.1 29 2)) ft).1 (fun b => if b = 0 then q 0 else q 1 ++ (lsR (D 2) g (σ.1 0 4) (limV (σ.1 29 0) (σ.1 29 2)) ft).2.1) S' ∧ S' 4 = sm (ez D) (lsR (D 2) g (σ.1 0 4) (limV (σ.1 29 0) (σ.1 29 2)) ft).1 m ∧ S' 5 = S 5 ∧ S' 6 = S 6 ∧ S' 7 = (lsR (D 2) g (σ.1 0 4) (limV (σ.1 29 0) (σ.1 29 2)) ft).2.2) := by
  have hml : pW B X τ n c s (f_AckBook_Sent_markLost F X (some (B + (3 + 8 * k))) (σ.1 0 4) (limV (σ.1 29 0) (σ.1 29 2)) (o_w B X τ σ n c s)) (fun v σ' => ∃ S', v = some (va_rf ((lsR (D 2) g (σ.1 0 4) (limV (σ.1 29 0) (σ.1 29 2)) ft).2.1.head?.map (fun a => B + P a))) ∧ cF k P m σ σ' ∧ cS τ σ' k P m D (lsR (D 2) g (σ.1 0 4) (limV (σ.1 29 0) (σ.1 29 2)) ft).1 (fun b => if b = 0 then q 0 else q 1 ++ (lsR (D 2) g (σ.1 0 4) (limV (σ.1 29 0) (σ.1 29 2)) ft).2.1) S' ∧ S' 4 = sm (ez D) (lsR (D 2) g (σ.1 0 4) (limV (σ.1 29 0) (σ.1 29 2)) ft).1 m ∧ S' 5 = S 5 ∧ S' 6 = S 6 ∧ S' 7 = (lsR (D 2) g (σ.1 0 4) (limV (σ.1 29 0) (σ.1 29 2)) ft).2.2) := by
    unfold f_AckBook_Sent_markLost lsR
    rw [op_s3_7 hk]
    have hS1 := hS.sent hk (f := 7) (by omega) (-1)
    have hq : cS τ (o_I σ (3 + 8 * k) 7 (-1)) k P m D ft (fun b => if b = 0 then q 0 else q 1 ++ []) (rU S 7 (-1)) := by
      refine ⟨hS1.1, fun b hb => ?_, hS1.2.2⟩
      have z := hS1.2.1 b hb
      rcases (by omega : b = 0 ∨ b = 1) with rfl | rfl
      · exact z
      · show dC _ P (4 + 1 + 8 * k) (q 1 ++ []) ∧ (q 1 ++ []).Nodup ∧ ∀ a, a ∈ q 1 ++ [] → a < m ∧ ft a = nI (1 + 1)
        rw [List.append_nil]
        exact z
    refine (d_lostJX (B := B) (X := X) (F := F) (n := n) (c := c) (s := s) (now := σ.1 0 4) (limit := limV (σ.1 29 0) (σ.1 29 2)) hk hgm F 0 _ ft [] _ none (Nat.zero_le _) hq (by show S 6 = nI g; exact h6) (by show S 4 = _; exact h4) rfl).mono ?_
    rintro v σ' ⟨l', S', b1, b2, b3, b4, b44, b5, b6, b7⟩
    subst b3
    exact ⟨S', b1, (cF.I (Or.inl rfl)).trans b2, b4, b44, b5, b6, b7⟩
  have elim : (if ((9 : Int32) * (if σ.1 29 0 / 8 < σ.1 29 2 then σ.1 29 2 else σ.1 29 0 / 8)) / 8 < 1 then 1 else ((9 : Int32) * (if σ.1 29 0 / 8 < σ.1 29 2 then σ.1 29 2 else σ.1 29 0 / 8)) / 8) = limV (σ.1 29 0) (σ.1 29 2) := rfl
  unfold f_AckBook_lookForLosses
  simp only [oi_0_4, or_0_2, ot_29, f_AckBook_Way_limit, oi_29_0, oi_29_2, y_cI, elim, ot_s3 hk]
  refine pW.cR hml ?_
  rintro r σ1 ⟨S', b1, b2, b3, b4⟩
  have hr := va_rf.inj (Option.some.inj b1)
  subst hr
  generalize hL : lsR (D 2) g (σ.1 0 4) (limV (σ.1 29 0) (σ.1 29 2)) ft = R at b3 b4
  have h56 : ∀ j, j < m → 56 ≤ P j := fun j hj => (hS.1.2.2 j hj).1.1.1
  have z30 : σ1.1 30 = σ.1 30 := (b2.2 30 (by omega) (by omega) (by omega) (fun j hj => by have := h56 j hj; omega)).1
  have z29 : σ1.1 29 = σ.1 29 := (b2.2 29 (by omega) (by omega) (by omega) (fun j hj => by have := h56 j hj; omega)).1
  have z0 : σ1.1 0 = σ.1 0 := (b2.2 0 (by omega) (by omega) (by omega) (fun j hj => by have := h56 j hj; omega)).1
  have zq : fq σ1 = fq σ := by
    unfold fq
    rw [z30]
  have done : ∀ σ2, cG σ1 σ2 → fq σ2 = fwX D R.1 (σ.1 29) (σ.1 0 4) R.2.1 (fq σ) → σ2.1 30 0 = sb (cz D) R.2.1 (σ.1 30 0) → cH k P m σ σ2 ∧ (fq σ2 = fwX D R.1 (σ.1 29) (σ.1 0 4) R.2.1 (fq σ) ∧ σ2.1 30 0 = sb (cz D) R.2.1 (σ.1 30 0)) ∧ ∃ S', cS τ σ2 k P m D R.1 (fun b => if b = 0 then q 0 else q 1 ++ R.2.1) S' ∧ S' 4 = sm (ez D) R.1 m ∧ S' 5 = S 5 ∧ S' 6 = S 6 ∧ S' 7 = R.2.2 := fun σ2 g2 f1 f2 => ⟨b2.h.trans g2.h, ⟨f1, f2⟩, S', g2.cs hk b3, b4⟩
  have hlk : lnk σ1 P R.2.1 := (b3.2.1 1 (by decide)).1.2.2.drop (a := q 1)
  have hlm : ∀ a, a ∈ R.2.1 → a < m := fun a ha => ((b3.2.1 1 (by decide)).2.2 a (List.mem_append.mpr (Or.inr ha))).1
  refine pW.ite (fun hz => pW.ret ⟨rfl, done σ1 (cG.refl σ1) ?_ ?_⟩) (fun _ => ?_)
  · have he : R.2.1 = [] := by
      cases hl : R.2.1 with
      | nil => rfl
      | cons a t =>
        rw [hl] at hz
        cases hz
    rw [he, fwX_nil]
    exact zq
  · have he : R.2.1 = [] := by
      cases hl : R.2.1 with
      | nil => rfl
      | cons a t =>
        rw [hl] at hz
        cases hz
    rw [he, z30]
    rfl
  simp only [or_0_3, oi_0_4, ot_30]
  unfold f_AckBook_Flow_leaveLost
  refine pW.cV (d_leaveLostX (B := B) (X := X) (F := F) (n := n) (c := c) (s := s) _ F R.2.1 σ1 0 b3.1.2.2 hlk hlm) ?_
  rintro σ2 ⟨g2, -, y1, y2⟩
  rw [z30] at y1
  have y2 : fq σ2 = fwL D (σ.1 0 4) R.2.1 (fq σ) := by
    rw [y2, zq, z0]
    unfold fwL
    by_cases w : ∃ a, a ∈ R.2.1 ∧ D 4 a ≠ 0 ∧ ((fq σ).2.2 = -1 ∨ (fq σ).2.2 < D 2 a)
    · rw [if_pos (Or.inr w), if_pos w]
    · rw [if_neg (fun z => z.elim (fun z => z rfl) w), if_neg w]
  have k29 : ∀ f, σ2.1 29 f = σ.1 29 f := fun f => by rw [g2.2 29 (by omega), z29]
  simp only [or_0_2, oi_29_4, k29]
  refine pW.ite (fun w4 => pW.ret ⟨rfl, done σ2 g2 ?_ y1⟩) (fun w4 => ?_)
  · rw [y2]
    unfold fwX fwC
    exact (if_neg (fun z => z.1 w4)).symm
  simp only [or_0_2, oi_29_4, ot_29, f_AckBook_Way_patience, oi_29_0, oi_29_1, k29, y_cI, ot_s3 hk]
  unfold f_AckBook_Sent_wasCutOff
  refine pW.cI (d_cutJ (B := B) (X := X) (F := F) (n := n) (c := c) (s := s) (since := σ.1 29 4) (bound := bdW (σ.1 29)) hk (g2.cs hk b3) F R.2.1 (none, none) (g2.lnk hlk) hlm (fun a ha => by rcases ha with ha | ha <;> cases ha)) ?_
  rintro v σ3 ⟨rfl, hv⟩
  have hv := Option.some.inj hv
  injection hv with hv
  subst hv
  by_cases wc : cutB D R.1 (bdW (σ.1 29)) (R.2.1.foldl (ctF D (σ.1 29 4)) (none, none)) = true
  · rw [if_pos wc, if_neg (by decide)]
    simp only [or_0_3, ot_30, f_AckBook_Flow_collapse, op_30_1, op_30_3, y_cV]
    refine pW.ret ⟨rfl, done _ (g2.trans (cG.I.trans cG.I)) ?_ (by rw [i11, if_neg (by omega), i11, if_neg (by omega)]; exact y1)⟩
    have e : fwX D R.1 (σ.1 29) (σ.1 0 4) R.2.1 (fq σ) = (2400, (fwL D (σ.1 0 4) R.2.1 (fq σ)).2.1, -1) := if_pos ⟨w4, wc⟩
    rw [e, ← y2]
    unfold fq
    simp only [i11]
    rfl
  · rw [if_neg wc, if_pos rfl]
    refine pW.ret ⟨rfl, done σ3 g2 ?_ y1⟩
    rw [y2]
    exact (if_neg (fun z => wc z.2)).symm
end KC
