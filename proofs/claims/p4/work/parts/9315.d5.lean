section DE
variable {B X F : Nat} {τ : zK} {n c s : Nat} {σ σ' : zS} {k m i : Nat} {P : Nat → Nat} {D : Nat → Nat → Int32} {ft : Nat → Int32} {q : Nat → List Nat} {S : Nat → Int32}
def limV (a b : Int32) : Int32 := if ((9 : Int32) * (if a / 8 < b then b else a / 8)) / 8 < 1 then 1 else ((9 : Int32) * (if a / 8 < b then b else a / 8)) / 8
theorem limV_eq (a b : Int32) : (if (9 : Int32) * (if a / 8 ≤ b then b else a / 8) / 8 ≤ 1 then 1 else (9 : Int32) * (if a / 8 ≤ b then b else a / 8) / 8) = limV a b := by
  have e : (if a / 8 ≤ b then b else a / 8) = (if a / 8 < b then b else a / 8) := by
    by_cases h : a / 8 < b
    · rw [if_pos h, if_pos (Int32.le_of_lt h)]
    · rw [if_neg h]
      by_cases h2 : a / 8 ≤ b
      · rw [if_pos h2]
        exact Int32.le_antisymm (Int32.not_lt.mp h) h2
      · rw [if_neg h2]
  unfold limV
  rw [e]
  generalize (9 : Int32) * (if a / 8 < b then b else a / 8) / 8 = x
  by_cases h : x < 1
  · rw [if_pos h, if_pos (Int32.le_of_lt h)]
  · rw [if_neg h]
    by_cases h2 : x ≤ 1
    · rw [if_pos h2]
      exact Int32.le_antisymm (Int32.not_lt.mp h) h2
    · rw [if_neg h2]
theorem cG.cs (h : cG σ σ') (hk : k < 3) (hS : cS τ σ k P m D ft q S) : cS τ σ' k P m D ft q S := by
  obtain ⟨⟨⟨⟨a1, a2⟩, a3⟩, b, d⟩, e, f⟩ := hS
  refine ⟨⟨⟨⟨by rw [h.2 _ (by omega)]; exact a1, a2⟩, by rw [h.1]; exact a3⟩, b, h.dp d⟩, fun b' hb' => ⟨(e b' hb').1.cong (by rw [h.1]) (fun _ _ => by rw [h.1]), (e b' hb').2⟩, by rw [h.2 _ (by omega)]; exact f⟩
/-- what the class's methods of one space and of the flow may change -/
def cH (k : Nat) (P : Nat → Nat) (m : Nat) (σ σ' : zS) : Prop := σ'.2.1 = σ.2.1 ∧ ∀ o, o ≠ 30 → o ≠ 3 + 8 * k → o ≠ 4 + 8 * k → o ≠ 5 + 8 * k → (∀ i, i < m → o ≠ P i) → σ'.1 o = σ.1 o ∧ σ'.2.2 o = σ.2.2 o
theorem cF.h (h : cF k P m σ σ') : cH k P m σ σ' := ⟨h.1, fun o _ p1 p2 p3 p4 => h.2 o p1 p2 p3 p4⟩
theorem cG.h (h : cG σ σ') : cH k P m σ σ' := ⟨by rw [h.1], fun o p0 _ _ _ _ => ⟨h.2 o p0, by rw [h.1]⟩⟩
theorem cH.trans {a b d : zS} (h1 : cH k P m a b) (h2 : cH k P m b d) : cH k P m a d := ⟨h2.1.trans h1.1, fun o p0 p1 p2 p3 p4 => ⟨(h2.2 o p0 p1 p2 p3 p4).1.trans (h1.2 o p0 p1 p2 p3 p4).1, (h2.2 o p0 p1 p2 p3 p4).2.trans (h1.2 o p0 p1 p2 p3 p4).2⟩⟩
theorem cS.sent (hk : k < 3) (hS : cS τ σ k P m D ft q S) {f : Nat} (hf : 3 ≤ f ∧ f ≤ 7) (x : Int32) : cS τ (o_I σ (3 + 8 * k) f x) k P m D ft q (rU S f x) := by
  have h56 : ∀ j, j < m → 56 ≤ P j := fun j hj => (hS.1.2.2 j hj).1.1.1
  have ne : ∀ o g, o ≠ 3 + 8 * k → (o_I σ (3 + 8 * k) f x).1 o g = σ.1 o g := fun o g ho => by rw [i_fun_ne ho]
  refine ⟨⟨⟨⟨by rw [ne _ _ (by omega)]; exact hS.1.1.1.1, hS.1.1.1.2⟩, hS.1.1.2⟩, hS.1.2.1, fun j hj => ?_⟩, fun b hb => ⟨(hS.2.1 b hb).1.cong rfl (fun _ _ => rfl), (hS.2.1 b hb).2⟩, fun g f1 f2 => ?_⟩
  · obtain ⟨⟨b1, b2⟩, b3, b4, b5⟩ := hS.1.2.2 j hj
    have := h56 j hj
    exact ⟨⟨b1, by rw [ne _ _ (by omega)]; exact b2⟩, fun f f1 f2 => by rw [ne _ _ (by omega)]; exact b3 f f1 f2, by rw [ne _ _ (by omega)]; exact b4, b5⟩
  · unfold rU
    by_cases z : g = f
    · rw [if_pos z, z, i11, if_pos ⟨rfl, rfl⟩]
    · rw [if_neg z, i11, if_neg (fun y => z y.2)]
      exact hS.2.2 g f1 f2
/-- the links of the last ones found -/
theorem lnk.drop {σ : zS} : ∀ {a l : List Nat}, lnk σ P (a ++ l) → lnk σ P l
  | [], _, h => h
  | _ :: t, _, h => lnk.drop (a := t) (lnk.tail h)
/-- the fates, the newly lost ones and the loss time behind a look for losses -/
def lsR (at_ : Nat → Int32) (g : Nat) (now limit : Int32) (ft : Nat → Int32) : (Nat → Int32) × List Nat × Int32 := (List.range' 0 g).foldl (lsF at_ g now limit) (ft, [], -1)
theorem d_losses {g : Nat} (hk : k < 3) (hS : cS τ σ k P m D ft q S) (h6 : S 6 = nI g) (hgm : g ≤ m) : pW B X τ n c s (f_AckBook_lookForLosses F X (some (B + 0)) (some (B + (3 + 8 * k))) (o_w B X τ σ n c s)) (fun v σ' => v = none ∧ cH k P m σ σ' ∧ ∃ S', cS τ σ' k P m D (lsR (D 2) g (σ.1 0 4) (limV (σ.1 29 0) (σ.1 29 2)) ft).1 (fun b => if b = 0 then q 0 else q 1 ++ (lsR (D 2) g (σ.1 0 4) (limV (σ.1 29 0) (σ.1 29 2)) ft).2.1) S' ∧ S' 5 = S 5 ∧ S' 6 = S 6 ∧ S' 7 = (lsR (D 2) g (σ.1 0 4) (limV (σ.1 29 0) (σ.1 29 2)) ft).2.2) := by
  have hml : pW B X τ n c s (f_AckBook_Sent_markLost F X (some (B + (3 + 8 * k))) (σ.1 0 4) (limV (σ.1 29 0) (σ.1 29 2)) (o_w B X τ σ n c s)) (fun v σ' => ∃ S', v = some (va_rf ((lsR (D 2) g (σ.1 0 4) (limV (σ.1 29 0) (σ.1 29 2)) ft).2.1.head?.map (fun a => B + P a))) ∧ cF k P m σ σ' ∧ cS τ σ' k P m D (lsR (D 2) g (σ.1 0 4) (limV (σ.1 29 0) (σ.1 29 2)) ft).1 (fun b => if b = 0 then q 0 else q 1 ++ (lsR (D 2) g (σ.1 0 4) (limV (σ.1 29 0) (σ.1 29 2)) ft).2.1) S' ∧ S' 5 = S 5 ∧ S' 6 = S 6 ∧ S' 7 = (lsR (D 2) g (σ.1 0 4) (limV (σ.1 29 0) (σ.1 29 2)) ft).2.2) := by
    unfold f_AckBook_Sent_markLost lsR
    rw [op_s3_7 hk]
    have hS1 := hS.sent hk (f := 7) (by omega) (-1)
    have hq : cS τ (o_I σ (3 + 8 * k) 7 (-1)) k P m D ft (fun b => if b = 0 then q 0 else q 1 ++ []) (rU S 7 (-1)) := by
      refine ⟨hS1.1, fun b hb => ?_, hS1.2.2⟩
      have z := hS1.2.1 b hb
      rcases (by omega : b = 0 ∨ b = 1) with rfl | rfl
      · exact z
      · show dC _ P (4 + 1 + 8 * k) (q 1 ++ []) ∧ (q 1 ++ []).Nodup ∧ ∀ a, a ∈ q 1 ++ [] → a < m ∧ ft a = nI (1 + 1)
        rw [List.append_nil]
        exact z
    refine (d_lostJ (B := B) (X := X) (F := F) (n := n) (c := c) (s := s) (now := σ.1 0 4) (limit := limV (σ.1 29 0) (σ.1 29 2)) hk hgm F 0 _ ft [] _ none (Nat.zero_le _) hq (by show S 6 = nI g; exact h6) rfl).mono ?_
    rintro v σ' ⟨l', S', b1, b2, b3, b4, b5, b6, b7⟩
    subst b3
    exact ⟨S', b1, (cF.I (Or.inl rfl)).trans b2, b4, b5, b6, b7⟩
  have elim : (if ((9 : Int32) * (if σ.1 29 0 / 8 < σ.1 29 2 then σ.1 29 2 else σ.1 29 0 / 8)) / 8 < 1 then 1 else ((9 : Int32) * (if σ.1 29 0 / 8 < σ.1 29 2 then σ.1 29 2 else σ.1 29 0 / 8)) / 8) = limV (σ.1 29 0) (σ.1 29 2) := rfl
  unfold f_AckBook_lookForLosses
  simp only [oi_0_4, or_0_2, ot_29, f_AckBook_Way_limit, oi_29_0, oi_29_2, y_cI, elim, ot_s3 hk]
  refine pW.cR hml ?_
  rintro r σ1 ⟨S', b1, b2, b3, b4⟩
  have hr := va_rf.inj (Option.some.inj b1)
  subst hr
  generalize hL : lsR (D 2) g (σ.1 0 4) (limV (σ.1 29 0) (σ.1 29 2)) ft = R at b3 b4
  have done : ∀ σ2, cG σ1 σ2 → cH k P m σ σ2 ∧ ∃ S', cS τ σ2 k P m D R.1 (fun b => if b = 0 then q 0 else q 1 ++ R.2.1) S' ∧ S' 5 = S 5 ∧ S' 6 = S 6 ∧ S' 7 = R.2.2 := fun σ2 g2 => ⟨b2.h.trans g2.h, S', g2.cs hk b3, b4⟩
  refine pW.ite (fun _ => pW.ret ⟨rfl, done σ1 (cG.refl σ1)⟩) (fun _ => ?_)
  have hlk : lnk σ1 P R.2.1 := (b3.2.1 1 (by decide)).1.2.2.drop (a := q 1)
  have hlm : ∀ a, a ∈ R.2.1 → a < m := fun a ha => ((b3.2.1 1 (by decide)).2.2 a (List.mem_append.mpr (Or.inr ha))).1
  simp only [or_0_3, oi_0_4, ot_30]
  unfold f_AckBook_Flow_leaveLost
  refine pW.cV (d_leaveLost (B := B) (X := X) (F := F) (n := n) (c := c) (s := s) _ F R.2.1 σ1 0 b3.1.2.2 hlk hlm) ?_
  rintro σ2 ⟨g2, -⟩
  simp only [or_0_2, oi_29_4]
  refine pW.ite (fun _ => pW.ret ⟨rfl, done σ2 g2⟩) (fun _ => ?_)
  simp only [or_0_2, oi_29_4, ot_29, f_AckBook_Way_patience, oi_29_0, oi_29_1, y_cI, ot_s3 hk]
  refine pW.cI (pW.rd (hi_f_AckBook_Sent_wasCutOff F X _ _ _ _ _)) ?_
  rintro v σ3 rfl
  refine pW.ite (fun _ => pW.ret ⟨rfl, done σ3 g2⟩) (fun _ => ?_)
  simp only [or_0_3, ot_30, f_AckBook_Flow_collapse, op_30_1, op_30_3, y_cV]
  exact pW.ret ⟨rfl, done _ (g2.trans (cG.I.trans cG.I))⟩
end DE
