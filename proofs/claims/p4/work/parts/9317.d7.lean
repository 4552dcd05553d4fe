section DG
variable {B X F : Nat} {τ : zK} {n c s : Nat} {σ σ' : zS} {k m i : Nat} {P : Nat → Nat} {D : Nat → Nat → Int32} {ft : Nat → Int32} {q : Nat → List Nat} {S : Nat → Int32}
/-- the way, behind a sample -/
def wyT (w : Nat → Int32) (r d now : Int32) : Nat → Int32 :=
  let least := if w 3 = -1 then r else (if r < w 3 then r else w 3)
  let cn := if r < least + d then r else r - d
  fun f => if f = 0 then (if w 4 = -1 then 8 * r else w 0 + (cn - w 0 / 8)) else if f = 1 then (if w 4 = -1 then 2 * r else w 1 + ((if 0 ≤ w 0 / 8 - cn then w 0 / 8 - cn else 0 - (w 0 / 8 - cn)) - w 1 / 4)) else if f = 2 then r else if f = 3 then least else if f = 4 then (if w 4 = -1 then now else w 4) else w f
theorem d_take (r d now : Int32) : ∃ σ', f_AckBook_Way_take F X (some (B + 29)) r d now (o_w B X τ σ n c s) = some (.inl none, o_w B X τ σ' n c s) ∧ σ'.2 = σ.2 ∧ (∀ o, o ≠ 29 → σ'.1 o = σ.1 o) ∧ ∀ f, f < 5 → σ'.1 29 f = wyT (σ.1 29) r d now f := by
  have h75 : ∀ (σ1 : zS) (x : Int32), ∃ σ', q_AckBook_Way_take_75 F X (some (B + 29)) x (o_w B X τ σ1 n c s) = some (.inl none, o_w B X τ σ' n c s) ∧ σ'.2 = σ1.2 ∧ (∀ o, o ≠ 29 → σ'.1 o = σ1.1 o) ∧ σ'.1 29 0 = σ1.1 29 0 + (x - σ1.1 29 0 / 8) ∧ σ'.1 29 1 = σ1.1 29 1 + ((if 0 ≤ σ1.1 29 0 / 8 - x then σ1.1 29 0 / 8 - x else 0 - (σ1.1 29 0 / 8 - x)) - σ1.1 29 1 / 4) ∧ ∀ f, 2 ≤ f → σ'.1 29 f = σ1.1 29 f := by
    intro σ1 x
    unfold q_AckBook_Way_take_75
    have e0 : ∀ y, (o_I σ1 29 1 y).1 29 0 = σ1.1 29 0 := fun y => by simp [i11]
    simp only [oi_29_0, oi_29_1, op_29_1, op_29_0, e0]
    exact ⟨_, rfl, rfl, fun o ho => by rw [i_fun_ne ho, i_fun_ne ho], by rw [i11, if_pos ⟨rfl, rfl⟩], by rw [i11, if_neg (by omega), i11, if_pos ⟨rfl, rfl⟩], fun f hf => by rw [i11, if_neg (by omega), i11, if_neg (by omega)]⟩
  have h26 : ∀ x : Int32, x = (if σ.1 29 3 = -1 then r else (if r < σ.1 29 3 then r else σ.1 29 3)) → ∃ σ', q_AckBook_Way_take_26 F X (some (B + 29)) r d now (some (B + 29)) x (o_w B X τ (o_I σ 29 2 r) n c s) = some (.inl none, o_w B X τ σ' n c s) ∧ σ'.2 = σ.2 ∧ (∀ o, o ≠ 29 → σ'.1 o = σ.1 o) ∧ ∀ f, f < 5 → σ'.1 29 f = wyT (σ.1 29) r d now f := by
    intro x hx
    have e4 : (o_I (o_I σ 29 2 r) 29 3 x).1 29 4 = σ.1 29 4 := by simp [i11]
    have e3 : (o_I (o_I σ 29 2 r) 29 3 x).1 29 3 = x := by simp [i11]
    have e0 : (o_I (o_I σ 29 2 r) 29 3 x).1 29 0 = σ.1 29 0 := by simp [i11]
    have e1 : (o_I (o_I σ 29 2 r) 29 3 x).1 29 1 = σ.1 29 1 := by simp [i11]
    have e2 : (o_I (o_I σ 29 2 r) 29 3 x).1 29 2 = r := by simp [i11]
    unfold q_AckBook_Way_take_26
    simp only [op_29_3, oi_29_4, e4, op_29_4, op_29_0, op_29_1, oi_29_3, e3]
    by_cases w : σ.1 29 4 = -1
    · rw [if_pos w]
      refine ⟨_, rfl, rfl, fun o ho => by rw [i_fun_ne ho, i_fun_ne ho, i_fun_ne ho, i_fun_ne ho, i_fun_ne ho], fun f hf => ?_⟩
      unfold wyT
      rcases (by omega : f = 0 ∨ f = 1 ∨ f = 2 ∨ f = 3 ∨ f = 4) with rfl | rfl | rfl | rfl | rfl <;> simp [i11, w, hx]
    · rw [if_neg w]
      have fin : ∀ y : Int32, y = (if r < x + d then r else r - d) → ∃ σ', q_AckBook_Way_take_75 F X (some (B + 29)) y (o_w B X τ (o_I (o_I σ 29 2 r) 29 3 x) n c s) = some (.inl none, o_w B X τ σ' n c s) ∧ σ'.2 = σ.2 ∧ (∀ o, o ≠ 29 → σ'.1 o = σ.1 o) ∧ ∀ f, f < 5 → σ'.1 29 f = wyT (σ.1 29) r d now f := by
        intro y hy
        obtain ⟨σ2, a1, a2, a3, a4, a5, a6⟩ := h75 (o_I (o_I σ 29 2 r) 29 3 x) y
        refine ⟨σ2, a1, a2, fun o ho => by rw [a3 o ho, i_fun_ne ho, i_fun_ne ho], fun f hf => ?_⟩
        unfold wyT
        rw [e0] at a4 a5
        rw [e1] at a5
        rcases (by omega : f = 0 ∨ f = 1 ∨ f = 2 ∨ f = 3 ∨ f = 4) with rfl | rfl | rfl | rfl | rfl
        · simp only [if_true, if_neg w, ← hx, ← hy]
          exact a4
        · simp only [if_true, if_neg w, ← hx, ← hy]
          exact a5
        · simp only [if_true]
          exact (a6 2 (by omega)).trans e2
        · simp only [if_true, ← hx]
          exact (a6 3 (by omega)).trans e3
        · simp only [if_true, if_neg w]
          exact (a6 4 (by omega)).trans e4
      by_cases w2 : r < x + d
      · rw [if_pos w2]
        exact fin r (by rw [if_pos w2])
      · rw [if_neg w2]
        exact fin (r - d) (by rw [if_neg w2])
  have e3 : (o_I σ 29 2 r).1 29 3 = σ.1 29 3 := by simp [i11]
  unfold f_AckBook_Way_take
  simp only [op_29_2, oi_29_3, e3]
  by_cases w : σ.1 29 3 = -1
  · rw [if_pos w]
    exact h26 r (by rw [if_pos w])
  · rw [if_neg w]
    exact h26 _ (by rw [if_neg w])
/-- what an acknowledgement may change on the class's side -/
def cU (k : Nat) (P : Nat → Nat) (m : Nat) (σ σ' : zS) : Prop := σ'.2.1 = σ.2.1 ∧ ∀ o, o ≠ 29 → o ≠ 30 → o ≠ 3 + 8 * k → o ≠ 4 + 8 * k → o ≠ 5 + 8 * k → (∀ i, i < m → o ≠ P i) → σ'.2.2 o = σ.2.2 o ∧ ∀ f, ¬ (o = 0 ∧ f = 5) → σ'.1 o f = σ.1 o f
theorem cU.trans {a b d : zS} (h1 : cU k P m a b) (h2 : cU k P m b d) : cU k P m a d := ⟨h2.1.trans h1.1, fun o p0 p1 p2 p3 p4 p5 => ⟨(h2.2 o p0 p1 p2 p3 p4 p5).1.trans (h1.2 o p0 p1 p2 p3 p4 p5).1, fun f hf => ((h2.2 o p0 p1 p2 p3 p4 p5).2 f hf).trans ((h1.2 o p0 p1 p2 p3 p4 p5).2 f hf)⟩⟩
theorem cH.u (h : cH k P m σ σ') : cU k P m σ σ' := ⟨h.1, fun o _ p1 p2 p3 p4 p5 => ⟨(h.2 o p1 p2 p3 p4 p5).2, fun f _ => by rw [(h.2 o p1 p2 p3 p4 p5).1]⟩⟩
theorem cS.way (hk : k < 3) (hS : cS τ σ k P m D ft q S) (h1 : σ'.2 = σ.2) (h2 : ∀ o, o ≠ 29 → σ'.1 o = σ.1 o) : cS τ σ' k P m D ft q S := by
  have h56 : ∀ j, j < m → 56 ≤ P j := fun j hj => (hS.1.2.2 j hj).1.1.1
  refine ⟨⟨⟨⟨by rw [h2 _ (by omega)]; exact hS.1.1.1.1, hS.1.1.1.2⟩, by rw [h1]; exact hS.1.1.2⟩, hS.1.2.1, fun j hj => ?_⟩, fun b hb => ⟨(hS.2.1 b hb).1.cong (by rw [h1]) (fun _ _ => by rw [h1]), (hS.2.1 b hb).2⟩, by rw [h2 _ (by omega)]; exact hS.2.2⟩
  have := h56 j hj
  rw [h2 _ (by omega), h1]
  exact hS.1.2.2 j hj
/-- the ways' numbers behind an acknowledgement -/
def wyA (w : Nat → Int32) (k : Nat) (D : Nat → Nat → Int32) (ft : Nat → Int32) (inC : Nat → Bool) (m g : Nat) (now delay : Int32) : Nat → Int32 := if ft g = 0 ∧ ∃ a, a ∈ nw ft inC m ∧ D 3 a ≠ 0 then wyT w (now - D 2 g) (if k = 2 then (if 25 < delay then 25 else delay) else 0) now else w
theorem d_settle {g p : Nat} {L H : Nat → Int64} (hk : k < 3) (hS : cS τ σ k P m D ft q S) (h6 : S 6 = -1 ∨ ∃ g0, g0 < m ∧ S 6 = nI g0) (hg : g < m) (hp : p ≤ 64) (hp3 : σ.1 26 3 = nI p) (hL : ∀ j, j < 64 → σ.2.1 27 j = L j) (hH : ∀ j, j < 64 → σ.2.1 28 j = H j) (hcl : clS p L H) (delay : Int32) : ∃ g1, g1 < m ∧ (if S 6 < nI g then nI g else S 6) = nI g1 ∧ pW B X τ n c s (f_AckBook_settle F X (some (B + 0)) (some (B + (2 + 8 * k))) (some (B + P g)) delay (o_w B X τ σ n c s)) (fun v σ' => if nw ft (inR p L H) m = [] then v = some (.int 0) ∧ cU k P m σ σ' ∧ (∀ f, f < 5 → σ'.1 29 f = σ.1 29 f) ∧ σ'.1 0 5 = σ.1 0 5 ∧ ∃ S', cS τ σ' k P m D (fy ft (inR p L H) m) (fun b => if b = 0 then q 0 ++ nw ft (inR p L H) m else q 1) S' ∧ S' 5 = S 5 ∧ S' 6 = nI g1 ∧ S' 7 = S 7 else v = some (.int (nI (nw ft (inR p L H) m).length)) ∧ cU k P m σ σ' ∧ (∀ f, f < 5 → σ'.1 29 f = wyA (σ.1 29) k D ft (inR p L H) m g (σ.1 0 4) delay f) ∧ σ'.1 0 5 = 0 ∧ ∃ S', cS τ σ' k P m D (lsR (D 2) g1 (σ.1 0 4) (limV (wyA (σ.1 29) k D ft (inR p L H) m g (σ.1 0 4) delay 0) (wyA (σ.1 29) k D ft (inR p L H) m g (σ.1 0 4) delay 2)) (fy ft (inR p L H) m)).1 (fun b => if b = 0 then q 0 ++ nw ft (inR p L H) m else q 1 ++ (lsR (D 2) g1 (σ.1 0 4) (limV (wyA (σ.1 29) k D ft (inR p L H) m g (σ.1 0 4) delay 0) (wyA (σ.1 29) k D ft (inR p L H) m g (σ.1 0 4) delay 2)) (fy ft (inR p L H) m)).2.1) S' ∧ S' 5 = S 5 ∧ S' 6 = nI g1 ∧ S' 7 = (lsR (D 2) g1 (σ.1 0 4) (limV (wyA (σ.1 29) k D ft (inR p L H) m g (σ.1 0 4) delay 0) (wyA (σ.1 29) k D ft (inR p L H) m g (σ.1 0 4) delay 2)) (fy ft (inR p L H) m)).2.2) := by
  have hm := hS.1.1.1.2
  have h56 : ∀ j, j < m → 56 ≤ P j := fun j hj => (hS.1.2.2 j hj).1.1.1
  have hpk := (hS.1.2.2 g hg).1.1
  obtain ⟨g1, hg1, hgr⟩ : ∃ g1, g1 < m ∧ (if S 6 < nI g then nI g else S 6) = nI g1 := by
    rcases h6 with h6 | ⟨g0, h0, h6⟩
    · refine ⟨g, hg, ?_⟩
      rw [h6, if_pos]
      rw [Int32.lt_iff_toInt_lt, nI_toInt (by omega), show (-1 : Int32).toInt = -1 by decide]
      omega
    · by_cases w : S 6 < nI g
      · exact ⟨g, hg, if_pos w⟩
      · exact ⟨g0, h0, by rw [if_neg w]; exact h6⟩
  refine ⟨g1, hg1, hgr, ?_⟩
  generalize hC : inR p L H = inC
  have s6 : σ.1 (3 + 8 * k) 6 = S 6 := hS.2.2 6 (by omega) (by omega)
  have hS1 := hS.sent hk (f := 6) (by omega) (nI g1)
  have hF1 : cF k P m σ (o_I σ (3 + 8 * k) 6 (nI g1)) := cF.I (Or.inl rfl)
  have hma : pW B X τ n c s (f_AckBook_Sent_markAcknowledged F X (some (B + (3 + 8 * k))) (some (B + 26)) (o_w B X τ (o_I σ (3 + 8 * k) 6 (nI g1)) n c s)) (fun v σ' => v = some (va_rf ((nw ft inC m).head?.map (fun a => B + P a))) ∧ cF k P m σ σ' ∧ ∃ S', cS τ σ' k P m D (fy ft inC m) (fun b => if b = 0 then q 0 ++ nw ft inC m else q 1) S' ∧ S' 5 = S 5 ∧ S' 6 = nI g1 ∧ S' 7 = S 7) := by
    subst hC
    unfold f_AckBook_Sent_markAcknowledged
    have e3 : (o_I σ (3 + 8 * k) 6 (nI g1)).1 26 3 = nI p := by rw [i11, if_neg (by omega)]; exact hp3
    rw [oi_26_3, e3]
    have f0 : fy ft (inR p L H) 0 = ft := by
      funext a
      unfold fy
      rw [if_neg (by omega)]
    have hq : cS τ (o_I σ (3 + 8 * k) 6 (nI g1)) k P m D (fy ft (inR p L H) 0) (fun b => if b = 0 then q 0 ++ nw ft (inR p L H) 0 else q 1) (rU S 6 (nI g1)) := by
      rw [f0]
      refine ⟨hS1.1, fun b hb => ?_, hS1.2.2⟩
      have z := hS1.2.1 b hb
      rcases (by omega : b = 0 ∨ b = 1) with rfl | rfl
      · show dC _ P (4 + 0 + 8 * k) (q 0 ++ []) ∧ (q 0 ++ []).Nodup ∧ ∀ a, a ∈ q 0 ++ [] → a < m ∧ ft a = nI (0 + 1)
        rw [List.append_nil]
        exact z
      · exact z
    refine ((d_markAck (B := B) (X := X) (F := F) (τ := τ) (n := n) (c := c) (s := s) (σ := o_I σ (3 + 8 * k) 6 (nI g1)) (k := k) (m := m) (P := P) (D := D) (ft := ft) (q := q) (S := rU S 6 (nI g1)) hk hp hL hH hcl (by omega) F).1 p 0 _ _ 0 0 (Nat.le_refl _) (Nat.zero_le _) (fun i hi => (hcl.1 i hi).1) (fun a _ _ h3 => inR_iff.mp h3) (cF.refl k P m _) hq ⟨rfl, rfl, rfl⟩).mono ?_
    rintro v σ' ⟨b1, b2, S', b3, b4, b5, b6⟩
    exact ⟨b1, hF1.trans b2, S', b3, b4, b5, b6⟩
  have n0 : σ.1 (P g) 0 = nI g := (hS.1.2.2 g hg).1.2
  have h12 : ∀ x : Int32, x = (if ft g = 0 then 1 else 0) → pW B X τ n c s (q_AckBook_settle_12 F X (some (B + 0)) (some (B + (2 + 8 * k))) (some (B + P g)) delay x (o_w B X τ σ n c s)) (fun v σ' => if nw ft inC m = [] then v = some (.int 0) ∧ cU k P m σ σ' ∧ (∀ f, f < 5 → σ'.1 29 f = σ.1 29 f) ∧ σ'.1 0 5 = σ.1 0 5 ∧ ∃ S', cS τ σ' k P m D (fy ft inC m) (fun b => if b = 0 then q 0 ++ nw ft inC m else q 1) S' ∧ S' 5 = S 5 ∧ S' 6 = nI g1 ∧ S' 7 = S 7 else v = some (.int (nI (nw ft inC m).length)) ∧ cU k P m σ σ' ∧ (∀ f, f < 5 → σ'.1 29 f = wyA (σ.1 29) k D ft inC m g (σ.1 0 4) delay f) ∧ σ'.1 0 5 = 0 ∧ ∃ S', cS τ σ' k P m D (lsR (D 2) g1 (σ.1 0 4) (limV (wyA (σ.1 29) k D ft inC m g (σ.1 0 4) delay 0) (wyA (σ.1 29) k D ft inC m g (σ.1 0 4) delay 2)) (fy ft inC m)).1 (fun b => if b = 0 then q 0 ++ nw ft inC m else q 1 ++ (lsR (D 2) g1 (σ.1 0 4) (limV (wyA (σ.1 29) k D ft inC m g (σ.1 0 4) delay 0) (wyA (σ.1 29) k D ft inC m g (σ.1 0 4) delay 2)) (fy ft inC m)).2.1) S' ∧ S' 5 = S 5 ∧ S' 6 = nI g1 ∧ S' 7 = (lsR (D 2) g1 (σ.1 0 4) (limV (wyA (σ.1 29) k D ft inC m g (σ.1 0 4) delay 0) (wyA (σ.1 29) k D ft inC m g (σ.1 0 4) delay 2)) (fy ft inC m)).2.2) := by
    intro x hx
    unfold q_AckBook_settle_12 f_AckBook_Sent_raiseGreatest
    simp only [or_s2_1 hk, d_gI hpk 0 (by omega), n0, ot_s3 hk, oi_s3_6 hk, s6, hgr, op_s3_6 hk, y_cV, or_0_1]
    refine pW.cR hma ?_
    rintro r σ1 ⟨b1, b2, S', b3, b4, b5, b6⟩
    have hr := va_rf.inj (Option.some.inj b1)
    subst hr
    have u1 := b2.h.u
    have t1 : ∀ f, σ1.1 0 f = σ.1 0 f := fun f => by rw [(b2.2 0 (by omega) (by omega) (by omega) (fun j hj => by have := h56 j hj; omega)).1]
    have w1 : σ1.1 29 = σ.1 29 := (b2.2 29 (by omega) (by omega) (by omega) (fun j hj => by have := h56 j hj; omega)).1
    cases hl : nw ft inC m with
    | nil =>
      rw [hl] at b3
      simp only [List.head?_nil, Option.map_none, if_true]
      exact pW.ret ⟨rfl, u1, fun f _ => by rw [w1], t1 5, S', b3, b4, b5, b6⟩
    | cons a t =>
      have hlk : lnk σ1 P (nw ft inC m) := (b3.2.1 0 (by decide)).1.2.2.drop (a := q 0)
      have hlm : ∀ a, a ∈ nw ft inC m → a < m := fun a ha => ((b3.2.1 0 (by decide)).2.2 a (List.mem_append.mpr (Or.inr ha))).1
      rw [← hl]
      have hne : nw ft inC m ≠ [] := by rw [hl]; exact fun z => nomatch z
      have hhd : ¬ (nw ft inC m).head?.map (fun a => B + P a) = none := by rw [hl]; exact fun z => nomatch z
      rw [if_neg hhd]
      simp only [if_neg hne]
      have h100 : ∀ (σ2 : zS) (W : Nat → Int32), cS τ σ2 k P m D (fy ft inC m) (fun b => if b = 0 then q 0 ++ nw ft inC m else q 1) S' → cU k P m σ σ2 → lnk σ2 P (nw ft inC m) → (∀ f, f < 5 → σ2.1 29 f = W f) → pW B X τ n c s (q_AckBook_settle_100 F X (some (B + 0)) (some (B + (2 + 8 * k))) ((nw ft inC m).head?.map (fun a => B + P a)) (o_w B X τ σ2 n c s)) (fun v σ' => v = some (.int (nI (nw ft inC m).length)) ∧ cU k P m σ σ' ∧ (∀ f, f < 5 → σ'.1 29 f = W f) ∧ σ'.1 0 5 = 0 ∧ ∃ S', cS τ σ' k P m D (lsR (D 2) g1 (σ.1 0 4) (limV (W 0) (W 2)) (fy ft inC m)).1 (fun b => if b = 0 then q 0 ++ nw ft inC m else q 1 ++ (lsR (D 2) g1 (σ.1 0 4) (limV (W 0) (W 2)) (fy ft inC m)).2.1) S' ∧ S' 5 = S 5 ∧ S' 6 = nI g1 ∧ S' 7 = (lsR (D 2) g1 (σ.1 0 4) (limV (W 0) (W 2)) (fy ft inC m)).2.2) := by
        intro σ2 W c1 c2 c3 c4
        unfold q_AckBook_settle_100 f_AckBook_Flow_leaveAcknowledged
        simp only [or_0_3, ot_30]
        refine pW.cI (d_leaveAck (B := B) (X := X) (F := F) (n := n) (c := c) (s := s) F (nw ft inC m) σ2 0 c1.1.2.2 c3 hlm) ?_
        rintro v σ3 ⟨g3, hv⟩
        have hv := Option.some.inj hv
        injection hv with hv
        subst hv
        rw [Nat.zero_add]
        simp only [or_s2_1 hk, ot_0]
        have c5 := g3.cs hk c1
        refine pW.cV (d_losses (B := B) (X := X) (F := F) (n := n) (c := c) (s := s) (g := g1) hk c5 b5 (by omega)) ?_
        rintro σ4 ⟨-, d1, S4, d2, d3, d4, d5⟩
        have k29 : σ4.1 29 = σ3.1 29 := (d1.2 29 (by omega) (by omega) (by omega) (by omega) (fun j hj => by have := h56 j hj; omega)).1
        have k0 : σ3.1 0 4 = σ.1 0 4 := by
          rw [g3.2 0 (by omega)]
          exact (c2.2 0 (by omega) (by omega) (by omega) (by omega) (by omega) (fun j hj => by have := h56 j hj; omega)).2 4 (by omega)
        have kw : ∀ f, f < 5 → σ3.1 29 f = W f := fun f hf => by rw [g3.2 29 (by omega)]; exact c4 f hf
        rw [k0, kw 0 (by omega), kw 2 (by omega)] at d2 d5
        simp only [op_0_5]
        refine pW.ret ⟨rfl, ?_, fun f hf => ?_, by rw [i11, if_pos ⟨rfl, rfl⟩], S4, ?_, d3.trans b4, d4.trans b5, d5⟩
        · refine (c2.trans (g3.h.u.trans d1.u)).trans ⟨rfl, fun o p0 p1 p2 p3 p4 p5 => ⟨rfl, fun f hf => ?_⟩⟩
          rw [i11, if_neg hf]
        · rw [i11, if_neg (by omega), k29]
          exact kw f hf
        · have n0 : ∀ o, o ≠ 0 → (o_I σ4 0 5 0).1 o = σ4.1 o := fun o ho => i_fun_ne ho
          refine ⟨⟨⟨⟨by rw [n0 _ (by omega)]; exact d2.1.1.1.1, hm⟩, d2.1.1.2⟩, d2.1.2.1, fun j hj => ?_⟩, fun b hb => ⟨(d2.2.1 b hb).1.cong rfl (fun _ _ => rfl), (d2.2.1 b hb).2⟩, by rw [n0 _ (by omega)]; exact d2.2.2⟩
          have := h56 j hj
          rw [n0 _ (by omega)]
          exact d2.1.2.2 j hj
      subst hx
      have at_g : σ1.1 (P g) 2 = D 2 g := (b3.1.2.2 g hg).2.1 2 (by omega) (by omega)
      by_cases z1 : ft g = 0
      · simp only [if_pos z1]
        rw [if_neg (show ¬ (1 : Int32) = 0 by decide)]
        unfold f_AckBook_hasEliciting
        refine pW.cI (d_hasEl (B := B) (X := X) (F := F) (n := n) (c := c) (s := s) b3.1.2.2 F (nw ft inC m) hlk hlm) ?_
        rintro v σ2 ⟨rfl, hv⟩
        have hv := Option.some.inj hv
        injection hv with hv
        subst hv
        by_cases z2 : ∃ a, a ∈ nw ft inC m ∧ D 3 a ≠ 0
        · rw [if_pos z2, if_neg (show ¬ (1 : Int32) = 0 by decide)]
          simp only [oi_s2_0 hk]
          have h76 : ∀ d : Int32, d = (if k = 2 then (if 25 < delay then 25 else delay) else 0) → pW B X τ n c s (q_AckBook_settle_76 F X (some (B + 0)) (some (B + (2 + 8 * k))) (some (B + P g)) ((nw ft inC m).head?.map (fun a => B + P a)) d (o_w B X τ σ2 n c s)) (fun v σ' => v = some (.int (nI (nw ft inC m).length)) ∧ cU k P m σ σ' ∧ (∀ f, f < 5 → σ'.1 29 f = wyA (σ.1 29) k D ft inC m g (σ.1 0 4) delay f) ∧ σ'.1 0 5 = 0 ∧ ∃ S', cS τ σ' k P m D (lsR (D 2) g1 (σ.1 0 4) (limV (wyA (σ.1 29) k D ft inC m g (σ.1 0 4) delay 0) (wyA (σ.1 29) k D ft inC m g (σ.1 0 4) delay 2)) (fy ft inC m)).1 (fun b => if b = 0 then q 0 ++ nw ft inC m else q 1 ++ (lsR (D 2) g1 (σ.1 0 4) (limV (wyA (σ.1 29) k D ft inC m g (σ.1 0 4) delay 0) (wyA (σ.1 29) k D ft inC m g (σ.1 0 4) delay 2)) (fy ft inC m)).2.1) S' ∧ S' 5 = S 5 ∧ S' 6 = nI g1 ∧ S' 7 = (lsR (D 2) g1 (σ.1 0 4) (limV (wyA (σ.1 29) k D ft inC m g (σ.1 0 4) delay 0) (wyA (σ.1 29) k D ft inC m g (σ.1 0 4) delay 2)) (fy ft inC m)).2.2) := by
            intro d hd
            obtain ⟨σ3, a1, a2, a3, a4⟩ := d_take (B := B) (X := X) (F := F) (τ := τ) (n := n) (c := c) (s := s) (σ := σ2) (σ.1 0 4 - D 2 g) d (σ.1 0 4)
            unfold q_AckBook_settle_76
            simp only [or_0_2, oi_0_4, t1 4, d_gI hpk 2 (by omega), at_g, ot_29, a1, y_cV]
            have hw : wyA (σ.1 29) k D ft inC m g (σ.1 0 4) delay = wyT (σ.1 29) (σ.1 0 4 - D 2 g) d (σ.1 0 4) := by
              unfold wyA
              rw [if_pos ⟨z1, z2⟩, hd]
            rw [hw]
            refine h100 σ3 _ (b3.way hk a2 a3) (u1.trans ⟨by rw [a2], fun o p0 _ _ _ _ _ => ⟨by rw [a2], fun f _ => by rw [a3 o p0]⟩⟩) (hlk.cong fun a _ => by rw [a2]) (fun f hf => ?_)
            rw [a4 f hf, w1]
          by_cases z3 : k = 2
          · rw [if_pos (show Int32.ofNat k = 2 by rw [z3]; rfl)]
            exact h76 _ (by rw [if_pos z3])
          · rw [if_neg (show ¬ Int32.ofNat k = 2 from fun z => z3 ((nI_eq (a := k) (b := 2) (by omega) (by decide)).mp z))]
            exact h76 _ (by rw [if_neg z3])
        · rw [if_neg z2, if_pos rfl]
          have hw : wyA (σ.1 29) k D ft inC m g (σ.1 0 4) delay = σ.1 29 := by
            unfold wyA
            rw [if_neg (fun z => z2 z.2)]
          rw [hw]
          exact h100 σ2 _ b3 u1 hlk (fun f _ => by rw [w1])
      · simp only [if_neg z1, if_true]
        have hw : wyA (σ.1 29) k D ft inC m g (σ.1 0 4) delay = σ.1 29 := by
          unfold wyA
          rw [if_neg (fun z => z1 z.1)]
        rw [hw]
        exact h100 σ1 _ b3 u1 hlk (fun f _ => by rw [w1])
  have hf : σ.1 (P g) 6 = ft g := (hS.1.2.2 g hg).2.2.1
  unfold f_AckBook_settle
  simp only [d_gI hpk 6 (by omega), hf]
  by_cases z : ft g = 0
  · rw [if_pos z]
    exact h12 1 (by rw [if_pos z])
  · rw [if_neg z]
    exact h12 0 (by rw [if_neg z])
end DG
