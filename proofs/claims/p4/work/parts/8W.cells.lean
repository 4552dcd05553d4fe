section FW
variable {B X F : Nat} {τ τ' : zK} {σ σ' : zS} {n c s n' c' s' T : Nat}
/-- the class's cells of what came, and its clock -/
def aC (σ σ' : zS) : Prop := σ'.1 0 4 = σ.1 0 4 ∧ ∀ k, k < 3 → (σ'.1 (7 + 8 * k) 2 = σ.1 (7 + 8 * k) 2 ∧ σ'.2.1 (7 + 8 * k) 3 = σ.2.1 (7 + 8 * k) 3) ∧ (σ'.1 (7 + 8 * k) 4 = σ.1 (7 + 8 * k) 4 ∧ σ'.1 (7 + 8 * k) 5 = σ.1 (7 + 8 * k) 5 ∧ σ'.1 (7 + 8 * k) 6 = σ.1 (7 + 8 * k) 6 ∧ σ'.1 (7 + 8 * k) 7 = σ.1 (7 + 8 * k) 7) ∧ σ'.2.1 (8 + 8 * k) = σ.2.1 (8 + 8 * k) ∧ σ'.2.1 (9 + 8 * k) = σ.2.1 (9 + 8 * k)
theorem aC.refl (σ : zS) : aC σ σ := ⟨rfl, fun _ _ => ⟨⟨rfl, rfl⟩, ⟨rfl, rfl, rfl, rfl⟩, rfl, rfl⟩⟩
theorem aC.trans {a b d : zS} (h1 : aC a b) (h2 : aC b d) : aC a d := ⟨h2.1.trans h1.1, fun k hk => by
  obtain ⟨⟨a1, a2⟩, ⟨a3, a4, a5, a6⟩, a7, a8⟩ := h1.2 k hk
  obtain ⟨⟨b1, b2⟩, ⟨b3, b4, b5, b6⟩, b7, b8⟩ := h2.2 k hk
  exact ⟨⟨b1.trans a1, b2.trans a2⟩, ⟨b3.trans a3, b4.trans a4, b5.trans a5, b6.trans a6⟩, b7.trans a7, b8.trans a8⟩⟩
theorem zFr.pic (hn : 56 ≤ n) (h : zFr (o_w B X τ σ n c s) (o_w B X τ' σ' n' c' s')) {k : Nat} (hk : k < 56) (hp : zKp (o_pic B X σ k)) : o_pic B X σ' k = o_pic B X σ k := by
  have q := h.2.1 (B + k) _ (show B + k < B + n by omega) (o_at hk) hp
  rw [o_at hk] at q
  exact Option.some.inj q
def f_fI (k : Nat) (e : zOb) : Int32 := match e with
  | .inr q => match q.2[k]? with
    | some (.int x) => x
    | _ => 0
  | .inl _ => 0
def f_fL (k : Nat) (e : zOb) : Int64 := match e with
  | .inr q => match q.2[k]? with
    | some (.long x) => x
    | _ => 0
  | .inl _ => 0
def f_aL (e : zOb) : Nat → Int64 := match e with
  | .inl (_, _, .inr (.inl f)) => f
  | _ => fun _ => 0
/-- the reference's -/
def fN (σ σ' : zS) : Prop := (σ'.1 31 1 = σ.1 31 1 ∧ σ'.1 47 = σ.1 47) ∧ (σ'.2.1 48 = σ.2.1 48 ∧ σ'.2.1 49 = σ.2.1 49 ∧ σ'.2.1 50 = σ.2.1 50) ∧ (σ'.1 51 = σ.1 51 ∧ σ'.1 52 = σ.1 52 ∧ σ'.1 53 = σ.1 53 ∧ σ'.1 54 = σ.1 54) ∧ σ'.1 39 = σ.1 39
theorem fN.refl (σ : zS) : fN σ σ := ⟨⟨rfl, rfl⟩, ⟨rfl, rfl, rfl⟩, ⟨rfl, rfl, rfl, rfl⟩, rfl⟩
theorem fN.trans {a b d : zS} (h1 : fN a b) (h2 : fN b d) : fN a d := by
  obtain ⟨⟨a1, a2⟩, ⟨a3, a4, a5⟩, ⟨a6, a7, a8, a9⟩, a10⟩ := h1
  obtain ⟨⟨b1, b2⟩, ⟨b3, b4, b5⟩, ⟨b6, b7, b8, b9⟩, b10⟩ := h2
  exact ⟨⟨b1.trans a1, b2.trans a2⟩, ⟨b3.trans a3, b4.trans a4, b5.trans a5⟩, ⟨b6.trans a6, b7.trans a7, b8.trans a8, b9.trans a9⟩, b10.trans a10⟩
def f_aI (e : zOb) : Nat → Int32 := match e with
  | .inl (_, _, .inl f) => f
  | _ => fun _ => 0
theorem zFr.cells (hn : 56 ≤ n) (h : zFr (o_w B X τ σ n c s) (o_w B X τ' σ' n' c' s')) : aC σ σ' ∧ fN σ σ' := by
  have ki : ∀ m x, zKp (.inl (.int, m, x)) := fun m x => Or.inl ⟨_, _, _, rfl, Or.inr (Or.inl rfl)⟩
  have kb : ∀ m x, zKp (.inl (.boolean, m, x)) := fun m x => Or.inl ⟨_, _, _, rfl, Or.inr (Or.inr rfl)⟩
  have k65 : ∀ x, zKp (.inl (.long, 65, x)) := fun x => Or.inl ⟨_, _, _, rfl, Or.inl ⟨rfl, Or.inl rfl⟩⟩
  have k195 : ∀ x, zKp (.inl (.long, 195, x)) := fun x => Or.inl ⟨_, _, _, rfl, Or.inl ⟨rfl, Or.inr (Or.inl rfl)⟩⟩
  have k3 : ∀ x, zKp (.inl (.long, 3, x)) := fun x => Or.inl ⟨_, _, _, rfl, Or.inl ⟨rfl, Or.inr (Or.inr rfl)⟩⟩
  refine ⟨⟨?_, fun k hk => ?_⟩, ⟨congrArg (f_fI 1) (h.pic hn (k := 31) (by decide) (Or.inr (Or.inr ⟨_, rfl⟩))), congrArg f_aI (h.pic hn (k := 47) (by decide) (ki _ _))⟩, ⟨congrArg f_aL (h.pic hn (k := 48) (by decide) (k195 _)), congrArg f_aL (h.pic hn (k := 49) (by decide) (k195 _)), congrArg f_aL (h.pic hn (k := 50) (by decide) (k3 _))⟩, ⟨congrArg f_aI (h.pic hn (k := 51) (by decide) (ki _ _)), congrArg f_aI (h.pic hn (k := 52) (by decide) (ki _ _)), congrArg f_aI (h.pic hn (k := 53) (by decide) (ki _ _)), congrArg f_aI (h.pic hn (k := 54) (by decide) (kb _ _))⟩, congrArg f_aI (h.pic hn (k := 39) (by decide) (kb _ _))⟩
  · obtain ⟨fs, q1, q2⟩ := h.2.2.1 (B + 0) _ (show B + 0 < B + n by omega) (o_at (k := 0) (by decide))
    rw [o_at (by decide)] at q1
    have q3 : o_pic B X σ' 0 = .inr (0, fs) := Option.some.inj q1
    have q4 : (Sum.inr (0, fs) : zOb) = .inr (0, [.ref (B + 1), .ref (B + 26), .ref (B + 29), .ref (B + 30), .int (σ'.1 0 4), .int (σ'.1 0 5), .int (σ'.1 0 6), .int (σ'.1 0 7), .int (σ'.1 0 8)]) := q3.symm
    injection q4 with q4
    injection q4 with _ q4
    subst q4
    exact Value.int.inj (Option.some.inj q2)
  · rcases (by omega : k = 0 ∨ k = 1 ∨ k = 2) with rfl | rfl | rfl
    · have e7 := h.pic hn (k := 7) (by decide) (Or.inr (Or.inl ⟨_, rfl⟩))
      have e8 := h.pic hn (k := 8) (by decide) (k65 _)
      have e9 := h.pic hn (k := 9) (by decide) (k65 _)
      exact ⟨⟨congrArg (f_fI 2) e7, congrArg (f_fL 3) e7⟩, ⟨congrArg (f_fI 4) e7, congrArg (f_fI 5) e7, congrArg (f_fI 6) e7, congrArg (f_fI 7) e7⟩, congrArg f_aL e8, congrArg f_aL e9⟩
    · have e7 := h.pic hn (k := 15) (by decide) (Or.inr (Or.inl ⟨_, rfl⟩))
      have e8 := h.pic hn (k := 16) (by decide) (k65 _)
      have e9 := h.pic hn (k := 17) (by decide) (k65 _)
      exact ⟨⟨congrArg (f_fI 2) e7, congrArg (f_fL 3) e7⟩, ⟨congrArg (f_fI 4) e7, congrArg (f_fI 5) e7, congrArg (f_fI 6) e7, congrArg (f_fI 7) e7⟩, congrArg f_aL e8, congrArg f_aL e9⟩
    · have e7 := h.pic hn (k := 23) (by decide) (Or.inr (Or.inl ⟨_, rfl⟩))
      have e8 := h.pic hn (k := 24) (by decide) (k65 _)
      have e9 := h.pic hn (k := 25) (by decide) (k65 _)
      exact ⟨⟨congrArg (f_fI 2) e7, congrArg (f_fL 3) e7⟩, ⟨congrArg (f_fI 4) e7, congrArg (f_fI 5) e7, congrArg (f_fI 6) e7, congrArg (f_fI 7) e7⟩, congrArg f_aL e8, congrArg f_aL e9⟩
theorem a_eqw (hn : 56 ≤ n) (h : o_w B X τ σ n c s = o_w B X τ' σ' n' c' s') : (aC σ σ' ∧ fN σ σ') ∧ σ'.1 31 0 = σ.1 31 0 ∧ σ'.2.1 55 0 = σ.2.1 55 0 := by
  have q : zFr (o_w B X τ σ n c s) (o_w B X τ' σ' n' c' s') := by rw [← h]; exact zFr.refl _
  have e55 := congrArg (fun w : zW => w.2.2.2 (B + 55)) h
  simp only [o_at (k := 55) (by decide)] at e55
  exact ⟨q.cells hn, congrArg (f_fI 0) (q.pic hn (k := 31) (by decide) (Or.inr (Or.inr ⟨_, rfl⟩))), (congrFun (congrArg f_aL (Option.some.inj e55)) 0).symm⟩
theorem fM.cc {σ σ' : zS} (h : fM σ σ') : aC σ σ' ∧ fN σ σ' := by
  have g := fun o ho => h.1 o ho
  refine ⟨⟨by rw [(g 0 (by omega)).1], fun k hk => ?_⟩, ⟨h.2, (g 47 (by omega)).1⟩, ⟨(g 48 (by omega)).2, (g 49 (by omega)).2, (g 50 (by omega)).2⟩, ⟨(g 51 (by omega)).1, (g 52 (by omega)).1, (g 53 (by omega)).1, (g 54 (by omega)).1⟩, (g 39 (by omega)).1⟩
  rw [(g (7 + 8 * k) (by omega)).1, (g (7 + 8 * k) (by omega)).2]
  exact ⟨⟨rfl, rfl⟩, ⟨rfl, rfl, rfl, rfl⟩, (g (8 + 8 * k) (by omega)).2, (g (9 + 8 * k) (by omega)).2⟩
theorem zM.cells (hn : 56 ≤ n) {r : zR} {o : zO} (h : zM B X τ n c s σ r) (he : r = some (o, o_w B X τ' σ' n' c' s')) : aC σ σ' ∧ fN σ σ' := by
  obtain ⟨σ2, e1, e2⟩ := h _ _ he
  have a := (a_eqw hn e1.symm).1
  exact ⟨e2.cc.1.trans a.1, e2.cc.2.trans a.2⟩
theorem zH.cells (hn : 56 ≤ n) {r : zR} {o : zO} (h : zH (o_w B X τ σ n c s) r) (he : r = some (o, o_w B X τ' σ' n' c' s')) : aC σ σ' ∧ fN σ σ' := zFr.cells hn (h _ _ he)
theorem kI.n56 (h : kI T τ σ n c s) : 56 ≤ n := by
  obtain ⟨N, rk, R, hJ, hR, hN⟩ := h
  exact hN.1
theorem k64 : ¬ zKn .long 64 := by
  rintro (⟨-, h | h | h⟩ | h | h) <;> cases h
theorem k1 : ¬ zKn .long 1 := by
  rintro (⟨-, h | h | h⟩ | h | h) <;> cases h
theorem zFr.ow (h : ∀ j, j ≠ 26 → j ≠ 27 → j ≠ 28 → o_any B X τ σ' j = o_any B X τ σ j) : zFr (o_w B X τ σ n c s) (o_w B X τ σ' n c s) := by
  have key : ∀ a, (∀ j, a = B + j → j ≠ 26 ∧ j ≠ 27 ∧ j ≠ 28) → (o_w B X τ σ' n c s).2.2.2 a = (o_w B X τ σ n c s).2.2.2 a := by
    intro a ha
    by_cases hb : a < B
    · simp only [o_w, if_pos hb]
    · obtain ⟨j, rfl⟩ : ∃ j, a = B + j := ⟨a - B, by omega⟩
      obtain ⟨h1, h2, h3⟩ := ha j rfl
      rw [o_ata, o_ata, h j h1 h2 h3]
  have key2 : ∀ a, (∀ j, a = B + j → j ≠ 26 ∧ j ≠ 27 ∧ j ≠ 28) ∨ a = B + 26 ∨ a = B + 27 ∨ a = B + 28 := by
    intro a
    by_cases q : a = B + 26 ∨ a = B + 27 ∨ a = B + 28
    · exact Or.inr q
    · exact Or.inl fun j hj => ⟨fun z => q (Or.inl (by omega)), fun z => q (Or.inr (Or.inl (by omega))), fun z => q (Or.inr (Or.inr (by omega)))⟩
  refine ⟨Nat.le_refl _, fun a e ha he hk => ?_, fun a fs ha he => ?_, fun a t m x ha he => ?_⟩
  · rcases key2 a with q | rfl | rfl | rfl
    · rw [key a q]; exact he
    · rw [o_at (by decide)] at he
      injection he with he
      subst he
      rcases hk with ⟨t, m, x, hk, -⟩ | ⟨gs, hk⟩ | ⟨gs, hk⟩
      · cases hk
      · injection hk with hk
        injection hk with hk _
        exact absurd hk (by decide)
      · injection hk with hk
        injection hk with hk _
        exact absurd hk (by decide)
    · rw [o_at (by decide)] at he
      injection he with he
      subst he
      rcases hk with ⟨t, m, x, hk, hz⟩ | ⟨gs, hk⟩ | ⟨gs, hk⟩
      · injection hk with hk
        injection hk with h1 hk
        injection hk with hk _
        rw [← h1, ← hk] at hz
        exact absurd hz k64
      · cases hk
      · cases hk
    · rw [o_at (by decide)] at he
      injection he with he
      subst he
      rcases hk with ⟨t, m, x, hk, hz⟩ | ⟨gs, hk⟩ | ⟨gs, hk⟩
      · injection hk with hk
        injection hk with h1 hk
        injection hk with hk _
        rw [← h1, ← hk] at hz
        exact absurd hz k64
      · cases hk
      · cases hk
  · rcases key2 a with q | rfl | rfl | rfl
    · rw [key a q]; exact ⟨fs, he, rfl⟩
    · rw [o_at (by decide)] at he
      injection he with he
      injection he with he
      injection he with he _
      exact absurd he (by decide)
    · rw [o_at (by decide)] at he
      injection he with he
      cases he
    · rw [o_at (by decide)] at he
      injection he with he
      cases he
  · rcases key2 a with q | rfl | rfl | rfl
    · rw [key a q]; exact ⟨x, he⟩
    · rw [o_at (by decide)] at he
      injection he with he
      cases he
    · rw [o_at (by decide)] at he
      injection he with he
      injection he with he
      injection he with e1 e2
      injection e2 with e2 _
      subst e1
      subst e2
      exact ⟨_, o_at (by decide)⟩
    · rw [o_at (by decide)] at he
      injection he with he
      injection he with he
      injection he with e1 e2
      injection e2 with e2 _
      subst e1
      subst e2
      exact ⟨_, o_at (by decide)⟩
/-- reading alone -/
def zI (w : zW) (x : zR) : Prop := ∀ o w', x = some (o, w') → w' = w
theorem zI.none {w : zW} : zI w none := fun _ _ h => nomatch h
theorem zI.ret {w : zW} {o : zO} : zI w (some (o, w)) := fun _ _ h => by
  injection h with h
  injection h with _ h
  exact h.symm
theorem zI.ite {w : zW} {p : Prop} [Decidable p] {a b : zR} (h1 : zI w a) (h2 : zI w b) : zI w (if p then a else b) := by
  split
  · exact h1
  · exact h2
theorem zI.getI {w w1 : zW} {ci k : Nat} {r : Option Nat} {K : Int32 → zR} (h : ∀ v, zI w (K v)) : zI w (z_getI w1 ci k r K) := by
  unfold z_getI
  (repeat' split) <;> first | exact h _ | exact zI.none
theorem zI.getR {w w1 : zW} {ci k : Nat} {r : Option Nat} {K : Option Nat → zR} (h : ∀ v, zI w (K v)) : zI w (z_getR w1 ci k r K) := by
  unfold z_getR
  (repeat' split) <;> first | exact h _ | exact zI.none
theorem zI.ldL {w w1 : zW} {i : Int32} {r : Option Nat} {K : Int64 → zR} (h : ∀ v, zI w (K v)) : zI w (z_ldL w1 r i K) := by
  unfold z_ldL
  (repeat' split) <;> first | exact h _ | exact zI.none
theorem zH.cIr {w : zW} {x : zR} {K : Int32 → zW → zR} (hx : zI w x) (h : ∀ v, zH w (K v w)) : zH w (z_cI x K) := by
  intro o w' e
  obtain ⟨w1, o1, e1, hz⟩ := z_cI_spec e
  have hw := hx _ _ e1
  subst hw
  rcases hz with ⟨v, a, y, b, a2⟩ | ⟨y, a, a2⟩
  · exact h y o w' a2
  · injection a2 with _ a2
    subst a2
    exact zFr.refl _
theorem h_out (hn : 56 ≤ n) {w1 : zW} (hf : zFr (o_w B X τ σ n c s) w1) (i : Int32) (x : Int64) {o : zO} : zH (o_w B X τ σ n c s) (z_stL w1 (some (B + 55)) i x fun w => some (o, w)) := zH.stA hf (show B + 55 < B + n by omega) (n := 1) (y := .inr (.inl (σ.2.1 55))) (o_at (k := 55) (by decide)) k1 (fun w2 h2 => zH.rt h2)
theorem h_add (l h : Int64) : zH (o_w B X τ σ n c s) (f_AckBook_Claim_add F X (some (B + 26)) l h (o_w B X τ σ n c s)) := by
  unfold f_AckBook_Claim_add
  simp only [oi_26_2, or_26_0, or_26_1, oas_27, oas_28, op_26_2]
  repeat' with_reducible first | exact zH.ret | exact zH.none | exact zH.rt (zFr.ow fun j h1 h2 h3 => (o_I_ne h1).trans ((o_L_ne h3).trans (o_L_ne h2))) | refine zH.ite ?_ ?_
theorem h_span (l h : Int64) : zH (o_w B X τ σ n c s) (f_AckBook_span F X (some (B + 0)) l h (o_w B X τ σ n c s)) := by
  have i1 : zI (o_w B X τ σ n c s) (f_AckBook_Claim_isBelow F X (some (B + 26)) h (o_w B X τ σ n c s)) := by
    unfold f_AckBook_Claim_isBelow
    repeat' with_reducible first | exact zI.ret | exact zI.none | refine zI.getI fun _ => ?_ | refine zI.getR fun _ => ?_ | refine zI.ldL fun _ => ?_ | refine zI.ite ?_ ?_
  have i2 : zI (o_w B X τ σ n c s) (f_AckBook_Claim_isFull F X (some (B + 26)) (o_w B X τ σ n c s)) := by
    unfold f_AckBook_Claim_isFull
    repeat' with_reducible first | exact zI.ret | refine zI.getI fun _ => ?_ | refine zI.ite ?_ ?_
  unfold f_AckBook_span
  refine zH.ite zH.thr (zH.ite ?_ zH.thr)
  rw [or_0_1, ot_26]
  refine zH.cIr i1 fun _ => zH.ite zH.thr ?_
  rw [or_0_1, ot_26]
  refine zH.cIr i2 fun _ => zH.ite ?_ zH.thr
  rw [or_0_1, ot_26]
  exact zH.cI (h_add l h) fun _ _ => zH.ret
theorem h_tick : zH (o_w B X τ (o_I σ 0 4 (σ.1 0 4 + 1)) n c s) (f_AckBook_tick F X (some (B + 0)) (o_w B X τ σ n c s)) := by
  unfold f_AckBook_tick
  rw [oi_0_4, op_0_4]
  repeat' with_reducible first | exact zH.none | exact zH.ret | exact h_f_AckBook_earliest _ _ _ _ _ | exact h_f_AckBook_lookForLosses _ _ _ _ _ | refine zH.ite ?_ ?_ | refine zH.this ?_ | refine zH.getI fun _ => ?_ | refine zH.getR fun _ => ?_ | refine zH.put (by decide) (by decide) fun _ => ?_ | refine zH.cV (h_f_AckBook_lookForLosses _ _ _ _ _) fun _ => ?_ | refine zH.cR (h_f_AckBook_earliest _ _ _ _ _) fun _ _ => ?_
theorem h_l_send (hn : 56 ≤ n) (x y z u : Int32) : zH (o_w B X τ σ n c s) (f_AckBookLaw_send F X (some (B + 0)) x y z u (some (B + 55)) (o_w B X τ σ n c s)) := by
  unfold f_AckBookLaw_send
  refine zH.this (zH.tI (h_f_AckBook_send _ _ _ _ _ _ _ _) (fun v w1 hf => ?_) (fun ci w1 hf => ?_))
  · repeat' with_reducible first | exact h_out hn hf _ _ | refine zH.ite ?_ ?_
  · repeat' with_reducible first | exact zH.rt hf | exact zH.none | refine zH.ite ?_ ?_
theorem h_l_acknowledge (hn : 56 ≤ n) (x y : Int32) : zH (o_w B X τ σ n c s) (f_AckBookLaw_acknowledge F X (some (B + 0)) x y (some (B + 55)) (o_w B X τ σ n c s)) := by
  unfold f_AckBookLaw_acknowledge
  refine zH.this (zH.tI (h_f_AckBook_acknowledge _ _ _ _ _ _) (fun v w1 hf => ?_) (fun ci w1 hf => ?_))
  · repeat' with_reducible first | exact h_out hn hf _ _ | refine zH.ite ?_ ?_
  · repeat' with_reducible first | exact zH.rt hf | exact zH.none | refine zH.ite ?_ ?_
theorem h_l_next (hn : 56 ≤ n) (x y : Int32) : zH (o_w B X τ σ n c s) (f_AckBookLaw_next F X (some (B + 0)) x y (some (B + 55)) (o_w B X τ σ n c s)) := by
  unfold f_AckBookLaw_next
  refine zH.this (zH.tI (h_f_AckBook_next _ _ _ _ _ _) (fun v w1 hf => ?_) (fun ci w1 hf => ?_))
  · repeat' with_reducible first | exact h_out hn hf _ _ | refine zH.ite ?_ ?_
  · repeat' with_reducible first | exact zH.rt hf | exact zH.none | refine zH.ite ?_ ?_
theorem h_l_state (hn : 56 ≤ n) (x y : Int32) : zH (o_w B X τ σ n c s) (f_AckBookLaw_state F X (some (B + 0)) x y (some (B + 55)) (o_w B X τ σ n c s)) := by
  unfold f_AckBookLaw_state
  refine zH.this (zH.tI (h_f_AckBook_state _ _ _ _ _ _) (fun v w1 hf => ?_) (fun ci w1 hf => ?_))
  · repeat' with_reducible first | exact h_out hn hf _ _ | refine zH.ite ?_ ?_
  · repeat' with_reducible first | exact zH.rt hf | exact zH.none | refine zH.ite ?_ ?_
theorem h_l_due (hn : 56 ≤ n) (x : Int32) : zH (o_w B X τ σ n c s) (f_AckBookLaw_due F X (some (B + 0)) x (some (B + 55)) (o_w B X τ σ n c s)) := by
  unfold f_AckBookLaw_due
  refine zH.this (zH.tI (h_f_AckBook_due _ _ _ _ _) (fun v w1 hf => ?_) (fun ci w1 hf => ?_))
  · repeat' with_reducible first | exact h_out hn hf _ _ | refine zH.ite ?_ ?_
  · repeat' with_reducible first | exact zH.rt hf | exact zH.none | refine zH.ite ?_ ?_
theorem h_l_look (hn : 56 ≤ n) (x : Int32) : zH (o_w B X τ σ n c s) (f_AckBookLaw_look F X (some (B + 0)) x (some (B + 55)) (o_w B X τ σ n c s)) := by
  unfold f_AckBookLaw_look
  refine zH.this (zH.tI (h_f_AckBook_look _ _ _ _ _) (fun v w1 hf => ?_) (fun ci w1 hf => ?_))
  · repeat' with_reducible first | exact h_out hn hf _ _ | refine zH.ite ?_ ?_
  · repeat' with_reducible first | exact zH.rt hf | exact zH.none | refine zH.ite ?_ ?_
theorem h_l_range (hn : 56 ≤ n) (x y z : Int32) : zH (o_w B X τ σ n c s) (f_AckBookLaw_range F X (some (B + 0)) x y z (some (B + 55)) (o_w B X τ σ n c s)) := by
  unfold f_AckBookLaw_range
  refine zH.this (zH.tL (h_f_AckBook_range _ _ _ _ _ _ _) (fun v w1 hf => ?_) (fun ci w1 hf => ?_))
  · repeat' with_reducible first | exact h_out hn hf _ _ | refine zH.ite ?_ ?_
  · repeat' with_reducible first | exact zH.rt hf | exact zH.none | refine zH.ite ?_ ?_
theorem h_l_space (hn : 56 ≤ n) (x y : Int32) : zH (o_w B X τ σ n c s) (f_AckBookLaw_space F X (some (B + 0)) x y (some (B + 55)) (o_w B X τ σ n c s)) := by
  unfold f_AckBookLaw_space
  refine zH.this (zH.tL (h_f_AckBook_space _ _ _ _ _ _) (fun v w1 hf => ?_) (fun ci w1 hf => ?_))
  · repeat' with_reducible first | exact h_out hn hf _ _ | refine zH.ite ?_ ?_
  · repeat' with_reducible first | exact zH.rt hf | exact zH.none | refine zH.ite ?_ ?_
theorem h_l_span (hn : 56 ≤ n) (x y : Int64) : zH (o_w B X τ σ n c s) (f_AckBookLaw_span F X (some (B + 0)) x y (some (B + 55)) (o_w B X τ σ n c s)) := by
  unfold f_AckBookLaw_span
  refine zH.this (zH.tI (h_span _ _) (fun v w1 hf => ?_) (fun ci w1 hf => ?_))
  · repeat' with_reducible first | exact h_out hn hf _ _ | refine zH.ite ?_ ?_
  · repeat' with_reducible first | exact zH.rt hf | exact zH.none | refine zH.ite ?_ ?_
end FW
