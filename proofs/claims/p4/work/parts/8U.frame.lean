/-! What a method that ends leaves as it is, in any world: arrays of 65, 195 or 3 longs, arrays of ints and booleans, the objects of the classes 5 and 10, the book's clock, the kind and length of every array. -/
section FR
variable {w : zW} {r : Option Nat} {ci k : Nat} {ty : FieldType} {i : Int32}
def zKn (ty : FieldType) (n : Nat) : Prop := (ty = .long ∧ (n = 65 ∨ n = 195 ∨ n = 3)) ∨ ty = .int ∨ ty = .boolean
def zKp (e : zOb) : Prop := (∃ ty n x, e = .inl (ty, n, x) ∧ zKn ty n) ∨ (∃ fs, e = .inr (5, fs)) ∨ ∃ fs, e = .inr (10, fs)
def zFr (w w' : zW) : Prop := w.1 ≤ w'.1 ∧ (∀ a e, a < w.1 → w.2.2.2 a = some e → zKp e → w'.2.2.2 a = some e) ∧ (∀ a fs, a < w.1 → w.2.2.2 a = some (.inr (0, fs)) → ∃ fs', w'.2.2.2 a = some (.inr (0, fs')) ∧ fs'[4]? = fs[4]?) ∧ ∀ a t n x, a < w.1 → w.2.2.2 a = some (.inl (t, n, x)) → ∃ x', w'.2.2.2 a = some (.inl (t, n, x'))
theorem zFr.refl (w : zW) : zFr w w := ⟨Nat.le_refl _, fun _ _ _ h _ => h, fun _ fs _ h => ⟨fs, h, rfl⟩, fun _ _ _ x _ h => ⟨x, h⟩⟩
theorem zFr.trans {a b c : zW} (h1 : zFr a b) (h2 : zFr b c) : zFr a c := by
  refine ⟨Nat.le_trans h1.1 h2.1, fun x e hx he hk => h2.2.1 x e (Nat.lt_of_lt_of_le hx h1.1) (h1.2.1 x e hx he hk) hk, fun x fs hx he => ?_, fun x t n y hx he => ?_⟩
  · obtain ⟨f1, e1, g1⟩ := h1.2.2.1 x fs hx he
    obtain ⟨f2, e2, g2⟩ := h2.2.2.1 x f1 (Nat.lt_of_lt_of_le hx h1.1) e1
    exact ⟨f2, e2, g2.trans g1⟩
  · obtain ⟨y1, e1⟩ := h1.2.2.2 x t n y hx he
    exact h2.2.2.2 x t n y1 (Nat.lt_of_lt_of_le hx h1.1) e1
def zH (w : zW) (x : zR) : Prop := ∀ o w', x = some (o, w') → zFr w w'
theorem zH.none : zH w none := fun _ _ h => nomatch h
theorem zH.ret {o : zO} : zH w (some (o, w)) := fun _ _ h => by
  injection h with h
  injection h with _ h
  subst h
  exact zFr.refl _
theorem zH.of {w1 : zW} {x : zR} (h : zFr w w1) (h2 : zH w1 x) : zH w x := fun o w' e => h.trans (h2 o w' e)
theorem zH.ite {p : Prop} [Decidable p] {a b : zR} (h1 : zH w a) (h2 : zH w b) : zH w (if p then a else b) := by
  split
  · exact h1
  · exact h2
theorem zH.nz {p : Prop} [Decidable p] {K : zR} (h : zH w K) : zH w (z_nz p K) := by
  unfold z_nz
  exact zH.ite zH.none h
theorem zH.this {K : zR} (h : zH w K) : zH w (z_this w ci r K) := by
  unfold z_this
  split
  · exact h
  · exact zH.none
theorem zH.nn {K : zR} (h : zH w K) : zH w (z_nn r K) := by
  unfold z_nn
  split
  · exact h
  · exact zH.none
theorem zH.cast {K : zR} (h : zH w K) : zH w (z_cast w ci r K) := by
  unfold z_cast
  exact zH.ite h zH.none
theorem zH.isAr {K : zR} (h : zH w K) : zH w (z_isAr w ty r K) := by
  unfold z_isAr
  split
  · exact h
  · exact zH.none
theorem zH.retZ {v : Int32} : zH w (z_retZ v w) := by
  unfold z_retZ
  exact zH.ite zH.ret zH.none
theorem zH.getI {K : Int32 → zR} (h : ∀ v, zH w (K v)) : zH w (z_getI w ci k r K) := by
  unfold z_getI
  (repeat' split) <;> first | exact h _ | exact zH.none
theorem zH.getL {K : Int64 → zR} (h : ∀ v, zH w (K v)) : zH w (z_getL w ci k r K) := by
  unfold z_getL
  (repeat' split) <;> first | exact h _ | exact zH.none
theorem zH.getR {K : Option Nat → zR} (h : ∀ v, zH w (K v)) : zH w (z_getR w ci k r K) := by
  unfold z_getR
  (repeat' split) <;> first | exact h _ | exact zH.none
theorem zH.len {K : Int32 → zR} (h : ∀ v, zH w (K v)) : zH w (z_len w r K) := by
  unfold z_len
  (repeat' split) <;> first | exact h _ | exact zH.none
theorem zH.ldI {K : Int32 → zR} (h : ∀ v, zH w (K v)) : zH w (z_ldI w ty r i K) := by
  unfold z_ldI
  (repeat' split) <;> first | exact h _ | exact zH.none
theorem zH.ldL {K : Int64 → zR} (h : ∀ v, zH w (K v)) : zH w (z_ldL w r i K) := by
  unfold z_ldL
  (repeat' split) <;> first | exact h _ | exact zH.none
theorem zH.ldR {K : Option Nat → zR} (h : ∀ v, zH w (K v)) : zH w (z_ldR w ty r i K) := by
  unfold z_ldR
  (repeat' split) <;> first | exact h _ | exact zH.none
theorem zH.cV {x : zR} {K : zW → zR} (hx : zH w x) (h : ∀ w, zH w (K w)) : zH w (z_cV x K) := by
  intro o w' e
  obtain ⟨w1, o1, e1, hz⟩ := z_cV_spec e
  rcases hz with ⟨v, a, a2⟩ | ⟨y, a, a2⟩
  · exact (hx _ _ e1).trans (h w1 o w' a2.2)
  · injection a2 with _ a2
    subst a2
    exact hx _ _ e1
theorem zH.cI {x : zR} {K : Int32 → zW → zR} (hx : zH w x) (h : ∀ v w, zH w (K v w)) : zH w (z_cI x K) := by
  intro o w' e
  obtain ⟨w1, o1, e1, hz⟩ := z_cI_spec e
  rcases hz with ⟨v, a, y, b, a2⟩ | ⟨y, a, a2⟩
  · exact (hx _ _ e1).trans (h y w1 o w' a2)
  · injection a2 with _ a2
    subst a2
    exact hx _ _ e1
theorem zH.cL {x : zR} {K : Int64 → zW → zR} (hx : zH w x) (h : ∀ v w, zH w (K v w)) : zH w (z_cL x K) := by
  intro o w' e
  obtain ⟨w1, o1, e1, hz⟩ := z_cL_spec e
  rcases hz with ⟨v, a, y, b, a2⟩ | ⟨y, a, a2⟩
  · exact (hx _ _ e1).trans (h y w1 o w' a2)
  · injection a2 with _ a2
    subst a2
    exact hx _ _ e1
theorem zH.cR {x : zR} {K : Option Nat → zW → zR} (hx : zH w x) (h : ∀ v w, zH w (K v w)) : zH w (z_cR x K) := by
  intro o w' e
  obtain ⟨w1, o1, e1, hz⟩ := z_cR_spec e
  rcases hz with ⟨v, a, y, b, a2⟩ | ⟨y, a, a2⟩
  · exact (hx _ _ e1).trans (h y w1 o w' a2)
  · injection a2 with _ a2
    subst a2
    exact hx _ _ e1
theorem zFr.push {n : Nat} {e : zOb} : zFr w (z_push w n e) := by
  have key : ∀ a, a < w.1 → (z_push w n e).2.2.2 a = w.2.2.2 a := fun a ha => by
    show (if a = w.1 then some e else w.2.2.2 a) = _
    rw [if_neg (by omega)]
  exact ⟨Nat.le_succ _, fun a e' ha he _ => (key a ha).trans he, fun a fs ha he => ⟨fs, (key a ha).trans he, rfl⟩, fun a t n x ha he => ⟨x, (key a ha).trans he⟩⟩
theorem zH.new {N : Nat} {fs : List Value} {K : Nat → zW → zR} (h : ∀ a w, zH w (K a w)) : zH w (z_new w ci N fs K) := by
  unfold z_new
  exact zH.ite (zH.of zFr.push (h _ _)) zH.none
theorem zH.newa {n : Int32} {x : Nat → vp_A} {K : Nat → zW → zR} (h : ∀ a w, zH w (K a w)) : zH w (z_newa w ty n x K) := by
  unfold z_newa
  exact zH.ite (zH.of zFr.push (h _ _)) zH.none
theorem zH.thr : zH w (z_thr w ci) := by
  unfold z_thr
  refine zH.ite (fun o w' h => ?_) zH.none
  injection h with h
  injection h with _ h
  subst h
  exact zFr.push
theorem zFr.obj {a : Nat} {fs : List Value} {v : Value} (ha : w.2.2.2 a = some (.inr (ci, fs))) (h5 : ci ≠ 5 ∧ ci ≠ 10) (h0 : ci = 0 → k ≠ 4) : zFr w (z_set w a (.inr (ci, fs.set k v))) := by
  refine ⟨Nat.le_refl _, fun b e hb he hk => ?_, fun b gs hb he => ?_, fun b t n x hb he => ?_⟩
  · show (if b = a then _ else w.2.2.2 b) = _
    by_cases q : b = a
    · subst q
      rw [ha] at he
      injection he with he
      subst he
      rcases hk with ⟨t, n, x, hk, -⟩ | ⟨gs, hk⟩ | ⟨gs, hk⟩
      · cases hk
      · injection hk with hk
        injection hk with hk _
        exact absurd hk h5.1
      · injection hk with hk
        injection hk with hk _
        exact absurd hk h5.2
    · rw [if_neg q]
      exact he
  · show ∃ fs', (if b = a then _ else w.2.2.2 b) = _ ∧ _
    by_cases q : b = a
    · subst q
      rw [ha] at he
      injection he with he
      injection he with he
      injection he with e1 e2
      subst e1
      subst e2
      rw [if_pos rfl]
      exact ⟨_, rfl, List.getElem?_set_ne (h0 rfl)⟩
    · rw [if_neg q]
      exact ⟨gs, he, rfl⟩
  · show ∃ x', (if b = a then _ else w.2.2.2 b) = _
    by_cases q : b = a
    · subst q
      rw [ha] at he
      cases he
    · rw [if_neg q]
      exact ⟨x, he⟩
theorem zFr.arr {a n : Nat} {x y} (ha : w.2.2.2 a = some (.inl (ty, n, x))) (ht : ¬ zKn ty n) : zFr w (z_set w a (.inl (ty, n, y))) := by
  refine ⟨Nat.le_refl _, fun b e hb he hk => ?_, fun b gs hb he => ?_, fun b t m x' hb he => ?_⟩
  · show (if b = a then _ else w.2.2.2 b) = _
    by_cases q : b = a
    · subst q
      rw [ha] at he
      injection he with he
      subst he
      rcases hk with ⟨t, m, x, hk, hz⟩ | ⟨gs, hk⟩ | ⟨gs, hk⟩
      · injection hk with hk
        injection hk with h1 h2
        injection h2 with h2 _
        rw [← h1, ← h2] at hz
        exact absurd hz ht
      · cases hk
      · cases hk
    · rw [if_neg q]
      exact he
  · show ∃ fs', (if b = a then _ else w.2.2.2 b) = _ ∧ _
    by_cases q : b = a
    · subst q
      rw [ha] at he
      cases he
    · rw [if_neg q]
      exact ⟨gs, he, rfl⟩
  · show ∃ x', (if b = a then _ else w.2.2.2 b) = _
    by_cases q : b = a
    · subst q
      rw [ha] at he
      injection he with he
      injection he with he
      injection he with e1 e2
      injection e2 with e2 e3
      subst e1
      subst e2
      rw [if_pos rfl]
      exact ⟨y, rfl⟩
    · rw [if_neg q]
      exact ⟨x', he⟩
theorem zH.put {v : Value} {K : zW → zR} (h5 : ci ≠ 5 ∧ ci ≠ 10) (h0 : ci = 0 → k ≠ 4) (h : ∀ w, zH w (K w)) : zH w (z_put w ci k r v K) := by
  unfold z_put
  split
  · rename_i a fs e
    obtain ⟨-, e2⟩ := z_obj_spec e
    exact zH.ite (zH.of (zFr.obj e2 h5 h0) (h _)) zH.none
  · exact zH.none
theorem zH.putZ {x : Int32} {K : zW → zR} (h5 : ci ≠ 5 ∧ ci ≠ 10) (h0 : ci = 0 → k ≠ 4) (h : ∀ w, zH w (K w)) : zH w (z_putZ w ci k r x K) := by
  unfold z_putZ
  exact zH.ite (zH.put h5 h0 h) zH.none
theorem z_arr_sp {a : Nat} {x : vp_A} (h : z_arr w ty r = some (a, x)) : r = some a ∧ w.2.2.2 a = some (.inl (ty, x)) := by
  unfold z_arr at h
  split at h
  · split at h
    · split at h
      · injection h with h
        injection h with h1 h2
        subst h1
        subst h2
        rename_i t
        subst t
        exact ⟨rfl, by assumption⟩
      · cases h
    · cases h
  · cases h
theorem zKn.ob {E : String} {n : Nat} : ¬ zKn (.object E) n := by
  rintro (⟨h, -⟩ | h | h) <;> cases h
theorem zH.stR {E : String} {v : Option Nat} {K : zW → zR} (h : ∀ w, zH w (K w)) : zH w (z_stR w (.object E) ci r i v K) := by
  unfold z_stR
  split
  · rename_i a n f e
    exact zH.ite (zH.of (zFr.arr (z_arr_sp e).2 zKn.ob) (h _)) zH.none
  · exact zH.none
theorem zH.acp {E : String} {rd : Option Nat} {sp dp n : Int32} {K : zW → zR} (h : ∀ w, zH w (K w)) : zH w (z_acp w E ci r sp rd dp n K) := by
  unfold z_acp
  split
  · split
    · rename_i a n f e
      exact zH.ite (zH.of (zFr.arr (z_arr_sp e).2 zKn.ob) (h _)) zH.none
    · exact zH.none
  · exact zH.none
/-- with the world before it kept in sight -/
theorem zH.stA {w1 : zW} {x : Int64} {K : zW → zR} {a n : Nat} {y} (hf : zFr w w1) (ha : a < w.1) (he : w.2.2.2 a = some (.inl (.long, n, y))) (hn : ¬ zKn .long n) (h : ∀ w2, zFr w w2 → zH w (K w2)) : zH w (z_stL w1 (some a) i x K) := by
  obtain ⟨y', e'⟩ := hf.2.2.2 a .long n y ha he
  unfold z_stL
  split
  · rename_i a' n' f e
    obtain ⟨q1, q2⟩ := z_arr_sp e
    injection q1 with q1
    subst q1
    rw [e'] at q2
    injection q2 with q2
    injection q2 with q2
    injection q2 with _ q2
    injection q2 with q3 q4
    subst q3
    subst q4
    exact zH.ite (h _ (hf.trans (zFr.arr e' hn))) zH.none
  · exact zH.none
theorem zH.tI {x : zR} {K : Int32 → zW → zR} {E : Nat → zW → zR} (hx : zH w x) (hK : ∀ v w1, zFr w w1 → zH w (K v w1)) (hE : ∀ ci w1, zFr w w1 → zH w (E ci w1)) : zH w (z_tI x K E) := by
  intro o w' e
  obtain ⟨w1, o1, e1, hz⟩ := z_tI_spec e
  have hf := hx _ _ e1
  rcases hz with ⟨v, a, y, b, a2⟩ | ⟨y, ci, fs, a, a2, a3⟩
  · exact hK y w1 hf o w' a2
  · exact hE ci w1 hf o w' a3
theorem zH.tL {x : zR} {K : Int64 → zW → zR} {E : Nat → zW → zR} (hx : zH w x) (hK : ∀ v w1, zFr w w1 → zH w (K v w1)) (hE : ∀ ci w1, zFr w w1 → zH w (E ci w1)) : zH w (z_tL x K E) := by
  intro o w' e
  obtain ⟨w1, o1, e1, hz⟩ := z_tL_spec e
  have hf := hx _ _ e1
  rcases hz with ⟨v, a, y, b, a2⟩ | ⟨y, ci, fs, a, a2, a3⟩
  · exact hK y w1 hf o w' a2
  · exact hE ci w1 hf o w' a3
theorem zH.rt {w1 : zW} {o : zO} (hf : zFr w w1) : zH w (some (o, w1)) := fun _ _ h => by
  injection h with h
  injection h with _ h
  subst h
  exact hf
end FR
