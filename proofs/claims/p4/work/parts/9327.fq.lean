section FQ
variable {w : zW} {r : Option Nat} {ci k x0 : Nat} {ty : FieldType} {i : Int32}
def kQ (x0 : Nat) (w w' : zW) : Prop := w.1 ≤ w'.1 ∧ ∀ a, a < w.1 → a ≠ x0 → w'.2.2.2 a = w.2.2.2 a
theorem kQ.refl (w : zW) : kQ x0 w w := ⟨Nat.le_refl _, fun _ _ _ => rfl⟩
theorem kQ.trans {a b d : zW} (h1 : kQ x0 a b) (h2 : kQ x0 b d) : kQ x0 a d := ⟨Nat.le_trans h1.1 h2.1, fun x hx hn => (h2.2 x (Nat.lt_of_lt_of_le hx h1.1) hn).trans (h1.2 x hx hn)⟩
def zQ (x0 : Nat) (w : zW) (x : zR) : Prop := ∀ o w', x = some (o, w') → kQ x0 w w'
theorem kQ.push {n : Nat} {e : zOb} : kQ x0 w (z_push w n e) := ⟨Nat.le_succ _, fun a ha _ => by
  show (if a = w.1 then some e else w.2.2.2 a) = _
  rw [if_neg (by omega)]⟩
theorem zQ.none : zQ x0 w none := fun _ _ h => nomatch h
theorem zQ.ret {o : zO} : zQ x0 w (some (o, w)) := fun _ _ h => by
  injection h with h
  injection h with _ h
  subst h
  exact kQ.refl _
theorem zQ.of {w1 : zW} {x : zR} (h : kQ x0 w w1) (h2 : zQ x0 w1 x) : zQ x0 w x := fun o w' e => h.trans (h2 o w' e)
theorem zQ.ite {p : Prop} [Decidable p] {a b : zR} (h1 : zQ x0 w a) (h2 : zQ x0 w b) : zQ x0 w (if p then a else b) := by
  split
  · exact h1
  · exact h2
theorem zQ.nz {p : Prop} [Decidable p] {K : zR} (h : zQ x0 w K) : zQ x0 w (z_nz p K) := by
  unfold z_nz
  exact zQ.ite zQ.none h
theorem zQ.this {K : zR} (h : zQ x0 w K) : zQ x0 w (z_this w ci r K) := by
  unfold z_this
  split
  · exact h
  · exact zQ.none
theorem zQ.nn {K : zR} (h : zQ x0 w K) : zQ x0 w (z_nn r K) := by
  unfold z_nn
  split
  · exact h
  · exact zQ.none
theorem zQ.cast {K : zR} (h : zQ x0 w K) : zQ x0 w (z_cast w ci r K) := by
  unfold z_cast
  exact zQ.ite h zQ.none
theorem zQ.isAr {K : zR} (h : zQ x0 w K) : zQ x0 w (z_isAr w ty r K) := by
  unfold z_isAr
  split
  · exact h
  · exact zQ.none
theorem zQ.retZ {v : Int32} : zQ x0 w (z_retZ v w) := by
  unfold z_retZ
  exact zQ.ite zQ.ret zQ.none
theorem zQ.getI {K : Int32 → zR} (h : ∀ v, zQ x0 w (K v)) : zQ x0 w (z_getI w ci k r K) := by
  unfold z_getI
  (repeat' split) <;> first | exact h _ | exact zQ.none
theorem zQ.getL {K : Int64 → zR} (h : ∀ v, zQ x0 w (K v)) : zQ x0 w (z_getL w ci k r K) := by
  unfold z_getL
  (repeat' split) <;> first | exact h _ | exact zQ.none
theorem zQ.getR {K : Option Nat → zR} (h : ∀ v, zQ x0 w (K v)) : zQ x0 w (z_getR w ci k r K) := by
  unfold z_getR
  (repeat' split) <;> first | exact h _ | exact zQ.none
theorem zQ.len {K : Int32 → zR} (h : ∀ v, zQ x0 w (K v)) : zQ x0 w (z_len w r K) := by
  unfold z_len
  (repeat' split) <;> first | exact h _ | exact zQ.none
theorem zQ.ldI {K : Int32 → zR} (h : ∀ v, zQ x0 w (K v)) : zQ x0 w (z_ldI w ty r i K) := by
  unfold z_ldI
  (repeat' split) <;> first | exact h _ | exact zQ.none
theorem zQ.ldL {K : Int64 → zR} (h : ∀ v, zQ x0 w (K v)) : zQ x0 w (z_ldL w r i K) := by
  unfold z_ldL
  (repeat' split) <;> first | exact h _ | exact zQ.none
theorem zQ.ldR {K : Option Nat → zR} (h : ∀ v, zQ x0 w (K v)) : zQ x0 w (z_ldR w ty r i K) := by
  unfold z_ldR
  (repeat' split) <;> first | exact h _ | exact zQ.none
theorem zQ.cV {x : zR} {K : zW → zR} (hx : zQ x0 w x) (h : ∀ w, zQ x0 w (K w)) : zQ x0 w (z_cV x K) := by
  intro o w' e
  obtain ⟨w1, o1, e1, hz⟩ := z_cV_spec e
  rcases hz with ⟨v, a, a2⟩ | ⟨y, a, a2⟩
  · exact (hx _ _ e1).trans (h w1 o w' a2.2)
  · injection a2 with _ a2
    subst a2
    exact hx _ _ e1
theorem zQ.cI {x : zR} {K : Int32 → zW → zR} (hx : zQ x0 w x) (h : ∀ v w, zQ x0 w (K v w)) : zQ x0 w (z_cI x K) := by
  intro o w' e
  obtain ⟨w1, o1, e1, hz⟩ := z_cI_spec e
  rcases hz with ⟨v, a, y, b, a2⟩ | ⟨y, a, a2⟩
  · exact (hx _ _ e1).trans (h y w1 o w' a2)
  · injection a2 with _ a2
    subst a2
    exact hx _ _ e1
theorem zQ.cL {x : zR} {K : Int64 → zW → zR} (hx : zQ x0 w x) (h : ∀ v w, zQ x0 w (K v w)) : zQ x0 w (z_cL x K) := by
  intro o w' e
  obtain ⟨w1, o1, e1, hz⟩ := z_cL_spec e
  rcases hz with ⟨v, a, y, b, a2⟩ | ⟨y, a, a2⟩
  · exact (hx _ _ e1).trans (h y w1 o w' a2)
  · injection a2 with _ a2
    subst a2
    exact hx _ _ e1
theorem zQ.cR {x : zR} {K : Option Nat → zW → zR} (hx : zQ x0 w x) (h : ∀ v w, zQ x0 w (K v w)) : zQ x0 w (z_cR x K) := by
  intro o w' e
  obtain ⟨w1, o1, e1, hz⟩ := z_cR_spec e
  rcases hz with ⟨v, a, y, b, a2⟩ | ⟨y, a, a2⟩
  · exact (hx _ _ e1).trans (h y w1 o w' a2)
  · injection a2 with _ a2
    subst a2
    exact hx _ _ e1
theorem zQ.new {N : Nat} {fs : List Value} {K : Nat → zW → zR} (h : ∀ a w, zQ x0 w (K a w)) : zQ x0 w (z_new w ci N fs K) := by
  unfold z_new
  exact zQ.ite (zQ.of kQ.push (h _ _)) zQ.none
theorem zQ.newa {n : Int32} {x : Nat → vp_A} {K : Nat → zW → zR} (h : ∀ a w, zQ x0 w (K a w)) : zQ x0 w (z_newa w ty n x K) := by
  unfold z_newa
  exact zQ.ite (zQ.of kQ.push (h _ _)) zQ.none
theorem zQ.thr : zQ x0 w (z_thr w ci) := by
  unfold z_thr
  refine zQ.ite (fun o w' h => ?_) zQ.none
  injection h with h
  injection h with _ h
  subst h
  exact kQ.push
theorem zQ.tI {x : zR} {K : Int32 → zW → zR} {E : Nat → zW → zR} (hx : zQ x0 w x) (hK : ∀ v w1, kQ x0 w w1 → zQ x0 w (K v w1)) (hE : ∀ ci w1, kQ x0 w w1 → zQ x0 w (E ci w1)) : zQ x0 w (z_tI x K E) := by
  intro o w' e
  obtain ⟨w1, o1, e1, hz⟩ := z_tI_spec e
  have hf := hx _ _ e1
  rcases hz with ⟨v, a, y, b, a2⟩ | ⟨y, ci, fs, a, a2, a3⟩
  · exact hK y w1 hf o w' a2
  · exact hE ci w1 hf o w' a3
theorem zQ.tL {x : zR} {K : Int64 → zW → zR} {E : Nat → zW → zR} (hx : zQ x0 w x) (hK : ∀ v w1, kQ x0 w w1 → zQ x0 w (K v w1)) (hE : ∀ ci w1, kQ x0 w w1 → zQ x0 w (E ci w1)) : zQ x0 w (z_tL x K E) := by
  intro o w' e
  obtain ⟨w1, o1, e1, hz⟩ := z_tL_spec e
  have hf := hx _ _ e1
  rcases hz with ⟨v, a, y, b, a2⟩ | ⟨y, ci, fs, a, a2, a3⟩
  · exact hK y w1 hf o w' a2
  · exact hE ci w1 hf o w' a3
theorem zQ.rt {w1 : zW} {o : zO} (hf : kQ x0 w w1) : zQ x0 w (some (o, w1)) := fun _ _ h => by
  injection h with h
  injection h with _ h
  subst h
  exact hf
theorem zQ.stL {x : Int64} {K : zW → zR} (h : ∀ w, zQ x0 w (K w)) : zQ x0 w (z_stL w (some x0) i x K) := by
  unfold z_stL
  split
  · rename_i a n f e
    obtain ⟨q1, q2⟩ := z_arr_sp e
    injection q1 with q1
    subst q1
    have key : ∀ e', kQ x0 w (z_set w x0 e') := fun e' => ⟨Nat.le_refl _, fun b hb hn => by
      show (if b = x0 then _ else w.2.2.2 b) = _
      rw [if_neg hn]⟩
    exact zQ.ite (zQ.of (key _) (h _)) zQ.none
  · exact zQ.none
theorem hq_f_AckBook_Chain_init (F X : Nat) (a0 : Option Nat) (w : zW) : zQ x0 w (f_AckBook_Chain_init F X a0 w) := by
  unfold f_AckBook_Chain_init
  repeat' with_reducible first | exact zQ.none | exact zQ.ret | refine zQ.nn ?_
theorem hq_f_AbstractCollection_init (F X : Nat) (a0 : Option Nat) (w : zW) : zQ x0 w (f_AbstractCollection_init F X a0 w) := by
  unfold f_AbstractCollection_init
  repeat' with_reducible first | exact zQ.none | exact zQ.ret | refine zQ.nn ?_
theorem hq_f_AckBook_Way_patience (F X : Nat) (a0 : Option Nat) (w : zW) : zQ x0 w (f_AckBook_Way_patience F X a0 w) := by
  unfold f_AckBook_Way_patience
  repeat' with_reducible first | exact zQ.ret | refine zQ.ite ?_ ?_ | refine zQ.getI fun _ => ?_
theorem hq_q_AckBook_patience_20 (F X : Nat) (rL0 : Option Nat) (xS0 : Int32) (w : zW) : zQ x0 w (q_AckBook_patience_20 F X rL0 xS0 w) := by
  unfold q_AckBook_patience_20
  repeat' with_reducible first | exact zQ.ret | exact hq_f_AckBook_Way_patience _ _ _ _ | refine zQ.ite ?_ ?_ | refine zQ.this ?_ | refine zQ.getR fun _ => ?_ | refine zQ.cI (hq_f_AckBook_Way_patience _ _ _ _) fun _ _ => ?_
theorem hq_q_AckBook_patience_19 (F X : Nat) (rL0 : Option Nat) (w : zW) : zQ x0 w (q_AckBook_patience_19 F X rL0 w) := by
  unfold q_AckBook_patience_19
  repeat' with_reducible first | exact zQ.ret | exact hq_q_AckBook_patience_20 _ _ _ _ _
theorem hq_f_AckBook_patience (F X : Nat) (a0 : Option Nat) (pR1 : Option Nat) (w : zW) : zQ x0 w (f_AckBook_patience F X a0 pR1 w) := by
  unfold f_AckBook_patience
  repeat' with_reducible first | exact zQ.ret | exact hq_q_AckBook_patience_19 _ _ _ _ | exact hq_q_AckBook_patience_20 _ _ _ _ _ | refine zQ.ite ?_ ?_ | refine zQ.getI fun _ => ?_
theorem hq_j_AckBook_probesWithoutCause (F X : Nat) : ∀ (N : Nat) (a1 : Option Nat) (a2 : Option Nat) (a3 : Int32) (a4 : Int32) (w : zW), zQ x0 w (j_AckBook_probesWithoutCause F X N a1 a2 a3 a4 w) := by
  intro N
  induction N with
  | zero => exact fun a1 a2 a3 a4 w => zQ.none
  | succ N ih =>
    intro a1 a2 a3 a4 w
    rw [j_AckBook_probesWithoutCause]
    repeat' with_reducible first | exact ih _ _ _ _ _ | exact zQ.none | exact zQ.ret | exact zQ.retZ | refine zQ.ite ?_ ?_ | refine zQ.getI fun _ => ?_ | refine zQ.getR fun _ => ?_ | refine zQ.len fun _ => ?_ | refine zQ.ldR fun _ => ?_
theorem hq_f_AckBook_probesWithoutCause (F X : Nat) (a0 : Option Nat) (pR1 : Option Nat) (w : zW) : zQ x0 w (f_AckBook_probesWithoutCause F X a0 pR1 w) := by
  unfold f_AckBook_probesWithoutCause
  repeat' with_reducible first | exact zQ.ret | exact hq_j_AckBook_probesWithoutCause _ _ _ _ _ _ _ _ | refine zQ.ite ?_ ?_ | refine zQ.getI fun _ => ?_
theorem hq_q_AckBook_probeTime_24 (F X : Nat) (rL0 : Option Nat) (rL1 : Option Nat) (w : zW) : zQ x0 w (q_AckBook_probeTime_24 F X rL0 rL1 w) := by
  unfold q_AckBook_probeTime_24
  repeat' with_reducible first | exact zQ.ret | exact hq_f_AckBook_patience _ _ _ _ _ | exact hq_f_AckBook_probesWithoutCause _ _ _ _ _ | refine zQ.ite ?_ ?_ | refine zQ.this ?_ | refine zQ.getI fun _ => ?_ | refine zQ.getR fun _ => ?_ | refine zQ.cI (hq_f_AckBook_patience _ _ _ _ _) fun _ _ => ?_ | refine zQ.cI (hq_f_AckBook_probesWithoutCause _ _ _ _ _) fun _ _ => ?_
theorem hq_f_AckBook_probeTime (F X : Nat) (a0 : Option Nat) (pR1 : Option Nat) (w : zW) : zQ x0 w (f_AckBook_probeTime F X a0 pR1 w) := by
  unfold f_AckBook_probeTime
  repeat' with_reducible first | exact zQ.ret | exact hq_q_AckBook_probeTime_24 _ _ _ _ _ | refine zQ.ite ?_ ?_ | refine zQ.getI fun _ => ?_
theorem hq_q_AckBook_earliest_89 (F X : Nat) (J : Option Nat → Int32 → Option Nat → Int32 → Int32 → zW → zR) (rL0 : Option Nat) (xL1 : Int32) (xL4 : Int32) (rL5 : Option Nat) (xL6 : Int32) (w : zW) (hJ : ∀ (b0 : Option Nat) (b1 : Int32) (b2 : Option Nat) (b3 : Int32) (b4 : Int32) (w : zW), zQ x0 w (J b0 b1 b2 b3 b4 w)) : zQ x0 w (q_AckBook_earliest_89 F X J rL0 xL1 xL4 rL5 xL6 w) := by
  unfold q_AckBook_earliest_89
  repeat' with_reducible first | exact hJ _ _ _ _ _ _ | exact zQ.ret
theorem hq_q_AckBook_earliest_72 (F X : Nat) (J : Option Nat → Int32 → Option Nat → Int32 → Int32 → zW → zR) (rL0 : Option Nat) (xL1 : Int32) (rL2 : Option Nat) (xL3 : Int32) (xL4 : Int32) (rL5 : Option Nat) (xL6 : Int32) (xS0 : Int32) (w : zW) (hJ : ∀ (b0 : Option Nat) (b1 : Int32) (b2 : Option Nat) (b3 : Int32) (b4 : Int32) (w : zW), zQ x0 w (J b0 b1 b2 b3 b4 w)) : zQ x0 w (q_AckBook_earliest_72 F X J rL0 xL1 rL2 xL3 xL4 rL5 xL6 xS0 w) := by
  unfold q_AckBook_earliest_72
  repeat' with_reducible first | exact hJ _ _ _ _ _ _ | exact zQ.none | exact zQ.ret | exact hq_q_AckBook_earliest_89 _ _ _ _ _ _ _ _ _ hJ | refine zQ.ite ?_ ?_
theorem hq_q_AckBook_earliest_71 (F X : Nat) (J : Option Nat → Int32 → Option Nat → Int32 → Int32 → zW → zR) (rL0 : Option Nat) (xL1 : Int32) (rL2 : Option Nat) (xL3 : Int32) (xL4 : Int32) (rL5 : Option Nat) (xL6 : Int32) (w : zW) (hJ : ∀ (b0 : Option Nat) (b1 : Int32) (b2 : Option Nat) (b3 : Int32) (b4 : Int32) (w : zW), zQ x0 w (J b0 b1 b2 b3 b4 w)) : zQ x0 w (q_AckBook_earliest_71 F X J rL0 xL1 rL2 xL3 xL4 rL5 xL6 w) := by
  unfold q_AckBook_earliest_71
  repeat' with_reducible first | exact hJ _ _ _ _ _ _ | exact zQ.ret | exact hq_q_AckBook_earliest_72 _ _ _ _ _ _ _ _ _ _ _ _ hJ
theorem hq_q_AckBook_earliest_50 (F X : Nat) (J : Option Nat → Int32 → Option Nat → Int32 → Int32 → zW → zR) (rL0 : Option Nat) (xL1 : Int32) (rL2 : Option Nat) (xL3 : Int32) (xL4 : Int32) (rL5 : Option Nat) (xS0 : Int32) (w : zW) (hJ : ∀ (b0 : Option Nat) (b1 : Int32) (b2 : Option Nat) (b3 : Int32) (b4 : Int32) (w : zW), zQ x0 w (J b0 b1 b2 b3 b4 w)) : zQ x0 w (q_AckBook_earliest_50 F X J rL0 xL1 rL2 xL3 xL4 rL5 xS0 w) := by
  unfold q_AckBook_earliest_50
  repeat' with_reducible first | exact hJ _ _ _ _ _ _ | exact zQ.ret | exact hq_q_AckBook_earliest_71 _ _ _ _ _ _ _ _ _ _ _ hJ | exact hq_q_AckBook_earliest_72 _ _ _ _ _ _ _ _ _ _ _ _ hJ | refine zQ.ite ?_ ?_ | refine zQ.getI fun _ => ?_
theorem hq_j_AckBook_earliest (F X : Nat) : ∀ (N : Nat) (a1 : Option Nat) (a2 : Int32) (a3 : Option Nat) (a4 : Int32) (a5 : Int32) (w : zW), zQ x0 w (j_AckBook_earliest F X N a1 a2 a3 a4 a5 w) := by
  intro N
  induction N with
  | zero => exact fun a1 a2 a3 a4 a5 w => zQ.none
  | succ N ih =>
    intro a1 a2 a3 a4 a5 w
    rw [j_AckBook_earliest]
    repeat' with_reducible first | exact ih _ _ _ _ _ _ | exact zQ.none | exact zQ.ret | exact hq_q_AckBook_earliest_50 _ _ _ _ _ _ _ _ _ _ _ ih | exact hq_f_AckBook_probeTime _ _ _ _ _ | refine zQ.ite ?_ ?_ | refine zQ.this ?_ | refine zQ.getI fun _ => ?_ | refine zQ.getR fun _ => ?_ | refine zQ.len fun _ => ?_ | refine zQ.ldR fun _ => ?_ | refine zQ.cI (hq_f_AckBook_probeTime _ _ _ _ _) fun _ _ => ?_
theorem hq_f_AckBook_earliest (F X : Nat) (a0 : Option Nat) (pI1 : Int32) (w : zW) : zQ x0 w (f_AckBook_earliest F X a0 pI1 w) := by
  unfold f_AckBook_earliest
  repeat' with_reducible first | exact zQ.none | exact zQ.ret | exact hq_j_AckBook_earliest _ _ _ _ _ _ _ _ _ | refine zQ.getI fun _ => ?_
theorem hq_f_AckBook_Way_limit (F X : Nat) (a0 : Option Nat) (w : zW) : zQ x0 w (f_AckBook_Way_limit F X a0 w) := by
  unfold f_AckBook_Way_limit
  repeat' with_reducible first | exact zQ.ret | refine zQ.ite ?_ ?_ | refine zQ.getI fun _ => ?_
theorem hq_f_ArrayList_size (F X : Nat) (a0 : Option Nat) (w : zW) : zQ x0 w (f_ArrayList_size F X a0 w) := by
  unfold f_ArrayList_size
  repeat' with_reducible first | exact zQ.ret | refine zQ.getI fun _ => ?_
theorem hq_f_Preconditions_checkIndex (F X : Nat) (pI1 : Int32) (pI2 : Int32) (pR3 : Option Nat) (w : zW) : zQ x0 w (f_Preconditions_checkIndex F X pI1 pI2 pR3 w) := by
  unfold f_Preconditions_checkIndex
  repeat' with_reducible first | exact zQ.none | exact zQ.ret | refine zQ.ite ?_ ?_
theorem hq_f_Objects_checkIndex (F X : Nat) (pI1 : Int32) (pI2 : Int32) (w : zW) : zQ x0 w (f_Objects_checkIndex F X pI1 pI2 w) := by
  unfold f_Objects_checkIndex
  repeat' with_reducible first | exact zQ.none | exact zQ.ret | exact hq_f_Preconditions_checkIndex _ _ _ _ _ _ | refine zQ.cI (hq_f_Preconditions_checkIndex _ _ _ _ _ _) fun _ _ => ?_
theorem hq_f_ArrayList_elementData (F X : Nat) (a0 : Option Nat) (pI1 : Int32) (w : zW) : zQ x0 w (f_ArrayList_elementData F X a0 pI1 w) := by
  unfold f_ArrayList_elementData
  repeat' with_reducible first | exact zQ.ret | refine zQ.getR fun _ => ?_ | refine zQ.ldR fun _ => ?_
theorem hq_f_ArrayList_get (F X : Nat) (a0 : Option Nat) (pI1 : Int32) (w : zW) : zQ x0 w (f_ArrayList_get F X a0 pI1 w) := by
  unfold f_ArrayList_get
  repeat' with_reducible first | exact zQ.ret | exact hq_f_Objects_checkIndex _ _ _ _ _ | exact hq_f_ArrayList_elementData _ _ _ _ _ | refine zQ.this ?_ | refine zQ.getI fun _ => ?_ | refine zQ.cI (hq_f_Objects_checkIndex _ _ _ _ _) fun _ _ => ?_ | refine zQ.cR (hq_f_ArrayList_elementData _ _ _ _ _) fun _ _ => ?_
theorem hq_f_AckBook_Flow_isAfterRecovery (F X : Nat) (a0 : Option Nat) (pR1 : Option Nat) (w : zW) : zQ x0 w (f_AckBook_Flow_isAfterRecovery F X a0 pR1 w) := by
  unfold f_AckBook_Flow_isAfterRecovery
  repeat' with_reducible first | exact zQ.ret | refine zQ.ite ?_ ?_ | refine zQ.getI fun _ => ?_
theorem hq_q_AckBook_Flow_leaveLost_41 (F X : Nat) (J : Option Nat → Int32 → Int32 → Option Nat → zW → zR) (rL0 : Option Nat) (xL2 : Int32) (rL4 : Option Nat) (w : zW) (hJ : ∀ (b0 : Option Nat) (b1 : Int32) (b2 : Int32) (b3 : Option Nat) (w : zW), zQ x0 w (J b0 b1 b2 b3 w)) : zQ x0 w (q_AckBook_Flow_leaveLost_41 F X J rL0 xL2 rL4 w) := by
  unfold q_AckBook_Flow_leaveLost_41
  repeat' with_reducible first | exact hJ _ _ _ _ _ | exact zQ.ret | refine zQ.getR fun _ => ?_
theorem hq_q_AckBook_Flow_leaveLost_37 (F X : Nat) (J : Option Nat → Int32 → Int32 → Option Nat → zW → zR) (rL0 : Option Nat) (xL2 : Int32) (rL4 : Option Nat) (w : zW) (hJ : ∀ (b0 : Option Nat) (b1 : Int32) (b2 : Int32) (b3 : Option Nat) (w : zW), zQ x0 w (J b0 b1 b2 b3 w)) : zQ x0 w (q_AckBook_Flow_leaveLost_37 F X J rL0 xL2 rL4 w) := by
  unfold q_AckBook_Flow_leaveLost_37
  repeat' with_reducible first | exact hJ _ _ _ _ _ | exact zQ.ret | refine zQ.getR fun _ => ?_
theorem hq_j_AckBook_Sent_hasAcknowledged (F X : Nat) : ∀ (N : Nat) (a1 : Option Nat) (a2 : Int32) (a3 : Int32) (w : zW), zQ x0 w (j_AckBook_Sent_hasAcknowledged F X N a1 a2 a3 w) := by
  intro N
  induction N with
  | zero => exact fun a1 a2 a3 w => zQ.none
  | succ N ih =>
    intro a1 a2 a3 w
    rw [j_AckBook_Sent_hasAcknowledged]
    repeat' with_reducible first | exact ih _ _ _ _ | exact zQ.none | exact zQ.ret | exact hq_f_ArrayList_size _ _ _ _ | exact hq_f_ArrayList_get _ _ _ _ _ | refine zQ.ite ?_ ?_ | refine zQ.this ?_ | refine zQ.cast ?_ | refine zQ.getI fun _ => ?_ | refine zQ.getR fun _ => ?_ | refine zQ.cI (hq_f_ArrayList_size _ _ _ _) fun _ _ => ?_ | refine zQ.cR (hq_f_ArrayList_get _ _ _ _ _) fun _ _ => ?_
theorem hq_f_AckBook_Sent_hasAcknowledged (F X : Nat) (a0 : Option Nat) (pI1 : Int32) (pI2 : Int32) (w : zW) : zQ x0 w (f_AckBook_Sent_hasAcknowledged F X a0 pI1 pI2 w) := by
  unfold f_AckBook_Sent_hasAcknowledged
  repeat' with_reducible first | exact zQ.ret | exact hq_j_AckBook_Sent_hasAcknowledged _ _ _ _ _ _ _
theorem hq_q_AckBook_Sent_wasCutOff_43 (F X : Nat) (J : Option Nat → Int32 → Int32 → Option Nat → Option Nat → Option Nat → zW → zR) (rL0 : Option Nat) (xL2 : Int32) (xL3 : Int32) (rL6 : Option Nat) (rS0 : Option Nat) (w : zW) (hJ : ∀ (b0 : Option Nat) (b1 : Int32) (b2 : Int32) (b3 : Option Nat) (b4 : Option Nat) (b5 : Option Nat) (w : zW), zQ x0 w (J b0 b1 b2 b3 b4 b5 w)) : zQ x0 w (q_AckBook_Sent_wasCutOff_43 F X J rL0 xL2 xL3 rL6 rS0 w) := by
  unfold q_AckBook_Sent_wasCutOff_43
  repeat' with_reducible first | exact hJ _ _ _ _ _ _ _ | exact zQ.ret | refine zQ.getR fun _ => ?_
theorem hq_j_AckBook_Sent_wasCutOff (F X : Nat) : ∀ (N : Nat) (a1 : Option Nat) (a2 : Int32) (a3 : Int32) (a4 : Option Nat) (a5 : Option Nat) (a6 : Option Nat) (w : zW), zQ x0 w (j_AckBook_Sent_wasCutOff F X N a1 a2 a3 a4 a5 a6 w) := by
  intro N
  induction N with
  | zero => exact fun a1 a2 a3 a4 a5 a6 w => zQ.none
  | succ N ih =>
    intro a1 a2 a3 a4 a5 a6 w
    rw [j_AckBook_Sent_wasCutOff]
    repeat' with_reducible first | exact ih _ _ _ _ _ _ _ | exact zQ.none | exact zQ.ret | exact hq_f_AckBook_Sent_hasAcknowledged _ _ _ _ _ _ | exact hq_q_AckBook_Sent_wasCutOff_43 _ _ _ _ _ _ _ _ _ ih | refine zQ.ite ?_ ?_ | refine zQ.this ?_ | refine zQ.getI fun _ => ?_ | refine zQ.getR fun _ => ?_ | refine zQ.cI (hq_f_AckBook_Sent_hasAcknowledged _ _ _ _ _ _) fun _ _ => ?_
theorem hq_f_AckBook_Sent_wasCutOff (F X : Nat) (a0 : Option Nat) (pR1 : Option Nat) (pI2 : Int32) (pI3 : Int32) (w : zW) : zQ x0 w (f_AckBook_Sent_wasCutOff F X a0 pR1 pI2 pI3 w) := by
  unfold f_AckBook_Sent_wasCutOff
  repeat' with_reducible first | exact zQ.none | exact zQ.ret | exact hq_j_AckBook_Sent_wasCutOff _ _ _ _ _ _ _ _ _ _
theorem hq_f_AckBook_known (F X : Nat) (a0 : Option Nat) (pI1 : Int32) (w : zW) : zQ x0 w (f_AckBook_known F X a0 pI1 w) := by
  unfold f_AckBook_known
  repeat' with_reducible first | exact zQ.ret | exact zQ.thr | refine zQ.ite ?_ ?_ | refine zQ.getR fun _ => ?_ | refine zQ.len fun _ => ?_ | refine zQ.ldR fun _ => ?_
theorem hq_f_AckBook_refuseDiscarded (F X : Nat) (pR1 : Option Nat) (w : zW) : zQ x0 w (f_AckBook_refuseDiscarded F X pR1 w) := by
  unfold f_AckBook_refuseDiscarded
  repeat' with_reducible first | exact zQ.none | exact zQ.ret | exact zQ.thr | refine zQ.ite ?_ ?_ | refine zQ.getI fun _ => ?_
theorem hq_f_AckBook_Sent_count (F X : Nat) (a0 : Option Nat) (w : zW) : zQ x0 w (f_AckBook_Sent_count F X a0 w) := by
  unfold f_AckBook_Sent_count
  repeat' with_reducible first | exact zQ.ret | exact hq_f_ArrayList_size _ _ _ _ | refine zQ.this ?_ | refine zQ.getR fun _ => ?_ | refine zQ.cI (hq_f_ArrayList_size _ _ _ _) fun _ _ => ?_
theorem hq_f_ArraysSupport_hugeLength (F X : Nat) (pI1 : Int32) (pI2 : Int32) (w : zW) : zQ x0 w (f_ArraysSupport_hugeLength F X pI1 pI2 w) := by
  unfold f_ArraysSupport_hugeLength
  repeat' with_reducible first | exact zQ.none | exact zQ.ret | refine zQ.ite ?_ ?_
theorem hq_q_ArraysSupport_newLength_21 (F X : Nat) (xL0 : Int32) (xL1 : Int32) (w : zW) : zQ x0 w (q_ArraysSupport_newLength_21 F X xL0 xL1 w) := by
  unfold q_ArraysSupport_newLength_21
  repeat' with_reducible first | exact zQ.ret | exact hq_f_ArraysSupport_hugeLength _ _ _ _ _ | refine zQ.cI (hq_f_ArraysSupport_hugeLength _ _ _ _ _) fun _ _ => ?_
theorem hq_f_ArraysSupport_newLength (F X : Nat) (pI1 : Int32) (pI2 : Int32) (pI3 : Int32) (w : zW) : zQ x0 w (f_ArraysSupport_newLength F X pI1 pI2 pI3 w) := by
  unfold f_ArraysSupport_newLength
  repeat' with_reducible first | exact zQ.ret | exact hq_q_ArraysSupport_newLength_21 _ _ _ _ _ | refine zQ.ite ?_ ?_
theorem hq_f_AckBook_Claim_isBelow (F X : Nat) (a0 : Option Nat) (pJ1 : Int64) (w : zW) : zQ x0 w (f_AckBook_Claim_isBelow F X a0 pJ1 w) := by
  unfold f_AckBook_Claim_isBelow
  repeat' with_reducible first | exact zQ.ret | refine zQ.ite ?_ ?_ | refine zQ.getI fun _ => ?_ | refine zQ.getR fun _ => ?_ | refine zQ.ldL fun _ => ?_
theorem hq_f_AckBook_Claim_isFull (F X : Nat) (a0 : Option Nat) (w : zW) : zQ x0 w (f_AckBook_Claim_isFull F X a0 w) := by
  unfold f_AckBook_Claim_isFull
  repeat' with_reducible first | exact zQ.ret | refine zQ.ite ?_ ?_ | refine zQ.getI fun _ => ?_
theorem hq_f_AckBook_Claim_greatest (F X : Nat) (a0 : Option Nat) (w : zW) : zQ x0 w (f_AckBook_Claim_greatest F X a0 w) := by
  unfold f_AckBook_Claim_greatest
  repeat' with_reducible first | exact zQ.ret | refine zQ.ite ?_ ?_ | refine zQ.getI fun _ => ?_ | refine zQ.getR fun _ => ?_ | refine zQ.ldL fun _ => ?_
theorem hq_f_AckBook_Sent_packet (F X : Nat) (a0 : Option Nat) (pJ1 : Int64) (w : zW) : zQ x0 w (f_AckBook_Sent_packet F X a0 pJ1 w) := by
  unfold f_AckBook_Sent_packet
  repeat' with_reducible first | exact zQ.none | exact zQ.ret | exact hq_f_ArrayList_size _ _ _ _ | exact hq_f_ArrayList_get _ _ _ _ _ | refine zQ.ite ?_ ?_ | refine zQ.this ?_ | refine zQ.cast ?_ | refine zQ.getR fun _ => ?_ | refine zQ.cI (hq_f_ArrayList_size _ _ _ _) fun _ _ => ?_ | refine zQ.cR (hq_f_ArrayList_get _ _ _ _ _) fun _ _ => ?_
theorem hq_f_AckBook_Claim_high (F X : Nat) (a0 : Option Nat) (pI1 : Int32) (w : zW) : zQ x0 w (f_AckBook_Claim_high F X a0 pI1 w) := by
  unfold f_AckBook_Claim_high
  repeat' with_reducible first | exact zQ.ret | refine zQ.ite ?_ ?_ | refine zQ.getR fun _ => ?_ | refine zQ.ldL fun _ => ?_
theorem hq_f_AckBook_Claim_low (F X : Nat) (a0 : Option Nat) (pI1 : Int32) (w : zW) : zQ x0 w (f_AckBook_Claim_low F X a0 pI1 w) := by
  unfold f_AckBook_Claim_low
  repeat' with_reducible first | exact zQ.ret | refine zQ.ite ?_ ?_ | refine zQ.getR fun _ => ?_ | refine zQ.ldL fun _ => ?_
theorem hq_q_AckBook_Sent_markAcknowledged_90 (F X : Nat) (J : Nat → Option Nat → Option Nat → Option Nat → Int32 → Int64 → Int64 → zW → zR) (rL0 : Option Nat) (rL1 : Option Nat) (xL3 : Int32) (yL4 : Int64) (yL6 : Int64) (rS0 : Option Nat) (w : zW) (hJ : ∀ (b0 : Nat) (b1 : Option Nat) (b2 : Option Nat) (b3 : Option Nat) (b4 : Int32) (b5 : Int64) (b6 : Int64) (w : zW), zQ x0 w (J b0 b1 b2 b3 b4 b5 b6 w)) : zQ x0 w (q_AckBook_Sent_markAcknowledged_90 F X J rL0 rL1 xL3 yL4 yL6 rS0 w) := by
  unfold q_AckBook_Sent_markAcknowledged_90
  repeat' with_reducible first | exact hJ _ _ _ _ _ _ _ _ | exact zQ.ret
theorem hq_j_AckBook_hasEliciting (F X : Nat) : ∀ (N : Nat) (a1 : Option Nat) (w : zW), zQ x0 w (j_AckBook_hasEliciting F X N a1 w) := by
  intro N
  induction N with
  | zero => exact fun a1 w => zQ.none
  | succ N ih =>
    intro a1 w
    rw [j_AckBook_hasEliciting]
    repeat' with_reducible first | exact ih _ _ | exact zQ.none | exact zQ.ret | refine zQ.ite ?_ ?_ | refine zQ.getI fun _ => ?_ | refine zQ.getR fun _ => ?_
theorem hq_f_AckBook_hasEliciting (F X : Nat) (pR1 : Option Nat) (w : zW) : zQ x0 w (f_AckBook_hasEliciting F X pR1 w) := by
  unfold f_AckBook_hasEliciting
  repeat' with_reducible first | exact zQ.ret | exact hq_j_AckBook_hasEliciting _ _ _ _ _
theorem hq_f_AckBook_state (F X : Nat) (a0 : Option Nat) (pI1 : Int32) (pI2 : Int32) (w : zW) : zQ x0 w (f_AckBook_state F X a0 pI1 pI2 w) := by
  unfold f_AckBook_state
  repeat' with_reducible first | exact zQ.none | exact zQ.ret | exact hq_f_AckBook_known _ _ _ _ _ | exact hq_f_AckBook_Sent_packet _ _ _ _ _ | refine zQ.ite ?_ ?_ | refine zQ.this ?_ | refine zQ.getI fun _ => ?_ | refine zQ.getR fun _ => ?_ | refine zQ.cR (hq_f_AckBook_known _ _ _ _ _) fun _ _ => ?_ | refine zQ.cR (hq_f_AckBook_Sent_packet _ _ _ _ _) fun _ _ => ?_
theorem hq_f_AckBookLaw_state (F X : Nat) (pR1 : Option Nat) (pI2 : Int32) (pI3 : Int32) (w : zW) : zQ x0 w (f_AckBookLaw_state F X pR1 pI2 pI3 (some x0) w) := by
  unfold f_AckBookLaw_state
  repeat' with_reducible first | exact zQ.none | exact zQ.ret | exact hq_f_AckBook_state _ _ _ _ _ _ | refine zQ.ite ?_ ?_ | refine zQ.this ?_ | refine zQ.stL fun _ => ?_ | refine zQ.tI (hq_f_AckBook_state _ _ _ _ _ _) (fun _ _ hf => zQ.of hf ?_) (fun _ _ hf => zQ.of hf ?_)
theorem hq_j_AckBook_Arrivals_firstNotAbove (F X : Nat) : ∀ (N : Nat) (a1 : Option Nat) (a2 : Int64) (a3 : Int32) (w : zW), zQ x0 w (j_AckBook_Arrivals_firstNotAbove F X N a1 a2 a3 w) := by
  intro N
  induction N with
  | zero => exact fun a1 a2 a3 w => zQ.none
  | succ N ih =>
    intro a1 a2 a3 w
    rw [j_AckBook_Arrivals_firstNotAbove]
    repeat' with_reducible first | exact ih _ _ _ _ | exact zQ.none | exact zQ.ret | refine zQ.ite ?_ ?_ | refine zQ.getI fun _ => ?_ | refine zQ.getR fun _ => ?_ | refine zQ.len fun _ => ?_ | refine zQ.ldL fun _ => ?_
theorem hq_f_AckBook_Arrivals_firstNotAbove (F X : Nat) (a0 : Option Nat) (pJ1 : Int64) (w : zW) : zQ x0 w (f_AckBook_Arrivals_firstNotAbove F X a0 pJ1 w) := by
  unfold f_AckBook_Arrivals_firstNotAbove
  repeat' with_reducible first | exact zQ.ret | exact hq_j_AckBook_Arrivals_firstNotAbove _ _ _ _ _ _ _
theorem hq_f_AckBook_Arrivals_isPressing (F X : Nat) (a0 : Option Nat) (pI1 : Int32) (w : zW) : zQ x0 w (f_AckBook_Arrivals_isPressing F X a0 pI1 w) := by
  unfold f_AckBook_Arrivals_isPressing
  repeat' with_reducible first | exact zQ.ret | refine zQ.ite ?_ ?_ | refine zQ.getI fun _ => ?_
theorem hq_f_AckBook_due (F X : Nat) (a0 : Option Nat) (pI1 : Int32) (w : zW) : zQ x0 w (f_AckBook_due F X a0 pI1 w) := by
  unfold f_AckBook_due
  repeat' with_reducible first | exact zQ.ret | exact zQ.retZ | exact hq_f_AckBook_known _ _ _ _ _ | exact hq_f_AckBook_Arrivals_isPressing _ _ _ _ _ | refine zQ.ite ?_ ?_ | refine zQ.this ?_ | refine zQ.getI fun _ => ?_ | refine zQ.getR fun _ => ?_ | refine zQ.cI (hq_f_AckBook_Arrivals_isPressing _ _ _ _ _) fun _ _ => ?_ | refine zQ.cR (hq_f_AckBook_known _ _ _ _ _) fun _ _ => ?_
theorem hq_f_AckBookLaw_due (F X : Nat) (pR1 : Option Nat) (pI2 : Int32) (w : zW) : zQ x0 w (f_AckBookLaw_due F X pR1 pI2 (some x0) w) := by
  unfold f_AckBookLaw_due
  repeat' with_reducible first | exact zQ.none | exact zQ.ret | exact hq_f_AckBook_due _ _ _ _ _ | refine zQ.ite ?_ ?_ | refine zQ.this ?_ | refine zQ.stL fun _ => ?_ | refine zQ.tI (hq_f_AckBook_due _ _ _ _ _) (fun _ _ hf => zQ.of hf ?_) (fun _ _ hf => zQ.of hf ?_)
theorem hq_f_AckBook_range (F X : Nat) (a0 : Option Nat) (pI1 : Int32) (pI2 : Int32) (pI3 : Int32) (w : zW) : zQ x0 w (f_AckBook_range F X a0 pI1 pI2 pI3 w) := by
  unfold f_AckBook_range
  repeat' with_reducible first | exact zQ.ret | exact zQ.thr | exact hq_f_AckBook_known _ _ _ _ _ | refine zQ.ite ?_ ?_ | refine zQ.this ?_ | refine zQ.getI fun _ => ?_ | refine zQ.getR fun _ => ?_ | refine zQ.ldL fun _ => ?_ | refine zQ.cR (hq_f_AckBook_known _ _ _ _ _) fun _ _ => ?_
theorem hq_f_AckBookLaw_range (F X : Nat) (pR1 : Option Nat) (pI2 : Int32) (pI3 : Int32) (pI4 : Int32) (w : zW) : zQ x0 w (f_AckBookLaw_range F X pR1 pI2 pI3 pI4 (some x0) w) := by
  unfold f_AckBookLaw_range
  repeat' with_reducible first | exact zQ.none | exact zQ.ret | exact hq_f_AckBook_range _ _ _ _ _ _ _ | refine zQ.ite ?_ ?_ | refine zQ.this ?_ | refine zQ.stL fun _ => ?_ | refine zQ.tL (hq_f_AckBook_range _ _ _ _ _ _ _) (fun _ _ hf => zQ.of hf ?_) (fun _ _ hf => zQ.of hf ?_)
theorem hq_f_AckBook_look (F X : Nat) (a0 : Option Nat) (pI1 : Int32) (w : zW) : zQ x0 w (f_AckBook_look F X a0 pI1 w) := by
  unfold f_AckBook_look
  repeat' with_reducible first | exact zQ.ret | exact zQ.thr | exact hq_f_AckBook_Way_limit _ _ _ _ | refine zQ.ite ?_ ?_ | refine zQ.this ?_ | refine zQ.getI fun _ => ?_ | refine zQ.getR fun _ => ?_ | refine zQ.cI (hq_f_AckBook_Way_limit _ _ _ _) fun _ _ => ?_
theorem hq_f_AckBookLaw_look (F X : Nat) (pR1 : Option Nat) (pI2 : Int32) (w : zW) : zQ x0 w (f_AckBookLaw_look F X pR1 pI2 (some x0) w) := by
  unfold f_AckBookLaw_look
  repeat' with_reducible first | exact zQ.none | exact zQ.ret | exact hq_f_AckBook_look _ _ _ _ _ | refine zQ.ite ?_ ?_ | refine zQ.this ?_ | refine zQ.stL fun _ => ?_ | refine zQ.tI (hq_f_AckBook_look _ _ _ _ _) (fun _ _ hf => zQ.of hf ?_) (fun _ _ hf => zQ.of hf ?_)
theorem hq_f_AckBook_space (F X : Nat) (a0 : Option Nat) (pI1 : Int32) (pI2 : Int32) (w : zW) : zQ x0 w (f_AckBook_space F X a0 pI1 pI2 w) := by
  unfold f_AckBook_space
  repeat' with_reducible first | exact zQ.ret | exact zQ.thr | exact hq_f_AckBook_known _ _ _ _ _ | exact hq_f_AckBook_Sent_count _ _ _ _ | exact hq_f_AckBook_probeTime _ _ _ _ _ | exact hq_f_AckBook_patience _ _ _ _ _ | refine zQ.ite ?_ ?_ | refine zQ.this ?_ | refine zQ.getI fun _ => ?_ | refine zQ.getR fun _ => ?_ | refine zQ.getL fun _ => ?_ | refine zQ.cI (hq_f_AckBook_Sent_count _ _ _ _) fun _ _ => ?_ | refine zQ.cI (hq_f_AckBook_probeTime _ _ _ _ _) fun _ _ => ?_ | refine zQ.cI (hq_f_AckBook_patience _ _ _ _ _) fun _ _ => ?_ | refine zQ.cR (hq_f_AckBook_known _ _ _ _ _) fun _ _ => ?_
theorem hq_f_AckBookLaw_space (F X : Nat) (pR1 : Option Nat) (pI2 : Int32) (pI3 : Int32) (w : zW) : zQ x0 w (f_AckBookLaw_space F X pR1 pI2 pI3 (some x0) w) := by
  unfold f_AckBookLaw_space
  repeat' with_reducible first | exact zQ.none | exact zQ.ret | exact hq_f_AckBook_space _ _ _ _ _ _ | refine zQ.ite ?_ ?_ | refine zQ.this ?_ | refine zQ.stL fun _ => ?_ | refine zQ.tL (hq_f_AckBook_space _ _ _ _ _ _) (fun _ _ hf => zQ.of hf ?_) (fun _ _ hf => zQ.of hf ?_)
end FQ
