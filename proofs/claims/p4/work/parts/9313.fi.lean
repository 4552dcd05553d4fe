section FI
variable {w w1 : zW} {r : Option Nat} {ci k : Nat} {ty : FieldType} {i : Int32}
def zV (w : zW) (x : zR) : Prop := ∀ o w', x = some (o, w') → w' = w ∧ ∃ v, o = .inl v
theorem zV.none : zV w none := fun _ _ h => nomatch h
theorem zV.ret {v : Option Value} : zV w (some (.inl v, w)) := fun _ _ h => by
  injection h with h
  injection h with h1 h
  exact ⟨h.symm, v, h1.symm⟩
theorem zV.ite {p : Prop} [Decidable p] {a b : zR} (h1 : zV w a) (h2 : zV w b) : zV w (if p then a else b) := by
  split
  · exact h1
  · exact h2
theorem zV.getI {K : Int32 → zR} (h : ∀ v, zV w (K v)) : zV w (z_getI w1 ci k r K) := by
  unfold z_getI
  (repeat' split) <;> first | exact h _ | exact zV.none
theorem zV.getR {K : Option Nat → zR} (h : ∀ v, zV w (K v)) : zV w (z_getR w1 ci k r K) := by
  unfold z_getR
  (repeat' split) <;> first | exact h _ | exact zV.none
theorem zV.ldL {K : Int64 → zR} (h : ∀ v, zV w (K v)) : zV w (z_ldL w1 r i K) := by
  unfold z_ldL
  (repeat' split) <;> first | exact h _ | exact zV.none
theorem zV.this {K : zR} (h : zV w K) : zV w (z_this w1 ci r K) := by
  unfold z_this
  split
  · exact h
  · exact zV.none
theorem zV.cast {K : zR} (h : zV w K) : zV w (z_cast w1 ci r K) := by
  unfold z_cast
  exact zV.ite h zV.none
theorem zV.retZ {v : Int32} : zV w (z_retZ v w) := by
  unfold z_retZ
  exact zV.ite zV.ret zV.none
theorem zV.len {K : Int32 → zR} (h : ∀ v, zV w (K v)) : zV w (z_len w1 r K) := by
  unfold z_len
  (repeat' split) <;> first | exact h _ | exact zV.none
theorem zV.ldR {K : Option Nat → zR} (h : ∀ v, zV w (K v)) : zV w (z_ldR w1 ty r i K) := by
  unfold z_ldR
  (repeat' split) <;> first | exact h _ | exact zV.none
theorem zV.cI {x : zR} {K : Int32 → zW → zR} (hx : zV w x) (h : ∀ v, zV w (K v w)) : zV w (z_cI x K) := by
  intro o w' e
  obtain ⟨w1, o1, e1, hz⟩ := z_cI_spec e
  obtain ⟨hw, u, hu⟩ := hx _ _ e1
  subst hw
  subst hu
  rcases hz with ⟨v, a, y, b, a2⟩ | ⟨y, a, a2⟩
  · exact h y o w' a2
  · cases a
theorem zV.cR {x : zR} {K : Option Nat → zW → zR} (hx : zV w x) (h : ∀ v, zV w (K v w)) : zV w (z_cR x K) := by
  intro o w' e
  obtain ⟨w1, o1, e1, hz⟩ := z_cR_spec e
  obtain ⟨hw, u, hu⟩ := hx _ _ e1
  subst hw
  subst hu
  rcases hz with ⟨v, a, y, b, a2⟩ | ⟨y, a, a2⟩
  · exact h y o w' a2
  · cases a
theorem hi_f_Preconditions_checkIndex (F X : Nat) (pI1 : Int32) (pI2 : Int32) (pR3 : Option Nat) (w : zW) : zV w (f_Preconditions_checkIndex F X pI1 pI2 pR3 w) := by
  unfold f_Preconditions_checkIndex
  repeat' with_reducible first | exact zV.none | exact zV.ret | exact zV.retZ | refine zV.ite ?_ ?_
theorem hi_f_Objects_checkIndex (F X : Nat) (pI1 : Int32) (pI2 : Int32) (w : zW) : zV w (f_Objects_checkIndex F X pI1 pI2 w) := by
  unfold f_Objects_checkIndex
  repeat' with_reducible first | exact zV.none | exact zV.ret | exact zV.retZ | exact hi_f_Preconditions_checkIndex _ _ _ _ _ _ | refine zV.cI (hi_f_Preconditions_checkIndex _ _ _ _ _ _) fun _ => ?_
theorem hi_f_ArrayList_size (F X : Nat) (a0 : Option Nat) (w : zW) : zV w (f_ArrayList_size F X a0 w) := by
  unfold f_ArrayList_size
  repeat' with_reducible first | exact zV.none | exact zV.ret | exact zV.retZ | refine zV.getI fun _ => ?_
theorem hi_f_ArrayList_elementData (F X : Nat) (a0 : Option Nat) (pI1 : Int32) (w : zW) : zV w (f_ArrayList_elementData F X a0 pI1 w) := by
  unfold f_ArrayList_elementData
  repeat' with_reducible first | exact zV.none | exact zV.ret | exact zV.retZ | refine zV.getR fun _ => ?_ | refine zV.ldR fun _ => ?_
theorem hi_f_ArrayList_get (F X : Nat) (a0 : Option Nat) (pI1 : Int32) (w : zW) : zV w (f_ArrayList_get F X a0 pI1 w) := by
  unfold f_ArrayList_get
  repeat' with_reducible first | exact zV.none | exact zV.ret | exact zV.retZ | exact hi_f_Objects_checkIndex _ _ _ _ _ | exact hi_f_ArrayList_elementData _ _ _ _ _ | refine zV.this ?_ | refine zV.getI fun _ => ?_ | refine zV.cI (hi_f_Objects_checkIndex _ _ _ _ _) fun _ => ?_ | refine zV.cR (hi_f_ArrayList_elementData _ _ _ _ _) fun _ => ?_
theorem hi_j_AckBook_Sent_hasAcknowledged (F X : Nat) : ∀ (N : Nat) (a1 : Option Nat) (a2 : Int32) (a3 : Int32) (w : zW), zV w (j_AckBook_Sent_hasAcknowledged F X N a1 a2 a3 w) := by
  intro N
  induction N with
  | zero => exact fun a1 a2 a3 w => zV.none
  | succ N ih =>
    intro a1 a2 a3 w
    rw [j_AckBook_Sent_hasAcknowledged]
    repeat' with_reducible first | exact ih _ _ _ _ | exact zV.none | exact zV.ret | exact zV.retZ | exact hi_f_ArrayList_size _ _ _ _ | exact hi_f_ArrayList_get _ _ _ _ _ | refine zV.ite ?_ ?_ | refine zV.this ?_ | refine zV.cast ?_ | refine zV.getI fun _ => ?_ | refine zV.getR fun _ => ?_ | refine zV.cI (hi_f_ArrayList_size _ _ _ _) fun _ => ?_ | refine zV.cR (hi_f_ArrayList_get _ _ _ _ _) fun _ => ?_
theorem hi_f_AckBook_Sent_hasAcknowledged (F X : Nat) (a0 : Option Nat) (pI1 : Int32) (pI2 : Int32) (w : zW) : zV w (f_AckBook_Sent_hasAcknowledged F X a0 pI1 pI2 w) := by
  unfold f_AckBook_Sent_hasAcknowledged
  repeat' with_reducible first | exact zV.none | exact zV.ret | exact zV.retZ | exact hi_j_AckBook_Sent_hasAcknowledged _ _ _ _ _ _ _
theorem hi_q_AckBook_Sent_wasCutOff_43 (F X : Nat) (J : Option Nat → Int32 → Int32 → Option Nat → Option Nat → Option Nat → zW → zR) (rL0 : Option Nat) (xL2 : Int32) (xL3 : Int32) (rL6 : Option Nat) (rS0 : Option Nat) (w : zW) (hJ : ∀ (b0 : Option Nat) (b1 : Int32) (b2 : Int32) (b3 : Option Nat) (b4 : Option Nat) (b5 : Option Nat) (w : zW), zV w (J b0 b1 b2 b3 b4 b5 w)) : zV w (q_AckBook_Sent_wasCutOff_43 F X J rL0 xL2 xL3 rL6 rS0 w) := by
  unfold q_AckBook_Sent_wasCutOff_43
  repeat' with_reducible first | exact hJ _ _ _ _ _ _ _ | exact zV.none | exact zV.ret | exact zV.retZ | refine zV.getR fun _ => ?_
theorem hi_j_AckBook_Sent_wasCutOff (F X : Nat) : ∀ (N : Nat) (a1 : Option Nat) (a2 : Int32) (a3 : Int32) (a4 : Option Nat) (a5 : Option Nat) (a6 : Option Nat) (w : zW), zV w (j_AckBook_Sent_wasCutOff F X N a1 a2 a3 a4 a5 a6 w) := by
  intro N
  induction N with
  | zero => exact fun a1 a2 a3 a4 a5 a6 w => zV.none
  | succ N ih =>
    intro a1 a2 a3 a4 a5 a6 w
    rw [j_AckBook_Sent_wasCutOff]
    repeat' with_reducible first | exact ih _ _ _ _ _ _ _ | exact zV.none | exact zV.ret | exact zV.retZ | exact hi_f_AckBook_Sent_hasAcknowledged _ _ _ _ _ _ | exact hi_q_AckBook_Sent_wasCutOff_43 _ _ _ _ _ _ _ _ _ ih | refine zV.ite ?_ ?_ | refine zV.this ?_ | refine zV.getI fun _ => ?_ | refine zV.getR fun _ => ?_ | refine zV.cI (hi_f_AckBook_Sent_hasAcknowledged _ _ _ _ _ _) fun _ => ?_
theorem hi_f_AckBook_Sent_wasCutOff (F X : Nat) (a0 : Option Nat) (pR1 : Option Nat) (pI2 : Int32) (pI3 : Int32) (w : zW) : zV w (f_AckBook_Sent_wasCutOff F X a0 pR1 pI2 pI3 w) := by
  unfold f_AckBook_Sent_wasCutOff
  repeat' with_reducible first | exact zV.none | exact zV.ret | exact zV.retZ | exact hi_j_AckBook_Sent_wasCutOff _ _ _ _ _ _ _ _ _ _
theorem hi_f_AckBook_Way_patience (F X : Nat) (a0 : Option Nat) (w : zW) : zV w (f_AckBook_Way_patience F X a0 w) := by
  unfold f_AckBook_Way_patience
  repeat' with_reducible first | exact zV.none | exact zV.ret | exact zV.retZ | refine zV.ite ?_ ?_ | refine zV.getI fun _ => ?_
theorem hi_f_AckBook_Way_limit (F X : Nat) (a0 : Option Nat) (w : zW) : zV w (f_AckBook_Way_limit F X a0 w) := by
  unfold f_AckBook_Way_limit
  repeat' with_reducible first | exact zV.none | exact zV.ret | exact zV.retZ | refine zV.ite ?_ ?_ | refine zV.getI fun _ => ?_
end FI
