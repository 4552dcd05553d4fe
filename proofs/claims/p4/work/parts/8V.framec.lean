section FC
theorem h_f_AckBook_Way_patience (F X : Nat) (a0 : Option Nat) (w : zW) : zH w (f_AckBook_Way_patience F X a0 w) := by
  unfold f_AckBook_Way_patience
  repeat' with_reducible first | exact zH.ret | refine zH.ite ?_ ?_ | refine zH.getI fun _ => ?_
theorem h_q_AckBook_patience_20 (F X : Nat) (rL0 : Option Nat) (xS0 : Int32) (w : zW) : zH w (q_AckBook_patience_20 F X rL0 xS0 w) := by
  unfold q_AckBook_patience_20
  repeat' with_reducible first | exact zH.ret | exact h_f_AckBook_Way_patience _ _ _ _ | refine zH.ite ?_ ?_ | refine zH.this ?_ | refine zH.getR fun _ => ?_ | refine zH.cI (h_f_AckBook_Way_patience _ _ _ _) fun _ _ => ?_
theorem h_q_AckBook_patience_19 (F X : Nat) (rL0 : Option Nat) (w : zW) : zH w (q_AckBook_patience_19 F X rL0 w) := by
  unfold q_AckBook_patience_19
  repeat' with_reducible first | exact zH.ret | exact h_q_AckBook_patience_20 _ _ _ _ _
theorem h_f_AckBook_patience (F X : Nat) (a0 : Option Nat) (pR1 : Option Nat) (w : zW) : zH w (f_AckBook_patience F X a0 pR1 w) := by
  unfold f_AckBook_patience
  repeat' with_reducible first | exact zH.ret | exact h_q_AckBook_patience_19 _ _ _ _ | exact h_q_AckBook_patience_20 _ _ _ _ _ | refine zH.ite ?_ ?_ | refine zH.getI fun _ => ?_
theorem h_j_AckBook_probesWithoutCause (F X : Nat) : ∀ (N : Nat) (a1 : Option Nat) (a2 : Option Nat) (a3 : Int32) (a4 : Int32) (w : zW), zH w (j_AckBook_probesWithoutCause F X N a1 a2 a3 a4 w) := by
  intro N
  induction N with
  | zero => exact fun a1 a2 a3 a4 w => zH.none
  | succ N ih =>
    intro a1 a2 a3 a4 w
    rw [j_AckBook_probesWithoutCause]
    repeat' with_reducible first | exact ih _ _ _ _ _ | exact zH.none | exact zH.ret | exact zH.retZ | refine zH.ite ?_ ?_ | refine zH.getI fun _ => ?_ | refine zH.getR fun _ => ?_ | refine zH.len fun _ => ?_ | refine zH.ldR fun _ => ?_
theorem h_f_AckBook_probesWithoutCause (F X : Nat) (a0 : Option Nat) (pR1 : Option Nat) (w : zW) : zH w (f_AckBook_probesWithoutCause F X a0 pR1 w) := by
  unfold f_AckBook_probesWithoutCause
  repeat' with_reducible first | exact zH.ret | exact h_j_AckBook_probesWithoutCause _ _ _ _ _ _ _ _ | refine zH.ite ?_ ?_ | refine zH.getI fun _ => ?_
theorem h_q_AckBook_probeTime_24 (F X : Nat) (rL0 : Option Nat) (rL1 : Option Nat) (w : zW) : zH w (q_AckBook_probeTime_24 F X rL0 rL1 w) := by
  unfold q_AckBook_probeTime_24
  repeat' with_reducible first | exact zH.ret | exact h_f_AckBook_patience _ _ _ _ _ | exact h_f_AckBook_probesWithoutCause _ _ _ _ _ | refine zH.ite ?_ ?_ | refine zH.this ?_ | refine zH.getI fun _ => ?_ | refine zH.getR fun _ => ?_ | refine zH.cI (h_f_AckBook_patience _ _ _ _ _) fun _ _ => ?_ | refine zH.cI (h_f_AckBook_probesWithoutCause _ _ _ _ _) fun _ _ => ?_
theorem h_f_AckBook_probeTime (F X : Nat) (a0 : Option Nat) (pR1 : Option Nat) (w : zW) : zH w (f_AckBook_probeTime F X a0 pR1 w) := by
  unfold f_AckBook_probeTime
  repeat' with_reducible first | exact zH.ret | exact h_q_AckBook_probeTime_24 _ _ _ _ _ | refine zH.ite ?_ ?_ | refine zH.getI fun _ => ?_
theorem h_q_AckBook_earliest_89 (F X : Nat) (J : Option Nat → Int32 → Option Nat → Int32 → Int32 → zW → zR) (rL0 : Option Nat) (xL1 : Int32) (xL4 : Int32) (rL5 : Option Nat) (xL6 : Int32) (w : zW) (hJ : ∀ (b0 : Option Nat) (b1 : Int32) (b2 : Option Nat) (b3 : Int32) (b4 : Int32) (w : zW), zH w (J b0 b1 b2 b3 b4 w)) : zH w (q_AckBook_earliest_89 F X J rL0 xL1 xL4 rL5 xL6 w) := by
  unfold q_AckBook_earliest_89
  repeat' with_reducible first | exact hJ _ _ _ _ _ _ | exact zH.ret
theorem h_q_AckBook_earliest_72 (F X : Nat) (J : Option Nat → Int32 → Option Nat → Int32 → Int32 → zW → zR) (rL0 : Option Nat) (xL1 : Int32) (rL2 : Option Nat) (xL3 : Int32) (xL4 : Int32) (rL5 : Option Nat) (xL6 : Int32) (xS0 : Int32) (w : zW) (hJ : ∀ (b0 : Option Nat) (b1 : Int32) (b2 : Option Nat) (b3 : Int32) (b4 : Int32) (w : zW), zH w (J b0 b1 b2 b3 b4 w)) : zH w (q_AckBook_earliest_72 F X J rL0 xL1 rL2 xL3 xL4 rL5 xL6 xS0 w) := by
  unfold q_AckBook_earliest_72
  repeat' with_reducible first | exact hJ _ _ _ _ _ _ | exact zH.none | exact zH.ret | exact h_q_AckBook_earliest_89 _ _ _ _ _ _ _ _ _ hJ | refine zH.ite ?_ ?_
theorem h_q_AckBook_earliest_71 (F X : Nat) (J : Option Nat → Int32 → Option Nat → Int32 → Int32 → zW → zR) (rL0 : Option Nat) (xL1 : Int32) (rL2 : Option Nat) (xL3 : Int32) (xL4 : Int32) (rL5 : Option Nat) (xL6 : Int32) (w : zW) (hJ : ∀ (b0 : Option Nat) (b1 : Int32) (b2 : Option Nat) (b3 : Int32) (b4 : Int32) (w : zW), zH w (J b0 b1 b2 b3 b4 w)) : zH w (q_AckBook_earliest_71 F X J rL0 xL1 rL2 xL3 xL4 rL5 xL6 w) := by
  unfold q_AckBook_earliest_71
  repeat' with_reducible first | exact hJ _ _ _ _ _ _ | exact zH.ret | exact h_q_AckBook_earliest_72 _ _ _ _ _ _ _ _ _ _ _ _ hJ
theorem h_q_AckBook_earliest_50 (F X : Nat) (J : Option Nat → Int32 → Option Nat → Int32 → Int32 → zW → zR) (rL0 : Option Nat) (xL1 : Int32) (rL2 : Option Nat) (xL3 : Int32) (xL4 : Int32) (rL5 : Option Nat) (xS0 : Int32) (w : zW) (hJ : ∀ (b0 : Option Nat) (b1 : Int32) (b2 : Option Nat) (b3 : Int32) (b4 : Int32) (w : zW), zH w (J b0 b1 b2 b3 b4 w)) : zH w (q_AckBook_earliest_50 F X J rL0 xL1 rL2 xL3 xL4 rL5 xS0 w) := by
  unfold q_AckBook_earliest_50
  repeat' with_reducible first | exact hJ _ _ _ _ _ _ | exact zH.ret | exact h_q_AckBook_earliest_71 _ _ _ _ _ _ _ _ _ _ _ hJ | exact h_q_AckBook_earliest_72 _ _ _ _ _ _ _ _ _ _ _ _ hJ | refine zH.ite ?_ ?_ | refine zH.getI fun _ => ?_
theorem h_j_AckBook_earliest (F X : Nat) : ∀ (N : Nat) (a1 : Option Nat) (a2 : Int32) (a3 : Option Nat) (a4 : Int32) (a5 : Int32) (w : zW), zH w (j_AckBook_earliest F X N a1 a2 a3 a4 a5 w) := by
  intro N
  induction N with
  | zero => exact fun a1 a2 a3 a4 a5 w => zH.none
  | succ N ih =>
    intro a1 a2 a3 a4 a5 w
    rw [j_AckBook_earliest]
    repeat' with_reducible first | exact ih _ _ _ _ _ _ | exact zH.none | exact zH.ret | exact h_q_AckBook_earliest_50 _ _ _ _ _ _ _ _ _ _ _ ih | exact h_f_AckBook_probeTime _ _ _ _ _ | refine zH.ite ?_ ?_ | refine zH.this ?_ | refine zH.getI fun _ => ?_ | refine zH.getR fun _ => ?_ | refine zH.len fun _ => ?_ | refine zH.ldR fun _ => ?_ | refine zH.cI (h_f_AckBook_probeTime _ _ _ _ _) fun _ _ => ?_
theorem h_f_AckBook_earliest (F X : Nat) (a0 : Option Nat) (pI1 : Int32) (w : zW) : zH w (f_AckBook_earliest F X a0 pI1 w) := by
  unfold f_AckBook_earliest
  repeat' with_reducible first | exact zH.none | exact zH.ret | exact h_j_AckBook_earliest _ _ _ _ _ _ _ _ _ | refine zH.getI fun _ => ?_
theorem h_f_AckBook_Way_limit (F X : Nat) (a0 : Option Nat) (w : zW) : zH w (f_AckBook_Way_limit F X a0 w) := by
  unfold f_AckBook_Way_limit
  repeat' with_reducible first | exact zH.ret | refine zH.ite ?_ ?_ | refine zH.getI fun _ => ?_
theorem h_f_ArrayList_size (F X : Nat) (a0 : Option Nat) (w : zW) : zH w (f_ArrayList_size F X a0 w) := by
  unfold f_ArrayList_size
  repeat' with_reducible first | exact zH.ret | refine zH.getI fun _ => ?_
theorem h_f_Preconditions_checkIndex (F X : Nat) (pI1 : Int32) (pI2 : Int32) (pR3 : Option Nat) (w : zW) : zH w (f_Preconditions_checkIndex F X pI1 pI2 pR3 w) := by
  unfold f_Preconditions_checkIndex
  repeat' with_reducible first | exact zH.none | exact zH.ret | refine zH.ite ?_ ?_
theorem h_f_Objects_checkIndex (F X : Nat) (pI1 : Int32) (pI2 : Int32) (w : zW) : zH w (f_Objects_checkIndex F X pI1 pI2 w) := by
  unfold f_Objects_checkIndex
  repeat' with_reducible first | exact zH.none | exact zH.ret | exact h_f_Preconditions_checkIndex _ _ _ _ _ _ | refine zH.cI (h_f_Preconditions_checkIndex _ _ _ _ _ _) fun _ _ => ?_
theorem h_f_ArrayList_elementData (F X : Nat) (a0 : Option Nat) (pI1 : Int32) (w : zW) : zH w (f_ArrayList_elementData F X a0 pI1 w) := by
  unfold f_ArrayList_elementData
  repeat' with_reducible first | exact zH.ret | refine zH.getR fun _ => ?_ | refine zH.ldR fun _ => ?_
theorem h_f_ArrayList_get (F X : Nat) (a0 : Option Nat) (pI1 : Int32) (w : zW) : zH w (f_ArrayList_get F X a0 pI1 w) := by
  unfold f_ArrayList_get
  repeat' with_reducible first | exact zH.ret | exact h_f_Objects_checkIndex _ _ _ _ _ | exact h_f_ArrayList_elementData _ _ _ _ _ | refine zH.this ?_ | refine zH.getI fun _ => ?_ | refine zH.cI (h_f_Objects_checkIndex _ _ _ _ _) fun _ _ => ?_ | refine zH.cR (h_f_ArrayList_elementData _ _ _ _ _) fun _ _ => ?_
theorem h_q_AckBook_Chain_append_14 (F X : Nat) (rL0 : Option Nat) (rL1 : Option Nat) (w : zW) : zH w (q_AckBook_Chain_append_14 F X rL0 rL1 w) := by
  unfold q_AckBook_Chain_append_14
  repeat' with_reducible first | exact zH.none | exact zH.ret | refine zH.put (by decide) (by decide) fun _ => ?_
theorem h_f_AckBook_Chain_append (F X : Nat) (a0 : Option Nat) (pR1 : Option Nat) (w : zW) : zH w (f_AckBook_Chain_append F X a0 pR1 w) := by
  unfold f_AckBook_Chain_append
  repeat' with_reducible first | exact zH.none | exact zH.ret | exact h_q_AckBook_Chain_append_14 _ _ _ _ _ | refine zH.ite ?_ ?_ | refine zH.getR fun _ => ?_ | refine zH.put (by decide) (by decide) fun _ => ?_
theorem h_f_AckBook_Sent_end (F X : Nat) (a0 : Option Nat) (pR1 : Option Nat) (pI2 : Int32) (pR3 : Option Nat) (w : zW) : zH w (f_AckBook_Sent_end F X a0 pR1 pI2 pR3 w) := by
  unfold f_AckBook_Sent_end
  repeat' with_reducible first | exact zH.none | exact zH.ret | exact h_f_AckBook_Chain_append _ _ _ _ _ | refine zH.ite ?_ ?_ | refine zH.this ?_ | refine zH.getI fun _ => ?_ | refine zH.put (by decide) (by decide) fun _ => ?_ | refine zH.cV (h_f_AckBook_Chain_append _ _ _ _ _) fun _ => ?_
theorem h_q_AckBook_Sent_markLost_78 (F X : Nat) (J : Option Nat → Int32 → Int32 → Option Nat → Int32 → zW → zR) (rL0 : Option Nat) (xL1 : Int32) (xL2 : Int32) (rL3 : Option Nat) (xL4 : Int32) (rL5 : Option Nat) (w : zW) (hJ : ∀ (b0 : Option Nat) (b1 : Int32) (b2 : Int32) (b3 : Option Nat) (b4 : Int32) (w : zW), zH w (J b0 b1 b2 b3 b4 w)) : zH w (q_AckBook_Sent_markLost_78 F X J rL0 xL1 xL2 rL3 xL4 rL5 w) := by
  unfold q_AckBook_Sent_markLost_78
  repeat' with_reducible first | exact hJ _ _ _ _ _ _ | exact zH.none | exact zH.ret | exact h_f_AckBook_Sent_end _ _ _ _ _ _ _ | refine zH.ite ?_ ?_ | refine zH.this ?_ | refine zH.getR fun _ => ?_ | refine zH.cV (h_f_AckBook_Sent_end _ _ _ _ _ _ _) fun _ => ?_
theorem h_j_AckBook_Sent_markLost (F X : Nat) : ∀ (N : Nat) (a1 : Option Nat) (a2 : Int32) (a3 : Int32) (a4 : Option Nat) (a5 : Int32) (w : zW), zH w (j_AckBook_Sent_markLost F X N a1 a2 a3 a4 a5 w) := by
  intro N
  induction N with
  | zero => exact fun a1 a2 a3 a4 a5 w => zH.none
  | succ N ih =>
    intro a1 a2 a3 a4 a5 w
    rw [j_AckBook_Sent_markLost]
    repeat' with_reducible first | exact ih _ _ _ _ _ _ | exact zH.none | exact zH.ret | exact h_f_ArrayList_size _ _ _ _ | exact h_f_ArrayList_get _ _ _ _ _ | exact h_q_AckBook_Sent_markLost_78 _ _ _ _ _ _ _ _ _ _ ih | refine zH.ite ?_ ?_ | refine zH.this ?_ | refine zH.cast ?_ | refine zH.getI fun _ => ?_ | refine zH.getR fun _ => ?_ | refine zH.put (by decide) (by decide) fun _ => ?_ | refine zH.cI (h_f_ArrayList_size _ _ _ _) fun _ _ => ?_ | refine zH.cR (h_f_ArrayList_get _ _ _ _ _) fun _ _ => ?_
theorem h_f_AckBook_Sent_markLost (F X : Nat) (a0 : Option Nat) (pI1 : Int32) (pI2 : Int32) (w : zW) : zH w (f_AckBook_Sent_markLost F X a0 pI1 pI2 w) := by
  unfold f_AckBook_Sent_markLost
  repeat' with_reducible first | exact zH.none | exact zH.ret | exact h_j_AckBook_Sent_markLost _ _ _ _ _ _ _ _ _ | refine zH.put (by decide) (by decide) fun _ => ?_
theorem h_f_AckBook_Flow_leave (F X : Nat) (a0 : Option Nat) (pR1 : Option Nat) (w : zW) : zH w (f_AckBook_Flow_leave F X a0 pR1 w) := by
  unfold f_AckBook_Flow_leave
  repeat' with_reducible first | exact zH.none | exact zH.ret | refine zH.ite ?_ ?_ | refine zH.getI fun _ => ?_ | refine zH.put (by decide) (by decide) fun _ => ?_
theorem h_f_AckBook_Flow_isAfterRecovery (F X : Nat) (a0 : Option Nat) (pR1 : Option Nat) (w : zW) : zH w (f_AckBook_Flow_isAfterRecovery F X a0 pR1 w) := by
  unfold f_AckBook_Flow_isAfterRecovery
  repeat' with_reducible first | exact zH.ret | refine zH.ite ?_ ?_ | refine zH.getI fun _ => ?_
theorem h_q_AckBook_Flow_leaveLost_41 (F X : Nat) (J : Option Nat → Int32 → Int32 → Option Nat → zW → zR) (rL0 : Option Nat) (xL2 : Int32) (rL4 : Option Nat) (w : zW) (hJ : ∀ (b0 : Option Nat) (b1 : Int32) (b2 : Int32) (b3 : Option Nat) (w : zW), zH w (J b0 b1 b2 b3 w)) : zH w (q_AckBook_Flow_leaveLost_41 F X J rL0 xL2 rL4 w) := by
  unfold q_AckBook_Flow_leaveLost_41
  repeat' with_reducible first | exact hJ _ _ _ _ _ | exact zH.ret | refine zH.getR fun _ => ?_
theorem h_q_AckBook_Flow_leaveLost_37 (F X : Nat) (J : Option Nat → Int32 → Int32 → Option Nat → zW → zR) (rL0 : Option Nat) (xL2 : Int32) (rL4 : Option Nat) (w : zW) (hJ : ∀ (b0 : Option Nat) (b1 : Int32) (b2 : Int32) (b3 : Option Nat) (w : zW), zH w (J b0 b1 b2 b3 w)) : zH w (q_AckBook_Flow_leaveLost_37 F X J rL0 xL2 rL4 w) := by
  unfold q_AckBook_Flow_leaveLost_37
  repeat' with_reducible first | exact hJ _ _ _ _ _ | exact zH.ret | refine zH.getR fun _ => ?_
theorem h_j_AckBook_Flow_leaveLost (F X : Nat) : ∀ (N : Nat) (a1 : Option Nat) (a2 : Int32) (a3 : Int32) (a4 : Option Nat) (w : zW), zH w (j_AckBook_Flow_leaveLost F X N a1 a2 a3 a4 w) := by
  intro N
  induction N with
  | zero => exact fun a1 a2 a3 a4 w => zH.none
  | succ N ih =>
    intro a1 a2 a3 a4 w
    rw [j_AckBook_Flow_leaveLost]
    repeat' with_reducible first | exact ih _ _ _ _ _ | exact zH.none | exact zH.ret | exact h_f_AckBook_Flow_leave _ _ _ _ _ | exact h_q_AckBook_Flow_leaveLost_41 _ _ _ _ _ _ _ ih | exact h_f_AckBook_Flow_isAfterRecovery _ _ _ _ _ | exact h_q_AckBook_Flow_leaveLost_37 _ _ _ _ _ _ _ ih | refine zH.ite ?_ ?_ | refine zH.this ?_ | refine zH.getI fun _ => ?_ | refine zH.put (by decide) (by decide) fun _ => ?_ | refine zH.cI (h_f_AckBook_Flow_isAfterRecovery _ _ _ _ _) fun _ _ => ?_ | refine zH.cV (h_f_AckBook_Flow_leave _ _ _ _ _) fun _ => ?_
theorem h_f_AckBook_Flow_leaveLost (F X : Nat) (a0 : Option Nat) (pR1 : Option Nat) (pI2 : Int32) (w : zW) : zH w (f_AckBook_Flow_leaveLost F X a0 pR1 pI2 w) := by
  unfold f_AckBook_Flow_leaveLost
  repeat' with_reducible first | exact zH.ret | exact h_j_AckBook_Flow_leaveLost _ _ _ _ _ _ _ _
theorem h_j_AckBook_Sent_hasAcknowledged (F X : Nat) : ∀ (N : Nat) (a1 : Option Nat) (a2 : Int32) (a3 : Int32) (w : zW), zH w (j_AckBook_Sent_hasAcknowledged F X N a1 a2 a3 w) := by
  intro N
  induction N with
  | zero => exact fun a1 a2 a3 w => zH.none
  | succ N ih =>
    intro a1 a2 a3 w
    rw [j_AckBook_Sent_hasAcknowledged]
    repeat' with_reducible first | exact ih _ _ _ _ | exact zH.none | exact zH.ret | exact h_f_ArrayList_size _ _ _ _ | exact h_f_ArrayList_get _ _ _ _ _ | refine zH.ite ?_ ?_ | refine zH.this ?_ | refine zH.cast ?_ | refine zH.getI fun _ => ?_ | refine zH.getR fun _ => ?_ | refine zH.cI (h_f_ArrayList_size _ _ _ _) fun _ _ => ?_ | refine zH.cR (h_f_ArrayList_get _ _ _ _ _) fun _ _ => ?_
theorem h_f_AckBook_Sent_hasAcknowledged (F X : Nat) (a0 : Option Nat) (pI1 : Int32) (pI2 : Int32) (w : zW) : zH w (f_AckBook_Sent_hasAcknowledged F X a0 pI1 pI2 w) := by
  unfold f_AckBook_Sent_hasAcknowledged
  repeat' with_reducible first | exact zH.ret | exact h_j_AckBook_Sent_hasAcknowledged _ _ _ _ _ _ _
theorem h_q_AckBook_Sent_wasCutOff_43 (F X : Nat) (J : Option Nat → Int32 → Int32 → Option Nat → Option Nat → Option Nat → zW → zR) (rL0 : Option Nat) (xL2 : Int32) (xL3 : Int32) (rL6 : Option Nat) (rS0 : Option Nat) (w : zW) (hJ : ∀ (b0 : Option Nat) (b1 : Int32) (b2 : Int32) (b3 : Option Nat) (b4 : Option Nat) (b5 : Option Nat) (w : zW), zH w (J b0 b1 b2 b3 b4 b5 w)) : zH w (q_AckBook_Sent_wasCutOff_43 F X J rL0 xL2 xL3 rL6 rS0 w) := by
  unfold q_AckBook_Sent_wasCutOff_43
  repeat' with_reducible first | exact hJ _ _ _ _ _ _ _ | exact zH.ret | refine zH.getR fun _ => ?_
theorem h_j_AckBook_Sent_wasCutOff (F X : Nat) : ∀ (N : Nat) (a1 : Option Nat) (a2 : Int32) (a3 : Int32) (a4 : Option Nat) (a5 : Option Nat) (a6 : Option Nat) (w : zW), zH w (j_AckBook_Sent_wasCutOff F X N a1 a2 a3 a4 a5 a6 w) := by
  intro N
  induction N with
  | zero => exact fun a1 a2 a3 a4 a5 a6 w => zH.none
  | succ N ih =>
    intro a1 a2 a3 a4 a5 a6 w
    rw [j_AckBook_Sent_wasCutOff]
    repeat' with_reducible first | exact ih _ _ _ _ _ _ _ | exact zH.none | exact zH.ret | exact h_f_AckBook_Sent_hasAcknowledged _ _ _ _ _ _ | exact h_q_AckBook_Sent_wasCutOff_43 _ _ _ _ _ _ _ _ _ ih | refine zH.ite ?_ ?_ | refine zH.this ?_ | refine zH.getI fun _ => ?_ | refine zH.getR fun _ => ?_ | refine zH.cI (h_f_AckBook_Sent_hasAcknowledged _ _ _ _ _ _) fun _ _ => ?_
theorem h_f_AckBook_Sent_wasCutOff (F X : Nat) (a0 : Option Nat) (pR1 : Option Nat) (pI2 : Int32) (pI3 : Int32) (w : zW) : zH w (f_AckBook_Sent_wasCutOff F X a0 pR1 pI2 pI3 w) := by
  unfold f_AckBook_Sent_wasCutOff
  repeat' with_reducible first | exact zH.none | exact zH.ret | exact h_j_AckBook_Sent_wasCutOff _ _ _ _ _ _ _ _ _ _
theorem h_f_AckBook_Flow_collapse (F X : Nat) (a0 : Option Nat) (w : zW) : zH w (f_AckBook_Flow_collapse F X a0 w) := by
  unfold f_AckBook_Flow_collapse
  repeat' with_reducible first | exact zH.none | exact zH.ret | refine zH.put (by decide) (by decide) fun _ => ?_
theorem h_f_AckBook_lookForLosses (F X : Nat) (a0 : Option Nat) (pR1 : Option Nat) (w : zW) : zH w (f_AckBook_lookForLosses F X a0 pR1 w) := by
  unfold f_AckBook_lookForLosses
  repeat' with_reducible first | exact zH.none | exact zH.ret | exact h_f_AckBook_Way_limit _ _ _ _ | exact h_f_AckBook_Sent_markLost _ _ _ _ _ _ | exact h_f_AckBook_Flow_leaveLost _ _ _ _ _ _ | exact h_f_AckBook_Way_patience _ _ _ _ | exact h_f_AckBook_Sent_wasCutOff _ _ _ _ _ _ _ | exact h_f_AckBook_Flow_collapse _ _ _ _ | refine zH.ite ?_ ?_ | refine zH.this ?_ | refine zH.getI fun _ => ?_ | refine zH.getR fun _ => ?_ | refine zH.cI (h_f_AckBook_Way_limit _ _ _ _) fun _ _ => ?_ | refine zH.cI (h_f_AckBook_Way_patience _ _ _ _) fun _ _ => ?_ | refine zH.cI (h_f_AckBook_Sent_wasCutOff _ _ _ _ _ _ _) fun _ _ => ?_ | refine zH.cV (h_f_AckBook_Flow_leaveLost _ _ _ _ _ _) fun _ => ?_ | refine zH.cV (h_f_AckBook_Flow_collapse _ _ _ _) fun _ => ?_ | refine zH.cR (h_f_AckBook_Sent_markLost _ _ _ _ _ _) fun _ _ => ?_
theorem h_f_AckBook_confirm (F X : Nat) (a0 : Option Nat) (w : zW) : zH w (f_AckBook_confirm F X a0 w) := by
  unfold f_AckBook_confirm
  repeat' with_reducible first | exact zH.none | exact zH.ret | refine zH.putZ (by decide) (by decide) fun _ => ?_
theorem h_f_AckBook_anxious (F X : Nat) (a0 : Option Nat) (pI1 : Int32) (w : zW) : zH w (f_AckBook_anxious F X a0 pI1 w) := by
  unfold f_AckBook_anxious
  repeat' with_reducible first | exact zH.none | exact zH.ret | refine zH.putZ (by decide) (by decide) fun _ => ?_
theorem h_f_AckBook_known (F X : Nat) (a0 : Option Nat) (pI1 : Int32) (w : zW) : zH w (f_AckBook_known F X a0 pI1 w) := by
  unfold f_AckBook_known
  repeat' with_reducible first | exact zH.ret | exact zH.thr | refine zH.ite ?_ ?_ | refine zH.getR fun _ => ?_ | refine zH.len fun _ => ?_ | refine zH.ldR fun _ => ?_
theorem h_f_AckBook_refuseDiscarded (F X : Nat) (pR1 : Option Nat) (w : zW) : zH w (f_AckBook_refuseDiscarded F X pR1 w) := by
  unfold f_AckBook_refuseDiscarded
  repeat' with_reducible first | exact zH.none | exact zH.ret | exact zH.thr | refine zH.ite ?_ ?_ | refine zH.getI fun _ => ?_
theorem h_f_AckBook_Sent_count (F X : Nat) (a0 : Option Nat) (w : zW) : zH w (f_AckBook_Sent_count F X a0 w) := by
  unfold f_AckBook_Sent_count
  repeat' with_reducible first | exact zH.ret | exact h_f_ArrayList_size _ _ _ _ | refine zH.this ?_ | refine zH.getR fun _ => ?_ | refine zH.cI (h_f_ArrayList_size _ _ _ _) fun _ _ => ?_
theorem h_f_AckBook_Packet_init (F X : Nat) (a0 : Option Nat) (pI1 : Int32) (pI2 : Int32) (pI3 : Int32) (pI4 : Int32) (pI5 : Int32) (w : zW) : zH w (f_AckBook_Packet_init F X a0 pI1 pI2 pI3 pI4 pI5 w) := by
  unfold f_AckBook_Packet_init
  repeat' with_reducible first | exact zH.none | exact zH.ret | refine zH.nn ?_ | refine zH.put (by decide) (by decide) fun _ => ?_ | refine zH.putZ (by decide) (by decide) fun _ => ?_
theorem h_f_ArraysSupport_hugeLength (F X : Nat) (pI1 : Int32) (pI2 : Int32) (w : zW) : zH w (f_ArraysSupport_hugeLength F X pI1 pI2 w) := by
  unfold f_ArraysSupport_hugeLength
  repeat' with_reducible first | exact zH.none | exact zH.ret | refine zH.ite ?_ ?_
theorem h_q_ArraysSupport_newLength_21 (F X : Nat) (xL0 : Int32) (xL1 : Int32) (w : zW) : zH w (q_ArraysSupport_newLength_21 F X xL0 xL1 w) := by
  unfold q_ArraysSupport_newLength_21
  repeat' with_reducible first | exact zH.ret | exact h_f_ArraysSupport_hugeLength _ _ _ _ _ | refine zH.cI (h_f_ArraysSupport_hugeLength _ _ _ _ _) fun _ _ => ?_
theorem h_f_ArraysSupport_newLength (F X : Nat) (pI1 : Int32) (pI2 : Int32) (pI3 : Int32) (w : zW) : zH w (f_ArraysSupport_newLength F X pI1 pI2 pI3 w) := by
  unfold f_ArraysSupport_newLength
  repeat' with_reducible first | exact zH.ret | exact h_q_ArraysSupport_newLength_21 _ _ _ _ _ | refine zH.ite ?_ ?_
theorem h_q_Arrays_copyOf_24 (F X : Nat) (rL0 : Option Nat) (xL1 : Int32) (rS0 : Option Nat) (w : zW) : zH w (q_Arrays_copyOf_24 F X rL0 xL1 rS0 w) := by
  unfold q_Arrays_copyOf_24
  repeat' with_reducible first | exact zH.ret | refine zH.ite ?_ ?_ | refine zH.len fun _ => ?_ | refine zH.acp fun _ => ?_
theorem h_f_Arrays_copyOf (F X : Nat) (pR1 : Option Nat) (pI2 : Int32) (w : zW) : zH w (f_Arrays_copyOf F X pR1 pI2 w) := by
  unfold f_Arrays_copyOf
  repeat' with_reducible first | exact zH.none | exact zH.ret | exact h_q_Arrays_copyOf_24 _ _ _ _ _ _ | refine zH.newa fun _ _ => ?_
theorem h_f_Arrays_copyOf2 (F X : Nat) (pR1 : Option Nat) (pI2 : Int32) (w : zW) : zH w (f_Arrays_copyOf2 F X pR1 pI2 w) := by
  unfold f_Arrays_copyOf2
  repeat' with_reducible first | exact zH.ret | exact h_f_Arrays_copyOf _ _ _ _ _ | refine zH.isAr ?_ | refine zH.cR (h_f_Arrays_copyOf _ _ _ _ _) fun _ _ => ?_
theorem h_q_ArrayList_grow_20 (F X : Nat) (rL0 : Option Nat) (xL1 : Int32) (xL2 : Int32) (w : zW) : zH w (q_ArrayList_grow_20 F X rL0 xL1 xL2 w) := by
  unfold q_ArrayList_grow_20
  repeat' with_reducible first | exact zH.ret | exact h_f_ArraysSupport_newLength _ _ _ _ _ _ | exact h_f_Arrays_copyOf2 _ _ _ _ _ | refine zH.getR fun _ => ?_ | refine zH.put (by decide) (by decide) fun _ => ?_ | refine zH.cI (h_f_ArraysSupport_newLength _ _ _ _ _ _) fun _ _ => ?_ | refine zH.cR (h_f_Arrays_copyOf2 _ _ _ _ _) fun _ _ => ?_
theorem h_f_ArrayList_grow (F X : Nat) (a0 : Option Nat) (pI1 : Int32) (w : zW) : zH w (f_ArrayList_grow F X a0 pI1 w) := by
  unfold f_ArrayList_grow
  repeat' with_reducible first | exact zH.none | exact zH.ret | exact h_q_ArrayList_grow_20 _ _ _ _ _ _ | refine zH.ite ?_ ?_ | refine zH.getR fun _ => ?_ | refine zH.len fun _ => ?_ | refine zH.put (by decide) (by decide) fun _ => ?_ | refine zH.newa fun _ _ => ?_
theorem h_f_ArrayList_grow2 (F X : Nat) (a0 : Option Nat) (w : zW) : zH w (f_ArrayList_grow2 F X a0 w) := by
  unfold f_ArrayList_grow2
  repeat' with_reducible first | exact zH.ret | exact h_f_ArrayList_grow _ _ _ _ _ | refine zH.this ?_ | refine zH.getI fun _ => ?_ | refine zH.cR (h_f_ArrayList_grow _ _ _ _ _) fun _ _ => ?_
theorem h_q_ArrayList_add_11 (F X : Nat) (rL0 : Option Nat) (rL1 : Option Nat) (rL2 : Option Nat) (xL3 : Int32) (w : zW) : zH w (q_ArrayList_add_11 F X rL0 rL1 rL2 xL3 w) := by
  unfold q_ArrayList_add_11
  repeat' with_reducible first | exact zH.none | exact zH.ret | refine zH.put (by decide) (by decide) fun _ => ?_ | refine zH.stR fun _ => ?_
theorem h_f_ArrayList_add (F X : Nat) (a0 : Option Nat) (pR1 : Option Nat) (pR2 : Option Nat) (pI3 : Int32) (w : zW) : zH w (f_ArrayList_add F X a0 pR1 pR2 pI3 w) := by
  unfold f_ArrayList_add
  repeat' with_reducible first | exact zH.ret | exact h_f_ArrayList_grow2 _ _ _ _ | exact h_q_ArrayList_add_11 _ _ _ _ _ _ _ | refine zH.ite ?_ ?_ | refine zH.this ?_ | refine zH.len fun _ => ?_ | refine zH.cR (h_f_ArrayList_grow2 _ _ _ _) fun _ _ => ?_
theorem h_f_ArrayList_add2 (F X : Nat) (a0 : Option Nat) (pR1 : Option Nat) (w : zW) : zH w (f_ArrayList_add2 F X a0 pR1 w) := by
  unfold f_ArrayList_add2
  repeat' with_reducible first | exact zH.ret | exact h_f_ArrayList_add _ _ _ _ _ _ _ | refine zH.this ?_ | refine zH.getI fun _ => ?_ | refine zH.getR fun _ => ?_ | refine zH.put (by decide) (by decide) fun _ => ?_ | refine zH.cV (h_f_ArrayList_add _ _ _ _ _ _ _) fun _ => ?_
theorem h_f_AckBook_Sent_enter (F X : Nat) (a0 : Option Nat) (pR1 : Option Nat) (w : zW) : zH w (f_AckBook_Sent_enter F X a0 pR1 w) := by
  unfold f_AckBook_Sent_enter
  repeat' with_reducible first | exact zH.none | exact zH.ret | exact h_f_ArrayList_add2 _ _ _ _ _ | refine zH.ite ?_ ?_ | refine zH.this ?_ | refine zH.getI fun _ => ?_ | refine zH.getR fun _ => ?_ | refine zH.put (by decide) (by decide) fun _ => ?_ | refine zH.cI (h_f_ArrayList_add2 _ _ _ _ _) fun _ _ => ?_
theorem h_q_AckBook_Flow_enter_20 (F X : Nat) (rL0 : Option Nat) (rL1 : Option Nat) (w : zW) : zH w (q_AckBook_Flow_enter_20 F X rL0 rL1 w) := by
  unfold q_AckBook_Flow_enter_20
  repeat' with_reducible first | exact zH.none | exact zH.ret | refine zH.ite ?_ ?_ | refine zH.getI fun _ => ?_ | refine zH.putZ (by decide) (by decide) fun _ => ?_
theorem h_f_AckBook_Flow_enter (F X : Nat) (a0 : Option Nat) (pR1 : Option Nat) (w : zW) : zH w (f_AckBook_Flow_enter F X a0 pR1 w) := by
  unfold f_AckBook_Flow_enter
  repeat' with_reducible first | exact zH.ret | exact h_q_AckBook_Flow_enter_20 _ _ _ _ _ | refine zH.ite ?_ ?_ | refine zH.getI fun _ => ?_ | refine zH.put (by decide) (by decide) fun _ => ?_
theorem h_q_AckBook_send_48 (F X : Nat) (rL0 : Option Nat) (xL2 : Int32) (xL3 : Int32) (xL4 : Int32) (rL5 : Option Nat) (w : zW) : zH w (q_AckBook_send_48 F X rL0 xL2 xL3 xL4 rL5 w) := by
  unfold q_AckBook_send_48
  repeat' with_reducible first | exact zH.ret | exact zH.thr | exact h_f_AckBook_refuseDiscarded _ _ _ _ | exact h_f_AckBook_Sent_count _ _ _ _ | exact h_f_AckBook_Packet_init _ _ _ _ _ _ _ _ _ | exact h_f_AckBook_Sent_enter _ _ _ _ _ | exact h_f_AckBook_Flow_enter _ _ _ _ _ | refine zH.ite ?_ ?_ | refine zH.this ?_ | refine zH.nn ?_ | refine zH.getI fun _ => ?_ | refine zH.getR fun _ => ?_ | refine zH.put (by decide) (by decide) fun _ => ?_ | refine zH.new fun _ _ => ?_ | refine zH.cI (h_f_AckBook_Sent_count _ _ _ _) fun _ _ => ?_ | refine zH.cV (h_f_AckBook_refuseDiscarded _ _ _ _) fun _ => ?_ | refine zH.cV (h_f_AckBook_Packet_init _ _ _ _ _ _ _ _ _) fun _ => ?_ | refine zH.cV (h_f_AckBook_Sent_enter _ _ _ _ _) fun _ => ?_ | refine zH.cV (h_f_AckBook_Flow_enter _ _ _ _ _) fun _ => ?_
theorem h_f_AckBook_send (F X : Nat) (a0 : Option Nat) (pI1 : Int32) (pI2 : Int32) (pI3 : Int32) (pI4 : Int32) (w : zW) : zH w (f_AckBook_send F X a0 pI1 pI2 pI3 pI4 w) := by
  unfold f_AckBook_send
  repeat' with_reducible first | exact zH.ret | exact zH.thr | exact h_f_AckBook_known _ _ _ _ _ | exact h_q_AckBook_send_48 _ _ _ _ _ _ _ _ | refine zH.ite ?_ ?_ | refine zH.this ?_ | refine zH.cR (h_f_AckBook_known _ _ _ _ _) fun _ _ => ?_
theorem h_f_AckBook_Claim_isBelow (F X : Nat) (a0 : Option Nat) (pJ1 : Int64) (w : zW) : zH w (f_AckBook_Claim_isBelow F X a0 pJ1 w) := by
  unfold f_AckBook_Claim_isBelow
  repeat' with_reducible first | exact zH.ret | refine zH.ite ?_ ?_ | refine zH.getI fun _ => ?_ | refine zH.getR fun _ => ?_ | refine zH.ldL fun _ => ?_
theorem h_f_AckBook_Claim_isFull (F X : Nat) (a0 : Option Nat) (w : zW) : zH w (f_AckBook_Claim_isFull F X a0 w) := by
  unfold f_AckBook_Claim_isFull
  repeat' with_reducible first | exact zH.ret | refine zH.ite ?_ ?_ | refine zH.getI fun _ => ?_
theorem h_f_AckBook_Claim_close (F X : Nat) (a0 : Option Nat) (w : zW) : zH w (f_AckBook_Claim_close F X a0 w) := by
  unfold f_AckBook_Claim_close
  repeat' with_reducible first | exact zH.none | exact zH.ret | refine zH.getI fun _ => ?_ | refine zH.put (by decide) (by decide) fun _ => ?_
theorem h_f_AckBook_Claim_greatest (F X : Nat) (a0 : Option Nat) (w : zW) : zH w (f_AckBook_Claim_greatest F X a0 w) := by
  unfold f_AckBook_Claim_greatest
  repeat' with_reducible first | exact zH.ret | refine zH.ite ?_ ?_ | refine zH.getI fun _ => ?_ | refine zH.getR fun _ => ?_ | refine zH.ldL fun _ => ?_
theorem h_f_AckBook_Sent_packet (F X : Nat) (a0 : Option Nat) (pJ1 : Int64) (w : zW) : zH w (f_AckBook_Sent_packet F X a0 pJ1 w) := by
  unfold f_AckBook_Sent_packet
  repeat' with_reducible first | exact zH.none | exact zH.ret | exact h_f_ArrayList_size _ _ _ _ | exact h_f_ArrayList_get _ _ _ _ _ | refine zH.ite ?_ ?_ | refine zH.this ?_ | refine zH.cast ?_ | refine zH.getR fun _ => ?_ | refine zH.cI (h_f_ArrayList_size _ _ _ _) fun _ _ => ?_ | refine zH.cR (h_f_ArrayList_get _ _ _ _ _) fun _ _ => ?_
theorem h_f_AckBook_Sent_raiseGreatest (F X : Nat) (a0 : Option Nat) (pI1 : Int32) (w : zW) : zH w (f_AckBook_Sent_raiseGreatest F X a0 pI1 w) := by
  unfold f_AckBook_Sent_raiseGreatest
  repeat' with_reducible first | exact zH.none | exact zH.ret | refine zH.ite ?_ ?_ | refine zH.getI fun _ => ?_ | refine zH.put (by decide) (by decide) fun _ => ?_
theorem h_f_AckBook_Claim_high (F X : Nat) (a0 : Option Nat) (pI1 : Int32) (w : zW) : zH w (f_AckBook_Claim_high F X a0 pI1 w) := by
  unfold f_AckBook_Claim_high
  repeat' with_reducible first | exact zH.ret | refine zH.ite ?_ ?_ | refine zH.getR fun _ => ?_ | refine zH.ldL fun _ => ?_
theorem h_f_AckBook_Claim_low (F X : Nat) (a0 : Option Nat) (pI1 : Int32) (w : zW) : zH w (f_AckBook_Claim_low F X a0 pI1 w) := by
  unfold f_AckBook_Claim_low
  repeat' with_reducible first | exact zH.ret | refine zH.ite ?_ ?_ | refine zH.getR fun _ => ?_ | refine zH.ldL fun _ => ?_
theorem h_q_AckBook_Sent_markAcknowledged_90 (F X : Nat) (J : Nat → Option Nat → Option Nat → Option Nat → Int32 → Int64 → Int64 → zW → zR) (rL0 : Option Nat) (rL1 : Option Nat) (xL3 : Int32) (yL4 : Int64) (yL6 : Int64) (rS0 : Option Nat) (w : zW) (hJ : ∀ (b0 : Nat) (b1 : Option Nat) (b2 : Option Nat) (b3 : Option Nat) (b4 : Int32) (b5 : Int64) (b6 : Int64) (w : zW), zH w (J b0 b1 b2 b3 b4 b5 b6 w)) : zH w (q_AckBook_Sent_markAcknowledged_90 F X J rL0 rL1 xL3 yL4 yL6 rS0 w) := by
  unfold q_AckBook_Sent_markAcknowledged_90
  repeat' with_reducible first | exact hJ _ _ _ _ _ _ _ _ | exact zH.ret
theorem h_j_AckBook_Sent_markAcknowledged (F X : Nat) : ∀ (N : Nat) (a1 : Nat) (a2 : Option Nat) (a3 : Option Nat) (a4 : Option Nat) (a5 : Int32) (a6 : Int64) (a7 : Int64) (w : zW), zH w (j_AckBook_Sent_markAcknowledged F X N a1 a2 a3 a4 a5 a6 a7 w) := by
  intro N
  induction N with
  | zero => exact fun a1 a2 a3 a4 a5 a6 a7 w => zH.none
  | succ N ih =>
    intro a1 a2 a3 a4 a5 a6 a7 w
    rw [j_AckBook_Sent_markAcknowledged]
    repeat' with_reducible first | exact ih _ _ _ _ _ _ _ _ | exact zH.none | exact zH.ret | exact h_f_AckBook_Claim_high _ _ _ _ _ | exact h_f_ArrayList_size _ _ _ _ | exact h_f_AckBook_Claim_low _ _ _ _ _ | exact h_f_AckBook_Sent_packet _ _ _ _ _ | exact h_f_AckBook_Sent_end _ _ _ _ _ _ _ | exact h_q_AckBook_Sent_markAcknowledged_90 _ _ _ _ _ _ _ _ _ _ ih | refine zH.ite ?_ ?_ | refine zH.this ?_ | refine zH.getI fun _ => ?_ | refine zH.getR fun _ => ?_ | refine zH.cI (h_f_ArrayList_size _ _ _ _) fun _ _ => ?_ | refine zH.cV (h_f_AckBook_Sent_end _ _ _ _ _ _ _) fun _ => ?_ | refine zH.cL (h_f_AckBook_Claim_high _ _ _ _ _) fun _ _ => ?_ | refine zH.cL (h_f_AckBook_Claim_low _ _ _ _ _) fun _ _ => ?_ | refine zH.cR (h_f_AckBook_Sent_packet _ _ _ _ _) fun _ _ => ?_
theorem h_f_AckBook_Sent_markAcknowledged (F X : Nat) (a0 : Option Nat) (pR1 : Option Nat) (w : zW) : zH w (f_AckBook_Sent_markAcknowledged F X a0 pR1 w) := by
  unfold f_AckBook_Sent_markAcknowledged
  repeat' with_reducible first | exact zH.none | exact zH.ret | exact h_j_AckBook_Sent_markAcknowledged _ _ _ _ _ _ _ _ _ _ _ | refine zH.getI fun _ => ?_
theorem h_j_AckBook_hasEliciting (F X : Nat) : ∀ (N : Nat) (a1 : Option Nat) (w : zW), zH w (j_AckBook_hasEliciting F X N a1 w) := by
  intro N
  induction N with
  | zero => exact fun a1 w => zH.none
  | succ N ih =>
    intro a1 w
    rw [j_AckBook_hasEliciting]
    repeat' with_reducible first | exact ih _ _ | exact zH.none | exact zH.ret | refine zH.ite ?_ ?_ | refine zH.getI fun _ => ?_ | refine zH.getR fun _ => ?_
theorem h_f_AckBook_hasEliciting (F X : Nat) (pR1 : Option Nat) (w : zW) : zH w (f_AckBook_hasEliciting F X pR1 w) := by
  unfold f_AckBook_hasEliciting
  repeat' with_reducible first | exact zH.ret | exact h_j_AckBook_hasEliciting _ _ _ _ _
theorem h_q_AckBook_Way_take_75 (F X : Nat) (rL0 : Option Nat) (xS0 : Int32) (w : zW) : zH w (q_AckBook_Way_take_75 F X rL0 xS0 w) := by
  unfold q_AckBook_Way_take_75
  repeat' with_reducible first | exact zH.none | exact zH.ret | refine zH.ite ?_ ?_ | refine zH.getI fun _ => ?_ | refine zH.put (by decide) (by decide) fun _ => ?_
theorem h_q_AckBook_Way_take_26 (F X : Nat) (rL0 : Option Nat) (xL1 : Int32) (xL2 : Int32) (xL3 : Int32) (rS0 : Option Nat) (xS1 : Int32) (w : zW) : zH w (q_AckBook_Way_take_26 F X rL0 xL1 xL2 xL3 rS0 xS1 w) := by
  unfold q_AckBook_Way_take_26
  repeat' with_reducible first | exact zH.none | exact zH.ret | exact h_q_AckBook_Way_take_75 _ _ _ _ _ | refine zH.ite ?_ ?_ | refine zH.getI fun _ => ?_ | refine zH.put (by decide) (by decide) fun _ => ?_
theorem h_f_AckBook_Way_take (F X : Nat) (a0 : Option Nat) (pI1 : Int32) (pI2 : Int32) (pI3 : Int32) (w : zW) : zH w (f_AckBook_Way_take F X a0 pI1 pI2 pI3 w) := by
  unfold f_AckBook_Way_take
  repeat' with_reducible first | exact zH.ret | exact h_q_AckBook_Way_take_26 _ _ _ _ _ _ _ _ _ | refine zH.ite ?_ ?_ | refine zH.getI fun _ => ?_ | refine zH.put (by decide) (by decide) fun _ => ?_
theorem h_q_AckBook_Flow_grow_19 (F X : Nat) (rL0 : Option Nat) (xL1 : Int32) (w : zW) : zH w (q_AckBook_Flow_grow_19 F X rL0 xL1 w) := by
  unfold q_AckBook_Flow_grow_19
  repeat' with_reducible first | exact zH.none | exact zH.ret | refine zH.getI fun _ => ?_ | refine zH.put (by decide) (by decide) fun _ => ?_
theorem h_f_AckBook_Flow_grow (F X : Nat) (a0 : Option Nat) (pI1 : Int32) (w : zW) : zH w (f_AckBook_Flow_grow F X a0 pI1 w) := by
  unfold f_AckBook_Flow_grow
  repeat' with_reducible first | exact zH.none | exact zH.ret | exact h_q_AckBook_Flow_grow_19 _ _ _ _ _ | refine zH.ite ?_ ?_ | refine zH.nz ?_ | refine zH.getI fun _ => ?_ | refine zH.put (by decide) (by decide) fun _ => ?_
theorem h_j_AckBook_Flow_leaveAcknowledged (F X : Nat) : ∀ (N : Nat) (a1 : Option Nat) (a2 : Int32) (a3 : Option Nat) (w : zW), zH w (j_AckBook_Flow_leaveAcknowledged F X N a1 a2 a3 w) := by
  intro N
  induction N with
  | zero => exact fun a1 a2 a3 w => zH.none
  | succ N ih =>
    intro a1 a2 a3 w
    rw [j_AckBook_Flow_leaveAcknowledged]
    repeat' with_reducible first | exact ih _ _ _ _ | exact zH.none | exact zH.ret | exact h_f_AckBook_Flow_leave _ _ _ _ _ | exact h_f_AckBook_Flow_isAfterRecovery _ _ _ _ _ | exact h_f_AckBook_Flow_grow _ _ _ _ _ | refine zH.ite ?_ ?_ | refine zH.this ?_ | refine zH.getI fun _ => ?_ | refine zH.getR fun _ => ?_ | refine zH.cI (h_f_AckBook_Flow_isAfterRecovery _ _ _ _ _) fun _ _ => ?_ | refine zH.cV (h_f_AckBook_Flow_leave _ _ _ _ _) fun _ => ?_ | refine zH.cV (h_f_AckBook_Flow_grow _ _ _ _ _) fun _ => ?_
theorem h_f_AckBook_Flow_leaveAcknowledged (F X : Nat) (a0 : Option Nat) (pR1 : Option Nat) (w : zW) : zH w (f_AckBook_Flow_leaveAcknowledged F X a0 pR1 w) := by
  unfold f_AckBook_Flow_leaveAcknowledged
  repeat' with_reducible first | exact zH.ret | exact h_j_AckBook_Flow_leaveAcknowledged _ _ _ _ _ _ _
theorem h_q_AckBook_settle_100 (F X : Nat) (rL0 : Option Nat) (rL1 : Option Nat) (rL5 : Option Nat) (w : zW) : zH w (q_AckBook_settle_100 F X rL0 rL1 rL5 w) := by
  unfold q_AckBook_settle_100
  repeat' with_reducible first | exact zH.ret | exact h_f_AckBook_Flow_leaveAcknowledged _ _ _ _ _ | exact h_f_AckBook_lookForLosses _ _ _ _ _ | refine zH.this ?_ | refine zH.getR fun _ => ?_ | refine zH.put (by decide) (by decide) fun _ => ?_ | refine zH.cI (h_f_AckBook_Flow_leaveAcknowledged _ _ _ _ _) fun _ _ => ?_ | refine zH.cV (h_f_AckBook_lookForLosses _ _ _ _ _) fun _ => ?_
theorem h_q_AckBook_settle_76 (F X : Nat) (rL0 : Option Nat) (rL1 : Option Nat) (rL2 : Option Nat) (rL5 : Option Nat) (xS0 : Int32) (w : zW) : zH w (q_AckBook_settle_76 F X rL0 rL1 rL2 rL5 xS0 w) := by
  unfold q_AckBook_settle_76
  repeat' with_reducible first | exact zH.ret | exact h_f_AckBook_Way_take _ _ _ _ _ _ _ | exact h_q_AckBook_settle_100 _ _ _ _ _ _ | refine zH.this ?_ | refine zH.getI fun _ => ?_ | refine zH.getR fun _ => ?_ | refine zH.cV (h_f_AckBook_Way_take _ _ _ _ _ _ _) fun _ => ?_
theorem h_q_AckBook_settle_12 (F X : Nat) (rL0 : Option Nat) (rL1 : Option Nat) (rL2 : Option Nat) (xL3 : Int32) (xS0 : Int32) (w : zW) : zH w (q_AckBook_settle_12 F X rL0 rL1 rL2 xL3 xS0 w) := by
  unfold q_AckBook_settle_12
  repeat' with_reducible first | exact zH.none | exact zH.ret | exact h_f_AckBook_Sent_raiseGreatest _ _ _ _ _ | exact h_f_AckBook_Sent_markAcknowledged _ _ _ _ _ | exact h_q_AckBook_settle_100 _ _ _ _ _ _ | exact h_f_AckBook_hasEliciting _ _ _ _ | exact h_q_AckBook_settle_76 _ _ _ _ _ _ _ _ | refine zH.ite ?_ ?_ | refine zH.this ?_ | refine zH.getI fun _ => ?_ | refine zH.getR fun _ => ?_ | refine zH.cI (h_f_AckBook_hasEliciting _ _ _ _) fun _ _ => ?_ | refine zH.cV (h_f_AckBook_Sent_raiseGreatest _ _ _ _ _) fun _ => ?_ | refine zH.cR (h_f_AckBook_Sent_markAcknowledged _ _ _ _ _) fun _ _ => ?_
theorem h_f_AckBook_settle (F X : Nat) (a0 : Option Nat) (pR1 : Option Nat) (pR2 : Option Nat) (pI3 : Int32) (w : zW) : zH w (f_AckBook_settle F X a0 pR1 pR2 pI3 w) := by
  unfold f_AckBook_settle
  repeat' with_reducible first | exact zH.ret | exact h_q_AckBook_settle_12 _ _ _ _ _ _ _ _ | refine zH.ite ?_ ?_ | refine zH.getI fun _ => ?_
theorem h_f_AckBook_acknowledge (F X : Nat) (a0 : Option Nat) (pI1 : Int32) (pI2 : Int32) (w : zW) : zH w (f_AckBook_acknowledge F X a0 pI1 pI2 w) := by
  unfold f_AckBook_acknowledge
  repeat' with_reducible first | exact zH.none | exact zH.ret | exact zH.thr | exact h_f_AckBook_Claim_close _ _ _ _ | exact h_f_AckBook_known _ _ _ _ _ | exact h_f_AckBook_refuseDiscarded _ _ _ _ | exact h_f_AckBook_Claim_greatest _ _ _ _ | exact h_f_AckBook_Sent_packet _ _ _ _ _ | exact h_f_AckBook_settle _ _ _ _ _ _ _ | refine zH.ite ?_ ?_ | refine zH.this ?_ | refine zH.getR fun _ => ?_ | refine zH.cI (h_f_AckBook_settle _ _ _ _ _ _ _) fun _ _ => ?_ | refine zH.cV (h_f_AckBook_Claim_close _ _ _ _) fun _ => ?_ | refine zH.cV (h_f_AckBook_refuseDiscarded _ _ _ _) fun _ => ?_ | refine zH.cL (h_f_AckBook_Claim_greatest _ _ _ _) fun _ _ => ?_ | refine zH.cR (h_f_AckBook_known _ _ _ _ _) fun _ _ => ?_ | refine zH.cR (h_f_AckBook_Sent_packet _ _ _ _ _) fun _ _ => ?_
theorem h_f_AckBook_Chain_clear (F X : Nat) (a0 : Option Nat) (w : zW) : zH w (f_AckBook_Chain_clear F X a0 w) := by
  unfold f_AckBook_Chain_clear
  repeat' with_reducible first | exact zH.none | exact zH.ret | refine zH.put (by decide) (by decide) fun _ => ?_
theorem h_j_AckBook_Sent_forget (F X : Nat) : ∀ (N : Nat) (a1 : Option Nat) (a2 : Option Nat) (a3 : Int32) (w : zW), zH w (j_AckBook_Sent_forget F X N a1 a2 a3 w) := by
  intro N
  induction N with
  | zero => exact fun a1 a2 a3 w => zH.none
  | succ N ih =>
    intro a1 a2 a3 w
    rw [j_AckBook_Sent_forget]
    repeat' with_reducible first | exact ih _ _ _ _ | exact zH.none | exact zH.ret | exact h_f_ArrayList_size _ _ _ _ | exact h_f_AckBook_Chain_clear _ _ _ _ | exact h_f_ArrayList_get _ _ _ _ _ | exact h_f_AckBook_Flow_leave _ _ _ _ _ | refine zH.ite ?_ ?_ | refine zH.this ?_ | refine zH.cast ?_ | refine zH.getI fun _ => ?_ | refine zH.getR fun _ => ?_ | refine zH.put (by decide) (by decide) fun _ => ?_ | refine zH.cI (h_f_ArrayList_size _ _ _ _) fun _ _ => ?_ | refine zH.cV (h_f_AckBook_Chain_clear _ _ _ _) fun _ => ?_ | refine zH.cV (h_f_AckBook_Flow_leave _ _ _ _ _) fun _ => ?_ | refine zH.cR (h_f_ArrayList_get _ _ _ _ _) fun _ _ => ?_
theorem h_f_AckBook_Sent_forget (F X : Nat) (a0 : Option Nat) (pR1 : Option Nat) (w : zW) : zH w (f_AckBook_Sent_forget F X a0 pR1 w) := by
  unfold f_AckBook_Sent_forget
  repeat' with_reducible first | exact zH.ret | exact h_j_AckBook_Sent_forget _ _ _ _ _ _ _
theorem h_f_AckBook_Chain_removeFirst (F X : Nat) (a0 : Option Nat) (w : zW) : zH w (f_AckBook_Chain_removeFirst F X a0 w) := by
  unfold f_AckBook_Chain_removeFirst
  repeat' with_reducible first | exact zH.none | exact zH.ret | refine zH.ite ?_ ?_ | refine zH.getI fun _ => ?_ | refine zH.getR fun _ => ?_ | refine zH.put (by decide) (by decide) fun _ => ?_
theorem h_f_AckBook_next (F X : Nat) (a0 : Option Nat) (pI1 : Int32) (pI2 : Int32) (w : zW) : zH w (f_AckBook_next F X a0 pI1 pI2 w) := by
  unfold f_AckBook_next
  repeat' with_reducible first | exact zH.ret | exact h_f_AckBook_known _ _ _ _ _ | exact h_f_AckBook_Chain_removeFirst _ _ _ _ | refine zH.ite ?_ ?_ | refine zH.this ?_ | refine zH.getR fun _ => ?_ | refine zH.cI (h_f_AckBook_Chain_removeFirst _ _ _ _) fun _ _ => ?_ | refine zH.cR (h_f_AckBook_known _ _ _ _ _) fun _ _ => ?_
theorem h_f_AckBook_state (F X : Nat) (a0 : Option Nat) (pI1 : Int32) (pI2 : Int32) (w : zW) : zH w (f_AckBook_state F X a0 pI1 pI2 w) := by
  unfold f_AckBook_state
  repeat' with_reducible first | exact zH.none | exact zH.ret | exact h_f_AckBook_known _ _ _ _ _ | exact h_f_AckBook_Sent_packet _ _ _ _ _ | refine zH.ite ?_ ?_ | refine zH.this ?_ | refine zH.getI fun _ => ?_ | refine zH.getR fun _ => ?_ | refine zH.cR (h_f_AckBook_known _ _ _ _ _) fun _ _ => ?_ | refine zH.cR (h_f_AckBook_Sent_packet _ _ _ _ _) fun _ _ => ?_
theorem h_j_AckBook_Arrivals_firstNotAbove (F X : Nat) : ∀ (N : Nat) (a1 : Option Nat) (a2 : Int64) (a3 : Int32) (w : zW), zH w (j_AckBook_Arrivals_firstNotAbove F X N a1 a2 a3 w) := by
  intro N
  induction N with
  | zero => exact fun a1 a2 a3 w => zH.none
  | succ N ih =>
    intro a1 a2 a3 w
    rw [j_AckBook_Arrivals_firstNotAbove]
    repeat' with_reducible first | exact ih _ _ _ _ | exact zH.none | exact zH.ret | refine zH.ite ?_ ?_ | refine zH.getI fun _ => ?_ | refine zH.getR fun _ => ?_ | refine zH.len fun _ => ?_ | refine zH.ldL fun _ => ?_
theorem h_f_AckBook_Arrivals_firstNotAbove (F X : Nat) (a0 : Option Nat) (pJ1 : Int64) (w : zW) : zH w (f_AckBook_Arrivals_firstNotAbove F X a0 pJ1 w) := by
  unfold f_AckBook_Arrivals_firstNotAbove
  repeat' with_reducible first | exact zH.ret | exact h_j_AckBook_Arrivals_firstNotAbove _ _ _ _ _ _ _
theorem h_f_AckBook_Arrivals_isPressing (F X : Nat) (a0 : Option Nat) (pI1 : Int32) (w : zW) : zH w (f_AckBook_Arrivals_isPressing F X a0 pI1 w) := by
  unfold f_AckBook_Arrivals_isPressing
  repeat' with_reducible first | exact zH.ret | refine zH.ite ?_ ?_ | refine zH.getI fun _ => ?_
theorem h_f_AckBook_due (F X : Nat) (a0 : Option Nat) (pI1 : Int32) (w : zW) : zH w (f_AckBook_due F X a0 pI1 w) := by
  unfold f_AckBook_due
  repeat' with_reducible first | exact zH.ret | exact zH.retZ | exact h_f_AckBook_known _ _ _ _ _ | exact h_f_AckBook_Arrivals_isPressing _ _ _ _ _ | refine zH.ite ?_ ?_ | refine zH.this ?_ | refine zH.getI fun _ => ?_ | refine zH.getR fun _ => ?_ | refine zH.cI (h_f_AckBook_Arrivals_isPressing _ _ _ _ _) fun _ _ => ?_ | refine zH.cR (h_f_AckBook_known _ _ _ _ _) fun _ _ => ?_
theorem h_f_AckBook_range (F X : Nat) (a0 : Option Nat) (pI1 : Int32) (pI2 : Int32) (pI3 : Int32) (w : zW) : zH w (f_AckBook_range F X a0 pI1 pI2 pI3 w) := by
  unfold f_AckBook_range
  repeat' with_reducible first | exact zH.ret | exact zH.thr | exact h_f_AckBook_known _ _ _ _ _ | refine zH.ite ?_ ?_ | refine zH.this ?_ | refine zH.getI fun _ => ?_ | refine zH.getR fun _ => ?_ | refine zH.ldL fun _ => ?_ | refine zH.cR (h_f_AckBook_known _ _ _ _ _) fun _ _ => ?_
theorem h_f_AckBook_look (F X : Nat) (a0 : Option Nat) (pI1 : Int32) (w : zW) : zH w (f_AckBook_look F X a0 pI1 w) := by
  unfold f_AckBook_look
  repeat' with_reducible first | exact zH.ret | exact zH.thr | exact h_f_AckBook_Way_limit _ _ _ _ | refine zH.ite ?_ ?_ | refine zH.this ?_ | refine zH.getI fun _ => ?_ | refine zH.getR fun _ => ?_ | refine zH.cI (h_f_AckBook_Way_limit _ _ _ _) fun _ _ => ?_
theorem h_f_AckBook_space (F X : Nat) (a0 : Option Nat) (pI1 : Int32) (pI2 : Int32) (w : zW) : zH w (f_AckBook_space F X a0 pI1 pI2 w) := by
  unfold f_AckBook_space
  repeat' with_reducible first | exact zH.ret | exact zH.thr | exact h_f_AckBook_known _ _ _ _ _ | exact h_f_AckBook_Sent_count _ _ _ _ | exact h_f_AckBook_probeTime _ _ _ _ _ | exact h_f_AckBook_patience _ _ _ _ _ | refine zH.ite ?_ ?_ | refine zH.this ?_ | refine zH.getI fun _ => ?_ | refine zH.getR fun _ => ?_ | refine zH.getL fun _ => ?_ | refine zH.cI (h_f_AckBook_Sent_count _ _ _ _) fun _ _ => ?_ | refine zH.cI (h_f_AckBook_probeTime _ _ _ _ _) fun _ _ => ?_ | refine zH.cI (h_f_AckBook_patience _ _ _ _ _) fun _ _ => ?_ | refine zH.cR (h_f_AckBook_known _ _ _ _ _) fun _ _ => ?_
end FC
