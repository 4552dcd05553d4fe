def f_AckBookModel_find (F X : Nat) (a0 : Option Nat) (pI1 : Int32) (pI2 : Int32) (pI3 : Int32) (w : zW) : zR :=
  z_getR w 10 7 a0 fun r1 =>
  z_stI w r1 (((4096 : Int32) * pI1) + pI2) pI3 fun w =>
  z_getR w 10 15 a0 fun r2 =>
  z_getR w 10 16 a0 fun r3 =>
  z_ldI w .int r3 ((((2 : Int32) * pI1) + pI3) - (1 : Int32)) fun v4 =>
  z_stI w r2 (((4096 : Int32) * ((((2 : Int32) * pI1) + pI3) - (1 : Int32))) + v4) pI2 fun w =>
  z_getR w 10 16 a0 fun r5 =>
  z_ldI w .int r5 ((((2 : Int32) * pI1) + pI3) - (1 : Int32)) fun v6 =>
  z_stI w r5 ((((2 : Int32) * pI1) + pI3) - (1 : Int32)) (v6 + (1 : Int32)) fun w =>
  some (.inl none, w)
set_option maxHeartbeats 4000000 in
set_option maxRecDepth 100000 in
theorem k_AckBookModel_find {b0 : Nat} {H0 : Heap} {D : va_G} {vu vs : Value} {X M : Nat} {l : Launch} (hT : z_TB (zGG b0 H0 D vu vs X M)) (hfl : l.flags = pinnedFlags ++ [noTraceFlag]) (hE : vu.isRef = true ∧ vs.isRef = true) {a0 : Option Nat} {pI1 : Int32} {pI2 : Int32} {pI3 : Int32} (F : Nat) {w : zW} (res : zO × zW) (h : f_AckBookModel_find F X a0 pI1 pI2 pI3 w = some res) : z_Ct (zGG b0 H0 D vu vs X M) l y_AckBookModel_find (.code y_AckBookModel_find c_AckBookModel_find 5 (none)) 0 0 [va_rf a0, .int pI1, .int pI2, .int pI3] w res := by
  refine z_ct hT hfl (by decide) (by simp only [z_sl_i, z_sl_j, z_sl_r, z_sl_n]; decide) ?_
  intro p e R s m args below meth c hC hr hRc hRs hRt hnm hFr H ls hZ hl
  simp only [z_la_i, z_la_j, z_la_r, z_la_n] at hl
  have hl : lv_has ls 5 [(0, va_rf a0), (1, .int pI1), (2, .int pI2), (3, .int pI3)] := hl
  unfold f_AckBookModel_find at h
  refine lv_iconst (v := (2 : Int32)) hC.1 hC.2.1 d_AckBookModel_find_0 (by decide) ?_
  refine lv_iload_n hC.1 hC.2.1 d_AckBookModel_find_1 rfl (lv_at hl 1 rfl) ?_
  refine lv_imul hC.1 hC.2.1 d_AckBookModel_find_2 ?_
  refine lv_iload_n hC.1 hC.2.1 d_AckBookModel_find_3 rfl (lv_at hl 3 rfl) ?_
  refine lv_iadd hC.1 hC.2.1 d_AckBookModel_find_4 ?_
  refine lv_iconst (v := (1 : Int32)) hC.1 hC.2.1 d_AckBookModel_find_5 (by decide) ?_
  refine lv_isub hC.1 hC.2.1 d_AckBookModel_find_6 ?_
  refine lv_istore (i := 4) (lv' := [(4, .int ((((2 : Int32) * pI1) + pI3) - (1 : Int32))), (0, va_rf a0), (1, .int pI1), (2, .int pI2), (3, .int pI3)]) hC.1 hC.2.1 d_AckBookModel_find_7 hl (by decide) (by first | rfl | simp [z_rfc, z_ci, z_cj]) (fun ls hl => ?_)
  refine x_aload_n hC d_AckBookModel_find_9 rfl (lv_at hl 1 rfl) ?_
  refine x_getR hC hZ zc10 h (by decide) t_826 (fun _ h9 => h9) d_AckBookModel_find_10 (fun r1 h => ?_)
  refine lv_sipush (v := (4096 : Int32)) hC.1 hC.2.1 d_AckBookModel_find_13 (by decide) ?_
  refine lv_iload_n hC.1 hC.2.1 d_AckBookModel_find_16 rfl (lv_at hl 2 rfl) ?_
  refine lv_imul hC.1 hC.2.1 d_AckBookModel_find_17 ?_
  refine lv_iload_n hC.1 hC.2.1 d_AckBookModel_find_18 rfl (lv_at hl 3 rfl) ?_
  refine lv_iadd hC.1 hC.2.1 d_AckBookModel_find_19 ?_
  refine lv_iload_n hC.1 hC.2.1 d_AckBookModel_find_20 rfl (lv_at hl 4 rfl) ?_
  refine x_stI hC hZ h d_AckBookModel_find_21 (fun w H locs hZ h => ?_)
  refine x_aload_n hC d_AckBookModel_find_22 rfl (lv_at hl 1 rfl) ?_
  refine x_getR hC hZ zc10 h (by decide) t_834 (fun _ h9 => h9) d_AckBookModel_find_23 (fun r2 h => ?_)
  refine lv_sipush (v := (4096 : Int32)) hC.1 hC.2.1 d_AckBookModel_find_26 (by decide) ?_
  refine lv_iload hC.1 hC.2.1 d_AckBookModel_find_29 (lv_at hl 0 rfl) ?_
  refine lv_imul hC.1 hC.2.1 d_AckBookModel_find_31 ?_
  refine x_aload_n hC d_AckBookModel_find_32 rfl (lv_at hl 1 rfl) ?_
  refine x_getR hC hZ zc10 h (by decide) t_835 (fun _ h9 => h9) d_AckBookModel_find_33 (fun r3 h => ?_)
  refine lv_iload hC.1 hC.2.1 d_AckBookModel_find_36 (lv_at hl 0 rfl) ?_
  refine x_ldI hC hZ h d_AckBookModel_find_38 (fun v4 h => ?_)
  refine lv_iadd hC.1 hC.2.1 d_AckBookModel_find_39 ?_
  refine lv_iload_n hC.1 hC.2.1 d_AckBookModel_find_40 rfl (lv_at hl 3 rfl) ?_
  refine x_stI hC hZ h d_AckBookModel_find_41 (fun w H locs hZ h => ?_)
  refine x_aload_n hC d_AckBookModel_find_42 rfl (lv_at hl 1 rfl) ?_
  refine x_getR hC hZ zc10 h (by decide) t_835 (fun _ h9 => h9) d_AckBookModel_find_43 (fun r5 h => ?_)
  refine lv_iload hC.1 hC.2.1 d_AckBookModel_find_46 (lv_at hl 0 rfl) ?_
  refine lv_dup2_11 hC.1 hC.2.1 d_AckBookModel_find_48 rfl (z_rfc _) ?_
  refine x_ldI hC hZ h d_AckBookModel_find_49 (fun v6 h => ?_)
  refine lv_iconst (v := (1 : Int32)) hC.1 hC.2.1 d_AckBookModel_find_50 (by decide) ?_
  refine lv_iadd hC.1 hC.2.1 d_AckBookModel_find_51 ?_
  refine x_stI hC hZ h d_AckBookModel_find_52 (fun w H locs hZ h => ?_)
  exact x_vret hC hRc hRs hZ hr h d_AckBookModel_find_53
def f_AckBookModel_isBehindRecovery (F X : Nat) (a0 : Option Nat) (pI1 : Int32) (w : zW) : zR :=
  z_getI w 10 26 a0 fun v1 =>
  if v1 < 0 then (
    some (.inl (some (.int (1 : Int32))), w))
  else (
    z_getR w 10 6 a0 fun r2 =>
    z_ldI w .int r2 pI1 fun v3 =>
    z_getI w 10 26 a0 fun v4 =>
    if v3 ≤ v4 then (
      some (.inl (some (.int (0 : Int32))), w))
    else (
      some (.inl (some (.int (1 : Int32))), w)))
set_option maxHeartbeats 4000000 in
set_option maxRecDepth 100000 in
theorem k_AckBookModel_isBehindRecovery {b0 : Nat} {H0 : Heap} {D : va_G} {vu vs : Value} {X M : Nat} {l : Launch} (hT : z_TB (zGG b0 H0 D vu vs X M)) (hfl : l.flags = pinnedFlags ++ [noTraceFlag]) (hE : vu.isRef = true ∧ vs.isRef = true) {a0 : Option Nat} {pI1 : Int32} (F : Nat) {w : zW} (res : zO × zW) (h : f_AckBookModel_isBehindRecovery F X a0 pI1 w = some res) : z_Ct (zGG b0 H0 D vu vs X M) l y_AckBookModel_isBehindRecovery (.code y_AckBookModel_isBehindRecovery c_AckBookModel_isBehindRecovery 2 (some FieldType.boolean)) 0 0 [va_rf a0, .int pI1] w res := by
  refine z_ct hT hfl (by decide) (by simp only [z_sl_i, z_sl_j, z_sl_r, z_sl_n]; decide) ?_
  intro p e R s m args below meth c hC hr hRc hRs hRt hnm hFr H ls hZ hl
  simp only [z_la_i, z_la_j, z_la_r, z_la_n] at hl
  have hl : lv_has ls 2 [(0, va_rf a0), (1, .int pI1)] := hl
  unfold f_AckBookModel_isBehindRecovery at h
  refine x_aload_n hC d_AckBookModel_isBehindRecovery_0 rfl (lv_at hl 0 rfl) ?_
  refine x_getI hC hZ zc10 h (by decide) t_845 (fun _ h9 => h9) d_AckBookModel_isBehindRecovery_1 (fun v1 h => ?_)
  refine lv_if_lt (tgt := 20) hC.1 hC.2.1 d_AckBookModel_isBehindRecovery_4 (by decide) (fun hc => ?_) (fun hc => ?_)
  · have h := z_ifp hc h
    refine lv_iconst (v := (1 : Int32)) hC.1 hC.2.1 d_AckBookModel_isBehindRecovery_20 (by decide) ?_
    refine lv_goto (tgt := 25) hC.1 hC.2.1 d_AckBookModel_isBehindRecovery_21 (by decide) ?_
    exact x_iret hC hRc hRs hZ hr rfl h d_AckBookModel_isBehindRecovery_25
  · have h := z_ifn hc h
    refine x_aload_n hC d_AckBookModel_isBehindRecovery_7 rfl (lv_at hl 0 rfl) ?_
    refine x_getR hC hZ zc10 h (by decide) t_825 (fun _ h9 => h9) d_AckBookModel_isBehindRecovery_8 (fun r2 h => ?_)
    refine lv_iload_n hC.1 hC.2.1 d_AckBookModel_isBehindRecovery_11 rfl (lv_at hl 1 rfl) ?_
    refine x_ldI hC hZ h d_AckBookModel_isBehindRecovery_12 (fun v3 h => ?_)
    refine x_aload_n hC d_AckBookModel_isBehindRecovery_13 rfl (lv_at hl 0 rfl) ?_
    refine x_getI hC hZ zc10 h (by decide) t_845 (fun _ h9 => h9) d_AckBookModel_isBehindRecovery_14 (fun v4 h => ?_)
    refine lv_icmp_le (tgt := 24) hC.1 hC.2.1 d_AckBookModel_isBehindRecovery_17 (by decide) (fun hc => ?_) (fun hc => ?_)
    · have h := z_ifp hc h
      refine lv_iconst (v := (0 : Int32)) hC.1 hC.2.1 d_AckBookModel_isBehindRecovery_24 (by decide) ?_
      exact x_iret hC hRc hRs hZ hr rfl h d_AckBookModel_isBehindRecovery_25
    · have h := z_ifn hc h
      refine lv_iconst (v := (1 : Int32)) hC.1 hC.2.1 d_AckBookModel_isBehindRecovery_20 (by decide) ?_
      refine lv_goto (tgt := 25) hC.1 hC.2.1 d_AckBookModel_isBehindRecovery_21 (by decide) ?_
      exact x_iret hC hRc hRs hZ hr rfl h d_AckBookModel_isBehindRecovery_25
def q_AckBookModel_grow_50 (F X : Nat) (rL0 : Option Nat) (xL1 : Int32) (rS0 : Option Nat) (xS1 : Int32) (w : zW) : zR :=
  z_getR w 10 5 rL0 fun r1 =>
  z_ldI w .int r1 xL1 fun v2 =>
  z_put w 10 24 rS0 (.int (xS1 + v2)) fun w =>
  some (.inl none, w)
set_option maxHeartbeats 4000000 in
set_option maxRecDepth 100000 in
theorem kq_AckBookModel_grow_50 {b0 : Nat} {H0 : Heap} {D : va_G} {vu vs : Value} {X M : Nat} {l : Launch} (hT : z_TB (zGG b0 H0 D vu vs X M)) (hfl : l.flags = pinnedFlags ++ [noTraceFlag]) (hE : vu.isRef = true ∧ vs.isRef = true) {p : Program} {e : Env} {R : Room} {s : State} {m : MethodId} {args : Array Value} {below : List Frame} {meth : Method} {c : Code} {w0 : zW} {F : Nat} (hC : z_C (zGG b0 H0 D vu vs X M) p e s m meth c c_AckBookModel_grow 2 y_AckBookModel_grow.cls) (hr : meth.sig.returnType = (none)) (hRc : R.cells = w0.2.1) (hRs : R.slots = w0.2.2.1) (hFr : c.exceptionTable.toList = []) (hRt : R.frames = 1 ∧ R.locals = 21) (hnm : meth.name = y_AckBookModel_grow.name) (rL0 : Option Nat) (xL1 : Int32) (rS0 : Option Nat) (xS1 : Int32) (w : zW) (res : zO × zW) (h : q_AckBookModel_grow_50 F X rL0 xL1 rS0 xS1 w = some res) (H : Heap) (locs : List Loc) (cells slots : Nat) (ls : Array Slot) (hZ : z_Z (zGG b0 H0 D vu vs X M) R s w H locs cells slots) (hl : lv_has ls 2 [(0, va_rf rL0), (1, .int xL1)]) : W p l e R s m args below meth c H locs cells slots (z_Q (zGG b0 H0 D vu vs X M) below s w0 res) (F0 m 50 ls [.int xS1, va_rf rS0]) := by
  unfold q_AckBookModel_grow_50 at h
  refine x_aload_n hC d_AckBookModel_grow_50 rfl (lv_at hl 0 rfl) ?_
  refine x_getR hC hZ zc10 h (by decide) t_824 (fun _ h9 => h9) d_AckBookModel_grow_51 (fun r1 h => ?_)
  refine lv_iload_n hC.1 hC.2.1 d_AckBookModel_grow_54 rfl (lv_at hl 1 rfl) ?_
  refine x_ldI hC hZ h d_AckBookModel_grow_55 (fun v2 h => ?_)
  refine lv_goto (tgt := 74) hC.1 hC.2.1 d_AckBookModel_grow_56 (by decide) ?_
  refine lv_iadd hC.1 hC.2.1 d_AckBookModel_grow_74 ?_
  refine x_put hC hZ zc10 h (by decide) t_843 (fun _ h9 => h9) rfl rfl rfl rfl d_AckBookModel_grow_75 (fun w H locs hZ h => ?_)
  exact x_vret hC hRc hRs hZ hr h d_AckBookModel_grow_78
def f_AckBookModel_grow (F X : Nat) (a0 : Option Nat) (pI1 : Int32) (w : zW) : zR :=
  z_getR w 10 9 a0 fun r3 =>
  z_ldI w .boolean r3 pI1 fun v4 =>
  if v4 = 0 then (
    some (.inl none, w))
  else (
    z_getR w 10 10 a0 fun r5 =>
    z_ldI w .boolean r5 pI1 fun v6 =>
    if v6 = 0 then (
      some (.inl none, w))
    else (
      z_this w 10 a0 <|
      z_cI (f_AckBookModel_isBehindRecovery F X a0 pI1 w) fun v8 w =>
      if v8 = 0 then (
        some (.inl none, w))
      else (
        z_getI w 10 24 a0 fun v9 =>
        z_getI w 10 25 a0 fun v10 =>
        if v10 < 0 then (
          q_AckBookModel_grow_50 F X a0 pI1 a0 v9 w)
        else (
          z_getI w 10 24 a0 fun v11 =>
          z_getI w 10 25 a0 fun v12 =>
          if v12 ≤ v11 then (
            z_getR w 10 5 a0 fun r13 =>
            z_ldI w .int r13 pI1 fun v14 =>
            z_getI w 10 24 a0 fun v15 =>
            z_nz (v15 = 0) <|
            z_put w 10 24 a0 (.int (v9 + (((1200 : Int32) * v14) / v15))) fun w =>
            some (.inl none, w))
          else (
            q_AckBookModel_grow_50 F X a0 pI1 a0 v9 w)))))
set_option maxHeartbeats 4000000 in
set_option maxRecDepth 100000 in
theorem k_AckBookModel_grow {b0 : Nat} {H0 : Heap} {D : va_G} {vu vs : Value} {X M : Nat} {l : Launch} (hT : z_TB (zGG b0 H0 D vu vs X M)) (hfl : l.flags = pinnedFlags ++ [noTraceFlag]) (hE : vu.isRef = true ∧ vs.isRef = true) {a0 : Option Nat} {pI1 : Int32} (F : Nat) {w : zW} (res : zO × zW) (h : f_AckBookModel_grow F X a0 pI1 w = some res) : z_Ct (zGG b0 H0 D vu vs X M) l y_AckBookModel_grow (.code y_AckBookModel_grow c_AckBookModel_grow 2 (none)) 1 21 [va_rf a0, .int pI1] w res := by
  refine z_ct hT hfl (by decide) (by simp only [z_sl_i, z_sl_j, z_sl_r, z_sl_n]; decide) ?_
  intro p e R s m args below meth c hC hr hRc hRs hRt hnm hFr H ls hZ hl
  simp only [z_la_i, z_la_j, z_la_r, z_la_n] at hl
  have hl : lv_has ls 2 [(0, va_rf a0), (1, .int pI1)] := hl
  unfold f_AckBookModel_grow at h
  refine x_aload_n hC d_AckBookModel_grow_0 rfl (lv_at hl 0 rfl) ?_
  refine x_getR hC hZ zc10 h (by decide) t_828 (fun _ h9 => h9) d_AckBookModel_grow_1 (fun r3 h => ?_)
  refine lv_iload_n hC.1 hC.2.1 d_AckBookModel_grow_4 rfl (lv_at hl 1 rfl) ?_
  refine x_ldZ hC hZ h d_AckBookModel_grow_5 (fun v4 h => ?_)
  refine lv_if_eq (tgt := 26) hC.1 hC.2.1 d_AckBookModel_grow_6 (by decide) (fun hc => ?_) (fun hc => ?_)
  · have h := z_ifp hc h
    exact x_vret hC hRc hRs hZ hr h d_AckBookModel_grow_26
  · have h := z_ifn hc h
    refine x_aload_n hC d_AckBookModel_grow_9 rfl (lv_at hl 0 rfl) ?_
    refine x_getR hC hZ zc10 h (by decide) t_829 (fun _ h9 => h9) d_AckBookModel_grow_10 (fun r5 h => ?_)
    refine lv_iload_n hC.1 hC.2.1 d_AckBookModel_grow_13 rfl (lv_at hl 1 rfl) ?_
    refine x_ldZ hC hZ h d_AckBookModel_grow_14 (fun v6 h => ?_)
    refine lv_if_eq (tgt := 26) hC.1 hC.2.1 d_AckBookModel_grow_15 (by decide) (fun hc => ?_) (fun hc => ?_)
    · have h := z_ifp hc h
      exact x_vret hC hRc hRs hZ hr h d_AckBookModel_grow_26
    · have h := z_ifn hc h
      refine x_aload_n hC d_AckBookModel_grow_18 rfl (lv_at hl 0 rfl) ?_
      refine lv_iload_n hC.1 hC.2.1 d_AckBookModel_grow_19 rfl (lv_at hl 1 rfl) ?_
      obtain ⟨a_, fs_, eo_, h⟩ := z_this_spec h
      obtain ⟨w1_, o1_, hF_, ha_⟩ := z_cI_spec h
      refine x_goes hC hRc hRs hFr ha_ (z_goV (As := [.int pI1]) hC hZ zc10 eo_ (k_AckBookModel_isBehindRecovery hT hfl hE _ _ hF_) t_992 t_994 ts_AckBookModel_isBehindRecovery t_12 t_995 ⟨by decide, by decide, (by decide +kernel : (parseMethodDescriptor y_AckBookModel_isBehindRecovery.desc).map (fun d => d.parameters.length) = some 1)⟩ (by rw [hRt.1]; decide) (by rw [hRt.2]; decide) hl.1 rfl (by first | exact Nat.le_of_ble_eq_true rfl | simp [z_rfc, z_ci, z_cj]) d_AckBookModel_grow_20) (fun v_ hv H locs cells slots hZ => ?_)
      obtain ⟨v8, rfl, h⟩ := hv
      generalize w1_ = w at h hZ
      refine lv_if_ne (tgt := 27) hC.1 hC.2.1 d_AckBookModel_grow_23 (by decide) (fun hc => ?_) (fun hc => ?_)
      · have h := z_ifn hc h
        refine x_aload_n hC d_AckBookModel_grow_27 rfl (lv_at hl 0 rfl) ?_
        refine lv_dup hC.1 hC.2.1 d_AckBookModel_grow_28 (z_rfc _) ?_
        refine x_getI hC hZ zc10 h (by decide) t_843 (fun _ h9 => h9) d_AckBookModel_grow_29 (fun v9 h => ?_)
        refine x_aload_n hC d_AckBookModel_grow_32 rfl (lv_at hl 0 rfl) ?_
        refine x_getI hC hZ zc10 h (by decide) t_844 (fun _ h9 => h9) d_AckBookModel_grow_33 (fun v10 h => ?_)
        refine lv_if_lt (tgt := 50) hC.1 hC.2.1 d_AckBookModel_grow_36 (by decide) (fun hc => ?_) (fun hc => ?_)
        · have h := z_ifp hc h
          exact kq_AckBookModel_grow_50 hT hfl hE hC hr hRc hRs hFr hRt hnm _ _ _ _ _ _ h _ _ _ _ _ hZ (lv_sub hl [0, 1] rfl)
        · have h := z_ifn hc h
          refine x_aload_n hC d_AckBookModel_grow_39 rfl (lv_at hl 0 rfl) ?_
          refine x_getI hC hZ zc10 h (by decide) t_843 (fun _ h9 => h9) d_AckBookModel_grow_40 (fun v11 h => ?_)
          refine x_aload_n hC d_AckBookModel_grow_43 rfl (lv_at hl 0 rfl) ?_
          refine x_getI hC hZ zc10 h (by decide) t_844 (fun _ h9 => h9) d_AckBookModel_grow_44 (fun v12 h => ?_)
          refine lv_icmp_ge (tgt := 59) hC.1 hC.2.1 d_AckBookModel_grow_47 (by decide) (fun hc => ?_) (fun hc => ?_)
          · have h := z_ifp hc h
            refine lv_sipush (v := (1200 : Int32)) hC.1 hC.2.1 d_AckBookModel_grow_59 (by decide) ?_
            refine x_aload_n hC d_AckBookModel_grow_62 rfl (lv_at hl 0 rfl) ?_
            refine x_getR hC hZ zc10 h (by decide) t_824 (fun _ h9 => h9) d_AckBookModel_grow_63 (fun r13 h => ?_)
            refine lv_iload_n hC.1 hC.2.1 d_AckBookModel_grow_66 rfl (lv_at hl 1 rfl) ?_
            refine x_ldI hC hZ h d_AckBookModel_grow_67 (fun v14 h => ?_)
            refine lv_imul hC.1 hC.2.1 d_AckBookModel_grow_68 ?_
            refine x_aload_n hC d_AckBookModel_grow_69 rfl (lv_at hl 0 rfl) ?_
            refine x_getI hC hZ zc10 h (by decide) t_843 (fun _ h9 => h9) d_AckBookModel_grow_70 (fun v15 h => ?_)
            obtain ⟨hz16, h⟩ := z_nz_spec h
            refine lv_idiv hC.1 hC.2.1 d_AckBookModel_grow_73 hz16 ?_
            refine lv_iadd hC.1 hC.2.1 d_AckBookModel_grow_74 ?_
            refine x_put hC hZ zc10 h (by decide) t_843 (fun _ h9 => h9) rfl rfl rfl rfl d_AckBookModel_grow_75 (fun w H locs hZ h => ?_)
            exact x_vret hC hRc hRs hZ hr h d_AckBookModel_grow_78
          · have h := z_ifn hc h
            exact kq_AckBookModel_grow_50 hT hfl hE hC hr hRc hRs hFr hRt hnm _ _ _ _ _ _ h _ _ _ _ _ hZ (lv_sub hl [0, 1] rfl)
      · have h := z_ifp hc h
        exact x_vret hC hRc hRs hZ hr h d_AckBookModel_grow_26
def f_AckBookModel_limit (F X : Nat) (a0 : Option Nat) (w : zW) : zR :=
  z_getI w 10 18 a0 fun v1 =>
  z_getI w 10 20 a0 fun v2 =>
  z_cI (f_AckBookModel_greater F X (v1 / (8 : Int32)) v2 w) fun v4 w =>
  z_cI (f_AckBookModel_greater F X (((9 : Int32) * v4) / (8 : Int32)) (1 : Int32) w) fun v6 w =>
  some (.inl (some (.int v6)), w)
set_option maxHeartbeats 4000000 in
set_option maxRecDepth 100000 in
theorem k_AckBookModel_limit {b0 : Nat} {H0 : Heap} {D : va_G} {vu vs : Value} {X M : Nat} {l : Launch} (hT : z_TB (zGG b0 H0 D vu vs X M)) (hfl : l.flags = pinnedFlags ++ [noTraceFlag]) (hE : vu.isRef = true ∧ vs.isRef = true) {a0 : Option Nat} (F : Nat) {w : zW} (res : zO × zW) (h : f_AckBookModel_limit F X a0 w = some res) : z_Ct (zGG b0 H0 D vu vs X M) l y_AckBookModel_limit (.code y_AckBookModel_limit c_AckBookModel_limit 1 (some FieldType.int)) 1 21 [va_rf a0] w res := by
  refine z_ct hT hfl (by decide) (by simp only [z_sl_i, z_sl_j, z_sl_r, z_sl_n]; decide) ?_
  intro p e R s m args below meth c hC hr hRc hRs hRt hnm hFr H ls hZ hl
  simp only [z_la_i, z_la_j, z_la_r, z_la_n] at hl
  have hl : lv_has ls 1 [(0, va_rf a0)] := hl
  unfold f_AckBookModel_limit at h
  refine lv_bipush (v := (9 : Int32)) hC.1 hC.2.1 d_AckBookModel_limit_0 (by decide) ?_
  refine x_aload_n hC d_AckBookModel_limit_2 rfl (lv_at hl 0 rfl) ?_
  refine x_getI hC hZ zc10 h (by decide) t_837 (fun _ h9 => h9) d_AckBookModel_limit_3 (fun v1 h => ?_)
  refine lv_bipush (v := (8 : Int32)) hC.1 hC.2.1 d_AckBookModel_limit_6 (by decide) ?_
  refine lv_idiv hC.1 hC.2.1 d_AckBookModel_limit_8 (by decide) ?_
  refine x_aload_n hC d_AckBookModel_limit_9 rfl (lv_at hl 0 rfl) ?_
  refine x_getI hC hZ zc10 h (by decide) t_839 (fun _ h9 => h9) d_AckBookModel_limit_10 (fun v2 h => ?_)
  obtain ⟨w1_, o1_, hF_, ha_⟩ := z_cI_spec h
  refine x_goes hC hRc hRs hFr ha_ (z_goS (As := [.int (v1 / (8 : Int32)), .int v2]) hC hZ (k_AckBookModel_greater hT hfl hE _ _ hF_) t_973 t_974 t_12 t_975 ⟨by decide, by decide, (by decide +kernel : (parseMethodDescriptor y_AckBookModel_greater.desc).map (fun d => d.parameters.length) = some 2)⟩ (by rw [hRt.1]; decide) (by rw [hRt.2]; decide) hl.1 rfl (by first | exact Nat.le_of_ble_eq_true rfl | simp [z_rfc, z_ci, z_cj]) d_AckBookModel_limit_13) (fun v_ hv H locs cells slots hZ => ?_)
  obtain ⟨v4, rfl, h⟩ := hv
  generalize w1_ = w at h hZ
  refine lv_imul hC.1 hC.2.1 d_AckBookModel_limit_16 ?_
  refine lv_bipush (v := (8 : Int32)) hC.1 hC.2.1 d_AckBookModel_limit_17 (by decide) ?_
  refine lv_idiv hC.1 hC.2.1 d_AckBookModel_limit_19 (by decide) ?_
  refine lv_iconst (v := (1 : Int32)) hC.1 hC.2.1 d_AckBookModel_limit_20 (by decide) ?_
  obtain ⟨w1_, o1_, hF_, ha_⟩ := z_cI_spec h
  refine x_goes hC hRc hRs hFr ha_ (z_goS (As := [.int (((9 : Int32) * v4) / (8 : Int32)), .int (1 : Int32)]) hC hZ (k_AckBookModel_greater hT hfl hE _ _ hF_) t_973 t_974 t_12 t_975 ⟨by decide, by decide, (by decide +kernel : (parseMethodDescriptor y_AckBookModel_greater.desc).map (fun d => d.parameters.length) = some 2)⟩ (by rw [hRt.1]; decide) (by rw [hRt.2]; decide) hl.1 rfl (by first | exact Nat.le_of_ble_eq_true rfl | simp [z_rfc, z_ci, z_cj]) d_AckBookModel_limit_21) (fun v_ hv H locs cells slots hZ => ?_)
  obtain ⟨v6, rfl, h⟩ := hv
  generalize w1_ = w at h hZ
  exact x_iret hC hRc hRs hZ hr rfl h d_AckBookModel_limit_24
def j_AckBookModel_persists (F X : Nat) : Nat → Nat → Option Nat → Int32 → Int32 → Int32 → Int32 → Int32 → zW → zR
  | 0, _, _, _, _, _, _, _, _ => none
  | N + 1, lb, rL0, xL1, xL3, xL4, xL5, xL6, w =>
    if lb = 0 then (
    z_getR w 10 16 rL0 fun r1 =>
    z_ldI w .int r1 (((2 : Int32) * xL1) + (1 : Int32)) fun v2 =>
    if v2 ≤ xL5 then (
      if 0 ≤ xL3 then (
        (j_AckBookModel_persists F X N) 1 rL0 xL1 xL3 xL4 (0 : Int32) xL3 w)
      else (
        some (.inl none, w)))
    else (
      z_getR w 10 15 rL0 fun r3 =>
      z_ldI w .int r3 (((4096 : Int32) * (((2 : Int32) * xL1) + (1 : Int32))) + xL5) fun v4 =>
      z_getI w 10 22 rL0 fun v5 =>
      if v5 < 0 then (
        (j_AckBookModel_persists F X N) 0 rL0 xL1 xL3 xL4 (xL5 + (1 : Int32)) 0 w)
      else (
        z_getR w 10 8 rL0 fun r6 =>
        z_ldI w .boolean r6 (((4096 : Int32) * xL1) + v4) fun v7 =>
        if v7 = 0 then (
          (j_AckBookModel_persists F X N) 0 rL0 xL1 xL3 xL4 (xL5 + (1 : Int32)) 0 w)
        else (
          z_getR w 10 6 rL0 fun r8 =>
          z_ldI w .int r8 (((4096 : Int32) * xL1) + v4) fun v9 =>
          z_getI w 10 22 rL0 fun v10 =>
          if v10 < v9 then (
            if 0 ≤ xL3 then (
              (j_AckBookModel_persists F X N) 0 rL0 xL1 xL3 v4 (xL5 + (1 : Int32)) 0 w)
            else (
              (j_AckBookModel_persists F X N) 0 rL0 xL1 v4 v4 (xL5 + (1 : Int32)) 0 w))
          else (
            (j_AckBookModel_persists F X N) 0 rL0 xL1 xL3 xL4 (xL5 + (1 : Int32)) 0 w)))))
    else (
    if xL4 ≤ xL6 then (
      z_getI w 10 18 rL0 fun v11 =>
      z_getI w 10 19 rL0 fun v12 =>
      z_cI (f_AckBookModel_greater F X v12 (1 : Int32) w) fun v14 w =>
      if xL5 = 0 then (
        z_getR w 10 6 rL0 fun r15 =>
        z_ldI w .int r15 (((4096 : Int32) * xL1) + xL4) fun v16 =>
        z_getR w 10 6 rL0 fun r17 =>
        z_ldI w .int r17 (((4096 : Int32) * xL1) + xL3) fun v18 =>
        if ((3 : Int32) * (((v11 / (8 : Int32)) + v14) + (25 : Int32))) < (v16 - v18) then (
          z_put w 10 24 rL0 (.int (2400 : Int32)) fun w =>
          z_put w 10 26 rL0 (.int (-1 : Int32)) fun w =>
          some (.inl none, w))
        else (
          some (.inl none, w)))
      else (
        some (.inl none, w)))
    else (
      if xL5 = 0 then (
        z_getR w 10 7 rL0 fun r19 =>
        z_ldI w .int r19 (((4096 : Int32) * xL1) + xL6) fun v20 =>
        if v20 = (1 : Int32) then (
          (j_AckBookModel_persists F X N) 1 rL0 xL1 xL3 xL4 (1 : Int32) (xL6 + (1 : Int32)) w)
        else (
          (j_AckBookModel_persists F X N) 1 rL0 xL1 xL3 xL4 (0 : Int32) (xL6 + (1 : Int32)) w))
      else (
        (j_AckBookModel_persists F X N) 1 rL0 xL1 xL3 xL4 (1 : Int32) (xL6 + (1 : Int32)) w)))
set_option maxHeartbeats 4000000 in
set_option maxRecDepth 100000 in
theorem kj_AckBookModel_persists {b0 : Nat} {H0 : Heap} {D : va_G} {vu vs : Value} {X M : Nat} {l : Launch} (hT : z_TB (zGG b0 H0 D vu vs X M)) (hfl : l.flags = pinnedFlags ++ [noTraceFlag]) (hE : vu.isRef = true ∧ vs.isRef = true) {p : Program} {e : Env} {R : Room} {s : State} {m : MethodId} {args : Array Value} {below : List Frame} {meth : Method} {c : Code} {w0 : zW} {F : Nat} (hC : z_C (zGG b0 H0 D vu vs X M) p e s m meth c c_AckBookModel_persists 7 y_AckBookModel_persists.cls) (hr : meth.sig.returnType = (none)) (hRc : R.cells = w0.2.1) (hRs : R.slots = w0.2.2.1) (hFr : c.exceptionTable.toList = []) (hRt : R.frames = 1 ∧ R.locals = 21) (hnm : meth.name = y_AckBookModel_persists.name) : ∀ N : Nat, (∀ (rL0 : Option Nat) (xL1 : Int32) (xL3 : Int32) (xL4 : Int32) (xL5 : Int32) (xL6 : Int32) (w : zW) (res : zO × zW), j_AckBookModel_persists F X N 0 rL0 xL1 xL3 xL4 xL5 xL6 w = some res → ∀ (H : Heap) (locs : List Loc) (cells slots : Nat) (ls : Array Slot), z_Z (zGG b0 H0 D vu vs X M) R s w H locs cells slots → lv_has ls 7 [(0, va_rf rL0), (1, .int xL1), (3, .int xL3), (4, .int xL4), (5, .int xL5)] → W p l e R s m args below meth c H locs cells slots (z_Q (zGG b0 H0 D vu vs X M) below s w0 res) (F0 m 8 ls [])) ∧ (∀ (rL0 : Option Nat) (xL1 : Int32) (xL3 : Int32) (xL4 : Int32) (xL5 : Int32) (xL6 : Int32) (w : zW) (res : zO × zW), j_AckBookModel_persists F X N 1 rL0 xL1 xL3 xL4 xL5 xL6 w = some res → ∀ (H : Heap) (locs : List Loc) (cells slots : Nat) (ls : Array Slot), z_Z (zGG b0 H0 D vu vs X M) R s w H locs cells slots → lv_has ls 7 [(0, va_rf rL0), (1, .int xL1), (3, .int xL3), (4, .int xL4), (5, .int xL5), (6, .int xL6)] → W p l e R s m args below meth c H locs cells slots (z_Q (zGG b0 H0 D vu vs X M) below s w0 res) (F0 m 120 ls [])) := by
  intro N
  induction N with
  | zero =>
    refine ⟨?_, ?_⟩
    · intro rL0 xL1 xL3 xL4 xL5 xL6 w res h
      rw [j_AckBookModel_persists] at h
      cases h
    · intro rL0 xL1 xL3 xL4 xL5 xL6 w res h
      rw [j_AckBookModel_persists] at h
      cases h
  | succ N ih =>
    refine ⟨?_, ?_⟩
    · intro rL0 xL1 xL3 xL4 xL5 xL6 w res h H locs cells slots ls hZ hl
      rw [j_AckBookModel_persists] at h
      have h := z_ifp rfl h
      refine lv_iload hC.1 hC.2.1 d_AckBookModel_persists_8 (lv_at hl 4 rfl) ?_
      refine x_aload_n hC d_AckBookModel_persists_10 rfl (lv_at hl 0 rfl) ?_
      refine x_getR hC hZ zc10 h (by decide) t_835 (fun _ h9 => h9) d_AckBookModel_persists_11 (fun r1 h => ?_)
      refine lv_iconst (v := (2 : Int32)) hC.1 hC.2.1 d_AckBookModel_persists_14 (by decide) ?_
      refine lv_iload_n hC.1 hC.2.1 d_AckBookModel_persists_15 rfl (lv_at hl 1 rfl) ?_
      refine lv_imul hC.1 hC.2.1 d_AckBookModel_persists_16 ?_
      refine lv_iconst (v := (1 : Int32)) hC.1 hC.2.1 d_AckBookModel_persists_17 (by decide) ?_
      refine lv_iadd hC.1 hC.2.1 d_AckBookModel_persists_18 ?_
      refine x_ldI hC hZ h d_AckBookModel_persists_19 (fun v2 h => ?_)
      refine lv_icmp_ge (tgt := 109) hC.1 hC.2.1 d_AckBookModel_persists_20 (by decide) (fun hc => ?_) (fun hc => ?_)
      · have h := z_ifp hc h
        refine lv_iload_n hC.1 hC.2.1 d_AckBookModel_persists_109 rfl (lv_at hl 2 rfl) ?_
        refine lv_if_ge (tgt := 114) hC.1 hC.2.1 d_AckBookModel_persists_110 (by decide) (fun hc => ?_) (fun hc => ?_)
        · have h := z_ifp hc h
          refine lv_iconst (v := (0 : Int32)) hC.1 hC.2.1 d_AckBookModel_persists_114 (by decide) ?_
          refine lv_istore (i := 5) (lv' := [(5, .int (0 : Int32)), (0, va_rf rL0), (1, .int xL1), (3, .int xL3), (4, .int xL4)]) hC.1 hC.2.1 d_AckBookModel_persists_115 hl (by decide) (by first | rfl | simp [z_rfc, z_ci, z_cj]) (fun ls hl => ?_)
          refine lv_iload_n hC.1 hC.2.1 d_AckBookModel_persists_117 rfl (lv_at hl 3 rfl) ?_
          refine lv_istore (i := 6) (lv' := [(6, .int xL3), (5, .int (0 : Int32)), (0, va_rf rL0), (1, .int xL1), (3, .int xL3), (4, .int xL4)]) hC.1 hC.2.1 d_AckBookModel_persists_118 hl (by decide) (by first | rfl | simp [z_rfc, z_ci, z_cj]) (fun ls hl => ?_)
          exact ih.2 _ _ _ _ _ _ _ _ h _ _ _ _ _ hZ (lv_sub hl [2, 3, 4, 5, 1, 0] rfl)
        · have h := z_ifn hc h
          exact x_vret hC hRc hRs hZ hr h d_AckBookModel_persists_113
      · have h := z_ifn hc h
        refine x_aload_n hC d_AckBookModel_persists_23 rfl (lv_at hl 0 rfl) ?_
        refine x_getR hC hZ zc10 h (by decide) t_834 (fun _ h9 => h9) d_AckBookModel_persists_24 (fun r3 h => ?_)
        refine lv_sipush (v := (4096 : Int32)) hC.1 hC.2.1 d_AckBookModel_persists_27 (by decide) ?_
        refine lv_iconst (v := (2 : Int32)) hC.1 hC.2.1 d_AckBookModel_persists_30 (by decide) ?_
        refine lv_iload_n hC.1 hC.2.1 d_AckBookModel_persists_31 rfl (lv_at hl 1 rfl) ?_
        refine lv_imul hC.1 hC.2.1 d_AckBookModel_persists_32 ?_
        refine lv_iconst (v := (1 : Int32)) hC.1 hC.2.1 d_AckBookModel_persists_33 (by decide) ?_
        refine lv_iadd hC.1 hC.2.1 d_AckBookModel_persists_34 ?_
        refine lv_imul hC.1 hC.2.1 d_AckBookModel_persists_35 ?_
        refine lv_iload hC.1 hC.2.1 d_AckBookModel_persists_36 (lv_at hl 4 rfl) ?_
        refine lv_iadd hC.1 hC.2.1 d_AckBookModel_persists_38 ?_
        refine x_ldI hC hZ h d_AckBookModel_persists_39 (fun v4 h => ?_)
        refine lv_istore (i := 6) (lv' := [(6, .int v4), (0, va_rf rL0), (1, .int xL1), (3, .int xL3), (4, .int xL4), (5, .int xL5)]) hC.1 hC.2.1 d_AckBookModel_persists_40 hl (by decide) (by first | rfl | simp [z_rfc, z_ci, z_cj]) (fun ls hl => ?_)
        refine x_aload_n hC d_AckBookModel_persists_42 rfl (lv_at hl 1 rfl) ?_
        refine x_getI hC hZ zc10 h (by decide) t_841 (fun _ h9 => h9) d_AckBookModel_persists_43 (fun v5 h => ?_)
        refine lv_if_lt (tgt := 103) hC.1 hC.2.1 d_AckBookModel_persists_46 (by decide) (fun hc => ?_) (fun hc => ?_)
        · have h := z_ifp hc h
          refine lv_iinc (lv' := [(5, .int (xL5 + (1 : Int32))), (6, .int v4), (0, va_rf rL0), (1, .int xL1), (3, .int xL3), (4, .int xL4)]) hC.1 hC.2.1 d_AckBookModel_persists_103 hl (k := 5) rfl rfl (by decide) (by first | rfl | simp [z_rfc, z_ci, z_cj]) (fun ls hl => ?_)
          refine lv_goto (tgt := 8) hC.1 hC.2.1 d_AckBookModel_persists_106 (by decide) ?_
          exact ih.1 _ _ _ _ _ _ _ _ h _ _ _ _ _ hZ (lv_sub hl [2, 3, 4, 5, 0] rfl)
        · have h := z_ifn hc h
          refine x_aload_n hC d_AckBookModel_persists_49 rfl (lv_at hl 1 rfl) ?_
          refine x_getR hC hZ zc10 h (by decide) t_827 (fun _ h9 => h9) d_AckBookModel_persists_50 (fun r6 h => ?_)
          refine lv_sipush (v := (4096 : Int32)) hC.1 hC.2.1 d_AckBookModel_persists_53 (by decide) ?_
          refine lv_iload_n hC.1 hC.2.1 d_AckBookModel_persists_56 rfl (lv_at hl 2 rfl) ?_
          refine lv_imul hC.1 hC.2.1 d_AckBookModel_persists_57 ?_
          refine lv_iload hC.1 hC.2.1 d_AckBookModel_persists_58 (lv_at hl 0 rfl) ?_
          refine lv_iadd hC.1 hC.2.1 d_AckBookModel_persists_60 ?_
          refine x_ldZ hC hZ h d_AckBookModel_persists_61 (fun v7 h => ?_)
          refine lv_if_eq (tgt := 103) hC.1 hC.2.1 d_AckBookModel_persists_62 (by decide) (fun hc => ?_) (fun hc => ?_)
          · have h := z_ifp hc h
            refine lv_iinc (lv' := [(5, .int (xL5 + (1 : Int32))), (6, .int v4), (0, va_rf rL0), (1, .int xL1), (3, .int xL3), (4, .int xL4)]) hC.1 hC.2.1 d_AckBookModel_persists_103 hl (k := 5) rfl rfl (by decide) (by first | rfl | simp [z_rfc, z_ci, z_cj]) (fun ls hl => ?_)
            refine lv_goto (tgt := 8) hC.1 hC.2.1 d_AckBookModel_persists_106 (by decide) ?_
            exact ih.1 _ _ _ _ _ _ _ _ h _ _ _ _ _ hZ (lv_sub hl [2, 3, 4, 5, 0] rfl)
          · have h := z_ifn hc h
            refine x_aload_n hC d_AckBookModel_persists_65 rfl (lv_at hl 1 rfl) ?_
            refine x_getR hC hZ zc10 h (by decide) t_825 (fun _ h9 => h9) d_AckBookModel_persists_66 (fun r8 h => ?_)
            refine lv_sipush (v := (4096 : Int32)) hC.1 hC.2.1 d_AckBookModel_persists_69 (by decide) ?_
            refine lv_iload_n hC.1 hC.2.1 d_AckBookModel_persists_72 rfl (lv_at hl 2 rfl) ?_
            refine lv_imul hC.1 hC.2.1 d_AckBookModel_persists_73 ?_
            refine lv_iload hC.1 hC.2.1 d_AckBookModel_persists_74 (lv_at hl 0 rfl) ?_
            refine lv_iadd hC.1 hC.2.1 d_AckBookModel_persists_76 ?_
            refine x_ldI hC hZ h d_AckBookModel_persists_77 (fun v9 h => ?_)
            refine x_aload_n hC d_AckBookModel_persists_78 rfl (lv_at hl 1 rfl) ?_
            refine x_getI hC hZ zc10 h (by decide) t_841 (fun _ h9 => h9) d_AckBookModel_persists_79 (fun v10 h => ?_)
            refine lv_icmp_gt (tgt := 88) hC.1 hC.2.1 d_AckBookModel_persists_82 (by decide) (fun hc => ?_) (fun hc => ?_)
            · have h := z_ifp hc h
              refine lv_iload_n hC.1 hC.2.1 d_AckBookModel_persists_88 rfl (lv_at hl 3 rfl) ?_
              refine lv_if_ge (tgt := 97) hC.1 hC.2.1 d_AckBookModel_persists_89 (by decide) (fun hc => ?_) (fun hc => ?_)
              · have h := z_ifp hc h
                refine lv_iload_n hC.1 hC.2.1 d_AckBookModel_persists_97 rfl (lv_at hl 3 rfl) ?_
                refine lv_istore_n (i := 3) (lv' := [(3, .int xL3), (6, .int v4), (0, va_rf rL0), (1, .int xL1), (4, .int xL4), (5, .int xL5)]) hC.1 hC.2.1 d_AckBookModel_persists_98 rfl hl (by decide) (by first | rfl | simp [z_rfc, z_ci, z_cj]) (fun ls hl => ?_)
                refine lv_iload hC.1 hC.2.1 d_AckBookModel_persists_99 (lv_at hl 1 rfl) ?_
                refine lv_istore (i := 4) (lv' := [(4, .int v4), (3, .int xL3), (6, .int v4), (0, va_rf rL0), (1, .int xL1), (5, .int xL5)]) hC.1 hC.2.1 d_AckBookModel_persists_101 hl (by decide) (by first | rfl | simp [z_rfc, z_ci, z_cj]) (fun ls hl => ?_)
                refine lv_iinc (lv' := [(5, .int (xL5 + (1 : Int32))), (4, .int v4), (3, .int xL3), (6, .int v4), (0, va_rf rL0), (1, .int xL1)]) hC.1 hC.2.1 d_AckBookModel_persists_103 hl (k := 5) rfl rfl (by decide) (by first | rfl | simp [z_rfc, z_ci, z_cj]) (fun ls hl => ?_)
                refine lv_goto (tgt := 8) hC.1 hC.2.1 d_AckBookModel_persists_106 (by decide) ?_
                exact ih.1 _ _ _ _ _ _ _ _ h _ _ _ _ _ hZ (lv_sub hl [4, 5, 2, 1, 0] rfl)
              · have h := z_ifn hc h
                refine lv_iload hC.1 hC.2.1 d_AckBookModel_persists_92 (lv_at hl 0 rfl) ?_
                refine lv_goto (tgt := 98) hC.1 hC.2.1 d_AckBookModel_persists_94 (by decide) ?_
                refine lv_istore_n (i := 3) (lv' := [(3, .int v4), (6, .int v4), (0, va_rf rL0), (1, .int xL1), (4, .int xL4), (5, .int xL5)]) hC.1 hC.2.1 d_AckBookModel_persists_98 rfl hl (by decide) (by first | rfl | simp [z_rfc, z_ci, z_cj]) (fun ls hl => ?_)
                refine lv_iload hC.1 hC.2.1 d_AckBookModel_persists_99 (lv_at hl 1 rfl) ?_
                refine lv_istore (i := 4) (lv' := [(4, .int v4), (3, .int v4), (6, .int v4), (0, va_rf rL0), (1, .int xL1), (5, .int xL5)]) hC.1 hC.2.1 d_AckBookModel_persists_101 hl (by decide) (by first | rfl | simp [z_rfc, z_ci, z_cj]) (fun ls hl => ?_)
                refine lv_iinc (lv' := [(5, .int (xL5 + (1 : Int32))), (4, .int v4), (3, .int v4), (6, .int v4), (0, va_rf rL0), (1, .int xL1)]) hC.1 hC.2.1 d_AckBookModel_persists_103 hl (k := 5) rfl rfl (by decide) (by first | rfl | simp [z_rfc, z_ci, z_cj]) (fun ls hl => ?_)
                refine lv_goto (tgt := 8) hC.1 hC.2.1 d_AckBookModel_persists_106 (by decide) ?_
                exact ih.1 _ _ _ _ _ _ _ _ h _ _ _ _ _ hZ (lv_sub hl [4, 5, 2, 1, 0] rfl)
            · have h := z_ifn hc h
              refine lv_goto (tgt := 103) hC.1 hC.2.1 d_AckBookModel_persists_85 (by decide) ?_
              refine lv_iinc (lv' := [(5, .int (xL5 + (1 : Int32))), (6, .int v4), (0, va_rf rL0), (1, .int xL1), (3, .int xL3), (4, .int xL4)]) hC.1 hC.2.1 d_AckBookModel_persists_103 hl (k := 5) rfl rfl (by decide) (by first | rfl | simp [z_rfc, z_ci, z_cj]) (fun ls hl => ?_)
              refine lv_goto (tgt := 8) hC.1 hC.2.1 d_AckBookModel_persists_106 (by decide) ?_
              exact ih.1 _ _ _ _ _ _ _ _ h _ _ _ _ _ hZ (lv_sub hl [2, 3, 4, 5, 0] rfl)
    · intro rL0 xL1 xL3 xL4 xL5 xL6 w res h H locs cells slots ls hZ hl
      rw [j_AckBookModel_persists] at h
      have h := z_ifn (by decide) h
      refine lv_iload hC.1 hC.2.1 d_AckBookModel_persists_120 (lv_at hl 5 rfl) ?_
      refine lv_iload hC.1 hC.2.1 d_AckBookModel_persists_122 (lv_at hl 3 rfl) ?_
      refine lv_icmp_ge (tgt := 162) hC.1 hC.2.1 d_AckBookModel_persists_124 (by decide) (fun hc => ?_) (fun hc => ?_)
      · have h := z_ifp hc h
        refine lv_iconst (v := (3 : Int32)) hC.1 hC.2.1 d_AckBookModel_persists_162 (by decide) ?_
        refine x_aload_n hC d_AckBookModel_persists_163 rfl (lv_at hl 0 rfl) ?_
        refine x_getI hC hZ zc10 h (by decide) t_837 (fun _ h9 => h9) d_AckBookModel_persists_164 (fun v11 h => ?_)
        refine lv_bipush (v := (8 : Int32)) hC.1 hC.2.1 d_AckBookModel_persists_167 (by decide) ?_
        refine lv_idiv hC.1 hC.2.1 d_AckBookModel_persists_169 (by decide) ?_
        refine x_aload_n hC d_AckBookModel_persists_170 rfl (lv_at hl 0 rfl) ?_
        refine x_getI hC hZ zc10 h (by decide) t_838 (fun _ h9 => h9) d_AckBookModel_persists_171 (fun v12 h => ?_)
        refine lv_iconst (v := (1 : Int32)) hC.1 hC.2.1 d_AckBookModel_persists_174 (by decide) ?_
        obtain ⟨w1_, o1_, hF_, ha_⟩ := z_cI_spec h
        refine x_goes hC hRc hRs hFr ha_ (z_goS (As := [.int v12, .int (1 : Int32)]) hC hZ (k_AckBookModel_greater hT hfl hE _ _ hF_) t_973 t_974 t_12 t_975 ⟨by decide, by decide, (by decide +kernel : (parseMethodDescriptor y_AckBookModel_greater.desc).map (fun d => d.parameters.length) = some 2)⟩ (by rw [hRt.1]; decide) (by rw [hRt.2]; decide) hl.1 rfl (by first | exact Nat.le_of_ble_eq_true rfl | simp [z_rfc, z_ci, z_cj]) d_AckBookModel_persists_175) (fun v_ hv H locs cells slots hZ => ?_)
        obtain ⟨v14, rfl, h⟩ := hv
        generalize w1_ = w at h hZ
        refine lv_iadd hC.1 hC.2.1 d_AckBookModel_persists_178 ?_
        refine lv_bipush (v := (25 : Int32)) hC.1 hC.2.1 d_AckBookModel_persists_179 (by decide) ?_
        refine lv_iadd hC.1 hC.2.1 d_AckBookModel_persists_181 ?_
        refine lv_imul hC.1 hC.2.1 d_AckBookModel_persists_182 ?_
        refine lv_istore (i := 6) (lv' := [(6, .int ((3 : Int32) * (((v11 / (8 : Int32)) + v14) + (25 : Int32)))), (0, va_rf rL0), (1, .int xL1), (3, .int xL3), (4, .int xL4), (5, .int xL5)]) hC.1 hC.2.1 d_AckBookModel_persists_183 hl (by decide) (by first | rfl | simp [z_rfc, z_ci, z_cj]) (fun ls hl => ?_)
        refine lv_iload hC.1 hC.2.1 d_AckBookModel_persists_185 (lv_at hl 5 rfl) ?_
        refine lv_if_ne (tgt := 221) hC.1 hC.2.1 d_AckBookModel_persists_187 (by decide) (fun hc => ?_) (fun hc => ?_)
        · have h := z_ifn hc h
          exact x_vret hC hRc hRs hZ hr h d_AckBookModel_persists_221
        · have h := z_ifp hc h
          refine x_aload_n hC d_AckBookModel_persists_190 rfl (lv_at hl 1 rfl) ?_
          refine x_getR hC hZ zc10 h (by decide) t_825 (fun _ h9 => h9) d_AckBookModel_persists_191 (fun r15 h => ?_)
          refine lv_sipush (v := (4096 : Int32)) hC.1 hC.2.1 d_AckBookModel_persists_194 (by decide) ?_
          refine lv_iload_n hC.1 hC.2.1 d_AckBookModel_persists_197 rfl (lv_at hl 2 rfl) ?_
          refine lv_imul hC.1 hC.2.1 d_AckBookModel_persists_198 ?_
          refine lv_iload hC.1 hC.2.1 d_AckBookModel_persists_199 (lv_at hl 4 rfl) ?_
          refine lv_iadd hC.1 hC.2.1 d_AckBookModel_persists_201 ?_
          refine x_ldI hC hZ h d_AckBookModel_persists_202 (fun v16 h => ?_)
          refine x_aload_n hC d_AckBookModel_persists_203 rfl (lv_at hl 1 rfl) ?_
          refine x_getR hC hZ zc10 h (by decide) t_825 (fun _ h9 => h9) d_AckBookModel_persists_204 (fun r17 h => ?_)
          refine lv_sipush (v := (4096 : Int32)) hC.1 hC.2.1 d_AckBookModel_persists_207 (by decide) ?_
          refine lv_iload_n hC.1 hC.2.1 d_AckBookModel_persists_210 rfl (lv_at hl 2 rfl) ?_
          refine lv_imul hC.1 hC.2.1 d_AckBookModel_persists_211 ?_
          refine lv_iload_n hC.1 hC.2.1 d_AckBookModel_persists_212 rfl (lv_at hl 3 rfl) ?_
          refine lv_iadd hC.1 hC.2.1 d_AckBookModel_persists_213 ?_
          refine x_ldI hC hZ h d_AckBookModel_persists_214 (fun v18 h => ?_)
          refine lv_isub hC.1 hC.2.1 d_AckBookModel_persists_215 ?_
          refine lv_iload hC.1 hC.2.1 d_AckBookModel_persists_216 (lv_at hl 0 rfl) ?_
          refine lv_icmp_gt (tgt := 222) hC.1 hC.2.1 d_AckBookModel_persists_218 (by decide) (fun hc => ?_) (fun hc => ?_)
          · have h := z_ifp hc h
            refine x_aload_n hC d_AckBookModel_persists_222 rfl (lv_at hl 1 rfl) ?_
            refine lv_sipush (v := (2400 : Int32)) hC.1 hC.2.1 d_AckBookModel_persists_223 (by decide) ?_
            refine x_put hC hZ zc10 h (by decide) t_843 (fun _ h9 => h9) rfl rfl rfl rfl d_AckBookModel_persists_226 (fun w H locs hZ h => ?_)
            refine x_aload_n hC d_AckBookModel_persists_229 rfl (lv_at hl 1 rfl) ?_
            refine lv_iconst (v := (-1 : Int32)) hC.1 hC.2.1 d_AckBookModel_persists_230 (by decide) ?_
            refine x_put hC hZ zc10 h (by decide) t_845 (fun _ h9 => h9) rfl rfl rfl rfl d_AckBookModel_persists_231 (fun w H locs hZ h => ?_)
            exact x_vret hC hRc hRs hZ hr h d_AckBookModel_persists_234
          · have h := z_ifn hc h
            exact x_vret hC hRc hRs hZ hr h d_AckBookModel_persists_221
      · have h := z_ifn hc h
        refine lv_iload hC.1 hC.2.1 d_AckBookModel_persists_127 (lv_at hl 4 rfl) ?_
        refine lv_if_ne (tgt := 149) hC.1 hC.2.1 d_AckBookModel_persists_129 (by decide) (fun hc => ?_) (fun hc => ?_)
        · have h := z_ifn hc h
          refine lv_iconst (v := (1 : Int32)) hC.1 hC.2.1 d_AckBookModel_persists_149 (by decide) ?_
          refine lv_goto (tgt := 154) hC.1 hC.2.1 d_AckBookModel_persists_150 (by decide) ?_
          refine lv_istore (i := 5) (lv' := [(5, .int (1 : Int32)), (0, va_rf rL0), (1, .int xL1), (3, .int xL3), (4, .int xL4), (6, .int xL6)]) hC.1 hC.2.1 d_AckBookModel_persists_154 hl (by decide) (by first | rfl | simp [z_rfc, z_ci, z_cj]) (fun ls hl => ?_)
          refine lv_iinc (lv' := [(6, .int (xL6 + (1 : Int32))), (5, .int (1 : Int32)), (0, va_rf rL0), (1, .int xL1), (3, .int xL3), (4, .int xL4)]) hC.1 hC.2.1 d_AckBookModel_persists_156 hl (k := 5) rfl rfl (by decide) (by first | rfl | simp [z_rfc, z_ci, z_cj]) (fun ls hl => ?_)
          refine lv_goto (tgt := 120) hC.1 hC.2.1 d_AckBookModel_persists_159 (by decide) ?_
          exact ih.2 _ _ _ _ _ _ _ _ h _ _ _ _ _ hZ (lv_sub hl [2, 3, 4, 5, 1, 0] rfl)
        · have h := z_ifp hc h
          refine x_aload_n hC d_AckBookModel_persists_132 rfl (lv_at hl 0 rfl) ?_
          refine x_getR hC hZ zc10 h (by decide) t_826 (fun _ h9 => h9) d_AckBookModel_persists_133 (fun r19 h => ?_)
          refine lv_sipush (v := (4096 : Int32)) hC.1 hC.2.1 d_AckBookModel_persists_136 (by decide) ?_
          refine lv_iload_n hC.1 hC.2.1 d_AckBookModel_persists_139 rfl (lv_at hl 1 rfl) ?_
          refine lv_imul hC.1 hC.2.1 d_AckBookModel_persists_140 ?_
          refine lv_iload hC.1 hC.2.1 d_AckBookModel_persists_141 (lv_at hl 5 rfl) ?_
          refine lv_iadd hC.1 hC.2.1 d_AckBookModel_persists_143 ?_
          refine x_ldI hC hZ h d_AckBookModel_persists_144 (fun v20 h => ?_)
          refine lv_iconst (v := (1 : Int32)) hC.1 hC.2.1 d_AckBookModel_persists_145 (by decide) ?_
          refine lv_icmp_ne (tgt := 153) hC.1 hC.2.1 d_AckBookModel_persists_146 (by decide) (fun hc => ?_) (fun hc => ?_)
          · have h := z_ifn hc h
            refine lv_iconst (v := (0 : Int32)) hC.1 hC.2.1 d_AckBookModel_persists_153 (by decide) ?_
            refine lv_istore (i := 5) (lv' := [(5, .int (0 : Int32)), (0, va_rf rL0), (1, .int xL1), (3, .int xL3), (4, .int xL4), (6, .int xL6)]) hC.1 hC.2.1 d_AckBookModel_persists_154 hl (by decide) (by first | rfl | simp [z_rfc, z_ci, z_cj]) (fun ls hl => ?_)
            refine lv_iinc (lv' := [(6, .int (xL6 + (1 : Int32))), (5, .int (0 : Int32)), (0, va_rf rL0), (1, .int xL1), (3, .int xL3), (4, .int xL4)]) hC.1 hC.2.1 d_AckBookModel_persists_156 hl (k := 5) rfl rfl (by decide) (by first | rfl | simp [z_rfc, z_ci, z_cj]) (fun ls hl => ?_)
            refine lv_goto (tgt := 120) hC.1 hC.2.1 d_AckBookModel_persists_159 (by decide) ?_
            exact ih.2 _ _ _ _ _ _ _ _ h _ _ _ _ _ hZ (lv_sub hl [2, 3, 4, 5, 1, 0] rfl)
          · have h := z_ifp hc h
            refine lv_iconst (v := (1 : Int32)) hC.1 hC.2.1 d_AckBookModel_persists_149 (by decide) ?_
            refine lv_goto (tgt := 154) hC.1 hC.2.1 d_AckBookModel_persists_150 (by decide) ?_
            refine lv_istore (i := 5) (lv' := [(5, .int (1 : Int32)), (0, va_rf rL0), (1, .int xL1), (3, .int xL3), (4, .int xL4), (6, .int xL6)]) hC.1 hC.2.1 d_AckBookModel_persists_154 hl (by decide) (by first | rfl | simp [z_rfc, z_ci, z_cj]) (fun ls hl => ?_)
            refine lv_iinc (lv' := [(6, .int (xL6 + (1 : Int32))), (5, .int (1 : Int32)), (0, va_rf rL0), (1, .int xL1), (3, .int xL3), (4, .int xL4)]) hC.1 hC.2.1 d_AckBookModel_persists_156 hl (k := 5) rfl rfl (by decide) (by first | rfl | simp [z_rfc, z_ci, z_cj]) (fun ls hl => ?_)
            refine lv_goto (tgt := 120) hC.1 hC.2.1 d_AckBookModel_persists_159 (by decide) ?_
            exact ih.2 _ _ _ _ _ _ _ _ h _ _ _ _ _ hZ (lv_sub hl [2, 3, 4, 5, 1, 0] rfl)
def f_AckBookModel_persists (F X : Nat) (a0 : Option Nat) (pI1 : Int32) (pI2 : Int32) (w : zW) : zR :=
  (j_AckBookModel_persists F X F) 0 a0 pI1 (-1 : Int32) (-1 : Int32) pI2 0 w
set_option maxHeartbeats 4000000 in
set_option maxRecDepth 100000 in
theorem k_AckBookModel_persists {b0 : Nat} {H0 : Heap} {D : va_G} {vu vs : Value} {X M : Nat} {l : Launch} (hT : z_TB (zGG b0 H0 D vu vs X M)) (hfl : l.flags = pinnedFlags ++ [noTraceFlag]) (hE : vu.isRef = true ∧ vs.isRef = true) {a0 : Option Nat} {pI1 : Int32} {pI2 : Int32} (F : Nat) {w : zW} (res : zO × zW) (h : f_AckBookModel_persists F X a0 pI1 pI2 w = some res) : z_Ct (zGG b0 H0 D vu vs X M) l y_AckBookModel_persists (.code y_AckBookModel_persists c_AckBookModel_persists 7 (none)) 1 21 [va_rf a0, .int pI1, .int pI2] w res := by
  refine z_ct hT hfl (by decide) (by simp only [z_sl_i, z_sl_j, z_sl_r, z_sl_n]; decide) ?_
  intro p e R s m args below meth c hC hr hRc hRs hRt hnm hFr H ls hZ hl
  simp only [z_la_i, z_la_j, z_la_r, z_la_n] at hl
  have hl : lv_has ls 7 [(0, va_rf a0), (1, .int pI1), (2, .int pI2)] := hl
  unfold f_AckBookModel_persists at h
  refine lv_iconst (v := (-1 : Int32)) hC.1 hC.2.1 d_AckBookModel_persists_0 (by decide) ?_
  refine lv_istore_n (i := 3) (lv' := [(3, .int (-1 : Int32)), (0, va_rf a0), (1, .int pI1), (2, .int pI2)]) hC.1 hC.2.1 d_AckBookModel_persists_1 rfl hl (by decide) (by first | rfl | simp [z_rfc, z_ci, z_cj]) (fun ls hl => ?_)
  refine lv_iconst (v := (-1 : Int32)) hC.1 hC.2.1 d_AckBookModel_persists_2 (by decide) ?_
  refine lv_istore (i := 4) (lv' := [(4, .int (-1 : Int32)), (3, .int (-1 : Int32)), (0, va_rf a0), (1, .int pI1), (2, .int pI2)]) hC.1 hC.2.1 d_AckBookModel_persists_3 hl (by decide) (by first | rfl | simp [z_rfc, z_ci, z_cj]) (fun ls hl => ?_)
  refine lv_iload_n hC.1 hC.2.1 d_AckBookModel_persists_5 rfl (lv_at hl 4 rfl) ?_
  refine lv_istore (i := 5) (lv' := [(5, .int pI2), (4, .int (-1 : Int32)), (3, .int (-1 : Int32)), (0, va_rf a0), (1, .int pI1), (2, .int pI2)]) hC.1 hC.2.1 d_AckBookModel_persists_6 hl (by decide) (by first | rfl | simp [z_rfc, z_ci, z_cj]) (fun ls hl => ?_)
  exact (kj_AckBookModel_persists hT hfl hE hC hr hRc hRs hFr hRt hnm F).1 _ _ _ _ _ _ _ _ h _ _ _ _ _ hZ (lv_sub hl [3, 4, 2, 1, 0] rfl)
def q_AckBookModel_losses_263 (F X : Nat) (J : Nat → Option Nat → Int32 → Int32 → Int32 → Int32 → Int32 → zW → zR) (rL0 : Option Nat) (xL1 : Int32) (xL2 : Int32) (w : zW) : zR :=
  z_this w 10 rL0 <|
  z_cV (f_AckBookModel_persists F X rL0 xL1 xL2 w) fun w =>
  some (.inl none, w)
set_option maxHeartbeats 4000000 in
set_option maxRecDepth 100000 in
theorem kq_AckBookModel_losses_263 {b0 : Nat} {H0 : Heap} {D : va_G} {vu vs : Value} {X M : Nat} {l : Launch} (hT : z_TB (zGG b0 H0 D vu vs X M)) (hfl : l.flags = pinnedFlags ++ [noTraceFlag]) (hE : vu.isRef = true ∧ vs.isRef = true) {p : Program} {e : Env} {R : Room} {s : State} {m : MethodId} {args : Array Value} {below : List Frame} {meth : Method} {c : Code} {w0 : zW} {F : Nat} (hC : z_C (zGG b0 H0 D vu vs X M) p e s m meth c c_AckBookModel_losses 7 y_AckBookModel_losses.cls) (hr : meth.sig.returnType = (none)) (hRc : R.cells = w0.2.1) (hRs : R.slots = w0.2.2.1) (hFr : c.exceptionTable.toList = []) (hRt : R.frames = 2 ∧ R.locals = 47) (hnm : meth.name = y_AckBookModel_losses.name) {J : Nat → Option Nat → Int32 → Int32 → Int32 → Int32 → Int32 → zW → zR} (hJ : (∀ (rL0 : Option Nat) (xL1 : Int32) (xL2 : Int32) (xL3 : Int32) (xL4 : Int32) (xL5 : Int32) (w : zW) (res : zO × zW), J 0 rL0 xL1 xL2 xL3 xL4 xL5 w = some res → ∀ (H : Heap) (locs : List Loc) (cells slots : Nat) (ls : Array Slot), z_Z (zGG b0 H0 D vu vs X M) R s w H locs cells slots → lv_has ls 7 [(0, va_rf rL0), (1, .int xL1), (2, .int xL2), (3, .int xL3), (4, .int xL4)] → W p l e R s m args below meth c H locs cells slots (z_Q (zGG b0 H0 D vu vs X M) below s w0 res) (F0 m 26 ls [])) ∧ (∀ (rL0 : Option Nat) (xL1 : Int32) (xL2 : Int32) (xL3 : Int32) (xL4 : Int32) (xL5 : Int32) (w : zW) (res : zO × zW), J 1 rL0 xL1 xL2 xL3 xL4 xL5 w = some res → ∀ (H : Heap) (locs : List Loc) (cells slots : Nat) (ls : Array Slot), z_Z (zGG b0 H0 D vu vs X M) R s w H locs cells slots → lv_has ls 7 [(0, va_rf rL0), (1, .int xL1), (2, .int xL2), (4, .int xL4), (5, .int xL5)] → W p l e R s m args below meth c H locs cells slots (z_Q (zGG b0 H0 D vu vs X M) below s w0 res) (F0 m 149 ls []))) (rL0 : Option Nat) (xL1 : Int32) (xL2 : Int32) (w : zW) (res : zO × zW) (h : q_AckBookModel_losses_263 F X J rL0 xL1 xL2 w = some res) (H : Heap) (locs : List Loc) (cells slots : Nat) (ls : Array Slot) (hZ : z_Z (zGG b0 H0 D vu vs X M) R s w H locs cells slots) (hl : lv_has ls 7 [(0, va_rf rL0), (1, .int xL1), (2, .int xL2)]) : W p l e R s m args below meth c H locs cells slots (z_Q (zGG b0 H0 D vu vs X M) below s w0 res) (F0 m 263 ls []) := by
  unfold q_AckBookModel_losses_263 at h
  refine x_aload_n hC d_AckBookModel_losses_263 rfl (lv_at hl 0 rfl) ?_
  refine lv_iload_n hC.1 hC.2.1 d_AckBookModel_losses_264 rfl (lv_at hl 1 rfl) ?_
  refine lv_iload_n hC.1 hC.2.1 d_AckBookModel_losses_265 rfl (lv_at hl 2 rfl) ?_
  obtain ⟨a_, fs_, eo_, h⟩ := z_this_spec h
  obtain ⟨w1_, o1_, hF_, ha_⟩ := z_cV_spec h
  refine x_goes hC hRc hRs hFr ha_ (z_goV (As := [.int xL1, .int xL2]) hC hZ zc10 eo_ (k_AckBookModel_persists hT hfl hE _ _ hF_) t_1004 t_1006 ts_AckBookModel_persists t_12 t_1007 ⟨by decide, by decide, (by decide +kernel : (parseMethodDescriptor y_AckBookModel_persists.desc).map (fun d => d.parameters.length) = some 2)⟩ (by rw [hRt.1]; decide) (by rw [hRt.2]; decide) hl.1 rfl (by first | exact Nat.le_of_ble_eq_true rfl | simp [z_rfc, z_ci, z_cj]) d_AckBookModel_losses_266) (fun v_ hv H locs cells slots hZ => ?_)
  obtain ⟨rfl, h⟩ := hv
  generalize w1_ = w at h hZ
  exact x_vret hC hRc hRs hZ hr h d_AckBookModel_losses_269
def q_AckBookModel_losses_89 (F X : Nat) (J : Nat → Option Nat → Int32 → Int32 → Int32 → Int32 → Int32 → zW → zR) (rL0 : Option Nat) (xL1 : Int32) (xL2 : Int32) (xL3 : Int32) (xL4 : Int32) (w : zW) : zR :=
  z_this w 10 rL0 <|
  z_cV (f_AckBookModel_find F X rL0 xL1 xL4 (2 : Int32) w) fun w =>
  J 0 rL0 xL1 xL2 xL3 (xL4 + (1 : Int32)) 0 w
set_option maxHeartbeats 4000000 in
set_option maxRecDepth 100000 in
theorem kq_AckBookModel_losses_89 {b0 : Nat} {H0 : Heap} {D : va_G} {vu vs : Value} {X M : Nat} {l : Launch} (hT : z_TB (zGG b0 H0 D vu vs X M)) (hfl : l.flags = pinnedFlags ++ [noTraceFlag]) (hE : vu.isRef = true ∧ vs.isRef = true) {p : Program} {e : Env} {R : Room} {s : State} {m : MethodId} {args : Array Value} {below : List Frame} {meth : Method} {c : Code} {w0 : zW} {F : Nat} (hC : z_C (zGG b0 H0 D vu vs X M) p e s m meth c c_AckBookModel_losses 7 y_AckBookModel_losses.cls) (hr : meth.sig.returnType = (none)) (hRc : R.cells = w0.2.1) (hRs : R.slots = w0.2.2.1) (hFr : c.exceptionTable.toList = []) (hRt : R.frames = 2 ∧ R.locals = 47) (hnm : meth.name = y_AckBookModel_losses.name) {J : Nat → Option Nat → Int32 → Int32 → Int32 → Int32 → Int32 → zW → zR} (hJ : (∀ (rL0 : Option Nat) (xL1 : Int32) (xL2 : Int32) (xL3 : Int32) (xL4 : Int32) (xL5 : Int32) (w : zW) (res : zO × zW), J 0 rL0 xL1 xL2 xL3 xL4 xL5 w = some res → ∀ (H : Heap) (locs : List Loc) (cells slots : Nat) (ls : Array Slot), z_Z (zGG b0 H0 D vu vs X M) R s w H locs cells slots → lv_has ls 7 [(0, va_rf rL0), (1, .int xL1), (2, .int xL2), (3, .int xL3), (4, .int xL4)] → W p l e R s m args below meth c H locs cells slots (z_Q (zGG b0 H0 D vu vs X M) below s w0 res) (F0 m 26 ls [])) ∧ (∀ (rL0 : Option Nat) (xL1 : Int32) (xL2 : Int32) (xL3 : Int32) (xL4 : Int32) (xL5 : Int32) (w : zW) (res : zO × zW), J 1 rL0 xL1 xL2 xL3 xL4 xL5 w = some res → ∀ (H : Heap) (locs : List Loc) (cells slots : Nat) (ls : Array Slot), z_Z (zGG b0 H0 D vu vs X M) R s w H locs cells slots → lv_has ls 7 [(0, va_rf rL0), (1, .int xL1), (2, .int xL2), (4, .int xL4), (5, .int xL5)] → W p l e R s m args below meth c H locs cells slots (z_Q (zGG b0 H0 D vu vs X M) below s w0 res) (F0 m 149 ls []))) (rL0 : Option Nat) (xL1 : Int32) (xL2 : Int32) (xL3 : Int32) (xL4 : Int32) (w : zW) (res : zO × zW) (h : q_AckBookModel_losses_89 F X J rL0 xL1 xL2 xL3 xL4 w = some res) (H : Heap) (locs : List Loc) (cells slots : Nat) (ls : Array Slot) (hZ : z_Z (zGG b0 H0 D vu vs X M) R s w H locs cells slots) (hl : lv_has ls 7 [(0, va_rf rL0), (1, .int xL1), (2, .int xL2), (3, .int xL3), (4, .int xL4)]) : W p l e R s m args below meth c H locs cells slots (z_Q (zGG b0 H0 D vu vs X M) below s w0 res) (F0 m 89 ls []) := by
  unfold q_AckBookModel_losses_89 at h
  refine x_aload_n hC d_AckBookModel_losses_89 rfl (lv_at hl 0 rfl) ?_
  refine lv_iload_n hC.1 hC.2.1 d_AckBookModel_losses_90 rfl (lv_at hl 1 rfl) ?_
  refine lv_iload hC.1 hC.2.1 d_AckBookModel_losses_91 (lv_at hl 4 rfl) ?_
  refine lv_iconst (v := (2 : Int32)) hC.1 hC.2.1 d_AckBookModel_losses_93 (by decide) ?_
  obtain ⟨a_, fs_, eo_, h⟩ := z_this_spec h
  obtain ⟨w1_, o1_, hF_, ha_⟩ := z_cV_spec h
  refine x_goes hC hRc hRs hFr ha_ (z_goV (As := [.int xL1, .int xL4, .int (2 : Int32)]) hC hZ zc10 eo_ (k_AckBookModel_find hT hfl hE _ _ hF_) t_984 t_986 ts_AckBookModel_find t_12 t_987 ⟨by decide, by decide, (by decide +kernel : (parseMethodDescriptor y_AckBookModel_find.desc).map (fun d => d.parameters.length) = some 3)⟩ (by rw [hRt.1]; decide) (by rw [hRt.2]; decide) hl.1 rfl (by first | exact Nat.le_of_ble_eq_true rfl | simp [z_rfc, z_ci, z_cj]) d_AckBookModel_losses_94) (fun v_ hv H locs cells slots hZ => ?_)
  obtain ⟨rfl, h⟩ := hv
  generalize w1_ = w at h hZ
  refine lv_goto (tgt := 137) hC.1 hC.2.1 d_AckBookModel_losses_97 (by decide) ?_
  refine lv_iinc (lv' := [(4, .int (xL4 + (1 : Int32))), (0, va_rf rL0), (1, .int xL1), (2, .int xL2), (3, .int xL3)]) hC.1 hC.2.1 d_AckBookModel_losses_137 hl (k := 4) rfl rfl (by decide) (by first | rfl | simp [z_rfc, z_ci, z_cj]) (fun ls hl => ?_)
  refine lv_goto (tgt := 26) hC.1 hC.2.1 d_AckBookModel_losses_140 (by decide) ?_
  exact hJ.1 _ _ _ _ _ _ _ _ h _ _ _ _ _ hZ (lv_sub hl [1, 2, 3, 4, 0] rfl)
def j_AckBookModel_losses (F X : Nat) : Nat → Nat → Option Nat → Int32 → Int32 → Int32 → Int32 → Int32 → zW → zR
  | 0, _, _, _, _, _, _, _, _ => none
  | N + 1, lb, rL0, xL1, xL2, xL3, xL4, xL5, w =>
    if lb = 0 then (
    z_getR w 10 12 rL0 fun r3 =>
    z_ldI w .int r3 xL1 fun v4 =>
    if v4 ≤ xL4 then (
      (j_AckBookModel_losses F X N) 1 rL0 xL1 xL2 0 (0 : Int32) xL2 w)
    else (
      z_this w 10 rL0 <|
      z_cI (f_AckBookModel_isOut F X rL0 xL1 xL4 w) fun v6 w =>
      if v6 = 0 then (
        (j_AckBookModel_losses F X N) 0 rL0 xL1 xL2 xL3 (xL4 + (1 : Int32)) 0 w)
      else (
        z_getR w 10 6 rL0 fun r7 =>
        z_ldI w .int r7 (((4096 : Int32) * xL1) + xL4) fun v8 =>
        z_getR w 10 12 rL0 fun r9 =>
        z_ldI w .int r9 xL1 fun v10 =>
        if xL4 ≤ (v10 - (3 : Int32)) then (
          q_AckBookModel_losses_89 F X (j_AckBookModel_losses F X N) rL0 xL1 xL2 xL3 xL4 w)
        else (
          z_getI w 10 1 rL0 fun v11 =>
          if v11 < (v8 + xL3) then (
            z_getR w 10 13 rL0 fun r12 =>
            z_getR w 10 13 rL0 fun r13 =>
            z_ldI w .int r13 xL1 fun v14 =>
            if v14 < 0 then (
              z_stI w r12 xL1 (v8 + xL3) fun w =>
              (j_AckBookModel_losses F X N) 0 rL0 xL1 xL2 xL3 (xL4 + (1 : Int32)) 0 w)
            else (
              z_getR w 10 13 rL0 fun r15 =>
              z_ldI w .int r15 xL1 fun v16 =>
              if v16 ≤ (v8 + xL3) then (
                z_getR w 10 13 rL0 fun r17 =>
                z_ldI w .int r17 xL1 fun v18 =>
                z_stI w r12 xL1 v18 fun w =>
                (j_AckBookModel_losses F X N) 0 rL0 xL1 xL2 xL3 (xL4 + (1 : Int32)) 0 w)
              else (
                z_stI w r12 xL1 (v8 + xL3) fun w =>
                (j_AckBookModel_losses F X N) 0 rL0 xL1 xL2 xL3 (xL4 + (1 : Int32)) 0 w)))
          else (
            q_AckBookModel_losses_89 F X (j_AckBookModel_losses F X N) rL0 xL1 xL2 xL3 xL4 w)))))
    else (
    z_getR w 10 16 rL0 fun r19 =>
    z_ldI w .int r19 (((2 : Int32) * xL1) + (1 : Int32)) fun v20 =>
    if v20 ≤ xL5 then (
      if xL4 = 0 then (
        q_AckBookModel_losses_263 F X (j_AckBookModel_losses F X N) rL0 xL1 xL2 w)
      else (
        z_getI w 10 1 rL0 fun v21 =>
        z_put w 10 26 rL0 (.int v21) fun w =>
        z_getI w 10 24 rL0 fun v22 =>
        z_put w 10 25 rL0 (.int (v22 / (2 : Int32))) fun w =>
        z_getI w 10 25 rL0 fun v23 =>
        z_cI (f_AckBookModel_greater F X v23 (2400 : Int32) w) fun v25 w =>
        z_put w 10 24 rL0 (.int v25) fun w =>
        q_AckBookModel_losses_263 F X (j_AckBookModel_losses F X N) rL0 xL1 xL2 w))
    else (
      z_getR w 10 15 rL0 fun r26 =>
      z_ldI w .int r26 (((4096 : Int32) * (((2 : Int32) * xL1) + (1 : Int32))) + xL5) fun v27 =>
      if xL4 = 0 then (
        z_getR w 10 9 rL0 fun r28 =>
        z_ldI w .boolean r28 (((4096 : Int32) * xL1) + v27) fun v29 =>
        if v29 = 0 then (
          (j_AckBookModel_losses F X N) 1 rL0 xL1 xL2 0 (0 : Int32) (xL5 + (1 : Int32)) w)
        else (
          z_this w 10 rL0 <|
          z_cI (f_AckBookModel_isBehindRecovery F X rL0 (((4096 : Int32) * xL1) + v27) w) fun v31 w =>
          if v31 = 0 then (
            (j_AckBookModel_losses F X N) 1 rL0 xL1 xL2 0 (0 : Int32) (xL5 + (1 : Int32)) w)
          else (
            (j_AckBookModel_losses F X N) 1 rL0 xL1 xL2 0 (1 : Int32) (xL5 + (1 : Int32)) w)))
      else (
        (j_AckBookModel_losses F X N) 1 rL0 xL1 xL2 0 (1 : Int32) (xL5 + (1 : Int32)) w)))
set_option maxHeartbeats 4000000 in
set_option maxRecDepth 100000 in
theorem kj_AckBookModel_losses {b0 : Nat} {H0 : Heap} {D : va_G} {vu vs : Value} {X M : Nat} {l : Launch} (hT : z_TB (zGG b0 H0 D vu vs X M)) (hfl : l.flags = pinnedFlags ++ [noTraceFlag]) (hE : vu.isRef = true ∧ vs.isRef = true) {p : Program} {e : Env} {R : Room} {s : State} {m : MethodId} {args : Array Value} {below : List Frame} {meth : Method} {c : Code} {w0 : zW} {F : Nat} (hC : z_C (zGG b0 H0 D vu vs X M) p e s m meth c c_AckBookModel_losses 7 y_AckBookModel_losses.cls) (hr : meth.sig.returnType = (none)) (hRc : R.cells = w0.2.1) (hRs : R.slots = w0.2.2.1) (hFr : c.exceptionTable.toList = []) (hRt : R.frames = 2 ∧ R.locals = 47) (hnm : meth.name = y_AckBookModel_losses.name) : ∀ N : Nat, (∀ (rL0 : Option Nat) (xL1 : Int32) (xL2 : Int32) (xL3 : Int32) (xL4 : Int32) (xL5 : Int32) (w : zW) (res : zO × zW), j_AckBookModel_losses F X N 0 rL0 xL1 xL2 xL3 xL4 xL5 w = some res → ∀ (H : Heap) (locs : List Loc) (cells slots : Nat) (ls : Array Slot), z_Z (zGG b0 H0 D vu vs X M) R s w H locs cells slots → lv_has ls 7 [(0, va_rf rL0), (1, .int xL1), (2, .int xL2), (3, .int xL3), (4, .int xL4)] → W p l e R s m args below meth c H locs cells slots (z_Q (zGG b0 H0 D vu vs X M) below s w0 res) (F0 m 26 ls [])) ∧ (∀ (rL0 : Option Nat) (xL1 : Int32) (xL2 : Int32) (xL3 : Int32) (xL4 : Int32) (xL5 : Int32) (w : zW) (res : zO × zW), j_AckBookModel_losses F X N 1 rL0 xL1 xL2 xL3 xL4 xL5 w = some res → ∀ (H : Heap) (locs : List Loc) (cells slots : Nat) (ls : Array Slot), z_Z (zGG b0 H0 D vu vs X M) R s w H locs cells slots → lv_has ls 7 [(0, va_rf rL0), (1, .int xL1), (2, .int xL2), (4, .int xL4), (5, .int xL5)] → W p l e R s m args below meth c H locs cells slots (z_Q (zGG b0 H0 D vu vs X M) below s w0 res) (F0 m 149 ls [])) := by
  intro N
  induction N with
  | zero =>
    refine ⟨?_, ?_⟩
    · intro rL0 xL1 xL2 xL3 xL4 xL5 w res h
      rw [j_AckBookModel_losses] at h
      cases h
    · intro rL0 xL1 xL2 xL3 xL4 xL5 w res h
      rw [j_AckBookModel_losses] at h
      cases h
  | succ N ih =>
    refine ⟨?_, ?_⟩
    · intro rL0 xL1 xL2 xL3 xL4 xL5 w res h H locs cells slots ls hZ hl
      rw [j_AckBookModel_losses] at h
      have h := z_ifp rfl h
      refine lv_iload hC.1 hC.2.1 d_AckBookModel_losses_26 (lv_at hl 4 rfl) ?_
      refine x_aload_n hC d_AckBookModel_losses_28 rfl (lv_at hl 0 rfl) ?_
      refine x_getR hC hZ zc10 h (by decide) t_831 (fun _ h9 => h9) d_AckBookModel_losses_29 (fun r3 h => ?_)
      refine lv_iload_n hC.1 hC.2.1 d_AckBookModel_losses_32 rfl (lv_at hl 1 rfl) ?_
      refine x_ldI hC hZ h d_AckBookModel_losses_33 (fun v4 h => ?_)
      refine lv_icmp_ge (tgt := 143) hC.1 hC.2.1 d_AckBookModel_losses_34 (by decide) (fun hc => ?_) (fun hc => ?_)
      · have h := z_ifp hc h
        refine lv_iconst (v := (0 : Int32)) hC.1 hC.2.1 d_AckBookModel_losses_143 (by decide) ?_
        refine lv_istore (i := 4) (lv' := [(4, .int (0 : Int32)), (0, va_rf rL0), (1, .int xL1), (2, .int xL2), (3, .int xL3)]) hC.1 hC.2.1 d_AckBookModel_losses_144 hl (by decide) (by first | rfl | simp [z_rfc, z_ci, z_cj]) (fun ls hl => ?_)
        refine lv_iload_n hC.1 hC.2.1 d_AckBookModel_losses_146 rfl (lv_at hl 3 rfl) ?_
        refine lv_istore (i := 5) (lv' := [(5, .int xL2), (4, .int (0 : Int32)), (0, va_rf rL0), (1, .int xL1), (2, .int xL2), (3, .int xL3)]) hC.1 hC.2.1 d_AckBookModel_losses_147 hl (by decide) (by first | rfl | simp [z_rfc, z_ci, z_cj]) (fun ls hl => ?_)
        exact ih.2 _ _ _ _ _ _ _ _ h _ _ _ _ _ hZ (lv_sub hl [2, 3, 4, 1, 0] rfl)
      · have h := z_ifn hc h
        refine x_aload_n hC d_AckBookModel_losses_37 rfl (lv_at hl 0 rfl) ?_
        refine lv_iload_n hC.1 hC.2.1 d_AckBookModel_losses_38 rfl (lv_at hl 1 rfl) ?_
        refine lv_iload hC.1 hC.2.1 d_AckBookModel_losses_39 (lv_at hl 4 rfl) ?_
        obtain ⟨a_, fs_, eo_, h⟩ := z_this_spec h
        obtain ⟨w1_, o1_, hF_, ha_⟩ := z_cI_spec h
        refine x_goes hC hRc hRs hFr ha_ (z_goV (As := [.int xL1, .int xL4]) hC hZ zc10 eo_ (k_AckBookModel_isOut hT hfl hE _ _ hF_) t_955 t_957 ts_AckBookModel_isOut t_12 t_958 ⟨by decide, by decide, (by decide +kernel : (parseMethodDescriptor y_AckBookModel_isOut.desc).map (fun d => d.parameters.length) = some 2)⟩ (by rw [hRt.1]; decide) (by rw [hRt.2]; decide) hl.1 rfl (by first | exact Nat.le_of_ble_eq_true rfl | simp [z_rfc, z_ci, z_cj]) d_AckBookModel_losses_41) (fun v_ hv H locs cells slots hZ => ?_)
        obtain ⟨v6, rfl, h⟩ := hv
        generalize w1_ = w at h hZ
        refine lv_if_ne (tgt := 50) hC.1 hC.2.1 d_AckBookModel_losses_44 (by decide) (fun hc => ?_) (fun hc => ?_)
        · have h := z_ifn hc h
          refine x_aload_n hC d_AckBookModel_losses_50 rfl (lv_at hl 0 rfl) ?_
          refine x_getR hC hZ zc10 h (by decide) t_825 (fun _ h9 => h9) d_AckBookModel_losses_51 (fun r7 h => ?_)
          refine lv_sipush (v := (4096 : Int32)) hC.1 hC.2.1 d_AckBookModel_losses_54 (by decide) ?_
          refine lv_iload_n hC.1 hC.2.1 d_AckBookModel_losses_57 rfl (lv_at hl 1 rfl) ?_
          refine lv_imul hC.1 hC.2.1 d_AckBookModel_losses_58 ?_
          refine lv_iload hC.1 hC.2.1 d_AckBookModel_losses_59 (lv_at hl 4 rfl) ?_
          refine lv_iadd hC.1 hC.2.1 d_AckBookModel_losses_61 ?_
          refine x_ldI hC hZ h d_AckBookModel_losses_62 (fun v8 h => ?_)
          refine lv_iload_n hC.1 hC.2.1 d_AckBookModel_losses_63 rfl (lv_at hl 3 rfl) ?_
          refine lv_iadd hC.1 hC.2.1 d_AckBookModel_losses_64 ?_
          refine lv_istore (i := 5) (lv' := [(5, .int (v8 + xL3)), (0, va_rf rL0), (1, .int xL1), (2, .int xL2), (3, .int xL3), (4, .int xL4)]) hC.1 hC.2.1 d_AckBookModel_losses_65 hl (by decide) (by first | rfl | simp [z_rfc, z_ci, z_cj]) (fun ls hl => ?_)
          refine lv_iload hC.1 hC.2.1 d_AckBookModel_losses_67 (lv_at hl 5 rfl) ?_
          refine x_aload_n hC d_AckBookModel_losses_69 rfl (lv_at hl 1 rfl) ?_
          refine x_getR hC hZ zc10 h (by decide) t_831 (fun _ h9 => h9) d_AckBookModel_losses_70 (fun r9 h => ?_)
          refine lv_iload_n hC.1 hC.2.1 d_AckBookModel_losses_73 rfl (lv_at hl 2 rfl) ?_
          refine x_ldI hC hZ h d_AckBookModel_losses_74 (fun v10 h => ?_)
          refine lv_iconst (v := (3 : Int32)) hC.1 hC.2.1 d_AckBookModel_losses_75 (by decide) ?_
          refine lv_isub hC.1 hC.2.1 d_AckBookModel_losses_76 ?_
          refine lv_icmp_le (tgt := 89) hC.1 hC.2.1 d_AckBookModel_losses_77 (by decide) (fun hc => ?_) (fun hc => ?_)
          · have h := z_ifp hc h
            exact kq_AckBookModel_losses_89 hT hfl hE hC hr hRc hRs hFr hRt hnm ih _ _ _ _ _ _ _ h _ _ _ _ _ hZ (lv_sub hl [1, 2, 3, 4, 5] rfl)
          · have h := z_ifn hc h
            refine lv_iload hC.1 hC.2.1 d_AckBookModel_losses_80 (lv_at hl 0 rfl) ?_
            refine x_aload_n hC d_AckBookModel_losses_82 rfl (lv_at hl 1 rfl) ?_
            refine x_getI hC hZ zc10 h (by decide) t_820 (fun _ h9 => h9) d_AckBookModel_losses_83 (fun v11 h => ?_)
            refine lv_icmp_gt (tgt := 100) hC.1 hC.2.1 d_AckBookModel_losses_86 (by decide) (fun hc => ?_) (fun hc => ?_)
            · have h := z_ifp hc h
              refine x_aload_n hC d_AckBookModel_losses_100 rfl (lv_at hl 1 rfl) ?_
              refine x_getR hC hZ zc10 h (by decide) t_832 (fun _ h9 => h9) d_AckBookModel_losses_101 (fun r12 h => ?_)
              refine lv_iload_n hC.1 hC.2.1 d_AckBookModel_losses_104 rfl (lv_at hl 2 rfl) ?_
              refine x_aload_n hC d_AckBookModel_losses_105 rfl (lv_at hl 1 rfl) ?_
              refine x_getR hC hZ zc10 h (by decide) t_832 (fun _ h9 => h9) d_AckBookModel_losses_106 (fun r13 h => ?_)
              refine lv_iload_n hC.1 hC.2.1 d_AckBookModel_losses_109 rfl (lv_at hl 2 rfl) ?_
              refine x_ldI hC hZ h d_AckBookModel_losses_110 (fun v14 h => ?_)
              refine lv_if_lt (tgt := 125) hC.1 hC.2.1 d_AckBookModel_losses_111 (by decide) (fun hc => ?_) (fun hc => ?_)
              · have h := z_ifp hc h
                refine lv_iload hC.1 hC.2.1 d_AckBookModel_losses_125 (lv_at hl 0 rfl) ?_
                refine lv_goto (tgt := 136) hC.1 hC.2.1 d_AckBookModel_losses_127 (by decide) ?_
                refine x_stI hC hZ h d_AckBookModel_losses_136 (fun w H locs hZ h => ?_)
                refine lv_iinc (lv' := [(4, .int (xL4 + (1 : Int32))), (5, .int (v8 + xL3)), (0, va_rf rL0), (1, .int xL1), (2, .int xL2), (3, .int xL3)]) hC.1 hC.2.1 d_AckBookModel_losses_137 hl (k := 5) rfl rfl (by decide) (by first | rfl | simp [z_rfc, z_ci, z_cj]) (fun ls hl => ?_)
                refine lv_goto (tgt := 26) hC.1 hC.2.1 d_AckBookModel_losses_140 (by decide) ?_
                exact ih.1 _ _ _ _ _ _ _ _ h _ _ _ _ _ hZ (lv_sub hl [2, 3, 4, 5, 0] rfl)
              · have h := z_ifn hc h
                refine lv_iload hC.1 hC.2.1 d_AckBookModel_losses_114 (lv_at hl 0 rfl) ?_
                refine x_aload_n hC d_AckBookModel_losses_116 rfl (lv_at hl 1 rfl) ?_
                refine x_getR hC hZ zc10 h (by decide) t_832 (fun _ h9 => h9) d_AckBookModel_losses_117 (fun r15 h => ?_)
                refine lv_iload_n hC.1 hC.2.1 d_AckBookModel_losses_120 rfl (lv_at hl 2 rfl) ?_
                refine x_ldI hC hZ h d_AckBookModel_losses_121 (fun v16 h => ?_)
                refine lv_icmp_ge (tgt := 130) hC.1 hC.2.1 d_AckBookModel_losses_122 (by decide) (fun hc => ?_) (fun hc => ?_)
                · have h := z_ifp hc h
                  refine x_aload_n hC d_AckBookModel_losses_130 rfl (lv_at hl 1 rfl) ?_
                  refine x_getR hC hZ zc10 h (by decide) t_832 (fun _ h9 => h9) d_AckBookModel_losses_131 (fun r17 h => ?_)
                  refine lv_iload_n hC.1 hC.2.1 d_AckBookModel_losses_134 rfl (lv_at hl 2 rfl) ?_
                  refine x_ldI hC hZ h d_AckBookModel_losses_135 (fun v18 h => ?_)
                  refine x_stI hC hZ h d_AckBookModel_losses_136 (fun w H locs hZ h => ?_)
                  refine lv_iinc (lv' := [(4, .int (xL4 + (1 : Int32))), (5, .int (v8 + xL3)), (0, va_rf rL0), (1, .int xL1), (2, .int xL2), (3, .int xL3)]) hC.1 hC.2.1 d_AckBookModel_losses_137 hl (k := 5) rfl rfl (by decide) (by first | rfl | simp [z_rfc, z_ci, z_cj]) (fun ls hl => ?_)
                  refine lv_goto (tgt := 26) hC.1 hC.2.1 d_AckBookModel_losses_140 (by decide) ?_
                  exact ih.1 _ _ _ _ _ _ _ _ h _ _ _ _ _ hZ (lv_sub hl [2, 3, 4, 5, 0] rfl)
                · have h := z_ifn hc h
                  refine lv_iload hC.1 hC.2.1 d_AckBookModel_losses_125 (lv_at hl 0 rfl) ?_
                  refine lv_goto (tgt := 136) hC.1 hC.2.1 d_AckBookModel_losses_127 (by decide) ?_
                  refine x_stI hC hZ h d_AckBookModel_losses_136 (fun w H locs hZ h => ?_)
                  refine lv_iinc (lv' := [(4, .int (xL4 + (1 : Int32))), (5, .int (v8 + xL3)), (0, va_rf rL0), (1, .int xL1), (2, .int xL2), (3, .int xL3)]) hC.1 hC.2.1 d_AckBookModel_losses_137 hl (k := 5) rfl rfl (by decide) (by first | rfl | simp [z_rfc, z_ci, z_cj]) (fun ls hl => ?_)
                  refine lv_goto (tgt := 26) hC.1 hC.2.1 d_AckBookModel_losses_140 (by decide) ?_
                  exact ih.1 _ _ _ _ _ _ _ _ h _ _ _ _ _ hZ (lv_sub hl [2, 3, 4, 5, 0] rfl)
            · have h := z_ifn hc h
              exact kq_AckBookModel_losses_89 hT hfl hE hC hr hRc hRs hFr hRt hnm ih _ _ _ _ _ _ _ h _ _ _ _ _ hZ (lv_sub hl [1, 2, 3, 4, 5] rfl)
        · have h := z_ifp hc h
          refine lv_goto (tgt := 137) hC.1 hC.2.1 d_AckBookModel_losses_47 (by decide) ?_
          refine lv_iinc (lv' := [(4, .int (xL4 + (1 : Int32))), (0, va_rf rL0), (1, .int xL1), (2, .int xL2), (3, .int xL3)]) hC.1 hC.2.1 d_AckBookModel_losses_137 hl (k := 4) rfl rfl (by decide) (by first | rfl | simp [z_rfc, z_ci, z_cj]) (fun ls hl => ?_)
          refine lv_goto (tgt := 26) hC.1 hC.2.1 d_AckBookModel_losses_140 (by decide) ?_
          exact ih.1 _ _ _ _ _ _ _ _ h _ _ _ _ _ hZ (lv_sub hl [1, 2, 3, 4, 0] rfl)
    · intro rL0 xL1 xL2 xL3 xL4 xL5 w res h H locs cells slots ls hZ hl
      rw [j_AckBookModel_losses] at h
      have h := z_ifn (by decide) h
      refine lv_iload hC.1 hC.2.1 d_AckBookModel_losses_149 (lv_at hl 4 rfl) ?_
      refine x_aload_n hC d_AckBookModel_losses_151 rfl (lv_at hl 0 rfl) ?_
      refine x_getR hC hZ zc10 h (by decide) t_835 (fun _ h9 => h9) d_AckBookModel_losses_152 (fun r19 h => ?_)
      refine lv_iconst (v := (2 : Int32)) hC.1 hC.2.1 d_AckBookModel_losses_155 (by decide) ?_
      refine lv_iload_n hC.1 hC.2.1 d_AckBookModel_losses_156 rfl (lv_at hl 1 rfl) ?_
      refine lv_imul hC.1 hC.2.1 d_AckBookModel_losses_157 ?_
      refine lv_iconst (v := (1 : Int32)) hC.1 hC.2.1 d_AckBookModel_losses_158 (by decide) ?_
      refine lv_iadd hC.1 hC.2.1 d_AckBookModel_losses_159 ?_
      refine x_ldI hC hZ h d_AckBookModel_losses_160 (fun v20 h => ?_)
      refine lv_icmp_ge (tgt := 226) hC.1 hC.2.1 d_AckBookModel_losses_161 (by decide) (fun hc => ?_) (fun hc => ?_)
      · have h := z_ifp hc h
        refine lv_iload hC.1 hC.2.1 d_AckBookModel_losses_226 (lv_at hl 3 rfl) ?_
        refine lv_if_eq (tgt := 263) hC.1 hC.2.1 d_AckBookModel_losses_228 (by decide) (fun hc => ?_) (fun hc => ?_)
        · have h := z_ifp hc h
          exact kq_AckBookModel_losses_263 hT hfl hE hC hr hRc hRs hFr hRt hnm ih _ _ _ _ _ h _ _ _ _ _ hZ (lv_sub hl [0, 1, 2] rfl)
        · have h := z_ifn hc h
          refine x_aload_n hC d_AckBookModel_losses_231 rfl (lv_at hl 0 rfl) ?_
          refine x_aload_n hC d_AckBookModel_losses_232 rfl (lv_at hl 0 rfl) ?_
          refine x_getI hC hZ zc10 h (by decide) t_820 (fun _ h9 => h9) d_AckBookModel_losses_233 (fun v21 h => ?_)
          refine x_put hC hZ zc10 h (by decide) t_845 (fun _ h9 => h9) rfl rfl rfl rfl d_AckBookModel_losses_236 (fun w H locs hZ h => ?_)
          refine x_aload_n hC d_AckBookModel_losses_239 rfl (lv_at hl 0 rfl) ?_
          refine x_aload_n hC d_AckBookModel_losses_240 rfl (lv_at hl 0 rfl) ?_
          refine x_getI hC hZ zc10 h (by decide) t_843 (fun _ h9 => h9) d_AckBookModel_losses_241 (fun v22 h => ?_)
          refine lv_iconst (v := (2 : Int32)) hC.1 hC.2.1 d_AckBookModel_losses_244 (by decide) ?_
          refine lv_idiv hC.1 hC.2.1 d_AckBookModel_losses_245 (by decide) ?_
          refine x_put hC hZ zc10 h (by decide) t_844 (fun _ h9 => h9) rfl rfl rfl rfl d_AckBookModel_losses_246 (fun w H locs hZ h => ?_)
          refine x_aload_n hC d_AckBookModel_losses_249 rfl (lv_at hl 0 rfl) ?_
          refine x_aload_n hC d_AckBookModel_losses_250 rfl (lv_at hl 0 rfl) ?_
          refine x_getI hC hZ zc10 h (by decide) t_844 (fun _ h9 => h9) d_AckBookModel_losses_251 (fun v23 h => ?_)
          refine lv_sipush (v := (2400 : Int32)) hC.1 hC.2.1 d_AckBookModel_losses_254 (by decide) ?_
          obtain ⟨w1_, o1_, hF_, ha_⟩ := z_cI_spec h
          refine x_goes hC hRc hRs hFr ha_ (z_goS (As := [.int v23, .int (2400 : Int32)]) hC hZ (k_AckBookModel_greater hT hfl hE _ _ hF_) t_973 t_974 t_12 t_975 ⟨by decide, by decide, (by decide +kernel : (parseMethodDescriptor y_AckBookModel_greater.desc).map (fun d => d.parameters.length) = some 2)⟩ (by rw [hRt.1]; decide) (by rw [hRt.2]; decide) hl.1 rfl (by first | exact Nat.le_of_ble_eq_true rfl | simp [z_rfc, z_ci, z_cj]) d_AckBookModel_losses_257) (fun v_ hv H locs cells slots hZ => ?_)
          obtain ⟨v25, rfl, h⟩ := hv
          generalize w1_ = w at h hZ
          refine x_put hC hZ zc10 h (by decide) t_843 (fun _ h9 => h9) rfl rfl rfl rfl d_AckBookModel_losses_260 (fun w H locs hZ h => ?_)
          exact kq_AckBookModel_losses_263 hT hfl hE hC hr hRc hRs hFr hRt hnm ih _ _ _ _ _ h _ _ _ _ _ hZ (lv_sub hl [0, 1, 2] rfl)
      · have h := z_ifn hc h
        refine lv_sipush (v := (4096 : Int32)) hC.1 hC.2.1 d_AckBookModel_losses_164 (by decide) ?_
        refine lv_iload_n hC.1 hC.2.1 d_AckBookModel_losses_167 rfl (lv_at hl 1 rfl) ?_
        refine lv_imul hC.1 hC.2.1 d_AckBookModel_losses_168 ?_
        refine x_aload_n hC d_AckBookModel_losses_169 rfl (lv_at hl 0 rfl) ?_
        refine x_getR hC hZ zc10 h (by decide) t_834 (fun _ h9 => h9) d_AckBookModel_losses_170 (fun r26 h => ?_)
        refine lv_sipush (v := (4096 : Int32)) hC.1 hC.2.1 d_AckBookModel_losses_173 (by decide) ?_
        refine lv_iconst (v := (2 : Int32)) hC.1 hC.2.1 d_AckBookModel_losses_176 (by decide) ?_
        refine lv_iload_n hC.1 hC.2.1 d_AckBookModel_losses_177 rfl (lv_at hl 1 rfl) ?_
        refine lv_imul hC.1 hC.2.1 d_AckBookModel_losses_178 ?_
        refine lv_iconst (v := (1 : Int32)) hC.1 hC.2.1 d_AckBookModel_losses_179 (by decide) ?_
        refine lv_iadd hC.1 hC.2.1 d_AckBookModel_losses_180 ?_
        refine lv_imul hC.1 hC.2.1 d_AckBookModel_losses_181 ?_
        refine lv_iload hC.1 hC.2.1 d_AckBookModel_losses_182 (lv_at hl 4 rfl) ?_
        refine lv_iadd hC.1 hC.2.1 d_AckBookModel_losses_184 ?_
        refine x_ldI hC hZ h d_AckBookModel_losses_185 (fun v27 h => ?_)
        refine lv_iadd hC.1 hC.2.1 d_AckBookModel_losses_186 ?_
        refine lv_istore (i := 6) (lv' := [(6, .int (((4096 : Int32) * xL1) + v27)), (0, va_rf rL0), (1, .int xL1), (2, .int xL2), (4, .int xL4), (5, .int xL5)]) hC.1 hC.2.1 d_AckBookModel_losses_187 hl (by decide) (by first | rfl | simp [z_rfc, z_ci, z_cj]) (fun ls hl => ?_)
        refine lv_iload hC.1 hC.2.1 d_AckBookModel_losses_189 (lv_at hl 4 rfl) ?_
        refine lv_if_ne (tgt := 213) hC.1 hC.2.1 d_AckBookModel_losses_191 (by decide) (fun hc => ?_) (fun hc => ?_)
        · have h := z_ifn hc h
          refine lv_iconst (v := (1 : Int32)) hC.1 hC.2.1 d_AckBookModel_losses_213 (by decide) ?_
          refine lv_goto (tgt := 218) hC.1 hC.2.1 d_AckBookModel_losses_214 (by decide) ?_
          refine lv_istore (i := 4) (lv' := [(4, .int (1 : Int32)), (6, .int (((4096 : Int32) * xL1) + v27)), (0, va_rf rL0), (1, .int xL1), (2, .int xL2), (5, .int xL5)]) hC.1 hC.2.1 d_AckBookModel_losses_218 hl (by decide) (by first | rfl | simp [z_rfc, z_ci, z_cj]) (fun ls hl => ?_)
          refine lv_iinc (lv' := [(5, .int (xL5 + (1 : Int32))), (4, .int (1 : Int32)), (6, .int (((4096 : Int32) * xL1) + v27)), (0, va_rf rL0), (1, .int xL1), (2, .int xL2)]) hC.1 hC.2.1 d_AckBookModel_losses_220 hl (k := 5) rfl rfl (by decide) (by first | rfl | simp [z_rfc, z_ci, z_cj]) (fun ls hl => ?_)
          refine lv_goto (tgt := 149) hC.1 hC.2.1 d_AckBookModel_losses_223 (by decide) ?_
          exact ih.2 _ _ _ _ _ _ _ _ h _ _ _ _ _ hZ (lv_sub hl [3, 4, 5, 1, 0] rfl)
        · have h := z_ifp hc h
          refine x_aload_n hC d_AckBookModel_losses_194 rfl (lv_at hl 1 rfl) ?_
          refine x_getR hC hZ zc10 h (by decide) t_828 (fun _ h9 => h9) d_AckBookModel_losses_195 (fun r28 h => ?_)
          refine lv_iload hC.1 hC.2.1 d_AckBookModel_losses_198 (lv_at hl 0 rfl) ?_
          refine x_ldZ hC hZ h d_AckBookModel_losses_200 (fun v29 h => ?_)
          refine lv_if_eq (tgt := 217) hC.1 hC.2.1 d_AckBookModel_losses_201 (by decide) (fun hc => ?_) (fun hc => ?_)
          · have h := z_ifp hc h
            refine lv_iconst (v := (0 : Int32)) hC.1 hC.2.1 d_AckBookModel_losses_217 (by decide) ?_
            refine lv_istore (i := 4) (lv' := [(4, .int (0 : Int32)), (6, .int (((4096 : Int32) * xL1) + v27)), (0, va_rf rL0), (1, .int xL1), (2, .int xL2), (5, .int xL5)]) hC.1 hC.2.1 d_AckBookModel_losses_218 hl (by decide) (by first | rfl | simp [z_rfc, z_ci, z_cj]) (fun ls hl => ?_)
            refine lv_iinc (lv' := [(5, .int (xL5 + (1 : Int32))), (4, .int (0 : Int32)), (6, .int (((4096 : Int32) * xL1) + v27)), (0, va_rf rL0), (1, .int xL1), (2, .int xL2)]) hC.1 hC.2.1 d_AckBookModel_losses_220 hl (k := 5) rfl rfl (by decide) (by first | rfl | simp [z_rfc, z_ci, z_cj]) (fun ls hl => ?_)
            refine lv_goto (tgt := 149) hC.1 hC.2.1 d_AckBookModel_losses_223 (by decide) ?_
            exact ih.2 _ _ _ _ _ _ _ _ h _ _ _ _ _ hZ (lv_sub hl [3, 4, 5, 1, 0] rfl)
          · have h := z_ifn hc h
            refine x_aload_n hC d_AckBookModel_losses_204 rfl (lv_at hl 1 rfl) ?_
            refine lv_iload hC.1 hC.2.1 d_AckBookModel_losses_205 (lv_at hl 0 rfl) ?_
            obtain ⟨a_, fs_, eo_, h⟩ := z_this_spec h
            obtain ⟨w1_, o1_, hF_, ha_⟩ := z_cI_spec h
            refine x_goes hC hRc hRs hFr ha_ (z_goV (As := [.int (((4096 : Int32) * xL1) + v27)]) hC hZ zc10 eo_ (k_AckBookModel_isBehindRecovery hT hfl hE _ _ hF_) t_992 t_994 ts_AckBookModel_isBehindRecovery t_12 t_995 ⟨by decide, by decide, (by decide +kernel : (parseMethodDescriptor y_AckBookModel_isBehindRecovery.desc).map (fun d => d.parameters.length) = some 1)⟩ (by rw [hRt.1]; decide) (by rw [hRt.2]; decide) hl.1 rfl (by first | exact Nat.le_of_ble_eq_true rfl | simp [z_rfc, z_ci, z_cj]) d_AckBookModel_losses_207) (fun v_ hv H locs cells slots hZ => ?_)
            obtain ⟨v31, rfl, h⟩ := hv
            generalize w1_ = w at h hZ
            refine lv_if_eq (tgt := 217) hC.1 hC.2.1 d_AckBookModel_losses_210 (by decide) (fun hc => ?_) (fun hc => ?_)
            · have h := z_ifp hc h
              refine lv_iconst (v := (0 : Int32)) hC.1 hC.2.1 d_AckBookModel_losses_217 (by decide) ?_
              refine lv_istore (i := 4) (lv' := [(4, .int (0 : Int32)), (6, .int (((4096 : Int32) * xL1) + v27)), (0, va_rf rL0), (1, .int xL1), (2, .int xL2), (5, .int xL5)]) hC.1 hC.2.1 d_AckBookModel_losses_218 hl (by decide) (by first | rfl | simp [z_rfc, z_ci, z_cj]) (fun ls hl => ?_)
              refine lv_iinc (lv' := [(5, .int (xL5 + (1 : Int32))), (4, .int (0 : Int32)), (6, .int (((4096 : Int32) * xL1) + v27)), (0, va_rf rL0), (1, .int xL1), (2, .int xL2)]) hC.1 hC.2.1 d_AckBookModel_losses_220 hl (k := 5) rfl rfl (by decide) (by first | rfl | simp [z_rfc, z_ci, z_cj]) (fun ls hl => ?_)
              refine lv_goto (tgt := 149) hC.1 hC.2.1 d_AckBookModel_losses_223 (by decide) ?_
              exact ih.2 _ _ _ _ _ _ _ _ h _ _ _ _ _ hZ (lv_sub hl [3, 4, 5, 1, 0] rfl)
            · have h := z_ifn hc h
              refine lv_iconst (v := (1 : Int32)) hC.1 hC.2.1 d_AckBookModel_losses_213 (by decide) ?_
              refine lv_goto (tgt := 218) hC.1 hC.2.1 d_AckBookModel_losses_214 (by decide) ?_
              refine lv_istore (i := 4) (lv' := [(4, .int (1 : Int32)), (6, .int (((4096 : Int32) * xL1) + v27)), (0, va_rf rL0), (1, .int xL1), (2, .int xL2), (5, .int xL5)]) hC.1 hC.2.1 d_AckBookModel_losses_218 hl (by decide) (by first | rfl | simp [z_rfc, z_ci, z_cj]) (fun ls hl => ?_)
              refine lv_iinc (lv' := [(5, .int (xL5 + (1 : Int32))), (4, .int (1 : Int32)), (6, .int (((4096 : Int32) * xL1) + v27)), (0, va_rf rL0), (1, .int xL1), (2, .int xL2)]) hC.1 hC.2.1 d_AckBookModel_losses_220 hl (k := 5) rfl rfl (by decide) (by first | rfl | simp [z_rfc, z_ci, z_cj]) (fun ls hl => ?_)
              refine lv_goto (tgt := 149) hC.1 hC.2.1 d_AckBookModel_losses_223 (by decide) ?_
              exact ih.2 _ _ _ _ _ _ _ _ h _ _ _ _ _ hZ (lv_sub hl [3, 4, 5, 1, 0] rfl)
def f_AckBookModel_losses (F X : Nat) (a0 : Option Nat) (pI1 : Int32) (w : zW) : zR :=
  z_getR w 10 16 a0 fun r32 =>
  z_ldI w .int r32 (((2 : Int32) * pI1) + (1 : Int32)) fun v33 =>
  z_this w 10 a0 <|
  z_cI (f_AckBookModel_limit F X a0 w) fun v35 w =>
  z_getR w 10 13 a0 fun r36 =>
  z_stI w r36 pI1 (-1 : Int32) fun w =>
  (j_AckBookModel_losses F X F) 0 a0 pI1 v33 v35 (0 : Int32) 0 w
set_option maxHeartbeats 4000000 in
set_option maxRecDepth 100000 in
theorem k_AckBookModel_losses {b0 : Nat} {H0 : Heap} {D : va_G} {vu vs : Value} {X M : Nat} {l : Launch} (hT : z_TB (zGG b0 H0 D vu vs X M)) (hfl : l.flags = pinnedFlags ++ [noTraceFlag]) (hE : vu.isRef = true ∧ vs.isRef = true) {a0 : Option Nat} {pI1 : Int32} (F : Nat) {w : zW} (res : zO × zW) (h : f_AckBookModel_losses F X a0 pI1 w = some res) : z_Ct (zGG b0 H0 D vu vs X M) l y_AckBookModel_losses (.code y_AckBookModel_losses c_AckBookModel_losses 7 (none)) 2 47 [va_rf a0, .int pI1] w res := by
  refine z_ct hT hfl (by decide) (by simp only [z_sl_i, z_sl_j, z_sl_r, z_sl_n]; decide) ?_
  intro p e R s m args below meth c hC hr hRc hRs hRt hnm hFr H ls hZ hl
  simp only [z_la_i, z_la_j, z_la_r, z_la_n] at hl
  have hl : lv_has ls 7 [(0, va_rf a0), (1, .int pI1)] := hl
  unfold f_AckBookModel_losses at h
  refine x_aload_n hC d_AckBookModel_losses_0 rfl (lv_at hl 0 rfl) ?_
  refine x_getR hC hZ zc10 h (by decide) t_835 (fun _ h9 => h9) d_AckBookModel_losses_1 (fun r32 h => ?_)
  refine lv_iconst (v := (2 : Int32)) hC.1 hC.2.1 d_AckBookModel_losses_4 (by decide) ?_
  refine lv_iload_n hC.1 hC.2.1 d_AckBookModel_losses_5 rfl (lv_at hl 1 rfl) ?_
  refine lv_imul hC.1 hC.2.1 d_AckBookModel_losses_6 ?_
  refine lv_iconst (v := (1 : Int32)) hC.1 hC.2.1 d_AckBookModel_losses_7 (by decide) ?_
  refine lv_iadd hC.1 hC.2.1 d_AckBookModel_losses_8 ?_
  refine x_ldI hC hZ h d_AckBookModel_losses_9 (fun v33 h => ?_)
  refine lv_istore_n (i := 2) (lv' := [(2, .int v33), (0, va_rf a0), (1, .int pI1)]) hC.1 hC.2.1 d_AckBookModel_losses_10 rfl hl (by decide) (by first | rfl | simp [z_rfc, z_ci, z_cj]) (fun ls hl => ?_)
  refine x_aload_n hC d_AckBookModel_losses_11 rfl (lv_at hl 1 rfl) ?_
  obtain ⟨a_, fs_, eo_, h⟩ := z_this_spec h
  obtain ⟨w1_, o1_, hF_, ha_⟩ := z_cI_spec h
  refine x_goes hC hRc hRs hFr ha_ (z_goV (As := []) hC hZ zc10 eo_ (k_AckBookModel_limit hT hfl hE _ _ hF_) t_1000 t_1002 ts_AckBookModel_limit t_12 t_1003 ⟨by decide, by decide, (by decide +kernel : (parseMethodDescriptor y_AckBookModel_limit.desc).map (fun d => d.parameters.length) = some 0)⟩ (by rw [hRt.1]; decide) (by rw [hRt.2]; decide) hl.1 rfl (by first | exact Nat.le_of_ble_eq_true rfl | simp [z_rfc, z_ci, z_cj]) d_AckBookModel_losses_12) (fun v_ hv H locs cells slots hZ => ?_)
  obtain ⟨v35, rfl, h⟩ := hv
  generalize w1_ = w at h hZ
  refine lv_istore_n (i := 3) (lv' := [(3, .int v35), (2, .int v33), (0, va_rf a0), (1, .int pI1)]) hC.1 hC.2.1 d_AckBookModel_losses_15 rfl hl (by decide) (by first | rfl | simp [z_rfc, z_ci, z_cj]) (fun ls hl => ?_)
  refine x_aload_n hC d_AckBookModel_losses_16 rfl (lv_at hl 2 rfl) ?_
  refine x_getR hC hZ zc10 h (by decide) t_832 (fun _ h9 => h9) d_AckBookModel_losses_17 (fun r36 h => ?_)
  refine lv_iload_n hC.1 hC.2.1 d_AckBookModel_losses_20 rfl (lv_at hl 3 rfl) ?_
  refine lv_iconst (v := (-1 : Int32)) hC.1 hC.2.1 d_AckBookModel_losses_21 (by decide) ?_
  refine x_stI hC hZ h d_AckBookModel_losses_22 (fun w H locs hZ h => ?_)
  refine lv_iconst (v := (0 : Int32)) hC.1 hC.2.1 d_AckBookModel_losses_23 (by decide) ?_
  refine lv_istore (i := 4) (lv' := [(4, .int (0 : Int32)), (3, .int v35), (2, .int v33), (0, va_rf a0), (1, .int pI1)]) hC.1 hC.2.1 d_AckBookModel_losses_24 hl (by decide) (by first | rfl | simp [z_rfc, z_ci, z_cj]) (fun ls hl => ?_)
  exact (kj_AckBookModel_losses hT hfl hE hC hr hRc hRs hFr hRt hnm F).1 _ _ _ _ _ _ _ _ h _ _ _ _ _ hZ (lv_sub hl [3, 4, 2, 1, 0] rfl)
def q_AckBookModel_takes_154 (F X : Nat) (J : Nat → Option Nat → Int32 → Int32 → Int32 → Int32 → Int32 → Int32 → zW → zR) (rL0 : Option Nat) (xL1 : Int32) (xL4 : Int32) (rS0 : Option Nat) (xS1 : Int32) (xS2 : Int32) (w : zW) : zR :=
  z_this w 10 rS0 <|
  z_cV (f_AckBookModel_sample F X rS0 xS1 xS2 w) fun w =>
  J 1 rL0 xL1 0 0 xL4 0 (0 : Int32) w
set_option maxHeartbeats 4000000 in
set_option maxRecDepth 100000 in
theorem kq_AckBookModel_takes_154 {b0 : Nat} {H0 : Heap} {D : va_G} {vu vs : Value} {X M : Nat} {l : Launch} (hT : z_TB (zGG b0 H0 D vu vs X M)) (hfl : l.flags = pinnedFlags ++ [noTraceFlag]) (hE : vu.isRef = true ∧ vs.isRef = true) {p : Program} {e : Env} {R : Room} {s : State} {m : MethodId} {args : Array Value} {below : List Frame} {meth : Method} {c : Code} {w0 : zW} {F : Nat} (hC : z_C (zGG b0 H0 D vu vs X M) p e s m meth c c_AckBookModel_takes 7 y_AckBookModel_takes.cls) (hr : meth.sig.returnType = (some FieldType.int)) (hRc : R.cells = w0.2.1) (hRs : R.slots = w0.2.2.1) (hFr : c.exceptionTable.toList = []) (hRt : R.frames = 3 ∧ R.locals = 73) (hnm : meth.name = y_AckBookModel_takes.name) {J : Nat → Option Nat → Int32 → Int32 → Int32 → Int32 → Int32 → Int32 → zW → zR} (hJ : (∀ (rL0 : Option Nat) (xL1 : Int32) (xL2 : Int32) (xL3 : Int32) (xL4 : Int32) (xL5 : Int32) (xL6 : Int32) (w : zW) (res : zO × zW), J 0 rL0 xL1 xL2 xL3 xL4 xL5 xL6 w = some res → ∀ (H : Heap) (locs : List Loc) (cells slots : Nat) (ls : Array Slot), z_Z (zGG b0 H0 D vu vs X M) R s w H locs cells slots → lv_has ls 7 [(0, va_rf rL0), (1, .int xL1), (2, .int xL2), (3, .int xL3), (4, .int xL4), (5, .int xL5), (6, .int xL6)] → W p l e R s m args below meth c H locs cells slots (z_Q (zGG b0 H0 D vu vs X M) below s w0 res) (F0 m 33 ls [])) ∧ (∀ (rL0 : Option Nat) (xL1 : Int32) (xL2 : Int32) (xL3 : Int32) (xL4 : Int32) (xL5 : Int32) (xL6 : Int32) (w : zW) (res : zO × zW), J 1 rL0 xL1 xL2 xL3 xL4 xL5 xL6 w = some res → ∀ (H : Heap) (locs : List Loc) (cells slots : Nat) (ls : Array Slot), z_Z (zGG b0 H0 D vu vs X M) R s w H locs cells slots → lv_has ls 7 [(0, va_rf rL0), (1, .int xL1), (4, .int xL4), (6, .int xL6)] → W p l e R s m args below meth c H locs cells slots (z_Q (zGG b0 H0 D vu vs X M) below s w0 res) (F0 m 160 ls []))) (rL0 : Option Nat) (xL1 : Int32) (xL4 : Int32) (rS0 : Option Nat) (xS1 : Int32) (xS2 : Int32) (w : zW) (res : zO × zW) (h : q_AckBookModel_takes_154 F X J rL0 xL1 xL4 rS0 xS1 xS2 w = some res) (H : Heap) (locs : List Loc) (cells slots : Nat) (ls : Array Slot) (hZ : z_Z (zGG b0 H0 D vu vs X M) R s w H locs cells slots) (hl : lv_has ls 7 [(0, va_rf rL0), (1, .int xL1), (4, .int xL4)]) : W p l e R s m args below meth c H locs cells slots (z_Q (zGG b0 H0 D vu vs X M) below s w0 res) (F0 m 154 ls [.int xS2, .int xS1, va_rf rS0]) := by
  unfold q_AckBookModel_takes_154 at h
  obtain ⟨a_, fs_, eo_, h⟩ := z_this_spec h
  obtain ⟨w1_, o1_, hF_, ha_⟩ := z_cV_spec h
  refine x_goes hC hRc hRs hFr ha_ (z_goV (As := [.int xS1, .int xS2]) hC hZ zc10 eo_ (k_AckBookModel_sample hT hfl hE _ _ hF_) t_980 t_982 ts_AckBookModel_sample t_12 t_983 ⟨by decide, by decide, (by decide +kernel : (parseMethodDescriptor y_AckBookModel_sample.desc).map (fun d => d.parameters.length) = some 2)⟩ (by rw [hRt.1]; decide) (by rw [hRt.2]; decide) hl.1 rfl (by first | exact Nat.le_of_ble_eq_true rfl | simp [z_rfc, z_ci, z_cj]) d_AckBookModel_takes_154) (fun v_ hv H locs cells slots hZ => ?_)
  obtain ⟨rfl, h⟩ := hv
  generalize w1_ = w at h hZ
  refine lv_iconst (v := (0 : Int32)) hC.1 hC.2.1 d_AckBookModel_takes_157 (by decide) ?_
  refine lv_istore (i := 6) (lv' := [(6, .int (0 : Int32)), (0, va_rf rL0), (1, .int xL1), (4, .int xL4)]) hC.1 hC.2.1 d_AckBookModel_takes_158 hl (by decide) (by first | rfl | simp [z_rfc, z_ci, z_cj]) (fun ls hl => ?_)
  exact hJ.2 _ _ _ _ _ _ _ _ _ h _ _ _ _ _ hZ (lv_sub hl [1, 2, 3, 0] rfl)
def j_AckBookModel_takes (F X : Nat) : Nat → Nat → Option Nat → Int32 → Int32 → Int32 → Int32 → Int32 → Int32 → zW → zR
  | 0, _, _, _, _, _, _, _, _, _ => none
  | N + 1, lb, rL0, xL1, xL2, xL3, xL4, xL5, xL6, w =>
    if lb = 0 then (
    z_getR w 10 4 rL0 fun r2 =>
    z_ldI w .int r2 xL1 fun v3 =>
    if v3 ≤ xL6 then (
      if xL4 = 0 then (
        some (.inl (some (.int (0 : Int32))), w))
      else (
        if xL5 = 0 then (
          (j_AckBookModel_takes F X N) 1 rL0 xL1 0 0 xL4 0 (0 : Int32) w)
        else (
          z_this w 10 rL0 <|
          z_cI (f_AckBookModel_isNew F X rL0 xL1 xL3 w) fun v5 w =>
          if v5 = 0 then (
            (j_AckBookModel_takes F X N) 1 rL0 xL1 0 0 xL4 0 (0 : Int32) w)
          else (
            z_getI w 10 1 rL0 fun v6 =>
            z_getR w 10 6 rL0 fun r7 =>
            z_ldI w .int r7 (((4096 : Int32) * xL1) + xL3) fun v8 =>
            if (2 : Int32) ≤ xL1 then (
              if xL2 ≤ (25 : Int32) then (
                q_AckBookModel_takes_154 F X (j_AckBookModel_takes F X N) rL0 xL1 xL4 rL0 (v6 - v8) xL2 w)
              else (
                q_AckBookModel_takes_154 F X (j_AckBookModel_takes F X N) rL0 xL1 xL4 rL0 (v6 - v8) (25 : Int32) w))
            else (
              q_AckBookModel_takes_154 F X (j_AckBookModel_takes F X N) rL0 xL1 xL4 rL0 (v6 - v8) (0 : Int32) w)))))
    else (
      z_this w 10 rL0 <|
      z_cI (f_AckBookModel_isNew F X rL0 xL1 xL6 w) fun v10 w =>
      if v10 = 0 then (
        (j_AckBookModel_takes F X N) 0 rL0 xL1 xL2 xL3 xL4 xL5 (xL6 + (1 : Int32)) w)
      else (
        if xL5 = 0 then (
          z_getR w 10 8 rL0 fun r11 =>
          z_ldI w .boolean r11 (((4096 : Int32) * xL1) + xL6) fun v12 =>
          if v12 = 0 then (
            (j_AckBookModel_takes F X N) 0 rL0 xL1 xL2 xL3 (xL4 + (1 : Int32)) (0 : Int32) (xL6 + (1 : Int32)) w)
          else (
            (j_AckBookModel_takes F X N) 0 rL0 xL1 xL2 xL3 (xL4 + (1 : Int32)) (1 : Int32) (xL6 + (1 : Int32)) w))
        else (
          (j_AckBookModel_takes F X N) 0 rL0 xL1 xL2 xL3 (xL4 + (1 : Int32)) (1 : Int32) (xL6 + (1 : Int32)) w))))
    else (
    z_getR w 10 4 rL0 fun r13 =>
    z_ldI w .int r13 xL1 fun v14 =>
    if v14 ≤ xL6 then (
      z_this w 10 rL0 <|
      z_cV (f_AckBookModel_losses F X rL0 xL1 w) fun w =>
      z_put w 10 23 rL0 (.int (0 : Int32)) fun w =>
      some (.inl (some (.int xL4)), w))
    else (
      z_this w 10 rL0 <|
      z_cI (f_AckBookModel_isNew F X rL0 xL1 xL6 w) fun v17 w =>
      if v17 = 0 then (
        (j_AckBookModel_takes F X N) 1 rL0 xL1 0 0 xL4 0 (xL6 + (1 : Int32)) w)
      else (
        z_this w 10 rL0 <|
        z_cV (f_AckBookModel_find F X rL0 xL1 xL6 (1 : Int32) w) fun w =>
        z_this w 10 rL0 <|
        z_cV (f_AckBookModel_grow F X rL0 (((4096 : Int32) * xL1) + xL6) w) fun w =>
        (j_AckBookModel_takes F X N) 1 rL0 xL1 0 0 xL4 0 (xL6 + (1 : Int32)) w)))
set_option maxHeartbeats 4000000 in
set_option maxRecDepth 100000 in
theorem kj_AckBookModel_takes {b0 : Nat} {H0 : Heap} {D : va_G} {vu vs : Value} {X M : Nat} {l : Launch} (hT : z_TB (zGG b0 H0 D vu vs X M)) (hfl : l.flags = pinnedFlags ++ [noTraceFlag]) (hE : vu.isRef = true ∧ vs.isRef = true) {p : Program} {e : Env} {R : Room} {s : State} {m : MethodId} {args : Array Value} {below : List Frame} {meth : Method} {c : Code} {w0 : zW} {F : Nat} (hC : z_C (zGG b0 H0 D vu vs X M) p e s m meth c c_AckBookModel_takes 7 y_AckBookModel_takes.cls) (hr : meth.sig.returnType = (some FieldType.int)) (hRc : R.cells = w0.2.1) (hRs : R.slots = w0.2.2.1) (hFr : c.exceptionTable.toList = []) (hRt : R.frames = 3 ∧ R.locals = 73) (hnm : meth.name = y_AckBookModel_takes.name) : ∀ N : Nat, (∀ (rL0 : Option Nat) (xL1 : Int32) (xL2 : Int32) (xL3 : Int32) (xL4 : Int32) (xL5 : Int32) (xL6 : Int32) (w : zW) (res : zO × zW), j_AckBookModel_takes F X N 0 rL0 xL1 xL2 xL3 xL4 xL5 xL6 w = some res → ∀ (H : Heap) (locs : List Loc) (cells slots : Nat) (ls : Array Slot), z_Z (zGG b0 H0 D vu vs X M) R s w H locs cells slots → lv_has ls 7 [(0, va_rf rL0), (1, .int xL1), (2, .int xL2), (3, .int xL3), (4, .int xL4), (5, .int xL5), (6, .int xL6)] → W p l e R s m args below meth c H locs cells slots (z_Q (zGG b0 H0 D vu vs X M) below s w0 res) (F0 m 33 ls [])) ∧ (∀ (rL0 : Option Nat) (xL1 : Int32) (xL2 : Int32) (xL3 : Int32) (xL4 : Int32) (xL5 : Int32) (xL6 : Int32) (w : zW) (res : zO × zW), j_AckBookModel_takes F X N 1 rL0 xL1 xL2 xL3 xL4 xL5 xL6 w = some res → ∀ (H : Heap) (locs : List Loc) (cells slots : Nat) (ls : Array Slot), z_Z (zGG b0 H0 D vu vs X M) R s w H locs cells slots → lv_has ls 7 [(0, va_rf rL0), (1, .int xL1), (4, .int xL4), (6, .int xL6)] → W p l e R s m args below meth c H locs cells slots (z_Q (zGG b0 H0 D vu vs X M) below s w0 res) (F0 m 160 ls [])) := by
  intro N
  induction N with
  | zero =>
    refine ⟨?_, ?_⟩
    · intro rL0 xL1 xL2 xL3 xL4 xL5 xL6 w res h
      rw [j_AckBookModel_takes] at h
      cases h
    · intro rL0 xL1 xL2 xL3 xL4 xL5 xL6 w res h
      rw [j_AckBookModel_takes] at h
      cases h
  | succ N ih =>
    refine ⟨?_, ?_⟩
    · intro rL0 xL1 xL2 xL3 xL4 xL5 xL6 w res h H locs cells slots ls hZ hl
      rw [j_AckBookModel_takes] at h
      have h := z_ifp rfl h
      refine lv_iload hC.1 hC.2.1 d_AckBookModel_takes_33 (lv_at hl 6 rfl) ?_
      refine x_aload_n hC d_AckBookModel_takes_35 rfl (lv_at hl 0 rfl) ?_
      refine x_getR hC hZ zc10 h (by decide) t_823 (fun _ h9 => h9) d_AckBookModel_takes_36 (fun r2 h => ?_)
      refine lv_iload_n hC.1 hC.2.1 d_AckBookModel_takes_39 rfl (lv_at hl 1 rfl) ?_
      refine x_ldI hC hZ h d_AckBookModel_takes_40 (fun v3 h => ?_)
      refine lv_icmp_ge (tgt := 94) hC.1 hC.2.1 d_AckBookModel_takes_41 (by decide) (fun hc => ?_) (fun hc => ?_)
      · have h := z_ifp hc h
        refine lv_iload hC.1 hC.2.1 d_AckBookModel_takes_94 (lv_at hl 4 rfl) ?_
        refine lv_if_ne (tgt := 101) hC.1 hC.2.1 d_AckBookModel_takes_96 (by decide) (fun hc => ?_) (fun hc => ?_)
        · have h := z_ifn hc h
          refine lv_iload hC.1 hC.2.1 d_AckBookModel_takes_101 (lv_at hl 5 rfl) ?_
          refine lv_if_eq (tgt := 157) hC.1 hC.2.1 d_AckBookModel_takes_103 (by decide) (fun hc => ?_) (fun hc => ?_)
          · have h := z_ifp hc h
            refine lv_iconst (v := (0 : Int32)) hC.1 hC.2.1 d_AckBookModel_takes_157 (by decide) ?_
            refine lv_istore (i := 6) (lv' := [(6, .int (0 : Int32)), (0, va_rf rL0), (1, .int xL1), (2, .int xL2), (3, .int xL3), (4, .int xL4), (5, .int xL5)]) hC.1 hC.2.1 d_AckBookModel_takes_158 hl (by decide) (by first | rfl | simp [z_rfc, z_ci, z_cj]) (fun ls hl => ?_)
            exact ih.2 _ _ _ _ _ _ _ _ _ h _ _ _ _ _ hZ (lv_sub hl [1, 2, 5, 0] rfl)
          · have h := z_ifn hc h
            refine x_aload_n hC d_AckBookModel_takes_106 rfl (lv_at hl 0 rfl) ?_
            refine lv_iload_n hC.1 hC.2.1 d_AckBookModel_takes_107 rfl (lv_at hl 1 rfl) ?_
            refine lv_iload_n hC.1 hC.2.1 d_AckBookModel_takes_108 rfl (lv_at hl 3 rfl) ?_
            obtain ⟨a_, fs_, eo_, h⟩ := z_this_spec h
            obtain ⟨w1_, o1_, hF_, ha_⟩ := z_cI_spec h
            refine x_goes hC hRc hRs hFr ha_ (z_goV (As := [.int xL1, .int xL3]) hC hZ zc10 eo_ (k_AckBookModel_isNew hT hfl hE _ _ hF_) t_976 t_978 ts_AckBookModel_isNew t_12 t_979 ⟨by decide, by decide, (by decide +kernel : (parseMethodDescriptor y_AckBookModel_isNew.desc).map (fun d => d.parameters.length) = some 2)⟩ (by rw [hRt.1]; decide) (by rw [hRt.2]; decide) hl.1 rfl (by first | exact Nat.le_of_ble_eq_true rfl | simp [z_rfc, z_ci, z_cj]) d_AckBookModel_takes_109) (fun v_ hv H locs cells slots hZ => ?_)
            obtain ⟨v5, rfl, h⟩ := hv
            generalize w1_ = w at h hZ
            refine lv_if_eq (tgt := 157) hC.1 hC.2.1 d_AckBookModel_takes_112 (by decide) (fun hc => ?_) (fun hc => ?_)
            · have h := z_ifp hc h
              refine lv_iconst (v := (0 : Int32)) hC.1 hC.2.1 d_AckBookModel_takes_157 (by decide) ?_
              refine lv_istore (i := 6) (lv' := [(6, .int (0 : Int32)), (0, va_rf rL0), (1, .int xL1), (2, .int xL2), (3, .int xL3), (4, .int xL4), (5, .int xL5)]) hC.1 hC.2.1 d_AckBookModel_takes_158 hl (by decide) (by first | rfl | simp [z_rfc, z_ci, z_cj]) (fun ls hl => ?_)
              exact ih.2 _ _ _ _ _ _ _ _ _ h _ _ _ _ _ hZ (lv_sub hl [1, 2, 5, 0] rfl)
            · have h := z_ifn hc h
              refine x_aload_n hC d_AckBookModel_takes_115 rfl (lv_at hl 0 rfl) ?_
              refine x_aload_n hC d_AckBookModel_takes_116 rfl (lv_at hl 0 rfl) ?_
              refine x_getI hC hZ zc10 h (by decide) t_820 (fun _ h9 => h9) d_AckBookModel_takes_117 (fun v6 h => ?_)
              refine x_aload_n hC d_AckBookModel_takes_120 rfl (lv_at hl 0 rfl) ?_
              refine x_getR hC hZ zc10 h (by decide) t_825 (fun _ h9 => h9) d_AckBookModel_takes_121 (fun r7 h => ?_)
              refine lv_sipush (v := (4096 : Int32)) hC.1 hC.2.1 d_AckBookModel_takes_124 (by decide) ?_
              refine lv_iload_n hC.1 hC.2.1 d_AckBookModel_takes_127 rfl (lv_at hl 1 rfl) ?_
              refine lv_imul hC.1 hC.2.1 d_AckBookModel_takes_128 ?_
              refine lv_iload_n hC.1 hC.2.1 d_AckBookModel_takes_129 rfl (lv_at hl 3 rfl) ?_
              refine lv_iadd hC.1 hC.2.1 d_AckBookModel_takes_130 ?_
              refine x_ldI hC hZ h d_AckBookModel_takes_131 (fun v8 h => ?_)
              refine lv_isub hC.1 hC.2.1 d_AckBookModel_takes_132 ?_
              refine lv_iload_n hC.1 hC.2.1 d_AckBookModel_takes_133 rfl (lv_at hl 1 rfl) ?_
              refine lv_iconst (v := (2 : Int32)) hC.1 hC.2.1 d_AckBookModel_takes_134 (by decide) ?_
              refine lv_icmp_ge (tgt := 142) hC.1 hC.2.1 d_AckBookModel_takes_135 (by decide) (fun hc => ?_) (fun hc => ?_)
              · have h := z_ifp hc h
                refine lv_iload_n hC.1 hC.2.1 d_AckBookModel_takes_142 rfl (lv_at hl 2 rfl) ?_
                refine lv_bipush (v := (25 : Int32)) hC.1 hC.2.1 d_AckBookModel_takes_143 (by decide) ?_
                refine lv_icmp_le (tgt := 153) hC.1 hC.2.1 d_AckBookModel_takes_145 (by decide) (fun hc => ?_) (fun hc => ?_)
                · have h := z_ifp hc h
                  refine lv_iload_n hC.1 hC.2.1 d_AckBookModel_takes_153 rfl (lv_at hl 2 rfl) ?_
                  exact kq_AckBookModel_takes_154 hT hfl hE hC hr hRc hRs hFr hRt hnm ih _ _ _ _ _ _ _ _ h _ _ _ _ _ hZ (lv_sub hl [0, 1, 4] rfl)
                · have h := z_ifn hc h
                  refine lv_bipush (v := (25 : Int32)) hC.1 hC.2.1 d_AckBookModel_takes_148 (by decide) ?_
                  refine lv_goto (tgt := 154) hC.1 hC.2.1 d_AckBookModel_takes_150 (by decide) ?_
                  exact kq_AckBookModel_takes_154 hT hfl hE hC hr hRc hRs hFr hRt hnm ih _ _ _ _ _ _ _ _ h _ _ _ _ _ hZ (lv_sub hl [0, 1, 4] rfl)
              · have h := z_ifn hc h
                refine lv_iconst (v := (0 : Int32)) hC.1 hC.2.1 d_AckBookModel_takes_138 (by decide) ?_
                refine lv_goto (tgt := 154) hC.1 hC.2.1 d_AckBookModel_takes_139 (by decide) ?_
                exact kq_AckBookModel_takes_154 hT hfl hE hC hr hRc hRs hFr hRt hnm ih _ _ _ _ _ _ _ _ h _ _ _ _ _ hZ (lv_sub hl [0, 1, 4] rfl)
        · have h := z_ifp hc h
          refine lv_iconst (v := (0 : Int32)) hC.1 hC.2.1 d_AckBookModel_takes_99 (by decide) ?_
          exact x_iret hC hRc hRs hZ hr rfl h d_AckBookModel_takes_100
      · have h := z_ifn hc h
        refine x_aload_n hC d_AckBookModel_takes_44 rfl (lv_at hl 0 rfl) ?_
        refine lv_iload_n hC.1 hC.2.1 d_AckBookModel_takes_45 rfl (lv_at hl 1 rfl) ?_
        refine lv_iload hC.1 hC.2.1 d_AckBookModel_takes_46 (lv_at hl 6 rfl) ?_
        obtain ⟨a_, fs_, eo_, h⟩ := z_this_spec h
        obtain ⟨w1_, o1_, hF_, ha_⟩ := z_cI_spec h
        refine x_goes hC hRc hRs hFr ha_ (z_goV (As := [.int xL1, .int xL6]) hC hZ zc10 eo_ (k_AckBookModel_isNew hT hfl hE _ _ hF_) t_976 t_978 ts_AckBookModel_isNew t_12 t_979 ⟨by decide, by decide, (by decide +kernel : (parseMethodDescriptor y_AckBookModel_isNew.desc).map (fun d => d.parameters.length) = some 2)⟩ (by rw [hRt.1]; decide) (by rw [hRt.2]; decide) hl.1 rfl (by first | exact Nat.le_of_ble_eq_true rfl | simp [z_rfc, z_ci, z_cj]) d_AckBookModel_takes_48) (fun v_ hv H locs cells slots hZ => ?_)
        obtain ⟨v10, rfl, h⟩ := hv
        generalize w1_ = w at h hZ
        refine lv_if_ne (tgt := 57) hC.1 hC.2.1 d_AckBookModel_takes_51 (by decide) (fun hc => ?_) (fun hc => ?_)
        · have h := z_ifn hc h
          refine lv_iinc (lv' := [(4, .int (xL4 + (1 : Int32))), (0, va_rf rL0), (1, .int xL1), (2, .int xL2), (3, .int xL3), (5, .int xL5), (6, .int xL6)]) hC.1 hC.2.1 d_AckBookModel_takes_57 hl (k := 4) rfl rfl (by decide) (by first | rfl | simp [z_rfc, z_ci, z_cj]) (fun ls hl => ?_)
          refine lv_iload hC.1 hC.2.1 d_AckBookModel_takes_60 (lv_at hl 5 rfl) ?_
          refine lv_if_ne (tgt := 81) hC.1 hC.2.1 d_AckBookModel_takes_62 (by decide) (fun hc => ?_) (fun hc => ?_)
          · have h := z_ifn hc h
            refine lv_iconst (v := (1 : Int32)) hC.1 hC.2.1 d_AckBookModel_takes_81 (by decide) ?_
            refine lv_goto (tgt := 86) hC.1 hC.2.1 d_AckBookModel_takes_82 (by decide) ?_
            refine lv_istore (i := 5) (lv' := [(5, .int (1 : Int32)), (4, .int (xL4 + (1 : Int32))), (0, va_rf rL0), (1, .int xL1), (2, .int xL2), (3, .int xL3), (6, .int xL6)]) hC.1 hC.2.1 d_AckBookModel_takes_86 hl (by decide) (by first | rfl | simp [z_rfc, z_ci, z_cj]) (fun ls hl => ?_)
            refine lv_iinc (lv' := [(6, .int (xL6 + (1 : Int32))), (5, .int (1 : Int32)), (4, .int (xL4 + (1 : Int32))), (0, va_rf rL0), (1, .int xL1), (2, .int xL2), (3, .int xL3)]) hC.1 hC.2.1 d_AckBookModel_takes_88 hl (k := 6) rfl rfl (by decide) (by first | rfl | simp [z_rfc, z_ci, z_cj]) (fun ls hl => ?_)
            refine lv_goto (tgt := 33) hC.1 hC.2.1 d_AckBookModel_takes_91 (by decide) ?_
            exact ih.1 _ _ _ _ _ _ _ _ _ h _ _ _ _ _ hZ (lv_sub hl [3, 4, 5, 6, 2, 1, 0] rfl)
          · have h := z_ifp hc h
            refine x_aload_n hC d_AckBookModel_takes_65 rfl (lv_at hl 1 rfl) ?_
            refine x_getR hC hZ zc10 h (by decide) t_827 (fun _ h9 => h9) d_AckBookModel_takes_66 (fun r11 h => ?_)
            refine lv_sipush (v := (4096 : Int32)) hC.1 hC.2.1 d_AckBookModel_takes_69 (by decide) ?_
            refine lv_iload_n hC.1 hC.2.1 d_AckBookModel_takes_72 rfl (lv_at hl 2 rfl) ?_
            refine lv_imul hC.1 hC.2.1 d_AckBookModel_takes_73 ?_
            refine lv_iload hC.1 hC.2.1 d_AckBookModel_takes_74 (lv_at hl 6 rfl) ?_
            refine lv_iadd hC.1 hC.2.1 d_AckBookModel_takes_76 ?_
            refine x_ldZ hC hZ h d_AckBookModel_takes_77 (fun v12 h => ?_)
            refine lv_if_eq (tgt := 85) hC.1 hC.2.1 d_AckBookModel_takes_78 (by decide) (fun hc => ?_) (fun hc => ?_)
            · have h := z_ifp hc h
              refine lv_iconst (v := (0 : Int32)) hC.1 hC.2.1 d_AckBookModel_takes_85 (by decide) ?_
              refine lv_istore (i := 5) (lv' := [(5, .int (0 : Int32)), (4, .int (xL4 + (1 : Int32))), (0, va_rf rL0), (1, .int xL1), (2, .int xL2), (3, .int xL3), (6, .int xL6)]) hC.1 hC.2.1 d_AckBookModel_takes_86 hl (by decide) (by first | rfl | simp [z_rfc, z_ci, z_cj]) (fun ls hl => ?_)
              refine lv_iinc (lv' := [(6, .int (xL6 + (1 : Int32))), (5, .int (0 : Int32)), (4, .int (xL4 + (1 : Int32))), (0, va_rf rL0), (1, .int xL1), (2, .int xL2), (3, .int xL3)]) hC.1 hC.2.1 d_AckBookModel_takes_88 hl (k := 6) rfl rfl (by decide) (by first | rfl | simp [z_rfc, z_ci, z_cj]) (fun ls hl => ?_)
              refine lv_goto (tgt := 33) hC.1 hC.2.1 d_AckBookModel_takes_91 (by decide) ?_
              exact ih.1 _ _ _ _ _ _ _ _ _ h _ _ _ _ _ hZ (lv_sub hl [3, 4, 5, 6, 2, 1, 0] rfl)
            · have h := z_ifn hc h
              refine lv_iconst (v := (1 : Int32)) hC.1 hC.2.1 d_AckBookModel_takes_81 (by decide) ?_
              refine lv_goto (tgt := 86) hC.1 hC.2.1 d_AckBookModel_takes_82 (by decide) ?_
              refine lv_istore (i := 5) (lv' := [(5, .int (1 : Int32)), (4, .int (xL4 + (1 : Int32))), (0, va_rf rL0), (1, .int xL1), (2, .int xL2), (3, .int xL3), (6, .int xL6)]) hC.1 hC.2.1 d_AckBookModel_takes_86 hl (by decide) (by first | rfl | simp [z_rfc, z_ci, z_cj]) (fun ls hl => ?_)
              refine lv_iinc (lv' := [(6, .int (xL6 + (1 : Int32))), (5, .int (1 : Int32)), (4, .int (xL4 + (1 : Int32))), (0, va_rf rL0), (1, .int xL1), (2, .int xL2), (3, .int xL3)]) hC.1 hC.2.1 d_AckBookModel_takes_88 hl (k := 6) rfl rfl (by decide) (by first | rfl | simp [z_rfc, z_ci, z_cj]) (fun ls hl => ?_)
              refine lv_goto (tgt := 33) hC.1 hC.2.1 d_AckBookModel_takes_91 (by decide) ?_
              exact ih.1 _ _ _ _ _ _ _ _ _ h _ _ _ _ _ hZ (lv_sub hl [3, 4, 5, 6, 2, 1, 0] rfl)
        · have h := z_ifp hc h
          refine lv_goto (tgt := 88) hC.1 hC.2.1 d_AckBookModel_takes_54 (by decide) ?_
          refine lv_iinc (lv' := [(6, .int (xL6 + (1 : Int32))), (0, va_rf rL0), (1, .int xL1), (2, .int xL2), (3, .int xL3), (4, .int xL4), (5, .int xL5)]) hC.1 hC.2.1 d_AckBookModel_takes_88 hl (k := 6) rfl rfl (by decide) (by first | rfl | simp [z_rfc, z_ci, z_cj]) (fun ls hl => ?_)
          refine lv_goto (tgt := 33) hC.1 hC.2.1 d_AckBookModel_takes_91 (by decide) ?_
          exact ih.1 _ _ _ _ _ _ _ _ _ h _ _ _ _ _ hZ (lv_sub hl [1, 2, 3, 4, 5, 6, 0] rfl)
    · intro rL0 xL1 xL2 xL3 xL4 xL5 xL6 w res h H locs cells slots ls hZ hl
      rw [j_AckBookModel_takes] at h
      have h := z_ifn (by decide) h
      refine lv_iload hC.1 hC.2.1 d_AckBookModel_takes_160 (lv_at hl 3 rfl) ?_
      refine x_aload_n hC d_AckBookModel_takes_162 rfl (lv_at hl 0 rfl) ?_
      refine x_getR hC hZ zc10 h (by decide) t_823 (fun _ h9 => h9) d_AckBookModel_takes_163 (fun r13 h => ?_)
      refine lv_iload_n hC.1 hC.2.1 d_AckBookModel_takes_166 rfl (lv_at hl 1 rfl) ?_
      refine x_ldI hC hZ h d_AckBookModel_takes_167 (fun v14 h => ?_)
      refine lv_icmp_ge (tgt := 210) hC.1 hC.2.1 d_AckBookModel_takes_168 (by decide) (fun hc => ?_) (fun hc => ?_)
      · have h := z_ifp hc h
        refine x_aload_n hC d_AckBookModel_takes_210 rfl (lv_at hl 0 rfl) ?_
        refine lv_iload_n hC.1 hC.2.1 d_AckBookModel_takes_211 rfl (lv_at hl 1 rfl) ?_
        obtain ⟨a_, fs_, eo_, h⟩ := z_this_spec h
        obtain ⟨w1_, o1_, hF_, ha_⟩ := z_cV_spec h
        refine x_goes hC hRc hRs hFr ha_ (z_goV (As := [.int xL1]) hC hZ zc10 eo_ (k_AckBookModel_losses hT hfl hE _ _ hF_) t_996 t_998 ts_AckBookModel_losses t_12 t_999 ⟨by decide, by decide, (by decide +kernel : (parseMethodDescriptor y_AckBookModel_losses.desc).map (fun d => d.parameters.length) = some 1)⟩ (by rw [hRt.1]; decide) (by rw [hRt.2]; decide) hl.1 rfl (by first | exact Nat.le_of_ble_eq_true rfl | simp [z_rfc, z_ci, z_cj]) d_AckBookModel_takes_212) (fun v_ hv H locs cells slots hZ => ?_)
        obtain ⟨rfl, h⟩ := hv
        generalize w1_ = w at h hZ
        refine x_aload_n hC d_AckBookModel_takes_215 rfl (lv_at hl 0 rfl) ?_
        refine lv_iconst (v := (0 : Int32)) hC.1 hC.2.1 d_AckBookModel_takes_216 (by decide) ?_
        refine x_put hC hZ zc10 h (by decide) t_842 (fun _ h9 => h9) rfl rfl rfl rfl d_AckBookModel_takes_217 (fun w H locs hZ h => ?_)
        refine lv_iload hC.1 hC.2.1 d_AckBookModel_takes_220 (lv_at hl 2 rfl) ?_
        exact x_iret hC hRc hRs hZ hr rfl h d_AckBookModel_takes_222
      · have h := z_ifn hc h
        refine x_aload_n hC d_AckBookModel_takes_171 rfl (lv_at hl 0 rfl) ?_
        refine lv_iload_n hC.1 hC.2.1 d_AckBookModel_takes_172 rfl (lv_at hl 1 rfl) ?_
        refine lv_iload hC.1 hC.2.1 d_AckBookModel_takes_173 (lv_at hl 3 rfl) ?_
        obtain ⟨a_, fs_, eo_, h⟩ := z_this_spec h
        obtain ⟨w1_, o1_, hF_, ha_⟩ := z_cI_spec h
        refine x_goes hC hRc hRs hFr ha_ (z_goV (As := [.int xL1, .int xL6]) hC hZ zc10 eo_ (k_AckBookModel_isNew hT hfl hE _ _ hF_) t_976 t_978 ts_AckBookModel_isNew t_12 t_979 ⟨by decide, by decide, (by decide +kernel : (parseMethodDescriptor y_AckBookModel_isNew.desc).map (fun d => d.parameters.length) = some 2)⟩ (by rw [hRt.1]; decide) (by rw [hRt.2]; decide) hl.1 rfl (by first | exact Nat.le_of_ble_eq_true rfl | simp [z_rfc, z_ci, z_cj]) d_AckBookModel_takes_175) (fun v_ hv H locs cells slots hZ => ?_)
        obtain ⟨v17, rfl, h⟩ := hv
        generalize w1_ = w at h hZ
        refine lv_if_ne (tgt := 184) hC.1 hC.2.1 d_AckBookModel_takes_178 (by decide) (fun hc => ?_) (fun hc => ?_)
        · have h := z_ifn hc h
          refine x_aload_n hC d_AckBookModel_takes_184 rfl (lv_at hl 0 rfl) ?_
          refine lv_iload_n hC.1 hC.2.1 d_AckBookModel_takes_185 rfl (lv_at hl 1 rfl) ?_
          refine lv_iload hC.1 hC.2.1 d_AckBookModel_takes_186 (lv_at hl 3 rfl) ?_
          refine lv_iconst (v := (1 : Int32)) hC.1 hC.2.1 d_AckBookModel_takes_188 (by decide) ?_
          obtain ⟨a_, fs_, eo_, h⟩ := z_this_spec h
          obtain ⟨w1_, o1_, hF_, ha_⟩ := z_cV_spec h
          refine x_goes hC hRc hRs hFr ha_ (z_goV (As := [.int xL1, .int xL6, .int (1 : Int32)]) hC hZ zc10 eo_ (k_AckBookModel_find hT hfl hE _ _ hF_) t_984 t_986 ts_AckBookModel_find t_12 t_987 ⟨by decide, by decide, (by decide +kernel : (parseMethodDescriptor y_AckBookModel_find.desc).map (fun d => d.parameters.length) = some 3)⟩ (by rw [hRt.1]; decide) (by rw [hRt.2]; decide) hl.1 rfl (by first | exact Nat.le_of_ble_eq_true rfl | simp [z_rfc, z_ci, z_cj]) d_AckBookModel_takes_189) (fun v_ hv H locs cells slots hZ => ?_)
          obtain ⟨rfl, h⟩ := hv
          generalize w1_ = w at h hZ
          refine x_aload_n hC d_AckBookModel_takes_192 rfl (lv_at hl 0 rfl) ?_
          refine lv_sipush (v := (4096 : Int32)) hC.1 hC.2.1 d_AckBookModel_takes_193 (by decide) ?_
          refine lv_iload_n hC.1 hC.2.1 d_AckBookModel_takes_196 rfl (lv_at hl 1 rfl) ?_
          refine lv_imul hC.1 hC.2.1 d_AckBookModel_takes_197 ?_
          refine lv_iload hC.1 hC.2.1 d_AckBookModel_takes_198 (lv_at hl 3 rfl) ?_
          refine lv_iadd hC.1 hC.2.1 d_AckBookModel_takes_200 ?_
          obtain ⟨a_, fs_, eo_, h⟩ := z_this_spec h
          obtain ⟨w1_, o1_, hF_, ha_⟩ := z_cV_spec h
          refine x_goes hC hRc hRs hFr ha_ (z_goV (As := [.int (((4096 : Int32) * xL1) + xL6)]) hC hZ zc10 eo_ (k_AckBookModel_grow hT hfl hE _ _ hF_) t_988 t_990 ts_AckBookModel_grow t_12 t_991 ⟨by decide, by decide, (by decide +kernel : (parseMethodDescriptor y_AckBookModel_grow.desc).map (fun d => d.parameters.length) = some 1)⟩ (by rw [hRt.1]; decide) (by rw [hRt.2]; decide) hl.1 rfl (by first | exact Nat.le_of_ble_eq_true rfl | simp [z_rfc, z_ci, z_cj]) d_AckBookModel_takes_201) (fun v_ hv H locs cells slots hZ => ?_)
          obtain ⟨rfl, h⟩ := hv
          generalize w1_ = w at h hZ
          refine lv_iinc (lv' := [(6, .int (xL6 + (1 : Int32))), (0, va_rf rL0), (1, .int xL1), (4, .int xL4)]) hC.1 hC.2.1 d_AckBookModel_takes_204 hl (k := 3) rfl rfl (by decide) (by first | rfl | simp [z_rfc, z_ci, z_cj]) (fun ls hl => ?_)
          refine lv_goto (tgt := 160) hC.1 hC.2.1 d_AckBookModel_takes_207 (by decide) ?_
          exact ih.2 _ _ _ _ _ _ _ _ _ h _ _ _ _ _ hZ (lv_sub hl [1, 2, 3, 0] rfl)
        · have h := z_ifp hc h
          refine lv_goto (tgt := 204) hC.1 hC.2.1 d_AckBookModel_takes_181 (by decide) ?_
          refine lv_iinc (lv' := [(6, .int (xL6 + (1 : Int32))), (0, va_rf rL0), (1, .int xL1), (4, .int xL4)]) hC.1 hC.2.1 d_AckBookModel_takes_204 hl (k := 3) rfl rfl (by decide) (by first | rfl | simp [z_rfc, z_ci, z_cj]) (fun ls hl => ?_)
          refine lv_goto (tgt := 160) hC.1 hC.2.1 d_AckBookModel_takes_207 (by decide) ?_
          exact ih.2 _ _ _ _ _ _ _ _ _ h _ _ _ _ _ hZ (lv_sub hl [1, 2, 3, 0] rfl)
def f_AckBookModel_takes (F X : Nat) (a0 : Option Nat) (pI1 : Int32) (pI2 : Int32) (w : zW) : zR :=
  z_getR w 10 29 a0 fun r20 =>
  z_ldL w r20 (0 : Int32) fun v21 =>
  z_getR w 10 12 a0 fun r22 =>
  z_getR w 10 12 a0 fun r23 =>
  z_ldI w .int r23 pI1 fun v24 =>
  z_cI (f_AckBookModel_greater F X v24 v21.toInt32 w) fun v26 w =>
  z_stI w r22 pI1 v26 fun w =>
  (j_AckBookModel_takes F X F) 0 a0 pI1 pI2 v21.toInt32 (0 : Int32) (0 : Int32) (0 : Int32) w
set_option maxHeartbeats 4000000 in
set_option maxRecDepth 100000 in
theorem k_AckBookModel_takes {b0 : Nat} {H0 : Heap} {D : va_G} {vu vs : Value} {X M : Nat} {l : Launch} (hT : z_TB (zGG b0 H0 D vu vs X M)) (hfl : l.flags = pinnedFlags ++ [noTraceFlag]) (hE : vu.isRef = true ∧ vs.isRef = true) {a0 : Option Nat} {pI1 : Int32} {pI2 : Int32} (F : Nat) {w : zW} (res : zO × zW) (h : f_AckBookModel_takes F X a0 pI1 pI2 w = some res) : z_Ct (zGG b0 H0 D vu vs X M) l y_AckBookModel_takes (.code y_AckBookModel_takes c_AckBookModel_takes 7 (some FieldType.int)) 3 73 [va_rf a0, .int pI1, .int pI2] w res := by
  refine z_ct hT hfl (by decide) (by simp only [z_sl_i, z_sl_j, z_sl_r, z_sl_n]; decide) ?_
  intro p e R s m args below meth c hC hr hRc hRs hRt hnm hFr H ls hZ hl
  simp only [z_la_i, z_la_j, z_la_r, z_la_n] at hl
  have hl : lv_has ls 7 [(0, va_rf a0), (1, .int pI1), (2, .int pI2)] := hl
  unfold f_AckBookModel_takes at h
  refine x_aload_n hC d_AckBookModel_takes_0 rfl (lv_at hl 0 rfl) ?_
  refine x_getR hC hZ zc10 h (by decide) t_848 (fun _ h9 => h9) d_AckBookModel_takes_1 (fun r20 h => ?_)
  refine lv_iconst (v := (0 : Int32)) hC.1 hC.2.1 d_AckBookModel_takes_4 (by decide) ?_
  refine x_ldL hC hZ h d_AckBookModel_takes_5 (fun v21 h => ?_)
  refine lv_l2i hC.1 hC.2.1 d_AckBookModel_takes_6 rfl ?_
  refine lv_istore_n (i := 3) (lv' := [(3, .int v21.toInt32), (0, va_rf a0), (1, .int pI1), (2, .int pI2)]) hC.1 hC.2.1 d_AckBookModel_takes_7 rfl hl (by decide) (by first | rfl | simp [z_rfc, z_ci, z_cj]) (fun ls hl => ?_)
  refine x_aload_n hC d_AckBookModel_takes_8 rfl (lv_at hl 1 rfl) ?_
  refine x_getR hC hZ zc10 h (by decide) t_831 (fun _ h9 => h9) d_AckBookModel_takes_9 (fun r22 h => ?_)
  refine lv_iload_n hC.1 hC.2.1 d_AckBookModel_takes_12 rfl (lv_at hl 2 rfl) ?_
  refine x_aload_n hC d_AckBookModel_takes_13 rfl (lv_at hl 1 rfl) ?_
  refine x_getR hC hZ zc10 h (by decide) t_831 (fun _ h9 => h9) d_AckBookModel_takes_14 (fun r23 h => ?_)
  refine lv_iload_n hC.1 hC.2.1 d_AckBookModel_takes_17 rfl (lv_at hl 2 rfl) ?_
  refine x_ldI hC hZ h d_AckBookModel_takes_18 (fun v24 h => ?_)
  refine lv_iload_n hC.1 hC.2.1 d_AckBookModel_takes_19 rfl (lv_at hl 0 rfl) ?_
  obtain ⟨w1_, o1_, hF_, ha_⟩ := z_cI_spec h
  refine x_goes hC hRc hRs hFr ha_ (z_goS (As := [.int v24, .int v21.toInt32]) hC hZ (k_AckBookModel_greater hT hfl hE _ _ hF_) t_973 t_974 t_12 t_975 ⟨by decide, by decide, (by decide +kernel : (parseMethodDescriptor y_AckBookModel_greater.desc).map (fun d => d.parameters.length) = some 2)⟩ (by rw [hRt.1]; decide) (by rw [hRt.2]; decide) hl.1 rfl (by first | exact Nat.le_of_ble_eq_true rfl | simp [z_rfc, z_ci, z_cj]) d_AckBookModel_takes_20) (fun v_ hv H locs cells slots hZ => ?_)
  obtain ⟨v26, rfl, h⟩ := hv
  generalize w1_ = w at h hZ
  refine x_stI hC hZ h d_AckBookModel_takes_23 (fun w H locs hZ h => ?_)
  refine lv_iconst (v := (0 : Int32)) hC.1 hC.2.1 d_AckBookModel_takes_24 (by decide) ?_
  refine lv_istore (i := 4) (lv' := [(4, .int (0 : Int32)), (3, .int v21.toInt32), (0, va_rf a0), (1, .int pI1), (2, .int pI2)]) hC.1 hC.2.1 d_AckBookModel_takes_25 hl (by decide) (by first | rfl | simp [z_rfc, z_ci, z_cj]) (fun ls hl => ?_)
  refine lv_iconst (v := (0 : Int32)) hC.1 hC.2.1 d_AckBookModel_takes_27 (by decide) ?_
  refine lv_istore (i := 5) (lv' := [(5, .int (0 : Int32)), (4, .int (0 : Int32)), (3, .int v21.toInt32), (0, va_rf a0), (1, .int pI1), (2, .int pI2)]) hC.1 hC.2.1 d_AckBookModel_takes_28 hl (by decide) (by first | rfl | simp [z_rfc, z_ci, z_cj]) (fun ls hl => ?_)
  refine lv_iconst (v := (0 : Int32)) hC.1 hC.2.1 d_AckBookModel_takes_30 (by decide) ?_
  refine lv_istore (i := 6) (lv' := [(6, .int (0 : Int32)), (5, .int (0 : Int32)), (4, .int (0 : Int32)), (3, .int v21.toInt32), (0, va_rf a0), (1, .int pI1), (2, .int pI2)]) hC.1 hC.2.1 d_AckBookModel_takes_31 hl (by decide) (by first | rfl | simp [z_rfc, z_ci, z_cj]) (fun ls hl => ?_)
  exact (kj_AckBookModel_takes hT hfl hE hC hr hRc hRs hFr hRt hnm F).1 _ _ _ _ _ _ _ _ _ h _ _ _ _ _ hZ (lv_sub hl [4, 5, 6, 3, 2, 1, 0] rfl)
def q_AckBookModel_acknowledge_76 (F X : Nat) (rL0 : Option Nat) (xL1 : Int32) (xL2 : Int32) (rS0 : Option Nat) (xS1 : Int32) (w : zW) : zR :=
  z_this w 10 rS0 <|
  z_cI (f_AckBookModel_fails F X rS0 xS1 (1 : Int32) w) fun v2 w =>
  if v2 = 0 then (
    z_this w 10 rL0 <|
    z_cI (f_AckBookModel_takes F X rL0 xL1 xL2 w) fun v4 w =>
    z_put w 10 27 rL0 (.int (0 : Int32)) fun w =>
    some (.inl (some (.int v4)), w))
  else (
    z_put w 10 27 rL0 (.int (0 : Int32)) fun w =>
    some (.inl (some (.int (0 : Int32))), w))
set_option maxHeartbeats 4000000 in
set_option maxRecDepth 100000 in
theorem kq_AckBookModel_acknowledge_76 {b0 : Nat} {H0 : Heap} {D : va_G} {vu vs : Value} {X M : Nat} {l : Launch} (hT : z_TB (zGG b0 H0 D vu vs X M)) (hfl : l.flags = pinnedFlags ++ [noTraceFlag]) (hE : vu.isRef = true ∧ vs.isRef = true) {p : Program} {e : Env} {R : Room} {s : State} {m : MethodId} {args : Array Value} {below : List Frame} {meth : Method} {c : Code} {w0 : zW} {F : Nat} (hC : z_C (zGG b0 H0 D vu vs X M) p e s m meth c c_AckBookModel_acknowledge 5 y_AckBookModel_acknowledge.cls) (hr : meth.sig.returnType = (some FieldType.int)) (hRc : R.cells = w0.2.1) (hRs : R.slots = w0.2.2.1) (hFr : c.exceptionTable.toList = []) (hRt : R.frames = 4 ∧ R.locals = 99) (hnm : meth.name = y_AckBookModel_acknowledge.name) (rL0 : Option Nat) (xL1 : Int32) (xL2 : Int32) (rS0 : Option Nat) (xS1 : Int32) (w : zW) (res : zO × zW) (h : q_AckBookModel_acknowledge_76 F X rL0 xL1 xL2 rS0 xS1 w = some res) (H : Heap) (locs : List Loc) (cells slots : Nat) (ls : Array Slot) (hZ : z_Z (zGG b0 H0 D vu vs X M) R s w H locs cells slots) (hl : lv_has ls 5 [(0, va_rf rL0), (1, .int xL1), (2, .int xL2)]) : W p l e R s m args below meth c H locs cells slots (z_Q (zGG b0 H0 D vu vs X M) below s w0 res) (F0 m 76 ls [.int xS1, va_rf rS0]) := by
  unfold q_AckBookModel_acknowledge_76 at h
  refine lv_iconst (v := (1 : Int32)) hC.1 hC.2.1 d_AckBookModel_acknowledge_76 (by decide) ?_
  obtain ⟨a_, fs_, eo_, h⟩ := z_this_spec h
  obtain ⟨w1_, o1_, hF_, ha_⟩ := z_cI_spec h
  refine x_goes hC hRc hRs hFr ha_ (z_goV (As := [.int xS1, .int (1 : Int32)]) hC hZ zc10 eo_ (k_AckBookModel_fails hT hfl hE _ _ hF_) t_947 t_949 ts_AckBookModel_fails t_12 t_950 ⟨by decide, by decide, (by decide +kernel : (parseMethodDescriptor y_AckBookModel_fails.desc).map (fun d => d.parameters.length) = some 2)⟩ (by rw [hRt.1]; decide) (by rw [hRt.2]; decide) hl.1 rfl (by first | exact Nat.le_of_ble_eq_true rfl | simp [z_rfc, z_ci, z_cj]) d_AckBookModel_acknowledge_77) (fun v_ hv H locs cells slots hZ => ?_)
  obtain ⟨v2, rfl, h⟩ := hv
  generalize w1_ = w at h hZ
  refine lv_if_eq (tgt := 90) hC.1 hC.2.1 d_AckBookModel_acknowledge_80 (by decide) (fun hc => ?_) (fun hc => ?_)
  · have h := z_ifp hc h
    refine x_aload_n hC d_AckBookModel_acknowledge_90 rfl (lv_at hl 0 rfl) ?_
    refine lv_iload_n hC.1 hC.2.1 d_AckBookModel_acknowledge_91 rfl (lv_at hl 1 rfl) ?_
    refine lv_iload_n hC.1 hC.2.1 d_AckBookModel_acknowledge_92 rfl (lv_at hl 2 rfl) ?_
    obtain ⟨a_, fs_, eo_, h⟩ := z_this_spec h
    obtain ⟨w1_, o1_, hF_, ha_⟩ := z_cI_spec h
    refine x_goes hC hRc hRs hFr ha_ (z_goV (As := [.int xL1, .int xL2]) hC hZ zc10 eo_ (k_AckBookModel_takes hT hfl hE _ _ hF_) t_969 t_971 ts_AckBookModel_takes t_12 t_972 ⟨by decide, by decide, (by decide +kernel : (parseMethodDescriptor y_AckBookModel_takes.desc).map (fun d => d.parameters.length) = some 2)⟩ (by rw [hRt.1]; decide) (by rw [hRt.2]; decide) hl.1 rfl (by first | exact Nat.le_of_ble_eq_true rfl | simp [z_rfc, z_ci, z_cj]) d_AckBookModel_acknowledge_93) (fun v_ hv H locs cells slots hZ => ?_)
    obtain ⟨v4, rfl, h⟩ := hv
    generalize w1_ = w at h hZ
    refine lv_istore (i := 4) (lv' := [(4, .int v4), (0, va_rf rL0), (1, .int xL1), (2, .int xL2)]) hC.1 hC.2.1 d_AckBookModel_acknowledge_96 hl (by decide) (by first | rfl | simp [z_rfc, z_ci, z_cj]) (fun ls hl => ?_)
    refine x_aload_n hC d_AckBookModel_acknowledge_98 rfl (lv_at hl 1 rfl) ?_
    refine lv_iconst (v := (0 : Int32)) hC.1 hC.2.1 d_AckBookModel_acknowledge_99 (by decide) ?_
    refine x_put hC hZ zc10 h (by decide) t_846 (fun _ h9 => h9) rfl rfl rfl rfl d_AckBookModel_acknowledge_100 (fun w H locs hZ h => ?_)
    refine lv_iload hC.1 hC.2.1 d_AckBookModel_acknowledge_103 (lv_at hl 0 rfl) ?_
    exact x_iret hC hRc hRs hZ hr rfl h d_AckBookModel_acknowledge_105
  · have h := z_ifn hc h
    refine x_aload_n hC d_AckBookModel_acknowledge_83 rfl (lv_at hl 0 rfl) ?_
    refine lv_iconst (v := (0 : Int32)) hC.1 hC.2.1 d_AckBookModel_acknowledge_84 (by decide) ?_
    refine x_put hC hZ zc10 h (by decide) t_846 (fun _ h9 => h9) rfl rfl rfl rfl d_AckBookModel_acknowledge_85 (fun w H locs hZ h => ?_)
    refine lv_iconst (v := (0 : Int32)) hC.1 hC.2.1 d_AckBookModel_acknowledge_88 (by decide) ?_
    exact x_iret hC hRc hRs hZ hr rfl h d_AckBookModel_acknowledge_89
def q_AckBookModel_acknowledge_71 (F X : Nat) (rL0 : Option Nat) (xL1 : Int32) (xL2 : Int32) (rS0 : Option Nat) (w : zW) : zR :=
  q_AckBookModel_acknowledge_76 F X rL0 xL1 xL2 rS0 (1 : Int32) w
set_option maxHeartbeats 4000000 in
set_option maxRecDepth 100000 in
theorem kq_AckBookModel_acknowledge_71 {b0 : Nat} {H0 : Heap} {D : va_G} {vu vs : Value} {X M : Nat} {l : Launch} (hT : z_TB (zGG b0 H0 D vu vs X M)) (hfl : l.flags = pinnedFlags ++ [noTraceFlag]) (hE : vu.isRef = true ∧ vs.isRef = true) {p : Program} {e : Env} {R : Room} {s : State} {m : MethodId} {args : Array Value} {below : List Frame} {meth : Method} {c : Code} {w0 : zW} {F : Nat} (hC : z_C (zGG b0 H0 D vu vs X M) p e s m meth c c_AckBookModel_acknowledge 5 y_AckBookModel_acknowledge.cls) (hr : meth.sig.returnType = (some FieldType.int)) (hRc : R.cells = w0.2.1) (hRs : R.slots = w0.2.2.1) (hFr : c.exceptionTable.toList = []) (hRt : R.frames = 4 ∧ R.locals = 99) (hnm : meth.name = y_AckBookModel_acknowledge.name) (rL0 : Option Nat) (xL1 : Int32) (xL2 : Int32) (rS0 : Option Nat) (w : zW) (res : zO × zW) (h : q_AckBookModel_acknowledge_71 F X rL0 xL1 xL2 rS0 w = some res) (H : Heap) (locs : List Loc) (cells slots : Nat) (ls : Array Slot) (hZ : z_Z (zGG b0 H0 D vu vs X M) R s w H locs cells slots) (hl : lv_has ls 5 [(0, va_rf rL0), (1, .int xL1), (2, .int xL2)]) : W p l e R s m args below meth c H locs cells slots (z_Q (zGG b0 H0 D vu vs X M) below s w0 res) (F0 m 71 ls [va_rf rS0]) := by
  unfold q_AckBookModel_acknowledge_71 at h
  refine lv_iconst (v := (1 : Int32)) hC.1 hC.2.1 d_AckBookModel_acknowledge_71 (by decide) ?_
  refine lv_goto (tgt := 76) hC.1 hC.2.1 d_AckBookModel_acknowledge_72 (by decide) ?_
  exact kq_AckBookModel_acknowledge_76 hT hfl hE hC hr hRc hRs hFr hRt hnm _ _ _ _ _ _ _ h _ _ _ _ _ hZ (lv_sub hl [0, 1, 2] rfl)
def q_AckBookModel_acknowledge_22 (F X : Nat) (rL0 : Option Nat) (xL1 : Int32) (xL2 : Int32) (xS0 : Int32) (w : zW) : zR :=
  z_cI (f_AckBookModel_noSpace F X xL1 w) fun v6 w =>
  z_this w 10 rL0 <|
  z_cI (f_AckBookModel_fails F X rL0 v6 (1 : Int32) w) fun v8 w =>
  if v8 = 0 then (
    z_getR w 10 11 rL0 fun r9 =>
    z_ldI w .boolean r9 xL1 fun v10 =>
    z_this w 10 rL0 <|
    z_cI (f_AckBookModel_fails F X rL0 v10 (2 : Int32) w) fun v12 w =>
    if v12 = 0 then (
      if xS0 = 0 then (
        z_getR w 10 29 rL0 fun r13 =>
        z_ldL w r13 (0 : Int32) fun v14 =>
        z_getR w 10 4 rL0 fun r15 =>
        z_ldI w .int r15 xL1 fun v16 =>
        if (lg_cmp v14 v16.toInt64) < 0 then (
          q_AckBookModel_acknowledge_76 F X rL0 xL1 xL2 rL0 (0 : Int32) w)
        else (
          q_AckBookModel_acknowledge_71 F X rL0 xL1 xL2 rL0 w))
      else (
        q_AckBookModel_acknowledge_71 F X rL0 xL1 xL2 rL0 w))
    else (
      z_put w 10 27 rL0 (.int (0 : Int32)) fun w =>
      some (.inl (some (.int (0 : Int32))), w)))
  else (
    z_put w 10 27 rL0 (.int (0 : Int32)) fun w =>
    some (.inl (some (.int (0 : Int32))), w))
set_option maxHeartbeats 4000000 in
set_option maxRecDepth 100000 in
theorem kq_AckBookModel_acknowledge_22 {b0 : Nat} {H0 : Heap} {D : va_G} {vu vs : Value} {X M : Nat} {l : Launch} (hT : z_TB (zGG b0 H0 D vu vs X M)) (hfl : l.flags = pinnedFlags ++ [noTraceFlag]) (hE : vu.isRef = true ∧ vs.isRef = true) {p : Program} {e : Env} {R : Room} {s : State} {m : MethodId} {args : Array Value} {below : List Frame} {meth : Method} {c : Code} {w0 : zW} {F : Nat} (hC : z_C (zGG b0 H0 D vu vs X M) p e s m meth c c_AckBookModel_acknowledge 5 y_AckBookModel_acknowledge.cls) (hr : meth.sig.returnType = (some FieldType.int)) (hRc : R.cells = w0.2.1) (hRs : R.slots = w0.2.2.1) (hFr : c.exceptionTable.toList = []) (hRt : R.frames = 4 ∧ R.locals = 99) (hnm : meth.name = y_AckBookModel_acknowledge.name) (rL0 : Option Nat) (xL1 : Int32) (xL2 : Int32) (xS0 : Int32) (w : zW) (res : zO × zW) (h : q_AckBookModel_acknowledge_22 F X rL0 xL1 xL2 xS0 w = some res) (H : Heap) (locs : List Loc) (cells slots : Nat) (ls : Array Slot) (hZ : z_Z (zGG b0 H0 D vu vs X M) R s w H locs cells slots) (hl : lv_has ls 5 [(0, va_rf rL0), (1, .int xL1), (2, .int xL2)]) : W p l e R s m args below meth c H locs cells slots (z_Q (zGG b0 H0 D vu vs X M) below s w0 res) (F0 m 22 ls [.int xS0]) := by
  unfold q_AckBookModel_acknowledge_22 at h
  refine lv_istore_n (i := 3) (lv' := [(3, .int xS0), (0, va_rf rL0), (1, .int xL1), (2, .int xL2)]) hC.1 hC.2.1 d_AckBookModel_acknowledge_22 rfl hl (by decide) (by first | rfl | simp [z_rfc, z_ci, z_cj]) (fun ls hl => ?_)
  refine x_aload_n hC d_AckBookModel_acknowledge_23 rfl (lv_at hl 1 rfl) ?_
  refine lv_iload_n hC.1 hC.2.1 d_AckBookModel_acknowledge_24 rfl (lv_at hl 2 rfl) ?_
  obtain ⟨w1_, o1_, hF_, ha_⟩ := z_cI_spec h
  refine x_goes hC hRc hRs hFr ha_ (z_goS (As := [.int xL1]) hC hZ (k_AckBookModel_noSpace hT hfl hE _ _ hF_) t_944 t_945 t_12 t_946 ⟨by decide, by decide, (by decide +kernel : (parseMethodDescriptor y_AckBookModel_noSpace.desc).map (fun d => d.parameters.length) = some 1)⟩ (by rw [hRt.1]; decide) (by rw [hRt.2]; decide) hl.1 rfl (by first | exact Nat.le_of_ble_eq_true rfl | simp [z_rfc, z_ci, z_cj]) d_AckBookModel_acknowledge_25) (fun v_ hv H locs cells slots hZ => ?_)
  obtain ⟨v6, rfl, h⟩ := hv
  generalize w1_ = w at h hZ
  refine lv_iconst (v := (1 : Int32)) hC.1 hC.2.1 d_AckBookModel_acknowledge_28 (by decide) ?_
  obtain ⟨a_, fs_, eo_, h⟩ := z_this_spec h
  obtain ⟨w1_, o1_, hF_, ha_⟩ := z_cI_spec h
  refine x_goes hC hRc hRs hFr ha_ (z_goV (As := [.int v6, .int (1 : Int32)]) hC hZ zc10 eo_ (k_AckBookModel_fails hT hfl hE _ _ hF_) t_947 t_949 ts_AckBookModel_fails t_12 t_950 ⟨by decide, by decide, (by decide +kernel : (parseMethodDescriptor y_AckBookModel_fails.desc).map (fun d => d.parameters.length) = some 2)⟩ (by rw [hRt.1]; decide) (by rw [hRt.2]; decide) hl.1 rfl (by first | exact Nat.le_of_ble_eq_true rfl | simp [z_rfc, z_ci, z_cj]) d_AckBookModel_acknowledge_29) (fun v_ hv H locs cells slots hZ => ?_)
  obtain ⟨v8, rfl, h⟩ := hv
  generalize w1_ = w at h hZ
  refine lv_if_ne (tgt := 83) hC.1 hC.2.1 d_AckBookModel_acknowledge_32 (by decide) (fun hc => ?_) (fun hc => ?_)
  · have h := z_ifn hc h
    refine x_aload_n hC d_AckBookModel_acknowledge_83 rfl (lv_at hl 1 rfl) ?_
    refine lv_iconst (v := (0 : Int32)) hC.1 hC.2.1 d_AckBookModel_acknowledge_84 (by decide) ?_
    refine x_put hC hZ zc10 h (by decide) t_846 (fun _ h9 => h9) rfl rfl rfl rfl d_AckBookModel_acknowledge_85 (fun w H locs hZ h => ?_)
    refine lv_iconst (v := (0 : Int32)) hC.1 hC.2.1 d_AckBookModel_acknowledge_88 (by decide) ?_
    exact x_iret hC hRc hRs hZ hr rfl h d_AckBookModel_acknowledge_89
  · have h := z_ifp hc h
    refine x_aload_n hC d_AckBookModel_acknowledge_35 rfl (lv_at hl 1 rfl) ?_
    refine x_aload_n hC d_AckBookModel_acknowledge_36 rfl (lv_at hl 1 rfl) ?_
    refine x_getR hC hZ zc10 h (by decide) t_830 (fun _ h9 => h9) d_AckBookModel_acknowledge_37 (fun r9 h => ?_)
    refine lv_iload_n hC.1 hC.2.1 d_AckBookModel_acknowledge_40 rfl (lv_at hl 2 rfl) ?_
    refine x_ldZ hC hZ h d_AckBookModel_acknowledge_41 (fun v10 h => ?_)
    refine lv_iconst (v := (2 : Int32)) hC.1 hC.2.1 d_AckBookModel_acknowledge_42 (by decide) ?_
    obtain ⟨a_, fs_, eo_, h⟩ := z_this_spec h
    obtain ⟨w1_, o1_, hF_, ha_⟩ := z_cI_spec h
    refine x_goes hC hRc hRs hFr ha_ (z_goV (As := [.int v10, .int (2 : Int32)]) hC hZ zc10 eo_ (k_AckBookModel_fails hT hfl hE _ _ hF_) t_947 t_949 ts_AckBookModel_fails t_12 t_950 ⟨by decide, by decide, (by decide +kernel : (parseMethodDescriptor y_AckBookModel_fails.desc).map (fun d => d.parameters.length) = some 2)⟩ (by rw [hRt.1]; decide) (by rw [hRt.2]; decide) hl.1 rfl (by first | exact Nat.le_of_ble_eq_true rfl | simp [z_rfc, z_ci, z_cj]) d_AckBookModel_acknowledge_43) (fun v_ hv H locs cells slots hZ => ?_)
    obtain ⟨v12, rfl, h⟩ := hv
    generalize w1_ = w at h hZ
    refine lv_if_ne (tgt := 83) hC.1 hC.2.1 d_AckBookModel_acknowledge_46 (by decide) (fun hc => ?_) (fun hc => ?_)
    · have h := z_ifn hc h
      refine x_aload_n hC d_AckBookModel_acknowledge_83 rfl (lv_at hl 1 rfl) ?_
      refine lv_iconst (v := (0 : Int32)) hC.1 hC.2.1 d_AckBookModel_acknowledge_84 (by decide) ?_
      refine x_put hC hZ zc10 h (by decide) t_846 (fun _ h9 => h9) rfl rfl rfl rfl d_AckBookModel_acknowledge_85 (fun w H locs hZ h => ?_)
      refine lv_iconst (v := (0 : Int32)) hC.1 hC.2.1 d_AckBookModel_acknowledge_88 (by decide) ?_
      exact x_iret hC hRc hRs hZ hr rfl h d_AckBookModel_acknowledge_89
    · have h := z_ifp hc h
      refine x_aload_n hC d_AckBookModel_acknowledge_49 rfl (lv_at hl 1 rfl) ?_
      refine lv_iload_n hC.1 hC.2.1 d_AckBookModel_acknowledge_50 rfl (lv_at hl 0 rfl) ?_
      refine lv_if_ne (tgt := 71) hC.1 hC.2.1 d_AckBookModel_acknowledge_51 (by decide) (fun hc => ?_) (fun hc => ?_)
      · have h := z_ifn hc h
        exact kq_AckBookModel_acknowledge_71 hT hfl hE hC hr hRc hRs hFr hRt hnm _ _ _ _ _ _ h _ _ _ _ _ hZ (lv_sub hl [1, 2, 3] rfl)
      · have h := z_ifp hc h
        refine x_aload_n hC d_AckBookModel_acknowledge_54 rfl (lv_at hl 1 rfl) ?_
        refine x_getR hC hZ zc10 h (by decide) t_848 (fun _ h9 => h9) d_AckBookModel_acknowledge_55 (fun r13 h => ?_)
        refine lv_iconst (v := (0 : Int32)) hC.1 hC.2.1 d_AckBookModel_acknowledge_58 (by decide) ?_
        refine x_ldL hC hZ h d_AckBookModel_acknowledge_59 (fun v14 h => ?_)
        refine x_aload_n hC d_AckBookModel_acknowledge_60 rfl (lv_at hl 1 rfl) ?_
        refine x_getR hC hZ zc10 h (by decide) t_823 (fun _ h9 => h9) d_AckBookModel_acknowledge_61 (fun r15 h => ?_)
        refine lv_iload_n hC.1 hC.2.1 d_AckBookModel_acknowledge_64 rfl (lv_at hl 2 rfl) ?_
        refine x_ldI hC hZ h d_AckBookModel_acknowledge_65 (fun v16 h => ?_)
        refine lv_i2l hC.1 hC.2.1 d_AckBookModel_acknowledge_66 rfl ?_
        refine W.lcmp hC.1 hC.2.1 d_AckBookModel_acknowledge_67 ?_
        refine lv_if_lt (tgt := 75) hC.1 hC.2.1 d_AckBookModel_acknowledge_68 (by decide) (fun hc => ?_) (fun hc => ?_)
        · have h := z_ifp hc h
          refine lv_iconst (v := (0 : Int32)) hC.1 hC.2.1 d_AckBookModel_acknowledge_75 (by decide) ?_
          exact kq_AckBookModel_acknowledge_76 hT hfl hE hC hr hRc hRs hFr hRt hnm _ _ _ _ _ _ _ h _ _ _ _ _ hZ (lv_sub hl [1, 2, 3] rfl)
        · have h := z_ifn hc h
          exact kq_AckBookModel_acknowledge_71 hT hfl hE hC hr hRc hRs hFr hRt hnm _ _ _ _ _ _ h _ _ _ _ _ hZ (lv_sub hl [1, 2, 3] rfl)
def q_AckBookModel_acknowledge_17 (F X : Nat) (rL0 : Option Nat) (xL1 : Int32) (xL2 : Int32) (w : zW) : zR :=
  q_AckBookModel_acknowledge_22 F X rL0 xL1 xL2 (1 : Int32) w
set_option maxHeartbeats 4000000 in
set_option maxRecDepth 100000 in
theorem kq_AckBookModel_acknowledge_17 {b0 : Nat} {H0 : Heap} {D : va_G} {vu vs : Value} {X M : Nat} {l : Launch} (hT : z_TB (zGG b0 H0 D vu vs X M)) (hfl : l.flags = pinnedFlags ++ [noTraceFlag]) (hE : vu.isRef = true ∧ vs.isRef = true) {p : Program} {e : Env} {R : Room} {s : State} {m : MethodId} {args : Array Value} {below : List Frame} {meth : Method} {c : Code} {w0 : zW} {F : Nat} (hC : z_C (zGG b0 H0 D vu vs X M) p e s m meth c c_AckBookModel_acknowledge 5 y_AckBookModel_acknowledge.cls) (hr : meth.sig.returnType = (some FieldType.int)) (hRc : R.cells = w0.2.1) (hRs : R.slots = w0.2.2.1) (hFr : c.exceptionTable.toList = []) (hRt : R.frames = 4 ∧ R.locals = 99) (hnm : meth.name = y_AckBookModel_acknowledge.name) (rL0 : Option Nat) (xL1 : Int32) (xL2 : Int32) (w : zW) (res : zO × zW) (h : q_AckBookModel_acknowledge_17 F X rL0 xL1 xL2 w = some res) (H : Heap) (locs : List Loc) (cells slots : Nat) (ls : Array Slot) (hZ : z_Z (zGG b0 H0 D vu vs X M) R s w H locs cells slots) (hl : lv_has ls 5 [(0, va_rf rL0), (1, .int xL1), (2, .int xL2)]) : W p l e R s m args below meth c H locs cells slots (z_Q (zGG b0 H0 D vu vs X M) below s w0 res) (F0 m 17 ls []) := by
  unfold q_AckBookModel_acknowledge_17 at h
  refine lv_iconst (v := (1 : Int32)) hC.1 hC.2.1 d_AckBookModel_acknowledge_17 (by decide) ?_
  refine lv_goto (tgt := 22) hC.1 hC.2.1 d_AckBookModel_acknowledge_18 (by decide) ?_
  exact kq_AckBookModel_acknowledge_22 hT hfl hE hC hr hRc hRs hFr hRt hnm _ _ _ _ _ _ h _ _ _ _ _ hZ (lv_sub hl [0, 1, 2] rfl)
def f_AckBookModel_acknowledge (F X : Nat) (a0 : Option Nat) (pI1 : Int32) (pI2 : Int32) (w : zW) : zR :=
  if pI2 < 0 then (
    q_AckBookModel_acknowledge_17 F X a0 pI1 pI2 w)
  else (
    if (100000 : Int32) < pI2 then (
      q_AckBookModel_acknowledge_17 F X a0 pI1 pI2 w)
    else (
      z_getI w 10 27 a0 fun v17 =>
      if v17 = 0 then (
        q_AckBookModel_acknowledge_17 F X a0 pI1 pI2 w)
      else (
        q_AckBookModel_acknowledge_22 F X a0 pI1 pI2 (0 : Int32) w)))
set_option maxHeartbeats 4000000 in
set_option maxRecDepth 100000 in
theorem k_AckBookModel_acknowledge {b0 : Nat} {H0 : Heap} {D : va_G} {vu vs : Value} {X M : Nat} {l : Launch} (hT : z_TB (zGG b0 H0 D vu vs X M)) (hfl : l.flags = pinnedFlags ++ [noTraceFlag]) (hE : vu.isRef = true ∧ vs.isRef = true) {a0 : Option Nat} {pI1 : Int32} {pI2 : Int32} (F : Nat) {w : zW} (res : zO × zW) (h : f_AckBookModel_acknowledge F X a0 pI1 pI2 w = some res) : z_Ct (zGG b0 H0 D vu vs X M) l y_AckBookModel_acknowledge (.code y_AckBookModel_acknowledge c_AckBookModel_acknowledge 5 (some FieldType.int)) 4 99 [va_rf a0, .int pI1, .int pI2] w res := by
  refine z_ct hT hfl (by decide) (by simp only [z_sl_i, z_sl_j, z_sl_r, z_sl_n]; decide) ?_
  intro p e R s m args below meth c hC hr hRc hRs hRt hnm hFr H ls hZ hl
  simp only [z_la_i, z_la_j, z_la_r, z_la_n] at hl
  have hl : lv_has ls 5 [(0, va_rf a0), (1, .int pI1), (2, .int pI2)] := hl
  unfold f_AckBookModel_acknowledge at h
  refine lv_iload_n hC.1 hC.2.1 d_AckBookModel_acknowledge_0 rfl (lv_at hl 2 rfl) ?_
  refine lv_if_lt (tgt := 17) hC.1 hC.2.1 d_AckBookModel_acknowledge_1 (by decide) (fun hc => ?_) (fun hc => ?_)
  · have h := z_ifp hc h
    exact kq_AckBookModel_acknowledge_17 hT hfl hE hC hr hRc hRs hFr hRt hnm _ _ _ _ _ h _ _ _ _ _ hZ (lv_sub hl [0, 1, 2] rfl)
  · have h := z_ifn hc h
    refine lv_iload_n hC.1 hC.2.1 d_AckBookModel_acknowledge_4 rfl (lv_at hl 2 rfl) ?_
    refine lv_ldc (v := (100000 : Int32)) hC.1 hC.2.1 hC.2.2.2.1 ((hZ.1.tb hC.2.2.2.2.2.2 args) _ t_968) d_AckBookModel_acknowledge_5 ?_
    refine lv_icmp_gt (tgt := 17) hC.1 hC.2.1 d_AckBookModel_acknowledge_7 (by decide) (fun hc => ?_) (fun hc => ?_)
    · have h := z_ifp hc h
      exact kq_AckBookModel_acknowledge_17 hT hfl hE hC hr hRc hRs hFr hRt hnm _ _ _ _ _ h _ _ _ _ _ hZ (lv_sub hl [0, 1, 2] rfl)
    · have h := z_ifn hc h
      refine x_aload_n hC d_AckBookModel_acknowledge_10 rfl (lv_at hl 0 rfl) ?_
      refine x_getI hC hZ zc10 h (by decide) t_846 (fun _ h9 => h9) d_AckBookModel_acknowledge_11 (fun v17 h => ?_)
      refine lv_if_ne (tgt := 21) hC.1 hC.2.1 d_AckBookModel_acknowledge_14 (by decide) (fun hc => ?_) (fun hc => ?_)
      · have h := z_ifn hc h
        refine lv_iconst (v := (0 : Int32)) hC.1 hC.2.1 d_AckBookModel_acknowledge_21 (by decide) ?_
        exact kq_AckBookModel_acknowledge_22 hT hfl hE hC hr hRc hRs hFr hRt hnm _ _ _ _ _ _ h _ _ _ _ _ hZ (lv_sub hl [0, 1, 2] rfl)
      · have h := z_ifp hc h
        exact kq_AckBookModel_acknowledge_17 hT hfl hE hC hr hRc hRs hFr hRt hnm _ _ _ _ _ h _ _ _ _ _ hZ (lv_sub hl [0, 1, 2] rfl)
def q_AckBookModel_outs_47 (F X : Nat) (J : Option Nat → Int32 → Int32 → Int32 → Int32 → zW → zR) (rL0 : Option Nat) (xL1 : Int32) (xL2 : Int32) (xL4 : Int32) (xS0 : Int32) (w : zW) : zR :=
  J rL0 xL1 xL2 (xS0 + (1 : Int32)) (xL4 + (1 : Int32)) w
set_option maxHeartbeats 4000000 in
set_option maxRecDepth 100000 in
theorem kq_AckBookModel_outs_47 {b0 : Nat} {H0 : Heap} {D : va_G} {vu vs : Value} {X M : Nat} {l : Launch} (hT : z_TB (zGG b0 H0 D vu vs X M)) (hfl : l.flags = pinnedFlags ++ [noTraceFlag]) (hE : vu.isRef = true ∧ vs.isRef = true) {p : Program} {e : Env} {R : Room} {s : State} {m : MethodId} {args : Array Value} {below : List Frame} {meth : Method} {c : Code} {w0 : zW} {F : Nat} (hC : z_C (zGG b0 H0 D vu vs X M) p e s m meth c c_AckBookModel_outs 5 y_AckBookModel_outs.cls) (hr : meth.sig.returnType = (some FieldType.int)) (hRc : R.cells = w0.2.1) (hRs : R.slots = w0.2.2.1) (hFr : c.exceptionTable.toList = []) (hRt : R.frames = 1 ∧ R.locals = 22) (hnm : meth.name = y_AckBookModel_outs.name) {J : Option Nat → Int32 → Int32 → Int32 → Int32 → zW → zR} (hJ : (∀ (rL0 : Option Nat) (xL1 : Int32) (xL2 : Int32) (xL3 : Int32) (xL4 : Int32) (w : zW) (res : zO × zW), J rL0 xL1 xL2 xL3 xL4 w = some res → ∀ (H : Heap) (locs : List Loc) (cells slots : Nat) (ls : Array Slot), z_Z (zGG b0 H0 D vu vs X M) R s w H locs cells slots → lv_has ls 5 [(0, va_rf rL0), (1, .int xL1), (2, .int xL2), (3, .int xL3), (4, .int xL4)] → W p l e R s m args below meth c H locs cells slots (z_Q (zGG b0 H0 D vu vs X M) below s w0 res) (F0 m 5 ls []))) (rL0 : Option Nat) (xL1 : Int32) (xL2 : Int32) (xL4 : Int32) (xS0 : Int32) (w : zW) (res : zO × zW) (h : q_AckBookModel_outs_47 F X J rL0 xL1 xL2 xL4 xS0 w = some res) (H : Heap) (locs : List Loc) (cells slots : Nat) (ls : Array Slot) (hZ : z_Z (zGG b0 H0 D vu vs X M) R s w H locs cells slots) (hl : lv_has ls 5 [(0, va_rf rL0), (1, .int xL1), (2, .int xL2), (4, .int xL4)]) : W p l e R s m args below meth c H locs cells slots (z_Q (zGG b0 H0 D vu vs X M) below s w0 res) (F0 m 47 ls [.int xS0]) := by
  unfold q_AckBookModel_outs_47 at h
  refine lv_iconst (v := (1 : Int32)) hC.1 hC.2.1 d_AckBookModel_outs_47 (by decide) ?_
  refine lv_goto (tgt := 52) hC.1 hC.2.1 d_AckBookModel_outs_48 (by decide) ?_
  refine lv_iadd hC.1 hC.2.1 d_AckBookModel_outs_52 ?_
  refine lv_istore_n (i := 3) (lv' := [(3, .int (xS0 + (1 : Int32))), (0, va_rf rL0), (1, .int xL1), (2, .int xL2), (4, .int xL4)]) hC.1 hC.2.1 d_AckBookModel_outs_53 rfl hl (by decide) (by first | rfl | simp [z_rfc, z_ci, z_cj]) (fun ls hl => ?_)
  refine lv_iinc (lv' := [(4, .int (xL4 + (1 : Int32))), (3, .int (xS0 + (1 : Int32))), (0, va_rf rL0), (1, .int xL1), (2, .int xL2)]) hC.1 hC.2.1 d_AckBookModel_outs_54 hl (k := 4) rfl rfl (by decide) (by first | rfl | simp [z_rfc, z_ci, z_cj]) (fun ls hl => ?_)
  refine lv_goto (tgt := 5) hC.1 hC.2.1 d_AckBookModel_outs_57 (by decide) ?_
  exact hJ _ _ _ _ _ _ _ h _ _ _ _ _ hZ (lv_sub hl [2, 3, 4, 1, 0] rfl)
def j_AckBookModel_outs (F X : Nat) : Nat → Option Nat → Int32 → Int32 → Int32 → Int32 → zW → zR
  | 0, _, _, _, _, _, _ => none
  | N + 1, rL0, xL1, xL2, xL3, xL4, w =>
    z_getR w 10 4 rL0 fun r1 =>
    z_ldI w .int r1 xL1 fun v2 =>
    if v2 ≤ xL4 then (
      some (.inl (some (.int xL3)), w))
    else (
      z_this w 10 rL0 <|
      z_cI (f_AckBookModel_isOut F X rL0 xL1 xL4 w) fun v4 w =>
      if v4 = 0 then (
        (j_AckBookModel_outs F X N) rL0 xL1 xL2 (xL3 + (0 : Int32)) (xL4 + (1 : Int32)) w)
      else (
        if xL2 = 0 then (
          z_getR w 10 8 rL0 fun r5 =>
          z_ldI w .boolean r5 (((4096 : Int32) * xL1) + xL4) fun v6 =>
          if v6 = 0 then (
            (j_AckBookModel_outs F X N) rL0 xL1 xL2 (xL3 + (0 : Int32)) (xL4 + (1 : Int32)) w)
          else (
            q_AckBookModel_outs_47 F X (j_AckBookModel_outs F X N) rL0 xL1 xL2 xL4 xL3 w))
        else (
          q_AckBookModel_outs_47 F X (j_AckBookModel_outs F X N) rL0 xL1 xL2 xL4 xL3 w)))
set_option maxHeartbeats 4000000 in
set_option maxRecDepth 100000 in
theorem kj_AckBookModel_outs {b0 : Nat} {H0 : Heap} {D : va_G} {vu vs : Value} {X M : Nat} {l : Launch} (hT : z_TB (zGG b0 H0 D vu vs X M)) (hfl : l.flags = pinnedFlags ++ [noTraceFlag]) (hE : vu.isRef = true ∧ vs.isRef = true) {p : Program} {e : Env} {R : Room} {s : State} {m : MethodId} {args : Array Value} {below : List Frame} {meth : Method} {c : Code} {w0 : zW} {F : Nat} (hC : z_C (zGG b0 H0 D vu vs X M) p e s m meth c c_AckBookModel_outs 5 y_AckBookModel_outs.cls) (hr : meth.sig.returnType = (some FieldType.int)) (hRc : R.cells = w0.2.1) (hRs : R.slots = w0.2.2.1) (hFr : c.exceptionTable.toList = []) (hRt : R.frames = 1 ∧ R.locals = 22) (hnm : meth.name = y_AckBookModel_outs.name) : ∀ N : Nat, (∀ (rL0 : Option Nat) (xL1 : Int32) (xL2 : Int32) (xL3 : Int32) (xL4 : Int32) (w : zW) (res : zO × zW), j_AckBookModel_outs F X N rL0 xL1 xL2 xL3 xL4 w = some res → ∀ (H : Heap) (locs : List Loc) (cells slots : Nat) (ls : Array Slot), z_Z (zGG b0 H0 D vu vs X M) R s w H locs cells slots → lv_has ls 5 [(0, va_rf rL0), (1, .int xL1), (2, .int xL2), (3, .int xL3), (4, .int xL4)] → W p l e R s m args below meth c H locs cells slots (z_Q (zGG b0 H0 D vu vs X M) below s w0 res) (F0 m 5 ls [])) := by
  intro N
  induction N with
  | zero =>
    intro rL0 xL1 xL2 xL3 xL4 w res h
    rw [j_AckBookModel_outs] at h
    cases h
  | succ N ih =>
    intro rL0 xL1 xL2 xL3 xL4 w res h H locs cells slots ls hZ hl
    rw [j_AckBookModel_outs] at h
    refine lv_iload hC.1 hC.2.1 d_AckBookModel_outs_5 (lv_at hl 4 rfl) ?_
    refine x_aload_n hC d_AckBookModel_outs_7 rfl (lv_at hl 0 rfl) ?_
    refine x_getR hC hZ zc10 h (by decide) t_823 (fun _ h9 => h9) d_AckBookModel_outs_8 (fun r1 h => ?_)
    refine lv_iload_n hC.1 hC.2.1 d_AckBookModel_outs_11 rfl (lv_at hl 1 rfl) ?_
    refine x_ldI hC hZ h d_AckBookModel_outs_12 (fun v2 h => ?_)
    refine lv_icmp_ge (tgt := 60) hC.1 hC.2.1 d_AckBookModel_outs_13 (by decide) (fun hc => ?_) (fun hc => ?_)
    · have h := z_ifp hc h
      refine lv_iload_n hC.1 hC.2.1 d_AckBookModel_outs_60 rfl (lv_at hl 3 rfl) ?_
      exact x_iret hC hRc hRs hZ hr rfl h d_AckBookModel_outs_61
    · have h := z_ifn hc h
      refine lv_iload_n hC.1 hC.2.1 d_AckBookModel_outs_16 rfl (lv_at hl 3 rfl) ?_
      refine x_aload_n hC d_AckBookModel_outs_17 rfl (lv_at hl 0 rfl) ?_
      refine lv_iload_n hC.1 hC.2.1 d_AckBookModel_outs_18 rfl (lv_at hl 1 rfl) ?_
      refine lv_iload hC.1 hC.2.1 d_AckBookModel_outs_19 (lv_at hl 4 rfl) ?_
      obtain ⟨a_, fs_, eo_, h⟩ := z_this_spec h
      obtain ⟨w1_, o1_, hF_, ha_⟩ := z_cI_spec h
      refine x_goes hC hRc hRs hFr ha_ (z_goV (As := [.int xL1, .int xL4]) hC hZ zc10 eo_ (k_AckBookModel_isOut hT hfl hE _ _ hF_) t_955 t_957 ts_AckBookModel_isOut t_12 t_958 ⟨by decide, by decide, (by decide +kernel : (parseMethodDescriptor y_AckBookModel_isOut.desc).map (fun d => d.parameters.length) = some 2)⟩ (by rw [hRt.1]; decide) (by rw [hRt.2]; decide) hl.1 rfl (by first | exact Nat.le_of_ble_eq_true rfl | simp [z_rfc, z_ci, z_cj]) d_AckBookModel_outs_21) (fun v_ hv H locs cells slots hZ => ?_)
      obtain ⟨v4, rfl, h⟩ := hv
      generalize w1_ = w at h hZ
      refine lv_if_eq (tgt := 51) hC.1 hC.2.1 d_AckBookModel_outs_24 (by decide) (fun hc => ?_) (fun hc => ?_)
      · have h := z_ifp hc h
        refine lv_iconst (v := (0 : Int32)) hC.1 hC.2.1 d_AckBookModel_outs_51 (by decide) ?_
        refine lv_iadd hC.1 hC.2.1 d_AckBookModel_outs_52 ?_
        refine lv_istore_n (i := 3) (lv' := [(3, .int (xL3 + (0 : Int32))), (0, va_rf rL0), (1, .int xL1), (2, .int xL2), (4, .int xL4)]) hC.1 hC.2.1 d_AckBookModel_outs_53 rfl hl (by decide) (by first | rfl | simp [z_rfc, z_ci, z_cj]) (fun ls hl => ?_)
        refine lv_iinc (lv' := [(4, .int (xL4 + (1 : Int32))), (3, .int (xL3 + (0 : Int32))), (0, va_rf rL0), (1, .int xL1), (2, .int xL2)]) hC.1 hC.2.1 d_AckBookModel_outs_54 hl (k := 4) rfl rfl (by decide) (by first | rfl | simp [z_rfc, z_ci, z_cj]) (fun ls hl => ?_)
        refine lv_goto (tgt := 5) hC.1 hC.2.1 d_AckBookModel_outs_57 (by decide) ?_
        exact ih _ _ _ _ _ _ _ h _ _ _ _ _ hZ (lv_sub hl [2, 3, 4, 1, 0] rfl)
      · have h := z_ifn hc h
        refine lv_iload_n hC.1 hC.2.1 d_AckBookModel_outs_27 rfl (lv_at hl 2 rfl) ?_
        refine lv_if_ne (tgt := 47) hC.1 hC.2.1 d_AckBookModel_outs_28 (by decide) (fun hc => ?_) (fun hc => ?_)
        · have h := z_ifn hc h
          exact kq_AckBookModel_outs_47 hT hfl hE hC hr hRc hRs hFr hRt hnm ih _ _ _ _ _ _ _ h _ _ _ _ _ hZ (lv_sub hl [0, 1, 2, 4] rfl)
        · have h := z_ifp hc h
          refine x_aload_n hC d_AckBookModel_outs_31 rfl (lv_at hl 0 rfl) ?_
          refine x_getR hC hZ zc10 h (by decide) t_827 (fun _ h9 => h9) d_AckBookModel_outs_32 (fun r5 h => ?_)
          refine lv_sipush (v := (4096 : Int32)) hC.1 hC.2.1 d_AckBookModel_outs_35 (by decide) ?_
          refine lv_iload_n hC.1 hC.2.1 d_AckBookModel_outs_38 rfl (lv_at hl 1 rfl) ?_
          refine lv_imul hC.1 hC.2.1 d_AckBookModel_outs_39 ?_
          refine lv_iload hC.1 hC.2.1 d_AckBookModel_outs_40 (lv_at hl 4 rfl) ?_
          refine lv_iadd hC.1 hC.2.1 d_AckBookModel_outs_42 ?_
          refine x_ldZ hC hZ h d_AckBookModel_outs_43 (fun v6 h => ?_)
          refine lv_if_eq (tgt := 51) hC.1 hC.2.1 d_AckBookModel_outs_44 (by decide) (fun hc => ?_) (fun hc => ?_)
          · have h := z_ifp hc h
            refine lv_iconst (v := (0 : Int32)) hC.1 hC.2.1 d_AckBookModel_outs_51 (by decide) ?_
            refine lv_iadd hC.1 hC.2.1 d_AckBookModel_outs_52 ?_
            refine lv_istore_n (i := 3) (lv' := [(3, .int (xL3 + (0 : Int32))), (0, va_rf rL0), (1, .int xL1), (2, .int xL2), (4, .int xL4)]) hC.1 hC.2.1 d_AckBookModel_outs_53 rfl hl (by decide) (by first | rfl | simp [z_rfc, z_ci, z_cj]) (fun ls hl => ?_)
            refine lv_iinc (lv' := [(4, .int (xL4 + (1 : Int32))), (3, .int (xL3 + (0 : Int32))), (0, va_rf rL0), (1, .int xL1), (2, .int xL2)]) hC.1 hC.2.1 d_AckBookModel_outs_54 hl (k := 4) rfl rfl (by decide) (by first | rfl | simp [z_rfc, z_ci, z_cj]) (fun ls hl => ?_)
            refine lv_goto (tgt := 5) hC.1 hC.2.1 d_AckBookModel_outs_57 (by decide) ?_
            exact ih _ _ _ _ _ _ _ h _ _ _ _ _ hZ (lv_sub hl [2, 3, 4, 1, 0] rfl)
          · have h := z_ifn hc h
            exact kq_AckBookModel_outs_47 hT hfl hE hC hr hRc hRs hFr hRt hnm ih _ _ _ _ _ _ _ h _ _ _ _ _ hZ (lv_sub hl [0, 1, 2, 4] rfl)
def f_AckBookModel_outs (F X : Nat) (a0 : Option Nat) (pI1 : Int32) (pI2 : Int32) (w : zW) : zR :=
  (j_AckBookModel_outs F X F) a0 pI1 pI2 (0 : Int32) (0 : Int32) w
set_option maxHeartbeats 4000000 in
set_option maxRecDepth 100000 in
theorem k_AckBookModel_outs {b0 : Nat} {H0 : Heap} {D : va_G} {vu vs : Value} {X M : Nat} {l : Launch} (hT : z_TB (zGG b0 H0 D vu vs X M)) (hfl : l.flags = pinnedFlags ++ [noTraceFlag]) (hE : vu.isRef = true ∧ vs.isRef = true) {a0 : Option Nat} {pI1 : Int32} {pI2 : Int32} (F : Nat) {w : zW} (res : zO × zW) (h : f_AckBookModel_outs F X a0 pI1 pI2 w = some res) : z_Ct (zGG b0 H0 D vu vs X M) l y_AckBookModel_outs (.code y_AckBookModel_outs c_AckBookModel_outs 5 (some FieldType.int)) 1 22 [va_rf a0, .int pI1, .int pI2] w res := by
  refine z_ct hT hfl (by decide) (by simp only [z_sl_i, z_sl_j, z_sl_r, z_sl_n]; decide) ?_
  intro p e R s m args below meth c hC hr hRc hRs hRt hnm hFr H ls hZ hl
  simp only [z_la_i, z_la_j, z_la_r, z_la_n] at hl
  have hl : lv_has ls 5 [(0, va_rf a0), (1, .int pI1), (2, .int pI2)] := hl
  unfold f_AckBookModel_outs at h
  refine lv_iconst (v := (0 : Int32)) hC.1 hC.2.1 d_AckBookModel_outs_0 (by decide) ?_
  refine lv_istore_n (i := 3) (lv' := [(3, .int (0 : Int32)), (0, va_rf a0), (1, .int pI1), (2, .int pI2)]) hC.1 hC.2.1 d_AckBookModel_outs_1 rfl hl (by decide) (by first | rfl | simp [z_rfc, z_ci, z_cj]) (fun ls hl => ?_)
  refine lv_iconst (v := (0 : Int32)) hC.1 hC.2.1 d_AckBookModel_outs_2 (by decide) ?_
  refine lv_istore (i := 4) (lv' := [(4, .int (0 : Int32)), (3, .int (0 : Int32)), (0, va_rf a0), (1, .int pI1), (2, .int pI2)]) hC.1 hC.2.1 d_AckBookModel_outs_3 hl (by decide) (by first | rfl | simp [z_rfc, z_ci, z_cj]) (fun ls hl => ?_)
  exact (kj_AckBookModel_outs hT hfl hE hC hr hRc hRs hFr hRt hnm F) _ _ _ _ _ _ _ h _ _ _ _ _ hZ (lv_sub hl [2, 3, 4, 1, 0] rfl)
