def q_AckBookModel_came_115 (F X : Nat) (rL0 : Option Nat) (xL1 : Int32) (yL2 : Int64) (yL5 : Int64) (w : zW) : zR :=
  z_getR w 10 35 rL0 fun r1 =>
  z_ldI w .int r1 xL1 fun v2 =>
  z_stI w r1 xL1 (v2 + (1 : Int32)) fun w =>
  z_getR w 10 37 rL0 fun r3 =>
  z_getR w 10 37 rL0 fun r4 =>
  z_ldI w .boolean r4 xL1 fun v5 =>
  if v5 = 0 then (
    if (lg_cmp yL2 (yL5 + (1 : Int64))) = 0 then (
      z_stZ w r3 xL1 (0 : Int32) fun w =>
      some (.inl (some (.int (1 : Int32))), w))
    else (
      z_stZ w r3 xL1 (1 : Int32) fun w =>
      some (.inl (some (.int (1 : Int32))), w)))
  else (
    z_stZ w r3 xL1 (1 : Int32) fun w =>
    some (.inl (some (.int (1 : Int32))), w))
set_option maxHeartbeats 4000000 in
set_option maxRecDepth 100000 in
theorem kq_AckBookModel_came_115 {b0 : Nat} {H0 : Heap} {D : va_G} {vu vs : Value} {X M : Nat} {l : Launch} (hT : z_TB (zGG b0 H0 D vu vs X M)) (hfl : l.flags = pinnedFlags ++ [noTraceFlag]) (hE : vu.isRef = true ∧ vs.isRef = true) {p : Program} {e : Env} {R : Room} {s : State} {m : MethodId} {args : Array Value} {below : List Frame} {meth : Method} {c : Code} {w0 : zW} {F : Nat} (hC : z_C (zGG b0 H0 D vu vs X M) p e s m meth c c_AckBookModel_came 7 y_AckBookModel_came.cls) (hr : meth.sig.returnType = (some FieldType.boolean)) (hRc : R.cells = w0.2.1) (hRs : R.slots = w0.2.2.1) (hFr : c.exceptionTable.toList = []) (hRt : R.frames = 2 ∧ R.locals = 47) (hnm : meth.name = y_AckBookModel_came.name) (rL0 : Option Nat) (xL1 : Int32) (yL2 : Int64) (yL5 : Int64) (w : zW) (res : zO × zW) (h : q_AckBookModel_came_115 F X rL0 xL1 yL2 yL5 w = some res) (H : Heap) (locs : List Loc) (cells slots : Nat) (ls : Array Slot) (hZ : z_Z (zGG b0 H0 D vu vs X M) R s w H locs cells slots) (hl : lv_has ls 7 [(0, va_rf rL0), (1, .int xL1), (2, .long yL2), (5, .long yL5)]) : W p l e R s m args below meth c H locs cells slots (z_Q (zGG b0 H0 D vu vs X M) below s w0 res) (F0 m 115 ls []) := by
  unfold q_AckBookModel_came_115 at h
  refine x_aload_n hC d_AckBookModel_came_115 rfl (lv_at hl 0 rfl) ?_
  refine x_getR hC hZ zc10 h (by decide) t_854 (fun _ h9 => h9) d_AckBookModel_came_116 (fun r1 h => ?_)
  refine lv_iload_n hC.1 hC.2.1 d_AckBookModel_came_119 rfl (lv_at hl 1 rfl) ?_
  refine lv_dup2_11 hC.1 hC.2.1 d_AckBookModel_came_120 rfl (z_rfc _) ?_
  refine x_ldI hC hZ h d_AckBookModel_came_121 (fun v2 h => ?_)
  refine lv_iconst (v := (1 : Int32)) hC.1 hC.2.1 d_AckBookModel_came_122 (by decide) ?_
  refine lv_iadd hC.1 hC.2.1 d_AckBookModel_came_123 ?_
  refine x_stI hC hZ h d_AckBookModel_came_124 (fun w H locs hZ h => ?_)
  refine x_aload_n hC d_AckBookModel_came_125 rfl (lv_at hl 0 rfl) ?_
  refine x_getR hC hZ zc10 h (by decide) t_856 (fun _ h9 => h9) d_AckBookModel_came_126 (fun r3 h => ?_)
  refine lv_iload_n hC.1 hC.2.1 d_AckBookModel_came_129 rfl (lv_at hl 1 rfl) ?_
  refine x_aload_n hC d_AckBookModel_came_130 rfl (lv_at hl 0 rfl) ?_
  refine x_getR hC hZ zc10 h (by decide) t_856 (fun _ h9 => h9) d_AckBookModel_came_131 (fun r4 h => ?_)
  refine lv_iload_n hC.1 hC.2.1 d_AckBookModel_came_134 rfl (lv_at hl 1 rfl) ?_
  refine x_ldZ hC hZ h d_AckBookModel_came_135 (fun v5 h => ?_)
  refine lv_if_ne (tgt := 148) hC.1 hC.2.1 d_AckBookModel_came_136 (by decide) (fun hc => ?_) (fun hc => ?_)
  · have h := z_ifn hc h
    refine lv_iconst (v := (1 : Int32)) hC.1 hC.2.1 d_AckBookModel_came_148 (by decide) ?_
    refine lv_goto (tgt := 153) hC.1 hC.2.1 d_AckBookModel_came_149 (by decide) ?_
    refine x_stZ hC hZ h d_AckBookModel_came_153 (fun w H locs hZ h => ?_)
    refine lv_iconst (v := (1 : Int32)) hC.1 hC.2.1 d_AckBookModel_came_154 (by decide) ?_
    exact x_iret hC hRc hRs hZ hr rfl h d_AckBookModel_came_155
  · have h := z_ifp hc h
    refine lv_lload_n hC.1 hC.2.1 d_AckBookModel_came_139 rfl (lv_at hl 2 rfl) ?_
    refine lv_lload hC.1 hC.2.1 d_AckBookModel_came_140 (lv_at hl 3 rfl) ?_
    refine lv_lconst (v := (1 : Int64)) hC.1 hC.2.1 d_AckBookModel_came_142 (by decide) ?_
    refine lv_ladd hC.1 hC.2.1 d_AckBookModel_came_143 ?_
    refine W.lcmp hC.1 hC.2.1 d_AckBookModel_came_144 ?_
    refine lv_if_eq (tgt := 152) hC.1 hC.2.1 d_AckBookModel_came_145 (by decide) (fun hc => ?_) (fun hc => ?_)
    · have h := z_ifp hc h
      refine lv_iconst (v := (0 : Int32)) hC.1 hC.2.1 d_AckBookModel_came_152 (by decide) ?_
      refine x_stZ hC hZ h d_AckBookModel_came_153 (fun w H locs hZ h => ?_)
      refine lv_iconst (v := (1 : Int32)) hC.1 hC.2.1 d_AckBookModel_came_154 (by decide) ?_
      exact x_iret hC hRc hRs hZ hr rfl h d_AckBookModel_came_155
    · have h := z_ifn hc h
      refine lv_iconst (v := (1 : Int32)) hC.1 hC.2.1 d_AckBookModel_came_148 (by decide) ?_
      refine lv_goto (tgt := 153) hC.1 hC.2.1 d_AckBookModel_came_149 (by decide) ?_
      refine x_stZ hC hZ h d_AckBookModel_came_153 (fun w H locs hZ h => ?_)
      refine lv_iconst (v := (1 : Int32)) hC.1 hC.2.1 d_AckBookModel_came_154 (by decide) ?_
      exact x_iret hC hRc hRs hZ hr rfl h d_AckBookModel_came_155
def q_AckBookModel_came_83 (F X : Nat) (rL0 : Option Nat) (xL1 : Int32) (yL2 : Int64) (xL4 : Int32) (yL5 : Int64) (w : zW) : zR :=
  z_this w 10 rL0 <|
  z_cV (f_AckBookModel_comeIn F X rL0 xL1 yL2 w) fun w =>
  if xL4 = 0 then (
    some (.inl (some (.int (1 : Int32))), w))
  else (
    z_getR w 10 35 rL0 fun r7 =>
    z_ldI w .int r7 xL1 fun v8 =>
    if v8 = 0 then (
      z_getR w 10 36 rL0 fun r9 =>
      z_getI w 10 1 rL0 fun v10 =>
      z_stI w r9 xL1 v10 fun w =>
      q_AckBookModel_came_115 F X rL0 xL1 yL2 yL5 w)
    else (
      q_AckBookModel_came_115 F X rL0 xL1 yL2 yL5 w))
set_option maxHeartbeats 4000000 in
set_option maxRecDepth 100000 in
theorem kq_AckBookModel_came_83 {b0 : Nat} {H0 : Heap} {D : va_G} {vu vs : Value} {X M : Nat} {l : Launch} (hT : z_TB (zGG b0 H0 D vu vs X M)) (hfl : l.flags = pinnedFlags ++ [noTraceFlag]) (hE : vu.isRef = true ∧ vs.isRef = true) {p : Program} {e : Env} {R : Room} {s : State} {m : MethodId} {args : Array Value} {below : List Frame} {meth : Method} {c : Code} {w0 : zW} {F : Nat} (hC : z_C (zGG b0 H0 D vu vs X M) p e s m meth c c_AckBookModel_came 7 y_AckBookModel_came.cls) (hr : meth.sig.returnType = (some FieldType.boolean)) (hRc : R.cells = w0.2.1) (hRs : R.slots = w0.2.2.1) (hFr : c.exceptionTable.toList = []) (hRt : R.frames = 2 ∧ R.locals = 47) (hnm : meth.name = y_AckBookModel_came.name) (rL0 : Option Nat) (xL1 : Int32) (yL2 : Int64) (xL4 : Int32) (yL5 : Int64) (w : zW) (res : zO × zW) (h : q_AckBookModel_came_83 F X rL0 xL1 yL2 xL4 yL5 w = some res) (H : Heap) (locs : List Loc) (cells slots : Nat) (ls : Array Slot) (hZ : z_Z (zGG b0 H0 D vu vs X M) R s w H locs cells slots) (hl : lv_has ls 7 [(0, va_rf rL0), (1, .int xL1), (2, .long yL2), (4, .int xL4), (5, .long yL5)]) : W p l e R s m args below meth c H locs cells slots (z_Q (zGG b0 H0 D vu vs X M) below s w0 res) (F0 m 83 ls []) := by
  unfold q_AckBookModel_came_83 at h
  refine x_aload_n hC d_AckBookModel_came_83 rfl (lv_at hl 0 rfl) ?_
  refine lv_iload_n hC.1 hC.2.1 d_AckBookModel_came_84 rfl (lv_at hl 1 rfl) ?_
  refine lv_lload_n hC.1 hC.2.1 d_AckBookModel_came_85 rfl (lv_at hl 2 rfl) ?_
  obtain ⟨a_, fs_, eo_, h⟩ := z_this_spec h
  obtain ⟨w1_, o1_, hF_, ha_⟩ := z_cV_spec h
  refine x_goes hC hRc hRs hFr ha_ (z_goV (As := [.int xL1, .long yL2]) hC hZ zc10 eo_ (k_AckBookModel_comeIn hT hfl hE _ _ hF_) t_1062 t_1064 ts_AckBookModel_comeIn t_12 t_1065 ⟨by decide, by decide, (by decide +kernel : (parseMethodDescriptor y_AckBookModel_comeIn.desc).map (fun d => d.parameters.length) = some 2)⟩ (by rw [hRt.1]; decide) (by rw [hRt.2]; decide) hl.1 rfl (by first | exact Nat.le_of_ble_eq_true rfl | simp [z_rfc, z_ci, z_cj]) d_AckBookModel_came_86) (fun v_ hv H locs cells slots hZ => ?_)
  obtain ⟨rfl, h⟩ := hv
  generalize w1_ = w at h hZ
  refine lv_iload hC.1 hC.2.1 d_AckBookModel_came_89 (lv_at hl 3 rfl) ?_
  refine lv_if_ne (tgt := 96) hC.1 hC.2.1 d_AckBookModel_came_91 (by decide) (fun hc => ?_) (fun hc => ?_)
  · have h := z_ifn hc h
    refine x_aload_n hC d_AckBookModel_came_96 rfl (lv_at hl 0 rfl) ?_
    refine x_getR hC hZ zc10 h (by decide) t_854 (fun _ h9 => h9) d_AckBookModel_came_97 (fun r7 h => ?_)
    refine lv_iload_n hC.1 hC.2.1 d_AckBookModel_came_100 rfl (lv_at hl 1 rfl) ?_
    refine x_ldI hC hZ h d_AckBookModel_came_101 (fun v8 h => ?_)
    refine lv_if_ne (tgt := 115) hC.1 hC.2.1 d_AckBookModel_came_102 (by decide) (fun hc => ?_) (fun hc => ?_)
    · have h := z_ifn hc h
      exact kq_AckBookModel_came_115 hT hfl hE hC hr hRc hRs hFr hRt hnm _ _ _ _ _ _ h _ _ _ _ _ hZ (lv_sub hl [0, 1, 2, 4] rfl)
    · have h := z_ifp hc h
      refine x_aload_n hC d_AckBookModel_came_105 rfl (lv_at hl 0 rfl) ?_
      refine x_getR hC hZ zc10 h (by decide) t_855 (fun _ h9 => h9) d_AckBookModel_came_106 (fun r9 h => ?_)
      refine lv_iload_n hC.1 hC.2.1 d_AckBookModel_came_109 rfl (lv_at hl 1 rfl) ?_
      refine x_aload_n hC d_AckBookModel_came_110 rfl (lv_at hl 0 rfl) ?_
      refine x_getI hC hZ zc10 h (by decide) t_820 (fun _ h9 => h9) d_AckBookModel_came_111 (fun v10 h => ?_)
      refine x_stI hC hZ h d_AckBookModel_came_114 (fun w H locs hZ h => ?_)
      exact kq_AckBookModel_came_115 hT hfl hE hC hr hRc hRs hFr hRt hnm _ _ _ _ _ _ h _ _ _ _ _ hZ (lv_sub hl [0, 1, 2, 4] rfl)
  · have h := z_ifp hc h
    refine lv_iconst (v := (1 : Int32)) hC.1 hC.2.1 d_AckBookModel_came_94 (by decide) ?_
    exact x_iret hC hRc hRs hZ hr rfl h d_AckBookModel_came_95
def q_AckBookModel_came_27 (F X : Nat) (rL0 : Option Nat) (xL1 : Int32) (yL2 : Int64) (xL4 : Int32) (rS0 : Option Nat) (xS1 : Int32) (w : zW) : zR :=
  z_this w 10 rS0 <|
  z_cI (f_AckBookModel_fails F X rS0 xS1 (1 : Int32) w) fun v12 w =>
  if v12 = 0 then (
    z_getR w 10 11 rL0 fun r13 =>
    z_ldI w .boolean r13 xL1 fun v14 =>
    z_this w 10 rL0 <|
    z_cI (f_AckBookModel_fails F X rL0 v14 (2 : Int32) w) fun v16 w =>
    if v16 = 0 then (
      z_this w 10 rL0 <|
      z_cI (f_AckBookModel_isOld F X rL0 xL1 yL2 w) fun v18 w =>
      if v18 = 0 then (
        z_this w 10 rL0 <|
        z_cL (f_AckBookModel_greatest F X rL0 xL1 w) fun v20 w =>
        if (lg_cmp yL2 v20) ≤ 0 then (
          q_AckBookModel_came_83 F X rL0 xL1 yL2 xL4 v20 w)
        else (
          z_getR w 10 34 rL0 fun r21 =>
          z_getI w 10 1 rL0 fun v22 =>
          z_stI w r21 xL1 v22 fun w =>
          q_AckBookModel_came_83 F X rL0 xL1 yL2 xL4 v20 w))
      else (
        some (.inl (some (.int (0 : Int32))), w)))
    else (
      some (.inl (some (.int (0 : Int32))), w)))
  else (
    some (.inl (some (.int (0 : Int32))), w))
set_option maxHeartbeats 4000000 in
set_option maxRecDepth 100000 in
theorem kq_AckBookModel_came_27 {b0 : Nat} {H0 : Heap} {D : va_G} {vu vs : Value} {X M : Nat} {l : Launch} (hT : z_TB (zGG b0 H0 D vu vs X M)) (hfl : l.flags = pinnedFlags ++ [noTraceFlag]) (hE : vu.isRef = true ∧ vs.isRef = true) {p : Program} {e : Env} {R : Room} {s : State} {m : MethodId} {args : Array Value} {below : List Frame} {meth : Method} {c : Code} {w0 : zW} {F : Nat} (hC : z_C (zGG b0 H0 D vu vs X M) p e s m meth c c_AckBookModel_came 7 y_AckBookModel_came.cls) (hr : meth.sig.returnType = (some FieldType.boolean)) (hRc : R.cells = w0.2.1) (hRs : R.slots = w0.2.2.1) (hFr : c.exceptionTable.toList = []) (hRt : R.frames = 2 ∧ R.locals = 47) (hnm : meth.name = y_AckBookModel_came.name) (rL0 : Option Nat) (xL1 : Int32) (yL2 : Int64) (xL4 : Int32) (rS0 : Option Nat) (xS1 : Int32) (w : zW) (res : zO × zW) (h : q_AckBookModel_came_27 F X rL0 xL1 yL2 xL4 rS0 xS1 w = some res) (H : Heap) (locs : List Loc) (cells slots : Nat) (ls : Array Slot) (hZ : z_Z (zGG b0 H0 D vu vs X M) R s w H locs cells slots) (hl : lv_has ls 7 [(0, va_rf rL0), (1, .int xL1), (2, .long yL2), (4, .int xL4)]) : W p l e R s m args below meth c H locs cells slots (z_Q (zGG b0 H0 D vu vs X M) below s w0 res) (F0 m 27 ls [.int xS1, va_rf rS0]) := by
  unfold q_AckBookModel_came_27 at h
  refine lv_iconst (v := (1 : Int32)) hC.1 hC.2.1 d_AckBookModel_came_27 (by decide) ?_
  obtain ⟨a_, fs_, eo_, h⟩ := z_this_spec h
  obtain ⟨w1_, o1_, hF_, ha_⟩ := z_cI_spec h
  refine x_goes hC hRc hRs hFr ha_ (z_goV (As := [.int xS1, .int (1 : Int32)]) hC hZ zc10 eo_ (k_AckBookModel_fails hT hfl hE _ _ hF_) t_947 t_949 ts_AckBookModel_fails t_12 t_950 ⟨by decide, by decide, (by decide +kernel : (parseMethodDescriptor y_AckBookModel_fails.desc).map (fun d => d.parameters.length) = some 2)⟩ (by rw [hRt.1]; decide) (by rw [hRt.2]; decide) hl.1 rfl (by first | exact Nat.le_of_ble_eq_true rfl | simp [z_rfc, z_ci, z_cj]) d_AckBookModel_came_28) (fun v_ hv H locs cells slots hZ => ?_)
  obtain ⟨v12, rfl, h⟩ := hv
  generalize w1_ = w at h hZ
  refine lv_if_ne (tgt := 57) hC.1 hC.2.1 d_AckBookModel_came_31 (by decide) (fun hc => ?_) (fun hc => ?_)
  · have h := z_ifn hc h
    refine lv_iconst (v := (0 : Int32)) hC.1 hC.2.1 d_AckBookModel_came_57 (by decide) ?_
    exact x_iret hC hRc hRs hZ hr rfl h d_AckBookModel_came_58
  · have h := z_ifp hc h
    refine x_aload_n hC d_AckBookModel_came_34 rfl (lv_at hl 0 rfl) ?_
    refine x_aload_n hC d_AckBookModel_came_35 rfl (lv_at hl 0 rfl) ?_
    refine x_getR hC hZ zc10 h (by decide) t_830 (fun _ h9 => h9) d_AckBookModel_came_36 (fun r13 h => ?_)
    refine lv_iload_n hC.1 hC.2.1 d_AckBookModel_came_39 rfl (lv_at hl 1 rfl) ?_
    refine x_ldZ hC hZ h d_AckBookModel_came_40 (fun v14 h => ?_)
    refine lv_iconst (v := (2 : Int32)) hC.1 hC.2.1 d_AckBookModel_came_41 (by decide) ?_
    obtain ⟨a_, fs_, eo_, h⟩ := z_this_spec h
    obtain ⟨w1_, o1_, hF_, ha_⟩ := z_cI_spec h
    refine x_goes hC hRc hRs hFr ha_ (z_goV (As := [.int v14, .int (2 : Int32)]) hC hZ zc10 eo_ (k_AckBookModel_fails hT hfl hE _ _ hF_) t_947 t_949 ts_AckBookModel_fails t_12 t_950 ⟨by decide, by decide, (by decide +kernel : (parseMethodDescriptor y_AckBookModel_fails.desc).map (fun d => d.parameters.length) = some 2)⟩ (by rw [hRt.1]; decide) (by rw [hRt.2]; decide) hl.1 rfl (by first | exact Nat.le_of_ble_eq_true rfl | simp [z_rfc, z_ci, z_cj]) d_AckBookModel_came_42) (fun v_ hv H locs cells slots hZ => ?_)
    obtain ⟨v16, rfl, h⟩ := hv
    generalize w1_ = w at h hZ
    refine lv_if_ne (tgt := 57) hC.1 hC.2.1 d_AckBookModel_came_45 (by decide) (fun hc => ?_) (fun hc => ?_)
    · have h := z_ifn hc h
      refine lv_iconst (v := (0 : Int32)) hC.1 hC.2.1 d_AckBookModel_came_57 (by decide) ?_
      exact x_iret hC hRc hRs hZ hr rfl h d_AckBookModel_came_58
    · have h := z_ifp hc h
      refine x_aload_n hC d_AckBookModel_came_48 rfl (lv_at hl 0 rfl) ?_
      refine lv_iload_n hC.1 hC.2.1 d_AckBookModel_came_49 rfl (lv_at hl 1 rfl) ?_
      refine lv_lload_n hC.1 hC.2.1 d_AckBookModel_came_50 rfl (lv_at hl 2 rfl) ?_
      obtain ⟨a_, fs_, eo_, h⟩ := z_this_spec h
      obtain ⟨w1_, o1_, hF_, ha_⟩ := z_cI_spec h
      refine x_goes hC hRc hRs hFr ha_ (z_goV (As := [.int xL1, .long yL2]) hC hZ zc10 eo_ (k_AckBookModel_isOld hT hfl hE _ _ hF_) t_1053 t_1055 ts_AckBookModel_isOld t_12 t_1056 ⟨by decide, by decide, (by decide +kernel : (parseMethodDescriptor y_AckBookModel_isOld.desc).map (fun d => d.parameters.length) = some 2)⟩ (by rw [hRt.1]; decide) (by rw [hRt.2]; decide) hl.1 rfl (by first | exact Nat.le_of_ble_eq_true rfl | simp [z_rfc, z_ci, z_cj]) d_AckBookModel_came_51) (fun v_ hv H locs cells slots hZ => ?_)
      obtain ⟨v18, rfl, h⟩ := hv
      generalize w1_ = w at h hZ
      refine lv_if_eq (tgt := 59) hC.1 hC.2.1 d_AckBookModel_came_54 (by decide) (fun hc => ?_) (fun hc => ?_)
      · have h := z_ifp hc h
        refine x_aload_n hC d_AckBookModel_came_59 rfl (lv_at hl 0 rfl) ?_
        refine lv_iload_n hC.1 hC.2.1 d_AckBookModel_came_60 rfl (lv_at hl 1 rfl) ?_
        obtain ⟨a_, fs_, eo_, h⟩ := z_this_spec h
        obtain ⟨w1_, o1_, hF_, ha_⟩ := z_cL_spec h
        refine x_goes hC hRc hRs hFr ha_ (z_goV (As := [.int xL1]) hC hZ zc10 eo_ (k_AckBookModel_greatest hT hfl hE _ _ hF_) t_1057 t_1059 ts_AckBookModel_greatest t_12 t_1060 ⟨by decide, by decide, (by decide +kernel : (parseMethodDescriptor y_AckBookModel_greatest.desc).map (fun d => d.parameters.length) = some 1)⟩ (by rw [hRt.1]; decide) (by rw [hRt.2]; decide) hl.1 rfl (by first | exact Nat.le_of_ble_eq_true rfl | simp [z_rfc, z_ci, z_cj]) d_AckBookModel_came_61) (fun v_ hv H locs cells slots hZ => ?_)
        obtain ⟨v20, rfl, h⟩ := hv
        generalize w1_ = w at h hZ
        refine lv_lstore (i := 5) (lv' := [(5, .long v20), (0, va_rf rL0), (1, .int xL1), (2, .long yL2), (4, .int xL4)]) hC.1 hC.2.1 d_AckBookModel_came_64 hl (by decide) (by first | rfl | simp [z_rfc, z_ci, z_cj]) (fun ls hl => ?_)
        refine lv_lload_n hC.1 hC.2.1 d_AckBookModel_came_66 rfl (lv_at hl 3 rfl) ?_
        refine lv_lload hC.1 hC.2.1 d_AckBookModel_came_67 (lv_at hl 0 rfl) ?_
        refine W.lcmp hC.1 hC.2.1 d_AckBookModel_came_69 ?_
        refine lv_if_le (tgt := 83) hC.1 hC.2.1 d_AckBookModel_came_70 (by decide) (fun hc => ?_) (fun hc => ?_)
        · have h := z_ifp hc h
          exact kq_AckBookModel_came_83 hT hfl hE hC hr hRc hRs hFr hRt hnm _ _ _ _ _ _ _ h _ _ _ _ _ hZ (lv_sub hl [1, 2, 3, 4, 0] rfl)
        · have h := z_ifn hc h
          refine x_aload_n hC d_AckBookModel_came_73 rfl (lv_at hl 1 rfl) ?_
          refine x_getR hC hZ zc10 h (by decide) t_853 (fun _ h9 => h9) d_AckBookModel_came_74 (fun r21 h => ?_)
          refine lv_iload_n hC.1 hC.2.1 d_AckBookModel_came_77 rfl (lv_at hl 2 rfl) ?_
          refine x_aload_n hC d_AckBookModel_came_78 rfl (lv_at hl 1 rfl) ?_
          refine x_getI hC hZ zc10 h (by decide) t_820 (fun _ h9 => h9) d_AckBookModel_came_79 (fun v22 h => ?_)
          refine x_stI hC hZ h d_AckBookModel_came_82 (fun w H locs hZ h => ?_)
          exact kq_AckBookModel_came_83 hT hfl hE hC hr hRc hRs hFr hRt hnm _ _ _ _ _ _ _ h _ _ _ _ _ hZ (lv_sub hl [1, 2, 3, 4, 0] rfl)
      · have h := z_ifn hc h
        refine lv_iconst (v := (0 : Int32)) hC.1 hC.2.1 d_AckBookModel_came_57 (by decide) ?_
        exact x_iret hC hRc hRs hZ hr rfl h d_AckBookModel_came_58
def q_AckBookModel_came_22 (F X : Nat) (rL0 : Option Nat) (xL1 : Int32) (yL2 : Int64) (xL4 : Int32) (rS0 : Option Nat) (w : zW) : zR :=
  q_AckBookModel_came_27 F X rL0 xL1 yL2 xL4 rS0 (1 : Int32) w
set_option maxHeartbeats 4000000 in
set_option maxRecDepth 100000 in
theorem kq_AckBookModel_came_22 {b0 : Nat} {H0 : Heap} {D : va_G} {vu vs : Value} {X M : Nat} {l : Launch} (hT : z_TB (zGG b0 H0 D vu vs X M)) (hfl : l.flags = pinnedFlags ++ [noTraceFlag]) (hE : vu.isRef = true ∧ vs.isRef = true) {p : Program} {e : Env} {R : Room} {s : State} {m : MethodId} {args : Array Value} {below : List Frame} {meth : Method} {c : Code} {w0 : zW} {F : Nat} (hC : z_C (zGG b0 H0 D vu vs X M) p e s m meth c c_AckBookModel_came 7 y_AckBookModel_came.cls) (hr : meth.sig.returnType = (some FieldType.boolean)) (hRc : R.cells = w0.2.1) (hRs : R.slots = w0.2.2.1) (hFr : c.exceptionTable.toList = []) (hRt : R.frames = 2 ∧ R.locals = 47) (hnm : meth.name = y_AckBookModel_came.name) (rL0 : Option Nat) (xL1 : Int32) (yL2 : Int64) (xL4 : Int32) (rS0 : Option Nat) (w : zW) (res : zO × zW) (h : q_AckBookModel_came_22 F X rL0 xL1 yL2 xL4 rS0 w = some res) (H : Heap) (locs : List Loc) (cells slots : Nat) (ls : Array Slot) (hZ : z_Z (zGG b0 H0 D vu vs X M) R s w H locs cells slots) (hl : lv_has ls 7 [(0, va_rf rL0), (1, .int xL1), (2, .long yL2), (4, .int xL4)]) : W p l e R s m args below meth c H locs cells slots (z_Q (zGG b0 H0 D vu vs X M) below s w0 res) (F0 m 22 ls [va_rf rS0]) := by
  unfold q_AckBookModel_came_22 at h
  refine lv_iconst (v := (1 : Int32)) hC.1 hC.2.1 d_AckBookModel_came_22 (by decide) ?_
  refine lv_goto (tgt := 27) hC.1 hC.2.1 d_AckBookModel_came_23 (by decide) ?_
  exact kq_AckBookModel_came_27 hT hfl hE hC hr hRc hRs hFr hRt hnm _ _ _ _ _ _ _ _ h _ _ _ _ _ hZ (lv_sub hl [0, 1, 2, 3] rfl)
def f_AckBookModel_came (F X : Nat) (a0 : Option Nat) (pI1 : Int32) (pJ2 : Int64) (pI3 : Int32) (w : zW) : zR :=
  z_cI (f_AckBookModel_noSpace F X pI1 w) fun v24 w =>
  if v24 = 0 then (
    if (lg_cmp pJ2 (0 : Int64)) < 0 then (
      q_AckBookModel_came_22 F X a0 pI1 pJ2 pI3 a0 w)
    else (
      if (lg_cmp pJ2 (4611686018427387903 : Int64)) ≤ 0 then (
        q_AckBookModel_came_27 F X a0 pI1 pJ2 pI3 a0 (0 : Int32) w)
      else (
        q_AckBookModel_came_22 F X a0 pI1 pJ2 pI3 a0 w)))
  else (
    q_AckBookModel_came_22 F X a0 pI1 pJ2 pI3 a0 w)
set_option maxHeartbeats 4000000 in
set_option maxRecDepth 100000 in
theorem k_AckBookModel_came {b0 : Nat} {H0 : Heap} {D : va_G} {vu vs : Value} {X M : Nat} {l : Launch} (hT : z_TB (zGG b0 H0 D vu vs X M)) (hfl : l.flags = pinnedFlags ++ [noTraceFlag]) (hE : vu.isRef = true ∧ vs.isRef = true) {a0 : Option Nat} {pI1 : Int32} {pJ2 : Int64} {pI3 : Int32} (F : Nat) {w : zW} (res : zO × zW) (h : f_AckBookModel_came F X a0 pI1 pJ2 pI3 w = some res) : z_Ct (zGG b0 H0 D vu vs X M) l y_AckBookModel_came (.code y_AckBookModel_came c_AckBookModel_came 7 (some FieldType.boolean)) 2 47 [va_rf a0, .int pI1, .long pJ2, .int pI3] w res := by
  refine z_ct hT hfl (by decide) (by simp only [z_sl_i, z_sl_j, z_sl_r, z_sl_n]; decide) ?_
  intro p e R s m args below meth c hC hr hRc hRs hRt hnm hFr H ls hZ hl
  simp only [z_la_i, z_la_j, z_la_r, z_la_n] at hl
  have hl : lv_has ls 7 [(0, va_rf a0), (1, .int pI1), (2, .long pJ2), (4, .int pI3)] := hl
  unfold f_AckBookModel_came at h
  refine x_aload_n hC d_AckBookModel_came_0 rfl (lv_at hl 0 rfl) ?_
  refine lv_iload_n hC.1 hC.2.1 d_AckBookModel_came_1 rfl (lv_at hl 1 rfl) ?_
  obtain ⟨w1_, o1_, hF_, ha_⟩ := z_cI_spec h
  refine x_goes hC hRc hRs hFr ha_ (z_goS (As := [.int pI1]) hC hZ (k_AckBookModel_noSpace hT hfl hE _ _ hF_) t_944 t_945 t_12 t_946 ⟨by decide, by decide, (by decide +kernel : (parseMethodDescriptor y_AckBookModel_noSpace.desc).map (fun d => d.parameters.length) = some 1)⟩ (by rw [hRt.1]; decide) (by rw [hRt.2]; decide) hl.1 rfl (by first | exact Nat.le_of_ble_eq_true rfl | simp [z_rfc, z_ci, z_cj]) d_AckBookModel_came_2) (fun v_ hv H locs cells slots hZ => ?_)
  obtain ⟨v24, rfl, h⟩ := hv
  generalize w1_ = w at h hZ
  refine lv_if_ne (tgt := 22) hC.1 hC.2.1 d_AckBookModel_came_5 (by decide) (fun hc => ?_) (fun hc => ?_)
  · have h := z_ifn hc h
    exact kq_AckBookModel_came_22 hT hfl hE hC hr hRc hRs hFr hRt hnm _ _ _ _ _ _ _ h _ _ _ _ _ hZ (lv_sub hl [0, 1, 2, 3] rfl)
  · have h := z_ifp hc h
    refine lv_lload_n hC.1 hC.2.1 d_AckBookModel_came_8 rfl (lv_at hl 2 rfl) ?_
    refine lv_lconst (v := (0 : Int64)) hC.1 hC.2.1 d_AckBookModel_came_9 (by decide) ?_
    refine W.lcmp hC.1 hC.2.1 d_AckBookModel_came_10 ?_
    refine lv_if_lt (tgt := 22) hC.1 hC.2.1 d_AckBookModel_came_11 (by decide) (fun hc => ?_) (fun hc => ?_)
    · have h := z_ifp hc h
      exact kq_AckBookModel_came_22 hT hfl hE hC hr hRc hRs hFr hRt hnm _ _ _ _ _ _ _ h _ _ _ _ _ hZ (lv_sub hl [0, 1, 2, 3] rfl)
    · have h := z_ifn hc h
      refine lv_lload_n hC.1 hC.2.1 d_AckBookModel_came_14 rfl (lv_at hl 2 rfl) ?_
      refine lv_ldc2 (v := (4611686018427387903 : Int64)) hC.1 hC.2.1 hC.2.2.2.1 ((hZ.1.tb hC.2.2.2.2.2.2 args) _ t_1052) d_AckBookModel_came_15 ?_
      refine W.lcmp hC.1 hC.2.1 d_AckBookModel_came_18 ?_
      refine lv_if_le (tgt := 26) hC.1 hC.2.1 d_AckBookModel_came_19 (by decide) (fun hc => ?_) (fun hc => ?_)
      · have h := z_ifp hc h
        refine lv_iconst (v := (0 : Int32)) hC.1 hC.2.1 d_AckBookModel_came_26 (by decide) ?_
        exact kq_AckBookModel_came_27 hT hfl hE hC hr hRc hRs hFr hRt hnm _ _ _ _ _ _ _ _ h _ _ _ _ _ hZ (lv_sub hl [0, 1, 2, 3] rfl)
      · have h := z_ifn hc h
        exact kq_AckBookModel_came_22 hT hfl hE hC hr hRc hRs hFr hRt hnm _ _ _ _ _ _ _ h _ _ _ _ _ hZ (lv_sub hl [0, 1, 2, 3] rfl)
def f_AckBookModel_due (F X : Nat) (a0 : Option Nat) (pI1 : Int32) (w : zW) : zR :=
  z_cI (f_AckBookModel_noSpace F X pI1 w) fun v2 w =>
  z_this w 10 a0 <|
  z_cI (f_AckBookModel_fails F X a0 v2 (1 : Int32) w) fun v4 w =>
  if v4 = 0 then (
    z_getR w 10 35 a0 fun r5 =>
    z_ldI w .int r5 pI1 fun v6 =>
    if v6 = 0 then (
      some (.inl (some (.int (0 : Int32))), w))
    else (
      if pI1 < (2 : Int32) then (
        some (.inl (some (.int (1 : Int32))), w))
      else (
        z_getR w 10 35 a0 fun r7 =>
        z_ldI w .int r7 pI1 fun v8 =>
        if (1 : Int32) < v8 then (
          some (.inl (some (.int (1 : Int32))), w))
        else (
          z_getR w 10 37 a0 fun r9 =>
          z_ldI w .boolean r9 pI1 fun v10 =>
          if v10 = 0 then (
            z_getI w 10 1 a0 fun v11 =>
            z_getR w 10 36 a0 fun r12 =>
            z_ldI w .int r12 pI1 fun v13 =>
            if (v11 - v13) < (25 : Int32) then (
              some (.inl (some (.int (0 : Int32))), w))
            else (
              some (.inl (some (.int (1 : Int32))), w)))
          else (
            some (.inl (some (.int (1 : Int32))), w))))))
  else (
    some (.inl (some (.int (0 : Int32))), w))
set_option maxHeartbeats 4000000 in
set_option maxRecDepth 100000 in
theorem k_AckBookModel_due {b0 : Nat} {H0 : Heap} {D : va_G} {vu vs : Value} {X M : Nat} {l : Launch} (hT : z_TB (zGG b0 H0 D vu vs X M)) (hfl : l.flags = pinnedFlags ++ [noTraceFlag]) (hE : vu.isRef = true ∧ vs.isRef = true) {a0 : Option Nat} {pI1 : Int32} (F : Nat) {w : zW} (res : zO × zW) (h : f_AckBookModel_due F X a0 pI1 w = some res) : z_Ct (zGG b0 H0 D vu vs X M) l y_AckBookModel_due (.code y_AckBookModel_due c_AckBookModel_due 2 (some FieldType.boolean)) 1 22 [va_rf a0, .int pI1] w res := by
  refine z_ct hT hfl (by decide) (by simp only [z_sl_i, z_sl_j, z_sl_r, z_sl_n]; decide) ?_
  intro p e R s m args below meth c hC hr hRc hRs hRt hnm hFr H ls hZ hl
  simp only [z_la_i, z_la_j, z_la_r, z_la_n] at hl
  have hl : lv_has ls 2 [(0, va_rf a0), (1, .int pI1)] := hl
  unfold f_AckBookModel_due at h
  refine x_aload_n hC d_AckBookModel_due_0 rfl (lv_at hl 0 rfl) ?_
  refine lv_iload_n hC.1 hC.2.1 d_AckBookModel_due_1 rfl (lv_at hl 1 rfl) ?_
  obtain ⟨w1_, o1_, hF_, ha_⟩ := z_cI_spec h
  refine x_goes hC hRc hRs hFr ha_ (z_goS (As := [.int pI1]) hC hZ (k_AckBookModel_noSpace hT hfl hE _ _ hF_) t_944 t_945 t_12 t_946 ⟨by decide, by decide, (by decide +kernel : (parseMethodDescriptor y_AckBookModel_noSpace.desc).map (fun d => d.parameters.length) = some 1)⟩ (by rw [hRt.1]; decide) (by rw [hRt.2]; decide) hl.1 rfl (by first | exact Nat.le_of_ble_eq_true rfl | simp [z_rfc, z_ci, z_cj]) d_AckBookModel_due_2) (fun v_ hv H locs cells slots hZ => ?_)
  obtain ⟨v2, rfl, h⟩ := hv
  generalize w1_ = w at h hZ
  refine lv_iconst (v := (1 : Int32)) hC.1 hC.2.1 d_AckBookModel_due_5 (by decide) ?_
  obtain ⟨a_, fs_, eo_, h⟩ := z_this_spec h
  obtain ⟨w1_, o1_, hF_, ha_⟩ := z_cI_spec h
  refine x_goes hC hRc hRs hFr ha_ (z_goV (As := [.int v2, .int (1 : Int32)]) hC hZ zc10 eo_ (k_AckBookModel_fails hT hfl hE _ _ hF_) t_947 t_949 ts_AckBookModel_fails t_12 t_950 ⟨by decide, by decide, (by decide +kernel : (parseMethodDescriptor y_AckBookModel_fails.desc).map (fun d => d.parameters.length) = some 2)⟩ (by rw [hRt.1]; decide) (by rw [hRt.2]; decide) hl.1 rfl (by first | exact Nat.le_of_ble_eq_true rfl | simp [z_rfc, z_ci, z_cj]) d_AckBookModel_due_6) (fun v_ hv H locs cells slots hZ => ?_)
  obtain ⟨v4, rfl, h⟩ := hv
  generalize w1_ = w at h hZ
  refine lv_if_ne (tgt := 21) hC.1 hC.2.1 d_AckBookModel_due_9 (by decide) (fun hc => ?_) (fun hc => ?_)
  · have h := z_ifn hc h
    refine lv_iconst (v := (0 : Int32)) hC.1 hC.2.1 d_AckBookModel_due_21 (by decide) ?_
    exact x_iret hC hRc hRs hZ hr rfl h d_AckBookModel_due_22
  · have h := z_ifp hc h
    refine x_aload_n hC d_AckBookModel_due_12 rfl (lv_at hl 0 rfl) ?_
    refine x_getR hC hZ zc10 h (by decide) t_854 (fun _ h9 => h9) d_AckBookModel_due_13 (fun r5 h => ?_)
    refine lv_iload_n hC.1 hC.2.1 d_AckBookModel_due_16 rfl (lv_at hl 1 rfl) ?_
    refine x_ldI hC hZ h d_AckBookModel_due_17 (fun v6 h => ?_)
    refine lv_if_ne (tgt := 23) hC.1 hC.2.1 d_AckBookModel_due_18 (by decide) (fun hc => ?_) (fun hc => ?_)
    · have h := z_ifn hc h
      refine lv_iload_n hC.1 hC.2.1 d_AckBookModel_due_23 rfl (lv_at hl 1 rfl) ?_
      refine lv_iconst (v := (2 : Int32)) hC.1 hC.2.1 d_AckBookModel_due_24 (by decide) ?_
      refine lv_icmp_lt (tgt := 63) hC.1 hC.2.1 d_AckBookModel_due_25 (by decide) (fun hc => ?_) (fun hc => ?_)
      · have h := z_ifp hc h
        refine lv_iconst (v := (1 : Int32)) hC.1 hC.2.1 d_AckBookModel_due_63 (by decide) ?_
        refine lv_goto (tgt := 68) hC.1 hC.2.1 d_AckBookModel_due_64 (by decide) ?_
        exact x_iret hC hRc hRs hZ hr rfl h d_AckBookModel_due_68
      · have h := z_ifn hc h
        refine x_aload_n hC d_AckBookModel_due_28 rfl (lv_at hl 0 rfl) ?_
        refine x_getR hC hZ zc10 h (by decide) t_854 (fun _ h9 => h9) d_AckBookModel_due_29 (fun r7 h => ?_)
        refine lv_iload_n hC.1 hC.2.1 d_AckBookModel_due_32 rfl (lv_at hl 1 rfl) ?_
        refine x_ldI hC hZ h d_AckBookModel_due_33 (fun v8 h => ?_)
        refine lv_iconst (v := (1 : Int32)) hC.1 hC.2.1 d_AckBookModel_due_34 (by decide) ?_
        refine lv_icmp_gt (tgt := 63) hC.1 hC.2.1 d_AckBookModel_due_35 (by decide) (fun hc => ?_) (fun hc => ?_)
        · have h := z_ifp hc h
          refine lv_iconst (v := (1 : Int32)) hC.1 hC.2.1 d_AckBookModel_due_63 (by decide) ?_
          refine lv_goto (tgt := 68) hC.1 hC.2.1 d_AckBookModel_due_64 (by decide) ?_
          exact x_iret hC hRc hRs hZ hr rfl h d_AckBookModel_due_68
        · have h := z_ifn hc h
          refine x_aload_n hC d_AckBookModel_due_38 rfl (lv_at hl 0 rfl) ?_
          refine x_getR hC hZ zc10 h (by decide) t_856 (fun _ h9 => h9) d_AckBookModel_due_39 (fun r9 h => ?_)
          refine lv_iload_n hC.1 hC.2.1 d_AckBookModel_due_42 rfl (lv_at hl 1 rfl) ?_
          refine x_ldZ hC hZ h d_AckBookModel_due_43 (fun v10 h => ?_)
          refine lv_if_ne (tgt := 63) hC.1 hC.2.1 d_AckBookModel_due_44 (by decide) (fun hc => ?_) (fun hc => ?_)
          · have h := z_ifn hc h
            refine lv_iconst (v := (1 : Int32)) hC.1 hC.2.1 d_AckBookModel_due_63 (by decide) ?_
            refine lv_goto (tgt := 68) hC.1 hC.2.1 d_AckBookModel_due_64 (by decide) ?_
            exact x_iret hC hRc hRs hZ hr rfl h d_AckBookModel_due_68
          · have h := z_ifp hc h
            refine x_aload_n hC d_AckBookModel_due_47 rfl (lv_at hl 0 rfl) ?_
            refine x_getI hC hZ zc10 h (by decide) t_820 (fun _ h9 => h9) d_AckBookModel_due_48 (fun v11 h => ?_)
            refine x_aload_n hC d_AckBookModel_due_51 rfl (lv_at hl 0 rfl) ?_
            refine x_getR hC hZ zc10 h (by decide) t_855 (fun _ h9 => h9) d_AckBookModel_due_52 (fun r12 h => ?_)
            refine lv_iload_n hC.1 hC.2.1 d_AckBookModel_due_55 rfl (lv_at hl 1 rfl) ?_
            refine x_ldI hC hZ h d_AckBookModel_due_56 (fun v13 h => ?_)
            refine lv_isub hC.1 hC.2.1 d_AckBookModel_due_57 ?_
            refine lv_bipush (v := (25 : Int32)) hC.1 hC.2.1 d_AckBookModel_due_58 (by decide) ?_
            refine lv_icmp_lt (tgt := 67) hC.1 hC.2.1 d_AckBookModel_due_60 (by decide) (fun hc => ?_) (fun hc => ?_)
            · have h := z_ifp hc h
              refine lv_iconst (v := (0 : Int32)) hC.1 hC.2.1 d_AckBookModel_due_67 (by decide) ?_
              exact x_iret hC hRc hRs hZ hr rfl h d_AckBookModel_due_68
            · have h := z_ifn hc h
              refine lv_iconst (v := (1 : Int32)) hC.1 hC.2.1 d_AckBookModel_due_63 (by decide) ?_
              refine lv_goto (tgt := 68) hC.1 hC.2.1 d_AckBookModel_due_64 (by decide) ?_
              exact x_iret hC hRc hRs hZ hr rfl h d_AckBookModel_due_68
    · have h := z_ifp hc h
      refine lv_iconst (v := (0 : Int32)) hC.1 hC.2.1 d_AckBookModel_due_21 (by decide) ?_
      exact x_iret hC hRc hRs hZ hr rfl h d_AckBookModel_due_22
def q_AckBookModel_written_36 (F X : Nat) (rL0 : Option Nat) (xL1 : Int32) (rS0 : Option Nat) (xS1 : Int32) (w : zW) : zR :=
  z_this w 10 rS0 <|
  z_cI (f_AckBookModel_fails F X rS0 xS1 (2 : Int32) w) fun v2 w =>
  if v2 = 0 then (
    z_getR w 10 35 rL0 fun r3 =>
    z_stI w r3 xL1 (0 : Int32) fun w =>
    z_getR w 10 37 rL0 fun r4 =>
    z_stZ w r4 xL1 (0 : Int32) fun w =>
    z_getI w 10 1 rL0 fun v5 =>
    z_getR w 10 34 rL0 fun r6 =>
    z_ldI w .int r6 xL1 fun v7 =>
    some (.inl (some (.int (v5 - v7))), w))
  else (
    some (.inl (some (.int (0 : Int32))), w))
set_option maxHeartbeats 4000000 in
set_option maxRecDepth 100000 in
theorem kq_AckBookModel_written_36 {b0 : Nat} {H0 : Heap} {D : va_G} {vu vs : Value} {X M : Nat} {l : Launch} (hT : z_TB (zGG b0 H0 D vu vs X M)) (hfl : l.flags = pinnedFlags ++ [noTraceFlag]) (hE : vu.isRef = true ∧ vs.isRef = true) {p : Program} {e : Env} {R : Room} {s : State} {m : MethodId} {args : Array Value} {below : List Frame} {meth : Method} {c : Code} {w0 : zW} {F : Nat} (hC : z_C (zGG b0 H0 D vu vs X M) p e s m meth c c_AckBookModel_written 2 y_AckBookModel_written.cls) (hr : meth.sig.returnType = (some FieldType.int)) (hRc : R.cells = w0.2.1) (hRs : R.slots = w0.2.2.1) (hFr : c.exceptionTable.toList = []) (hRt : R.frames = 1 ∧ R.locals = 22) (hnm : meth.name = y_AckBookModel_written.name) (rL0 : Option Nat) (xL1 : Int32) (rS0 : Option Nat) (xS1 : Int32) (w : zW) (res : zO × zW) (h : q_AckBookModel_written_36 F X rL0 xL1 rS0 xS1 w = some res) (H : Heap) (locs : List Loc) (cells slots : Nat) (ls : Array Slot) (hZ : z_Z (zGG b0 H0 D vu vs X M) R s w H locs cells slots) (hl : lv_has ls 2 [(0, va_rf rL0), (1, .int xL1)]) : W p l e R s m args below meth c H locs cells slots (z_Q (zGG b0 H0 D vu vs X M) below s w0 res) (F0 m 36 ls [.int xS1, va_rf rS0]) := by
  unfold q_AckBookModel_written_36 at h
  refine lv_iconst (v := (2 : Int32)) hC.1 hC.2.1 d_AckBookModel_written_36 (by decide) ?_
  obtain ⟨a_, fs_, eo_, h⟩ := z_this_spec h
  obtain ⟨w1_, o1_, hF_, ha_⟩ := z_cI_spec h
  refine x_goes hC hRc hRs hFr ha_ (z_goV (As := [.int xS1, .int (2 : Int32)]) hC hZ zc10 eo_ (k_AckBookModel_fails hT hfl hE _ _ hF_) t_947 t_949 ts_AckBookModel_fails t_12 t_950 ⟨by decide, by decide, (by decide +kernel : (parseMethodDescriptor y_AckBookModel_fails.desc).map (fun d => d.parameters.length) = some 2)⟩ (by rw [hRt.1]; decide) (by rw [hRt.2]; decide) hl.1 rfl (by first | exact Nat.le_of_ble_eq_true rfl | simp [z_rfc, z_ci, z_cj]) d_AckBookModel_written_37) (fun v_ hv H locs cells slots hZ => ?_)
  obtain ⟨v2, rfl, h⟩ := hv
  generalize w1_ = w at h hZ
  refine lv_if_eq (tgt := 45) hC.1 hC.2.1 d_AckBookModel_written_40 (by decide) (fun hc => ?_) (fun hc => ?_)
  · have h := z_ifp hc h
    refine x_aload_n hC d_AckBookModel_written_45 rfl (lv_at hl 0 rfl) ?_
    refine x_getR hC hZ zc10 h (by decide) t_854 (fun _ h9 => h9) d_AckBookModel_written_46 (fun r3 h => ?_)
    refine lv_iload_n hC.1 hC.2.1 d_AckBookModel_written_49 rfl (lv_at hl 1 rfl) ?_
    refine lv_iconst (v := (0 : Int32)) hC.1 hC.2.1 d_AckBookModel_written_50 (by decide) ?_
    refine x_stI hC hZ h d_AckBookModel_written_51 (fun w H locs hZ h => ?_)
    refine x_aload_n hC d_AckBookModel_written_52 rfl (lv_at hl 0 rfl) ?_
    refine x_getR hC hZ zc10 h (by decide) t_856 (fun _ h9 => h9) d_AckBookModel_written_53 (fun r4 h => ?_)
    refine lv_iload_n hC.1 hC.2.1 d_AckBookModel_written_56 rfl (lv_at hl 1 rfl) ?_
    refine lv_iconst (v := (0 : Int32)) hC.1 hC.2.1 d_AckBookModel_written_57 (by decide) ?_
    refine x_stZ hC hZ h d_AckBookModel_written_58 (fun w H locs hZ h => ?_)
    refine x_aload_n hC d_AckBookModel_written_59 rfl (lv_at hl 0 rfl) ?_
    refine x_getI hC hZ zc10 h (by decide) t_820 (fun _ h9 => h9) d_AckBookModel_written_60 (fun v5 h => ?_)
    refine x_aload_n hC d_AckBookModel_written_63 rfl (lv_at hl 0 rfl) ?_
    refine x_getR hC hZ zc10 h (by decide) t_853 (fun _ h9 => h9) d_AckBookModel_written_64 (fun r6 h => ?_)
    refine lv_iload_n hC.1 hC.2.1 d_AckBookModel_written_67 rfl (lv_at hl 1 rfl) ?_
    refine x_ldI hC hZ h d_AckBookModel_written_68 (fun v7 h => ?_)
    refine lv_isub hC.1 hC.2.1 d_AckBookModel_written_69 ?_
    exact x_iret hC hRc hRs hZ hr rfl h d_AckBookModel_written_70
  · have h := z_ifn hc h
    refine lv_iconst (v := (0 : Int32)) hC.1 hC.2.1 d_AckBookModel_written_43 (by decide) ?_
    exact x_iret hC hRc hRs hZ hr rfl h d_AckBookModel_written_44
def q_AckBookModel_written_31 (F X : Nat) (rL0 : Option Nat) (xL1 : Int32) (rS0 : Option Nat) (w : zW) : zR :=
  q_AckBookModel_written_36 F X rL0 xL1 rS0 (1 : Int32) w
set_option maxHeartbeats 4000000 in
set_option maxRecDepth 100000 in
theorem kq_AckBookModel_written_31 {b0 : Nat} {H0 : Heap} {D : va_G} {vu vs : Value} {X M : Nat} {l : Launch} (hT : z_TB (zGG b0 H0 D vu vs X M)) (hfl : l.flags = pinnedFlags ++ [noTraceFlag]) (hE : vu.isRef = true ∧ vs.isRef = true) {p : Program} {e : Env} {R : Room} {s : State} {m : MethodId} {args : Array Value} {below : List Frame} {meth : Method} {c : Code} {w0 : zW} {F : Nat} (hC : z_C (zGG b0 H0 D vu vs X M) p e s m meth c c_AckBookModel_written 2 y_AckBookModel_written.cls) (hr : meth.sig.returnType = (some FieldType.int)) (hRc : R.cells = w0.2.1) (hRs : R.slots = w0.2.2.1) (hFr : c.exceptionTable.toList = []) (hRt : R.frames = 1 ∧ R.locals = 22) (hnm : meth.name = y_AckBookModel_written.name) (rL0 : Option Nat) (xL1 : Int32) (rS0 : Option Nat) (w : zW) (res : zO × zW) (h : q_AckBookModel_written_31 F X rL0 xL1 rS0 w = some res) (H : Heap) (locs : List Loc) (cells slots : Nat) (ls : Array Slot) (hZ : z_Z (zGG b0 H0 D vu vs X M) R s w H locs cells slots) (hl : lv_has ls 2 [(0, va_rf rL0), (1, .int xL1)]) : W p l e R s m args below meth c H locs cells slots (z_Q (zGG b0 H0 D vu vs X M) below s w0 res) (F0 m 31 ls [va_rf rS0]) := by
  unfold q_AckBookModel_written_31 at h
  refine lv_iconst (v := (1 : Int32)) hC.1 hC.2.1 d_AckBookModel_written_31 (by decide) ?_
  refine lv_goto (tgt := 36) hC.1 hC.2.1 d_AckBookModel_written_32 (by decide) ?_
  exact kq_AckBookModel_written_36 hT hfl hE hC hr hRc hRs hFr hRt hnm _ _ _ _ _ _ h _ _ _ _ _ hZ (lv_sub hl [0, 1] rfl)
def f_AckBookModel_written (F X : Nat) (a0 : Option Nat) (pI1 : Int32) (w : zW) : zR :=
  z_cI (f_AckBookModel_noSpace F X pI1 w) fun v9 w =>
  z_this w 10 a0 <|
  z_cI (f_AckBookModel_fails F X a0 v9 (1 : Int32) w) fun v11 w =>
  if v11 = 0 then (
    z_getR w 10 30 a0 fun r12 =>
    z_ldI w .int r12 pI1 fun v13 =>
    if v13 = 0 then (
      q_AckBookModel_written_31 F X a0 pI1 a0 w)
    else (
      z_getR w 10 11 a0 fun r14 =>
      z_ldI w .boolean r14 pI1 fun v15 =>
      if v15 = 0 then (
        q_AckBookModel_written_36 F X a0 pI1 a0 (0 : Int32) w)
      else (
        q_AckBookModel_written_31 F X a0 pI1 a0 w)))
  else (
    some (.inl (some (.int (0 : Int32))), w))
set_option maxHeartbeats 4000000 in
set_option maxRecDepth 100000 in
theorem k_AckBookModel_written {b0 : Nat} {H0 : Heap} {D : va_G} {vu vs : Value} {X M : Nat} {l : Launch} (hT : z_TB (zGG b0 H0 D vu vs X M)) (hfl : l.flags = pinnedFlags ++ [noTraceFlag]) (hE : vu.isRef = true ∧ vs.isRef = true) {a0 : Option Nat} {pI1 : Int32} (F : Nat) {w : zW} (res : zO × zW) (h : f_AckBookModel_written F X a0 pI1 w = some res) : z_Ct (zGG b0 H0 D vu vs X M) l y_AckBookModel_written (.code y_AckBookModel_written c_AckBookModel_written 2 (some FieldType.int)) 1 22 [va_rf a0, .int pI1] w res := by
  refine z_ct hT hfl (by decide) (by simp only [z_sl_i, z_sl_j, z_sl_r, z_sl_n]; decide) ?_
  intro p e R s m args below meth c hC hr hRc hRs hRt hnm hFr H ls hZ hl
  simp only [z_la_i, z_la_j, z_la_r, z_la_n] at hl
  have hl : lv_has ls 2 [(0, va_rf a0), (1, .int pI1)] := hl
  unfold f_AckBookModel_written at h
  refine x_aload_n hC d_AckBookModel_written_0 rfl (lv_at hl 0 rfl) ?_
  refine lv_iload_n hC.1 hC.2.1 d_AckBookModel_written_1 rfl (lv_at hl 1 rfl) ?_
  obtain ⟨w1_, o1_, hF_, ha_⟩ := z_cI_spec h
  refine x_goes hC hRc hRs hFr ha_ (z_goS (As := [.int pI1]) hC hZ (k_AckBookModel_noSpace hT hfl hE _ _ hF_) t_944 t_945 t_12 t_946 ⟨by decide, by decide, (by decide +kernel : (parseMethodDescriptor y_AckBookModel_noSpace.desc).map (fun d => d.parameters.length) = some 1)⟩ (by rw [hRt.1]; decide) (by rw [hRt.2]; decide) hl.1 rfl (by first | exact Nat.le_of_ble_eq_true rfl | simp [z_rfc, z_ci, z_cj]) d_AckBookModel_written_2) (fun v_ hv H locs cells slots hZ => ?_)
  obtain ⟨v9, rfl, h⟩ := hv
  generalize w1_ = w at h hZ
  refine lv_iconst (v := (1 : Int32)) hC.1 hC.2.1 d_AckBookModel_written_5 (by decide) ?_
  obtain ⟨a_, fs_, eo_, h⟩ := z_this_spec h
  obtain ⟨w1_, o1_, hF_, ha_⟩ := z_cI_spec h
  refine x_goes hC hRc hRs hFr ha_ (z_goV (As := [.int v9, .int (1 : Int32)]) hC hZ zc10 eo_ (k_AckBookModel_fails hT hfl hE _ _ hF_) t_947 t_949 ts_AckBookModel_fails t_12 t_950 ⟨by decide, by decide, (by decide +kernel : (parseMethodDescriptor y_AckBookModel_fails.desc).map (fun d => d.parameters.length) = some 2)⟩ (by rw [hRt.1]; decide) (by rw [hRt.2]; decide) hl.1 rfl (by first | exact Nat.le_of_ble_eq_true rfl | simp [z_rfc, z_ci, z_cj]) d_AckBookModel_written_6) (fun v_ hv H locs cells slots hZ => ?_)
  obtain ⟨v11, rfl, h⟩ := hv
  generalize w1_ = w at h hZ
  refine lv_if_ne (tgt := 43) hC.1 hC.2.1 d_AckBookModel_written_9 (by decide) (fun hc => ?_) (fun hc => ?_)
  · have h := z_ifn hc h
    refine lv_iconst (v := (0 : Int32)) hC.1 hC.2.1 d_AckBookModel_written_43 (by decide) ?_
    exact x_iret hC hRc hRs hZ hr rfl h d_AckBookModel_written_44
  · have h := z_ifp hc h
    refine x_aload_n hC d_AckBookModel_written_12 rfl (lv_at hl 0 rfl) ?_
    refine x_aload_n hC d_AckBookModel_written_13 rfl (lv_at hl 0 rfl) ?_
    refine x_getR hC hZ zc10 h (by decide) t_849 (fun _ h9 => h9) d_AckBookModel_written_14 (fun r12 h => ?_)
    refine lv_iload_n hC.1 hC.2.1 d_AckBookModel_written_17 rfl (lv_at hl 1 rfl) ?_
    refine x_ldI hC hZ h d_AckBookModel_written_18 (fun v13 h => ?_)
    refine lv_if_eq (tgt := 31) hC.1 hC.2.1 d_AckBookModel_written_19 (by decide) (fun hc => ?_) (fun hc => ?_)
    · have h := z_ifp hc h
      exact kq_AckBookModel_written_31 hT hfl hE hC hr hRc hRs hFr hRt hnm _ _ _ _ _ h _ _ _ _ _ hZ (lv_sub hl [0, 1] rfl)
    · have h := z_ifn hc h
      refine x_aload_n hC d_AckBookModel_written_22 rfl (lv_at hl 0 rfl) ?_
      refine x_getR hC hZ zc10 h (by decide) t_830 (fun _ h9 => h9) d_AckBookModel_written_23 (fun r14 h => ?_)
      refine lv_iload_n hC.1 hC.2.1 d_AckBookModel_written_26 rfl (lv_at hl 1 rfl) ?_
      refine x_ldZ hC hZ h d_AckBookModel_written_27 (fun v15 h => ?_)
      refine lv_if_eq (tgt := 35) hC.1 hC.2.1 d_AckBookModel_written_28 (by decide) (fun hc => ?_) (fun hc => ?_)
      · have h := z_ifp hc h
        refine lv_iconst (v := (0 : Int32)) hC.1 hC.2.1 d_AckBookModel_written_35 (by decide) ?_
        exact kq_AckBookModel_written_36 hT hfl hE hC hr hRc hRs hFr hRt hnm _ _ _ _ _ _ h _ _ _ _ _ hZ (lv_sub hl [0, 1] rfl)
      · have h := z_ifn hc h
        exact kq_AckBookModel_written_31 hT hfl hE hC hr hRc hRs hFr hRt hnm _ _ _ _ _ h _ _ _ _ _ hZ (lv_sub hl [0, 1] rfl)
def q_AckBookModel_range_32 (F X : Nat) (rL0 : Option Nat) (xL1 : Int32) (xL2 : Int32) (xL3 : Int32) (rS0 : Option Nat) (xS1 : Int32) (w : zW) : zR :=
  z_this w 10 rS0 <|
  z_cI (f_AckBookModel_fails F X rS0 xS1 (2 : Int32) w) fun v2 w =>
  if v2 = 0 then (
    z_getR w 10 30 rL0 fun r3 =>
    z_ldI w .int r3 xL1 fun v4 =>
    if xL3 = 0 then (
      z_getR w 10 31 rL0 fun r5 =>
      z_ldL w r5 (((((65 : Int32) * xL1) + v4) - (1 : Int32)) - xL2) fun v6 =>
      some (.inl (some (.long v6)), w))
    else (
      z_getR w 10 32 rL0 fun r7 =>
      z_ldL w r7 (((((65 : Int32) * xL1) + v4) - (1 : Int32)) - xL2) fun v8 =>
      some (.inl (some (.long v8)), w)))
  else (
    some (.inl (some (.long (0 : Int64))), w))
set_option maxHeartbeats 4000000 in
set_option maxRecDepth 100000 in
theorem kq_AckBookModel_range_32 {b0 : Nat} {H0 : Heap} {D : va_G} {vu vs : Value} {X M : Nat} {l : Launch} (hT : z_TB (zGG b0 H0 D vu vs X M)) (hfl : l.flags = pinnedFlags ++ [noTraceFlag]) (hE : vu.isRef = true ∧ vs.isRef = true) {p : Program} {e : Env} {R : Room} {s : State} {m : MethodId} {args : Array Value} {below : List Frame} {meth : Method} {c : Code} {w0 : zW} {F : Nat} (hC : z_C (zGG b0 H0 D vu vs X M) p e s m meth c c_AckBookModel_range 5 y_AckBookModel_range.cls) (hr : meth.sig.returnType = (some FieldType.long)) (hRc : R.cells = w0.2.1) (hRs : R.slots = w0.2.2.1) (hFr : c.exceptionTable.toList = []) (hRt : R.frames = 1 ∧ R.locals = 22) (hnm : meth.name = y_AckBookModel_range.name) (rL0 : Option Nat) (xL1 : Int32) (xL2 : Int32) (xL3 : Int32) (rS0 : Option Nat) (xS1 : Int32) (w : zW) (res : zO × zW) (h : q_AckBookModel_range_32 F X rL0 xL1 xL2 xL3 rS0 xS1 w = some res) (H : Heap) (locs : List Loc) (cells slots : Nat) (ls : Array Slot) (hZ : z_Z (zGG b0 H0 D vu vs X M) R s w H locs cells slots) (hl : lv_has ls 5 [(0, va_rf rL0), (1, .int xL1), (2, .int xL2), (3, .int xL3)]) : W p l e R s m args below meth c H locs cells slots (z_Q (zGG b0 H0 D vu vs X M) below s w0 res) (F0 m 32 ls [.int xS1, va_rf rS0]) := by
  unfold q_AckBookModel_range_32 at h
  refine lv_iconst (v := (2 : Int32)) hC.1 hC.2.1 d_AckBookModel_range_32 (by decide) ?_
  obtain ⟨a_, fs_, eo_, h⟩ := z_this_spec h
  obtain ⟨w1_, o1_, hF_, ha_⟩ := z_cI_spec h
  refine x_goes hC hRc hRs hFr ha_ (z_goV (As := [.int xS1, .int (2 : Int32)]) hC hZ zc10 eo_ (k_AckBookModel_fails hT hfl hE _ _ hF_) t_947 t_949 ts_AckBookModel_fails t_12 t_950 ⟨by decide, by decide, (by decide +kernel : (parseMethodDescriptor y_AckBookModel_fails.desc).map (fun d => d.parameters.length) = some 2)⟩ (by rw [hRt.1]; decide) (by rw [hRt.2]; decide) hl.1 rfl (by first | exact Nat.le_of_ble_eq_true rfl | simp [z_rfc, z_ci, z_cj]) d_AckBookModel_range_33) (fun v_ hv H locs cells slots hZ => ?_)
  obtain ⟨v2, rfl, h⟩ := hv
  generalize w1_ = w at h hZ
  refine lv_if_eq (tgt := 41) hC.1 hC.2.1 d_AckBookModel_range_36 (by decide) (fun hc => ?_) (fun hc => ?_)
  · have h := z_ifp hc h
    refine lv_bipush (v := (65 : Int32)) hC.1 hC.2.1 d_AckBookModel_range_41 (by decide) ?_
    refine lv_iload_n hC.1 hC.2.1 d_AckBookModel_range_43 rfl (lv_at hl 1 rfl) ?_
    refine lv_imul hC.1 hC.2.1 d_AckBookModel_range_44 ?_
    refine x_aload_n hC d_AckBookModel_range_45 rfl (lv_at hl 0 rfl) ?_
    refine x_getR hC hZ zc10 h (by decide) t_849 (fun _ h9 => h9) d_AckBookModel_range_46 (fun r3 h => ?_)
    refine lv_iload_n hC.1 hC.2.1 d_AckBookModel_range_49 rfl (lv_at hl 1 rfl) ?_
    refine x_ldI hC hZ h d_AckBookModel_range_50 (fun v4 h => ?_)
    refine lv_iadd hC.1 hC.2.1 d_AckBookModel_range_51 ?_
    refine lv_iconst (v := (1 : Int32)) hC.1 hC.2.1 d_AckBookModel_range_52 (by decide) ?_
    refine lv_isub hC.1 hC.2.1 d_AckBookModel_range_53 ?_
    refine lv_iload_n hC.1 hC.2.1 d_AckBookModel_range_54 rfl (lv_at hl 2 rfl) ?_
    refine lv_isub hC.1 hC.2.1 d_AckBookModel_range_55 ?_
    refine lv_istore (i := 4) (lv' := [(4, .int (((((65 : Int32) * xL1) + v4) - (1 : Int32)) - xL2)), (0, va_rf rL0), (1, .int xL1), (2, .int xL2), (3, .int xL3)]) hC.1 hC.2.1 d_AckBookModel_range_56 hl (by decide) (by first | rfl | simp [z_rfc, z_ci, z_cj]) (fun ls hl => ?_)
    refine lv_iload_n hC.1 hC.2.1 d_AckBookModel_range_58 rfl (lv_at hl 4 rfl) ?_
    refine lv_if_eq (tgt := 72) hC.1 hC.2.1 d_AckBookModel_range_59 (by decide) (fun hc => ?_) (fun hc => ?_)
    · have h := z_ifp hc h
      refine x_aload_n hC d_AckBookModel_range_72 rfl (lv_at hl 1 rfl) ?_
      refine x_getR hC hZ zc10 h (by decide) t_850 (fun _ h9 => h9) d_AckBookModel_range_73 (fun r5 h => ?_)
      refine lv_iload hC.1 hC.2.1 d_AckBookModel_range_76 (lv_at hl 0 rfl) ?_
      refine x_ldL hC hZ h d_AckBookModel_range_78 (fun v6 h => ?_)
      exact x_lret hC hRc hRs hZ hr h d_AckBookModel_range_79
    · have h := z_ifn hc h
      refine x_aload_n hC d_AckBookModel_range_62 rfl (lv_at hl 1 rfl) ?_
      refine x_getR hC hZ zc10 h (by decide) t_851 (fun _ h9 => h9) d_AckBookModel_range_63 (fun r7 h => ?_)
      refine lv_iload hC.1 hC.2.1 d_AckBookModel_range_66 (lv_at hl 0 rfl) ?_
      refine x_ldL hC hZ h d_AckBookModel_range_68 (fun v8 h => ?_)
      refine lv_goto (tgt := 79) hC.1 hC.2.1 d_AckBookModel_range_69 (by decide) ?_
      exact x_lret hC hRc hRs hZ hr h d_AckBookModel_range_79
  · have h := z_ifn hc h
    refine lv_lconst (v := (0 : Int64)) hC.1 hC.2.1 d_AckBookModel_range_39 (by decide) ?_
    exact x_lret hC hRc hRs hZ hr h d_AckBookModel_range_40
def q_AckBookModel_range_27 (F X : Nat) (rL0 : Option Nat) (xL1 : Int32) (xL2 : Int32) (xL3 : Int32) (rS0 : Option Nat) (w : zW) : zR :=
  q_AckBookModel_range_32 F X rL0 xL1 xL2 xL3 rS0 (1 : Int32) w
set_option maxHeartbeats 4000000 in
set_option maxRecDepth 100000 in
theorem kq_AckBookModel_range_27 {b0 : Nat} {H0 : Heap} {D : va_G} {vu vs : Value} {X M : Nat} {l : Launch} (hT : z_TB (zGG b0 H0 D vu vs X M)) (hfl : l.flags = pinnedFlags ++ [noTraceFlag]) (hE : vu.isRef = true ∧ vs.isRef = true) {p : Program} {e : Env} {R : Room} {s : State} {m : MethodId} {args : Array Value} {below : List Frame} {meth : Method} {c : Code} {w0 : zW} {F : Nat} (hC : z_C (zGG b0 H0 D vu vs X M) p e s m meth c c_AckBookModel_range 5 y_AckBookModel_range.cls) (hr : meth.sig.returnType = (some FieldType.long)) (hRc : R.cells = w0.2.1) (hRs : R.slots = w0.2.2.1) (hFr : c.exceptionTable.toList = []) (hRt : R.frames = 1 ∧ R.locals = 22) (hnm : meth.name = y_AckBookModel_range.name) (rL0 : Option Nat) (xL1 : Int32) (xL2 : Int32) (xL3 : Int32) (rS0 : Option Nat) (w : zW) (res : zO × zW) (h : q_AckBookModel_range_27 F X rL0 xL1 xL2 xL3 rS0 w = some res) (H : Heap) (locs : List Loc) (cells slots : Nat) (ls : Array Slot) (hZ : z_Z (zGG b0 H0 D vu vs X M) R s w H locs cells slots) (hl : lv_has ls 5 [(0, va_rf rL0), (1, .int xL1), (2, .int xL2), (3, .int xL3)]) : W p l e R s m args below meth c H locs cells slots (z_Q (zGG b0 H0 D vu vs X M) below s w0 res) (F0 m 27 ls [va_rf rS0]) := by
  unfold q_AckBookModel_range_27 at h
  refine lv_iconst (v := (1 : Int32)) hC.1 hC.2.1 d_AckBookModel_range_27 (by decide) ?_
  refine lv_goto (tgt := 32) hC.1 hC.2.1 d_AckBookModel_range_28 (by decide) ?_
  exact kq_AckBookModel_range_32 hT hfl hE hC hr hRc hRs hFr hRt hnm _ _ _ _ _ _ _ _ h _ _ _ _ _ hZ (lv_sub hl [0, 1, 2, 3] rfl)
def f_AckBookModel_range (F X : Nat) (a0 : Option Nat) (pI1 : Int32) (pI2 : Int32) (pI3 : Int32) (w : zW) : zR :=
  z_cI (f_AckBookModel_noSpace F X pI1 w) fun v10 w =>
  z_this w 10 a0 <|
  z_cI (f_AckBookModel_fails F X a0 v10 (1 : Int32) w) fun v12 w =>
  if v12 = 0 then (
    if pI2 < 0 then (
      q_AckBookModel_range_27 F X a0 pI1 pI2 pI3 a0 w)
    else (
      z_getR w 10 30 a0 fun r13 =>
      z_ldI w .int r13 pI1 fun v14 =>
      if pI2 < v14 then (
        q_AckBookModel_range_32 F X a0 pI1 pI2 pI3 a0 (0 : Int32) w)
      else (
        q_AckBookModel_range_27 F X a0 pI1 pI2 pI3 a0 w)))
  else (
    some (.inl (some (.long (0 : Int64))), w))
set_option maxHeartbeats 4000000 in
set_option maxRecDepth 100000 in
theorem k_AckBookModel_range {b0 : Nat} {H0 : Heap} {D : va_G} {vu vs : Value} {X M : Nat} {l : Launch} (hT : z_TB (zGG b0 H0 D vu vs X M)) (hfl : l.flags = pinnedFlags ++ [noTraceFlag]) (hE : vu.isRef = true ∧ vs.isRef = true) {a0 : Option Nat} {pI1 : Int32} {pI2 : Int32} {pI3 : Int32} (F : Nat) {w : zW} (res : zO × zW) (h : f_AckBookModel_range F X a0 pI1 pI2 pI3 w = some res) : z_Ct (zGG b0 H0 D vu vs X M) l y_AckBookModel_range (.code y_AckBookModel_range c_AckBookModel_range 5 (some FieldType.long)) 1 22 [va_rf a0, .int pI1, .int pI2, .int pI3] w res := by
  refine z_ct hT hfl (by decide) (by simp only [z_sl_i, z_sl_j, z_sl_r, z_sl_n]; decide) ?_
  intro p e R s m args below meth c hC hr hRc hRs hRt hnm hFr H ls hZ hl
  simp only [z_la_i, z_la_j, z_la_r, z_la_n] at hl
  have hl : lv_has ls 5 [(0, va_rf a0), (1, .int pI1), (2, .int pI2), (3, .int pI3)] := hl
  unfold f_AckBookModel_range at h
  refine x_aload_n hC d_AckBookModel_range_0 rfl (lv_at hl 0 rfl) ?_
  refine lv_iload_n hC.1 hC.2.1 d_AckBookModel_range_1 rfl (lv_at hl 1 rfl) ?_
  obtain ⟨w1_, o1_, hF_, ha_⟩ := z_cI_spec h
  refine x_goes hC hRc hRs hFr ha_ (z_goS (As := [.int pI1]) hC hZ (k_AckBookModel_noSpace hT hfl hE _ _ hF_) t_944 t_945 t_12 t_946 ⟨by decide, by decide, (by decide +kernel : (parseMethodDescriptor y_AckBookModel_noSpace.desc).map (fun d => d.parameters.length) = some 1)⟩ (by rw [hRt.1]; decide) (by rw [hRt.2]; decide) hl.1 rfl (by first | exact Nat.le_of_ble_eq_true rfl | simp [z_rfc, z_ci, z_cj]) d_AckBookModel_range_2) (fun v_ hv H locs cells slots hZ => ?_)
  obtain ⟨v10, rfl, h⟩ := hv
  generalize w1_ = w at h hZ
  refine lv_iconst (v := (1 : Int32)) hC.1 hC.2.1 d_AckBookModel_range_5 (by decide) ?_
  obtain ⟨a_, fs_, eo_, h⟩ := z_this_spec h
  obtain ⟨w1_, o1_, hF_, ha_⟩ := z_cI_spec h
  refine x_goes hC hRc hRs hFr ha_ (z_goV (As := [.int v10, .int (1 : Int32)]) hC hZ zc10 eo_ (k_AckBookModel_fails hT hfl hE _ _ hF_) t_947 t_949 ts_AckBookModel_fails t_12 t_950 ⟨by decide, by decide, (by decide +kernel : (parseMethodDescriptor y_AckBookModel_fails.desc).map (fun d => d.parameters.length) = some 2)⟩ (by rw [hRt.1]; decide) (by rw [hRt.2]; decide) hl.1 rfl (by first | exact Nat.le_of_ble_eq_true rfl | simp [z_rfc, z_ci, z_cj]) d_AckBookModel_range_6) (fun v_ hv H locs cells slots hZ => ?_)
  obtain ⟨v12, rfl, h⟩ := hv
  generalize w1_ = w at h hZ
  refine lv_if_ne (tgt := 39) hC.1 hC.2.1 d_AckBookModel_range_9 (by decide) (fun hc => ?_) (fun hc => ?_)
  · have h := z_ifn hc h
    refine lv_lconst (v := (0 : Int64)) hC.1 hC.2.1 d_AckBookModel_range_39 (by decide) ?_
    exact x_lret hC hRc hRs hZ hr h d_AckBookModel_range_40
  · have h := z_ifp hc h
    refine x_aload_n hC d_AckBookModel_range_12 rfl (lv_at hl 0 rfl) ?_
    refine lv_iload_n hC.1 hC.2.1 d_AckBookModel_range_13 rfl (lv_at hl 2 rfl) ?_
    refine lv_if_lt (tgt := 27) hC.1 hC.2.1 d_AckBookModel_range_14 (by decide) (fun hc => ?_) (fun hc => ?_)
    · have h := z_ifp hc h
      exact kq_AckBookModel_range_27 hT hfl hE hC hr hRc hRs hFr hRt hnm _ _ _ _ _ _ _ h _ _ _ _ _ hZ (lv_sub hl [0, 1, 2, 3] rfl)
    · have h := z_ifn hc h
      refine lv_iload_n hC.1 hC.2.1 d_AckBookModel_range_17 rfl (lv_at hl 2 rfl) ?_
      refine x_aload_n hC d_AckBookModel_range_18 rfl (lv_at hl 0 rfl) ?_
      refine x_getR hC hZ zc10 h (by decide) t_849 (fun _ h9 => h9) d_AckBookModel_range_19 (fun r13 h => ?_)
      refine lv_iload_n hC.1 hC.2.1 d_AckBookModel_range_22 rfl (lv_at hl 1 rfl) ?_
      refine x_ldI hC hZ h d_AckBookModel_range_23 (fun v14 h => ?_)
      refine lv_icmp_lt (tgt := 31) hC.1 hC.2.1 d_AckBookModel_range_24 (by decide) (fun hc => ?_) (fun hc => ?_)
      · have h := z_ifp hc h
        refine lv_iconst (v := (0 : Int32)) hC.1 hC.2.1 d_AckBookModel_range_31 (by decide) ?_
        exact kq_AckBookModel_range_32 hT hfl hE hC hr hRc hRs hFr hRt hnm _ _ _ _ _ _ _ _ h _ _ _ _ _ hZ (lv_sub hl [0, 1, 2, 3] rfl)
      · have h := z_ifn hc h
        exact kq_AckBookModel_range_27 hT hfl hE hC hr hRc hRs hFr hRt hnm _ _ _ _ _ _ _ h _ _ _ _ _ hZ (lv_sub hl [0, 1, 2, 3] rfl)
def q_AckBookModel_look_16 (F X : Nat) (rL0 : Option Nat) (xL1 : Int32) (rS0 : Option Nat) (xS1 : Int32) (w : zW) : zR :=
  z_this w 10 rS0 <|
  z_cI (f_AckBookModel_fails F X rS0 xS1 (1 : Int32) w) fun v2 w =>
  if v2 = 0 then (
    if xL1 = (0 : Int32) then (
      z_getI w 10 1 rL0 fun v3 =>
      some (.inl (some (.int v3)), w))
    else if xL1 = (1 : Int32) then (
      z_this w 10 rL0 <|
      z_cI (f_AckBookModel_flight F X rL0 w) fun v5 w =>
      some (.inl (some (.int v5)), w))
    else if xL1 = (2 : Int32) then (
      z_getI w 10 24 rL0 fun v6 =>
      some (.inl (some (.int v6)), w))
    else if xL1 = (3 : Int32) then (
      z_getI w 10 25 rL0 fun v7 =>
      some (.inl (some (.int v7)), w))
    else if xL1 = (4 : Int32) then (
      z_getI w 10 26 rL0 fun v8 =>
      some (.inl (some (.int v8)), w))
    else if xL1 = (5 : Int32) then (
      z_getI w 10 18 rL0 fun v9 =>
      some (.inl (some (.int v9)), w))
    else if xL1 = (6 : Int32) then (
      z_getI w 10 19 rL0 fun v10 =>
      some (.inl (some (.int v10)), w))
    else if xL1 = (7 : Int32) then (
      z_getI w 10 20 rL0 fun v11 =>
      some (.inl (some (.int v11)), w))
    else if xL1 = (8 : Int32) then (
      z_getI w 10 21 rL0 fun v12 =>
      some (.inl (some (.int v12)), w))
    else if xL1 = (9 : Int32) then (
      z_getI w 10 23 rL0 fun v13 =>
      some (.inl (some (.int v13)), w))
    else if xL1 = (10 : Int32) then (
      z_this w 10 rL0 <|
      z_cI (f_AckBookModel_limit F X rL0 w) fun v15 w =>
      some (.inl (some (.int v15)), w))
    else (
      z_getI w 10 24 rL0 fun v16 =>
      z_this w 10 rL0 <|
      z_cI (f_AckBookModel_flight F X rL0 w) fun v18 w =>
      z_cI (f_AckBookModel_greater F X (v16 - v18) (0 : Int32) w) fun v20 w =>
      some (.inl (some (.int v20)), w)))
  else (
    some (.inl (some (.int (0 : Int32))), w))
set_option maxHeartbeats 4000000 in
set_option maxRecDepth 100000 in
theorem kq_AckBookModel_look_16 {b0 : Nat} {H0 : Heap} {D : va_G} {vu vs : Value} {X M : Nat} {l : Launch} (hT : z_TB (zGG b0 H0 D vu vs X M)) (hfl : l.flags = pinnedFlags ++ [noTraceFlag]) (hE : vu.isRef = true ∧ vs.isRef = true) {p : Program} {e : Env} {R : Room} {s : State} {m : MethodId} {args : Array Value} {below : List Frame} {meth : Method} {c : Code} {w0 : zW} {F : Nat} (hC : z_C (zGG b0 H0 D vu vs X M) p e s m meth c c_AckBookModel_look 2 y_AckBookModel_look.cls) (hr : meth.sig.returnType = (some FieldType.int)) (hRc : R.cells = w0.2.1) (hRs : R.slots = w0.2.2.1) (hFr : c.exceptionTable.toList = []) (hRt : R.frames = 2 ∧ R.locals = 45) (hnm : meth.name = y_AckBookModel_look.name) (rL0 : Option Nat) (xL1 : Int32) (rS0 : Option Nat) (xS1 : Int32) (w : zW) (res : zO × zW) (h : q_AckBookModel_look_16 F X rL0 xL1 rS0 xS1 w = some res) (H : Heap) (locs : List Loc) (cells slots : Nat) (ls : Array Slot) (hZ : z_Z (zGG b0 H0 D vu vs X M) R s w H locs cells slots) (hl : lv_has ls 2 [(0, va_rf rL0), (1, .int xL1)]) : W p l e R s m args below meth c H locs cells slots (z_Q (zGG b0 H0 D vu vs X M) below s w0 res) (F0 m 16 ls [.int xS1, va_rf rS0]) := by
  unfold q_AckBookModel_look_16 at h
  refine lv_iconst (v := (1 : Int32)) hC.1 hC.2.1 d_AckBookModel_look_16 (by decide) ?_
  obtain ⟨a_, fs_, eo_, h⟩ := z_this_spec h
  obtain ⟨w1_, o1_, hF_, ha_⟩ := z_cI_spec h
  refine x_goes hC hRc hRs hFr ha_ (z_goV (As := [.int xS1, .int (1 : Int32)]) hC hZ zc10 eo_ (k_AckBookModel_fails hT hfl hE _ _ hF_) t_947 t_949 ts_AckBookModel_fails t_12 t_950 ⟨by decide, by decide, (by decide +kernel : (parseMethodDescriptor y_AckBookModel_fails.desc).map (fun d => d.parameters.length) = some 2)⟩ (by rw [hRt.1]; decide) (by rw [hRt.2]; decide) hl.1 rfl (by first | exact Nat.le_of_ble_eq_true rfl | simp [z_rfc, z_ci, z_cj]) d_AckBookModel_look_17) (fun v_ hv H locs cells slots hZ => ?_)
  obtain ⟨v2, rfl, h⟩ := hv
  generalize w1_ = w at h hZ
  refine lv_if_eq (tgt := 25) hC.1 hC.2.1 d_AckBookModel_look_20 (by decide) (fun hc => ?_) (fun hc => ?_)
  · have h := z_ifp hc h
    refine lv_iload_n hC.1 hC.2.1 d_AckBookModel_look_25 rfl (lv_at hl 1 rfl) ?_
    by_cases hc0 : xL1 = (0 : Int32)
    · have h := z_ifp hc0 h
      refine lv_tableIn (tgt := 84) hC.1 hC.2.1 d_AckBookModel_look_26 (by rw [hc0]; decide) (by rw [hc0]; decide) (by rw [hc0]; rfl) (by decide) ?_
      refine x_aload_n hC d_AckBookModel_look_84 rfl (lv_at hl 0 rfl) ?_
      refine x_getI hC hZ zc10 h (by decide) t_820 (fun _ h9 => h9) d_AckBookModel_look_85 (fun v3 h => ?_)
      exact x_iret hC hRc hRs hZ hr rfl h d_AckBookModel_look_88
    have h := z_ifn hc0 h
    by_cases hc1 : xL1 = (1 : Int32)
    · have h := z_ifp hc1 h
      refine lv_tableIn (tgt := 89) hC.1 hC.2.1 d_AckBookModel_look_26 (by rw [hc1]; decide) (by rw [hc1]; decide) (by rw [hc1]; rfl) (by decide) ?_
      refine x_aload_n hC d_AckBookModel_look_89 rfl (lv_at hl 0 rfl) ?_
      obtain ⟨a_, fs_, eo_, h⟩ := z_this_spec h
      obtain ⟨w1_, o1_, hF_, ha_⟩ := z_cI_spec h
      refine x_goes hC hRc hRs hFr ha_ (z_goV (As := []) hC hZ zc10 eo_ (k_AckBookModel_flight hT hfl hE _ _ hF_) t_951 t_953 ts_AckBookModel_flight t_12 t_954 ⟨by decide, by decide, (by decide +kernel : (parseMethodDescriptor y_AckBookModel_flight.desc).map (fun d => d.parameters.length) = some 0)⟩ (by rw [hRt.1]; decide) (by rw [hRt.2]; decide) hl.1 rfl (by first | exact Nat.le_of_ble_eq_true rfl | simp [z_rfc, z_ci, z_cj]) d_AckBookModel_look_90) (fun v_ hv H locs cells slots hZ => ?_)
      obtain ⟨v5, rfl, h⟩ := hv
      generalize w1_ = w at h hZ
      exact x_iret hC hRc hRs hZ hr rfl h d_AckBookModel_look_93
    have h := z_ifn hc1 h
    by_cases hc2 : xL1 = (2 : Int32)
    · have h := z_ifp hc2 h
      refine lv_tableIn (tgt := 94) hC.1 hC.2.1 d_AckBookModel_look_26 (by rw [hc2]; decide) (by rw [hc2]; decide) (by rw [hc2]; rfl) (by decide) ?_
      refine x_aload_n hC d_AckBookModel_look_94 rfl (lv_at hl 0 rfl) ?_
      refine x_getI hC hZ zc10 h (by decide) t_843 (fun _ h9 => h9) d_AckBookModel_look_95 (fun v6 h => ?_)
      exact x_iret hC hRc hRs hZ hr rfl h d_AckBookModel_look_98
    have h := z_ifn hc2 h
    by_cases hc3 : xL1 = (3 : Int32)
    · have h := z_ifp hc3 h
      refine lv_tableIn (tgt := 99) hC.1 hC.2.1 d_AckBookModel_look_26 (by rw [hc3]; decide) (by rw [hc3]; decide) (by rw [hc3]; rfl) (by decide) ?_
      refine x_aload_n hC d_AckBookModel_look_99 rfl (lv_at hl 0 rfl) ?_
      refine x_getI hC hZ zc10 h (by decide) t_844 (fun _ h9 => h9) d_AckBookModel_look_100 (fun v7 h => ?_)
      exact x_iret hC hRc hRs hZ hr rfl h d_AckBookModel_look_103
    have h := z_ifn hc3 h
    by_cases hc4 : xL1 = (4 : Int32)
    · have h := z_ifp hc4 h
      refine lv_tableIn (tgt := 104) hC.1 hC.2.1 d_AckBookModel_look_26 (by rw [hc4]; decide) (by rw [hc4]; decide) (by rw [hc4]; rfl) (by decide) ?_
      refine x_aload_n hC d_AckBookModel_look_104 rfl (lv_at hl 0 rfl) ?_
      refine x_getI hC hZ zc10 h (by decide) t_845 (fun _ h9 => h9) d_AckBookModel_look_105 (fun v8 h => ?_)
      exact x_iret hC hRc hRs hZ hr rfl h d_AckBookModel_look_108
    have h := z_ifn hc4 h
    by_cases hc5 : xL1 = (5 : Int32)
    · have h := z_ifp hc5 h
      refine lv_tableIn (tgt := 109) hC.1 hC.2.1 d_AckBookModel_look_26 (by rw [hc5]; decide) (by rw [hc5]; decide) (by rw [hc5]; rfl) (by decide) ?_
      refine x_aload_n hC d_AckBookModel_look_109 rfl (lv_at hl 0 rfl) ?_
      refine x_getI hC hZ zc10 h (by decide) t_837 (fun _ h9 => h9) d_AckBookModel_look_110 (fun v9 h => ?_)
      exact x_iret hC hRc hRs hZ hr rfl h d_AckBookModel_look_113
    have h := z_ifn hc5 h
    by_cases hc6 : xL1 = (6 : Int32)
    · have h := z_ifp hc6 h
      refine lv_tableIn (tgt := 114) hC.1 hC.2.1 d_AckBookModel_look_26 (by rw [hc6]; decide) (by rw [hc6]; decide) (by rw [hc6]; rfl) (by decide) ?_
      refine x_aload_n hC d_AckBookModel_look_114 rfl (lv_at hl 0 rfl) ?_
      refine x_getI hC hZ zc10 h (by decide) t_838 (fun _ h9 => h9) d_AckBookModel_look_115 (fun v10 h => ?_)
      exact x_iret hC hRc hRs hZ hr rfl h d_AckBookModel_look_118
    have h := z_ifn hc6 h
    by_cases hc7 : xL1 = (7 : Int32)
    · have h := z_ifp hc7 h
      refine lv_tableIn (tgt := 119) hC.1 hC.2.1 d_AckBookModel_look_26 (by rw [hc7]; decide) (by rw [hc7]; decide) (by rw [hc7]; rfl) (by decide) ?_
      refine x_aload_n hC d_AckBookModel_look_119 rfl (lv_at hl 0 rfl) ?_
      refine x_getI hC hZ zc10 h (by decide) t_839 (fun _ h9 => h9) d_AckBookModel_look_120 (fun v11 h => ?_)
      exact x_iret hC hRc hRs hZ hr rfl h d_AckBookModel_look_123
    have h := z_ifn hc7 h
    by_cases hc8 : xL1 = (8 : Int32)
    · have h := z_ifp hc8 h
      refine lv_tableIn (tgt := 124) hC.1 hC.2.1 d_AckBookModel_look_26 (by rw [hc8]; decide) (by rw [hc8]; decide) (by rw [hc8]; rfl) (by decide) ?_
      refine x_aload_n hC d_AckBookModel_look_124 rfl (lv_at hl 0 rfl) ?_
      refine x_getI hC hZ zc10 h (by decide) t_840 (fun _ h9 => h9) d_AckBookModel_look_125 (fun v12 h => ?_)
      exact x_iret hC hRc hRs hZ hr rfl h d_AckBookModel_look_128
    have h := z_ifn hc8 h
    by_cases hc9 : xL1 = (9 : Int32)
    · have h := z_ifp hc9 h
      refine lv_tableIn (tgt := 129) hC.1 hC.2.1 d_AckBookModel_look_26 (by rw [hc9]; decide) (by rw [hc9]; decide) (by rw [hc9]; rfl) (by decide) ?_
      refine x_aload_n hC d_AckBookModel_look_129 rfl (lv_at hl 0 rfl) ?_
      refine x_getI hC hZ zc10 h (by decide) t_842 (fun _ h9 => h9) d_AckBookModel_look_130 (fun v13 h => ?_)
      exact x_iret hC hRc hRs hZ hr rfl h d_AckBookModel_look_133
    have h := z_ifn hc9 h
    by_cases hc10 : xL1 = (10 : Int32)
    · have h := z_ifp hc10 h
      refine lv_tableIn (tgt := 134) hC.1 hC.2.1 d_AckBookModel_look_26 (by rw [hc10]; decide) (by rw [hc10]; decide) (by rw [hc10]; rfl) (by decide) ?_
      refine x_aload_n hC d_AckBookModel_look_134 rfl (lv_at hl 0 rfl) ?_
      obtain ⟨a_, fs_, eo_, h⟩ := z_this_spec h
      obtain ⟨w1_, o1_, hF_, ha_⟩ := z_cI_spec h
      refine x_goes hC hRc hRs hFr ha_ (z_goV (As := []) hC hZ zc10 eo_ (k_AckBookModel_limit hT hfl hE _ _ hF_) t_1000 t_1002 ts_AckBookModel_limit t_12 t_1003 ⟨by decide, by decide, (by decide +kernel : (parseMethodDescriptor y_AckBookModel_limit.desc).map (fun d => d.parameters.length) = some 0)⟩ (by rw [hRt.1]; decide) (by rw [hRt.2]; decide) hl.1 rfl (by first | exact Nat.le_of_ble_eq_true rfl | simp [z_rfc, z_ci, z_cj]) d_AckBookModel_look_135) (fun v_ hv H locs cells slots hZ => ?_)
      obtain ⟨v15, rfl, h⟩ := hv
      generalize w1_ = w at h hZ
      exact x_iret hC hRc hRs hZ hr rfl h d_AckBookModel_look_138
    have h := z_ifn hc10 h
    refine lv_tableOut (tgt := 139) hC.1 hC.2.1 d_AckBookModel_look_26 (z_tab 10 (fun k hk => match k, hk with | 0, _ => hc0 | 1, _ => hc1 | 2, _ => hc2 | 3, _ => hc3 | 4, _ => hc4 | 5, _ => hc5 | 6, _ => hc6 | 7, _ => hc7 | 8, _ => hc8 | 9, _ => hc9 | 10, _ => hc10 | _ + 11, hk => absurd hk (by omega))) (by decide) ?_
    refine x_aload_n hC d_AckBookModel_look_139 rfl (lv_at hl 0 rfl) ?_
    refine x_getI hC hZ zc10 h (by decide) t_843 (fun _ h9 => h9) d_AckBookModel_look_140 (fun v16 h => ?_)
    refine x_aload_n hC d_AckBookModel_look_143 rfl (lv_at hl 0 rfl) ?_
    obtain ⟨a_, fs_, eo_, h⟩ := z_this_spec h
    obtain ⟨w1_, o1_, hF_, ha_⟩ := z_cI_spec h
    refine x_goes hC hRc hRs hFr ha_ (z_goV (As := []) hC hZ zc10 eo_ (k_AckBookModel_flight hT hfl hE _ _ hF_) t_951 t_953 ts_AckBookModel_flight t_12 t_954 ⟨by decide, by decide, (by decide +kernel : (parseMethodDescriptor y_AckBookModel_flight.desc).map (fun d => d.parameters.length) = some 0)⟩ (by rw [hRt.1]; decide) (by rw [hRt.2]; decide) hl.1 rfl (by first | exact Nat.le_of_ble_eq_true rfl | simp [z_rfc, z_ci, z_cj]) d_AckBookModel_look_144) (fun v_ hv H locs cells slots hZ => ?_)
    obtain ⟨v18, rfl, h⟩ := hv
    generalize w1_ = w at h hZ
    refine lv_isub hC.1 hC.2.1 d_AckBookModel_look_147 ?_
    refine lv_iconst (v := (0 : Int32)) hC.1 hC.2.1 d_AckBookModel_look_148 (by decide) ?_
    obtain ⟨w1_, o1_, hF_, ha_⟩ := z_cI_spec h
    refine x_goes hC hRc hRs hFr ha_ (z_goS (As := [.int (v16 - v18), .int (0 : Int32)]) hC hZ (k_AckBookModel_greater hT hfl hE _ _ hF_) t_973 t_974 t_12 t_975 ⟨by decide, by decide, (by decide +kernel : (parseMethodDescriptor y_AckBookModel_greater.desc).map (fun d => d.parameters.length) = some 2)⟩ (by rw [hRt.1]; decide) (by rw [hRt.2]; decide) hl.1 rfl (by first | exact Nat.le_of_ble_eq_true rfl | simp [z_rfc, z_ci, z_cj]) d_AckBookModel_look_149) (fun v_ hv H locs cells slots hZ => ?_)
    obtain ⟨v20, rfl, h⟩ := hv
    generalize w1_ = w at h hZ
    exact x_iret hC hRc hRs hZ hr rfl h d_AckBookModel_look_152
  · have h := z_ifn hc h
    refine lv_iconst (v := (0 : Int32)) hC.1 hC.2.1 d_AckBookModel_look_23 (by decide) ?_
    exact x_iret hC hRc hRs hZ hr rfl h d_AckBookModel_look_24
def q_AckBookModel_look_11 (F X : Nat) (rL0 : Option Nat) (xL1 : Int32) (rS0 : Option Nat) (w : zW) : zR :=
  q_AckBookModel_look_16 F X rL0 xL1 rS0 (1 : Int32) w
set_option maxHeartbeats 4000000 in
set_option maxRecDepth 100000 in
theorem kq_AckBookModel_look_11 {b0 : Nat} {H0 : Heap} {D : va_G} {vu vs : Value} {X M : Nat} {l : Launch} (hT : z_TB (zGG b0 H0 D vu vs X M)) (hfl : l.flags = pinnedFlags ++ [noTraceFlag]) (hE : vu.isRef = true ∧ vs.isRef = true) {p : Program} {e : Env} {R : Room} {s : State} {m : MethodId} {args : Array Value} {below : List Frame} {meth : Method} {c : Code} {w0 : zW} {F : Nat} (hC : z_C (zGG b0 H0 D vu vs X M) p e s m meth c c_AckBookModel_look 2 y_AckBookModel_look.cls) (hr : meth.sig.returnType = (some FieldType.int)) (hRc : R.cells = w0.2.1) (hRs : R.slots = w0.2.2.1) (hFr : c.exceptionTable.toList = []) (hRt : R.frames = 2 ∧ R.locals = 45) (hnm : meth.name = y_AckBookModel_look.name) (rL0 : Option Nat) (xL1 : Int32) (rS0 : Option Nat) (w : zW) (res : zO × zW) (h : q_AckBookModel_look_11 F X rL0 xL1 rS0 w = some res) (H : Heap) (locs : List Loc) (cells slots : Nat) (ls : Array Slot) (hZ : z_Z (zGG b0 H0 D vu vs X M) R s w H locs cells slots) (hl : lv_has ls 2 [(0, va_rf rL0), (1, .int xL1)]) : W p l e R s m args below meth c H locs cells slots (z_Q (zGG b0 H0 D vu vs X M) below s w0 res) (F0 m 11 ls [va_rf rS0]) := by
  unfold q_AckBookModel_look_11 at h
  refine lv_iconst (v := (1 : Int32)) hC.1 hC.2.1 d_AckBookModel_look_11 (by decide) ?_
  refine lv_goto (tgt := 16) hC.1 hC.2.1 d_AckBookModel_look_12 (by decide) ?_
  exact kq_AckBookModel_look_16 hT hfl hE hC hr hRc hRs hFr hRt hnm _ _ _ _ _ _ h _ _ _ _ _ hZ (lv_sub hl [0, 1] rfl)
def f_AckBookModel_look (F X : Nat) (a0 : Option Nat) (pI1 : Int32) (w : zW) : zR :=
  if pI1 < 0 then (
    q_AckBookModel_look_11 F X a0 pI1 a0 w)
  else (
    if pI1 ≤ (11 : Int32) then (
      q_AckBookModel_look_16 F X a0 pI1 a0 (0 : Int32) w)
    else (
      q_AckBookModel_look_11 F X a0 pI1 a0 w))
set_option maxHeartbeats 4000000 in
set_option maxRecDepth 100000 in
theorem k_AckBookModel_look {b0 : Nat} {H0 : Heap} {D : va_G} {vu vs : Value} {X M : Nat} {l : Launch} (hT : z_TB (zGG b0 H0 D vu vs X M)) (hfl : l.flags = pinnedFlags ++ [noTraceFlag]) (hE : vu.isRef = true ∧ vs.isRef = true) {a0 : Option Nat} {pI1 : Int32} (F : Nat) {w : zW} (res : zO × zW) (h : f_AckBookModel_look F X a0 pI1 w = some res) : z_Ct (zGG b0 H0 D vu vs X M) l y_AckBookModel_look (.code y_AckBookModel_look c_AckBookModel_look 2 (some FieldType.int)) 2 45 [va_rf a0, .int pI1] w res := by
  refine z_ct hT hfl (by decide) (by simp only [z_sl_i, z_sl_j, z_sl_r, z_sl_n]; decide) ?_
  intro p e R s m args below meth c hC hr hRc hRs hRt hnm hFr H ls hZ hl
  simp only [z_la_i, z_la_j, z_la_r, z_la_n] at hl
  have hl : lv_has ls 2 [(0, va_rf a0), (1, .int pI1)] := hl
  unfold f_AckBookModel_look at h
  refine x_aload_n hC d_AckBookModel_look_0 rfl (lv_at hl 0 rfl) ?_
  refine lv_iload_n hC.1 hC.2.1 d_AckBookModel_look_1 rfl (lv_at hl 1 rfl) ?_
  refine lv_if_lt (tgt := 11) hC.1 hC.2.1 d_AckBookModel_look_2 (by decide) (fun hc => ?_) (fun hc => ?_)
  · have h := z_ifp hc h
    exact kq_AckBookModel_look_11 hT hfl hE hC hr hRc hRs hFr hRt hnm _ _ _ _ _ h _ _ _ _ _ hZ (lv_sub hl [0, 1] rfl)
  · have h := z_ifn hc h
    refine lv_iload_n hC.1 hC.2.1 d_AckBookModel_look_5 rfl (lv_at hl 1 rfl) ?_
    refine lv_bipush (v := (11 : Int32)) hC.1 hC.2.1 d_AckBookModel_look_6 (by decide) ?_
    refine lv_icmp_le (tgt := 15) hC.1 hC.2.1 d_AckBookModel_look_8 (by decide) (fun hc => ?_) (fun hc => ?_)
    · have h := z_ifp hc h
      refine lv_iconst (v := (0 : Int32)) hC.1 hC.2.1 d_AckBookModel_look_15 (by decide) ?_
      exact kq_AckBookModel_look_16 hT hfl hE hC hr hRc hRs hFr hRt hnm _ _ _ _ _ _ h _ _ _ _ _ hZ (lv_sub hl [0, 1] rfl)
    · have h := z_ifn hc h
      exact kq_AckBookModel_look_11 hT hfl hE hC hr hRc hRs hFr hRt hnm _ _ _ _ _ h _ _ _ _ _ hZ (lv_sub hl [0, 1] rfl)
def q_AckBookModel_space_28 (F X : Nat) (rL0 : Option Nat) (xL1 : Int32) (xL2 : Int32) (rS0 : Option Nat) (xS1 : Int32) (w : zW) : zR :=
  z_this w 10 rS0 <|
  z_cI (f_AckBookModel_fails F X rS0 xS1 (2 : Int32) w) fun v2 w =>
  if v2 = 0 then (
    if xL2 = (0 : Int32) then (
      z_getR w 10 4 rL0 fun r3 =>
      z_ldI w .int r3 xL1 fun v4 =>
      some (.inl (some (.long v4.toInt64)), w))
    else if xL2 = (1 : Int32) then (
      z_getR w 10 12 rL0 fun r5 =>
      z_ldI w .int r5 xL1 fun v6 =>
      some (.inl (some (.long v6.toInt64)), w))
    else if xL2 = (2 : Int32) then (
      z_getR w 10 13 rL0 fun r7 =>
      z_ldI w .int r7 xL1 fun v8 =>
      some (.inl (some (.long v8.toInt64)), w))
    else if xL2 = (3 : Int32) then (
      z_this w 10 rL0 <|
      z_cI (f_AckBookModel_probeTime F X rL0 xL1 w) fun v10 w =>
      some (.inl (some (.long v10.toInt64)), w))
    else if xL2 = (4 : Int32) then (
      z_this w 10 rL0 <|
      z_cI (f_AckBookModel_outs F X rL0 xL1 (1 : Int32) w) fun v12 w =>
      some (.inl (some (.long v12.toInt64)), w))
    else if xL2 = (5 : Int32) then (
      z_this w 10 rL0 <|
      z_cI (f_AckBookModel_outs F X rL0 xL1 (0 : Int32) w) fun v14 w =>
      some (.inl (some (.long v14.toInt64)), w))
    else if xL2 = (6 : Int32) then (
      z_getR w 10 30 rL0 fun r15 =>
      z_ldI w .int r15 xL1 fun v16 =>
      some (.inl (some (.long v16.toInt64)), w))
    else if xL2 = (7 : Int32) then (
      z_getR w 10 35 rL0 fun r17 =>
      z_ldI w .int r17 xL1 fun v18 =>
      some (.inl (some (.long v18.toInt64)), w))
    else if xL2 = (8 : Int32) then (
      z_this w 10 rL0 <|
      z_cI (f_AckBookModel_patience F X rL0 xL1 w) fun v20 w =>
      some (.inl (some (.long v20.toInt64)), w))
    else if xL2 = (9 : Int32) then (
      z_getR w 10 11 rL0 fun r21 =>
      z_ldI w .boolean r21 xL1 fun v22 =>
      if v22 = 0 then (
        some (.inl (some (.long (0 : Int64))), w))
      else (
        some (.inl (some (.long (1 : Int64))), w)))
    else (
      z_getR w 10 33 rL0 fun r23 =>
      z_ldL w r23 xL1 fun v24 =>
      some (.inl (some (.long v24)), w)))
  else (
    some (.inl (some (.long (0 : Int64))), w))
set_option maxHeartbeats 4000000 in
set_option maxRecDepth 100000 in
theorem kq_AckBookModel_space_28 {b0 : Nat} {H0 : Heap} {D : va_G} {vu vs : Value} {X M : Nat} {l : Launch} (hT : z_TB (zGG b0 H0 D vu vs X M)) (hfl : l.flags = pinnedFlags ++ [noTraceFlag]) (hE : vu.isRef = true ∧ vs.isRef = true) {p : Program} {e : Env} {R : Room} {s : State} {m : MethodId} {args : Array Value} {below : List Frame} {meth : Method} {c : Code} {w0 : zW} {F : Nat} (hC : z_C (zGG b0 H0 D vu vs X M) p e s m meth c c_AckBookModel_space 3 y_AckBookModel_space.cls) (hr : meth.sig.returnType = (some FieldType.long)) (hRc : R.cells = w0.2.1) (hRs : R.slots = w0.2.2.1) (hFr : c.exceptionTable.toList = []) (hRt : R.frames = 3 ∧ R.locals = 69) (hnm : meth.name = y_AckBookModel_space.name) (rL0 : Option Nat) (xL1 : Int32) (xL2 : Int32) (rS0 : Option Nat) (xS1 : Int32) (w : zW) (res : zO × zW) (h : q_AckBookModel_space_28 F X rL0 xL1 xL2 rS0 xS1 w = some res) (H : Heap) (locs : List Loc) (cells slots : Nat) (ls : Array Slot) (hZ : z_Z (zGG b0 H0 D vu vs X M) R s w H locs cells slots) (hl : lv_has ls 3 [(0, va_rf rL0), (1, .int xL1), (2, .int xL2)]) : W p l e R s m args below meth c H locs cells slots (z_Q (zGG b0 H0 D vu vs X M) below s w0 res) (F0 m 28 ls [.int xS1, va_rf rS0]) := by
  unfold q_AckBookModel_space_28 at h
  refine lv_iconst (v := (2 : Int32)) hC.1 hC.2.1 d_AckBookModel_space_28 (by decide) ?_
  obtain ⟨a_, fs_, eo_, h⟩ := z_this_spec h
  obtain ⟨w1_, o1_, hF_, ha_⟩ := z_cI_spec h
  refine x_goes hC hRc hRs hFr ha_ (z_goV (As := [.int xS1, .int (2 : Int32)]) hC hZ zc10 eo_ (k_AckBookModel_fails hT hfl hE _ _ hF_) t_947 t_949 ts_AckBookModel_fails t_12 t_950 ⟨by decide, by decide, (by decide +kernel : (parseMethodDescriptor y_AckBookModel_fails.desc).map (fun d => d.parameters.length) = some 2)⟩ (by rw [hRt.1]; decide) (by rw [hRt.2]; decide) hl.1 rfl (by first | exact Nat.le_of_ble_eq_true rfl | simp [z_rfc, z_ci, z_cj]) d_AckBookModel_space_29) (fun v_ hv H locs cells slots hZ => ?_)
  obtain ⟨v2, rfl, h⟩ := hv
  generalize w1_ = w at h hZ
  refine lv_if_eq (tgt := 37) hC.1 hC.2.1 d_AckBookModel_space_32 (by decide) (fun hc => ?_) (fun hc => ?_)
  · have h := z_ifp hc h
    refine lv_iload_n hC.1 hC.2.1 d_AckBookModel_space_37 rfl (lv_at hl 2 rfl) ?_
    by_cases hc0 : xL2 = (0 : Int32)
    · have h := z_ifp hc0 h
      refine lv_tableIn (tgt := 92) hC.1 hC.2.1 d_AckBookModel_space_38 (by rw [hc0]; decide) (by rw [hc0]; decide) (by rw [hc0]; rfl) (by decide) ?_
      refine x_aload_n hC d_AckBookModel_space_92 rfl (lv_at hl 0 rfl) ?_
      refine x_getR hC hZ zc10 h (by decide) t_823 (fun _ h9 => h9) d_AckBookModel_space_93 (fun r3 h => ?_)
      refine lv_iload_n hC.1 hC.2.1 d_AckBookModel_space_96 rfl (lv_at hl 1 rfl) ?_
      refine x_ldI hC hZ h d_AckBookModel_space_97 (fun v4 h => ?_)
      refine lv_i2l hC.1 hC.2.1 d_AckBookModel_space_98 rfl ?_
      exact x_lret hC hRc hRs hZ hr h d_AckBookModel_space_99
    have h := z_ifn hc0 h
    by_cases hc1 : xL2 = (1 : Int32)
    · have h := z_ifp hc1 h
      refine lv_tableIn (tgt := 100) hC.1 hC.2.1 d_AckBookModel_space_38 (by rw [hc1]; decide) (by rw [hc1]; decide) (by rw [hc1]; rfl) (by decide) ?_
      refine x_aload_n hC d_AckBookModel_space_100 rfl (lv_at hl 0 rfl) ?_
      refine x_getR hC hZ zc10 h (by decide) t_831 (fun _ h9 => h9) d_AckBookModel_space_101 (fun r5 h => ?_)
      refine lv_iload_n hC.1 hC.2.1 d_AckBookModel_space_104 rfl (lv_at hl 1 rfl) ?_
      refine x_ldI hC hZ h d_AckBookModel_space_105 (fun v6 h => ?_)
      refine lv_i2l hC.1 hC.2.1 d_AckBookModel_space_106 rfl ?_
      exact x_lret hC hRc hRs hZ hr h d_AckBookModel_space_107
    have h := z_ifn hc1 h
    by_cases hc2 : xL2 = (2 : Int32)
    · have h := z_ifp hc2 h
      refine lv_tableIn (tgt := 108) hC.1 hC.2.1 d_AckBookModel_space_38 (by rw [hc2]; decide) (by rw [hc2]; decide) (by rw [hc2]; rfl) (by decide) ?_
      refine x_aload_n hC d_AckBookModel_space_108 rfl (lv_at hl 0 rfl) ?_
      refine x_getR hC hZ zc10 h (by decide) t_832 (fun _ h9 => h9) d_AckBookModel_space_109 (fun r7 h => ?_)
      refine lv_iload_n hC.1 hC.2.1 d_AckBookModel_space_112 rfl (lv_at hl 1 rfl) ?_
      refine x_ldI hC hZ h d_AckBookModel_space_113 (fun v8 h => ?_)
      refine lv_i2l hC.1 hC.2.1 d_AckBookModel_space_114 rfl ?_
      exact x_lret hC hRc hRs hZ hr h d_AckBookModel_space_115
    have h := z_ifn hc2 h
    by_cases hc3 : xL2 = (3 : Int32)
    · have h := z_ifp hc3 h
      refine lv_tableIn (tgt := 116) hC.1 hC.2.1 d_AckBookModel_space_38 (by rw [hc3]; decide) (by rw [hc3]; decide) (by rw [hc3]; rfl) (by decide) ?_
      refine x_aload_n hC d_AckBookModel_space_116 rfl (lv_at hl 0 rfl) ?_
      refine lv_iload_n hC.1 hC.2.1 d_AckBookModel_space_117 rfl (lv_at hl 1 rfl) ?_
      obtain ⟨a_, fs_, eo_, h⟩ := z_this_spec h
      obtain ⟨w1_, o1_, hF_, ha_⟩ := z_cI_spec h
      refine x_goes hC hRc hRs hFr ha_ (z_goV (As := [.int xL1]) hC hZ zc10 eo_ (k_AckBookModel_probeTime hT hfl hE _ _ hF_) t_1012 t_1014 ts_AckBookModel_probeTime t_12 t_1015 ⟨by decide, by decide, (by decide +kernel : (parseMethodDescriptor y_AckBookModel_probeTime.desc).map (fun d => d.parameters.length) = some 1)⟩ (by rw [hRt.1]; decide) (by rw [hRt.2]; decide) hl.1 rfl (by first | exact Nat.le_of_ble_eq_true rfl | simp [z_rfc, z_ci, z_cj]) d_AckBookModel_space_118) (fun v_ hv H locs cells slots hZ => ?_)
      obtain ⟨v10, rfl, h⟩ := hv
      generalize w1_ = w at h hZ
      refine lv_i2l hC.1 hC.2.1 d_AckBookModel_space_121 rfl ?_
      exact x_lret hC hRc hRs hZ hr h d_AckBookModel_space_122
    have h := z_ifn hc3 h
    by_cases hc4 : xL2 = (4 : Int32)
    · have h := z_ifp hc4 h
      refine lv_tableIn (tgt := 123) hC.1 hC.2.1 d_AckBookModel_space_38 (by rw [hc4]; decide) (by rw [hc4]; decide) (by rw [hc4]; rfl) (by decide) ?_
      refine x_aload_n hC d_AckBookModel_space_123 rfl (lv_at hl 0 rfl) ?_
      refine lv_iload_n hC.1 hC.2.1 d_AckBookModel_space_124 rfl (lv_at hl 1 rfl) ?_
      refine lv_iconst (v := (1 : Int32)) hC.1 hC.2.1 d_AckBookModel_space_125 (by decide) ?_
      obtain ⟨a_, fs_, eo_, h⟩ := z_this_spec h
      obtain ⟨w1_, o1_, hF_, ha_⟩ := z_cI_spec h
      refine x_goes hC hRc hRs hFr ha_ (z_goV (As := [.int xL1, .int (1 : Int32)]) hC hZ zc10 eo_ (k_AckBookModel_outs hT hfl hE _ _ hF_) t_1016 t_1018 ts_AckBookModel_outs t_12 t_1019 ⟨by decide, by decide, (by decide +kernel : (parseMethodDescriptor y_AckBookModel_outs.desc).map (fun d => d.parameters.length) = some 2)⟩ (by rw [hRt.1]; decide) (by rw [hRt.2]; decide) hl.1 rfl (by first | exact Nat.le_of_ble_eq_true rfl | simp [z_rfc, z_ci, z_cj]) d_AckBookModel_space_126) (fun v_ hv H locs cells slots hZ => ?_)
      obtain ⟨v12, rfl, h⟩ := hv
      generalize w1_ = w at h hZ
      refine lv_i2l hC.1 hC.2.1 d_AckBookModel_space_129 rfl ?_
      exact x_lret hC hRc hRs hZ hr h d_AckBookModel_space_130
    have h := z_ifn hc4 h
    by_cases hc5 : xL2 = (5 : Int32)
    · have h := z_ifp hc5 h
      refine lv_tableIn (tgt := 131) hC.1 hC.2.1 d_AckBookModel_space_38 (by rw [hc5]; decide) (by rw [hc5]; decide) (by rw [hc5]; rfl) (by decide) ?_
      refine x_aload_n hC d_AckBookModel_space_131 rfl (lv_at hl 0 rfl) ?_
      refine lv_iload_n hC.1 hC.2.1 d_AckBookModel_space_132 rfl (lv_at hl 1 rfl) ?_
      refine lv_iconst (v := (0 : Int32)) hC.1 hC.2.1 d_AckBookModel_space_133 (by decide) ?_
      obtain ⟨a_, fs_, eo_, h⟩ := z_this_spec h
      obtain ⟨w1_, o1_, hF_, ha_⟩ := z_cI_spec h
      refine x_goes hC hRc hRs hFr ha_ (z_goV (As := [.int xL1, .int (0 : Int32)]) hC hZ zc10 eo_ (k_AckBookModel_outs hT hfl hE _ _ hF_) t_1016 t_1018 ts_AckBookModel_outs t_12 t_1019 ⟨by decide, by decide, (by decide +kernel : (parseMethodDescriptor y_AckBookModel_outs.desc).map (fun d => d.parameters.length) = some 2)⟩ (by rw [hRt.1]; decide) (by rw [hRt.2]; decide) hl.1 rfl (by first | exact Nat.le_of_ble_eq_true rfl | simp [z_rfc, z_ci, z_cj]) d_AckBookModel_space_134) (fun v_ hv H locs cells slots hZ => ?_)
      obtain ⟨v14, rfl, h⟩ := hv
      generalize w1_ = w at h hZ
      refine lv_i2l hC.1 hC.2.1 d_AckBookModel_space_137 rfl ?_
      exact x_lret hC hRc hRs hZ hr h d_AckBookModel_space_138
    have h := z_ifn hc5 h
    by_cases hc6 : xL2 = (6 : Int32)
    · have h := z_ifp hc6 h
      refine lv_tableIn (tgt := 139) hC.1 hC.2.1 d_AckBookModel_space_38 (by rw [hc6]; decide) (by rw [hc6]; decide) (by rw [hc6]; rfl) (by decide) ?_
      refine x_aload_n hC d_AckBookModel_space_139 rfl (lv_at hl 0 rfl) ?_
      refine x_getR hC hZ zc10 h (by decide) t_849 (fun _ h9 => h9) d_AckBookModel_space_140 (fun r15 h => ?_)
      refine lv_iload_n hC.1 hC.2.1 d_AckBookModel_space_143 rfl (lv_at hl 1 rfl) ?_
      refine x_ldI hC hZ h d_AckBookModel_space_144 (fun v16 h => ?_)
      refine lv_i2l hC.1 hC.2.1 d_AckBookModel_space_145 rfl ?_
      exact x_lret hC hRc hRs hZ hr h d_AckBookModel_space_146
    have h := z_ifn hc6 h
    by_cases hc7 : xL2 = (7 : Int32)
    · have h := z_ifp hc7 h
      refine lv_tableIn (tgt := 147) hC.1 hC.2.1 d_AckBookModel_space_38 (by rw [hc7]; decide) (by rw [hc7]; decide) (by rw [hc7]; rfl) (by decide) ?_
      refine x_aload_n hC d_AckBookModel_space_147 rfl (lv_at hl 0 rfl) ?_
      refine x_getR hC hZ zc10 h (by decide) t_854 (fun _ h9 => h9) d_AckBookModel_space_148 (fun r17 h => ?_)
      refine lv_iload_n hC.1 hC.2.1 d_AckBookModel_space_151 rfl (lv_at hl 1 rfl) ?_
      refine x_ldI hC hZ h d_AckBookModel_space_152 (fun v18 h => ?_)
      refine lv_i2l hC.1 hC.2.1 d_AckBookModel_space_153 rfl ?_
      exact x_lret hC hRc hRs hZ hr h d_AckBookModel_space_154
    have h := z_ifn hc7 h
    by_cases hc8 : xL2 = (8 : Int32)
    · have h := z_ifp hc8 h
      refine lv_tableIn (tgt := 155) hC.1 hC.2.1 d_AckBookModel_space_38 (by rw [hc8]; decide) (by rw [hc8]; decide) (by rw [hc8]; rfl) (by decide) ?_
      refine x_aload_n hC d_AckBookModel_space_155 rfl (lv_at hl 0 rfl) ?_
      refine lv_iload_n hC.1 hC.2.1 d_AckBookModel_space_156 rfl (lv_at hl 1 rfl) ?_
      obtain ⟨a_, fs_, eo_, h⟩ := z_this_spec h
      obtain ⟨w1_, o1_, hF_, ha_⟩ := z_cI_spec h
      refine x_goes hC hRc hRs hFr ha_ (z_goV (As := [.int xL1]) hC hZ zc10 eo_ (k_AckBookModel_patience hT hfl hE _ _ hF_) t_1020 t_1022 ts_AckBookModel_patience t_12 t_1023 ⟨by decide, by decide, (by decide +kernel : (parseMethodDescriptor y_AckBookModel_patience.desc).map (fun d => d.parameters.length) = some 1)⟩ (by rw [hRt.1]; decide) (by rw [hRt.2]; decide) hl.1 rfl (by first | exact Nat.le_of_ble_eq_true rfl | simp [z_rfc, z_ci, z_cj]) d_AckBookModel_space_157) (fun v_ hv H locs cells slots hZ => ?_)
      obtain ⟨v20, rfl, h⟩ := hv
      generalize w1_ = w at h hZ
      refine lv_i2l hC.1 hC.2.1 d_AckBookModel_space_160 rfl ?_
      exact x_lret hC hRc hRs hZ hr h d_AckBookModel_space_161
    have h := z_ifn hc8 h
    by_cases hc9 : xL2 = (9 : Int32)
    · have h := z_ifp hc9 h
      refine lv_tableIn (tgt := 162) hC.1 hC.2.1 d_AckBookModel_space_38 (by rw [hc9]; decide) (by rw [hc9]; decide) (by rw [hc9]; rfl) (by decide) ?_
      refine x_aload_n hC d_AckBookModel_space_162 rfl (lv_at hl 0 rfl) ?_
      refine x_getR hC hZ zc10 h (by decide) t_830 (fun _ h9 => h9) d_AckBookModel_space_163 (fun r21 h => ?_)
      refine lv_iload_n hC.1 hC.2.1 d_AckBookModel_space_166 rfl (lv_at hl 1 rfl) ?_
      refine x_ldZ hC hZ h d_AckBookModel_space_167 (fun v22 h => ?_)
      refine lv_if_eq (tgt := 175) hC.1 hC.2.1 d_AckBookModel_space_168 (by decide) (fun hc => ?_) (fun hc => ?_)
      · have h := z_ifp hc h
        refine lv_lconst (v := (0 : Int64)) hC.1 hC.2.1 d_AckBookModel_space_175 (by decide) ?_
        exact x_lret hC hRc hRs hZ hr h d_AckBookModel_space_176
      · have h := z_ifn hc h
        refine lv_lconst (v := (1 : Int64)) hC.1 hC.2.1 d_AckBookModel_space_171 (by decide) ?_
        refine lv_goto (tgt := 176) hC.1 hC.2.1 d_AckBookModel_space_172 (by decide) ?_
        exact x_lret hC hRc hRs hZ hr h d_AckBookModel_space_176
    have h := z_ifn hc9 h
    refine lv_tableOut (tgt := 177) hC.1 hC.2.1 d_AckBookModel_space_38 (z_tab 9 (fun k hk => match k, hk with | 0, _ => hc0 | 1, _ => hc1 | 2, _ => hc2 | 3, _ => hc3 | 4, _ => hc4 | 5, _ => hc5 | 6, _ => hc6 | 7, _ => hc7 | 8, _ => hc8 | 9, _ => hc9 | _ + 10, hk => absurd hk (by omega))) (by decide) ?_
    refine x_aload_n hC d_AckBookModel_space_177 rfl (lv_at hl 0 rfl) ?_
    refine x_getR hC hZ zc10 h (by decide) t_852 (fun _ h9 => h9) d_AckBookModel_space_178 (fun r23 h => ?_)
    refine lv_iload_n hC.1 hC.2.1 d_AckBookModel_space_181 rfl (lv_at hl 1 rfl) ?_
    refine x_ldL hC hZ h d_AckBookModel_space_182 (fun v24 h => ?_)
    exact x_lret hC hRc hRs hZ hr h d_AckBookModel_space_183
  · have h := z_ifn hc h
    refine lv_lconst (v := (0 : Int64)) hC.1 hC.2.1 d_AckBookModel_space_35 (by decide) ?_
    exact x_lret hC hRc hRs hZ hr h d_AckBookModel_space_36
def q_AckBookModel_space_23 (F X : Nat) (rL0 : Option Nat) (xL1 : Int32) (xL2 : Int32) (rS0 : Option Nat) (w : zW) : zR :=
  q_AckBookModel_space_28 F X rL0 xL1 xL2 rS0 (1 : Int32) w
set_option maxHeartbeats 4000000 in
set_option maxRecDepth 100000 in
theorem kq_AckBookModel_space_23 {b0 : Nat} {H0 : Heap} {D : va_G} {vu vs : Value} {X M : Nat} {l : Launch} (hT : z_TB (zGG b0 H0 D vu vs X M)) (hfl : l.flags = pinnedFlags ++ [noTraceFlag]) (hE : vu.isRef = true ∧ vs.isRef = true) {p : Program} {e : Env} {R : Room} {s : State} {m : MethodId} {args : Array Value} {below : List Frame} {meth : Method} {c : Code} {w0 : zW} {F : Nat} (hC : z_C (zGG b0 H0 D vu vs X M) p e s m meth c c_AckBookModel_space 3 y_AckBookModel_space.cls) (hr : meth.sig.returnType = (some FieldType.long)) (hRc : R.cells = w0.2.1) (hRs : R.slots = w0.2.2.1) (hFr : c.exceptionTable.toList = []) (hRt : R.frames = 3 ∧ R.locals = 69) (hnm : meth.name = y_AckBookModel_space.name) (rL0 : Option Nat) (xL1 : Int32) (xL2 : Int32) (rS0 : Option Nat) (w : zW) (res : zO × zW) (h : q_AckBookModel_space_23 F X rL0 xL1 xL2 rS0 w = some res) (H : Heap) (locs : List Loc) (cells slots : Nat) (ls : Array Slot) (hZ : z_Z (zGG b0 H0 D vu vs X M) R s w H locs cells slots) (hl : lv_has ls 3 [(0, va_rf rL0), (1, .int xL1), (2, .int xL2)]) : W p l e R s m args below meth c H locs cells slots (z_Q (zGG b0 H0 D vu vs X M) below s w0 res) (F0 m 23 ls [va_rf rS0]) := by
  unfold q_AckBookModel_space_23 at h
  refine lv_iconst (v := (1 : Int32)) hC.1 hC.2.1 d_AckBookModel_space_23 (by decide) ?_
  refine lv_goto (tgt := 28) hC.1 hC.2.1 d_AckBookModel_space_24 (by decide) ?_
  exact kq_AckBookModel_space_28 hT hfl hE hC hr hRc hRs hFr hRt hnm _ _ _ _ _ _ _ h _ _ _ _ _ hZ (lv_sub hl [0, 1, 2] rfl)
def f_AckBookModel_space (F X : Nat) (a0 : Option Nat) (pI1 : Int32) (pI2 : Int32) (w : zW) : zR :=
  z_cI (f_AckBookModel_noSpace F X pI1 w) fun v26 w =>
  z_this w 10 a0 <|
  z_cI (f_AckBookModel_fails F X a0 v26 (1 : Int32) w) fun v28 w =>
  if v28 = 0 then (
    if pI2 < 0 then (
      q_AckBookModel_space_23 F X a0 pI1 pI2 a0 w)
    else (
      if pI2 ≤ (10 : Int32) then (
        q_AckBookModel_space_28 F X a0 pI1 pI2 a0 (0 : Int32) w)
      else (
        q_AckBookModel_space_23 F X a0 pI1 pI2 a0 w)))
  else (
    some (.inl (some (.long (0 : Int64))), w))
set_option maxHeartbeats 4000000 in
set_option maxRecDepth 100000 in
theorem k_AckBookModel_space {b0 : Nat} {H0 : Heap} {D : va_G} {vu vs : Value} {X M : Nat} {l : Launch} (hT : z_TB (zGG b0 H0 D vu vs X M)) (hfl : l.flags = pinnedFlags ++ [noTraceFlag]) (hE : vu.isRef = true ∧ vs.isRef = true) {a0 : Option Nat} {pI1 : Int32} {pI2 : Int32} (F : Nat) {w : zW} (res : zO × zW) (h : f_AckBookModel_space F X a0 pI1 pI2 w = some res) : z_Ct (zGG b0 H0 D vu vs X M) l y_AckBookModel_space (.code y_AckBookModel_space c_AckBookModel_space 3 (some FieldType.long)) 3 69 [va_rf a0, .int pI1, .int pI2] w res := by
  refine z_ct hT hfl (by decide) (by simp only [z_sl_i, z_sl_j, z_sl_r, z_sl_n]; decide) ?_
  intro p e R s m args below meth c hC hr hRc hRs hRt hnm hFr H ls hZ hl
  simp only [z_la_i, z_la_j, z_la_r, z_la_n] at hl
  have hl : lv_has ls 3 [(0, va_rf a0), (1, .int pI1), (2, .int pI2)] := hl
  unfold f_AckBookModel_space at h
  refine x_aload_n hC d_AckBookModel_space_0 rfl (lv_at hl 0 rfl) ?_
  refine lv_iload_n hC.1 hC.2.1 d_AckBookModel_space_1 rfl (lv_at hl 1 rfl) ?_
  obtain ⟨w1_, o1_, hF_, ha_⟩ := z_cI_spec h
  refine x_goes hC hRc hRs hFr ha_ (z_goS (As := [.int pI1]) hC hZ (k_AckBookModel_noSpace hT hfl hE _ _ hF_) t_944 t_945 t_12 t_946 ⟨by decide, by decide, (by decide +kernel : (parseMethodDescriptor y_AckBookModel_noSpace.desc).map (fun d => d.parameters.length) = some 1)⟩ (by rw [hRt.1]; decide) (by rw [hRt.2]; decide) hl.1 rfl (by first | exact Nat.le_of_ble_eq_true rfl | simp [z_rfc, z_ci, z_cj]) d_AckBookModel_space_2) (fun v_ hv H locs cells slots hZ => ?_)
  obtain ⟨v26, rfl, h⟩ := hv
  generalize w1_ = w at h hZ
  refine lv_iconst (v := (1 : Int32)) hC.1 hC.2.1 d_AckBookModel_space_5 (by decide) ?_
  obtain ⟨a_, fs_, eo_, h⟩ := z_this_spec h
  obtain ⟨w1_, o1_, hF_, ha_⟩ := z_cI_spec h
  refine x_goes hC hRc hRs hFr ha_ (z_goV (As := [.int v26, .int (1 : Int32)]) hC hZ zc10 eo_ (k_AckBookModel_fails hT hfl hE _ _ hF_) t_947 t_949 ts_AckBookModel_fails t_12 t_950 ⟨by decide, by decide, (by decide +kernel : (parseMethodDescriptor y_AckBookModel_fails.desc).map (fun d => d.parameters.length) = some 2)⟩ (by rw [hRt.1]; decide) (by rw [hRt.2]; decide) hl.1 rfl (by first | exact Nat.le_of_ble_eq_true rfl | simp [z_rfc, z_ci, z_cj]) d_AckBookModel_space_6) (fun v_ hv H locs cells slots hZ => ?_)
  obtain ⟨v28, rfl, h⟩ := hv
  generalize w1_ = w at h hZ
  refine lv_if_ne (tgt := 35) hC.1 hC.2.1 d_AckBookModel_space_9 (by decide) (fun hc => ?_) (fun hc => ?_)
  · have h := z_ifn hc h
    refine lv_lconst (v := (0 : Int64)) hC.1 hC.2.1 d_AckBookModel_space_35 (by decide) ?_
    exact x_lret hC hRc hRs hZ hr h d_AckBookModel_space_36
  · have h := z_ifp hc h
    refine x_aload_n hC d_AckBookModel_space_12 rfl (lv_at hl 0 rfl) ?_
    refine lv_iload_n hC.1 hC.2.1 d_AckBookModel_space_13 rfl (lv_at hl 2 rfl) ?_
    refine lv_if_lt (tgt := 23) hC.1 hC.2.1 d_AckBookModel_space_14 (by decide) (fun hc => ?_) (fun hc => ?_)
    · have h := z_ifp hc h
      exact kq_AckBookModel_space_23 hT hfl hE hC hr hRc hRs hFr hRt hnm _ _ _ _ _ _ h _ _ _ _ _ hZ (lv_sub hl [0, 1, 2] rfl)
    · have h := z_ifn hc h
      refine lv_iload_n hC.1 hC.2.1 d_AckBookModel_space_17 rfl (lv_at hl 2 rfl) ?_
      refine lv_bipush (v := (10 : Int32)) hC.1 hC.2.1 d_AckBookModel_space_18 (by decide) ?_
      refine lv_icmp_le (tgt := 27) hC.1 hC.2.1 d_AckBookModel_space_20 (by decide) (fun hc => ?_) (fun hc => ?_)
      · have h := z_ifp hc h
        refine lv_iconst (v := (0 : Int32)) hC.1 hC.2.1 d_AckBookModel_space_27 (by decide) ?_
        exact kq_AckBookModel_space_28 hT hfl hE hC hr hRc hRs hFr hRt hnm _ _ _ _ _ _ _ h _ _ _ _ _ hZ (lv_sub hl [0, 1, 2] rfl)
      · have h := z_ifn hc h
        exact kq_AckBookModel_space_23 hT hfl hE hC hr hRc hRs hFr hRt hnm _ _ _ _ _ _ h _ _ _ _ _ hZ (lv_sub hl [0, 1, 2] rfl)
