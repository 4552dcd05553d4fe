def f_AckBookModel_patience (F X : Nat) (a0 : Option Nat) (pI1 : Int32) (w : zW) : zR :=
  z_getI w 10 18 a0 fun v1 =>
  z_getI w 10 19 a0 fun v2 =>
  z_cI (f_AckBookModel_greater F X v2 (1 : Int32) w) fun v4 w =>
  if pI1 = (2 : Int32) then (
    z_getI w 10 2 a0 fun v5 =>
    if v5 = 0 then (
      some (.inl (some (.int (((v1 / (8 : Int32)) + v4) + (0 : Int32)))), w))
    else (
      some (.inl (some (.int (((v1 / (8 : Int32)) + v4) + (25 : Int32)))), w)))
  else (
    some (.inl (some (.int (((v1 / (8 : Int32)) + v4) + (0 : Int32)))), w))
set_option maxHeartbeats 4000000 in
set_option maxRecDepth 100000 in
theorem k_AckBookModel_patience {b0 : Nat} {H0 : Heap} {D : va_G} {vu vs : Value} {X M : Nat} {l : Launch} (hT : z_TB (zGG b0 H0 D vu vs X M)) (hfl : l.flags = pinnedFlags ++ [noTraceFlag]) (hE : vu.isRef = true ∧ vs.isRef = true) {a0 : Option Nat} {pI1 : Int32} (F : Nat) {w : zW} (res : zO × zW) (h : f_AckBookModel_patience F X a0 pI1 w = some res) : z_Ct (zGG b0 H0 D vu vs X M) l y_AckBookModel_patience (.code y_AckBookModel_patience c_AckBookModel_patience 2 (some FieldType.int)) 1 21 [va_rf a0, .int pI1] w res := by
  refine z_ct hT hfl (by decide) (by simp only [z_sl_i, z_sl_j, z_sl_r, z_sl_n]; decide) ?_
  intro p e R s m args below meth c hC hr hRc hRs hRt hnm hFr H ls hZ hl
  simp only [z_la_i, z_la_j, z_la_r, z_la_n] at hl
  have hl : lv_has ls 2 [(0, va_rf a0), (1, .int pI1)] := hl
  unfold f_AckBookModel_patience at h
  refine x_aload_n hC d_AckBookModel_patience_0 rfl (lv_at hl 0 rfl) ?_
  refine x_getI hC hZ zc10 h (by decide) t_837 (fun _ h9 => h9) d_AckBookModel_patience_1 (fun v1 h => ?_)
  refine lv_bipush (v := (8 : Int32)) hC.1 hC.2.1 d_AckBookModel_patience_4 (by decide) ?_
  refine lv_idiv hC.1 hC.2.1 d_AckBookModel_patience_6 (by decide) ?_
  refine x_aload_n hC d_AckBookModel_patience_7 rfl (lv_at hl 0 rfl) ?_
  refine x_getI hC hZ zc10 h (by decide) t_838 (fun _ h9 => h9) d_AckBookModel_patience_8 (fun v2 h => ?_)
  refine lv_iconst (v := (1 : Int32)) hC.1 hC.2.1 d_AckBookModel_patience_11 (by decide) ?_
  obtain ⟨w1_, o1_, hF_, ha_⟩ := z_cI_spec h
  refine x_goes hC hRc hRs hFr ha_ (z_goS (As := [.int v2, .int (1 : Int32)]) hC hZ (k_AckBookModel_greater hT hfl hE _ _ hF_) t_973 t_974 t_12 t_975 ⟨by decide, by decide, (by decide +kernel : (parseMethodDescriptor y_AckBookModel_greater.desc).map (fun d => d.parameters.length) = some 2)⟩ (by rw [hRt.1]; decide) (by rw [hRt.2]; decide) hl.1 rfl (by first | exact Nat.le_of_ble_eq_true rfl | simp [z_rfc, z_ci, z_cj]) d_AckBookModel_patience_12) (fun v_ hv H locs cells slots hZ => ?_)
  obtain ⟨v4, rfl, h⟩ := hv
  generalize w1_ = w at h hZ
  refine lv_iadd hC.1 hC.2.1 d_AckBookModel_patience_15 ?_
  refine lv_iload_n hC.1 hC.2.1 d_AckBookModel_patience_16 rfl (lv_at hl 1 rfl) ?_
  refine lv_iconst (v := (2 : Int32)) hC.1 hC.2.1 d_AckBookModel_patience_17 (by decide) ?_
  refine lv_icmp_ne (tgt := 33) hC.1 hC.2.1 d_AckBookModel_patience_18 (by decide) (fun hc => ?_) (fun hc => ?_)
  · have h := z_ifn hc h
    refine lv_iconst (v := (0 : Int32)) hC.1 hC.2.1 d_AckBookModel_patience_33 (by decide) ?_
    refine lv_iadd hC.1 hC.2.1 d_AckBookModel_patience_34 ?_
    exact x_iret hC hRc hRs hZ hr rfl h d_AckBookModel_patience_35
  · have h := z_ifp hc h
    refine x_aload_n hC d_AckBookModel_patience_21 rfl (lv_at hl 0 rfl) ?_
    refine x_getI hC hZ zc10 h (by decide) t_821 (fun _ h9 => h9) d_AckBookModel_patience_22 (fun v5 h => ?_)
    refine lv_if_eq (tgt := 33) hC.1 hC.2.1 d_AckBookModel_patience_25 (by decide) (fun hc => ?_) (fun hc => ?_)
    · have h := z_ifp hc h
      refine lv_iconst (v := (0 : Int32)) hC.1 hC.2.1 d_AckBookModel_patience_33 (by decide) ?_
      refine lv_iadd hC.1 hC.2.1 d_AckBookModel_patience_34 ?_
      exact x_iret hC hRc hRs hZ hr rfl h d_AckBookModel_patience_35
    · have h := z_ifn hc h
      refine lv_bipush (v := (25 : Int32)) hC.1 hC.2.1 d_AckBookModel_patience_28 (by decide) ?_
      refine lv_goto (tgt := 34) hC.1 hC.2.1 d_AckBookModel_patience_30 (by decide) ?_
      refine lv_iadd hC.1 hC.2.1 d_AckBookModel_patience_34 ?_
      exact x_iret hC hRc hRs hZ hr rfl h d_AckBookModel_patience_35
def j_AckBookModel_firstSpace (F X : Nat) : Nat → Option Nat → Int32 → zW → zR
  | 0, _, _, _ => none
  | N + 1, rL0, xL1, w =>
    if (3 : Int32) ≤ xL1 then (
      some (.inl (some (.int xL1)), w))
    else (
      z_getR w 10 11 rL0 fun r1 =>
      z_ldI w .boolean r1 xL1 fun v2 =>
      if v2 = 0 then (
        some (.inl (some (.int xL1)), w))
      else (
        (j_AckBookModel_firstSpace F X N) rL0 (xL1 + (1 : Int32)) w))
set_option maxHeartbeats 4000000 in
set_option maxRecDepth 100000 in
theorem kj_AckBookModel_firstSpace {b0 : Nat} {H0 : Heap} {D : va_G} {vu vs : Value} {X M : Nat} {l : Launch} (hT : z_TB (zGG b0 H0 D vu vs X M)) (hfl : l.flags = pinnedFlags ++ [noTraceFlag]) (hE : vu.isRef = true ∧ vs.isRef = true) {p : Program} {e : Env} {R : Room} {s : State} {m : MethodId} {args : Array Value} {below : List Frame} {meth : Method} {c : Code} {w0 : zW} {F : Nat} (hC : z_C (zGG b0 H0 D vu vs X M) p e s m meth c c_AckBookModel_firstSpace 2 y_AckBookModel_firstSpace.cls) (hr : meth.sig.returnType = (some FieldType.int)) (hRc : R.cells = w0.2.1) (hRs : R.slots = w0.2.2.1) (hFr : c.exceptionTable.toList = []) (hRt : R.frames = 0 ∧ R.locals = 0) (hnm : meth.name = y_AckBookModel_firstSpace.name) : ∀ N : Nat, (∀ (rL0 : Option Nat) (xL1 : Int32) (w : zW) (res : zO × zW), j_AckBookModel_firstSpace F X N rL0 xL1 w = some res → ∀ (H : Heap) (locs : List Loc) (cells slots : Nat) (ls : Array Slot), z_Z (zGG b0 H0 D vu vs X M) R s w H locs cells slots → lv_has ls 2 [(0, va_rf rL0), (1, .int xL1)] → W p l e R s m args below meth c H locs cells slots (z_Q (zGG b0 H0 D vu vs X M) below s w0 res) (F0 m 2 ls [])) := by
  intro N
  induction N with
  | zero =>
    intro rL0 xL1 w res h
    rw [j_AckBookModel_firstSpace] at h
    cases h
  | succ N ih =>
    intro rL0 xL1 w res h H locs cells slots ls hZ hl
    rw [j_AckBookModel_firstSpace] at h
    refine lv_iload_n hC.1 hC.2.1 d_AckBookModel_firstSpace_2 rfl (lv_at hl 1 rfl) ?_
    refine lv_iconst (v := (3 : Int32)) hC.1 hC.2.1 d_AckBookModel_firstSpace_3 (by decide) ?_
    refine lv_icmp_ge (tgt := 22) hC.1 hC.2.1 d_AckBookModel_firstSpace_4 (by decide) (fun hc => ?_) (fun hc => ?_)
    · have h := z_ifp hc h
      refine lv_iload_n hC.1 hC.2.1 d_AckBookModel_firstSpace_22 rfl (lv_at hl 1 rfl) ?_
      exact x_iret hC hRc hRs hZ hr rfl h d_AckBookModel_firstSpace_23
    · have h := z_ifn hc h
      refine x_aload_n hC d_AckBookModel_firstSpace_7 rfl (lv_at hl 0 rfl) ?_
      refine x_getR hC hZ zc10 h (by decide) t_830 (fun _ h9 => h9) d_AckBookModel_firstSpace_8 (fun r1 h => ?_)
      refine lv_iload_n hC.1 hC.2.1 d_AckBookModel_firstSpace_11 rfl (lv_at hl 1 rfl) ?_
      refine x_ldZ hC hZ h d_AckBookModel_firstSpace_12 (fun v2 h => ?_)
      refine lv_if_eq (tgt := 22) hC.1 hC.2.1 d_AckBookModel_firstSpace_13 (by decide) (fun hc => ?_) (fun hc => ?_)
      · have h := z_ifp hc h
        refine lv_iload_n hC.1 hC.2.1 d_AckBookModel_firstSpace_22 rfl (lv_at hl 1 rfl) ?_
        exact x_iret hC hRc hRs hZ hr rfl h d_AckBookModel_firstSpace_23
      · have h := z_ifn hc h
        refine lv_iinc (lv' := [(1, .int (xL1 + (1 : Int32))), (0, va_rf rL0)]) hC.1 hC.2.1 d_AckBookModel_firstSpace_16 hl (k := 1) rfl rfl (by decide) (by first | rfl | simp [z_rfc, z_ci, z_cj]) (fun ls hl => ?_)
        refine lv_goto (tgt := 2) hC.1 hC.2.1 d_AckBookModel_firstSpace_19 (by decide) ?_
        exact ih _ _ _ _ h _ _ _ _ _ hZ (lv_sub hl [1, 0] rfl)
def f_AckBookModel_firstSpace (F X : Nat) (a0 : Option Nat) (w : zW) : zR :=
  (j_AckBookModel_firstSpace F X F) a0 (0 : Int32) w
set_option maxHeartbeats 4000000 in
set_option maxRecDepth 100000 in
theorem k_AckBookModel_firstSpace {b0 : Nat} {H0 : Heap} {D : va_G} {vu vs : Value} {X M : Nat} {l : Launch} (hT : z_TB (zGG b0 H0 D vu vs X M)) (hfl : l.flags = pinnedFlags ++ [noTraceFlag]) (hE : vu.isRef = true ∧ vs.isRef = true) {a0 : Option Nat} (F : Nat) {w : zW} (res : zO × zW) (h : f_AckBookModel_firstSpace F X a0 w = some res) : z_Ct (zGG b0 H0 D vu vs X M) l y_AckBookModel_firstSpace (.code y_AckBookModel_firstSpace c_AckBookModel_firstSpace 2 (some FieldType.int)) 0 0 [va_rf a0] w res := by
  refine z_ct hT hfl (by decide) (by simp only [z_sl_i, z_sl_j, z_sl_r, z_sl_n]; decide) ?_
  intro p e R s m args below meth c hC hr hRc hRs hRt hnm hFr H ls hZ hl
  simp only [z_la_i, z_la_j, z_la_r, z_la_n] at hl
  have hl : lv_has ls 2 [(0, va_rf a0)] := hl
  unfold f_AckBookModel_firstSpace at h
  refine lv_iconst (v := (0 : Int32)) hC.1 hC.2.1 d_AckBookModel_firstSpace_0 (by decide) ?_
  refine lv_istore_n (i := 1) (lv' := [(1, .int (0 : Int32)), (0, va_rf a0)]) hC.1 hC.2.1 d_AckBookModel_firstSpace_1 rfl hl (by decide) (by first | rfl | simp [z_rfc, z_ci, z_cj]) (fun ls hl => ?_)
  exact (kj_AckBookModel_firstSpace hT hfl hE hC hr hRc hRs hFr hRt hnm F) _ _ _ _ h _ _ _ _ _ hZ (lv_sub hl [1, 0] rfl)
def q_AckBookModel_probeTime_125 (F X : Nat) (J : Option Nat → Int32 → Int32 → Int32 → zW → zR) (rL0 : Option Nat) (xL1 : Int32) (xS0 : Int32) (w : zW) : zR :=
  z_getI w 10 3 rL0 fun v1 =>
  if v1 = 0 then (
    some (.inl (some (.int (-1 : Int32))), w))
  else (
    if xS0 = 0 then (
      z_this w 10 rL0 <|
      z_cI (f_AckBookModel_firstSpace F X rL0 w) fun v3 w =>
      if v3 = xL1 then (
        z_getI w 10 14 rL0 fun v4 =>
        z_this w 10 rL0 <|
        z_cI (f_AckBookModel_patience F X rL0 xL1 w) fun v6 w =>
        z_getI w 10 23 rL0 fun v7 =>
        some (.inl (some (.int (v4 + (v6 <<< (v7 &&& 31))))), w))
      else (
        some (.inl (some (.int (-1 : Int32))), w)))
    else (
      some (.inl (some (.int (-1 : Int32))), w)))
set_option maxHeartbeats 4000000 in
set_option maxRecDepth 100000 in
theorem kq_AckBookModel_probeTime_125 {b0 : Nat} {H0 : Heap} {D : va_G} {vu vs : Value} {X M : Nat} {l : Launch} (hT : z_TB (zGG b0 H0 D vu vs X M)) (hfl : l.flags = pinnedFlags ++ [noTraceFlag]) (hE : vu.isRef = true ∧ vs.isRef = true) {p : Program} {e : Env} {R : Room} {s : State} {m : MethodId} {args : Array Value} {below : List Frame} {meth : Method} {c : Code} {w0 : zW} {F : Nat} (hC : z_C (zGG b0 H0 D vu vs X M) p e s m meth c c_AckBookModel_probeTime 4 y_AckBookModel_probeTime.cls) (hr : meth.sig.returnType = (some FieldType.int)) (hRc : R.cells = w0.2.1) (hRs : R.slots = w0.2.2.1) (hFr : c.exceptionTable.toList = []) (hRt : R.frames = 2 ∧ R.locals = 46) (hnm : meth.name = y_AckBookModel_probeTime.name) {J : Option Nat → Int32 → Int32 → Int32 → zW → zR} (hJ : (∀ (rL0 : Option Nat) (xL1 : Int32) (xL2 : Int32) (xL3 : Int32) (w : zW) (res : zO × zW), J rL0 xL1 xL2 xL3 w = some res → ∀ (H : Heap) (locs : List Loc) (cells slots : Nat) (ls : Array Slot), z_Z (zGG b0 H0 D vu vs X M) R s w H locs cells slots → lv_has ls 4 [(0, va_rf rL0), (1, .int xL1), (2, .int xL2), (3, .int xL3)] → W p l e R s m args below meth c H locs cells slots (z_Q (zGG b0 H0 D vu vs X M) below s w0 res) (F0 m 36 ls []))) (rL0 : Option Nat) (xL1 : Int32) (xS0 : Int32) (w : zW) (res : zO × zW) (h : q_AckBookModel_probeTime_125 F X J rL0 xL1 xS0 w = some res) (H : Heap) (locs : List Loc) (cells slots : Nat) (ls : Array Slot) (hZ : z_Z (zGG b0 H0 D vu vs X M) R s w H locs cells slots) (hl : lv_has ls 4 [(0, va_rf rL0), (1, .int xL1)]) : W p l e R s m args below meth c H locs cells slots (z_Q (zGG b0 H0 D vu vs X M) below s w0 res) (F0 m 125 ls [.int xS0]) := by
  unfold q_AckBookModel_probeTime_125 at h
  refine lv_istore_n (i := 2) (lv' := [(2, .int xS0), (0, va_rf rL0), (1, .int xL1)]) hC.1 hC.2.1 d_AckBookModel_probeTime_125 rfl hl (by decide) (by first | rfl | simp [z_rfc, z_ci, z_cj]) (fun ls hl => ?_)
  refine x_aload_n hC d_AckBookModel_probeTime_126 rfl (lv_at hl 1 rfl) ?_
  refine x_getI hC hZ zc10 h (by decide) t_822 (fun _ h9 => h9) d_AckBookModel_probeTime_127 (fun v1 h => ?_)
  refine lv_if_eq (tgt := 163) hC.1 hC.2.1 d_AckBookModel_probeTime_130 (by decide) (fun hc => ?_) (fun hc => ?_)
  · have h := z_ifp hc h
    refine lv_iconst (v := (-1 : Int32)) hC.1 hC.2.1 d_AckBookModel_probeTime_163 (by decide) ?_
    exact x_iret hC hRc hRs hZ hr rfl h d_AckBookModel_probeTime_164
  · have h := z_ifn hc h
    refine lv_iload_n hC.1 hC.2.1 d_AckBookModel_probeTime_133 rfl (lv_at hl 0 rfl) ?_
    refine lv_if_ne (tgt := 163) hC.1 hC.2.1 d_AckBookModel_probeTime_134 (by decide) (fun hc => ?_) (fun hc => ?_)
    · have h := z_ifn hc h
      refine lv_iconst (v := (-1 : Int32)) hC.1 hC.2.1 d_AckBookModel_probeTime_163 (by decide) ?_
      exact x_iret hC hRc hRs hZ hr rfl h d_AckBookModel_probeTime_164
    · have h := z_ifp hc h
      refine x_aload_n hC d_AckBookModel_probeTime_137 rfl (lv_at hl 1 rfl) ?_
      obtain ⟨a_, fs_, eo_, h⟩ := z_this_spec h
      obtain ⟨w1_, o1_, hF_, ha_⟩ := z_cI_spec h
      refine x_goes hC hRc hRs hFr ha_ (z_goV (As := []) hC hZ zc10 eo_ (k_AckBookModel_firstSpace hT hfl hE _ _ hF_) t_1024 t_1026 ts_AckBookModel_firstSpace t_12 t_1027 ⟨by decide, by decide, (by decide +kernel : (parseMethodDescriptor y_AckBookModel_firstSpace.desc).map (fun d => d.parameters.length) = some 0)⟩ (by rw [hRt.1]; decide) (by rw [hRt.2]; decide) hl.1 rfl (by first | exact Nat.le_of_ble_eq_true rfl | simp [z_rfc, z_ci, z_cj]) d_AckBookModel_probeTime_138) (fun v_ hv H locs cells slots hZ => ?_)
      obtain ⟨v3, rfl, h⟩ := hv
      generalize w1_ = w at h hZ
      refine lv_iload_n hC.1 hC.2.1 d_AckBookModel_probeTime_141 rfl (lv_at hl 2 rfl) ?_
      refine lv_icmp_ne (tgt := 163) hC.1 hC.2.1 d_AckBookModel_probeTime_142 (by decide) (fun hc => ?_) (fun hc => ?_)
      · have h := z_ifn hc h
        refine lv_iconst (v := (-1 : Int32)) hC.1 hC.2.1 d_AckBookModel_probeTime_163 (by decide) ?_
        exact x_iret hC hRc hRs hZ hr rfl h d_AckBookModel_probeTime_164
      · have h := z_ifp hc h
        refine x_aload_n hC d_AckBookModel_probeTime_145 rfl (lv_at hl 1 rfl) ?_
        refine x_getI hC hZ zc10 h (by decide) t_833 (fun _ h9 => h9) d_AckBookModel_probeTime_146 (fun v4 h => ?_)
        refine x_aload_n hC d_AckBookModel_probeTime_149 rfl (lv_at hl 1 rfl) ?_
        refine lv_iload_n hC.1 hC.2.1 d_AckBookModel_probeTime_150 rfl (lv_at hl 2 rfl) ?_
        obtain ⟨a_, fs_, eo_, h⟩ := z_this_spec h
        obtain ⟨w1_, o1_, hF_, ha_⟩ := z_cI_spec h
        refine x_goes hC hRc hRs hFr ha_ (z_goV (As := [.int xL1]) hC hZ zc10 eo_ (k_AckBookModel_patience hT hfl hE _ _ hF_) t_1020 t_1022 ts_AckBookModel_patience t_12 t_1023 ⟨by decide, by decide, (by decide +kernel : (parseMethodDescriptor y_AckBookModel_patience.desc).map (fun d => d.parameters.length) = some 1)⟩ (by rw [hRt.1]; decide) (by rw [hRt.2]; decide) hl.1 rfl (by first | exact Nat.le_of_ble_eq_true rfl | simp [z_rfc, z_ci, z_cj]) d_AckBookModel_probeTime_151) (fun v_ hv H locs cells slots hZ => ?_)
        obtain ⟨v6, rfl, h⟩ := hv
        generalize w1_ = w at h hZ
        refine x_aload_n hC d_AckBookModel_probeTime_154 rfl (lv_at hl 1 rfl) ?_
        refine x_getI hC hZ zc10 h (by decide) t_842 (fun _ h9 => h9) d_AckBookModel_probeTime_155 (fun v7 h => ?_)
        refine lv_ishl hC.1 hC.2.1 d_AckBookModel_probeTime_158 ?_
        refine lv_iadd hC.1 hC.2.1 d_AckBookModel_probeTime_159 ?_
        refine lv_goto (tgt := 164) hC.1 hC.2.1 d_AckBookModel_probeTime_160 (by decide) ?_
        exact x_iret hC hRc hRs hZ hr rfl h d_AckBookModel_probeTime_164
def q_AckBookModel_probeTime_23 (F X : Nat) (J : Option Nat → Int32 → Int32 → Int32 → zW → zR) (rL0 : Option Nat) (xL1 : Int32) (w : zW) : zR :=
  z_this w 10 rL0 <|
  z_cI (f_AckBookModel_outs F X rL0 xL1 (0 : Int32) w) fun v9 w =>
  if v9 ≤ 0 then (
    z_this w 10 rL0 <|
    z_cI (f_AckBookModel_outs F X rL0 (0 : Int32) (0 : Int32) w) fun v11 w =>
    z_this w 10 rL0 <|
    z_cI (f_AckBookModel_outs F X rL0 (1 : Int32) (0 : Int32) w) fun v13 w =>
    z_this w 10 rL0 <|
    z_cI (f_AckBookModel_outs F X rL0 (2 : Int32) (0 : Int32) w) fun v15 w =>
    if ((v11 + v13) + v15) ≤ 0 then (
      q_AckBookModel_probeTime_125 F X J rL0 xL1 (0 : Int32) w)
    else (
      q_AckBookModel_probeTime_125 F X J rL0 xL1 (1 : Int32) w))
  else (
    J rL0 xL1 (0 : Int32) (0 : Int32) w)
set_option maxHeartbeats 4000000 in
set_option maxRecDepth 100000 in
theorem kq_AckBookModel_probeTime_23 {b0 : Nat} {H0 : Heap} {D : va_G} {vu vs : Value} {X M : Nat} {l : Launch} (hT : z_TB (zGG b0 H0 D vu vs X M)) (hfl : l.flags = pinnedFlags ++ [noTraceFlag]) (hE : vu.isRef = true ∧ vs.isRef = true) {p : Program} {e : Env} {R : Room} {s : State} {m : MethodId} {args : Array Value} {below : List Frame} {meth : Method} {c : Code} {w0 : zW} {F : Nat} (hC : z_C (zGG b0 H0 D vu vs X M) p e s m meth c c_AckBookModel_probeTime 4 y_AckBookModel_probeTime.cls) (hr : meth.sig.returnType = (some FieldType.int)) (hRc : R.cells = w0.2.1) (hRs : R.slots = w0.2.2.1) (hFr : c.exceptionTable.toList = []) (hRt : R.frames = 2 ∧ R.locals = 46) (hnm : meth.name = y_AckBookModel_probeTime.name) {J : Option Nat → Int32 → Int32 → Int32 → zW → zR} (hJ : (∀ (rL0 : Option Nat) (xL1 : Int32) (xL2 : Int32) (xL3 : Int32) (w : zW) (res : zO × zW), J rL0 xL1 xL2 xL3 w = some res → ∀ (H : Heap) (locs : List Loc) (cells slots : Nat) (ls : Array Slot), z_Z (zGG b0 H0 D vu vs X M) R s w H locs cells slots → lv_has ls 4 [(0, va_rf rL0), (1, .int xL1), (2, .int xL2), (3, .int xL3)] → W p l e R s m args below meth c H locs cells slots (z_Q (zGG b0 H0 D vu vs X M) below s w0 res) (F0 m 36 ls []))) (rL0 : Option Nat) (xL1 : Int32) (w : zW) (res : zO × zW) (h : q_AckBookModel_probeTime_23 F X J rL0 xL1 w = some res) (H : Heap) (locs : List Loc) (cells slots : Nat) (ls : Array Slot) (hZ : z_Z (zGG b0 H0 D vu vs X M) R s w H locs cells slots) (hl : lv_has ls 4 [(0, va_rf rL0), (1, .int xL1)]) : W p l e R s m args below meth c H locs cells slots (z_Q (zGG b0 H0 D vu vs X M) below s w0 res) (F0 m 23 ls []) := by
  unfold q_AckBookModel_probeTime_23 at h
  refine x_aload_n hC d_AckBookModel_probeTime_23 rfl (lv_at hl 0 rfl) ?_
  refine lv_iload_n hC.1 hC.2.1 d_AckBookModel_probeTime_24 rfl (lv_at hl 1 rfl) ?_
  refine lv_iconst (v := (0 : Int32)) hC.1 hC.2.1 d_AckBookModel_probeTime_25 (by decide) ?_
  obtain ⟨a_, fs_, eo_, h⟩ := z_this_spec h
  obtain ⟨w1_, o1_, hF_, ha_⟩ := z_cI_spec h
  refine x_goes hC hRc hRs hFr ha_ (z_goV (As := [.int xL1, .int (0 : Int32)]) hC hZ zc10 eo_ (k_AckBookModel_outs hT hfl hE _ _ hF_) t_1016 t_1018 ts_AckBookModel_outs t_12 t_1019 ⟨by decide, by decide, (by decide +kernel : (parseMethodDescriptor y_AckBookModel_outs.desc).map (fun d => d.parameters.length) = some 2)⟩ (by rw [hRt.1]; decide) (by rw [hRt.2]; decide) hl.1 rfl (by first | exact Nat.le_of_ble_eq_true rfl | simp [z_rfc, z_ci, z_cj]) d_AckBookModel_probeTime_26) (fun v_ hv H locs cells slots hZ => ?_)
  obtain ⟨v9, rfl, h⟩ := hv
  generalize w1_ = w at h hZ
  refine lv_if_le (tgt := 97) hC.1 hC.2.1 d_AckBookModel_probeTime_29 (by decide) (fun hc => ?_) (fun hc => ?_)
  · have h := z_ifp hc h
    refine x_aload_n hC d_AckBookModel_probeTime_97 rfl (lv_at hl 0 rfl) ?_
    refine lv_iconst (v := (0 : Int32)) hC.1 hC.2.1 d_AckBookModel_probeTime_98 (by decide) ?_
    refine lv_iconst (v := (0 : Int32)) hC.1 hC.2.1 d_AckBookModel_probeTime_99 (by decide) ?_
    obtain ⟨a_, fs_, eo_, h⟩ := z_this_spec h
    obtain ⟨w1_, o1_, hF_, ha_⟩ := z_cI_spec h
    refine x_goes hC hRc hRs hFr ha_ (z_goV (As := [.int (0 : Int32), .int (0 : Int32)]) hC hZ zc10 eo_ (k_AckBookModel_outs hT hfl hE _ _ hF_) t_1016 t_1018 ts_AckBookModel_outs t_12 t_1019 ⟨by decide, by decide, (by decide +kernel : (parseMethodDescriptor y_AckBookModel_outs.desc).map (fun d => d.parameters.length) = some 2)⟩ (by rw [hRt.1]; decide) (by rw [hRt.2]; decide) hl.1 rfl (by first | exact Nat.le_of_ble_eq_true rfl | simp [z_rfc, z_ci, z_cj]) d_AckBookModel_probeTime_100) (fun v_ hv H locs cells slots hZ => ?_)
    obtain ⟨v11, rfl, h⟩ := hv
    generalize w1_ = w at h hZ
    refine x_aload_n hC d_AckBookModel_probeTime_103 rfl (lv_at hl 0 rfl) ?_
    refine lv_iconst (v := (1 : Int32)) hC.1 hC.2.1 d_AckBookModel_probeTime_104 (by decide) ?_
    refine lv_iconst (v := (0 : Int32)) hC.1 hC.2.1 d_AckBookModel_probeTime_105 (by decide) ?_
    obtain ⟨a_, fs_, eo_, h⟩ := z_this_spec h
    obtain ⟨w1_, o1_, hF_, ha_⟩ := z_cI_spec h
    refine x_goes hC hRc hRs hFr ha_ (z_goV (As := [.int (1 : Int32), .int (0 : Int32)]) hC hZ zc10 eo_ (k_AckBookModel_outs hT hfl hE _ _ hF_) t_1016 t_1018 ts_AckBookModel_outs t_12 t_1019 ⟨by decide, by decide, (by decide +kernel : (parseMethodDescriptor y_AckBookModel_outs.desc).map (fun d => d.parameters.length) = some 2)⟩ (by rw [hRt.1]; decide) (by rw [hRt.2]; decide) hl.1 rfl (by first | exact Nat.le_of_ble_eq_true rfl | simp [z_rfc, z_ci, z_cj]) d_AckBookModel_probeTime_106) (fun v_ hv H locs cells slots hZ => ?_)
    obtain ⟨v13, rfl, h⟩ := hv
    generalize w1_ = w at h hZ
    refine lv_iadd hC.1 hC.2.1 d_AckBookModel_probeTime_109 ?_
    refine x_aload_n hC d_AckBookModel_probeTime_110 rfl (lv_at hl 0 rfl) ?_
    refine lv_iconst (v := (2 : Int32)) hC.1 hC.2.1 d_AckBookModel_probeTime_111 (by decide) ?_
    refine lv_iconst (v := (0 : Int32)) hC.1 hC.2.1 d_AckBookModel_probeTime_112 (by decide) ?_
    obtain ⟨a_, fs_, eo_, h⟩ := z_this_spec h
    obtain ⟨w1_, o1_, hF_, ha_⟩ := z_cI_spec h
    refine x_goes hC hRc hRs hFr ha_ (z_goV (As := [.int (2 : Int32), .int (0 : Int32)]) hC hZ zc10 eo_ (k_AckBookModel_outs hT hfl hE _ _ hF_) t_1016 t_1018 ts_AckBookModel_outs t_12 t_1019 ⟨by decide, by decide, (by decide +kernel : (parseMethodDescriptor y_AckBookModel_outs.desc).map (fun d => d.parameters.length) = some 2)⟩ (by rw [hRt.1]; decide) (by rw [hRt.2]; decide) hl.1 rfl (by first | exact Nat.le_of_ble_eq_true rfl | simp [z_rfc, z_ci, z_cj]) d_AckBookModel_probeTime_113) (fun v_ hv H locs cells slots hZ => ?_)
    obtain ⟨v15, rfl, h⟩ := hv
    generalize w1_ = w at h hZ
    refine lv_iadd hC.1 hC.2.1 d_AckBookModel_probeTime_116 ?_
    refine lv_if_le (tgt := 124) hC.1 hC.2.1 d_AckBookModel_probeTime_117 (by decide) (fun hc => ?_) (fun hc => ?_)
    · have h := z_ifp hc h
      refine lv_iconst (v := (0 : Int32)) hC.1 hC.2.1 d_AckBookModel_probeTime_124 (by decide) ?_
      exact kq_AckBookModel_probeTime_125 hT hfl hE hC hr hRc hRs hFr hRt hnm hJ _ _ _ _ _ h _ _ _ _ _ hZ (lv_sub hl [0, 1] rfl)
    · have h := z_ifn hc h
      refine lv_iconst (v := (1 : Int32)) hC.1 hC.2.1 d_AckBookModel_probeTime_120 (by decide) ?_
      refine lv_goto (tgt := 125) hC.1 hC.2.1 d_AckBookModel_probeTime_121 (by decide) ?_
      exact kq_AckBookModel_probeTime_125 hT hfl hE hC hr hRc hRs hFr hRt hnm hJ _ _ _ _ _ h _ _ _ _ _ hZ (lv_sub hl [0, 1] rfl)
  · have h := z_ifn hc h
    refine lv_iconst (v := (0 : Int32)) hC.1 hC.2.1 d_AckBookModel_probeTime_32 (by decide) ?_
    refine lv_istore_n (i := 2) (lv' := [(2, .int (0 : Int32)), (0, va_rf rL0), (1, .int xL1)]) hC.1 hC.2.1 d_AckBookModel_probeTime_33 rfl hl (by decide) (by first | rfl | simp [z_rfc, z_ci, z_cj]) (fun ls hl => ?_)
    refine lv_iconst (v := (0 : Int32)) hC.1 hC.2.1 d_AckBookModel_probeTime_34 (by decide) ?_
    refine lv_istore_n (i := 3) (lv' := [(3, .int (0 : Int32)), (2, .int (0 : Int32)), (0, va_rf rL0), (1, .int xL1)]) hC.1 hC.2.1 d_AckBookModel_probeTime_35 rfl hl (by decide) (by first | rfl | simp [z_rfc, z_ci, z_cj]) (fun ls hl => ?_)
    exact hJ _ _ _ _ _ _ h _ _ _ _ _ hZ (lv_sub hl [2, 3, 1, 0] rfl)
def j_AckBookModel_probeTime (F X : Nat) : Nat → Option Nat → Int32 → Int32 → Int32 → zW → zR
  | 0, _, _, _, _, _ => none
  | N + 1, rL0, xL1, xL2, xL3, w =>
    z_getR w 10 4 rL0 fun r16 =>
    z_ldI w .int r16 xL1 fun v17 =>
    if v17 ≤ xL3 then (
      z_this w 10 rL0 <|
      z_cI (f_AckBookModel_patience F X rL0 xL1 w) fun v19 w =>
      z_getI w 10 23 rL0 fun v20 =>
      some (.inl (some (.int (xL2 + (v19 <<< (v20 &&& 31))))), w))
    else (
      z_getR w 10 8 rL0 fun r21 =>
      z_ldI w .boolean r21 (((4096 : Int32) * xL1) + xL3) fun v22 =>
      if v22 = 0 then (
        (j_AckBookModel_probeTime F X N) rL0 xL1 xL2 (xL3 + (1 : Int32)) w)
      else (
        z_getR w 10 6 rL0 fun r23 =>
        z_ldI w .int r23 (((4096 : Int32) * xL1) + xL3) fun v24 =>
        (j_AckBookModel_probeTime F X N) rL0 xL1 v24 (xL3 + (1 : Int32)) w))
set_option maxHeartbeats 4000000 in
set_option maxRecDepth 100000 in
theorem kj_AckBookModel_probeTime {b0 : Nat} {H0 : Heap} {D : va_G} {vu vs : Value} {X M : Nat} {l : Launch} (hT : z_TB (zGG b0 H0 D vu vs X M)) (hfl : l.flags = pinnedFlags ++ [noTraceFlag]) (hE : vu.isRef = true ∧ vs.isRef = true) {p : Program} {e : Env} {R : Room} {s : State} {m : MethodId} {args : Array Value} {below : List Frame} {meth : Method} {c : Code} {w0 : zW} {F : Nat} (hC : z_C (zGG b0 H0 D vu vs X M) p e s m meth c c_AckBookModel_probeTime 4 y_AckBookModel_probeTime.cls) (hr : meth.sig.returnType = (some FieldType.int)) (hRc : R.cells = w0.2.1) (hRs : R.slots = w0.2.2.1) (hFr : c.exceptionTable.toList = []) (hRt : R.frames = 2 ∧ R.locals = 46) (hnm : meth.name = y_AckBookModel_probeTime.name) : ∀ N : Nat, (∀ (rL0 : Option Nat) (xL1 : Int32) (xL2 : Int32) (xL3 : Int32) (w : zW) (res : zO × zW), j_AckBookModel_probeTime F X N rL0 xL1 xL2 xL3 w = some res → ∀ (H : Heap) (locs : List Loc) (cells slots : Nat) (ls : Array Slot), z_Z (zGG b0 H0 D vu vs X M) R s w H locs cells slots → lv_has ls 4 [(0, va_rf rL0), (1, .int xL1), (2, .int xL2), (3, .int xL3)] → W p l e R s m args below meth c H locs cells slots (z_Q (zGG b0 H0 D vu vs X M) below s w0 res) (F0 m 36 ls [])) := by
  intro N
  induction N with
  | zero =>
    intro rL0 xL1 xL2 xL3 w res h
    rw [j_AckBookModel_probeTime] at h
    cases h
  | succ N ih =>
    intro rL0 xL1 xL2 xL3 w res h H locs cells slots ls hZ hl
    rw [j_AckBookModel_probeTime] at h
    refine lv_iload_n hC.1 hC.2.1 d_AckBookModel_probeTime_36 rfl (lv_at hl 3 rfl) ?_
    refine x_aload_n hC d_AckBookModel_probeTime_37 rfl (lv_at hl 0 rfl) ?_
    refine x_getR hC hZ zc10 h (by decide) t_823 (fun _ h9 => h9) d_AckBookModel_probeTime_38 (fun r16 h => ?_)
    refine lv_iload_n hC.1 hC.2.1 d_AckBookModel_probeTime_41 rfl (lv_at hl 1 rfl) ?_
    refine x_ldI hC hZ h d_AckBookModel_probeTime_42 (fun v17 h => ?_)
    refine lv_icmp_ge (tgt := 84) hC.1 hC.2.1 d_AckBookModel_probeTime_43 (by decide) (fun hc => ?_) (fun hc => ?_)
    · have h := z_ifp hc h
      refine lv_iload_n hC.1 hC.2.1 d_AckBookModel_probeTime_84 rfl (lv_at hl 2 rfl) ?_
      refine x_aload_n hC d_AckBookModel_probeTime_85 rfl (lv_at hl 0 rfl) ?_
      refine lv_iload_n hC.1 hC.2.1 d_AckBookModel_probeTime_86 rfl (lv_at hl 1 rfl) ?_
      obtain ⟨a_, fs_, eo_, h⟩ := z_this_spec h
      obtain ⟨w1_, o1_, hF_, ha_⟩ := z_cI_spec h
      refine x_goes hC hRc hRs hFr ha_ (z_goV (As := [.int xL1]) hC hZ zc10 eo_ (k_AckBookModel_patience hT hfl hE _ _ hF_) t_1020 t_1022 ts_AckBookModel_patience t_12 t_1023 ⟨by decide, by decide, (by decide +kernel : (parseMethodDescriptor y_AckBookModel_patience.desc).map (fun d => d.parameters.length) = some 1)⟩ (by rw [hRt.1]; decide) (by rw [hRt.2]; decide) hl.1 rfl (by first | exact Nat.le_of_ble_eq_true rfl | simp [z_rfc, z_ci, z_cj]) d_AckBookModel_probeTime_87) (fun v_ hv H locs cells slots hZ => ?_)
      obtain ⟨v19, rfl, h⟩ := hv
      generalize w1_ = w at h hZ
      refine x_aload_n hC d_AckBookModel_probeTime_90 rfl (lv_at hl 0 rfl) ?_
      refine x_getI hC hZ zc10 h (by decide) t_842 (fun _ h9 => h9) d_AckBookModel_probeTime_91 (fun v20 h => ?_)
      refine lv_ishl hC.1 hC.2.1 d_AckBookModel_probeTime_94 ?_
      refine lv_iadd hC.1 hC.2.1 d_AckBookModel_probeTime_95 ?_
      exact x_iret hC hRc hRs hZ hr rfl h d_AckBookModel_probeTime_96
    · have h := z_ifn hc h
      refine x_aload_n hC d_AckBookModel_probeTime_46 rfl (lv_at hl 0 rfl) ?_
      refine x_getR hC hZ zc10 h (by decide) t_827 (fun _ h9 => h9) d_AckBookModel_probeTime_47 (fun r21 h => ?_)
      refine lv_sipush (v := (4096 : Int32)) hC.1 hC.2.1 d_AckBookModel_probeTime_50 (by decide) ?_
      refine lv_iload_n hC.1 hC.2.1 d_AckBookModel_probeTime_53 rfl (lv_at hl 1 rfl) ?_
      refine lv_imul hC.1 hC.2.1 d_AckBookModel_probeTime_54 ?_
      refine lv_iload_n hC.1 hC.2.1 d_AckBookModel_probeTime_55 rfl (lv_at hl 3 rfl) ?_
      refine lv_iadd hC.1 hC.2.1 d_AckBookModel_probeTime_56 ?_
      refine x_ldZ hC hZ h d_AckBookModel_probeTime_57 (fun v22 h => ?_)
      refine lv_if_eq (tgt := 76) hC.1 hC.2.1 d_AckBookModel_probeTime_58 (by decide) (fun hc => ?_) (fun hc => ?_)
      · have h := z_ifp hc h
        refine lv_iload_n hC.1 hC.2.1 d_AckBookModel_probeTime_76 rfl (lv_at hl 2 rfl) ?_
        refine lv_istore_n (i := 2) (lv' := [(2, .int xL2), (0, va_rf rL0), (1, .int xL1), (3, .int xL3)]) hC.1 hC.2.1 d_AckBookModel_probeTime_77 rfl hl (by decide) (by first | rfl | simp [z_rfc, z_ci, z_cj]) (fun ls hl => ?_)
        refine lv_iinc (lv' := [(3, .int (xL3 + (1 : Int32))), (2, .int xL2), (0, va_rf rL0), (1, .int xL1)]) hC.1 hC.2.1 d_AckBookModel_probeTime_78 hl (k := 3) rfl rfl (by decide) (by first | rfl | simp [z_rfc, z_ci, z_cj]) (fun ls hl => ?_)
        refine lv_goto (tgt := 36) hC.1 hC.2.1 d_AckBookModel_probeTime_81 (by decide) ?_
        exact ih _ _ _ _ _ _ h _ _ _ _ _ hZ (lv_sub hl [2, 3, 1, 0] rfl)
      · have h := z_ifn hc h
        refine x_aload_n hC d_AckBookModel_probeTime_61 rfl (lv_at hl 0 rfl) ?_
        refine x_getR hC hZ zc10 h (by decide) t_825 (fun _ h9 => h9) d_AckBookModel_probeTime_62 (fun r23 h => ?_)
        refine lv_sipush (v := (4096 : Int32)) hC.1 hC.2.1 d_AckBookModel_probeTime_65 (by decide) ?_
        refine lv_iload_n hC.1 hC.2.1 d_AckBookModel_probeTime_68 rfl (lv_at hl 1 rfl) ?_
        refine lv_imul hC.1 hC.2.1 d_AckBookModel_probeTime_69 ?_
        refine lv_iload_n hC.1 hC.2.1 d_AckBookModel_probeTime_70 rfl (lv_at hl 3 rfl) ?_
        refine lv_iadd hC.1 hC.2.1 d_AckBookModel_probeTime_71 ?_
        refine x_ldI hC hZ h d_AckBookModel_probeTime_72 (fun v24 h => ?_)
        refine lv_goto (tgt := 77) hC.1 hC.2.1 d_AckBookModel_probeTime_73 (by decide) ?_
        refine lv_istore_n (i := 2) (lv' := [(2, .int v24), (0, va_rf rL0), (1, .int xL1), (3, .int xL3)]) hC.1 hC.2.1 d_AckBookModel_probeTime_77 rfl hl (by decide) (by first | rfl | simp [z_rfc, z_ci, z_cj]) (fun ls hl => ?_)
        refine lv_iinc (lv' := [(3, .int (xL3 + (1 : Int32))), (2, .int v24), (0, va_rf rL0), (1, .int xL1)]) hC.1 hC.2.1 d_AckBookModel_probeTime_78 hl (k := 3) rfl rfl (by decide) (by first | rfl | simp [z_rfc, z_ci, z_cj]) (fun ls hl => ?_)
        refine lv_goto (tgt := 36) hC.1 hC.2.1 d_AckBookModel_probeTime_81 (by decide) ?_
        exact ih _ _ _ _ _ _ h _ _ _ _ _ hZ (lv_sub hl [2, 3, 1, 0] rfl)
def f_AckBookModel_probeTime (F X : Nat) (a0 : Option Nat) (pI1 : Int32) (w : zW) : zR :=
  z_getR w 10 11 a0 fun r25 =>
  z_ldI w .boolean r25 pI1 fun v26 =>
  if v26 = 0 then (
    if pI1 = (2 : Int32) then (
      z_getI w 10 2 a0 fun v27 =>
      if v27 = 0 then (
        some (.inl (some (.int (-1 : Int32))), w))
      else (
        q_AckBookModel_probeTime_23 F X (j_AckBookModel_probeTime F X F) a0 pI1 w))
    else (
      q_AckBookModel_probeTime_23 F X (j_AckBookModel_probeTime F X F) a0 pI1 w))
  else (
    some (.inl (some (.int (-1 : Int32))), w))
set_option maxHeartbeats 4000000 in
set_option maxRecDepth 100000 in
theorem k_AckBookModel_probeTime {b0 : Nat} {H0 : Heap} {D : va_G} {vu vs : Value} {X M : Nat} {l : Launch} (hT : z_TB (zGG b0 H0 D vu vs X M)) (hfl : l.flags = pinnedFlags ++ [noTraceFlag]) (hE : vu.isRef = true ∧ vs.isRef = true) {a0 : Option Nat} {pI1 : Int32} (F : Nat) {w : zW} (res : zO × zW) (h : f_AckBookModel_probeTime F X a0 pI1 w = some res) : z_Ct (zGG b0 H0 D vu vs X M) l y_AckBookModel_probeTime (.code y_AckBookModel_probeTime c_AckBookModel_probeTime 4 (some FieldType.int)) 2 46 [va_rf a0, .int pI1] w res := by
  refine z_ct hT hfl (by decide) (by simp only [z_sl_i, z_sl_j, z_sl_r, z_sl_n]; decide) ?_
  intro p e R s m args below meth c hC hr hRc hRs hRt hnm hFr H ls hZ hl
  simp only [z_la_i, z_la_j, z_la_r, z_la_n] at hl
  have hl : lv_has ls 4 [(0, va_rf a0), (1, .int pI1)] := hl
  unfold f_AckBookModel_probeTime at h
  refine x_aload_n hC d_AckBookModel_probeTime_0 rfl (lv_at hl 0 rfl) ?_
  refine x_getR hC hZ zc10 h (by decide) t_830 (fun _ h9 => h9) d_AckBookModel_probeTime_1 (fun r25 h => ?_)
  refine lv_iload_n hC.1 hC.2.1 d_AckBookModel_probeTime_4 rfl (lv_at hl 1 rfl) ?_
  refine x_ldZ hC hZ h d_AckBookModel_probeTime_5 (fun v26 h => ?_)
  refine lv_if_ne (tgt := 21) hC.1 hC.2.1 d_AckBookModel_probeTime_6 (by decide) (fun hc => ?_) (fun hc => ?_)
  · have h := z_ifn hc h
    refine lv_iconst (v := (-1 : Int32)) hC.1 hC.2.1 d_AckBookModel_probeTime_21 (by decide) ?_
    exact x_iret hC hRc hRs hZ hr rfl h d_AckBookModel_probeTime_22
  · have h := z_ifp hc h
    refine lv_iload_n hC.1 hC.2.1 d_AckBookModel_probeTime_9 rfl (lv_at hl 1 rfl) ?_
    refine lv_iconst (v := (2 : Int32)) hC.1 hC.2.1 d_AckBookModel_probeTime_10 (by decide) ?_
    refine lv_icmp_ne (tgt := 23) hC.1 hC.2.1 d_AckBookModel_probeTime_11 (by decide) (fun hc => ?_) (fun hc => ?_)
    · have h := z_ifn hc h
      exact kq_AckBookModel_probeTime_23 hT hfl hE hC hr hRc hRs hFr hRt hnm (kj_AckBookModel_probeTime hT hfl hE hC hr hRc hRs hFr hRt hnm F) _ _ _ _ h _ _ _ _ _ hZ (lv_sub hl [0, 1] rfl)
    · have h := z_ifp hc h
      refine x_aload_n hC d_AckBookModel_probeTime_14 rfl (lv_at hl 0 rfl) ?_
      refine x_getI hC hZ zc10 h (by decide) t_821 (fun _ h9 => h9) d_AckBookModel_probeTime_15 (fun v27 h => ?_)
      refine lv_if_ne (tgt := 23) hC.1 hC.2.1 d_AckBookModel_probeTime_18 (by decide) (fun hc => ?_) (fun hc => ?_)
      · have h := z_ifn hc h
        exact kq_AckBookModel_probeTime_23 hT hfl hE hC hr hRc hRs hFr hRt hnm (kj_AckBookModel_probeTime hT hfl hE hC hr hRc hRs hFr hRt hnm F) _ _ _ _ h _ _ _ _ _ hZ (lv_sub hl [0, 1] rfl)
      · have h := z_ifp hc h
        refine lv_iconst (v := (-1 : Int32)) hC.1 hC.2.1 d_AckBookModel_probeTime_21 (by decide) ?_
        exact x_iret hC hRc hRs hZ hr rfl h d_AckBookModel_probeTime_22
def q_AckBookModel_tick_127 (F X : Nat) (J : Nat → Option Nat → Int32 → Int32 → Int32 → zW → zR) (rL0 : Option Nat) (xL3 : Int32) (xL4 : Int32) (w : zW) : zR :=
  J 1 rL0 xL3 xL4 (xL3 + (1 : Int32)) w
set_option maxHeartbeats 4000000 in
set_option maxRecDepth 100000 in
theorem kq_AckBookModel_tick_127 {b0 : Nat} {H0 : Heap} {D : va_G} {vu vs : Value} {X M : Nat} {l : Launch} (hT : z_TB (zGG b0 H0 D vu vs X M)) (hfl : l.flags = pinnedFlags ++ [noTraceFlag]) (hE : vu.isRef = true ∧ vs.isRef = true) {p : Program} {e : Env} {R : Room} {s : State} {m : MethodId} {args : Array Value} {below : List Frame} {meth : Method} {c : Code} {w0 : zW} {F : Nat} (hC : z_C (zGG b0 H0 D vu vs X M) p e s m meth c c_AckBookModel_tick 5 y_AckBookModel_tick.cls) (hr : meth.sig.returnType = (some FieldType.int)) (hRc : R.cells = w0.2.1) (hRs : R.slots = w0.2.2.1) (hFr : c.exceptionTable.toList = []) (hRt : R.frames = 3 ∧ R.locals = 73) (hnm : meth.name = y_AckBookModel_tick.name) {J : Nat → Option Nat → Int32 → Int32 → Int32 → zW → zR} (hJ : (∀ (rL0 : Option Nat) (xL1 : Int32) (xL2 : Int32) (xL3 : Int32) (w : zW) (res : zO × zW), J 0 rL0 xL1 xL2 xL3 w = some res → ∀ (H : Heap) (locs : List Loc) (cells slots : Nat) (ls : Array Slot), z_Z (zGG b0 H0 D vu vs X M) R s w H locs cells slots → lv_has ls 5 [(0, va_rf rL0), (1, .int xL1), (2, .int xL2)] → W p l e R s m args below meth c H locs cells slots (z_Q (zGG b0 H0 D vu vs X M) below s w0 res) (F0 m 19 ls [])) ∧ (∀ (rL0 : Option Nat) (xL1 : Int32) (xL2 : Int32) (xL3 : Int32) (w : zW) (res : zO × zW), J 1 rL0 xL1 xL2 xL3 w = some res → ∀ (H : Heap) (locs : List Loc) (cells slots : Nat) (ls : Array Slot), z_Z (zGG b0 H0 D vu vs X M) R s w H locs cells slots → lv_has ls 5 [(0, va_rf rL0), (1, .int xL1), (2, .int xL2), (3, .int xL3)] → W p l e R s m args below meth c H locs cells slots (z_Q (zGG b0 H0 D vu vs X M) below s w0 res) (F0 m 88 ls []))) (rL0 : Option Nat) (xL3 : Int32) (xL4 : Int32) (w : zW) (res : zO × zW) (h : q_AckBookModel_tick_127 F X J rL0 xL3 xL4 w = some res) (H : Heap) (locs : List Loc) (cells slots : Nat) (ls : Array Slot) (hZ : z_Z (zGG b0 H0 D vu vs X M) R s w H locs cells slots) (hl : lv_has ls 5 [(0, va_rf rL0), (3, .int xL3), (4, .int xL4)]) : W p l e R s m args below meth c H locs cells slots (z_Q (zGG b0 H0 D vu vs X M) below s w0 res) (F0 m 127 ls []) := by
  unfold q_AckBookModel_tick_127 at h
  refine lv_iload_n hC.1 hC.2.1 d_AckBookModel_tick_127 rfl (lv_at hl 1 rfl) ?_
  refine lv_istore_n (i := 1) (lv' := [(1, .int xL3), (0, va_rf rL0), (3, .int xL3), (4, .int xL4)]) hC.1 hC.2.1 d_AckBookModel_tick_128 rfl hl (by decide) (by first | rfl | simp [z_rfc, z_ci, z_cj]) (fun ls hl => ?_)
  refine lv_iload hC.1 hC.2.1 d_AckBookModel_tick_129 (lv_at hl 3 rfl) ?_
  refine lv_istore_n (i := 2) (lv' := [(2, .int xL4), (1, .int xL3), (0, va_rf rL0), (3, .int xL3), (4, .int xL4)]) hC.1 hC.2.1 d_AckBookModel_tick_131 rfl hl (by decide) (by first | rfl | simp [z_rfc, z_ci, z_cj]) (fun ls hl => ?_)
  refine lv_iinc (lv' := [(3, .int (xL3 + (1 : Int32))), (2, .int xL4), (1, .int xL3), (0, va_rf rL0), (4, .int xL4)]) hC.1 hC.2.1 d_AckBookModel_tick_132 hl (k := 3) rfl rfl (by decide) (by first | rfl | simp [z_rfc, z_ci, z_cj]) (fun ls hl => ?_)
  refine lv_goto (tgt := 88) hC.1 hC.2.1 d_AckBookModel_tick_135 (by decide) ?_
  exact hJ.2 _ _ _ _ _ _ h _ _ _ _ _ hZ (lv_sub hl [3, 2, 1, 0] rfl)
def j_AckBookModel_tick (F X : Nat) : Nat → Nat → Option Nat → Int32 → Int32 → Int32 → zW → zR
  | 0, _, _, _, _, _, _ => none
  | N + 1, lb, rL0, xL1, xL2, xL3, w =>
    if lb = 0 then (
    if (3 : Int32) ≤ xL2 then (
      if xL1 < 0 then (
        (j_AckBookModel_tick F X N) 1 rL0 xL1 (0 : Int32) (0 : Int32) w)
      else (
        z_this w 10 rL0 <|
        z_cV (f_AckBookModel_losses F X rL0 xL1 w) fun w =>
        some (.inl (some (.int (1 : Int32))), w)))
    else (
      z_getR w 10 13 rL0 fun r2 =>
      z_ldI w .int r2 xL2 fun v3 =>
      if v3 < 0 then (
        (j_AckBookModel_tick F X N) 0 rL0 xL1 (xL2 + (1 : Int32)) 0 w)
      else (
        z_getR w 10 13 rL0 fun r4 =>
        z_ldI w .int r4 xL2 fun v5 =>
        z_getI w 10 1 rL0 fun v6 =>
        if v6 < v5 then (
          (j_AckBookModel_tick F X N) 0 rL0 xL1 (xL2 + (1 : Int32)) 0 w)
        else (
          if xL1 < 0 then (
            (j_AckBookModel_tick F X N) 0 rL0 xL2 (xL2 + (1 : Int32)) 0 w)
          else (
            z_getR w 10 13 rL0 fun r7 =>
            z_ldI w .int r7 xL2 fun v8 =>
            z_getR w 10 13 rL0 fun r9 =>
            z_ldI w .int r9 xL1 fun v10 =>
            if v10 ≤ v8 then (
              (j_AckBookModel_tick F X N) 0 rL0 xL1 (xL2 + (1 : Int32)) 0 w)
            else (
              (j_AckBookModel_tick F X N) 0 rL0 xL2 (xL2 + (1 : Int32)) 0 w))))))
    else (
    if (3 : Int32) ≤ xL3 then (
      if 0 ≤ xL1 then (
        z_getI w 10 23 rL0 fun v11 =>
        if (10 : Int32) ≤ v11 then (
          z_put w 10 23 rL0 (.int (10 : Int32)) fun w =>
          some (.inl (some (.int ((2 : Int32) + xL1))), w))
        else (
          z_getI w 10 23 rL0 fun v12 =>
          z_put w 10 23 rL0 (.int (v12 + (1 : Int32))) fun w =>
          some (.inl (some (.int ((2 : Int32) + xL1))), w)))
      else (
        some (.inl (some (.int (0 : Int32))), w)))
    else (
      z_this w 10 rL0 <|
      z_cI (f_AckBookModel_probeTime F X rL0 xL3 w) fun v14 w =>
      if v14 < 0 then (
        (j_AckBookModel_tick F X N) 1 rL0 xL1 xL2 (xL3 + (1 : Int32)) w)
      else (
        z_getI w 10 1 rL0 fun v15 =>
        if v15 < v14 then (
          (j_AckBookModel_tick F X N) 1 rL0 xL1 xL2 (xL3 + (1 : Int32)) w)
        else (
          if xL1 < 0 then (
            q_AckBookModel_tick_127 F X (j_AckBookModel_tick F X N) rL0 xL3 v14 w)
          else (
            if v14 < xL2 then (
              q_AckBookModel_tick_127 F X (j_AckBookModel_tick F X N) rL0 xL3 v14 w)
            else (
              (j_AckBookModel_tick F X N) 1 rL0 xL1 xL2 (xL3 + (1 : Int32)) w))))))
set_option maxHeartbeats 4000000 in
set_option maxRecDepth 100000 in
theorem kj_AckBookModel_tick {b0 : Nat} {H0 : Heap} {D : va_G} {vu vs : Value} {X M : Nat} {l : Launch} (hT : z_TB (zGG b0 H0 D vu vs X M)) (hfl : l.flags = pinnedFlags ++ [noTraceFlag]) (hE : vu.isRef = true ∧ vs.isRef = true) {p : Program} {e : Env} {R : Room} {s : State} {m : MethodId} {args : Array Value} {below : List Frame} {meth : Method} {c : Code} {w0 : zW} {F : Nat} (hC : z_C (zGG b0 H0 D vu vs X M) p e s m meth c c_AckBookModel_tick 5 y_AckBookModel_tick.cls) (hr : meth.sig.returnType = (some FieldType.int)) (hRc : R.cells = w0.2.1) (hRs : R.slots = w0.2.2.1) (hFr : c.exceptionTable.toList = []) (hRt : R.frames = 3 ∧ R.locals = 73) (hnm : meth.name = y_AckBookModel_tick.name) : ∀ N : Nat, (∀ (rL0 : Option Nat) (xL1 : Int32) (xL2 : Int32) (xL3 : Int32) (w : zW) (res : zO × zW), j_AckBookModel_tick F X N 0 rL0 xL1 xL2 xL3 w = some res → ∀ (H : Heap) (locs : List Loc) (cells slots : Nat) (ls : Array Slot), z_Z (zGG b0 H0 D vu vs X M) R s w H locs cells slots → lv_has ls 5 [(0, va_rf rL0), (1, .int xL1), (2, .int xL2)] → W p l e R s m args below meth c H locs cells slots (z_Q (zGG b0 H0 D vu vs X M) below s w0 res) (F0 m 19 ls [])) ∧ (∀ (rL0 : Option Nat) (xL1 : Int32) (xL2 : Int32) (xL3 : Int32) (w : zW) (res : zO × zW), j_AckBookModel_tick F X N 1 rL0 xL1 xL2 xL3 w = some res → ∀ (H : Heap) (locs : List Loc) (cells slots : Nat) (ls : Array Slot), z_Z (zGG b0 H0 D vu vs X M) R s w H locs cells slots → lv_has ls 5 [(0, va_rf rL0), (1, .int xL1), (2, .int xL2), (3, .int xL3)] → W p l e R s m args below meth c H locs cells slots (z_Q (zGG b0 H0 D vu vs X M) below s w0 res) (F0 m 88 ls [])) := by
  intro N
  induction N with
  | zero =>
    refine ⟨?_, ?_⟩
    · intro rL0 xL1 xL2 xL3 w res h
      rw [j_AckBookModel_tick] at h
      cases h
    · intro rL0 xL1 xL2 xL3 w res h
      rw [j_AckBookModel_tick] at h
      cases h
  | succ N ih =>
    refine ⟨?_, ?_⟩
    · intro rL0 xL1 xL2 xL3 w res h H locs cells slots ls hZ hl
      rw [j_AckBookModel_tick] at h
      have h := z_ifp rfl h
      refine lv_iload_n hC.1 hC.2.1 d_AckBookModel_tick_19 rfl (lv_at hl 2 rfl) ?_
      refine lv_iconst (v := (3 : Int32)) hC.1 hC.2.1 d_AckBookModel_tick_20 (by decide) ?_
      refine lv_icmp_ge (tgt := 73) hC.1 hC.2.1 d_AckBookModel_tick_21 (by decide) (fun hc => ?_) (fun hc => ?_)
      · have h := z_ifp hc h
        refine lv_iload_n hC.1 hC.2.1 d_AckBookModel_tick_73 rfl (lv_at hl 1 rfl) ?_
        refine lv_if_lt (tgt := 84) hC.1 hC.2.1 d_AckBookModel_tick_74 (by decide) (fun hc => ?_) (fun hc => ?_)
        · have h := z_ifp hc h
          refine lv_iconst (v := (0 : Int32)) hC.1 hC.2.1 d_AckBookModel_tick_84 (by decide) ?_
          refine lv_istore_n (i := 2) (lv' := [(2, .int (0 : Int32)), (0, va_rf rL0), (1, .int xL1)]) hC.1 hC.2.1 d_AckBookModel_tick_85 rfl hl (by decide) (by first | rfl | simp [z_rfc, z_ci, z_cj]) (fun ls hl => ?_)
          refine lv_iconst (v := (0 : Int32)) hC.1 hC.2.1 d_AckBookModel_tick_86 (by decide) ?_
          refine lv_istore_n (i := 3) (lv' := [(3, .int (0 : Int32)), (2, .int (0 : Int32)), (0, va_rf rL0), (1, .int xL1)]) hC.1 hC.2.1 d_AckBookModel_tick_87 rfl hl (by decide) (by first | rfl | simp [z_rfc, z_ci, z_cj]) (fun ls hl => ?_)
          exact ih.2 _ _ _ _ _ _ h _ _ _ _ _ hZ (lv_sub hl [2, 3, 1, 0] rfl)
        · have h := z_ifn hc h
          refine x_aload_n hC d_AckBookModel_tick_77 rfl (lv_at hl 0 rfl) ?_
          refine lv_iload_n hC.1 hC.2.1 d_AckBookModel_tick_78 rfl (lv_at hl 1 rfl) ?_
          obtain ⟨a_, fs_, eo_, h⟩ := z_this_spec h
          obtain ⟨w1_, o1_, hF_, ha_⟩ := z_cV_spec h
          refine x_goes hC hRc hRs hFr ha_ (z_goV (As := [.int xL1]) hC hZ zc10 eo_ (k_AckBookModel_losses hT hfl hE _ _ hF_) t_996 t_998 ts_AckBookModel_losses t_12 t_999 ⟨by decide, by decide, (by decide +kernel : (parseMethodDescriptor y_AckBookModel_losses.desc).map (fun d => d.parameters.length) = some 1)⟩ (by rw [hRt.1]; decide) (by rw [hRt.2]; decide) hl.1 rfl (by first | exact Nat.le_of_ble_eq_true rfl | simp [z_rfc, z_ci, z_cj]) d_AckBookModel_tick_79) (fun v_ hv H locs cells slots hZ => ?_)
          obtain ⟨rfl, h⟩ := hv
          generalize w1_ = w at h hZ
          refine lv_iconst (v := (1 : Int32)) hC.1 hC.2.1 d_AckBookModel_tick_82 (by decide) ?_
          exact x_iret hC hRc hRs hZ hr rfl h d_AckBookModel_tick_83
      · have h := z_ifn hc h
        refine x_aload_n hC d_AckBookModel_tick_24 rfl (lv_at hl 0 rfl) ?_
        refine x_getR hC hZ zc10 h (by decide) t_832 (fun _ h9 => h9) d_AckBookModel_tick_25 (fun r2 h => ?_)
        refine lv_iload_n hC.1 hC.2.1 d_AckBookModel_tick_28 rfl (lv_at hl 2 rfl) ?_
        refine x_ldI hC hZ h d_AckBookModel_tick_29 (fun v3 h => ?_)
        refine lv_if_lt (tgt := 67) hC.1 hC.2.1 d_AckBookModel_tick_30 (by decide) (fun hc => ?_) (fun hc => ?_)
        · have h := z_ifp hc h
          refine lv_iinc (lv' := [(2, .int (xL2 + (1 : Int32))), (0, va_rf rL0), (1, .int xL1)]) hC.1 hC.2.1 d_AckBookModel_tick_67 hl (k := 2) rfl rfl (by decide) (by first | rfl | simp [z_rfc, z_ci, z_cj]) (fun ls hl => ?_)
          refine lv_goto (tgt := 19) hC.1 hC.2.1 d_AckBookModel_tick_70 (by decide) ?_
          exact ih.1 _ _ _ _ _ _ h _ _ _ _ _ hZ (lv_sub hl [1, 2, 0] rfl)
        · have h := z_ifn hc h
          refine x_aload_n hC d_AckBookModel_tick_33 rfl (lv_at hl 0 rfl) ?_
          refine x_getR hC hZ zc10 h (by decide) t_832 (fun _ h9 => h9) d_AckBookModel_tick_34 (fun r4 h => ?_)
          refine lv_iload_n hC.1 hC.2.1 d_AckBookModel_tick_37 rfl (lv_at hl 2 rfl) ?_
          refine x_ldI hC hZ h d_AckBookModel_tick_38 (fun v5 h => ?_)
          refine x_aload_n hC d_AckBookModel_tick_39 rfl (lv_at hl 0 rfl) ?_
          refine x_getI hC hZ zc10 h (by decide) t_820 (fun _ h9 => h9) d_AckBookModel_tick_40 (fun v6 h => ?_)
          refine lv_icmp_gt (tgt := 67) hC.1 hC.2.1 d_AckBookModel_tick_43 (by decide) (fun hc => ?_) (fun hc => ?_)
          · have h := z_ifp hc h
            refine lv_iinc (lv' := [(2, .int (xL2 + (1 : Int32))), (0, va_rf rL0), (1, .int xL1)]) hC.1 hC.2.1 d_AckBookModel_tick_67 hl (k := 2) rfl rfl (by decide) (by first | rfl | simp [z_rfc, z_ci, z_cj]) (fun ls hl => ?_)
            refine lv_goto (tgt := 19) hC.1 hC.2.1 d_AckBookModel_tick_70 (by decide) ?_
            exact ih.1 _ _ _ _ _ _ h _ _ _ _ _ hZ (lv_sub hl [1, 2, 0] rfl)
          · have h := z_ifn hc h
            refine lv_iload_n hC.1 hC.2.1 d_AckBookModel_tick_46 rfl (lv_at hl 1 rfl) ?_
            refine lv_if_lt (tgt := 65) hC.1 hC.2.1 d_AckBookModel_tick_47 (by decide) (fun hc => ?_) (fun hc => ?_)
            · have h := z_ifp hc h
              refine lv_iload_n hC.1 hC.2.1 d_AckBookModel_tick_65 rfl (lv_at hl 2 rfl) ?_
              refine lv_istore_n (i := 1) (lv' := [(1, .int xL2), (0, va_rf rL0), (2, .int xL2)]) hC.1 hC.2.1 d_AckBookModel_tick_66 rfl hl (by decide) (by first | rfl | simp [z_rfc, z_ci, z_cj]) (fun ls hl => ?_)
              refine lv_iinc (lv' := [(2, .int (xL2 + (1 : Int32))), (1, .int xL2), (0, va_rf rL0)]) hC.1 hC.2.1 d_AckBookModel_tick_67 hl (k := 2) rfl rfl (by decide) (by first | rfl | simp [z_rfc, z_ci, z_cj]) (fun ls hl => ?_)
              refine lv_goto (tgt := 19) hC.1 hC.2.1 d_AckBookModel_tick_70 (by decide) ?_
              exact ih.1 _ _ _ _ _ _ h _ _ _ _ _ hZ (lv_sub hl [2, 1, 0] rfl)
            · have h := z_ifn hc h
              refine x_aload_n hC d_AckBookModel_tick_50 rfl (lv_at hl 0 rfl) ?_
              refine x_getR hC hZ zc10 h (by decide) t_832 (fun _ h9 => h9) d_AckBookModel_tick_51 (fun r7 h => ?_)
              refine lv_iload_n hC.1 hC.2.1 d_AckBookModel_tick_54 rfl (lv_at hl 2 rfl) ?_
              refine x_ldI hC hZ h d_AckBookModel_tick_55 (fun v8 h => ?_)
              refine x_aload_n hC d_AckBookModel_tick_56 rfl (lv_at hl 0 rfl) ?_
              refine x_getR hC hZ zc10 h (by decide) t_832 (fun _ h9 => h9) d_AckBookModel_tick_57 (fun r9 h => ?_)
              refine lv_iload_n hC.1 hC.2.1 d_AckBookModel_tick_60 rfl (lv_at hl 1 rfl) ?_
              refine x_ldI hC hZ h d_AckBookModel_tick_61 (fun v10 h => ?_)
              refine lv_icmp_ge (tgt := 67) hC.1 hC.2.1 d_AckBookModel_tick_62 (by decide) (fun hc => ?_) (fun hc => ?_)
              · have h := z_ifp hc h
                refine lv_iinc (lv' := [(2, .int (xL2 + (1 : Int32))), (0, va_rf rL0), (1, .int xL1)]) hC.1 hC.2.1 d_AckBookModel_tick_67 hl (k := 2) rfl rfl (by decide) (by first | rfl | simp [z_rfc, z_ci, z_cj]) (fun ls hl => ?_)
                refine lv_goto (tgt := 19) hC.1 hC.2.1 d_AckBookModel_tick_70 (by decide) ?_
                exact ih.1 _ _ _ _ _ _ h _ _ _ _ _ hZ (lv_sub hl [1, 2, 0] rfl)
              · have h := z_ifn hc h
                refine lv_iload_n hC.1 hC.2.1 d_AckBookModel_tick_65 rfl (lv_at hl 2 rfl) ?_
                refine lv_istore_n (i := 1) (lv' := [(1, .int xL2), (0, va_rf rL0), (2, .int xL2)]) hC.1 hC.2.1 d_AckBookModel_tick_66 rfl hl (by decide) (by first | rfl | simp [z_rfc, z_ci, z_cj]) (fun ls hl => ?_)
                refine lv_iinc (lv' := [(2, .int (xL2 + (1 : Int32))), (1, .int xL2), (0, va_rf rL0)]) hC.1 hC.2.1 d_AckBookModel_tick_67 hl (k := 2) rfl rfl (by decide) (by first | rfl | simp [z_rfc, z_ci, z_cj]) (fun ls hl => ?_)
                refine lv_goto (tgt := 19) hC.1 hC.2.1 d_AckBookModel_tick_70 (by decide) ?_
                exact ih.1 _ _ _ _ _ _ h _ _ _ _ _ hZ (lv_sub hl [2, 1, 0] rfl)
    · intro rL0 xL1 xL2 xL3 w res h H locs cells slots ls hZ hl
      rw [j_AckBookModel_tick] at h
      have h := z_ifn (by decide) h
      refine lv_iload_n hC.1 hC.2.1 d_AckBookModel_tick_88 rfl (lv_at hl 3 rfl) ?_
      refine lv_iconst (v := (3 : Int32)) hC.1 hC.2.1 d_AckBookModel_tick_89 (by decide) ?_
      refine lv_icmp_ge (tgt := 138) hC.1 hC.2.1 d_AckBookModel_tick_90 (by decide) (fun hc => ?_) (fun hc => ?_)
      · have h := z_ifp hc h
        refine lv_iload_n hC.1 hC.2.1 d_AckBookModel_tick_138 rfl (lv_at hl 1 rfl) ?_
        refine lv_if_ge (tgt := 144) hC.1 hC.2.1 d_AckBookModel_tick_139 (by decide) (fun hc => ?_) (fun hc => ?_)
        · have h := z_ifp hc h
          refine x_aload_n hC d_AckBookModel_tick_144 rfl (lv_at hl 0 rfl) ?_
          refine x_aload_n hC d_AckBookModel_tick_145 rfl (lv_at hl 0 rfl) ?_
          refine x_getI hC hZ zc10 h (by decide) t_842 (fun _ h9 => h9) d_AckBookModel_tick_146 (fun v11 h => ?_)
          refine lv_bipush (v := (10 : Int32)) hC.1 hC.2.1 d_AckBookModel_tick_149 (by decide) ?_
          refine lv_icmp_ge (tgt := 163) hC.1 hC.2.1 d_AckBookModel_tick_151 (by decide) (fun hc => ?_) (fun hc => ?_)
          · have h := z_ifp hc h
            refine lv_bipush (v := (10 : Int32)) hC.1 hC.2.1 d_AckBookModel_tick_163 (by decide) ?_
            refine x_put hC hZ zc10 h (by decide) t_842 (fun _ h9 => h9) rfl rfl rfl rfl d_AckBookModel_tick_165 (fun w H locs hZ h => ?_)
            refine lv_iconst (v := (2 : Int32)) hC.1 hC.2.1 d_AckBookModel_tick_168 (by decide) ?_
            refine lv_iload_n hC.1 hC.2.1 d_AckBookModel_tick_169 rfl (lv_at hl 1 rfl) ?_
            refine lv_iadd hC.1 hC.2.1 d_AckBookModel_tick_170 ?_
            exact x_iret hC hRc hRs hZ hr rfl h d_AckBookModel_tick_171
          · have h := z_ifn hc h
            refine x_aload_n hC d_AckBookModel_tick_154 rfl (lv_at hl 0 rfl) ?_
            refine x_getI hC hZ zc10 h (by decide) t_842 (fun _ h9 => h9) d_AckBookModel_tick_155 (fun v12 h => ?_)
            refine lv_iconst (v := (1 : Int32)) hC.1 hC.2.1 d_AckBookModel_tick_158 (by decide) ?_
            refine lv_iadd hC.1 hC.2.1 d_AckBookModel_tick_159 ?_
            refine lv_goto (tgt := 165) hC.1 hC.2.1 d_AckBookModel_tick_160 (by decide) ?_
            refine x_put hC hZ zc10 h (by decide) t_842 (fun _ h9 => h9) rfl rfl rfl rfl d_AckBookModel_tick_165 (fun w H locs hZ h => ?_)
            refine lv_iconst (v := (2 : Int32)) hC.1 hC.2.1 d_AckBookModel_tick_168 (by decide) ?_
            refine lv_iload_n hC.1 hC.2.1 d_AckBookModel_tick_169 rfl (lv_at hl 1 rfl) ?_
            refine lv_iadd hC.1 hC.2.1 d_AckBookModel_tick_170 ?_
            exact x_iret hC hRc hRs hZ hr rfl h d_AckBookModel_tick_171
        · have h := z_ifn hc h
          refine lv_iconst (v := (0 : Int32)) hC.1 hC.2.1 d_AckBookModel_tick_142 (by decide) ?_
          exact x_iret hC hRc hRs hZ hr rfl h d_AckBookModel_tick_143
      · have h := z_ifn hc h
        refine x_aload_n hC d_AckBookModel_tick_93 rfl (lv_at hl 0 rfl) ?_
        refine lv_iload_n hC.1 hC.2.1 d_AckBookModel_tick_94 rfl (lv_at hl 3 rfl) ?_
        obtain ⟨a_, fs_, eo_, h⟩ := z_this_spec h
        obtain ⟨w1_, o1_, hF_, ha_⟩ := z_cI_spec h
        refine x_goes hC hRc hRs hFr ha_ (z_goV (As := [.int xL3]) hC hZ zc10 eo_ (k_AckBookModel_probeTime hT hfl hE _ _ hF_) t_1012 t_1014 ts_AckBookModel_probeTime t_12 t_1015 ⟨by decide, by decide, (by decide +kernel : (parseMethodDescriptor y_AckBookModel_probeTime.desc).map (fun d => d.parameters.length) = some 1)⟩ (by rw [hRt.1]; decide) (by rw [hRt.2]; decide) hl.1 rfl (by first | exact Nat.le_of_ble_eq_true rfl | simp [z_rfc, z_ci, z_cj]) d_AckBookModel_tick_95) (fun v_ hv H locs cells slots hZ => ?_)
        obtain ⟨v14, rfl, h⟩ := hv
        generalize w1_ = w at h hZ
        refine lv_istore (i := 4) (lv' := [(4, .int v14), (0, va_rf rL0), (1, .int xL1), (2, .int xL2), (3, .int xL3)]) hC.1 hC.2.1 d_AckBookModel_tick_98 hl (by decide) (by first | rfl | simp [z_rfc, z_ci, z_cj]) (fun ls hl => ?_)
        refine lv_iload hC.1 hC.2.1 d_AckBookModel_tick_100 (lv_at hl 0 rfl) ?_
        refine lv_if_lt (tgt := 132) hC.1 hC.2.1 d_AckBookModel_tick_102 (by decide) (fun hc => ?_) (fun hc => ?_)
        · have h := z_ifp hc h
          refine lv_iinc (lv' := [(3, .int (xL3 + (1 : Int32))), (4, .int v14), (0, va_rf rL0), (1, .int xL1), (2, .int xL2)]) hC.1 hC.2.1 d_AckBookModel_tick_132 hl (k := 4) rfl rfl (by decide) (by first | rfl | simp [z_rfc, z_ci, z_cj]) (fun ls hl => ?_)
          refine lv_goto (tgt := 88) hC.1 hC.2.1 d_AckBookModel_tick_135 (by decide) ?_
          exact ih.2 _ _ _ _ _ _ h _ _ _ _ _ hZ (lv_sub hl [2, 3, 4, 0] rfl)
        · have h := z_ifn hc h
          refine lv_iload hC.1 hC.2.1 d_AckBookModel_tick_105 (lv_at hl 0 rfl) ?_
          refine x_aload_n hC d_AckBookModel_tick_107 rfl (lv_at hl 1 rfl) ?_
          refine x_getI hC hZ zc10 h (by decide) t_820 (fun _ h9 => h9) d_AckBookModel_tick_108 (fun v15 h => ?_)
          refine lv_icmp_gt (tgt := 132) hC.1 hC.2.1 d_AckBookModel_tick_111 (by decide) (fun hc => ?_) (fun hc => ?_)
          · have h := z_ifp hc h
            refine lv_iinc (lv' := [(3, .int (xL3 + (1 : Int32))), (4, .int v14), (0, va_rf rL0), (1, .int xL1), (2, .int xL2)]) hC.1 hC.2.1 d_AckBookModel_tick_132 hl (k := 4) rfl rfl (by decide) (by first | rfl | simp [z_rfc, z_ci, z_cj]) (fun ls hl => ?_)
            refine lv_goto (tgt := 88) hC.1 hC.2.1 d_AckBookModel_tick_135 (by decide) ?_
            exact ih.2 _ _ _ _ _ _ h _ _ _ _ _ hZ (lv_sub hl [2, 3, 4, 0] rfl)
          · have h := z_ifn hc h
            refine lv_iload_n hC.1 hC.2.1 d_AckBookModel_tick_114 rfl (lv_at hl 2 rfl) ?_
            refine lv_if_lt (tgt := 127) hC.1 hC.2.1 d_AckBookModel_tick_115 (by decide) (fun hc => ?_) (fun hc => ?_)
            · have h := z_ifp hc h
              exact kq_AckBookModel_tick_127 hT hfl hE hC hr hRc hRs hFr hRt hnm ih _ _ _ _ _ h _ _ _ _ _ hZ (lv_sub hl [1, 4, 0] rfl)
            · have h := z_ifn hc h
              refine lv_iload hC.1 hC.2.1 d_AckBookModel_tick_118 (lv_at hl 0 rfl) ?_
              refine lv_iload_n hC.1 hC.2.1 d_AckBookModel_tick_120 rfl (lv_at hl 3 rfl) ?_
              refine lv_icmp_lt (tgt := 127) hC.1 hC.2.1 d_AckBookModel_tick_121 (by decide) (fun hc => ?_) (fun hc => ?_)
              · have h := z_ifp hc h
                exact kq_AckBookModel_tick_127 hT hfl hE hC hr hRc hRs hFr hRt hnm ih _ _ _ _ _ h _ _ _ _ _ hZ (lv_sub hl [1, 4, 0] rfl)
              · have h := z_ifn hc h
                refine lv_goto (tgt := 132) hC.1 hC.2.1 d_AckBookModel_tick_124 (by decide) ?_
                refine lv_iinc (lv' := [(3, .int (xL3 + (1 : Int32))), (4, .int v14), (0, va_rf rL0), (1, .int xL1), (2, .int xL2)]) hC.1 hC.2.1 d_AckBookModel_tick_132 hl (k := 4) rfl rfl (by decide) (by first | rfl | simp [z_rfc, z_ci, z_cj]) (fun ls hl => ?_)
                refine lv_goto (tgt := 88) hC.1 hC.2.1 d_AckBookModel_tick_135 (by decide) ?_
                exact ih.2 _ _ _ _ _ _ h _ _ _ _ _ hZ (lv_sub hl [2, 3, 4, 0] rfl)
def f_AckBookModel_tick (F X : Nat) (a0 : Option Nat) (w : zW) : zR :=
  z_put w 10 0 a0 (.int (0 : Int32)) fun w =>
  z_getI w 10 1 a0 fun v16 =>
  z_put w 10 1 a0 (.int (v16 + (1 : Int32))) fun w =>
  (j_AckBookModel_tick F X F) 0 a0 (-1 : Int32) (0 : Int32) 0 w
set_option maxHeartbeats 4000000 in
set_option maxRecDepth 100000 in
theorem k_AckBookModel_tick {b0 : Nat} {H0 : Heap} {D : va_G} {vu vs : Value} {X M : Nat} {l : Launch} (hT : z_TB (zGG b0 H0 D vu vs X M)) (hfl : l.flags = pinnedFlags ++ [noTraceFlag]) (hE : vu.isRef = true ∧ vs.isRef = true) {a0 : Option Nat} (F : Nat) {w : zW} (res : zO × zW) (h : f_AckBookModel_tick F X a0 w = some res) : z_Ct (zGG b0 H0 D vu vs X M) l y_AckBookModel_tick (.code y_AckBookModel_tick c_AckBookModel_tick 5 (some FieldType.int)) 3 73 [va_rf a0] w res := by
  refine z_ct hT hfl (by decide) (by simp only [z_sl_i, z_sl_j, z_sl_r, z_sl_n]; decide) ?_
  intro p e R s m args below meth c hC hr hRc hRs hRt hnm hFr H ls hZ hl
  simp only [z_la_i, z_la_j, z_la_r, z_la_n] at hl
  have hl : lv_has ls 5 [(0, va_rf a0)] := hl
  unfold f_AckBookModel_tick at h
  refine x_aload_n hC d_AckBookModel_tick_0 rfl (lv_at hl 0 rfl) ?_
  refine lv_iconst (v := (0 : Int32)) hC.1 hC.2.1 d_AckBookModel_tick_1 (by decide) ?_
  refine x_put hC hZ zc10 h (by decide) t_819 (fun _ h9 => h9) rfl rfl rfl rfl d_AckBookModel_tick_2 (fun w H locs hZ h => ?_)
  refine x_aload_n hC d_AckBookModel_tick_5 rfl (lv_at hl 0 rfl) ?_
  refine lv_dup hC.1 hC.2.1 d_AckBookModel_tick_6 (z_rfc _) ?_
  refine x_getI hC hZ zc10 h (by decide) t_820 (fun _ h9 => h9) d_AckBookModel_tick_7 (fun v16 h => ?_)
  refine lv_iconst (v := (1 : Int32)) hC.1 hC.2.1 d_AckBookModel_tick_10 (by decide) ?_
  refine lv_iadd hC.1 hC.2.1 d_AckBookModel_tick_11 ?_
  refine x_put hC hZ zc10 h (by decide) t_820 (fun _ h9 => h9) rfl rfl rfl rfl d_AckBookModel_tick_12 (fun w H locs hZ h => ?_)
  refine lv_iconst (v := (-1 : Int32)) hC.1 hC.2.1 d_AckBookModel_tick_15 (by decide) ?_
  refine lv_istore_n (i := 1) (lv' := [(1, .int (-1 : Int32)), (0, va_rf a0)]) hC.1 hC.2.1 d_AckBookModel_tick_16 rfl hl (by decide) (by first | rfl | simp [z_rfc, z_ci, z_cj]) (fun ls hl => ?_)
  refine lv_iconst (v := (0 : Int32)) hC.1 hC.2.1 d_AckBookModel_tick_17 (by decide) ?_
  refine lv_istore_n (i := 2) (lv' := [(2, .int (0 : Int32)), (1, .int (-1 : Int32)), (0, va_rf a0)]) hC.1 hC.2.1 d_AckBookModel_tick_18 rfl hl (by decide) (by first | rfl | simp [z_rfc, z_ci, z_cj]) (fun ls hl => ?_)
  exact (kj_AckBookModel_tick hT hfl hE hC hr hRc hRs hFr hRt hnm F).1 _ _ _ _ _ _ h _ _ _ _ _ hZ (lv_sub hl [2, 1, 0] rfl)
def f_AckBookModel_discard (F X : Nat) (a0 : Option Nat) (pI1 : Int32) (w : zW) : zR :=
  z_cI (f_AckBookModel_noSpace F X pI1 w) fun v2 w =>
  z_this w 10 a0 <|
  z_cI (f_AckBookModel_fails F X a0 v2 (1 : Int32) w) fun v4 w =>
  if v4 = 0 then (
    z_getR w 10 11 a0 fun r5 =>
    z_ldI w .boolean r5 pI1 fun v6 =>
    z_this w 10 a0 <|
    z_cI (f_AckBookModel_fails F X a0 v6 (2 : Int32) w) fun v8 w =>
    if v8 = 0 then (
      z_getR w 10 11 a0 fun r9 =>
      z_stZ w r9 pI1 (1 : Int32) fun w =>
      z_getR w 10 13 a0 fun r10 =>
      z_stI w r10 pI1 (-1 : Int32) fun w =>
      z_getR w 10 17 a0 fun r11 =>
      z_getR w 10 16 a0 fun r12 =>
      z_ldI w .int r12 ((2 : Int32) * pI1) fun v13 =>
      z_stI w r11 ((2 : Int32) * pI1) v13 fun w =>
      z_getR w 10 17 a0 fun r14 =>
      z_getR w 10 16 a0 fun r15 =>
      z_ldI w .int r15 (((2 : Int32) * pI1) + (1 : Int32)) fun v16 =>
      z_stI w r14 (((2 : Int32) * pI1) + (1 : Int32)) v16 fun w =>
      z_getR w 10 30 a0 fun r17 =>
      z_stI w r17 pI1 (0 : Int32) fun w =>
      z_getR w 10 33 a0 fun r18 =>
      z_stL w r18 pI1 (0 : Int64) fun w =>
      z_getR w 10 35 a0 fun r19 =>
      z_stI w r19 pI1 (0 : Int32) fun w =>
      z_getR w 10 37 a0 fun r20 =>
      z_stZ w r20 pI1 (0 : Int32) fun w =>
      z_put w 10 23 a0 (.int (0 : Int32)) fun w =>
      some (.inl none, w))
    else (
      some (.inl none, w)))
  else (
    some (.inl none, w))
set_option maxHeartbeats 4000000 in
set_option maxRecDepth 100000 in
theorem k_AckBookModel_discard {b0 : Nat} {H0 : Heap} {D : va_G} {vu vs : Value} {X M : Nat} {l : Launch} (hT : z_TB (zGG b0 H0 D vu vs X M)) (hfl : l.flags = pinnedFlags ++ [noTraceFlag]) (hE : vu.isRef = true ∧ vs.isRef = true) {a0 : Option Nat} {pI1 : Int32} (F : Nat) {w : zW} (res : zO × zW) (h : f_AckBookModel_discard F X a0 pI1 w = some res) : z_Ct (zGG b0 H0 D vu vs X M) l y_AckBookModel_discard (.code y_AckBookModel_discard c_AckBookModel_discard 2 (none)) 1 22 [va_rf a0, .int pI1] w res := by
  refine z_ct hT hfl (by decide) (by simp only [z_sl_i, z_sl_j, z_sl_r, z_sl_n]; decide) ?_
  intro p e R s m args below meth c hC hr hRc hRs hRt hnm hFr H ls hZ hl
  simp only [z_la_i, z_la_j, z_la_r, z_la_n] at hl
  have hl : lv_has ls 2 [(0, va_rf a0), (1, .int pI1)] := hl
  unfold f_AckBookModel_discard at h
  refine x_aload_n hC d_AckBookModel_discard_0 rfl (lv_at hl 0 rfl) ?_
  refine lv_iload_n hC.1 hC.2.1 d_AckBookModel_discard_1 rfl (lv_at hl 1 rfl) ?_
  obtain ⟨w1_, o1_, hF_, ha_⟩ := z_cI_spec h
  refine x_goes hC hRc hRs hFr ha_ (z_goS (As := [.int pI1]) hC hZ (k_AckBookModel_noSpace hT hfl hE _ _ hF_) t_944 t_945 t_12 t_946 ⟨by decide, by decide, (by decide +kernel : (parseMethodDescriptor y_AckBookModel_noSpace.desc).map (fun d => d.parameters.length) = some 1)⟩ (by rw [hRt.1]; decide) (by rw [hRt.2]; decide) hl.1 rfl (by first | exact Nat.le_of_ble_eq_true rfl | simp [z_rfc, z_ci, z_cj]) d_AckBookModel_discard_2) (fun v_ hv H locs cells slots hZ => ?_)
  obtain ⟨v2, rfl, h⟩ := hv
  generalize w1_ = w at h hZ
  refine lv_iconst (v := (1 : Int32)) hC.1 hC.2.1 d_AckBookModel_discard_5 (by decide) ?_
  obtain ⟨a_, fs_, eo_, h⟩ := z_this_spec h
  obtain ⟨w1_, o1_, hF_, ha_⟩ := z_cI_spec h
  refine x_goes hC hRc hRs hFr ha_ (z_goV (As := [.int v2, .int (1 : Int32)]) hC hZ zc10 eo_ (k_AckBookModel_fails hT hfl hE _ _ hF_) t_947 t_949 ts_AckBookModel_fails t_12 t_950 ⟨by decide, by decide, (by decide +kernel : (parseMethodDescriptor y_AckBookModel_fails.desc).map (fun d => d.parameters.length) = some 2)⟩ (by rw [hRt.1]; decide) (by rw [hRt.2]; decide) hl.1 rfl (by first | exact Nat.le_of_ble_eq_true rfl | simp [z_rfc, z_ci, z_cj]) d_AckBookModel_discard_6) (fun v_ hv H locs cells slots hZ => ?_)
  obtain ⟨v4, rfl, h⟩ := hv
  generalize w1_ = w at h hZ
  refine lv_if_ne (tgt := 26) hC.1 hC.2.1 d_AckBookModel_discard_9 (by decide) (fun hc => ?_) (fun hc => ?_)
  · have h := z_ifn hc h
    exact x_vret hC hRc hRs hZ hr h d_AckBookModel_discard_26
  · have h := z_ifp hc h
    refine x_aload_n hC d_AckBookModel_discard_12 rfl (lv_at hl 0 rfl) ?_
    refine x_aload_n hC d_AckBookModel_discard_13 rfl (lv_at hl 0 rfl) ?_
    refine x_getR hC hZ zc10 h (by decide) t_830 (fun _ h9 => h9) d_AckBookModel_discard_14 (fun r5 h => ?_)
    refine lv_iload_n hC.1 hC.2.1 d_AckBookModel_discard_17 rfl (lv_at hl 1 rfl) ?_
    refine x_ldZ hC hZ h d_AckBookModel_discard_18 (fun v6 h => ?_)
    refine lv_iconst (v := (2 : Int32)) hC.1 hC.2.1 d_AckBookModel_discard_19 (by decide) ?_
    obtain ⟨a_, fs_, eo_, h⟩ := z_this_spec h
    obtain ⟨w1_, o1_, hF_, ha_⟩ := z_cI_spec h
    refine x_goes hC hRc hRs hFr ha_ (z_goV (As := [.int v6, .int (2 : Int32)]) hC hZ zc10 eo_ (k_AckBookModel_fails hT hfl hE _ _ hF_) t_947 t_949 ts_AckBookModel_fails t_12 t_950 ⟨by decide, by decide, (by decide +kernel : (parseMethodDescriptor y_AckBookModel_fails.desc).map (fun d => d.parameters.length) = some 2)⟩ (by rw [hRt.1]; decide) (by rw [hRt.2]; decide) hl.1 rfl (by first | exact Nat.le_of_ble_eq_true rfl | simp [z_rfc, z_ci, z_cj]) d_AckBookModel_discard_20) (fun v_ hv H locs cells slots hZ => ?_)
    obtain ⟨v8, rfl, h⟩ := hv
    generalize w1_ = w at h hZ
    refine lv_if_eq (tgt := 27) hC.1 hC.2.1 d_AckBookModel_discard_23 (by decide) (fun hc => ?_) (fun hc => ?_)
    · have h := z_ifp hc h
      refine x_aload_n hC d_AckBookModel_discard_27 rfl (lv_at hl 0 rfl) ?_
      refine x_getR hC hZ zc10 h (by decide) t_830 (fun _ h9 => h9) d_AckBookModel_discard_28 (fun r9 h => ?_)
      refine lv_iload_n hC.1 hC.2.1 d_AckBookModel_discard_31 rfl (lv_at hl 1 rfl) ?_
      refine lv_iconst (v := (1 : Int32)) hC.1 hC.2.1 d_AckBookModel_discard_32 (by decide) ?_
      refine x_stZ hC hZ h d_AckBookModel_discard_33 (fun w H locs hZ h => ?_)
      refine x_aload_n hC d_AckBookModel_discard_34 rfl (lv_at hl 0 rfl) ?_
      refine x_getR hC hZ zc10 h (by decide) t_832 (fun _ h9 => h9) d_AckBookModel_discard_35 (fun r10 h => ?_)
      refine lv_iload_n hC.1 hC.2.1 d_AckBookModel_discard_38 rfl (lv_at hl 1 rfl) ?_
      refine lv_iconst (v := (-1 : Int32)) hC.1 hC.2.1 d_AckBookModel_discard_39 (by decide) ?_
      refine x_stI hC hZ h d_AckBookModel_discard_40 (fun w H locs hZ h => ?_)
      refine x_aload_n hC d_AckBookModel_discard_41 rfl (lv_at hl 0 rfl) ?_
      refine x_getR hC hZ zc10 h (by decide) t_836 (fun _ h9 => h9) d_AckBookModel_discard_42 (fun r11 h => ?_)
      refine lv_iconst (v := (2 : Int32)) hC.1 hC.2.1 d_AckBookModel_discard_45 (by decide) ?_
      refine lv_iload_n hC.1 hC.2.1 d_AckBookModel_discard_46 rfl (lv_at hl 1 rfl) ?_
      refine lv_imul hC.1 hC.2.1 d_AckBookModel_discard_47 ?_
      refine x_aload_n hC d_AckBookModel_discard_48 rfl (lv_at hl 0 rfl) ?_
      refine x_getR hC hZ zc10 h (by decide) t_835 (fun _ h9 => h9) d_AckBookModel_discard_49 (fun r12 h => ?_)
      refine lv_iconst (v := (2 : Int32)) hC.1 hC.2.1 d_AckBookModel_discard_52 (by decide) ?_
      refine lv_iload_n hC.1 hC.2.1 d_AckBookModel_discard_53 rfl (lv_at hl 1 rfl) ?_
      refine lv_imul hC.1 hC.2.1 d_AckBookModel_discard_54 ?_
      refine x_ldI hC hZ h d_AckBookModel_discard_55 (fun v13 h => ?_)
      refine x_stI hC hZ h d_AckBookModel_discard_56 (fun w H locs hZ h => ?_)
      refine x_aload_n hC d_AckBookModel_discard_57 rfl (lv_at hl 0 rfl) ?_
      refine x_getR hC hZ zc10 h (by decide) t_836 (fun _ h9 => h9) d_AckBookModel_discard_58 (fun r14 h => ?_)
      refine lv_iconst (v := (2 : Int32)) hC.1 hC.2.1 d_AckBookModel_discard_61 (by decide) ?_
      refine lv_iload_n hC.1 hC.2.1 d_AckBookModel_discard_62 rfl (lv_at hl 1 rfl) ?_
      refine lv_imul hC.1 hC.2.1 d_AckBookModel_discard_63 ?_
      refine lv_iconst (v := (1 : Int32)) hC.1 hC.2.1 d_AckBookModel_discard_64 (by decide) ?_
      refine lv_iadd hC.1 hC.2.1 d_AckBookModel_discard_65 ?_
      refine x_aload_n hC d_AckBookModel_discard_66 rfl (lv_at hl 0 rfl) ?_
      refine x_getR hC hZ zc10 h (by decide) t_835 (fun _ h9 => h9) d_AckBookModel_discard_67 (fun r15 h => ?_)
      refine lv_iconst (v := (2 : Int32)) hC.1 hC.2.1 d_AckBookModel_discard_70 (by decide) ?_
      refine lv_iload_n hC.1 hC.2.1 d_AckBookModel_discard_71 rfl (lv_at hl 1 rfl) ?_
      refine lv_imul hC.1 hC.2.1 d_AckBookModel_discard_72 ?_
      refine lv_iconst (v := (1 : Int32)) hC.1 hC.2.1 d_AckBookModel_discard_73 (by decide) ?_
      refine lv_iadd hC.1 hC.2.1 d_AckBookModel_discard_74 ?_
      refine x_ldI hC hZ h d_AckBookModel_discard_75 (fun v16 h => ?_)
      refine x_stI hC hZ h d_AckBookModel_discard_76 (fun w H locs hZ h => ?_)
      refine x_aload_n hC d_AckBookModel_discard_77 rfl (lv_at hl 0 rfl) ?_
      refine x_getR hC hZ zc10 h (by decide) t_849 (fun _ h9 => h9) d_AckBookModel_discard_78 (fun r17 h => ?_)
      refine lv_iload_n hC.1 hC.2.1 d_AckBookModel_discard_81 rfl (lv_at hl 1 rfl) ?_
      refine lv_iconst (v := (0 : Int32)) hC.1 hC.2.1 d_AckBookModel_discard_82 (by decide) ?_
      refine x_stI hC hZ h d_AckBookModel_discard_83 (fun w H locs hZ h => ?_)
      refine x_aload_n hC d_AckBookModel_discard_84 rfl (lv_at hl 0 rfl) ?_
      refine x_getR hC hZ zc10 h (by decide) t_852 (fun _ h9 => h9) d_AckBookModel_discard_85 (fun r18 h => ?_)
      refine lv_iload_n hC.1 hC.2.1 d_AckBookModel_discard_88 rfl (lv_at hl 1 rfl) ?_
      refine lv_lconst (v := (0 : Int64)) hC.1 hC.2.1 d_AckBookModel_discard_89 (by decide) ?_
      refine x_stL hC hZ h d_AckBookModel_discard_90 (fun w H locs hZ h => ?_)
      refine x_aload_n hC d_AckBookModel_discard_91 rfl (lv_at hl 0 rfl) ?_
      refine x_getR hC hZ zc10 h (by decide) t_854 (fun _ h9 => h9) d_AckBookModel_discard_92 (fun r19 h => ?_)
      refine lv_iload_n hC.1 hC.2.1 d_AckBookModel_discard_95 rfl (lv_at hl 1 rfl) ?_
      refine lv_iconst (v := (0 : Int32)) hC.1 hC.2.1 d_AckBookModel_discard_96 (by decide) ?_
      refine x_stI hC hZ h d_AckBookModel_discard_97 (fun w H locs hZ h => ?_)
      refine x_aload_n hC d_AckBookModel_discard_98 rfl (lv_at hl 0 rfl) ?_
      refine x_getR hC hZ zc10 h (by decide) t_856 (fun _ h9 => h9) d_AckBookModel_discard_99 (fun r20 h => ?_)
      refine lv_iload_n hC.1 hC.2.1 d_AckBookModel_discard_102 rfl (lv_at hl 1 rfl) ?_
      refine lv_iconst (v := (0 : Int32)) hC.1 hC.2.1 d_AckBookModel_discard_103 (by decide) ?_
      refine x_stZ hC hZ h d_AckBookModel_discard_104 (fun w H locs hZ h => ?_)
      refine x_aload_n hC d_AckBookModel_discard_105 rfl (lv_at hl 0 rfl) ?_
      refine lv_iconst (v := (0 : Int32)) hC.1 hC.2.1 d_AckBookModel_discard_106 (by decide) ?_
      refine x_put hC hZ zc10 h (by decide) t_842 (fun _ h9 => h9) rfl rfl rfl rfl d_AckBookModel_discard_107 (fun w H locs hZ h => ?_)
      exact x_vret hC hRc hRs hZ hr h d_AckBookModel_discard_110
    · have h := z_ifn hc h
      exact x_vret hC hRc hRs hZ hr h d_AckBookModel_discard_26
def f_AckBookModel_confirm (F X : Nat) (a0 : Option Nat) (w : zW) : zR :=
  z_put w 10 0 a0 (.int (0 : Int32)) fun w =>
  z_putZ w 10 2 a0 (1 : Int32) fun w =>
  some (.inl none, w)
set_option maxHeartbeats 4000000 in
set_option maxRecDepth 100000 in
theorem k_AckBookModel_confirm {b0 : Nat} {H0 : Heap} {D : va_G} {vu vs : Value} {X M : Nat} {l : Launch} (hT : z_TB (zGG b0 H0 D vu vs X M)) (hfl : l.flags = pinnedFlags ++ [noTraceFlag]) (hE : vu.isRef = true ∧ vs.isRef = true) {a0 : Option Nat} (F : Nat) {w : zW} (res : zO × zW) (h : f_AckBookModel_confirm F X a0 w = some res) : z_Ct (zGG b0 H0 D vu vs X M) l y_AckBookModel_confirm (.code y_AckBookModel_confirm c_AckBookModel_confirm 1 (none)) 0 0 [va_rf a0] w res := by
  refine z_ct hT hfl (by decide) (by simp only [z_sl_i, z_sl_j, z_sl_r, z_sl_n]; decide) ?_
  intro p e R s m args below meth c hC hr hRc hRs hRt hnm hFr H ls hZ hl
  simp only [z_la_i, z_la_j, z_la_r, z_la_n] at hl
  have hl : lv_has ls 1 [(0, va_rf a0)] := hl
  unfold f_AckBookModel_confirm at h
  refine x_aload_n hC d_AckBookModel_confirm_0 rfl (lv_at hl 0 rfl) ?_
  refine lv_iconst (v := (0 : Int32)) hC.1 hC.2.1 d_AckBookModel_confirm_1 (by decide) ?_
  refine x_put hC hZ zc10 h (by decide) t_819 (fun _ h9 => h9) rfl rfl rfl rfl d_AckBookModel_confirm_2 (fun w H locs hZ h => ?_)
  refine x_aload_n hC d_AckBookModel_confirm_5 rfl (lv_at hl 0 rfl) ?_
  refine lv_iconst (v := (1 : Int32)) hC.1 hC.2.1 d_AckBookModel_confirm_6 (by decide) ?_
  refine x_putZ hC hZ zc10 h (by decide) t_821 (fun _ h9 => h9) rfl rfl d_AckBookModel_confirm_7 (fun w H locs hZ h => ?_)
  exact x_vret hC hRc hRs hZ hr h d_AckBookModel_confirm_10
def f_AckBookModel_anxious (F X : Nat) (a0 : Option Nat) (pI1 : Int32) (w : zW) : zR :=
  z_put w 10 0 a0 (.int (0 : Int32)) fun w =>
  z_putZ w 10 3 a0 pI1 fun w =>
  some (.inl none, w)
set_option maxHeartbeats 4000000 in
set_option maxRecDepth 100000 in
theorem k_AckBookModel_anxious {b0 : Nat} {H0 : Heap} {D : va_G} {vu vs : Value} {X M : Nat} {l : Launch} (hT : z_TB (zGG b0 H0 D vu vs X M)) (hfl : l.flags = pinnedFlags ++ [noTraceFlag]) (hE : vu.isRef = true ∧ vs.isRef = true) {a0 : Option Nat} {pI1 : Int32} (F : Nat) {w : zW} (res : zO × zW) (h : f_AckBookModel_anxious F X a0 pI1 w = some res) : z_Ct (zGG b0 H0 D vu vs X M) l y_AckBookModel_anxious (.code y_AckBookModel_anxious c_AckBookModel_anxious 2 (none)) 0 0 [va_rf a0, .int pI1] w res := by
  refine z_ct hT hfl (by decide) (by simp only [z_sl_i, z_sl_j, z_sl_r, z_sl_n]; decide) ?_
  intro p e R s m args below meth c hC hr hRc hRs hRt hnm hFr H ls hZ hl
  simp only [z_la_i, z_la_j, z_la_r, z_la_n] at hl
  have hl : lv_has ls 2 [(0, va_rf a0), (1, .int pI1)] := hl
  unfold f_AckBookModel_anxious at h
  refine x_aload_n hC d_AckBookModel_anxious_0 rfl (lv_at hl 0 rfl) ?_
  refine lv_iconst (v := (0 : Int32)) hC.1 hC.2.1 d_AckBookModel_anxious_1 (by decide) ?_
  refine x_put hC hZ zc10 h (by decide) t_819 (fun _ h9 => h9) rfl rfl rfl rfl d_AckBookModel_anxious_2 (fun w H locs hZ h => ?_)
  refine x_aload_n hC d_AckBookModel_anxious_5 rfl (lv_at hl 0 rfl) ?_
  refine lv_iload_n hC.1 hC.2.1 d_AckBookModel_anxious_6 rfl (lv_at hl 1 rfl) ?_
  refine x_putZ hC hZ zc10 h (by decide) t_822 (fun _ h9 => h9) rfl rfl d_AckBookModel_anxious_7 (fun w H locs hZ h => ?_)
  exact x_vret hC hRc hRs hZ hr h d_AckBookModel_anxious_10
def q_AckBookModel_next_26 (F X : Nat) (rL0 : Option Nat) (xS0 : Int32) (xS1 : Int32) (w : zW) : zR :=
  z_getR w 10 17 rL0 fun r1 =>
  z_ldI w .int r1 (xS0 + xS1) fun v2 =>
  z_getR w 10 16 rL0 fun r3 =>
  z_ldI w .int r3 (xS0 + xS1) fun v4 =>
  if v2 = v4 then (
    some (.inl (some (.int (-1 : Int32))), w))
  else (
    z_getR w 10 17 rL0 fun r5 =>
    z_ldI w .int r5 (xS0 + xS1) fun v6 =>
    z_stI w r5 (xS0 + xS1) (v6 + (1 : Int32)) fun w =>
    z_getR w 10 15 rL0 fun r7 =>
    z_getR w 10 17 rL0 fun r8 =>
    z_ldI w .int r8 (xS0 + xS1) fun v9 =>
    z_ldI w .int r7 ((((4096 : Int32) * (xS0 + xS1)) + v9) - (1 : Int32)) fun v10 =>
    some (.inl (some (.int v10)), w))
set_option maxHeartbeats 4000000 in
set_option maxRecDepth 100000 in
theorem kq_AckBookModel_next_26 {b0 : Nat} {H0 : Heap} {D : va_G} {vu vs : Value} {X M : Nat} {l : Launch} (hT : z_TB (zGG b0 H0 D vu vs X M)) (hfl : l.flags = pinnedFlags ++ [noTraceFlag]) (hE : vu.isRef = true ∧ vs.isRef = true) {p : Program} {e : Env} {R : Room} {s : State} {m : MethodId} {args : Array Value} {below : List Frame} {meth : Method} {c : Code} {w0 : zW} {F : Nat} (hC : z_C (zGG b0 H0 D vu vs X M) p e s m meth c c_AckBookModel_next 4 y_AckBookModel_next.cls) (hr : meth.sig.returnType = (some FieldType.int)) (hRc : R.cells = w0.2.1) (hRs : R.slots = w0.2.2.1) (hFr : c.exceptionTable.toList = []) (hRt : R.frames = 1 ∧ R.locals = 22) (hnm : meth.name = y_AckBookModel_next.name) (rL0 : Option Nat) (xS0 : Int32) (xS1 : Int32) (w : zW) (res : zO × zW) (h : q_AckBookModel_next_26 F X rL0 xS0 xS1 w = some res) (H : Heap) (locs : List Loc) (cells slots : Nat) (ls : Array Slot) (hZ : z_Z (zGG b0 H0 D vu vs X M) R s w H locs cells slots) (hl : lv_has ls 4 [(0, va_rf rL0)]) : W p l e R s m args below meth c H locs cells slots (z_Q (zGG b0 H0 D vu vs X M) below s w0 res) (F0 m 26 ls [.int xS1, .int xS0]) := by
  unfold q_AckBookModel_next_26 at h
  refine lv_iadd hC.1 hC.2.1 d_AckBookModel_next_26 ?_
  refine lv_istore_n (i := 3) (lv' := [(3, .int (xS0 + xS1)), (0, va_rf rL0)]) hC.1 hC.2.1 d_AckBookModel_next_27 rfl hl (by decide) (by first | rfl | simp [z_rfc, z_ci, z_cj]) (fun ls hl => ?_)
  refine x_aload_n hC d_AckBookModel_next_28 rfl (lv_at hl 1 rfl) ?_
  refine x_getR hC hZ zc10 h (by decide) t_836 (fun _ h9 => h9) d_AckBookModel_next_29 (fun r1 h => ?_)
  refine lv_iload_n hC.1 hC.2.1 d_AckBookModel_next_32 rfl (lv_at hl 0 rfl) ?_
  refine x_ldI hC hZ h d_AckBookModel_next_33 (fun v2 h => ?_)
  refine x_aload_n hC d_AckBookModel_next_34 rfl (lv_at hl 1 rfl) ?_
  refine x_getR hC hZ zc10 h (by decide) t_835 (fun _ h9 => h9) d_AckBookModel_next_35 (fun r3 h => ?_)
  refine lv_iload_n hC.1 hC.2.1 d_AckBookModel_next_38 rfl (lv_at hl 0 rfl) ?_
  refine x_ldI hC hZ h d_AckBookModel_next_39 (fun v4 h => ?_)
  refine lv_icmp_ne (tgt := 45) hC.1 hC.2.1 d_AckBookModel_next_40 (by decide) (fun hc => ?_) (fun hc => ?_)
  · have h := z_ifn hc h
    refine x_aload_n hC d_AckBookModel_next_45 rfl (lv_at hl 1 rfl) ?_
    refine x_getR hC hZ zc10 h (by decide) t_836 (fun _ h9 => h9) d_AckBookModel_next_46 (fun r5 h => ?_)
    refine lv_iload_n hC.1 hC.2.1 d_AckBookModel_next_49 rfl (lv_at hl 0 rfl) ?_
    refine lv_dup2_11 hC.1 hC.2.1 d_AckBookModel_next_50 rfl (z_rfc _) ?_
    refine x_ldI hC hZ h d_AckBookModel_next_51 (fun v6 h => ?_)
    refine lv_iconst (v := (1 : Int32)) hC.1 hC.2.1 d_AckBookModel_next_52 (by decide) ?_
    refine lv_iadd hC.1 hC.2.1 d_AckBookModel_next_53 ?_
    refine x_stI hC hZ h d_AckBookModel_next_54 (fun w H locs hZ h => ?_)
    refine x_aload_n hC d_AckBookModel_next_55 rfl (lv_at hl 1 rfl) ?_
    refine x_getR hC hZ zc10 h (by decide) t_834 (fun _ h9 => h9) d_AckBookModel_next_56 (fun r7 h => ?_)
    refine lv_sipush (v := (4096 : Int32)) hC.1 hC.2.1 d_AckBookModel_next_59 (by decide) ?_
    refine lv_iload_n hC.1 hC.2.1 d_AckBookModel_next_62 rfl (lv_at hl 0 rfl) ?_
    refine lv_imul hC.1 hC.2.1 d_AckBookModel_next_63 ?_
    refine x_aload_n hC d_AckBookModel_next_64 rfl (lv_at hl 1 rfl) ?_
    refine x_getR hC hZ zc10 h (by decide) t_836 (fun _ h9 => h9) d_AckBookModel_next_65 (fun r8 h => ?_)
    refine lv_iload_n hC.1 hC.2.1 d_AckBookModel_next_68 rfl (lv_at hl 0 rfl) ?_
    refine x_ldI hC hZ h d_AckBookModel_next_69 (fun v9 h => ?_)
    refine lv_iadd hC.1 hC.2.1 d_AckBookModel_next_70 ?_
    refine lv_iconst (v := (1 : Int32)) hC.1 hC.2.1 d_AckBookModel_next_71 (by decide) ?_
    refine lv_isub hC.1 hC.2.1 d_AckBookModel_next_72 ?_
    refine x_ldI hC hZ h d_AckBookModel_next_73 (fun v10 h => ?_)
    exact x_iret hC hRc hRs hZ hr rfl h d_AckBookModel_next_74
  · have h := z_ifp hc h
    refine lv_iconst (v := (-1 : Int32)) hC.1 hC.2.1 d_AckBookModel_next_43 (by decide) ?_
    exact x_iret hC hRc hRs hZ hr rfl h d_AckBookModel_next_44
def f_AckBookModel_next (F X : Nat) (a0 : Option Nat) (pI1 : Int32) (pI2 : Int32) (w : zW) : zR :=
  z_cI (f_AckBookModel_noSpace F X pI1 w) fun v12 w =>
  z_this w 10 a0 <|
  z_cI (f_AckBookModel_fails F X a0 v12 (1 : Int32) w) fun v14 w =>
  if v14 = 0 then (
    if pI2 = 0 then (
      q_AckBookModel_next_26 F X a0 ((2 : Int32) * pI1) (0 : Int32) w)
    else (
      q_AckBookModel_next_26 F X a0 ((2 : Int32) * pI1) (1 : Int32) w))
  else (
    some (.inl (some (.int (0 : Int32))), w))
set_option maxHeartbeats 4000000 in
set_option maxRecDepth 100000 in
theorem k_AckBookModel_next {b0 : Nat} {H0 : Heap} {D : va_G} {vu vs : Value} {X M : Nat} {l : Launch} (hT : z_TB (zGG b0 H0 D vu vs X M)) (hfl : l.flags = pinnedFlags ++ [noTraceFlag]) (hE : vu.isRef = true ∧ vs.isRef = true) {a0 : Option Nat} {pI1 : Int32} {pI2 : Int32} (F : Nat) {w : zW} (res : zO × zW) (h : f_AckBookModel_next F X a0 pI1 pI2 w = some res) : z_Ct (zGG b0 H0 D vu vs X M) l y_AckBookModel_next (.code y_AckBookModel_next c_AckBookModel_next 4 (some FieldType.int)) 1 22 [va_rf a0, .int pI1, .int pI2] w res := by
  refine z_ct hT hfl (by decide) (by simp only [z_sl_i, z_sl_j, z_sl_r, z_sl_n]; decide) ?_
  intro p e R s m args below meth c hC hr hRc hRs hRt hnm hFr H ls hZ hl
  simp only [z_la_i, z_la_j, z_la_r, z_la_n] at hl
  have hl : lv_has ls 4 [(0, va_rf a0), (1, .int pI1), (2, .int pI2)] := hl
  unfold f_AckBookModel_next at h
  refine x_aload_n hC d_AckBookModel_next_0 rfl (lv_at hl 0 rfl) ?_
  refine lv_iload_n hC.1 hC.2.1 d_AckBookModel_next_1 rfl (lv_at hl 1 rfl) ?_
  obtain ⟨w1_, o1_, hF_, ha_⟩ := z_cI_spec h
  refine x_goes hC hRc hRs hFr ha_ (z_goS (As := [.int pI1]) hC hZ (k_AckBookModel_noSpace hT hfl hE _ _ hF_) t_944 t_945 t_12 t_946 ⟨by decide, by decide, (by decide +kernel : (parseMethodDescriptor y_AckBookModel_noSpace.desc).map (fun d => d.parameters.length) = some 1)⟩ (by rw [hRt.1]; decide) (by rw [hRt.2]; decide) hl.1 rfl (by first | exact Nat.le_of_ble_eq_true rfl | simp [z_rfc, z_ci, z_cj]) d_AckBookModel_next_2) (fun v_ hv H locs cells slots hZ => ?_)
  obtain ⟨v12, rfl, h⟩ := hv
  generalize w1_ = w at h hZ
  refine lv_iconst (v := (1 : Int32)) hC.1 hC.2.1 d_AckBookModel_next_5 (by decide) ?_
  obtain ⟨a_, fs_, eo_, h⟩ := z_this_spec h
  obtain ⟨w1_, o1_, hF_, ha_⟩ := z_cI_spec h
  refine x_goes hC hRc hRs hFr ha_ (z_goV (As := [.int v12, .int (1 : Int32)]) hC hZ zc10 eo_ (k_AckBookModel_fails hT hfl hE _ _ hF_) t_947 t_949 ts_AckBookModel_fails t_12 t_950 ⟨by decide, by decide, (by decide +kernel : (parseMethodDescriptor y_AckBookModel_fails.desc).map (fun d => d.parameters.length) = some 2)⟩ (by rw [hRt.1]; decide) (by rw [hRt.2]; decide) hl.1 rfl (by first | exact Nat.le_of_ble_eq_true rfl | simp [z_rfc, z_ci, z_cj]) d_AckBookModel_next_6) (fun v_ hv H locs cells slots hZ => ?_)
  obtain ⟨v14, rfl, h⟩ := hv
  generalize w1_ = w at h hZ
  refine lv_if_eq (tgt := 14) hC.1 hC.2.1 d_AckBookModel_next_9 (by decide) (fun hc => ?_) (fun hc => ?_)
  · have h := z_ifp hc h
    refine lv_iconst (v := (2 : Int32)) hC.1 hC.2.1 d_AckBookModel_next_14 (by decide) ?_
    refine lv_iload_n hC.1 hC.2.1 d_AckBookModel_next_15 rfl (lv_at hl 1 rfl) ?_
    refine lv_imul hC.1 hC.2.1 d_AckBookModel_next_16 ?_
    refine lv_iload_n hC.1 hC.2.1 d_AckBookModel_next_17 rfl (lv_at hl 2 rfl) ?_
    refine lv_if_eq (tgt := 25) hC.1 hC.2.1 d_AckBookModel_next_18 (by decide) (fun hc => ?_) (fun hc => ?_)
    · have h := z_ifp hc h
      refine lv_iconst (v := (0 : Int32)) hC.1 hC.2.1 d_AckBookModel_next_25 (by decide) ?_
      exact kq_AckBookModel_next_26 hT hfl hE hC hr hRc hRs hFr hRt hnm _ _ _ _ _ h _ _ _ _ _ hZ (lv_sub hl [0] rfl)
    · have h := z_ifn hc h
      refine lv_iconst (v := (1 : Int32)) hC.1 hC.2.1 d_AckBookModel_next_21 (by decide) ?_
      refine lv_goto (tgt := 26) hC.1 hC.2.1 d_AckBookModel_next_22 (by decide) ?_
      exact kq_AckBookModel_next_26 hT hfl hE hC hr hRc hRs hFr hRt hnm _ _ _ _ _ h _ _ _ _ _ hZ (lv_sub hl [0] rfl)
  · have h := z_ifn hc h
    refine lv_iconst (v := (0 : Int32)) hC.1 hC.2.1 d_AckBookModel_next_12 (by decide) ?_
    exact x_iret hC hRc hRs hZ hr rfl h d_AckBookModel_next_13
def f_AckBookModel_state (F X : Nat) (a0 : Option Nat) (pI1 : Int32) (pI2 : Int32) (w : zW) : zR :=
  z_cI (f_AckBookModel_noSpace F X pI1 w) fun v2 w =>
  z_this w 10 a0 <|
  z_cI (f_AckBookModel_fails F X a0 v2 (1 : Int32) w) fun v4 w =>
  if v4 = 0 then (
    if pI2 < 0 then (
      some (.inl (some (.int (-1 : Int32))), w))
    else (
      z_getR w 10 4 a0 fun r5 =>
      z_ldI w .int r5 pI1 fun v6 =>
      if pI2 < v6 then (
        z_getR w 10 11 a0 fun r7 =>
        z_ldI w .boolean r7 pI1 fun v8 =>
        if v8 = 0 then (
          z_getR w 10 7 a0 fun r9 =>
          z_ldI w .int r9 (((4096 : Int32) * pI1) + pI2) fun v10 =>
          some (.inl (some (.int v10)), w))
        else (
          some (.inl (some (.int (3 : Int32))), w)))
      else (
        some (.inl (some (.int (-1 : Int32))), w))))
  else (
    some (.inl (some (.int (0 : Int32))), w))
set_option maxHeartbeats 4000000 in
set_option maxRecDepth 100000 in
theorem k_AckBookModel_state {b0 : Nat} {H0 : Heap} {D : va_G} {vu vs : Value} {X M : Nat} {l : Launch} (hT : z_TB (zGG b0 H0 D vu vs X M)) (hfl : l.flags = pinnedFlags ++ [noTraceFlag]) (hE : vu.isRef = true ∧ vs.isRef = true) {a0 : Option Nat} {pI1 : Int32} {pI2 : Int32} (F : Nat) {w : zW} (res : zO × zW) (h : f_AckBookModel_state F X a0 pI1 pI2 w = some res) : z_Ct (zGG b0 H0 D vu vs X M) l y_AckBookModel_state (.code y_AckBookModel_state c_AckBookModel_state 3 (some FieldType.int)) 1 22 [va_rf a0, .int pI1, .int pI2] w res := by
  refine z_ct hT hfl (by decide) (by simp only [z_sl_i, z_sl_j, z_sl_r, z_sl_n]; decide) ?_
  intro p e R s m args below meth c hC hr hRc hRs hRt hnm hFr H ls hZ hl
  simp only [z_la_i, z_la_j, z_la_r, z_la_n] at hl
  have hl : lv_has ls 3 [(0, va_rf a0), (1, .int pI1), (2, .int pI2)] := hl
  unfold f_AckBookModel_state at h
  refine x_aload_n hC d_AckBookModel_state_0 rfl (lv_at hl 0 rfl) ?_
  refine lv_iload_n hC.1 hC.2.1 d_AckBookModel_state_1 rfl (lv_at hl 1 rfl) ?_
  obtain ⟨w1_, o1_, hF_, ha_⟩ := z_cI_spec h
  refine x_goes hC hRc hRs hFr ha_ (z_goS (As := [.int pI1]) hC hZ (k_AckBookModel_noSpace hT hfl hE _ _ hF_) t_944 t_945 t_12 t_946 ⟨by decide, by decide, (by decide +kernel : (parseMethodDescriptor y_AckBookModel_noSpace.desc).map (fun d => d.parameters.length) = some 1)⟩ (by rw [hRt.1]; decide) (by rw [hRt.2]; decide) hl.1 rfl (by first | exact Nat.le_of_ble_eq_true rfl | simp [z_rfc, z_ci, z_cj]) d_AckBookModel_state_2) (fun v_ hv H locs cells slots hZ => ?_)
  obtain ⟨v2, rfl, h⟩ := hv
  generalize w1_ = w at h hZ
  refine lv_iconst (v := (1 : Int32)) hC.1 hC.2.1 d_AckBookModel_state_5 (by decide) ?_
  obtain ⟨a_, fs_, eo_, h⟩ := z_this_spec h
  obtain ⟨w1_, o1_, hF_, ha_⟩ := z_cI_spec h
  refine x_goes hC hRc hRs hFr ha_ (z_goV (As := [.int v2, .int (1 : Int32)]) hC hZ zc10 eo_ (k_AckBookModel_fails hT hfl hE _ _ hF_) t_947 t_949 ts_AckBookModel_fails t_12 t_950 ⟨by decide, by decide, (by decide +kernel : (parseMethodDescriptor y_AckBookModel_fails.desc).map (fun d => d.parameters.length) = some 2)⟩ (by rw [hRt.1]; decide) (by rw [hRt.2]; decide) hl.1 rfl (by first | exact Nat.le_of_ble_eq_true rfl | simp [z_rfc, z_ci, z_cj]) d_AckBookModel_state_6) (fun v_ hv H locs cells slots hZ => ?_)
  obtain ⟨v4, rfl, h⟩ := hv
  generalize w1_ = w at h hZ
  refine lv_if_eq (tgt := 14) hC.1 hC.2.1 d_AckBookModel_state_9 (by decide) (fun hc => ?_) (fun hc => ?_)
  · have h := z_ifp hc h
    refine lv_iload_n hC.1 hC.2.1 d_AckBookModel_state_14 rfl (lv_at hl 2 rfl) ?_
    refine lv_if_lt (tgt := 28) hC.1 hC.2.1 d_AckBookModel_state_15 (by decide) (fun hc => ?_) (fun hc => ?_)
    · have h := z_ifp hc h
      refine lv_iconst (v := (-1 : Int32)) hC.1 hC.2.1 d_AckBookModel_state_28 (by decide) ?_
      refine lv_goto (tgt := 57) hC.1 hC.2.1 d_AckBookModel_state_29 (by decide) ?_
      exact x_iret hC hRc hRs hZ hr rfl h d_AckBookModel_state_57
    · have h := z_ifn hc h
      refine lv_iload_n hC.1 hC.2.1 d_AckBookModel_state_18 rfl (lv_at hl 2 rfl) ?_
      refine x_aload_n hC d_AckBookModel_state_19 rfl (lv_at hl 0 rfl) ?_
      refine x_getR hC hZ zc10 h (by decide) t_823 (fun _ h9 => h9) d_AckBookModel_state_20 (fun r5 h => ?_)
      refine lv_iload_n hC.1 hC.2.1 d_AckBookModel_state_23 rfl (lv_at hl 1 rfl) ?_
      refine x_ldI hC hZ h d_AckBookModel_state_24 (fun v6 h => ?_)
      refine lv_icmp_lt (tgt := 32) hC.1 hC.2.1 d_AckBookModel_state_25 (by decide) (fun hc => ?_) (fun hc => ?_)
      · have h := z_ifp hc h
        refine x_aload_n hC d_AckBookModel_state_32 rfl (lv_at hl 0 rfl) ?_
        refine x_getR hC hZ zc10 h (by decide) t_830 (fun _ h9 => h9) d_AckBookModel_state_33 (fun r7 h => ?_)
        refine lv_iload_n hC.1 hC.2.1 d_AckBookModel_state_36 rfl (lv_at hl 1 rfl) ?_
        refine x_ldZ hC hZ h d_AckBookModel_state_37 (fun v8 h => ?_)
        refine lv_if_eq (tgt := 45) hC.1 hC.2.1 d_AckBookModel_state_38 (by decide) (fun hc => ?_) (fun hc => ?_)
        · have h := z_ifp hc h
          refine x_aload_n hC d_AckBookModel_state_45 rfl (lv_at hl 0 rfl) ?_
          refine x_getR hC hZ zc10 h (by decide) t_826 (fun _ h9 => h9) d_AckBookModel_state_46 (fun r9 h => ?_)
          refine lv_sipush (v := (4096 : Int32)) hC.1 hC.2.1 d_AckBookModel_state_49 (by decide) ?_
          refine lv_iload_n hC.1 hC.2.1 d_AckBookModel_state_52 rfl (lv_at hl 1 rfl) ?_
          refine lv_imul hC.1 hC.2.1 d_AckBookModel_state_53 ?_
          refine lv_iload_n hC.1 hC.2.1 d_AckBookModel_state_54 rfl (lv_at hl 2 rfl) ?_
          refine lv_iadd hC.1 hC.2.1 d_AckBookModel_state_55 ?_
          refine x_ldI hC hZ h d_AckBookModel_state_56 (fun v10 h => ?_)
          exact x_iret hC hRc hRs hZ hr rfl h d_AckBookModel_state_57
        · have h := z_ifn hc h
          refine lv_iconst (v := (3 : Int32)) hC.1 hC.2.1 d_AckBookModel_state_41 (by decide) ?_
          refine lv_goto (tgt := 57) hC.1 hC.2.1 d_AckBookModel_state_42 (by decide) ?_
          exact x_iret hC hRc hRs hZ hr rfl h d_AckBookModel_state_57
      · have h := z_ifn hc h
        refine lv_iconst (v := (-1 : Int32)) hC.1 hC.2.1 d_AckBookModel_state_28 (by decide) ?_
        refine lv_goto (tgt := 57) hC.1 hC.2.1 d_AckBookModel_state_29 (by decide) ?_
        exact x_iret hC hRc hRs hZ hr rfl h d_AckBookModel_state_57
  · have h := z_ifn hc h
    refine lv_iconst (v := (0 : Int32)) hC.1 hC.2.1 d_AckBookModel_state_12 (by decide) ?_
    exact x_iret hC hRc hRs hZ hr rfl h d_AckBookModel_state_13
def j_AckBookModel_isOld (F X : Nat) : Nat → Option Nat → Int32 → Int64 → Int32 → Int32 → zW → zR
  | 0, _, _, _, _, _, _ => none
  | N + 1, rL0, xL1, yL2, xL4, xL5, w =>
    z_getR w 10 30 rL0 fun r1 =>
    z_ldI w .int r1 xL1 fun v2 =>
    if (((65 : Int32) * xL1) + v2) ≤ xL5 then (
      z_retZ xL4 w)
    else (
      if xL4 = 0 then (
        z_getR w 10 31 rL0 fun r3 =>
        z_ldL w r3 xL5 fun v4 =>
        if (lg_cmp yL2 v4) < 0 then (
          (j_AckBookModel_isOld F X N) rL0 xL1 yL2 (0 : Int32) (xL5 + (1 : Int32)) w)
        else (
          z_getR w 10 32 rL0 fun r5 =>
          z_ldL w r5 xL5 fun v6 =>
          if 0 < (lg_cmp yL2 v6) then (
            (j_AckBookModel_isOld F X N) rL0 xL1 yL2 (0 : Int32) (xL5 + (1 : Int32)) w)
          else (
            (j_AckBookModel_isOld F X N) rL0 xL1 yL2 (1 : Int32) (xL5 + (1 : Int32)) w)))
      else (
        (j_AckBookModel_isOld F X N) rL0 xL1 yL2 (1 : Int32) (xL5 + (1 : Int32)) w))
set_option maxHeartbeats 4000000 in
set_option maxRecDepth 100000 in
theorem kj_AckBookModel_isOld {b0 : Nat} {H0 : Heap} {D : va_G} {vu vs : Value} {X M : Nat} {l : Launch} (hT : z_TB (zGG b0 H0 D vu vs X M)) (hfl : l.flags = pinnedFlags ++ [noTraceFlag]) (hE : vu.isRef = true ∧ vs.isRef = true) {p : Program} {e : Env} {R : Room} {s : State} {m : MethodId} {args : Array Value} {below : List Frame} {meth : Method} {c : Code} {w0 : zW} {F : Nat} (hC : z_C (zGG b0 H0 D vu vs X M) p e s m meth c c_AckBookModel_isOld 6 y_AckBookModel_isOld.cls) (hr : meth.sig.returnType = (some FieldType.boolean)) (hRc : R.cells = w0.2.1) (hRs : R.slots = w0.2.2.1) (hFr : c.exceptionTable.toList = []) (hRt : R.frames = 0 ∧ R.locals = 0) (hnm : meth.name = y_AckBookModel_isOld.name) : ∀ N : Nat, (∀ (rL0 : Option Nat) (xL1 : Int32) (yL2 : Int64) (xL4 : Int32) (xL5 : Int32) (w : zW) (res : zO × zW), j_AckBookModel_isOld F X N rL0 xL1 yL2 xL4 xL5 w = some res → ∀ (H : Heap) (locs : List Loc) (cells slots : Nat) (ls : Array Slot), z_Z (zGG b0 H0 D vu vs X M) R s w H locs cells slots → lv_has ls 6 [(0, va_rf rL0), (1, .int xL1), (2, .long yL2), (4, .int xL4), (5, .int xL5)] → W p l e R s m args below meth c H locs cells slots (z_Q (zGG b0 H0 D vu vs X M) below s w0 res) (F0 m 24 ls [])) := by
  intro N
  induction N with
  | zero =>
    intro rL0 xL1 yL2 xL4 xL5 w res h
    rw [j_AckBookModel_isOld] at h
    cases h
  | succ N ih =>
    intro rL0 xL1 yL2 xL4 xL5 w res h H locs cells slots ls hZ hl
    rw [j_AckBookModel_isOld] at h
    refine lv_iload hC.1 hC.2.1 d_AckBookModel_isOld_24 (lv_at hl 4 rfl) ?_
    refine lv_bipush (v := (65 : Int32)) hC.1 hC.2.1 d_AckBookModel_isOld_26 (by decide) ?_
    refine lv_iload_n hC.1 hC.2.1 d_AckBookModel_isOld_28 rfl (lv_at hl 1 rfl) ?_
    refine lv_imul hC.1 hC.2.1 d_AckBookModel_isOld_29 ?_
    refine x_aload_n hC d_AckBookModel_isOld_30 rfl (lv_at hl 0 rfl) ?_
    refine x_getR hC hZ zc10 h (by decide) t_849 (fun _ h9 => h9) d_AckBookModel_isOld_31 (fun r1 h => ?_)
    refine lv_iload_n hC.1 hC.2.1 d_AckBookModel_isOld_34 rfl (lv_at hl 1 rfl) ?_
    refine x_ldI hC hZ h d_AckBookModel_isOld_35 (fun v2 h => ?_)
    refine lv_iadd hC.1 hC.2.1 d_AckBookModel_isOld_36 ?_
    refine lv_icmp_ge (tgt := 82) hC.1 hC.2.1 d_AckBookModel_isOld_37 (by decide) (fun hc => ?_) (fun hc => ?_)
    · have h := z_ifp hc h
      refine lv_iload hC.1 hC.2.1 d_AckBookModel_isOld_82 (lv_at hl 3 rfl) ?_
      exact x_zret hC hRc hRs hZ hr h d_AckBookModel_isOld_84
    · have h := z_ifn hc h
      refine lv_iload hC.1 hC.2.1 d_AckBookModel_isOld_40 (lv_at hl 3 rfl) ?_
      refine lv_if_ne (tgt := 69) hC.1 hC.2.1 d_AckBookModel_isOld_42 (by decide) (fun hc => ?_) (fun hc => ?_)
      · have h := z_ifn hc h
        refine lv_iconst (v := (1 : Int32)) hC.1 hC.2.1 d_AckBookModel_isOld_69 (by decide) ?_
        refine lv_goto (tgt := 74) hC.1 hC.2.1 d_AckBookModel_isOld_70 (by decide) ?_
        refine lv_istore (i := 4) (lv' := [(4, .int (1 : Int32)), (0, va_rf rL0), (1, .int xL1), (2, .long yL2), (5, .int xL5)]) hC.1 hC.2.1 d_AckBookModel_isOld_74 hl (by decide) (by first | rfl | simp [z_rfc, z_ci, z_cj]) (fun ls hl => ?_)
        refine lv_iinc (lv' := [(5, .int (xL5 + (1 : Int32))), (4, .int (1 : Int32)), (0, va_rf rL0), (1, .int xL1), (2, .long yL2)]) hC.1 hC.2.1 d_AckBookModel_isOld_76 hl (k := 4) rfl rfl (by decide) (by first | rfl | simp [z_rfc, z_ci, z_cj]) (fun ls hl => ?_)
        refine lv_goto (tgt := 24) hC.1 hC.2.1 d_AckBookModel_isOld_79 (by decide) ?_
        exact ih _ _ _ _ _ _ _ h _ _ _ _ _ hZ (lv_sub hl [2, 3, 4, 1, 0] rfl)
      · have h := z_ifp hc h
        refine lv_lload_n hC.1 hC.2.1 d_AckBookModel_isOld_45 rfl (lv_at hl 2 rfl) ?_
        refine x_aload_n hC d_AckBookModel_isOld_46 rfl (lv_at hl 0 rfl) ?_
        refine x_getR hC hZ zc10 h (by decide) t_850 (fun _ h9 => h9) d_AckBookModel_isOld_47 (fun r3 h => ?_)
        refine lv_iload hC.1 hC.2.1 d_AckBookModel_isOld_50 (lv_at hl 4 rfl) ?_
        refine x_ldL hC hZ h d_AckBookModel_isOld_52 (fun v4 h => ?_)
        refine W.lcmp hC.1 hC.2.1 d_AckBookModel_isOld_53 ?_
        refine lv_if_lt (tgt := 73) hC.1 hC.2.1 d_AckBookModel_isOld_54 (by decide) (fun hc => ?_) (fun hc => ?_)
        · have h := z_ifp hc h
          refine lv_iconst (v := (0 : Int32)) hC.1 hC.2.1 d_AckBookModel_isOld_73 (by decide) ?_
          refine lv_istore (i := 4) (lv' := [(4, .int (0 : Int32)), (0, va_rf rL0), (1, .int xL1), (2, .long yL2), (5, .int xL5)]) hC.1 hC.2.1 d_AckBookModel_isOld_74 hl (by decide) (by first | rfl | simp [z_rfc, z_ci, z_cj]) (fun ls hl => ?_)
          refine lv_iinc (lv' := [(5, .int (xL5 + (1 : Int32))), (4, .int (0 : Int32)), (0, va_rf rL0), (1, .int xL1), (2, .long yL2)]) hC.1 hC.2.1 d_AckBookModel_isOld_76 hl (k := 4) rfl rfl (by decide) (by first | rfl | simp [z_rfc, z_ci, z_cj]) (fun ls hl => ?_)
          refine lv_goto (tgt := 24) hC.1 hC.2.1 d_AckBookModel_isOld_79 (by decide) ?_
          exact ih _ _ _ _ _ _ _ h _ _ _ _ _ hZ (lv_sub hl [2, 3, 4, 1, 0] rfl)
        · have h := z_ifn hc h
          refine lv_lload_n hC.1 hC.2.1 d_AckBookModel_isOld_57 rfl (lv_at hl 2 rfl) ?_
          refine x_aload_n hC d_AckBookModel_isOld_58 rfl (lv_at hl 0 rfl) ?_
          refine x_getR hC hZ zc10 h (by decide) t_851 (fun _ h9 => h9) d_AckBookModel_isOld_59 (fun r5 h => ?_)
          refine lv_iload hC.1 hC.2.1 d_AckBookModel_isOld_62 (lv_at hl 4 rfl) ?_
          refine x_ldL hC hZ h d_AckBookModel_isOld_64 (fun v6 h => ?_)
          refine W.lcmp hC.1 hC.2.1 d_AckBookModel_isOld_65 ?_
          refine lv_if_gt (tgt := 73) hC.1 hC.2.1 d_AckBookModel_isOld_66 (by decide) (fun hc => ?_) (fun hc => ?_)
          · have h := z_ifp hc h
            refine lv_iconst (v := (0 : Int32)) hC.1 hC.2.1 d_AckBookModel_isOld_73 (by decide) ?_
            refine lv_istore (i := 4) (lv' := [(4, .int (0 : Int32)), (0, va_rf rL0), (1, .int xL1), (2, .long yL2), (5, .int xL5)]) hC.1 hC.2.1 d_AckBookModel_isOld_74 hl (by decide) (by first | rfl | simp [z_rfc, z_ci, z_cj]) (fun ls hl => ?_)
            refine lv_iinc (lv' := [(5, .int (xL5 + (1 : Int32))), (4, .int (0 : Int32)), (0, va_rf rL0), (1, .int xL1), (2, .long yL2)]) hC.1 hC.2.1 d_AckBookModel_isOld_76 hl (k := 4) rfl rfl (by decide) (by first | rfl | simp [z_rfc, z_ci, z_cj]) (fun ls hl => ?_)
            refine lv_goto (tgt := 24) hC.1 hC.2.1 d_AckBookModel_isOld_79 (by decide) ?_
            exact ih _ _ _ _ _ _ _ h _ _ _ _ _ hZ (lv_sub hl [2, 3, 4, 1, 0] rfl)
          · have h := z_ifn hc h
            refine lv_iconst (v := (1 : Int32)) hC.1 hC.2.1 d_AckBookModel_isOld_69 (by decide) ?_
            refine lv_goto (tgt := 74) hC.1 hC.2.1 d_AckBookModel_isOld_70 (by decide) ?_
            refine lv_istore (i := 4) (lv' := [(4, .int (1 : Int32)), (0, va_rf rL0), (1, .int xL1), (2, .long yL2), (5, .int xL5)]) hC.1 hC.2.1 d_AckBookModel_isOld_74 hl (by decide) (by first | rfl | simp [z_rfc, z_ci, z_cj]) (fun ls hl => ?_)
            refine lv_iinc (lv' := [(5, .int (xL5 + (1 : Int32))), (4, .int (1 : Int32)), (0, va_rf rL0), (1, .int xL1), (2, .long yL2)]) hC.1 hC.2.1 d_AckBookModel_isOld_76 hl (k := 4) rfl rfl (by decide) (by first | rfl | simp [z_rfc, z_ci, z_cj]) (fun ls hl => ?_)
            refine lv_goto (tgt := 24) hC.1 hC.2.1 d_AckBookModel_isOld_79 (by decide) ?_
            exact ih _ _ _ _ _ _ _ h _ _ _ _ _ hZ (lv_sub hl [2, 3, 4, 1, 0] rfl)
def f_AckBookModel_isOld (F X : Nat) (a0 : Option Nat) (pI1 : Int32) (pJ2 : Int64) (w : zW) : zR :=
  z_getR w 10 33 a0 fun r7 =>
  z_ldL w r7 pI1 fun v8 =>
  if 0 ≤ (lg_cmp pJ2 v8) then (
    (j_AckBookModel_isOld F X F) a0 pI1 pJ2 (0 : Int32) ((65 : Int32) * pI1) w)
  else (
    (j_AckBookModel_isOld F X F) a0 pI1 pJ2 (1 : Int32) ((65 : Int32) * pI1) w)
set_option maxHeartbeats 4000000 in
set_option maxRecDepth 100000 in
theorem k_AckBookModel_isOld {b0 : Nat} {H0 : Heap} {D : va_G} {vu vs : Value} {X M : Nat} {l : Launch} (hT : z_TB (zGG b0 H0 D vu vs X M)) (hfl : l.flags = pinnedFlags ++ [noTraceFlag]) (hE : vu.isRef = true ∧ vs.isRef = true) {a0 : Option Nat} {pI1 : Int32} {pJ2 : Int64} (F : Nat) {w : zW} (res : zO × zW) (h : f_AckBookModel_isOld F X a0 pI1 pJ2 w = some res) : z_Ct (zGG b0 H0 D vu vs X M) l y_AckBookModel_isOld (.code y_AckBookModel_isOld c_AckBookModel_isOld 6 (some FieldType.boolean)) 0 0 [va_rf a0, .int pI1, .long pJ2] w res := by
  refine z_ct hT hfl (by decide) (by simp only [z_sl_i, z_sl_j, z_sl_r, z_sl_n]; decide) ?_
  intro p e R s m args below meth c hC hr hRc hRs hRt hnm hFr H ls hZ hl
  simp only [z_la_i, z_la_j, z_la_r, z_la_n] at hl
  have hl : lv_has ls 6 [(0, va_rf a0), (1, .int pI1), (2, .long pJ2)] := hl
  unfold f_AckBookModel_isOld at h
  refine lv_lload_n hC.1 hC.2.1 d_AckBookModel_isOld_0 rfl (lv_at hl 2 rfl) ?_
  refine x_aload_n hC d_AckBookModel_isOld_1 rfl (lv_at hl 0 rfl) ?_
  refine x_getR hC hZ zc10 h (by decide) t_852 (fun _ h9 => h9) d_AckBookModel_isOld_2 (fun r7 h => ?_)
  refine lv_iload_n hC.1 hC.2.1 d_AckBookModel_isOld_5 rfl (lv_at hl 1 rfl) ?_
  refine x_ldL hC hZ h d_AckBookModel_isOld_6 (fun v8 h => ?_)
  refine W.lcmp hC.1 hC.2.1 d_AckBookModel_isOld_7 ?_
  refine lv_if_ge (tgt := 15) hC.1 hC.2.1 d_AckBookModel_isOld_8 (by decide) (fun hc => ?_) (fun hc => ?_)
  · have h := z_ifp hc h
    refine lv_iconst (v := (0 : Int32)) hC.1 hC.2.1 d_AckBookModel_isOld_15 (by decide) ?_
    refine lv_istore (i := 4) (lv' := [(4, .int (0 : Int32)), (0, va_rf a0), (1, .int pI1), (2, .long pJ2)]) hC.1 hC.2.1 d_AckBookModel_isOld_16 hl (by decide) (by first | rfl | simp [z_rfc, z_ci, z_cj]) (fun ls hl => ?_)
    refine lv_bipush (v := (65 : Int32)) hC.1 hC.2.1 d_AckBookModel_isOld_18 (by decide) ?_
    refine lv_iload_n hC.1 hC.2.1 d_AckBookModel_isOld_20 rfl (lv_at hl 2 rfl) ?_
    refine lv_imul hC.1 hC.2.1 d_AckBookModel_isOld_21 ?_
    refine lv_istore (i := 5) (lv' := [(5, .int ((65 : Int32) * pI1)), (4, .int (0 : Int32)), (0, va_rf a0), (1, .int pI1), (2, .long pJ2)]) hC.1 hC.2.1 d_AckBookModel_isOld_22 hl (by decide) (by first | rfl | simp [z_rfc, z_ci, z_cj]) (fun ls hl => ?_)
    exact (kj_AckBookModel_isOld hT hfl hE hC hr hRc hRs hFr hRt hnm F) _ _ _ _ _ _ _ h _ _ _ _ _ hZ (lv_sub hl [2, 3, 4, 1, 0] rfl)
  · have h := z_ifn hc h
    refine lv_iconst (v := (1 : Int32)) hC.1 hC.2.1 d_AckBookModel_isOld_11 (by decide) ?_
    refine lv_goto (tgt := 16) hC.1 hC.2.1 d_AckBookModel_isOld_12 (by decide) ?_
    refine lv_istore (i := 4) (lv' := [(4, .int (1 : Int32)), (0, va_rf a0), (1, .int pI1), (2, .long pJ2)]) hC.1 hC.2.1 d_AckBookModel_isOld_16 hl (by decide) (by first | rfl | simp [z_rfc, z_ci, z_cj]) (fun ls hl => ?_)
    refine lv_bipush (v := (65 : Int32)) hC.1 hC.2.1 d_AckBookModel_isOld_18 (by decide) ?_
    refine lv_iload_n hC.1 hC.2.1 d_AckBookModel_isOld_20 rfl (lv_at hl 2 rfl) ?_
    refine lv_imul hC.1 hC.2.1 d_AckBookModel_isOld_21 ?_
    refine lv_istore (i := 5) (lv' := [(5, .int ((65 : Int32) * pI1)), (4, .int (1 : Int32)), (0, va_rf a0), (1, .int pI1), (2, .long pJ2)]) hC.1 hC.2.1 d_AckBookModel_isOld_22 hl (by decide) (by first | rfl | simp [z_rfc, z_ci, z_cj]) (fun ls hl => ?_)
    exact (kj_AckBookModel_isOld hT hfl hE hC hr hRc hRs hFr hRt hnm F) _ _ _ _ _ _ _ h _ _ _ _ _ hZ (lv_sub hl [2, 3, 4, 1, 0] rfl)
def f_AckBookModel_greatest (F X : Nat) (a0 : Option Nat) (pI1 : Int32) (w : zW) : zR :=
  z_getR w 10 30 a0 fun r1 =>
  z_ldI w .int r1 pI1 fun v2 =>
  if v2 = 0 then (
    some (.inl (some (.long (-1 : Int64))), w))
  else (
    z_getR w 10 32 a0 fun r3 =>
    z_getR w 10 30 a0 fun r4 =>
    z_ldI w .int r4 pI1 fun v5 =>
    z_ldL w r3 ((((65 : Int32) * pI1) + v5) - (1 : Int32)) fun v6 =>
    some (.inl (some (.long v6)), w))
set_option maxHeartbeats 4000000 in
set_option maxRecDepth 100000 in
theorem k_AckBookModel_greatest {b0 : Nat} {H0 : Heap} {D : va_G} {vu vs : Value} {X M : Nat} {l : Launch} (hT : z_TB (zGG b0 H0 D vu vs X M)) (hfl : l.flags = pinnedFlags ++ [noTraceFlag]) (hE : vu.isRef = true ∧ vs.isRef = true) {a0 : Option Nat} {pI1 : Int32} (F : Nat) {w : zW} (res : zO × zW) (h : f_AckBookModel_greatest F X a0 pI1 w = some res) : z_Ct (zGG b0 H0 D vu vs X M) l y_AckBookModel_greatest (.code y_AckBookModel_greatest c_AckBookModel_greatest 2 (some FieldType.long)) 0 0 [va_rf a0, .int pI1] w res := by
  refine z_ct hT hfl (by decide) (by simp only [z_sl_i, z_sl_j, z_sl_r, z_sl_n]; decide) ?_
  intro p e R s m args below meth c hC hr hRc hRs hRt hnm hFr H ls hZ hl
  simp only [z_la_i, z_la_j, z_la_r, z_la_n] at hl
  have hl : lv_has ls 2 [(0, va_rf a0), (1, .int pI1)] := hl
  unfold f_AckBookModel_greatest at h
  refine x_aload_n hC d_AckBookModel_greatest_0 rfl (lv_at hl 0 rfl) ?_
  refine x_getR hC hZ zc10 h (by decide) t_849 (fun _ h9 => h9) d_AckBookModel_greatest_1 (fun r1 h => ?_)
  refine lv_iload_n hC.1 hC.2.1 d_AckBookModel_greatest_4 rfl (lv_at hl 1 rfl) ?_
  refine x_ldI hC hZ h d_AckBookModel_greatest_5 (fun v2 h => ?_)
  refine lv_if_ne (tgt := 15) hC.1 hC.2.1 d_AckBookModel_greatest_6 (by decide) (fun hc => ?_) (fun hc => ?_)
  · have h := z_ifn hc h
    refine x_aload_n hC d_AckBookModel_greatest_15 rfl (lv_at hl 0 rfl) ?_
    refine x_getR hC hZ zc10 h (by decide) t_851 (fun _ h9 => h9) d_AckBookModel_greatest_16 (fun r3 h => ?_)
    refine lv_bipush (v := (65 : Int32)) hC.1 hC.2.1 d_AckBookModel_greatest_19 (by decide) ?_
    refine lv_iload_n hC.1 hC.2.1 d_AckBookModel_greatest_21 rfl (lv_at hl 1 rfl) ?_
    refine lv_imul hC.1 hC.2.1 d_AckBookModel_greatest_22 ?_
    refine x_aload_n hC d_AckBookModel_greatest_23 rfl (lv_at hl 0 rfl) ?_
    refine x_getR hC hZ zc10 h (by decide) t_849 (fun _ h9 => h9) d_AckBookModel_greatest_24 (fun r4 h => ?_)
    refine lv_iload_n hC.1 hC.2.1 d_AckBookModel_greatest_27 rfl (lv_at hl 1 rfl) ?_
    refine x_ldI hC hZ h d_AckBookModel_greatest_28 (fun v5 h => ?_)
    refine lv_iadd hC.1 hC.2.1 d_AckBookModel_greatest_29 ?_
    refine lv_iconst (v := (1 : Int32)) hC.1 hC.2.1 d_AckBookModel_greatest_30 (by decide) ?_
    refine lv_isub hC.1 hC.2.1 d_AckBookModel_greatest_31 ?_
    refine x_ldL hC hZ h d_AckBookModel_greatest_32 (fun v6 h => ?_)
    exact x_lret hC hRc hRs hZ hr h d_AckBookModel_greatest_33
  · have h := z_ifp hc h
    refine lv_ldc2 (v := (-1 : Int64)) hC.1 hC.2.1 hC.2.2.2.1 ((hZ.1.tb hC.2.2.2.2.2.2 args) _ t_1061) d_AckBookModel_greatest_9 ?_
    refine lv_goto (tgt := 33) hC.1 hC.2.1 d_AckBookModel_greatest_12 (by decide) ?_
    exact x_lret hC hRc hRs hZ hr h d_AckBookModel_greatest_33
def j_AckBookModel_takeOut (F X : Nat) : Nat → Option Nat → Int32 → Int32 → zW → zR
  | 0, _, _, _, _ => none
  | N + 1, rL0, xL1, xL3, w =>
    z_getR w 10 30 rL0 fun r1 =>
    z_ldI w .int r1 xL1 fun v2 =>
    if (((65 : Int32) * xL1) + v2) ≤ xL3 then (
      some (.inl none, w))
    else (
      z_getR w 10 31 rL0 fun r3 =>
      z_getR w 10 31 rL0 fun r4 =>
      z_ldL w r4 (xL3 + (1 : Int32)) fun v5 =>
      z_stL w r3 xL3 v5 fun w =>
      z_getR w 10 32 rL0 fun r6 =>
      z_getR w 10 32 rL0 fun r7 =>
      z_ldL w r7 (xL3 + (1 : Int32)) fun v8 =>
      z_stL w r6 xL3 v8 fun w =>
      (j_AckBookModel_takeOut F X N) rL0 xL1 (xL3 + (1 : Int32)) w)
set_option maxHeartbeats 4000000 in
set_option maxRecDepth 100000 in
theorem kj_AckBookModel_takeOut {b0 : Nat} {H0 : Heap} {D : va_G} {vu vs : Value} {X M : Nat} {l : Launch} (hT : z_TB (zGG b0 H0 D vu vs X M)) (hfl : l.flags = pinnedFlags ++ [noTraceFlag]) (hE : vu.isRef = true ∧ vs.isRef = true) {p : Program} {e : Env} {R : Room} {s : State} {m : MethodId} {args : Array Value} {below : List Frame} {meth : Method} {c : Code} {w0 : zW} {F : Nat} (hC : z_C (zGG b0 H0 D vu vs X M) p e s m meth c c_AckBookModel_takeOut 4 y_AckBookModel_takeOut.cls) (hr : meth.sig.returnType = (none)) (hRc : R.cells = w0.2.1) (hRs : R.slots = w0.2.2.1) (hFr : c.exceptionTable.toList = []) (hRt : R.frames = 0 ∧ R.locals = 0) (hnm : meth.name = y_AckBookModel_takeOut.name) : ∀ N : Nat, (∀ (rL0 : Option Nat) (xL1 : Int32) (xL3 : Int32) (w : zW) (res : zO × zW), j_AckBookModel_takeOut F X N rL0 xL1 xL3 w = some res → ∀ (H : Heap) (locs : List Loc) (cells slots : Nat) (ls : Array Slot), z_Z (zGG b0 H0 D vu vs X M) R s w H locs cells slots → lv_has ls 4 [(0, va_rf rL0), (1, .int xL1), (3, .int xL3)] → W p l e R s m args below meth c H locs cells slots (z_Q (zGG b0 H0 D vu vs X M) below s w0 res) (F0 m 12 ls [])) := by
  intro N
  induction N with
  | zero =>
    intro rL0 xL1 xL3 w res h
    rw [j_AckBookModel_takeOut] at h
    cases h
  | succ N ih =>
    intro rL0 xL1 xL3 w res h H locs cells slots ls hZ hl
    rw [j_AckBookModel_takeOut] at h
    refine lv_iload_n hC.1 hC.2.1 d_AckBookModel_takeOut_12 rfl (lv_at hl 2 rfl) ?_
    refine lv_bipush (v := (65 : Int32)) hC.1 hC.2.1 d_AckBookModel_takeOut_13 (by decide) ?_
    refine lv_iload_n hC.1 hC.2.1 d_AckBookModel_takeOut_15 rfl (lv_at hl 1 rfl) ?_
    refine lv_imul hC.1 hC.2.1 d_AckBookModel_takeOut_16 ?_
    refine x_aload_n hC d_AckBookModel_takeOut_17 rfl (lv_at hl 0 rfl) ?_
    refine x_getR hC hZ zc10 h (by decide) t_849 (fun _ h9 => h9) d_AckBookModel_takeOut_18 (fun r1 h => ?_)
    refine lv_iload_n hC.1 hC.2.1 d_AckBookModel_takeOut_21 rfl (lv_at hl 1 rfl) ?_
    refine x_ldI hC hZ h d_AckBookModel_takeOut_22 (fun v2 h => ?_)
    refine lv_iadd hC.1 hC.2.1 d_AckBookModel_takeOut_23 ?_
    refine lv_icmp_ge (tgt := 61) hC.1 hC.2.1 d_AckBookModel_takeOut_24 (by decide) (fun hc => ?_) (fun hc => ?_)
    · have h := z_ifp hc h
      exact x_vret hC hRc hRs hZ hr h d_AckBookModel_takeOut_61
    · have h := z_ifn hc h
      refine x_aload_n hC d_AckBookModel_takeOut_27 rfl (lv_at hl 0 rfl) ?_
      refine x_getR hC hZ zc10 h (by decide) t_850 (fun _ h9 => h9) d_AckBookModel_takeOut_28 (fun r3 h => ?_)
      refine lv_iload_n hC.1 hC.2.1 d_AckBookModel_takeOut_31 rfl (lv_at hl 2 rfl) ?_
      refine x_aload_n hC d_AckBookModel_takeOut_32 rfl (lv_at hl 0 rfl) ?_
      refine x_getR hC hZ zc10 h (by decide) t_850 (fun _ h9 => h9) d_AckBookModel_takeOut_33 (fun r4 h => ?_)
      refine lv_iload_n hC.1 hC.2.1 d_AckBookModel_takeOut_36 rfl (lv_at hl 2 rfl) ?_
      refine lv_iconst (v := (1 : Int32)) hC.1 hC.2.1 d_AckBookModel_takeOut_37 (by decide) ?_
      refine lv_iadd hC.1 hC.2.1 d_AckBookModel_takeOut_38 ?_
      refine x_ldL hC hZ h d_AckBookModel_takeOut_39 (fun v5 h => ?_)
      refine x_stL hC hZ h d_AckBookModel_takeOut_40 (fun w H locs hZ h => ?_)
      refine x_aload_n hC d_AckBookModel_takeOut_41 rfl (lv_at hl 0 rfl) ?_
      refine x_getR hC hZ zc10 h (by decide) t_851 (fun _ h9 => h9) d_AckBookModel_takeOut_42 (fun r6 h => ?_)
      refine lv_iload_n hC.1 hC.2.1 d_AckBookModel_takeOut_45 rfl (lv_at hl 2 rfl) ?_
      refine x_aload_n hC d_AckBookModel_takeOut_46 rfl (lv_at hl 0 rfl) ?_
      refine x_getR hC hZ zc10 h (by decide) t_851 (fun _ h9 => h9) d_AckBookModel_takeOut_47 (fun r7 h => ?_)
      refine lv_iload_n hC.1 hC.2.1 d_AckBookModel_takeOut_50 rfl (lv_at hl 2 rfl) ?_
      refine lv_iconst (v := (1 : Int32)) hC.1 hC.2.1 d_AckBookModel_takeOut_51 (by decide) ?_
      refine lv_iadd hC.1 hC.2.1 d_AckBookModel_takeOut_52 ?_
      refine x_ldL hC hZ h d_AckBookModel_takeOut_53 (fun v8 h => ?_)
      refine x_stL hC hZ h d_AckBookModel_takeOut_54 (fun w H locs hZ h => ?_)
      refine lv_iinc (lv' := [(3, .int (xL3 + (1 : Int32))), (0, va_rf rL0), (1, .int xL1)]) hC.1 hC.2.1 d_AckBookModel_takeOut_55 hl (k := 2) rfl rfl (by decide) (by first | rfl | simp [z_rfc, z_ci, z_cj]) (fun ls hl => ?_)
      refine lv_goto (tgt := 12) hC.1 hC.2.1 d_AckBookModel_takeOut_58 (by decide) ?_
      exact ih _ _ _ _ _ h _ _ _ _ _ hZ (lv_sub hl [1, 2, 0] rfl)
def f_AckBookModel_takeOut (F X : Nat) (a0 : Option Nat) (pI1 : Int32) (pI2 : Int32) (w : zW) : zR :=
  z_getR w 10 30 a0 fun r9 =>
  z_ldI w .int r9 pI1 fun v10 =>
  z_stI w r9 pI1 (v10 - (1 : Int32)) fun w =>
  (j_AckBookModel_takeOut F X F) a0 pI1 pI2 w
set_option maxHeartbeats 4000000 in
set_option maxRecDepth 100000 in
theorem k_AckBookModel_takeOut {b0 : Nat} {H0 : Heap} {D : va_G} {vu vs : Value} {X M : Nat} {l : Launch} (hT : z_TB (zGG b0 H0 D vu vs X M)) (hfl : l.flags = pinnedFlags ++ [noTraceFlag]) (hE : vu.isRef = true ∧ vs.isRef = true) {a0 : Option Nat} {pI1 : Int32} {pI2 : Int32} (F : Nat) {w : zW} (res : zO × zW) (h : f_AckBookModel_takeOut F X a0 pI1 pI2 w = some res) : z_Ct (zGG b0 H0 D vu vs X M) l y_AckBookModel_takeOut (.code y_AckBookModel_takeOut c_AckBookModel_takeOut 4 (none)) 0 0 [va_rf a0, .int pI1, .int pI2] w res := by
  refine z_ct hT hfl (by decide) (by simp only [z_sl_i, z_sl_j, z_sl_r, z_sl_n]; decide) ?_
  intro p e R s m args below meth c hC hr hRc hRs hRt hnm hFr H ls hZ hl
  simp only [z_la_i, z_la_j, z_la_r, z_la_n] at hl
  have hl : lv_has ls 4 [(0, va_rf a0), (1, .int pI1), (2, .int pI2)] := hl
  unfold f_AckBookModel_takeOut at h
  refine x_aload_n hC d_AckBookModel_takeOut_0 rfl (lv_at hl 0 rfl) ?_
  refine x_getR hC hZ zc10 h (by decide) t_849 (fun _ h9 => h9) d_AckBookModel_takeOut_1 (fun r9 h => ?_)
  refine lv_iload_n hC.1 hC.2.1 d_AckBookModel_takeOut_4 rfl (lv_at hl 1 rfl) ?_
  refine lv_dup2_11 hC.1 hC.2.1 d_AckBookModel_takeOut_5 rfl (z_rfc _) ?_
  refine x_ldI hC hZ h d_AckBookModel_takeOut_6 (fun v10 h => ?_)
  refine lv_iconst (v := (1 : Int32)) hC.1 hC.2.1 d_AckBookModel_takeOut_7 (by decide) ?_
  refine lv_isub hC.1 hC.2.1 d_AckBookModel_takeOut_8 ?_
  refine x_stI hC hZ h d_AckBookModel_takeOut_9 (fun w H locs hZ h => ?_)
  refine lv_iload_n hC.1 hC.2.1 d_AckBookModel_takeOut_10 rfl (lv_at hl 2 rfl) ?_
  refine lv_istore_n (i := 3) (lv' := [(3, .int pI2), (0, va_rf a0), (1, .int pI1), (2, .int pI2)]) hC.1 hC.2.1 d_AckBookModel_takeOut_11 rfl hl (by decide) (by first | rfl | simp [z_rfc, z_ci, z_cj]) (fun ls hl => ?_)
  exact (kj_AckBookModel_takeOut hT hfl hE hC hr hRc hRs hFr hRt hnm F) _ _ _ _ _ h _ _ _ _ _ hZ (lv_sub hl [1, 2, 0] rfl)
def q_AckBookModel_comeIn_207 (F X : Nat) (J : Option Nat → Int32 → Int64 → Int32 → zW → zR) (rL0 : Option Nat) (xL1 : Int32) (w : zW) : zR :=
  z_getR w 10 30 rL0 fun r1 =>
  z_ldI w .int r1 xL1 fun v2 =>
  if v2 ≤ (64 : Int32) then (
    some (.inl none, w))
  else (
    z_getR w 10 33 rL0 fun r3 =>
    z_getR w 10 32 rL0 fun r4 =>
    z_ldL w r4 ((65 : Int32) * xL1) fun v5 =>
    z_stL w r3 xL1 (v5 + (1 : Int64)) fun w =>
    z_this w 10 rL0 <|
    z_cV (f_AckBookModel_takeOut F X rL0 xL1 ((65 : Int32) * xL1) w) fun w =>
    some (.inl none, w))
set_option maxHeartbeats 4000000 in
set_option maxRecDepth 100000 in
theorem kq_AckBookModel_comeIn_207 {b0 : Nat} {H0 : Heap} {D : va_G} {vu vs : Value} {X M : Nat} {l : Launch} (hT : z_TB (zGG b0 H0 D vu vs X M)) (hfl : l.flags = pinnedFlags ++ [noTraceFlag]) (hE : vu.isRef = true ∧ vs.isRef = true) {p : Program} {e : Env} {R : Room} {s : State} {m : MethodId} {args : Array Value} {below : List Frame} {meth : Method} {c : Code} {w0 : zW} {F : Nat} (hC : z_C (zGG b0 H0 D vu vs X M) p e s m meth c c_AckBookModel_comeIn 5 y_AckBookModel_comeIn.cls) (hr : meth.sig.returnType = (none)) (hRc : R.cells = w0.2.1) (hRs : R.slots = w0.2.2.1) (hFr : c.exceptionTable.toList = []) (hRt : R.frames = 1 ∧ R.locals = 23) (hnm : meth.name = y_AckBookModel_comeIn.name) {J : Option Nat → Int32 → Int64 → Int32 → zW → zR} (hJ : (∀ (rL0 : Option Nat) (xL1 : Int32) (yL2 : Int64) (xL4 : Int32) (w : zW) (res : zO × zW), J rL0 xL1 yL2 xL4 w = some res → ∀ (H : Heap) (locs : List Loc) (cells slots : Nat) (ls : Array Slot), z_Z (zGG b0 H0 D vu vs X M) R s w H locs cells slots → lv_has ls 5 [(0, va_rf rL0), (1, .int xL1), (2, .long yL2), (4, .int xL4)] → W p l e R s m args below meth c H locs cells slots (z_Q (zGG b0 H0 D vu vs X M) below s w0 res) (F0 m 13 ls []))) (rL0 : Option Nat) (xL1 : Int32) (w : zW) (res : zO × zW) (h : q_AckBookModel_comeIn_207 F X J rL0 xL1 w = some res) (H : Heap) (locs : List Loc) (cells slots : Nat) (ls : Array Slot) (hZ : z_Z (zGG b0 H0 D vu vs X M) R s w H locs cells slots) (hl : lv_has ls 5 [(0, va_rf rL0), (1, .int xL1)]) : W p l e R s m args below meth c H locs cells slots (z_Q (zGG b0 H0 D vu vs X M) below s w0 res) (F0 m 207 ls []) := by
  unfold q_AckBookModel_comeIn_207 at h
  refine x_aload_n hC d_AckBookModel_comeIn_207 rfl (lv_at hl 0 rfl) ?_
  refine x_getR hC hZ zc10 h (by decide) t_849 (fun _ h9 => h9) d_AckBookModel_comeIn_208 (fun r1 h => ?_)
  refine lv_iload_n hC.1 hC.2.1 d_AckBookModel_comeIn_211 rfl (lv_at hl 1 rfl) ?_
  refine x_ldI hC hZ h d_AckBookModel_comeIn_212 (fun v2 h => ?_)
  refine lv_bipush (v := (64 : Int32)) hC.1 hC.2.1 d_AckBookModel_comeIn_213 (by decide) ?_
  refine lv_icmp_le (tgt := 244) hC.1 hC.2.1 d_AckBookModel_comeIn_215 (by decide) (fun hc => ?_) (fun hc => ?_)
  · have h := z_ifp hc h
    exact x_vret hC hRc hRs hZ hr h d_AckBookModel_comeIn_244
  · have h := z_ifn hc h
    refine x_aload_n hC d_AckBookModel_comeIn_218 rfl (lv_at hl 0 rfl) ?_
    refine x_getR hC hZ zc10 h (by decide) t_852 (fun _ h9 => h9) d_AckBookModel_comeIn_219 (fun r3 h => ?_)
    refine lv_iload_n hC.1 hC.2.1 d_AckBookModel_comeIn_222 rfl (lv_at hl 1 rfl) ?_
    refine x_aload_n hC d_AckBookModel_comeIn_223 rfl (lv_at hl 0 rfl) ?_
    refine x_getR hC hZ zc10 h (by decide) t_851 (fun _ h9 => h9) d_AckBookModel_comeIn_224 (fun r4 h => ?_)
    refine lv_bipush (v := (65 : Int32)) hC.1 hC.2.1 d_AckBookModel_comeIn_227 (by decide) ?_
    refine lv_iload_n hC.1 hC.2.1 d_AckBookModel_comeIn_229 rfl (lv_at hl 1 rfl) ?_
    refine lv_imul hC.1 hC.2.1 d_AckBookModel_comeIn_230 ?_
    refine x_ldL hC hZ h d_AckBookModel_comeIn_231 (fun v5 h => ?_)
    refine lv_lconst (v := (1 : Int64)) hC.1 hC.2.1 d_AckBookModel_comeIn_232 (by decide) ?_
    refine lv_ladd hC.1 hC.2.1 d_AckBookModel_comeIn_233 ?_
    refine x_stL hC hZ h d_AckBookModel_comeIn_234 (fun w H locs hZ h => ?_)
    refine x_aload_n hC d_AckBookModel_comeIn_235 rfl (lv_at hl 0 rfl) ?_
    refine lv_iload_n hC.1 hC.2.1 d_AckBookModel_comeIn_236 rfl (lv_at hl 1 rfl) ?_
    refine lv_bipush (v := (65 : Int32)) hC.1 hC.2.1 d_AckBookModel_comeIn_237 (by decide) ?_
    refine lv_iload_n hC.1 hC.2.1 d_AckBookModel_comeIn_239 rfl (lv_at hl 1 rfl) ?_
    refine lv_imul hC.1 hC.2.1 d_AckBookModel_comeIn_240 ?_
    obtain ⟨a_, fs_, eo_, h⟩ := z_this_spec h
    obtain ⟨w1_, o1_, hF_, ha_⟩ := z_cV_spec h
    refine x_goes hC hRc hRs hFr ha_ (z_goV (As := [.int xL1, .int ((65 : Int32) * xL1)]) hC hZ zc10 eo_ (k_AckBookModel_takeOut hT hfl hE _ _ hF_) t_1066 t_1068 ts_AckBookModel_takeOut t_12 t_1069 ⟨by decide, by decide, (by decide +kernel : (parseMethodDescriptor y_AckBookModel_takeOut.desc).map (fun d => d.parameters.length) = some 2)⟩ (by rw [hRt.1]; decide) (by rw [hRt.2]; decide) hl.1 rfl (by first | exact Nat.le_of_ble_eq_true rfl | simp [z_rfc, z_ci, z_cj]) d_AckBookModel_comeIn_241) (fun v_ hv H locs cells slots hZ => ?_)
    obtain ⟨rfl, h⟩ := hv
    generalize w1_ = w at h hZ
    exact x_vret hC hRc hRs hZ hr h d_AckBookModel_comeIn_244
def q_AckBookModel_comeIn_159 (F X : Nat) (J : Option Nat → Int32 → Int64 → Int32 → zW → zR) (rL0 : Option Nat) (xL1 : Int32) (yL2 : Int64) (xL4 : Int32) (w : zW) : zR :=
  if xL4 ≤ ((65 : Int32) * xL1) then (
    q_AckBookModel_comeIn_207 F X J rL0 xL1 w)
  else (
    z_getR w 10 32 rL0 fun r7 =>
    z_ldL w r7 (xL4 - (1 : Int32)) fun v8 =>
    if (lg_cmp v8 (yL2 - (1 : Int64))) = 0 then (
      z_getR w 10 32 rL0 fun r9 =>
      z_getR w 10 32 rL0 fun r10 =>
      z_ldL w r10 xL4 fun v11 =>
      z_stL w r9 (xL4 - (1 : Int32)) v11 fun w =>
      z_this w 10 rL0 <|
      z_cV (f_AckBookModel_takeOut F X rL0 xL1 xL4 w) fun w =>
      q_AckBookModel_comeIn_207 F X J rL0 xL1 w)
    else (
      q_AckBookModel_comeIn_207 F X J rL0 xL1 w))
set_option maxHeartbeats 4000000 in
set_option maxRecDepth 100000 in
theorem kq_AckBookModel_comeIn_159 {b0 : Nat} {H0 : Heap} {D : va_G} {vu vs : Value} {X M : Nat} {l : Launch} (hT : z_TB (zGG b0 H0 D vu vs X M)) (hfl : l.flags = pinnedFlags ++ [noTraceFlag]) (hE : vu.isRef = true ∧ vs.isRef = true) {p : Program} {e : Env} {R : Room} {s : State} {m : MethodId} {args : Array Value} {below : List Frame} {meth : Method} {c : Code} {w0 : zW} {F : Nat} (hC : z_C (zGG b0 H0 D vu vs X M) p e s m meth c c_AckBookModel_comeIn 5 y_AckBookModel_comeIn.cls) (hr : meth.sig.returnType = (none)) (hRc : R.cells = w0.2.1) (hRs : R.slots = w0.2.2.1) (hFr : c.exceptionTable.toList = []) (hRt : R.frames = 1 ∧ R.locals = 23) (hnm : meth.name = y_AckBookModel_comeIn.name) {J : Option Nat → Int32 → Int64 → Int32 → zW → zR} (hJ : (∀ (rL0 : Option Nat) (xL1 : Int32) (yL2 : Int64) (xL4 : Int32) (w : zW) (res : zO × zW), J rL0 xL1 yL2 xL4 w = some res → ∀ (H : Heap) (locs : List Loc) (cells slots : Nat) (ls : Array Slot), z_Z (zGG b0 H0 D vu vs X M) R s w H locs cells slots → lv_has ls 5 [(0, va_rf rL0), (1, .int xL1), (2, .long yL2), (4, .int xL4)] → W p l e R s m args below meth c H locs cells slots (z_Q (zGG b0 H0 D vu vs X M) below s w0 res) (F0 m 13 ls []))) (rL0 : Option Nat) (xL1 : Int32) (yL2 : Int64) (xL4 : Int32) (w : zW) (res : zO × zW) (h : q_AckBookModel_comeIn_159 F X J rL0 xL1 yL2 xL4 w = some res) (H : Heap) (locs : List Loc) (cells slots : Nat) (ls : Array Slot) (hZ : z_Z (zGG b0 H0 D vu vs X M) R s w H locs cells slots) (hl : lv_has ls 5 [(0, va_rf rL0), (1, .int xL1), (2, .long yL2), (4, .int xL4)]) : W p l e R s m args below meth c H locs cells slots (z_Q (zGG b0 H0 D vu vs X M) below s w0 res) (F0 m 159 ls []) := by
  unfold q_AckBookModel_comeIn_159 at h
  refine lv_iload hC.1 hC.2.1 d_AckBookModel_comeIn_159 (lv_at hl 3 rfl) ?_
  refine lv_bipush (v := (65 : Int32)) hC.1 hC.2.1 d_AckBookModel_comeIn_161 (by decide) ?_
  refine lv_iload_n hC.1 hC.2.1 d_AckBookModel_comeIn_163 rfl (lv_at hl 1 rfl) ?_
  refine lv_imul hC.1 hC.2.1 d_AckBookModel_comeIn_164 ?_
  refine lv_icmp_le (tgt := 207) hC.1 hC.2.1 d_AckBookModel_comeIn_165 (by decide) (fun hc => ?_) (fun hc => ?_)
  · have h := z_ifp hc h
    exact kq_AckBookModel_comeIn_207 hT hfl hE hC hr hRc hRs hFr hRt hnm hJ _ _ _ _ h _ _ _ _ _ hZ (lv_sub hl [0, 1] rfl)
  · have h := z_ifn hc h
    refine x_aload_n hC d_AckBookModel_comeIn_168 rfl (lv_at hl 0 rfl) ?_
    refine x_getR hC hZ zc10 h (by decide) t_851 (fun _ h9 => h9) d_AckBookModel_comeIn_169 (fun r7 h => ?_)
    refine lv_iload hC.1 hC.2.1 d_AckBookModel_comeIn_172 (lv_at hl 3 rfl) ?_
    refine lv_iconst (v := (1 : Int32)) hC.1 hC.2.1 d_AckBookModel_comeIn_174 (by decide) ?_
    refine lv_isub hC.1 hC.2.1 d_AckBookModel_comeIn_175 ?_
    refine x_ldL hC hZ h d_AckBookModel_comeIn_176 (fun v8 h => ?_)
    refine lv_lload_n hC.1 hC.2.1 d_AckBookModel_comeIn_177 rfl (lv_at hl 2 rfl) ?_
    refine lv_lconst (v := (1 : Int64)) hC.1 hC.2.1 d_AckBookModel_comeIn_178 (by decide) ?_
    refine lv_lsub hC.1 hC.2.1 d_AckBookModel_comeIn_179 ?_
    refine W.lcmp hC.1 hC.2.1 d_AckBookModel_comeIn_180 ?_
    refine lv_if_ne (tgt := 207) hC.1 hC.2.1 d_AckBookModel_comeIn_181 (by decide) (fun hc => ?_) (fun hc => ?_)
    · have h := z_ifn hc h
      exact kq_AckBookModel_comeIn_207 hT hfl hE hC hr hRc hRs hFr hRt hnm hJ _ _ _ _ h _ _ _ _ _ hZ (lv_sub hl [0, 1] rfl)
    · have h := z_ifp hc h
      refine x_aload_n hC d_AckBookModel_comeIn_184 rfl (lv_at hl 0 rfl) ?_
      refine x_getR hC hZ zc10 h (by decide) t_851 (fun _ h9 => h9) d_AckBookModel_comeIn_185 (fun r9 h => ?_)
      refine lv_iload hC.1 hC.2.1 d_AckBookModel_comeIn_188 (lv_at hl 3 rfl) ?_
      refine lv_iconst (v := (1 : Int32)) hC.1 hC.2.1 d_AckBookModel_comeIn_190 (by decide) ?_
      refine lv_isub hC.1 hC.2.1 d_AckBookModel_comeIn_191 ?_
      refine x_aload_n hC d_AckBookModel_comeIn_192 rfl (lv_at hl 0 rfl) ?_
      refine x_getR hC hZ zc10 h (by decide) t_851 (fun _ h9 => h9) d_AckBookModel_comeIn_193 (fun r10 h => ?_)
      refine lv_iload hC.1 hC.2.1 d_AckBookModel_comeIn_196 (lv_at hl 3 rfl) ?_
      refine x_ldL hC hZ h d_AckBookModel_comeIn_198 (fun v11 h => ?_)
      refine x_stL hC hZ h d_AckBookModel_comeIn_199 (fun w H locs hZ h => ?_)
      refine x_aload_n hC d_AckBookModel_comeIn_200 rfl (lv_at hl 0 rfl) ?_
      refine lv_iload_n hC.1 hC.2.1 d_AckBookModel_comeIn_201 rfl (lv_at hl 1 rfl) ?_
      refine lv_iload hC.1 hC.2.1 d_AckBookModel_comeIn_202 (lv_at hl 3 rfl) ?_
      obtain ⟨a_, fs_, eo_, h⟩ := z_this_spec h
      obtain ⟨w1_, o1_, hF_, ha_⟩ := z_cV_spec h
      refine x_goes hC hRc hRs hFr ha_ (z_goV (As := [.int xL1, .int xL4]) hC hZ zc10 eo_ (k_AckBookModel_takeOut hT hfl hE _ _ hF_) t_1066 t_1068 ts_AckBookModel_takeOut t_12 t_1069 ⟨by decide, by decide, (by decide +kernel : (parseMethodDescriptor y_AckBookModel_takeOut.desc).map (fun d => d.parameters.length) = some 2)⟩ (by rw [hRt.1]; decide) (by rw [hRt.2]; decide) hl.1 rfl (by first | exact Nat.le_of_ble_eq_true rfl | simp [z_rfc, z_ci, z_cj]) d_AckBookModel_comeIn_204) (fun v_ hv H locs cells slots hZ => ?_)
      obtain ⟨rfl, h⟩ := hv
      generalize w1_ = w at h hZ
      exact kq_AckBookModel_comeIn_207 hT hfl hE hC hr hRc hRs hFr hRt hnm hJ _ _ _ _ h _ _ _ _ _ hZ (lv_sub hl [0, 1] rfl)
def q_AckBookModel_comeIn_74 (F X : Nat) (J : Option Nat → Int32 → Int64 → Int32 → zW → zR) (rL0 : Option Nat) (xL1 : Int32) (yL2 : Int64) (xL4 : Int32) (w : zW) : zR :=
  z_getR w 10 31 rL0 fun r13 =>
  z_stL w r13 xL4 yL2 fun w =>
  z_getR w 10 32 rL0 fun r14 =>
  z_stL w r14 xL4 yL2 fun w =>
  z_getR w 10 30 rL0 fun r15 =>
  z_ldI w .int r15 xL1 fun v16 =>
  z_stI w r15 xL1 (v16 + (1 : Int32)) fun w =>
  z_getR w 10 30 rL0 fun r17 =>
  z_ldI w .int r17 xL1 fun v18 =>
  if (((65 : Int32) * xL1) + v18) ≤ (xL4 + (1 : Int32)) then (
    q_AckBookModel_comeIn_159 F X J rL0 xL1 yL2 xL4 w)
  else (
    z_getR w 10 31 rL0 fun r19 =>
    z_ldL w r19 (xL4 + (1 : Int32)) fun v20 =>
    if (lg_cmp v20 (yL2 + (1 : Int64))) = 0 then (
      z_getR w 10 32 rL0 fun r21 =>
      z_getR w 10 32 rL0 fun r22 =>
      z_ldL w r22 (xL4 + (1 : Int32)) fun v23 =>
      z_stL w r21 xL4 v23 fun w =>
      z_this w 10 rL0 <|
      z_cV (f_AckBookModel_takeOut F X rL0 xL1 (xL4 + (1 : Int32)) w) fun w =>
      q_AckBookModel_comeIn_159 F X J rL0 xL1 yL2 xL4 w)
    else (
      q_AckBookModel_comeIn_159 F X J rL0 xL1 yL2 xL4 w))
set_option maxHeartbeats 4000000 in
set_option maxRecDepth 100000 in
theorem kq_AckBookModel_comeIn_74 {b0 : Nat} {H0 : Heap} {D : va_G} {vu vs : Value} {X M : Nat} {l : Launch} (hT : z_TB (zGG b0 H0 D vu vs X M)) (hfl : l.flags = pinnedFlags ++ [noTraceFlag]) (hE : vu.isRef = true ∧ vs.isRef = true) {p : Program} {e : Env} {R : Room} {s : State} {m : MethodId} {args : Array Value} {below : List Frame} {meth : Method} {c : Code} {w0 : zW} {F : Nat} (hC : z_C (zGG b0 H0 D vu vs X M) p e s m meth c c_AckBookModel_comeIn 5 y_AckBookModel_comeIn.cls) (hr : meth.sig.returnType = (none)) (hRc : R.cells = w0.2.1) (hRs : R.slots = w0.2.2.1) (hFr : c.exceptionTable.toList = []) (hRt : R.frames = 1 ∧ R.locals = 23) (hnm : meth.name = y_AckBookModel_comeIn.name) {J : Option Nat → Int32 → Int64 → Int32 → zW → zR} (hJ : (∀ (rL0 : Option Nat) (xL1 : Int32) (yL2 : Int64) (xL4 : Int32) (w : zW) (res : zO × zW), J rL0 xL1 yL2 xL4 w = some res → ∀ (H : Heap) (locs : List Loc) (cells slots : Nat) (ls : Array Slot), z_Z (zGG b0 H0 D vu vs X M) R s w H locs cells slots → lv_has ls 5 [(0, va_rf rL0), (1, .int xL1), (2, .long yL2), (4, .int xL4)] → W p l e R s m args below meth c H locs cells slots (z_Q (zGG b0 H0 D vu vs X M) below s w0 res) (F0 m 13 ls []))) (rL0 : Option Nat) (xL1 : Int32) (yL2 : Int64) (xL4 : Int32) (w : zW) (res : zO × zW) (h : q_AckBookModel_comeIn_74 F X J rL0 xL1 yL2 xL4 w = some res) (H : Heap) (locs : List Loc) (cells slots : Nat) (ls : Array Slot) (hZ : z_Z (zGG b0 H0 D vu vs X M) R s w H locs cells slots) (hl : lv_has ls 5 [(0, va_rf rL0), (1, .int xL1), (2, .long yL2), (4, .int xL4)]) : W p l e R s m args below meth c H locs cells slots (z_Q (zGG b0 H0 D vu vs X M) below s w0 res) (F0 m 74 ls []) := by
  unfold q_AckBookModel_comeIn_74 at h
  refine x_aload_n hC d_AckBookModel_comeIn_74 rfl (lv_at hl 0 rfl) ?_
  refine x_getR hC hZ zc10 h (by decide) t_850 (fun _ h9 => h9) d_AckBookModel_comeIn_75 (fun r13 h => ?_)
  refine lv_iload hC.1 hC.2.1 d_AckBookModel_comeIn_78 (lv_at hl 3 rfl) ?_
  refine lv_lload_n hC.1 hC.2.1 d_AckBookModel_comeIn_80 rfl (lv_at hl 2 rfl) ?_
  refine x_stL hC hZ h d_AckBookModel_comeIn_81 (fun w H locs hZ h => ?_)
  refine x_aload_n hC d_AckBookModel_comeIn_82 rfl (lv_at hl 0 rfl) ?_
  refine x_getR hC hZ zc10 h (by decide) t_851 (fun _ h9 => h9) d_AckBookModel_comeIn_83 (fun r14 h => ?_)
  refine lv_iload hC.1 hC.2.1 d_AckBookModel_comeIn_86 (lv_at hl 3 rfl) ?_
  refine lv_lload_n hC.1 hC.2.1 d_AckBookModel_comeIn_88 rfl (lv_at hl 2 rfl) ?_
  refine x_stL hC hZ h d_AckBookModel_comeIn_89 (fun w H locs hZ h => ?_)
  refine x_aload_n hC d_AckBookModel_comeIn_90 rfl (lv_at hl 0 rfl) ?_
  refine x_getR hC hZ zc10 h (by decide) t_849 (fun _ h9 => h9) d_AckBookModel_comeIn_91 (fun r15 h => ?_)
  refine lv_iload_n hC.1 hC.2.1 d_AckBookModel_comeIn_94 rfl (lv_at hl 1 rfl) ?_
  refine lv_dup2_11 hC.1 hC.2.1 d_AckBookModel_comeIn_95 rfl (z_rfc _) ?_
  refine x_ldI hC hZ h d_AckBookModel_comeIn_96 (fun v16 h => ?_)
  refine lv_iconst (v := (1 : Int32)) hC.1 hC.2.1 d_AckBookModel_comeIn_97 (by decide) ?_
  refine lv_iadd hC.1 hC.2.1 d_AckBookModel_comeIn_98 ?_
  refine x_stI hC hZ h d_AckBookModel_comeIn_99 (fun w H locs hZ h => ?_)
  refine lv_iload hC.1 hC.2.1 d_AckBookModel_comeIn_100 (lv_at hl 3 rfl) ?_
  refine lv_iconst (v := (1 : Int32)) hC.1 hC.2.1 d_AckBookModel_comeIn_102 (by decide) ?_
  refine lv_iadd hC.1 hC.2.1 d_AckBookModel_comeIn_103 ?_
  refine lv_bipush (v := (65 : Int32)) hC.1 hC.2.1 d_AckBookModel_comeIn_104 (by decide) ?_
  refine lv_iload_n hC.1 hC.2.1 d_AckBookModel_comeIn_106 rfl (lv_at hl 1 rfl) ?_
  refine lv_imul hC.1 hC.2.1 d_AckBookModel_comeIn_107 ?_
  refine x_aload_n hC d_AckBookModel_comeIn_108 rfl (lv_at hl 0 rfl) ?_
  refine x_getR hC hZ zc10 h (by decide) t_849 (fun _ h9 => h9) d_AckBookModel_comeIn_109 (fun r17 h => ?_)
  refine lv_iload_n hC.1 hC.2.1 d_AckBookModel_comeIn_112 rfl (lv_at hl 1 rfl) ?_
  refine x_ldI hC hZ h d_AckBookModel_comeIn_113 (fun v18 h => ?_)
  refine lv_iadd hC.1 hC.2.1 d_AckBookModel_comeIn_114 ?_
  refine lv_icmp_ge (tgt := 159) hC.1 hC.2.1 d_AckBookModel_comeIn_115 (by decide) (fun hc => ?_) (fun hc => ?_)
  · have h := z_ifp hc h
    exact kq_AckBookModel_comeIn_159 hT hfl hE hC hr hRc hRs hFr hRt hnm hJ _ _ _ _ _ _ h _ _ _ _ _ hZ (lv_sub hl [0, 1, 2, 3] rfl)
  · have h := z_ifn hc h
    refine x_aload_n hC d_AckBookModel_comeIn_118 rfl (lv_at hl 0 rfl) ?_
    refine x_getR hC hZ zc10 h (by decide) t_850 (fun _ h9 => h9) d_AckBookModel_comeIn_119 (fun r19 h => ?_)
    refine lv_iload hC.1 hC.2.1 d_AckBookModel_comeIn_122 (lv_at hl 3 rfl) ?_
    refine lv_iconst (v := (1 : Int32)) hC.1 hC.2.1 d_AckBookModel_comeIn_124 (by decide) ?_
    refine lv_iadd hC.1 hC.2.1 d_AckBookModel_comeIn_125 ?_
    refine x_ldL hC hZ h d_AckBookModel_comeIn_126 (fun v20 h => ?_)
    refine lv_lload_n hC.1 hC.2.1 d_AckBookModel_comeIn_127 rfl (lv_at hl 2 rfl) ?_
    refine lv_lconst (v := (1 : Int64)) hC.1 hC.2.1 d_AckBookModel_comeIn_128 (by decide) ?_
    refine lv_ladd hC.1 hC.2.1 d_AckBookModel_comeIn_129 ?_
    refine W.lcmp hC.1 hC.2.1 d_AckBookModel_comeIn_130 ?_
    refine lv_if_ne (tgt := 159) hC.1 hC.2.1 d_AckBookModel_comeIn_131 (by decide) (fun hc => ?_) (fun hc => ?_)
    · have h := z_ifn hc h
      exact kq_AckBookModel_comeIn_159 hT hfl hE hC hr hRc hRs hFr hRt hnm hJ _ _ _ _ _ _ h _ _ _ _ _ hZ (lv_sub hl [0, 1, 2, 3] rfl)
    · have h := z_ifp hc h
      refine x_aload_n hC d_AckBookModel_comeIn_134 rfl (lv_at hl 0 rfl) ?_
      refine x_getR hC hZ zc10 h (by decide) t_851 (fun _ h9 => h9) d_AckBookModel_comeIn_135 (fun r21 h => ?_)
      refine lv_iload hC.1 hC.2.1 d_AckBookModel_comeIn_138 (lv_at hl 3 rfl) ?_
      refine x_aload_n hC d_AckBookModel_comeIn_140 rfl (lv_at hl 0 rfl) ?_
      refine x_getR hC hZ zc10 h (by decide) t_851 (fun _ h9 => h9) d_AckBookModel_comeIn_141 (fun r22 h => ?_)
      refine lv_iload hC.1 hC.2.1 d_AckBookModel_comeIn_144 (lv_at hl 3 rfl) ?_
      refine lv_iconst (v := (1 : Int32)) hC.1 hC.2.1 d_AckBookModel_comeIn_146 (by decide) ?_
      refine lv_iadd hC.1 hC.2.1 d_AckBookModel_comeIn_147 ?_
      refine x_ldL hC hZ h d_AckBookModel_comeIn_148 (fun v23 h => ?_)
      refine x_stL hC hZ h d_AckBookModel_comeIn_149 (fun w H locs hZ h => ?_)
      refine x_aload_n hC d_AckBookModel_comeIn_150 rfl (lv_at hl 0 rfl) ?_
      refine lv_iload_n hC.1 hC.2.1 d_AckBookModel_comeIn_151 rfl (lv_at hl 1 rfl) ?_
      refine lv_iload hC.1 hC.2.1 d_AckBookModel_comeIn_152 (lv_at hl 3 rfl) ?_
      refine lv_iconst (v := (1 : Int32)) hC.1 hC.2.1 d_AckBookModel_comeIn_154 (by decide) ?_
      refine lv_iadd hC.1 hC.2.1 d_AckBookModel_comeIn_155 ?_
      obtain ⟨a_, fs_, eo_, h⟩ := z_this_spec h
      obtain ⟨w1_, o1_, hF_, ha_⟩ := z_cV_spec h
      refine x_goes hC hRc hRs hFr ha_ (z_goV (As := [.int xL1, .int (xL4 + (1 : Int32))]) hC hZ zc10 eo_ (k_AckBookModel_takeOut hT hfl hE _ _ hF_) t_1066 t_1068 ts_AckBookModel_takeOut t_12 t_1069 ⟨by decide, by decide, (by decide +kernel : (parseMethodDescriptor y_AckBookModel_takeOut.desc).map (fun d => d.parameters.length) = some 2)⟩ (by rw [hRt.1]; decide) (by rw [hRt.2]; decide) hl.1 rfl (by first | exact Nat.le_of_ble_eq_true rfl | simp [z_rfc, z_ci, z_cj]) d_AckBookModel_comeIn_156) (fun v_ hv H locs cells slots hZ => ?_)
      obtain ⟨rfl, h⟩ := hv
      generalize w1_ = w at h hZ
      exact kq_AckBookModel_comeIn_159 hT hfl hE hC hr hRc hRs hFr hRt hnm hJ _ _ _ _ _ _ h _ _ _ _ _ hZ (lv_sub hl [0, 1, 2, 3] rfl)
def j_AckBookModel_comeIn (F X : Nat) : Nat → Option Nat → Int32 → Int64 → Int32 → zW → zR
  | 0, _, _, _, _, _ => none
  | N + 1, rL0, xL1, yL2, xL4, w =>
    if xL4 ≤ ((65 : Int32) * xL1) then (
      q_AckBookModel_comeIn_74 F X (j_AckBookModel_comeIn F X N) rL0 xL1 yL2 xL4 w)
    else (
      z_getR w 10 31 rL0 fun r25 =>
      z_ldL w r25 (xL4 - (1 : Int32)) fun v26 =>
      if (lg_cmp v26 yL2) ≤ 0 then (
        q_AckBookModel_comeIn_74 F X (j_AckBookModel_comeIn F X N) rL0 xL1 yL2 xL4 w)
      else (
        z_getR w 10 31 rL0 fun r27 =>
        z_getR w 10 31 rL0 fun r28 =>
        z_ldL w r28 (xL4 - (1 : Int32)) fun v29 =>
        z_stL w r27 xL4 v29 fun w =>
        z_getR w 10 32 rL0 fun r30 =>
        z_getR w 10 32 rL0 fun r31 =>
        z_ldL w r31 (xL4 - (1 : Int32)) fun v32 =>
        z_stL w r30 xL4 v32 fun w =>
        (j_AckBookModel_comeIn F X N) rL0 xL1 yL2 (xL4 + (-1 : Int32)) w))
set_option maxHeartbeats 4000000 in
set_option maxRecDepth 100000 in
theorem kj_AckBookModel_comeIn {b0 : Nat} {H0 : Heap} {D : va_G} {vu vs : Value} {X M : Nat} {l : Launch} (hT : z_TB (zGG b0 H0 D vu vs X M)) (hfl : l.flags = pinnedFlags ++ [noTraceFlag]) (hE : vu.isRef = true ∧ vs.isRef = true) {p : Program} {e : Env} {R : Room} {s : State} {m : MethodId} {args : Array Value} {below : List Frame} {meth : Method} {c : Code} {w0 : zW} {F : Nat} (hC : z_C (zGG b0 H0 D vu vs X M) p e s m meth c c_AckBookModel_comeIn 5 y_AckBookModel_comeIn.cls) (hr : meth.sig.returnType = (none)) (hRc : R.cells = w0.2.1) (hRs : R.slots = w0.2.2.1) (hFr : c.exceptionTable.toList = []) (hRt : R.frames = 1 ∧ R.locals = 23) (hnm : meth.name = y_AckBookModel_comeIn.name) : ∀ N : Nat, (∀ (rL0 : Option Nat) (xL1 : Int32) (yL2 : Int64) (xL4 : Int32) (w : zW) (res : zO × zW), j_AckBookModel_comeIn F X N rL0 xL1 yL2 xL4 w = some res → ∀ (H : Heap) (locs : List Loc) (cells slots : Nat) (ls : Array Slot), z_Z (zGG b0 H0 D vu vs X M) R s w H locs cells slots → lv_has ls 5 [(0, va_rf rL0), (1, .int xL1), (2, .long yL2), (4, .int xL4)] → W p l e R s m args below meth c H locs cells slots (z_Q (zGG b0 H0 D vu vs X M) below s w0 res) (F0 m 13 ls [])) := by
  intro N
  induction N with
  | zero =>
    intro rL0 xL1 yL2 xL4 w res h
    rw [j_AckBookModel_comeIn] at h
    cases h
  | succ N ih =>
    intro rL0 xL1 yL2 xL4 w res h H locs cells slots ls hZ hl
    rw [j_AckBookModel_comeIn] at h
    refine lv_iload hC.1 hC.2.1 d_AckBookModel_comeIn_13 (lv_at hl 3 rfl) ?_
    refine lv_bipush (v := (65 : Int32)) hC.1 hC.2.1 d_AckBookModel_comeIn_15 (by decide) ?_
    refine lv_iload_n hC.1 hC.2.1 d_AckBookModel_comeIn_17 rfl (lv_at hl 1 rfl) ?_
    refine lv_imul hC.1 hC.2.1 d_AckBookModel_comeIn_18 ?_
    refine lv_icmp_le (tgt := 74) hC.1 hC.2.1 d_AckBookModel_comeIn_19 (by decide) (fun hc => ?_) (fun hc => ?_)
    · have h := z_ifp hc h
      exact kq_AckBookModel_comeIn_74 hT hfl hE hC hr hRc hRs hFr hRt hnm ih _ _ _ _ _ _ h _ _ _ _ _ hZ (lv_sub hl [0, 1, 2, 3] rfl)
    · have h := z_ifn hc h
      refine x_aload_n hC d_AckBookModel_comeIn_22 rfl (lv_at hl 0 rfl) ?_
      refine x_getR hC hZ zc10 h (by decide) t_850 (fun _ h9 => h9) d_AckBookModel_comeIn_23 (fun r25 h => ?_)
      refine lv_iload hC.1 hC.2.1 d_AckBookModel_comeIn_26 (lv_at hl 3 rfl) ?_
      refine lv_iconst (v := (1 : Int32)) hC.1 hC.2.1 d_AckBookModel_comeIn_28 (by decide) ?_
      refine lv_isub hC.1 hC.2.1 d_AckBookModel_comeIn_29 ?_
      refine x_ldL hC hZ h d_AckBookModel_comeIn_30 (fun v26 h => ?_)
      refine lv_lload_n hC.1 hC.2.1 d_AckBookModel_comeIn_31 rfl (lv_at hl 2 rfl) ?_
      refine W.lcmp hC.1 hC.2.1 d_AckBookModel_comeIn_32 ?_
      refine lv_if_le (tgt := 74) hC.1 hC.2.1 d_AckBookModel_comeIn_33 (by decide) (fun hc => ?_) (fun hc => ?_)
      · have h := z_ifp hc h
        exact kq_AckBookModel_comeIn_74 hT hfl hE hC hr hRc hRs hFr hRt hnm ih _ _ _ _ _ _ h _ _ _ _ _ hZ (lv_sub hl [0, 1, 2, 3] rfl)
      · have h := z_ifn hc h
        refine x_aload_n hC d_AckBookModel_comeIn_36 rfl (lv_at hl 0 rfl) ?_
        refine x_getR hC hZ zc10 h (by decide) t_850 (fun _ h9 => h9) d_AckBookModel_comeIn_37 (fun r27 h => ?_)
        refine lv_iload hC.1 hC.2.1 d_AckBookModel_comeIn_40 (lv_at hl 3 rfl) ?_
        refine x_aload_n hC d_AckBookModel_comeIn_42 rfl (lv_at hl 0 rfl) ?_
        refine x_getR hC hZ zc10 h (by decide) t_850 (fun _ h9 => h9) d_AckBookModel_comeIn_43 (fun r28 h => ?_)
        refine lv_iload hC.1 hC.2.1 d_AckBookModel_comeIn_46 (lv_at hl 3 rfl) ?_
        refine lv_iconst (v := (1 : Int32)) hC.1 hC.2.1 d_AckBookModel_comeIn_48 (by decide) ?_
        refine lv_isub hC.1 hC.2.1 d_AckBookModel_comeIn_49 ?_
        refine x_ldL hC hZ h d_AckBookModel_comeIn_50 (fun v29 h => ?_)
        refine x_stL hC hZ h d_AckBookModel_comeIn_51 (fun w H locs hZ h => ?_)
        refine x_aload_n hC d_AckBookModel_comeIn_52 rfl (lv_at hl 0 rfl) ?_
        refine x_getR hC hZ zc10 h (by decide) t_851 (fun _ h9 => h9) d_AckBookModel_comeIn_53 (fun r30 h => ?_)
        refine lv_iload hC.1 hC.2.1 d_AckBookModel_comeIn_56 (lv_at hl 3 rfl) ?_
        refine x_aload_n hC d_AckBookModel_comeIn_58 rfl (lv_at hl 0 rfl) ?_
        refine x_getR hC hZ zc10 h (by decide) t_851 (fun _ h9 => h9) d_AckBookModel_comeIn_59 (fun r31 h => ?_)
        refine lv_iload hC.1 hC.2.1 d_AckBookModel_comeIn_62 (lv_at hl 3 rfl) ?_
        refine lv_iconst (v := (1 : Int32)) hC.1 hC.2.1 d_AckBookModel_comeIn_64 (by decide) ?_
        refine lv_isub hC.1 hC.2.1 d_AckBookModel_comeIn_65 ?_
        refine x_ldL hC hZ h d_AckBookModel_comeIn_66 (fun v32 h => ?_)
        refine x_stL hC hZ h d_AckBookModel_comeIn_67 (fun w H locs hZ h => ?_)
        refine lv_iinc (lv' := [(4, .int (xL4 + (-1 : Int32))), (0, va_rf rL0), (1, .int xL1), (2, .long yL2)]) hC.1 hC.2.1 d_AckBookModel_comeIn_68 hl (k := 3) rfl rfl (by decide) (by first | rfl | simp [z_rfc, z_ci, z_cj]) (fun ls hl => ?_)
        refine lv_goto (tgt := 13) hC.1 hC.2.1 d_AckBookModel_comeIn_71 (by decide) ?_
        exact ih _ _ _ _ _ _ h _ _ _ _ _ hZ (lv_sub hl [1, 2, 3, 0] rfl)
def f_AckBookModel_comeIn (F X : Nat) (a0 : Option Nat) (pI1 : Int32) (pJ2 : Int64) (w : zW) : zR :=
  z_getR w 10 30 a0 fun r33 =>
  z_ldI w .int r33 pI1 fun v34 =>
  (j_AckBookModel_comeIn F X F) a0 pI1 pJ2 (((65 : Int32) * pI1) + v34) w
set_option maxHeartbeats 4000000 in
set_option maxRecDepth 100000 in
theorem k_AckBookModel_comeIn {b0 : Nat} {H0 : Heap} {D : va_G} {vu vs : Value} {X M : Nat} {l : Launch} (hT : z_TB (zGG b0 H0 D vu vs X M)) (hfl : l.flags = pinnedFlags ++ [noTraceFlag]) (hE : vu.isRef = true ∧ vs.isRef = true) {a0 : Option Nat} {pI1 : Int32} {pJ2 : Int64} (F : Nat) {w : zW} (res : zO × zW) (h : f_AckBookModel_comeIn F X a0 pI1 pJ2 w = some res) : z_Ct (zGG b0 H0 D vu vs X M) l y_AckBookModel_comeIn (.code y_AckBookModel_comeIn c_AckBookModel_comeIn 5 (none)) 1 23 [va_rf a0, .int pI1, .long pJ2] w res := by
  refine z_ct hT hfl (by decide) (by simp only [z_sl_i, z_sl_j, z_sl_r, z_sl_n]; decide) ?_
  intro p e R s m args below meth c hC hr hRc hRs hRt hnm hFr H ls hZ hl
  simp only [z_la_i, z_la_j, z_la_r, z_la_n] at hl
  have hl : lv_has ls 5 [(0, va_rf a0), (1, .int pI1), (2, .long pJ2)] := hl
  unfold f_AckBookModel_comeIn at h
  refine lv_bipush (v := (65 : Int32)) hC.1 hC.2.1 d_AckBookModel_comeIn_0 (by decide) ?_
  refine lv_iload_n hC.1 hC.2.1 d_AckBookModel_comeIn_2 rfl (lv_at hl 1 rfl) ?_
  refine lv_imul hC.1 hC.2.1 d_AckBookModel_comeIn_3 ?_
  refine x_aload_n hC d_AckBookModel_comeIn_4 rfl (lv_at hl 0 rfl) ?_
  refine x_getR hC hZ zc10 h (by decide) t_849 (fun _ h9 => h9) d_AckBookModel_comeIn_5 (fun r33 h => ?_)
  refine lv_iload_n hC.1 hC.2.1 d_AckBookModel_comeIn_8 rfl (lv_at hl 1 rfl) ?_
  refine x_ldI hC hZ h d_AckBookModel_comeIn_9 (fun v34 h => ?_)
  refine lv_iadd hC.1 hC.2.1 d_AckBookModel_comeIn_10 ?_
  refine lv_istore (i := 4) (lv' := [(4, .int (((65 : Int32) * pI1) + v34)), (0, va_rf a0), (1, .int pI1), (2, .long pJ2)]) hC.1 hC.2.1 d_AckBookModel_comeIn_11 hl (by decide) (by first | rfl | simp [z_rfc, z_ci, z_cj]) (fun ls hl => ?_)
  exact (kj_AckBookModel_comeIn hT hfl hE hC hr hRc hRs hFr hRt hnm F) _ _ _ _ _ _ h _ _ _ _ _ hZ (lv_sub hl [1, 2, 3, 0] rfl)
