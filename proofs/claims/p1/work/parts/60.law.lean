def q_AckBookLaw_law_1001 (F X : Nat) (xs : Nat → Int32) (L : Nat) (J : Option Nat → Option Nat → Option Nat → Int32 → zW → zR) (rL1 : Option Nat) (rL2 : Option Nat) (rL3 : Option Nat) (xL4 : Int32) (xL5 : Int32) (rS0 : Option Nat) (xS1 : Int32) (xS2 : Int32) (xS3 : Int32) (w : zW) : zR :=
  z_this w 10 rS0 <|
  z_cL (f_AckBookModel_range F X rS0 xS1 xS2 xS3 w) fun v2 w =>
  z_this w 10 rL2 <|
  z_cI (f_AckBookModel_thrown F X rL2 w) fun v4 w =>
  if v4 = xL5 then (
    if xL5 = 0 then (
      z_ldL w rL3 (0 : Int32) fun v5 =>
      if (lg_cmp v5 v2) = 0 then (
        J rL1 rL2 rL3 (xL4 + (5 : Int32)) w)
      else (
        some (.inl (some (.int (0 : Int32))), w)))
    else (
      J rL1 rL2 rL3 (xL4 + (5 : Int32)) w))
  else (
    some (.inl (some (.int (0 : Int32))), w))
set_option maxHeartbeats 4000000 in
set_option maxRecDepth 100000 in
theorem kq_AckBookLaw_law_1001 {b0 : Nat} {H0 : Heap} {D : va_G} {vu vs : Value} {X M : Nat} {l : Launch} (hT : z_TB (zGG b0 H0 D vu vs X M)) (hfl : l.flags = pinnedFlags ++ [noTraceFlag]) (hE : vu.isRef = true ∧ vs.isRef = true) {p : Program} {e : Env} {s : State} {m : MethodId} {below : List Frame} {meth : Method} {c : Code} {F bS L : Nat} {xs : Nat → Int32} (hC : z_C (zGG b0 H0 D vu vs X M) p e s m meth c code 8 R_law) (hr : meth.sig.returnType = ret) (hX : va_X bS L xs s H0 ∧ bS < b0) (hB : s.heap.size ≤ b0) {J : Option Nat → Option Nat → Option Nat → Int32 → zW → zR} (hJ : (∀ (rL1 : Option Nat) (rL2 : Option Nat) (rL3 : Option Nat) (xL4 : Int32) (w : zW) (wE : zW), J rL1 rL2 rL3 xL4 w = some (.inl (some (.int (1 : Int32))), wE) → ∀ (H : Heap) (locs : List Loc) (cells slots : Nat) (ls : Array Slot), z_Z (zGG b0 H0 D vu vs X M) room_1 s w H locs cells slots → lv_has ls 8 [(0, va_rf (some bS)), (1, va_rf rL1), (2, va_rf rL2), (3, va_rf rL3), (4, .int xL4)] → W p l e room_1 s m #[Value.ref bS] below meth c H locs cells slots (lw_Z below #[Value.ref bS] s) (F0 m 23 ls []))) (rL1 : Option Nat) (rL2 : Option Nat) (rL3 : Option Nat) (xL4 : Int32) (xL5 : Int32) (rS0 : Option Nat) (xS1 : Int32) (xS2 : Int32) (xS3 : Int32) (w : zW) (wE : zW) (h : q_AckBookLaw_law_1001 F X xs L J rL1 rL2 rL3 xL4 xL5 rS0 xS1 xS2 xS3 w = some (.inl (some (.int (1 : Int32))), wE)) (H : Heap) (locs : List Loc) (cells slots : Nat) (ls : Array Slot) (hZ : z_Z (zGG b0 H0 D vu vs X M) room_1 s w H locs cells slots) (hl : lv_has ls 8 [(0, va_rf (some bS)), (1, va_rf rL1), (2, va_rf rL2), (3, va_rf rL3), (4, .int xL4), (5, .int xL5)]) : W p l e room_1 s m #[Value.ref bS] below meth c H locs cells slots (lw_Z below #[Value.ref bS] s) (F0 m 1001 ls [.int xS3, .int xS2, .int xS1, va_rf rS0]) := by
  have hRt : room_1.frames = 12 ∧ room_1.locals = 458 := ⟨rfl, rfl⟩
  unfold q_AckBookLaw_law_1001 at h
  obtain ⟨a_, fs_, eo_, h⟩ := z_this_spec h
  obtain ⟨w1_, o1_, hF_, ha_⟩ := z_cL_spec h
  refine x_goesN ha_ (z_goV (As := [.int xS1, .int xS2, .int xS3]) hC hZ zc10 eo_ (k_AckBookModel_range hT hfl hE _ _ hF_) t_1078 t_1079 t_1080 t_12 t_1081 ⟨by decide, by decide, (by decide +kernel : (parseMethodDescriptor y_AckBookModel_range.desc).map (fun d => d.parameters.length) = some 3)⟩ (by rw [hRt.1]; decide) (by rw [hRt.2]; decide) hl.1 rfl (by first | exact Nat.le_of_ble_eq_true rfl | simp [z_rfc, z_ci, z_cj]) d_AckBookLaw_law_1001) (fun v_ hv H locs cells slots hZ => ?_)
  obtain ⟨v2, rfl, h⟩ := hv
  generalize w1_ = w at h hZ
  refine lv_lstore (i := 6) (lv' := [(6, .long v2), (0, va_rf (some bS)), (1, va_rf rL1), (2, va_rf rL2), (3, va_rf rL3), (4, .int xL4), (5, .int xL5)]) hC.1 hC.2.1 d_AckBookLaw_law_1004 hl (by decide) (by first | rfl | simp [z_rfc, z_ci, z_cj]) (fun ls hl => ?_)
  refine x_aload_n hC d_AckBookLaw_law_1006 rfl (lv_at hl 3 rfl) ?_
  obtain ⟨a_, fs_, eo_, h⟩ := z_this_spec h
  obtain ⟨w1_, o1_, hF_, ha_⟩ := z_cI_spec h
  refine x_goesN ha_ (z_goV (As := []) hC hZ zc10 eo_ (k_AckBookModel_thrown hT hfl hE _ _ hF_) t_936 t_937 t_938 t_12 t_939 ⟨by decide, by decide, (by decide +kernel : (parseMethodDescriptor y_AckBookModel_thrown.desc).map (fun d => d.parameters.length) = some 0)⟩ (by rw [hRt.1]; decide) (by rw [hRt.2]; decide) hl.1 rfl (by first | exact Nat.le_of_ble_eq_true rfl | simp [z_rfc, z_ci, z_cj]) d_AckBookLaw_law_1007) (fun v_ hv H locs cells slots hZ => ?_)
  obtain ⟨v4, rfl, h⟩ := hv
  generalize w1_ = w at h hZ
  refine lv_iload hC.1 hC.2.1 d_AckBookLaw_law_1010 (lv_at hl 6 rfl) ?_
  refine lv_icmp_eq (tgt := 1017) hC.1 hC.2.1 d_AckBookLaw_law_1012 (by decide) (fun hc => ?_) (fun hc => ?_)
  · have h := z_ifp hc h
    refine lv_iload hC.1 hC.2.1 d_AckBookLaw_law_1017 (lv_at hl 6 rfl) ?_
    refine lv_if_ne (tgt := 1033) hC.1 hC.2.1 d_AckBookLaw_law_1019 (by decide) (fun hc => ?_) (fun hc => ?_)
    · have h := z_ifn hc h
      refine lv_goto (tgt := 1159) hC.1 hC.2.1 d_AckBookLaw_law_1033 (by decide) ?_
      refine lv_iinc (lv' := [(4, .int (xL4 + (5 : Int32))), (6, .long v2), (0, va_rf (some bS)), (1, va_rf rL1), (2, va_rf rL2), (3, va_rf rL3), (5, .int xL5)]) hC.1 hC.2.1 d_AckBookLaw_law_1159 hl (k := 5) rfl rfl (by decide) (by first | rfl | simp [z_rfc, z_ci, z_cj]) (fun ls hl => ?_)
      refine lv_goto (tgt := 23) hC.1 hC.2.1 d_AckBookLaw_law_1162 (by decide) ?_
      exact hJ _ _ _ _ _ _ h _ _ _ _ _ hZ (lv_sub hl [2, 3, 4, 5, 0] rfl)
    · have h := z_ifp hc h
      refine x_aload_n hC d_AckBookLaw_law_1022 rfl (lv_at hl 4 rfl) ?_
      refine lv_iconst (v := (0 : Int32)) hC.1 hC.2.1 d_AckBookLaw_law_1023 (by decide) ?_
      refine x_ldL hC hZ h d_AckBookLaw_law_1024 (fun v5 h => ?_)
      refine lv_lload hC.1 hC.2.1 d_AckBookLaw_law_1025 (lv_at hl 0 rfl) ?_
      refine W.lcmp hC.1 hC.2.1 d_AckBookLaw_law_1027 ?_
      refine lv_if_eq (tgt := 1033) hC.1 hC.2.1 d_AckBookLaw_law_1028 (by decide) (fun hc => ?_) (fun hc => ?_)
      · have h := z_ifp hc h
        refine lv_goto (tgt := 1159) hC.1 hC.2.1 d_AckBookLaw_law_1033 (by decide) ?_
        refine lv_iinc (lv' := [(4, .int (xL4 + (5 : Int32))), (6, .long v2), (0, va_rf (some bS)), (1, va_rf rL1), (2, va_rf rL2), (3, va_rf rL3), (5, .int xL5)]) hC.1 hC.2.1 d_AckBookLaw_law_1159 hl (k := 5) rfl rfl (by decide) (by first | rfl | simp [z_rfc, z_ci, z_cj]) (fun ls hl => ?_)
        refine lv_goto (tgt := 23) hC.1 hC.2.1 d_AckBookLaw_law_1162 (by decide) ?_
        exact hJ _ _ _ _ _ _ h _ _ _ _ _ hZ (lv_sub hl [2, 3, 4, 5, 0] rfl)
      · have h := z_ifn hc h
        refine lv_iconst (v := (0 : Int32)) hC.1 hC.2.1 d_AckBookLaw_law_1031 (by decide) ?_
        exact (z_no0 h).elim
  · have h := z_ifn hc h
    refine lv_iconst (v := (0 : Int32)) hC.1 hC.2.1 d_AckBookLaw_law_1015 (by decide) ?_
    exact (z_no0 h).elim
def q_AckBookLaw_law_968 (F X : Nat) (xs : Nat → Int32) (L : Nat) (J : Option Nat → Option Nat → Option Nat → Int32 → zW → zR) (rL1 : Option Nat) (rL2 : Option Nat) (rL3 : Option Nat) (xL4 : Int32) (rS0 : Option Nat) (xS1 : Int32) (xS2 : Int32) (xS3 : Int32) (w : zW) : zR :=
  z_cI (f_AckBookLaw_range F X rS0 xS1 xS2 xS3 rL3 w) fun v7 w =>
  z_scr xs L (xL4 + (1 : Int32)) fun v8 =>
  z_scr xs L (xL4 + (2 : Int32)) fun v9 =>
  z_scr xs L (xL4 + (3 : Int32)) fun v10 =>
  if v10 = 0 then (
    q_AckBookLaw_law_1001 F X xs L J rL1 rL2 rL3 xL4 v7 rL2 v8 v9 (0 : Int32) w)
  else (
    q_AckBookLaw_law_1001 F X xs L J rL1 rL2 rL3 xL4 v7 rL2 v8 v9 (1 : Int32) w)
set_option maxHeartbeats 4000000 in
set_option maxRecDepth 100000 in
theorem kq_AckBookLaw_law_968 {b0 : Nat} {H0 : Heap} {D : va_G} {vu vs : Value} {X M : Nat} {l : Launch} (hT : z_TB (zGG b0 H0 D vu vs X M)) (hfl : l.flags = pinnedFlags ++ [noTraceFlag]) (hE : vu.isRef = true ∧ vs.isRef = true) {p : Program} {e : Env} {s : State} {m : MethodId} {below : List Frame} {meth : Method} {c : Code} {F bS L : Nat} {xs : Nat → Int32} (hC : z_C (zGG b0 H0 D vu vs X M) p e s m meth c code 8 R_law) (hr : meth.sig.returnType = ret) (hX : va_X bS L xs s H0 ∧ bS < b0) (hB : s.heap.size ≤ b0) {J : Option Nat → Option Nat → Option Nat → Int32 → zW → zR} (hJ : (∀ (rL1 : Option Nat) (rL2 : Option Nat) (rL3 : Option Nat) (xL4 : Int32) (w : zW) (wE : zW), J rL1 rL2 rL3 xL4 w = some (.inl (some (.int (1 : Int32))), wE) → ∀ (H : Heap) (locs : List Loc) (cells slots : Nat) (ls : Array Slot), z_Z (zGG b0 H0 D vu vs X M) room_1 s w H locs cells slots → lv_has ls 8 [(0, va_rf (some bS)), (1, va_rf rL1), (2, va_rf rL2), (3, va_rf rL3), (4, .int xL4)] → W p l e room_1 s m #[Value.ref bS] below meth c H locs cells slots (lw_Z below #[Value.ref bS] s) (F0 m 23 ls []))) (rL1 : Option Nat) (rL2 : Option Nat) (rL3 : Option Nat) (xL4 : Int32) (rS0 : Option Nat) (xS1 : Int32) (xS2 : Int32) (xS3 : Int32) (w : zW) (wE : zW) (h : q_AckBookLaw_law_968 F X xs L J rL1 rL2 rL3 xL4 rS0 xS1 xS2 xS3 w = some (.inl (some (.int (1 : Int32))), wE)) (H : Heap) (locs : List Loc) (cells slots : Nat) (ls : Array Slot) (hZ : z_Z (zGG b0 H0 D vu vs X M) room_1 s w H locs cells slots) (hl : lv_has ls 8 [(0, va_rf (some bS)), (1, va_rf rL1), (2, va_rf rL2), (3, va_rf rL3), (4, .int xL4)]) : W p l e room_1 s m #[Value.ref bS] below meth c H locs cells slots (lw_Z below #[Value.ref bS] s) (F0 m 968 ls [.int xS3, .int xS2, .int xS1, va_rf rS0]) := by
  have hRt : room_1.frames = 12 ∧ room_1.locals = 458 := ⟨rfl, rfl⟩
  unfold q_AckBookLaw_law_968 at h
  refine x_aload_n hC d_AckBookLaw_law_968 rfl (lv_at hl 3 rfl) ?_
  obtain ⟨w1_, o1_, hF_, ha_⟩ := z_cI_spec h
  refine x_goesN ha_ (z_goSW (As := [va_rf rS0, .int xS1, .int xS2, .int xS3, va_rf rL3]) hC hZ (k_AckBookLaw_range hT hfl hE _ _ hF_) t_773 t_774 t_0 t_775 ⟨by decide, by decide, (by decide +kernel : (parseMethodDescriptor y_AckBookLaw_range.desc).map (fun d => d.parameters.length) = some 5)⟩ (by rw [hRt.1]; decide) (by rw [hRt.2]; decide) hl.1 rfl (by first | exact Nat.le_of_ble_eq_true rfl | simp [z_rfc, z_ci, z_cj]) d_AckBookLaw_law_969) (fun v_ hv H locs cells slots hZ => ?_)
  obtain ⟨v7, rfl, h⟩ := hv
  generalize w1_ = w at h hZ
  refine lv_istore (i := 5) (lv' := [(5, .int v7), (0, va_rf (some bS)), (1, va_rf rL1), (2, va_rf rL2), (3, va_rf rL3), (4, .int xL4)]) hC.1 hC.2.1 d_AckBookLaw_law_972 hl (by decide) (by first | rfl | simp [z_rfc, z_ci, z_cj]) (fun ls hl => ?_)
  refine x_aload_n hC d_AckBookLaw_law_974 rfl (lv_at hl 3 rfl) ?_
  refine x_aload_n hC d_AckBookLaw_law_975 rfl (lv_at hl 1 rfl) ?_
  refine lv_iload hC.1 hC.2.1 d_AckBookLaw_law_976 (lv_at hl 5 rfl) ?_
  refine lv_iconst (v := (1 : Int32)) hC.1 hC.2.1 d_AckBookLaw_law_978 (by decide) ?_
  refine lv_iadd hC.1 hC.2.1 d_AckBookLaw_law_979 ?_
  refine x_scr hC hZ hX h d_AckBookLaw_law_980 (fun v8 h => ?_)
  refine x_aload_n hC d_AckBookLaw_law_981 rfl (lv_at hl 1 rfl) ?_
  refine lv_iload hC.1 hC.2.1 d_AckBookLaw_law_982 (lv_at hl 5 rfl) ?_
  refine lv_iconst (v := (2 : Int32)) hC.1 hC.2.1 d_AckBookLaw_law_984 (by decide) ?_
  refine lv_iadd hC.1 hC.2.1 d_AckBookLaw_law_985 ?_
  refine x_scr hC hZ hX h d_AckBookLaw_law_986 (fun v9 h => ?_)
  refine x_aload_n hC d_AckBookLaw_law_987 rfl (lv_at hl 1 rfl) ?_
  refine lv_iload hC.1 hC.2.1 d_AckBookLaw_law_988 (lv_at hl 5 rfl) ?_
  refine lv_iconst (v := (3 : Int32)) hC.1 hC.2.1 d_AckBookLaw_law_990 (by decide) ?_
  refine lv_iadd hC.1 hC.2.1 d_AckBookLaw_law_991 ?_
  refine x_scr hC hZ hX h d_AckBookLaw_law_992 (fun v10 h => ?_)
  refine lv_if_eq (tgt := 1000) hC.1 hC.2.1 d_AckBookLaw_law_993 (by decide) (fun hc => ?_) (fun hc => ?_)
  · have h := z_ifp hc h
    refine lv_iconst (v := (0 : Int32)) hC.1 hC.2.1 d_AckBookLaw_law_1000 (by decide) ?_
    exact kq_AckBookLaw_law_1001 hT hfl hE hC hr hX hB hJ _ _ _ _ _ _ _ _ _ _ _ h _ _ _ _ _ hZ (lv_sub hl [1, 2, 3, 4, 5, 0] rfl)
  · have h := z_ifn hc h
    refine lv_iconst (v := (1 : Int32)) hC.1 hC.2.1 d_AckBookLaw_law_996 (by decide) ?_
    refine lv_goto (tgt := 1001) hC.1 hC.2.1 d_AckBookLaw_law_997 (by decide) ?_
    exact kq_AckBookLaw_law_1001 hT hfl hE hC hr hX hB hJ _ _ _ _ _ _ _ _ _ _ _ h _ _ _ _ _ hZ (lv_sub hl [1, 2, 3, 4, 5, 0] rfl)
def q_AckBookLaw_law_876 (F X : Nat) (xs : Nat → Int32) (L : Nat) (J : Option Nat → Option Nat → Option Nat → Int32 → zW → zR) (rL1 : Option Nat) (rL2 : Option Nat) (rL3 : Option Nat) (xL4 : Int32) (yS0 : Int64) (yS1 : Int64) (w : zW) : zR :=
  if (lg_cmp yS0 yS1) = 0 then (
    J rL1 rL2 rL3 (xL4 + (5 : Int32)) w)
  else (
    some (.inl (some (.int (0 : Int32))), w))
set_option maxHeartbeats 4000000 in
set_option maxRecDepth 100000 in
theorem kq_AckBookLaw_law_876 {b0 : Nat} {H0 : Heap} {D : va_G} {vu vs : Value} {X M : Nat} {l : Launch} (hT : z_TB (zGG b0 H0 D vu vs X M)) (hfl : l.flags = pinnedFlags ++ [noTraceFlag]) (hE : vu.isRef = true ∧ vs.isRef = true) {p : Program} {e : Env} {s : State} {m : MethodId} {below : List Frame} {meth : Method} {c : Code} {F bS L : Nat} {xs : Nat → Int32} (hC : z_C (zGG b0 H0 D vu vs X M) p e s m meth c code 8 R_law) (hr : meth.sig.returnType = ret) (hX : va_X bS L xs s H0 ∧ bS < b0) (hB : s.heap.size ≤ b0) {J : Option Nat → Option Nat → Option Nat → Int32 → zW → zR} (hJ : (∀ (rL1 : Option Nat) (rL2 : Option Nat) (rL3 : Option Nat) (xL4 : Int32) (w : zW) (wE : zW), J rL1 rL2 rL3 xL4 w = some (.inl (some (.int (1 : Int32))), wE) → ∀ (H : Heap) (locs : List Loc) (cells slots : Nat) (ls : Array Slot), z_Z (zGG b0 H0 D vu vs X M) room_1 s w H locs cells slots → lv_has ls 8 [(0, va_rf (some bS)), (1, va_rf rL1), (2, va_rf rL2), (3, va_rf rL3), (4, .int xL4)] → W p l e room_1 s m #[Value.ref bS] below meth c H locs cells slots (lw_Z below #[Value.ref bS] s) (F0 m 23 ls []))) (rL1 : Option Nat) (rL2 : Option Nat) (rL3 : Option Nat) (xL4 : Int32) (yS0 : Int64) (yS1 : Int64) (w : zW) (wE : zW) (h : q_AckBookLaw_law_876 F X xs L J rL1 rL2 rL3 xL4 yS0 yS1 w = some (.inl (some (.int (1 : Int32))), wE)) (H : Heap) (locs : List Loc) (cells slots : Nat) (ls : Array Slot) (hZ : z_Z (zGG b0 H0 D vu vs X M) room_1 s w H locs cells slots) (hl : lv_has ls 8 [(0, va_rf (some bS)), (1, va_rf rL1), (2, va_rf rL2), (3, va_rf rL3), (4, .int xL4)]) : W p l e room_1 s m #[Value.ref bS] below meth c H locs cells slots (lw_Z below #[Value.ref bS] s) (F0 m 876 ls [.long yS1, .long yS0]) := by
  have hRt : room_1.frames = 12 ∧ room_1.locals = 458 := ⟨rfl, rfl⟩
  unfold q_AckBookLaw_law_876 at h
  refine W.lcmp hC.1 hC.2.1 d_AckBookLaw_law_876 ?_
  refine lv_if_eq (tgt := 882) hC.1 hC.2.1 d_AckBookLaw_law_877 (by decide) (fun hc => ?_) (fun hc => ?_)
  · have h := z_ifp hc h
    refine lv_goto (tgt := 1159) hC.1 hC.2.1 d_AckBookLaw_law_882 (by decide) ?_
    refine lv_iinc (lv' := [(4, .int (xL4 + (5 : Int32))), (0, va_rf (some bS)), (1, va_rf rL1), (2, va_rf rL2), (3, va_rf rL3)]) hC.1 hC.2.1 d_AckBookLaw_law_1159 hl (k := 4) rfl rfl (by decide) (by first | rfl | simp [z_rfc, z_ci, z_cj]) (fun ls hl => ?_)
    refine lv_goto (tgt := 23) hC.1 hC.2.1 d_AckBookLaw_law_1162 (by decide) ?_
    exact hJ _ _ _ _ _ _ h _ _ _ _ _ hZ (lv_sub hl [1, 2, 3, 4, 0] rfl)
  · have h := z_ifn hc h
    refine lv_iconst (v := (0 : Int32)) hC.1 hC.2.1 d_AckBookLaw_law_880 (by decide) ?_
    exact (z_no0 h).elim
def q_AckBookLaw_law_813 (F X : Nat) (xs : Nat → Int32) (L : Nat) (J : Option Nat → Option Nat → Option Nat → Int32 → zW → zR) (rL1 : Option Nat) (rL2 : Option Nat) (rL3 : Option Nat) (xL4 : Int32) (yS0 : Int64) (yS1 : Int64) (w : zW) : zR :=
  if (lg_cmp yS0 yS1) = 0 then (
    J rL1 rL2 rL3 (xL4 + (5 : Int32)) w)
  else (
    some (.inl (some (.int (0 : Int32))), w))
set_option maxHeartbeats 4000000 in
set_option maxRecDepth 100000 in
theorem kq_AckBookLaw_law_813 {b0 : Nat} {H0 : Heap} {D : va_G} {vu vs : Value} {X M : Nat} {l : Launch} (hT : z_TB (zGG b0 H0 D vu vs X M)) (hfl : l.flags = pinnedFlags ++ [noTraceFlag]) (hE : vu.isRef = true ∧ vs.isRef = true) {p : Program} {e : Env} {s : State} {m : MethodId} {below : List Frame} {meth : Method} {c : Code} {F bS L : Nat} {xs : Nat → Int32} (hC : z_C (zGG b0 H0 D vu vs X M) p e s m meth c code 8 R_law) (hr : meth.sig.returnType = ret) (hX : va_X bS L xs s H0 ∧ bS < b0) (hB : s.heap.size ≤ b0) {J : Option Nat → Option Nat → Option Nat → Int32 → zW → zR} (hJ : (∀ (rL1 : Option Nat) (rL2 : Option Nat) (rL3 : Option Nat) (xL4 : Int32) (w : zW) (wE : zW), J rL1 rL2 rL3 xL4 w = some (.inl (some (.int (1 : Int32))), wE) → ∀ (H : Heap) (locs : List Loc) (cells slots : Nat) (ls : Array Slot), z_Z (zGG b0 H0 D vu vs X M) room_1 s w H locs cells slots → lv_has ls 8 [(0, va_rf (some bS)), (1, va_rf rL1), (2, va_rf rL2), (3, va_rf rL3), (4, .int xL4)] → W p l e room_1 s m #[Value.ref bS] below meth c H locs cells slots (lw_Z below #[Value.ref bS] s) (F0 m 23 ls []))) (rL1 : Option Nat) (rL2 : Option Nat) (rL3 : Option Nat) (xL4 : Int32) (yS0 : Int64) (yS1 : Int64) (w : zW) (wE : zW) (h : q_AckBookLaw_law_813 F X xs L J rL1 rL2 rL3 xL4 yS0 yS1 w = some (.inl (some (.int (1 : Int32))), wE)) (H : Heap) (locs : List Loc) (cells slots : Nat) (ls : Array Slot) (hZ : z_Z (zGG b0 H0 D vu vs X M) room_1 s w H locs cells slots) (hl : lv_has ls 8 [(0, va_rf (some bS)), (1, va_rf rL1), (2, va_rf rL2), (3, va_rf rL3), (4, .int xL4)]) : W p l e room_1 s m #[Value.ref bS] below meth c H locs cells slots (lw_Z below #[Value.ref bS] s) (F0 m 813 ls [.long yS1, .long yS0]) := by
  have hRt : room_1.frames = 12 ∧ room_1.locals = 458 := ⟨rfl, rfl⟩
  unfold q_AckBookLaw_law_813 at h
  refine W.lcmp hC.1 hC.2.1 d_AckBookLaw_law_813 ?_
  refine lv_if_eq (tgt := 819) hC.1 hC.2.1 d_AckBookLaw_law_814 (by decide) (fun hc => ?_) (fun hc => ?_)
  · have h := z_ifp hc h
    refine lv_goto (tgt := 1159) hC.1 hC.2.1 d_AckBookLaw_law_819 (by decide) ?_
    refine lv_iinc (lv' := [(4, .int (xL4 + (5 : Int32))), (0, va_rf (some bS)), (1, va_rf rL1), (2, va_rf rL2), (3, va_rf rL3)]) hC.1 hC.2.1 d_AckBookLaw_law_1159 hl (k := 4) rfl rfl (by decide) (by first | rfl | simp [z_rfc, z_ci, z_cj]) (fun ls hl => ?_)
    refine lv_goto (tgt := 23) hC.1 hC.2.1 d_AckBookLaw_law_1162 (by decide) ?_
    exact hJ _ _ _ _ _ _ h _ _ _ _ _ hZ (lv_sub hl [1, 2, 3, 4, 0] rfl)
  · have h := z_ifn hc h
    refine lv_iconst (v := (0 : Int32)) hC.1 hC.2.1 d_AckBookLaw_law_817 (by decide) ?_
    exact (z_no0 h).elim
def q_AckBookLaw_law_779 (F X : Nat) (xs : Nat → Int32) (L : Nat) (J : Option Nat → Option Nat → Option Nat → Int32 → zW → zR) (rL1 : Option Nat) (rL2 : Option Nat) (rL3 : Option Nat) (xL4 : Int32) (xL5 : Int32) (rS0 : Option Nat) (xS1 : Int32) (yS2 : Int64) (xS3 : Int32) (w : zW) : zR :=
  z_this w 10 rS0 <|
  z_cI (f_AckBookModel_came F X rS0 xS1 yS2 xS3 w) fun v12 w =>
  z_this w 10 rL2 <|
  z_cI (f_AckBookModel_thrown F X rL2 w) fun v14 w =>
  if v14 = xL5 then (
    if xL5 = 0 then (
      z_ldL w rL3 (0 : Int32) fun v15 =>
      if v12 = 0 then (
        q_AckBookLaw_law_813 F X xs L J rL1 rL2 rL3 xL4 v15 (0 : Int64) w)
      else (
        q_AckBookLaw_law_813 F X xs L J rL1 rL2 rL3 xL4 v15 (1 : Int64) w))
    else (
      J rL1 rL2 rL3 (xL4 + (5 : Int32)) w))
  else (
    some (.inl (some (.int (0 : Int32))), w))
set_option maxHeartbeats 4000000 in
set_option maxRecDepth 100000 in
theorem kq_AckBookLaw_law_779 {b0 : Nat} {H0 : Heap} {D : va_G} {vu vs : Value} {X M : Nat} {l : Launch} (hT : z_TB (zGG b0 H0 D vu vs X M)) (hfl : l.flags = pinnedFlags ++ [noTraceFlag]) (hE : vu.isRef = true ∧ vs.isRef = true) {p : Program} {e : Env} {s : State} {m : MethodId} {below : List Frame} {meth : Method} {c : Code} {F bS L : Nat} {xs : Nat → Int32} (hC : z_C (zGG b0 H0 D vu vs X M) p e s m meth c code 8 R_law) (hr : meth.sig.returnType = ret) (hX : va_X bS L xs s H0 ∧ bS < b0) (hB : s.heap.size ≤ b0) {J : Option Nat → Option Nat → Option Nat → Int32 → zW → zR} (hJ : (∀ (rL1 : Option Nat) (rL2 : Option Nat) (rL3 : Option Nat) (xL4 : Int32) (w : zW) (wE : zW), J rL1 rL2 rL3 xL4 w = some (.inl (some (.int (1 : Int32))), wE) → ∀ (H : Heap) (locs : List Loc) (cells slots : Nat) (ls : Array Slot), z_Z (zGG b0 H0 D vu vs X M) room_1 s w H locs cells slots → lv_has ls 8 [(0, va_rf (some bS)), (1, va_rf rL1), (2, va_rf rL2), (3, va_rf rL3), (4, .int xL4)] → W p l e room_1 s m #[Value.ref bS] below meth c H locs cells slots (lw_Z below #[Value.ref bS] s) (F0 m 23 ls []))) (rL1 : Option Nat) (rL2 : Option Nat) (rL3 : Option Nat) (xL4 : Int32) (xL5 : Int32) (rS0 : Option Nat) (xS1 : Int32) (yS2 : Int64) (xS3 : Int32) (w : zW) (wE : zW) (h : q_AckBookLaw_law_779 F X xs L J rL1 rL2 rL3 xL4 xL5 rS0 xS1 yS2 xS3 w = some (.inl (some (.int (1 : Int32))), wE)) (H : Heap) (locs : List Loc) (cells slots : Nat) (ls : Array Slot) (hZ : z_Z (zGG b0 H0 D vu vs X M) room_1 s w H locs cells slots) (hl : lv_has ls 8 [(0, va_rf (some bS)), (1, va_rf rL1), (2, va_rf rL2), (3, va_rf rL3), (4, .int xL4), (5, .int xL5)]) : W p l e room_1 s m #[Value.ref bS] below meth c H locs cells slots (lw_Z below #[Value.ref bS] s) (F0 m 779 ls [.int xS3, .long yS2, .int xS1, va_rf rS0]) := by
  have hRt : room_1.frames = 12 ∧ room_1.locals = 458 := ⟨rfl, rfl⟩
  unfold q_AckBookLaw_law_779 at h
  obtain ⟨a_, fs_, eo_, h⟩ := z_this_spec h
  obtain ⟨w1_, o1_, hF_, ha_⟩ := z_cI_spec h
  refine x_goesN ha_ (z_goV (As := [.int xS1, .long yS2, .int xS3]) hC hZ zc10 eo_ (k_AckBookModel_came hT hfl hE _ _ hF_) t_1048 t_1049 t_1050 t_12 t_1051 ⟨by decide, by decide, (by decide +kernel : (parseMethodDescriptor y_AckBookModel_came.desc).map (fun d => d.parameters.length) = some 3)⟩ (by rw [hRt.1]; decide) (by rw [hRt.2]; decide) hl.1 rfl (by first | exact Nat.le_of_ble_eq_true rfl | simp [z_rfc, z_ci, z_cj]) d_AckBookLaw_law_779) (fun v_ hv H locs cells slots hZ => ?_)
  obtain ⟨v12, rfl, h⟩ := hv
  generalize w1_ = w at h hZ
  refine lv_istore (i := 6) (lv' := [(6, .int v12), (0, va_rf (some bS)), (1, va_rf rL1), (2, va_rf rL2), (3, va_rf rL3), (4, .int xL4), (5, .int xL5)]) hC.1 hC.2.1 d_AckBookLaw_law_782 hl (by decide) (by first | rfl | simp [z_rfc, z_ci, z_cj]) (fun ls hl => ?_)
  refine x_aload_n hC d_AckBookLaw_law_784 rfl (lv_at hl 3 rfl) ?_
  obtain ⟨a_, fs_, eo_, h⟩ := z_this_spec h
  obtain ⟨w1_, o1_, hF_, ha_⟩ := z_cI_spec h
  refine x_goesN ha_ (z_goV (As := []) hC hZ zc10 eo_ (k_AckBookModel_thrown hT hfl hE _ _ hF_) t_936 t_937 t_938 t_12 t_939 ⟨by decide, by decide, (by decide +kernel : (parseMethodDescriptor y_AckBookModel_thrown.desc).map (fun d => d.parameters.length) = some 0)⟩ (by rw [hRt.1]; decide) (by rw [hRt.2]; decide) hl.1 rfl (by first | exact Nat.le_of_ble_eq_true rfl | simp [z_rfc, z_ci, z_cj]) d_AckBookLaw_law_785) (fun v_ hv H locs cells slots hZ => ?_)
  obtain ⟨v14, rfl, h⟩ := hv
  generalize w1_ = w at h hZ
  refine lv_iload hC.1 hC.2.1 d_AckBookLaw_law_788 (lv_at hl 6 rfl) ?_
  refine lv_icmp_eq (tgt := 795) hC.1 hC.2.1 d_AckBookLaw_law_790 (by decide) (fun hc => ?_) (fun hc => ?_)
  · have h := z_ifp hc h
    refine lv_iload hC.1 hC.2.1 d_AckBookLaw_law_795 (lv_at hl 6 rfl) ?_
    refine lv_if_ne (tgt := 819) hC.1 hC.2.1 d_AckBookLaw_law_797 (by decide) (fun hc => ?_) (fun hc => ?_)
    · have h := z_ifn hc h
      refine lv_goto (tgt := 1159) hC.1 hC.2.1 d_AckBookLaw_law_819 (by decide) ?_
      refine lv_iinc (lv' := [(4, .int (xL4 + (5 : Int32))), (6, .int v12), (0, va_rf (some bS)), (1, va_rf rL1), (2, va_rf rL2), (3, va_rf rL3), (5, .int xL5)]) hC.1 hC.2.1 d_AckBookLaw_law_1159 hl (k := 5) rfl rfl (by decide) (by first | rfl | simp [z_rfc, z_ci, z_cj]) (fun ls hl => ?_)
      refine lv_goto (tgt := 23) hC.1 hC.2.1 d_AckBookLaw_law_1162 (by decide) ?_
      exact hJ _ _ _ _ _ _ h _ _ _ _ _ hZ (lv_sub hl [2, 3, 4, 5, 0] rfl)
    · have h := z_ifp hc h
      refine x_aload_n hC d_AckBookLaw_law_800 rfl (lv_at hl 4 rfl) ?_
      refine lv_iconst (v := (0 : Int32)) hC.1 hC.2.1 d_AckBookLaw_law_801 (by decide) ?_
      refine x_ldL hC hZ h d_AckBookLaw_law_802 (fun v15 h => ?_)
      refine lv_iload hC.1 hC.2.1 d_AckBookLaw_law_803 (lv_at hl 0 rfl) ?_
      refine lv_if_eq (tgt := 812) hC.1 hC.2.1 d_AckBookLaw_law_805 (by decide) (fun hc => ?_) (fun hc => ?_)
      · have h := z_ifp hc h
        refine lv_lconst (v := (0 : Int64)) hC.1 hC.2.1 d_AckBookLaw_law_812 (by decide) ?_
        exact kq_AckBookLaw_law_813 hT hfl hE hC hr hX hB hJ _ _ _ _ _ _ _ _ h _ _ _ _ _ hZ (lv_sub hl [1, 2, 3, 4, 5] rfl)
      · have h := z_ifn hc h
        refine lv_lconst (v := (1 : Int64)) hC.1 hC.2.1 d_AckBookLaw_law_808 (by decide) ?_
        refine lv_goto (tgt := 813) hC.1 hC.2.1 d_AckBookLaw_law_809 (by decide) ?_
        exact kq_AckBookLaw_law_813 hT hfl hE hC hr hX hB hJ _ _ _ _ _ _ _ _ h _ _ _ _ _ hZ (lv_sub hl [1, 2, 3, 4, 5] rfl)
  · have h := z_ifn hc h
    refine lv_iconst (v := (0 : Int32)) hC.1 hC.2.1 d_AckBookLaw_law_793 (by decide) ?_
    exact (z_no0 h).elim
def q_AckBookLaw_law_730 (F X : Nat) (xs : Nat → Int32) (L : Nat) (J : Option Nat → Option Nat → Option Nat → Int32 → zW → zR) (rL1 : Option Nat) (rL2 : Option Nat) (rL3 : Option Nat) (xL4 : Int32) (rS0 : Option Nat) (xS1 : Int32) (yS2 : Int64) (xS3 : Int32) (w : zW) : zR :=
  z_cI (f_AckBookLaw_came F X rS0 xS1 yS2 xS3 rL3 w) fun v17 w =>
  z_scr xs L (xL4 + (1 : Int32)) fun v18 =>
  z_scr xs L (xL4 + (2 : Int32)) fun v19 =>
  z_scr xs L (xL4 + (3 : Int32)) fun v20 =>
  z_scr xs L (xL4 + (4 : Int32)) fun v21 =>
  if v21 = 0 then (
    q_AckBookLaw_law_779 F X xs L J rL1 rL2 rL3 xL4 v17 rL2 v18 ((v19.toInt64 <<< ((32 : Int32).toInt64 &&& 63)) ||| (v20.toInt64 &&& (4294967295 : Int64))) (0 : Int32) w)
  else (
    q_AckBookLaw_law_779 F X xs L J rL1 rL2 rL3 xL4 v17 rL2 v18 ((v19.toInt64 <<< ((32 : Int32).toInt64 &&& 63)) ||| (v20.toInt64 &&& (4294967295 : Int64))) (1 : Int32) w)
set_option maxHeartbeats 4000000 in
set_option maxRecDepth 100000 in
theorem kq_AckBookLaw_law_730 {b0 : Nat} {H0 : Heap} {D : va_G} {vu vs : Value} {X M : Nat} {l : Launch} (hT : z_TB (zGG b0 H0 D vu vs X M)) (hfl : l.flags = pinnedFlags ++ [noTraceFlag]) (hE : vu.isRef = true ∧ vs.isRef = true) {p : Program} {e : Env} {s : State} {m : MethodId} {below : List Frame} {meth : Method} {c : Code} {F bS L : Nat} {xs : Nat → Int32} (hC : z_C (zGG b0 H0 D vu vs X M) p e s m meth c code 8 R_law) (hr : meth.sig.returnType = ret) (hX : va_X bS L xs s H0 ∧ bS < b0) (hB : s.heap.size ≤ b0) {J : Option Nat → Option Nat → Option Nat → Int32 → zW → zR} (hJ : (∀ (rL1 : Option Nat) (rL2 : Option Nat) (rL3 : Option Nat) (xL4 : Int32) (w : zW) (wE : zW), J rL1 rL2 rL3 xL4 w = some (.inl (some (.int (1 : Int32))), wE) → ∀ (H : Heap) (locs : List Loc) (cells slots : Nat) (ls : Array Slot), z_Z (zGG b0 H0 D vu vs X M) room_1 s w H locs cells slots → lv_has ls 8 [(0, va_rf (some bS)), (1, va_rf rL1), (2, va_rf rL2), (3, va_rf rL3), (4, .int xL4)] → W p l e room_1 s m #[Value.ref bS] below meth c H locs cells slots (lw_Z below #[Value.ref bS] s) (F0 m 23 ls []))) (rL1 : Option Nat) (rL2 : Option Nat) (rL3 : Option Nat) (xL4 : Int32) (rS0 : Option Nat) (xS1 : Int32) (yS2 : Int64) (xS3 : Int32) (w : zW) (wE : zW) (h : q_AckBookLaw_law_730 F X xs L J rL1 rL2 rL3 xL4 rS0 xS1 yS2 xS3 w = some (.inl (some (.int (1 : Int32))), wE)) (H : Heap) (locs : List Loc) (cells slots : Nat) (ls : Array Slot) (hZ : z_Z (zGG b0 H0 D vu vs X M) room_1 s w H locs cells slots) (hl : lv_has ls 8 [(0, va_rf (some bS)), (1, va_rf rL1), (2, va_rf rL2), (3, va_rf rL3), (4, .int xL4)]) : W p l e room_1 s m #[Value.ref bS] below meth c H locs cells slots (lw_Z below #[Value.ref bS] s) (F0 m 730 ls [.int xS3, .long yS2, .int xS1, va_rf rS0]) := by
  have hRt : room_1.frames = 12 ∧ room_1.locals = 458 := ⟨rfl, rfl⟩
  unfold q_AckBookLaw_law_730 at h
  refine x_aload_n hC d_AckBookLaw_law_730 rfl (lv_at hl 3 rfl) ?_
  obtain ⟨w1_, o1_, hF_, ha_⟩ := z_cI_spec h
  refine x_goesN ha_ (z_goSW (As := [va_rf rS0, .int xS1, .long yS2, .int xS3, va_rf rL3]) hC hZ (k_AckBookLaw_came hT hfl hE _ _ hF_) t_716 t_717 t_0 t_718 ⟨by decide, by decide, (by decide +kernel : (parseMethodDescriptor y_AckBookLaw_came.desc).map (fun d => d.parameters.length) = some 5)⟩ (by rw [hRt.1]; decide) (by rw [hRt.2]; decide) hl.1 rfl (by first | exact Nat.le_of_ble_eq_true rfl | simp [z_rfc, z_ci, z_cj]) d_AckBookLaw_law_731) (fun v_ hv H locs cells slots hZ => ?_)
  obtain ⟨v17, rfl, h⟩ := hv
  generalize w1_ = w at h hZ
  refine lv_istore (i := 5) (lv' := [(5, .int v17), (0, va_rf (some bS)), (1, va_rf rL1), (2, va_rf rL2), (3, va_rf rL3), (4, .int xL4)]) hC.1 hC.2.1 d_AckBookLaw_law_734 hl (by decide) (by first | rfl | simp [z_rfc, z_ci, z_cj]) (fun ls hl => ?_)
  refine x_aload_n hC d_AckBookLaw_law_736 rfl (lv_at hl 3 rfl) ?_
  refine x_aload_n hC d_AckBookLaw_law_737 rfl (lv_at hl 1 rfl) ?_
  refine lv_iload hC.1 hC.2.1 d_AckBookLaw_law_738 (lv_at hl 5 rfl) ?_
  refine lv_iconst (v := (1 : Int32)) hC.1 hC.2.1 d_AckBookLaw_law_740 (by decide) ?_
  refine lv_iadd hC.1 hC.2.1 d_AckBookLaw_law_741 ?_
  refine x_scr hC hZ hX h d_AckBookLaw_law_742 (fun v18 h => ?_)
  refine x_aload_n hC d_AckBookLaw_law_743 rfl (lv_at hl 1 rfl) ?_
  refine lv_iload hC.1 hC.2.1 d_AckBookLaw_law_744 (lv_at hl 5 rfl) ?_
  refine lv_iconst (v := (2 : Int32)) hC.1 hC.2.1 d_AckBookLaw_law_746 (by decide) ?_
  refine lv_iadd hC.1 hC.2.1 d_AckBookLaw_law_747 ?_
  refine x_scr hC hZ hX h d_AckBookLaw_law_748 (fun v19 h => ?_)
  refine lv_i2l hC.1 hC.2.1 d_AckBookLaw_law_749 rfl ?_
  refine lv_bipush (v := (32 : Int32)) hC.1 hC.2.1 d_AckBookLaw_law_750 (by decide) ?_
  refine lv_lshl hC.1 hC.2.1 d_AckBookLaw_law_752 rfl ?_
  refine x_aload_n hC d_AckBookLaw_law_753 rfl (lv_at hl 1 rfl) ?_
  refine lv_iload hC.1 hC.2.1 d_AckBookLaw_law_754 (lv_at hl 5 rfl) ?_
  refine lv_iconst (v := (3 : Int32)) hC.1 hC.2.1 d_AckBookLaw_law_756 (by decide) ?_
  refine lv_iadd hC.1 hC.2.1 d_AckBookLaw_law_757 ?_
  refine x_scr hC hZ hX h d_AckBookLaw_law_758 (fun v20 h => ?_)
  refine lv_i2l hC.1 hC.2.1 d_AckBookLaw_law_759 rfl ?_
  refine lv_ldc2 (v := (4294967295 : Int64)) hC.1 hC.2.1 hC.2.2.2.1 ((hZ.1.tb hC.2.2.2.2.2.2 #[Value.ref bS]) _ t_1090) d_AckBookLaw_law_760 ?_
  refine lv_land hC.1 hC.2.1 d_AckBookLaw_law_763 ?_
  refine lv_lor hC.1 hC.2.1 d_AckBookLaw_law_764 ?_
  refine x_aload_n hC d_AckBookLaw_law_765 rfl (lv_at hl 1 rfl) ?_
  refine lv_iload hC.1 hC.2.1 d_AckBookLaw_law_766 (lv_at hl 5 rfl) ?_
  refine lv_iconst (v := (4 : Int32)) hC.1 hC.2.1 d_AckBookLaw_law_768 (by decide) ?_
  refine lv_iadd hC.1 hC.2.1 d_AckBookLaw_law_769 ?_
  refine x_scr hC hZ hX h d_AckBookLaw_law_770 (fun v21 h => ?_)
  refine lv_if_eq (tgt := 778) hC.1 hC.2.1 d_AckBookLaw_law_771 (by decide) (fun hc => ?_) (fun hc => ?_)
  · have h := z_ifp hc h
    refine lv_iconst (v := (0 : Int32)) hC.1 hC.2.1 d_AckBookLaw_law_778 (by decide) ?_
    exact kq_AckBookLaw_law_779 hT hfl hE hC hr hX hB hJ _ _ _ _ _ _ _ _ _ _ _ h _ _ _ _ _ hZ (lv_sub hl [1, 2, 3, 4, 5, 0] rfl)
  · have h := z_ifn hc h
    refine lv_iconst (v := (1 : Int32)) hC.1 hC.2.1 d_AckBookLaw_law_774 (by decide) ?_
    refine lv_goto (tgt := 779) hC.1 hC.2.1 d_AckBookLaw_law_775 (by decide) ?_
    exact kq_AckBookLaw_law_779 hT hfl hE hC hr hX hB hJ _ _ _ _ _ _ _ _ _ _ _ h _ _ _ _ _ hZ (lv_sub hl [1, 2, 3, 4, 5, 0] rfl)
def q_AckBookLaw_law_583 (F X : Nat) (xs : Nat → Int32) (L : Nat) (J : Option Nat → Option Nat → Option Nat → Int32 → zW → zR) (rL1 : Option Nat) (rL2 : Option Nat) (rL3 : Option Nat) (xL4 : Int32) (xL5 : Int32) (rS0 : Option Nat) (xS1 : Int32) (xS2 : Int32) (w : zW) : zR :=
  z_this w 10 rS0 <|
  z_cI (f_AckBookModel_next F X rS0 xS1 xS2 w) fun v23 w =>
  z_this w 10 rL2 <|
  z_cI (f_AckBookModel_thrown F X rL2 w) fun v25 w =>
  if v25 = xL5 then (
    if xL5 = 0 then (
      z_ldL w rL3 (0 : Int32) fun v26 =>
      if (lg_cmp v26 v23.toInt64) = 0 then (
        J rL1 rL2 rL3 (xL4 + (5 : Int32)) w)
      else (
        some (.inl (some (.int (0 : Int32))), w)))
    else (
      J rL1 rL2 rL3 (xL4 + (5 : Int32)) w))
  else (
    some (.inl (some (.int (0 : Int32))), w))
set_option maxHeartbeats 4000000 in
set_option maxRecDepth 100000 in
theorem kq_AckBookLaw_law_583 {b0 : Nat} {H0 : Heap} {D : va_G} {vu vs : Value} {X M : Nat} {l : Launch} (hT : z_TB (zGG b0 H0 D vu vs X M)) (hfl : l.flags = pinnedFlags ++ [noTraceFlag]) (hE : vu.isRef = true ∧ vs.isRef = true) {p : Program} {e : Env} {s : State} {m : MethodId} {below : List Frame} {meth : Method} {c : Code} {F bS L : Nat} {xs : Nat → Int32} (hC : z_C (zGG b0 H0 D vu vs X M) p e s m meth c code 8 R_law) (hr : meth.sig.returnType = ret) (hX : va_X bS L xs s H0 ∧ bS < b0) (hB : s.heap.size ≤ b0) {J : Option Nat → Option Nat → Option Nat → Int32 → zW → zR} (hJ : (∀ (rL1 : Option Nat) (rL2 : Option Nat) (rL3 : Option Nat) (xL4 : Int32) (w : zW) (wE : zW), J rL1 rL2 rL3 xL4 w = some (.inl (some (.int (1 : Int32))), wE) → ∀ (H : Heap) (locs : List Loc) (cells slots : Nat) (ls : Array Slot), z_Z (zGG b0 H0 D vu vs X M) room_1 s w H locs cells slots → lv_has ls 8 [(0, va_rf (some bS)), (1, va_rf rL1), (2, va_rf rL2), (3, va_rf rL3), (4, .int xL4)] → W p l e room_1 s m #[Value.ref bS] below meth c H locs cells slots (lw_Z below #[Value.ref bS] s) (F0 m 23 ls []))) (rL1 : Option Nat) (rL2 : Option Nat) (rL3 : Option Nat) (xL4 : Int32) (xL5 : Int32) (rS0 : Option Nat) (xS1 : Int32) (xS2 : Int32) (w : zW) (wE : zW) (h : q_AckBookLaw_law_583 F X xs L J rL1 rL2 rL3 xL4 xL5 rS0 xS1 xS2 w = some (.inl (some (.int (1 : Int32))), wE)) (H : Heap) (locs : List Loc) (cells slots : Nat) (ls : Array Slot) (hZ : z_Z (zGG b0 H0 D vu vs X M) room_1 s w H locs cells slots) (hl : lv_has ls 8 [(0, va_rf (some bS)), (1, va_rf rL1), (2, va_rf rL2), (3, va_rf rL3), (4, .int xL4), (5, .int xL5)]) : W p l e room_1 s m #[Value.ref bS] below meth c H locs cells slots (lw_Z below #[Value.ref bS] s) (F0 m 583 ls [.int xS2, .int xS1, va_rf rS0]) := by
  have hRt : room_1.frames = 12 ∧ room_1.locals = 458 := ⟨rfl, rfl⟩
  unfold q_AckBookLaw_law_583 at h
  obtain ⟨a_, fs_, eo_, h⟩ := z_this_spec h
  obtain ⟨w1_, o1_, hF_, ha_⟩ := z_cI_spec h
  refine x_goesN ha_ (z_goV (As := [.int xS1, .int xS2]) hC hZ zc10 eo_ (k_AckBookModel_next hT hfl hE _ _ hF_) t_1040 t_1041 t_1042 t_12 t_1043 ⟨by decide, by decide, (by decide +kernel : (parseMethodDescriptor y_AckBookModel_next.desc).map (fun d => d.parameters.length) = some 2)⟩ (by rw [hRt.1]; decide) (by rw [hRt.2]; decide) hl.1 rfl (by first | exact Nat.le_of_ble_eq_true rfl | simp [z_rfc, z_ci, z_cj]) d_AckBookLaw_law_583) (fun v_ hv H locs cells slots hZ => ?_)
  obtain ⟨v23, rfl, h⟩ := hv
  generalize w1_ = w at h hZ
  refine lv_istore (i := 6) (lv' := [(6, .int v23), (0, va_rf (some bS)), (1, va_rf rL1), (2, va_rf rL2), (3, va_rf rL3), (4, .int xL4), (5, .int xL5)]) hC.1 hC.2.1 d_AckBookLaw_law_586 hl (by decide) (by first | rfl | simp [z_rfc, z_ci, z_cj]) (fun ls hl => ?_)
  refine x_aload_n hC d_AckBookLaw_law_588 rfl (lv_at hl 3 rfl) ?_
  obtain ⟨a_, fs_, eo_, h⟩ := z_this_spec h
  obtain ⟨w1_, o1_, hF_, ha_⟩ := z_cI_spec h
  refine x_goesN ha_ (z_goV (As := []) hC hZ zc10 eo_ (k_AckBookModel_thrown hT hfl hE _ _ hF_) t_936 t_937 t_938 t_12 t_939 ⟨by decide, by decide, (by decide +kernel : (parseMethodDescriptor y_AckBookModel_thrown.desc).map (fun d => d.parameters.length) = some 0)⟩ (by rw [hRt.1]; decide) (by rw [hRt.2]; decide) hl.1 rfl (by first | exact Nat.le_of_ble_eq_true rfl | simp [z_rfc, z_ci, z_cj]) d_AckBookLaw_law_589) (fun v_ hv H locs cells slots hZ => ?_)
  obtain ⟨v25, rfl, h⟩ := hv
  generalize w1_ = w at h hZ
  refine lv_iload hC.1 hC.2.1 d_AckBookLaw_law_592 (lv_at hl 6 rfl) ?_
  refine lv_icmp_eq (tgt := 599) hC.1 hC.2.1 d_AckBookLaw_law_594 (by decide) (fun hc => ?_) (fun hc => ?_)
  · have h := z_ifp hc h
    refine lv_iload hC.1 hC.2.1 d_AckBookLaw_law_599 (lv_at hl 6 rfl) ?_
    refine lv_if_ne (tgt := 616) hC.1 hC.2.1 d_AckBookLaw_law_601 (by decide) (fun hc => ?_) (fun hc => ?_)
    · have h := z_ifn hc h
      refine lv_goto (tgt := 1159) hC.1 hC.2.1 d_AckBookLaw_law_616 (by decide) ?_
      refine lv_iinc (lv' := [(4, .int (xL4 + (5 : Int32))), (6, .int v23), (0, va_rf (some bS)), (1, va_rf rL1), (2, va_rf rL2), (3, va_rf rL3), (5, .int xL5)]) hC.1 hC.2.1 d_AckBookLaw_law_1159 hl (k := 5) rfl rfl (by decide) (by first | rfl | simp [z_rfc, z_ci, z_cj]) (fun ls hl => ?_)
      refine lv_goto (tgt := 23) hC.1 hC.2.1 d_AckBookLaw_law_1162 (by decide) ?_
      exact hJ _ _ _ _ _ _ h _ _ _ _ _ hZ (lv_sub hl [2, 3, 4, 5, 0] rfl)
    · have h := z_ifp hc h
      refine x_aload_n hC d_AckBookLaw_law_604 rfl (lv_at hl 4 rfl) ?_
      refine lv_iconst (v := (0 : Int32)) hC.1 hC.2.1 d_AckBookLaw_law_605 (by decide) ?_
      refine x_ldL hC hZ h d_AckBookLaw_law_606 (fun v26 h => ?_)
      refine lv_iload hC.1 hC.2.1 d_AckBookLaw_law_607 (lv_at hl 0 rfl) ?_
      refine lv_i2l hC.1 hC.2.1 d_AckBookLaw_law_609 rfl ?_
      refine W.lcmp hC.1 hC.2.1 d_AckBookLaw_law_610 ?_
      refine lv_if_eq (tgt := 616) hC.1 hC.2.1 d_AckBookLaw_law_611 (by decide) (fun hc => ?_) (fun hc => ?_)
      · have h := z_ifp hc h
        refine lv_goto (tgt := 1159) hC.1 hC.2.1 d_AckBookLaw_law_616 (by decide) ?_
        refine lv_iinc (lv' := [(4, .int (xL4 + (5 : Int32))), (6, .int v23), (0, va_rf (some bS)), (1, va_rf rL1), (2, va_rf rL2), (3, va_rf rL3), (5, .int xL5)]) hC.1 hC.2.1 d_AckBookLaw_law_1159 hl (k := 5) rfl rfl (by decide) (by first | rfl | simp [z_rfc, z_ci, z_cj]) (fun ls hl => ?_)
        refine lv_goto (tgt := 23) hC.1 hC.2.1 d_AckBookLaw_law_1162 (by decide) ?_
        exact hJ _ _ _ _ _ _ h _ _ _ _ _ hZ (lv_sub hl [2, 3, 4, 5, 0] rfl)
      · have h := z_ifn hc h
        refine lv_iconst (v := (0 : Int32)) hC.1 hC.2.1 d_AckBookLaw_law_614 (by decide) ?_
        exact (z_no0 h).elim
  · have h := z_ifn hc h
    refine lv_iconst (v := (0 : Int32)) hC.1 hC.2.1 d_AckBookLaw_law_597 (by decide) ?_
    exact (z_no0 h).elim
def q_AckBookLaw_law_556 (F X : Nat) (xs : Nat → Int32) (L : Nat) (J : Option Nat → Option Nat → Option Nat → Int32 → zW → zR) (rL1 : Option Nat) (rL2 : Option Nat) (rL3 : Option Nat) (xL4 : Int32) (rS0 : Option Nat) (xS1 : Int32) (xS2 : Int32) (w : zW) : zR :=
  z_cI (f_AckBookLaw_next F X rS0 xS1 xS2 rL3 w) fun v28 w =>
  z_scr xs L (xL4 + (1 : Int32)) fun v29 =>
  z_scr xs L (xL4 + (2 : Int32)) fun v30 =>
  if v30 = 0 then (
    q_AckBookLaw_law_583 F X xs L J rL1 rL2 rL3 xL4 v28 rL2 v29 (0 : Int32) w)
  else (
    q_AckBookLaw_law_583 F X xs L J rL1 rL2 rL3 xL4 v28 rL2 v29 (1 : Int32) w)
set_option maxHeartbeats 4000000 in
set_option maxRecDepth 100000 in
theorem kq_AckBookLaw_law_556 {b0 : Nat} {H0 : Heap} {D : va_G} {vu vs : Value} {X M : Nat} {l : Launch} (hT : z_TB (zGG b0 H0 D vu vs X M)) (hfl : l.flags = pinnedFlags ++ [noTraceFlag]) (hE : vu.isRef = true ∧ vs.isRef = true) {p : Program} {e : Env} {s : State} {m : MethodId} {below : List Frame} {meth : Method} {c : Code} {F bS L : Nat} {xs : Nat → Int32} (hC : z_C (zGG b0 H0 D vu vs X M) p e s m meth c code 8 R_law) (hr : meth.sig.returnType = ret) (hX : va_X bS L xs s H0 ∧ bS < b0) (hB : s.heap.size ≤ b0) {J : Option Nat → Option Nat → Option Nat → Int32 → zW → zR} (hJ : (∀ (rL1 : Option Nat) (rL2 : Option Nat) (rL3 : Option Nat) (xL4 : Int32) (w : zW) (wE : zW), J rL1 rL2 rL3 xL4 w = some (.inl (some (.int (1 : Int32))), wE) → ∀ (H : Heap) (locs : List Loc) (cells slots : Nat) (ls : Array Slot), z_Z (zGG b0 H0 D vu vs X M) room_1 s w H locs cells slots → lv_has ls 8 [(0, va_rf (some bS)), (1, va_rf rL1), (2, va_rf rL2), (3, va_rf rL3), (4, .int xL4)] → W p l e room_1 s m #[Value.ref bS] below meth c H locs cells slots (lw_Z below #[Value.ref bS] s) (F0 m 23 ls []))) (rL1 : Option Nat) (rL2 : Option Nat) (rL3 : Option Nat) (xL4 : Int32) (rS0 : Option Nat) (xS1 : Int32) (xS2 : Int32) (w : zW) (wE : zW) (h : q_AckBookLaw_law_556 F X xs L J rL1 rL2 rL3 xL4 rS0 xS1 xS2 w = some (.inl (some (.int (1 : Int32))), wE)) (H : Heap) (locs : List Loc) (cells slots : Nat) (ls : Array Slot) (hZ : z_Z (zGG b0 H0 D vu vs X M) room_1 s w H locs cells slots) (hl : lv_has ls 8 [(0, va_rf (some bS)), (1, va_rf rL1), (2, va_rf rL2), (3, va_rf rL3), (4, .int xL4)]) : W p l e room_1 s m #[Value.ref bS] below meth c H locs cells slots (lw_Z below #[Value.ref bS] s) (F0 m 556 ls [.int xS2, .int xS1, va_rf rS0]) := by
  have hRt : room_1.frames = 12 ∧ room_1.locals = 458 := ⟨rfl, rfl⟩
  unfold q_AckBookLaw_law_556 at h
  refine x_aload_n hC d_AckBookLaw_law_556 rfl (lv_at hl 3 rfl) ?_
  obtain ⟨w1_, o1_, hF_, ha_⟩ := z_cI_spec h
  refine x_goesN ha_ (z_goSW (As := [va_rf rS0, .int xS1, .int xS2, va_rf rL3]) hC hZ (k_AckBookLaw_next hT hfl hE _ _ hF_) t_698 t_699 t_0 t_700 ⟨by decide, by decide, (by decide +kernel : (parseMethodDescriptor y_AckBookLaw_next.desc).map (fun d => d.parameters.length) = some 4)⟩ (by rw [hRt.1]; decide) (by rw [hRt.2]; decide) hl.1 rfl (by first | exact Nat.le_of_ble_eq_true rfl | simp [z_rfc, z_ci, z_cj]) d_AckBookLaw_law_557) (fun v_ hv H locs cells slots hZ => ?_)
  obtain ⟨v28, rfl, h⟩ := hv
  generalize w1_ = w at h hZ
  refine lv_istore (i := 5) (lv' := [(5, .int v28), (0, va_rf (some bS)), (1, va_rf rL1), (2, va_rf rL2), (3, va_rf rL3), (4, .int xL4)]) hC.1 hC.2.1 d_AckBookLaw_law_560 hl (by decide) (by first | rfl | simp [z_rfc, z_ci, z_cj]) (fun ls hl => ?_)
  refine x_aload_n hC d_AckBookLaw_law_562 rfl (lv_at hl 3 rfl) ?_
  refine x_aload_n hC d_AckBookLaw_law_563 rfl (lv_at hl 1 rfl) ?_
  refine lv_iload hC.1 hC.2.1 d_AckBookLaw_law_564 (lv_at hl 5 rfl) ?_
  refine lv_iconst (v := (1 : Int32)) hC.1 hC.2.1 d_AckBookLaw_law_566 (by decide) ?_
  refine lv_iadd hC.1 hC.2.1 d_AckBookLaw_law_567 ?_
  refine x_scr hC hZ hX h d_AckBookLaw_law_568 (fun v29 h => ?_)
  refine x_aload_n hC d_AckBookLaw_law_569 rfl (lv_at hl 1 rfl) ?_
  refine lv_iload hC.1 hC.2.1 d_AckBookLaw_law_570 (lv_at hl 5 rfl) ?_
  refine lv_iconst (v := (2 : Int32)) hC.1 hC.2.1 d_AckBookLaw_law_572 (by decide) ?_
  refine lv_iadd hC.1 hC.2.1 d_AckBookLaw_law_573 ?_
  refine x_scr hC hZ hX h d_AckBookLaw_law_574 (fun v30 h => ?_)
  refine lv_if_eq (tgt := 582) hC.1 hC.2.1 d_AckBookLaw_law_575 (by decide) (fun hc => ?_) (fun hc => ?_)
  · have h := z_ifp hc h
    refine lv_iconst (v := (0 : Int32)) hC.1 hC.2.1 d_AckBookLaw_law_582 (by decide) ?_
    exact kq_AckBookLaw_law_583 hT hfl hE hC hr hX hB hJ _ _ _ _ _ _ _ _ _ _ h _ _ _ _ _ hZ (lv_sub hl [1, 2, 3, 4, 5, 0] rfl)
  · have h := z_ifn hc h
    refine lv_iconst (v := (1 : Int32)) hC.1 hC.2.1 d_AckBookLaw_law_578 (by decide) ?_
    refine lv_goto (tgt := 583) hC.1 hC.2.1 d_AckBookLaw_law_579 (by decide) ?_
    exact kq_AckBookLaw_law_583 hT hfl hE hC hr hX hB hJ _ _ _ _ _ _ _ _ _ _ h _ _ _ _ _ hZ (lv_sub hl [1, 2, 3, 4, 5, 0] rfl)
def q_AckBookLaw_law_529 (F X : Nat) (xs : Nat → Int32) (L : Nat) (J : Option Nat → Option Nat → Option Nat → Int32 → zW → zR) (rL1 : Option Nat) (rL2 : Option Nat) (rL3 : Option Nat) (xL4 : Int32) (rS0 : Option Nat) (xS1 : Int32) (w : zW) : zR :=
  z_this w 10 rS0 <|
  z_cV (f_AckBookModel_anxious F X rS0 xS1 w) fun w =>
  J rL1 rL2 rL3 (xL4 + (5 : Int32)) w
set_option maxHeartbeats 4000000 in
set_option maxRecDepth 100000 in
theorem kq_AckBookLaw_law_529 {b0 : Nat} {H0 : Heap} {D : va_G} {vu vs : Value} {X M : Nat} {l : Launch} (hT : z_TB (zGG b0 H0 D vu vs X M)) (hfl : l.flags = pinnedFlags ++ [noTraceFlag]) (hE : vu.isRef = true ∧ vs.isRef = true) {p : Program} {e : Env} {s : State} {m : MethodId} {below : List Frame} {meth : Method} {c : Code} {F bS L : Nat} {xs : Nat → Int32} (hC : z_C (zGG b0 H0 D vu vs X M) p e s m meth c code 8 R_law) (hr : meth.sig.returnType = ret) (hX : va_X bS L xs s H0 ∧ bS < b0) (hB : s.heap.size ≤ b0) {J : Option Nat → Option Nat → Option Nat → Int32 → zW → zR} (hJ : (∀ (rL1 : Option Nat) (rL2 : Option Nat) (rL3 : Option Nat) (xL4 : Int32) (w : zW) (wE : zW), J rL1 rL2 rL3 xL4 w = some (.inl (some (.int (1 : Int32))), wE) → ∀ (H : Heap) (locs : List Loc) (cells slots : Nat) (ls : Array Slot), z_Z (zGG b0 H0 D vu vs X M) room_1 s w H locs cells slots → lv_has ls 8 [(0, va_rf (some bS)), (1, va_rf rL1), (2, va_rf rL2), (3, va_rf rL3), (4, .int xL4)] → W p l e room_1 s m #[Value.ref bS] below meth c H locs cells slots (lw_Z below #[Value.ref bS] s) (F0 m 23 ls []))) (rL1 : Option Nat) (rL2 : Option Nat) (rL3 : Option Nat) (xL4 : Int32) (rS0 : Option Nat) (xS1 : Int32) (w : zW) (wE : zW) (h : q_AckBookLaw_law_529 F X xs L J rL1 rL2 rL3 xL4 rS0 xS1 w = some (.inl (some (.int (1 : Int32))), wE)) (H : Heap) (locs : List Loc) (cells slots : Nat) (ls : Array Slot) (hZ : z_Z (zGG b0 H0 D vu vs X M) room_1 s w H locs cells slots) (hl : lv_has ls 8 [(0, va_rf (some bS)), (1, va_rf rL1), (2, va_rf rL2), (3, va_rf rL3), (4, .int xL4)]) : W p l e room_1 s m #[Value.ref bS] below meth c H locs cells slots (lw_Z below #[Value.ref bS] s) (F0 m 529 ls [.int xS1, va_rf rS0]) := by
  have hRt : room_1.frames = 12 ∧ room_1.locals = 458 := ⟨rfl, rfl⟩
  unfold q_AckBookLaw_law_529 at h
  obtain ⟨a_, fs_, eo_, h⟩ := z_this_spec h
  obtain ⟨w1_, o1_, hF_, ha_⟩ := z_cV_spec h
  refine x_goesN ha_ (z_goV (As := [.int xS1]) hC hZ zc10 eo_ (k_AckBookModel_anxious hT hfl hE _ _ hF_) t_1036 t_1037 t_1038 t_12 t_1039 ⟨by decide, by decide, (by decide +kernel : (parseMethodDescriptor y_AckBookModel_anxious.desc).map (fun d => d.parameters.length) = some 1)⟩ (by rw [hRt.1]; decide) (by rw [hRt.2]; decide) hl.1 rfl (by first | exact Nat.le_of_ble_eq_true rfl | simp [z_rfc, z_ci, z_cj]) d_AckBookLaw_law_529) (fun v_ hv H locs cells slots hZ => ?_)
  obtain ⟨rfl, h⟩ := hv
  generalize w1_ = w at h hZ
  refine lv_goto (tgt := 1159) hC.1 hC.2.1 d_AckBookLaw_law_532 (by decide) ?_
  refine lv_iinc (lv' := [(4, .int (xL4 + (5 : Int32))), (0, va_rf (some bS)), (1, va_rf rL1), (2, va_rf rL2), (3, va_rf rL3)]) hC.1 hC.2.1 d_AckBookLaw_law_1159 hl (k := 4) rfl rfl (by decide) (by first | rfl | simp [z_rfc, z_ci, z_cj]) (fun ls hl => ?_)
  refine lv_goto (tgt := 23) hC.1 hC.2.1 d_AckBookLaw_law_1162 (by decide) ?_
  exact hJ _ _ _ _ _ _ h _ _ _ _ _ hZ (lv_sub hl [1, 2, 3, 4, 0] rfl)
def q_AckBookLaw_law_511 (F X : Nat) (xs : Nat → Int32) (L : Nat) (J : Option Nat → Option Nat → Option Nat → Int32 → zW → zR) (rL1 : Option Nat) (rL2 : Option Nat) (rL3 : Option Nat) (xL4 : Int32) (rS0 : Option Nat) (xS1 : Int32) (w : zW) : zR :=
  z_this w 0 rS0 <|
  z_cV (f_AckBook_anxious F X rS0 xS1 w) fun w =>
  z_scr xs L (xL4 + (1 : Int32)) fun v33 =>
  if v33 = 0 then (
    q_AckBookLaw_law_529 F X xs L J rL1 rL2 rL3 xL4 rL2 (0 : Int32) w)
  else (
    q_AckBookLaw_law_529 F X xs L J rL1 rL2 rL3 xL4 rL2 (1 : Int32) w)
set_option maxHeartbeats 4000000 in
set_option maxRecDepth 100000 in
theorem kq_AckBookLaw_law_511 {b0 : Nat} {H0 : Heap} {D : va_G} {vu vs : Value} {X M : Nat} {l : Launch} (hT : z_TB (zGG b0 H0 D vu vs X M)) (hfl : l.flags = pinnedFlags ++ [noTraceFlag]) (hE : vu.isRef = true ∧ vs.isRef = true) {p : Program} {e : Env} {s : State} {m : MethodId} {below : List Frame} {meth : Method} {c : Code} {F bS L : Nat} {xs : Nat → Int32} (hC : z_C (zGG b0 H0 D vu vs X M) p e s m meth c code 8 R_law) (hr : meth.sig.returnType = ret) (hX : va_X bS L xs s H0 ∧ bS < b0) (hB : s.heap.size ≤ b0) {J : Option Nat → Option Nat → Option Nat → Int32 → zW → zR} (hJ : (∀ (rL1 : Option Nat) (rL2 : Option Nat) (rL3 : Option Nat) (xL4 : Int32) (w : zW) (wE : zW), J rL1 rL2 rL3 xL4 w = some (.inl (some (.int (1 : Int32))), wE) → ∀ (H : Heap) (locs : List Loc) (cells slots : Nat) (ls : Array Slot), z_Z (zGG b0 H0 D vu vs X M) room_1 s w H locs cells slots → lv_has ls 8 [(0, va_rf (some bS)), (1, va_rf rL1), (2, va_rf rL2), (3, va_rf rL3), (4, .int xL4)] → W p l e room_1 s m #[Value.ref bS] below meth c H locs cells slots (lw_Z below #[Value.ref bS] s) (F0 m 23 ls []))) (rL1 : Option Nat) (rL2 : Option Nat) (rL3 : Option Nat) (xL4 : Int32) (rS0 : Option Nat) (xS1 : Int32) (w : zW) (wE : zW) (h : q_AckBookLaw_law_511 F X xs L J rL1 rL2 rL3 xL4 rS0 xS1 w = some (.inl (some (.int (1 : Int32))), wE)) (H : Heap) (locs : List Loc) (cells slots : Nat) (ls : Array Slot) (hZ : z_Z (zGG b0 H0 D vu vs X M) room_1 s w H locs cells slots) (hl : lv_has ls 8 [(0, va_rf (some bS)), (1, va_rf rL1), (2, va_rf rL2), (3, va_rf rL3), (4, .int xL4)]) : W p l e room_1 s m #[Value.ref bS] below meth c H locs cells slots (lw_Z below #[Value.ref bS] s) (F0 m 511 ls [.int xS1, va_rf rS0]) := by
  have hRt : room_1.frames = 12 ∧ room_1.locals = 458 := ⟨rfl, rfl⟩
  unfold q_AckBookLaw_law_511 at h
  obtain ⟨a_, fs_, eo_, h⟩ := z_this_spec h
  obtain ⟨w1_, o1_, hF_, ha_⟩ := z_cV_spec h
  refine x_goesN ha_ (z_goV (As := [.int xS1]) hC hZ zc0 eo_ (k_AckBook_anxious hT hfl hE _ _ hF_) t_367 t_368 t_369 t_1 t_370 ⟨by decide, by decide, (by decide +kernel : (parseMethodDescriptor y_AckBook_anxious.desc).map (fun d => d.parameters.length) = some 1)⟩ (by rw [hRt.1]; decide) (by rw [hRt.2]; decide) hl.1 rfl (by first | exact Nat.le_of_ble_eq_true rfl | simp [z_rfc, z_ci, z_cj]) d_AckBookLaw_law_511) (fun v_ hv H locs cells slots hZ => ?_)
  obtain ⟨rfl, h⟩ := hv
  generalize w1_ = w at h hZ
  refine x_aload_n hC d_AckBookLaw_law_514 rfl (lv_at hl 2 rfl) ?_
  refine x_aload_n hC d_AckBookLaw_law_515 rfl (lv_at hl 0 rfl) ?_
  refine lv_iload hC.1 hC.2.1 d_AckBookLaw_law_516 (lv_at hl 4 rfl) ?_
  refine lv_iconst (v := (1 : Int32)) hC.1 hC.2.1 d_AckBookLaw_law_518 (by decide) ?_
  refine lv_iadd hC.1 hC.2.1 d_AckBookLaw_law_519 ?_
  refine x_scr hC hZ hX h d_AckBookLaw_law_520 (fun v33 h => ?_)
  refine lv_if_eq (tgt := 528) hC.1 hC.2.1 d_AckBookLaw_law_521 (by decide) (fun hc => ?_) (fun hc => ?_)
  · have h := z_ifp hc h
    refine lv_iconst (v := (0 : Int32)) hC.1 hC.2.1 d_AckBookLaw_law_528 (by decide) ?_
    exact kq_AckBookLaw_law_529 hT hfl hE hC hr hX hB hJ _ _ _ _ _ _ _ _ h _ _ _ _ _ hZ (lv_sub hl [0, 1, 2, 3, 4] rfl)
  · have h := z_ifn hc h
    refine lv_iconst (v := (1 : Int32)) hC.1 hC.2.1 d_AckBookLaw_law_524 (by decide) ?_
    refine lv_goto (tgt := 529) hC.1 hC.2.1 d_AckBookLaw_law_525 (by decide) ?_
    exact kq_AckBookLaw_law_529 hT hfl hE hC hr hX hB hJ _ _ _ _ _ _ _ _ h _ _ _ _ _ hZ (lv_sub hl [0, 1, 2, 3, 4] rfl)
def q_AckBookLaw_law_200 (F X : Nat) (xs : Nat → Int32) (L : Nat) (J : Option Nat → Option Nat → Option Nat → Int32 → zW → zR) (rL1 : Option Nat) (rL2 : Option Nat) (rL3 : Option Nat) (xL4 : Int32) (xL5 : Int32) (rS0 : Option Nat) (xS1 : Int32) (xS2 : Int32) (xS3 : Int32) (xS4 : Int32) (w : zW) : zR :=
  z_this w 10 rS0 <|
  z_cI (f_AckBookModel_send F X rS0 xS1 xS2 xS3 xS4 w) fun v35 w =>
  z_this w 10 rL2 <|
  z_cI (f_AckBookModel_thrown F X rL2 w) fun v37 w =>
  if v37 = xL5 then (
    if xL5 = 0 then (
      z_ldL w rL3 (0 : Int32) fun v38 =>
      if (lg_cmp v38 v35.toInt64) = 0 then (
        J rL1 rL2 rL3 (xL4 + (5 : Int32)) w)
      else (
        some (.inl (some (.int (0 : Int32))), w)))
    else (
      J rL1 rL2 rL3 (xL4 + (5 : Int32)) w))
  else (
    some (.inl (some (.int (0 : Int32))), w))
set_option maxHeartbeats 4000000 in
set_option maxRecDepth 100000 in
theorem kq_AckBookLaw_law_200 {b0 : Nat} {H0 : Heap} {D : va_G} {vu vs : Value} {X M : Nat} {l : Launch} (hT : z_TB (zGG b0 H0 D vu vs X M)) (hfl : l.flags = pinnedFlags ++ [noTraceFlag]) (hE : vu.isRef = true ∧ vs.isRef = true) {p : Program} {e : Env} {s : State} {m : MethodId} {below : List Frame} {meth : Method} {c : Code} {F bS L : Nat} {xs : Nat → Int32} (hC : z_C (zGG b0 H0 D vu vs X M) p e s m meth c code 8 R_law) (hr : meth.sig.returnType = ret) (hX : va_X bS L xs s H0 ∧ bS < b0) (hB : s.heap.size ≤ b0) {J : Option Nat → Option Nat → Option Nat → Int32 → zW → zR} (hJ : (∀ (rL1 : Option Nat) (rL2 : Option Nat) (rL3 : Option Nat) (xL4 : Int32) (w : zW) (wE : zW), J rL1 rL2 rL3 xL4 w = some (.inl (some (.int (1 : Int32))), wE) → ∀ (H : Heap) (locs : List Loc) (cells slots : Nat) (ls : Array Slot), z_Z (zGG b0 H0 D vu vs X M) room_1 s w H locs cells slots → lv_has ls 8 [(0, va_rf (some bS)), (1, va_rf rL1), (2, va_rf rL2), (3, va_rf rL3), (4, .int xL4)] → W p l e room_1 s m #[Value.ref bS] below meth c H locs cells slots (lw_Z below #[Value.ref bS] s) (F0 m 23 ls []))) (rL1 : Option Nat) (rL2 : Option Nat) (rL3 : Option Nat) (xL4 : Int32) (xL5 : Int32) (rS0 : Option Nat) (xS1 : Int32) (xS2 : Int32) (xS3 : Int32) (xS4 : Int32) (w : zW) (wE : zW) (h : q_AckBookLaw_law_200 F X xs L J rL1 rL2 rL3 xL4 xL5 rS0 xS1 xS2 xS3 xS4 w = some (.inl (some (.int (1 : Int32))), wE)) (H : Heap) (locs : List Loc) (cells slots : Nat) (ls : Array Slot) (hZ : z_Z (zGG b0 H0 D vu vs X M) room_1 s w H locs cells slots) (hl : lv_has ls 8 [(0, va_rf (some bS)), (1, va_rf rL1), (2, va_rf rL2), (3, va_rf rL3), (4, .int xL4), (5, .int xL5)]) : W p l e room_1 s m #[Value.ref bS] below meth c H locs cells slots (lw_Z below #[Value.ref bS] s) (F0 m 200 ls [.int xS4, .int xS3, .int xS2, .int xS1, va_rf rS0]) := by
  have hRt : room_1.frames = 12 ∧ room_1.locals = 458 := ⟨rfl, rfl⟩
  unfold q_AckBookLaw_law_200 at h
  obtain ⟨a_, fs_, eo_, h⟩ := z_this_spec h
  obtain ⟨w1_, o1_, hF_, ha_⟩ := z_cI_spec h
  refine x_goesN ha_ (z_goV (As := [.int xS1, .int xS2, .int xS3, .int xS4]) hC hZ zc10 eo_ (k_AckBookModel_send hT hfl hE _ _ hF_) t_940 t_941 t_942 t_12 t_943 ⟨by decide, by decide, (by decide +kernel : (parseMethodDescriptor y_AckBookModel_send.desc).map (fun d => d.parameters.length) = some 4)⟩ (by rw [hRt.1]; decide) (by rw [hRt.2]; decide) hl.1 rfl (by first | exact Nat.le_of_ble_eq_true rfl | simp [z_rfc, z_ci, z_cj]) d_AckBookLaw_law_200) (fun v_ hv H locs cells slots hZ => ?_)
  obtain ⟨v35, rfl, h⟩ := hv
  generalize w1_ = w at h hZ
  refine lv_istore (i := 6) (lv' := [(6, .int v35), (0, va_rf (some bS)), (1, va_rf rL1), (2, va_rf rL2), (3, va_rf rL3), (4, .int xL4), (5, .int xL5)]) hC.1 hC.2.1 d_AckBookLaw_law_203 hl (by decide) (by first | rfl | simp [z_rfc, z_ci, z_cj]) (fun ls hl => ?_)
  refine x_aload_n hC d_AckBookLaw_law_205 rfl (lv_at hl 3 rfl) ?_
  obtain ⟨a_, fs_, eo_, h⟩ := z_this_spec h
  obtain ⟨w1_, o1_, hF_, ha_⟩ := z_cI_spec h
  refine x_goesN ha_ (z_goV (As := []) hC hZ zc10 eo_ (k_AckBookModel_thrown hT hfl hE _ _ hF_) t_936 t_937 t_938 t_12 t_939 ⟨by decide, by decide, (by decide +kernel : (parseMethodDescriptor y_AckBookModel_thrown.desc).map (fun d => d.parameters.length) = some 0)⟩ (by rw [hRt.1]; decide) (by rw [hRt.2]; decide) hl.1 rfl (by first | exact Nat.le_of_ble_eq_true rfl | simp [z_rfc, z_ci, z_cj]) d_AckBookLaw_law_206) (fun v_ hv H locs cells slots hZ => ?_)
  obtain ⟨v37, rfl, h⟩ := hv
  generalize w1_ = w at h hZ
  refine lv_iload hC.1 hC.2.1 d_AckBookLaw_law_209 (lv_at hl 6 rfl) ?_
  refine lv_icmp_eq (tgt := 216) hC.1 hC.2.1 d_AckBookLaw_law_211 (by decide) (fun hc => ?_) (fun hc => ?_)
  · have h := z_ifp hc h
    refine lv_iload hC.1 hC.2.1 d_AckBookLaw_law_216 (lv_at hl 6 rfl) ?_
    refine lv_if_ne (tgt := 233) hC.1 hC.2.1 d_AckBookLaw_law_218 (by decide) (fun hc => ?_) (fun hc => ?_)
    · have h := z_ifn hc h
      refine lv_goto (tgt := 1159) hC.1 hC.2.1 d_AckBookLaw_law_233 (by decide) ?_
      refine lv_iinc (lv' := [(4, .int (xL4 + (5 : Int32))), (6, .int v35), (0, va_rf (some bS)), (1, va_rf rL1), (2, va_rf rL2), (3, va_rf rL3), (5, .int xL5)]) hC.1 hC.2.1 d_AckBookLaw_law_1159 hl (k := 5) rfl rfl (by decide) (by first | rfl | simp [z_rfc, z_ci, z_cj]) (fun ls hl => ?_)
      refine lv_goto (tgt := 23) hC.1 hC.2.1 d_AckBookLaw_law_1162 (by decide) ?_
      exact hJ _ _ _ _ _ _ h _ _ _ _ _ hZ (lv_sub hl [2, 3, 4, 5, 0] rfl)
    · have h := z_ifp hc h
      refine x_aload_n hC d_AckBookLaw_law_221 rfl (lv_at hl 4 rfl) ?_
      refine lv_iconst (v := (0 : Int32)) hC.1 hC.2.1 d_AckBookLaw_law_222 (by decide) ?_
      refine x_ldL hC hZ h d_AckBookLaw_law_223 (fun v38 h => ?_)
      refine lv_iload hC.1 hC.2.1 d_AckBookLaw_law_224 (lv_at hl 0 rfl) ?_
      refine lv_i2l hC.1 hC.2.1 d_AckBookLaw_law_226 rfl ?_
      refine W.lcmp hC.1 hC.2.1 d_AckBookLaw_law_227 ?_
      refine lv_if_eq (tgt := 233) hC.1 hC.2.1 d_AckBookLaw_law_228 (by decide) (fun hc => ?_) (fun hc => ?_)
      · have h := z_ifp hc h
        refine lv_goto (tgt := 1159) hC.1 hC.2.1 d_AckBookLaw_law_233 (by decide) ?_
        refine lv_iinc (lv' := [(4, .int (xL4 + (5 : Int32))), (6, .int v35), (0, va_rf (some bS)), (1, va_rf rL1), (2, va_rf rL2), (3, va_rf rL3), (5, .int xL5)]) hC.1 hC.2.1 d_AckBookLaw_law_1159 hl (k := 5) rfl rfl (by decide) (by first | rfl | simp [z_rfc, z_ci, z_cj]) (fun ls hl => ?_)
        refine lv_goto (tgt := 23) hC.1 hC.2.1 d_AckBookLaw_law_1162 (by decide) ?_
        exact hJ _ _ _ _ _ _ h _ _ _ _ _ hZ (lv_sub hl [2, 3, 4, 5, 0] rfl)
      · have h := z_ifn hc h
        refine lv_iconst (v := (0 : Int32)) hC.1 hC.2.1 d_AckBookLaw_law_231 (by decide) ?_
        exact (z_no0 h).elim
  · have h := z_ifn hc h
    refine lv_iconst (v := (0 : Int32)) hC.1 hC.2.1 d_AckBookLaw_law_214 (by decide) ?_
    exact (z_no0 h).elim
def q_AckBookLaw_law_186 (F X : Nat) (xs : Nat → Int32) (L : Nat) (J : Option Nat → Option Nat → Option Nat → Int32 → zW → zR) (rL1 : Option Nat) (rL2 : Option Nat) (rL3 : Option Nat) (xL4 : Int32) (xL5 : Int32) (rS0 : Option Nat) (xS1 : Int32) (xS2 : Int32) (xS3 : Int32) (w : zW) : zR :=
  z_scr xs L (xL4 + (4 : Int32)) fun v39 =>
  if v39 = 0 then (
    q_AckBookLaw_law_200 F X xs L J rL1 rL2 rL3 xL4 xL5 rS0 xS1 xS2 xS3 (0 : Int32) w)
  else (
    q_AckBookLaw_law_200 F X xs L J rL1 rL2 rL3 xL4 xL5 rS0 xS1 xS2 xS3 (1 : Int32) w)
set_option maxHeartbeats 4000000 in
set_option maxRecDepth 100000 in
theorem kq_AckBookLaw_law_186 {b0 : Nat} {H0 : Heap} {D : va_G} {vu vs : Value} {X M : Nat} {l : Launch} (hT : z_TB (zGG b0 H0 D vu vs X M)) (hfl : l.flags = pinnedFlags ++ [noTraceFlag]) (hE : vu.isRef = true ∧ vs.isRef = true) {p : Program} {e : Env} {s : State} {m : MethodId} {below : List Frame} {meth : Method} {c : Code} {F bS L : Nat} {xs : Nat → Int32} (hC : z_C (zGG b0 H0 D vu vs X M) p e s m meth c code 8 R_law) (hr : meth.sig.returnType = ret) (hX : va_X bS L xs s H0 ∧ bS < b0) (hB : s.heap.size ≤ b0) {J : Option Nat → Option Nat → Option Nat → Int32 → zW → zR} (hJ : (∀ (rL1 : Option Nat) (rL2 : Option Nat) (rL3 : Option Nat) (xL4 : Int32) (w : zW) (wE : zW), J rL1 rL2 rL3 xL4 w = some (.inl (some (.int (1 : Int32))), wE) → ∀ (H : Heap) (locs : List Loc) (cells slots : Nat) (ls : Array Slot), z_Z (zGG b0 H0 D vu vs X M) room_1 s w H locs cells slots → lv_has ls 8 [(0, va_rf (some bS)), (1, va_rf rL1), (2, va_rf rL2), (3, va_rf rL3), (4, .int xL4)] → W p l e room_1 s m #[Value.ref bS] below meth c H locs cells slots (lw_Z below #[Value.ref bS] s) (F0 m 23 ls []))) (rL1 : Option Nat) (rL2 : Option Nat) (rL3 : Option Nat) (xL4 : Int32) (xL5 : Int32) (rS0 : Option Nat) (xS1 : Int32) (xS2 : Int32) (xS3 : Int32) (w : zW) (wE : zW) (h : q_AckBookLaw_law_186 F X xs L J rL1 rL2 rL3 xL4 xL5 rS0 xS1 xS2 xS3 w = some (.inl (some (.int (1 : Int32))), wE)) (H : Heap) (locs : List Loc) (cells slots : Nat) (ls : Array Slot) (hZ : z_Z (zGG b0 H0 D vu vs X M) room_1 s w H locs cells slots) (hl : lv_has ls 8 [(0, va_rf (some bS)), (1, va_rf rL1), (2, va_rf rL2), (3, va_rf rL3), (4, .int xL4), (5, .int xL5)]) : W p l e room_1 s m #[Value.ref bS] below meth c H locs cells slots (lw_Z below #[Value.ref bS] s) (F0 m 186 ls [.int xS3, .int xS2, .int xS1, va_rf rS0]) := by
  have hRt : room_1.frames = 12 ∧ room_1.locals = 458 := ⟨rfl, rfl⟩
  unfold q_AckBookLaw_law_186 at h
  refine x_aload_n hC d_AckBookLaw_law_186 rfl (lv_at hl 0 rfl) ?_
  refine lv_iload hC.1 hC.2.1 d_AckBookLaw_law_187 (lv_at hl 4 rfl) ?_
  refine lv_iconst (v := (4 : Int32)) hC.1 hC.2.1 d_AckBookLaw_law_189 (by decide) ?_
  refine lv_iadd hC.1 hC.2.1 d_AckBookLaw_law_190 ?_
  refine x_scr hC hZ hX h d_AckBookLaw_law_191 (fun v39 h => ?_)
  refine lv_if_eq (tgt := 199) hC.1 hC.2.1 d_AckBookLaw_law_192 (by decide) (fun hc => ?_) (fun hc => ?_)
  · have h := z_ifp hc h
    refine lv_iconst (v := (0 : Int32)) hC.1 hC.2.1 d_AckBookLaw_law_199 (by decide) ?_
    exact kq_AckBookLaw_law_200 hT hfl hE hC hr hX hB hJ _ _ _ _ _ _ _ _ _ _ _ _ h _ _ _ _ _ hZ (lv_sub hl [0, 1, 2, 3, 4, 5] rfl)
  · have h := z_ifn hc h
    refine lv_iconst (v := (1 : Int32)) hC.1 hC.2.1 d_AckBookLaw_law_195 (by decide) ?_
    refine lv_goto (tgt := 200) hC.1 hC.2.1 d_AckBookLaw_law_196 (by decide) ?_
    exact kq_AckBookLaw_law_200 hT hfl hE hC hr hX hB hJ _ _ _ _ _ _ _ _ _ _ _ _ h _ _ _ _ _ hZ (lv_sub hl [0, 1, 2, 3, 4, 5] rfl)
def q_AckBookLaw_law_153 (F X : Nat) (xs : Nat → Int32) (L : Nat) (J : Option Nat → Option Nat → Option Nat → Int32 → zW → zR) (rL1 : Option Nat) (rL2 : Option Nat) (rL3 : Option Nat) (xL4 : Int32) (rS0 : Option Nat) (xS1 : Int32) (xS2 : Int32) (xS3 : Int32) (xS4 : Int32) (w : zW) : zR :=
  z_cI (f_AckBookLaw_send F X rS0 xS1 xS2 xS3 xS4 rL3 w) fun v41 w =>
  z_scr xs L (xL4 + (1 : Int32)) fun v42 =>
  z_scr xs L (xL4 + (2 : Int32)) fun v43 =>
  z_scr xs L (xL4 + (3 : Int32)) fun v44 =>
  if v44 = 0 then (
    q_AckBookLaw_law_186 F X xs L J rL1 rL2 rL3 xL4 v41 rL2 v42 v43 (0 : Int32) w)
  else (
    q_AckBookLaw_law_186 F X xs L J rL1 rL2 rL3 xL4 v41 rL2 v42 v43 (1 : Int32) w)
set_option maxHeartbeats 4000000 in
set_option maxRecDepth 100000 in
theorem kq_AckBookLaw_law_153 {b0 : Nat} {H0 : Heap} {D : va_G} {vu vs : Value} {X M : Nat} {l : Launch} (hT : z_TB (zGG b0 H0 D vu vs X M)) (hfl : l.flags = pinnedFlags ++ [noTraceFlag]) (hE : vu.isRef = true ∧ vs.isRef = true) {p : Program} {e : Env} {s : State} {m : MethodId} {below : List Frame} {meth : Method} {c : Code} {F bS L : Nat} {xs : Nat → Int32} (hC : z_C (zGG b0 H0 D vu vs X M) p e s m meth c code 8 R_law) (hr : meth.sig.returnType = ret) (hX : va_X bS L xs s H0 ∧ bS < b0) (hB : s.heap.size ≤ b0) {J : Option Nat → Option Nat → Option Nat → Int32 → zW → zR} (hJ : (∀ (rL1 : Option Nat) (rL2 : Option Nat) (rL3 : Option Nat) (xL4 : Int32) (w : zW) (wE : zW), J rL1 rL2 rL3 xL4 w = some (.inl (some (.int (1 : Int32))), wE) → ∀ (H : Heap) (locs : List Loc) (cells slots : Nat) (ls : Array Slot), z_Z (zGG b0 H0 D vu vs X M) room_1 s w H locs cells slots → lv_has ls 8 [(0, va_rf (some bS)), (1, va_rf rL1), (2, va_rf rL2), (3, va_rf rL3), (4, .int xL4)] → W p l e room_1 s m #[Value.ref bS] below meth c H locs cells slots (lw_Z below #[Value.ref bS] s) (F0 m 23 ls []))) (rL1 : Option Nat) (rL2 : Option Nat) (rL3 : Option Nat) (xL4 : Int32) (rS0 : Option Nat) (xS1 : Int32) (xS2 : Int32) (xS3 : Int32) (xS4 : Int32) (w : zW) (wE : zW) (h : q_AckBookLaw_law_153 F X xs L J rL1 rL2 rL3 xL4 rS0 xS1 xS2 xS3 xS4 w = some (.inl (some (.int (1 : Int32))), wE)) (H : Heap) (locs : List Loc) (cells slots : Nat) (ls : Array Slot) (hZ : z_Z (zGG b0 H0 D vu vs X M) room_1 s w H locs cells slots) (hl : lv_has ls 8 [(0, va_rf (some bS)), (1, va_rf rL1), (2, va_rf rL2), (3, va_rf rL3), (4, .int xL4)]) : W p l e room_1 s m #[Value.ref bS] below meth c H locs cells slots (lw_Z below #[Value.ref bS] s) (F0 m 153 ls [.int xS4, .int xS3, .int xS2, .int xS1, va_rf rS0]) := by
  have hRt : room_1.frames = 12 ∧ room_1.locals = 458 := ⟨rfl, rfl⟩
  unfold q_AckBookLaw_law_153 at h
  refine x_aload_n hC d_AckBookLaw_law_153 rfl (lv_at hl 3 rfl) ?_
  obtain ⟨w1_, o1_, hF_, ha_⟩ := z_cI_spec h
  refine x_goesN ha_ (z_goSW (As := [va_rf rS0, .int xS1, .int xS2, .int xS3, .int xS4, va_rf rL3]) hC hZ (k_AckBookLaw_send hT hfl hE _ _ hF_) t_371 t_372 t_0 t_373 ⟨by decide, by decide, (by decide +kernel : (parseMethodDescriptor y_AckBookLaw_send.desc).map (fun d => d.parameters.length) = some 6)⟩ (by rw [hRt.1]; decide) (by rw [hRt.2]; decide) hl.1 rfl (by first | exact Nat.le_of_ble_eq_true rfl | simp [z_rfc, z_ci, z_cj]) d_AckBookLaw_law_154) (fun v_ hv H locs cells slots hZ => ?_)
  obtain ⟨v41, rfl, h⟩ := hv
  generalize w1_ = w at h hZ
  refine lv_istore (i := 5) (lv' := [(5, .int v41), (0, va_rf (some bS)), (1, va_rf rL1), (2, va_rf rL2), (3, va_rf rL3), (4, .int xL4)]) hC.1 hC.2.1 d_AckBookLaw_law_157 hl (by decide) (by first | rfl | simp [z_rfc, z_ci, z_cj]) (fun ls hl => ?_)
  refine x_aload_n hC d_AckBookLaw_law_159 rfl (lv_at hl 3 rfl) ?_
  refine x_aload_n hC d_AckBookLaw_law_160 rfl (lv_at hl 1 rfl) ?_
  refine lv_iload hC.1 hC.2.1 d_AckBookLaw_law_161 (lv_at hl 5 rfl) ?_
  refine lv_iconst (v := (1 : Int32)) hC.1 hC.2.1 d_AckBookLaw_law_163 (by decide) ?_
  refine lv_iadd hC.1 hC.2.1 d_AckBookLaw_law_164 ?_
  refine x_scr hC hZ hX h d_AckBookLaw_law_165 (fun v42 h => ?_)
  refine x_aload_n hC d_AckBookLaw_law_166 rfl (lv_at hl 1 rfl) ?_
  refine lv_iload hC.1 hC.2.1 d_AckBookLaw_law_167 (lv_at hl 5 rfl) ?_
  refine lv_iconst (v := (2 : Int32)) hC.1 hC.2.1 d_AckBookLaw_law_169 (by decide) ?_
  refine lv_iadd hC.1 hC.2.1 d_AckBookLaw_law_170 ?_
  refine x_scr hC hZ hX h d_AckBookLaw_law_171 (fun v43 h => ?_)
  refine x_aload_n hC d_AckBookLaw_law_172 rfl (lv_at hl 1 rfl) ?_
  refine lv_iload hC.1 hC.2.1 d_AckBookLaw_law_173 (lv_at hl 5 rfl) ?_
  refine lv_iconst (v := (3 : Int32)) hC.1 hC.2.1 d_AckBookLaw_law_175 (by decide) ?_
  refine lv_iadd hC.1 hC.2.1 d_AckBookLaw_law_176 ?_
  refine x_scr hC hZ hX h d_AckBookLaw_law_177 (fun v44 h => ?_)
  refine lv_if_eq (tgt := 185) hC.1 hC.2.1 d_AckBookLaw_law_178 (by decide) (fun hc => ?_) (fun hc => ?_)
  · have h := z_ifp hc h
    refine lv_iconst (v := (0 : Int32)) hC.1 hC.2.1 d_AckBookLaw_law_185 (by decide) ?_
    exact kq_AckBookLaw_law_186 hT hfl hE hC hr hX hB hJ _ _ _ _ _ _ _ _ _ _ _ h _ _ _ _ _ hZ (lv_sub hl [1, 2, 3, 4, 5, 0] rfl)
  · have h := z_ifn hc h
    refine lv_iconst (v := (1 : Int32)) hC.1 hC.2.1 d_AckBookLaw_law_181 (by decide) ?_
    refine lv_goto (tgt := 186) hC.1 hC.2.1 d_AckBookLaw_law_182 (by decide) ?_
    exact kq_AckBookLaw_law_186 hT hfl hE hC hr hX hB hJ _ _ _ _ _ _ _ _ _ _ _ h _ _ _ _ _ hZ (lv_sub hl [1, 2, 3, 4, 5, 0] rfl)
def q_AckBookLaw_law_139 (F X : Nat) (xs : Nat → Int32) (L : Nat) (J : Option Nat → Option Nat → Option Nat → Int32 → zW → zR) (rL1 : Option Nat) (rL2 : Option Nat) (rL3 : Option Nat) (xL4 : Int32) (rS0 : Option Nat) (xS1 : Int32) (xS2 : Int32) (xS3 : Int32) (w : zW) : zR :=
  z_scr xs L (xL4 + (4 : Int32)) fun v45 =>
  if v45 = 0 then (
    q_AckBookLaw_law_153 F X xs L J rL1 rL2 rL3 xL4 rS0 xS1 xS2 xS3 (0 : Int32) w)
  else (
    q_AckBookLaw_law_153 F X xs L J rL1 rL2 rL3 xL4 rS0 xS1 xS2 xS3 (1 : Int32) w)
set_option maxHeartbeats 4000000 in
set_option maxRecDepth 100000 in
theorem kq_AckBookLaw_law_139 {b0 : Nat} {H0 : Heap} {D : va_G} {vu vs : Value} {X M : Nat} {l : Launch} (hT : z_TB (zGG b0 H0 D vu vs X M)) (hfl : l.flags = pinnedFlags ++ [noTraceFlag]) (hE : vu.isRef = true ∧ vs.isRef = true) {p : Program} {e : Env} {s : State} {m : MethodId} {below : List Frame} {meth : Method} {c : Code} {F bS L : Nat} {xs : Nat → Int32} (hC : z_C (zGG b0 H0 D vu vs X M) p e s m meth c code 8 R_law) (hr : meth.sig.returnType = ret) (hX : va_X bS L xs s H0 ∧ bS < b0) (hB : s.heap.size ≤ b0) {J : Option Nat → Option Nat → Option Nat → Int32 → zW → zR} (hJ : (∀ (rL1 : Option Nat) (rL2 : Option Nat) (rL3 : Option Nat) (xL4 : Int32) (w : zW) (wE : zW), J rL1 rL2 rL3 xL4 w = some (.inl (some (.int (1 : Int32))), wE) → ∀ (H : Heap) (locs : List Loc) (cells slots : Nat) (ls : Array Slot), z_Z (zGG b0 H0 D vu vs X M) room_1 s w H locs cells slots → lv_has ls 8 [(0, va_rf (some bS)), (1, va_rf rL1), (2, va_rf rL2), (3, va_rf rL3), (4, .int xL4)] → W p l e room_1 s m #[Value.ref bS] below meth c H locs cells slots (lw_Z below #[Value.ref bS] s) (F0 m 23 ls []))) (rL1 : Option Nat) (rL2 : Option Nat) (rL3 : Option Nat) (xL4 : Int32) (rS0 : Option Nat) (xS1 : Int32) (xS2 : Int32) (xS3 : Int32) (w : zW) (wE : zW) (h : q_AckBookLaw_law_139 F X xs L J rL1 rL2 rL3 xL4 rS0 xS1 xS2 xS3 w = some (.inl (some (.int (1 : Int32))), wE)) (H : Heap) (locs : List Loc) (cells slots : Nat) (ls : Array Slot) (hZ : z_Z (zGG b0 H0 D vu vs X M) room_1 s w H locs cells slots) (hl : lv_has ls 8 [(0, va_rf (some bS)), (1, va_rf rL1), (2, va_rf rL2), (3, va_rf rL3), (4, .int xL4)]) : W p l e room_1 s m #[Value.ref bS] below meth c H locs cells slots (lw_Z below #[Value.ref bS] s) (F0 m 139 ls [.int xS3, .int xS2, .int xS1, va_rf rS0]) := by
  have hRt : room_1.frames = 12 ∧ room_1.locals = 458 := ⟨rfl, rfl⟩
  unfold q_AckBookLaw_law_139 at h
  refine x_aload_n hC d_AckBookLaw_law_139 rfl (lv_at hl 0 rfl) ?_
  refine lv_iload hC.1 hC.2.1 d_AckBookLaw_law_140 (lv_at hl 4 rfl) ?_
  refine lv_iconst (v := (4 : Int32)) hC.1 hC.2.1 d_AckBookLaw_law_142 (by decide) ?_
  refine lv_iadd hC.1 hC.2.1 d_AckBookLaw_law_143 ?_
  refine x_scr hC hZ hX h d_AckBookLaw_law_144 (fun v45 h => ?_)
  refine lv_if_eq (tgt := 152) hC.1 hC.2.1 d_AckBookLaw_law_145 (by decide) (fun hc => ?_) (fun hc => ?_)
  · have h := z_ifp hc h
    refine lv_iconst (v := (0 : Int32)) hC.1 hC.2.1 d_AckBookLaw_law_152 (by decide) ?_
    exact kq_AckBookLaw_law_153 hT hfl hE hC hr hX hB hJ _ _ _ _ _ _ _ _ _ _ _ h _ _ _ _ _ hZ (lv_sub hl [0, 1, 2, 3, 4] rfl)
  · have h := z_ifn hc h
    refine lv_iconst (v := (1 : Int32)) hC.1 hC.2.1 d_AckBookLaw_law_148 (by decide) ?_
    refine lv_goto (tgt := 153) hC.1 hC.2.1 d_AckBookLaw_law_149 (by decide) ?_
    exact kq_AckBookLaw_law_153 hT hfl hE hC hr hX hB hJ _ _ _ _ _ _ _ _ _ _ _ h _ _ _ _ _ hZ (lv_sub hl [0, 1, 2, 3, 4] rfl)
def j_AckBookLaw_law (F X : Nat) (xs : Nat → Int32) (L : Nat) : Nat → Option Nat → Option Nat → Option Nat → Int32 → zW → zR
  | 0, _, _, _, _, _ => none
  | N + 1, rL1, rL2, rL3, xL4, w =>
    z_scl L fun v46 =>
    if (v46 - (5 : Int32)) < xL4 then (
      some (.inl (some (.int (1 : Int32))), w))
    else (
      z_scr xs L xL4 fun v47 =>
      if (v47 &&& (15 : Int32)) = (0 : Int32) then (
        z_scr xs L (xL4 + (1 : Int32)) fun v48 =>
        z_scr xs L (xL4 + (2 : Int32)) fun v49 =>
        z_scr xs L (xL4 + (3 : Int32)) fun v50 =>
        if v50 = 0 then (
          q_AckBookLaw_law_139 F X xs L (j_AckBookLaw_law F X xs L N) rL1 rL2 rL3 xL4 rL1 v48 v49 (0 : Int32) w)
        else (
          q_AckBookLaw_law_139 F X xs L (j_AckBookLaw_law F X xs L N) rL1 rL2 rL3 xL4 rL1 v48 v49 (1 : Int32) w))
      else if (v47 &&& (15 : Int32)) = (1 : Int32) then (
        z_scr xs L (xL4 + (1 : Int32)) fun v51 =>
        z_scr xs L (xL4 + (2 : Int32)) fun v52 =>
        z_scr xs L (xL4 + (3 : Int32)) fun v53 =>
        z_scr xs L (xL4 + (4 : Int32)) fun v54 =>
        z_cI (f_AckBookLaw_span F X rL1 ((v51.toInt64 <<< ((32 : Int32).toInt64 &&& 63)) ||| (v52.toInt64 &&& (4294967295 : Int64))) ((v53.toInt64 <<< ((32 : Int32).toInt64 &&& 63)) ||| (v54.toInt64 &&& (4294967295 : Int64))) rL3 w) fun v56 w =>
        z_scr xs L (xL4 + (1 : Int32)) fun v57 =>
        z_scr xs L (xL4 + (2 : Int32)) fun v58 =>
        z_scr xs L (xL4 + (3 : Int32)) fun v59 =>
        z_scr xs L (xL4 + (4 : Int32)) fun v60 =>
        z_this w 10 rL2 <|
        z_cI (f_AckBookModel_span F X rL2 ((v57.toInt64 <<< ((32 : Int32).toInt64 &&& 63)) ||| (v58.toInt64 &&& (4294967295 : Int64))) ((v59.toInt64 <<< ((32 : Int32).toInt64 &&& 63)) ||| (v60.toInt64 &&& (4294967295 : Int64))) w) fun v62 w =>
        z_this w 10 rL2 <|
        z_cI (f_AckBookModel_thrown F X rL2 w) fun v64 w =>
        if v64 = v56 then (
          if v56 = 0 then (
            z_ldL w rL3 (0 : Int32) fun v65 =>
            if (lg_cmp v65 v62.toInt64) = 0 then (
              (j_AckBookLaw_law F X xs L N) rL1 rL2 rL3 (xL4 + (5 : Int32)) w)
            else (
              some (.inl (some (.int (0 : Int32))), w)))
          else (
            (j_AckBookLaw_law F X xs L N) rL1 rL2 rL3 (xL4 + (5 : Int32)) w))
        else (
          some (.inl (some (.int (0 : Int32))), w)))
      else if (v47 &&& (15 : Int32)) = (2 : Int32) then (
        z_scr xs L (xL4 + (1 : Int32)) fun v66 =>
        z_scr xs L (xL4 + (2 : Int32)) fun v67 =>
        z_cI (f_AckBookLaw_acknowledge F X rL1 v66 v67 rL3 w) fun v69 w =>
        z_scr xs L (xL4 + (1 : Int32)) fun v70 =>
        z_scr xs L (xL4 + (2 : Int32)) fun v71 =>
        z_this w 10 rL2 <|
        z_cI (f_AckBookModel_acknowledge F X rL2 v70 v71 w) fun v73 w =>
        z_this w 10 rL2 <|
        z_cI (f_AckBookModel_thrown F X rL2 w) fun v75 w =>
        if v75 = v69 then (
          if v69 = 0 then (
            z_ldL w rL3 (0 : Int32) fun v76 =>
            if (lg_cmp v76 v73.toInt64) = 0 then (
              (j_AckBookLaw_law F X xs L N) rL1 rL2 rL3 (xL4 + (5 : Int32)) w)
            else (
              some (.inl (some (.int (0 : Int32))), w)))
          else (
            (j_AckBookLaw_law F X xs L N) rL1 rL2 rL3 (xL4 + (5 : Int32)) w))
        else (
          some (.inl (some (.int (0 : Int32))), w)))
      else if (v47 &&& (15 : Int32)) = (3 : Int32) then (
        z_this w 0 rL1 <|
        z_cI (f_AckBook_tick F X rL1 w) fun v78 w =>
        z_this w 10 rL2 <|
        z_cI (f_AckBookModel_tick F X rL2 w) fun v80 w =>
        if v78 = v80 then (
          (j_AckBookLaw_law F X xs L N) rL1 rL2 rL3 (xL4 + (5 : Int32)) w)
        else (
          some (.inl (some (.int (0 : Int32))), w)))
      else if (v47 &&& (15 : Int32)) = (4 : Int32) then (
        z_scr xs L (xL4 + (1 : Int32)) fun v81 =>
        z_cI (f_AckBookLaw_discard F X rL1 v81 w) fun v83 w =>
        z_scr xs L (xL4 + (1 : Int32)) fun v84 =>
        z_this w 10 rL2 <|
        z_cV (f_AckBookModel_discard F X rL2 v84 w) fun w =>
        z_this w 10 rL2 <|
        z_cI (f_AckBookModel_thrown F X rL2 w) fun v87 w =>
        if v87 = v83 then (
          (j_AckBookLaw_law F X xs L N) rL1 rL2 rL3 (xL4 + (5 : Int32)) w)
        else (
          some (.inl (some (.int (0 : Int32))), w)))
      else if (v47 &&& (15 : Int32)) = (5 : Int32) then (
        z_this w 0 rL1 <|
        z_cV (f_AckBook_confirm F X rL1 w) fun w =>
        z_this w 10 rL2 <|
        z_cV (f_AckBookModel_confirm F X rL2 w) fun w =>
        (j_AckBookLaw_law F X xs L N) rL1 rL2 rL3 (xL4 + (5 : Int32)) w)
      else if (v47 &&& (15 : Int32)) = (6 : Int32) then (
        z_scr xs L (xL4 + (1 : Int32)) fun v90 =>
        if v90 = 0 then (
          q_AckBookLaw_law_511 F X xs L (j_AckBookLaw_law F X xs L N) rL1 rL2 rL3 xL4 rL1 (0 : Int32) w)
        else (
          q_AckBookLaw_law_511 F X xs L (j_AckBookLaw_law F X xs L N) rL1 rL2 rL3 xL4 rL1 (1 : Int32) w))
      else if (v47 &&& (15 : Int32)) = (7 : Int32) then (
        z_scr xs L (xL4 + (1 : Int32)) fun v91 =>
        z_scr xs L (xL4 + (2 : Int32)) fun v92 =>
        if v92 = 0 then (
          q_AckBookLaw_law_556 F X xs L (j_AckBookLaw_law F X xs L N) rL1 rL2 rL3 xL4 rL1 v91 (0 : Int32) w)
        else (
          q_AckBookLaw_law_556 F X xs L (j_AckBookLaw_law F X xs L N) rL1 rL2 rL3 xL4 rL1 v91 (1 : Int32) w))
      else if (v47 &&& (15 : Int32)) = (8 : Int32) then (
        z_scr xs L (xL4 + (1 : Int32)) fun v93 =>
        z_scr xs L (xL4 + (2 : Int32)) fun v94 =>
        z_cI (f_AckBookLaw_state F X rL1 v93 v94 rL3 w) fun v96 w =>
        z_scr xs L (xL4 + (1 : Int32)) fun v97 =>
        z_scr xs L (xL4 + (2 : Int32)) fun v98 =>
        z_this w 10 rL2 <|
        z_cI (f_AckBookModel_state F X rL2 v97 v98 w) fun v100 w =>
        z_this w 10 rL2 <|
        z_cI (f_AckBookModel_thrown F X rL2 w) fun v102 w =>
        if v102 = v96 then (
          if v96 = 0 then (
            z_ldL w rL3 (0 : Int32) fun v103 =>
            if (lg_cmp v103 v100.toInt64) = 0 then (
              (j_AckBookLaw_law F X xs L N) rL1 rL2 rL3 (xL4 + (5 : Int32)) w)
            else (
              some (.inl (some (.int (0 : Int32))), w)))
          else (
            (j_AckBookLaw_law F X xs L N) rL1 rL2 rL3 (xL4 + (5 : Int32)) w))
        else (
          some (.inl (some (.int (0 : Int32))), w)))
      else if (v47 &&& (15 : Int32)) = (9 : Int32) then (
        z_scr xs L (xL4 + (1 : Int32)) fun v104 =>
        z_scr xs L (xL4 + (2 : Int32)) fun v105 =>
        z_scr xs L (xL4 + (3 : Int32)) fun v106 =>
        z_scr xs L (xL4 + (4 : Int32)) fun v107 =>
        if v107 = 0 then (
          q_AckBookLaw_law_730 F X xs L (j_AckBookLaw_law F X xs L N) rL1 rL2 rL3 xL4 rL1 v104 ((v105.toInt64 <<< ((32 : Int32).toInt64 &&& 63)) ||| (v106.toInt64 &&& (4294967295 : Int64))) (0 : Int32) w)
        else (
          q_AckBookLaw_law_730 F X xs L (j_AckBookLaw_law F X xs L N) rL1 rL2 rL3 xL4 rL1 v104 ((v105.toInt64 <<< ((32 : Int32).toInt64 &&& 63)) ||| (v106.toInt64 &&& (4294967295 : Int64))) (1 : Int32) w))
      else if (v47 &&& (15 : Int32)) = (10 : Int32) then (
        z_scr xs L (xL4 + (1 : Int32)) fun v108 =>
        z_cI (f_AckBookLaw_due F X rL1 v108 rL3 w) fun v110 w =>
        z_scr xs L (xL4 + (1 : Int32)) fun v111 =>
        z_this w 10 rL2 <|
        z_cI (f_AckBookModel_due F X rL2 v111 w) fun v113 w =>
        z_this w 10 rL2 <|
        z_cI (f_AckBookModel_thrown F X rL2 w) fun v115 w =>
        if v115 = v110 then (
          if v110 = 0 then (
            z_ldL w rL3 (0 : Int32) fun v116 =>
            if v113 = 0 then (
              q_AckBookLaw_law_876 F X xs L (j_AckBookLaw_law F X xs L N) rL1 rL2 rL3 xL4 v116 (0 : Int64) w)
            else (
              q_AckBookLaw_law_876 F X xs L (j_AckBookLaw_law F X xs L N) rL1 rL2 rL3 xL4 v116 (1 : Int64) w))
          else (
            (j_AckBookLaw_law F X xs L N) rL1 rL2 rL3 (xL4 + (5 : Int32)) w))
        else (
          some (.inl (some (.int (0 : Int32))), w)))
      else if (v47 &&& (15 : Int32)) = (11 : Int32) then (
        z_scr xs L (xL4 + (1 : Int32)) fun v117 =>
        z_cI (f_AckBookLaw_written F X rL1 v117 rL3 w) fun v119 w =>
        z_scr xs L (xL4 + (1 : Int32)) fun v120 =>
        z_this w 10 rL2 <|
        z_cI (f_AckBookModel_written F X rL2 v120 w) fun v122 w =>
        z_this w 10 rL2 <|
        z_cI (f_AckBookModel_thrown F X rL2 w) fun v124 w =>
        if v124 = v119 then (
          if v119 = 0 then (
            z_ldL w rL3 (0 : Int32) fun v125 =>
            if (lg_cmp v125 v122.toInt64) = 0 then (
              (j_AckBookLaw_law F X xs L N) rL1 rL2 rL3 (xL4 + (5 : Int32)) w)
            else (
              some (.inl (some (.int (0 : Int32))), w)))
          else (
            (j_AckBookLaw_law F X xs L N) rL1 rL2 rL3 (xL4 + (5 : Int32)) w))
        else (
          some (.inl (some (.int (0 : Int32))), w)))
      else if (v47 &&& (15 : Int32)) = (12 : Int32) then (
        z_scr xs L (xL4 + (1 : Int32)) fun v126 =>
        z_scr xs L (xL4 + (2 : Int32)) fun v127 =>
        z_scr xs L (xL4 + (3 : Int32)) fun v128 =>
        if v128 = 0 then (
          q_AckBookLaw_law_968 F X xs L (j_AckBookLaw_law F X xs L N) rL1 rL2 rL3 xL4 rL1 v126 v127 (0 : Int32) w)
        else (
          q_AckBookLaw_law_968 F X xs L (j_AckBookLaw_law F X xs L N) rL1 rL2 rL3 xL4 rL1 v126 v127 (1 : Int32) w))
      else if (v47 &&& (15 : Int32)) = (13 : Int32) then (
        z_scr xs L (xL4 + (1 : Int32)) fun v129 =>
        z_cI (f_AckBookLaw_look F X rL1 v129 rL3 w) fun v131 w =>
        z_scr xs L (xL4 + (1 : Int32)) fun v132 =>
        z_this w 10 rL2 <|
        z_cI (f_AckBookModel_look F X rL2 v132 w) fun v134 w =>
        z_this w 10 rL2 <|
        z_cI (f_AckBookModel_thrown F X rL2 w) fun v136 w =>
        if v136 = v131 then (
          if v131 = 0 then (
            z_ldL w rL3 (0 : Int32) fun v137 =>
            if (lg_cmp v137 v134.toInt64) = 0 then (
              (j_AckBookLaw_law F X xs L N) rL1 rL2 rL3 (xL4 + (5 : Int32)) w)
            else (
              some (.inl (some (.int (0 : Int32))), w)))
          else (
            (j_AckBookLaw_law F X xs L N) rL1 rL2 rL3 (xL4 + (5 : Int32)) w))
        else (
          some (.inl (some (.int (0 : Int32))), w)))
      else if (v47 &&& (15 : Int32)) = (14 : Int32) then (
        z_scr xs L (xL4 + (1 : Int32)) fun v138 =>
        z_scr xs L (xL4 + (2 : Int32)) fun v139 =>
        z_cI (f_AckBookLaw_space F X rL1 v138 v139 rL3 w) fun v141 w =>
        z_scr xs L (xL4 + (1 : Int32)) fun v142 =>
        z_scr xs L (xL4 + (2 : Int32)) fun v143 =>
        z_this w 10 rL2 <|
        z_cL (f_AckBookModel_space F X rL2 v142 v143 w) fun v145 w =>
        z_this w 10 rL2 <|
        z_cI (f_AckBookModel_thrown F X rL2 w) fun v147 w =>
        if v147 = v141 then (
          if v141 = 0 then (
            z_ldL w rL3 (0 : Int32) fun v148 =>
            if (lg_cmp v148 v145) = 0 then (
              (j_AckBookLaw_law F X xs L N) rL1 rL2 rL3 (xL4 + (5 : Int32)) w)
            else (
              some (.inl (some (.int (0 : Int32))), w)))
          else (
            (j_AckBookLaw_law F X xs L N) rL1 rL2 rL3 (xL4 + (5 : Int32)) w))
        else (
          some (.inl (some (.int (0 : Int32))), w)))
      else (
        (j_AckBookLaw_law F X xs L N) rL1 rL2 rL3 (xL4 + (5 : Int32)) w))
set_option maxHeartbeats 4000000 in
set_option maxRecDepth 100000 in
theorem kj_AckBookLaw_law {b0 : Nat} {H0 : Heap} {D : va_G} {vu vs : Value} {X M : Nat} {l : Launch} (hT : z_TB (zGG b0 H0 D vu vs X M)) (hfl : l.flags = pinnedFlags ++ [noTraceFlag]) (hE : vu.isRef = true ∧ vs.isRef = true) {p : Program} {e : Env} {s : State} {m : MethodId} {below : List Frame} {meth : Method} {c : Code} {F bS L : Nat} {xs : Nat → Int32} (hC : z_C (zGG b0 H0 D vu vs X M) p e s m meth c code 8 R_law) (hr : meth.sig.returnType = ret) (hX : va_X bS L xs s H0 ∧ bS < b0) (hB : s.heap.size ≤ b0) : ∀ N : Nat, (∀ (rL1 : Option Nat) (rL2 : Option Nat) (rL3 : Option Nat) (xL4 : Int32) (w : zW) (wE : zW), j_AckBookLaw_law F X xs L N rL1 rL2 rL3 xL4 w = some (.inl (some (.int (1 : Int32))), wE) → ∀ (H : Heap) (locs : List Loc) (cells slots : Nat) (ls : Array Slot), z_Z (zGG b0 H0 D vu vs X M) room_1 s w H locs cells slots → lv_has ls 8 [(0, va_rf (some bS)), (1, va_rf rL1), (2, va_rf rL2), (3, va_rf rL3), (4, .int xL4)] → W p l e room_1 s m #[Value.ref bS] below meth c H locs cells slots (lw_Z below #[Value.ref bS] s) (F0 m 23 ls [])) := by
  have hRt : room_1.frames = 12 ∧ room_1.locals = 458 := ⟨rfl, rfl⟩
  intro N
  induction N with
  | zero =>
    intro rL1 rL2 rL3 xL4 w wE h
    rw [j_AckBookLaw_law] at h
    cases h
  | succ N ih =>
    intro rL1 rL2 rL3 xL4 w wE h H locs cells slots ls hZ hl
    rw [j_AckBookLaw_law] at h
    refine lv_iload hC.1 hC.2.1 d_AckBookLaw_law_23 (lv_at hl 4 rfl) ?_
    refine x_aload_n hC d_AckBookLaw_law_25 rfl (lv_at hl 0 rfl) ?_
    refine x_scl hC hZ hX h d_AckBookLaw_law_26 (fun v46 h => ?_)
    refine lv_iconst (v := (5 : Int32)) hC.1 hC.2.1 d_AckBookLaw_law_27 (by decide) ?_
    refine lv_isub hC.1 hC.2.1 d_AckBookLaw_law_28 ?_
    refine lv_icmp_gt (tgt := 1165) hC.1 hC.2.1 d_AckBookLaw_law_29 (by decide) (fun hc => ?_) (fun hc => ?_)
    · have h := z_ifp hc h
      refine lv_iconst (v := (1 : Int32)) hC.1 hC.2.1 d_AckBookLaw_law_1165 (by decide) ?_
      exact x_lawE hC hr hZ hB d_AckBookLaw_law_1166
    · have h := z_ifn hc h
      refine x_aload_n hC d_AckBookLaw_law_32 rfl (lv_at hl 0 rfl) ?_
      refine lv_iload hC.1 hC.2.1 d_AckBookLaw_law_33 (lv_at hl 4 rfl) ?_
      refine x_scr hC hZ hX h d_AckBookLaw_law_35 (fun v47 h => ?_)
      refine lv_bipush (v := (15 : Int32)) hC.1 hC.2.1 d_AckBookLaw_law_36 (by decide) ?_
      refine lv_iand hC.1 hC.2.1 d_AckBookLaw_law_38 ?_
      by_cases hc0 : (v47 &&& (15 : Int32)) = (0 : Int32)
      · have h := z_ifp hc0 h
        refine lv_tableIn (tgt := 112) hC.1 hC.2.1 d_AckBookLaw_law_39 (by rw [hc0]; decide) (by rw [hc0]; decide) (by rw [hc0]; rfl) (by decide) ?_
        refine x_aload_n hC d_AckBookLaw_law_112 rfl (lv_at hl 1 rfl) ?_
        refine x_aload_n hC d_AckBookLaw_law_113 rfl (lv_at hl 0 rfl) ?_
        refine lv_iload hC.1 hC.2.1 d_AckBookLaw_law_114 (lv_at hl 4 rfl) ?_
        refine lv_iconst (v := (1 : Int32)) hC.1 hC.2.1 d_AckBookLaw_law_116 (by decide) ?_
        refine lv_iadd hC.1 hC.2.1 d_AckBookLaw_law_117 ?_
        refine x_scr hC hZ hX h d_AckBookLaw_law_118 (fun v48 h => ?_)
        refine x_aload_n hC d_AckBookLaw_law_119 rfl (lv_at hl 0 rfl) ?_
        refine lv_iload hC.1 hC.2.1 d_AckBookLaw_law_120 (lv_at hl 4 rfl) ?_
        refine lv_iconst (v := (2 : Int32)) hC.1 hC.2.1 d_AckBookLaw_law_122 (by decide) ?_
        refine lv_iadd hC.1 hC.2.1 d_AckBookLaw_law_123 ?_
        refine x_scr hC hZ hX h d_AckBookLaw_law_124 (fun v49 h => ?_)
        refine x_aload_n hC d_AckBookLaw_law_125 rfl (lv_at hl 0 rfl) ?_
        refine lv_iload hC.1 hC.2.1 d_AckBookLaw_law_126 (lv_at hl 4 rfl) ?_
        refine lv_iconst (v := (3 : Int32)) hC.1 hC.2.1 d_AckBookLaw_law_128 (by decide) ?_
        refine lv_iadd hC.1 hC.2.1 d_AckBookLaw_law_129 ?_
        refine x_scr hC hZ hX h d_AckBookLaw_law_130 (fun v50 h => ?_)
        refine lv_if_eq (tgt := 138) hC.1 hC.2.1 d_AckBookLaw_law_131 (by decide) (fun hc => ?_) (fun hc => ?_)
        · have h := z_ifp hc h
          refine lv_iconst (v := (0 : Int32)) hC.1 hC.2.1 d_AckBookLaw_law_138 (by decide) ?_
          exact kq_AckBookLaw_law_139 hT hfl hE hC hr hX hB ih _ _ _ _ _ _ _ _ _ _ h _ _ _ _ _ hZ (lv_sub hl [0, 1, 2, 3, 4] rfl)
        · have h := z_ifn hc h
          refine lv_iconst (v := (1 : Int32)) hC.1 hC.2.1 d_AckBookLaw_law_134 (by decide) ?_
          refine lv_goto (tgt := 139) hC.1 hC.2.1 d_AckBookLaw_law_135 (by decide) ?_
          exact kq_AckBookLaw_law_139 hT hfl hE hC hr hX hB ih _ _ _ _ _ _ _ _ _ _ h _ _ _ _ _ hZ (lv_sub hl [0, 1, 2, 3, 4] rfl)
      have h := z_ifn hc0 h
      by_cases hc1 : (v47 &&& (15 : Int32)) = (1 : Int32)
      · have h := z_ifp hc1 h
        refine lv_tableIn (tgt := 236) hC.1 hC.2.1 d_AckBookLaw_law_39 (by rw [hc1]; decide) (by rw [hc1]; decide) (by rw [hc1]; rfl) (by decide) ?_
        refine x_aload_n hC d_AckBookLaw_law_236 rfl (lv_at hl 1 rfl) ?_
        refine x_aload_n hC d_AckBookLaw_law_237 rfl (lv_at hl 0 rfl) ?_
        refine lv_iload hC.1 hC.2.1 d_AckBookLaw_law_238 (lv_at hl 4 rfl) ?_
        refine lv_iconst (v := (1 : Int32)) hC.1 hC.2.1 d_AckBookLaw_law_240 (by decide) ?_
        refine lv_iadd hC.1 hC.2.1 d_AckBookLaw_law_241 ?_
        refine x_scr hC hZ hX h d_AckBookLaw_law_242 (fun v51 h => ?_)
        refine lv_i2l hC.1 hC.2.1 d_AckBookLaw_law_243 rfl ?_
        refine lv_bipush (v := (32 : Int32)) hC.1 hC.2.1 d_AckBookLaw_law_244 (by decide) ?_
        refine lv_lshl hC.1 hC.2.1 d_AckBookLaw_law_246 rfl ?_
        refine x_aload_n hC d_AckBookLaw_law_247 rfl (lv_at hl 0 rfl) ?_
        refine lv_iload hC.1 hC.2.1 d_AckBookLaw_law_248 (lv_at hl 4 rfl) ?_
        refine lv_iconst (v := (2 : Int32)) hC.1 hC.2.1 d_AckBookLaw_law_250 (by decide) ?_
        refine lv_iadd hC.1 hC.2.1 d_AckBookLaw_law_251 ?_
        refine x_scr hC hZ hX h d_AckBookLaw_law_252 (fun v52 h => ?_)
        refine lv_i2l hC.1 hC.2.1 d_AckBookLaw_law_253 rfl ?_
        refine lv_ldc2 (v := (4294967295 : Int64)) hC.1 hC.2.1 hC.2.2.2.1 ((hZ.1.tb hC.2.2.2.2.2.2 #[Value.ref bS]) _ t_1090) d_AckBookLaw_law_254 ?_
        refine lv_land hC.1 hC.2.1 d_AckBookLaw_law_257 ?_
        refine lv_lor hC.1 hC.2.1 d_AckBookLaw_law_258 ?_
        refine x_aload_n hC d_AckBookLaw_law_259 rfl (lv_at hl 0 rfl) ?_
        refine lv_iload hC.1 hC.2.1 d_AckBookLaw_law_260 (lv_at hl 4 rfl) ?_
        refine lv_iconst (v := (3 : Int32)) hC.1 hC.2.1 d_AckBookLaw_law_262 (by decide) ?_
        refine lv_iadd hC.1 hC.2.1 d_AckBookLaw_law_263 ?_
        refine x_scr hC hZ hX h d_AckBookLaw_law_264 (fun v53 h => ?_)
        refine lv_i2l hC.1 hC.2.1 d_AckBookLaw_law_265 rfl ?_
        refine lv_bipush (v := (32 : Int32)) hC.1 hC.2.1 d_AckBookLaw_law_266 (by decide) ?_
        refine lv_lshl hC.1 hC.2.1 d_AckBookLaw_law_268 rfl ?_
        refine x_aload_n hC d_AckBookLaw_law_269 rfl (lv_at hl 0 rfl) ?_
        refine lv_iload hC.1 hC.2.1 d_AckBookLaw_law_270 (lv_at hl 4 rfl) ?_
        refine lv_iconst (v := (4 : Int32)) hC.1 hC.2.1 d_AckBookLaw_law_272 (by decide) ?_
        refine lv_iadd hC.1 hC.2.1 d_AckBookLaw_law_273 ?_
        refine x_scr hC hZ hX h d_AckBookLaw_law_274 (fun v54 h => ?_)
        refine lv_i2l hC.1 hC.2.1 d_AckBookLaw_law_275 rfl ?_
        refine lv_ldc2 (v := (4294967295 : Int64)) hC.1 hC.2.1 hC.2.2.2.1 ((hZ.1.tb hC.2.2.2.2.2.2 #[Value.ref bS]) _ t_1090) d_AckBookLaw_law_276 ?_
        refine lv_land hC.1 hC.2.1 d_AckBookLaw_law_279 ?_
        refine lv_lor hC.1 hC.2.1 d_AckBookLaw_law_280 ?_
        refine x_aload_n hC d_AckBookLaw_law_281 rfl (lv_at hl 3 rfl) ?_
        obtain ⟨w1_, o1_, hF_, ha_⟩ := z_cI_spec h
        refine x_goesN ha_ (z_goSW (As := [va_rf rL1, .long ((v51.toInt64 <<< ((32 : Int32).toInt64 &&& 63)) ||| (v52.toInt64 &&& (4294967295 : Int64))), .long ((v53.toInt64 <<< ((32 : Int32).toInt64 &&& 63)) ||| (v54.toInt64 &&& (4294967295 : Int64))), va_rf rL3]) hC hZ (k_AckBookLaw_span hT hfl hE _ _ hF_) t_589 t_590 t_0 t_591 ⟨by decide, by decide, (by decide +kernel : (parseMethodDescriptor y_AckBookLaw_span.desc).map (fun d => d.parameters.length) = some 4)⟩ (by rw [hRt.1]; decide) (by rw [hRt.2]; decide) hl.1 rfl (by first | exact Nat.le_of_ble_eq_true rfl | simp [z_rfc, z_ci, z_cj]) d_AckBookLaw_law_282) (fun v_ hv H locs cells slots hZ => ?_)
        obtain ⟨v56, rfl, h⟩ := hv
        generalize w1_ = w at h hZ
        refine lv_istore (i := 5) (lv' := [(5, .int v56), (0, va_rf (some bS)), (1, va_rf rL1), (2, va_rf rL2), (3, va_rf rL3), (4, .int xL4)]) hC.1 hC.2.1 d_AckBookLaw_law_285 hl (by decide) (by first | rfl | simp [z_rfc, z_ci, z_cj]) (fun ls hl => ?_)
        refine x_aload_n hC d_AckBookLaw_law_287 rfl (lv_at hl 3 rfl) ?_
        refine x_aload_n hC d_AckBookLaw_law_288 rfl (lv_at hl 1 rfl) ?_
        refine lv_iload hC.1 hC.2.1 d_AckBookLaw_law_289 (lv_at hl 5 rfl) ?_
        refine lv_iconst (v := (1 : Int32)) hC.1 hC.2.1 d_AckBookLaw_law_291 (by decide) ?_
        refine lv_iadd hC.1 hC.2.1 d_AckBookLaw_law_292 ?_
        refine x_scr hC hZ hX h d_AckBookLaw_law_293 (fun v57 h => ?_)
        refine lv_i2l hC.1 hC.2.1 d_AckBookLaw_law_294 rfl ?_
        refine lv_bipush (v := (32 : Int32)) hC.1 hC.2.1 d_AckBookLaw_law_295 (by decide) ?_
        refine lv_lshl hC.1 hC.2.1 d_AckBookLaw_law_297 rfl ?_
        refine x_aload_n hC d_AckBookLaw_law_298 rfl (lv_at hl 1 rfl) ?_
        refine lv_iload hC.1 hC.2.1 d_AckBookLaw_law_299 (lv_at hl 5 rfl) ?_
        refine lv_iconst (v := (2 : Int32)) hC.1 hC.2.1 d_AckBookLaw_law_301 (by decide) ?_
        refine lv_iadd hC.1 hC.2.1 d_AckBookLaw_law_302 ?_
        refine x_scr hC hZ hX h d_AckBookLaw_law_303 (fun v58 h => ?_)
        refine lv_i2l hC.1 hC.2.1 d_AckBookLaw_law_304 rfl ?_
        refine lv_ldc2 (v := (4294967295 : Int64)) hC.1 hC.2.1 hC.2.2.2.1 ((hZ.1.tb hC.2.2.2.2.2.2 #[Value.ref bS]) _ t_1090) d_AckBookLaw_law_305 ?_
        refine lv_land hC.1 hC.2.1 d_AckBookLaw_law_308 ?_
        refine lv_lor hC.1 hC.2.1 d_AckBookLaw_law_309 ?_
        refine x_aload_n hC d_AckBookLaw_law_310 rfl (lv_at hl 1 rfl) ?_
        refine lv_iload hC.1 hC.2.1 d_AckBookLaw_law_311 (lv_at hl 5 rfl) ?_
        refine lv_iconst (v := (3 : Int32)) hC.1 hC.2.1 d_AckBookLaw_law_313 (by decide) ?_
        refine lv_iadd hC.1 hC.2.1 d_AckBookLaw_law_314 ?_
        refine x_scr hC hZ hX h d_AckBookLaw_law_315 (fun v59 h => ?_)
        refine lv_i2l hC.1 hC.2.1 d_AckBookLaw_law_316 rfl ?_
        refine lv_bipush (v := (32 : Int32)) hC.1 hC.2.1 d_AckBookLaw_law_317 (by decide) ?_
        refine lv_lshl hC.1 hC.2.1 d_AckBookLaw_law_319 rfl ?_
        refine x_aload_n hC d_AckBookLaw_law_320 rfl (lv_at hl 1 rfl) ?_
        refine lv_iload hC.1 hC.2.1 d_AckBookLaw_law_321 (lv_at hl 5 rfl) ?_
        refine lv_iconst (v := (4 : Int32)) hC.1 hC.2.1 d_AckBookLaw_law_323 (by decide) ?_
        refine lv_iadd hC.1 hC.2.1 d_AckBookLaw_law_324 ?_
        refine x_scr hC hZ hX h d_AckBookLaw_law_325 (fun v60 h => ?_)
        refine lv_i2l hC.1 hC.2.1 d_AckBookLaw_law_326 rfl ?_
        refine lv_ldc2 (v := (4294967295 : Int64)) hC.1 hC.2.1 hC.2.2.2.1 ((hZ.1.tb hC.2.2.2.2.2.2 #[Value.ref bS]) _ t_1090) d_AckBookLaw_law_327 ?_
        refine lv_land hC.1 hC.2.1 d_AckBookLaw_law_330 ?_
        refine lv_lor hC.1 hC.2.1 d_AckBookLaw_law_331 ?_
        obtain ⟨a_, fs_, eo_, h⟩ := z_this_spec h
        obtain ⟨w1_, o1_, hF_, ha_⟩ := z_cI_spec h
        refine x_goesN ha_ (z_goV (As := [.long ((v57.toInt64 <<< ((32 : Int32).toInt64 &&& 63)) ||| (v58.toInt64 &&& (4294967295 : Int64))), .long ((v59.toInt64 <<< ((32 : Int32).toInt64 &&& 63)) ||| (v60.toInt64 &&& (4294967295 : Int64)))]) hC hZ zc10 eo_ (k_AckBookModel_span hT hfl hE _ _ hF_) t_959 t_960 t_961 t_12 t_962 ⟨by decide, by decide, (by decide +kernel : (parseMethodDescriptor y_AckBookModel_span.desc).map (fun d => d.parameters.length) = some 2)⟩ (by rw [hRt.1]; decide) (by rw [hRt.2]; decide) hl.1 rfl (by first | exact Nat.le_of_ble_eq_true rfl | simp [z_rfc, z_ci, z_cj]) d_AckBookLaw_law_332) (fun v_ hv H locs cells slots hZ => ?_)
        obtain ⟨v62, rfl, h⟩ := hv
        generalize w1_ = w at h hZ
        refine lv_istore (i := 6) (lv' := [(6, .int v62), (5, .int v56), (0, va_rf (some bS)), (1, va_rf rL1), (2, va_rf rL2), (3, va_rf rL3), (4, .int xL4)]) hC.1 hC.2.1 d_AckBookLaw_law_335 hl (by decide) (by first | rfl | simp [z_rfc, z_ci, z_cj]) (fun ls hl => ?_)
        refine x_aload_n hC d_AckBookLaw_law_337 rfl (lv_at hl 4 rfl) ?_
        obtain ⟨a_, fs_, eo_, h⟩ := z_this_spec h
        obtain ⟨w1_, o1_, hF_, ha_⟩ := z_cI_spec h
        refine x_goesN ha_ (z_goV (As := []) hC hZ zc10 eo_ (k_AckBookModel_thrown hT hfl hE _ _ hF_) t_936 t_937 t_938 t_12 t_939 ⟨by decide, by decide, (by decide +kernel : (parseMethodDescriptor y_AckBookModel_thrown.desc).map (fun d => d.parameters.length) = some 0)⟩ (by rw [hRt.1]; decide) (by rw [hRt.2]; decide) hl.1 rfl (by first | exact Nat.le_of_ble_eq_true rfl | simp [z_rfc, z_ci, z_cj]) d_AckBookLaw_law_338) (fun v_ hv H locs cells slots hZ => ?_)
        obtain ⟨v64, rfl, h⟩ := hv
        generalize w1_ = w at h hZ
        refine lv_iload hC.1 hC.2.1 d_AckBookLaw_law_341 (lv_at hl 1 rfl) ?_
        refine lv_icmp_eq (tgt := 348) hC.1 hC.2.1 d_AckBookLaw_law_343 (by decide) (fun hc => ?_) (fun hc => ?_)
        · have h := z_ifp hc h
          refine lv_iload hC.1 hC.2.1 d_AckBookLaw_law_348 (lv_at hl 1 rfl) ?_
          refine lv_if_ne (tgt := 365) hC.1 hC.2.1 d_AckBookLaw_law_350 (by decide) (fun hc => ?_) (fun hc => ?_)
          · have h := z_ifn hc h
            refine lv_goto (tgt := 1159) hC.1 hC.2.1 d_AckBookLaw_law_365 (by decide) ?_
            refine lv_iinc (lv' := [(4, .int (xL4 + (5 : Int32))), (6, .int v62), (5, .int v56), (0, va_rf (some bS)), (1, va_rf rL1), (2, va_rf rL2), (3, va_rf rL3)]) hC.1 hC.2.1 d_AckBookLaw_law_1159 hl (k := 6) rfl rfl (by decide) (by first | rfl | simp [z_rfc, z_ci, z_cj]) (fun ls hl => ?_)
            refine lv_goto (tgt := 23) hC.1 hC.2.1 d_AckBookLaw_law_1162 (by decide) ?_
            exact ih _ _ _ _ _ _ h _ _ _ _ _ hZ (lv_sub hl [3, 4, 5, 6, 0] rfl)
          · have h := z_ifp hc h
            refine x_aload_n hC d_AckBookLaw_law_353 rfl (lv_at hl 5 rfl) ?_
            refine lv_iconst (v := (0 : Int32)) hC.1 hC.2.1 d_AckBookLaw_law_354 (by decide) ?_
            refine x_ldL hC hZ h d_AckBookLaw_law_355 (fun v65 h => ?_)
            refine lv_iload hC.1 hC.2.1 d_AckBookLaw_law_356 (lv_at hl 0 rfl) ?_
            refine lv_i2l hC.1 hC.2.1 d_AckBookLaw_law_358 rfl ?_
            refine W.lcmp hC.1 hC.2.1 d_AckBookLaw_law_359 ?_
            refine lv_if_eq (tgt := 365) hC.1 hC.2.1 d_AckBookLaw_law_360 (by decide) (fun hc => ?_) (fun hc => ?_)
            · have h := z_ifp hc h
              refine lv_goto (tgt := 1159) hC.1 hC.2.1 d_AckBookLaw_law_365 (by decide) ?_
              refine lv_iinc (lv' := [(4, .int (xL4 + (5 : Int32))), (6, .int v62), (5, .int v56), (0, va_rf (some bS)), (1, va_rf rL1), (2, va_rf rL2), (3, va_rf rL3)]) hC.1 hC.2.1 d_AckBookLaw_law_1159 hl (k := 6) rfl rfl (by decide) (by first | rfl | simp [z_rfc, z_ci, z_cj]) (fun ls hl => ?_)
              refine lv_goto (tgt := 23) hC.1 hC.2.1 d_AckBookLaw_law_1162 (by decide) ?_
              exact ih _ _ _ _ _ _ h _ _ _ _ _ hZ (lv_sub hl [3, 4, 5, 6, 0] rfl)
            · have h := z_ifn hc h
              refine lv_iconst (v := (0 : Int32)) hC.1 hC.2.1 d_AckBookLaw_law_363 (by decide) ?_
              exact (z_no0 h).elim
        · have h := z_ifn hc h
          refine lv_iconst (v := (0 : Int32)) hC.1 hC.2.1 d_AckBookLaw_law_346 (by decide) ?_
          exact (z_no0 h).elim
      have h := z_ifn hc1 h
      by_cases hc2 : (v47 &&& (15 : Int32)) = (2 : Int32)
      · have h := z_ifp hc2 h
        refine lv_tableIn (tgt := 368) hC.1 hC.2.1 d_AckBookLaw_law_39 (by rw [hc2]; decide) (by rw [hc2]; decide) (by rw [hc2]; rfl) (by decide) ?_
        refine x_aload_n hC d_AckBookLaw_law_368 rfl (lv_at hl 1 rfl) ?_
        refine x_aload_n hC d_AckBookLaw_law_369 rfl (lv_at hl 0 rfl) ?_
        refine lv_iload hC.1 hC.2.1 d_AckBookLaw_law_370 (lv_at hl 4 rfl) ?_
        refine lv_iconst (v := (1 : Int32)) hC.1 hC.2.1 d_AckBookLaw_law_372 (by decide) ?_
        refine lv_iadd hC.1 hC.2.1 d_AckBookLaw_law_373 ?_
        refine x_scr hC hZ hX h d_AckBookLaw_law_374 (fun v66 h => ?_)
        refine x_aload_n hC d_AckBookLaw_law_375 rfl (lv_at hl 0 rfl) ?_
        refine lv_iload hC.1 hC.2.1 d_AckBookLaw_law_376 (lv_at hl 4 rfl) ?_
        refine lv_iconst (v := (2 : Int32)) hC.1 hC.2.1 d_AckBookLaw_law_378 (by decide) ?_
        refine lv_iadd hC.1 hC.2.1 d_AckBookLaw_law_379 ?_
        refine x_scr hC hZ hX h d_AckBookLaw_law_380 (fun v67 h => ?_)
        refine x_aload_n hC d_AckBookLaw_law_381 rfl (lv_at hl 3 rfl) ?_
        obtain ⟨w1_, o1_, hF_, ha_⟩ := z_cI_spec h
        refine x_goesN ha_ (z_goSW (As := [va_rf rL1, .int v66, .int v67, va_rf rL3]) hC hZ (k_AckBookLaw_acknowledge hT hfl hE _ _ hF_) t_611 t_612 t_0 t_613 ⟨by decide, by decide, (by decide +kernel : (parseMethodDescriptor y_AckBookLaw_acknowledge.desc).map (fun d => d.parameters.length) = some 4)⟩ (by rw [hRt.1]; decide) (by rw [hRt.2]; decide) hl.1 rfl (by first | exact Nat.le_of_ble_eq_true rfl | simp [z_rfc, z_ci, z_cj]) d_AckBookLaw_law_382) (fun v_ hv H locs cells slots hZ => ?_)
        obtain ⟨v69, rfl, h⟩ := hv
        generalize w1_ = w at h hZ
        refine lv_istore (i := 5) (lv' := [(5, .int v69), (0, va_rf (some bS)), (1, va_rf rL1), (2, va_rf rL2), (3, va_rf rL3), (4, .int xL4)]) hC.1 hC.2.1 d_AckBookLaw_law_385 hl (by decide) (by first | rfl | simp [z_rfc, z_ci, z_cj]) (fun ls hl => ?_)
        refine x_aload_n hC d_AckBookLaw_law_387 rfl (lv_at hl 3 rfl) ?_
        refine x_aload_n hC d_AckBookLaw_law_388 rfl (lv_at hl 1 rfl) ?_
        refine lv_iload hC.1 hC.2.1 d_AckBookLaw_law_389 (lv_at hl 5 rfl) ?_
        refine lv_iconst (v := (1 : Int32)) hC.1 hC.2.1 d_AckBookLaw_law_391 (by decide) ?_
        refine lv_iadd hC.1 hC.2.1 d_AckBookLaw_law_392 ?_
        refine x_scr hC hZ hX h d_AckBookLaw_law_393 (fun v70 h => ?_)
        refine x_aload_n hC d_AckBookLaw_law_394 rfl (lv_at hl 1 rfl) ?_
        refine lv_iload hC.1 hC.2.1 d_AckBookLaw_law_395 (lv_at hl 5 rfl) ?_
        refine lv_iconst (v := (2 : Int32)) hC.1 hC.2.1 d_AckBookLaw_law_397 (by decide) ?_
        refine lv_iadd hC.1 hC.2.1 d_AckBookLaw_law_398 ?_
        refine x_scr hC hZ hX h d_AckBookLaw_law_399 (fun v71 h => ?_)
        obtain ⟨a_, fs_, eo_, h⟩ := z_this_spec h
        obtain ⟨w1_, o1_, hF_, ha_⟩ := z_cI_spec h
        refine x_goesN ha_ (z_goV (As := [.int v70, .int v71]) hC hZ zc10 eo_ (k_AckBookModel_acknowledge hT hfl hE _ _ hF_) t_964 t_965 t_966 t_12 t_967 ⟨by decide, by decide, (by decide +kernel : (parseMethodDescriptor y_AckBookModel_acknowledge.desc).map (fun d => d.parameters.length) = some 2)⟩ (by rw [hRt.1]; decide) (by rw [hRt.2]; decide) hl.1 rfl (by first | exact Nat.le_of_ble_eq_true rfl | simp [z_rfc, z_ci, z_cj]) d_AckBookLaw_law_400) (fun v_ hv H locs cells slots hZ => ?_)
        obtain ⟨v73, rfl, h⟩ := hv
        generalize w1_ = w at h hZ
        refine lv_istore (i := 6) (lv' := [(6, .int v73), (5, .int v69), (0, va_rf (some bS)), (1, va_rf rL1), (2, va_rf rL2), (3, va_rf rL3), (4, .int xL4)]) hC.1 hC.2.1 d_AckBookLaw_law_403 hl (by decide) (by first | rfl | simp [z_rfc, z_ci, z_cj]) (fun ls hl => ?_)
        refine x_aload_n hC d_AckBookLaw_law_405 rfl (lv_at hl 4 rfl) ?_
        obtain ⟨a_, fs_, eo_, h⟩ := z_this_spec h
        obtain ⟨w1_, o1_, hF_, ha_⟩ := z_cI_spec h
        refine x_goesN ha_ (z_goV (As := []) hC hZ zc10 eo_ (k_AckBookModel_thrown hT hfl hE _ _ hF_) t_936 t_937 t_938 t_12 t_939 ⟨by decide, by decide, (by decide +kernel : (parseMethodDescriptor y_AckBookModel_thrown.desc).map (fun d => d.parameters.length) = some 0)⟩ (by rw [hRt.1]; decide) (by rw [hRt.2]; decide) hl.1 rfl (by first | exact Nat.le_of_ble_eq_true rfl | simp [z_rfc, z_ci, z_cj]) d_AckBookLaw_law_406) (fun v_ hv H locs cells slots hZ => ?_)
        obtain ⟨v75, rfl, h⟩ := hv
        generalize w1_ = w at h hZ
        refine lv_iload hC.1 hC.2.1 d_AckBookLaw_law_409 (lv_at hl 1 rfl) ?_
        refine lv_icmp_eq (tgt := 416) hC.1 hC.2.1 d_AckBookLaw_law_411 (by decide) (fun hc => ?_) (fun hc => ?_)
        · have h := z_ifp hc h
          refine lv_iload hC.1 hC.2.1 d_AckBookLaw_law_416 (lv_at hl 1 rfl) ?_
          refine lv_if_ne (tgt := 433) hC.1 hC.2.1 d_AckBookLaw_law_418 (by decide) (fun hc => ?_) (fun hc => ?_)
          · have h := z_ifn hc h
            refine lv_goto (tgt := 1159) hC.1 hC.2.1 d_AckBookLaw_law_433 (by decide) ?_
            refine lv_iinc (lv' := [(4, .int (xL4 + (5 : Int32))), (6, .int v73), (5, .int v69), (0, va_rf (some bS)), (1, va_rf rL1), (2, va_rf rL2), (3, va_rf rL3)]) hC.1 hC.2.1 d_AckBookLaw_law_1159 hl (k := 6) rfl rfl (by decide) (by first | rfl | simp [z_rfc, z_ci, z_cj]) (fun ls hl => ?_)
            refine lv_goto (tgt := 23) hC.1 hC.2.1 d_AckBookLaw_law_1162 (by decide) ?_
            exact ih _ _ _ _ _ _ h _ _ _ _ _ hZ (lv_sub hl [3, 4, 5, 6, 0] rfl)
          · have h := z_ifp hc h
            refine x_aload_n hC d_AckBookLaw_law_421 rfl (lv_at hl 5 rfl) ?_
            refine lv_iconst (v := (0 : Int32)) hC.1 hC.2.1 d_AckBookLaw_law_422 (by decide) ?_
            refine x_ldL hC hZ h d_AckBookLaw_law_423 (fun v76 h => ?_)
            refine lv_iload hC.1 hC.2.1 d_AckBookLaw_law_424 (lv_at hl 0 rfl) ?_
            refine lv_i2l hC.1 hC.2.1 d_AckBookLaw_law_426 rfl ?_
            refine W.lcmp hC.1 hC.2.1 d_AckBookLaw_law_427 ?_
            refine lv_if_eq (tgt := 433) hC.1 hC.2.1 d_AckBookLaw_law_428 (by decide) (fun hc => ?_) (fun hc => ?_)
            · have h := z_ifp hc h
              refine lv_goto (tgt := 1159) hC.1 hC.2.1 d_AckBookLaw_law_433 (by decide) ?_
              refine lv_iinc (lv' := [(4, .int (xL4 + (5 : Int32))), (6, .int v73), (5, .int v69), (0, va_rf (some bS)), (1, va_rf rL1), (2, va_rf rL2), (3, va_rf rL3)]) hC.1 hC.2.1 d_AckBookLaw_law_1159 hl (k := 6) rfl rfl (by decide) (by first | rfl | simp [z_rfc, z_ci, z_cj]) (fun ls hl => ?_)
              refine lv_goto (tgt := 23) hC.1 hC.2.1 d_AckBookLaw_law_1162 (by decide) ?_
              exact ih _ _ _ _ _ _ h _ _ _ _ _ hZ (lv_sub hl [3, 4, 5, 6, 0] rfl)
            · have h := z_ifn hc h
              refine lv_iconst (v := (0 : Int32)) hC.1 hC.2.1 d_AckBookLaw_law_431 (by decide) ?_
              exact (z_no0 h).elim
        · have h := z_ifn hc h
          refine lv_iconst (v := (0 : Int32)) hC.1 hC.2.1 d_AckBookLaw_law_414 (by decide) ?_
          exact (z_no0 h).elim
      have h := z_ifn hc2 h
      by_cases hc3 : (v47 &&& (15 : Int32)) = (3 : Int32)
      · have h := z_ifp hc3 h
        refine lv_tableIn (tgt := 436) hC.1 hC.2.1 d_AckBookLaw_law_39 (by rw [hc3]; decide) (by rw [hc3]; decide) (by rw [hc3]; rfl) (by decide) ?_
        refine x_aload_n hC d_AckBookLaw_law_436 rfl (lv_at hl 1 rfl) ?_
        obtain ⟨a_, fs_, eo_, h⟩ := z_this_spec h
        obtain ⟨w1_, o1_, hF_, ha_⟩ := z_cI_spec h
        refine x_goesN ha_ (z_goV (As := []) hC hZ zc0 eo_ (k_AckBook_tick hT hfl hE _ _ hF_) t_269 t_270 t_271 t_1 t_272 ⟨by decide, by decide, (by decide +kernel : (parseMethodDescriptor y_AckBook_tick.desc).map (fun d => d.parameters.length) = some 0)⟩ (by rw [hRt.1]; decide) (by rw [hRt.2]; decide) hl.1 rfl (by first | exact Nat.le_of_ble_eq_true rfl | simp [z_rfc, z_ci, z_cj]) d_AckBookLaw_law_437) (fun v_ hv H locs cells slots hZ => ?_)
        obtain ⟨v78, rfl, h⟩ := hv
        generalize w1_ = w at h hZ
        refine x_aload_n hC d_AckBookLaw_law_440 rfl (lv_at hl 2 rfl) ?_
        obtain ⟨a_, fs_, eo_, h⟩ := z_this_spec h
        obtain ⟨w1_, o1_, hF_, ha_⟩ := z_cI_spec h
        refine x_goesN ha_ (z_goV (As := []) hC hZ zc10 eo_ (k_AckBookModel_tick hT hfl hE _ _ hF_) t_1008 t_1009 t_1010 t_12 t_1011 ⟨by decide, by decide, (by decide +kernel : (parseMethodDescriptor y_AckBookModel_tick.desc).map (fun d => d.parameters.length) = some 0)⟩ (by rw [hRt.1]; decide) (by rw [hRt.2]; decide) hl.1 rfl (by first | exact Nat.le_of_ble_eq_true rfl | simp [z_rfc, z_ci, z_cj]) d_AckBookLaw_law_441) (fun v_ hv H locs cells slots hZ => ?_)
        obtain ⟨v80, rfl, h⟩ := hv
        generalize w1_ = w at h hZ
        refine lv_icmp_eq (tgt := 1159) hC.1 hC.2.1 d_AckBookLaw_law_444 (by decide) (fun hc => ?_) (fun hc => ?_)
        · have h := z_ifp hc h
          refine lv_iinc (lv' := [(4, .int (xL4 + (5 : Int32))), (0, va_rf (some bS)), (1, va_rf rL1), (2, va_rf rL2), (3, va_rf rL3)]) hC.1 hC.2.1 d_AckBookLaw_law_1159 hl (k := 4) rfl rfl (by decide) (by first | rfl | simp [z_rfc, z_ci, z_cj]) (fun ls hl => ?_)
          refine lv_goto (tgt := 23) hC.1 hC.2.1 d_AckBookLaw_law_1162 (by decide) ?_
          exact ih _ _ _ _ _ _ h _ _ _ _ _ hZ (lv_sub hl [1, 2, 3, 4, 0] rfl)
        · have h := z_ifn hc h
          refine lv_iconst (v := (0 : Int32)) hC.1 hC.2.1 d_AckBookLaw_law_447 (by decide) ?_
          exact (z_no0 h).elim
      have h := z_ifn hc3 h
      by_cases hc4 : (v47 &&& (15 : Int32)) = (4 : Int32)
      · have h := z_ifp hc4 h
        refine lv_tableIn (tgt := 449) hC.1 hC.2.1 d_AckBookLaw_law_39 (by rw [hc4]; decide) (by rw [hc4]; decide) (by rw [hc4]; rfl) (by decide) ?_
        refine x_aload_n hC d_AckBookLaw_law_449 rfl (lv_at hl 1 rfl) ?_
        refine x_aload_n hC d_AckBookLaw_law_450 rfl (lv_at hl 0 rfl) ?_
        refine lv_iload hC.1 hC.2.1 d_AckBookLaw_law_451 (lv_at hl 4 rfl) ?_
        refine lv_iconst (v := (1 : Int32)) hC.1 hC.2.1 d_AckBookLaw_law_453 (by decide) ?_
        refine lv_iadd hC.1 hC.2.1 d_AckBookLaw_law_454 ?_
        refine x_scr hC hZ hX h d_AckBookLaw_law_455 (fun v81 h => ?_)
        obtain ⟨w1_, o1_, hF_, ha_⟩ := z_cI_spec h
        refine x_goesN ha_ (z_goSW (As := [va_rf rL1, .int v81]) hC hZ (k_AckBookLaw_discard hT hfl hE _ _ hF_) t_678 t_679 t_0 t_680 ⟨by decide, by decide, (by decide +kernel : (parseMethodDescriptor y_AckBookLaw_discard.desc).map (fun d => d.parameters.length) = some 2)⟩ (by rw [hRt.1]; decide) (by rw [hRt.2]; decide) hl.1 rfl (by first | exact Nat.le_of_ble_eq_true rfl | simp [z_rfc, z_ci, z_cj]) d_AckBookLaw_law_456) (fun v_ hv H locs cells slots hZ => ?_)
        obtain ⟨v83, rfl, h⟩ := hv
        generalize w1_ = w at h hZ
        refine lv_istore (i := 5) (lv' := [(5, .int v83), (0, va_rf (some bS)), (1, va_rf rL1), (2, va_rf rL2), (3, va_rf rL3), (4, .int xL4)]) hC.1 hC.2.1 d_AckBookLaw_law_459 hl (by decide) (by first | rfl | simp [z_rfc, z_ci, z_cj]) (fun ls hl => ?_)
        refine x_aload_n hC d_AckBookLaw_law_461 rfl (lv_at hl 3 rfl) ?_
        refine x_aload_n hC d_AckBookLaw_law_462 rfl (lv_at hl 1 rfl) ?_
        refine lv_iload hC.1 hC.2.1 d_AckBookLaw_law_463 (lv_at hl 5 rfl) ?_
        refine lv_iconst (v := (1 : Int32)) hC.1 hC.2.1 d_AckBookLaw_law_465 (by decide) ?_
        refine lv_iadd hC.1 hC.2.1 d_AckBookLaw_law_466 ?_
        refine x_scr hC hZ hX h d_AckBookLaw_law_467 (fun v84 h => ?_)
        obtain ⟨a_, fs_, eo_, h⟩ := z_this_spec h
        obtain ⟨w1_, o1_, hF_, ha_⟩ := z_cV_spec h
        refine x_goesN ha_ (z_goV (As := [.int v84]) hC hZ zc10 eo_ (k_AckBookModel_discard hT hfl hE _ _ hF_) t_1028 t_1029 t_1030 t_12 t_1031 ⟨by decide, by decide, (by decide +kernel : (parseMethodDescriptor y_AckBookModel_discard.desc).map (fun d => d.parameters.length) = some 1)⟩ (by rw [hRt.1]; decide) (by rw [hRt.2]; decide) hl.1 rfl (by first | exact Nat.le_of_ble_eq_true rfl | simp [z_rfc, z_ci, z_cj]) d_AckBookLaw_law_468) (fun v_ hv H locs cells slots hZ => ?_)
        obtain ⟨rfl, h⟩ := hv
        generalize w1_ = w at h hZ
        refine x_aload_n hC d_AckBookLaw_law_471 rfl (lv_at hl 3 rfl) ?_
        obtain ⟨a_, fs_, eo_, h⟩ := z_this_spec h
        obtain ⟨w1_, o1_, hF_, ha_⟩ := z_cI_spec h
        refine x_goesN ha_ (z_goV (As := []) hC hZ zc10 eo_ (k_AckBookModel_thrown hT hfl hE _ _ hF_) t_936 t_937 t_938 t_12 t_939 ⟨by decide, by decide, (by decide +kernel : (parseMethodDescriptor y_AckBookModel_thrown.desc).map (fun d => d.parameters.length) = some 0)⟩ (by rw [hRt.1]; decide) (by rw [hRt.2]; decide) hl.1 rfl (by first | exact Nat.le_of_ble_eq_true rfl | simp [z_rfc, z_ci, z_cj]) d_AckBookLaw_law_472) (fun v_ hv H locs cells slots hZ => ?_)
        obtain ⟨v87, rfl, h⟩ := hv
        generalize w1_ = w at h hZ
        refine lv_iload hC.1 hC.2.1 d_AckBookLaw_law_475 (lv_at hl 0 rfl) ?_
        refine lv_icmp_eq (tgt := 482) hC.1 hC.2.1 d_AckBookLaw_law_477 (by decide) (fun hc => ?_) (fun hc => ?_)
        · have h := z_ifp hc h
          refine lv_goto (tgt := 1159) hC.1 hC.2.1 d_AckBookLaw_law_482 (by decide) ?_
          refine lv_iinc (lv' := [(4, .int (xL4 + (5 : Int32))), (5, .int v83), (0, va_rf (some bS)), (1, va_rf rL1), (2, va_rf rL2), (3, va_rf rL3)]) hC.1 hC.2.1 d_AckBookLaw_law_1159 hl (k := 5) rfl rfl (by decide) (by first | rfl | simp [z_rfc, z_ci, z_cj]) (fun ls hl => ?_)
          refine lv_goto (tgt := 23) hC.1 hC.2.1 d_AckBookLaw_law_1162 (by decide) ?_
          exact ih _ _ _ _ _ _ h _ _ _ _ _ hZ (lv_sub hl [2, 3, 4, 5, 0] rfl)
        · have h := z_ifn hc h
          refine lv_iconst (v := (0 : Int32)) hC.1 hC.2.1 d_AckBookLaw_law_480 (by decide) ?_
          exact (z_no0 h).elim
      have h := z_ifn hc4 h
      by_cases hc5 : (v47 &&& (15 : Int32)) = (5 : Int32)
      · have h := z_ifp hc5 h
        refine lv_tableIn (tgt := 485) hC.1 hC.2.1 d_AckBookLaw_law_39 (by rw [hc5]; decide) (by rw [hc5]; decide) (by rw [hc5]; rfl) (by decide) ?_
        refine x_aload_n hC d_AckBookLaw_law_485 rfl (lv_at hl 1 rfl) ?_
        obtain ⟨a_, fs_, eo_, h⟩ := z_this_spec h
        obtain ⟨w1_, o1_, hF_, ha_⟩ := z_cV_spec h
        refine x_goesN ha_ (z_goV (As := []) hC hZ zc0 eo_ (k_AckBook_confirm hT hfl hE _ _ hF_) t_363 t_364 t_365 t_1 t_366 ⟨by decide, by decide, (by decide +kernel : (parseMethodDescriptor y_AckBook_confirm.desc).map (fun d => d.parameters.length) = some 0)⟩ (by rw [hRt.1]; decide) (by rw [hRt.2]; decide) hl.1 rfl (by first | exact Nat.le_of_ble_eq_true rfl | simp [z_rfc, z_ci, z_cj]) d_AckBookLaw_law_486) (fun v_ hv H locs cells slots hZ => ?_)
        obtain ⟨rfl, h⟩ := hv
        generalize w1_ = w at h hZ
        refine x_aload_n hC d_AckBookLaw_law_489 rfl (lv_at hl 2 rfl) ?_
        obtain ⟨a_, fs_, eo_, h⟩ := z_this_spec h
        obtain ⟨w1_, o1_, hF_, ha_⟩ := z_cV_spec h
        refine x_goesN ha_ (z_goV (As := []) hC hZ zc10 eo_ (k_AckBookModel_confirm hT hfl hE _ _ hF_) t_1032 t_1033 t_1034 t_12 t_1035 ⟨by decide, by decide, (by decide +kernel : (parseMethodDescriptor y_AckBookModel_confirm.desc).map (fun d => d.parameters.length) = some 0)⟩ (by rw [hRt.1]; decide) (by rw [hRt.2]; decide) hl.1 rfl (by first | exact Nat.le_of_ble_eq_true rfl | simp [z_rfc, z_ci, z_cj]) d_AckBookLaw_law_490) (fun v_ hv H locs cells slots hZ => ?_)
        obtain ⟨rfl, h⟩ := hv
        generalize w1_ = w at h hZ
        refine lv_goto (tgt := 1159) hC.1 hC.2.1 d_AckBookLaw_law_493 (by decide) ?_
        refine lv_iinc (lv' := [(4, .int (xL4 + (5 : Int32))), (0, va_rf (some bS)), (1, va_rf rL1), (2, va_rf rL2), (3, va_rf rL3)]) hC.1 hC.2.1 d_AckBookLaw_law_1159 hl (k := 4) rfl rfl (by decide) (by first | rfl | simp [z_rfc, z_ci, z_cj]) (fun ls hl => ?_)
        refine lv_goto (tgt := 23) hC.1 hC.2.1 d_AckBookLaw_law_1162 (by decide) ?_
        exact ih _ _ _ _ _ _ h _ _ _ _ _ hZ (lv_sub hl [1, 2, 3, 4, 0] rfl)
      have h := z_ifn hc5 h
      by_cases hc6 : (v47 &&& (15 : Int32)) = (6 : Int32)
      · have h := z_ifp hc6 h
        refine lv_tableIn (tgt := 496) hC.1 hC.2.1 d_AckBookLaw_law_39 (by rw [hc6]; decide) (by rw [hc6]; decide) (by rw [hc6]; rfl) (by decide) ?_
        refine x_aload_n hC d_AckBookLaw_law_496 rfl (lv_at hl 1 rfl) ?_
        refine x_aload_n hC d_AckBookLaw_law_497 rfl (lv_at hl 0 rfl) ?_
        refine lv_iload hC.1 hC.2.1 d_AckBookLaw_law_498 (lv_at hl 4 rfl) ?_
        refine lv_iconst (v := (1 : Int32)) hC.1 hC.2.1 d_AckBookLaw_law_500 (by decide) ?_
        refine lv_iadd hC.1 hC.2.1 d_AckBookLaw_law_501 ?_
        refine x_scr hC hZ hX h d_AckBookLaw_law_502 (fun v90 h => ?_)
        refine lv_if_eq (tgt := 510) hC.1 hC.2.1 d_AckBookLaw_law_503 (by decide) (fun hc => ?_) (fun hc => ?_)
        · have h := z_ifp hc h
          refine lv_iconst (v := (0 : Int32)) hC.1 hC.2.1 d_AckBookLaw_law_510 (by decide) ?_
          exact kq_AckBookLaw_law_511 hT hfl hE hC hr hX hB ih _ _ _ _ _ _ _ _ h _ _ _ _ _ hZ (lv_sub hl [0, 1, 2, 3, 4] rfl)
        · have h := z_ifn hc h
          refine lv_iconst (v := (1 : Int32)) hC.1 hC.2.1 d_AckBookLaw_law_506 (by decide) ?_
          refine lv_goto (tgt := 511) hC.1 hC.2.1 d_AckBookLaw_law_507 (by decide) ?_
          exact kq_AckBookLaw_law_511 hT hfl hE hC hr hX hB ih _ _ _ _ _ _ _ _ h _ _ _ _ _ hZ (lv_sub hl [0, 1, 2, 3, 4] rfl)
      have h := z_ifn hc6 h
      by_cases hc7 : (v47 &&& (15 : Int32)) = (7 : Int32)
      · have h := z_ifp hc7 h
        refine lv_tableIn (tgt := 535) hC.1 hC.2.1 d_AckBookLaw_law_39 (by rw [hc7]; decide) (by rw [hc7]; decide) (by rw [hc7]; rfl) (by decide) ?_
        refine x_aload_n hC d_AckBookLaw_law_535 rfl (lv_at hl 1 rfl) ?_
        refine x_aload_n hC d_AckBookLaw_law_536 rfl (lv_at hl 0 rfl) ?_
        refine lv_iload hC.1 hC.2.1 d_AckBookLaw_law_537 (lv_at hl 4 rfl) ?_
        refine lv_iconst (v := (1 : Int32)) hC.1 hC.2.1 d_AckBookLaw_law_539 (by decide) ?_
        refine lv_iadd hC.1 hC.2.1 d_AckBookLaw_law_540 ?_
        refine x_scr hC hZ hX h d_AckBookLaw_law_541 (fun v91 h => ?_)
        refine x_aload_n hC d_AckBookLaw_law_542 rfl (lv_at hl 0 rfl) ?_
        refine lv_iload hC.1 hC.2.1 d_AckBookLaw_law_543 (lv_at hl 4 rfl) ?_
        refine lv_iconst (v := (2 : Int32)) hC.1 hC.2.1 d_AckBookLaw_law_545 (by decide) ?_
        refine lv_iadd hC.1 hC.2.1 d_AckBookLaw_law_546 ?_
        refine x_scr hC hZ hX h d_AckBookLaw_law_547 (fun v92 h => ?_)
        refine lv_if_eq (tgt := 555) hC.1 hC.2.1 d_AckBookLaw_law_548 (by decide) (fun hc => ?_) (fun hc => ?_)
        · have h := z_ifp hc h
          refine lv_iconst (v := (0 : Int32)) hC.1 hC.2.1 d_AckBookLaw_law_555 (by decide) ?_
          exact kq_AckBookLaw_law_556 hT hfl hE hC hr hX hB ih _ _ _ _ _ _ _ _ _ h _ _ _ _ _ hZ (lv_sub hl [0, 1, 2, 3, 4] rfl)
        · have h := z_ifn hc h
          refine lv_iconst (v := (1 : Int32)) hC.1 hC.2.1 d_AckBookLaw_law_551 (by decide) ?_
          refine lv_goto (tgt := 556) hC.1 hC.2.1 d_AckBookLaw_law_552 (by decide) ?_
          exact kq_AckBookLaw_law_556 hT hfl hE hC hr hX hB ih _ _ _ _ _ _ _ _ _ h _ _ _ _ _ hZ (lv_sub hl [0, 1, 2, 3, 4] rfl)
      have h := z_ifn hc7 h
      by_cases hc8 : (v47 &&& (15 : Int32)) = (8 : Int32)
      · have h := z_ifp hc8 h
        refine lv_tableIn (tgt := 619) hC.1 hC.2.1 d_AckBookLaw_law_39 (by rw [hc8]; decide) (by rw [hc8]; decide) (by rw [hc8]; rfl) (by decide) ?_
        refine x_aload_n hC d_AckBookLaw_law_619 rfl (lv_at hl 1 rfl) ?_
        refine x_aload_n hC d_AckBookLaw_law_620 rfl (lv_at hl 0 rfl) ?_
        refine lv_iload hC.1 hC.2.1 d_AckBookLaw_law_621 (lv_at hl 4 rfl) ?_
        refine lv_iconst (v := (1 : Int32)) hC.1 hC.2.1 d_AckBookLaw_law_623 (by decide) ?_
        refine lv_iadd hC.1 hC.2.1 d_AckBookLaw_law_624 ?_
        refine x_scr hC hZ hX h d_AckBookLaw_law_625 (fun v93 h => ?_)
        refine x_aload_n hC d_AckBookLaw_law_626 rfl (lv_at hl 0 rfl) ?_
        refine lv_iload hC.1 hC.2.1 d_AckBookLaw_law_627 (lv_at hl 4 rfl) ?_
        refine lv_iconst (v := (2 : Int32)) hC.1 hC.2.1 d_AckBookLaw_law_629 (by decide) ?_
        refine lv_iadd hC.1 hC.2.1 d_AckBookLaw_law_630 ?_
        refine x_scr hC hZ hX h d_AckBookLaw_law_631 (fun v94 h => ?_)
        refine x_aload_n hC d_AckBookLaw_law_632 rfl (lv_at hl 3 rfl) ?_
        obtain ⟨w1_, o1_, hF_, ha_⟩ := z_cI_spec h
        refine x_goesN ha_ (z_goSW (As := [va_rf rL1, .int v93, .int v94, va_rf rL3]) hC hZ (k_AckBookLaw_state hT hfl hE _ _ hF_) t_709 t_710 t_0 t_711 ⟨by decide, by decide, (by decide +kernel : (parseMethodDescriptor y_AckBookLaw_state.desc).map (fun d => d.parameters.length) = some 4)⟩ (by rw [hRt.1]; decide) (by rw [hRt.2]; decide) hl.1 rfl (by first | exact Nat.le_of_ble_eq_true rfl | simp [z_rfc, z_ci, z_cj]) d_AckBookLaw_law_633) (fun v_ hv H locs cells slots hZ => ?_)
        obtain ⟨v96, rfl, h⟩ := hv
        generalize w1_ = w at h hZ
        refine lv_istore (i := 5) (lv' := [(5, .int v96), (0, va_rf (some bS)), (1, va_rf rL1), (2, va_rf rL2), (3, va_rf rL3), (4, .int xL4)]) hC.1 hC.2.1 d_AckBookLaw_law_636 hl (by decide) (by first | rfl | simp [z_rfc, z_ci, z_cj]) (fun ls hl => ?_)
        refine x_aload_n hC d_AckBookLaw_law_638 rfl (lv_at hl 3 rfl) ?_
        refine x_aload_n hC d_AckBookLaw_law_639 rfl (lv_at hl 1 rfl) ?_
        refine lv_iload hC.1 hC.2.1 d_AckBookLaw_law_640 (lv_at hl 5 rfl) ?_
        refine lv_iconst (v := (1 : Int32)) hC.1 hC.2.1 d_AckBookLaw_law_642 (by decide) ?_
        refine lv_iadd hC.1 hC.2.1 d_AckBookLaw_law_643 ?_
        refine x_scr hC hZ hX h d_AckBookLaw_law_644 (fun v97 h => ?_)
        refine x_aload_n hC d_AckBookLaw_law_645 rfl (lv_at hl 1 rfl) ?_
        refine lv_iload hC.1 hC.2.1 d_AckBookLaw_law_646 (lv_at hl 5 rfl) ?_
        refine lv_iconst (v := (2 : Int32)) hC.1 hC.2.1 d_AckBookLaw_law_648 (by decide) ?_
        refine lv_iadd hC.1 hC.2.1 d_AckBookLaw_law_649 ?_
        refine x_scr hC hZ hX h d_AckBookLaw_law_650 (fun v98 h => ?_)
        obtain ⟨a_, fs_, eo_, h⟩ := z_this_spec h
        obtain ⟨w1_, o1_, hF_, ha_⟩ := z_cI_spec h
        refine x_goesN ha_ (z_goV (As := [.int v97, .int v98]) hC hZ zc10 eo_ (k_AckBookModel_state hT hfl hE _ _ hF_) t_1044 t_1045 t_1046 t_12 t_1047 ⟨by decide, by decide, (by decide +kernel : (parseMethodDescriptor y_AckBookModel_state.desc).map (fun d => d.parameters.length) = some 2)⟩ (by rw [hRt.1]; decide) (by rw [hRt.2]; decide) hl.1 rfl (by first | exact Nat.le_of_ble_eq_true rfl | simp [z_rfc, z_ci, z_cj]) d_AckBookLaw_law_651) (fun v_ hv H locs cells slots hZ => ?_)
        obtain ⟨v100, rfl, h⟩ := hv
        generalize w1_ = w at h hZ
        refine lv_istore (i := 6) (lv' := [(6, .int v100), (5, .int v96), (0, va_rf (some bS)), (1, va_rf rL1), (2, va_rf rL2), (3, va_rf rL3), (4, .int xL4)]) hC.1 hC.2.1 d_AckBookLaw_law_654 hl (by decide) (by first | rfl | simp [z_rfc, z_ci, z_cj]) (fun ls hl => ?_)
        refine x_aload_n hC d_AckBookLaw_law_656 rfl (lv_at hl 4 rfl) ?_
        obtain ⟨a_, fs_, eo_, h⟩ := z_this_spec h
        obtain ⟨w1_, o1_, hF_, ha_⟩ := z_cI_spec h
        refine x_goesN ha_ (z_goV (As := []) hC hZ zc10 eo_ (k_AckBookModel_thrown hT hfl hE _ _ hF_) t_936 t_937 t_938 t_12 t_939 ⟨by decide, by decide, (by decide +kernel : (parseMethodDescriptor y_AckBookModel_thrown.desc).map (fun d => d.parameters.length) = some 0)⟩ (by rw [hRt.1]; decide) (by rw [hRt.2]; decide) hl.1 rfl (by first | exact Nat.le_of_ble_eq_true rfl | simp [z_rfc, z_ci, z_cj]) d_AckBookLaw_law_657) (fun v_ hv H locs cells slots hZ => ?_)
        obtain ⟨v102, rfl, h⟩ := hv
        generalize w1_ = w at h hZ
        refine lv_iload hC.1 hC.2.1 d_AckBookLaw_law_660 (lv_at hl 1 rfl) ?_
        refine lv_icmp_eq (tgt := 667) hC.1 hC.2.1 d_AckBookLaw_law_662 (by decide) (fun hc => ?_) (fun hc => ?_)
        · have h := z_ifp hc h
          refine lv_iload hC.1 hC.2.1 d_AckBookLaw_law_667 (lv_at hl 1 rfl) ?_
          refine lv_if_ne (tgt := 684) hC.1 hC.2.1 d_AckBookLaw_law_669 (by decide) (fun hc => ?_) (fun hc => ?_)
          · have h := z_ifn hc h
            refine lv_goto (tgt := 1159) hC.1 hC.2.1 d_AckBookLaw_law_684 (by decide) ?_
            refine lv_iinc (lv' := [(4, .int (xL4 + (5 : Int32))), (6, .int v100), (5, .int v96), (0, va_rf (some bS)), (1, va_rf rL1), (2, va_rf rL2), (3, va_rf rL3)]) hC.1 hC.2.1 d_AckBookLaw_law_1159 hl (k := 6) rfl rfl (by decide) (by first | rfl | simp [z_rfc, z_ci, z_cj]) (fun ls hl => ?_)
            refine lv_goto (tgt := 23) hC.1 hC.2.1 d_AckBookLaw_law_1162 (by decide) ?_
            exact ih _ _ _ _ _ _ h _ _ _ _ _ hZ (lv_sub hl [3, 4, 5, 6, 0] rfl)
          · have h := z_ifp hc h
            refine x_aload_n hC d_AckBookLaw_law_672 rfl (lv_at hl 5 rfl) ?_
            refine lv_iconst (v := (0 : Int32)) hC.1 hC.2.1 d_AckBookLaw_law_673 (by decide) ?_
            refine x_ldL hC hZ h d_AckBookLaw_law_674 (fun v103 h => ?_)
            refine lv_iload hC.1 hC.2.1 d_AckBookLaw_law_675 (lv_at hl 0 rfl) ?_
            refine lv_i2l hC.1 hC.2.1 d_AckBookLaw_law_677 rfl ?_
            refine W.lcmp hC.1 hC.2.1 d_AckBookLaw_law_678 ?_
            refine lv_if_eq (tgt := 684) hC.1 hC.2.1 d_AckBookLaw_law_679 (by decide) (fun hc => ?_) (fun hc => ?_)
            · have h := z_ifp hc h
              refine lv_goto (tgt := 1159) hC.1 hC.2.1 d_AckBookLaw_law_684 (by decide) ?_
              refine lv_iinc (lv' := [(4, .int (xL4 + (5 : Int32))), (6, .int v100), (5, .int v96), (0, va_rf (some bS)), (1, va_rf rL1), (2, va_rf rL2), (3, va_rf rL3)]) hC.1 hC.2.1 d_AckBookLaw_law_1159 hl (k := 6) rfl rfl (by decide) (by first | rfl | simp [z_rfc, z_ci, z_cj]) (fun ls hl => ?_)
              refine lv_goto (tgt := 23) hC.1 hC.2.1 d_AckBookLaw_law_1162 (by decide) ?_
              exact ih _ _ _ _ _ _ h _ _ _ _ _ hZ (lv_sub hl [3, 4, 5, 6, 0] rfl)
            · have h := z_ifn hc h
              refine lv_iconst (v := (0 : Int32)) hC.1 hC.2.1 d_AckBookLaw_law_682 (by decide) ?_
              exact (z_no0 h).elim
        · have h := z_ifn hc h
          refine lv_iconst (v := (0 : Int32)) hC.1 hC.2.1 d_AckBookLaw_law_665 (by decide) ?_
          exact (z_no0 h).elim
      have h := z_ifn hc8 h
      by_cases hc9 : (v47 &&& (15 : Int32)) = (9 : Int32)
      · have h := z_ifp hc9 h
        refine lv_tableIn (tgt := 687) hC.1 hC.2.1 d_AckBookLaw_law_39 (by rw [hc9]; decide) (by rw [hc9]; decide) (by rw [hc9]; rfl) (by decide) ?_
        refine x_aload_n hC d_AckBookLaw_law_687 rfl (lv_at hl 1 rfl) ?_
        refine x_aload_n hC d_AckBookLaw_law_688 rfl (lv_at hl 0 rfl) ?_
        refine lv_iload hC.1 hC.2.1 d_AckBookLaw_law_689 (lv_at hl 4 rfl) ?_
        refine lv_iconst (v := (1 : Int32)) hC.1 hC.2.1 d_AckBookLaw_law_691 (by decide) ?_
        refine lv_iadd hC.1 hC.2.1 d_AckBookLaw_law_692 ?_
        refine x_scr hC hZ hX h d_AckBookLaw_law_693 (fun v104 h => ?_)
        refine x_aload_n hC d_AckBookLaw_law_694 rfl (lv_at hl 0 rfl) ?_
        refine lv_iload hC.1 hC.2.1 d_AckBookLaw_law_695 (lv_at hl 4 rfl) ?_
        refine lv_iconst (v := (2 : Int32)) hC.1 hC.2.1 d_AckBookLaw_law_697 (by decide) ?_
        refine lv_iadd hC.1 hC.2.1 d_AckBookLaw_law_698 ?_
        refine x_scr hC hZ hX h d_AckBookLaw_law_699 (fun v105 h => ?_)
        refine lv_i2l hC.1 hC.2.1 d_AckBookLaw_law_700 rfl ?_
        refine lv_bipush (v := (32 : Int32)) hC.1 hC.2.1 d_AckBookLaw_law_701 (by decide) ?_
        refine lv_lshl hC.1 hC.2.1 d_AckBookLaw_law_703 rfl ?_
        refine x_aload_n hC d_AckBookLaw_law_704 rfl (lv_at hl 0 rfl) ?_
        refine lv_iload hC.1 hC.2.1 d_AckBookLaw_law_705 (lv_at hl 4 rfl) ?_
        refine lv_iconst (v := (3 : Int32)) hC.1 hC.2.1 d_AckBookLaw_law_707 (by decide) ?_
        refine lv_iadd hC.1 hC.2.1 d_AckBookLaw_law_708 ?_
        refine x_scr hC hZ hX h d_AckBookLaw_law_709 (fun v106 h => ?_)
        refine lv_i2l hC.1 hC.2.1 d_AckBookLaw_law_710 rfl ?_
        refine lv_ldc2 (v := (4294967295 : Int64)) hC.1 hC.2.1 hC.2.2.2.1 ((hZ.1.tb hC.2.2.2.2.2.2 #[Value.ref bS]) _ t_1090) d_AckBookLaw_law_711 ?_
        refine lv_land hC.1 hC.2.1 d_AckBookLaw_law_714 ?_
        refine lv_lor hC.1 hC.2.1 d_AckBookLaw_law_715 ?_
        refine x_aload_n hC d_AckBookLaw_law_716 rfl (lv_at hl 0 rfl) ?_
        refine lv_iload hC.1 hC.2.1 d_AckBookLaw_law_717 (lv_at hl 4 rfl) ?_
        refine lv_iconst (v := (4 : Int32)) hC.1 hC.2.1 d_AckBookLaw_law_719 (by decide) ?_
        refine lv_iadd hC.1 hC.2.1 d_AckBookLaw_law_720 ?_
        refine x_scr hC hZ hX h d_AckBookLaw_law_721 (fun v107 h => ?_)
        refine lv_if_eq (tgt := 729) hC.1 hC.2.1 d_AckBookLaw_law_722 (by decide) (fun hc => ?_) (fun hc => ?_)
        · have h := z_ifp hc h
          refine lv_iconst (v := (0 : Int32)) hC.1 hC.2.1 d_AckBookLaw_law_729 (by decide) ?_
          exact kq_AckBookLaw_law_730 hT hfl hE hC hr hX hB ih _ _ _ _ _ _ _ _ _ _ h _ _ _ _ _ hZ (lv_sub hl [0, 1, 2, 3, 4] rfl)
        · have h := z_ifn hc h
          refine lv_iconst (v := (1 : Int32)) hC.1 hC.2.1 d_AckBookLaw_law_725 (by decide) ?_
          refine lv_goto (tgt := 730) hC.1 hC.2.1 d_AckBookLaw_law_726 (by decide) ?_
          exact kq_AckBookLaw_law_730 hT hfl hE hC hr hX hB ih _ _ _ _ _ _ _ _ _ _ h _ _ _ _ _ hZ (lv_sub hl [0, 1, 2, 3, 4] rfl)
      have h := z_ifn hc9 h
      by_cases hc10 : (v47 &&& (15 : Int32)) = (10 : Int32)
      · have h := z_ifp hc10 h
        refine lv_tableIn (tgt := 822) hC.1 hC.2.1 d_AckBookLaw_law_39 (by rw [hc10]; decide) (by rw [hc10]; decide) (by rw [hc10]; rfl) (by decide) ?_
        refine x_aload_n hC d_AckBookLaw_law_822 rfl (lv_at hl 1 rfl) ?_
        refine x_aload_n hC d_AckBookLaw_law_823 rfl (lv_at hl 0 rfl) ?_
        refine lv_iload hC.1 hC.2.1 d_AckBookLaw_law_824 (lv_at hl 4 rfl) ?_
        refine lv_iconst (v := (1 : Int32)) hC.1 hC.2.1 d_AckBookLaw_law_826 (by decide) ?_
        refine lv_iadd hC.1 hC.2.1 d_AckBookLaw_law_827 ?_
        refine x_scr hC hZ hX h d_AckBookLaw_law_828 (fun v108 h => ?_)
        refine x_aload_n hC d_AckBookLaw_law_829 rfl (lv_at hl 3 rfl) ?_
        obtain ⟨w1_, o1_, hF_, ha_⟩ := z_cI_spec h
        refine x_goesN ha_ (z_goSW (As := [va_rf rL1, .int v108, va_rf rL3]) hC hZ (k_AckBookLaw_due hT hfl hE _ _ hF_) t_750 t_751 t_0 t_752 ⟨by decide, by decide, (by decide +kernel : (parseMethodDescriptor y_AckBookLaw_due.desc).map (fun d => d.parameters.length) = some 3)⟩ (by rw [hRt.1]; decide) (by rw [hRt.2]; decide) hl.1 rfl (by first | exact Nat.le_of_ble_eq_true rfl | simp [z_rfc, z_ci, z_cj]) d_AckBookLaw_law_830) (fun v_ hv H locs cells slots hZ => ?_)
        obtain ⟨v110, rfl, h⟩ := hv
        generalize w1_ = w at h hZ
        refine lv_istore (i := 5) (lv' := [(5, .int v110), (0, va_rf (some bS)), (1, va_rf rL1), (2, va_rf rL2), (3, va_rf rL3), (4, .int xL4)]) hC.1 hC.2.1 d_AckBookLaw_law_833 hl (by decide) (by first | rfl | simp [z_rfc, z_ci, z_cj]) (fun ls hl => ?_)
        refine x_aload_n hC d_AckBookLaw_law_835 rfl (lv_at hl 3 rfl) ?_
        refine x_aload_n hC d_AckBookLaw_law_836 rfl (lv_at hl 1 rfl) ?_
        refine lv_iload hC.1 hC.2.1 d_AckBookLaw_law_837 (lv_at hl 5 rfl) ?_
        refine lv_iconst (v := (1 : Int32)) hC.1 hC.2.1 d_AckBookLaw_law_839 (by decide) ?_
        refine lv_iadd hC.1 hC.2.1 d_AckBookLaw_law_840 ?_
        refine x_scr hC hZ hX h d_AckBookLaw_law_841 (fun v111 h => ?_)
        obtain ⟨a_, fs_, eo_, h⟩ := z_this_spec h
        obtain ⟨w1_, o1_, hF_, ha_⟩ := z_cI_spec h
        refine x_goesN ha_ (z_goV (As := [.int v111]) hC hZ zc10 eo_ (k_AckBookModel_due hT hfl hE _ _ hF_) t_1070 t_1071 t_1072 t_12 t_1073 ⟨by decide, by decide, (by decide +kernel : (parseMethodDescriptor y_AckBookModel_due.desc).map (fun d => d.parameters.length) = some 1)⟩ (by rw [hRt.1]; decide) (by rw [hRt.2]; decide) hl.1 rfl (by first | exact Nat.le_of_ble_eq_true rfl | simp [z_rfc, z_ci, z_cj]) d_AckBookLaw_law_842) (fun v_ hv H locs cells slots hZ => ?_)
        obtain ⟨v113, rfl, h⟩ := hv
        generalize w1_ = w at h hZ
        refine lv_istore (i := 6) (lv' := [(6, .int v113), (5, .int v110), (0, va_rf (some bS)), (1, va_rf rL1), (2, va_rf rL2), (3, va_rf rL3), (4, .int xL4)]) hC.1 hC.2.1 d_AckBookLaw_law_845 hl (by decide) (by first | rfl | simp [z_rfc, z_ci, z_cj]) (fun ls hl => ?_)
        refine x_aload_n hC d_AckBookLaw_law_847 rfl (lv_at hl 4 rfl) ?_
        obtain ⟨a_, fs_, eo_, h⟩ := z_this_spec h
        obtain ⟨w1_, o1_, hF_, ha_⟩ := z_cI_spec h
        refine x_goesN ha_ (z_goV (As := []) hC hZ zc10 eo_ (k_AckBookModel_thrown hT hfl hE _ _ hF_) t_936 t_937 t_938 t_12 t_939 ⟨by decide, by decide, (by decide +kernel : (parseMethodDescriptor y_AckBookModel_thrown.desc).map (fun d => d.parameters.length) = some 0)⟩ (by rw [hRt.1]; decide) (by rw [hRt.2]; decide) hl.1 rfl (by first | exact Nat.le_of_ble_eq_true rfl | simp [z_rfc, z_ci, z_cj]) d_AckBookLaw_law_848) (fun v_ hv H locs cells slots hZ => ?_)
        obtain ⟨v115, rfl, h⟩ := hv
        generalize w1_ = w at h hZ
        refine lv_iload hC.1 hC.2.1 d_AckBookLaw_law_851 (lv_at hl 1 rfl) ?_
        refine lv_icmp_eq (tgt := 858) hC.1 hC.2.1 d_AckBookLaw_law_853 (by decide) (fun hc => ?_) (fun hc => ?_)
        · have h := z_ifp hc h
          refine lv_iload hC.1 hC.2.1 d_AckBookLaw_law_858 (lv_at hl 1 rfl) ?_
          refine lv_if_ne (tgt := 882) hC.1 hC.2.1 d_AckBookLaw_law_860 (by decide) (fun hc => ?_) (fun hc => ?_)
          · have h := z_ifn hc h
            refine lv_goto (tgt := 1159) hC.1 hC.2.1 d_AckBookLaw_law_882 (by decide) ?_
            refine lv_iinc (lv' := [(4, .int (xL4 + (5 : Int32))), (6, .int v113), (5, .int v110), (0, va_rf (some bS)), (1, va_rf rL1), (2, va_rf rL2), (3, va_rf rL3)]) hC.1 hC.2.1 d_AckBookLaw_law_1159 hl (k := 6) rfl rfl (by decide) (by first | rfl | simp [z_rfc, z_ci, z_cj]) (fun ls hl => ?_)
            refine lv_goto (tgt := 23) hC.1 hC.2.1 d_AckBookLaw_law_1162 (by decide) ?_
            exact ih _ _ _ _ _ _ h _ _ _ _ _ hZ (lv_sub hl [3, 4, 5, 6, 0] rfl)
          · have h := z_ifp hc h
            refine x_aload_n hC d_AckBookLaw_law_863 rfl (lv_at hl 5 rfl) ?_
            refine lv_iconst (v := (0 : Int32)) hC.1 hC.2.1 d_AckBookLaw_law_864 (by decide) ?_
            refine x_ldL hC hZ h d_AckBookLaw_law_865 (fun v116 h => ?_)
            refine lv_iload hC.1 hC.2.1 d_AckBookLaw_law_866 (lv_at hl 0 rfl) ?_
            refine lv_if_eq (tgt := 875) hC.1 hC.2.1 d_AckBookLaw_law_868 (by decide) (fun hc => ?_) (fun hc => ?_)
            · have h := z_ifp hc h
              refine lv_lconst (v := (0 : Int64)) hC.1 hC.2.1 d_AckBookLaw_law_875 (by decide) ?_
              exact kq_AckBookLaw_law_876 hT hfl hE hC hr hX hB ih _ _ _ _ _ _ _ _ h _ _ _ _ _ hZ (lv_sub hl [2, 3, 4, 5, 6] rfl)
            · have h := z_ifn hc h
              refine lv_lconst (v := (1 : Int64)) hC.1 hC.2.1 d_AckBookLaw_law_871 (by decide) ?_
              refine lv_goto (tgt := 876) hC.1 hC.2.1 d_AckBookLaw_law_872 (by decide) ?_
              exact kq_AckBookLaw_law_876 hT hfl hE hC hr hX hB ih _ _ _ _ _ _ _ _ h _ _ _ _ _ hZ (lv_sub hl [2, 3, 4, 5, 6] rfl)
        · have h := z_ifn hc h
          refine lv_iconst (v := (0 : Int32)) hC.1 hC.2.1 d_AckBookLaw_law_856 (by decide) ?_
          exact (z_no0 h).elim
      have h := z_ifn hc10 h
      by_cases hc11 : (v47 &&& (15 : Int32)) = (11 : Int32)
      · have h := z_ifp hc11 h
        refine lv_tableIn (tgt := 885) hC.1 hC.2.1 d_AckBookLaw_law_39 (by rw [hc11]; decide) (by rw [hc11]; decide) (by rw [hc11]; rfl) (by decide) ?_
        refine x_aload_n hC d_AckBookLaw_law_885 rfl (lv_at hl 1 rfl) ?_
        refine x_aload_n hC d_AckBookLaw_law_886 rfl (lv_at hl 0 rfl) ?_
        refine lv_iload hC.1 hC.2.1 d_AckBookLaw_law_887 (lv_at hl 4 rfl) ?_
        refine lv_iconst (v := (1 : Int32)) hC.1 hC.2.1 d_AckBookLaw_law_889 (by decide) ?_
        refine lv_iadd hC.1 hC.2.1 d_AckBookLaw_law_890 ?_
        refine x_scr hC hZ hX h d_AckBookLaw_law_891 (fun v117 h => ?_)
        refine x_aload_n hC d_AckBookLaw_law_892 rfl (lv_at hl 3 rfl) ?_
        obtain ⟨w1_, o1_, hF_, ha_⟩ := z_cI_spec h
        refine x_goesN ha_ (z_goSW (As := [va_rf rL1, .int v117, va_rf rL3]) hC hZ (k_AckBookLaw_written hT hfl hE _ _ hF_) t_761 t_762 t_0 t_763 ⟨by decide, by decide, (by decide +kernel : (parseMethodDescriptor y_AckBookLaw_written.desc).map (fun d => d.parameters.length) = some 3)⟩ (by rw [hRt.1]; decide) (by rw [hRt.2]; decide) hl.1 rfl (by first | exact Nat.le_of_ble_eq_true rfl | simp [z_rfc, z_ci, z_cj]) d_AckBookLaw_law_893) (fun v_ hv H locs cells slots hZ => ?_)
        obtain ⟨v119, rfl, h⟩ := hv
        generalize w1_ = w at h hZ
        refine lv_istore (i := 5) (lv' := [(5, .int v119), (0, va_rf (some bS)), (1, va_rf rL1), (2, va_rf rL2), (3, va_rf rL3), (4, .int xL4)]) hC.1 hC.2.1 d_AckBookLaw_law_896 hl (by decide) (by first | rfl | simp [z_rfc, z_ci, z_cj]) (fun ls hl => ?_)
        refine x_aload_n hC d_AckBookLaw_law_898 rfl (lv_at hl 3 rfl) ?_
        refine x_aload_n hC d_AckBookLaw_law_899 rfl (lv_at hl 1 rfl) ?_
        refine lv_iload hC.1 hC.2.1 d_AckBookLaw_law_900 (lv_at hl 5 rfl) ?_
        refine lv_iconst (v := (1 : Int32)) hC.1 hC.2.1 d_AckBookLaw_law_902 (by decide) ?_
        refine lv_iadd hC.1 hC.2.1 d_AckBookLaw_law_903 ?_
        refine x_scr hC hZ hX h d_AckBookLaw_law_904 (fun v120 h => ?_)
        obtain ⟨a_, fs_, eo_, h⟩ := z_this_spec h
        obtain ⟨w1_, o1_, hF_, ha_⟩ := z_cI_spec h
        refine x_goesN ha_ (z_goV (As := [.int v120]) hC hZ zc10 eo_ (k_AckBookModel_written hT hfl hE _ _ hF_) t_1074 t_1075 t_1076 t_12 t_1077 ⟨by decide, by decide, (by decide +kernel : (parseMethodDescriptor y_AckBookModel_written.desc).map (fun d => d.parameters.length) = some 1)⟩ (by rw [hRt.1]; decide) (by rw [hRt.2]; decide) hl.1 rfl (by first | exact Nat.le_of_ble_eq_true rfl | simp [z_rfc, z_ci, z_cj]) d_AckBookLaw_law_905) (fun v_ hv H locs cells slots hZ => ?_)
        obtain ⟨v122, rfl, h⟩ := hv
        generalize w1_ = w at h hZ
        refine lv_istore (i := 6) (lv' := [(6, .int v122), (5, .int v119), (0, va_rf (some bS)), (1, va_rf rL1), (2, va_rf rL2), (3, va_rf rL3), (4, .int xL4)]) hC.1 hC.2.1 d_AckBookLaw_law_908 hl (by decide) (by first | rfl | simp [z_rfc, z_ci, z_cj]) (fun ls hl => ?_)
        refine x_aload_n hC d_AckBookLaw_law_910 rfl (lv_at hl 4 rfl) ?_
        obtain ⟨a_, fs_, eo_, h⟩ := z_this_spec h
        obtain ⟨w1_, o1_, hF_, ha_⟩ := z_cI_spec h
        refine x_goesN ha_ (z_goV (As := []) hC hZ zc10 eo_ (k_AckBookModel_thrown hT hfl hE _ _ hF_) t_936 t_937 t_938 t_12 t_939 ⟨by decide, by decide, (by decide +kernel : (parseMethodDescriptor y_AckBookModel_thrown.desc).map (fun d => d.parameters.length) = some 0)⟩ (by rw [hRt.1]; decide) (by rw [hRt.2]; decide) hl.1 rfl (by first | exact Nat.le_of_ble_eq_true rfl | simp [z_rfc, z_ci, z_cj]) d_AckBookLaw_law_911) (fun v_ hv H locs cells slots hZ => ?_)
        obtain ⟨v124, rfl, h⟩ := hv
        generalize w1_ = w at h hZ
        refine lv_iload hC.1 hC.2.1 d_AckBookLaw_law_914 (lv_at hl 1 rfl) ?_
        refine lv_icmp_eq (tgt := 921) hC.1 hC.2.1 d_AckBookLaw_law_916 (by decide) (fun hc => ?_) (fun hc => ?_)
        · have h := z_ifp hc h
          refine lv_iload hC.1 hC.2.1 d_AckBookLaw_law_921 (lv_at hl 1 rfl) ?_
          refine lv_if_ne (tgt := 938) hC.1 hC.2.1 d_AckBookLaw_law_923 (by decide) (fun hc => ?_) (fun hc => ?_)
          · have h := z_ifn hc h
            refine lv_goto (tgt := 1159) hC.1 hC.2.1 d_AckBookLaw_law_938 (by decide) ?_
            refine lv_iinc (lv' := [(4, .int (xL4 + (5 : Int32))), (6, .int v122), (5, .int v119), (0, va_rf (some bS)), (1, va_rf rL1), (2, va_rf rL2), (3, va_rf rL3)]) hC.1 hC.2.1 d_AckBookLaw_law_1159 hl (k := 6) rfl rfl (by decide) (by first | rfl | simp [z_rfc, z_ci, z_cj]) (fun ls hl => ?_)
            refine lv_goto (tgt := 23) hC.1 hC.2.1 d_AckBookLaw_law_1162 (by decide) ?_
            exact ih _ _ _ _ _ _ h _ _ _ _ _ hZ (lv_sub hl [3, 4, 5, 6, 0] rfl)
          · have h := z_ifp hc h
            refine x_aload_n hC d_AckBookLaw_law_926 rfl (lv_at hl 5 rfl) ?_
            refine lv_iconst (v := (0 : Int32)) hC.1 hC.2.1 d_AckBookLaw_law_927 (by decide) ?_
            refine x_ldL hC hZ h d_AckBookLaw_law_928 (fun v125 h => ?_)
            refine lv_iload hC.1 hC.2.1 d_AckBookLaw_law_929 (lv_at hl 0 rfl) ?_
            refine lv_i2l hC.1 hC.2.1 d_AckBookLaw_law_931 rfl ?_
            refine W.lcmp hC.1 hC.2.1 d_AckBookLaw_law_932 ?_
            refine lv_if_eq (tgt := 938) hC.1 hC.2.1 d_AckBookLaw_law_933 (by decide) (fun hc => ?_) (fun hc => ?_)
            · have h := z_ifp hc h
              refine lv_goto (tgt := 1159) hC.1 hC.2.1 d_AckBookLaw_law_938 (by decide) ?_
              refine lv_iinc (lv' := [(4, .int (xL4 + (5 : Int32))), (6, .int v122), (5, .int v119), (0, va_rf (some bS)), (1, va_rf rL1), (2, va_rf rL2), (3, va_rf rL3)]) hC.1 hC.2.1 d_AckBookLaw_law_1159 hl (k := 6) rfl rfl (by decide) (by first | rfl | simp [z_rfc, z_ci, z_cj]) (fun ls hl => ?_)
              refine lv_goto (tgt := 23) hC.1 hC.2.1 d_AckBookLaw_law_1162 (by decide) ?_
              exact ih _ _ _ _ _ _ h _ _ _ _ _ hZ (lv_sub hl [3, 4, 5, 6, 0] rfl)
            · have h := z_ifn hc h
              refine lv_iconst (v := (0 : Int32)) hC.1 hC.2.1 d_AckBookLaw_law_936 (by decide) ?_
              exact (z_no0 h).elim
        · have h := z_ifn hc h
          refine lv_iconst (v := (0 : Int32)) hC.1 hC.2.1 d_AckBookLaw_law_919 (by decide) ?_
          exact (z_no0 h).elim
      have h := z_ifn hc11 h
      by_cases hc12 : (v47 &&& (15 : Int32)) = (12 : Int32)
      · have h := z_ifp hc12 h
        refine lv_tableIn (tgt := 941) hC.1 hC.2.1 d_AckBookLaw_law_39 (by rw [hc12]; decide) (by rw [hc12]; decide) (by rw [hc12]; rfl) (by decide) ?_
        refine x_aload_n hC d_AckBookLaw_law_941 rfl (lv_at hl 1 rfl) ?_
        refine x_aload_n hC d_AckBookLaw_law_942 rfl (lv_at hl 0 rfl) ?_
        refine lv_iload hC.1 hC.2.1 d_AckBookLaw_law_943 (lv_at hl 4 rfl) ?_
        refine lv_iconst (v := (1 : Int32)) hC.1 hC.2.1 d_AckBookLaw_law_945 (by decide) ?_
        refine lv_iadd hC.1 hC.2.1 d_AckBookLaw_law_946 ?_
        refine x_scr hC hZ hX h d_AckBookLaw_law_947 (fun v126 h => ?_)
        refine x_aload_n hC d_AckBookLaw_law_948 rfl (lv_at hl 0 rfl) ?_
        refine lv_iload hC.1 hC.2.1 d_AckBookLaw_law_949 (lv_at hl 4 rfl) ?_
        refine lv_iconst (v := (2 : Int32)) hC.1 hC.2.1 d_AckBookLaw_law_951 (by decide) ?_
        refine lv_iadd hC.1 hC.2.1 d_AckBookLaw_law_952 ?_
        refine x_scr hC hZ hX h d_AckBookLaw_law_953 (fun v127 h => ?_)
        refine x_aload_n hC d_AckBookLaw_law_954 rfl (lv_at hl 0 rfl) ?_
        refine lv_iload hC.1 hC.2.1 d_AckBookLaw_law_955 (lv_at hl 4 rfl) ?_
        refine lv_iconst (v := (3 : Int32)) hC.1 hC.2.1 d_AckBookLaw_law_957 (by decide) ?_
        refine lv_iadd hC.1 hC.2.1 d_AckBookLaw_law_958 ?_
        refine x_scr hC hZ hX h d_AckBookLaw_law_959 (fun v128 h => ?_)
        refine lv_if_eq (tgt := 967) hC.1 hC.2.1 d_AckBookLaw_law_960 (by decide) (fun hc => ?_) (fun hc => ?_)
        · have h := z_ifp hc h
          refine lv_iconst (v := (0 : Int32)) hC.1 hC.2.1 d_AckBookLaw_law_967 (by decide) ?_
          exact kq_AckBookLaw_law_968 hT hfl hE hC hr hX hB ih _ _ _ _ _ _ _ _ _ _ h _ _ _ _ _ hZ (lv_sub hl [0, 1, 2, 3, 4] rfl)
        · have h := z_ifn hc h
          refine lv_iconst (v := (1 : Int32)) hC.1 hC.2.1 d_AckBookLaw_law_963 (by decide) ?_
          refine lv_goto (tgt := 968) hC.1 hC.2.1 d_AckBookLaw_law_964 (by decide) ?_
          exact kq_AckBookLaw_law_968 hT hfl hE hC hr hX hB ih _ _ _ _ _ _ _ _ _ _ h _ _ _ _ _ hZ (lv_sub hl [0, 1, 2, 3, 4] rfl)
      have h := z_ifn hc12 h
      by_cases hc13 : (v47 &&& (15 : Int32)) = (13 : Int32)
      · have h := z_ifp hc13 h
        refine lv_tableIn (tgt := 1036) hC.1 hC.2.1 d_AckBookLaw_law_39 (by rw [hc13]; decide) (by rw [hc13]; decide) (by rw [hc13]; rfl) (by decide) ?_
        refine x_aload_n hC d_AckBookLaw_law_1036 rfl (lv_at hl 1 rfl) ?_
        refine x_aload_n hC d_AckBookLaw_law_1037 rfl (lv_at hl 0 rfl) ?_
        refine lv_iload hC.1 hC.2.1 d_AckBookLaw_law_1038 (lv_at hl 4 rfl) ?_
        refine lv_iconst (v := (1 : Int32)) hC.1 hC.2.1 d_AckBookLaw_law_1040 (by decide) ?_
        refine lv_iadd hC.1 hC.2.1 d_AckBookLaw_law_1041 ?_
        refine x_scr hC hZ hX h d_AckBookLaw_law_1042 (fun v129 h => ?_)
        refine x_aload_n hC d_AckBookLaw_law_1043 rfl (lv_at hl 3 rfl) ?_
        obtain ⟨w1_, o1_, hF_, ha_⟩ := z_cI_spec h
        refine x_goesN ha_ (z_goSW (As := [va_rf rL1, .int v129, va_rf rL3]) hC hZ (k_AckBookLaw_look hT hfl hE _ _ hF_) t_797 t_798 t_0 t_799 ⟨by decide, by decide, (by decide +kernel : (parseMethodDescriptor y_AckBookLaw_look.desc).map (fun d => d.parameters.length) = some 3)⟩ (by rw [hRt.1]; decide) (by rw [hRt.2]; decide) hl.1 rfl (by first | exact Nat.le_of_ble_eq_true rfl | simp [z_rfc, z_ci, z_cj]) d_AckBookLaw_law_1044) (fun v_ hv H locs cells slots hZ => ?_)
        obtain ⟨v131, rfl, h⟩ := hv
        generalize w1_ = w at h hZ
        refine lv_istore (i := 5) (lv' := [(5, .int v131), (0, va_rf (some bS)), (1, va_rf rL1), (2, va_rf rL2), (3, va_rf rL3), (4, .int xL4)]) hC.1 hC.2.1 d_AckBookLaw_law_1047 hl (by decide) (by first | rfl | simp [z_rfc, z_ci, z_cj]) (fun ls hl => ?_)
        refine x_aload_n hC d_AckBookLaw_law_1049 rfl (lv_at hl 3 rfl) ?_
        refine x_aload_n hC d_AckBookLaw_law_1050 rfl (lv_at hl 1 rfl) ?_
        refine lv_iload hC.1 hC.2.1 d_AckBookLaw_law_1051 (lv_at hl 5 rfl) ?_
        refine lv_iconst (v := (1 : Int32)) hC.1 hC.2.1 d_AckBookLaw_law_1053 (by decide) ?_
        refine lv_iadd hC.1 hC.2.1 d_AckBookLaw_law_1054 ?_
        refine x_scr hC hZ hX h d_AckBookLaw_law_1055 (fun v132 h => ?_)
        obtain ⟨a_, fs_, eo_, h⟩ := z_this_spec h
        obtain ⟨w1_, o1_, hF_, ha_⟩ := z_cI_spec h
        refine x_goesN ha_ (z_goV (As := [.int v132]) hC hZ zc10 eo_ (k_AckBookModel_look hT hfl hE _ _ hF_) t_1082 t_1083 t_1084 t_12 t_1085 ⟨by decide, by decide, (by decide +kernel : (parseMethodDescriptor y_AckBookModel_look.desc).map (fun d => d.parameters.length) = some 1)⟩ (by rw [hRt.1]; decide) (by rw [hRt.2]; decide) hl.1 rfl (by first | exact Nat.le_of_ble_eq_true rfl | simp [z_rfc, z_ci, z_cj]) d_AckBookLaw_law_1056) (fun v_ hv H locs cells slots hZ => ?_)
        obtain ⟨v134, rfl, h⟩ := hv
        generalize w1_ = w at h hZ
        refine lv_istore (i := 6) (lv' := [(6, .int v134), (5, .int v131), (0, va_rf (some bS)), (1, va_rf rL1), (2, va_rf rL2), (3, va_rf rL3), (4, .int xL4)]) hC.1 hC.2.1 d_AckBookLaw_law_1059 hl (by decide) (by first | rfl | simp [z_rfc, z_ci, z_cj]) (fun ls hl => ?_)
        refine x_aload_n hC d_AckBookLaw_law_1061 rfl (lv_at hl 4 rfl) ?_
        obtain ⟨a_, fs_, eo_, h⟩ := z_this_spec h
        obtain ⟨w1_, o1_, hF_, ha_⟩ := z_cI_spec h
        refine x_goesN ha_ (z_goV (As := []) hC hZ zc10 eo_ (k_AckBookModel_thrown hT hfl hE _ _ hF_) t_936 t_937 t_938 t_12 t_939 ⟨by decide, by decide, (by decide +kernel : (parseMethodDescriptor y_AckBookModel_thrown.desc).map (fun d => d.parameters.length) = some 0)⟩ (by rw [hRt.1]; decide) (by rw [hRt.2]; decide) hl.1 rfl (by first | exact Nat.le_of_ble_eq_true rfl | simp [z_rfc, z_ci, z_cj]) d_AckBookLaw_law_1062) (fun v_ hv H locs cells slots hZ => ?_)
        obtain ⟨v136, rfl, h⟩ := hv
        generalize w1_ = w at h hZ
        refine lv_iload hC.1 hC.2.1 d_AckBookLaw_law_1065 (lv_at hl 1 rfl) ?_
        refine lv_icmp_eq (tgt := 1072) hC.1 hC.2.1 d_AckBookLaw_law_1067 (by decide) (fun hc => ?_) (fun hc => ?_)
        · have h := z_ifp hc h
          refine lv_iload hC.1 hC.2.1 d_AckBookLaw_law_1072 (lv_at hl 1 rfl) ?_
          refine lv_if_ne (tgt := 1089) hC.1 hC.2.1 d_AckBookLaw_law_1074 (by decide) (fun hc => ?_) (fun hc => ?_)
          · have h := z_ifn hc h
            refine lv_goto (tgt := 1159) hC.1 hC.2.1 d_AckBookLaw_law_1089 (by decide) ?_
            refine lv_iinc (lv' := [(4, .int (xL4 + (5 : Int32))), (6, .int v134), (5, .int v131), (0, va_rf (some bS)), (1, va_rf rL1), (2, va_rf rL2), (3, va_rf rL3)]) hC.1 hC.2.1 d_AckBookLaw_law_1159 hl (k := 6) rfl rfl (by decide) (by first | rfl | simp [z_rfc, z_ci, z_cj]) (fun ls hl => ?_)
            refine lv_goto (tgt := 23) hC.1 hC.2.1 d_AckBookLaw_law_1162 (by decide) ?_
            exact ih _ _ _ _ _ _ h _ _ _ _ _ hZ (lv_sub hl [3, 4, 5, 6, 0] rfl)
          · have h := z_ifp hc h
            refine x_aload_n hC d_AckBookLaw_law_1077 rfl (lv_at hl 5 rfl) ?_
            refine lv_iconst (v := (0 : Int32)) hC.1 hC.2.1 d_AckBookLaw_law_1078 (by decide) ?_
            refine x_ldL hC hZ h d_AckBookLaw_law_1079 (fun v137 h => ?_)
            refine lv_iload hC.1 hC.2.1 d_AckBookLaw_law_1080 (lv_at hl 0 rfl) ?_
            refine lv_i2l hC.1 hC.2.1 d_AckBookLaw_law_1082 rfl ?_
            refine W.lcmp hC.1 hC.2.1 d_AckBookLaw_law_1083 ?_
            refine lv_if_eq (tgt := 1089) hC.1 hC.2.1 d_AckBookLaw_law_1084 (by decide) (fun hc => ?_) (fun hc => ?_)
            · have h := z_ifp hc h
              refine lv_goto (tgt := 1159) hC.1 hC.2.1 d_AckBookLaw_law_1089 (by decide) ?_
              refine lv_iinc (lv' := [(4, .int (xL4 + (5 : Int32))), (6, .int v134), (5, .int v131), (0, va_rf (some bS)), (1, va_rf rL1), (2, va_rf rL2), (3, va_rf rL3)]) hC.1 hC.2.1 d_AckBookLaw_law_1159 hl (k := 6) rfl rfl (by decide) (by first | rfl | simp [z_rfc, z_ci, z_cj]) (fun ls hl => ?_)
              refine lv_goto (tgt := 23) hC.1 hC.2.1 d_AckBookLaw_law_1162 (by decide) ?_
              exact ih _ _ _ _ _ _ h _ _ _ _ _ hZ (lv_sub hl [3, 4, 5, 6, 0] rfl)
            · have h := z_ifn hc h
              refine lv_iconst (v := (0 : Int32)) hC.1 hC.2.1 d_AckBookLaw_law_1087 (by decide) ?_
              exact (z_no0 h).elim
        · have h := z_ifn hc h
          refine lv_iconst (v := (0 : Int32)) hC.1 hC.2.1 d_AckBookLaw_law_1070 (by decide) ?_
          exact (z_no0 h).elim
      have h := z_ifn hc13 h
      by_cases hc14 : (v47 &&& (15 : Int32)) = (14 : Int32)
      · have h := z_ifp hc14 h
        refine lv_tableIn (tgt := 1092) hC.1 hC.2.1 d_AckBookLaw_law_39 (by rw [hc14]; decide) (by rw [hc14]; decide) (by rw [hc14]; rfl) (by decide) ?_
        refine x_aload_n hC d_AckBookLaw_law_1092 rfl (lv_at hl 1 rfl) ?_
        refine x_aload_n hC d_AckBookLaw_law_1093 rfl (lv_at hl 0 rfl) ?_
        refine lv_iload hC.1 hC.2.1 d_AckBookLaw_law_1094 (lv_at hl 4 rfl) ?_
        refine lv_iconst (v := (1 : Int32)) hC.1 hC.2.1 d_AckBookLaw_law_1096 (by decide) ?_
        refine lv_iadd hC.1 hC.2.1 d_AckBookLaw_law_1097 ?_
        refine x_scr hC hZ hX h d_AckBookLaw_law_1098 (fun v138 h => ?_)
        refine x_aload_n hC d_AckBookLaw_law_1099 rfl (lv_at hl 0 rfl) ?_
        refine lv_iload hC.1 hC.2.1 d_AckBookLaw_law_1100 (lv_at hl 4 rfl) ?_
        refine lv_iconst (v := (2 : Int32)) hC.1 hC.2.1 d_AckBookLaw_law_1102 (by decide) ?_
        refine lv_iadd hC.1 hC.2.1 d_AckBookLaw_law_1103 ?_
        refine x_scr hC hZ hX h d_AckBookLaw_law_1104 (fun v139 h => ?_)
        refine x_aload_n hC d_AckBookLaw_law_1105 rfl (lv_at hl 3 rfl) ?_
        obtain ⟨w1_, o1_, hF_, ha_⟩ := z_cI_spec h
        refine x_goesN ha_ (z_goSW (As := [va_rf rL1, .int v138, .int v139, va_rf rL3]) hC hZ (k_AckBookLaw_space hT hfl hE _ _ hF_) t_806 t_807 t_0 t_808 ⟨by decide, by decide, (by decide +kernel : (parseMethodDescriptor y_AckBookLaw_space.desc).map (fun d => d.parameters.length) = some 4)⟩ (by rw [hRt.1]; decide) (by rw [hRt.2]; decide) hl.1 rfl (by first | exact Nat.le_of_ble_eq_true rfl | simp [z_rfc, z_ci, z_cj]) d_AckBookLaw_law_1106) (fun v_ hv H locs cells slots hZ => ?_)
        obtain ⟨v141, rfl, h⟩ := hv
        generalize w1_ = w at h hZ
        refine lv_istore (i := 5) (lv' := [(5, .int v141), (0, va_rf (some bS)), (1, va_rf rL1), (2, va_rf rL2), (3, va_rf rL3), (4, .int xL4)]) hC.1 hC.2.1 d_AckBookLaw_law_1109 hl (by decide) (by first | rfl | simp [z_rfc, z_ci, z_cj]) (fun ls hl => ?_)
        refine x_aload_n hC d_AckBookLaw_law_1111 rfl (lv_at hl 3 rfl) ?_
        refine x_aload_n hC d_AckBookLaw_law_1112 rfl (lv_at hl 1 rfl) ?_
        refine lv_iload hC.1 hC.2.1 d_AckBookLaw_law_1113 (lv_at hl 5 rfl) ?_
        refine lv_iconst (v := (1 : Int32)) hC.1 hC.2.1 d_AckBookLaw_law_1115 (by decide) ?_
        refine lv_iadd hC.1 hC.2.1 d_AckBookLaw_law_1116 ?_
        refine x_scr hC hZ hX h d_AckBookLaw_law_1117 (fun v142 h => ?_)
        refine x_aload_n hC d_AckBookLaw_law_1118 rfl (lv_at hl 1 rfl) ?_
        refine lv_iload hC.1 hC.2.1 d_AckBookLaw_law_1119 (lv_at hl 5 rfl) ?_
        refine lv_iconst (v := (2 : Int32)) hC.1 hC.2.1 d_AckBookLaw_law_1121 (by decide) ?_
        refine lv_iadd hC.1 hC.2.1 d_AckBookLaw_law_1122 ?_
        refine x_scr hC hZ hX h d_AckBookLaw_law_1123 (fun v143 h => ?_)
        obtain ⟨a_, fs_, eo_, h⟩ := z_this_spec h
        obtain ⟨w1_, o1_, hF_, ha_⟩ := z_cL_spec h
        refine x_goesN ha_ (z_goV (As := [.int v142, .int v143]) hC hZ zc10 eo_ (k_AckBookModel_space hT hfl hE _ _ hF_) t_1086 t_1087 t_1088 t_12 t_1089 ⟨by decide, by decide, (by decide +kernel : (parseMethodDescriptor y_AckBookModel_space.desc).map (fun d => d.parameters.length) = some 2)⟩ (by rw [hRt.1]; decide) (by rw [hRt.2]; decide) hl.1 rfl (by first | exact Nat.le_of_ble_eq_true rfl | simp [z_rfc, z_ci, z_cj]) d_AckBookLaw_law_1124) (fun v_ hv H locs cells slots hZ => ?_)
        obtain ⟨v145, rfl, h⟩ := hv
        generalize w1_ = w at h hZ
        refine lv_lstore (i := 6) (lv' := [(6, .long v145), (5, .int v141), (0, va_rf (some bS)), (1, va_rf rL1), (2, va_rf rL2), (3, va_rf rL3), (4, .int xL4)]) hC.1 hC.2.1 d_AckBookLaw_law_1127 hl (by decide) (by first | rfl | simp [z_rfc, z_ci, z_cj]) (fun ls hl => ?_)
        refine x_aload_n hC d_AckBookLaw_law_1129 rfl (lv_at hl 4 rfl) ?_
        obtain ⟨a_, fs_, eo_, h⟩ := z_this_spec h
        obtain ⟨w1_, o1_, hF_, ha_⟩ := z_cI_spec h
        refine x_goesN ha_ (z_goV (As := []) hC hZ zc10 eo_ (k_AckBookModel_thrown hT hfl hE _ _ hF_) t_936 t_937 t_938 t_12 t_939 ⟨by decide, by decide, (by decide +kernel : (parseMethodDescriptor y_AckBookModel_thrown.desc).map (fun d => d.parameters.length) = some 0)⟩ (by rw [hRt.1]; decide) (by rw [hRt.2]; decide) hl.1 rfl (by first | exact Nat.le_of_ble_eq_true rfl | simp [z_rfc, z_ci, z_cj]) d_AckBookLaw_law_1130) (fun v_ hv H locs cells slots hZ => ?_)
        obtain ⟨v147, rfl, h⟩ := hv
        generalize w1_ = w at h hZ
        refine lv_iload hC.1 hC.2.1 d_AckBookLaw_law_1133 (lv_at hl 1 rfl) ?_
        refine lv_icmp_eq (tgt := 1140) hC.1 hC.2.1 d_AckBookLaw_law_1135 (by decide) (fun hc => ?_) (fun hc => ?_)
        · have h := z_ifp hc h
          refine lv_iload hC.1 hC.2.1 d_AckBookLaw_law_1140 (lv_at hl 1 rfl) ?_
          refine lv_if_ne (tgt := 1156) hC.1 hC.2.1 d_AckBookLaw_law_1142 (by decide) (fun hc => ?_) (fun hc => ?_)
          · have h := z_ifn hc h
            refine lv_goto (tgt := 1159) hC.1 hC.2.1 d_AckBookLaw_law_1156 (by decide) ?_
            refine lv_iinc (lv' := [(4, .int (xL4 + (5 : Int32))), (6, .long v145), (5, .int v141), (0, va_rf (some bS)), (1, va_rf rL1), (2, va_rf rL2), (3, va_rf rL3)]) hC.1 hC.2.1 d_AckBookLaw_law_1159 hl (k := 6) rfl rfl (by decide) (by first | rfl | simp [z_rfc, z_ci, z_cj]) (fun ls hl => ?_)
            refine lv_goto (tgt := 23) hC.1 hC.2.1 d_AckBookLaw_law_1162 (by decide) ?_
            exact ih _ _ _ _ _ _ h _ _ _ _ _ hZ (lv_sub hl [3, 4, 5, 6, 0] rfl)
          · have h := z_ifp hc h
            refine x_aload_n hC d_AckBookLaw_law_1145 rfl (lv_at hl 5 rfl) ?_
            refine lv_iconst (v := (0 : Int32)) hC.1 hC.2.1 d_AckBookLaw_law_1146 (by decide) ?_
            refine x_ldL hC hZ h d_AckBookLaw_law_1147 (fun v148 h => ?_)
            refine lv_lload hC.1 hC.2.1 d_AckBookLaw_law_1148 (lv_at hl 0 rfl) ?_
            refine W.lcmp hC.1 hC.2.1 d_AckBookLaw_law_1150 ?_
            refine lv_if_eq (tgt := 1156) hC.1 hC.2.1 d_AckBookLaw_law_1151 (by decide) (fun hc => ?_) (fun hc => ?_)
            · have h := z_ifp hc h
              refine lv_goto (tgt := 1159) hC.1 hC.2.1 d_AckBookLaw_law_1156 (by decide) ?_
              refine lv_iinc (lv' := [(4, .int (xL4 + (5 : Int32))), (6, .long v145), (5, .int v141), (0, va_rf (some bS)), (1, va_rf rL1), (2, va_rf rL2), (3, va_rf rL3)]) hC.1 hC.2.1 d_AckBookLaw_law_1159 hl (k := 6) rfl rfl (by decide) (by first | rfl | simp [z_rfc, z_ci, z_cj]) (fun ls hl => ?_)
              refine lv_goto (tgt := 23) hC.1 hC.2.1 d_AckBookLaw_law_1162 (by decide) ?_
              exact ih _ _ _ _ _ _ h _ _ _ _ _ hZ (lv_sub hl [3, 4, 5, 6, 0] rfl)
            · have h := z_ifn hc h
              refine lv_iconst (v := (0 : Int32)) hC.1 hC.2.1 d_AckBookLaw_law_1154 (by decide) ?_
              exact (z_no0 h).elim
        · have h := z_ifn hc h
          refine lv_iconst (v := (0 : Int32)) hC.1 hC.2.1 d_AckBookLaw_law_1138 (by decide) ?_
          exact (z_no0 h).elim
      have h := z_ifn hc14 h
      refine lv_tableOut (tgt := 1159) hC.1 hC.2.1 d_AckBookLaw_law_39 (z_tab 14 (fun k hk => match k, hk with | 0, _ => hc0 | 1, _ => hc1 | 2, _ => hc2 | 3, _ => hc3 | 4, _ => hc4 | 5, _ => hc5 | 6, _ => hc6 | 7, _ => hc7 | 8, _ => hc8 | 9, _ => hc9 | 10, _ => hc10 | 11, _ => hc11 | 12, _ => hc12 | 13, _ => hc13 | 14, _ => hc14 | _ + 15, hk => absurd hk (by omega))) (by decide) ?_
      refine lv_iinc (lv' := [(4, .int (xL4 + (5 : Int32))), (0, va_rf (some bS)), (1, va_rf rL1), (2, va_rf rL2), (3, va_rf rL3)]) hC.1 hC.2.1 d_AckBookLaw_law_1159 hl (k := 4) rfl rfl (by decide) (by first | rfl | simp [z_rfc, z_ci, z_cj]) (fun ls hl => ?_)
      refine lv_goto (tgt := 23) hC.1 hC.2.1 d_AckBookLaw_law_1162 (by decide) ?_
      exact ih _ _ _ _ _ _ h _ _ _ _ _ hZ (lv_sub hl [1, 2, 3, 4, 0] rfl)
def f_AckBookLaw_law (F X : Nat) (xs : Nat → Int32) (L : Nat)  (w : zW) : zR :=
  z_new w 0 9 [.null, .null, .null, .null, .int 0, .int 0, .int 0, .int 0, .int 0] fun a149 w =>
  z_nn (some a149) <|
  z_cV (f_AckBook_init F X (some a149) w) fun w =>
  z_new w 10 38 [.int 0, .int 0, .int 0, .int 0, .null, .null, .null, .null, .null, .null, .null, .null, .null, .null, .int 0, .null, .null, .null, .int 0, .int 0, .int 0, .int 0, .int 0, .int 0, .int 0, .int 0, .int 0, .int 0, .null, .null, .null, .null, .null, .null, .null, .null, .null, .null] fun a151 w =>
  z_nn (some a151) <|
  z_cV (f_AckBookModel_init F X (some a151) w) fun w =>
  z_newa w .long (1 : Int32) (fun n => (n, .inr (.inl fun _ => 0))) fun a153 w =>
  (j_AckBookLaw_law F X xs L F) (some a149) (some a151) (some a153) (0 : Int32) w
set_option maxHeartbeats 4000000 in
set_option maxRecDepth 100000 in
theorem k_law {b0 : Nat} {H0 : Heap} {D : va_G} {vu vs : Value} {X M : Nat} {l : Launch} (hT : z_TB (zGG b0 H0 D vu vs X M)) (hfl : l.flags = pinnedFlags ++ [noTraceFlag]) (hE : vu.isRef = true ∧ vs.isRef = true) {p : Program} {e : Env} {s : State} {m : MethodId} {below : List Frame} {meth : Method} {c : Code} {F bS L : Nat} {xs : Nat → Int32} (hC : z_C (zGG b0 H0 D vu vs X M) p e s m meth c code 8 R_law) (hr : meth.sig.returnType = ret) (hX : va_X bS L xs s H0 ∧ bS < b0) (hB : s.heap.size ≤ b0) {w : zW} (wE : zW) (h : f_AckBookLaw_law F X xs L w = some (.inl (some (.int (1 : Int32))), wE)) (H : Heap) (locs : List Loc) (cells slots : Nat) (ls : Array Slot) (hZ : z_Z (zGG b0 H0 D vu vs X M) room_1 s w H locs cells slots) (hl : lv_has ls 8 [(0, va_rf (some bS))]) : W p l e room_1 s m #[Value.ref bS] below meth c H locs cells slots (lw_Z below #[Value.ref bS] s) (F0 m 0 ls []) := by
  have hRt : room_1.frames = 12 ∧ room_1.locals = 458 := ⟨rfl, rfl⟩
  unfold f_AckBookLaw_law at h
  refine x_new hC hZ zc0 h t_26 t_27 t_1 (fun j hj => match j, hj with | 0, _ => rfl | 1, _ => rfl | 2, _ => rfl | 3, _ => rfl | 4, _ => rfl | 5, _ => rfl | 6, _ => rfl | 7, _ => rfl | 8, _ => rfl | _ + 9, hj => absurd hj (by omega)) d_AckBookLaw_law_0 (fun a149 w H cells slots hZ h => ?_)
  refine lv_dup hC.1 hC.2.1 d_AckBookLaw_law_3 (z_rfc _) ?_
  obtain ⟨a_, eo_, h⟩ := z_nn_spec h
  obtain ⟨w1_, o1_, hF_, ha_⟩ := z_cV_spec h
  refine x_goesN ha_ (z_goI (As := []) hC hZ eo_ (k_AckBook_init hT hfl hE _ _ hF_) t_28 t_29 t_1 t_30 rfl ⟨by decide, by decide, (by decide +kernel : (parseMethodDescriptor y_AckBook_init.desc).map (fun d => d.parameters.length) = some 0)⟩ (by rw [hRt.1]; decide) (by rw [hRt.2]; decide) hl.1 rfl (by first | exact Nat.le_of_ble_eq_true rfl | simp [z_rfc, z_ci, z_cj]) d_AckBookLaw_law_4) (fun v_ hv H locs cells slots hZ => ?_)
  obtain ⟨rfl, h⟩ := hv
  generalize w1_ = w at h hZ
  refine x_astore_n (i := 1) (lv' := [(1, va_rf (some a149)), (0, va_rf (some bS))]) hC d_AckBookLaw_law_7 rfl hl (by decide) (by first | rfl | simp [z_rfc, z_ci, z_cj]) (fun ls hl => ?_)
  refine x_new hC hZ zc10 h t_813 t_814 t_12 (fun j hj => match j, hj with | 0, _ => rfl | 1, _ => rfl | 2, _ => rfl | 3, _ => rfl | 4, _ => rfl | 5, _ => rfl | 6, _ => rfl | 7, _ => rfl | 8, _ => rfl | 9, _ => rfl | 10, _ => rfl | 11, _ => rfl | 12, _ => rfl | 13, _ => rfl | 14, _ => rfl | 15, _ => rfl | 16, _ => rfl | 17, _ => rfl | 18, _ => rfl | 19, _ => rfl | 20, _ => rfl | 21, _ => rfl | 22, _ => rfl | 23, _ => rfl | 24, _ => rfl | 25, _ => rfl | 26, _ => rfl | 27, _ => rfl | 28, _ => rfl | 29, _ => rfl | 30, _ => rfl | 31, _ => rfl | 32, _ => rfl | 33, _ => rfl | 34, _ => rfl | 35, _ => rfl | 36, _ => rfl | 37, _ => rfl | _ + 38, hj => absurd hj (by omega)) d_AckBookLaw_law_8 (fun a151 w H cells slots hZ h => ?_)
  refine lv_dup hC.1 hC.2.1 d_AckBookLaw_law_11 (z_rfc _) ?_
  obtain ⟨a_, eo_, h⟩ := z_nn_spec h
  obtain ⟨w1_, o1_, hF_, ha_⟩ := z_cV_spec h
  refine x_goesN ha_ (z_goI (As := []) hC hZ eo_ (k_AckBookModel_init hT hfl hE _ _ hF_) t_815 t_816 t_12 t_817 rfl ⟨by decide, by decide, (by decide +kernel : (parseMethodDescriptor y_AckBookModel_init.desc).map (fun d => d.parameters.length) = some 0)⟩ (by rw [hRt.1]; decide) (by rw [hRt.2]; decide) hl.1 rfl (by first | exact Nat.le_of_ble_eq_true rfl | simp [z_rfc, z_ci, z_cj]) d_AckBookLaw_law_12) (fun v_ hv H locs cells slots hZ => ?_)
  obtain ⟨rfl, h⟩ := hv
  generalize w1_ = w at h hZ
  refine x_astore_n (i := 2) (lv' := [(2, va_rf (some a151)), (1, va_rf (some a149)), (0, va_rf (some bS))]) hC d_AckBookLaw_law_15 rfl hl (by decide) (by first | rfl | simp [z_rfc, z_ci, z_cj]) (fun ls hl => ?_)
  refine lv_iconst (v := (1 : Int32)) hC.1 hC.2.1 d_AckBookLaw_law_16 (by decide) ?_
  refine x_newaJ hC hZ h t_154 d_AckBookLaw_law_17 (fun a153 w H cells slots hZ h => ?_)
  refine x_astore_n (i := 3) (lv' := [(3, va_rf (some a153)), (2, va_rf (some a151)), (1, va_rf (some a149)), (0, va_rf (some bS))]) hC d_AckBookLaw_law_19 rfl hl (by decide) (by first | rfl | simp [z_rfc, z_ci, z_cj]) (fun ls hl => ?_)
  refine lv_iconst (v := (0 : Int32)) hC.1 hC.2.1 d_AckBookLaw_law_20 (by decide) ?_
  refine lv_istore (i := 4) (lv' := [(4, .int (0 : Int32)), (3, va_rf (some a153)), (2, va_rf (some a151)), (1, va_rf (some a149)), (0, va_rf (some bS))]) hC.1 hC.2.1 d_AckBookLaw_law_21 hl (by decide) (by first | rfl | simp [z_rfc, z_ci, z_cj]) (fun ls hl => ?_)
  exact (kj_AckBookLaw_law hT hfl hE hC hr hX hB F) _ _ _ _ _ _ h _ _ _ _ _ hZ (lv_sub hl [4, 3, 2, 1, 0] rfl)
