def q_AckBookLaw_law_780 (F X : Nat) (xs : Nat → Int32) (L : Nat) (J : Option Nat → Option Nat → Option Nat → Int32 → zW → zR) (rL1 : Option Nat) (rL2 : Option Nat) (rL3 : Option Nat) (xL4 : Int32) (rS0 : Option Nat) (xS1 : Int32) (xS2 : Int32) (xS3 : Int32) (w : zW) : zR :=
  z_this w 10 rS0 <|
  z_cL (f_AckBookModel_range F X rS0 xS1 xS2 xS3 w) fun v2 w =>
  J rL1 rL2 rL3 (xL4 + (5 : Int32)) w
set_option maxHeartbeats 4000000 in
set_option maxRecDepth 100000 in
theorem kq_AckBookLaw_law_780 {b0 : Nat} {H0 : Heap} {D : va_G} {vu vs : Value} {X M : Nat} {l : Launch} (hT : z_TB (zGG b0 H0 D vu vs X M)) (hfl : l.flags = pinnedFlags ++ [noTraceFlag]) (hE : vu.isRef = true ∧ vs.isRef = true) {p : Program} {e : Env} {s : State} {m : MethodId} {below : List Frame} {meth : Method} {c : Code} {F bS L : Nat} {xs : Nat → Int32} (hC : z_C (zGG b0 H0 D vu vs X M) p e s m meth c code 8 R_law) (hr : meth.sig.returnType = ret) (hX : va_X bS L xs s H0 ∧ bS < b0) (hB : s.heap.size ≤ b0) {J : Option Nat → Option Nat → Option Nat → Int32 → zW → zR} (hJ : (∀ (rL1 : Option Nat) (rL2 : Option Nat) (rL3 : Option Nat) (xL4 : Int32) (w : zW) (wE : zW), J rL1 rL2 rL3 xL4 w = some (.inl (some (.int (1 : Int32))), wE) → ∀ (H : Heap) (locs : List Loc) (cells slots : Nat) (ls : Array Slot), z_Z (zGG b0 H0 D vu vs X M) room_1 s w H locs cells slots → lv_has ls 8 [(0, va_rf (some bS)), (1, va_rf rL1), (2, va_rf rL2), (3, va_rf rL3), (4, .int xL4)] → W p l e room_1 s m #[Value.ref bS] below meth c H locs cells slots (lw_Z below #[Value.ref bS] s) (F0 m 23 ls []))) (rL1 : Option Nat) (rL2 : Option Nat) (rL3 : Option Nat) (xL4 : Int32) (rS0 : Option Nat) (xS1 : Int32) (xS2 : Int32) (xS3 : Int32) (w : zW) (wE : zW) (h : q_AckBookLaw_law_780 F X xs L J rL1 rL2 rL3 xL4 rS0 xS1 xS2 xS3 w = some (.inl (some (.int (1 : Int32))), wE)) (H : Heap) (locs : List Loc) (cells slots : Nat) (ls : Array Slot) (hZ : z_Z (zGG b0 H0 D vu vs X M) room_1 s w H locs cells slots) (hl : lv_has ls 8 [(0, va_rf (some bS)), (1, va_rf rL1), (2, va_rf rL2), (3, va_rf rL3), (4, .int xL4)]) : W p l e room_1 s m #[Value.ref bS] below meth c H locs cells slots (lw_Z below #[Value.ref bS] s) (F0 m 780 ls [.int xS3, .int xS2, .int xS1, va_rf rS0]) := by
  have hRt : room_1.frames = 12 ∧ room_1.locals = 458 := ⟨rfl, rfl⟩
  unfold q_AckBookLaw_law_780 at h
  obtain ⟨a_, fs_, eo_, h⟩ := z_this_spec h
  obtain ⟨w1_, o1_, hF_, ha_⟩ := z_cL_spec h
  refine x_goesN ha_ (z_goV (As := [.int xS1, .int xS2, .int xS3]) hC hZ zc10 eo_ (k_AckBookModel_range hT hfl hE _ _ hF_) t_1078 t_1079 t_1080 t_12 t_1081 ⟨by decide, by decide, (by decide +kernel : (parseMethodDescriptor y_AckBookModel_range.desc).map (fun d => d.parameters.length) = some 3)⟩ (by rw [hRt.1]; decide) (by rw [hRt.2]; decide) hl.1 rfl (by first | exact Nat.le_of_ble_eq_true rfl | simp [z_rfc, z_ci, z_cj]) d_AckBookLaw_law_780) (fun v_ hv H locs cells slots hZ => ?_)
  obtain ⟨v2, rfl, h⟩ := hv
  generalize w1_ = w at h hZ
  refine lv_lstore (i := 6) (lv' := [(6, .long v2), (0, va_rf (some bS)), (1, va_rf rL1), (2, va_rf rL2), (3, va_rf rL3), (4, .int xL4)]) hC.1 hC.2.1 d_AckBookLaw_law_783 hl (by decide) (by first | rfl | simp [z_rfc, z_ci, z_cj]) (fun ls hl => ?_)
  refine lv_goto (tgt := 856) hC.1 hC.2.1 d_AckBookLaw_law_785 (by decide) ?_
  refine lv_iinc (lv' := [(4, .int (xL4 + (5 : Int32))), (6, .long v2), (0, va_rf (some bS)), (1, va_rf rL1), (2, va_rf rL2), (3, va_rf rL3)]) hC.1 hC.2.1 d_AckBookLaw_law_856 hl (k := 5) rfl rfl (by decide) (by first | rfl | simp [z_rfc, z_ci, z_cj]) (fun ls hl => ?_)
  refine lv_goto (tgt := 23) hC.1 hC.2.1 d_AckBookLaw_law_859 (by decide) ?_
  exact hJ _ _ _ _ _ _ h _ _ _ _ _ hZ (lv_sub hl [2, 3, 4, 5, 0] rfl)
def q_AckBookLaw_law_747 (F X : Nat) (xs : Nat → Int32) (L : Nat) (J : Option Nat → Option Nat → Option Nat → Int32 → zW → zR) (rL1 : Option Nat) (rL2 : Option Nat) (rL3 : Option Nat) (xL4 : Int32) (rS0 : Option Nat) (xS1 : Int32) (xS2 : Int32) (xS3 : Int32) (w : zW) : zR :=
  z_cI (f_AckBookLaw_range F X rS0 xS1 xS2 xS3 rL3 w) fun v4 w =>
  z_scr xs L (xL4 + (1 : Int32)) fun v5 =>
  z_scr xs L (xL4 + (2 : Int32)) fun v6 =>
  z_scr xs L (xL4 + (3 : Int32)) fun v7 =>
  if v7 = 0 then (
    q_AckBookLaw_law_780 F X xs L J rL1 rL2 rL3 xL4 rL2 v5 v6 (0 : Int32) w)
  else (
    q_AckBookLaw_law_780 F X xs L J rL1 rL2 rL3 xL4 rL2 v5 v6 (1 : Int32) w)
set_option maxHeartbeats 4000000 in
set_option maxRecDepth 100000 in
theorem kq_AckBookLaw_law_747 {b0 : Nat} {H0 : Heap} {D : va_G} {vu vs : Value} {X M : Nat} {l : Launch} (hT : z_TB (zGG b0 H0 D vu vs X M)) (hfl : l.flags = pinnedFlags ++ [noTraceFlag]) (hE : vu.isRef = true ∧ vs.isRef = true) {p : Program} {e : Env} {s : State} {m : MethodId} {below : List Frame} {meth : Method} {c : Code} {F bS L : Nat} {xs : Nat → Int32} (hC : z_C (zGG b0 H0 D vu vs X M) p e s m meth c code 8 R_law) (hr : meth.sig.returnType = ret) (hX : va_X bS L xs s H0 ∧ bS < b0) (hB : s.heap.size ≤ b0) {J : Option Nat → Option Nat → Option Nat → Int32 → zW → zR} (hJ : (∀ (rL1 : Option Nat) (rL2 : Option Nat) (rL3 : Option Nat) (xL4 : Int32) (w : zW) (wE : zW), J rL1 rL2 rL3 xL4 w = some (.inl (some (.int (1 : Int32))), wE) → ∀ (H : Heap) (locs : List Loc) (cells slots : Nat) (ls : Array Slot), z_Z (zGG b0 H0 D vu vs X M) room_1 s w H locs cells slots → lv_has ls 8 [(0, va_rf (some bS)), (1, va_rf rL1), (2, va_rf rL2), (3, va_rf rL3), (4, .int xL4)] → W p l e room_1 s m #[Value.ref bS] below meth c H locs cells slots (lw_Z below #[Value.ref bS] s) (F0 m 23 ls []))) (rL1 : Option Nat) (rL2 : Option Nat) (rL3 : Option Nat) (xL4 : Int32) (rS0 : Option Nat) (xS1 : Int32) (xS2 : Int32) (xS3 : Int32) (w : zW) (wE : zW) (h : q_AckBookLaw_law_747 F X xs L J rL1 rL2 rL3 xL4 rS0 xS1 xS2 xS3 w = some (.inl (some (.int (1 : Int32))), wE)) (H : Heap) (locs : List Loc) (cells slots : Nat) (ls : Array Slot) (hZ : z_Z (zGG b0 H0 D vu vs X M) room_1 s w H locs cells slots) (hl : lv_has ls 8 [(0, va_rf (some bS)), (1, va_rf rL1), (2, va_rf rL2), (3, va_rf rL3), (4, .int xL4)]) : W p l e room_1 s m #[Value.ref bS] below meth c H locs cells slots (lw_Z below #[Value.ref bS] s) (F0 m 747 ls [.int xS3, .int xS2, .int xS1, va_rf rS0]) := by
  have hRt : room_1.frames = 12 ∧ room_1.locals = 458 := ⟨rfl, rfl⟩
  unfold q_AckBookLaw_law_747 at h
  refine x_aload_n hC d_AckBookLaw_law_747 rfl (lv_at hl 3 rfl) ?_
  obtain ⟨w1_, o1_, hF_, ha_⟩ := z_cI_spec h
  refine x_goesN ha_ (z_goSW (As := [va_rf rS0, .int xS1, .int xS2, .int xS3, va_rf rL3]) hC hZ (k_AckBookLaw_range hT hfl hE _ _ hF_) t_773 t_774 t_0 t_775 ⟨by decide, by decide, (by decide +kernel : (parseMethodDescriptor y_AckBookLaw_range.desc).map (fun d => d.parameters.length) = some 5)⟩ (by rw [hRt.1]; decide) (by rw [hRt.2]; decide) hl.1 rfl (by first | exact Nat.le_of_ble_eq_true rfl | simp [z_rfc, z_ci, z_cj]) d_AckBookLaw_law_748) (fun v_ hv H locs cells slots hZ => ?_)
  obtain ⟨v4, rfl, h⟩ := hv
  generalize w1_ = w at h hZ
  refine lv_istore (i := 5) (lv' := [(5, .int v4), (0, va_rf (some bS)), (1, va_rf rL1), (2, va_rf rL2), (3, va_rf rL3), (4, .int xL4)]) hC.1 hC.2.1 d_AckBookLaw_law_751 hl (by decide) (by first | rfl | simp [z_rfc, z_ci, z_cj]) (fun ls hl => ?_)
  refine x_aload_n hC d_AckBookLaw_law_753 rfl (lv_at hl 3 rfl) ?_
  refine x_aload_n hC d_AckBookLaw_law_754 rfl (lv_at hl 1 rfl) ?_
  refine lv_iload hC.1 hC.2.1 d_AckBookLaw_law_755 (lv_at hl 5 rfl) ?_
  refine lv_iconst (v := (1 : Int32)) hC.1 hC.2.1 d_AckBookLaw_law_757 (by decide) ?_
  refine lv_iadd hC.1 hC.2.1 d_AckBookLaw_law_758 ?_
  refine x_scr hC hZ hX h d_AckBookLaw_law_759 (fun v5 h => ?_)
  refine x_aload_n hC d_AckBookLaw_law_760 rfl (lv_at hl 1 rfl) ?_
  refine lv_iload hC.1 hC.2.1 d_AckBookLaw_law_761 (lv_at hl 5 rfl) ?_
  refine lv_iconst (v := (2 : Int32)) hC.1 hC.2.1 d_AckBookLaw_law_763 (by decide) ?_
  refine lv_iadd hC.1 hC.2.1 d_AckBookLaw_law_764 ?_
  refine x_scr hC hZ hX h d_AckBookLaw_law_765 (fun v6 h => ?_)
  refine x_aload_n hC d_AckBookLaw_law_766 rfl (lv_at hl 1 rfl) ?_
  refine lv_iload hC.1 hC.2.1 d_AckBookLaw_law_767 (lv_at hl 5 rfl) ?_
  refine lv_iconst (v := (3 : Int32)) hC.1 hC.2.1 d_AckBookLaw_law_769 (by decide) ?_
  refine lv_iadd hC.1 hC.2.1 d_AckBookLaw_law_770 ?_
  refine x_scr hC hZ hX h d_AckBookLaw_law_771 (fun v7 h => ?_)
  refine lv_if_eq (tgt := 779) hC.1 hC.2.1 d_AckBookLaw_law_772 (by decide) (fun hc => ?_) (fun hc => ?_)
  · have h := z_ifp hc h
    refine lv_iconst (v := (0 : Int32)) hC.1 hC.2.1 d_AckBookLaw_law_779 (by decide) ?_
    exact kq_AckBookLaw_law_780 hT hfl hE hC hr hX hB hJ _ _ _ _ _ _ _ _ _ _ h _ _ _ _ _ hZ (lv_sub hl [1, 2, 3, 4, 5] rfl)
  · have h := z_ifn hc h
    refine lv_iconst (v := (1 : Int32)) hC.1 hC.2.1 d_AckBookLaw_law_775 (by decide) ?_
    refine lv_goto (tgt := 780) hC.1 hC.2.1 d_AckBookLaw_law_776 (by decide) ?_
    exact kq_AckBookLaw_law_780 hT hfl hE hC hr hX hB hJ _ _ _ _ _ _ _ _ _ _ h _ _ _ _ _ hZ (lv_sub hl [1, 2, 3, 4, 5] rfl)
def q_AckBookLaw_law_656 (F X : Nat) (xs : Nat → Int32) (L : Nat) (J : Option Nat → Option Nat → Option Nat → Int32 → zW → zR) (rL1 : Option Nat) (rL2 : Option Nat) (rL3 : Option Nat) (xL4 : Int32) (rS0 : Option Nat) (xS1 : Int32) (yS2 : Int64) (xS3 : Int32) (w : zW) : zR :=
  z_this w 10 rS0 <|
  z_cI (f_AckBookModel_came F X rS0 xS1 yS2 xS3 w) fun v9 w =>
  J rL1 rL2 rL3 (xL4 + (5 : Int32)) w
set_option maxHeartbeats 4000000 in
set_option maxRecDepth 100000 in
theorem kq_AckBookLaw_law_656 {b0 : Nat} {H0 : Heap} {D : va_G} {vu vs : Value} {X M : Nat} {l : Launch} (hT : z_TB (zGG b0 H0 D vu vs X M)) (hfl : l.flags = pinnedFlags ++ [noTraceFlag]) (hE : vu.isRef = true ∧ vs.isRef = true) {p : Program} {e : Env} {s : State} {m : MethodId} {below : List Frame} {meth : Method} {c : Code} {F bS L : Nat} {xs : Nat → Int32} (hC : z_C (zGG b0 H0 D vu vs X M) p e s m meth c code 8 R_law) (hr : meth.sig.returnType = ret) (hX : va_X bS L xs s H0 ∧ bS < b0) (hB : s.heap.size ≤ b0) {J : Option Nat → Option Nat → Option Nat → Int32 → zW → zR} (hJ : (∀ (rL1 : Option Nat) (rL2 : Option Nat) (rL3 : Option Nat) (xL4 : Int32) (w : zW) (wE : zW), J rL1 rL2 rL3 xL4 w = some (.inl (some (.int (1 : Int32))), wE) → ∀ (H : Heap) (locs : List Loc) (cells slots : Nat) (ls : Array Slot), z_Z (zGG b0 H0 D vu vs X M) room_1 s w H locs cells slots → lv_has ls 8 [(0, va_rf (some bS)), (1, va_rf rL1), (2, va_rf rL2), (3, va_rf rL3), (4, .int xL4)] → W p l e room_1 s m #[Value.ref bS] below meth c H locs cells slots (lw_Z below #[Value.ref bS] s) (F0 m 23 ls []))) (rL1 : Option Nat) (rL2 : Option Nat) (rL3 : Option Nat) (xL4 : Int32) (rS0 : Option Nat) (xS1 : Int32) (yS2 : Int64) (xS3 : Int32) (w : zW) (wE : zW) (h : q_AckBookLaw_law_656 F X xs L J rL1 rL2 rL3 xL4 rS0 xS1 yS2 xS3 w = some (.inl (some (.int (1 : Int32))), wE)) (H : Heap) (locs : List Loc) (cells slots : Nat) (ls : Array Slot) (hZ : z_Z (zGG b0 H0 D vu vs X M) room_1 s w H locs cells slots) (hl : lv_has ls 8 [(0, va_rf (some bS)), (1, va_rf rL1), (2, va_rf rL2), (3, va_rf rL3), (4, .int xL4)]) : W p l e room_1 s m #[Value.ref bS] below meth c H locs cells slots (lw_Z below #[Value.ref bS] s) (F0 m 656 ls [.int xS3, .long yS2, .int xS1, va_rf rS0]) := by
  have hRt : room_1.frames = 12 ∧ room_1.locals = 458 := ⟨rfl, rfl⟩
  unfold q_AckBookLaw_law_656 at h
  obtain ⟨a_, fs_, eo_, h⟩ := z_this_spec h
  obtain ⟨w1_, o1_, hF_, ha_⟩ := z_cI_spec h
  refine x_goesN ha_ (z_goV (As := [.int xS1, .long yS2, .int xS3]) hC hZ zc10 eo_ (k_AckBookModel_came hT hfl hE _ _ hF_) t_1048 t_1049 t_1050 t_12 t_1051 ⟨by decide, by decide, (by decide +kernel : (parseMethodDescriptor y_AckBookModel_came.desc).map (fun d => d.parameters.length) = some 3)⟩ (by rw [hRt.1]; decide) (by rw [hRt.2]; decide) hl.1 rfl (by first | exact Nat.le_of_ble_eq_true rfl | simp [z_rfc, z_ci, z_cj]) d_AckBookLaw_law_656) (fun v_ hv H locs cells slots hZ => ?_)
  obtain ⟨v9, rfl, h⟩ := hv
  generalize w1_ = w at h hZ
  refine lv_istore (i := 6) (lv' := [(6, .int v9), (0, va_rf (some bS)), (1, va_rf rL1), (2, va_rf rL2), (3, va_rf rL3), (4, .int xL4)]) hC.1 hC.2.1 d_AckBookLaw_law_659 hl (by decide) (by first | rfl | simp [z_rfc, z_ci, z_cj]) (fun ls hl => ?_)
  refine lv_goto (tgt := 856) hC.1 hC.2.1 d_AckBookLaw_law_661 (by decide) ?_
  refine lv_iinc (lv' := [(4, .int (xL4 + (5 : Int32))), (6, .int v9), (0, va_rf (some bS)), (1, va_rf rL1), (2, va_rf rL2), (3, va_rf rL3)]) hC.1 hC.2.1 d_AckBookLaw_law_856 hl (k := 5) rfl rfl (by decide) (by first | rfl | simp [z_rfc, z_ci, z_cj]) (fun ls hl => ?_)
  refine lv_goto (tgt := 23) hC.1 hC.2.1 d_AckBookLaw_law_859 (by decide) ?_
  exact hJ _ _ _ _ _ _ h _ _ _ _ _ hZ (lv_sub hl [2, 3, 4, 5, 0] rfl)
def q_AckBookLaw_law_607 (F X : Nat) (xs : Nat → Int32) (L : Nat) (J : Option Nat → Option Nat → Option Nat → Int32 → zW → zR) (rL1 : Option Nat) (rL2 : Option Nat) (rL3 : Option Nat) (xL4 : Int32) (rS0 : Option Nat) (xS1 : Int32) (yS2 : Int64) (xS3 : Int32) (w : zW) : zR :=
  z_cI (f_AckBookLaw_came F X rS0 xS1 yS2 xS3 rL3 w) fun v11 w =>
  z_scr xs L (xL4 + (1 : Int32)) fun v12 =>
  z_scr xs L (xL4 + (2 : Int32)) fun v13 =>
  z_scr xs L (xL4 + (3 : Int32)) fun v14 =>
  z_scr xs L (xL4 + (4 : Int32)) fun v15 =>
  if v15 = 0 then (
    q_AckBookLaw_law_656 F X xs L J rL1 rL2 rL3 xL4 rL2 v12 ((v13.toInt64 <<< ((32 : Int32).toInt64 &&& 63)) ||| (v14.toInt64 &&& (4294967295 : Int64))) (0 : Int32) w)
  else (
    q_AckBookLaw_law_656 F X xs L J rL1 rL2 rL3 xL4 rL2 v12 ((v13.toInt64 <<< ((32 : Int32).toInt64 &&& 63)) ||| (v14.toInt64 &&& (4294967295 : Int64))) (1 : Int32) w)
set_option maxHeartbeats 4000000 in
set_option maxRecDepth 100000 in
theorem kq_AckBookLaw_law_607 {b0 : Nat} {H0 : Heap} {D : va_G} {vu vs : Value} {X M : Nat} {l : Launch} (hT : z_TB (zGG b0 H0 D vu vs X M)) (hfl : l.flags = pinnedFlags ++ [noTraceFlag]) (hE : vu.isRef = true ∧ vs.isRef = true) {p : Program} {e : Env} {s : State} {m : MethodId} {below : List Frame} {meth : Method} {c : Code} {F bS L : Nat} {xs : Nat → Int32} (hC : z_C (zGG b0 H0 D vu vs X M) p e s m meth c code 8 R_law) (hr : meth.sig.returnType = ret) (hX : va_X bS L xs s H0 ∧ bS < b0) (hB : s.heap.size ≤ b0) {J : Option Nat → Option Nat → Option Nat → Int32 → zW → zR} (hJ : (∀ (rL1 : Option Nat) (rL2 : Option Nat) (rL3 : Option Nat) (xL4 : Int32) (w : zW) (wE : zW), J rL1 rL2 rL3 xL4 w = some (.inl (some (.int (1 : Int32))), wE) → ∀ (H : Heap) (locs : List Loc) (cells slots : Nat) (ls : Array Slot), z_Z (zGG b0 H0 D vu vs X M) room_1 s w H locs cells slots → lv_has ls 8 [(0, va_rf (some bS)), (1, va_rf rL1), (2, va_rf rL2), (3, va_rf rL3), (4, .int xL4)] → W p l e room_1 s m #[Value.ref bS] below meth c H locs cells slots (lw_Z below #[Value.ref bS] s) (F0 m 23 ls []))) (rL1 : Option Nat) (rL2 : Option Nat) (rL3 : Option Nat) (xL4 : Int32) (rS0 : Option Nat) (xS1 : Int32) (yS2 : Int64) (xS3 : Int32) (w : zW) (wE : zW) (h : q_AckBookLaw_law_607 F X xs L J rL1 rL2 rL3 xL4 rS0 xS1 yS2 xS3 w = some (.inl (some (.int (1 : Int32))), wE)) (H : Heap) (locs : List Loc) (cells slots : Nat) (ls : Array Slot) (hZ : z_Z (zGG b0 H0 D vu vs X M) room_1 s w H locs cells slots) (hl : lv_has ls 8 [(0, va_rf (some bS)), (1, va_rf rL1), (2, va_rf rL2), (3, va_rf rL3), (4, .int xL4)]) : W p l e room_1 s m #[Value.ref bS] below meth c H locs cells slots (lw_Z below #[Value.ref bS] s) (F0 m 607 ls [.int xS3, .long yS2, .int xS1, va_rf rS0]) := by
  have hRt : room_1.frames = 12 ∧ room_1.locals = 458 := ⟨rfl, rfl⟩
  unfold q_AckBookLaw_law_607 at h
  refine x_aload_n hC d_AckBookLaw_law_607 rfl (lv_at hl 3 rfl) ?_
  obtain ⟨w1_, o1_, hF_, ha_⟩ := z_cI_spec h
  refine x_goesN ha_ (z_goSW (As := [va_rf rS0, .int xS1, .long yS2, .int xS3, va_rf rL3]) hC hZ (k_AckBookLaw_came hT hfl hE _ _ hF_) t_716 t_717 t_0 t_718 ⟨by decide, by decide, (by decide +kernel : (parseMethodDescriptor y_AckBookLaw_came.desc).map (fun d => d.parameters.length) = some 5)⟩ (by rw [hRt.1]; decide) (by rw [hRt.2]; decide) hl.1 rfl (by first | exact Nat.le_of_ble_eq_true rfl | simp [z_rfc, z_ci, z_cj]) d_AckBookLaw_law_608) (fun v_ hv H locs cells slots hZ => ?_)
  obtain ⟨v11, rfl, h⟩ := hv
  generalize w1_ = w at h hZ
  refine lv_istore (i := 5) (lv' := [(5, .int v11), (0, va_rf (some bS)), (1, va_rf rL1), (2, va_rf rL2), (3, va_rf rL3), (4, .int xL4)]) hC.1 hC.2.1 d_AckBookLaw_law_611 hl (by decide) (by first | rfl | simp [z_rfc, z_ci, z_cj]) (fun ls hl => ?_)
  refine x_aload_n hC d_AckBookLaw_law_613 rfl (lv_at hl 3 rfl) ?_
  refine x_aload_n hC d_AckBookLaw_law_614 rfl (lv_at hl 1 rfl) ?_
  refine lv_iload hC.1 hC.2.1 d_AckBookLaw_law_615 (lv_at hl 5 rfl) ?_
  refine lv_iconst (v := (1 : Int32)) hC.1 hC.2.1 d_AckBookLaw_law_617 (by decide) ?_
  refine lv_iadd hC.1 hC.2.1 d_AckBookLaw_law_618 ?_
  refine x_scr hC hZ hX h d_AckBookLaw_law_619 (fun v12 h => ?_)
  refine x_aload_n hC d_AckBookLaw_law_620 rfl (lv_at hl 1 rfl) ?_
  refine lv_iload hC.1 hC.2.1 d_AckBookLaw_law_621 (lv_at hl 5 rfl) ?_
  refine lv_iconst (v := (2 : Int32)) hC.1 hC.2.1 d_AckBookLaw_law_623 (by decide) ?_
  refine lv_iadd hC.1 hC.2.1 d_AckBookLaw_law_624 ?_
  refine x_scr hC hZ hX h d_AckBookLaw_law_625 (fun v13 h => ?_)
  refine lv_i2l hC.1 hC.2.1 d_AckBookLaw_law_626 rfl ?_
  refine lv_bipush (v := (32 : Int32)) hC.1 hC.2.1 d_AckBookLaw_law_627 (by decide) ?_
  refine lv_lshl hC.1 hC.2.1 d_AckBookLaw_law_629 rfl ?_
  refine x_aload_n hC d_AckBookLaw_law_630 rfl (lv_at hl 1 rfl) ?_
  refine lv_iload hC.1 hC.2.1 d_AckBookLaw_law_631 (lv_at hl 5 rfl) ?_
  refine lv_iconst (v := (3 : Int32)) hC.1 hC.2.1 d_AckBookLaw_law_633 (by decide) ?_
  refine lv_iadd hC.1 hC.2.1 d_AckBookLaw_law_634 ?_
  refine x_scr hC hZ hX h d_AckBookLaw_law_635 (fun v14 h => ?_)
  refine lv_i2l hC.1 hC.2.1 d_AckBookLaw_law_636 rfl ?_
  refine lv_ldc2 (v := (4294967295 : Int64)) hC.1 hC.2.1 hC.2.2.2.1 ((hZ.1.tb hC.2.2.2.2.2.2 #[Value.ref bS]) _ t_1090) d_AckBookLaw_law_637 ?_
  refine lv_land hC.1 hC.2.1 d_AckBookLaw_law_640 ?_
  refine lv_lor hC.1 hC.2.1 d_AckBookLaw_law_641 ?_
  refine x_aload_n hC d_AckBookLaw_law_642 rfl (lv_at hl 1 rfl) ?_
  refine lv_iload hC.1 hC.2.1 d_AckBookLaw_law_643 (lv_at hl 5 rfl) ?_
  refine lv_iconst (v := (4 : Int32)) hC.1 hC.2.1 d_AckBookLaw_law_645 (by decide) ?_
  refine lv_iadd hC.1 hC.2.1 d_AckBookLaw_law_646 ?_
  refine x_scr hC hZ hX h d_AckBookLaw_law_647 (fun v15 h => ?_)
  refine lv_if_eq (tgt := 655) hC.1 hC.2.1 d_AckBookLaw_law_648 (by decide) (fun hc => ?_) (fun hc => ?_)
  · have h := z_ifp hc h
    refine lv_iconst (v := (0 : Int32)) hC.1 hC.2.1 d_AckBookLaw_law_655 (by decide) ?_
    exact kq_AckBookLaw_law_656 hT hfl hE hC hr hX hB hJ _ _ _ _ _ _ _ _ _ _ h _ _ _ _ _ hZ (lv_sub hl [1, 2, 3, 4, 5] rfl)
  · have h := z_ifn hc h
    refine lv_iconst (v := (1 : Int32)) hC.1 hC.2.1 d_AckBookLaw_law_651 (by decide) ?_
    refine lv_goto (tgt := 656) hC.1 hC.2.1 d_AckBookLaw_law_652 (by decide) ?_
    exact kq_AckBookLaw_law_656 hT hfl hE hC hr hX hB hJ _ _ _ _ _ _ _ _ _ _ h _ _ _ _ _ hZ (lv_sub hl [1, 2, 3, 4, 5] rfl)
def q_AckBookLaw_law_516 (F X : Nat) (xs : Nat → Int32) (L : Nat) (J : Option Nat → Option Nat → Option Nat → Int32 → zW → zR) (rL1 : Option Nat) (rL2 : Option Nat) (rL3 : Option Nat) (xL4 : Int32) (rS0 : Option Nat) (xS1 : Int32) (xS2 : Int32) (w : zW) : zR :=
  z_this w 10 rS0 <|
  z_cI (f_AckBookModel_next F X rS0 xS1 xS2 w) fun v17 w =>
  J rL1 rL2 rL3 (xL4 + (5 : Int32)) w
set_option maxHeartbeats 4000000 in
set_option maxRecDepth 100000 in
theorem kq_AckBookLaw_law_516 {b0 : Nat} {H0 : Heap} {D : va_G} {vu vs : Value} {X M : Nat} {l : Launch} (hT : z_TB (zGG b0 H0 D vu vs X M)) (hfl : l.flags = pinnedFlags ++ [noTraceFlag]) (hE : vu.isRef = true ∧ vs.isRef = true) {p : Program} {e : Env} {s : State} {m : MethodId} {below : List Frame} {meth : Method} {c : Code} {F bS L : Nat} {xs : Nat → Int32} (hC : z_C (zGG b0 H0 D vu vs X M) p e s m meth c code 8 R_law) (hr : meth.sig.returnType = ret) (hX : va_X bS L xs s H0 ∧ bS < b0) (hB : s.heap.size ≤ b0) {J : Option Nat → Option Nat → Option Nat → Int32 → zW → zR} (hJ : (∀ (rL1 : Option Nat) (rL2 : Option Nat) (rL3 : Option Nat) (xL4 : Int32) (w : zW) (wE : zW), J rL1 rL2 rL3 xL4 w = some (.inl (some (.int (1 : Int32))), wE) → ∀ (H : Heap) (locs : List Loc) (cells slots : Nat) (ls : Array Slot), z_Z (zGG b0 H0 D vu vs X M) room_1 s w H locs cells slots → lv_has ls 8 [(0, va_rf (some bS)), (1, va_rf rL1), (2, va_rf rL2), (3, va_rf rL3), (4, .int xL4)] → W p l e room_1 s m #[Value.ref bS] below meth c H locs cells slots (lw_Z below #[Value.ref bS] s) (F0 m 23 ls []))) (rL1 : Option Nat) (rL2 : Option Nat) (rL3 : Option Nat) (xL4 : Int32) (rS0 : Option Nat) (xS1 : Int32) (xS2 : Int32) (w : zW) (wE : zW) (h : q_AckBookLaw_law_516 F X xs L J rL1 rL2 rL3 xL4 rS0 xS1 xS2 w = some (.inl (some (.int (1 : Int32))), wE)) (H : Heap) (locs : List Loc) (cells slots : Nat) (ls : Array Slot) (hZ : z_Z (zGG b0 H0 D vu vs X M) room_1 s w H locs cells slots) (hl : lv_has ls 8 [(0, va_rf (some bS)), (1, va_rf rL1), (2, va_rf rL2), (3, va_rf rL3), (4, .int xL4)]) : W p l e room_1 s m #[Value.ref bS] below meth c H locs cells slots (lw_Z below #[Value.ref bS] s) (F0 m 516 ls [.int xS2, .int xS1, va_rf rS0]) := by
  have hRt : room_1.frames = 12 ∧ room_1.locals = 458 := ⟨rfl, rfl⟩
  unfold q_AckBookLaw_law_516 at h
  obtain ⟨a_, fs_, eo_, h⟩ := z_this_spec h
  obtain ⟨w1_, o1_, hF_, ha_⟩ := z_cI_spec h
  refine x_goesN ha_ (z_goV (As := [.int xS1, .int xS2]) hC hZ zc10 eo_ (k_AckBookModel_next hT hfl hE _ _ hF_) t_1040 t_1041 t_1042 t_12 t_1043 ⟨by decide, by decide, (by decide +kernel : (parseMethodDescriptor y_AckBookModel_next.desc).map (fun d => d.parameters.length) = some 2)⟩ (by rw [hRt.1]; decide) (by rw [hRt.2]; decide) hl.1 rfl (by first | exact Nat.le_of_ble_eq_true rfl | simp [z_rfc, z_ci, z_cj]) d_AckBookLaw_law_516) (fun v_ hv H locs cells slots hZ => ?_)
  obtain ⟨v17, rfl, h⟩ := hv
  generalize w1_ = w at h hZ
  refine lv_istore (i := 6) (lv' := [(6, .int v17), (0, va_rf (some bS)), (1, va_rf rL1), (2, va_rf rL2), (3, va_rf rL3), (4, .int xL4)]) hC.1 hC.2.1 d_AckBookLaw_law_519 hl (by decide) (by first | rfl | simp [z_rfc, z_ci, z_cj]) (fun ls hl => ?_)
  refine lv_goto (tgt := 856) hC.1 hC.2.1 d_AckBookLaw_law_521 (by decide) ?_
  refine lv_iinc (lv' := [(4, .int (xL4 + (5 : Int32))), (6, .int v17), (0, va_rf (some bS)), (1, va_rf rL1), (2, va_rf rL2), (3, va_rf rL3)]) hC.1 hC.2.1 d_AckBookLaw_law_856 hl (k := 5) rfl rfl (by decide) (by first | rfl | simp [z_rfc, z_ci, z_cj]) (fun ls hl => ?_)
  refine lv_goto (tgt := 23) hC.1 hC.2.1 d_AckBookLaw_law_859 (by decide) ?_
  exact hJ _ _ _ _ _ _ h _ _ _ _ _ hZ (lv_sub hl [2, 3, 4, 5, 0] rfl)
def q_AckBookLaw_law_489 (F X : Nat) (xs : Nat → Int32) (L : Nat) (J : Option Nat → Option Nat → Option Nat → Int32 → zW → zR) (rL1 : Option Nat) (rL2 : Option Nat) (rL3 : Option Nat) (xL4 : Int32) (rS0 : Option Nat) (xS1 : Int32) (xS2 : Int32) (w : zW) : zR :=
  z_cI (f_AckBookLaw_next F X rS0 xS1 xS2 rL3 w) fun v19 w =>
  z_scr xs L (xL4 + (1 : Int32)) fun v20 =>
  z_scr xs L (xL4 + (2 : Int32)) fun v21 =>
  if v21 = 0 then (
    q_AckBookLaw_law_516 F X xs L J rL1 rL2 rL3 xL4 rL2 v20 (0 : Int32) w)
  else (
    q_AckBookLaw_law_516 F X xs L J rL1 rL2 rL3 xL4 rL2 v20 (1 : Int32) w)
set_option maxHeartbeats 4000000 in
set_option maxRecDepth 100000 in
theorem kq_AckBookLaw_law_489 {b0 : Nat} {H0 : Heap} {D : va_G} {vu vs : Value} {X M : Nat} {l : Launch} (hT : z_TB (zGG b0 H0 D vu vs X M)) (hfl : l.flags = pinnedFlags ++ [noTraceFlag]) (hE : vu.isRef = true ∧ vs.isRef = true) {p : Program} {e : Env} {s : State} {m : MethodId} {below : List Frame} {meth : Method} {c : Code} {F bS L : Nat} {xs : Nat → Int32} (hC : z_C (zGG b0 H0 D vu vs X M) p e s m meth c code 8 R_law) (hr : meth.sig.returnType = ret) (hX : va_X bS L xs s H0 ∧ bS < b0) (hB : s.heap.size ≤ b0) {J : Option Nat → Option Nat → Option Nat → Int32 → zW → zR} (hJ : (∀ (rL1 : Option Nat) (rL2 : Option Nat) (rL3 : Option Nat) (xL4 : Int32) (w : zW) (wE : zW), J rL1 rL2 rL3 xL4 w = some (.inl (some (.int (1 : Int32))), wE) → ∀ (H : Heap) (locs : List Loc) (cells slots : Nat) (ls : Array Slot), z_Z (zGG b0 H0 D vu vs X M) room_1 s w H locs cells slots → lv_has ls 8 [(0, va_rf (some bS)), (1, va_rf rL1), (2, va_rf rL2), (3, va_rf rL3), (4, .int xL4)] → W p l e room_1 s m #[Value.ref bS] below meth c H locs cells slots (lw_Z below #[Value.ref bS] s) (F0 m 23 ls []))) (rL1 : Option Nat) (rL2 : Option Nat) (rL3 : Option Nat) (xL4 : Int32) (rS0 : Option Nat) (xS1 : Int32) (xS2 : Int32) (w : zW) (wE : zW) (h : q_AckBookLaw_law_489 F X xs L J rL1 rL2 rL3 xL4 rS0 xS1 xS2 w = some (.inl (some (.int (1 : Int32))), wE)) (H : Heap) (locs : List Loc) (cells slots : Nat) (ls : Array Slot) (hZ : z_Z (zGG b0 H0 D vu vs X M) room_1 s w H locs cells slots) (hl : lv_has ls 8 [(0, va_rf (some bS)), (1, va_rf rL1), (2, va_rf rL2), (3, va_rf rL3), (4, .int xL4)]) : W p l e room_1 s m #[Value.ref bS] below meth c H locs cells slots (lw_Z below #[Value.ref bS] s) (F0 m 489 ls [.int xS2, .int xS1, va_rf rS0]) := by
  have hRt : room_1.frames = 12 ∧ room_1.locals = 458 := ⟨rfl, rfl⟩
  unfold q_AckBookLaw_law_489 at h
  refine x_aload_n hC d_AckBookLaw_law_489 rfl (lv_at hl 3 rfl) ?_
  obtain ⟨w1_, o1_, hF_, ha_⟩ := z_cI_spec h
  refine x_goesN ha_ (z_goSW (As := [va_rf rS0, .int xS1, .int xS2, va_rf rL3]) hC hZ (k_AckBookLaw_next hT hfl hE _ _ hF_) t_698 t_699 t_0 t_700 ⟨by decide, by decide, (by decide +kernel : (parseMethodDescriptor y_AckBookLaw_next.desc).map (fun d => d.parameters.length) = some 4)⟩ (by rw [hRt.1]; decide) (by rw [hRt.2]; decide) hl.1 rfl (by first | exact Nat.le_of_ble_eq_true rfl | simp [z_rfc, z_ci, z_cj]) d_AckBookLaw_law_490) (fun v_ hv H locs cells slots hZ => ?_)
  obtain ⟨v19, rfl, h⟩ := hv
  generalize w1_ = w at h hZ
  refine lv_istore (i := 5) (lv' := [(5, .int v19), (0, va_rf (some bS)), (1, va_rf rL1), (2, va_rf rL2), (3, va_rf rL3), (4, .int xL4)]) hC.1 hC.2.1 d_AckBookLaw_law_493 hl (by decide) (by first | rfl | simp [z_rfc, z_ci, z_cj]) (fun ls hl => ?_)
  refine x_aload_n hC d_AckBookLaw_law_495 rfl (lv_at hl 3 rfl) ?_
  refine x_aload_n hC d_AckBookLaw_law_496 rfl (lv_at hl 1 rfl) ?_
  refine lv_iload hC.1 hC.2.1 d_AckBookLaw_law_497 (lv_at hl 5 rfl) ?_
  refine lv_iconst (v := (1 : Int32)) hC.1 hC.2.1 d_AckBookLaw_law_499 (by decide) ?_
  refine lv_iadd hC.1 hC.2.1 d_AckBookLaw_law_500 ?_
  refine x_scr hC hZ hX h d_AckBookLaw_law_501 (fun v20 h => ?_)
  refine x_aload_n hC d_AckBookLaw_law_502 rfl (lv_at hl 1 rfl) ?_
  refine lv_iload hC.1 hC.2.1 d_AckBookLaw_law_503 (lv_at hl 5 rfl) ?_
  refine lv_iconst (v := (2 : Int32)) hC.1 hC.2.1 d_AckBookLaw_law_505 (by decide) ?_
  refine lv_iadd hC.1 hC.2.1 d_AckBookLaw_law_506 ?_
  refine x_scr hC hZ hX h d_AckBookLaw_law_507 (fun v21 h => ?_)
  refine lv_if_eq (tgt := 515) hC.1 hC.2.1 d_AckBookLaw_law_508 (by decide) (fun hc => ?_) (fun hc => ?_)
  · have h := z_ifp hc h
    refine lv_iconst (v := (0 : Int32)) hC.1 hC.2.1 d_AckBookLaw_law_515 (by decide) ?_
    exact kq_AckBookLaw_law_516 hT hfl hE hC hr hX hB hJ _ _ _ _ _ _ _ _ _ h _ _ _ _ _ hZ (lv_sub hl [1, 2, 3, 4, 5] rfl)
  · have h := z_ifn hc h
    refine lv_iconst (v := (1 : Int32)) hC.1 hC.2.1 d_AckBookLaw_law_511 (by decide) ?_
    refine lv_goto (tgt := 516) hC.1 hC.2.1 d_AckBookLaw_law_512 (by decide) ?_
    exact kq_AckBookLaw_law_516 hT hfl hE hC hr hX hB hJ _ _ _ _ _ _ _ _ _ h _ _ _ _ _ hZ (lv_sub hl [1, 2, 3, 4, 5] rfl)
def q_AckBookLaw_law_462 (F X : Nat) (xs : Nat → Int32) (L : Nat) (J : Option Nat → Option Nat → Option Nat → Int32 → zW → zR) (rL1 : Option Nat) (rL2 : Option Nat) (rL3 : Option Nat) (xL4 : Int32) (rS0 : Option Nat) (xS1 : Int32) (w : zW) : zR :=
  z_this w 10 rS0 <|
  z_cV (f_AckBookModel_anxious F X rS0 xS1 w) fun w =>
  J rL1 rL2 rL3 (xL4 + (5 : Int32)) w
set_option maxHeartbeats 4000000 in
set_option maxRecDepth 100000 in
theorem kq_AckBookLaw_law_462 {b0 : Nat} {H0 : Heap} {D : va_G} {vu vs : Value} {X M : Nat} {l : Launch} (hT : z_TB (zGG b0 H0 D vu vs X M)) (hfl : l.flags = pinnedFlags ++ [noTraceFlag]) (hE : vu.isRef = true ∧ vs.isRef = true) {p : Program} {e : Env} {s : State} {m : MethodId} {below : List Frame} {meth : Method} {c : Code} {F bS L : Nat} {xs : Nat → Int32} (hC : z_C (zGG b0 H0 D vu vs X M) p e s m meth c code 8 R_law) (hr : meth.sig.returnType = ret) (hX : va_X bS L xs s H0 ∧ bS < b0) (hB : s.heap.size ≤ b0) {J : Option Nat → Option Nat → Option Nat → Int32 → zW → zR} (hJ : (∀ (rL1 : Option Nat) (rL2 : Option Nat) (rL3 : Option Nat) (xL4 : Int32) (w : zW) (wE : zW), J rL1 rL2 rL3 xL4 w = some (.inl (some (.int (1 : Int32))), wE) → ∀ (H : Heap) (locs : List Loc) (cells slots : Nat) (ls : Array Slot), z_Z (zGG b0 H0 D vu vs X M) room_1 s w H locs cells slots → lv_has ls 8 [(0, va_rf (some bS)), (1, va_rf rL1), (2, va_rf rL2), (3, va_rf rL3), (4, .int xL4)] → W p l e room_1 s m #[Value.ref bS] below meth c H locs cells slots (lw_Z below #[Value.ref bS] s) (F0 m 23 ls []))) (rL1 : Option Nat) (rL2 : Option Nat) (rL3 : Option Nat) (xL4 : Int32) (rS0 : Option Nat) (xS1 : Int32) (w : zW) (wE : zW) (h : q_AckBookLaw_law_462 F X xs L J rL1 rL2 rL3 xL4 rS0 xS1 w = some (.inl (some (.int (1 : Int32))), wE)) (H : Heap) (locs : List Loc) (cells slots : Nat) (ls : Array Slot) (hZ : z_Z (zGG b0 H0 D vu vs X M) room_1 s w H locs cells slots) (hl : lv_has ls 8 [(0, va_rf (some bS)), (1, va_rf rL1), (2, va_rf rL2), (3, va_rf rL3), (4, .int xL4)]) : W p l e room_1 s m #[Value.ref bS] below meth c H locs cells slots (lw_Z below #[Value.ref bS] s) (F0 m 462 ls [.int xS1, va_rf rS0]) := by
  have hRt : room_1.frames = 12 ∧ room_1.locals = 458 := ⟨rfl, rfl⟩
  unfold q_AckBookLaw_law_462 at h
  obtain ⟨a_, fs_, eo_, h⟩ := z_this_spec h
  obtain ⟨w1_, o1_, hF_, ha_⟩ := z_cV_spec h
  refine x_goesN ha_ (z_goV (As := [.int xS1]) hC hZ zc10 eo_ (k_AckBookModel_anxious hT hfl hE _ _ hF_) t_1036 t_1037 t_1038 t_12 t_1039 ⟨by decide, by decide, (by decide +kernel : (parseMethodDescriptor y_AckBookModel_anxious.desc).map (fun d => d.parameters.length) = some 1)⟩ (by rw [hRt.1]; decide) (by rw [hRt.2]; decide) hl.1 rfl (by first | exact Nat.le_of_ble_eq_true rfl | simp [z_rfc, z_ci, z_cj]) d_AckBookLaw_law_462) (fun v_ hv H locs cells slots hZ => ?_)
  obtain ⟨rfl, h⟩ := hv
  generalize w1_ = w at h hZ
  refine lv_goto (tgt := 856) hC.1 hC.2.1 d_AckBookLaw_law_465 (by decide) ?_
  refine lv_iinc (lv' := [(4, .int (xL4 + (5 : Int32))), (0, va_rf (some bS)), (1, va_rf rL1), (2, va_rf rL2), (3, va_rf rL3)]) hC.1 hC.2.1 d_AckBookLaw_law_856 hl (k := 4) rfl rfl (by decide) (by first | rfl | simp [z_rfc, z_ci, z_cj]) (fun ls hl => ?_)
  refine lv_goto (tgt := 23) hC.1 hC.2.1 d_AckBookLaw_law_859 (by decide) ?_
  exact hJ _ _ _ _ _ _ h _ _ _ _ _ hZ (lv_sub hl [1, 2, 3, 4, 0] rfl)
def q_AckBookLaw_law_444 (F X : Nat) (xs : Nat → Int32) (L : Nat) (J : Option Nat → Option Nat → Option Nat → Int32 → zW → zR) (rL1 : Option Nat) (rL2 : Option Nat) (rL3 : Option Nat) (xL4 : Int32) (rS0 : Option Nat) (xS1 : Int32) (w : zW) : zR :=
  z_this w 0 rS0 <|
  z_cV (f_AckBook_anxious F X rS0 xS1 w) fun w =>
  z_scr xs L (xL4 + (1 : Int32)) fun v24 =>
  if v24 = 0 then (
    q_AckBookLaw_law_462 F X xs L J rL1 rL2 rL3 xL4 rL2 (0 : Int32) w)
  else (
    q_AckBookLaw_law_462 F X xs L J rL1 rL2 rL3 xL4 rL2 (1 : Int32) w)
set_option maxHeartbeats 4000000 in
set_option maxRecDepth 100000 in
theorem kq_AckBookLaw_law_444 {b0 : Nat} {H0 : Heap} {D : va_G} {vu vs : Value} {X M : Nat} {l : Launch} (hT : z_TB (zGG b0 H0 D vu vs X M)) (hfl : l.flags = pinnedFlags ++ [noTraceFlag]) (hE : vu.isRef = true ∧ vs.isRef = true) {p : Program} {e : Env} {s : State} {m : MethodId} {below : List Frame} {meth : Method} {c : Code} {F bS L : Nat} {xs : Nat → Int32} (hC : z_C (zGG b0 H0 D vu vs X M) p e s m meth c code 8 R_law) (hr : meth.sig.returnType = ret) (hX : va_X bS L xs s H0 ∧ bS < b0) (hB : s.heap.size ≤ b0) {J : Option Nat → Option Nat → Option Nat → Int32 → zW → zR} (hJ : (∀ (rL1 : Option Nat) (rL2 : Option Nat) (rL3 : Option Nat) (xL4 : Int32) (w : zW) (wE : zW), J rL1 rL2 rL3 xL4 w = some (.inl (some (.int (1 : Int32))), wE) → ∀ (H : Heap) (locs : List Loc) (cells slots : Nat) (ls : Array Slot), z_Z (zGG b0 H0 D vu vs X M) room_1 s w H locs cells slots → lv_has ls 8 [(0, va_rf (some bS)), (1, va_rf rL1), (2, va_rf rL2), (3, va_rf rL3), (4, .int xL4)] → W p l e room_1 s m #[Value.ref bS] below meth c H locs cells slots (lw_Z below #[Value.ref bS] s) (F0 m 23 ls []))) (rL1 : Option Nat) (rL2 : Option Nat) (rL3 : Option Nat) (xL4 : Int32) (rS0 : Option Nat) (xS1 : Int32) (w : zW) (wE : zW) (h : q_AckBookLaw_law_444 F X xs L J rL1 rL2 rL3 xL4 rS0 xS1 w = some (.inl (some (.int (1 : Int32))), wE)) (H : Heap) (locs : List Loc) (cells slots : Nat) (ls : Array Slot) (hZ : z_Z (zGG b0 H0 D vu vs X M) room_1 s w H locs cells slots) (hl : lv_has ls 8 [(0, va_rf (some bS)), (1, va_rf rL1), (2, va_rf rL2), (3, va_rf rL3), (4, .int xL4)]) : W p l e room_1 s m #[Value.ref bS] below meth c H locs cells slots (lw_Z below #[Value.ref bS] s) (F0 m 444 ls [.int xS1, va_rf rS0]) := by
  have hRt : room_1.frames = 12 ∧ room_1.locals = 458 := ⟨rfl, rfl⟩
  unfold q_AckBookLaw_law_444 at h
  obtain ⟨a_, fs_, eo_, h⟩ := z_this_spec h
  obtain ⟨w1_, o1_, hF_, ha_⟩ := z_cV_spec h
  refine x_goesN ha_ (z_goV (As := [.int xS1]) hC hZ zc0 eo_ (k_AckBook_anxious hT hfl hE _ _ hF_) t_367 t_368 t_369 t_1 t_370 ⟨by decide, by decide, (by decide +kernel : (parseMethodDescriptor y_AckBook_anxious.desc).map (fun d => d.parameters.length) = some 1)⟩ (by rw [hRt.1]; decide) (by rw [hRt.2]; decide) hl.1 rfl (by first | exact Nat.le_of_ble_eq_true rfl | simp [z_rfc, z_ci, z_cj]) d_AckBookLaw_law_444) (fun v_ hv H locs cells slots hZ => ?_)
  obtain ⟨rfl, h⟩ := hv
  generalize w1_ = w at h hZ
  refine x_aload_n hC d_AckBookLaw_law_447 rfl (lv_at hl 2 rfl) ?_
  refine x_aload_n hC d_AckBookLaw_law_448 rfl (lv_at hl 0 rfl) ?_
  refine lv_iload hC.1 hC.2.1 d_AckBookLaw_law_449 (lv_at hl 4 rfl) ?_
  refine lv_iconst (v := (1 : Int32)) hC.1 hC.2.1 d_AckBookLaw_law_451 (by decide) ?_
  refine lv_iadd hC.1 hC.2.1 d_AckBookLaw_law_452 ?_
  refine x_scr hC hZ hX h d_AckBookLaw_law_453 (fun v24 h => ?_)
  refine lv_if_eq (tgt := 461) hC.1 hC.2.1 d_AckBookLaw_law_454 (by decide) (fun hc => ?_) (fun hc => ?_)
  · have h := z_ifp hc h
    refine lv_iconst (v := (0 : Int32)) hC.1 hC.2.1 d_AckBookLaw_law_461 (by decide) ?_
    exact kq_AckBookLaw_law_462 hT hfl hE hC hr hX hB hJ _ _ _ _ _ _ _ _ h _ _ _ _ _ hZ (lv_sub hl [0, 1, 2, 3, 4] rfl)
  · have h := z_ifn hc h
    refine lv_iconst (v := (1 : Int32)) hC.1 hC.2.1 d_AckBookLaw_law_457 (by decide) ?_
    refine lv_goto (tgt := 462) hC.1 hC.2.1 d_AckBookLaw_law_458 (by decide) ?_
    exact kq_AckBookLaw_law_462 hT hfl hE hC hr hX hB hJ _ _ _ _ _ _ _ _ h _ _ _ _ _ hZ (lv_sub hl [0, 1, 2, 3, 4] rfl)
def q_AckBookLaw_law_200 (F X : Nat) (xs : Nat → Int32) (L : Nat) (J : Option Nat → Option Nat → Option Nat → Int32 → zW → zR) (rL1 : Option Nat) (rL2 : Option Nat) (rL3 : Option Nat) (xL4 : Int32) (rS0 : Option Nat) (xS1 : Int32) (xS2 : Int32) (xS3 : Int32) (xS4 : Int32) (w : zW) : zR :=
  z_this w 10 rS0 <|
  z_cI (f_AckBookModel_send F X rS0 xS1 xS2 xS3 xS4 w) fun v26 w =>
  J rL1 rL2 rL3 (xL4 + (5 : Int32)) w
set_option maxHeartbeats 4000000 in
set_option maxRecDepth 100000 in
theorem kq_AckBookLaw_law_200 {b0 : Nat} {H0 : Heap} {D : va_G} {vu vs : Value} {X M : Nat} {l : Launch} (hT : z_TB (zGG b0 H0 D vu vs X M)) (hfl : l.flags = pinnedFlags ++ [noTraceFlag]) (hE : vu.isRef = true ∧ vs.isRef = true) {p : Program} {e : Env} {s : State} {m : MethodId} {below : List Frame} {meth : Method} {c : Code} {F bS L : Nat} {xs : Nat → Int32} (hC : z_C (zGG b0 H0 D vu vs X M) p e s m meth c code 8 R_law) (hr : meth.sig.returnType = ret) (hX : va_X bS L xs s H0 ∧ bS < b0) (hB : s.heap.size ≤ b0) {J : Option Nat → Option Nat → Option Nat → Int32 → zW → zR} (hJ : (∀ (rL1 : Option Nat) (rL2 : Option Nat) (rL3 : Option Nat) (xL4 : Int32) (w : zW) (wE : zW), J rL1 rL2 rL3 xL4 w = some (.inl (some (.int (1 : Int32))), wE) → ∀ (H : Heap) (locs : List Loc) (cells slots : Nat) (ls : Array Slot), z_Z (zGG b0 H0 D vu vs X M) room_1 s w H locs cells slots → lv_has ls 8 [(0, va_rf (some bS)), (1, va_rf rL1), (2, va_rf rL2), (3, va_rf rL3), (4, .int xL4)] → W p l e room_1 s m #[Value.ref bS] below meth c H locs cells slots (lw_Z below #[Value.ref bS] s) (F0 m 23 ls []))) (rL1 : Option Nat) (rL2 : Option Nat) (rL3 : Option Nat) (xL4 : Int32) (rS0 : Option Nat) (xS1 : Int32) (xS2 : Int32) (xS3 : Int32) (xS4 : Int32) (w : zW) (wE : zW) (h : q_AckBookLaw_law_200 F X xs L J rL1 rL2 rL3 xL4 rS0 xS1 xS2 xS3 xS4 w = some (.inl (some (.int (1 : Int32))), wE)) (H : Heap) (locs : List Loc) (cells slots : Nat) (ls : Array Slot) (hZ : z_Z (zGG b0 H0 D vu vs X M) room_1 s w H locs cells slots) (hl : lv_has ls 8 [(0, va_rf (some bS)), (1, va_rf rL1), (2, va_rf rL2), (3, va_rf rL3), (4, .int xL4)]) : W p l e room_1 s m #[Value.ref bS] below meth c H locs cells slots (lw_Z below #[Value.ref bS] s) (F0 m 200 ls [.int xS4, .int xS3, .int xS2, .int xS1, va_rf rS0]) := by
  have hRt : room_1.frames = 12 ∧ room_1.locals = 458 := ⟨rfl, rfl⟩
  unfold q_AckBookLaw_law_200 at h
  obtain ⟨a_, fs_, eo_, h⟩ := z_this_spec h
  obtain ⟨w1_, o1_, hF_, ha_⟩ := z_cI_spec h
  refine x_goesN ha_ (z_goV (As := [.int xS1, .int xS2, .int xS3, .int xS4]) hC hZ zc10 eo_ (k_AckBookModel_send hT hfl hE _ _ hF_) t_940 t_941 t_942 t_12 t_943 ⟨by decide, by decide, (by decide +kernel : (parseMethodDescriptor y_AckBookModel_send.desc).map (fun d => d.parameters.length) = some 4)⟩ (by rw [hRt.1]; decide) (by rw [hRt.2]; decide) hl.1 rfl (by first | exact Nat.le_of_ble_eq_true rfl | simp [z_rfc, z_ci, z_cj]) d_AckBookLaw_law_200) (fun v_ hv H locs cells slots hZ => ?_)
  obtain ⟨v26, rfl, h⟩ := hv
  generalize w1_ = w at h hZ
  refine lv_istore (i := 6) (lv' := [(6, .int v26), (0, va_rf (some bS)), (1, va_rf rL1), (2, va_rf rL2), (3, va_rf rL3), (4, .int xL4)]) hC.1 hC.2.1 d_AckBookLaw_law_203 hl (by decide) (by first | rfl | simp [z_rfc, z_ci, z_cj]) (fun ls hl => ?_)
  refine lv_goto (tgt := 856) hC.1 hC.2.1 d_AckBookLaw_law_205 (by decide) ?_
  refine lv_iinc (lv' := [(4, .int (xL4 + (5 : Int32))), (6, .int v26), (0, va_rf (some bS)), (1, va_rf rL1), (2, va_rf rL2), (3, va_rf rL3)]) hC.1 hC.2.1 d_AckBookLaw_law_856 hl (k := 5) rfl rfl (by decide) (by first | rfl | simp [z_rfc, z_ci, z_cj]) (fun ls hl => ?_)
  refine lv_goto (tgt := 23) hC.1 hC.2.1 d_AckBookLaw_law_859 (by decide) ?_
  exact hJ _ _ _ _ _ _ h _ _ _ _ _ hZ (lv_sub hl [2, 3, 4, 5, 0] rfl)
def q_AckBookLaw_law_186 (F X : Nat) (xs : Nat → Int32) (L : Nat) (J : Option Nat → Option Nat → Option Nat → Int32 → zW → zR) (rL1 : Option Nat) (rL2 : Option Nat) (rL3 : Option Nat) (xL4 : Int32) (rS0 : Option Nat) (xS1 : Int32) (xS2 : Int32) (xS3 : Int32) (w : zW) : zR :=
  z_scr xs L (xL4 + (4 : Int32)) fun v27 =>
  if v27 = 0 then (
    q_AckBookLaw_law_200 F X xs L J rL1 rL2 rL3 xL4 rS0 xS1 xS2 xS3 (0 : Int32) w)
  else (
    q_AckBookLaw_law_200 F X xs L J rL1 rL2 rL3 xL4 rS0 xS1 xS2 xS3 (1 : Int32) w)
set_option maxHeartbeats 4000000 in
set_option maxRecDepth 100000 in
theorem kq_AckBookLaw_law_186 {b0 : Nat} {H0 : Heap} {D : va_G} {vu vs : Value} {X M : Nat} {l : Launch} (hT : z_TB (zGG b0 H0 D vu vs X M)) (hfl : l.flags = pinnedFlags ++ [noTraceFlag]) (hE : vu.isRef = true ∧ vs.isRef = true) {p : Program} {e : Env} {s : State} {m : MethodId} {below : List Frame} {meth : Method} {c : Code} {F bS L : Nat} {xs : Nat → Int32} (hC : z_C (zGG b0 H0 D vu vs X M) p e s m meth c code 8 R_law) (hr : meth.sig.returnType = ret) (hX : va_X bS L xs s H0 ∧ bS < b0) (hB : s.heap.size ≤ b0) {J : Option Nat → Option Nat → Option Nat → Int32 → zW → zR} (hJ : (∀ (rL1 : Option Nat) (rL2 : Option Nat) (rL3 : Option Nat) (xL4 : Int32) (w : zW) (wE : zW), J rL1 rL2 rL3 xL4 w = some (.inl (some (.int (1 : Int32))), wE) → ∀ (H : Heap) (locs : List Loc) (cells slots : Nat) (ls : Array Slot), z_Z (zGG b0 H0 D vu vs X M) room_1 s w H locs cells slots → lv_has ls 8 [(0, va_rf (some bS)), (1, va_rf rL1), (2, va_rf rL2), (3, va_rf rL3), (4, .int xL4)] → W p l e room_1 s m #[Value.ref bS] below meth c H locs cells slots (lw_Z below #[Value.ref bS] s) (F0 m 23 ls []))) (rL1 : Option Nat) (rL2 : Option Nat) (rL3 : Option Nat) (xL4 : Int32) (rS0 : Option Nat) (xS1 : Int32) (xS2 : Int32) (xS3 : Int32) (w : zW) (wE : zW) (h : q_AckBookLaw_law_186 F X xs L J rL1 rL2 rL3 xL4 rS0 xS1 xS2 xS3 w = some (.inl (some (.int (1 : Int32))), wE)) (H : Heap) (locs : List Loc) (cells slots : Nat) (ls : Array Slot) (hZ : z_Z (zGG b0 H0 D vu vs X M) room_1 s w H locs cells slots) (hl : lv_has ls 8 [(0, va_rf (some bS)), (1, va_rf rL1), (2, va_rf rL2), (3, va_rf rL3), (4, .int xL4)]) : W p l e room_1 s m #[Value.ref bS] below meth c H locs cells slots (lw_Z below #[Value.ref bS] s) (F0 m 186 ls [.int xS3, .int xS2, .int xS1, va_rf rS0]) := by
  have hRt : room_1.frames = 12 ∧ room_1.locals = 458 := ⟨rfl, rfl⟩
  unfold q_AckBookLaw_law_186 at h
  refine x_aload_n hC d_AckBookLaw_law_186 rfl (lv_at hl 0 rfl) ?_
  refine lv_iload hC.1 hC.2.1 d_AckBookLaw_law_187 (lv_at hl 4 rfl) ?_
  refine lv_iconst (v := (4 : Int32)) hC.1 hC.2.1 d_AckBookLaw_law_189 (by decide) ?_
  refine lv_iadd hC.1 hC.2.1 d_AckBookLaw_law_190 ?_
  refine x_scr hC hZ hX h d_AckBookLaw_law_191 (fun v27 h => ?_)
  refine lv_if_eq (tgt := 199) hC.1 hC.2.1 d_AckBookLaw_law_192 (by decide) (fun hc => ?_) (fun hc => ?_)
  · have h := z_ifp hc h
    refine lv_iconst (v := (0 : Int32)) hC.1 hC.2.1 d_AckBookLaw_law_199 (by decide) ?_
    exact kq_AckBookLaw_law_200 hT hfl hE hC hr hX hB hJ _ _ _ _ _ _ _ _ _ _ _ h _ _ _ _ _ hZ (lv_sub hl [0, 1, 2, 3, 4] rfl)
  · have h := z_ifn hc h
    refine lv_iconst (v := (1 : Int32)) hC.1 hC.2.1 d_AckBookLaw_law_195 (by decide) ?_
    refine lv_goto (tgt := 200) hC.1 hC.2.1 d_AckBookLaw_law_196 (by decide) ?_
    exact kq_AckBookLaw_law_200 hT hfl hE hC hr hX hB hJ _ _ _ _ _ _ _ _ _ _ _ h _ _ _ _ _ hZ (lv_sub hl [0, 1, 2, 3, 4] rfl)
def q_AckBookLaw_law_153 (F X : Nat) (xs : Nat → Int32) (L : Nat) (J : Option Nat → Option Nat → Option Nat → Int32 → zW → zR) (rL1 : Option Nat) (rL2 : Option Nat) (rL3 : Option Nat) (xL4 : Int32) (rS0 : Option Nat) (xS1 : Int32) (xS2 : Int32) (xS3 : Int32) (xS4 : Int32) (w : zW) : zR :=
  z_cI (f_AckBookLaw_send F X rS0 xS1 xS2 xS3 xS4 rL3 w) fun v29 w =>
  z_scr xs L (xL4 + (1 : Int32)) fun v30 =>
  z_scr xs L (xL4 + (2 : Int32)) fun v31 =>
  z_scr xs L (xL4 + (3 : Int32)) fun v32 =>
  if v32 = 0 then (
    q_AckBookLaw_law_186 F X xs L J rL1 rL2 rL3 xL4 rL2 v30 v31 (0 : Int32) w)
  else (
    q_AckBookLaw_law_186 F X xs L J rL1 rL2 rL3 xL4 rL2 v30 v31 (1 : Int32) w)
set_option maxHeartbeats 4000000 in
set_option maxRecDepth 100000 in
theorem kq_AckBookLaw_law_153 {b0 : Nat} {H0 : Heap} {D : va_G} {vu vs : Value} {X M : Nat} {l : Launch} (hT : z_TB (zGG b0 H0 D vu vs X M)) (hfl : l.flags = pinnedFlags ++ [noTraceFlag]) (hE : vu.isRef = true ∧ vs.isRef = true) {p : Program} {e : Env} {s : State} {m : MethodId} {below : List Frame} {meth : Method} {c : Code} {F bS L : Nat} {xs : Nat → Int32} (hC : z_C (zGG b0 H0 D vu vs X M) p e s m meth c code 8 R_law) (hr : meth.sig.returnType = ret) (hX : va_X bS L xs s H0 ∧ bS < b0) (hB : s.heap.size ≤ b0) {J : Option Nat → Option Nat → Option Nat → Int32 → zW → zR} (hJ : (∀ (rL1 : Option Nat) (rL2 : Option Nat) (rL3 : Option Nat) (xL4 : Int32) (w : zW) (wE : zW), J rL1 rL2 rL3 xL4 w = some (.inl (some (.int (1 : Int32))), wE) → ∀ (H : Heap) (locs : List Loc) (cells slots : Nat) (ls : Array Slot), z_Z (zGG b0 H0 D vu vs X M) room_1 s w H locs cells slots → lv_has ls 8 [(0, va_rf (some bS)), (1, va_rf rL1), (2, va_rf rL2), (3, va_rf rL3), (4, .int xL4)] → W p l e room_1 s m #[Value.ref bS] below meth c H locs cells slots (lw_Z below #[Value.ref bS] s) (F0 m 23 ls []))) (rL1 : Option Nat) (rL2 : Option Nat) (rL3 : Option Nat) (xL4 : Int32) (rS0 : Option Nat) (xS1 : Int32) (xS2 : Int32) (xS3 : Int32) (xS4 : Int32) (w : zW) (wE : zW) (h : q_AckBookLaw_law_153 F X xs L J rL1 rL2 rL3 xL4 rS0 xS1 xS2 xS3 xS4 w = some (.inl (some (.int (1 : Int32))), wE)) (H : Heap) (locs : List Loc) (cells slots : Nat) (ls : Array Slot) (hZ : z_Z (zGG b0 H0 D vu vs X M) room_1 s w H locs cells slots) (hl : lv_has ls 8 [(0, va_rf (some bS)), (1, va_rf rL1), (2, va_rf rL2), (3, va_rf rL3), (4, .int xL4)]) : W p l e room_1 s m #[Value.ref bS] below meth c H locs cells slots (lw_Z below #[Value.ref bS] s) (F0 m 153 ls [.int xS4, .int xS3, .int xS2, .int xS1, va_rf rS0]) := by
  have hRt : room_1.frames = 12 ∧ room_1.locals = 458 := ⟨rfl, rfl⟩
  unfold q_AckBookLaw_law_153 at h
  refine x_aload_n hC d_AckBookLaw_law_153 rfl (lv_at hl 3 rfl) ?_
  obtain ⟨w1_, o1_, hF_, ha_⟩ := z_cI_spec h
  refine x_goesN ha_ (z_goSW (As := [va_rf rS0, .int xS1, .int xS2, .int xS3, .int xS4, va_rf rL3]) hC hZ (k_AckBookLaw_send hT hfl hE _ _ hF_) t_371 t_372 t_0 t_373 ⟨by decide, by decide, (by decide +kernel : (parseMethodDescriptor y_AckBookLaw_send.desc).map (fun d => d.parameters.length) = some 6)⟩ (by rw [hRt.1]; decide) (by rw [hRt.2]; decide) hl.1 rfl (by first | exact Nat.le_of_ble_eq_true rfl | simp [z_rfc, z_ci, z_cj]) d_AckBookLaw_law_154) (fun v_ hv H locs cells slots hZ => ?_)
  obtain ⟨v29, rfl, h⟩ := hv
  generalize w1_ = w at h hZ
  refine lv_istore (i := 5) (lv' := [(5, .int v29), (0, va_rf (some bS)), (1, va_rf rL1), (2, va_rf rL2), (3, va_rf rL3), (4, .int xL4)]) hC.1 hC.2.1 d_AckBookLaw_law_157 hl (by decide) (by first | rfl | simp [z_rfc, z_ci, z_cj]) (fun ls hl => ?_)
  refine x_aload_n hC d_AckBookLaw_law_159 rfl (lv_at hl 3 rfl) ?_
  refine x_aload_n hC d_AckBookLaw_law_160 rfl (lv_at hl 1 rfl) ?_
  refine lv_iload hC.1 hC.2.1 d_AckBookLaw_law_161 (lv_at hl 5 rfl) ?_
  refine lv_iconst (v := (1 : Int32)) hC.1 hC.2.1 d_AckBookLaw_law_163 (by decide) ?_
  refine lv_iadd hC.1 hC.2.1 d_AckBookLaw_law_164 ?_
  refine x_scr hC hZ hX h d_AckBookLaw_law_165 (fun v30 h => ?_)
  refine x_aload_n hC d_AckBookLaw_law_166 rfl (lv_at hl 1 rfl) ?_
  refine lv_iload hC.1 hC.2.1 d_AckBookLaw_law_167 (lv_at hl 5 rfl) ?_
  refine lv_iconst (v := (2 : Int32)) hC.1 hC.2.1 d_AckBookLaw_law_169 (by decide) ?_
  refine lv_iadd hC.1 hC.2.1 d_AckBookLaw_law_170 ?_
  refine x_scr hC hZ hX h d_AckBookLaw_law_171 (fun v31 h => ?_)
  refine x_aload_n hC d_AckBookLaw_law_172 rfl (lv_at hl 1 rfl) ?_
  refine lv_iload hC.1 hC.2.1 d_AckBookLaw_law_173 (lv_at hl 5 rfl) ?_
  refine lv_iconst (v := (3 : Int32)) hC.1 hC.2.1 d_AckBookLaw_law_175 (by decide) ?_
  refine lv_iadd hC.1 hC.2.1 d_AckBookLaw_law_176 ?_
  refine x_scr hC hZ hX h d_AckBookLaw_law_177 (fun v32 h => ?_)
  refine lv_if_eq (tgt := 185) hC.1 hC.2.1 d_AckBookLaw_law_178 (by decide) (fun hc => ?_) (fun hc => ?_)
  · have h := z_ifp hc h
    refine lv_iconst (v := (0 : Int32)) hC.1 hC.2.1 d_AckBookLaw_law_185 (by decide) ?_
    exact kq_AckBookLaw_law_186 hT hfl hE hC hr hX hB hJ _ _ _ _ _ _ _ _ _ _ h _ _ _ _ _ hZ (lv_sub hl [1, 2, 3, 4, 5] rfl)
  · have h := z_ifn hc h
    refine lv_iconst (v := (1 : Int32)) hC.1 hC.2.1 d_AckBookLaw_law_181 (by decide) ?_
    refine lv_goto (tgt := 186) hC.1 hC.2.1 d_AckBookLaw_law_182 (by decide) ?_
    exact kq_AckBookLaw_law_186 hT hfl hE hC hr hX hB hJ _ _ _ _ _ _ _ _ _ _ h _ _ _ _ _ hZ (lv_sub hl [1, 2, 3, 4, 5] rfl)
def q_AckBookLaw_law_139 (F X : Nat) (xs : Nat → Int32) (L : Nat) (J : Option Nat → Option Nat → Option Nat → Int32 → zW → zR) (rL1 : Option Nat) (rL2 : Option Nat) (rL3 : Option Nat) (xL4 : Int32) (rS0 : Option Nat) (xS1 : Int32) (xS2 : Int32) (xS3 : Int32) (w : zW) : zR :=
  z_scr xs L (xL4 + (4 : Int32)) fun v33 =>
  if v33 = 0 then (
    q_AckBookLaw_law_153 F X xs L J rL1 rL2 rL3 xL4 rS0 xS1 xS2 xS3 (0 : Int32) w)
  else (
    q_AckBookLaw_law_153 F X xs L J rL1 rL2 rL3 xL4 rS0 xS1 xS2 xS3 (1 : Int32) w)
set_option maxHeartbeats 4000000 in
set_option maxRecDepth 100000 in
theorem kq_AckBookLaw_law_139 {b0 : Nat} {H0 : Heap} {D : va_G} {vu vs : Value} {X M : Nat} {l : Launch} (hT : z_TB (zGG b0 H0 D vu vs X M)) (hfl : l.flags = pinnedFlags ++ [noTraceFlag]) (hE : vu.isRef = true ∧ vs.isRef = true) {p : Program} {e : Env} {s : State} {m : MethodId} {below : List Frame} {meth : Method} {c : Code} {F bS L : Nat} {xs : Nat → Int32} (hC : z_C (zGG b0 H0 D vu vs X M) p e s m meth c code 8 R_law) (hr : meth.sig.returnType = ret) (hX : va_X bS L xs s H0 ∧ bS < b0) (hB : s.heap.size ≤ b0) {J : Option Nat → Option Nat → Option Nat → Int32 → zW → zR} (hJ : (∀ (rL1 : Option Nat) (rL2 : Option Nat) (rL3 : Option Nat) (xL4 : Int32) (w : zW) (wE : zW), J rL1 rL2 rL3 xL4 w = some (.inl (some (.int (1 : Int32))), wE) → ∀ (H : Heap) (locs : List Loc) (cells slots : Nat) (ls : Array Slot), z_Z (zGG b0 H0 D vu vs X M) room_1 s w H locs cells slots → lv_has ls 8 [(0, va_rf (some bS)), (1, va_rf rL1), (2, va_rf rL2), (3, va_rf rL3), (4, .int xL4)] → W p l e room_1 s m #[Value.ref bS] below meth c H locs cells slots (lw_Z below #[Value.ref bS] s) (F0 m 23 ls []))) (rL1 : Option Nat) (rL2 : Option Nat) (rL3 : Option Nat) (xL4 : Int32) (rS0 : Option Nat) (xS1 : Int32) (xS2 : Int32) (xS3 : Int32) (w : zW) (wE : zW) (h : q_AckBookLaw_law_139 F X xs L J rL1 rL2 rL3 xL4 rS0 xS1 xS2 xS3 w = some (.inl (some (.int (1 : Int32))), wE)) (H : Heap) (locs : List Loc) (cells slots : Nat) (ls : Array Slot) (hZ : z_Z (zGG b0 H0 D vu vs X M) room_1 s w H locs cells slots) (hl : lv_has ls 8 [(0, va_rf (some bS)), (1, va_rf rL1), (2, va_rf rL2), (3, va_rf rL3), (4, .int xL4)]) : W p l e room_1 s m #[Value.ref bS] below meth c H locs cells slots (lw_Z below #[Value.ref bS] s) (F0 m 139 ls [.int xS3, .int xS2, .int xS1, va_rf rS0]) := by
  have hRt : room_1.frames = 12 ∧ room_1.locals = 458 := ⟨rfl, rfl⟩
  unfold q_AckBookLaw_law_139 at h
  refine x_aload_n hC d_AckBookLaw_law_139 rfl (lv_at hl 0 rfl) ?_
  refine lv_iload hC.1 hC.2.1 d_AckBookLaw_law_140 (lv_at hl 4 rfl) ?_
  refine lv_iconst (v := (4 : Int32)) hC.1 hC.2.1 d_AckBookLaw_law_142 (by decide) ?_
  refine lv_iadd hC.1 hC.2.1 d_AckBookLaw_law_143 ?_
  refine x_scr hC hZ hX h d_AckBookLaw_law_144 (fun v33 h => ?_)
  refine lv_if_eq (tgt := 152) hC.1 hC.2.1 d_AckBookLaw_law_145 (by decide) (fun hc => ?_) (fun hc => ?_)
  · have h := z_ifp hc h
    refine lv_iconst (v := (0 : Int32)) hC.1 hC.2.1 d_AckBookLaw_law_152 (by decide) ?_
    exact kq_AckBookLaw_law_153 hT hfl hE hC hr hX hB hJ _ _ _ _ _ _ _ _ _ _ _ h _ _ _ _ _ hZ (lv_sub hl [0, 1, 2, 3, 4] rfl)
  · have h := z_ifn hc h
    refine lv_iconst (v := (1 : Int32)) hC.1 hC.2.1 d_AckBookLaw_law_148 (by decide) ?_
    refine lv_goto (tgt := 153) hC.1 hC.2.1 d_AckBookLaw_law_149 (by decide) ?_
    exact kq_AckBookLaw_law_153 hT hfl hE hC hr hX hB hJ _ _ _ _ _ _ _ _ _ _ _ h _ _ _ _ _ hZ (lv_sub hl [0, 1, 2, 3, 4] rfl)
def j_AckBookLaw_law (F X : Nat) (xs : Nat → Int32) (L : Nat) : Nat → Option Nat → Option Nat → Option Nat → Int32 → zW → zR
  | 0, _, _, _, _, _ => none
  | N + 1, rL1, rL2, rL3, xL4, w =>
    z_scl L fun v34 =>
    if (v34 - (5 : Int32)) < xL4 then (
      some (.inl (some (.int (1 : Int32))), w))
    else (
      z_scr xs L xL4 fun v35 =>
      if (v35 &&& (15 : Int32)) = (0 : Int32) then (
        z_scr xs L (xL4 + (1 : Int32)) fun v36 =>
        z_scr xs L (xL4 + (2 : Int32)) fun v37 =>
        z_scr xs L (xL4 + (3 : Int32)) fun v38 =>
        if v38 = 0 then (
          q_AckBookLaw_law_139 F X xs L (j_AckBookLaw_law F X xs L N) rL1 rL2 rL3 xL4 rL1 v36 v37 (0 : Int32) w)
        else (
          q_AckBookLaw_law_139 F X xs L (j_AckBookLaw_law F X xs L N) rL1 rL2 rL3 xL4 rL1 v36 v37 (1 : Int32) w))
      else if (v35 &&& (15 : Int32)) = (1 : Int32) then (
        z_scr xs L (xL4 + (1 : Int32)) fun v39 =>
        z_scr xs L (xL4 + (2 : Int32)) fun v40 =>
        z_scr xs L (xL4 + (3 : Int32)) fun v41 =>
        z_scr xs L (xL4 + (4 : Int32)) fun v42 =>
        z_cI (f_AckBookLaw_span F X rL1 ((v39.toInt64 <<< ((32 : Int32).toInt64 &&& 63)) ||| (v40.toInt64 &&& (4294967295 : Int64))) ((v41.toInt64 <<< ((32 : Int32).toInt64 &&& 63)) ||| (v42.toInt64 &&& (4294967295 : Int64))) rL3 w) fun v44 w =>
        z_scr xs L (xL4 + (1 : Int32)) fun v45 =>
        z_scr xs L (xL4 + (2 : Int32)) fun v46 =>
        z_scr xs L (xL4 + (3 : Int32)) fun v47 =>
        z_scr xs L (xL4 + (4 : Int32)) fun v48 =>
        z_this w 10 rL2 <|
        z_cI (f_AckBookModel_span F X rL2 ((v45.toInt64 <<< ((32 : Int32).toInt64 &&& 63)) ||| (v46.toInt64 &&& (4294967295 : Int64))) ((v47.toInt64 <<< ((32 : Int32).toInt64 &&& 63)) ||| (v48.toInt64 &&& (4294967295 : Int64))) w) fun v50 w =>
        (j_AckBookLaw_law F X xs L N) rL1 rL2 rL3 (xL4 + (5 : Int32)) w)
      else if (v35 &&& (15 : Int32)) = (2 : Int32) then (
        z_scr xs L (xL4 + (1 : Int32)) fun v51 =>
        z_scr xs L (xL4 + (2 : Int32)) fun v52 =>
        z_cI (f_AckBookLaw_acknowledge F X rL1 v51 v52 rL3 w) fun v54 w =>
        z_scr xs L (xL4 + (1 : Int32)) fun v55 =>
        z_scr xs L (xL4 + (2 : Int32)) fun v56 =>
        z_this w 10 rL2 <|
        z_cI (f_AckBookModel_acknowledge F X rL2 v55 v56 w) fun v58 w =>
        z_this w 10 rL2 <|
        z_cI (f_AckBookModel_thrown F X rL2 w) fun v60 w =>
        if v60 = v54 then (
          if v54 = 0 then (
            z_ldL w rL3 (0 : Int32) fun v61 =>
            if (lg_cmp v61 v58.toInt64) = 0 then (
              (j_AckBookLaw_law F X xs L N) rL1 rL2 rL3 (xL4 + (5 : Int32)) w)
            else (
              some (.inl (some (.int (0 : Int32))), w)))
          else (
            (j_AckBookLaw_law F X xs L N) rL1 rL2 rL3 (xL4 + (5 : Int32)) w))
        else (
          some (.inl (some (.int (0 : Int32))), w)))
      else if (v35 &&& (15 : Int32)) = (3 : Int32) then (
        z_this w 0 rL1 <|
        z_cI (f_AckBook_tick F X rL1 w) fun v63 w =>
        z_this w 10 rL2 <|
        z_cI (f_AckBookModel_tick F X rL2 w) fun v65 w =>
        (j_AckBookLaw_law F X xs L N) rL1 rL2 rL3 (xL4 + (5 : Int32)) w)
      else if (v35 &&& (15 : Int32)) = (4 : Int32) then (
        z_scr xs L (xL4 + (1 : Int32)) fun v66 =>
        z_cI (f_AckBookLaw_discard F X rL1 v66 w) fun v68 w =>
        z_scr xs L (xL4 + (1 : Int32)) fun v69 =>
        z_this w 10 rL2 <|
        z_cV (f_AckBookModel_discard F X rL2 v69 w) fun w =>
        (j_AckBookLaw_law F X xs L N) rL1 rL2 rL3 (xL4 + (5 : Int32)) w)
      else if (v35 &&& (15 : Int32)) = (5 : Int32) then (
        z_this w 0 rL1 <|
        z_cV (f_AckBook_confirm F X rL1 w) fun w =>
        z_this w 10 rL2 <|
        z_cV (f_AckBookModel_confirm F X rL2 w) fun w =>
        (j_AckBookLaw_law F X xs L N) rL1 rL2 rL3 (xL4 + (5 : Int32)) w)
      else if (v35 &&& (15 : Int32)) = (6 : Int32) then (
        z_scr xs L (xL4 + (1 : Int32)) fun v73 =>
        if v73 = 0 then (
          q_AckBookLaw_law_444 F X xs L (j_AckBookLaw_law F X xs L N) rL1 rL2 rL3 xL4 rL1 (0 : Int32) w)
        else (
          q_AckBookLaw_law_444 F X xs L (j_AckBookLaw_law F X xs L N) rL1 rL2 rL3 xL4 rL1 (1 : Int32) w))
      else if (v35 &&& (15 : Int32)) = (7 : Int32) then (
        z_scr xs L (xL4 + (1 : Int32)) fun v74 =>
        z_scr xs L (xL4 + (2 : Int32)) fun v75 =>
        if v75 = 0 then (
          q_AckBookLaw_law_489 F X xs L (j_AckBookLaw_law F X xs L N) rL1 rL2 rL3 xL4 rL1 v74 (0 : Int32) w)
        else (
          q_AckBookLaw_law_489 F X xs L (j_AckBookLaw_law F X xs L N) rL1 rL2 rL3 xL4 rL1 v74 (1 : Int32) w))
      else if (v35 &&& (15 : Int32)) = (8 : Int32) then (
        z_scr xs L (xL4 + (1 : Int32)) fun v76 =>
        z_scr xs L (xL4 + (2 : Int32)) fun v77 =>
        z_cI (f_AckBookLaw_state F X rL1 v76 v77 rL3 w) fun v79 w =>
        z_scr xs L (xL4 + (1 : Int32)) fun v80 =>
        z_scr xs L (xL4 + (2 : Int32)) fun v81 =>
        z_this w 10 rL2 <|
        z_cI (f_AckBookModel_state F X rL2 v80 v81 w) fun v83 w =>
        (j_AckBookLaw_law F X xs L N) rL1 rL2 rL3 (xL4 + (5 : Int32)) w)
      else if (v35 &&& (15 : Int32)) = (9 : Int32) then (
        z_scr xs L (xL4 + (1 : Int32)) fun v84 =>
        z_scr xs L (xL4 + (2 : Int32)) fun v85 =>
        z_scr xs L (xL4 + (3 : Int32)) fun v86 =>
        z_scr xs L (xL4 + (4 : Int32)) fun v87 =>
        if v87 = 0 then (
          q_AckBookLaw_law_607 F X xs L (j_AckBookLaw_law F X xs L N) rL1 rL2 rL3 xL4 rL1 v84 ((v85.toInt64 <<< ((32 : Int32).toInt64 &&& 63)) ||| (v86.toInt64 &&& (4294967295 : Int64))) (0 : Int32) w)
        else (
          q_AckBookLaw_law_607 F X xs L (j_AckBookLaw_law F X xs L N) rL1 rL2 rL3 xL4 rL1 v84 ((v85.toInt64 <<< ((32 : Int32).toInt64 &&& 63)) ||| (v86.toInt64 &&& (4294967295 : Int64))) (1 : Int32) w))
      else if (v35 &&& (15 : Int32)) = (10 : Int32) then (
        z_scr xs L (xL4 + (1 : Int32)) fun v88 =>
        z_cI (f_AckBookLaw_due F X rL1 v88 rL3 w) fun v90 w =>
        z_scr xs L (xL4 + (1 : Int32)) fun v91 =>
        z_this w 10 rL2 <|
        z_cI (f_AckBookModel_due F X rL2 v91 w) fun v93 w =>
        (j_AckBookLaw_law F X xs L N) rL1 rL2 rL3 (xL4 + (5 : Int32)) w)
      else if (v35 &&& (15 : Int32)) = (11 : Int32) then (
        z_scr xs L (xL4 + (1 : Int32)) fun v94 =>
        z_cI (f_AckBookLaw_written F X rL1 v94 rL3 w) fun v96 w =>
        z_scr xs L (xL4 + (1 : Int32)) fun v97 =>
        z_this w 10 rL2 <|
        z_cI (f_AckBookModel_written F X rL2 v97 w) fun v99 w =>
        (j_AckBookLaw_law F X xs L N) rL1 rL2 rL3 (xL4 + (5 : Int32)) w)
      else if (v35 &&& (15 : Int32)) = (12 : Int32) then (
        z_scr xs L (xL4 + (1 : Int32)) fun v100 =>
        z_scr xs L (xL4 + (2 : Int32)) fun v101 =>
        z_scr xs L (xL4 + (3 : Int32)) fun v102 =>
        if v102 = 0 then (
          q_AckBookLaw_law_747 F X xs L (j_AckBookLaw_law F X xs L N) rL1 rL2 rL3 xL4 rL1 v100 v101 (0 : Int32) w)
        else (
          q_AckBookLaw_law_747 F X xs L (j_AckBookLaw_law F X xs L N) rL1 rL2 rL3 xL4 rL1 v100 v101 (1 : Int32) w))
      else if (v35 &&& (15 : Int32)) = (13 : Int32) then (
        z_scr xs L (xL4 + (1 : Int32)) fun v103 =>
        z_cI (f_AckBookLaw_look F X rL1 v103 rL3 w) fun v105 w =>
        z_scr xs L (xL4 + (1 : Int32)) fun v106 =>
        z_this w 10 rL2 <|
        z_cI (f_AckBookModel_look F X rL2 v106 w) fun v108 w =>
        (j_AckBookLaw_law F X xs L N) rL1 rL2 rL3 (xL4 + (5 : Int32)) w)
      else if (v35 &&& (15 : Int32)) = (14 : Int32) then (
        z_scr xs L (xL4 + (1 : Int32)) fun v109 =>
        z_scr xs L (xL4 + (2 : Int32)) fun v110 =>
        z_cI (f_AckBookLaw_space F X rL1 v109 v110 rL3 w) fun v112 w =>
        z_scr xs L (xL4 + (1 : Int32)) fun v113 =>
        z_scr xs L (xL4 + (2 : Int32)) fun v114 =>
        z_this w 10 rL2 <|
        z_cL (f_AckBookModel_space F X rL2 v113 v114 w) fun v116 w =>
        (j_AckBookLaw_law F X xs L N) rL1 rL2 rL3 (xL4 + (5 : Int32)) w)
      else (
        (j_AckBookLaw_law F X xs L N) rL1 rL2 rL3 (xL4 + (5 : Int32)) w))
set_option maxHeartbeats 4000000 in
set_option maxRecDepth 100000 in
theorem kj_AckBookLaw_law {b0 : Nat} {H0 : Heap} {D : va_G} {vu vs : Value} {X M : Nat} {l : Launch} (hT : z_TB (zGG b0 H0 D vu vs X M)) (hfl : l.flags = pinnedFlags ++ [noTraceFlag]) (hE : vu.isRef = true ∧ vs.isRef = true) {p : Program} {e : Env} {s : State} {m : MethodId} {below : List Frame} {meth : Method} {c : Code} {F bS L : Nat} {xs : Nat → Int32} (hC : z_C (zGG b0 H0 D vu vs X M) p e s m meth c code 8 R_law) (hr : meth.sig.returnType = ret) (hX : va_X bS L xs s H0 ∧ bS < b0) (hB : s.heap.size ≤ b0) : ∀ N : Nat, (∀ (rL1 : Option Nat) (rL2 : Option Nat) (rL3 : Option Nat) (xL4 : Int32) (w : zW) (wE : zW), j_AckBookLaw_law F X xs L N rL1 rL2 rL3 xL4 w = some (.inl (some (.int (1 : Int32))), wE) → ∀ (H : Heap) (locs : List Loc) (cells slots : Nat) (ls : Array Slot), z_Z (zGG b0 H0 D vu vs X M) room_1 s w H locs cells slots → lv_has ls 8 [(0, va_rf (some bS)), (1, va_rf rL1), (2, va_rf rL2), (3, va_rf rL3), (4, .int xL4)] → W p l e room_1 s m #[Value.ref bS] below meth c H locs cells slots (lw_Z below #[Value.ref bS] s) (F0 m 23 ls [])) := by
  have hRt : room_1.frames = 12 ∧ room_1.locals = 458 := ⟨rfl, rfl⟩
  intro N
  induction N with
  | zero =>
    intro rL1 rL2 rL3 xL4 w wE h
    rw [j_AckBookLaw_law] at h
    cases h
  | succ N ih =>
    intro rL1 rL2 rL3 xL4 w wE h H locs cells slots ls hZ hl
    rw [j_AckBookLaw_law] at h
    refine lv_iload hC.1 hC.2.1 d_AckBookLaw_law_23 (lv_at hl 4 rfl) ?_
    refine x_aload_n hC d_AckBookLaw_law_25 rfl (lv_at hl 0 rfl) ?_
    refine x_scl hC hZ hX h d_AckBookLaw_law_26 (fun v34 h => ?_)
    refine lv_iconst (v := (5 : Int32)) hC.1 hC.2.1 d_AckBookLaw_law_27 (by decide) ?_
    refine lv_isub hC.1 hC.2.1 d_AckBookLaw_law_28 ?_
    refine lv_icmp_gt (tgt := 862) hC.1 hC.2.1 d_AckBookLaw_law_29 (by decide) (fun hc => ?_) (fun hc => ?_)
    · have h := z_ifp hc h
      refine lv_iconst (v := (1 : Int32)) hC.1 hC.2.1 d_AckBookLaw_law_862 (by decide) ?_
      exact x_lawE hC hr hZ hB d_AckBookLaw_law_863
    · have h := z_ifn hc h
      refine x_aload_n hC d_AckBookLaw_law_32 rfl (lv_at hl 0 rfl) ?_
      refine lv_iload hC.1 hC.2.1 d_AckBookLaw_law_33 (lv_at hl 4 rfl) ?_
      refine x_scr hC hZ hX h d_AckBookLaw_law_35 (fun v35 h => ?_)
      refine lv_bipush (v := (15 : Int32)) hC.1 hC.2.1 d_AckBookLaw_law_36 (by decide) ?_
      refine lv_iand hC.1 hC.2.1 d_AckBookLaw_law_38 ?_
      by_cases hc0 : (v35 &&& (15 : Int32)) = (0 : Int32)
      · have h := z_ifp hc0 h
        refine lv_tableIn (tgt := 112) hC.1 hC.2.1 d_AckBookLaw_law_39 (by rw [hc0]; decide) (by rw [hc0]; decide) (by rw [hc0]; rfl) (by decide) ?_
        refine x_aload_n hC d_AckBookLaw_law_112 rfl (lv_at hl 1 rfl) ?_
        refine x_aload_n hC d_AckBookLaw_law_113 rfl (lv_at hl 0 rfl) ?_
        refine lv_iload hC.1 hC.2.1 d_AckBookLaw_law_114 (lv_at hl 4 rfl) ?_
        refine lv_iconst (v := (1 : Int32)) hC.1 hC.2.1 d_AckBookLaw_law_116 (by decide) ?_
        refine lv_iadd hC.1 hC.2.1 d_AckBookLaw_law_117 ?_
        refine x_scr hC hZ hX h d_AckBookLaw_law_118 (fun v36 h => ?_)
        refine x_aload_n hC d_AckBookLaw_law_119 rfl (lv_at hl 0 rfl) ?_
        refine lv_iload hC.1 hC.2.1 d_AckBookLaw_law_120 (lv_at hl 4 rfl) ?_
        refine lv_iconst (v := (2 : Int32)) hC.1 hC.2.1 d_AckBookLaw_law_122 (by decide) ?_
        refine lv_iadd hC.1 hC.2.1 d_AckBookLaw_law_123 ?_
        refine x_scr hC hZ hX h d_AckBookLaw_law_124 (fun v37 h => ?_)
        refine x_aload_n hC d_AckBookLaw_law_125 rfl (lv_at hl 0 rfl) ?_
        refine lv_iload hC.1 hC.2.1 d_AckBookLaw_law_126 (lv_at hl 4 rfl) ?_
        refine lv_iconst (v := (3 : Int32)) hC.1 hC.2.1 d_AckBookLaw_law_128 (by decide) ?_
        refine lv_iadd hC.1 hC.2.1 d_AckBookLaw_law_129 ?_
        refine x_scr hC hZ hX h d_AckBookLaw_law_130 (fun v38 h => ?_)
        refine lv_if_eq (tgt := 138) hC.1 hC.2.1 d_AckBookLaw_law_131 (by decide) (fun hc => ?_) (fun hc => ?_)
        · have h := z_ifp hc h
          refine lv_iconst (v := (0 : Int32)) hC.1 hC.2.1 d_AckBookLaw_law_138 (by decide) ?_
          exact kq_AckBookLaw_law_139 hT hfl hE hC hr hX hB ih _ _ _ _ _ _ _ _ _ _ h _ _ _ _ _ hZ (lv_sub hl [0, 1, 2, 3, 4] rfl)
        · have h := z_ifn hc h
          refine lv_iconst (v := (1 : Int32)) hC.1 hC.2.1 d_AckBookLaw_law_134 (by decide) ?_
          refine lv_goto (tgt := 139) hC.1 hC.2.1 d_AckBookLaw_law_135 (by decide) ?_
          exact kq_AckBookLaw_law_139 hT hfl hE hC hr hX hB ih _ _ _ _ _ _ _ _ _ _ h _ _ _ _ _ hZ (lv_sub hl [0, 1, 2, 3, 4] rfl)
      have h := z_ifn hc0 h
      by_cases hc1 : (v35 &&& (15 : Int32)) = (1 : Int32)
      · have h := z_ifp hc1 h
        refine lv_tableIn (tgt := 208) hC.1 hC.2.1 d_AckBookLaw_law_39 (by rw [hc1]; decide) (by rw [hc1]; decide) (by rw [hc1]; rfl) (by decide) ?_
        refine x_aload_n hC d_AckBookLaw_law_208 rfl (lv_at hl 1 rfl) ?_
        refine x_aload_n hC d_AckBookLaw_law_209 rfl (lv_at hl 0 rfl) ?_
        refine lv_iload hC.1 hC.2.1 d_AckBookLaw_law_210 (lv_at hl 4 rfl) ?_
        refine lv_iconst (v := (1 : Int32)) hC.1 hC.2.1 d_AckBookLaw_law_212 (by decide) ?_
        refine lv_iadd hC.1 hC.2.1 d_AckBookLaw_law_213 ?_
        refine x_scr hC hZ hX h d_AckBookLaw_law_214 (fun v39 h => ?_)
        refine lv_i2l hC.1 hC.2.1 d_AckBookLaw_law_215 rfl ?_
        refine lv_bipush (v := (32 : Int32)) hC.1 hC.2.1 d_AckBookLaw_law_216 (by decide) ?_
        refine lv_lshl hC.1 hC.2.1 d_AckBookLaw_law_218 rfl ?_
        refine x_aload_n hC d_AckBookLaw_law_219 rfl (lv_at hl 0 rfl) ?_
        refine lv_iload hC.1 hC.2.1 d_AckBookLaw_law_220 (lv_at hl 4 rfl) ?_
        refine lv_iconst (v := (2 : Int32)) hC.1 hC.2.1 d_AckBookLaw_law_222 (by decide) ?_
        refine lv_iadd hC.1 hC.2.1 d_AckBookLaw_law_223 ?_
        refine x_scr hC hZ hX h d_AckBookLaw_law_224 (fun v40 h => ?_)
        refine lv_i2l hC.1 hC.2.1 d_AckBookLaw_law_225 rfl ?_
        refine lv_ldc2 (v := (4294967295 : Int64)) hC.1 hC.2.1 hC.2.2.2.1 ((hZ.1.tb hC.2.2.2.2.2.2 #[Value.ref bS]) _ t_1090) d_AckBookLaw_law_226 ?_
        refine lv_land hC.1 hC.2.1 d_AckBookLaw_law_229 ?_
        refine lv_lor hC.1 hC.2.1 d_AckBookLaw_law_230 ?_
        refine x_aload_n hC d_AckBookLaw_law_231 rfl (lv_at hl 0 rfl) ?_
        refine lv_iload hC.1 hC.2.1 d_AckBookLaw_law_232 (lv_at hl 4 rfl) ?_
        refine lv_iconst (v := (3 : Int32)) hC.1 hC.2.1 d_AckBookLaw_law_234 (by decide) ?_
        refine lv_iadd hC.1 hC.2.1 d_AckBookLaw_law_235 ?_
        refine x_scr hC hZ hX h d_AckBookLaw_law_236 (fun v41 h => ?_)
        refine lv_i2l hC.1 hC.2.1 d_AckBookLaw_law_237 rfl ?_
        refine lv_bipush (v := (32 : Int32)) hC.1 hC.2.1 d_AckBookLaw_law_238 (by decide) ?_
        refine lv_lshl hC.1 hC.2.1 d_AckBookLaw_law_240 rfl ?_
        refine x_aload_n hC d_AckBookLaw_law_241 rfl (lv_at hl 0 rfl) ?_
        refine lv_iload hC.1 hC.2.1 d_AckBookLaw_law_242 (lv_at hl 4 rfl) ?_
        refine lv_iconst (v := (4 : Int32)) hC.1 hC.2.1 d_AckBookLaw_law_244 (by decide) ?_
        refine lv_iadd hC.1 hC.2.1 d_AckBookLaw_law_245 ?_
        refine x_scr hC hZ hX h d_AckBookLaw_law_246 (fun v42 h => ?_)
        refine lv_i2l hC.1 hC.2.1 d_AckBookLaw_law_247 rfl ?_
        refine lv_ldc2 (v := (4294967295 : Int64)) hC.1 hC.2.1 hC.2.2.2.1 ((hZ.1.tb hC.2.2.2.2.2.2 #[Value.ref bS]) _ t_1090) d_AckBookLaw_law_248 ?_
        refine lv_land hC.1 hC.2.1 d_AckBookLaw_law_251 ?_
        refine lv_lor hC.1 hC.2.1 d_AckBookLaw_law_252 ?_
        refine x_aload_n hC d_AckBookLaw_law_253 rfl (lv_at hl 3 rfl) ?_
        obtain ⟨w1_, o1_, hF_, ha_⟩ := z_cI_spec h
        refine x_goesN ha_ (z_goSW (As := [va_rf rL1, .long ((v39.toInt64 <<< ((32 : Int32).toInt64 &&& 63)) ||| (v40.toInt64 &&& (4294967295 : Int64))), .long ((v41.toInt64 <<< ((32 : Int32).toInt64 &&& 63)) ||| (v42.toInt64 &&& (4294967295 : Int64))), va_rf rL3]) hC hZ (k_AckBookLaw_span hT hfl hE _ _ hF_) t_589 t_590 t_0 t_591 ⟨by decide, by decide, (by decide +kernel : (parseMethodDescriptor y_AckBookLaw_span.desc).map (fun d => d.parameters.length) = some 4)⟩ (by rw [hRt.1]; decide) (by rw [hRt.2]; decide) hl.1 rfl (by first | exact Nat.le_of_ble_eq_true rfl | simp [z_rfc, z_ci, z_cj]) d_AckBookLaw_law_254) (fun v_ hv H locs cells slots hZ => ?_)
        obtain ⟨v44, rfl, h⟩ := hv
        generalize w1_ = w at h hZ
        refine lv_istore (i := 5) (lv' := [(5, .int v44), (0, va_rf (some bS)), (1, va_rf rL1), (2, va_rf rL2), (3, va_rf rL3), (4, .int xL4)]) hC.1 hC.2.1 d_AckBookLaw_law_257 hl (by decide) (by first | rfl | simp [z_rfc, z_ci, z_cj]) (fun ls hl => ?_)
        refine x_aload_n hC d_AckBookLaw_law_259 rfl (lv_at hl 3 rfl) ?_
        refine x_aload_n hC d_AckBookLaw_law_260 rfl (lv_at hl 1 rfl) ?_
        refine lv_iload hC.1 hC.2.1 d_AckBookLaw_law_261 (lv_at hl 5 rfl) ?_
        refine lv_iconst (v := (1 : Int32)) hC.1 hC.2.1 d_AckBookLaw_law_263 (by decide) ?_
        refine lv_iadd hC.1 hC.2.1 d_AckBookLaw_law_264 ?_
        refine x_scr hC hZ hX h d_AckBookLaw_law_265 (fun v45 h => ?_)
        refine lv_i2l hC.1 hC.2.1 d_AckBookLaw_law_266 rfl ?_
        refine lv_bipush (v := (32 : Int32)) hC.1 hC.2.1 d_AckBookLaw_law_267 (by decide) ?_
        refine lv_lshl hC.1 hC.2.1 d_AckBookLaw_law_269 rfl ?_
        refine x_aload_n hC d_AckBookLaw_law_270 rfl (lv_at hl 1 rfl) ?_
        refine lv_iload hC.1 hC.2.1 d_AckBookLaw_law_271 (lv_at hl 5 rfl) ?_
        refine lv_iconst (v := (2 : Int32)) hC.1 hC.2.1 d_AckBookLaw_law_273 (by decide) ?_
        refine lv_iadd hC.1 hC.2.1 d_AckBookLaw_law_274 ?_
        refine x_scr hC hZ hX h d_AckBookLaw_law_275 (fun v46 h => ?_)
        refine lv_i2l hC.1 hC.2.1 d_AckBookLaw_law_276 rfl ?_
        refine lv_ldc2 (v := (4294967295 : Int64)) hC.1 hC.2.1 hC.2.2.2.1 ((hZ.1.tb hC.2.2.2.2.2.2 #[Value.ref bS]) _ t_1090) d_AckBookLaw_law_277 ?_
        refine lv_land hC.1 hC.2.1 d_AckBookLaw_law_280 ?_
        refine lv_lor hC.1 hC.2.1 d_AckBookLaw_law_281 ?_
        refine x_aload_n hC d_AckBookLaw_law_282 rfl (lv_at hl 1 rfl) ?_
        refine lv_iload hC.1 hC.2.1 d_AckBookLaw_law_283 (lv_at hl 5 rfl) ?_
        refine lv_iconst (v := (3 : Int32)) hC.1 hC.2.1 d_AckBookLaw_law_285 (by decide) ?_
        refine lv_iadd hC.1 hC.2.1 d_AckBookLaw_law_286 ?_
        refine x_scr hC hZ hX h d_AckBookLaw_law_287 (fun v47 h => ?_)
        refine lv_i2l hC.1 hC.2.1 d_AckBookLaw_law_288 rfl ?_
        refine lv_bipush (v := (32 : Int32)) hC.1 hC.2.1 d_AckBookLaw_law_289 (by decide) ?_
        refine lv_lshl hC.1 hC.2.1 d_AckBookLaw_law_291 rfl ?_
        refine x_aload_n hC d_AckBookLaw_law_292 rfl (lv_at hl 1 rfl) ?_
        refine lv_iload hC.1 hC.2.1 d_AckBookLaw_law_293 (lv_at hl 5 rfl) ?_
        refine lv_iconst (v := (4 : Int32)) hC.1 hC.2.1 d_AckBookLaw_law_295 (by decide) ?_
        refine lv_iadd hC.1 hC.2.1 d_AckBookLaw_law_296 ?_
        refine x_scr hC hZ hX h d_AckBookLaw_law_297 (fun v48 h => ?_)
        refine lv_i2l hC.1 hC.2.1 d_AckBookLaw_law_298 rfl ?_
        refine lv_ldc2 (v := (4294967295 : Int64)) hC.1 hC.2.1 hC.2.2.2.1 ((hZ.1.tb hC.2.2.2.2.2.2 #[Value.ref bS]) _ t_1090) d_AckBookLaw_law_299 ?_
        refine lv_land hC.1 hC.2.1 d_AckBookLaw_law_302 ?_
        refine lv_lor hC.1 hC.2.1 d_AckBookLaw_law_303 ?_
        obtain ⟨a_, fs_, eo_, h⟩ := z_this_spec h
        obtain ⟨w1_, o1_, hF_, ha_⟩ := z_cI_spec h
        refine x_goesN ha_ (z_goV (As := [.long ((v45.toInt64 <<< ((32 : Int32).toInt64 &&& 63)) ||| (v46.toInt64 &&& (4294967295 : Int64))), .long ((v47.toInt64 <<< ((32 : Int32).toInt64 &&& 63)) ||| (v48.toInt64 &&& (4294967295 : Int64)))]) hC hZ zc10 eo_ (k_AckBookModel_span hT hfl hE _ _ hF_) t_959 t_960 t_961 t_12 t_962 ⟨by decide, by decide, (by decide +kernel : (parseMethodDescriptor y_AckBookModel_span.desc).map (fun d => d.parameters.length) = some 2)⟩ (by rw [hRt.1]; decide) (by rw [hRt.2]; decide) hl.1 rfl (by first | exact Nat.le_of_ble_eq_true rfl | simp [z_rfc, z_ci, z_cj]) d_AckBookLaw_law_304) (fun v_ hv H locs cells slots hZ => ?_)
        obtain ⟨v50, rfl, h⟩ := hv
        generalize w1_ = w at h hZ
        refine lv_istore (i := 6) (lv' := [(6, .int v50), (5, .int v44), (0, va_rf (some bS)), (1, va_rf rL1), (2, va_rf rL2), (3, va_rf rL3), (4, .int xL4)]) hC.1 hC.2.1 d_AckBookLaw_law_307 hl (by decide) (by first | rfl | simp [z_rfc, z_ci, z_cj]) (fun ls hl => ?_)
        refine lv_goto (tgt := 856) hC.1 hC.2.1 d_AckBookLaw_law_309 (by decide) ?_
        refine lv_iinc (lv' := [(4, .int (xL4 + (5 : Int32))), (6, .int v50), (5, .int v44), (0, va_rf (some bS)), (1, va_rf rL1), (2, va_rf rL2), (3, va_rf rL3)]) hC.1 hC.2.1 d_AckBookLaw_law_856 hl (k := 6) rfl rfl (by decide) (by first | rfl | simp [z_rfc, z_ci, z_cj]) (fun ls hl => ?_)
        refine lv_goto (tgt := 23) hC.1 hC.2.1 d_AckBookLaw_law_859 (by decide) ?_
        exact ih _ _ _ _ _ _ h _ _ _ _ _ hZ (lv_sub hl [3, 4, 5, 6, 0] rfl)
      have h := z_ifn hc1 h
      by_cases hc2 : (v35 &&& (15 : Int32)) = (2 : Int32)
      · have h := z_ifp hc2 h
        refine lv_tableIn (tgt := 312) hC.1 hC.2.1 d_AckBookLaw_law_39 (by rw [hc2]; decide) (by rw [hc2]; decide) (by rw [hc2]; rfl) (by decide) ?_
        refine x_aload_n hC d_AckBookLaw_law_312 rfl (lv_at hl 1 rfl) ?_
        refine x_aload_n hC d_AckBookLaw_law_313 rfl (lv_at hl 0 rfl) ?_
        refine lv_iload hC.1 hC.2.1 d_AckBookLaw_law_314 (lv_at hl 4 rfl) ?_
        refine lv_iconst (v := (1 : Int32)) hC.1 hC.2.1 d_AckBookLaw_law_316 (by decide) ?_
        refine lv_iadd hC.1 hC.2.1 d_AckBookLaw_law_317 ?_
        refine x_scr hC hZ hX h d_AckBookLaw_law_318 (fun v51 h => ?_)
        refine x_aload_n hC d_AckBookLaw_law_319 rfl (lv_at hl 0 rfl) ?_
        refine lv_iload hC.1 hC.2.1 d_AckBookLaw_law_320 (lv_at hl 4 rfl) ?_
        refine lv_iconst (v := (2 : Int32)) hC.1 hC.2.1 d_AckBookLaw_law_322 (by decide) ?_
        refine lv_iadd hC.1 hC.2.1 d_AckBookLaw_law_323 ?_
        refine x_scr hC hZ hX h d_AckBookLaw_law_324 (fun v52 h => ?_)
        refine x_aload_n hC d_AckBookLaw_law_325 rfl (lv_at hl 3 rfl) ?_
        obtain ⟨w1_, o1_, hF_, ha_⟩ := z_cI_spec h
        refine x_goesN ha_ (z_goSW (As := [va_rf rL1, .int v51, .int v52, va_rf rL3]) hC hZ (k_AckBookLaw_acknowledge hT hfl hE _ _ hF_) t_611 t_612 t_0 t_613 ⟨by decide, by decide, (by decide +kernel : (parseMethodDescriptor y_AckBookLaw_acknowledge.desc).map (fun d => d.parameters.length) = some 4)⟩ (by rw [hRt.1]; decide) (by rw [hRt.2]; decide) hl.1 rfl (by first | exact Nat.le_of_ble_eq_true rfl | simp [z_rfc, z_ci, z_cj]) d_AckBookLaw_law_326) (fun v_ hv H locs cells slots hZ => ?_)
        obtain ⟨v54, rfl, h⟩ := hv
        generalize w1_ = w at h hZ
        refine lv_istore (i := 5) (lv' := [(5, .int v54), (0, va_rf (some bS)), (1, va_rf rL1), (2, va_rf rL2), (3, va_rf rL3), (4, .int xL4)]) hC.1 hC.2.1 d_AckBookLaw_law_329 hl (by decide) (by first | rfl | simp [z_rfc, z_ci, z_cj]) (fun ls hl => ?_)
        refine x_aload_n hC d_AckBookLaw_law_331 rfl (lv_at hl 3 rfl) ?_
        refine x_aload_n hC d_AckBookLaw_law_332 rfl (lv_at hl 1 rfl) ?_
        refine lv_iload hC.1 hC.2.1 d_AckBookLaw_law_333 (lv_at hl 5 rfl) ?_
        refine lv_iconst (v := (1 : Int32)) hC.1 hC.2.1 d_AckBookLaw_law_335 (by decide) ?_
        refine lv_iadd hC.1 hC.2.1 d_AckBookLaw_law_336 ?_
        refine x_scr hC hZ hX h d_AckBookLaw_law_337 (fun v55 h => ?_)
        refine x_aload_n hC d_AckBookLaw_law_338 rfl (lv_at hl 1 rfl) ?_
        refine lv_iload hC.1 hC.2.1 d_AckBookLaw_law_339 (lv_at hl 5 rfl) ?_
        refine lv_iconst (v := (2 : Int32)) hC.1 hC.2.1 d_AckBookLaw_law_341 (by decide) ?_
        refine lv_iadd hC.1 hC.2.1 d_AckBookLaw_law_342 ?_
        refine x_scr hC hZ hX h d_AckBookLaw_law_343 (fun v56 h => ?_)
        obtain ⟨a_, fs_, eo_, h⟩ := z_this_spec h
        obtain ⟨w1_, o1_, hF_, ha_⟩ := z_cI_spec h
        refine x_goesN ha_ (z_goV (As := [.int v55, .int v56]) hC hZ zc10 eo_ (k_AckBookModel_acknowledge hT hfl hE _ _ hF_) t_964 t_965 t_966 t_12 t_967 ⟨by decide, by decide, (by decide +kernel : (parseMethodDescriptor y_AckBookModel_acknowledge.desc).map (fun d => d.parameters.length) = some 2)⟩ (by rw [hRt.1]; decide) (by rw [hRt.2]; decide) hl.1 rfl (by first | exact Nat.le_of_ble_eq_true rfl | simp [z_rfc, z_ci, z_cj]) d_AckBookLaw_law_344) (fun v_ hv H locs cells slots hZ => ?_)
        obtain ⟨v58, rfl, h⟩ := hv
        generalize w1_ = w at h hZ
        refine lv_istore (i := 6) (lv' := [(6, .int v58), (5, .int v54), (0, va_rf (some bS)), (1, va_rf rL1), (2, va_rf rL2), (3, va_rf rL3), (4, .int xL4)]) hC.1 hC.2.1 d_AckBookLaw_law_347 hl (by decide) (by first | rfl | simp [z_rfc, z_ci, z_cj]) (fun ls hl => ?_)
        refine x_aload_n hC d_AckBookLaw_law_349 rfl (lv_at hl 4 rfl) ?_
        obtain ⟨a_, fs_, eo_, h⟩ := z_this_spec h
        obtain ⟨w1_, o1_, hF_, ha_⟩ := z_cI_spec h
        refine x_goesN ha_ (z_goV (As := []) hC hZ zc10 eo_ (k_AckBookModel_thrown hT hfl hE _ _ hF_) t_936 t_937 t_938 t_12 t_939 ⟨by decide, by decide, (by decide +kernel : (parseMethodDescriptor y_AckBookModel_thrown.desc).map (fun d => d.parameters.length) = some 0)⟩ (by rw [hRt.1]; decide) (by rw [hRt.2]; decide) hl.1 rfl (by first | exact Nat.le_of_ble_eq_true rfl | simp [z_rfc, z_ci, z_cj]) d_AckBookLaw_law_350) (fun v_ hv H locs cells slots hZ => ?_)
        obtain ⟨v60, rfl, h⟩ := hv
        generalize w1_ = w at h hZ
        refine lv_iload hC.1 hC.2.1 d_AckBookLaw_law_353 (lv_at hl 1 rfl) ?_
        refine lv_icmp_eq (tgt := 360) hC.1 hC.2.1 d_AckBookLaw_law_355 (by decide) (fun hc => ?_) (fun hc => ?_)
        · have h := z_ifp hc h
          refine lv_iload hC.1 hC.2.1 d_AckBookLaw_law_360 (lv_at hl 1 rfl) ?_
          refine lv_if_ne (tgt := 377) hC.1 hC.2.1 d_AckBookLaw_law_362 (by decide) (fun hc => ?_) (fun hc => ?_)
          · have h := z_ifn hc h
            refine lv_goto (tgt := 856) hC.1 hC.2.1 d_AckBookLaw_law_377 (by decide) ?_
            refine lv_iinc (lv' := [(4, .int (xL4 + (5 : Int32))), (6, .int v58), (5, .int v54), (0, va_rf (some bS)), (1, va_rf rL1), (2, va_rf rL2), (3, va_rf rL3)]) hC.1 hC.2.1 d_AckBookLaw_law_856 hl (k := 6) rfl rfl (by decide) (by first | rfl | simp [z_rfc, z_ci, z_cj]) (fun ls hl => ?_)
            refine lv_goto (tgt := 23) hC.1 hC.2.1 d_AckBookLaw_law_859 (by decide) ?_
            exact ih _ _ _ _ _ _ h _ _ _ _ _ hZ (lv_sub hl [3, 4, 5, 6, 0] rfl)
          · have h := z_ifp hc h
            refine x_aload_n hC d_AckBookLaw_law_365 rfl (lv_at hl 5 rfl) ?_
            refine lv_iconst (v := (0 : Int32)) hC.1 hC.2.1 d_AckBookLaw_law_366 (by decide) ?_
            refine x_ldL hC hZ h d_AckBookLaw_law_367 (fun v61 h => ?_)
            refine lv_iload hC.1 hC.2.1 d_AckBookLaw_law_368 (lv_at hl 0 rfl) ?_
            refine lv_i2l hC.1 hC.2.1 d_AckBookLaw_law_370 rfl ?_
            refine W.lcmp hC.1 hC.2.1 d_AckBookLaw_law_371 ?_
            refine lv_if_eq (tgt := 377) hC.1 hC.2.1 d_AckBookLaw_law_372 (by decide) (fun hc => ?_) (fun hc => ?_)
            · have h := z_ifp hc h
              refine lv_goto (tgt := 856) hC.1 hC.2.1 d_AckBookLaw_law_377 (by decide) ?_
              refine lv_iinc (lv' := [(4, .int (xL4 + (5 : Int32))), (6, .int v58), (5, .int v54), (0, va_rf (some bS)), (1, va_rf rL1), (2, va_rf rL2), (3, va_rf rL3)]) hC.1 hC.2.1 d_AckBookLaw_law_856 hl (k := 6) rfl rfl (by decide) (by first | rfl | simp [z_rfc, z_ci, z_cj]) (fun ls hl => ?_)
              refine lv_goto (tgt := 23) hC.1 hC.2.1 d_AckBookLaw_law_859 (by decide) ?_
              exact ih _ _ _ _ _ _ h _ _ _ _ _ hZ (lv_sub hl [3, 4, 5, 6, 0] rfl)
            · have h := z_ifn hc h
              refine lv_iconst (v := (0 : Int32)) hC.1 hC.2.1 d_AckBookLaw_law_375 (by decide) ?_
              exact (z_no0 h).elim
        · have h := z_ifn hc h
          refine lv_iconst (v := (0 : Int32)) hC.1 hC.2.1 d_AckBookLaw_law_358 (by decide) ?_
          exact (z_no0 h).elim
      have h := z_ifn hc2 h
      by_cases hc3 : (v35 &&& (15 : Int32)) = (3 : Int32)
      · have h := z_ifp hc3 h
        refine lv_tableIn (tgt := 380) hC.1 hC.2.1 d_AckBookLaw_law_39 (by rw [hc3]; decide) (by rw [hc3]; decide) (by rw [hc3]; rfl) (by decide) ?_
        refine x_aload_n hC d_AckBookLaw_law_380 rfl (lv_at hl 1 rfl) ?_
        obtain ⟨a_, fs_, eo_, h⟩ := z_this_spec h
        obtain ⟨w1_, o1_, hF_, ha_⟩ := z_cI_spec h
        refine x_goesN ha_ (z_goV (As := []) hC hZ zc0 eo_ (k_AckBook_tick hT hfl hE _ _ hF_) t_269 t_270 t_271 t_1 t_272 ⟨by decide, by decide, (by decide +kernel : (parseMethodDescriptor y_AckBook_tick.desc).map (fun d => d.parameters.length) = some 0)⟩ (by rw [hRt.1]; decide) (by rw [hRt.2]; decide) hl.1 rfl (by first | exact Nat.le_of_ble_eq_true rfl | simp [z_rfc, z_ci, z_cj]) d_AckBookLaw_law_381) (fun v_ hv H locs cells slots hZ => ?_)
        obtain ⟨v63, rfl, h⟩ := hv
        generalize w1_ = w at h hZ
        refine lv_pop hC.1 hC.2.1 d_AckBookLaw_law_384 rfl ?_
        refine x_aload_n hC d_AckBookLaw_law_385 rfl (lv_at hl 2 rfl) ?_
        obtain ⟨a_, fs_, eo_, h⟩ := z_this_spec h
        obtain ⟨w1_, o1_, hF_, ha_⟩ := z_cI_spec h
        refine x_goesN ha_ (z_goV (As := []) hC hZ zc10 eo_ (k_AckBookModel_tick hT hfl hE _ _ hF_) t_1008 t_1009 t_1010 t_12 t_1011 ⟨by decide, by decide, (by decide +kernel : (parseMethodDescriptor y_AckBookModel_tick.desc).map (fun d => d.parameters.length) = some 0)⟩ (by rw [hRt.1]; decide) (by rw [hRt.2]; decide) hl.1 rfl (by first | exact Nat.le_of_ble_eq_true rfl | simp [z_rfc, z_ci, z_cj]) d_AckBookLaw_law_386) (fun v_ hv H locs cells slots hZ => ?_)
        obtain ⟨v65, rfl, h⟩ := hv
        generalize w1_ = w at h hZ
        refine lv_pop hC.1 hC.2.1 d_AckBookLaw_law_389 rfl ?_
        refine lv_goto (tgt := 856) hC.1 hC.2.1 d_AckBookLaw_law_390 (by decide) ?_
        refine lv_iinc (lv' := [(4, .int (xL4 + (5 : Int32))), (0, va_rf (some bS)), (1, va_rf rL1), (2, va_rf rL2), (3, va_rf rL3)]) hC.1 hC.2.1 d_AckBookLaw_law_856 hl (k := 4) rfl rfl (by decide) (by first | rfl | simp [z_rfc, z_ci, z_cj]) (fun ls hl => ?_)
        refine lv_goto (tgt := 23) hC.1 hC.2.1 d_AckBookLaw_law_859 (by decide) ?_
        exact ih _ _ _ _ _ _ h _ _ _ _ _ hZ (lv_sub hl [1, 2, 3, 4, 0] rfl)
      have h := z_ifn hc3 h
      by_cases hc4 : (v35 &&& (15 : Int32)) = (4 : Int32)
      · have h := z_ifp hc4 h
        refine lv_tableIn (tgt := 393) hC.1 hC.2.1 d_AckBookLaw_law_39 (by rw [hc4]; decide) (by rw [hc4]; decide) (by rw [hc4]; rfl) (by decide) ?_
        refine x_aload_n hC d_AckBookLaw_law_393 rfl (lv_at hl 1 rfl) ?_
        refine x_aload_n hC d_AckBookLaw_law_394 rfl (lv_at hl 0 rfl) ?_
        refine lv_iload hC.1 hC.2.1 d_AckBookLaw_law_395 (lv_at hl 4 rfl) ?_
        refine lv_iconst (v := (1 : Int32)) hC.1 hC.2.1 d_AckBookLaw_law_397 (by decide) ?_
        refine lv_iadd hC.1 hC.2.1 d_AckBookLaw_law_398 ?_
        refine x_scr hC hZ hX h d_AckBookLaw_law_399 (fun v66 h => ?_)
        obtain ⟨w1_, o1_, hF_, ha_⟩ := z_cI_spec h
        refine x_goesN ha_ (z_goSW (As := [va_rf rL1, .int v66]) hC hZ (k_AckBookLaw_discard hT hfl hE _ _ hF_) t_678 t_679 t_0 t_680 ⟨by decide, by decide, (by decide +kernel : (parseMethodDescriptor y_AckBookLaw_discard.desc).map (fun d => d.parameters.length) = some 2)⟩ (by rw [hRt.1]; decide) (by rw [hRt.2]; decide) hl.1 rfl (by first | exact Nat.le_of_ble_eq_true rfl | simp [z_rfc, z_ci, z_cj]) d_AckBookLaw_law_400) (fun v_ hv H locs cells slots hZ => ?_)
        obtain ⟨v68, rfl, h⟩ := hv
        generalize w1_ = w at h hZ
        refine lv_istore (i := 5) (lv' := [(5, .int v68), (0, va_rf (some bS)), (1, va_rf rL1), (2, va_rf rL2), (3, va_rf rL3), (4, .int xL4)]) hC.1 hC.2.1 d_AckBookLaw_law_403 hl (by decide) (by first | rfl | simp [z_rfc, z_ci, z_cj]) (fun ls hl => ?_)
        refine x_aload_n hC d_AckBookLaw_law_405 rfl (lv_at hl 3 rfl) ?_
        refine x_aload_n hC d_AckBookLaw_law_406 rfl (lv_at hl 1 rfl) ?_
        refine lv_iload hC.1 hC.2.1 d_AckBookLaw_law_407 (lv_at hl 5 rfl) ?_
        refine lv_iconst (v := (1 : Int32)) hC.1 hC.2.1 d_AckBookLaw_law_409 (by decide) ?_
        refine lv_iadd hC.1 hC.2.1 d_AckBookLaw_law_410 ?_
        refine x_scr hC hZ hX h d_AckBookLaw_law_411 (fun v69 h => ?_)
        obtain ⟨a_, fs_, eo_, h⟩ := z_this_spec h
        obtain ⟨w1_, o1_, hF_, ha_⟩ := z_cV_spec h
        refine x_goesN ha_ (z_goV (As := [.int v69]) hC hZ zc10 eo_ (k_AckBookModel_discard hT hfl hE _ _ hF_) t_1028 t_1029 t_1030 t_12 t_1031 ⟨by decide, by decide, (by decide +kernel : (parseMethodDescriptor y_AckBookModel_discard.desc).map (fun d => d.parameters.length) = some 1)⟩ (by rw [hRt.1]; decide) (by rw [hRt.2]; decide) hl.1 rfl (by first | exact Nat.le_of_ble_eq_true rfl | simp [z_rfc, z_ci, z_cj]) d_AckBookLaw_law_412) (fun v_ hv H locs cells slots hZ => ?_)
        obtain ⟨rfl, h⟩ := hv
        generalize w1_ = w at h hZ
        refine lv_goto (tgt := 856) hC.1 hC.2.1 d_AckBookLaw_law_415 (by decide) ?_
        refine lv_iinc (lv' := [(4, .int (xL4 + (5 : Int32))), (5, .int v68), (0, va_rf (some bS)), (1, va_rf rL1), (2, va_rf rL2), (3, va_rf rL3)]) hC.1 hC.2.1 d_AckBookLaw_law_856 hl (k := 5) rfl rfl (by decide) (by first | rfl | simp [z_rfc, z_ci, z_cj]) (fun ls hl => ?_)
        refine lv_goto (tgt := 23) hC.1 hC.2.1 d_AckBookLaw_law_859 (by decide) ?_
        exact ih _ _ _ _ _ _ h _ _ _ _ _ hZ (lv_sub hl [2, 3, 4, 5, 0] rfl)
      have h := z_ifn hc4 h
      by_cases hc5 : (v35 &&& (15 : Int32)) = (5 : Int32)
      · have h := z_ifp hc5 h
        refine lv_tableIn (tgt := 418) hC.1 hC.2.1 d_AckBookLaw_law_39 (by rw [hc5]; decide) (by rw [hc5]; decide) (by rw [hc5]; rfl) (by decide) ?_
        refine x_aload_n hC d_AckBookLaw_law_418 rfl (lv_at hl 1 rfl) ?_
        obtain ⟨a_, fs_, eo_, h⟩ := z_this_spec h
        obtain ⟨w1_, o1_, hF_, ha_⟩ := z_cV_spec h
        refine x_goesN ha_ (z_goV (As := []) hC hZ zc0 eo_ (k_AckBook_confirm hT hfl hE _ _ hF_) t_363 t_364 t_365 t_1 t_366 ⟨by decide, by decide, (by decide +kernel : (parseMethodDescriptor y_AckBook_confirm.desc).map (fun d => d.parameters.length) = some 0)⟩ (by rw [hRt.1]; decide) (by rw [hRt.2]; decide) hl.1 rfl (by first | exact Nat.le_of_ble_eq_true rfl | simp [z_rfc, z_ci, z_cj]) d_AckBookLaw_law_419) (fun v_ hv H locs cells slots hZ => ?_)
        obtain ⟨rfl, h⟩ := hv
        generalize w1_ = w at h hZ
        refine x_aload_n hC d_AckBookLaw_law_422 rfl (lv_at hl 2 rfl) ?_
        obtain ⟨a_, fs_, eo_, h⟩ := z_this_spec h
        obtain ⟨w1_, o1_, hF_, ha_⟩ := z_cV_spec h
        refine x_goesN ha_ (z_goV (As := []) hC hZ zc10 eo_ (k_AckBookModel_confirm hT hfl hE _ _ hF_) t_1032 t_1033 t_1034 t_12 t_1035 ⟨by decide, by decide, (by decide +kernel : (parseMethodDescriptor y_AckBookModel_confirm.desc).map (fun d => d.parameters.length) = some 0)⟩ (by rw [hRt.1]; decide) (by rw [hRt.2]; decide) hl.1 rfl (by first | exact Nat.le_of_ble_eq_true rfl | simp [z_rfc, z_ci, z_cj]) d_AckBookLaw_law_423) (fun v_ hv H locs cells slots hZ => ?_)
        obtain ⟨rfl, h⟩ := hv
        generalize w1_ = w at h hZ
        refine lv_goto (tgt := 856) hC.1 hC.2.1 d_AckBookLaw_law_426 (by decide) ?_
        refine lv_iinc (lv' := [(4, .int (xL4 + (5 : Int32))), (0, va_rf (some bS)), (1, va_rf rL1), (2, va_rf rL2), (3, va_rf rL3)]) hC.1 hC.2.1 d_AckBookLaw_law_856 hl (k := 4) rfl rfl (by decide) (by first | rfl | simp [z_rfc, z_ci, z_cj]) (fun ls hl => ?_)
        refine lv_goto (tgt := 23) hC.1 hC.2.1 d_AckBookLaw_law_859 (by decide) ?_
        exact ih _ _ _ _ _ _ h _ _ _ _ _ hZ (lv_sub hl [1, 2, 3, 4, 0] rfl)
      have h := z_ifn hc5 h
      by_cases hc6 : (v35 &&& (15 : Int32)) = (6 : Int32)
      · have h := z_ifp hc6 h
        refine lv_tableIn (tgt := 429) hC.1 hC.2.1 d_AckBookLaw_law_39 (by rw [hc6]; decide) (by rw [hc6]; decide) (by rw [hc6]; rfl) (by decide) ?_
        refine x_aload_n hC d_AckBookLaw_law_429 rfl (lv_at hl 1 rfl) ?_
        refine x_aload_n hC d_AckBookLaw_law_430 rfl (lv_at hl 0 rfl) ?_
        refine lv_iload hC.1 hC.2.1 d_AckBookLaw_law_431 (lv_at hl 4 rfl) ?_
        refine lv_iconst (v := (1 : Int32)) hC.1 hC.2.1 d_AckBookLaw_law_433 (by decide) ?_
        refine lv_iadd hC.1 hC.2.1 d_AckBookLaw_law_434 ?_
        refine x_scr hC hZ hX h d_AckBookLaw_law_435 (fun v73 h => ?_)
        refine lv_if_eq (tgt := 443) hC.1 hC.2.1 d_AckBookLaw_law_436 (by decide) (fun hc => ?_) (fun hc => ?_)
        · have h := z_ifp hc h
          refine lv_iconst (v := (0 : Int32)) hC.1 hC.2.1 d_AckBookLaw_law_443 (by decide) ?_
          exact kq_AckBookLaw_law_444 hT hfl hE hC hr hX hB ih _ _ _ _ _ _ _ _ h _ _ _ _ _ hZ (lv_sub hl [0, 1, 2, 3, 4] rfl)
        · have h := z_ifn hc h
          refine lv_iconst (v := (1 : Int32)) hC.1 hC.2.1 d_AckBookLaw_law_439 (by decide) ?_
          refine lv_goto (tgt := 444) hC.1 hC.2.1 d_AckBookLaw_law_440 (by decide) ?_
          exact kq_AckBookLaw_law_444 hT hfl hE hC hr hX hB ih _ _ _ _ _ _ _ _ h _ _ _ _ _ hZ (lv_sub hl [0, 1, 2, 3, 4] rfl)
      have h := z_ifn hc6 h
      by_cases hc7 : (v35 &&& (15 : Int32)) = (7 : Int32)
      · have h := z_ifp hc7 h
        refine lv_tableIn (tgt := 468) hC.1 hC.2.1 d_AckBookLaw_law_39 (by rw [hc7]; decide) (by rw [hc7]; decide) (by rw [hc7]; rfl) (by decide) ?_
        refine x_aload_n hC d_AckBookLaw_law_468 rfl (lv_at hl 1 rfl) ?_
        refine x_aload_n hC d_AckBookLaw_law_469 rfl (lv_at hl 0 rfl) ?_
        refine lv_iload hC.1 hC.2.1 d_AckBookLaw_law_470 (lv_at hl 4 rfl) ?_
        refine lv_iconst (v := (1 : Int32)) hC.1 hC.2.1 d_AckBookLaw_law_472 (by decide) ?_
        refine lv_iadd hC.1 hC.2.1 d_AckBookLaw_law_473 ?_
        refine x_scr hC hZ hX h d_AckBookLaw_law_474 (fun v74 h => ?_)
        refine x_aload_n hC d_AckBookLaw_law_475 rfl (lv_at hl 0 rfl) ?_
        refine lv_iload hC.1 hC.2.1 d_AckBookLaw_law_476 (lv_at hl 4 rfl) ?_
        refine lv_iconst (v := (2 : Int32)) hC.1 hC.2.1 d_AckBookLaw_law_478 (by decide) ?_
        refine lv_iadd hC.1 hC.2.1 d_AckBookLaw_law_479 ?_
        refine x_scr hC hZ hX h d_AckBookLaw_law_480 (fun v75 h => ?_)
        refine lv_if_eq (tgt := 488) hC.1 hC.2.1 d_AckBookLaw_law_481 (by decide) (fun hc => ?_) (fun hc => ?_)
        · have h := z_ifp hc h
          refine lv_iconst (v := (0 : Int32)) hC.1 hC.2.1 d_AckBookLaw_law_488 (by decide) ?_
          exact kq_AckBookLaw_law_489 hT hfl hE hC hr hX hB ih _ _ _ _ _ _ _ _ _ h _ _ _ _ _ hZ (lv_sub hl [0, 1, 2, 3, 4] rfl)
        · have h := z_ifn hc h
          refine lv_iconst (v := (1 : Int32)) hC.1 hC.2.1 d_AckBookLaw_law_484 (by decide) ?_
          refine lv_goto (tgt := 489) hC.1 hC.2.1 d_AckBookLaw_law_485 (by decide) ?_
          exact kq_AckBookLaw_law_489 hT hfl hE hC hr hX hB ih _ _ _ _ _ _ _ _ _ h _ _ _ _ _ hZ (lv_sub hl [0, 1, 2, 3, 4] rfl)
      have h := z_ifn hc7 h
      by_cases hc8 : (v35 &&& (15 : Int32)) = (8 : Int32)
      · have h := z_ifp hc8 h
        refine lv_tableIn (tgt := 524) hC.1 hC.2.1 d_AckBookLaw_law_39 (by rw [hc8]; decide) (by rw [hc8]; decide) (by rw [hc8]; rfl) (by decide) ?_
        refine x_aload_n hC d_AckBookLaw_law_524 rfl (lv_at hl 1 rfl) ?_
        refine x_aload_n hC d_AckBookLaw_law_525 rfl (lv_at hl 0 rfl) ?_
        refine lv_iload hC.1 hC.2.1 d_AckBookLaw_law_526 (lv_at hl 4 rfl) ?_
        refine lv_iconst (v := (1 : Int32)) hC.1 hC.2.1 d_AckBookLaw_law_528 (by decide) ?_
        refine lv_iadd hC.1 hC.2.1 d_AckBookLaw_law_529 ?_
        refine x_scr hC hZ hX h d_AckBookLaw_law_530 (fun v76 h => ?_)
        refine x_aload_n hC d_AckBookLaw_law_531 rfl (lv_at hl 0 rfl) ?_
        refine lv_iload hC.1 hC.2.1 d_AckBookLaw_law_532 (lv_at hl 4 rfl) ?_
        refine lv_iconst (v := (2 : Int32)) hC.1 hC.2.1 d_AckBookLaw_law_534 (by decide) ?_
        refine lv_iadd hC.1 hC.2.1 d_AckBookLaw_law_535 ?_
        refine x_scr hC hZ hX h d_AckBookLaw_law_536 (fun v77 h => ?_)
        refine x_aload_n hC d_AckBookLaw_law_537 rfl (lv_at hl 3 rfl) ?_
        obtain ⟨w1_, o1_, hF_, ha_⟩ := z_cI_spec h
        refine x_goesN ha_ (z_goSW (As := [va_rf rL1, .int v76, .int v77, va_rf rL3]) hC hZ (k_AckBookLaw_state hT hfl hE _ _ hF_) t_709 t_710 t_0 t_711 ⟨by decide, by decide, (by decide +kernel : (parseMethodDescriptor y_AckBookLaw_state.desc).map (fun d => d.parameters.length) = some 4)⟩ (by rw [hRt.1]; decide) (by rw [hRt.2]; decide) hl.1 rfl (by first | exact Nat.le_of_ble_eq_true rfl | simp [z_rfc, z_ci, z_cj]) d_AckBookLaw_law_538) (fun v_ hv H locs cells slots hZ => ?_)
        obtain ⟨v79, rfl, h⟩ := hv
        generalize w1_ = w at h hZ
        refine lv_istore (i := 5) (lv' := [(5, .int v79), (0, va_rf (some bS)), (1, va_rf rL1), (2, va_rf rL2), (3, va_rf rL3), (4, .int xL4)]) hC.1 hC.2.1 d_AckBookLaw_law_541 hl (by decide) (by first | rfl | simp [z_rfc, z_ci, z_cj]) (fun ls hl => ?_)
        refine x_aload_n hC d_AckBookLaw_law_543 rfl (lv_at hl 3 rfl) ?_
        refine x_aload_n hC d_AckBookLaw_law_544 rfl (lv_at hl 1 rfl) ?_
        refine lv_iload hC.1 hC.2.1 d_AckBookLaw_law_545 (lv_at hl 5 rfl) ?_
        refine lv_iconst (v := (1 : Int32)) hC.1 hC.2.1 d_AckBookLaw_law_547 (by decide) ?_
        refine lv_iadd hC.1 hC.2.1 d_AckBookLaw_law_548 ?_
        refine x_scr hC hZ hX h d_AckBookLaw_law_549 (fun v80 h => ?_)
        refine x_aload_n hC d_AckBookLaw_law_550 rfl (lv_at hl 1 rfl) ?_
        refine lv_iload hC.1 hC.2.1 d_AckBookLaw_law_551 (lv_at hl 5 rfl) ?_
        refine lv_iconst (v := (2 : Int32)) hC.1 hC.2.1 d_AckBookLaw_law_553 (by decide) ?_
        refine lv_iadd hC.1 hC.2.1 d_AckBookLaw_law_554 ?_
        refine x_scr hC hZ hX h d_AckBookLaw_law_555 (fun v81 h => ?_)
        obtain ⟨a_, fs_, eo_, h⟩ := z_this_spec h
        obtain ⟨w1_, o1_, hF_, ha_⟩ := z_cI_spec h
        refine x_goesN ha_ (z_goV (As := [.int v80, .int v81]) hC hZ zc10 eo_ (k_AckBookModel_state hT hfl hE _ _ hF_) t_1044 t_1045 t_1046 t_12 t_1047 ⟨by decide, by decide, (by decide +kernel : (parseMethodDescriptor y_AckBookModel_state.desc).map (fun d => d.parameters.length) = some 2)⟩ (by rw [hRt.1]; decide) (by rw [hRt.2]; decide) hl.1 rfl (by first | exact Nat.le_of_ble_eq_true rfl | simp [z_rfc, z_ci, z_cj]) d_AckBookLaw_law_556) (fun v_ hv H locs cells slots hZ => ?_)
        obtain ⟨v83, rfl, h⟩ := hv
        generalize w1_ = w at h hZ
        refine lv_istore (i := 6) (lv' := [(6, .int v83), (5, .int v79), (0, va_rf (some bS)), (1, va_rf rL1), (2, va_rf rL2), (3, va_rf rL3), (4, .int xL4)]) hC.1 hC.2.1 d_AckBookLaw_law_559 hl (by decide) (by first | rfl | simp [z_rfc, z_ci, z_cj]) (fun ls hl => ?_)
        refine lv_goto (tgt := 856) hC.1 hC.2.1 d_AckBookLaw_law_561 (by decide) ?_
        refine lv_iinc (lv' := [(4, .int (xL4 + (5 : Int32))), (6, .int v83), (5, .int v79), (0, va_rf (some bS)), (1, va_rf rL1), (2, va_rf rL2), (3, va_rf rL3)]) hC.1 hC.2.1 d_AckBookLaw_law_856 hl (k := 6) rfl rfl (by decide) (by first | rfl | simp [z_rfc, z_ci, z_cj]) (fun ls hl => ?_)
        refine lv_goto (tgt := 23) hC.1 hC.2.1 d_AckBookLaw_law_859 (by decide) ?_
        exact ih _ _ _ _ _ _ h _ _ _ _ _ hZ (lv_sub hl [3, 4, 5, 6, 0] rfl)
      have h := z_ifn hc8 h
      by_cases hc9 : (v35 &&& (15 : Int32)) = (9 : Int32)
      · have h := z_ifp hc9 h
        refine lv_tableIn (tgt := 564) hC.1 hC.2.1 d_AckBookLaw_law_39 (by rw [hc9]; decide) (by rw [hc9]; decide) (by rw [hc9]; rfl) (by decide) ?_
        refine x_aload_n hC d_AckBookLaw_law_564 rfl (lv_at hl 1 rfl) ?_
        refine x_aload_n hC d_AckBookLaw_law_565 rfl (lv_at hl 0 rfl) ?_
        refine lv_iload hC.1 hC.2.1 d_AckBookLaw_law_566 (lv_at hl 4 rfl) ?_
        refine lv_iconst (v := (1 : Int32)) hC.1 hC.2.1 d_AckBookLaw_law_568 (by decide) ?_
        refine lv_iadd hC.1 hC.2.1 d_AckBookLaw_law_569 ?_
        refine x_scr hC hZ hX h d_AckBookLaw_law_570 (fun v84 h => ?_)
        refine x_aload_n hC d_AckBookLaw_law_571 rfl (lv_at hl 0 rfl) ?_
        refine lv_iload hC.1 hC.2.1 d_AckBookLaw_law_572 (lv_at hl 4 rfl) ?_
        refine lv_iconst (v := (2 : Int32)) hC.1 hC.2.1 d_AckBookLaw_law_574 (by decide) ?_
        refine lv_iadd hC.1 hC.2.1 d_AckBookLaw_law_575 ?_
        refine x_scr hC hZ hX h d_AckBookLaw_law_576 (fun v85 h => ?_)
        refine lv_i2l hC.1 hC.2.1 d_AckBookLaw_law_577 rfl ?_
        refine lv_bipush (v := (32 : Int32)) hC.1 hC.2.1 d_AckBookLaw_law_578 (by decide) ?_
        refine lv_lshl hC.1 hC.2.1 d_AckBookLaw_law_580 rfl ?_
        refine x_aload_n hC d_AckBookLaw_law_581 rfl (lv_at hl 0 rfl) ?_
        refine lv_iload hC.1 hC.2.1 d_AckBookLaw_law_582 (lv_at hl 4 rfl) ?_
        refine lv_iconst (v := (3 : Int32)) hC.1 hC.2.1 d_AckBookLaw_law_584 (by decide) ?_
        refine lv_iadd hC.1 hC.2.1 d_AckBookLaw_law_585 ?_
        refine x_scr hC hZ hX h d_AckBookLaw_law_586 (fun v86 h => ?_)
        refine lv_i2l hC.1 hC.2.1 d_AckBookLaw_law_587 rfl ?_
        refine lv_ldc2 (v := (4294967295 : Int64)) hC.1 hC.2.1 hC.2.2.2.1 ((hZ.1.tb hC.2.2.2.2.2.2 #[Value.ref bS]) _ t_1090) d_AckBookLaw_law_588 ?_
        refine lv_land hC.1 hC.2.1 d_AckBookLaw_law_591 ?_
        refine lv_lor hC.1 hC.2.1 d_AckBookLaw_law_592 ?_
        refine x_aload_n hC d_AckBookLaw_law_593 rfl (lv_at hl 0 rfl) ?_
        refine lv_iload hC.1 hC.2.1 d_AckBookLaw_law_594 (lv_at hl 4 rfl) ?_
        refine lv_iconst (v := (4 : Int32)) hC.1 hC.2.1 d_AckBookLaw_law_596 (by decide) ?_
        refine lv_iadd hC.1 hC.2.1 d_AckBookLaw_law_597 ?_
        refine x_scr hC hZ hX h d_AckBookLaw_law_598 (fun v87 h => ?_)
        refine lv_if_eq (tgt := 606) hC.1 hC.2.1 d_AckBookLaw_law_599 (by decide) (fun hc => ?_) (fun hc => ?_)
        · have h := z_ifp hc h
          refine lv_iconst (v := (0 : Int32)) hC.1 hC.2.1 d_AckBookLaw_law_606 (by decide) ?_
          exact kq_AckBookLaw_law_607 hT hfl hE hC hr hX hB ih _ _ _ _ _ _ _ _ _ _ h _ _ _ _ _ hZ (lv_sub hl [0, 1, 2, 3, 4] rfl)
        · have h := z_ifn hc h
          refine lv_iconst (v := (1 : Int32)) hC.1 hC.2.1 d_AckBookLaw_law_602 (by decide) ?_
          refine lv_goto (tgt := 607) hC.1 hC.2.1 d_AckBookLaw_law_603 (by decide) ?_
          exact kq_AckBookLaw_law_607 hT hfl hE hC hr hX hB ih _ _ _ _ _ _ _ _ _ _ h _ _ _ _ _ hZ (lv_sub hl [0, 1, 2, 3, 4] rfl)
      have h := z_ifn hc9 h
      by_cases hc10 : (v35 &&& (15 : Int32)) = (10 : Int32)
      · have h := z_ifp hc10 h
        refine lv_tableIn (tgt := 664) hC.1 hC.2.1 d_AckBookLaw_law_39 (by rw [hc10]; decide) (by rw [hc10]; decide) (by rw [hc10]; rfl) (by decide) ?_
        refine x_aload_n hC d_AckBookLaw_law_664 rfl (lv_at hl 1 rfl) ?_
        refine x_aload_n hC d_AckBookLaw_law_665 rfl (lv_at hl 0 rfl) ?_
        refine lv_iload hC.1 hC.2.1 d_AckBookLaw_law_666 (lv_at hl 4 rfl) ?_
        refine lv_iconst (v := (1 : Int32)) hC.1 hC.2.1 d_AckBookLaw_law_668 (by decide) ?_
        refine lv_iadd hC.1 hC.2.1 d_AckBookLaw_law_669 ?_
        refine x_scr hC hZ hX h d_AckBookLaw_law_670 (fun v88 h => ?_)
        refine x_aload_n hC d_AckBookLaw_law_671 rfl (lv_at hl 3 rfl) ?_
        obtain ⟨w1_, o1_, hF_, ha_⟩ := z_cI_spec h
        refine x_goesN ha_ (z_goSW (As := [va_rf rL1, .int v88, va_rf rL3]) hC hZ (k_AckBookLaw_due hT hfl hE _ _ hF_) t_750 t_751 t_0 t_752 ⟨by decide, by decide, (by decide +kernel : (parseMethodDescriptor y_AckBookLaw_due.desc).map (fun d => d.parameters.length) = some 3)⟩ (by rw [hRt.1]; decide) (by rw [hRt.2]; decide) hl.1 rfl (by first | exact Nat.le_of_ble_eq_true rfl | simp [z_rfc, z_ci, z_cj]) d_AckBookLaw_law_672) (fun v_ hv H locs cells slots hZ => ?_)
        obtain ⟨v90, rfl, h⟩ := hv
        generalize w1_ = w at h hZ
        refine lv_istore (i := 5) (lv' := [(5, .int v90), (0, va_rf (some bS)), (1, va_rf rL1), (2, va_rf rL2), (3, va_rf rL3), (4, .int xL4)]) hC.1 hC.2.1 d_AckBookLaw_law_675 hl (by decide) (by first | rfl | simp [z_rfc, z_ci, z_cj]) (fun ls hl => ?_)
        refine x_aload_n hC d_AckBookLaw_law_677 rfl (lv_at hl 3 rfl) ?_
        refine x_aload_n hC d_AckBookLaw_law_678 rfl (lv_at hl 1 rfl) ?_
        refine lv_iload hC.1 hC.2.1 d_AckBookLaw_law_679 (lv_at hl 5 rfl) ?_
        refine lv_iconst (v := (1 : Int32)) hC.1 hC.2.1 d_AckBookLaw_law_681 (by decide) ?_
        refine lv_iadd hC.1 hC.2.1 d_AckBookLaw_law_682 ?_
        refine x_scr hC hZ hX h d_AckBookLaw_law_683 (fun v91 h => ?_)
        obtain ⟨a_, fs_, eo_, h⟩ := z_this_spec h
        obtain ⟨w1_, o1_, hF_, ha_⟩ := z_cI_spec h
        refine x_goesN ha_ (z_goV (As := [.int v91]) hC hZ zc10 eo_ (k_AckBookModel_due hT hfl hE _ _ hF_) t_1070 t_1071 t_1072 t_12 t_1073 ⟨by decide, by decide, (by decide +kernel : (parseMethodDescriptor y_AckBookModel_due.desc).map (fun d => d.parameters.length) = some 1)⟩ (by rw [hRt.1]; decide) (by rw [hRt.2]; decide) hl.1 rfl (by first | exact Nat.le_of_ble_eq_true rfl | simp [z_rfc, z_ci, z_cj]) d_AckBookLaw_law_684) (fun v_ hv H locs cells slots hZ => ?_)
        obtain ⟨v93, rfl, h⟩ := hv
        generalize w1_ = w at h hZ
        refine lv_istore (i := 6) (lv' := [(6, .int v93), (5, .int v90), (0, va_rf (some bS)), (1, va_rf rL1), (2, va_rf rL2), (3, va_rf rL3), (4, .int xL4)]) hC.1 hC.2.1 d_AckBookLaw_law_687 hl (by decide) (by first | rfl | simp [z_rfc, z_ci, z_cj]) (fun ls hl => ?_)
        refine lv_goto (tgt := 856) hC.1 hC.2.1 d_AckBookLaw_law_689 (by decide) ?_
        refine lv_iinc (lv' := [(4, .int (xL4 + (5 : Int32))), (6, .int v93), (5, .int v90), (0, va_rf (some bS)), (1, va_rf rL1), (2, va_rf rL2), (3, va_rf rL3)]) hC.1 hC.2.1 d_AckBookLaw_law_856 hl (k := 6) rfl rfl (by decide) (by first | rfl | simp [z_rfc, z_ci, z_cj]) (fun ls hl => ?_)
        refine lv_goto (tgt := 23) hC.1 hC.2.1 d_AckBookLaw_law_859 (by decide) ?_
        exact ih _ _ _ _ _ _ h _ _ _ _ _ hZ (lv_sub hl [3, 4, 5, 6, 0] rfl)
      have h := z_ifn hc10 h
      by_cases hc11 : (v35 &&& (15 : Int32)) = (11 : Int32)
      · have h := z_ifp hc11 h
        refine lv_tableIn (tgt := 692) hC.1 hC.2.1 d_AckBookLaw_law_39 (by rw [hc11]; decide) (by rw [hc11]; decide) (by rw [hc11]; rfl) (by decide) ?_
        refine x_aload_n hC d_AckBookLaw_law_692 rfl (lv_at hl 1 rfl) ?_
        refine x_aload_n hC d_AckBookLaw_law_693 rfl (lv_at hl 0 rfl) ?_
        refine lv_iload hC.1 hC.2.1 d_AckBookLaw_law_694 (lv_at hl 4 rfl) ?_
        refine lv_iconst (v := (1 : Int32)) hC.1 hC.2.1 d_AckBookLaw_law_696 (by decide) ?_
        refine lv_iadd hC.1 hC.2.1 d_AckBookLaw_law_697 ?_
        refine x_scr hC hZ hX h d_AckBookLaw_law_698 (fun v94 h => ?_)
        refine x_aload_n hC d_AckBookLaw_law_699 rfl (lv_at hl 3 rfl) ?_
        obtain ⟨w1_, o1_, hF_, ha_⟩ := z_cI_spec h
        refine x_goesN ha_ (z_goSW (As := [va_rf rL1, .int v94, va_rf rL3]) hC hZ (k_AckBookLaw_written hT hfl hE _ _ hF_) t_761 t_762 t_0 t_763 ⟨by decide, by decide, (by decide +kernel : (parseMethodDescriptor y_AckBookLaw_written.desc).map (fun d => d.parameters.length) = some 3)⟩ (by rw [hRt.1]; decide) (by rw [hRt.2]; decide) hl.1 rfl (by first | exact Nat.le_of_ble_eq_true rfl | simp [z_rfc, z_ci, z_cj]) d_AckBookLaw_law_700) (fun v_ hv H locs cells slots hZ => ?_)
        obtain ⟨v96, rfl, h⟩ := hv
        generalize w1_ = w at h hZ
        refine lv_istore (i := 5) (lv' := [(5, .int v96), (0, va_rf (some bS)), (1, va_rf rL1), (2, va_rf rL2), (3, va_rf rL3), (4, .int xL4)]) hC.1 hC.2.1 d_AckBookLaw_law_703 hl (by decide) (by first | rfl | simp [z_rfc, z_ci, z_cj]) (fun ls hl => ?_)
        refine x_aload_n hC d_AckBookLaw_law_705 rfl (lv_at hl 3 rfl) ?_
        refine x_aload_n hC d_AckBookLaw_law_706 rfl (lv_at hl 1 rfl) ?_
        refine lv_iload hC.1 hC.2.1 d_AckBookLaw_law_707 (lv_at hl 5 rfl) ?_
        refine lv_iconst (v := (1 : Int32)) hC.1 hC.2.1 d_AckBookLaw_law_709 (by decide) ?_
        refine lv_iadd hC.1 hC.2.1 d_AckBookLaw_law_710 ?_
        refine x_scr hC hZ hX h d_AckBookLaw_law_711 (fun v97 h => ?_)
        obtain ⟨a_, fs_, eo_, h⟩ := z_this_spec h
        obtain ⟨w1_, o1_, hF_, ha_⟩ := z_cI_spec h
        refine x_goesN ha_ (z_goV (As := [.int v97]) hC hZ zc10 eo_ (k_AckBookModel_written hT hfl hE _ _ hF_) t_1074 t_1075 t_1076 t_12 t_1077 ⟨by decide, by decide, (by decide +kernel : (parseMethodDescriptor y_AckBookModel_written.desc).map (fun d => d.parameters.length) = some 1)⟩ (by rw [hRt.1]; decide) (by rw [hRt.2]; decide) hl.1 rfl (by first | exact Nat.le_of_ble_eq_true rfl | simp [z_rfc, z_ci, z_cj]) d_AckBookLaw_law_712) (fun v_ hv H locs cells slots hZ => ?_)
        obtain ⟨v99, rfl, h⟩ := hv
        generalize w1_ = w at h hZ
        refine lv_istore (i := 6) (lv' := [(6, .int v99), (5, .int v96), (0, va_rf (some bS)), (1, va_rf rL1), (2, va_rf rL2), (3, va_rf rL3), (4, .int xL4)]) hC.1 hC.2.1 d_AckBookLaw_law_715 hl (by decide) (by first | rfl | simp [z_rfc, z_ci, z_cj]) (fun ls hl => ?_)
        refine lv_goto (tgt := 856) hC.1 hC.2.1 d_AckBookLaw_law_717 (by decide) ?_
        refine lv_iinc (lv' := [(4, .int (xL4 + (5 : Int32))), (6, .int v99), (5, .int v96), (0, va_rf (some bS)), (1, va_rf rL1), (2, va_rf rL2), (3, va_rf rL3)]) hC.1 hC.2.1 d_AckBookLaw_law_856 hl (k := 6) rfl rfl (by decide) (by first | rfl | simp [z_rfc, z_ci, z_cj]) (fun ls hl => ?_)
        refine lv_goto (tgt := 23) hC.1 hC.2.1 d_AckBookLaw_law_859 (by decide) ?_
        exact ih _ _ _ _ _ _ h _ _ _ _ _ hZ (lv_sub hl [3, 4, 5, 6, 0] rfl)
      have h := z_ifn hc11 h
      by_cases hc12 : (v35 &&& (15 : Int32)) = (12 : Int32)
      · have h := z_ifp hc12 h
        refine lv_tableIn (tgt := 720) hC.1 hC.2.1 d_AckBookLaw_law_39 (by rw [hc12]; decide) (by rw [hc12]; decide) (by rw [hc12]; rfl) (by decide) ?_
        refine x_aload_n hC d_AckBookLaw_law_720 rfl (lv_at hl 1 rfl) ?_
        refine x_aload_n hC d_AckBookLaw_law_721 rfl (lv_at hl 0 rfl) ?_
        refine lv_iload hC.1 hC.2.1 d_AckBookLaw_law_722 (lv_at hl 4 rfl) ?_
        refine lv_iconst (v := (1 : Int32)) hC.1 hC.2.1 d_AckBookLaw_law_724 (by decide) ?_
        refine lv_iadd hC.1 hC.2.1 d_AckBookLaw_law_725 ?_
        refine x_scr hC hZ hX h d_AckBookLaw_law_726 (fun v100 h => ?_)
        refine x_aload_n hC d_AckBookLaw_law_727 rfl (lv_at hl 0 rfl) ?_
        refine lv_iload hC.1 hC.2.1 d_AckBookLaw_law_728 (lv_at hl 4 rfl) ?_
        refine lv_iconst (v := (2 : Int32)) hC.1 hC.2.1 d_AckBookLaw_law_730 (by decide) ?_
        refine lv_iadd hC.1 hC.2.1 d_AckBookLaw_law_731 ?_
        refine x_scr hC hZ hX h d_AckBookLaw_law_732 (fun v101 h => ?_)
        refine x_aload_n hC d_AckBookLaw_law_733 rfl (lv_at hl 0 rfl) ?_
        refine lv_iload hC.1 hC.2.1 d_AckBookLaw_law_734 (lv_at hl 4 rfl) ?_
        refine lv_iconst (v := (3 : Int32)) hC.1 hC.2.1 d_AckBookLaw_law_736 (by decide) ?_
        refine lv_iadd hC.1 hC.2.1 d_AckBookLaw_law_737 ?_
        refine x_scr hC hZ hX h d_AckBookLaw_law_738 (fun v102 h => ?_)
        refine lv_if_eq (tgt := 746) hC.1 hC.2.1 d_AckBookLaw_law_739 (by decide) (fun hc => ?_) (fun hc => ?_)
        · have h := z_ifp hc h
          refine lv_iconst (v := (0 : Int32)) hC.1 hC.2.1 d_AckBookLaw_law_746 (by decide) ?_
          exact kq_AckBookLaw_law_747 hT hfl hE hC hr hX hB ih _ _ _ _ _ _ _ _ _ _ h _ _ _ _ _ hZ (lv_sub hl [0, 1, 2, 3, 4] rfl)
        · have h := z_ifn hc h
          refine lv_iconst (v := (1 : Int32)) hC.1 hC.2.1 d_AckBookLaw_law_742 (by decide) ?_
          refine lv_goto (tgt := 747) hC.1 hC.2.1 d_AckBookLaw_law_743 (by decide) ?_
          exact kq_AckBookLaw_law_747 hT hfl hE hC hr hX hB ih _ _ _ _ _ _ _ _ _ _ h _ _ _ _ _ hZ (lv_sub hl [0, 1, 2, 3, 4] rfl)
      have h := z_ifn hc12 h
      by_cases hc13 : (v35 &&& (15 : Int32)) = (13 : Int32)
      · have h := z_ifp hc13 h
        refine lv_tableIn (tgt := 788) hC.1 hC.2.1 d_AckBookLaw_law_39 (by rw [hc13]; decide) (by rw [hc13]; decide) (by rw [hc13]; rfl) (by decide) ?_
        refine x_aload_n hC d_AckBookLaw_law_788 rfl (lv_at hl 1 rfl) ?_
        refine x_aload_n hC d_AckBookLaw_law_789 rfl (lv_at hl 0 rfl) ?_
        refine lv_iload hC.1 hC.2.1 d_AckBookLaw_law_790 (lv_at hl 4 rfl) ?_
        refine lv_iconst (v := (1 : Int32)) hC.1 hC.2.1 d_AckBookLaw_law_792 (by decide) ?_
        refine lv_iadd hC.1 hC.2.1 d_AckBookLaw_law_793 ?_
        refine x_scr hC hZ hX h d_AckBookLaw_law_794 (fun v103 h => ?_)
        refine x_aload_n hC d_AckBookLaw_law_795 rfl (lv_at hl 3 rfl) ?_
        obtain ⟨w1_, o1_, hF_, ha_⟩ := z_cI_spec h
        refine x_goesN ha_ (z_goSW (As := [va_rf rL1, .int v103, va_rf rL3]) hC hZ (k_AckBookLaw_look hT hfl hE _ _ hF_) t_797 t_798 t_0 t_799 ⟨by decide, by decide, (by decide +kernel : (parseMethodDescriptor y_AckBookLaw_look.desc).map (fun d => d.parameters.length) = some 3)⟩ (by rw [hRt.1]; decide) (by rw [hRt.2]; decide) hl.1 rfl (by first | exact Nat.le_of_ble_eq_true rfl | simp [z_rfc, z_ci, z_cj]) d_AckBookLaw_law_796) (fun v_ hv H locs cells slots hZ => ?_)
        obtain ⟨v105, rfl, h⟩ := hv
        generalize w1_ = w at h hZ
        refine lv_istore (i := 5) (lv' := [(5, .int v105), (0, va_rf (some bS)), (1, va_rf rL1), (2, va_rf rL2), (3, va_rf rL3), (4, .int xL4)]) hC.1 hC.2.1 d_AckBookLaw_law_799 hl (by decide) (by first | rfl | simp [z_rfc, z_ci, z_cj]) (fun ls hl => ?_)
        refine x_aload_n hC d_AckBookLaw_law_801 rfl (lv_at hl 3 rfl) ?_
        refine x_aload_n hC d_AckBookLaw_law_802 rfl (lv_at hl 1 rfl) ?_
        refine lv_iload hC.1 hC.2.1 d_AckBookLaw_law_803 (lv_at hl 5 rfl) ?_
        refine lv_iconst (v := (1 : Int32)) hC.1 hC.2.1 d_AckBookLaw_law_805 (by decide) ?_
        refine lv_iadd hC.1 hC.2.1 d_AckBookLaw_law_806 ?_
        refine x_scr hC hZ hX h d_AckBookLaw_law_807 (fun v106 h => ?_)
        obtain ⟨a_, fs_, eo_, h⟩ := z_this_spec h
        obtain ⟨w1_, o1_, hF_, ha_⟩ := z_cI_spec h
        refine x_goesN ha_ (z_goV (As := [.int v106]) hC hZ zc10 eo_ (k_AckBookModel_look hT hfl hE _ _ hF_) t_1082 t_1083 t_1084 t_12 t_1085 ⟨by decide, by decide, (by decide +kernel : (parseMethodDescriptor y_AckBookModel_look.desc).map (fun d => d.parameters.length) = some 1)⟩ (by rw [hRt.1]; decide) (by rw [hRt.2]; decide) hl.1 rfl (by first | exact Nat.le_of_ble_eq_true rfl | simp [z_rfc, z_ci, z_cj]) d_AckBookLaw_law_808) (fun v_ hv H locs cells slots hZ => ?_)
        obtain ⟨v108, rfl, h⟩ := hv
        generalize w1_ = w at h hZ
        refine lv_istore (i := 6) (lv' := [(6, .int v108), (5, .int v105), (0, va_rf (some bS)), (1, va_rf rL1), (2, va_rf rL2), (3, va_rf rL3), (4, .int xL4)]) hC.1 hC.2.1 d_AckBookLaw_law_811 hl (by decide) (by first | rfl | simp [z_rfc, z_ci, z_cj]) (fun ls hl => ?_)
        refine lv_goto (tgt := 856) hC.1 hC.2.1 d_AckBookLaw_law_813 (by decide) ?_
        refine lv_iinc (lv' := [(4, .int (xL4 + (5 : Int32))), (6, .int v108), (5, .int v105), (0, va_rf (some bS)), (1, va_rf rL1), (2, va_rf rL2), (3, va_rf rL3)]) hC.1 hC.2.1 d_AckBookLaw_law_856 hl (k := 6) rfl rfl (by decide) (by first | rfl | simp [z_rfc, z_ci, z_cj]) (fun ls hl => ?_)
        refine lv_goto (tgt := 23) hC.1 hC.2.1 d_AckBookLaw_law_859 (by decide) ?_
        exact ih _ _ _ _ _ _ h _ _ _ _ _ hZ (lv_sub hl [3, 4, 5, 6, 0] rfl)
      have h := z_ifn hc13 h
      by_cases hc14 : (v35 &&& (15 : Int32)) = (14 : Int32)
      · have h := z_ifp hc14 h
        refine lv_tableIn (tgt := 816) hC.1 hC.2.1 d_AckBookLaw_law_39 (by rw [hc14]; decide) (by rw [hc14]; decide) (by rw [hc14]; rfl) (by decide) ?_
        refine x_aload_n hC d_AckBookLaw_law_816 rfl (lv_at hl 1 rfl) ?_
        refine x_aload_n hC d_AckBookLaw_law_817 rfl (lv_at hl 0 rfl) ?_
        refine lv_iload hC.1 hC.2.1 d_AckBookLaw_law_818 (lv_at hl 4 rfl) ?_
        refine lv_iconst (v := (1 : Int32)) hC.1 hC.2.1 d_AckBookLaw_law_820 (by decide) ?_
        refine lv_iadd hC.1 hC.2.1 d_AckBookLaw_law_821 ?_
        refine x_scr hC hZ hX h d_AckBookLaw_law_822 (fun v109 h => ?_)
        refine x_aload_n hC d_AckBookLaw_law_823 rfl (lv_at hl 0 rfl) ?_
        refine lv_iload hC.1 hC.2.1 d_AckBookLaw_law_824 (lv_at hl 4 rfl) ?_
        refine lv_iconst (v := (2 : Int32)) hC.1 hC.2.1 d_AckBookLaw_law_826 (by decide) ?_
        refine lv_iadd hC.1 hC.2.1 d_AckBookLaw_law_827 ?_
        refine x_scr hC hZ hX h d_AckBookLaw_law_828 (fun v110 h => ?_)
        refine x_aload_n hC d_AckBookLaw_law_829 rfl (lv_at hl 3 rfl) ?_
        obtain ⟨w1_, o1_, hF_, ha_⟩ := z_cI_spec h
        refine x_goesN ha_ (z_goSW (As := [va_rf rL1, .int v109, .int v110, va_rf rL3]) hC hZ (k_AckBookLaw_space hT hfl hE _ _ hF_) t_806 t_807 t_0 t_808 ⟨by decide, by decide, (by decide +kernel : (parseMethodDescriptor y_AckBookLaw_space.desc).map (fun d => d.parameters.length) = some 4)⟩ (by rw [hRt.1]; decide) (by rw [hRt.2]; decide) hl.1 rfl (by first | exact Nat.le_of_ble_eq_true rfl | simp [z_rfc, z_ci, z_cj]) d_AckBookLaw_law_830) (fun v_ hv H locs cells slots hZ => ?_)
        obtain ⟨v112, rfl, h⟩ := hv
        generalize w1_ = w at h hZ
        refine lv_istore (i := 5) (lv' := [(5, .int v112), (0, va_rf (some bS)), (1, va_rf rL1), (2, va_rf rL2), (3, va_rf rL3), (4, .int xL4)]) hC.1 hC.2.1 d_AckBookLaw_law_833 hl (by decide) (by first | rfl | simp [z_rfc, z_ci, z_cj]) (fun ls hl => ?_)
        refine x_aload_n hC d_AckBookLaw_law_835 rfl (lv_at hl 3 rfl) ?_
        refine x_aload_n hC d_AckBookLaw_law_836 rfl (lv_at hl 1 rfl) ?_
        refine lv_iload hC.1 hC.2.1 d_AckBookLaw_law_837 (lv_at hl 5 rfl) ?_
        refine lv_iconst (v := (1 : Int32)) hC.1 hC.2.1 d_AckBookLaw_law_839 (by decide) ?_
        refine lv_iadd hC.1 hC.2.1 d_AckBookLaw_law_840 ?_
        refine x_scr hC hZ hX h d_AckBookLaw_law_841 (fun v113 h => ?_)
        refine x_aload_n hC d_AckBookLaw_law_842 rfl (lv_at hl 1 rfl) ?_
        refine lv_iload hC.1 hC.2.1 d_AckBookLaw_law_843 (lv_at hl 5 rfl) ?_
        refine lv_iconst (v := (2 : Int32)) hC.1 hC.2.1 d_AckBookLaw_law_845 (by decide) ?_
        refine lv_iadd hC.1 hC.2.1 d_AckBookLaw_law_846 ?_
        refine x_scr hC hZ hX h d_AckBookLaw_law_847 (fun v114 h => ?_)
        obtain ⟨a_, fs_, eo_, h⟩ := z_this_spec h
        obtain ⟨w1_, o1_, hF_, ha_⟩ := z_cL_spec h
        refine x_goesN ha_ (z_goV (As := [.int v113, .int v114]) hC hZ zc10 eo_ (k_AckBookModel_space hT hfl hE _ _ hF_) t_1086 t_1087 t_1088 t_12 t_1089 ⟨by decide, by decide, (by decide +kernel : (parseMethodDescriptor y_AckBookModel_space.desc).map (fun d => d.parameters.length) = some 2)⟩ (by rw [hRt.1]; decide) (by rw [hRt.2]; decide) hl.1 rfl (by first | exact Nat.le_of_ble_eq_true rfl | simp [z_rfc, z_ci, z_cj]) d_AckBookLaw_law_848) (fun v_ hv H locs cells slots hZ => ?_)
        obtain ⟨v116, rfl, h⟩ := hv
        generalize w1_ = w at h hZ
        refine lv_lstore (i := 6) (lv' := [(6, .long v116), (5, .int v112), (0, va_rf (some bS)), (1, va_rf rL1), (2, va_rf rL2), (3, va_rf rL3), (4, .int xL4)]) hC.1 hC.2.1 d_AckBookLaw_law_851 hl (by decide) (by first | rfl | simp [z_rfc, z_ci, z_cj]) (fun ls hl => ?_)
        refine lv_goto (tgt := 856) hC.1 hC.2.1 d_AckBookLaw_law_853 (by decide) ?_
        refine lv_iinc (lv' := [(4, .int (xL4 + (5 : Int32))), (6, .long v116), (5, .int v112), (0, va_rf (some bS)), (1, va_rf rL1), (2, va_rf rL2), (3, va_rf rL3)]) hC.1 hC.2.1 d_AckBookLaw_law_856 hl (k := 6) rfl rfl (by decide) (by first | rfl | simp [z_rfc, z_ci, z_cj]) (fun ls hl => ?_)
        refine lv_goto (tgt := 23) hC.1 hC.2.1 d_AckBookLaw_law_859 (by decide) ?_
        exact ih _ _ _ _ _ _ h _ _ _ _ _ hZ (lv_sub hl [3, 4, 5, 6, 0] rfl)
      have h := z_ifn hc14 h
      refine lv_tableOut (tgt := 856) hC.1 hC.2.1 d_AckBookLaw_law_39 (z_tab 14 (fun k hk => match k, hk with | 0, _ => hc0 | 1, _ => hc1 | 2, _ => hc2 | 3, _ => hc3 | 4, _ => hc4 | 5, _ => hc5 | 6, _ => hc6 | 7, _ => hc7 | 8, _ => hc8 | 9, _ => hc9 | 10, _ => hc10 | 11, _ => hc11 | 12, _ => hc12 | 13, _ => hc13 | 14, _ => hc14 | _ + 15, hk => absurd hk (by omega))) (by decide) ?_
      refine lv_iinc (lv' := [(4, .int (xL4 + (5 : Int32))), (0, va_rf (some bS)), (1, va_rf rL1), (2, va_rf rL2), (3, va_rf rL3)]) hC.1 hC.2.1 d_AckBookLaw_law_856 hl (k := 4) rfl rfl (by decide) (by first | rfl | simp [z_rfc, z_ci, z_cj]) (fun ls hl => ?_)
      refine lv_goto (tgt := 23) hC.1 hC.2.1 d_AckBookLaw_law_859 (by decide) ?_
      exact ih _ _ _ _ _ _ h _ _ _ _ _ hZ (lv_sub hl [1, 2, 3, 4, 0] rfl)
def f_AckBookLaw_law (F X : Nat) (xs : Nat → Int32) (L : Nat)  (w : zW) : zR :=
  z_new w 0 9 [.null, .null, .null, .null, .int 0, .int 0, .int 0, .int 0, .int 0] fun a117 w =>
  z_nn (some a117) <|
  z_cV (f_AckBook_init F X (some a117) w) fun w =>
  z_new w 10 38 [.int 0, .int 0, .int 0, .int 0, .null, .null, .null, .null, .null, .null, .null, .null, .null, .null, .int 0, .null, .null, .null, .int 0, .int 0, .int 0, .int 0, .int 0, .int 0, .int 0, .int 0, .int 0, .int 0, .null, .null, .null, .null, .null, .null, .null, .null, .null, .null] fun a119 w =>
  z_nn (some a119) <|
  z_cV (f_AckBookModel_init F X (some a119) w) fun w =>
  z_newa w .long (1 : Int32) (fun n => (n, .inr (.inl fun _ => 0))) fun a121 w =>
  (j_AckBookLaw_law F X xs L F) (some a117) (some a119) (some a121) (0 : Int32) w
set_option maxHeartbeats 4000000 in
set_option maxRecDepth 100000 in
theorem k_law {b0 : Nat} {H0 : Heap} {D : va_G} {vu vs : Value} {X M : Nat} {l : Launch} (hT : z_TB (zGG b0 H0 D vu vs X M)) (hfl : l.flags = pinnedFlags ++ [noTraceFlag]) (hE : vu.isRef = true ∧ vs.isRef = true) {p : Program} {e : Env} {s : State} {m : MethodId} {below : List Frame} {meth : Method} {c : Code} {F bS L : Nat} {xs : Nat → Int32} (hC : z_C (zGG b0 H0 D vu vs X M) p e s m meth c code 8 R_law) (hr : meth.sig.returnType = ret) (hX : va_X bS L xs s H0 ∧ bS < b0) (hB : s.heap.size ≤ b0) {w : zW} (wE : zW) (h : f_AckBookLaw_law F X xs L w = some (.inl (some (.int (1 : Int32))), wE)) (H : Heap) (locs : List Loc) (cells slots : Nat) (ls : Array Slot) (hZ : z_Z (zGG b0 H0 D vu vs X M) room_1 s w H locs cells slots) (hl : lv_has ls 8 [(0, va_rf (some bS))]) : W p l e room_1 s m #[Value.ref bS] below meth c H locs cells slots (lw_Z below #[Value.ref bS] s) (F0 m 0 ls []) := by
  have hRt : room_1.frames = 12 ∧ room_1.locals = 458 := ⟨rfl, rfl⟩
  unfold f_AckBookLaw_law at h
  refine x_new hC hZ zc0 h t_26 t_27 t_1 (fun j hj => match j, hj with | 0, _ => rfl | 1, _ => rfl | 2, _ => rfl | 3, _ => rfl | 4, _ => rfl | 5, _ => rfl | 6, _ => rfl | 7, _ => rfl | 8, _ => rfl | _ + 9, hj => absurd hj (by omega)) d_AckBookLaw_law_0 (fun a117 w H cells slots hZ h => ?_)
  refine lv_dup hC.1 hC.2.1 d_AckBookLaw_law_3 (z_rfc _) ?_
  obtain ⟨a_, eo_, h⟩ := z_nn_spec h
  obtain ⟨w1_, o1_, hF_, ha_⟩ := z_cV_spec h
  refine x_goesN ha_ (z_goI (As := []) hC hZ eo_ (k_AckBook_init hT hfl hE _ _ hF_) t_28 t_29 t_1 t_30 rfl ⟨by decide, by decide, (by decide +kernel : (parseMethodDescriptor y_AckBook_init.desc).map (fun d => d.parameters.length) = some 0)⟩ (by rw [hRt.1]; decide) (by rw [hRt.2]; decide) hl.1 rfl (by first | exact Nat.le_of_ble_eq_true rfl | simp [z_rfc, z_ci, z_cj]) d_AckBookLaw_law_4) (fun v_ hv H locs cells slots hZ => ?_)
  obtain ⟨rfl, h⟩ := hv
  generalize w1_ = w at h hZ
  refine x_astore_n (i := 1) (lv' := [(1, va_rf (some a117)), (0, va_rf (some bS))]) hC d_AckBookLaw_law_7 rfl hl (by decide) (by first | rfl | simp [z_rfc, z_ci, z_cj]) (fun ls hl => ?_)
  refine x_new hC hZ zc10 h t_813 t_814 t_12 (fun j hj => match j, hj with | 0, _ => rfl | 1, _ => rfl | 2, _ => rfl | 3, _ => rfl | 4, _ => rfl | 5, _ => rfl | 6, _ => rfl | 7, _ => rfl | 8, _ => rfl | 9, _ => rfl | 10, _ => rfl | 11, _ => rfl | 12, _ => rfl | 13, _ => rfl | 14, _ => rfl | 15, _ => rfl | 16, _ => rfl | 17, _ => rfl | 18, _ => rfl | 19, _ => rfl | 20, _ => rfl | 21, _ => rfl | 22, _ => rfl | 23, _ => rfl | 24, _ => rfl | 25, _ => rfl | 26, _ => rfl | 27, _ => rfl | 28, _ => rfl | 29, _ => rfl | 30, _ => rfl | 31, _ => rfl | 32, _ => rfl | 33, _ => rfl | 34, _ => rfl | 35, _ => rfl | 36, _ => rfl | 37, _ => rfl | _ + 38, hj => absurd hj (by omega)) d_AckBookLaw_law_8 (fun a119 w H cells slots hZ h => ?_)
  refine lv_dup hC.1 hC.2.1 d_AckBookLaw_law_11 (z_rfc _) ?_
  obtain ⟨a_, eo_, h⟩ := z_nn_spec h
  obtain ⟨w1_, o1_, hF_, ha_⟩ := z_cV_spec h
  refine x_goesN ha_ (z_goI (As := []) hC hZ eo_ (k_AckBookModel_init hT hfl hE _ _ hF_) t_815 t_816 t_12 t_817 rfl ⟨by decide, by decide, (by decide +kernel : (parseMethodDescriptor y_AckBookModel_init.desc).map (fun d => d.parameters.length) = some 0)⟩ (by rw [hRt.1]; decide) (by rw [hRt.2]; decide) hl.1 rfl (by first | exact Nat.le_of_ble_eq_true rfl | simp [z_rfc, z_ci, z_cj]) d_AckBookLaw_law_12) (fun v_ hv H locs cells slots hZ => ?_)
  obtain ⟨rfl, h⟩ := hv
  generalize w1_ = w at h hZ
  refine x_astore_n (i := 2) (lv' := [(2, va_rf (some a119)), (1, va_rf (some a117)), (0, va_rf (some bS))]) hC d_AckBookLaw_law_15 rfl hl (by decide) (by first | rfl | simp [z_rfc, z_ci, z_cj]) (fun ls hl => ?_)
  refine lv_iconst (v := (1 : Int32)) hC.1 hC.2.1 d_AckBookLaw_law_16 (by decide) ?_
  refine x_newaJ hC hZ h t_154 d_AckBookLaw_law_17 (fun a121 w H cells slots hZ h => ?_)
  refine x_astore_n (i := 3) (lv' := [(3, va_rf (some a121)), (2, va_rf (some a119)), (1, va_rf (some a117)), (0, va_rf (some bS))]) hC d_AckBookLaw_law_19 rfl hl (by decide) (by first | rfl | simp [z_rfc, z_ci, z_cj]) (fun ls hl => ?_)
  refine lv_iconst (v := (0 : Int32)) hC.1 hC.2.1 d_AckBookLaw_law_20 (by decide) ?_
  refine lv_istore (i := 4) (lv' := [(4, .int (0 : Int32)), (3, va_rf (some a121)), (2, va_rf (some a119)), (1, va_rf (some a117)), (0, va_rf (some bS))]) hC.1 hC.2.1 d_AckBookLaw_law_21 hl (by decide) (by first | rfl | simp [z_rfc, z_ci, z_cj]) (fun ls hl => ?_)
  exact (kj_AckBookLaw_law hT hfl hE hC hr hX hB F) _ _ _ _ _ _ h _ _ _ _ _ hZ (lv_sub hl [4, 3, 2, 1, 0] rfl)
