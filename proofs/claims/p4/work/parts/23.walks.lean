def f_AckBookLaw_next (F X : Nat) (pR1 : Option Nat) (pI2 : Int32) (pI3 : Int32) (pR4 : Option Nat) (w : zW) : zR :=
  z_this w 0 pR1 <|
  z_tI (f_AckBook_next F X pR1 pI2 pI3 w) (fun v2 w =>
    z_stL w pR4 (0 : Int32) v2.toInt64 fun w =>
    some (.inl (some (.int (0 : Int32))), w))
    (fun ci w => if ci = 11 then (some (.inl (some (.int (1 : Int32))), w)) else none)
set_option maxHeartbeats 4000000 in
set_option maxRecDepth 100000 in
theorem k_AckBookLaw_next {b0 : Nat} {H0 : Heap} {D : va_G} {vu vs : Value} {X M : Nat} {l : Launch} (hT : z_TB (zGG b0 H0 D vu vs X M)) (hfl : l.flags = pinnedFlags ++ [noTraceFlag]) (hE : vu.isRef = true ∧ vs.isRef = true) {pR1 : Option Nat} {pI2 : Int32} {pI3 : Int32} {pR4 : Option Nat} (F : Nat) {w : zW} (res : zO × zW) (h : f_AckBookLaw_next F X pR1 pI2 pI3 pR4 w = some res) : z_Ct (zGG b0 H0 D vu vs X M) l y_AckBookLaw_next (.codeWith y_AckBookLaw_next c_AckBookLaw_next 5 (some FieldType.int) [(0, 10, 13, 13)]) 8 144 [va_rf pR1, .int pI2, .int pI3, va_rf pR4] w res := by
  refine z_ctW hT hfl (by decide) (by simp only [z_sl_i, z_sl_j, z_sl_r, z_sl_n]; decide) ?_
  intro p e R s m args below meth c hC hr hRc hRs hRt hnm hFr H ls hZ hl
  simp only [z_la_i, z_la_j, z_la_r, z_la_n] at hl
  have hl : lv_has ls 5 [(0, va_rf pR1), (1, .int pI2), (2, .int pI3), (3, va_rf pR4)] := hl
  unfold f_AckBookLaw_next at h
  refine x_aload_n hC d_AckBookLaw_next_0 rfl (lv_at hl 3 rfl) ?_
  refine lv_iconst (v := (0 : Int32)) hC.1 hC.2.1 d_AckBookLaw_next_1 (by decide) ?_
  refine x_aload_n hC d_AckBookLaw_next_2 rfl (lv_at hl 0 rfl) ?_
  refine lv_iload_n hC.1 hC.2.1 d_AckBookLaw_next_3 rfl (lv_at hl 1 rfl) ?_
  refine lv_iload_n hC.1 hC.2.1 d_AckBookLaw_next_4 rfl (lv_at hl 2 rfl) ?_
  obtain ⟨a_, fs_, eo_, h⟩ := z_this_spec h
  obtain ⟨w1_, o1_, hF_, ha_⟩ := z_tI_spec h
  refine x_goesT hC hFr ha_ (z_goV (As := [.int pI2, .int pI3]) hC hZ zc0 eo_ (k_AckBook_next hT hfl hE _ _ hF_) t_701 t_702 t_703 t_1 t_704 ⟨by decide, by decide, (by decide +kernel : (parseMethodDescriptor y_AckBook_next.desc).map (fun d => d.parameters.length) = some 2)⟩ (by rw [hRt.1]; decide) (by rw [hRt.2]; decide) hl.1 rfl (by first | exact Nat.le_of_ble_eq_true rfl | simp [z_rfc, z_ci, z_cj]) d_AckBookLaw_next_5) (fun v_ hv H locs cells slots hZ => ?_) (fun ci_ h => ?_)
  · obtain ⟨v2, rfl, h⟩ := hv
    generalize w1_ = w at h hZ
    refine lv_i2l hC.1 hC.2.1 d_AckBookLaw_next_8 rfl ?_
    refine x_stL hC hZ h d_AckBookLaw_next_9 (fun w H locs hZ h => ?_)
    refine lv_goto (tgt := 17) hC.1 hC.2.1 d_AckBookLaw_next_10 (by decide) ?_
    refine lv_iconst (v := (0 : Int32)) hC.1 hC.2.1 d_AckBookLaw_next_17 (by decide) ?_
    exact x_iret hC hRc hRs hZ hr rfl h d_AckBookLaw_next_18
  · by_cases hq0 : ci_ = 11
    · have h := z_ifp hq0 h
      subst hq0
      refine ⟨_, _, _, 13, rfl, ⟨⟨by decide, by decide⟩, by decide, _, t_374, Or.inl ⟨t_386, rfl⟩⟩, fun x_ H locs cells slots hZ => ?_⟩
      generalize w1_ = w at h hZ
      refine x_astore (i := 4) (lv' := [(4, va_rf (some x_)), (0, va_rf pR1), (1, .int pI2), (2, .int pI3), (3, va_rf pR4)]) hC d_AckBookLaw_next_13 hl (by decide) (by first | rfl | simp [z_rfc, z_ci, z_cj]) (fun ls hl => ?_)
      refine lv_iconst (v := (1 : Int32)) hC.1 hC.2.1 d_AckBookLaw_next_15 (by decide) ?_
      exact x_iret hC hRc hRs hZ hr rfl h d_AckBookLaw_next_16
    have h := z_ifn hq0 h
    cases h
def f_AckBook_state (F X : Nat) (a0 : Option Nat) (pI1 : Int32) (pI2 : Int32) (w : zW) : zR :=
  z_this w 0 a0 <|
  z_cR (f_AckBook_known F X a0 pI1 w) fun r2 w =>
  z_getR w 1 1 r2 fun r3 =>
  z_this w 2 r3 <|
  z_cR (f_AckBook_Sent_packet F X r3 pI2.toInt64 w) fun r5 w =>
  if r5 = none then (
    some (.inl (some (.int (-1 : Int32))), w))
  else (
    z_getI w 1 3 r2 fun v6 =>
    if v6 = 0 then (
      z_getI w 9 6 r5 fun v7 =>
      some (.inl (some (.int v7)), w))
    else (
      some (.inl (some (.int (3 : Int32))), w)))
set_option maxHeartbeats 4000000 in
set_option maxRecDepth 100000 in
theorem k_AckBook_state {b0 : Nat} {H0 : Heap} {D : va_G} {vu vs : Value} {X M : Nat} {l : Launch} (hT : z_TB (zGG b0 H0 D vu vs X M)) (hfl : l.flags = pinnedFlags ++ [noTraceFlag]) (hE : vu.isRef = true ∧ vs.isRef = true) {a0 : Option Nat} {pI1 : Int32} {pI2 : Int32} (F : Nat) {w : zW} (res : zO × zW) (h : f_AckBook_state F X a0 pI1 pI2 w = some res) : z_Ct (zGG b0 H0 D vu vs X M) l y_AckBook_state (.code y_AckBook_state c_AckBook_state 5 (some FieldType.int)) 7 121 [va_rf a0, .int pI1, .int pI2] w res := by
  refine z_ct hT hfl (by decide) (by simp only [z_sl_i, z_sl_j, z_sl_r, z_sl_n]; decide) ?_
  intro p e R s m args below meth c hC hr hRc hRs hRt hnm hFr H ls hZ hl
  simp only [z_la_i, z_la_j, z_la_r, z_la_n] at hl
  have hl : lv_has ls 5 [(0, va_rf a0), (1, .int pI1), (2, .int pI2)] := hl
  unfold f_AckBook_state at h
  refine x_aload_n hC d_AckBook_state_0 rfl (lv_at hl 0 rfl) ?_
  refine lv_iload_n hC.1 hC.2.1 d_AckBook_state_1 rfl (lv_at hl 1 rfl) ?_
  obtain ⟨a_, fs_, eo_, h⟩ := z_this_spec h
  obtain ⟨w1_, o1_, hF_, ha_⟩ := z_cR_spec h
  refine x_goes hC hRc hRs hFr ha_ (z_goV (As := [.int pI1]) hC hZ zc0 eo_ (k_AckBook_known hT hfl hE _ _ hF_) t_380 t_382 ts_AckBook_known t_1 t_383 ⟨by decide, by decide, (by decide +kernel : (parseMethodDescriptor y_AckBook_known.desc).map (fun d => d.parameters.length) = some 1)⟩ (by rw [hRt.1]; decide) (by rw [hRt.2]; decide) hl.1 rfl (by first | exact Nat.le_of_ble_eq_true rfl | simp [z_rfc, z_ci, z_cj]) d_AckBook_state_2) (fun v_ hv H locs cells slots hZ => ?_)
  obtain ⟨r2, rfl, h⟩ := hv
  generalize w1_ = w at h hZ
  refine x_astore_n (i := 3) (lv' := [(3, va_rf r2), (0, va_rf a0), (1, .int pI1), (2, .int pI2)]) hC d_AckBook_state_5 rfl hl (by decide) (by first | rfl | simp [z_rfc, z_ci, z_cj]) (fun ls hl => ?_)
  refine x_aload_n hC d_AckBook_state_6 rfl (lv_at hl 0 rfl) ?_
  refine x_getR hC hZ zc1 h (by decide) t_158 (fun _ h9 => h9) d_AckBook_state_7 (fun r3 h => ?_)
  refine lv_iload_n hC.1 hC.2.1 d_AckBook_state_10 rfl (lv_at hl 3 rfl) ?_
  refine lv_i2l hC.1 hC.2.1 d_AckBook_state_11 rfl ?_
  obtain ⟨a_, fs_, eo_, h⟩ := z_this_spec h
  obtain ⟨w1_, o1_, hF_, ha_⟩ := z_cR_spec h
  refine x_goes hC hRc hRs hFr ha_ (z_goV (As := [.long pI2.toInt64]) hC hZ zc2 eo_ (k_AckBook_Sent_packet hT hfl hE _ _ hF_) t_629 t_630 t_631 t_3 t_632 ⟨by decide, by decide, (by decide +kernel : (parseMethodDescriptor y_AckBook_Sent_packet.desc).map (fun d => d.parameters.length) = some 1)⟩ (by rw [hRt.1]; decide) (by rw [hRt.2]; decide) hl.1 rfl (by first | exact Nat.le_of_ble_eq_true rfl | simp [z_rfc, z_ci, z_cj]) d_AckBook_state_12) (fun v_ hv H locs cells slots hZ => ?_)
  obtain ⟨r5, rfl, h⟩ := hv
  generalize w1_ = w at h hZ
  refine x_astore (i := 4) (lv' := [(4, va_rf r5), (3, va_rf r2), (0, va_rf a0), (1, .int pI1), (2, .int pI2)]) hC d_AckBook_state_15 hl (by decide) (by first | rfl | simp [z_rfc, z_ci, z_cj]) (fun ls hl => ?_)
  refine x_aload hC d_AckBook_state_17 (lv_at hl 0 rfl) ?_
  refine x_ifnonnull (tgt := 24) hC d_AckBook_state_19 (by decide) (fun hc => ?_) (fun hc => ?_)
  · have h := z_ifn hc h
    refine x_aload_n hC d_AckBook_state_24 rfl (lv_at hl 1 rfl) ?_
    refine x_getI hC hZ zc1 h (by decide) t_161 (fun _ h9 => h9) d_AckBook_state_25 (fun v6 h => ?_)
    refine lv_if_eq (tgt := 35) hC.1 hC.2.1 d_AckBook_state_28 (by decide) (fun hc => ?_) (fun hc => ?_)
    · have h := z_ifp hc h
      refine x_aload hC d_AckBook_state_35 (lv_at hl 0 rfl) ?_
      refine x_getI hC hZ zc9 h (by decide) t_502 (fun _ h9 => h9) d_AckBook_state_37 (fun v7 h => ?_)
      exact x_iret hC hRc hRs hZ hr rfl h d_AckBook_state_40
    · have h := z_ifn hc h
      refine lv_iconst (v := (3 : Int32)) hC.1 hC.2.1 d_AckBook_state_31 (by decide) ?_
      refine lv_goto (tgt := 40) hC.1 hC.2.1 d_AckBook_state_32 (by decide) ?_
      exact x_iret hC hRc hRs hZ hr rfl h d_AckBook_state_40
  · have h := z_ifp hc h
    refine lv_iconst (v := (-1 : Int32)) hC.1 hC.2.1 d_AckBook_state_22 (by decide) ?_
    exact x_iret hC hRc hRs hZ hr rfl h d_AckBook_state_23
def f_AckBookLaw_state (F X : Nat) (pR1 : Option Nat) (pI2 : Int32) (pI3 : Int32) (pR4 : Option Nat) (w : zW) : zR :=
  z_this w 0 pR1 <|
  z_tI (f_AckBook_state F X pR1 pI2 pI3 w) (fun v2 w =>
    z_stL w pR4 (0 : Int32) v2.toInt64 fun w =>
    some (.inl (some (.int (0 : Int32))), w))
    (fun ci w => if ci = 11 then (some (.inl (some (.int (1 : Int32))), w)) else none)
set_option maxHeartbeats 4000000 in
set_option maxRecDepth 100000 in
theorem k_AckBookLaw_state {b0 : Nat} {H0 : Heap} {D : va_G} {vu vs : Value} {X M : Nat} {l : Launch} (hT : z_TB (zGG b0 H0 D vu vs X M)) (hfl : l.flags = pinnedFlags ++ [noTraceFlag]) (hE : vu.isRef = true ∧ vs.isRef = true) {pR1 : Option Nat} {pI2 : Int32} {pI3 : Int32} {pR4 : Option Nat} (F : Nat) {w : zW} (res : zO × zW) (h : f_AckBookLaw_state F X pR1 pI2 pI3 pR4 w = some res) : z_Ct (zGG b0 H0 D vu vs X M) l y_AckBookLaw_state (.codeWith y_AckBookLaw_state c_AckBookLaw_state 5 (some FieldType.int) [(0, 10, 13, 13)]) 8 145 [va_rf pR1, .int pI2, .int pI3, va_rf pR4] w res := by
  refine z_ctW hT hfl (by decide) (by simp only [z_sl_i, z_sl_j, z_sl_r, z_sl_n]; decide) ?_
  intro p e R s m args below meth c hC hr hRc hRs hRt hnm hFr H ls hZ hl
  simp only [z_la_i, z_la_j, z_la_r, z_la_n] at hl
  have hl : lv_has ls 5 [(0, va_rf pR1), (1, .int pI2), (2, .int pI3), (3, va_rf pR4)] := hl
  unfold f_AckBookLaw_state at h
  refine x_aload_n hC d_AckBookLaw_state_0 rfl (lv_at hl 3 rfl) ?_
  refine lv_iconst (v := (0 : Int32)) hC.1 hC.2.1 d_AckBookLaw_state_1 (by decide) ?_
  refine x_aload_n hC d_AckBookLaw_state_2 rfl (lv_at hl 0 rfl) ?_
  refine lv_iload_n hC.1 hC.2.1 d_AckBookLaw_state_3 rfl (lv_at hl 1 rfl) ?_
  refine lv_iload_n hC.1 hC.2.1 d_AckBookLaw_state_4 rfl (lv_at hl 2 rfl) ?_
  obtain ⟨a_, fs_, eo_, h⟩ := z_this_spec h
  obtain ⟨w1_, o1_, hF_, ha_⟩ := z_tI_spec h
  refine x_goesT hC hFr ha_ (z_goV (As := [.int pI2, .int pI3]) hC hZ zc0 eo_ (k_AckBook_state hT hfl hE _ _ hF_) t_712 t_713 t_714 t_1 t_715 ⟨by decide, by decide, (by decide +kernel : (parseMethodDescriptor y_AckBook_state.desc).map (fun d => d.parameters.length) = some 2)⟩ (by rw [hRt.1]; decide) (by rw [hRt.2]; decide) hl.1 rfl (by first | exact Nat.le_of_ble_eq_true rfl | simp [z_rfc, z_ci, z_cj]) d_AckBookLaw_state_5) (fun v_ hv H locs cells slots hZ => ?_) (fun ci_ h => ?_)
  · obtain ⟨v2, rfl, h⟩ := hv
    generalize w1_ = w at h hZ
    refine lv_i2l hC.1 hC.2.1 d_AckBookLaw_state_8 rfl ?_
    refine x_stL hC hZ h d_AckBookLaw_state_9 (fun w H locs hZ h => ?_)
    refine lv_goto (tgt := 17) hC.1 hC.2.1 d_AckBookLaw_state_10 (by decide) ?_
    refine lv_iconst (v := (0 : Int32)) hC.1 hC.2.1 d_AckBookLaw_state_17 (by decide) ?_
    exact x_iret hC hRc hRs hZ hr rfl h d_AckBookLaw_state_18
  · by_cases hq0 : ci_ = 11
    · have h := z_ifp hq0 h
      subst hq0
      refine ⟨_, _, _, 13, rfl, ⟨⟨by decide, by decide⟩, by decide, _, t_374, Or.inl ⟨t_386, rfl⟩⟩, fun x_ H locs cells slots hZ => ?_⟩
      generalize w1_ = w at h hZ
      refine x_astore (i := 4) (lv' := [(4, va_rf (some x_)), (0, va_rf pR1), (1, .int pI2), (2, .int pI3), (3, va_rf pR4)]) hC d_AckBookLaw_state_13 hl (by decide) (by first | rfl | simp [z_rfc, z_ci, z_cj]) (fun ls hl => ?_)
      refine lv_iconst (v := (1 : Int32)) hC.1 hC.2.1 d_AckBookLaw_state_15 (by decide) ?_
      exact x_iret hC hRc hRs hZ hr rfl h d_AckBookLaw_state_16
    have h := z_ifn hq0 h
    cases h
def j_AckBook_Arrivals_firstNotAbove (F X : Nat) : Nat → Option Nat → Int64 → Int32 → zW → zR
  | 0, _, _, _, _ => none
  | N + 1, rL0, yL1, xL3, w =>
    z_getI w 5 2 rL0 fun v1 =>
    if v1 ≤ xL3 then (
      z_getI w 5 2 rL0 fun v2 =>
      some (.inl (some (.int v2)), w))
    else (
      z_getR w 5 0 rL0 fun r3 =>
      z_len w r3 fun v4 =>
      if v4 ≤ xL3 then (
        z_getI w 5 2 rL0 fun v5 =>
        some (.inl (some (.int v5)), w))
      else (
        z_getR w 5 0 rL0 fun r6 =>
        z_ldL w r6 xL3 fun v7 =>
        if 0 < (lg_cmp v7 yL1) then (
          (j_AckBook_Arrivals_firstNotAbove F X N) rL0 yL1 (xL3 + (1 : Int32)) w)
        else (
          some (.inl (some (.int xL3)), w))))
set_option maxHeartbeats 4000000 in
set_option maxRecDepth 100000 in
theorem kj_AckBook_Arrivals_firstNotAbove {b0 : Nat} {H0 : Heap} {D : va_G} {vu vs : Value} {X M : Nat} {l : Launch} (hT : z_TB (zGG b0 H0 D vu vs X M)) (hfl : l.flags = pinnedFlags ++ [noTraceFlag]) (hE : vu.isRef = true ∧ vs.isRef = true) {p : Program} {e : Env} {R : Room} {s : State} {m : MethodId} {args : Array Value} {below : List Frame} {meth : Method} {c : Code} {w0 : zW} {F : Nat} (hC : z_C (zGG b0 H0 D vu vs X M) p e s m meth c c_AckBook_Arrivals_firstNotAbove 4 y_AckBook_Arrivals_firstNotAbove.cls) (hr : meth.sig.returnType = (some FieldType.int)) (hRc : R.cells = w0.2.1) (hRs : R.slots = w0.2.2.1) (hFr : c.exceptionTable.toList = []) (hRt : R.frames = 0 ∧ R.locals = 0) (hnm : meth.name = y_AckBook_Arrivals_firstNotAbove.name) : ∀ N : Nat, (∀ (rL0 : Option Nat) (yL1 : Int64) (xL3 : Int32) (w : zW) (res : zO × zW), j_AckBook_Arrivals_firstNotAbove F X N rL0 yL1 xL3 w = some res → ∀ (H : Heap) (locs : List Loc) (cells slots : Nat) (ls : Array Slot), z_Z (zGG b0 H0 D vu vs X M) R s w H locs cells slots → lv_has ls 4 [(0, va_rf rL0), (1, .long yL1), (3, .int xL3)] → W p l e R s m args below meth c H locs cells slots (z_Q (zGG b0 H0 D vu vs X M) below s w0 res) (F0 m 2 ls [])) := by
  intro N
  induction N with
  | zero =>
    intro rL0 yL1 xL3 w res h
    rw [j_AckBook_Arrivals_firstNotAbove] at h
    cases h
  | succ N ih =>
    intro rL0 yL1 xL3 w res h H locs cells slots ls hZ hl
    rw [j_AckBook_Arrivals_firstNotAbove] at h
    refine lv_iload_n hC.1 hC.2.1 d_AckBook_Arrivals_firstNotAbove_2 rfl (lv_at hl 2 rfl) ?_
    refine x_aload_n hC d_AckBook_Arrivals_firstNotAbove_3 rfl (lv_at hl 0 rfl) ?_
    refine x_getI hC hZ zc5 h (by decide) t_128 (fun _ h9 => h9) d_AckBook_Arrivals_firstNotAbove_4 (fun v1 h => ?_)
    refine lv_icmp_ge (tgt := 38) hC.1 hC.2.1 d_AckBook_Arrivals_firstNotAbove_7 (by decide) (fun hc => ?_) (fun hc => ?_)
    · have h := z_ifp hc h
      refine x_aload_n hC d_AckBook_Arrivals_firstNotAbove_38 rfl (lv_at hl 0 rfl) ?_
      refine x_getI hC hZ zc5 h (by decide) t_128 (fun _ h9 => h9) d_AckBook_Arrivals_firstNotAbove_39 (fun v2 h => ?_)
      exact x_iret hC hRc hRs hZ hr rfl h d_AckBook_Arrivals_firstNotAbove_42
    · have h := z_ifn hc h
      refine lv_iload_n hC.1 hC.2.1 d_AckBook_Arrivals_firstNotAbove_10 rfl (lv_at hl 2 rfl) ?_
      refine x_aload_n hC d_AckBook_Arrivals_firstNotAbove_11 rfl (lv_at hl 0 rfl) ?_
      refine x_getR hC hZ zc5 h (by decide) t_124 (fun _ h9 => h9) d_AckBook_Arrivals_firstNotAbove_12 (fun r3 h => ?_)
      refine x_len hC hZ h d_AckBook_Arrivals_firstNotAbove_15 (fun v4 h => ?_)
      refine lv_icmp_ge (tgt := 38) hC.1 hC.2.1 d_AckBook_Arrivals_firstNotAbove_16 (by decide) (fun hc => ?_) (fun hc => ?_)
      · have h := z_ifp hc h
        refine x_aload_n hC d_AckBook_Arrivals_firstNotAbove_38 rfl (lv_at hl 0 rfl) ?_
        refine x_getI hC hZ zc5 h (by decide) t_128 (fun _ h9 => h9) d_AckBook_Arrivals_firstNotAbove_39 (fun v5 h => ?_)
        exact x_iret hC hRc hRs hZ hr rfl h d_AckBook_Arrivals_firstNotAbove_42
      · have h := z_ifn hc h
        refine x_aload_n hC d_AckBook_Arrivals_firstNotAbove_19 rfl (lv_at hl 0 rfl) ?_
        refine x_getR hC hZ zc5 h (by decide) t_124 (fun _ h9 => h9) d_AckBook_Arrivals_firstNotAbove_20 (fun r6 h => ?_)
        refine lv_iload_n hC.1 hC.2.1 d_AckBook_Arrivals_firstNotAbove_23 rfl (lv_at hl 2 rfl) ?_
        refine x_ldL hC hZ h d_AckBook_Arrivals_firstNotAbove_24 (fun v7 h => ?_)
        refine lv_lload_n hC.1 hC.2.1 d_AckBook_Arrivals_firstNotAbove_25 rfl (lv_at hl 1 rfl) ?_
        refine W.lcmp hC.1 hC.2.1 d_AckBook_Arrivals_firstNotAbove_26 ?_
        refine lv_if_gt (tgt := 32) hC.1 hC.2.1 d_AckBook_Arrivals_firstNotAbove_27 (by decide) (fun hc => ?_) (fun hc => ?_)
        · have h := z_ifp hc h
          refine lv_iinc (lv' := [(3, .int (xL3 + (1 : Int32))), (0, va_rf rL0), (1, .long yL1)]) hC.1 hC.2.1 d_AckBook_Arrivals_firstNotAbove_32 hl (k := 2) rfl rfl (by decide) (by first | rfl | simp [z_rfc, z_ci, z_cj]) (fun ls hl => ?_)
          refine lv_goto (tgt := 2) hC.1 hC.2.1 d_AckBook_Arrivals_firstNotAbove_35 (by decide) ?_
          exact ih _ _ _ _ _ h _ _ _ _ _ hZ (lv_sub hl [1, 2, 0] rfl)
        · have h := z_ifn hc h
          refine lv_iload_n hC.1 hC.2.1 d_AckBook_Arrivals_firstNotAbove_30 rfl (lv_at hl 2 rfl) ?_
          exact x_iret hC hRc hRs hZ hr rfl h d_AckBook_Arrivals_firstNotAbove_31
def f_AckBook_Arrivals_firstNotAbove (F X : Nat) (a0 : Option Nat) (pJ1 : Int64) (w : zW) : zR :=
  (j_AckBook_Arrivals_firstNotAbove F X F) a0 pJ1 (0 : Int32) w
set_option maxHeartbeats 4000000 in
set_option maxRecDepth 100000 in
theorem k_AckBook_Arrivals_firstNotAbove {b0 : Nat} {H0 : Heap} {D : va_G} {vu vs : Value} {X M : Nat} {l : Launch} (hT : z_TB (zGG b0 H0 D vu vs X M)) (hfl : l.flags = pinnedFlags ++ [noTraceFlag]) (hE : vu.isRef = true ∧ vs.isRef = true) {a0 : Option Nat} {pJ1 : Int64} (F : Nat) {w : zW} (res : zO × zW) (h : f_AckBook_Arrivals_firstNotAbove F X a0 pJ1 w = some res) : z_Ct (zGG b0 H0 D vu vs X M) l y_AckBook_Arrivals_firstNotAbove (.code y_AckBook_Arrivals_firstNotAbove c_AckBook_Arrivals_firstNotAbove 4 (some FieldType.int)) 0 0 [va_rf a0, .long pJ1] w res := by
  refine z_ct hT hfl (by decide) (by simp only [z_sl_i, z_sl_j, z_sl_r, z_sl_n]; decide) ?_
  intro p e R s m args below meth c hC hr hRc hRs hRt hnm hFr H ls hZ hl
  simp only [z_la_i, z_la_j, z_la_r, z_la_n] at hl
  have hl : lv_has ls 4 [(0, va_rf a0), (1, .long pJ1)] := hl
  unfold f_AckBook_Arrivals_firstNotAbove at h
  refine lv_iconst (v := (0 : Int32)) hC.1 hC.2.1 d_AckBook_Arrivals_firstNotAbove_0 (by decide) ?_
  refine lv_istore_n (i := 3) (lv' := [(3, .int (0 : Int32)), (0, va_rf a0), (1, .long pJ1)]) hC.1 hC.2.1 d_AckBook_Arrivals_firstNotAbove_1 rfl hl (by decide) (by first | rfl | simp [z_rfc, z_ci, z_cj]) (fun ls hl => ?_)
  exact (kj_AckBook_Arrivals_firstNotAbove hT hfl hE hC hr hRc hRs hFr hRt hnm F) _ _ _ _ _ h _ _ _ _ _ hZ (lv_sub hl [1, 2, 0] rfl)
def j_AckBook_Arrivals_remove (F X : Nat) : Nat → Option Nat → Int32 → zW → zR
  | 0, _, _, _ => none
  | N + 1, rL0, xL2, w =>
    z_getI w 5 2 rL0 fun v1 =>
    if v1 ≤ xL2 then (
      some (.inl none, w))
    else (
      z_getR w 5 0 rL0 fun r2 =>
      z_getR w 5 0 rL0 fun r3 =>
      z_ldL w r3 (xL2 + (1 : Int32)) fun v4 =>
      z_stL w r2 xL2 v4 fun w =>
      z_getR w 5 1 rL0 fun r5 =>
      z_getR w 5 1 rL0 fun r6 =>
      z_ldL w r6 (xL2 + (1 : Int32)) fun v7 =>
      z_stL w r5 xL2 v7 fun w =>
      (j_AckBook_Arrivals_remove F X N) rL0 (xL2 + (1 : Int32)) w)
set_option maxHeartbeats 4000000 in
set_option maxRecDepth 100000 in
theorem kj_AckBook_Arrivals_remove {b0 : Nat} {H0 : Heap} {D : va_G} {vu vs : Value} {X M : Nat} {l : Launch} (hT : z_TB (zGG b0 H0 D vu vs X M)) (hfl : l.flags = pinnedFlags ++ [noTraceFlag]) (hE : vu.isRef = true ∧ vs.isRef = true) {p : Program} {e : Env} {R : Room} {s : State} {m : MethodId} {args : Array Value} {below : List Frame} {meth : Method} {c : Code} {w0 : zW} {F : Nat} (hC : z_C (zGG b0 H0 D vu vs X M) p e s m meth c c_AckBook_Arrivals_remove 3 y_AckBook_Arrivals_remove.cls) (hr : meth.sig.returnType = (none)) (hRc : R.cells = w0.2.1) (hRs : R.slots = w0.2.2.1) (hFr : c.exceptionTable.toList = []) (hRt : R.frames = 0 ∧ R.locals = 0) (hnm : meth.name = y_AckBook_Arrivals_remove.name) : ∀ N : Nat, (∀ (rL0 : Option Nat) (xL2 : Int32) (w : zW) (res : zO × zW), j_AckBook_Arrivals_remove F X N rL0 xL2 w = some res → ∀ (H : Heap) (locs : List Loc) (cells slots : Nat) (ls : Array Slot), z_Z (zGG b0 H0 D vu vs X M) R s w H locs cells slots → lv_has ls 3 [(0, va_rf rL0), (2, .int xL2)] → W p l e R s m args below meth c H locs cells slots (z_Q (zGG b0 H0 D vu vs X M) below s w0 res) (F0 m 12 ls [])) := by
  intro N
  induction N with
  | zero =>
    intro rL0 xL2 w res h
    rw [j_AckBook_Arrivals_remove] at h
    cases h
  | succ N ih =>
    intro rL0 xL2 w res h H locs cells slots ls hZ hl
    rw [j_AckBook_Arrivals_remove] at h
    refine lv_iload_n hC.1 hC.2.1 d_AckBook_Arrivals_remove_12 rfl (lv_at hl 1 rfl) ?_
    refine x_aload_n hC d_AckBook_Arrivals_remove_13 rfl (lv_at hl 0 rfl) ?_
    refine x_getI hC hZ zc5 h (by decide) t_128 (fun _ h9 => h9) d_AckBook_Arrivals_remove_14 (fun v1 h => ?_)
    refine lv_icmp_ge (tgt := 54) hC.1 hC.2.1 d_AckBook_Arrivals_remove_17 (by decide) (fun hc => ?_) (fun hc => ?_)
    · have h := z_ifp hc h
      exact x_vret hC hRc hRs hZ hr h d_AckBook_Arrivals_remove_54
    · have h := z_ifn hc h
      refine x_aload_n hC d_AckBook_Arrivals_remove_20 rfl (lv_at hl 0 rfl) ?_
      refine x_getR hC hZ zc5 h (by decide) t_124 (fun _ h9 => h9) d_AckBook_Arrivals_remove_21 (fun r2 h => ?_)
      refine lv_iload_n hC.1 hC.2.1 d_AckBook_Arrivals_remove_24 rfl (lv_at hl 1 rfl) ?_
      refine x_aload_n hC d_AckBook_Arrivals_remove_25 rfl (lv_at hl 0 rfl) ?_
      refine x_getR hC hZ zc5 h (by decide) t_124 (fun _ h9 => h9) d_AckBook_Arrivals_remove_26 (fun r3 h => ?_)
      refine lv_iload_n hC.1 hC.2.1 d_AckBook_Arrivals_remove_29 rfl (lv_at hl 1 rfl) ?_
      refine lv_iconst (v := (1 : Int32)) hC.1 hC.2.1 d_AckBook_Arrivals_remove_30 (by decide) ?_
      refine lv_iadd hC.1 hC.2.1 d_AckBook_Arrivals_remove_31 ?_
      refine x_ldL hC hZ h d_AckBook_Arrivals_remove_32 (fun v4 h => ?_)
      refine x_stL hC hZ h d_AckBook_Arrivals_remove_33 (fun w H locs hZ h => ?_)
      refine x_aload_n hC d_AckBook_Arrivals_remove_34 rfl (lv_at hl 0 rfl) ?_
      refine x_getR hC hZ zc5 h (by decide) t_126 (fun _ h9 => h9) d_AckBook_Arrivals_remove_35 (fun r5 h => ?_)
      refine lv_iload_n hC.1 hC.2.1 d_AckBook_Arrivals_remove_38 rfl (lv_at hl 1 rfl) ?_
      refine x_aload_n hC d_AckBook_Arrivals_remove_39 rfl (lv_at hl 0 rfl) ?_
      refine x_getR hC hZ zc5 h (by decide) t_126 (fun _ h9 => h9) d_AckBook_Arrivals_remove_40 (fun r6 h => ?_)
      refine lv_iload_n hC.1 hC.2.1 d_AckBook_Arrivals_remove_43 rfl (lv_at hl 1 rfl) ?_
      refine lv_iconst (v := (1 : Int32)) hC.1 hC.2.1 d_AckBook_Arrivals_remove_44 (by decide) ?_
      refine lv_iadd hC.1 hC.2.1 d_AckBook_Arrivals_remove_45 ?_
      refine x_ldL hC hZ h d_AckBook_Arrivals_remove_46 (fun v7 h => ?_)
      refine x_stL hC hZ h d_AckBook_Arrivals_remove_47 (fun w H locs hZ h => ?_)
      refine lv_iinc (lv' := [(2, .int (xL2 + (1 : Int32))), (0, va_rf rL0)]) hC.1 hC.2.1 d_AckBook_Arrivals_remove_48 hl (k := 1) rfl rfl (by decide) (by first | rfl | simp [z_rfc, z_ci, z_cj]) (fun ls hl => ?_)
      refine lv_goto (tgt := 12) hC.1 hC.2.1 d_AckBook_Arrivals_remove_51 (by decide) ?_
      exact ih _ _ _ _ h _ _ _ _ _ hZ (lv_sub hl [1, 0] rfl)
def f_AckBook_Arrivals_remove (F X : Nat) (a0 : Option Nat) (pI1 : Int32) (w : zW) : zR :=
  z_getI w 5 2 a0 fun v8 =>
  z_put w 5 2 a0 (.int (v8 - (1 : Int32))) fun w =>
  (j_AckBook_Arrivals_remove F X F) a0 pI1 w
set_option maxHeartbeats 4000000 in
set_option maxRecDepth 100000 in
theorem k_AckBook_Arrivals_remove {b0 : Nat} {H0 : Heap} {D : va_G} {vu vs : Value} {X M : Nat} {l : Launch} (hT : z_TB (zGG b0 H0 D vu vs X M)) (hfl : l.flags = pinnedFlags ++ [noTraceFlag]) (hE : vu.isRef = true ∧ vs.isRef = true) {a0 : Option Nat} {pI1 : Int32} (F : Nat) {w : zW} (res : zO × zW) (h : f_AckBook_Arrivals_remove F X a0 pI1 w = some res) : z_Ct (zGG b0 H0 D vu vs X M) l y_AckBook_Arrivals_remove (.code y_AckBook_Arrivals_remove c_AckBook_Arrivals_remove 3 (none)) 0 0 [va_rf a0, .int pI1] w res := by
  refine z_ct hT hfl (by decide) (by simp only [z_sl_i, z_sl_j, z_sl_r, z_sl_n]; decide) ?_
  intro p e R s m args below meth c hC hr hRc hRs hRt hnm hFr H ls hZ hl
  simp only [z_la_i, z_la_j, z_la_r, z_la_n] at hl
  have hl : lv_has ls 3 [(0, va_rf a0), (1, .int pI1)] := hl
  unfold f_AckBook_Arrivals_remove at h
  refine x_aload_n hC d_AckBook_Arrivals_remove_0 rfl (lv_at hl 0 rfl) ?_
  refine lv_dup hC.1 hC.2.1 d_AckBook_Arrivals_remove_1 (z_rfc _) ?_
  refine x_getI hC hZ zc5 h (by decide) t_128 (fun _ h9 => h9) d_AckBook_Arrivals_remove_2 (fun v8 h => ?_)
  refine lv_iconst (v := (1 : Int32)) hC.1 hC.2.1 d_AckBook_Arrivals_remove_5 (by decide) ?_
  refine lv_isub hC.1 hC.2.1 d_AckBook_Arrivals_remove_6 ?_
  refine x_put hC hZ zc5 h (by decide) t_128 (fun _ h9 => h9) rfl rfl rfl rfl d_AckBook_Arrivals_remove_7 (fun w H locs hZ h => ?_)
  refine lv_iload_n hC.1 hC.2.1 d_AckBook_Arrivals_remove_10 rfl (lv_at hl 1 rfl) ?_
  refine lv_istore_n (i := 2) (lv' := [(2, .int pI1), (0, va_rf a0), (1, .int pI1)]) hC.1 hC.2.1 d_AckBook_Arrivals_remove_11 rfl hl (by decide) (by first | rfl | simp [z_rfc, z_ci, z_cj]) (fun ls hl => ?_)
  exact (kj_AckBook_Arrivals_remove hT hfl hE hC hr hRc hRs hFr hRt hnm F) _ _ _ _ h _ _ _ _ _ hZ (lv_sub hl [1, 0] rfl)
def j_AckBook_Arrivals_insert (F X : Nat) : Nat → Option Nat → Int64 → Int32 → Int32 → zW → zR
  | 0, _, _, _, _, _ => none
  | N + 1, rL0, yL1, xL3, xL4, w =>
    if xL4 ≤ xL3 then (
      z_getR w 5 0 rL0 fun r1 =>
      z_stL w r1 xL3 yL1 fun w =>
      z_getR w 5 1 rL0 fun r2 =>
      z_stL w r2 xL3 yL1 fun w =>
      z_getI w 5 2 rL0 fun v3 =>
      z_put w 5 2 rL0 (.int (v3 + (1 : Int32))) fun w =>
      z_getI w 5 2 rL0 fun v4 =>
      if v4 ≤ (64 : Int32) then (
        some (.inl none, w))
      else (
        z_getI w 5 2 rL0 fun v5 =>
        z_put w 5 2 rL0 (.int (v5 - (1 : Int32))) fun w =>
        z_getR w 5 1 rL0 fun r6 =>
        z_getI w 5 2 rL0 fun v7 =>
        z_ldL w r6 v7 fun v8 =>
        z_put w 5 3 rL0 (.long (v8 + (1 : Int64))) fun w =>
        some (.inl none, w)))
    else (
      z_getR w 5 0 rL0 fun r9 =>
      z_getR w 5 0 rL0 fun r10 =>
      z_ldL w r10 (xL4 - (1 : Int32)) fun v11 =>
      z_stL w r9 xL4 v11 fun w =>
      z_getR w 5 1 rL0 fun r12 =>
      z_getR w 5 1 rL0 fun r13 =>
      z_ldL w r13 (xL4 - (1 : Int32)) fun v14 =>
      z_stL w r12 xL4 v14 fun w =>
      (j_AckBook_Arrivals_insert F X N) rL0 yL1 xL3 (xL4 + (-1 : Int32)) w)
set_option maxHeartbeats 4000000 in
set_option maxRecDepth 100000 in
theorem kj_AckBook_Arrivals_insert {b0 : Nat} {H0 : Heap} {D : va_G} {vu vs : Value} {X M : Nat} {l : Launch} (hT : z_TB (zGG b0 H0 D vu vs X M)) (hfl : l.flags = pinnedFlags ++ [noTraceFlag]) (hE : vu.isRef = true ∧ vs.isRef = true) {p : Program} {e : Env} {R : Room} {s : State} {m : MethodId} {args : Array Value} {below : List Frame} {meth : Method} {c : Code} {w0 : zW} {F : Nat} (hC : z_C (zGG b0 H0 D vu vs X M) p e s m meth c c_AckBook_Arrivals_insert 5 y_AckBook_Arrivals_insert.cls) (hr : meth.sig.returnType = (none)) (hRc : R.cells = w0.2.1) (hRs : R.slots = w0.2.2.1) (hFr : c.exceptionTable.toList = []) (hRt : R.frames = 0 ∧ R.locals = 0) (hnm : meth.name = y_AckBook_Arrivals_insert.name) : ∀ N : Nat, (∀ (rL0 : Option Nat) (yL1 : Int64) (xL3 : Int32) (xL4 : Int32) (w : zW) (res : zO × zW), j_AckBook_Arrivals_insert F X N rL0 yL1 xL3 xL4 w = some res → ∀ (H : Heap) (locs : List Loc) (cells slots : Nat) (ls : Array Slot), z_Z (zGG b0 H0 D vu vs X M) R s w H locs cells slots → lv_has ls 5 [(0, va_rf rL0), (1, .long yL1), (3, .int xL3), (4, .int xL4)] → W p l e R s m args below meth c H locs cells slots (z_Q (zGG b0 H0 D vu vs X M) below s w0 res) (F0 m 6 ls [])) := by
  intro N
  induction N with
  | zero =>
    intro rL0 yL1 xL3 xL4 w res h
    rw [j_AckBook_Arrivals_insert] at h
    cases h
  | succ N ih =>
    intro rL0 yL1 xL3 xL4 w res h H locs cells slots ls hZ hl
    rw [j_AckBook_Arrivals_insert] at h
    refine lv_iload hC.1 hC.2.1 d_AckBook_Arrivals_insert_6 (lv_at hl 3 rfl) ?_
    refine lv_iload_n hC.1 hC.2.1 d_AckBook_Arrivals_insert_8 rfl (lv_at hl 2 rfl) ?_
    refine lv_icmp_le (tgt := 50) hC.1 hC.2.1 d_AckBook_Arrivals_insert_9 (by decide) (fun hc => ?_) (fun hc => ?_)
    · have h := z_ifp hc h
      refine x_aload_n hC d_AckBook_Arrivals_insert_50 rfl (lv_at hl 0 rfl) ?_
      refine x_getR hC hZ zc5 h (by decide) t_124 (fun _ h9 => h9) d_AckBook_Arrivals_insert_51 (fun r1 h => ?_)
      refine lv_iload_n hC.1 hC.2.1 d_AckBook_Arrivals_insert_54 rfl (lv_at hl 2 rfl) ?_
      refine lv_lload_n hC.1 hC.2.1 d_AckBook_Arrivals_insert_55 rfl (lv_at hl 1 rfl) ?_
      refine x_stL hC hZ h d_AckBook_Arrivals_insert_56 (fun w H locs hZ h => ?_)
      refine x_aload_n hC d_AckBook_Arrivals_insert_57 rfl (lv_at hl 0 rfl) ?_
      refine x_getR hC hZ zc5 h (by decide) t_126 (fun _ h9 => h9) d_AckBook_Arrivals_insert_58 (fun r2 h => ?_)
      refine lv_iload_n hC.1 hC.2.1 d_AckBook_Arrivals_insert_61 rfl (lv_at hl 2 rfl) ?_
      refine lv_lload_n hC.1 hC.2.1 d_AckBook_Arrivals_insert_62 rfl (lv_at hl 1 rfl) ?_
      refine x_stL hC hZ h d_AckBook_Arrivals_insert_63 (fun w H locs hZ h => ?_)
      refine x_aload_n hC d_AckBook_Arrivals_insert_64 rfl (lv_at hl 0 rfl) ?_
      refine lv_dup hC.1 hC.2.1 d_AckBook_Arrivals_insert_65 (z_rfc _) ?_
      refine x_getI hC hZ zc5 h (by decide) t_128 (fun _ h9 => h9) d_AckBook_Arrivals_insert_66 (fun v3 h => ?_)
      refine lv_iconst (v := (1 : Int32)) hC.1 hC.2.1 d_AckBook_Arrivals_insert_69 (by decide) ?_
      refine lv_iadd hC.1 hC.2.1 d_AckBook_Arrivals_insert_70 ?_
      refine x_put hC hZ zc5 h (by decide) t_128 (fun _ h9 => h9) rfl rfl rfl rfl d_AckBook_Arrivals_insert_71 (fun w H locs hZ h => ?_)
      refine x_aload_n hC d_AckBook_Arrivals_insert_74 rfl (lv_at hl 0 rfl) ?_
      refine x_getI hC hZ zc5 h (by decide) t_128 (fun _ h9 => h9) d_AckBook_Arrivals_insert_75 (fun v4 h => ?_)
      refine lv_bipush (v := (64 : Int32)) hC.1 hC.2.1 d_AckBook_Arrivals_insert_78 (by decide) ?_
      refine lv_icmp_le (tgt := 108) hC.1 hC.2.1 d_AckBook_Arrivals_insert_80 (by decide) (fun hc => ?_) (fun hc => ?_)
      · have h := z_ifp hc h
        exact x_vret hC hRc hRs hZ hr h d_AckBook_Arrivals_insert_108
      · have h := z_ifn hc h
        refine x_aload_n hC d_AckBook_Arrivals_insert_83 rfl (lv_at hl 0 rfl) ?_
        refine lv_dup hC.1 hC.2.1 d_AckBook_Arrivals_insert_84 (z_rfc _) ?_
        refine x_getI hC hZ zc5 h (by decide) t_128 (fun _ h9 => h9) d_AckBook_Arrivals_insert_85 (fun v5 h => ?_)
        refine lv_iconst (v := (1 : Int32)) hC.1 hC.2.1 d_AckBook_Arrivals_insert_88 (by decide) ?_
        refine lv_isub hC.1 hC.2.1 d_AckBook_Arrivals_insert_89 ?_
        refine x_put hC hZ zc5 h (by decide) t_128 (fun _ h9 => h9) rfl rfl rfl rfl d_AckBook_Arrivals_insert_90 (fun w H locs hZ h => ?_)
        refine x_aload_n hC d_AckBook_Arrivals_insert_93 rfl (lv_at hl 0 rfl) ?_
        refine x_aload_n hC d_AckBook_Arrivals_insert_94 rfl (lv_at hl 0 rfl) ?_
        refine x_getR hC hZ zc5 h (by decide) t_126 (fun _ h9 => h9) d_AckBook_Arrivals_insert_95 (fun r6 h => ?_)
        refine x_aload_n hC d_AckBook_Arrivals_insert_98 rfl (lv_at hl 0 rfl) ?_
        refine x_getI hC hZ zc5 h (by decide) t_128 (fun _ h9 => h9) d_AckBook_Arrivals_insert_99 (fun v7 h => ?_)
        refine x_ldL hC hZ h d_AckBook_Arrivals_insert_102 (fun v8 h => ?_)
        refine lv_lconst (v := (1 : Int64)) hC.1 hC.2.1 d_AckBook_Arrivals_insert_103 (by decide) ?_
        refine lv_ladd hC.1 hC.2.1 d_AckBook_Arrivals_insert_104 ?_
        refine x_put hC hZ zc5 h (by decide) t_130 (fun _ h9 => h9) rfl rfl rfl rfl d_AckBook_Arrivals_insert_105 (fun w H locs hZ h => ?_)
        exact x_vret hC hRc hRs hZ hr h d_AckBook_Arrivals_insert_108
    · have h := z_ifn hc h
      refine x_aload_n hC d_AckBook_Arrivals_insert_12 rfl (lv_at hl 0 rfl) ?_
      refine x_getR hC hZ zc5 h (by decide) t_124 (fun _ h9 => h9) d_AckBook_Arrivals_insert_13 (fun r9 h => ?_)
      refine lv_iload hC.1 hC.2.1 d_AckBook_Arrivals_insert_16 (lv_at hl 3 rfl) ?_
      refine x_aload_n hC d_AckBook_Arrivals_insert_18 rfl (lv_at hl 0 rfl) ?_
      refine x_getR hC hZ zc5 h (by decide) t_124 (fun _ h9 => h9) d_AckBook_Arrivals_insert_19 (fun r10 h => ?_)
      refine lv_iload hC.1 hC.2.1 d_AckBook_Arrivals_insert_22 (lv_at hl 3 rfl) ?_
      refine lv_iconst (v := (1 : Int32)) hC.1 hC.2.1 d_AckBook_Arrivals_insert_24 (by decide) ?_
      refine lv_isub hC.1 hC.2.1 d_AckBook_Arrivals_insert_25 ?_
      refine x_ldL hC hZ h d_AckBook_Arrivals_insert_26 (fun v11 h => ?_)
      refine x_stL hC hZ h d_AckBook_Arrivals_insert_27 (fun w H locs hZ h => ?_)
      refine x_aload_n hC d_AckBook_Arrivals_insert_28 rfl (lv_at hl 0 rfl) ?_
      refine x_getR hC hZ zc5 h (by decide) t_126 (fun _ h9 => h9) d_AckBook_Arrivals_insert_29 (fun r12 h => ?_)
      refine lv_iload hC.1 hC.2.1 d_AckBook_Arrivals_insert_32 (lv_at hl 3 rfl) ?_
      refine x_aload_n hC d_AckBook_Arrivals_insert_34 rfl (lv_at hl 0 rfl) ?_
      refine x_getR hC hZ zc5 h (by decide) t_126 (fun _ h9 => h9) d_AckBook_Arrivals_insert_35 (fun r13 h => ?_)
      refine lv_iload hC.1 hC.2.1 d_AckBook_Arrivals_insert_38 (lv_at hl 3 rfl) ?_
      refine lv_iconst (v := (1 : Int32)) hC.1 hC.2.1 d_AckBook_Arrivals_insert_40 (by decide) ?_
      refine lv_isub hC.1 hC.2.1 d_AckBook_Arrivals_insert_41 ?_
      refine x_ldL hC hZ h d_AckBook_Arrivals_insert_42 (fun v14 h => ?_)
      refine x_stL hC hZ h d_AckBook_Arrivals_insert_43 (fun w H locs hZ h => ?_)
      refine lv_iinc (lv' := [(4, .int (xL4 + (-1 : Int32))), (0, va_rf rL0), (1, .long yL1), (3, .int xL3)]) hC.1 hC.2.1 d_AckBook_Arrivals_insert_44 hl (k := 3) rfl rfl (by decide) (by first | rfl | simp [z_rfc, z_ci, z_cj]) (fun ls hl => ?_)
      refine lv_goto (tgt := 6) hC.1 hC.2.1 d_AckBook_Arrivals_insert_47 (by decide) ?_
      exact ih _ _ _ _ _ _ h _ _ _ _ _ hZ (lv_sub hl [1, 2, 3, 0] rfl)
def f_AckBook_Arrivals_insert (F X : Nat) (a0 : Option Nat) (pJ1 : Int64) (pI2 : Int32) (w : zW) : zR :=
  z_getI w 5 2 a0 fun v15 =>
  (j_AckBook_Arrivals_insert F X F) a0 pJ1 pI2 v15 w
set_option maxHeartbeats 4000000 in
set_option maxRecDepth 100000 in
theorem k_AckBook_Arrivals_insert {b0 : Nat} {H0 : Heap} {D : va_G} {vu vs : Value} {X M : Nat} {l : Launch} (hT : z_TB (zGG b0 H0 D vu vs X M)) (hfl : l.flags = pinnedFlags ++ [noTraceFlag]) (hE : vu.isRef = true ∧ vs.isRef = true) {a0 : Option Nat} {pJ1 : Int64} {pI2 : Int32} (F : Nat) {w : zW} (res : zO × zW) (h : f_AckBook_Arrivals_insert F X a0 pJ1 pI2 w = some res) : z_Ct (zGG b0 H0 D vu vs X M) l y_AckBook_Arrivals_insert (.code y_AckBook_Arrivals_insert c_AckBook_Arrivals_insert 5 (none)) 0 0 [va_rf a0, .long pJ1, .int pI2] w res := by
  refine z_ct hT hfl (by decide) (by simp only [z_sl_i, z_sl_j, z_sl_r, z_sl_n]; decide) ?_
  intro p e R s m args below meth c hC hr hRc hRs hRt hnm hFr H ls hZ hl
  simp only [z_la_i, z_la_j, z_la_r, z_la_n] at hl
  have hl : lv_has ls 5 [(0, va_rf a0), (1, .long pJ1), (3, .int pI2)] := hl
  unfold f_AckBook_Arrivals_insert at h
  refine x_aload_n hC d_AckBook_Arrivals_insert_0 rfl (lv_at hl 0 rfl) ?_
  refine x_getI hC hZ zc5 h (by decide) t_128 (fun _ h9 => h9) d_AckBook_Arrivals_insert_1 (fun v15 h => ?_)
  refine lv_istore (i := 4) (lv' := [(4, .int v15), (0, va_rf a0), (1, .long pJ1), (3, .int pI2)]) hC.1 hC.2.1 d_AckBook_Arrivals_insert_4 hl (by decide) (by first | rfl | simp [z_rfc, z_ci, z_cj]) (fun ls hl => ?_)
  exact (kj_AckBook_Arrivals_insert hT hfl hE hC hr hRc hRs hFr hRt hnm F) _ _ _ _ _ _ h _ _ _ _ _ hZ (lv_sub hl [1, 2, 3, 0] rfl)
def q_AckBook_Arrivals_keep_86 (F X : Nat) (rL0 : Option Nat) (yL1 : Int64) (xL3 : Int32) (xL4 : Int32) (xL5 : Int32) (w : zW) : zR :=
  if xL4 = 0 then (
    if xL5 = 0 then (
      z_this w 5 rL0 <|
      z_cV (f_AckBook_Arrivals_insert F X rL0 yL1 xL3 w) fun w =>
      some (.inl none, w))
    else (
      z_getR w 5 1 rL0 fun r2 =>
      z_stL w r2 xL3 yL1 fun w =>
      some (.inl none, w)))
  else (
    z_getR w 5 0 rL0 fun r3 =>
    z_stL w r3 (xL3 - (1 : Int32)) yL1 fun w =>
    some (.inl none, w))
set_option maxHeartbeats 4000000 in
set_option maxRecDepth 100000 in
theorem kq_AckBook_Arrivals_keep_86 {b0 : Nat} {H0 : Heap} {D : va_G} {vu vs : Value} {X M : Nat} {l : Launch} (hT : z_TB (zGG b0 H0 D vu vs X M)) (hfl : l.flags = pinnedFlags ++ [noTraceFlag]) (hE : vu.isRef = true ∧ vs.isRef = true) {p : Program} {e : Env} {R : Room} {s : State} {m : MethodId} {args : Array Value} {below : List Frame} {meth : Method} {c : Code} {w0 : zW} {F : Nat} (hC : z_C (zGG b0 H0 D vu vs X M) p e s m meth c c_AckBook_Arrivals_keep 6 y_AckBook_Arrivals_keep.cls) (hr : meth.sig.returnType = (none)) (hRc : R.cells = w0.2.1) (hRs : R.slots = w0.2.2.1) (hFr : c.exceptionTable.toList = []) (hRt : R.frames = 1 ∧ R.locals = 24) (hnm : meth.name = y_AckBook_Arrivals_keep.name) (rL0 : Option Nat) (yL1 : Int64) (xL3 : Int32) (xL4 : Int32) (xL5 : Int32) (w : zW) (res : zO × zW) (h : q_AckBook_Arrivals_keep_86 F X rL0 yL1 xL3 xL4 xL5 w = some res) (H : Heap) (locs : List Loc) (cells slots : Nat) (ls : Array Slot) (hZ : z_Z (zGG b0 H0 D vu vs X M) R s w H locs cells slots) (hl : lv_has ls 6 [(0, va_rf rL0), (1, .long yL1), (3, .int xL3), (4, .int xL4), (5, .int xL5)]) : W p l e R s m args below meth c H locs cells slots (z_Q (zGG b0 H0 D vu vs X M) below s w0 res) (F0 m 86 ls []) := by
  unfold q_AckBook_Arrivals_keep_86 at h
  refine lv_iload hC.1 hC.2.1 d_AckBook_Arrivals_keep_86 (lv_at hl 3 rfl) ?_
  refine lv_if_eq (tgt := 103) hC.1 hC.2.1 d_AckBook_Arrivals_keep_88 (by decide) (fun hc => ?_) (fun hc => ?_)
  · have h := z_ifp hc h
    refine lv_iload hC.1 hC.2.1 d_AckBook_Arrivals_keep_103 (lv_at hl 4 rfl) ?_
    refine lv_if_eq (tgt := 118) hC.1 hC.2.1 d_AckBook_Arrivals_keep_105 (by decide) (fun hc => ?_) (fun hc => ?_)
    · have h := z_ifp hc h
      refine x_aload_n hC d_AckBook_Arrivals_keep_118 rfl (lv_at hl 0 rfl) ?_
      refine lv_lload_n hC.1 hC.2.1 d_AckBook_Arrivals_keep_119 rfl (lv_at hl 1 rfl) ?_
      refine lv_iload_n hC.1 hC.2.1 d_AckBook_Arrivals_keep_120 rfl (lv_at hl 2 rfl) ?_
      obtain ⟨a_, fs_, eo_, h⟩ := z_this_spec h
      obtain ⟨w1_, o1_, hF_, ha_⟩ := z_cV_spec h
      refine x_goes hC hRc hRs hFr ha_ (z_goV (As := [.long yL1, .int xL3]) hC hZ zc5 eo_ (k_AckBook_Arrivals_insert hT hfl hE _ _ hF_) t_742 t_744 ts_AckBook_Arrivals_insert t_8 t_745 ⟨by decide, by decide, (by decide +kernel : (parseMethodDescriptor y_AckBook_Arrivals_insert.desc).map (fun d => d.parameters.length) = some 2)⟩ (by rw [hRt.1]; decide) (by rw [hRt.2]; decide) hl.1 rfl (by first | exact Nat.le_of_ble_eq_true rfl | simp [z_rfc, z_ci, z_cj]) d_AckBook_Arrivals_keep_121) (fun v_ hv H locs cells slots hZ => ?_)
      obtain ⟨rfl, h⟩ := hv
      generalize w1_ = w at h hZ
      exact x_vret hC hRc hRs hZ hr h d_AckBook_Arrivals_keep_124
    · have h := z_ifn hc h
      refine x_aload_n hC d_AckBook_Arrivals_keep_108 rfl (lv_at hl 0 rfl) ?_
      refine x_getR hC hZ zc5 h (by decide) t_126 (fun _ h9 => h9) d_AckBook_Arrivals_keep_109 (fun r2 h => ?_)
      refine lv_iload_n hC.1 hC.2.1 d_AckBook_Arrivals_keep_112 rfl (lv_at hl 2 rfl) ?_
      refine lv_lload_n hC.1 hC.2.1 d_AckBook_Arrivals_keep_113 rfl (lv_at hl 1 rfl) ?_
      refine x_stL hC hZ h d_AckBook_Arrivals_keep_114 (fun w H locs hZ h => ?_)
      refine lv_goto (tgt := 124) hC.1 hC.2.1 d_AckBook_Arrivals_keep_115 (by decide) ?_
      exact x_vret hC hRc hRs hZ hr h d_AckBook_Arrivals_keep_124
  · have h := z_ifn hc h
    refine x_aload_n hC d_AckBook_Arrivals_keep_91 rfl (lv_at hl 0 rfl) ?_
    refine x_getR hC hZ zc5 h (by decide) t_124 (fun _ h9 => h9) d_AckBook_Arrivals_keep_92 (fun r3 h => ?_)
    refine lv_iload_n hC.1 hC.2.1 d_AckBook_Arrivals_keep_95 rfl (lv_at hl 2 rfl) ?_
    refine lv_iconst (v := (1 : Int32)) hC.1 hC.2.1 d_AckBook_Arrivals_keep_96 (by decide) ?_
    refine lv_isub hC.1 hC.2.1 d_AckBook_Arrivals_keep_97 ?_
    refine lv_lload_n hC.1 hC.2.1 d_AckBook_Arrivals_keep_98 rfl (lv_at hl 1 rfl) ?_
    refine x_stL hC hZ h d_AckBook_Arrivals_keep_99 (fun w H locs hZ h => ?_)
    refine lv_goto (tgt := 124) hC.1 hC.2.1 d_AckBook_Arrivals_keep_100 (by decide) ?_
    exact x_vret hC hRc hRs hZ hr h d_AckBook_Arrivals_keep_124
def q_AckBook_Arrivals_keep_52 (F X : Nat) (rL0 : Option Nat) (yL1 : Int64) (xL3 : Int32) (xL4 : Int32) (xS0 : Int32) (w : zW) : zR :=
  if xL4 = 0 then (
    q_AckBook_Arrivals_keep_86 F X rL0 yL1 xL3 xL4 xS0 w)
  else (
    if xS0 = 0 then (
      q_AckBook_Arrivals_keep_86 F X rL0 yL1 xL3 xL4 xS0 w)
    else (
      z_getR w 5 0 rL0 fun r4 =>
      z_getR w 5 0 rL0 fun r5 =>
      z_ldL w r5 xL3 fun v6 =>
      z_stL w r4 (xL3 - (1 : Int32)) v6 fun w =>
      z_this w 5 rL0 <|
      z_cV (f_AckBook_Arrivals_remove F X rL0 xL3 w) fun w =>
      some (.inl none, w)))
set_option maxHeartbeats 4000000 in
set_option maxRecDepth 100000 in
theorem kq_AckBook_Arrivals_keep_52 {b0 : Nat} {H0 : Heap} {D : va_G} {vu vs : Value} {X M : Nat} {l : Launch} (hT : z_TB (zGG b0 H0 D vu vs X M)) (hfl : l.flags = pinnedFlags ++ [noTraceFlag]) (hE : vu.isRef = true ∧ vs.isRef = true) {p : Program} {e : Env} {R : Room} {s : State} {m : MethodId} {args : Array Value} {below : List Frame} {meth : Method} {c : Code} {w0 : zW} {F : Nat} (hC : z_C (zGG b0 H0 D vu vs X M) p e s m meth c c_AckBook_Arrivals_keep 6 y_AckBook_Arrivals_keep.cls) (hr : meth.sig.returnType = (none)) (hRc : R.cells = w0.2.1) (hRs : R.slots = w0.2.2.1) (hFr : c.exceptionTable.toList = []) (hRt : R.frames = 1 ∧ R.locals = 24) (hnm : meth.name = y_AckBook_Arrivals_keep.name) (rL0 : Option Nat) (yL1 : Int64) (xL3 : Int32) (xL4 : Int32) (xS0 : Int32) (w : zW) (res : zO × zW) (h : q_AckBook_Arrivals_keep_52 F X rL0 yL1 xL3 xL4 xS0 w = some res) (H : Heap) (locs : List Loc) (cells slots : Nat) (ls : Array Slot) (hZ : z_Z (zGG b0 H0 D vu vs X M) R s w H locs cells slots) (hl : lv_has ls 6 [(0, va_rf rL0), (1, .long yL1), (3, .int xL3), (4, .int xL4)]) : W p l e R s m args below meth c H locs cells slots (z_Q (zGG b0 H0 D vu vs X M) below s w0 res) (F0 m 52 ls [.int xS0]) := by
  unfold q_AckBook_Arrivals_keep_52 at h
  refine lv_istore (i := 5) (lv' := [(5, .int xS0), (0, va_rf rL0), (1, .long yL1), (3, .int xL3), (4, .int xL4)]) hC.1 hC.2.1 d_AckBook_Arrivals_keep_52 hl (by decide) (by first | rfl | simp [z_rfc, z_ci, z_cj]) (fun ls hl => ?_)
  refine lv_iload hC.1 hC.2.1 d_AckBook_Arrivals_keep_54 (lv_at hl 4 rfl) ?_
  refine lv_if_eq (tgt := 86) hC.1 hC.2.1 d_AckBook_Arrivals_keep_56 (by decide) (fun hc => ?_) (fun hc => ?_)
  · have h := z_ifp hc h
    exact kq_AckBook_Arrivals_keep_86 hT hfl hE hC hr hRc hRs hFr hRt hnm _ _ _ _ _ _ _ h _ _ _ _ _ hZ (lv_sub hl [1, 2, 3, 4, 0] rfl)
  · have h := z_ifn hc h
    refine lv_iload hC.1 hC.2.1 d_AckBook_Arrivals_keep_59 (lv_at hl 0 rfl) ?_
    refine lv_if_eq (tgt := 86) hC.1 hC.2.1 d_AckBook_Arrivals_keep_61 (by decide) (fun hc => ?_) (fun hc => ?_)
    · have h := z_ifp hc h
      exact kq_AckBook_Arrivals_keep_86 hT hfl hE hC hr hRc hRs hFr hRt hnm _ _ _ _ _ _ _ h _ _ _ _ _ hZ (lv_sub hl [1, 2, 3, 4, 0] rfl)
    · have h := z_ifn hc h
      refine x_aload_n hC d_AckBook_Arrivals_keep_64 rfl (lv_at hl 1 rfl) ?_
      refine x_getR hC hZ zc5 h (by decide) t_124 (fun _ h9 => h9) d_AckBook_Arrivals_keep_65 (fun r4 h => ?_)
      refine lv_iload_n hC.1 hC.2.1 d_AckBook_Arrivals_keep_68 rfl (lv_at hl 3 rfl) ?_
      refine lv_iconst (v := (1 : Int32)) hC.1 hC.2.1 d_AckBook_Arrivals_keep_69 (by decide) ?_
      refine lv_isub hC.1 hC.2.1 d_AckBook_Arrivals_keep_70 ?_
      refine x_aload_n hC d_AckBook_Arrivals_keep_71 rfl (lv_at hl 1 rfl) ?_
      refine x_getR hC hZ zc5 h (by decide) t_124 (fun _ h9 => h9) d_AckBook_Arrivals_keep_72 (fun r5 h => ?_)
      refine lv_iload_n hC.1 hC.2.1 d_AckBook_Arrivals_keep_75 rfl (lv_at hl 3 rfl) ?_
      refine x_ldL hC hZ h d_AckBook_Arrivals_keep_76 (fun v6 h => ?_)
      refine x_stL hC hZ h d_AckBook_Arrivals_keep_77 (fun w H locs hZ h => ?_)
      refine x_aload_n hC d_AckBook_Arrivals_keep_78 rfl (lv_at hl 1 rfl) ?_
      refine lv_iload_n hC.1 hC.2.1 d_AckBook_Arrivals_keep_79 rfl (lv_at hl 3 rfl) ?_
      obtain ⟨a_, fs_, eo_, h⟩ := z_this_spec h
      obtain ⟨w1_, o1_, hF_, ha_⟩ := z_cV_spec h
      refine x_goes hC hRc hRs hFr ha_ (z_goV (As := [.int xL3]) hC hZ zc5 eo_ (k_AckBook_Arrivals_remove hT hfl hE _ _ hF_) t_738 t_740 ts_AckBook_Arrivals_remove t_8 t_741 ⟨by decide, by decide, (by decide +kernel : (parseMethodDescriptor y_AckBook_Arrivals_remove.desc).map (fun d => d.parameters.length) = some 1)⟩ (by rw [hRt.1]; decide) (by rw [hRt.2]; decide) hl.1 rfl (by first | exact Nat.le_of_ble_eq_true rfl | simp [z_rfc, z_ci, z_cj]) d_AckBook_Arrivals_keep_80) (fun v_ hv H locs cells slots hZ => ?_)
      obtain ⟨rfl, h⟩ := hv
      generalize w1_ = w at h hZ
      refine lv_goto (tgt := 124) hC.1 hC.2.1 d_AckBook_Arrivals_keep_83 (by decide) ?_
      exact x_vret hC hRc hRs hZ hr h d_AckBook_Arrivals_keep_124
def q_AckBook_Arrivals_keep_51 (F X : Nat) (rL0 : Option Nat) (yL1 : Int64) (xL3 : Int32) (xL4 : Int32) (w : zW) : zR :=
  q_AckBook_Arrivals_keep_52 F X rL0 yL1 xL3 xL4 (0 : Int32) w
set_option maxHeartbeats 4000000 in
set_option maxRecDepth 100000 in
theorem kq_AckBook_Arrivals_keep_51 {b0 : Nat} {H0 : Heap} {D : va_G} {vu vs : Value} {X M : Nat} {l : Launch} (hT : z_TB (zGG b0 H0 D vu vs X M)) (hfl : l.flags = pinnedFlags ++ [noTraceFlag]) (hE : vu.isRef = true ∧ vs.isRef = true) {p : Program} {e : Env} {R : Room} {s : State} {m : MethodId} {args : Array Value} {below : List Frame} {meth : Method} {c : Code} {w0 : zW} {F : Nat} (hC : z_C (zGG b0 H0 D vu vs X M) p e s m meth c c_AckBook_Arrivals_keep 6 y_AckBook_Arrivals_keep.cls) (hr : meth.sig.returnType = (none)) (hRc : R.cells = w0.2.1) (hRs : R.slots = w0.2.2.1) (hFr : c.exceptionTable.toList = []) (hRt : R.frames = 1 ∧ R.locals = 24) (hnm : meth.name = y_AckBook_Arrivals_keep.name) (rL0 : Option Nat) (yL1 : Int64) (xL3 : Int32) (xL4 : Int32) (w : zW) (res : zO × zW) (h : q_AckBook_Arrivals_keep_51 F X rL0 yL1 xL3 xL4 w = some res) (H : Heap) (locs : List Loc) (cells slots : Nat) (ls : Array Slot) (hZ : z_Z (zGG b0 H0 D vu vs X M) R s w H locs cells slots) (hl : lv_has ls 6 [(0, va_rf rL0), (1, .long yL1), (3, .int xL3), (4, .int xL4)]) : W p l e R s m args below meth c H locs cells slots (z_Q (zGG b0 H0 D vu vs X M) below s w0 res) (F0 m 51 ls []) := by
  unfold q_AckBook_Arrivals_keep_51 at h
  refine lv_iconst (v := (0 : Int32)) hC.1 hC.2.1 d_AckBook_Arrivals_keep_51 (by decide) ?_
  exact kq_AckBook_Arrivals_keep_52 hT hfl hE hC hr hRc hRs hFr hRt hnm _ _ _ _ _ _ _ h _ _ _ _ _ hZ (lv_sub hl [0, 1, 2, 3] rfl)
def q_AckBook_Arrivals_keep_24 (F X : Nat) (rL0 : Option Nat) (yL1 : Int64) (xL3 : Int32) (xS0 : Int32) (w : zW) : zR :=
  z_getI w 5 2 rL0 fun v8 =>
  if v8 ≤ xL3 then (
    q_AckBook_Arrivals_keep_51 F X rL0 yL1 xL3 xS0 w)
  else (
    z_getR w 5 1 rL0 fun r9 =>
    z_ldL w r9 xL3 fun v10 =>
    if (lg_cmp v10 (yL1 - (1 : Int64))) = 0 then (
      q_AckBook_Arrivals_keep_52 F X rL0 yL1 xL3 xS0 (1 : Int32) w)
    else (
      q_AckBook_Arrivals_keep_51 F X rL0 yL1 xL3 xS0 w))
set_option maxHeartbeats 4000000 in
set_option maxRecDepth 100000 in
theorem kq_AckBook_Arrivals_keep_24 {b0 : Nat} {H0 : Heap} {D : va_G} {vu vs : Value} {X M : Nat} {l : Launch} (hT : z_TB (zGG b0 H0 D vu vs X M)) (hfl : l.flags = pinnedFlags ++ [noTraceFlag]) (hE : vu.isRef = true ∧ vs.isRef = true) {p : Program} {e : Env} {R : Room} {s : State} {m : MethodId} {args : Array Value} {below : List Frame} {meth : Method} {c : Code} {w0 : zW} {F : Nat} (hC : z_C (zGG b0 H0 D vu vs X M) p e s m meth c c_AckBook_Arrivals_keep 6 y_AckBook_Arrivals_keep.cls) (hr : meth.sig.returnType = (none)) (hRc : R.cells = w0.2.1) (hRs : R.slots = w0.2.2.1) (hFr : c.exceptionTable.toList = []) (hRt : R.frames = 1 ∧ R.locals = 24) (hnm : meth.name = y_AckBook_Arrivals_keep.name) (rL0 : Option Nat) (yL1 : Int64) (xL3 : Int32) (xS0 : Int32) (w : zW) (res : zO × zW) (h : q_AckBook_Arrivals_keep_24 F X rL0 yL1 xL3 xS0 w = some res) (H : Heap) (locs : List Loc) (cells slots : Nat) (ls : Array Slot) (hZ : z_Z (zGG b0 H0 D vu vs X M) R s w H locs cells slots) (hl : lv_has ls 6 [(0, va_rf rL0), (1, .long yL1), (3, .int xL3)]) : W p l e R s m args below meth c H locs cells slots (z_Q (zGG b0 H0 D vu vs X M) below s w0 res) (F0 m 24 ls [.int xS0]) := by
  unfold q_AckBook_Arrivals_keep_24 at h
  refine lv_istore (i := 4) (lv' := [(4, .int xS0), (0, va_rf rL0), (1, .long yL1), (3, .int xL3)]) hC.1 hC.2.1 d_AckBook_Arrivals_keep_24 hl (by decide) (by first | rfl | simp [z_rfc, z_ci, z_cj]) (fun ls hl => ?_)
  refine lv_iload_n hC.1 hC.2.1 d_AckBook_Arrivals_keep_26 rfl (lv_at hl 3 rfl) ?_
  refine x_aload_n hC d_AckBook_Arrivals_keep_27 rfl (lv_at hl 1 rfl) ?_
  refine x_getI hC hZ zc5 h (by decide) t_128 (fun _ h9 => h9) d_AckBook_Arrivals_keep_28 (fun v8 h => ?_)
  refine lv_icmp_ge (tgt := 51) hC.1 hC.2.1 d_AckBook_Arrivals_keep_31 (by decide) (fun hc => ?_) (fun hc => ?_)
  · have h := z_ifp hc h
    exact kq_AckBook_Arrivals_keep_51 hT hfl hE hC hr hRc hRs hFr hRt hnm _ _ _ _ _ _ h _ _ _ _ _ hZ (lv_sub hl [1, 2, 3, 0] rfl)
  · have h := z_ifn hc h
    refine x_aload_n hC d_AckBook_Arrivals_keep_34 rfl (lv_at hl 1 rfl) ?_
    refine x_getR hC hZ zc5 h (by decide) t_126 (fun _ h9 => h9) d_AckBook_Arrivals_keep_35 (fun r9 h => ?_)
    refine lv_iload_n hC.1 hC.2.1 d_AckBook_Arrivals_keep_38 rfl (lv_at hl 3 rfl) ?_
    refine x_ldL hC hZ h d_AckBook_Arrivals_keep_39 (fun v10 h => ?_)
    refine lv_lload_n hC.1 hC.2.1 d_AckBook_Arrivals_keep_40 rfl (lv_at hl 2 rfl) ?_
    refine lv_lconst (v := (1 : Int64)) hC.1 hC.2.1 d_AckBook_Arrivals_keep_41 (by decide) ?_
    refine lv_lsub hC.1 hC.2.1 d_AckBook_Arrivals_keep_42 ?_
    refine W.lcmp hC.1 hC.2.1 d_AckBook_Arrivals_keep_43 ?_
    refine lv_if_ne (tgt := 51) hC.1 hC.2.1 d_AckBook_Arrivals_keep_44 (by decide) (fun hc => ?_) (fun hc => ?_)
    · have h := z_ifn hc h
      exact kq_AckBook_Arrivals_keep_51 hT hfl hE hC hr hRc hRs hFr hRt hnm _ _ _ _ _ _ h _ _ _ _ _ hZ (lv_sub hl [1, 2, 3, 0] rfl)
    · have h := z_ifp hc h
      refine lv_iconst (v := (1 : Int32)) hC.1 hC.2.1 d_AckBook_Arrivals_keep_47 (by decide) ?_
      refine lv_goto (tgt := 52) hC.1 hC.2.1 d_AckBook_Arrivals_keep_48 (by decide) ?_
      exact kq_AckBook_Arrivals_keep_52 hT hfl hE hC hr hRc hRs hFr hRt hnm _ _ _ _ _ _ _ h _ _ _ _ _ hZ (lv_sub hl [1, 2, 3, 0] rfl)
def q_AckBook_Arrivals_keep_23 (F X : Nat) (rL0 : Option Nat) (yL1 : Int64) (xL3 : Int32) (w : zW) : zR :=
  q_AckBook_Arrivals_keep_24 F X rL0 yL1 xL3 (0 : Int32) w
set_option maxHeartbeats 4000000 in
set_option maxRecDepth 100000 in
theorem kq_AckBook_Arrivals_keep_23 {b0 : Nat} {H0 : Heap} {D : va_G} {vu vs : Value} {X M : Nat} {l : Launch} (hT : z_TB (zGG b0 H0 D vu vs X M)) (hfl : l.flags = pinnedFlags ++ [noTraceFlag]) (hE : vu.isRef = true ∧ vs.isRef = true) {p : Program} {e : Env} {R : Room} {s : State} {m : MethodId} {args : Array Value} {below : List Frame} {meth : Method} {c : Code} {w0 : zW} {F : Nat} (hC : z_C (zGG b0 H0 D vu vs X M) p e s m meth c c_AckBook_Arrivals_keep 6 y_AckBook_Arrivals_keep.cls) (hr : meth.sig.returnType = (none)) (hRc : R.cells = w0.2.1) (hRs : R.slots = w0.2.2.1) (hFr : c.exceptionTable.toList = []) (hRt : R.frames = 1 ∧ R.locals = 24) (hnm : meth.name = y_AckBook_Arrivals_keep.name) (rL0 : Option Nat) (yL1 : Int64) (xL3 : Int32) (w : zW) (res : zO × zW) (h : q_AckBook_Arrivals_keep_23 F X rL0 yL1 xL3 w = some res) (H : Heap) (locs : List Loc) (cells slots : Nat) (ls : Array Slot) (hZ : z_Z (zGG b0 H0 D vu vs X M) R s w H locs cells slots) (hl : lv_has ls 6 [(0, va_rf rL0), (1, .long yL1), (3, .int xL3)]) : W p l e R s m args below meth c H locs cells slots (z_Q (zGG b0 H0 D vu vs X M) below s w0 res) (F0 m 23 ls []) := by
  unfold q_AckBook_Arrivals_keep_23 at h
  refine lv_iconst (v := (0 : Int32)) hC.1 hC.2.1 d_AckBook_Arrivals_keep_23 (by decide) ?_
  exact kq_AckBook_Arrivals_keep_24 hT hfl hE hC hr hRc hRs hFr hRt hnm _ _ _ _ _ _ h _ _ _ _ _ hZ (lv_sub hl [0, 1, 2] rfl)
def f_AckBook_Arrivals_keep (F X : Nat) (a0 : Option Nat) (pJ1 : Int64) (pI2 : Int32) (w : zW) : zR :=
  if pI2 ≤ 0 then (
    q_AckBook_Arrivals_keep_23 F X a0 pJ1 pI2 w)
  else (
    z_getR w 5 0 a0 fun r11 =>
    z_ldL w r11 (pI2 - (1 : Int32)) fun v12 =>
    if (lg_cmp v12 (pJ1 + (1 : Int64))) = 0 then (
      q_AckBook_Arrivals_keep_24 F X a0 pJ1 pI2 (1 : Int32) w)
    else (
      q_AckBook_Arrivals_keep_23 F X a0 pJ1 pI2 w))
set_option maxHeartbeats 4000000 in
set_option maxRecDepth 100000 in
theorem k_AckBook_Arrivals_keep {b0 : Nat} {H0 : Heap} {D : va_G} {vu vs : Value} {X M : Nat} {l : Launch} (hT : z_TB (zGG b0 H0 D vu vs X M)) (hfl : l.flags = pinnedFlags ++ [noTraceFlag]) (hE : vu.isRef = true ∧ vs.isRef = true) {a0 : Option Nat} {pJ1 : Int64} {pI2 : Int32} (F : Nat) {w : zW} (res : zO × zW) (h : f_AckBook_Arrivals_keep F X a0 pJ1 pI2 w = some res) : z_Ct (zGG b0 H0 D vu vs X M) l y_AckBook_Arrivals_keep (.code y_AckBook_Arrivals_keep c_AckBook_Arrivals_keep 6 (none)) 1 24 [va_rf a0, .long pJ1, .int pI2] w res := by
  refine z_ct hT hfl (by decide) (by simp only [z_sl_i, z_sl_j, z_sl_r, z_sl_n]; decide) ?_
  intro p e R s m args below meth c hC hr hRc hRs hRt hnm hFr H ls hZ hl
  simp only [z_la_i, z_la_j, z_la_r, z_la_n] at hl
  have hl : lv_has ls 6 [(0, va_rf a0), (1, .long pJ1), (3, .int pI2)] := hl
  unfold f_AckBook_Arrivals_keep at h
  refine lv_iload_n hC.1 hC.2.1 d_AckBook_Arrivals_keep_0 rfl (lv_at hl 2 rfl) ?_
  refine lv_if_le (tgt := 23) hC.1 hC.2.1 d_AckBook_Arrivals_keep_1 (by decide) (fun hc => ?_) (fun hc => ?_)
  · have h := z_ifp hc h
    exact kq_AckBook_Arrivals_keep_23 hT hfl hE hC hr hRc hRs hFr hRt hnm _ _ _ _ _ h _ _ _ _ _ hZ (lv_sub hl [0, 1, 2] rfl)
  · have h := z_ifn hc h
    refine x_aload_n hC d_AckBook_Arrivals_keep_4 rfl (lv_at hl 0 rfl) ?_
    refine x_getR hC hZ zc5 h (by decide) t_124 (fun _ h9 => h9) d_AckBook_Arrivals_keep_5 (fun r11 h => ?_)
    refine lv_iload_n hC.1 hC.2.1 d_AckBook_Arrivals_keep_8 rfl (lv_at hl 2 rfl) ?_
    refine lv_iconst (v := (1 : Int32)) hC.1 hC.2.1 d_AckBook_Arrivals_keep_9 (by decide) ?_
    refine lv_isub hC.1 hC.2.1 d_AckBook_Arrivals_keep_10 ?_
    refine x_ldL hC hZ h d_AckBook_Arrivals_keep_11 (fun v12 h => ?_)
    refine lv_lload_n hC.1 hC.2.1 d_AckBook_Arrivals_keep_12 rfl (lv_at hl 1 rfl) ?_
    refine lv_lconst (v := (1 : Int64)) hC.1 hC.2.1 d_AckBook_Arrivals_keep_13 (by decide) ?_
    refine lv_ladd hC.1 hC.2.1 d_AckBook_Arrivals_keep_14 ?_
    refine W.lcmp hC.1 hC.2.1 d_AckBook_Arrivals_keep_15 ?_
    refine lv_if_ne (tgt := 23) hC.1 hC.2.1 d_AckBook_Arrivals_keep_16 (by decide) (fun hc => ?_) (fun hc => ?_)
    · have h := z_ifn hc h
      exact kq_AckBook_Arrivals_keep_23 hT hfl hE hC hr hRc hRs hFr hRt hnm _ _ _ _ _ h _ _ _ _ _ hZ (lv_sub hl [0, 1, 2] rfl)
    · have h := z_ifp hc h
      refine lv_iconst (v := (1 : Int32)) hC.1 hC.2.1 d_AckBook_Arrivals_keep_19 (by decide) ?_
      refine lv_goto (tgt := 24) hC.1 hC.2.1 d_AckBook_Arrivals_keep_20 (by decide) ?_
      exact kq_AckBook_Arrivals_keep_24 hT hfl hE hC hr hRc hRs hFr hRt hnm _ _ _ _ _ _ h _ _ _ _ _ hZ (lv_sub hl [0, 1, 2] rfl)
def q_AckBook_Arrivals_hold_12 (F X : Nat) (rL0 : Option Nat) (xL1 : Int32) (w : zW) : zR :=
  z_getI w 5 4 rL0 fun v1 =>
  z_put w 5 4 rL0 (.int (v1 + (1 : Int32))) fun w =>
  z_getI w 5 6 rL0 fun v2 =>
  if v2 = 0 then (
    if xL1 = 0 then (
      z_putZ w 5 6 rL0 (0 : Int32) fun w =>
      some (.inl none, w))
    else (
      z_putZ w 5 6 rL0 (1 : Int32) fun w =>
      some (.inl none, w)))
  else (
    z_putZ w 5 6 rL0 (1 : Int32) fun w =>
    some (.inl none, w))
set_option maxHeartbeats 4000000 in
set_option maxRecDepth 100000 in
theorem kq_AckBook_Arrivals_hold_12 {b0 : Nat} {H0 : Heap} {D : va_G} {vu vs : Value} {X M : Nat} {l : Launch} (hT : z_TB (zGG b0 H0 D vu vs X M)) (hfl : l.flags = pinnedFlags ++ [noTraceFlag]) (hE : vu.isRef = true ∧ vs.isRef = true) {p : Program} {e : Env} {R : Room} {s : State} {m : MethodId} {args : Array Value} {below : List Frame} {meth : Method} {c : Code} {w0 : zW} {F : Nat} (hC : z_C (zGG b0 H0 D vu vs X M) p e s m meth c c_AckBook_Arrivals_hold 3 y_AckBook_Arrivals_hold.cls) (hr : meth.sig.returnType = (none)) (hRc : R.cells = w0.2.1) (hRs : R.slots = w0.2.2.1) (hFr : c.exceptionTable.toList = []) (hRt : R.frames = 0 ∧ R.locals = 0) (hnm : meth.name = y_AckBook_Arrivals_hold.name) (rL0 : Option Nat) (xL1 : Int32) (w : zW) (res : zO × zW) (h : q_AckBook_Arrivals_hold_12 F X rL0 xL1 w = some res) (H : Heap) (locs : List Loc) (cells slots : Nat) (ls : Array Slot) (hZ : z_Z (zGG b0 H0 D vu vs X M) R s w H locs cells slots) (hl : lv_has ls 3 [(0, va_rf rL0), (1, .int xL1)]) : W p l e R s m args below meth c H locs cells slots (z_Q (zGG b0 H0 D vu vs X M) below s w0 res) (F0 m 12 ls []) := by
  unfold q_AckBook_Arrivals_hold_12 at h
  refine x_aload_n hC d_AckBook_Arrivals_hold_12 rfl (lv_at hl 0 rfl) ?_
  refine lv_dup hC.1 hC.2.1 d_AckBook_Arrivals_hold_13 (z_rfc _) ?_
  refine x_getI hC hZ zc5 h (by decide) t_132 (fun _ h9 => h9) d_AckBook_Arrivals_hold_14 (fun v1 h => ?_)
  refine lv_iconst (v := (1 : Int32)) hC.1 hC.2.1 d_AckBook_Arrivals_hold_17 (by decide) ?_
  refine lv_iadd hC.1 hC.2.1 d_AckBook_Arrivals_hold_18 ?_
  refine x_put hC hZ zc5 h (by decide) t_132 (fun _ h9 => h9) rfl rfl rfl rfl d_AckBook_Arrivals_hold_19 (fun w H locs hZ h => ?_)
  refine x_aload_n hC d_AckBook_Arrivals_hold_22 rfl (lv_at hl 0 rfl) ?_
  refine x_aload_n hC d_AckBook_Arrivals_hold_23 rfl (lv_at hl 0 rfl) ?_
  refine x_getI hC hZ zc5 h (by decide) t_135 (fun _ h9 => h9) d_AckBook_Arrivals_hold_24 (fun v2 h => ?_)
  refine lv_if_ne (tgt := 34) hC.1 hC.2.1 d_AckBook_Arrivals_hold_27 (by decide) (fun hc => ?_) (fun hc => ?_)
  · have h := z_ifn hc h
    refine lv_iconst (v := (1 : Int32)) hC.1 hC.2.1 d_AckBook_Arrivals_hold_34 (by decide) ?_
    refine lv_goto (tgt := 39) hC.1 hC.2.1 d_AckBook_Arrivals_hold_35 (by decide) ?_
    refine x_putZ hC hZ zc5 h (by decide) t_135 (fun _ h9 => h9) rfl rfl d_AckBook_Arrivals_hold_39 (fun w H locs hZ h => ?_)
    exact x_vret hC hRc hRs hZ hr h d_AckBook_Arrivals_hold_42
  · have h := z_ifp hc h
    refine lv_iload_n hC.1 hC.2.1 d_AckBook_Arrivals_hold_30 rfl (lv_at hl 1 rfl) ?_
    refine lv_if_eq (tgt := 38) hC.1 hC.2.1 d_AckBook_Arrivals_hold_31 (by decide) (fun hc => ?_) (fun hc => ?_)
    · have h := z_ifp hc h
      refine lv_iconst (v := (0 : Int32)) hC.1 hC.2.1 d_AckBook_Arrivals_hold_38 (by decide) ?_
      refine x_putZ hC hZ zc5 h (by decide) t_135 (fun _ h9 => h9) rfl rfl d_AckBook_Arrivals_hold_39 (fun w H locs hZ h => ?_)
      exact x_vret hC hRc hRs hZ hr h d_AckBook_Arrivals_hold_42
    · have h := z_ifn hc h
      refine lv_iconst (v := (1 : Int32)) hC.1 hC.2.1 d_AckBook_Arrivals_hold_34 (by decide) ?_
      refine lv_goto (tgt := 39) hC.1 hC.2.1 d_AckBook_Arrivals_hold_35 (by decide) ?_
      refine x_putZ hC hZ zc5 h (by decide) t_135 (fun _ h9 => h9) rfl rfl d_AckBook_Arrivals_hold_39 (fun w H locs hZ h => ?_)
      exact x_vret hC hRc hRs hZ hr h d_AckBook_Arrivals_hold_42
def f_AckBook_Arrivals_hold (F X : Nat) (a0 : Option Nat) (pI1 : Int32) (pI2 : Int32) (w : zW) : zR :=
  z_getI w 5 4 a0 fun v3 =>
  if v3 = 0 then (
    z_put w 5 5 a0 (.int pI2) fun w =>
    q_AckBook_Arrivals_hold_12 F X a0 pI1 w)
  else (
    q_AckBook_Arrivals_hold_12 F X a0 pI1 w)
set_option maxHeartbeats 4000000 in
set_option maxRecDepth 100000 in
theorem k_AckBook_Arrivals_hold {b0 : Nat} {H0 : Heap} {D : va_G} {vu vs : Value} {X M : Nat} {l : Launch} (hT : z_TB (zGG b0 H0 D vu vs X M)) (hfl : l.flags = pinnedFlags ++ [noTraceFlag]) (hE : vu.isRef = true ∧ vs.isRef = true) {a0 : Option Nat} {pI1 : Int32} {pI2 : Int32} (F : Nat) {w : zW} (res : zO × zW) (h : f_AckBook_Arrivals_hold F X a0 pI1 pI2 w = some res) : z_Ct (zGG b0 H0 D vu vs X M) l y_AckBook_Arrivals_hold (.code y_AckBook_Arrivals_hold c_AckBook_Arrivals_hold 3 (none)) 0 0 [va_rf a0, .int pI1, .int pI2] w res := by
  refine z_ct hT hfl (by decide) (by simp only [z_sl_i, z_sl_j, z_sl_r, z_sl_n]; decide) ?_
  intro p e R s m args below meth c hC hr hRc hRs hRt hnm hFr H ls hZ hl
  simp only [z_la_i, z_la_j, z_la_r, z_la_n] at hl
  have hl : lv_has ls 3 [(0, va_rf a0), (1, .int pI1), (2, .int pI2)] := hl
  unfold f_AckBook_Arrivals_hold at h
  refine x_aload_n hC d_AckBook_Arrivals_hold_0 rfl (lv_at hl 0 rfl) ?_
  refine x_getI hC hZ zc5 h (by decide) t_132 (fun _ h9 => h9) d_AckBook_Arrivals_hold_1 (fun v3 h => ?_)
  refine lv_if_ne (tgt := 12) hC.1 hC.2.1 d_AckBook_Arrivals_hold_4 (by decide) (fun hc => ?_) (fun hc => ?_)
  · have h := z_ifn hc h
    exact kq_AckBook_Arrivals_hold_12 hT hfl hE hC hr hRc hRs hFr hRt hnm _ _ _ _ h _ _ _ _ _ hZ (lv_sub hl [0, 1] rfl)
  · have h := z_ifp hc h
    refine x_aload_n hC d_AckBook_Arrivals_hold_7 rfl (lv_at hl 0 rfl) ?_
    refine lv_iload_n hC.1 hC.2.1 d_AckBook_Arrivals_hold_8 rfl (lv_at hl 2 rfl) ?_
    refine x_put hC hZ zc5 h (by decide) t_134 (fun _ h9 => h9) rfl rfl rfl rfl d_AckBook_Arrivals_hold_9 (fun w H locs hZ h => ?_)
    exact kq_AckBook_Arrivals_hold_12 hT hfl hE hC hr hRc hRs hFr hRt hnm _ _ _ _ h _ _ _ _ _ hZ (lv_sub hl [0, 1] rfl)
def q_AckBook_Arrivals_enter_91 (F X : Nat) (rL0 : Option Nat) (yL1 : Int64) (xL4 : Int32) (yL6 : Int64) (w : zW) : zR :=
  if (lg_cmp yL1 yL6) ≤ 0 then (
    some (.inl (some (.int (1 : Int32))), w))
  else (
    z_put w 5 7 rL0 (.int xL4) fun w =>
    some (.inl (some (.int (1 : Int32))), w))
set_option maxHeartbeats 4000000 in
set_option maxRecDepth 100000 in
theorem kq_AckBook_Arrivals_enter_91 {b0 : Nat} {H0 : Heap} {D : va_G} {vu vs : Value} {X M : Nat} {l : Launch} (hT : z_TB (zGG b0 H0 D vu vs X M)) (hfl : l.flags = pinnedFlags ++ [noTraceFlag]) (hE : vu.isRef = true ∧ vs.isRef = true) {p : Program} {e : Env} {R : Room} {s : State} {m : MethodId} {args : Array Value} {below : List Frame} {meth : Method} {c : Code} {w0 : zW} {F : Nat} (hC : z_C (zGG b0 H0 D vu vs X M) p e s m meth c c_AckBook_Arrivals_enter 8 y_AckBook_Arrivals_enter.cls) (hr : meth.sig.returnType = (some FieldType.boolean)) (hRc : R.cells = w0.2.1) (hRs : R.slots = w0.2.2.1) (hFr : c.exceptionTable.toList = []) (hRt : R.frames = 2 ∧ R.locals = 49) (hnm : meth.name = y_AckBook_Arrivals_enter.name) (rL0 : Option Nat) (yL1 : Int64) (xL4 : Int32) (yL6 : Int64) (w : zW) (res : zO × zW) (h : q_AckBook_Arrivals_enter_91 F X rL0 yL1 xL4 yL6 w = some res) (H : Heap) (locs : List Loc) (cells slots : Nat) (ls : Array Slot) (hZ : z_Z (zGG b0 H0 D vu vs X M) R s w H locs cells slots) (hl : lv_has ls 8 [(0, va_rf rL0), (1, .long yL1), (4, .int xL4), (6, .long yL6)]) : W p l e R s m args below meth c H locs cells slots (z_Q (zGG b0 H0 D vu vs X M) below s w0 res) (F0 m 91 ls []) := by
  unfold q_AckBook_Arrivals_enter_91 at h
  refine lv_lload_n hC.1 hC.2.1 d_AckBook_Arrivals_enter_91 rfl (lv_at hl 1 rfl) ?_
  refine lv_lload hC.1 hC.2.1 d_AckBook_Arrivals_enter_92 (lv_at hl 3 rfl) ?_
  refine W.lcmp hC.1 hC.2.1 d_AckBook_Arrivals_enter_94 ?_
  refine lv_if_le (tgt := 104) hC.1 hC.2.1 d_AckBook_Arrivals_enter_95 (by decide) (fun hc => ?_) (fun hc => ?_)
  · have h := z_ifp hc h
    refine lv_iconst (v := (1 : Int32)) hC.1 hC.2.1 d_AckBook_Arrivals_enter_104 (by decide) ?_
    exact x_iret hC hRc hRs hZ hr rfl h d_AckBook_Arrivals_enter_105
  · have h := z_ifn hc h
    refine x_aload_n hC d_AckBook_Arrivals_enter_98 rfl (lv_at hl 0 rfl) ?_
    refine lv_iload hC.1 hC.2.1 d_AckBook_Arrivals_enter_99 (lv_at hl 2 rfl) ?_
    refine x_put hC hZ zc5 h (by decide) t_136 (fun _ h9 => h9) rfl rfl rfl rfl d_AckBook_Arrivals_enter_101 (fun w H locs hZ h => ?_)
    refine lv_iconst (v := (1 : Int32)) hC.1 hC.2.1 d_AckBook_Arrivals_enter_104 (by decide) ?_
    exact x_iret hC hRc hRs hZ hr rfl h d_AckBook_Arrivals_enter_105
def q_AckBook_Arrivals_enter_86 (F X : Nat) (rL0 : Option Nat) (yL1 : Int64) (xL4 : Int32) (yL6 : Int64) (rS0 : Option Nat) (xS1 : Int32) (w : zW) : zR :=
  z_this w 5 rS0 <|
  z_cV (f_AckBook_Arrivals_hold F X rS0 xS1 xL4 w) fun w =>
  q_AckBook_Arrivals_enter_91 F X rL0 yL1 xL4 yL6 w
set_option maxHeartbeats 4000000 in
set_option maxRecDepth 100000 in
theorem kq_AckBook_Arrivals_enter_86 {b0 : Nat} {H0 : Heap} {D : va_G} {vu vs : Value} {X M : Nat} {l : Launch} (hT : z_TB (zGG b0 H0 D vu vs X M)) (hfl : l.flags = pinnedFlags ++ [noTraceFlag]) (hE : vu.isRef = true ∧ vs.isRef = true) {p : Program} {e : Env} {R : Room} {s : State} {m : MethodId} {args : Array Value} {below : List Frame} {meth : Method} {c : Code} {w0 : zW} {F : Nat} (hC : z_C (zGG b0 H0 D vu vs X M) p e s m meth c c_AckBook_Arrivals_enter 8 y_AckBook_Arrivals_enter.cls) (hr : meth.sig.returnType = (some FieldType.boolean)) (hRc : R.cells = w0.2.1) (hRs : R.slots = w0.2.2.1) (hFr : c.exceptionTable.toList = []) (hRt : R.frames = 2 ∧ R.locals = 49) (hnm : meth.name = y_AckBook_Arrivals_enter.name) (rL0 : Option Nat) (yL1 : Int64) (xL4 : Int32) (yL6 : Int64) (rS0 : Option Nat) (xS1 : Int32) (w : zW) (res : zO × zW) (h : q_AckBook_Arrivals_enter_86 F X rL0 yL1 xL4 yL6 rS0 xS1 w = some res) (H : Heap) (locs : List Loc) (cells slots : Nat) (ls : Array Slot) (hZ : z_Z (zGG b0 H0 D vu vs X M) R s w H locs cells slots) (hl : lv_has ls 8 [(0, va_rf rL0), (1, .long yL1), (4, .int xL4), (6, .long yL6)]) : W p l e R s m args below meth c H locs cells slots (z_Q (zGG b0 H0 D vu vs X M) below s w0 res) (F0 m 86 ls [.int xS1, va_rf rS0]) := by
  unfold q_AckBook_Arrivals_enter_86 at h
  refine lv_iload hC.1 hC.2.1 d_AckBook_Arrivals_enter_86 (lv_at hl 2 rfl) ?_
  obtain ⟨a_, fs_, eo_, h⟩ := z_this_spec h
  obtain ⟨w1_, o1_, hF_, ha_⟩ := z_cV_spec h
  refine x_goes hC hRc hRs hFr ha_ (z_goV (As := [.int xS1, .int xL4]) hC hZ zc5 eo_ (k_AckBook_Arrivals_hold hT hfl hE _ _ hF_) t_746 t_748 ts_AckBook_Arrivals_hold t_8 t_749 ⟨by decide, by decide, (by decide +kernel : (parseMethodDescriptor y_AckBook_Arrivals_hold.desc).map (fun d => d.parameters.length) = some 2)⟩ (by rw [hRt.1]; decide) (by rw [hRt.2]; decide) hl.1 rfl (by first | exact Nat.le_of_ble_eq_true rfl | simp [z_rfc, z_ci, z_cj]) d_AckBook_Arrivals_enter_88) (fun v_ hv H locs cells slots hZ => ?_)
  obtain ⟨rfl, h⟩ := hv
  generalize w1_ = w at h hZ
  exact kq_AckBook_Arrivals_enter_91 hT hfl hE hC hr hRc hRs hFr hRt hnm _ _ _ _ _ _ h _ _ _ _ _ hZ (lv_sub hl [0, 1, 2, 3] rfl)
def q_AckBook_Arrivals_enter_58 (F X : Nat) (rL0 : Option Nat) (yL1 : Int64) (xL3 : Int32) (xL4 : Int32) (xL5 : Int32) (yS0 : Int64) (w : zW) : zR :=
  z_this w 5 rL0 <|
  z_cV (f_AckBook_Arrivals_keep F X rL0 yL1 xL5 w) fun w =>
  if xL3 = 0 then (
    q_AckBook_Arrivals_enter_91 F X rL0 yL1 xL4 yS0 w)
  else (
    if (lg_cmp yL1 (yS0 + (1 : Int64))) = 0 then (
      q_AckBook_Arrivals_enter_86 F X rL0 yL1 xL4 yS0 rL0 (0 : Int32) w)
    else (
      q_AckBook_Arrivals_enter_86 F X rL0 yL1 xL4 yS0 rL0 (1 : Int32) w))
set_option maxHeartbeats 4000000 in
set_option maxRecDepth 100000 in
theorem kq_AckBook_Arrivals_enter_58 {b0 : Nat} {H0 : Heap} {D : va_G} {vu vs : Value} {X M : Nat} {l : Launch} (hT : z_TB (zGG b0 H0 D vu vs X M)) (hfl : l.flags = pinnedFlags ++ [noTraceFlag]) (hE : vu.isRef = true ∧ vs.isRef = true) {p : Program} {e : Env} {R : Room} {s : State} {m : MethodId} {args : Array Value} {below : List Frame} {meth : Method} {c : Code} {w0 : zW} {F : Nat} (hC : z_C (zGG b0 H0 D vu vs X M) p e s m meth c c_AckBook_Arrivals_enter 8 y_AckBook_Arrivals_enter.cls) (hr : meth.sig.returnType = (some FieldType.boolean)) (hRc : R.cells = w0.2.1) (hRs : R.slots = w0.2.2.1) (hFr : c.exceptionTable.toList = []) (hRt : R.frames = 2 ∧ R.locals = 49) (hnm : meth.name = y_AckBook_Arrivals_enter.name) (rL0 : Option Nat) (yL1 : Int64) (xL3 : Int32) (xL4 : Int32) (xL5 : Int32) (yS0 : Int64) (w : zW) (res : zO × zW) (h : q_AckBook_Arrivals_enter_58 F X rL0 yL1 xL3 xL4 xL5 yS0 w = some res) (H : Heap) (locs : List Loc) (cells slots : Nat) (ls : Array Slot) (hZ : z_Z (zGG b0 H0 D vu vs X M) R s w H locs cells slots) (hl : lv_has ls 8 [(0, va_rf rL0), (1, .long yL1), (3, .int xL3), (4, .int xL4), (5, .int xL5)]) : W p l e R s m args below meth c H locs cells slots (z_Q (zGG b0 H0 D vu vs X M) below s w0 res) (F0 m 58 ls [.long yS0]) := by
  unfold q_AckBook_Arrivals_enter_58 at h
  refine lv_lstore (i := 6) (lv' := [(6, .long yS0), (0, va_rf rL0), (1, .long yL1), (3, .int xL3), (4, .int xL4), (5, .int xL5)]) hC.1 hC.2.1 d_AckBook_Arrivals_enter_58 hl (by decide) (by first | rfl | simp [z_rfc, z_ci, z_cj]) (fun ls hl => ?_)
  refine x_aload_n hC d_AckBook_Arrivals_enter_60 rfl (lv_at hl 1 rfl) ?_
  refine lv_lload_n hC.1 hC.2.1 d_AckBook_Arrivals_enter_61 rfl (lv_at hl 2 rfl) ?_
  refine lv_iload hC.1 hC.2.1 d_AckBook_Arrivals_enter_62 (lv_at hl 5 rfl) ?_
  obtain ⟨a_, fs_, eo_, h⟩ := z_this_spec h
  obtain ⟨w1_, o1_, hF_, ha_⟩ := z_cV_spec h
  refine x_goes hC hRc hRs hFr ha_ (z_goV (As := [.long yL1, .int xL5]) hC hZ zc5 eo_ (k_AckBook_Arrivals_keep hT hfl hE _ _ hF_) t_734 t_736 ts_AckBook_Arrivals_keep t_8 t_737 ⟨by decide, by decide, (by decide +kernel : (parseMethodDescriptor y_AckBook_Arrivals_keep.desc).map (fun d => d.parameters.length) = some 2)⟩ (by rw [hRt.1]; decide) (by rw [hRt.2]; decide) hl.1 rfl (by first | exact Nat.le_of_ble_eq_true rfl | simp [z_rfc, z_ci, z_cj]) d_AckBook_Arrivals_enter_64) (fun v_ hv H locs cells slots hZ => ?_)
  obtain ⟨rfl, h⟩ := hv
  generalize w1_ = w at h hZ
  refine lv_iload_n hC.1 hC.2.1 d_AckBook_Arrivals_enter_67 rfl (lv_at hl 3 rfl) ?_
  refine lv_if_eq (tgt := 91) hC.1 hC.2.1 d_AckBook_Arrivals_enter_68 (by decide) (fun hc => ?_) (fun hc => ?_)
  · have h := z_ifp hc h
    exact kq_AckBook_Arrivals_enter_91 hT hfl hE hC hr hRc hRs hFr hRt hnm _ _ _ _ _ _ h _ _ _ _ _ hZ (lv_sub hl [1, 2, 4, 0] rfl)
  · have h := z_ifn hc h
    refine x_aload_n hC d_AckBook_Arrivals_enter_71 rfl (lv_at hl 1 rfl) ?_
    refine lv_lload_n hC.1 hC.2.1 d_AckBook_Arrivals_enter_72 rfl (lv_at hl 2 rfl) ?_
    refine lv_lload hC.1 hC.2.1 d_AckBook_Arrivals_enter_73 (lv_at hl 0 rfl) ?_
    refine lv_lconst (v := (1 : Int64)) hC.1 hC.2.1 d_AckBook_Arrivals_enter_75 (by decide) ?_
    refine lv_ladd hC.1 hC.2.1 d_AckBook_Arrivals_enter_76 ?_
    refine W.lcmp hC.1 hC.2.1 d_AckBook_Arrivals_enter_77 ?_
    refine lv_if_eq (tgt := 85) hC.1 hC.2.1 d_AckBook_Arrivals_enter_78 (by decide) (fun hc => ?_) (fun hc => ?_)
    · have h := z_ifp hc h
      refine lv_iconst (v := (0 : Int32)) hC.1 hC.2.1 d_AckBook_Arrivals_enter_85 (by decide) ?_
      exact kq_AckBook_Arrivals_enter_86 hT hfl hE hC hr hRc hRs hFr hRt hnm _ _ _ _ _ _ _ _ h _ _ _ _ _ hZ (lv_sub hl [1, 2, 4, 0] rfl)
    · have h := z_ifn hc h
      refine lv_iconst (v := (1 : Int32)) hC.1 hC.2.1 d_AckBook_Arrivals_enter_81 (by decide) ?_
      refine lv_goto (tgt := 86) hC.1 hC.2.1 d_AckBook_Arrivals_enter_82 (by decide) ?_
      exact kq_AckBook_Arrivals_enter_86 hT hfl hE hC hr hRc hRs hFr hRt hnm _ _ _ _ _ _ _ _ h _ _ _ _ _ hZ (lv_sub hl [1, 2, 4, 0] rfl)
def q_AckBook_Arrivals_enter_39 (F X : Nat) (rL0 : Option Nat) (yL1 : Int64) (xL3 : Int32) (xL4 : Int32) (xL5 : Int32) (w : zW) : zR :=
  z_getI w 5 2 rL0 fun v3 =>
  if v3 = 0 then (
    q_AckBook_Arrivals_enter_58 F X rL0 yL1 xL3 xL4 xL5 (-1 : Int64) w)
  else (
    z_getR w 5 1 rL0 fun r4 =>
    z_ldL w r4 (0 : Int32) fun v5 =>
    q_AckBook_Arrivals_enter_58 F X rL0 yL1 xL3 xL4 xL5 v5 w)
set_option maxHeartbeats 4000000 in
set_option maxRecDepth 100000 in
theorem kq_AckBook_Arrivals_enter_39 {b0 : Nat} {H0 : Heap} {D : va_G} {vu vs : Value} {X M : Nat} {l : Launch} (hT : z_TB (zGG b0 H0 D vu vs X M)) (hfl : l.flags = pinnedFlags ++ [noTraceFlag]) (hE : vu.isRef = true ∧ vs.isRef = true) {p : Program} {e : Env} {R : Room} {s : State} {m : MethodId} {args : Array Value} {below : List Frame} {meth : Method} {c : Code} {w0 : zW} {F : Nat} (hC : z_C (zGG b0 H0 D vu vs X M) p e s m meth c c_AckBook_Arrivals_enter 8 y_AckBook_Arrivals_enter.cls) (hr : meth.sig.returnType = (some FieldType.boolean)) (hRc : R.cells = w0.2.1) (hRs : R.slots = w0.2.2.1) (hFr : c.exceptionTable.toList = []) (hRt : R.frames = 2 ∧ R.locals = 49) (hnm : meth.name = y_AckBook_Arrivals_enter.name) (rL0 : Option Nat) (yL1 : Int64) (xL3 : Int32) (xL4 : Int32) (xL5 : Int32) (w : zW) (res : zO × zW) (h : q_AckBook_Arrivals_enter_39 F X rL0 yL1 xL3 xL4 xL5 w = some res) (H : Heap) (locs : List Loc) (cells slots : Nat) (ls : Array Slot) (hZ : z_Z (zGG b0 H0 D vu vs X M) R s w H locs cells slots) (hl : lv_has ls 8 [(0, va_rf rL0), (1, .long yL1), (3, .int xL3), (4, .int xL4), (5, .int xL5)]) : W p l e R s m args below meth c H locs cells slots (z_Q (zGG b0 H0 D vu vs X M) below s w0 res) (F0 m 39 ls []) := by
  unfold q_AckBook_Arrivals_enter_39 at h
  refine x_aload_n hC d_AckBook_Arrivals_enter_39 rfl (lv_at hl 0 rfl) ?_
  refine x_getI hC hZ zc5 h (by decide) t_128 (fun _ h9 => h9) d_AckBook_Arrivals_enter_40 (fun v3 h => ?_)
  refine lv_if_ne (tgt := 52) hC.1 hC.2.1 d_AckBook_Arrivals_enter_43 (by decide) (fun hc => ?_) (fun hc => ?_)
  · have h := z_ifn hc h
    refine x_aload_n hC d_AckBook_Arrivals_enter_52 rfl (lv_at hl 0 rfl) ?_
    refine x_getR hC hZ zc5 h (by decide) t_126 (fun _ h9 => h9) d_AckBook_Arrivals_enter_53 (fun r4 h => ?_)
    refine lv_iconst (v := (0 : Int32)) hC.1 hC.2.1 d_AckBook_Arrivals_enter_56 (by decide) ?_
    refine x_ldL hC hZ h d_AckBook_Arrivals_enter_57 (fun v5 h => ?_)
    exact kq_AckBook_Arrivals_enter_58 hT hfl hE hC hr hRc hRs hFr hRt hnm _ _ _ _ _ _ _ _ h _ _ _ _ _ hZ (lv_sub hl [0, 1, 2, 3, 4] rfl)
  · have h := z_ifp hc h
    refine lv_ldc2 (v := (-1 : Int64)) hC.1 hC.2.1 hC.2.2.2.1 ((hZ.1.tb hC.2.2.2.2.2.2 args) _ t_733) d_AckBook_Arrivals_enter_46 ?_
    refine lv_goto (tgt := 58) hC.1 hC.2.1 d_AckBook_Arrivals_enter_49 (by decide) ?_
    exact kq_AckBook_Arrivals_enter_58 hT hfl hE hC hr hRc hRs hFr hRt hnm _ _ _ _ _ _ _ _ h _ _ _ _ _ hZ (lv_sub hl [0, 1, 2, 3, 4] rfl)
def f_AckBook_Arrivals_enter (F X : Nat) (a0 : Option Nat) (pJ1 : Int64) (pI2 : Int32) (pI3 : Int32) (w : zW) : zR :=
  z_this w 5 a0 <|
  z_cI (f_AckBook_Arrivals_firstNotAbove F X a0 pJ1 w) fun v7 w =>
  z_getL w 5 3 a0 fun v8 =>
  if (lg_cmp pJ1 v8) < 0 then (
    some (.inl (some (.int (0 : Int32))), w))
  else (
    z_getI w 5 2 a0 fun v9 =>
    if v9 ≤ v7 then (
      q_AckBook_Arrivals_enter_39 F X a0 pJ1 pI2 pI3 v7 w)
    else (
      z_getR w 5 1 a0 fun r10 =>
      z_ldL w r10 v7 fun v11 =>
      if 0 < (lg_cmp pJ1 v11) then (
        q_AckBook_Arrivals_enter_39 F X a0 pJ1 pI2 pI3 v7 w)
      else (
        some (.inl (some (.int (0 : Int32))), w))))
set_option maxHeartbeats 4000000 in
set_option maxRecDepth 100000 in
theorem k_AckBook_Arrivals_enter {b0 : Nat} {H0 : Heap} {D : va_G} {vu vs : Value} {X M : Nat} {l : Launch} (hT : z_TB (zGG b0 H0 D vu vs X M)) (hfl : l.flags = pinnedFlags ++ [noTraceFlag]) (hE : vu.isRef = true ∧ vs.isRef = true) {a0 : Option Nat} {pJ1 : Int64} {pI2 : Int32} {pI3 : Int32} (F : Nat) {w : zW} (res : zO × zW) (h : f_AckBook_Arrivals_enter F X a0 pJ1 pI2 pI3 w = some res) : z_Ct (zGG b0 H0 D vu vs X M) l y_AckBook_Arrivals_enter (.code y_AckBook_Arrivals_enter c_AckBook_Arrivals_enter 8 (some FieldType.boolean)) 2 49 [va_rf a0, .long pJ1, .int pI2, .int pI3] w res := by
  refine z_ct hT hfl (by decide) (by simp only [z_sl_i, z_sl_j, z_sl_r, z_sl_n]; decide) ?_
  intro p e R s m args below meth c hC hr hRc hRs hRt hnm hFr H ls hZ hl
  simp only [z_la_i, z_la_j, z_la_r, z_la_n] at hl
  have hl : lv_has ls 8 [(0, va_rf a0), (1, .long pJ1), (3, .int pI2), (4, .int pI3)] := hl
  unfold f_AckBook_Arrivals_enter at h
  refine x_aload_n hC d_AckBook_Arrivals_enter_0 rfl (lv_at hl 0 rfl) ?_
  refine lv_lload_n hC.1 hC.2.1 d_AckBook_Arrivals_enter_1 rfl (lv_at hl 1 rfl) ?_
  obtain ⟨a_, fs_, eo_, h⟩ := z_this_spec h
  obtain ⟨w1_, o1_, hF_, ha_⟩ := z_cI_spec h
  refine x_goes hC hRc hRs hFr ha_ (z_goV (As := [.long pJ1]) hC hZ zc5 eo_ (k_AckBook_Arrivals_firstNotAbove hT hfl hE _ _ hF_) t_729 t_731 ts_AckBook_Arrivals_firstNotAbove t_8 t_732 ⟨by decide, by decide, (by decide +kernel : (parseMethodDescriptor y_AckBook_Arrivals_firstNotAbove.desc).map (fun d => d.parameters.length) = some 1)⟩ (by rw [hRt.1]; decide) (by rw [hRt.2]; decide) hl.1 rfl (by first | exact Nat.le_of_ble_eq_true rfl | simp [z_rfc, z_ci, z_cj]) d_AckBook_Arrivals_enter_2) (fun v_ hv H locs cells slots hZ => ?_)
  obtain ⟨v7, rfl, h⟩ := hv
  generalize w1_ = w at h hZ
  refine lv_istore (i := 5) (lv' := [(5, .int v7), (0, va_rf a0), (1, .long pJ1), (3, .int pI2), (4, .int pI3)]) hC.1 hC.2.1 d_AckBook_Arrivals_enter_5 hl (by decide) (by first | rfl | simp [z_rfc, z_ci, z_cj]) (fun ls hl => ?_)
  refine lv_lload_n hC.1 hC.2.1 d_AckBook_Arrivals_enter_7 rfl (lv_at hl 2 rfl) ?_
  refine x_aload_n hC d_AckBook_Arrivals_enter_8 rfl (lv_at hl 1 rfl) ?_
  refine x_getL hC hZ zc5 h (by decide) t_130 (fun _ h9 => h9) d_AckBook_Arrivals_enter_9 (fun v8 h => ?_)
  refine W.lcmp hC.1 hC.2.1 d_AckBook_Arrivals_enter_12 ?_
  refine lv_if_lt (tgt := 37) hC.1 hC.2.1 d_AckBook_Arrivals_enter_13 (by decide) (fun hc => ?_) (fun hc => ?_)
  · have h := z_ifp hc h
    refine lv_iconst (v := (0 : Int32)) hC.1 hC.2.1 d_AckBook_Arrivals_enter_37 (by decide) ?_
    exact x_iret hC hRc hRs hZ hr rfl h d_AckBook_Arrivals_enter_38
  · have h := z_ifn hc h
    refine lv_iload hC.1 hC.2.1 d_AckBook_Arrivals_enter_16 (lv_at hl 0 rfl) ?_
    refine x_aload_n hC d_AckBook_Arrivals_enter_18 rfl (lv_at hl 1 rfl) ?_
    refine x_getI hC hZ zc5 h (by decide) t_128 (fun _ h9 => h9) d_AckBook_Arrivals_enter_19 (fun v9 h => ?_)
    refine lv_icmp_ge (tgt := 39) hC.1 hC.2.1 d_AckBook_Arrivals_enter_22 (by decide) (fun hc => ?_) (fun hc => ?_)
    · have h := z_ifp hc h
      exact kq_AckBook_Arrivals_enter_39 hT hfl hE hC hr hRc hRs hFr hRt hnm _ _ _ _ _ _ _ h _ _ _ _ _ hZ (lv_sub hl [1, 2, 3, 4, 0] rfl)
    · have h := z_ifn hc h
      refine lv_lload_n hC.1 hC.2.1 d_AckBook_Arrivals_enter_25 rfl (lv_at hl 2 rfl) ?_
      refine x_aload_n hC d_AckBook_Arrivals_enter_26 rfl (lv_at hl 1 rfl) ?_
      refine x_getR hC hZ zc5 h (by decide) t_126 (fun _ h9 => h9) d_AckBook_Arrivals_enter_27 (fun r10 h => ?_)
      refine lv_iload hC.1 hC.2.1 d_AckBook_Arrivals_enter_30 (lv_at hl 0 rfl) ?_
      refine x_ldL hC hZ h d_AckBook_Arrivals_enter_32 (fun v11 h => ?_)
      refine W.lcmp hC.1 hC.2.1 d_AckBook_Arrivals_enter_33 ?_
      refine lv_if_gt (tgt := 39) hC.1 hC.2.1 d_AckBook_Arrivals_enter_34 (by decide) (fun hc => ?_) (fun hc => ?_)
      · have h := z_ifp hc h
        exact kq_AckBook_Arrivals_enter_39 hT hfl hE hC hr hRc hRs hFr hRt hnm _ _ _ _ _ _ _ h _ _ _ _ _ hZ (lv_sub hl [1, 2, 3, 4, 0] rfl)
      · have h := z_ifn hc h
        refine lv_iconst (v := (0 : Int32)) hC.1 hC.2.1 d_AckBook_Arrivals_enter_37 (by decide) ?_
        exact x_iret hC hRc hRs hZ hr rfl h d_AckBook_Arrivals_enter_38
def f_AckBook_came (F X : Nat) (a0 : Option Nat) (pI1 : Int32) (pJ2 : Int64) (pI3 : Int32) (w : zW) : zR :=
  z_this w 0 a0 <|
  z_cR (f_AckBook_known F X a0 pI1 w) fun r2 w =>
  if (lg_cmp pJ2 (0 : Int64)) < 0 then (
    z_thr w 11)
  else (
    if (lg_cmp pJ2 (4611686018427387903 : Int64)) ≤ 0 then (
      z_cV (f_AckBook_refuseDiscarded F X r2 w) fun w =>
      z_getR w 1 2 r2 fun r4 =>
      z_getI w 0 4 a0 fun v5 =>
      z_this w 5 r4 <|
      z_cI (f_AckBook_Arrivals_enter F X r4 pJ2 pI3 v5 w) fun v7 w =>
      z_retZ v7 w)
    else (
      z_thr w 11))
set_option maxHeartbeats 4000000 in
set_option maxRecDepth 100000 in
theorem k_AckBook_came {b0 : Nat} {H0 : Heap} {D : va_G} {vu vs : Value} {X M : Nat} {l : Launch} (hT : z_TB (zGG b0 H0 D vu vs X M)) (hfl : l.flags = pinnedFlags ++ [noTraceFlag]) (hE : vu.isRef = true ∧ vs.isRef = true) {a0 : Option Nat} {pI1 : Int32} {pJ2 : Int64} {pI3 : Int32} (F : Nat) {w : zW} (res : zO × zW) (h : f_AckBook_came F X a0 pI1 pJ2 pI3 w = some res) : z_Ct (zGG b0 H0 D vu vs X M) l y_AckBook_came (.code y_AckBook_came c_AckBook_came 6 (some FieldType.boolean)) 7 121 [va_rf a0, .int pI1, .long pJ2, .int pI3] w res := by
  refine z_ct hT hfl (by decide) (by simp only [z_sl_i, z_sl_j, z_sl_r, z_sl_n]; decide) ?_
  intro p e R s m args below meth c hC hr hRc hRs hRt hnm hFr H ls hZ hl
  simp only [z_la_i, z_la_j, z_la_r, z_la_n] at hl
  have hl : lv_has ls 6 [(0, va_rf a0), (1, .int pI1), (2, .long pJ2), (4, .int pI3)] := hl
  unfold f_AckBook_came at h
  refine x_aload_n hC d_AckBook_came_0 rfl (lv_at hl 0 rfl) ?_
  refine lv_iload_n hC.1 hC.2.1 d_AckBook_came_1 rfl (lv_at hl 1 rfl) ?_
  obtain ⟨a_, fs_, eo_, h⟩ := z_this_spec h
  obtain ⟨w1_, o1_, hF_, ha_⟩ := z_cR_spec h
  refine x_goes hC hRc hRs hFr ha_ (z_goV (As := [.int pI1]) hC hZ zc0 eo_ (k_AckBook_known hT hfl hE _ _ hF_) t_380 t_382 ts_AckBook_known t_1 t_383 ⟨by decide, by decide, (by decide +kernel : (parseMethodDescriptor y_AckBook_known.desc).map (fun d => d.parameters.length) = some 1)⟩ (by rw [hRt.1]; decide) (by rw [hRt.2]; decide) hl.1 rfl (by first | exact Nat.le_of_ble_eq_true rfl | simp [z_rfc, z_ci, z_cj]) d_AckBook_came_2) (fun v_ hv H locs cells slots hZ => ?_)
  obtain ⟨r2, rfl, h⟩ := hv
  generalize w1_ = w at h hZ
  refine x_astore (i := 5) (lv' := [(5, va_rf r2), (0, va_rf a0), (1, .int pI1), (2, .long pJ2), (4, .int pI3)]) hC d_AckBook_came_5 hl (by decide) (by first | rfl | simp [z_rfc, z_ci, z_cj]) (fun ls hl => ?_)
  refine lv_lload_n hC.1 hC.2.1 d_AckBook_came_7 rfl (lv_at hl 3 rfl) ?_
  refine lv_lconst (v := (0 : Int64)) hC.1 hC.2.1 d_AckBook_came_8 (by decide) ?_
  refine W.lcmp hC.1 hC.2.1 d_AckBook_came_9 ?_
  refine lv_if_lt (tgt := 21) hC.1 hC.2.1 d_AckBook_came_10 (by decide) (fun hc => ?_) (fun hc => ?_)
  · have h := z_ifp hc h
    exact x_thr (names := ["java/lang/RuntimeException", "java/lang/Exception"]) hC hRc hRs hFr hZ rfl h ⟨List.mem_cons_self, hE.1⟩ ⟨List.mem_cons_of_mem _ List.mem_cons_self, hE.2⟩ (by decide +kernel) (by decide +kernel) at_AckBook_47 t_385 t_384 t_16 t_724 hl.1 d_AckBook_came_21 d_AckBook_came_24 d_AckBook_came_25 d_AckBook_came_27 d_AckBook_came_30 (by rw [hRt.1]; decide) (by rw [hRt.2]; first | exact Nat.le_of_ble_eq_true rfl | simp [z_rfc, z_ci, z_cj])
  · have h := z_ifn hc h
    refine lv_lload_n hC.1 hC.2.1 d_AckBook_came_13 rfl (lv_at hl 3 rfl) ?_
    refine lv_ldc2 (v := (4611686018427387903 : Int64)) hC.1 hC.2.1 hC.2.2.2.1 ((hZ.1.tb hC.2.2.2.2.2.2 args) _ t_723) d_AckBook_came_14 ?_
    refine W.lcmp hC.1 hC.2.1 d_AckBook_came_17 ?_
    refine lv_if_le (tgt := 31) hC.1 hC.2.1 d_AckBook_came_18 (by decide) (fun hc => ?_) (fun hc => ?_)
    · have h := z_ifp hc h
      refine x_aload hC d_AckBook_came_31 (lv_at hl 0 rfl) ?_
      obtain ⟨w1_, o1_, hF_, ha_⟩ := z_cV_spec h
      refine x_goes hC hRc hRs hFr ha_ (z_goS (As := [va_rf r2]) hC hZ (k_AckBook_refuseDiscarded hT hfl hE _ _ hF_) t_454 t_455 t_1 t_456 ⟨by decide, by decide, (by decide +kernel : (parseMethodDescriptor y_AckBook_refuseDiscarded.desc).map (fun d => d.parameters.length) = some 1)⟩ (by rw [hRt.1]; decide) (by rw [hRt.2]; decide) hl.1 rfl (by first | exact Nat.le_of_ble_eq_true rfl | simp [z_rfc, z_ci, z_cj]) d_AckBook_came_33) (fun v_ hv H locs cells slots hZ => ?_)
      obtain ⟨rfl, h⟩ := hv
      generalize w1_ = w at h hZ
      refine x_aload hC d_AckBook_came_36 (lv_at hl 0 rfl) ?_
      refine x_getR hC hZ zc1 h (by decide) t_160 (fun _ h9 => h9) d_AckBook_came_38 (fun r4 h => ?_)
      refine lv_lload_n hC.1 hC.2.1 d_AckBook_came_41 rfl (lv_at hl 3 rfl) ?_
      refine lv_iload hC.1 hC.2.1 d_AckBook_came_42 (lv_at hl 4 rfl) ?_
      refine x_aload_n hC d_AckBook_came_44 rfl (lv_at hl 1 rfl) ?_
      refine x_getI hC hZ zc0 h (by decide) t_245 (fun _ h9 => h9) d_AckBook_came_45 (fun v5 h => ?_)
      obtain ⟨a_, fs_, eo_, h⟩ := z_this_spec h
      obtain ⟨w1_, o1_, hF_, ha_⟩ := z_cI_spec h
      refine x_goes hC hRc hRs hFr ha_ (z_goV (As := [.long pJ2, .int pI3, .int v5]) hC hZ zc5 eo_ (k_AckBook_Arrivals_enter hT hfl hE _ _ hF_) t_725 t_726 t_727 t_8 t_728 ⟨by decide, by decide, (by decide +kernel : (parseMethodDescriptor y_AckBook_Arrivals_enter.desc).map (fun d => d.parameters.length) = some 3)⟩ (by rw [hRt.1]; decide) (by rw [hRt.2]; decide) hl.1 rfl (by first | exact Nat.le_of_ble_eq_true rfl | simp [z_rfc, z_ci, z_cj]) d_AckBook_came_48) (fun v_ hv H locs cells slots hZ => ?_)
      obtain ⟨v7, rfl, h⟩ := hv
      generalize w1_ = w at h hZ
      exact x_zret hC hRc hRs hZ hr h d_AckBook_came_51
    · have h := z_ifn hc h
      exact x_thr (names := ["java/lang/RuntimeException", "java/lang/Exception"]) hC hRc hRs hFr hZ rfl h ⟨List.mem_cons_self, hE.1⟩ ⟨List.mem_cons_of_mem _ List.mem_cons_self, hE.2⟩ (by decide +kernel) (by decide +kernel) at_AckBook_47 t_385 t_384 t_16 t_724 hl.1 d_AckBook_came_21 d_AckBook_came_24 d_AckBook_came_25 d_AckBook_came_27 d_AckBook_came_30 (by rw [hRt.1]; decide) (by rw [hRt.2]; first | exact Nat.le_of_ble_eq_true rfl | simp [z_rfc, z_ci, z_cj])
def f_AckBookLaw_came (F X : Nat) (pR1 : Option Nat) (pI2 : Int32) (pJ3 : Int64) (pI4 : Int32) (pR5 : Option Nat) (w : zW) : zR :=
  z_this w 0 pR1 <|
  z_tI (f_AckBook_came F X pR1 pI2 pJ3 pI4 w) (fun v2 w =>
    if v2 = 0 then (
      z_stL w pR5 (0 : Int32) (0 : Int64) fun w =>
      some (.inl (some (.int (0 : Int32))), w))
    else (
      z_stL w pR5 (0 : Int32) (1 : Int64) fun w =>
      some (.inl (some (.int (0 : Int32))), w)))
    (fun ci w => if ci = 11 then (some (.inl (some (.int (1 : Int32))), w)) else if ci = 12 then (some (.inl (some (.int (2 : Int32))), w)) else none)
set_option maxHeartbeats 4000000 in
set_option maxRecDepth 100000 in
theorem k_AckBookLaw_came {b0 : Nat} {H0 : Heap} {D : va_G} {vu vs : Value} {X M : Nat} {l : Launch} (hT : z_TB (zGG b0 H0 D vu vs X M)) (hfl : l.flags = pinnedFlags ++ [noTraceFlag]) (hE : vu.isRef = true ∧ vs.isRef = true) {pR1 : Option Nat} {pI2 : Int32} {pJ3 : Int64} {pI4 : Int32} {pR5 : Option Nat} (F : Nat) {w : zW} (res : zO × zW) (h : f_AckBookLaw_came F X pR1 pI2 pJ3 pI4 pR5 w = some res) : z_Ct (zGG b0 H0 D vu vs X M) l y_AckBookLaw_came (.codeWith y_AckBookLaw_came c_AckBookLaw_came 7 (some FieldType.int) [(0, 20, 23, 13), (0, 20, 27, 15)]) 8 146 [va_rf pR1, .int pI2, .long pJ3, .int pI4, va_rf pR5] w res := by
  refine z_ctW hT hfl (by decide) (by simp only [z_sl_i, z_sl_j, z_sl_r, z_sl_n]; decide) ?_
  intro p e R s m args below meth c hC hr hRc hRs hRt hnm hFr H ls hZ hl
  simp only [z_la_i, z_la_j, z_la_r, z_la_n] at hl
  have hl : lv_has ls 7 [(0, va_rf pR1), (1, .int pI2), (2, .long pJ3), (4, .int pI4), (5, va_rf pR5)] := hl
  unfold f_AckBookLaw_came at h
  refine x_aload hC d_AckBookLaw_came_0 (lv_at hl 4 rfl) ?_
  refine lv_iconst (v := (0 : Int32)) hC.1 hC.2.1 d_AckBookLaw_came_2 (by decide) ?_
  refine x_aload_n hC d_AckBookLaw_came_3 rfl (lv_at hl 0 rfl) ?_
  refine lv_iload_n hC.1 hC.2.1 d_AckBookLaw_came_4 rfl (lv_at hl 1 rfl) ?_
  refine lv_lload_n hC.1 hC.2.1 d_AckBookLaw_came_5 rfl (lv_at hl 2 rfl) ?_
  refine lv_iload hC.1 hC.2.1 d_AckBookLaw_came_6 (lv_at hl 3 rfl) ?_
  obtain ⟨a_, fs_, eo_, h⟩ := z_this_spec h
  obtain ⟨w1_, o1_, hF_, ha_⟩ := z_tI_spec h
  refine x_goesT hC hFr ha_ (z_goV (As := [.int pI2, .long pJ3, .int pI4]) hC hZ zc0 eo_ (k_AckBook_came hT hfl hE _ _ hF_) t_719 t_720 t_721 t_1 t_722 ⟨by decide, by decide, (by decide +kernel : (parseMethodDescriptor y_AckBook_came.desc).map (fun d => d.parameters.length) = some 3)⟩ (by rw [hRt.1]; decide) (by rw [hRt.2]; decide) hl.1 rfl (by first | exact Nat.le_of_ble_eq_true rfl | simp [z_rfc, z_ci, z_cj]) d_AckBookLaw_came_8) (fun v_ hv H locs cells slots hZ => ?_) (fun ci_ h => ?_)
  · obtain ⟨v2, rfl, h⟩ := hv
    generalize w1_ = w at h hZ
    refine lv_if_eq (tgt := 18) hC.1 hC.2.1 d_AckBookLaw_came_11 (by decide) (fun hc => ?_) (fun hc => ?_)
    · have h := z_ifp hc h
      refine lv_lconst (v := (0 : Int64)) hC.1 hC.2.1 d_AckBookLaw_came_18 (by decide) ?_
      refine x_stL hC hZ h d_AckBookLaw_came_19 (fun w H locs hZ h => ?_)
      refine lv_goto (tgt := 31) hC.1 hC.2.1 d_AckBookLaw_came_20 (by decide) ?_
      refine lv_iconst (v := (0 : Int32)) hC.1 hC.2.1 d_AckBookLaw_came_31 (by decide) ?_
      exact x_iret hC hRc hRs hZ hr rfl h d_AckBookLaw_came_32
    · have h := z_ifn hc h
      refine lv_lconst (v := (1 : Int64)) hC.1 hC.2.1 d_AckBookLaw_came_14 (by decide) ?_
      refine lv_goto (tgt := 19) hC.1 hC.2.1 d_AckBookLaw_came_15 (by decide) ?_
      refine x_stL hC hZ h d_AckBookLaw_came_19 (fun w H locs hZ h => ?_)
      refine lv_goto (tgt := 31) hC.1 hC.2.1 d_AckBookLaw_came_20 (by decide) ?_
      refine lv_iconst (v := (0 : Int32)) hC.1 hC.2.1 d_AckBookLaw_came_31 (by decide) ?_
      exact x_iret hC hRc hRs hZ hr rfl h d_AckBookLaw_came_32
  · by_cases hq0 : ci_ = 11
    · have h := z_ifp hq0 h
      subst hq0
      refine ⟨_, _, _, 23, rfl, ⟨⟨by decide, by decide⟩, by decide, _, t_374, Or.inl ⟨t_386, rfl⟩⟩, fun x_ H locs cells slots hZ => ?_⟩
      generalize w1_ = w at h hZ
      refine x_astore (i := 6) (lv' := [(6, va_rf (some x_)), (0, va_rf pR1), (1, .int pI2), (2, .long pJ3), (4, .int pI4), (5, va_rf pR5)]) hC d_AckBookLaw_came_23 hl (by decide) (by first | rfl | simp [z_rfc, z_ci, z_cj]) (fun ls hl => ?_)
      refine lv_iconst (v := (1 : Int32)) hC.1 hC.2.1 d_AckBookLaw_came_25 (by decide) ?_
      exact x_iret hC hRc hRs hZ hr rfl h d_AckBookLaw_came_26
    have h := z_ifn hq0 h
    by_cases hq1 : ci_ = 12
    · have h := z_ifp hq1 h
      subst hq1
      refine ⟨_, _, _, 27, rfl, ⟨⟨by decide, by decide⟩, by decide, _, t_374, Or.inr ⟨tn_0, ⟨⟨by decide, by decide⟩, by decide, _, t_375, Or.inl ⟨t_459, rfl⟩⟩⟩⟩, fun x_ H locs cells slots hZ => ?_⟩
      generalize w1_ = w at h hZ
      refine x_astore (i := 6) (lv' := [(6, va_rf (some x_)), (0, va_rf pR1), (1, .int pI2), (2, .long pJ3), (4, .int pI4), (5, va_rf pR5)]) hC d_AckBookLaw_came_27 hl (by decide) (by first | rfl | simp [z_rfc, z_ci, z_cj]) (fun ls hl => ?_)
      refine lv_iconst (v := (2 : Int32)) hC.1 hC.2.1 d_AckBookLaw_came_29 (by decide) ?_
      exact x_iret hC hRc hRs hZ hr rfl h d_AckBookLaw_came_30
    have h := z_ifn hq1 h
    cases h
def f_AckBook_Arrivals_isPressing (F X : Nat) (a0 : Option Nat) (pI1 : Int32) (w : zW) : zR :=
  z_getI w 5 4 a0 fun v1 =>
  if v1 = 0 then (
    some (.inl (some (.int (0 : Int32))), w))
  else (
    z_getI w 5 4 a0 fun v2 =>
    if (2 : Int32) ≤ v2 then (
      some (.inl (some (.int (1 : Int32))), w))
    else (
      z_getI w 5 6 a0 fun v3 =>
      if v3 = 0 then (
        z_getI w 5 5 a0 fun v4 =>
        if (pI1 - v4) < (25 : Int32) then (
          some (.inl (some (.int (0 : Int32))), w))
        else (
          some (.inl (some (.int (1 : Int32))), w)))
      else (
        some (.inl (some (.int (1 : Int32))), w))))
set_option maxHeartbeats 4000000 in
set_option maxRecDepth 100000 in
theorem k_AckBook_Arrivals_isPressing {b0 : Nat} {H0 : Heap} {D : va_G} {vu vs : Value} {X M : Nat} {l : Launch} (hT : z_TB (zGG b0 H0 D vu vs X M)) (hfl : l.flags = pinnedFlags ++ [noTraceFlag]) (hE : vu.isRef = true ∧ vs.isRef = true) {a0 : Option Nat} {pI1 : Int32} (F : Nat) {w : zW} (res : zO × zW) (h : f_AckBook_Arrivals_isPressing F X a0 pI1 w = some res) : z_Ct (zGG b0 H0 D vu vs X M) l y_AckBook_Arrivals_isPressing (.code y_AckBook_Arrivals_isPressing c_AckBook_Arrivals_isPressing 2 (some FieldType.boolean)) 0 0 [va_rf a0, .int pI1] w res := by
  refine z_ct hT hfl (by decide) (by simp only [z_sl_i, z_sl_j, z_sl_r, z_sl_n]; decide) ?_
  intro p e R s m args below meth c hC hr hRc hRs hRt hnm hFr H ls hZ hl
  simp only [z_la_i, z_la_j, z_la_r, z_la_n] at hl
  have hl : lv_has ls 2 [(0, va_rf a0), (1, .int pI1)] := hl
  unfold f_AckBook_Arrivals_isPressing at h
  refine x_aload_n hC d_AckBook_Arrivals_isPressing_0 rfl (lv_at hl 0 rfl) ?_
  refine x_getI hC hZ zc5 h (by decide) t_132 (fun _ h9 => h9) d_AckBook_Arrivals_isPressing_1 (fun v1 h => ?_)
  refine lv_if_ne (tgt := 9) hC.1 hC.2.1 d_AckBook_Arrivals_isPressing_4 (by decide) (fun hc => ?_) (fun hc => ?_)
  · have h := z_ifn hc h
    refine x_aload_n hC d_AckBook_Arrivals_isPressing_9 rfl (lv_at hl 0 rfl) ?_
    refine x_getI hC hZ zc5 h (by decide) t_132 (fun _ h9 => h9) d_AckBook_Arrivals_isPressing_10 (fun v2 h => ?_)
    refine lv_iconst (v := (2 : Int32)) hC.1 hC.2.1 d_AckBook_Arrivals_isPressing_13 (by decide) ?_
    refine lv_icmp_ge (tgt := 35) hC.1 hC.2.1 d_AckBook_Arrivals_isPressing_14 (by decide) (fun hc => ?_) (fun hc => ?_)
    · have h := z_ifp hc h
      refine lv_iconst (v := (1 : Int32)) hC.1 hC.2.1 d_AckBook_Arrivals_isPressing_35 (by decide) ?_
      refine lv_goto (tgt := 40) hC.1 hC.2.1 d_AckBook_Arrivals_isPressing_36 (by decide) ?_
      exact x_iret hC hRc hRs hZ hr rfl h d_AckBook_Arrivals_isPressing_40
    · have h := z_ifn hc h
      refine x_aload_n hC d_AckBook_Arrivals_isPressing_17 rfl (lv_at hl 0 rfl) ?_
      refine x_getI hC hZ zc5 h (by decide) t_135 (fun _ h9 => h9) d_AckBook_Arrivals_isPressing_18 (fun v3 h => ?_)
      refine lv_if_ne (tgt := 35) hC.1 hC.2.1 d_AckBook_Arrivals_isPressing_21 (by decide) (fun hc => ?_) (fun hc => ?_)
      · have h := z_ifn hc h
        refine lv_iconst (v := (1 : Int32)) hC.1 hC.2.1 d_AckBook_Arrivals_isPressing_35 (by decide) ?_
        refine lv_goto (tgt := 40) hC.1 hC.2.1 d_AckBook_Arrivals_isPressing_36 (by decide) ?_
        exact x_iret hC hRc hRs hZ hr rfl h d_AckBook_Arrivals_isPressing_40
      · have h := z_ifp hc h
        refine lv_iload_n hC.1 hC.2.1 d_AckBook_Arrivals_isPressing_24 rfl (lv_at hl 1 rfl) ?_
        refine x_aload_n hC d_AckBook_Arrivals_isPressing_25 rfl (lv_at hl 0 rfl) ?_
        refine x_getI hC hZ zc5 h (by decide) t_134 (fun _ h9 => h9) d_AckBook_Arrivals_isPressing_26 (fun v4 h => ?_)
        refine lv_isub hC.1 hC.2.1 d_AckBook_Arrivals_isPressing_29 ?_
        refine lv_bipush (v := (25 : Int32)) hC.1 hC.2.1 d_AckBook_Arrivals_isPressing_30 (by decide) ?_
        refine lv_icmp_lt (tgt := 39) hC.1 hC.2.1 d_AckBook_Arrivals_isPressing_32 (by decide) (fun hc => ?_) (fun hc => ?_)
        · have h := z_ifp hc h
          refine lv_iconst (v := (0 : Int32)) hC.1 hC.2.1 d_AckBook_Arrivals_isPressing_39 (by decide) ?_
          exact x_iret hC hRc hRs hZ hr rfl h d_AckBook_Arrivals_isPressing_40
        · have h := z_ifn hc h
          refine lv_iconst (v := (1 : Int32)) hC.1 hC.2.1 d_AckBook_Arrivals_isPressing_35 (by decide) ?_
          refine lv_goto (tgt := 40) hC.1 hC.2.1 d_AckBook_Arrivals_isPressing_36 (by decide) ?_
          exact x_iret hC hRc hRs hZ hr rfl h d_AckBook_Arrivals_isPressing_40
  · have h := z_ifp hc h
    refine lv_iconst (v := (0 : Int32)) hC.1 hC.2.1 d_AckBook_Arrivals_isPressing_7 (by decide) ?_
    exact x_iret hC hRc hRs hZ hr rfl h d_AckBook_Arrivals_isPressing_8
def f_AckBook_due (F X : Nat) (a0 : Option Nat) (pI1 : Int32) (w : zW) : zR :=
  z_this w 0 a0 <|
  z_cR (f_AckBook_known F X a0 pI1 w) fun r2 w =>
  z_getI w 1 0 r2 fun v3 =>
  if v3 = (2 : Int32) then (
    z_getR w 1 2 r2 fun r4 =>
    z_getI w 0 4 a0 fun v5 =>
    z_this w 5 r4 <|
    z_cI (f_AckBook_Arrivals_isPressing F X r4 v5 w) fun v7 w =>
    z_retZ v7 w)
  else (
    z_getR w 1 2 r2 fun r8 =>
    z_getI w 5 4 r8 fun v9 =>
    if v9 ≤ 0 then (
      some (.inl (some (.int (0 : Int32))), w))
    else (
      some (.inl (some (.int (1 : Int32))), w)))
set_option maxHeartbeats 4000000 in
set_option maxRecDepth 100000 in
theorem k_AckBook_due {b0 : Nat} {H0 : Heap} {D : va_G} {vu vs : Value} {X M : Nat} {l : Launch} (hT : z_TB (zGG b0 H0 D vu vs X M)) (hfl : l.flags = pinnedFlags ++ [noTraceFlag]) (hE : vu.isRef = true ∧ vs.isRef = true) {a0 : Option Nat} {pI1 : Int32} (F : Nat) {w : zW} (res : zO × zW) (h : f_AckBook_due F X a0 pI1 w = some res) : z_Ct (zGG b0 H0 D vu vs X M) l y_AckBook_due (.code y_AckBook_due c_AckBook_due 3 (some FieldType.boolean)) 7 121 [va_rf a0, .int pI1] w res := by
  refine z_ct hT hfl (by decide) (by simp only [z_sl_i, z_sl_j, z_sl_r, z_sl_n]; decide) ?_
  intro p e R s m args below meth c hC hr hRc hRs hRt hnm hFr H ls hZ hl
  simp only [z_la_i, z_la_j, z_la_r, z_la_n] at hl
  have hl : lv_has ls 3 [(0, va_rf a0), (1, .int pI1)] := hl
  unfold f_AckBook_due at h
  refine x_aload_n hC d_AckBook_due_0 rfl (lv_at hl 0 rfl) ?_
  refine lv_iload_n hC.1 hC.2.1 d_AckBook_due_1 rfl (lv_at hl 1 rfl) ?_
  obtain ⟨a_, fs_, eo_, h⟩ := z_this_spec h
  obtain ⟨w1_, o1_, hF_, ha_⟩ := z_cR_spec h
  refine x_goes hC hRc hRs hFr ha_ (z_goV (As := [.int pI1]) hC hZ zc0 eo_ (k_AckBook_known hT hfl hE _ _ hF_) t_380 t_382 ts_AckBook_known t_1 t_383 ⟨by decide, by decide, (by decide +kernel : (parseMethodDescriptor y_AckBook_known.desc).map (fun d => d.parameters.length) = some 1)⟩ (by rw [hRt.1]; decide) (by rw [hRt.2]; decide) hl.1 rfl (by first | exact Nat.le_of_ble_eq_true rfl | simp [z_rfc, z_ci, z_cj]) d_AckBook_due_2) (fun v_ hv H locs cells slots hZ => ?_)
  obtain ⟨r2, rfl, h⟩ := hv
  generalize w1_ = w at h hZ
  refine x_astore_n (i := 2) (lv' := [(2, va_rf r2), (0, va_rf a0), (1, .int pI1)]) hC d_AckBook_due_5 rfl hl (by decide) (by first | rfl | simp [z_rfc, z_ci, z_cj]) (fun ls hl => ?_)
  refine x_aload_n hC d_AckBook_due_6 rfl (lv_at hl 0 rfl) ?_
  refine x_getI hC hZ zc1 h (by decide) t_156 (fun _ h9 => h9) d_AckBook_due_7 (fun v3 h => ?_)
  refine lv_iconst (v := (2 : Int32)) hC.1 hC.2.1 d_AckBook_due_10 (by decide) ?_
  refine lv_icmp_ne (tgt := 28) hC.1 hC.2.1 d_AckBook_due_11 (by decide) (fun hc => ?_) (fun hc => ?_)
  · have h := z_ifn hc h
    refine x_aload_n hC d_AckBook_due_28 rfl (lv_at hl 0 rfl) ?_
    refine x_getR hC hZ zc1 h (by decide) t_160 (fun _ h9 => h9) d_AckBook_due_29 (fun r8 h => ?_)
    refine x_getI hC hZ zc5 h (by decide) t_133 (fun _ h9 => h9) d_AckBook_due_32 (fun v9 h => ?_)
    refine lv_if_le (tgt := 42) hC.1 hC.2.1 d_AckBook_due_35 (by decide) (fun hc => ?_) (fun hc => ?_)
    · have h := z_ifp hc h
      refine lv_iconst (v := (0 : Int32)) hC.1 hC.2.1 d_AckBook_due_42 (by decide) ?_
      exact x_iret hC hRc hRs hZ hr rfl h d_AckBook_due_43
    · have h := z_ifn hc h
      refine lv_iconst (v := (1 : Int32)) hC.1 hC.2.1 d_AckBook_due_38 (by decide) ?_
      refine lv_goto (tgt := 43) hC.1 hC.2.1 d_AckBook_due_39 (by decide) ?_
      exact x_iret hC hRc hRs hZ hr rfl h d_AckBook_due_43
  · have h := z_ifp hc h
    refine x_aload_n hC d_AckBook_due_14 rfl (lv_at hl 0 rfl) ?_
    refine x_getR hC hZ zc1 h (by decide) t_160 (fun _ h9 => h9) d_AckBook_due_15 (fun r4 h => ?_)
    refine x_aload_n hC d_AckBook_due_18 rfl (lv_at hl 1 rfl) ?_
    refine x_getI hC hZ zc0 h (by decide) t_245 (fun _ h9 => h9) d_AckBook_due_19 (fun v5 h => ?_)
    obtain ⟨a_, fs_, eo_, h⟩ := z_this_spec h
    obtain ⟨w1_, o1_, hF_, ha_⟩ := z_cI_spec h
    refine x_goes hC hRc hRs hFr ha_ (z_goV (As := [.int v5]) hC hZ zc5 eo_ (k_AckBook_Arrivals_isPressing hT hfl hE _ _ hF_) t_757 t_758 t_759 t_8 t_760 ⟨by decide, by decide, (by decide +kernel : (parseMethodDescriptor y_AckBook_Arrivals_isPressing.desc).map (fun d => d.parameters.length) = some 1)⟩ (by rw [hRt.1]; decide) (by rw [hRt.2]; decide) hl.1 rfl (by first | exact Nat.le_of_ble_eq_true rfl | simp [z_rfc, z_ci, z_cj]) d_AckBook_due_22) (fun v_ hv H locs cells slots hZ => ?_)
    obtain ⟨v7, rfl, h⟩ := hv
    generalize w1_ = w at h hZ
    refine lv_goto (tgt := 43) hC.1 hC.2.1 d_AckBook_due_25 (by decide) ?_
    exact x_zret hC hRc hRs hZ hr h d_AckBook_due_43
def f_AckBookLaw_due (F X : Nat) (pR1 : Option Nat) (pI2 : Int32) (pR3 : Option Nat) (w : zW) : zR :=
  z_this w 0 pR1 <|
  z_tI (f_AckBook_due F X pR1 pI2 w) (fun v2 w =>
    if v2 = 0 then (
      z_stL w pR3 (0 : Int32) (0 : Int64) fun w =>
      some (.inl (some (.int (0 : Int32))), w))
    else (
      z_stL w pR3 (0 : Int32) (1 : Int64) fun w =>
      some (.inl (some (.int (0 : Int32))), w)))
    (fun ci w => if ci = 11 then (some (.inl (some (.int (1 : Int32))), w)) else none)
set_option maxHeartbeats 4000000 in
set_option maxRecDepth 100000 in
theorem k_AckBookLaw_due {b0 : Nat} {H0 : Heap} {D : va_G} {vu vs : Value} {X M : Nat} {l : Launch} (hT : z_TB (zGG b0 H0 D vu vs X M)) (hfl : l.flags = pinnedFlags ++ [noTraceFlag]) (hE : vu.isRef = true ∧ vs.isRef = true) {pR1 : Option Nat} {pI2 : Int32} {pR3 : Option Nat} (F : Nat) {w : zW} (res : zO × zW) (h : f_AckBookLaw_due F X pR1 pI2 pR3 w = some res) : z_Ct (zGG b0 H0 D vu vs X M) l y_AckBookLaw_due (.codeWith y_AckBookLaw_due c_AckBookLaw_due 4 (some FieldType.int) [(0, 16, 19, 13)]) 8 143 [va_rf pR1, .int pI2, va_rf pR3] w res := by
  refine z_ctW hT hfl (by decide) (by simp only [z_sl_i, z_sl_j, z_sl_r, z_sl_n]; decide) ?_
  intro p e R s m args below meth c hC hr hRc hRs hRt hnm hFr H ls hZ hl
  simp only [z_la_i, z_la_j, z_la_r, z_la_n] at hl
  have hl : lv_has ls 4 [(0, va_rf pR1), (1, .int pI2), (2, va_rf pR3)] := hl
  unfold f_AckBookLaw_due at h
  refine x_aload_n hC d_AckBookLaw_due_0 rfl (lv_at hl 2 rfl) ?_
  refine lv_iconst (v := (0 : Int32)) hC.1 hC.2.1 d_AckBookLaw_due_1 (by decide) ?_
  refine x_aload_n hC d_AckBookLaw_due_2 rfl (lv_at hl 0 rfl) ?_
  refine lv_iload_n hC.1 hC.2.1 d_AckBookLaw_due_3 rfl (lv_at hl 1 rfl) ?_
  obtain ⟨a_, fs_, eo_, h⟩ := z_this_spec h
  obtain ⟨w1_, o1_, hF_, ha_⟩ := z_tI_spec h
  refine x_goesT hC hFr ha_ (z_goV (As := [.int pI2]) hC hZ zc0 eo_ (k_AckBook_due hT hfl hE _ _ hF_) t_753 t_754 t_755 t_1 t_756 ⟨by decide, by decide, (by decide +kernel : (parseMethodDescriptor y_AckBook_due.desc).map (fun d => d.parameters.length) = some 1)⟩ (by rw [hRt.1]; decide) (by rw [hRt.2]; decide) hl.1 rfl (by first | exact Nat.le_of_ble_eq_true rfl | simp [z_rfc, z_ci, z_cj]) d_AckBookLaw_due_4) (fun v_ hv H locs cells slots hZ => ?_) (fun ci_ h => ?_)
  · obtain ⟨v2, rfl, h⟩ := hv
    generalize w1_ = w at h hZ
    refine lv_if_eq (tgt := 14) hC.1 hC.2.1 d_AckBookLaw_due_7 (by decide) (fun hc => ?_) (fun hc => ?_)
    · have h := z_ifp hc h
      refine lv_lconst (v := (0 : Int64)) hC.1 hC.2.1 d_AckBookLaw_due_14 (by decide) ?_
      refine x_stL hC hZ h d_AckBookLaw_due_15 (fun w H locs hZ h => ?_)
      refine lv_goto (tgt := 22) hC.1 hC.2.1 d_AckBookLaw_due_16 (by decide) ?_
      refine lv_iconst (v := (0 : Int32)) hC.1 hC.2.1 d_AckBookLaw_due_22 (by decide) ?_
      exact x_iret hC hRc hRs hZ hr rfl h d_AckBookLaw_due_23
    · have h := z_ifn hc h
      refine lv_lconst (v := (1 : Int64)) hC.1 hC.2.1 d_AckBookLaw_due_10 (by decide) ?_
      refine lv_goto (tgt := 15) hC.1 hC.2.1 d_AckBookLaw_due_11 (by decide) ?_
      refine x_stL hC hZ h d_AckBookLaw_due_15 (fun w H locs hZ h => ?_)
      refine lv_goto (tgt := 22) hC.1 hC.2.1 d_AckBookLaw_due_16 (by decide) ?_
      refine lv_iconst (v := (0 : Int32)) hC.1 hC.2.1 d_AckBookLaw_due_22 (by decide) ?_
      exact x_iret hC hRc hRs hZ hr rfl h d_AckBookLaw_due_23
  · by_cases hq0 : ci_ = 11
    · have h := z_ifp hq0 h
      subst hq0
      refine ⟨_, _, _, 19, rfl, ⟨⟨by decide, by decide⟩, by decide, _, t_374, Or.inl ⟨t_386, rfl⟩⟩, fun x_ H locs cells slots hZ => ?_⟩
      generalize w1_ = w at h hZ
      refine x_astore_n (i := 3) (lv' := [(3, va_rf (some x_)), (0, va_rf pR1), (1, .int pI2), (2, va_rf pR3)]) hC d_AckBookLaw_due_19 rfl hl (by decide) (by first | rfl | simp [z_rfc, z_ci, z_cj]) (fun ls hl => ?_)
      refine lv_iconst (v := (1 : Int32)) hC.1 hC.2.1 d_AckBookLaw_due_20 (by decide) ?_
      exact x_iret hC hRc hRs hZ hr rfl h d_AckBookLaw_due_21
    have h := z_ifn hq0 h
    cases h
def f_AckBook_Arrivals_settle (F X : Nat) (a0 : Option Nat) (pI1 : Int32) (w : zW) : zR :=
  z_put w 5 4 a0 (.int (0 : Int32)) fun w =>
  z_putZ w 5 6 a0 (0 : Int32) fun w =>
  z_getI w 5 7 a0 fun v1 =>
  some (.inl (some (.int (pI1 - v1))), w)
set_option maxHeartbeats 4000000 in
set_option maxRecDepth 100000 in
theorem k_AckBook_Arrivals_settle {b0 : Nat} {H0 : Heap} {D : va_G} {vu vs : Value} {X M : Nat} {l : Launch} (hT : z_TB (zGG b0 H0 D vu vs X M)) (hfl : l.flags = pinnedFlags ++ [noTraceFlag]) (hE : vu.isRef = true ∧ vs.isRef = true) {a0 : Option Nat} {pI1 : Int32} (F : Nat) {w : zW} (res : zO × zW) (h : f_AckBook_Arrivals_settle F X a0 pI1 w = some res) : z_Ct (zGG b0 H0 D vu vs X M) l y_AckBook_Arrivals_settle (.code y_AckBook_Arrivals_settle c_AckBook_Arrivals_settle 2 (some FieldType.int)) 0 0 [va_rf a0, .int pI1] w res := by
  refine z_ct hT hfl (by decide) (by simp only [z_sl_i, z_sl_j, z_sl_r, z_sl_n]; decide) ?_
  intro p e R s m args below meth c hC hr hRc hRs hRt hnm hFr H ls hZ hl
  simp only [z_la_i, z_la_j, z_la_r, z_la_n] at hl
  have hl : lv_has ls 2 [(0, va_rf a0), (1, .int pI1)] := hl
  unfold f_AckBook_Arrivals_settle at h
  refine x_aload_n hC d_AckBook_Arrivals_settle_0 rfl (lv_at hl 0 rfl) ?_
  refine lv_iconst (v := (0 : Int32)) hC.1 hC.2.1 d_AckBook_Arrivals_settle_1 (by decide) ?_
  refine x_put hC hZ zc5 h (by decide) t_132 (fun _ h9 => h9) rfl rfl rfl rfl d_AckBook_Arrivals_settle_2 (fun w H locs hZ h => ?_)
  refine x_aload_n hC d_AckBook_Arrivals_settle_5 rfl (lv_at hl 0 rfl) ?_
  refine lv_iconst (v := (0 : Int32)) hC.1 hC.2.1 d_AckBook_Arrivals_settle_6 (by decide) ?_
  refine x_putZ hC hZ zc5 h (by decide) t_135 (fun _ h9 => h9) rfl rfl d_AckBook_Arrivals_settle_7 (fun w H locs hZ h => ?_)
  refine lv_iload_n hC.1 hC.2.1 d_AckBook_Arrivals_settle_10 rfl (lv_at hl 1 rfl) ?_
  refine x_aload_n hC d_AckBook_Arrivals_settle_11 rfl (lv_at hl 0 rfl) ?_
  refine x_getI hC hZ zc5 h (by decide) t_136 (fun _ h9 => h9) d_AckBook_Arrivals_settle_12 (fun v1 h => ?_)
  refine lv_isub hC.1 hC.2.1 d_AckBook_Arrivals_settle_15 ?_
  exact x_iret hC hRc hRs hZ hr rfl h d_AckBook_Arrivals_settle_16
def f_AckBook_written (F X : Nat) (a0 : Option Nat) (pI1 : Int32) (w : zW) : zR :=
  z_this w 0 a0 <|
  z_cR (f_AckBook_known F X a0 pI1 w) fun r2 w =>
  z_cV (f_AckBook_refuseDiscarded F X r2 w) fun w =>
  z_getR w 1 2 r2 fun r4 =>
  z_getI w 5 2 r4 fun v5 =>
  if v5 = 0 then (
    z_thr w 12)
  else (
    z_getR w 1 2 r2 fun r6 =>
    z_getI w 0 4 a0 fun v7 =>
    z_this w 5 r6 <|
    z_cI (f_AckBook_Arrivals_settle F X r6 v7 w) fun v9 w =>
    some (.inl (some (.int v9)), w))
set_option maxHeartbeats 4000000 in
set_option maxRecDepth 100000 in
theorem k_AckBook_written {b0 : Nat} {H0 : Heap} {D : va_G} {vu vs : Value} {X M : Nat} {l : Launch} (hT : z_TB (zGG b0 H0 D vu vs X M)) (hfl : l.flags = pinnedFlags ++ [noTraceFlag]) (hE : vu.isRef = true ∧ vs.isRef = true) {a0 : Option Nat} {pI1 : Int32} (F : Nat) {w : zW} (res : zO × zW) (h : f_AckBook_written F X a0 pI1 w = some res) : z_Ct (zGG b0 H0 D vu vs X M) l y_AckBook_written (.code y_AckBook_written c_AckBook_written 3 (some FieldType.int)) 7 121 [va_rf a0, .int pI1] w res := by
  refine z_ct hT hfl (by decide) (by simp only [z_sl_i, z_sl_j, z_sl_r, z_sl_n]; decide) ?_
  intro p e R s m args below meth c hC hr hRc hRs hRt hnm hFr H ls hZ hl
  simp only [z_la_i, z_la_j, z_la_r, z_la_n] at hl
  have hl : lv_has ls 3 [(0, va_rf a0), (1, .int pI1)] := hl
  unfold f_AckBook_written at h
  refine x_aload_n hC d_AckBook_written_0 rfl (lv_at hl 0 rfl) ?_
  refine lv_iload_n hC.1 hC.2.1 d_AckBook_written_1 rfl (lv_at hl 1 rfl) ?_
  obtain ⟨a_, fs_, eo_, h⟩ := z_this_spec h
  obtain ⟨w1_, o1_, hF_, ha_⟩ := z_cR_spec h
  refine x_goes hC hRc hRs hFr ha_ (z_goV (As := [.int pI1]) hC hZ zc0 eo_ (k_AckBook_known hT hfl hE _ _ hF_) t_380 t_382 ts_AckBook_known t_1 t_383 ⟨by decide, by decide, (by decide +kernel : (parseMethodDescriptor y_AckBook_known.desc).map (fun d => d.parameters.length) = some 1)⟩ (by rw [hRt.1]; decide) (by rw [hRt.2]; decide) hl.1 rfl (by first | exact Nat.le_of_ble_eq_true rfl | simp [z_rfc, z_ci, z_cj]) d_AckBook_written_2) (fun v_ hv H locs cells slots hZ => ?_)
  obtain ⟨r2, rfl, h⟩ := hv
  generalize w1_ = w at h hZ
  refine x_astore_n (i := 2) (lv' := [(2, va_rf r2), (0, va_rf a0), (1, .int pI1)]) hC d_AckBook_written_5 rfl hl (by decide) (by first | rfl | simp [z_rfc, z_ci, z_cj]) (fun ls hl => ?_)
  refine x_aload_n hC d_AckBook_written_6 rfl (lv_at hl 0 rfl) ?_
  obtain ⟨w1_, o1_, hF_, ha_⟩ := z_cV_spec h
  refine x_goes hC hRc hRs hFr ha_ (z_goS (As := [va_rf r2]) hC hZ (k_AckBook_refuseDiscarded hT hfl hE _ _ hF_) t_454 t_455 t_1 t_456 ⟨by decide, by decide, (by decide +kernel : (parseMethodDescriptor y_AckBook_refuseDiscarded.desc).map (fun d => d.parameters.length) = some 1)⟩ (by rw [hRt.1]; decide) (by rw [hRt.2]; decide) hl.1 rfl (by first | exact Nat.le_of_ble_eq_true rfl | simp [z_rfc, z_ci, z_cj]) d_AckBook_written_7) (fun v_ hv H locs cells slots hZ => ?_)
  obtain ⟨rfl, h⟩ := hv
  generalize w1_ = w at h hZ
  refine x_aload_n hC d_AckBook_written_10 rfl (lv_at hl 0 rfl) ?_
  refine x_getR hC hZ zc1 h (by decide) t_160 (fun _ h9 => h9) d_AckBook_written_11 (fun r4 h => ?_)
  refine x_getI hC hZ zc5 h (by decide) t_129 (fun _ h9 => h9) d_AckBook_written_14 (fun v5 h => ?_)
  refine lv_if_ne (tgt := 30) hC.1 hC.2.1 d_AckBook_written_17 (by decide) (fun hc => ?_) (fun hc => ?_)
  · have h := z_ifn hc h
    refine x_aload_n hC d_AckBook_written_30 rfl (lv_at hl 0 rfl) ?_
    refine x_getR hC hZ zc1 h (by decide) t_160 (fun _ h9 => h9) d_AckBook_written_31 (fun r6 h => ?_)
    refine x_aload_n hC d_AckBook_written_34 rfl (lv_at hl 1 rfl) ?_
    refine x_getI hC hZ zc0 h (by decide) t_245 (fun _ h9 => h9) d_AckBook_written_35 (fun v7 h => ?_)
    obtain ⟨a_, fs_, eo_, h⟩ := z_this_spec h
    obtain ⟨w1_, o1_, hF_, ha_⟩ := z_cI_spec h
    refine x_goes hC hRc hRs hFr ha_ (z_goV (As := [.int v7]) hC hZ zc5 eo_ (k_AckBook_Arrivals_settle hT hfl hE _ _ hF_) t_769 t_770 t_771 t_8 t_772 ⟨by decide, by decide, (by decide +kernel : (parseMethodDescriptor y_AckBook_Arrivals_settle.desc).map (fun d => d.parameters.length) = some 1)⟩ (by rw [hRt.1]; decide) (by rw [hRt.2]; decide) hl.1 rfl (by first | exact Nat.le_of_ble_eq_true rfl | simp [z_rfc, z_ci, z_cj]) d_AckBook_written_38) (fun v_ hv H locs cells slots hZ => ?_)
    obtain ⟨v9, rfl, h⟩ := hv
    generalize w1_ = w at h hZ
    exact x_iret hC hRc hRs hZ hr rfl h d_AckBook_written_41
  · have h := z_ifp hc h
    exact x_thr (names := ["java/lang/RuntimeException", "java/lang/Exception"]) hC hRc hRs hFr hZ rfl h ⟨List.mem_cons_self, hE.1⟩ ⟨List.mem_cons_of_mem _ List.mem_cons_self, hE.2⟩ (by decide +kernel) (by decide +kernel) at_AckBook_70 t_458 t_457 t_17 t_768 hl.1 d_AckBook_written_20 d_AckBook_written_23 d_AckBook_written_24 d_AckBook_written_26 d_AckBook_written_29 (by rw [hRt.1]; decide) (by rw [hRt.2]; first | exact Nat.le_of_ble_eq_true rfl | simp [z_rfc, z_ci, z_cj])
def f_AckBookLaw_written (F X : Nat) (pR1 : Option Nat) (pI2 : Int32) (pR3 : Option Nat) (w : zW) : zR :=
  z_this w 0 pR1 <|
  z_tI (f_AckBook_written F X pR1 pI2 w) (fun v2 w =>
    z_stL w pR3 (0 : Int32) v2.toInt64 fun w =>
    some (.inl (some (.int (0 : Int32))), w))
    (fun ci w => if ci = 11 then (some (.inl (some (.int (1 : Int32))), w)) else if ci = 12 then (some (.inl (some (.int (2 : Int32))), w)) else none)
set_option maxHeartbeats 4000000 in
set_option maxRecDepth 100000 in
theorem k_AckBookLaw_written {b0 : Nat} {H0 : Heap} {D : va_G} {vu vs : Value} {X M : Nat} {l : Launch} (hT : z_TB (zGG b0 H0 D vu vs X M)) (hfl : l.flags = pinnedFlags ++ [noTraceFlag]) (hE : vu.isRef = true ∧ vs.isRef = true) {pR1 : Option Nat} {pI2 : Int32} {pR3 : Option Nat} (F : Nat) {w : zW} (res : zO × zW) (h : f_AckBookLaw_written F X pR1 pI2 pR3 w = some res) : z_Ct (zGG b0 H0 D vu vs X M) l y_AckBookLaw_written (.codeWith y_AckBookLaw_written c_AckBookLaw_written 4 (some FieldType.int) [(0, 9, 12, 13), (0, 9, 15, 15)]) 8 143 [va_rf pR1, .int pI2, va_rf pR3] w res := by
  refine z_ctW hT hfl (by decide) (by simp only [z_sl_i, z_sl_j, z_sl_r, z_sl_n]; decide) ?_
  intro p e R s m args below meth c hC hr hRc hRs hRt hnm hFr H ls hZ hl
  simp only [z_la_i, z_la_j, z_la_r, z_la_n] at hl
  have hl : lv_has ls 4 [(0, va_rf pR1), (1, .int pI2), (2, va_rf pR3)] := hl
  unfold f_AckBookLaw_written at h
  refine x_aload_n hC d_AckBookLaw_written_0 rfl (lv_at hl 2 rfl) ?_
  refine lv_iconst (v := (0 : Int32)) hC.1 hC.2.1 d_AckBookLaw_written_1 (by decide) ?_
  refine x_aload_n hC d_AckBookLaw_written_2 rfl (lv_at hl 0 rfl) ?_
  refine lv_iload_n hC.1 hC.2.1 d_AckBookLaw_written_3 rfl (lv_at hl 1 rfl) ?_
  obtain ⟨a_, fs_, eo_, h⟩ := z_this_spec h
  obtain ⟨w1_, o1_, hF_, ha_⟩ := z_tI_spec h
  refine x_goesT hC hFr ha_ (z_goV (As := [.int pI2]) hC hZ zc0 eo_ (k_AckBook_written hT hfl hE _ _ hF_) t_764 t_765 t_766 t_1 t_767 ⟨by decide, by decide, (by decide +kernel : (parseMethodDescriptor y_AckBook_written.desc).map (fun d => d.parameters.length) = some 1)⟩ (by rw [hRt.1]; decide) (by rw [hRt.2]; decide) hl.1 rfl (by first | exact Nat.le_of_ble_eq_true rfl | simp [z_rfc, z_ci, z_cj]) d_AckBookLaw_written_4) (fun v_ hv H locs cells slots hZ => ?_) (fun ci_ h => ?_)
  · obtain ⟨v2, rfl, h⟩ := hv
    generalize w1_ = w at h hZ
    refine lv_i2l hC.1 hC.2.1 d_AckBookLaw_written_7 rfl ?_
    refine x_stL hC hZ h d_AckBookLaw_written_8 (fun w H locs hZ h => ?_)
    refine lv_goto (tgt := 18) hC.1 hC.2.1 d_AckBookLaw_written_9 (by decide) ?_
    refine lv_iconst (v := (0 : Int32)) hC.1 hC.2.1 d_AckBookLaw_written_18 (by decide) ?_
    exact x_iret hC hRc hRs hZ hr rfl h d_AckBookLaw_written_19
  · by_cases hq0 : ci_ = 11
    · have h := z_ifp hq0 h
      subst hq0
      refine ⟨_, _, _, 12, rfl, ⟨⟨by decide, by decide⟩, by decide, _, t_374, Or.inl ⟨t_386, rfl⟩⟩, fun x_ H locs cells slots hZ => ?_⟩
      generalize w1_ = w at h hZ
      refine x_astore_n (i := 3) (lv' := [(3, va_rf (some x_)), (0, va_rf pR1), (1, .int pI2), (2, va_rf pR3)]) hC d_AckBookLaw_written_12 rfl hl (by decide) (by first | rfl | simp [z_rfc, z_ci, z_cj]) (fun ls hl => ?_)
      refine lv_iconst (v := (1 : Int32)) hC.1 hC.2.1 d_AckBookLaw_written_13 (by decide) ?_
      exact x_iret hC hRc hRs hZ hr rfl h d_AckBookLaw_written_14
    have h := z_ifn hq0 h
    by_cases hq1 : ci_ = 12
    · have h := z_ifp hq1 h
      subst hq1
      refine ⟨_, _, _, 15, rfl, ⟨⟨by decide, by decide⟩, by decide, _, t_374, Or.inr ⟨tn_0, ⟨⟨by decide, by decide⟩, by decide, _, t_375, Or.inl ⟨t_459, rfl⟩⟩⟩⟩, fun x_ H locs cells slots hZ => ?_⟩
      generalize w1_ = w at h hZ
      refine x_astore_n (i := 3) (lv' := [(3, va_rf (some x_)), (0, va_rf pR1), (1, .int pI2), (2, va_rf pR3)]) hC d_AckBookLaw_written_15 rfl hl (by decide) (by first | rfl | simp [z_rfc, z_ci, z_cj]) (fun ls hl => ?_)
      refine lv_iconst (v := (2 : Int32)) hC.1 hC.2.1 d_AckBookLaw_written_16 (by decide) ?_
      exact x_iret hC hRc hRs hZ hr rfl h d_AckBookLaw_written_17
    have h := z_ifn hq1 h
    cases h
def f_AckBook_range (F X : Nat) (a0 : Option Nat) (pI1 : Int32) (pI2 : Int32) (pI3 : Int32) (w : zW) : zR :=
  z_this w 0 a0 <|
  z_cR (f_AckBook_known F X a0 pI1 w) fun r2 w =>
  z_getR w 1 2 r2 fun r3 =>
  if pI2 < 0 then (
    z_thr w 13)
  else (
    z_getI w 5 2 r3 fun v4 =>
    if pI2 < v4 then (
      if pI3 = 0 then (
        z_getR w 5 0 r3 fun r5 =>
        z_ldL w r5 pI2 fun v6 =>
        some (.inl (some (.long v6)), w))
      else (
        z_getR w 5 1 r3 fun r7 =>
        z_ldL w r7 pI2 fun v8 =>
        some (.inl (some (.long v8)), w)))
    else (
      z_thr w 13))
set_option maxHeartbeats 4000000 in
set_option maxRecDepth 100000 in
theorem k_AckBook_range {b0 : Nat} {H0 : Heap} {D : va_G} {vu vs : Value} {X M : Nat} {l : Launch} (hT : z_TB (zGG b0 H0 D vu vs X M)) (hfl : l.flags = pinnedFlags ++ [noTraceFlag]) (hE : vu.isRef = true ∧ vs.isRef = true) {a0 : Option Nat} {pI1 : Int32} {pI2 : Int32} {pI3 : Int32} (F : Nat) {w : zW} (res : zO × zW) (h : f_AckBook_range F X a0 pI1 pI2 pI3 w = some res) : z_Ct (zGG b0 H0 D vu vs X M) l y_AckBook_range (.code y_AckBook_range c_AckBook_range 5 (some FieldType.long)) 7 121 [va_rf a0, .int pI1, .int pI2, .int pI3] w res := by
  refine z_ct hT hfl (by decide) (by simp only [z_sl_i, z_sl_j, z_sl_r, z_sl_n]; decide) ?_
  intro p e R s m args below meth c hC hr hRc hRs hRt hnm hFr H ls hZ hl
  simp only [z_la_i, z_la_j, z_la_r, z_la_n] at hl
  have hl : lv_has ls 5 [(0, va_rf a0), (1, .int pI1), (2, .int pI2), (3, .int pI3)] := hl
  unfold f_AckBook_range at h
  refine x_aload_n hC d_AckBook_range_0 rfl (lv_at hl 0 rfl) ?_
  refine lv_iload_n hC.1 hC.2.1 d_AckBook_range_1 rfl (lv_at hl 1 rfl) ?_
  obtain ⟨a_, fs_, eo_, h⟩ := z_this_spec h
  obtain ⟨w1_, o1_, hF_, ha_⟩ := z_cR_spec h
  refine x_goes hC hRc hRs hFr ha_ (z_goV (As := [.int pI1]) hC hZ zc0 eo_ (k_AckBook_known hT hfl hE _ _ hF_) t_380 t_382 ts_AckBook_known t_1 t_383 ⟨by decide, by decide, (by decide +kernel : (parseMethodDescriptor y_AckBook_known.desc).map (fun d => d.parameters.length) = some 1)⟩ (by rw [hRt.1]; decide) (by rw [hRt.2]; decide) hl.1 rfl (by first | exact Nat.le_of_ble_eq_true rfl | simp [z_rfc, z_ci, z_cj]) d_AckBook_range_2) (fun v_ hv H locs cells slots hZ => ?_)
  obtain ⟨r2, rfl, h⟩ := hv
  generalize w1_ = w at h hZ
  refine x_getR hC hZ zc1 h (by decide) t_160 (fun _ h9 => h9) d_AckBook_range_5 (fun r3 h => ?_)
  refine x_astore (i := 4) (lv' := [(4, va_rf r3), (0, va_rf a0), (1, .int pI1), (2, .int pI2), (3, .int pI3)]) hC d_AckBook_range_8 hl (by decide) (by first | rfl | simp [z_rfc, z_ci, z_cj]) (fun ls hl => ?_)
  refine lv_iload_n hC.1 hC.2.1 d_AckBook_range_10 rfl (lv_at hl 3 rfl) ?_
  refine lv_if_lt (tgt := 23) hC.1 hC.2.1 d_AckBook_range_11 (by decide) (fun hc => ?_) (fun hc => ?_)
  · have h := z_ifp hc h
    exact x_thrN (names := ["java/lang/Exception"]) (Y := "java/lang/RuntimeException") (i0 := 13) (b0 := prog_29_method_4_code) hC hRc hRs hFr hZ rfl h ⟨List.mem_cons_self, hE.1⟩ ⟨List.mem_cons_of_mem _ List.mem_cons_self, hE.2⟩ (by decide +kernel) (by decide +kernel) (by decide +kernel) (by decide +kernel) (by decide +kernel) (by decide +kernel) (by decide +kernel) at_AckBook_211 t_782 t_781 t_25 t_790 hl.1 d_AckBook_range_23 d_AckBook_range_26 d_AckBook_range_27 d_AckBook_range_29 d_AckBook_range_32 (by rw [hRt.1]; decide) (by rw [hRt.2]; first | exact Nat.le_of_ble_eq_true rfl | simp [z_rfc, z_ci, z_cj])
  · have h := z_ifn hc h
    refine lv_iload_n hC.1 hC.2.1 d_AckBook_range_14 rfl (lv_at hl 3 rfl) ?_
    refine x_aload hC d_AckBook_range_15 (lv_at hl 0 rfl) ?_
    refine x_getI hC hZ zc5 h (by decide) t_129 (fun _ h9 => h9) d_AckBook_range_17 (fun v4 h => ?_)
    refine lv_icmp_lt (tgt := 33) hC.1 hC.2.1 d_AckBook_range_20 (by decide) (fun hc => ?_) (fun hc => ?_)
    · have h := z_ifp hc h
      refine lv_iload_n hC.1 hC.2.1 d_AckBook_range_33 rfl (lv_at hl 4 rfl) ?_
      refine lv_if_eq (tgt := 47) hC.1 hC.2.1 d_AckBook_range_34 (by decide) (fun hc => ?_) (fun hc => ?_)
      · have h := z_ifp hc h
        refine x_aload hC d_AckBook_range_47 (lv_at hl 0 rfl) ?_
        refine x_getR hC hZ zc5 h (by decide) t_125 (fun _ h9 => h9) d_AckBook_range_49 (fun r5 h => ?_)
        refine lv_iload_n hC.1 hC.2.1 d_AckBook_range_52 rfl (lv_at hl 3 rfl) ?_
        refine x_ldL hC hZ h d_AckBook_range_53 (fun v6 h => ?_)
        exact x_lret hC hRc hRs hZ hr h d_AckBook_range_54
      · have h := z_ifn hc h
        refine x_aload hC d_AckBook_range_37 (lv_at hl 0 rfl) ?_
        refine x_getR hC hZ zc5 h (by decide) t_127 (fun _ h9 => h9) d_AckBook_range_39 (fun r7 h => ?_)
        refine lv_iload_n hC.1 hC.2.1 d_AckBook_range_42 rfl (lv_at hl 3 rfl) ?_
        refine x_ldL hC hZ h d_AckBook_range_43 (fun v8 h => ?_)
        refine lv_goto (tgt := 54) hC.1 hC.2.1 d_AckBook_range_44 (by decide) ?_
        exact x_lret hC hRc hRs hZ hr h d_AckBook_range_54
    · have h := z_ifn hc h
      exact x_thrN (names := ["java/lang/Exception"]) (Y := "java/lang/RuntimeException") (i0 := 13) (b0 := prog_29_method_4_code) hC hRc hRs hFr hZ rfl h ⟨List.mem_cons_self, hE.1⟩ ⟨List.mem_cons_of_mem _ List.mem_cons_self, hE.2⟩ (by decide +kernel) (by decide +kernel) (by decide +kernel) (by decide +kernel) (by decide +kernel) (by decide +kernel) (by decide +kernel) at_AckBook_211 t_782 t_781 t_25 t_790 hl.1 d_AckBook_range_23 d_AckBook_range_26 d_AckBook_range_27 d_AckBook_range_29 d_AckBook_range_32 (by rw [hRt.1]; decide) (by rw [hRt.2]; first | exact Nat.le_of_ble_eq_true rfl | simp [z_rfc, z_ci, z_cj])
def f_AckBookLaw_range (F X : Nat) (pR1 : Option Nat) (pI2 : Int32) (pI3 : Int32) (pI4 : Int32) (pR5 : Option Nat) (w : zW) : zR :=
  z_this w 0 pR1 <|
  z_tL (f_AckBook_range F X pR1 pI2 pI3 pI4 w) (fun v2 w =>
    z_stL w pR5 (0 : Int32) v2 fun w =>
    some (.inl (some (.int (0 : Int32))), w))
    (fun ci w => if ci = 11 then (some (.inl (some (.int (1 : Int32))), w)) else if ci = 13 then (some (.inl (some (.int (2 : Int32))), w)) else none)
set_option maxHeartbeats 4000000 in
set_option maxRecDepth 100000 in
theorem k_AckBookLaw_range {b0 : Nat} {H0 : Heap} {D : va_G} {vu vs : Value} {X M : Nat} {l : Launch} (hT : z_TB (zGG b0 H0 D vu vs X M)) (hfl : l.flags = pinnedFlags ++ [noTraceFlag]) (hE : vu.isRef = true ∧ vs.isRef = true) {pR1 : Option Nat} {pI2 : Int32} {pI3 : Int32} {pI4 : Int32} {pR5 : Option Nat} (F : Nat) {w : zW} (res : zO × zW) (h : f_AckBookLaw_range F X pR1 pI2 pI3 pI4 pR5 w = some res) : z_Ct (zGG b0 H0 D vu vs X M) l y_AckBookLaw_range (.codeWith y_AckBookLaw_range c_AckBookLaw_range 6 (some FieldType.int) [(0, 11, 14, 13), (0, 11, 18, 52)]) 8 145 [va_rf pR1, .int pI2, .int pI3, .int pI4, va_rf pR5] w res := by
  refine z_ctW hT hfl (by decide) (by simp only [z_sl_i, z_sl_j, z_sl_r, z_sl_n]; decide) ?_
  intro p e R s m args below meth c hC hr hRc hRs hRt hnm hFr H ls hZ hl
  simp only [z_la_i, z_la_j, z_la_r, z_la_n] at hl
  have hl : lv_has ls 6 [(0, va_rf pR1), (1, .int pI2), (2, .int pI3), (3, .int pI4), (4, va_rf pR5)] := hl
  unfold f_AckBookLaw_range at h
  refine x_aload hC d_AckBookLaw_range_0 (lv_at hl 4 rfl) ?_
  refine lv_iconst (v := (0 : Int32)) hC.1 hC.2.1 d_AckBookLaw_range_2 (by decide) ?_
  refine x_aload_n hC d_AckBookLaw_range_3 rfl (lv_at hl 0 rfl) ?_
  refine lv_iload_n hC.1 hC.2.1 d_AckBookLaw_range_4 rfl (lv_at hl 1 rfl) ?_
  refine lv_iload_n hC.1 hC.2.1 d_AckBookLaw_range_5 rfl (lv_at hl 2 rfl) ?_
  refine lv_iload_n hC.1 hC.2.1 d_AckBookLaw_range_6 rfl (lv_at hl 3 rfl) ?_
  obtain ⟨a_, fs_, eo_, h⟩ := z_this_spec h
  obtain ⟨w1_, o1_, hF_, ha_⟩ := z_tL_spec h
  refine x_goesT hC hFr ha_ (z_goV (As := [.int pI2, .int pI3, .int pI4]) hC hZ zc0 eo_ (k_AckBook_range hT hfl hE _ _ hF_) t_777 t_778 t_779 t_1 t_780 ⟨by decide, by decide, (by decide +kernel : (parseMethodDescriptor y_AckBook_range.desc).map (fun d => d.parameters.length) = some 3)⟩ (by rw [hRt.1]; decide) (by rw [hRt.2]; decide) hl.1 rfl (by first | exact Nat.le_of_ble_eq_true rfl | simp [z_rfc, z_ci, z_cj]) d_AckBookLaw_range_7) (fun v_ hv H locs cells slots hZ => ?_) (fun ci_ h => ?_)
  · obtain ⟨v2, rfl, h⟩ := hv
    generalize w1_ = w at h hZ
    refine x_stL hC hZ h d_AckBookLaw_range_10 (fun w H locs hZ h => ?_)
    refine lv_goto (tgt := 22) hC.1 hC.2.1 d_AckBookLaw_range_11 (by decide) ?_
    refine lv_iconst (v := (0 : Int32)) hC.1 hC.2.1 d_AckBookLaw_range_22 (by decide) ?_
    exact x_iret hC hRc hRs hZ hr rfl h d_AckBookLaw_range_23
  · by_cases hq0 : ci_ = 11
    · have h := z_ifp hq0 h
      subst hq0
      refine ⟨_, _, _, 14, rfl, ⟨⟨by decide, by decide⟩, by decide, _, t_374, Or.inl ⟨t_386, rfl⟩⟩, fun x_ H locs cells slots hZ => ?_⟩
      generalize w1_ = w at h hZ
      refine x_astore (i := 5) (lv' := [(5, va_rf (some x_)), (0, va_rf pR1), (1, .int pI2), (2, .int pI3), (3, .int pI4), (4, va_rf pR5)]) hC d_AckBookLaw_range_14 hl (by decide) (by first | rfl | simp [z_rfc, z_ci, z_cj]) (fun ls hl => ?_)
      refine lv_iconst (v := (1 : Int32)) hC.1 hC.2.1 d_AckBookLaw_range_16 (by decide) ?_
      exact x_iret hC hRc hRs hZ hr rfl h d_AckBookLaw_range_17
    have h := z_ifn hq0 h
    by_cases hq1 : ci_ = 13
    · have h := z_ifp hq1 h
      subst hq1
      refine ⟨_, _, _, 18, rfl, ⟨⟨by decide, by decide⟩, by decide, _, t_374, Or.inr ⟨tn_1, ⟨⟨by decide, by decide⟩, by decide, _, t_776, Or.inl ⟨t_783, rfl⟩⟩⟩⟩, fun x_ H locs cells slots hZ => ?_⟩
      generalize w1_ = w at h hZ
      refine x_astore (i := 5) (lv' := [(5, va_rf (some x_)), (0, va_rf pR1), (1, .int pI2), (2, .int pI3), (3, .int pI4), (4, va_rf pR5)]) hC d_AckBookLaw_range_18 hl (by decide) (by first | rfl | simp [z_rfc, z_ci, z_cj]) (fun ls hl => ?_)
      refine lv_iconst (v := (2 : Int32)) hC.1 hC.2.1 d_AckBookLaw_range_20 (by decide) ?_
      exact x_iret hC hRc hRs hZ hr rfl h d_AckBookLaw_range_21
    have h := z_ifn hq1 h
    cases h
def f_AckBook_look (F X : Nat) (a0 : Option Nat) (pI1 : Int32) (w : zW) : zR :=
  if pI1 = (0 : Int32) then (
    z_getI w 0 4 a0 fun v1 =>
    some (.inl (some (.int v1)), w))
  else if pI1 = (1 : Int32) then (
    z_getR w 0 3 a0 fun r2 =>
    z_getI w 8 0 r2 fun v3 =>
    some (.inl (some (.int v3)), w))
  else if pI1 = (2 : Int32) then (
    z_getR w 0 3 a0 fun r4 =>
    z_getI w 8 1 r4 fun v5 =>
    some (.inl (some (.int v5)), w))
  else if pI1 = (3 : Int32) then (
    z_getR w 0 3 a0 fun r6 =>
    z_getI w 8 2 r6 fun v7 =>
    some (.inl (some (.int v7)), w))
  else if pI1 = (4 : Int32) then (
    z_getR w 0 3 a0 fun r8 =>
    z_getI w 8 3 r8 fun v9 =>
    some (.inl (some (.int v9)), w))
  else if pI1 = (5 : Int32) then (
    z_getR w 0 2 a0 fun r10 =>
    z_getI w 7 0 r10 fun v11 =>
    some (.inl (some (.int v11)), w))
  else if pI1 = (6 : Int32) then (
    z_getR w 0 2 a0 fun r12 =>
    z_getI w 7 1 r12 fun v13 =>
    some (.inl (some (.int v13)), w))
  else if pI1 = (7 : Int32) then (
    z_getR w 0 2 a0 fun r14 =>
    z_getI w 7 2 r14 fun v15 =>
    some (.inl (some (.int v15)), w))
  else if pI1 = (8 : Int32) then (
    z_getR w 0 2 a0 fun r16 =>
    z_getI w 7 3 r16 fun v17 =>
    some (.inl (some (.int v17)), w))
  else if pI1 = (9 : Int32) then (
    z_getI w 0 5 a0 fun v18 =>
    some (.inl (some (.int v18)), w))
  else if pI1 = (10 : Int32) then (
    z_getR w 0 2 a0 fun r19 =>
    z_this w 7 r19 <|
    z_cI (f_AckBook_Way_limit F X r19 w) fun v21 w =>
    some (.inl (some (.int v21)), w))
  else if pI1 = (11 : Int32) then (
    z_getR w 0 3 a0 fun r22 =>
    z_getI w 8 1 r22 fun v23 =>
    z_getR w 0 3 a0 fun r24 =>
    z_getI w 8 0 r24 fun v25 =>
    some (.inl (some (.int (if (v23 - v25) < (0 : Int32) then (0 : Int32) else (v23 - v25)))), w))
  else (
    z_thr w 13)
set_option maxHeartbeats 4000000 in
set_option maxRecDepth 100000 in
theorem k_AckBook_look {b0 : Nat} {H0 : Heap} {D : va_G} {vu vs : Value} {X M : Nat} {l : Launch} (hT : z_TB (zGG b0 H0 D vu vs X M)) (hfl : l.flags = pinnedFlags ++ [noTraceFlag]) (hE : vu.isRef = true ∧ vs.isRef = true) {a0 : Option Nat} {pI1 : Int32} (F : Nat) {w : zW} (res : zO × zW) (h : f_AckBook_look F X a0 pI1 w = some res) : z_Ct (zGG b0 H0 D vu vs X M) l y_AckBook_look (.code y_AckBook_look c_AckBook_look 2 (some FieldType.int)) 6 100 [va_rf a0, .int pI1] w res := by
  refine z_ct hT hfl (by decide) (by simp only [z_sl_i, z_sl_j, z_sl_r, z_sl_n]; decide) ?_
  intro p e R s m args below meth c hC hr hRc hRs hRt hnm hFr H ls hZ hl
  simp only [z_la_i, z_la_j, z_la_r, z_la_n] at hl
  have hl : lv_has ls 2 [(0, va_rf a0), (1, .int pI1)] := hl
  unfold f_AckBook_look at h
  refine lv_iload_n hC.1 hC.2.1 d_AckBook_look_0 rfl (lv_at hl 1 rfl) ?_
  by_cases hc0 : pI1 = (0 : Int32)
  · have h := z_ifp hc0 h
    refine lv_tableIn (tgt := 64) hC.1 hC.2.1 d_AckBook_look_1 (by rw [hc0]; decide) (by rw [hc0]; decide) (by rw [hc0]; rfl) (by decide) ?_
    refine x_aload_n hC d_AckBook_look_64 rfl (lv_at hl 0 rfl) ?_
    refine x_getI hC hZ zc0 h (by decide) t_245 (fun _ h9 => h9) d_AckBook_look_65 (fun v1 h => ?_)
    exact x_iret hC hRc hRs hZ hr rfl h d_AckBook_look_68
  have h := z_ifn hc0 h
  by_cases hc1 : pI1 = (1 : Int32)
  · have h := z_ifp hc1 h
    refine lv_tableIn (tgt := 69) hC.1 hC.2.1 d_AckBook_look_1 (by rw [hc1]; decide) (by rw [hc1]; decide) (by rw [hc1]; rfl) (by decide) ?_
    refine x_aload_n hC d_AckBook_look_69 rfl (lv_at hl 0 rfl) ?_
    refine x_getR hC hZ zc0 h (by decide) t_244 (fun _ h9 => h9) d_AckBook_look_70 (fun r2 h => ?_)
    refine x_getI hC hZ zc8 h (by decide) t_225 (fun _ h9 => h9) d_AckBook_look_73 (fun v3 h => ?_)
    exact x_iret hC hRc hRs hZ hr rfl h d_AckBook_look_76
  have h := z_ifn hc1 h
  by_cases hc2 : pI1 = (2 : Int32)
  · have h := z_ifp hc2 h
    refine lv_tableIn (tgt := 77) hC.1 hC.2.1 d_AckBook_look_1 (by rw [hc2]; decide) (by rw [hc2]; decide) (by rw [hc2]; rfl) (by decide) ?_
    refine x_aload_n hC d_AckBook_look_77 rfl (lv_at hl 0 rfl) ?_
    refine x_getR hC hZ zc0 h (by decide) t_244 (fun _ h9 => h9) d_AckBook_look_78 (fun r4 h => ?_)
    refine x_getI hC hZ zc8 h (by decide) t_227 (fun _ h9 => h9) d_AckBook_look_81 (fun v5 h => ?_)
    exact x_iret hC hRc hRs hZ hr rfl h d_AckBook_look_84
  have h := z_ifn hc2 h
  by_cases hc3 : pI1 = (3 : Int32)
  · have h := z_ifp hc3 h
    refine lv_tableIn (tgt := 85) hC.1 hC.2.1 d_AckBook_look_1 (by rw [hc3]; decide) (by rw [hc3]; decide) (by rw [hc3]; rfl) (by decide) ?_
    refine x_aload_n hC d_AckBook_look_85 rfl (lv_at hl 0 rfl) ?_
    refine x_getR hC hZ zc0 h (by decide) t_244 (fun _ h9 => h9) d_AckBook_look_86 (fun r6 h => ?_)
    refine x_getI hC hZ zc8 h (by decide) t_229 (fun _ h9 => h9) d_AckBook_look_89 (fun v7 h => ?_)
    exact x_iret hC hRc hRs hZ hr rfl h d_AckBook_look_92
  have h := z_ifn hc3 h
  by_cases hc4 : pI1 = (4 : Int32)
  · have h := z_ifp hc4 h
    refine lv_tableIn (tgt := 93) hC.1 hC.2.1 d_AckBook_look_1 (by rw [hc4]; decide) (by rw [hc4]; decide) (by rw [hc4]; rfl) (by decide) ?_
    refine x_aload_n hC d_AckBook_look_93 rfl (lv_at hl 0 rfl) ?_
    refine x_getR hC hZ zc0 h (by decide) t_244 (fun _ h9 => h9) d_AckBook_look_94 (fun r8 h => ?_)
    refine x_getI hC hZ zc8 h (by decide) t_231 (fun _ h9 => h9) d_AckBook_look_97 (fun v9 h => ?_)
    exact x_iret hC hRc hRs hZ hr rfl h d_AckBook_look_100
  have h := z_ifn hc4 h
  by_cases hc5 : pI1 = (5 : Int32)
  · have h := z_ifp hc5 h
    refine lv_tableIn (tgt := 101) hC.1 hC.2.1 d_AckBook_look_1 (by rw [hc5]; decide) (by rw [hc5]; decide) (by rw [hc5]; rfl) (by decide) ?_
    refine x_aload_n hC d_AckBook_look_101 rfl (lv_at hl 0 rfl) ?_
    refine x_getR hC hZ zc0 h (by decide) t_243 (fun _ h9 => h9) d_AckBook_look_102 (fun r10 h => ?_)
    refine x_getI hC hZ zc7 h (by decide) t_198 (fun _ h9 => h9) d_AckBook_look_105 (fun v11 h => ?_)
    exact x_iret hC hRc hRs hZ hr rfl h d_AckBook_look_108
  have h := z_ifn hc5 h
  by_cases hc6 : pI1 = (6 : Int32)
  · have h := z_ifp hc6 h
    refine lv_tableIn (tgt := 109) hC.1 hC.2.1 d_AckBook_look_1 (by rw [hc6]; decide) (by rw [hc6]; decide) (by rw [hc6]; rfl) (by decide) ?_
    refine x_aload_n hC d_AckBook_look_109 rfl (lv_at hl 0 rfl) ?_
    refine x_getR hC hZ zc0 h (by decide) t_243 (fun _ h9 => h9) d_AckBook_look_110 (fun r12 h => ?_)
    refine x_getI hC hZ zc7 h (by decide) t_200 (fun _ h9 => h9) d_AckBook_look_113 (fun v13 h => ?_)
    exact x_iret hC hRc hRs hZ hr rfl h d_AckBook_look_116
  have h := z_ifn hc6 h
  by_cases hc7 : pI1 = (7 : Int32)
  · have h := z_ifp hc7 h
    refine lv_tableIn (tgt := 117) hC.1 hC.2.1 d_AckBook_look_1 (by rw [hc7]; decide) (by rw [hc7]; decide) (by rw [hc7]; rfl) (by decide) ?_
    refine x_aload_n hC d_AckBook_look_117 rfl (lv_at hl 0 rfl) ?_
    refine x_getR hC hZ zc0 h (by decide) t_243 (fun _ h9 => h9) d_AckBook_look_118 (fun r14 h => ?_)
    refine x_getI hC hZ zc7 h (by decide) t_202 (fun _ h9 => h9) d_AckBook_look_121 (fun v15 h => ?_)
    exact x_iret hC hRc hRs hZ hr rfl h d_AckBook_look_124
  have h := z_ifn hc7 h
  by_cases hc8 : pI1 = (8 : Int32)
  · have h := z_ifp hc8 h
    refine lv_tableIn (tgt := 125) hC.1 hC.2.1 d_AckBook_look_1 (by rw [hc8]; decide) (by rw [hc8]; decide) (by rw [hc8]; rfl) (by decide) ?_
    refine x_aload_n hC d_AckBook_look_125 rfl (lv_at hl 0 rfl) ?_
    refine x_getR hC hZ zc0 h (by decide) t_243 (fun _ h9 => h9) d_AckBook_look_126 (fun r16 h => ?_)
    refine x_getI hC hZ zc7 h (by decide) t_204 (fun _ h9 => h9) d_AckBook_look_129 (fun v17 h => ?_)
    exact x_iret hC hRc hRs hZ hr rfl h d_AckBook_look_132
  have h := z_ifn hc8 h
  by_cases hc9 : pI1 = (9 : Int32)
  · have h := z_ifp hc9 h
    refine lv_tableIn (tgt := 133) hC.1 hC.2.1 d_AckBook_look_1 (by rw [hc9]; decide) (by rw [hc9]; decide) (by rw [hc9]; rfl) (by decide) ?_
    refine x_aload_n hC d_AckBook_look_133 rfl (lv_at hl 0 rfl) ?_
    refine x_getI hC hZ zc0 h (by decide) t_246 (fun _ h9 => h9) d_AckBook_look_134 (fun v18 h => ?_)
    exact x_iret hC hRc hRs hZ hr rfl h d_AckBook_look_137
  have h := z_ifn hc9 h
  by_cases hc10 : pI1 = (10 : Int32)
  · have h := z_ifp hc10 h
    refine lv_tableIn (tgt := 138) hC.1 hC.2.1 d_AckBook_look_1 (by rw [hc10]; decide) (by rw [hc10]; decide) (by rw [hc10]; rfl) (by decide) ?_
    refine x_aload_n hC d_AckBook_look_138 rfl (lv_at hl 0 rfl) ?_
    refine x_getR hC hZ zc0 h (by decide) t_243 (fun _ h9 => h9) d_AckBook_look_139 (fun r19 h => ?_)
    obtain ⟨a_, fs_, eo_, h⟩ := z_this_spec h
    obtain ⟨w1_, o1_, hF_, ha_⟩ := z_cI_spec h
    refine x_goes hC hRc hRs hFr ha_ (z_goV (As := []) hC hZ zc7 eo_ (k_AckBook_Way_limit hT hfl hE _ _ hF_) t_300 t_301 t_302 t_10 t_303 ⟨by decide, by decide, (by decide +kernel : (parseMethodDescriptor y_AckBook_Way_limit.desc).map (fun d => d.parameters.length) = some 0)⟩ (by rw [hRt.1]; decide) (by rw [hRt.2]; decide) hl.1 rfl (by first | exact Nat.le_of_ble_eq_true rfl | simp [z_rfc, z_ci, z_cj]) d_AckBook_look_142) (fun v_ hv H locs cells slots hZ => ?_)
    obtain ⟨v21, rfl, h⟩ := hv
    generalize w1_ = w at h hZ
    exact x_iret hC hRc hRs hZ hr rfl h d_AckBook_look_145
  have h := z_ifn hc10 h
  by_cases hc11 : pI1 = (11 : Int32)
  · have h := z_ifp hc11 h
    refine lv_tableIn (tgt := 146) hC.1 hC.2.1 d_AckBook_look_1 (by rw [hc11]; decide) (by rw [hc11]; decide) (by rw [hc11]; rfl) (by decide) ?_
    refine x_aload_n hC d_AckBook_look_146 rfl (lv_at hl 0 rfl) ?_
    refine x_getR hC hZ zc0 h (by decide) t_244 (fun _ h9 => h9) d_AckBook_look_147 (fun r22 h => ?_)
    refine x_getI hC hZ zc8 h (by decide) t_227 (fun _ h9 => h9) d_AckBook_look_150 (fun v23 h => ?_)
    refine x_aload_n hC d_AckBook_look_153 rfl (lv_at hl 0 rfl) ?_
    refine x_getR hC hZ zc0 h (by decide) t_244 (fun _ h9 => h9) d_AckBook_look_154 (fun r24 h => ?_)
    refine x_getI hC hZ zc8 h (by decide) t_225 (fun _ h9 => h9) d_AckBook_look_157 (fun v25 h => ?_)
    refine lv_isub hC.1 hC.2.1 d_AckBook_look_160 ?_
    refine lv_iconst (v := (0 : Int32)) hC.1 hC.2.1 d_AckBook_look_161 (by decide) ?_
    refine va_mmax hC.1 hC.2.1 (hC.2.2.1.trans hl.1.symm) hC.2.2.2.1 ((hZ.1.tb hC.2.2.2.2.2.2 args) _ t_804) ((hZ.1.tb hC.2.2.2.2.2.2 args) _ t_290) ((hZ.1.tb hC.2.2.2.2.2.2 args) _ t_20) ((hZ.1.tb hC.2.2.2.2.2.2 args) _ t_291) (by rw [hRt.1]; decide) (by rw [hRt.2]; first | exact Nat.le_of_ble_eq_true rfl | simp [z_rfc, z_ci, z_cj]) (hZ.2.2.1 ▸ Nat.le_add_right _ _) (hZ.2.2.2 ▸ Nat.le_add_right _ _) d_AckBook_look_162 ?_
    exact x_iret hC hRc hRs hZ hr rfl h d_AckBook_look_165
  have h := z_ifn hc11 h
  refine lv_tableOut (tgt := 166) hC.1 hC.2.1 d_AckBook_look_1 (z_tab 11 (fun k hk => match k, hk with | 0, _ => hc0 | 1, _ => hc1 | 2, _ => hc2 | 3, _ => hc3 | 4, _ => hc4 | 5, _ => hc5 | 6, _ => hc6 | 7, _ => hc7 | 8, _ => hc8 | 9, _ => hc9 | 10, _ => hc10 | 11, _ => hc11 | _ + 12, hk => absurd hk (by omega))) (by decide) ?_
  exact x_thrN (names := ["java/lang/Exception"]) (Y := "java/lang/RuntimeException") (i0 := 13) (b0 := prog_29_method_4_code) hC hRc hRs hFr hZ rfl h ⟨List.mem_cons_self, hE.1⟩ ⟨List.mem_cons_of_mem _ List.mem_cons_self, hE.2⟩ (by decide +kernel) (by decide +kernel) (by decide +kernel) (by decide +kernel) (by decide +kernel) (by decide +kernel) (by decide +kernel) at_AckBook_211 t_782 t_781 t_25 t_805 hl.1 d_AckBook_look_166 d_AckBook_look_169 d_AckBook_look_170 d_AckBook_look_172 d_AckBook_look_175 (by rw [hRt.1]; decide) (by rw [hRt.2]; first | exact Nat.le_of_ble_eq_true rfl | simp [z_rfc, z_ci, z_cj])
