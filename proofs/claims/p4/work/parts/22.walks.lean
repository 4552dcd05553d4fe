def f_AckBookLaw_span (F X : Nat) (pR1 : Option Nat) (pJ2 : Int64) (pJ3 : Int64) (pR4 : Option Nat) (w : zW) : zR :=
  z_this w 0 pR1 <|
  z_tI (f_AckBook_span F X pR1 pJ2 pJ3 w) (fun v2 w =>
    z_stL w pR4 (0 : Int32) v2.toInt64 fun w =>
    some (.inl (some (.int (0 : Int32))), w))
    (fun ci w => if ci = 11 then (some (.inl (some (.int (1 : Int32))), w)) else if ci = 12 then (some (.inl (some (.int (2 : Int32))), w)) else none)
set_option maxHeartbeats 4000000 in
set_option maxRecDepth 100000 in
theorem k_AckBookLaw_span {b0 : Nat} {H0 : Heap} {D : va_G} {vu vs : Value} {X M : Nat} {l : Launch} (hT : z_TB (zGG b0 H0 D vu vs X M)) (hfl : l.flags = pinnedFlags ++ [noTraceFlag]) (hE : vu.isRef = true ∧ vs.isRef = true) {pR1 : Option Nat} {pJ2 : Int64} {pJ3 : Int64} {pR4 : Option Nat} (F : Nat) {w : zW} (res : zO × zW) (h : f_AckBookLaw_span F X pR1 pJ2 pJ3 pR4 w = some res) : z_Ct (zGG b0 H0 D vu vs X M) l y_AckBookLaw_span (.codeWith y_AckBookLaw_span c_AckBookLaw_span 7 (some FieldType.int) [(0, 11, 14, 13), (0, 11, 18, 15)]) 7 124 [va_rf pR1, .long pJ2, .long pJ3, va_rf pR4] w res := by
  refine z_ctW hT hfl (by decide) (by simp only [z_sl_i, z_sl_j, z_sl_r, z_sl_n]; decide) ?_
  intro p e R s m args below meth c hC hr hRc hRs hRt hnm hFr H ls hZ hl
  simp only [z_la_i, z_la_j, z_la_r, z_la_n] at hl
  have hl : lv_has ls 7 [(0, va_rf pR1), (1, .long pJ2), (3, .long pJ3), (5, va_rf pR4)] := hl
  unfold f_AckBookLaw_span at h
  refine x_aload hC d_AckBookLaw_span_0 (lv_at hl 3 rfl) ?_
  refine lv_iconst (v := (0 : Int32)) hC.1 hC.2.1 d_AckBookLaw_span_2 (by decide) ?_
  refine x_aload_n hC d_AckBookLaw_span_3 rfl (lv_at hl 0 rfl) ?_
  refine lv_lload_n hC.1 hC.2.1 d_AckBookLaw_span_4 rfl (lv_at hl 1 rfl) ?_
  refine lv_lload_n hC.1 hC.2.1 d_AckBookLaw_span_5 rfl (lv_at hl 2 rfl) ?_
  obtain ⟨a_, fs_, eo_, h⟩ := z_this_spec h
  obtain ⟨w1_, o1_, hF_, ha_⟩ := z_tI_spec h
  refine x_goesT hC hFr ha_ (z_goV (As := [.long pJ2, .long pJ3]) hC hZ zc0 eo_ (k_AckBook_span hT hfl hE _ _ hF_) t_592 t_593 t_594 t_1 t_595 ⟨by decide, by decide, (by decide +kernel : (parseMethodDescriptor y_AckBook_span.desc).map (fun d => d.parameters.length) = some 2)⟩ (by rw [hRt.1]; decide) (by rw [hRt.2]; decide) hl.1 rfl (by first | exact Nat.le_of_ble_eq_true rfl | simp [z_rfc, z_ci, z_cj]) d_AckBookLaw_span_6) (fun v_ hv H locs cells slots hZ => ?_) (fun ci_ h => ?_)
  · obtain ⟨v2, rfl, h⟩ := hv
    generalize w1_ = w at h hZ
    refine lv_i2l hC.1 hC.2.1 d_AckBookLaw_span_9 rfl ?_
    refine x_stL hC hZ h d_AckBookLaw_span_10 (fun w H locs hZ h => ?_)
    refine lv_goto (tgt := 22) hC.1 hC.2.1 d_AckBookLaw_span_11 (by decide) ?_
    refine lv_iconst (v := (0 : Int32)) hC.1 hC.2.1 d_AckBookLaw_span_22 (by decide) ?_
    exact x_iret hC hRc hRs hZ hr rfl h d_AckBookLaw_span_23
  · by_cases hq0 : ci_ = 11
    · have h := z_ifp hq0 h
      subst hq0
      refine ⟨_, _, _, 14, rfl, ⟨⟨by decide, by decide⟩, by decide, _, t_374, Or.inl ⟨t_386, rfl⟩⟩, fun x_ H locs cells slots hZ => ?_⟩
      generalize w1_ = w at h hZ
      refine x_astore (i := 6) (lv' := [(6, va_rf (some x_)), (0, va_rf pR1), (1, .long pJ2), (3, .long pJ3), (5, va_rf pR4)]) hC d_AckBookLaw_span_14 hl (by decide) (by first | rfl | simp [z_rfc, z_ci, z_cj]) (fun ls hl => ?_)
      refine lv_iconst (v := (1 : Int32)) hC.1 hC.2.1 d_AckBookLaw_span_16 (by decide) ?_
      exact x_iret hC hRc hRs hZ hr rfl h d_AckBookLaw_span_17
    have h := z_ifn hq0 h
    by_cases hq1 : ci_ = 12
    · have h := z_ifp hq1 h
      subst hq1
      refine ⟨_, _, _, 18, rfl, ⟨⟨by decide, by decide⟩, by decide, _, t_374, Or.inr ⟨tn_0, ⟨⟨by decide, by decide⟩, by decide, _, t_375, Or.inl ⟨t_459, rfl⟩⟩⟩⟩, fun x_ H locs cells slots hZ => ?_⟩
      generalize w1_ = w at h hZ
      refine x_astore (i := 6) (lv' := [(6, va_rf (some x_)), (0, va_rf pR1), (1, .long pJ2), (3, .long pJ3), (5, va_rf pR4)]) hC d_AckBookLaw_span_18 hl (by decide) (by first | rfl | simp [z_rfc, z_ci, z_cj]) (fun ls hl => ?_)
      refine lv_iconst (v := (2 : Int32)) hC.1 hC.2.1 d_AckBookLaw_span_20 (by decide) ?_
      exact x_iret hC hRc hRs hZ hr rfl h d_AckBookLaw_span_21
    have h := z_ifn hq1 h
    cases h
def f_AckBook_Claim_close (F X : Nat) (a0 : Option Nat) (w : zW) : zR :=
  z_getI w 6 2 a0 fun v1 =>
  z_put w 6 3 a0 (.int v1) fun w =>
  z_put w 6 2 a0 (.int (0 : Int32)) fun w =>
  some (.inl none, w)
set_option maxHeartbeats 4000000 in
set_option maxRecDepth 100000 in
theorem k_AckBook_Claim_close {b0 : Nat} {H0 : Heap} {D : va_G} {vu vs : Value} {X M : Nat} {l : Launch} (hT : z_TB (zGG b0 H0 D vu vs X M)) (hfl : l.flags = pinnedFlags ++ [noTraceFlag]) (hE : vu.isRef = true ∧ vs.isRef = true) {a0 : Option Nat} (F : Nat) {w : zW} (res : zO × zW) (h : f_AckBook_Claim_close F X a0 w = some res) : z_Ct (zGG b0 H0 D vu vs X M) l y_AckBook_Claim_close (.code y_AckBook_Claim_close c_AckBook_Claim_close 1 (none)) 0 0 [va_rf a0] w res := by
  refine z_ct hT hfl (by decide) (by simp only [z_sl_i, z_sl_j, z_sl_r, z_sl_n]; decide) ?_
  intro p e R s m args below meth c hC hr hRc hRs hRt hnm hFr H ls hZ hl
  simp only [z_la_i, z_la_j, z_la_r, z_la_n] at hl
  have hl : lv_has ls 1 [(0, va_rf a0)] := hl
  unfold f_AckBook_Claim_close at h
  refine x_aload_n hC d_AckBook_Claim_close_0 rfl (lv_at hl 0 rfl) ?_
  refine x_aload_n hC d_AckBook_Claim_close_1 rfl (lv_at hl 0 rfl) ?_
  refine x_getI hC hZ zc6 h (by decide) t_179 (fun _ h9 => h9) d_AckBook_Claim_close_2 (fun v1 h => ?_)
  refine x_put hC hZ zc6 h (by decide) t_180 (fun _ h9 => h9) rfl rfl rfl rfl d_AckBook_Claim_close_5 (fun w H locs hZ h => ?_)
  refine x_aload_n hC d_AckBook_Claim_close_8 rfl (lv_at hl 0 rfl) ?_
  refine lv_iconst (v := (0 : Int32)) hC.1 hC.2.1 d_AckBook_Claim_close_9 (by decide) ?_
  refine x_put hC hZ zc6 h (by decide) t_179 (fun _ h9 => h9) rfl rfl rfl rfl d_AckBook_Claim_close_10 (fun w H locs hZ h => ?_)
  exact x_vret hC hRc hRs hZ hr h d_AckBook_Claim_close_13
def f_AckBook_Claim_greatest (F X : Nat) (a0 : Option Nat) (w : zW) : zR :=
  z_getI w 6 3 a0 fun v1 =>
  if v1 = 0 then (
    some (.inl (some (.long (-1 : Int64))), w))
  else (
    z_getR w 6 1 a0 fun r2 =>
    z_ldL w r2 (0 : Int32) fun v3 =>
    some (.inl (some (.long v3)), w))
set_option maxHeartbeats 4000000 in
set_option maxRecDepth 100000 in
theorem k_AckBook_Claim_greatest {b0 : Nat} {H0 : Heap} {D : va_G} {vu vs : Value} {X M : Nat} {l : Launch} (hT : z_TB (zGG b0 H0 D vu vs X M)) (hfl : l.flags = pinnedFlags ++ [noTraceFlag]) (hE : vu.isRef = true ∧ vs.isRef = true) {a0 : Option Nat} (F : Nat) {w : zW} (res : zO × zW) (h : f_AckBook_Claim_greatest F X a0 w = some res) : z_Ct (zGG b0 H0 D vu vs X M) l y_AckBook_Claim_greatest (.code y_AckBook_Claim_greatest c_AckBook_Claim_greatest 1 (some FieldType.long)) 0 0 [va_rf a0] w res := by
  refine z_ct hT hfl (by decide) (by simp only [z_sl_i, z_sl_j, z_sl_r, z_sl_n]; decide) ?_
  intro p e R s m args below meth c hC hr hRc hRs hRt hnm hFr H ls hZ hl
  simp only [z_la_i, z_la_j, z_la_r, z_la_n] at hl
  have hl : lv_has ls 1 [(0, va_rf a0)] := hl
  unfold f_AckBook_Claim_greatest at h
  refine x_aload_n hC d_AckBook_Claim_greatest_0 rfl (lv_at hl 0 rfl) ?_
  refine x_getI hC hZ zc6 h (by decide) t_180 (fun _ h9 => h9) d_AckBook_Claim_greatest_1 (fun v1 h => ?_)
  refine lv_if_ne (tgt := 13) hC.1 hC.2.1 d_AckBook_Claim_greatest_4 (by decide) (fun hc => ?_) (fun hc => ?_)
  · have h := z_ifn hc h
    refine x_aload_n hC d_AckBook_Claim_greatest_13 rfl (lv_at hl 0 rfl) ?_
    refine x_getR hC hZ zc6 h (by decide) t_178 (fun _ h9 => h9) d_AckBook_Claim_greatest_14 (fun r2 h => ?_)
    refine lv_iconst (v := (0 : Int32)) hC.1 hC.2.1 d_AckBook_Claim_greatest_17 (by decide) ?_
    refine x_ldL hC hZ h d_AckBook_Claim_greatest_18 (fun v3 h => ?_)
    exact x_lret hC hRc hRs hZ hr h d_AckBook_Claim_greatest_19
  · have h := z_ifp hc h
    refine lv_ldc2 (v := (-1 : Int64)) hC.1 hC.2.1 hC.2.2.2.1 ((hZ.1.tb hC.2.2.2.2.2.2 args) _ t_628) d_AckBook_Claim_greatest_7 ?_
    refine lv_goto (tgt := 19) hC.1 hC.2.1 d_AckBook_Claim_greatest_10 (by decide) ?_
    exact x_lret hC hRc hRs hZ hr h d_AckBook_Claim_greatest_19
def f_AckBook_Sent_packet (F X : Nat) (a0 : Option Nat) (pJ1 : Int64) (w : zW) : zR :=
  if (lg_cmp pJ1 (0 : Int64)) < 0 then (
    some (.inl (some (va_rf none)), w))
  else (
    z_getR w 2 2 a0 fun r1 =>
    z_this w 4 r1 <|
    z_cI (f_ArrayList_size F X r1 w) fun v3 w =>
    if (lg_cmp pJ1 v3.toInt64) < 0 then (
      z_getR w 2 2 a0 fun r4 =>
      z_this w 4 r4 <|
      z_cR (f_ArrayList_get F X r4 pJ1.toInt32 w) fun r6 w =>
      z_cast w 9 r6 <|
      some (.inl (some (va_rf r6)), w))
    else (
      some (.inl (some (va_rf none)), w)))
set_option maxHeartbeats 4000000 in
set_option maxRecDepth 100000 in
theorem k_AckBook_Sent_packet {b0 : Nat} {H0 : Heap} {D : va_G} {vu vs : Value} {X M : Nat} {l : Launch} (hT : z_TB (zGG b0 H0 D vu vs X M)) (hfl : l.flags = pinnedFlags ++ [noTraceFlag]) (hE : vu.isRef = true ∧ vs.isRef = true) {a0 : Option Nat} {pJ1 : Int64} (F : Nat) {w : zW} (res : zO × zW) (h : f_AckBook_Sent_packet F X a0 pJ1 w = some res) : z_Ct (zGG b0 H0 D vu vs X M) l y_AckBook_Sent_packet (.code y_AckBook_Sent_packet c_AckBook_Sent_packet 3 (some (FieldType.object "AckBook$Packet"))) 3 64 [va_rf a0, .long pJ1] w res := by
  refine z_ct hT hfl (by decide) (by simp only [z_sl_i, z_sl_j, z_sl_r, z_sl_n]; decide) ?_
  intro p e R s m args below meth c hC hr hRc hRs hRt hnm hFr H ls hZ hl
  simp only [z_la_i, z_la_j, z_la_r, z_la_n] at hl
  have hl : lv_has ls 3 [(0, va_rf a0), (1, .long pJ1)] := hl
  unfold f_AckBook_Sent_packet at h
  refine lv_lload_n hC.1 hC.2.1 d_AckBook_Sent_packet_0 rfl (lv_at hl 1 rfl) ?_
  refine lv_lconst (v := (0 : Int64)) hC.1 hC.2.1 d_AckBook_Sent_packet_1 (by decide) ?_
  refine W.lcmp hC.1 hC.2.1 d_AckBook_Sent_packet_2 ?_
  refine lv_if_lt (tgt := 19) hC.1 hC.2.1 d_AckBook_Sent_packet_3 (by decide) (fun hc => ?_) (fun hc => ?_)
  · have h := z_ifp hc h
    refine x_null hC d_AckBook_Sent_packet_19 ?_
    exact x_aret hC hRc hRs hZ hr (Or.inl ⟨_, rfl⟩) h d_AckBook_Sent_packet_20
  · have h := z_ifn hc h
    refine lv_lload_n hC.1 hC.2.1 d_AckBook_Sent_packet_6 rfl (lv_at hl 1 rfl) ?_
    refine x_aload_n hC d_AckBook_Sent_packet_7 rfl (lv_at hl 0 rfl) ?_
    refine x_getR hC hZ zc2 h (by decide) t_90 (fun _ h9 => h9) d_AckBook_Sent_packet_8 (fun r1 h => ?_)
    obtain ⟨a_, fs_, eo_, h⟩ := z_this_spec h
    obtain ⟨w1_, o1_, hF_, ha_⟩ := z_cI_spec h
    refine x_goes hC hRc hRs hFr ha_ (z_goV (As := []) hC hZ zc4 eo_ (k_ArrayList_size hT hfl hE _ _ hF_) t_308 t_309 t_310 t_7 t_311 ⟨by decide, by decide, (by decide +kernel : (parseMethodDescriptor y_ArrayList_size.desc).map (fun d => d.parameters.length) = some 0)⟩ (by rw [hRt.1]; decide) (by rw [hRt.2]; decide) hl.1 rfl (by first | exact Nat.le_of_ble_eq_true rfl | simp [z_rfc, z_ci, z_cj]) d_AckBook_Sent_packet_11) (fun v_ hv H locs cells slots hZ => ?_)
    obtain ⟨v3, rfl, h⟩ := hv
    generalize w1_ = w at h hZ
    refine lv_i2l hC.1 hC.2.1 d_AckBook_Sent_packet_14 rfl ?_
    refine W.lcmp hC.1 hC.2.1 d_AckBook_Sent_packet_15 ?_
    refine lv_if_lt (tgt := 21) hC.1 hC.2.1 d_AckBook_Sent_packet_16 (by decide) (fun hc => ?_) (fun hc => ?_)
    · have h := z_ifp hc h
      refine x_aload_n hC d_AckBook_Sent_packet_21 rfl (lv_at hl 0 rfl) ?_
      refine x_getR hC hZ zc2 h (by decide) t_90 (fun _ h9 => h9) d_AckBook_Sent_packet_22 (fun r4 h => ?_)
      refine lv_lload_n hC.1 hC.2.1 d_AckBook_Sent_packet_25 rfl (lv_at hl 1 rfl) ?_
      refine lv_l2i hC.1 hC.2.1 d_AckBook_Sent_packet_26 rfl ?_
      obtain ⟨a_, fs_, eo_, h⟩ := z_this_spec h
      obtain ⟨w1_, o1_, hF_, ha_⟩ := z_cR_spec h
      refine x_goes hC hRc hRs hFr ha_ (z_goV (As := [.int pJ1.toInt32]) hC hZ zc4 eo_ (k_ArrayList_get hT hfl hE _ _ hF_) t_312 t_313 t_314 t_7 t_315 ⟨by decide, by decide, (by decide +kernel : (parseMethodDescriptor y_ArrayList_get.desc).map (fun d => d.parameters.length) = some 1)⟩ (by rw [hRt.1]; decide) (by rw [hRt.2]; decide) hl.1 rfl (by first | exact Nat.le_of_ble_eq_true rfl | simp [z_rfc, z_ci, z_cj]) d_AckBook_Sent_packet_27) (fun v_ hv H locs cells slots hZ => ?_)
      obtain ⟨r6, rfl, h⟩ := hv
      generalize w1_ = w at h hZ
      refine x_cast hC hZ zc9 h t_326 d_AckBook_Sent_packet_30 (fun h => ?_)
      exact x_aret hC hRc hRs hZ hr (Or.inl ⟨_, rfl⟩) h d_AckBook_Sent_packet_33
    · have h := z_ifn hc h
      refine x_null hC d_AckBook_Sent_packet_19 ?_
      exact x_aret hC hRc hRs hZ hr (Or.inl ⟨_, rfl⟩) h d_AckBook_Sent_packet_20
def f_AckBook_Sent_raiseGreatest (F X : Nat) (a0 : Option Nat) (pI1 : Int32) (w : zW) : zR :=
  z_getI w 2 6 a0 fun v1 =>
  z_put w 2 6 a0 (.int (if v1 < pI1 then pI1 else v1)) fun w =>
  some (.inl none, w)
set_option maxHeartbeats 4000000 in
set_option maxRecDepth 100000 in
theorem k_AckBook_Sent_raiseGreatest {b0 : Nat} {H0 : Heap} {D : va_G} {vu vs : Value} {X M : Nat} {l : Launch} (hT : z_TB (zGG b0 H0 D vu vs X M)) (hfl : l.flags = pinnedFlags ++ [noTraceFlag]) (hE : vu.isRef = true ∧ vs.isRef = true) {a0 : Option Nat} {pI1 : Int32} (F : Nat) {w : zW} (res : zO × zW) (h : f_AckBook_Sent_raiseGreatest F X a0 pI1 w = some res) : z_Ct (zGG b0 H0 D vu vs X M) l y_AckBook_Sent_raiseGreatest (.code y_AckBook_Sent_raiseGreatest c_AckBook_Sent_raiseGreatest 2 (none)) 1 28 [va_rf a0, .int pI1] w res := by
  refine z_ct hT hfl (by decide) (by simp only [z_sl_i, z_sl_j, z_sl_r, z_sl_n]; decide) ?_
  intro p e R s m args below meth c hC hr hRc hRs hRt hnm hFr H ls hZ hl
  simp only [z_la_i, z_la_j, z_la_r, z_la_n] at hl
  have hl : lv_has ls 2 [(0, va_rf a0), (1, .int pI1)] := hl
  unfold f_AckBook_Sent_raiseGreatest at h
  refine x_aload_n hC d_AckBook_Sent_raiseGreatest_0 rfl (lv_at hl 0 rfl) ?_
  refine x_aload_n hC d_AckBook_Sent_raiseGreatest_1 rfl (lv_at hl 0 rfl) ?_
  refine x_getI hC hZ zc2 h (by decide) t_97 (fun _ h9 => h9) d_AckBook_Sent_raiseGreatest_2 (fun v1 h => ?_)
  refine lv_iload_n hC.1 hC.2.1 d_AckBook_Sent_raiseGreatest_5 rfl (lv_at hl 1 rfl) ?_
  refine va_mmax hC.1 hC.2.1 (hC.2.2.1.trans hl.1.symm) hC.2.2.2.1 ((hZ.1.tb hC.2.2.2.2.2.2 args) _ t_642) ((hZ.1.tb hC.2.2.2.2.2.2 args) _ t_290) ((hZ.1.tb hC.2.2.2.2.2.2 args) _ t_20) ((hZ.1.tb hC.2.2.2.2.2.2 args) _ t_291) (by rw [hRt.1]; decide) (by rw [hRt.2]; first | exact Nat.le_of_ble_eq_true rfl | simp [z_rfc, z_ci, z_cj]) (hZ.2.2.1 ▸ Nat.le_add_right _ _) (hZ.2.2.2 ▸ Nat.le_add_right _ _) d_AckBook_Sent_raiseGreatest_6 ?_
  refine x_put hC hZ zc2 h (by decide) t_97 (fun _ h9 => h9) rfl rfl rfl rfl d_AckBook_Sent_raiseGreatest_9 (fun w H locs hZ h => ?_)
  exact x_vret hC hRc hRs hZ hr h d_AckBook_Sent_raiseGreatest_12
def f_AckBook_Claim_high (F X : Nat) (a0 : Option Nat) (pI1 : Int32) (w : zW) : zR :=
  if pI1 < 0 then (
    some (.inl (some (.long (-1 : Int64))), w))
  else (
    if (64 : Int32) ≤ pI1 then (
      some (.inl (some (.long (-1 : Int64))), w))
    else (
      z_getR w 6 1 a0 fun r1 =>
      z_ldL w r1 pI1 fun v2 =>
      some (.inl (some (.long v2)), w)))
set_option maxHeartbeats 4000000 in
set_option maxRecDepth 100000 in
theorem k_AckBook_Claim_high {b0 : Nat} {H0 : Heap} {D : va_G} {vu vs : Value} {X M : Nat} {l : Launch} (hT : z_TB (zGG b0 H0 D vu vs X M)) (hfl : l.flags = pinnedFlags ++ [noTraceFlag]) (hE : vu.isRef = true ∧ vs.isRef = true) {a0 : Option Nat} {pI1 : Int32} (F : Nat) {w : zW} (res : zO × zW) (h : f_AckBook_Claim_high F X a0 pI1 w = some res) : z_Ct (zGG b0 H0 D vu vs X M) l y_AckBook_Claim_high (.code y_AckBook_Claim_high c_AckBook_Claim_high 2 (some FieldType.long)) 0 0 [va_rf a0, .int pI1] w res := by
  refine z_ct hT hfl (by decide) (by simp only [z_sl_i, z_sl_j, z_sl_r, z_sl_n]; decide) ?_
  intro p e R s m args below meth c hC hr hRc hRs hRt hnm hFr H ls hZ hl
  simp only [z_la_i, z_la_j, z_la_r, z_la_n] at hl
  have hl : lv_has ls 2 [(0, va_rf a0), (1, .int pI1)] := hl
  unfold f_AckBook_Claim_high at h
  refine lv_iload_n hC.1 hC.2.1 d_AckBook_Claim_high_0 rfl (lv_at hl 1 rfl) ?_
  refine lv_if_lt (tgt := 19) hC.1 hC.2.1 d_AckBook_Claim_high_1 (by decide) (fun hc => ?_) (fun hc => ?_)
  · have h := z_ifp hc h
    refine lv_ldc2 (v := (-1 : Int64)) hC.1 hC.2.1 hC.2.2.2.1 ((hZ.1.tb hC.2.2.2.2.2.2 args) _ t_628) d_AckBook_Claim_high_19 ?_
    exact x_lret hC hRc hRs hZ hr h d_AckBook_Claim_high_22
  · have h := z_ifn hc h
    refine lv_iload_n hC.1 hC.2.1 d_AckBook_Claim_high_4 rfl (lv_at hl 1 rfl) ?_
    refine lv_bipush (v := (64 : Int32)) hC.1 hC.2.1 d_AckBook_Claim_high_5 (by decide) ?_
    refine lv_icmp_ge (tgt := 19) hC.1 hC.2.1 d_AckBook_Claim_high_7 (by decide) (fun hc => ?_) (fun hc => ?_)
    · have h := z_ifp hc h
      refine lv_ldc2 (v := (-1 : Int64)) hC.1 hC.2.1 hC.2.2.2.1 ((hZ.1.tb hC.2.2.2.2.2.2 args) _ t_628) d_AckBook_Claim_high_19 ?_
      exact x_lret hC hRc hRs hZ hr h d_AckBook_Claim_high_22
    · have h := z_ifn hc h
      refine x_aload_n hC d_AckBook_Claim_high_10 rfl (lv_at hl 0 rfl) ?_
      refine x_getR hC hZ zc6 h (by decide) t_178 (fun _ h9 => h9) d_AckBook_Claim_high_11 (fun r1 h => ?_)
      refine lv_iload_n hC.1 hC.2.1 d_AckBook_Claim_high_14 rfl (lv_at hl 1 rfl) ?_
      refine x_ldL hC hZ h d_AckBook_Claim_high_15 (fun v2 h => ?_)
      refine lv_goto (tgt := 22) hC.1 hC.2.1 d_AckBook_Claim_high_16 (by decide) ?_
      exact x_lret hC hRc hRs hZ hr h d_AckBook_Claim_high_22
def f_AckBook_Claim_low (F X : Nat) (a0 : Option Nat) (pI1 : Int32) (w : zW) : zR :=
  if pI1 < 0 then (
    some (.inl (some (.long (-1 : Int64))), w))
  else (
    if (64 : Int32) ≤ pI1 then (
      some (.inl (some (.long (-1 : Int64))), w))
    else (
      z_getR w 6 0 a0 fun r1 =>
      z_ldL w r1 pI1 fun v2 =>
      some (.inl (some (.long v2)), w)))
set_option maxHeartbeats 4000000 in
set_option maxRecDepth 100000 in
theorem k_AckBook_Claim_low {b0 : Nat} {H0 : Heap} {D : va_G} {vu vs : Value} {X M : Nat} {l : Launch} (hT : z_TB (zGG b0 H0 D vu vs X M)) (hfl : l.flags = pinnedFlags ++ [noTraceFlag]) (hE : vu.isRef = true ∧ vs.isRef = true) {a0 : Option Nat} {pI1 : Int32} (F : Nat) {w : zW} (res : zO × zW) (h : f_AckBook_Claim_low F X a0 pI1 w = some res) : z_Ct (zGG b0 H0 D vu vs X M) l y_AckBook_Claim_low (.code y_AckBook_Claim_low c_AckBook_Claim_low 2 (some FieldType.long)) 0 0 [va_rf a0, .int pI1] w res := by
  refine z_ct hT hfl (by decide) (by simp only [z_sl_i, z_sl_j, z_sl_r, z_sl_n]; decide) ?_
  intro p e R s m args below meth c hC hr hRc hRs hRt hnm hFr H ls hZ hl
  simp only [z_la_i, z_la_j, z_la_r, z_la_n] at hl
  have hl : lv_has ls 2 [(0, va_rf a0), (1, .int pI1)] := hl
  unfold f_AckBook_Claim_low at h
  refine lv_iload_n hC.1 hC.2.1 d_AckBook_Claim_low_0 rfl (lv_at hl 1 rfl) ?_
  refine lv_if_lt (tgt := 19) hC.1 hC.2.1 d_AckBook_Claim_low_1 (by decide) (fun hc => ?_) (fun hc => ?_)
  · have h := z_ifp hc h
    refine lv_ldc2 (v := (-1 : Int64)) hC.1 hC.2.1 hC.2.2.2.1 ((hZ.1.tb hC.2.2.2.2.2.2 args) _ t_628) d_AckBook_Claim_low_19 ?_
    exact x_lret hC hRc hRs hZ hr h d_AckBook_Claim_low_22
  · have h := z_ifn hc h
    refine lv_iload_n hC.1 hC.2.1 d_AckBook_Claim_low_4 rfl (lv_at hl 1 rfl) ?_
    refine lv_bipush (v := (64 : Int32)) hC.1 hC.2.1 d_AckBook_Claim_low_5 (by decide) ?_
    refine lv_icmp_ge (tgt := 19) hC.1 hC.2.1 d_AckBook_Claim_low_7 (by decide) (fun hc => ?_) (fun hc => ?_)
    · have h := z_ifp hc h
      refine lv_ldc2 (v := (-1 : Int64)) hC.1 hC.2.1 hC.2.2.2.1 ((hZ.1.tb hC.2.2.2.2.2.2 args) _ t_628) d_AckBook_Claim_low_19 ?_
      exact x_lret hC hRc hRs hZ hr h d_AckBook_Claim_low_22
    · have h := z_ifn hc h
      refine x_aload_n hC d_AckBook_Claim_low_10 rfl (lv_at hl 0 rfl) ?_
      refine x_getR hC hZ zc6 h (by decide) t_177 (fun _ h9 => h9) d_AckBook_Claim_low_11 (fun r1 h => ?_)
      refine lv_iload_n hC.1 hC.2.1 d_AckBook_Claim_low_14 rfl (lv_at hl 1 rfl) ?_
      refine x_ldL hC hZ h d_AckBook_Claim_low_15 (fun v2 h => ?_)
      refine lv_goto (tgt := 22) hC.1 hC.2.1 d_AckBook_Claim_low_16 (by decide) ?_
      exact x_lret hC hRc hRs hZ hr h d_AckBook_Claim_low_22
def q_AckBook_Sent_markAcknowledged_90 (F X : Nat) (J : Nat → Option Nat → Option Nat → Option Nat → Int32 → Int64 → Int64 → zW → zR) (rL0 : Option Nat) (rL1 : Option Nat) (xL3 : Int32) (yL4 : Int64) (yL6 : Int64) (rS0 : Option Nat) (w : zW) : zR :=
  J 1 rL0 rL1 rS0 xL3 yL4 (yL6 + (1 : Int64)) w
set_option maxHeartbeats 4000000 in
set_option maxRecDepth 100000 in
theorem kq_AckBook_Sent_markAcknowledged_90 {b0 : Nat} {H0 : Heap} {D : va_G} {vu vs : Value} {X M : Nat} {l : Launch} (hT : z_TB (zGG b0 H0 D vu vs X M)) (hfl : l.flags = pinnedFlags ++ [noTraceFlag]) (hE : vu.isRef = true ∧ vs.isRef = true) {p : Program} {e : Env} {R : Room} {s : State} {m : MethodId} {args : Array Value} {below : List Frame} {meth : Method} {c : Code} {w0 : zW} {F : Nat} (hC : z_C (zGG b0 H0 D vu vs X M) p e s m meth c c_AckBook_Sent_markAcknowledged 9 y_AckBook_Sent_markAcknowledged.cls) (hr : meth.sig.returnType = (some (FieldType.object "AckBook$Packet"))) (hRc : R.cells = w0.2.1) (hRs : R.slots = w0.2.2.1) (hFr : c.exceptionTable.toList = []) (hRt : R.frames = 4 ∧ R.locals = 86) (hnm : meth.name = y_AckBook_Sent_markAcknowledged.name) {J : Nat → Option Nat → Option Nat → Option Nat → Int32 → Int64 → Int64 → zW → zR} (hJ : (∀ (rL0 : Option Nat) (rL1 : Option Nat) (rL2 : Option Nat) (xL3 : Int32) (yL4 : Int64) (yL6 : Int64) (w : zW) (res : zO × zW), J 0 rL0 rL1 rL2 xL3 yL4 yL6 w = some res → ∀ (H : Heap) (locs : List Loc) (cells slots : Nat) (ls : Array Slot), z_Z (zGG b0 H0 D vu vs X M) R s w H locs cells slots → lv_has ls 9 [(0, va_rf rL0), (1, va_rf rL1), (2, va_rf rL2), (3, .int xL3)] → W p l e R s m args below meth c H locs cells slots (z_Q (zGG b0 H0 D vu vs X M) below s w0 res) (F0 m 9 ls [])) ∧ (∀ (rL0 : Option Nat) (rL1 : Option Nat) (rL2 : Option Nat) (xL3 : Int32) (yL4 : Int64) (yL6 : Int64) (w : zW) (res : zO × zW), J 1 rL0 rL1 rL2 xL3 yL4 yL6 w = some res → ∀ (H : Heap) (locs : List Loc) (cells slots : Nat) (ls : Array Slot), z_Z (zGG b0 H0 D vu vs X M) R s w H locs cells slots → lv_has ls 9 [(0, va_rf rL0), (1, va_rf rL1), (2, va_rf rL2), (3, .int xL3), (4, .long yL4), (6, .long yL6)] → W p l e R s m args below meth c H locs cells slots (z_Q (zGG b0 H0 D vu vs X M) below s w0 res) (F0 m 40 ls []))) (rL0 : Option Nat) (rL1 : Option Nat) (xL3 : Int32) (yL4 : Int64) (yL6 : Int64) (rS0 : Option Nat) (w : zW) (res : zO × zW) (h : q_AckBook_Sent_markAcknowledged_90 F X J rL0 rL1 xL3 yL4 yL6 rS0 w = some res) (H : Heap) (locs : List Loc) (cells slots : Nat) (ls : Array Slot) (hZ : z_Z (zGG b0 H0 D vu vs X M) R s w H locs cells slots) (hl : lv_has ls 9 [(0, va_rf rL0), (1, va_rf rL1), (3, .int xL3), (4, .long yL4), (6, .long yL6)]) : W p l e R s m args below meth c H locs cells slots (z_Q (zGG b0 H0 D vu vs X M) below s w0 res) (F0 m 90 ls [va_rf rS0]) := by
  unfold q_AckBook_Sent_markAcknowledged_90 at h
  refine x_astore_n (i := 2) (lv' := [(2, va_rf rS0), (0, va_rf rL0), (1, va_rf rL1), (3, .int xL3), (4, .long yL4), (6, .long yL6)]) hC d_AckBook_Sent_markAcknowledged_90 rfl hl (by decide) (by first | rfl | simp [z_rfc, z_ci, z_cj]) (fun ls hl => ?_)
  refine lv_lload hC.1 hC.2.1 d_AckBook_Sent_markAcknowledged_91 (lv_at hl 5 rfl) ?_
  refine lv_lconst (v := (1 : Int64)) hC.1 hC.2.1 d_AckBook_Sent_markAcknowledged_93 (by decide) ?_
  refine lv_ladd hC.1 hC.2.1 d_AckBook_Sent_markAcknowledged_94 ?_
  refine lv_lstore (i := 6) (lv' := [(6, .long (yL6 + (1 : Int64))), (2, va_rf rS0), (0, va_rf rL0), (1, va_rf rL1), (3, .int xL3), (4, .long yL4)]) hC.1 hC.2.1 d_AckBook_Sent_markAcknowledged_95 hl (by decide) (by first | rfl | simp [z_rfc, z_ci, z_cj]) (fun ls hl => ?_)
  refine lv_goto (tgt := 40) hC.1 hC.2.1 d_AckBook_Sent_markAcknowledged_97 (by decide) ?_
  exact hJ.2 _ _ _ _ _ _ _ _ h _ _ _ _ _ hZ (lv_sub hl [2, 3, 1, 4, 5, 0] rfl)
def j_AckBook_Sent_markAcknowledged (F X : Nat) : Nat → Nat → Option Nat → Option Nat → Option Nat → Int32 → Int64 → Int64 → zW → zR
  | 0, _, _, _, _, _, _, _, _ => none
  | N + 1, lb, rL0, rL1, rL2, xL3, yL4, yL6, w =>
    if lb = 0 then (
    if xL3 < 0 then (
      some (.inl (some (va_rf rL2)), w))
    else (
      z_this w 6 rL1 <|
      z_cL (f_AckBook_Claim_high F X rL1 xL3 w) fun v2 w =>
      z_getR w 2 2 rL0 fun r3 =>
      z_this w 4 r3 <|
      z_cI (f_ArrayList_size F X r3 w) fun v5 w =>
      z_this w 6 rL1 <|
      z_cL (f_AckBook_Claim_low F X rL1 xL3 w) fun v7 w =>
      (j_AckBook_Sent_markAcknowledged F X N) 1 rL0 rL1 rL2 xL3 (if ((v5 - (1 : Int32)).toInt64) < v2 then ((v5 - (1 : Int32)).toInt64) else v2) v7 w))
    else (
    if 0 < (lg_cmp yL6 yL4) then (
      (j_AckBook_Sent_markAcknowledged F X N) 0 rL0 rL1 rL2 (xL3 + (-1 : Int32)) 0 0 w)
    else (
      z_this w 2 rL0 <|
      z_cR (f_AckBook_Sent_packet F X rL0 yL6 w) fun r9 w =>
      if r9 = none then (
        (j_AckBook_Sent_markAcknowledged F X N) 1 rL0 rL1 rL2 xL3 yL4 (yL6 + (1 : Int64)) w)
      else (
        z_getI w 9 6 r9 fun v10 =>
        if v10 = 0 then (
          z_getR w 2 0 rL0 fun r11 =>
          z_this w 2 rL0 <|
          z_cV (f_AckBook_Sent_end F X rL0 r9 (1 : Int32) r11 w) fun w =>
          if rL2 = none then (
            q_AckBook_Sent_markAcknowledged_90 F X (j_AckBook_Sent_markAcknowledged F X N) rL0 rL1 xL3 yL4 yL6 r9 w)
          else (
            q_AckBook_Sent_markAcknowledged_90 F X (j_AckBook_Sent_markAcknowledged F X N) rL0 rL1 xL3 yL4 yL6 rL2 w))
        else (
          (j_AckBook_Sent_markAcknowledged F X N) 1 rL0 rL1 rL2 xL3 yL4 (yL6 + (1 : Int64)) w))))
set_option maxHeartbeats 4000000 in
set_option maxRecDepth 100000 in
theorem kj_AckBook_Sent_markAcknowledged {b0 : Nat} {H0 : Heap} {D : va_G} {vu vs : Value} {X M : Nat} {l : Launch} (hT : z_TB (zGG b0 H0 D vu vs X M)) (hfl : l.flags = pinnedFlags ++ [noTraceFlag]) (hE : vu.isRef = true ∧ vs.isRef = true) {p : Program} {e : Env} {R : Room} {s : State} {m : MethodId} {args : Array Value} {below : List Frame} {meth : Method} {c : Code} {w0 : zW} {F : Nat} (hC : z_C (zGG b0 H0 D vu vs X M) p e s m meth c c_AckBook_Sent_markAcknowledged 9 y_AckBook_Sent_markAcknowledged.cls) (hr : meth.sig.returnType = (some (FieldType.object "AckBook$Packet"))) (hRc : R.cells = w0.2.1) (hRs : R.slots = w0.2.2.1) (hFr : c.exceptionTable.toList = []) (hRt : R.frames = 4 ∧ R.locals = 86) (hnm : meth.name = y_AckBook_Sent_markAcknowledged.name) : ∀ N : Nat, (∀ (rL0 : Option Nat) (rL1 : Option Nat) (rL2 : Option Nat) (xL3 : Int32) (yL4 : Int64) (yL6 : Int64) (w : zW) (res : zO × zW), j_AckBook_Sent_markAcknowledged F X N 0 rL0 rL1 rL2 xL3 yL4 yL6 w = some res → ∀ (H : Heap) (locs : List Loc) (cells slots : Nat) (ls : Array Slot), z_Z (zGG b0 H0 D vu vs X M) R s w H locs cells slots → lv_has ls 9 [(0, va_rf rL0), (1, va_rf rL1), (2, va_rf rL2), (3, .int xL3)] → W p l e R s m args below meth c H locs cells slots (z_Q (zGG b0 H0 D vu vs X M) below s w0 res) (F0 m 9 ls [])) ∧ (∀ (rL0 : Option Nat) (rL1 : Option Nat) (rL2 : Option Nat) (xL3 : Int32) (yL4 : Int64) (yL6 : Int64) (w : zW) (res : zO × zW), j_AckBook_Sent_markAcknowledged F X N 1 rL0 rL1 rL2 xL3 yL4 yL6 w = some res → ∀ (H : Heap) (locs : List Loc) (cells slots : Nat) (ls : Array Slot), z_Z (zGG b0 H0 D vu vs X M) R s w H locs cells slots → lv_has ls 9 [(0, va_rf rL0), (1, va_rf rL1), (2, va_rf rL2), (3, .int xL3), (4, .long yL4), (6, .long yL6)] → W p l e R s m args below meth c H locs cells slots (z_Q (zGG b0 H0 D vu vs X M) below s w0 res) (F0 m 40 ls [])) := by
  intro N
  induction N with
  | zero =>
    refine ⟨?_, ?_⟩
    · intro rL0 rL1 rL2 xL3 yL4 yL6 w res h
      rw [j_AckBook_Sent_markAcknowledged] at h
      cases h
    · intro rL0 rL1 rL2 xL3 yL4 yL6 w res h
      rw [j_AckBook_Sent_markAcknowledged] at h
      cases h
  | succ N ih =>
    refine ⟨?_, ?_⟩
    · intro rL0 rL1 rL2 xL3 yL4 yL6 w res h H locs cells slots ls hZ hl
      rw [j_AckBook_Sent_markAcknowledged] at h
      have h := z_ifp rfl h
      refine lv_iload_n hC.1 hC.2.1 d_AckBook_Sent_markAcknowledged_9 rfl (lv_at hl 3 rfl) ?_
      refine lv_if_lt (tgt := 106) hC.1 hC.2.1 d_AckBook_Sent_markAcknowledged_10 (by decide) (fun hc => ?_) (fun hc => ?_)
      · have h := z_ifp hc h
        refine x_aload_n hC d_AckBook_Sent_markAcknowledged_106 rfl (lv_at hl 2 rfl) ?_
        exact x_aret hC hRc hRs hZ hr (Or.inl ⟨_, rfl⟩) h d_AckBook_Sent_markAcknowledged_107
      · have h := z_ifn hc h
        refine x_aload_n hC d_AckBook_Sent_markAcknowledged_13 rfl (lv_at hl 1 rfl) ?_
        refine lv_iload_n hC.1 hC.2.1 d_AckBook_Sent_markAcknowledged_14 rfl (lv_at hl 3 rfl) ?_
        obtain ⟨a_, fs_, eo_, h⟩ := z_this_spec h
        obtain ⟨w1_, o1_, hF_, ha_⟩ := z_cL_spec h
        refine x_goes hC hRc hRs hFr ha_ (z_goV (As := [.int xL3]) hC hZ zc6 eo_ (k_AckBook_Claim_high hT hfl hE _ _ hF_) t_647 t_648 t_649 t_9 t_650 ⟨by decide, by decide, (by decide +kernel : (parseMethodDescriptor y_AckBook_Claim_high.desc).map (fun d => d.parameters.length) = some 1)⟩ (by rw [hRt.1]; decide) (by rw [hRt.2]; decide) hl.1 rfl (by first | exact Nat.le_of_ble_eq_true rfl | simp [z_rfc, z_ci, z_cj]) d_AckBook_Sent_markAcknowledged_15) (fun v_ hv H locs cells slots hZ => ?_)
        obtain ⟨v2, rfl, h⟩ := hv
        generalize w1_ = w at h hZ
        refine x_aload_n hC d_AckBook_Sent_markAcknowledged_18 rfl (lv_at hl 0 rfl) ?_
        refine x_getR hC hZ zc2 h (by decide) t_90 (fun _ h9 => h9) d_AckBook_Sent_markAcknowledged_19 (fun r3 h => ?_)
        obtain ⟨a_, fs_, eo_, h⟩ := z_this_spec h
        obtain ⟨w1_, o1_, hF_, ha_⟩ := z_cI_spec h
        refine x_goes hC hRc hRs hFr ha_ (z_goV (As := []) hC hZ zc4 eo_ (k_ArrayList_size hT hfl hE _ _ hF_) t_308 t_309 t_310 t_7 t_311 ⟨by decide, by decide, (by decide +kernel : (parseMethodDescriptor y_ArrayList_size.desc).map (fun d => d.parameters.length) = some 0)⟩ (by rw [hRt.1]; decide) (by rw [hRt.2]; decide) hl.1 rfl (by first | exact Nat.le_of_ble_eq_true rfl | simp [z_rfc, z_ci, z_cj]) d_AckBook_Sent_markAcknowledged_22) (fun v_ hv H locs cells slots hZ => ?_)
        obtain ⟨v5, rfl, h⟩ := hv
        generalize w1_ = w at h hZ
        refine lv_iconst (v := (1 : Int32)) hC.1 hC.2.1 d_AckBook_Sent_markAcknowledged_25 (by decide) ?_
        refine lv_isub hC.1 hC.2.1 d_AckBook_Sent_markAcknowledged_26 ?_
        refine lv_i2l hC.1 hC.2.1 d_AckBook_Sent_markAcknowledged_27 rfl ?_
        refine va_mmin_long hC.1 hC.2.1 (hC.2.2.1.trans hl.1.symm) hC.2.2.2.1 ((hZ.1.tb hC.2.2.2.2.2.2 args) _ t_651) ((hZ.1.tb hC.2.2.2.2.2.2 args) _ t_652) ((hZ.1.tb hC.2.2.2.2.2.2 args) _ t_20) ((hZ.1.tb hC.2.2.2.2.2.2 args) _ t_653) (by rw [hRt.1]; decide) (by rw [hRt.2]; first | exact Nat.le_of_ble_eq_true rfl | simp [z_rfc, z_ci, z_cj]) (hZ.2.2.1 ▸ Nat.le_add_right _ _) (hZ.2.2.2 ▸ Nat.le_add_right _ _) d_AckBook_Sent_markAcknowledged_28 ?_
        refine lv_lstore (i := 4) (lv' := [(4, .long (if ((v5 - (1 : Int32)).toInt64) < v2 then ((v5 - (1 : Int32)).toInt64) else v2)), (0, va_rf rL0), (1, va_rf rL1), (2, va_rf rL2), (3, .int xL3)]) hC.1 hC.2.1 d_AckBook_Sent_markAcknowledged_31 hl (by decide) (by first | rfl | simp [z_rfc, z_ci, z_cj]) (fun ls hl => ?_)
        refine x_aload_n hC d_AckBook_Sent_markAcknowledged_33 rfl (lv_at hl 2 rfl) ?_
        refine lv_iload_n hC.1 hC.2.1 d_AckBook_Sent_markAcknowledged_34 rfl (lv_at hl 4 rfl) ?_
        obtain ⟨a_, fs_, eo_, h⟩ := z_this_spec h
        obtain ⟨w1_, o1_, hF_, ha_⟩ := z_cL_spec h
        refine x_goes hC hRc hRs hFr ha_ (z_goV (As := [.int xL3]) hC hZ zc6 eo_ (k_AckBook_Claim_low hT hfl hE _ _ hF_) t_654 t_655 t_656 t_9 t_657 ⟨by decide, by decide, (by decide +kernel : (parseMethodDescriptor y_AckBook_Claim_low.desc).map (fun d => d.parameters.length) = some 1)⟩ (by rw [hRt.1]; decide) (by rw [hRt.2]; decide) hl.1 rfl (by first | exact Nat.le_of_ble_eq_true rfl | simp [z_rfc, z_ci, z_cj]) d_AckBook_Sent_markAcknowledged_35) (fun v_ hv H locs cells slots hZ => ?_)
        obtain ⟨v7, rfl, h⟩ := hv
        generalize w1_ = w at h hZ
        refine lv_lstore (i := 6) (lv' := [(6, .long v7), (4, .long (if ((v5 - (1 : Int32)).toInt64) < v2 then ((v5 - (1 : Int32)).toInt64) else v2)), (0, va_rf rL0), (1, va_rf rL1), (2, va_rf rL2), (3, .int xL3)]) hC.1 hC.2.1 d_AckBook_Sent_markAcknowledged_38 hl (by decide) (by first | rfl | simp [z_rfc, z_ci, z_cj]) (fun ls hl => ?_)
        exact ih.2 _ _ _ _ _ _ _ _ h _ _ _ _ _ hZ (lv_sub hl [2, 3, 4, 5, 1, 0] rfl)
    · intro rL0 rL1 rL2 xL3 yL4 yL6 w res h H locs cells slots ls hZ hl
      rw [j_AckBook_Sent_markAcknowledged] at h
      have h := z_ifn (by decide) h
      refine lv_lload hC.1 hC.2.1 d_AckBook_Sent_markAcknowledged_40 (lv_at hl 5 rfl) ?_
      refine lv_lload hC.1 hC.2.1 d_AckBook_Sent_markAcknowledged_42 (lv_at hl 4 rfl) ?_
      refine W.lcmp hC.1 hC.2.1 d_AckBook_Sent_markAcknowledged_44 ?_
      refine lv_if_gt (tgt := 100) hC.1 hC.2.1 d_AckBook_Sent_markAcknowledged_45 (by decide) (fun hc => ?_) (fun hc => ?_)
      · have h := z_ifp hc h
        refine lv_iinc (lv' := [(3, .int (xL3 + (-1 : Int32))), (0, va_rf rL0), (1, va_rf rL1), (2, va_rf rL2), (4, .long yL4), (6, .long yL6)]) hC.1 hC.2.1 d_AckBook_Sent_markAcknowledged_100 hl (k := 3) rfl rfl (by decide) (by first | rfl | simp [z_rfc, z_ci, z_cj]) (fun ls hl => ?_)
        refine lv_goto (tgt := 9) hC.1 hC.2.1 d_AckBook_Sent_markAcknowledged_103 (by decide) ?_
        exact ih.1 _ _ _ _ _ _ _ _ h _ _ _ _ _ hZ (lv_sub hl [1, 2, 3, 0] rfl)
      · have h := z_ifn hc h
        refine x_aload_n hC d_AckBook_Sent_markAcknowledged_48 rfl (lv_at hl 0 rfl) ?_
        refine lv_lload hC.1 hC.2.1 d_AckBook_Sent_markAcknowledged_49 (lv_at hl 5 rfl) ?_
        obtain ⟨a_, fs_, eo_, h⟩ := z_this_spec h
        obtain ⟨w1_, o1_, hF_, ha_⟩ := z_cR_spec h
        refine x_goes hC hRc hRs hFr ha_ (z_goV (As := [.long yL6]) hC hZ zc2 eo_ (k_AckBook_Sent_packet hT hfl hE _ _ hF_) t_658 t_630 t_631 t_3 t_632 ⟨by decide, by decide, (by decide +kernel : (parseMethodDescriptor y_AckBook_Sent_packet.desc).map (fun d => d.parameters.length) = some 1)⟩ (by rw [hRt.1]; decide) (by rw [hRt.2]; decide) hl.1 rfl (by first | exact Nat.le_of_ble_eq_true rfl | simp [z_rfc, z_ci, z_cj]) d_AckBook_Sent_markAcknowledged_51) (fun v_ hv H locs cells slots hZ => ?_)
        obtain ⟨r9, rfl, h⟩ := hv
        generalize w1_ = w at h hZ
        refine x_astore (i := 8) (lv' := [(8, va_rf r9), (0, va_rf rL0), (1, va_rf rL1), (2, va_rf rL2), (3, .int xL3), (4, .long yL4), (6, .long yL6)]) hC d_AckBook_Sent_markAcknowledged_54 hl (by decide) (by first | rfl | simp [z_rfc, z_ci, z_cj]) (fun ls hl => ?_)
        refine x_aload hC d_AckBook_Sent_markAcknowledged_56 (lv_at hl 0 rfl) ?_
        refine x_ifnull (tgt := 91) hC d_AckBook_Sent_markAcknowledged_58 (by decide) (fun hc => ?_) (fun hc => ?_)
        · have h := z_ifp hc h
          refine lv_lload hC.1 hC.2.1 d_AckBook_Sent_markAcknowledged_91 (lv_at hl 6 rfl) ?_
          refine lv_lconst (v := (1 : Int64)) hC.1 hC.2.1 d_AckBook_Sent_markAcknowledged_93 (by decide) ?_
          refine lv_ladd hC.1 hC.2.1 d_AckBook_Sent_markAcknowledged_94 ?_
          refine lv_lstore (i := 6) (lv' := [(6, .long (yL6 + (1 : Int64))), (8, va_rf r9), (0, va_rf rL0), (1, va_rf rL1), (2, va_rf rL2), (3, .int xL3), (4, .long yL4)]) hC.1 hC.2.1 d_AckBook_Sent_markAcknowledged_95 hl (by decide) (by first | rfl | simp [z_rfc, z_ci, z_cj]) (fun ls hl => ?_)
          refine lv_goto (tgt := 40) hC.1 hC.2.1 d_AckBook_Sent_markAcknowledged_97 (by decide) ?_
          exact ih.2 _ _ _ _ _ _ _ _ h _ _ _ _ _ hZ (lv_sub hl [2, 3, 4, 5, 6, 0] rfl)
        · have h := z_ifn hc h
          refine x_aload hC d_AckBook_Sent_markAcknowledged_61 (lv_at hl 0 rfl) ?_
          refine x_getI hC hZ zc9 h (by decide) t_501 (fun _ h9 => h9) d_AckBook_Sent_markAcknowledged_63 (fun v10 h => ?_)
          refine lv_if_ne (tgt := 91) hC.1 hC.2.1 d_AckBook_Sent_markAcknowledged_66 (by decide) (fun hc => ?_) (fun hc => ?_)
          · have h := z_ifn hc h
            refine lv_lload hC.1 hC.2.1 d_AckBook_Sent_markAcknowledged_91 (lv_at hl 6 rfl) ?_
            refine lv_lconst (v := (1 : Int64)) hC.1 hC.2.1 d_AckBook_Sent_markAcknowledged_93 (by decide) ?_
            refine lv_ladd hC.1 hC.2.1 d_AckBook_Sent_markAcknowledged_94 ?_
            refine lv_lstore (i := 6) (lv' := [(6, .long (yL6 + (1 : Int64))), (8, va_rf r9), (0, va_rf rL0), (1, va_rf rL1), (2, va_rf rL2), (3, .int xL3), (4, .long yL4)]) hC.1 hC.2.1 d_AckBook_Sent_markAcknowledged_95 hl (by decide) (by first | rfl | simp [z_rfc, z_ci, z_cj]) (fun ls hl => ?_)
            refine lv_goto (tgt := 40) hC.1 hC.2.1 d_AckBook_Sent_markAcknowledged_97 (by decide) ?_
            exact ih.2 _ _ _ _ _ _ _ _ h _ _ _ _ _ hZ (lv_sub hl [2, 3, 4, 5, 6, 0] rfl)
          · have h := z_ifp hc h
            refine x_aload_n hC d_AckBook_Sent_markAcknowledged_69 rfl (lv_at hl 1 rfl) ?_
            refine x_aload hC d_AckBook_Sent_markAcknowledged_70 (lv_at hl 0 rfl) ?_
            refine lv_iconst (v := (1 : Int32)) hC.1 hC.2.1 d_AckBook_Sent_markAcknowledged_72 (by decide) ?_
            refine x_aload_n hC d_AckBook_Sent_markAcknowledged_73 rfl (lv_at hl 1 rfl) ?_
            refine x_getR hC hZ zc2 h (by decide) t_86 (fun _ h9 => h9) d_AckBook_Sent_markAcknowledged_74 (fun r11 h => ?_)
            obtain ⟨a_, fs_, eo_, h⟩ := z_this_spec h
            obtain ⟨w1_, o1_, hF_, ha_⟩ := z_cV_spec h
            refine x_goes hC hRc hRs hFr ha_ (z_goV (As := [va_rf r9, .int (1 : Int32), va_rf r11]) hC hZ zc2 eo_ (k_AckBook_Sent_end hT hfl hE _ _ hF_) t_327 t_329 ts_AckBook_Sent_end t_3 t_330 ⟨by decide, by decide, (by decide +kernel : (parseMethodDescriptor y_AckBook_Sent_end.desc).map (fun d => d.parameters.length) = some 3)⟩ (by rw [hRt.1]; decide) (by rw [hRt.2]; decide) hl.1 rfl (by first | exact Nat.le_of_ble_eq_true rfl | simp [z_rfc, z_ci, z_cj]) d_AckBook_Sent_markAcknowledged_77) (fun v_ hv H locs cells slots hZ => ?_)
            obtain ⟨rfl, h⟩ := hv
            generalize w1_ = w at h hZ
            refine x_aload_n hC d_AckBook_Sent_markAcknowledged_80 rfl (lv_at hl 3 rfl) ?_
            refine x_ifnonnull (tgt := 89) hC d_AckBook_Sent_markAcknowledged_81 (by decide) (fun hc => ?_) (fun hc => ?_)
            · have h := z_ifn hc h
              refine x_aload_n hC d_AckBook_Sent_markAcknowledged_89 rfl (lv_at hl 3 rfl) ?_
              exact kq_AckBook_Sent_markAcknowledged_90 hT hfl hE hC hr hRc hRs hFr hRt hnm ih _ _ _ _ _ _ _ _ h _ _ _ _ _ hZ (lv_sub hl [1, 2, 4, 5, 6] rfl)
            · have h := z_ifp hc h
              refine x_aload hC d_AckBook_Sent_markAcknowledged_84 (lv_at hl 0 rfl) ?_
              refine lv_goto (tgt := 90) hC.1 hC.2.1 d_AckBook_Sent_markAcknowledged_86 (by decide) ?_
              exact kq_AckBook_Sent_markAcknowledged_90 hT hfl hE hC hr hRc hRs hFr hRt hnm ih _ _ _ _ _ _ _ _ h _ _ _ _ _ hZ (lv_sub hl [1, 2, 4, 5, 6] rfl)
def f_AckBook_Sent_markAcknowledged (F X : Nat) (a0 : Option Nat) (pR1 : Option Nat) (w : zW) : zR :=
  z_getI w 6 3 pR1 fun v13 =>
  (j_AckBook_Sent_markAcknowledged F X F) 0 a0 pR1 none (v13 - (1 : Int32)) 0 0 w
set_option maxHeartbeats 4000000 in
set_option maxRecDepth 100000 in
theorem k_AckBook_Sent_markAcknowledged {b0 : Nat} {H0 : Heap} {D : va_G} {vu vs : Value} {X M : Nat} {l : Launch} (hT : z_TB (zGG b0 H0 D vu vs X M)) (hfl : l.flags = pinnedFlags ++ [noTraceFlag]) (hE : vu.isRef = true ∧ vs.isRef = true) {a0 : Option Nat} {pR1 : Option Nat} (F : Nat) {w : zW} (res : zO × zW) (h : f_AckBook_Sent_markAcknowledged F X a0 pR1 w = some res) : z_Ct (zGG b0 H0 D vu vs X M) l y_AckBook_Sent_markAcknowledged (.code y_AckBook_Sent_markAcknowledged c_AckBook_Sent_markAcknowledged 9 (some (FieldType.object "AckBook$Packet"))) 4 86 [va_rf a0, va_rf pR1] w res := by
  refine z_ct hT hfl (by decide) (by simp only [z_sl_i, z_sl_j, z_sl_r, z_sl_n]; decide) ?_
  intro p e R s m args below meth c hC hr hRc hRs hRt hnm hFr H ls hZ hl
  simp only [z_la_i, z_la_j, z_la_r, z_la_n] at hl
  have hl : lv_has ls 9 [(0, va_rf a0), (1, va_rf pR1)] := hl
  unfold f_AckBook_Sent_markAcknowledged at h
  refine x_null hC d_AckBook_Sent_markAcknowledged_0 ?_
  refine x_astore_n (i := 2) (lv' := [(2, va_rf none), (0, va_rf a0), (1, va_rf pR1)]) hC d_AckBook_Sent_markAcknowledged_1 rfl hl (by decide) (by first | rfl | simp [z_rfc, z_ci, z_cj]) (fun ls hl => ?_)
  refine x_aload_n hC d_AckBook_Sent_markAcknowledged_2 rfl (lv_at hl 2 rfl) ?_
  refine x_getI hC hZ zc6 h (by decide) t_181 (fun _ h9 => h9) d_AckBook_Sent_markAcknowledged_3 (fun v13 h => ?_)
  refine lv_iconst (v := (1 : Int32)) hC.1 hC.2.1 d_AckBook_Sent_markAcknowledged_6 (by decide) ?_
  refine lv_isub hC.1 hC.2.1 d_AckBook_Sent_markAcknowledged_7 ?_
  refine lv_istore_n (i := 3) (lv' := [(3, .int (v13 - (1 : Int32))), (2, va_rf none), (0, va_rf a0), (1, va_rf pR1)]) hC.1 hC.2.1 d_AckBook_Sent_markAcknowledged_8 rfl hl (by decide) (by first | rfl | simp [z_rfc, z_ci, z_cj]) (fun ls hl => ?_)
  exact (kj_AckBook_Sent_markAcknowledged hT hfl hE hC hr hRc hRs hFr hRt hnm F).1 _ _ _ _ _ _ _ _ h _ _ _ _ _ hZ (lv_sub hl [2, 3, 1, 0] rfl)
def j_AckBook_hasEliciting (F X : Nat) : Nat → Option Nat → zW → zR
  | 0, _, _ => none
  | N + 1, rL1, w =>
    if rL1 = none then (
      some (.inl (some (.int (0 : Int32))), w))
    else (
      z_getI w 9 3 rL1 fun v1 =>
      if v1 = 0 then (
        z_getR w 9 7 rL1 fun r2 =>
        (j_AckBook_hasEliciting F X N) r2 w)
      else (
        some (.inl (some (.int (1 : Int32))), w)))
set_option maxHeartbeats 4000000 in
set_option maxRecDepth 100000 in
theorem kj_AckBook_hasEliciting {b0 : Nat} {H0 : Heap} {D : va_G} {vu vs : Value} {X M : Nat} {l : Launch} (hT : z_TB (zGG b0 H0 D vu vs X M)) (hfl : l.flags = pinnedFlags ++ [noTraceFlag]) (hE : vu.isRef = true ∧ vs.isRef = true) {p : Program} {e : Env} {R : Room} {s : State} {m : MethodId} {args : Array Value} {below : List Frame} {meth : Method} {c : Code} {w0 : zW} {F : Nat} (hC : z_C (zGG b0 H0 D vu vs X M) p e s m meth c c_AckBook_hasEliciting 2 y_AckBook_hasEliciting.cls) (hr : meth.sig.returnType = (some FieldType.boolean)) (hRc : R.cells = w0.2.1) (hRs : R.slots = w0.2.2.1) (hFr : c.exceptionTable.toList = []) (hRt : R.frames = 0 ∧ R.locals = 0) (hnm : meth.name = y_AckBook_hasEliciting.name) : ∀ N : Nat, (∀ (rL1 : Option Nat) (w : zW) (res : zO × zW), j_AckBook_hasEliciting F X N rL1 w = some res → ∀ (H : Heap) (locs : List Loc) (cells slots : Nat) (ls : Array Slot), z_Z (zGG b0 H0 D vu vs X M) R s w H locs cells slots → lv_has ls 2 [(1, va_rf rL1)] → W p l e R s m args below meth c H locs cells slots (z_Q (zGG b0 H0 D vu vs X M) below s w0 res) (F0 m 2 ls [])) := by
  intro N
  induction N with
  | zero =>
    intro rL1 w res h
    rw [j_AckBook_hasEliciting] at h
    cases h
  | succ N ih =>
    intro rL1 w res h H locs cells slots ls hZ hl
    rw [j_AckBook_hasEliciting] at h
    refine x_aload_n hC d_AckBook_hasEliciting_2 rfl (lv_at hl 0 rfl) ?_
    refine x_ifnull (tgt := 23) hC d_AckBook_hasEliciting_3 (by decide) (fun hc => ?_) (fun hc => ?_)
    · have h := z_ifp hc h
      refine lv_iconst (v := (0 : Int32)) hC.1 hC.2.1 d_AckBook_hasEliciting_23 (by decide) ?_
      exact x_iret hC hRc hRs hZ hr rfl h d_AckBook_hasEliciting_24
    · have h := z_ifn hc h
      refine x_aload_n hC d_AckBook_hasEliciting_6 rfl (lv_at hl 0 rfl) ?_
      refine x_getI hC hZ zc9 h (by decide) t_496 (fun _ h9 => h9) d_AckBook_hasEliciting_7 (fun v1 h => ?_)
      refine lv_if_eq (tgt := 15) hC.1 hC.2.1 d_AckBook_hasEliciting_10 (by decide) (fun hc => ?_) (fun hc => ?_)
      · have h := z_ifp hc h
        refine x_aload_n hC d_AckBook_hasEliciting_15 rfl (lv_at hl 0 rfl) ?_
        refine x_getR hC hZ zc9 h (by decide) t_506 (fun _ h9 => h9) d_AckBook_hasEliciting_16 (fun r2 h => ?_)
        refine x_astore_n (i := 1) (lv' := [(1, va_rf r2)]) hC d_AckBook_hasEliciting_19 rfl hl (by decide) (by first | rfl | simp [z_rfc, z_ci, z_cj]) (fun ls hl => ?_)
        refine lv_goto (tgt := 2) hC.1 hC.2.1 d_AckBook_hasEliciting_20 (by decide) ?_
        exact ih _ _ _ h _ _ _ _ _ hZ (lv_sub hl [0] rfl)
      · have h := z_ifn hc h
        refine lv_iconst (v := (1 : Int32)) hC.1 hC.2.1 d_AckBook_hasEliciting_13 (by decide) ?_
        exact x_iret hC hRc hRs hZ hr rfl h d_AckBook_hasEliciting_14
def f_AckBook_hasEliciting (F X : Nat) (pR1 : Option Nat) (w : zW) : zR :=
  (j_AckBook_hasEliciting F X F) pR1 w
set_option maxHeartbeats 4000000 in
set_option maxRecDepth 100000 in
theorem k_AckBook_hasEliciting {b0 : Nat} {H0 : Heap} {D : va_G} {vu vs : Value} {X M : Nat} {l : Launch} (hT : z_TB (zGG b0 H0 D vu vs X M)) (hfl : l.flags = pinnedFlags ++ [noTraceFlag]) (hE : vu.isRef = true ∧ vs.isRef = true) {pR1 : Option Nat} (F : Nat) {w : zW} (res : zO × zW) (h : f_AckBook_hasEliciting F X pR1 w = some res) : z_Ct (zGG b0 H0 D vu vs X M) l y_AckBook_hasEliciting (.code y_AckBook_hasEliciting c_AckBook_hasEliciting 2 (some FieldType.boolean)) 0 0 [va_rf pR1] w res := by
  refine z_ct hT hfl (by decide) (by simp only [z_sl_i, z_sl_j, z_sl_r, z_sl_n]; decide) ?_
  intro p e R s m args below meth c hC hr hRc hRs hRt hnm hFr H ls hZ hl
  simp only [z_la_i, z_la_j, z_la_r, z_la_n] at hl
  have hl : lv_has ls 2 [(0, va_rf pR1)] := hl
  unfold f_AckBook_hasEliciting at h
  refine x_aload_n hC d_AckBook_hasEliciting_0 rfl (lv_at hl 0 rfl) ?_
  refine x_astore_n (i := 1) (lv' := [(1, va_rf pR1), (0, va_rf pR1)]) hC d_AckBook_hasEliciting_1 rfl hl (by decide) (by first | rfl | simp [z_rfc, z_ci, z_cj]) (fun ls hl => ?_)
  exact (kj_AckBook_hasEliciting hT hfl hE hC hr hRc hRs hFr hRt hnm F) _ _ _ h _ _ _ _ _ hZ (lv_sub hl [0] rfl)
def q_AckBook_Way_take_75 (F X : Nat) (rL0 : Option Nat) (xS0 : Int32) (w : zW) : zR :=
  z_getI w 7 0 rL0 fun v1 =>
  z_getI w 7 1 rL0 fun v2 =>
  z_getI w 7 1 rL0 fun v3 =>
  z_put w 7 1 rL0 (.int (v2 + ((if 0 ≤ ((v1 / (8 : Int32)) - xS0) then ((v1 / (8 : Int32)) - xS0) else 0 - ((v1 / (8 : Int32)) - xS0)) - (v3 / (4 : Int32))))) fun w =>
  z_getI w 7 0 rL0 fun v4 =>
  z_getI w 7 0 rL0 fun v5 =>
  z_put w 7 0 rL0 (.int (v4 + (xS0 - (v5 / (8 : Int32))))) fun w =>
  some (.inl none, w)
set_option maxHeartbeats 4000000 in
set_option maxRecDepth 100000 in
theorem kq_AckBook_Way_take_75 {b0 : Nat} {H0 : Heap} {D : va_G} {vu vs : Value} {X M : Nat} {l : Launch} (hT : z_TB (zGG b0 H0 D vu vs X M)) (hfl : l.flags = pinnedFlags ++ [noTraceFlag]) (hE : vu.isRef = true ∧ vs.isRef = true) {p : Program} {e : Env} {R : Room} {s : State} {m : MethodId} {args : Array Value} {below : List Frame} {meth : Method} {c : Code} {w0 : zW} {F : Nat} (hC : z_C (zGG b0 H0 D vu vs X M) p e s m meth c c_AckBook_Way_take 6 y_AckBook_Way_take.cls) (hr : meth.sig.returnType = (none)) (hRc : R.cells = w0.2.1) (hRs : R.slots = w0.2.2.1) (hFr : c.exceptionTable.toList = []) (hRt : R.frames = 1 ∧ R.locals = 28) (hnm : meth.name = y_AckBook_Way_take.name) (rL0 : Option Nat) (xS0 : Int32) (w : zW) (res : zO × zW) (h : q_AckBook_Way_take_75 F X rL0 xS0 w = some res) (H : Heap) (locs : List Loc) (cells slots : Nat) (ls : Array Slot) (hZ : z_Z (zGG b0 H0 D vu vs X M) R s w H locs cells slots) (hl : lv_has ls 6 [(0, va_rf rL0)]) : W p l e R s m args below meth c H locs cells slots (z_Q (zGG b0 H0 D vu vs X M) below s w0 res) (F0 m 75 ls [.int xS0]) := by
  unfold q_AckBook_Way_take_75 at h
  refine lv_istore (i := 4) (lv' := [(4, .int xS0), (0, va_rf rL0)]) hC.1 hC.2.1 d_AckBook_Way_take_75 hl (by decide) (by first | rfl | simp [z_rfc, z_ci, z_cj]) (fun ls hl => ?_)
  refine x_aload_n hC d_AckBook_Way_take_77 rfl (lv_at hl 1 rfl) ?_
  refine x_getI hC hZ zc7 h (by decide) t_197 (fun _ h9 => h9) d_AckBook_Way_take_78 (fun v1 h => ?_)
  refine lv_bipush (v := (8 : Int32)) hC.1 hC.2.1 d_AckBook_Way_take_81 (by decide) ?_
  refine lv_idiv hC.1 hC.2.1 d_AckBook_Way_take_83 (by decide) ?_
  refine lv_iload hC.1 hC.2.1 d_AckBook_Way_take_84 (lv_at hl 0 rfl) ?_
  refine lv_isub hC.1 hC.2.1 d_AckBook_Way_take_86 ?_
  refine va_mabs hC.1 hC.2.1 (hC.2.2.1.trans hl.1.symm) hC.2.2.2.1 ((hZ.1.tb hC.2.2.2.2.2.2 args) _ t_667) ((hZ.1.tb hC.2.2.2.2.2.2 args) _ t_668) ((hZ.1.tb hC.2.2.2.2.2.2 args) _ t_20) ((hZ.1.tb hC.2.2.2.2.2.2 args) _ t_669) (by rw [hRt.1]; decide) (by rw [hRt.2]; first | exact Nat.le_of_ble_eq_true rfl | simp [z_rfc, z_ci, z_cj]) (hZ.2.2.1 ▸ Nat.le_add_right _ _) (hZ.2.2.2 ▸ Nat.le_add_right _ _) d_AckBook_Way_take_87 ?_
  refine lv_istore (i := 5) (lv' := [(5, .int (if 0 ≤ ((v1 / (8 : Int32)) - xS0) then ((v1 / (8 : Int32)) - xS0) else 0 - ((v1 / (8 : Int32)) - xS0))), (4, .int xS0), (0, va_rf rL0)]) hC.1 hC.2.1 d_AckBook_Way_take_90 hl (by decide) (by first | rfl | simp [z_rfc, z_ci, z_cj]) (fun ls hl => ?_)
  refine x_aload_n hC d_AckBook_Way_take_92 rfl (lv_at hl 2 rfl) ?_
  refine lv_dup hC.1 hC.2.1 d_AckBook_Way_take_93 (z_rfc _) ?_
  refine x_getI hC hZ zc7 h (by decide) t_199 (fun _ h9 => h9) d_AckBook_Way_take_94 (fun v2 h => ?_)
  refine lv_iload hC.1 hC.2.1 d_AckBook_Way_take_97 (lv_at hl 0 rfl) ?_
  refine x_aload_n hC d_AckBook_Way_take_99 rfl (lv_at hl 2 rfl) ?_
  refine x_getI hC hZ zc7 h (by decide) t_199 (fun _ h9 => h9) d_AckBook_Way_take_100 (fun v3 h => ?_)
  refine lv_iconst (v := (4 : Int32)) hC.1 hC.2.1 d_AckBook_Way_take_103 (by decide) ?_
  refine lv_idiv hC.1 hC.2.1 d_AckBook_Way_take_104 (by decide) ?_
  refine lv_isub hC.1 hC.2.1 d_AckBook_Way_take_105 ?_
  refine lv_iadd hC.1 hC.2.1 d_AckBook_Way_take_106 ?_
  refine x_put hC hZ zc7 h (by decide) t_199 (fun _ h9 => h9) rfl rfl rfl rfl d_AckBook_Way_take_107 (fun w H locs hZ h => ?_)
  refine x_aload_n hC d_AckBook_Way_take_110 rfl (lv_at hl 2 rfl) ?_
  refine lv_dup hC.1 hC.2.1 d_AckBook_Way_take_111 (z_rfc _) ?_
  refine x_getI hC hZ zc7 h (by decide) t_197 (fun _ h9 => h9) d_AckBook_Way_take_112 (fun v4 h => ?_)
  refine lv_iload hC.1 hC.2.1 d_AckBook_Way_take_115 (lv_at hl 1 rfl) ?_
  refine x_aload_n hC d_AckBook_Way_take_117 rfl (lv_at hl 2 rfl) ?_
  refine x_getI hC hZ zc7 h (by decide) t_197 (fun _ h9 => h9) d_AckBook_Way_take_118 (fun v5 h => ?_)
  refine lv_bipush (v := (8 : Int32)) hC.1 hC.2.1 d_AckBook_Way_take_121 (by decide) ?_
  refine lv_idiv hC.1 hC.2.1 d_AckBook_Way_take_123 (by decide) ?_
  refine lv_isub hC.1 hC.2.1 d_AckBook_Way_take_124 ?_
  refine lv_iadd hC.1 hC.2.1 d_AckBook_Way_take_125 ?_
  refine x_put hC hZ zc7 h (by decide) t_197 (fun _ h9 => h9) rfl rfl rfl rfl d_AckBook_Way_take_126 (fun w H locs hZ h => ?_)
  exact x_vret hC hRc hRs hZ hr h d_AckBook_Way_take_129
def q_AckBook_Way_take_26 (F X : Nat) (rL0 : Option Nat) (xL1 : Int32) (xL2 : Int32) (xL3 : Int32) (rS0 : Option Nat) (xS1 : Int32) (w : zW) : zR :=
  z_put w 7 3 rS0 (.int xS1) fun w =>
  z_getI w 7 4 rL0 fun v6 =>
  if v6 = (-1 : Int32) then (
    z_put w 7 4 rL0 (.int xL3) fun w =>
    z_put w 7 0 rL0 (.int ((8 : Int32) * xL1)) fun w =>
    z_put w 7 1 rL0 (.int ((2 : Int32) * xL1)) fun w =>
    some (.inl none, w))
  else (
    z_getI w 7 3 rL0 fun v7 =>
    if xL1 < (v7 + xL2) then (
      q_AckBook_Way_take_75 F X rL0 xL1 w)
    else (
      q_AckBook_Way_take_75 F X rL0 (xL1 - xL2) w))
set_option maxHeartbeats 4000000 in
set_option maxRecDepth 100000 in
theorem kq_AckBook_Way_take_26 {b0 : Nat} {H0 : Heap} {D : va_G} {vu vs : Value} {X M : Nat} {l : Launch} (hT : z_TB (zGG b0 H0 D vu vs X M)) (hfl : l.flags = pinnedFlags ++ [noTraceFlag]) (hE : vu.isRef = true ∧ vs.isRef = true) {p : Program} {e : Env} {R : Room} {s : State} {m : MethodId} {args : Array Value} {below : List Frame} {meth : Method} {c : Code} {w0 : zW} {F : Nat} (hC : z_C (zGG b0 H0 D vu vs X M) p e s m meth c c_AckBook_Way_take 6 y_AckBook_Way_take.cls) (hr : meth.sig.returnType = (none)) (hRc : R.cells = w0.2.1) (hRs : R.slots = w0.2.2.1) (hFr : c.exceptionTable.toList = []) (hRt : R.frames = 1 ∧ R.locals = 28) (hnm : meth.name = y_AckBook_Way_take.name) (rL0 : Option Nat) (xL1 : Int32) (xL2 : Int32) (xL3 : Int32) (rS0 : Option Nat) (xS1 : Int32) (w : zW) (res : zO × zW) (h : q_AckBook_Way_take_26 F X rL0 xL1 xL2 xL3 rS0 xS1 w = some res) (H : Heap) (locs : List Loc) (cells slots : Nat) (ls : Array Slot) (hZ : z_Z (zGG b0 H0 D vu vs X M) R s w H locs cells slots) (hl : lv_has ls 6 [(0, va_rf rL0), (1, .int xL1), (2, .int xL2), (3, .int xL3)]) : W p l e R s m args below meth c H locs cells slots (z_Q (zGG b0 H0 D vu vs X M) below s w0 res) (F0 m 26 ls [.int xS1, va_rf rS0]) := by
  unfold q_AckBook_Way_take_26 at h
  refine x_put hC hZ zc7 h (by decide) t_203 (fun _ h9 => h9) rfl rfl rfl rfl d_AckBook_Way_take_26 (fun w H locs hZ h => ?_)
  refine x_aload_n hC d_AckBook_Way_take_29 rfl (lv_at hl 0 rfl) ?_
  refine x_getI hC hZ zc7 h (by decide) t_205 (fun _ h9 => h9) d_AckBook_Way_take_30 (fun v6 h => ?_)
  refine lv_iconst (v := (-1 : Int32)) hC.1 hC.2.1 d_AckBook_Way_take_33 (by decide) ?_
  refine lv_icmp_ne (tgt := 58) hC.1 hC.2.1 d_AckBook_Way_take_34 (by decide) (fun hc => ?_) (fun hc => ?_)
  · have h := z_ifn hc h
    refine lv_iload_n hC.1 hC.2.1 d_AckBook_Way_take_58 rfl (lv_at hl 1 rfl) ?_
    refine x_aload_n hC d_AckBook_Way_take_59 rfl (lv_at hl 0 rfl) ?_
    refine x_getI hC hZ zc7 h (by decide) t_203 (fun _ h9 => h9) d_AckBook_Way_take_60 (fun v7 h => ?_)
    refine lv_iload_n hC.1 hC.2.1 d_AckBook_Way_take_63 rfl (lv_at hl 2 rfl) ?_
    refine lv_iadd hC.1 hC.2.1 d_AckBook_Way_take_64 ?_
    refine lv_icmp_lt (tgt := 74) hC.1 hC.2.1 d_AckBook_Way_take_65 (by decide) (fun hc => ?_) (fun hc => ?_)
    · have h := z_ifp hc h
      refine lv_iload_n hC.1 hC.2.1 d_AckBook_Way_take_74 rfl (lv_at hl 1 rfl) ?_
      exact kq_AckBook_Way_take_75 hT hfl hE hC hr hRc hRs hFr hRt hnm _ _ _ _ h _ _ _ _ _ hZ (lv_sub hl [0] rfl)
    · have h := z_ifn hc h
      refine lv_iload_n hC.1 hC.2.1 d_AckBook_Way_take_68 rfl (lv_at hl 1 rfl) ?_
      refine lv_iload_n hC.1 hC.2.1 d_AckBook_Way_take_69 rfl (lv_at hl 2 rfl) ?_
      refine lv_isub hC.1 hC.2.1 d_AckBook_Way_take_70 ?_
      refine lv_goto (tgt := 75) hC.1 hC.2.1 d_AckBook_Way_take_71 (by decide) ?_
      exact kq_AckBook_Way_take_75 hT hfl hE hC hr hRc hRs hFr hRt hnm _ _ _ _ h _ _ _ _ _ hZ (lv_sub hl [0] rfl)
  · have h := z_ifp hc h
    refine x_aload_n hC d_AckBook_Way_take_37 rfl (lv_at hl 0 rfl) ?_
    refine lv_iload_n hC.1 hC.2.1 d_AckBook_Way_take_38 rfl (lv_at hl 3 rfl) ?_
    refine x_put hC hZ zc7 h (by decide) t_205 (fun _ h9 => h9) rfl rfl rfl rfl d_AckBook_Way_take_39 (fun w H locs hZ h => ?_)
    refine x_aload_n hC d_AckBook_Way_take_42 rfl (lv_at hl 0 rfl) ?_
    refine lv_bipush (v := (8 : Int32)) hC.1 hC.2.1 d_AckBook_Way_take_43 (by decide) ?_
    refine lv_iload_n hC.1 hC.2.1 d_AckBook_Way_take_45 rfl (lv_at hl 1 rfl) ?_
    refine lv_imul hC.1 hC.2.1 d_AckBook_Way_take_46 ?_
    refine x_put hC hZ zc7 h (by decide) t_197 (fun _ h9 => h9) rfl rfl rfl rfl d_AckBook_Way_take_47 (fun w H locs hZ h => ?_)
    refine x_aload_n hC d_AckBook_Way_take_50 rfl (lv_at hl 0 rfl) ?_
    refine lv_iconst (v := (2 : Int32)) hC.1 hC.2.1 d_AckBook_Way_take_51 (by decide) ?_
    refine lv_iload_n hC.1 hC.2.1 d_AckBook_Way_take_52 rfl (lv_at hl 1 rfl) ?_
    refine lv_imul hC.1 hC.2.1 d_AckBook_Way_take_53 ?_
    refine x_put hC hZ zc7 h (by decide) t_199 (fun _ h9 => h9) rfl rfl rfl rfl d_AckBook_Way_take_54 (fun w H locs hZ h => ?_)
    exact x_vret hC hRc hRs hZ hr h d_AckBook_Way_take_57
def f_AckBook_Way_take (F X : Nat) (a0 : Option Nat) (pI1 : Int32) (pI2 : Int32) (pI3 : Int32) (w : zW) : zR :=
  z_put w 7 2 a0 (.int pI1) fun w =>
  z_getI w 7 3 a0 fun v8 =>
  if v8 = (-1 : Int32) then (
    q_AckBook_Way_take_26 F X a0 pI1 pI2 pI3 a0 pI1 w)
  else (
    z_getI w 7 3 a0 fun v9 =>
    q_AckBook_Way_take_26 F X a0 pI1 pI2 pI3 a0 (if pI1 < v9 then pI1 else v9) w)
set_option maxHeartbeats 4000000 in
set_option maxRecDepth 100000 in
theorem k_AckBook_Way_take {b0 : Nat} {H0 : Heap} {D : va_G} {vu vs : Value} {X M : Nat} {l : Launch} (hT : z_TB (zGG b0 H0 D vu vs X M)) (hfl : l.flags = pinnedFlags ++ [noTraceFlag]) (hE : vu.isRef = true ∧ vs.isRef = true) {a0 : Option Nat} {pI1 : Int32} {pI2 : Int32} {pI3 : Int32} (F : Nat) {w : zW} (res : zO × zW) (h : f_AckBook_Way_take F X a0 pI1 pI2 pI3 w = some res) : z_Ct (zGG b0 H0 D vu vs X M) l y_AckBook_Way_take (.code y_AckBook_Way_take c_AckBook_Way_take 6 (none)) 1 28 [va_rf a0, .int pI1, .int pI2, .int pI3] w res := by
  refine z_ct hT hfl (by decide) (by simp only [z_sl_i, z_sl_j, z_sl_r, z_sl_n]; decide) ?_
  intro p e R s m args below meth c hC hr hRc hRs hRt hnm hFr H ls hZ hl
  simp only [z_la_i, z_la_j, z_la_r, z_la_n] at hl
  have hl : lv_has ls 6 [(0, va_rf a0), (1, .int pI1), (2, .int pI2), (3, .int pI3)] := hl
  unfold f_AckBook_Way_take at h
  refine x_aload_n hC d_AckBook_Way_take_0 rfl (lv_at hl 0 rfl) ?_
  refine lv_iload_n hC.1 hC.2.1 d_AckBook_Way_take_1 rfl (lv_at hl 1 rfl) ?_
  refine x_put hC hZ zc7 h (by decide) t_201 (fun _ h9 => h9) rfl rfl rfl rfl d_AckBook_Way_take_2 (fun w H locs hZ h => ?_)
  refine x_aload_n hC d_AckBook_Way_take_5 rfl (lv_at hl 0 rfl) ?_
  refine x_aload_n hC d_AckBook_Way_take_6 rfl (lv_at hl 0 rfl) ?_
  refine x_getI hC hZ zc7 h (by decide) t_203 (fun _ h9 => h9) d_AckBook_Way_take_7 (fun v8 h => ?_)
  refine lv_iconst (v := (-1 : Int32)) hC.1 hC.2.1 d_AckBook_Way_take_10 (by decide) ?_
  refine lv_icmp_ne (tgt := 18) hC.1 hC.2.1 d_AckBook_Way_take_11 (by decide) (fun hc => ?_) (fun hc => ?_)
  · have h := z_ifn hc h
    refine x_aload_n hC d_AckBook_Way_take_18 rfl (lv_at hl 0 rfl) ?_
    refine x_getI hC hZ zc7 h (by decide) t_203 (fun _ h9 => h9) d_AckBook_Way_take_19 (fun v9 h => ?_)
    refine lv_iload_n hC.1 hC.2.1 d_AckBook_Way_take_22 rfl (lv_at hl 1 rfl) ?_
    refine va_mmin hC.1 hC.2.1 (hC.2.2.1.trans hl.1.symm) hC.2.2.2.1 ((hZ.1.tb hC.2.2.2.2.2.2 args) _ t_666) ((hZ.1.tb hC.2.2.2.2.2.2 args) _ t_361) ((hZ.1.tb hC.2.2.2.2.2.2 args) _ t_20) ((hZ.1.tb hC.2.2.2.2.2.2 args) _ t_362) (by rw [hRt.1]; decide) (by rw [hRt.2]; first | exact Nat.le_of_ble_eq_true rfl | simp [z_rfc, z_ci, z_cj]) (hZ.2.2.1 ▸ Nat.le_add_right _ _) (hZ.2.2.2 ▸ Nat.le_add_right _ _) d_AckBook_Way_take_23 ?_
    exact kq_AckBook_Way_take_26 hT hfl hE hC hr hRc hRs hFr hRt hnm _ _ _ _ _ _ _ _ h _ _ _ _ _ hZ (lv_sub hl [0, 1, 2, 3] rfl)
  · have h := z_ifp hc h
    refine lv_iload_n hC.1 hC.2.1 d_AckBook_Way_take_14 rfl (lv_at hl 1 rfl) ?_
    refine lv_goto (tgt := 26) hC.1 hC.2.1 d_AckBook_Way_take_15 (by decide) ?_
    exact kq_AckBook_Way_take_26 hT hfl hE hC hr hRc hRs hFr hRt hnm _ _ _ _ _ _ _ _ h _ _ _ _ _ hZ (lv_sub hl [0, 1, 2, 3] rfl)
def q_AckBook_Flow_grow_19 (F X : Nat) (rL0 : Option Nat) (xL1 : Int32) (w : zW) : zR :=
  z_getI w 8 1 rL0 fun v1 =>
  z_put w 8 1 rL0 (.int (v1 + xL1)) fun w =>
  some (.inl none, w)
set_option maxHeartbeats 4000000 in
set_option maxRecDepth 100000 in
theorem kq_AckBook_Flow_grow_19 {b0 : Nat} {H0 : Heap} {D : va_G} {vu vs : Value} {X M : Nat} {l : Launch} (hT : z_TB (zGG b0 H0 D vu vs X M)) (hfl : l.flags = pinnedFlags ++ [noTraceFlag]) (hE : vu.isRef = true ∧ vs.isRef = true) {p : Program} {e : Env} {R : Room} {s : State} {m : MethodId} {args : Array Value} {below : List Frame} {meth : Method} {c : Code} {w0 : zW} {F : Nat} (hC : z_C (zGG b0 H0 D vu vs X M) p e s m meth c c_AckBook_Flow_grow 2 y_AckBook_Flow_grow.cls) (hr : meth.sig.returnType = (none)) (hRc : R.cells = w0.2.1) (hRs : R.slots = w0.2.2.1) (hFr : c.exceptionTable.toList = []) (hRt : R.frames = 0 ∧ R.locals = 0) (hnm : meth.name = y_AckBook_Flow_grow.name) (rL0 : Option Nat) (xL1 : Int32) (w : zW) (res : zO × zW) (h : q_AckBook_Flow_grow_19 F X rL0 xL1 w = some res) (H : Heap) (locs : List Loc) (cells slots : Nat) (ls : Array Slot) (hZ : z_Z (zGG b0 H0 D vu vs X M) R s w H locs cells slots) (hl : lv_has ls 2 [(0, va_rf rL0), (1, .int xL1)]) : W p l e R s m args below meth c H locs cells slots (z_Q (zGG b0 H0 D vu vs X M) below s w0 res) (F0 m 19 ls []) := by
  unfold q_AckBook_Flow_grow_19 at h
  refine x_aload_n hC d_AckBook_Flow_grow_19 rfl (lv_at hl 0 rfl) ?_
  refine lv_dup hC.1 hC.2.1 d_AckBook_Flow_grow_20 (z_rfc _) ?_
  refine x_getI hC hZ zc8 h (by decide) t_226 (fun _ h9 => h9) d_AckBook_Flow_grow_21 (fun v1 h => ?_)
  refine lv_iload_n hC.1 hC.2.1 d_AckBook_Flow_grow_24 rfl (lv_at hl 1 rfl) ?_
  refine lv_iadd hC.1 hC.2.1 d_AckBook_Flow_grow_25 ?_
  refine x_put hC hZ zc8 h (by decide) t_226 (fun _ h9 => h9) rfl rfl rfl rfl d_AckBook_Flow_grow_26 (fun w H locs hZ h => ?_)
  refine lv_goto (tgt := 58) hC.1 hC.2.1 d_AckBook_Flow_grow_29 (by decide) ?_
  exact x_vret hC hRc hRs hZ hr h d_AckBook_Flow_grow_58
def f_AckBook_Flow_grow (F X : Nat) (a0 : Option Nat) (pI1 : Int32) (w : zW) : zR :=
  z_getI w 8 2 a0 fun v2 =>
  if v2 = (-1 : Int32) then (
    q_AckBook_Flow_grow_19 F X a0 pI1 w)
  else (
    z_getI w 8 1 a0 fun v3 =>
    z_getI w 8 2 a0 fun v4 =>
    if v4 ≤ v3 then (
      z_getI w 8 1 a0 fun v5 =>
      if v5 ≤ 0 then (
        some (.inl none, w))
      else (
        z_getI w 8 1 a0 fun v6 =>
        z_getI w 8 1 a0 fun v7 =>
        z_nz (v7 = 0) <|
        z_put w 8 1 a0 (.int (v6 + (((1200 : Int32) * pI1) / v7))) fun w =>
        some (.inl none, w)))
    else (
      q_AckBook_Flow_grow_19 F X a0 pI1 w))
set_option maxHeartbeats 4000000 in
set_option maxRecDepth 100000 in
theorem k_AckBook_Flow_grow {b0 : Nat} {H0 : Heap} {D : va_G} {vu vs : Value} {X M : Nat} {l : Launch} (hT : z_TB (zGG b0 H0 D vu vs X M)) (hfl : l.flags = pinnedFlags ++ [noTraceFlag]) (hE : vu.isRef = true ∧ vs.isRef = true) {a0 : Option Nat} {pI1 : Int32} (F : Nat) {w : zW} (res : zO × zW) (h : f_AckBook_Flow_grow F X a0 pI1 w = some res) : z_Ct (zGG b0 H0 D vu vs X M) l y_AckBook_Flow_grow (.code y_AckBook_Flow_grow c_AckBook_Flow_grow 2 (none)) 0 0 [va_rf a0, .int pI1] w res := by
  refine z_ct hT hfl (by decide) (by simp only [z_sl_i, z_sl_j, z_sl_r, z_sl_n]; decide) ?_
  intro p e R s m args below meth c hC hr hRc hRs hRt hnm hFr H ls hZ hl
  simp only [z_la_i, z_la_j, z_la_r, z_la_n] at hl
  have hl : lv_has ls 2 [(0, va_rf a0), (1, .int pI1)] := hl
  unfold f_AckBook_Flow_grow at h
  refine x_aload_n hC d_AckBook_Flow_grow_0 rfl (lv_at hl 0 rfl) ?_
  refine x_getI hC hZ zc8 h (by decide) t_228 (fun _ h9 => h9) d_AckBook_Flow_grow_1 (fun v2 h => ?_)
  refine lv_iconst (v := (-1 : Int32)) hC.1 hC.2.1 d_AckBook_Flow_grow_4 (by decide) ?_
  refine lv_icmp_eq (tgt := 19) hC.1 hC.2.1 d_AckBook_Flow_grow_5 (by decide) (fun hc => ?_) (fun hc => ?_)
  · have h := z_ifp hc h
    exact kq_AckBook_Flow_grow_19 hT hfl hE hC hr hRc hRs hFr hRt hnm _ _ _ _ h _ _ _ _ _ hZ (lv_sub hl [0, 1] rfl)
  · have h := z_ifn hc h
    refine x_aload_n hC d_AckBook_Flow_grow_8 rfl (lv_at hl 0 rfl) ?_
    refine x_getI hC hZ zc8 h (by decide) t_226 (fun _ h9 => h9) d_AckBook_Flow_grow_9 (fun v3 h => ?_)
    refine x_aload_n hC d_AckBook_Flow_grow_12 rfl (lv_at hl 0 rfl) ?_
    refine x_getI hC hZ zc8 h (by decide) t_228 (fun _ h9 => h9) d_AckBook_Flow_grow_13 (fun v4 h => ?_)
    refine lv_icmp_ge (tgt := 32) hC.1 hC.2.1 d_AckBook_Flow_grow_16 (by decide) (fun hc => ?_) (fun hc => ?_)
    · have h := z_ifp hc h
      refine x_aload_n hC d_AckBook_Flow_grow_32 rfl (lv_at hl 0 rfl) ?_
      refine x_getI hC hZ zc8 h (by decide) t_226 (fun _ h9 => h9) d_AckBook_Flow_grow_33 (fun v5 h => ?_)
      refine lv_if_le (tgt := 58) hC.1 hC.2.1 d_AckBook_Flow_grow_36 (by decide) (fun hc => ?_) (fun hc => ?_)
      · have h := z_ifp hc h
        exact x_vret hC hRc hRs hZ hr h d_AckBook_Flow_grow_58
      · have h := z_ifn hc h
        refine x_aload_n hC d_AckBook_Flow_grow_39 rfl (lv_at hl 0 rfl) ?_
        refine lv_dup hC.1 hC.2.1 d_AckBook_Flow_grow_40 (z_rfc _) ?_
        refine x_getI hC hZ zc8 h (by decide) t_226 (fun _ h9 => h9) d_AckBook_Flow_grow_41 (fun v6 h => ?_)
        refine lv_sipush (v := (1200 : Int32)) hC.1 hC.2.1 d_AckBook_Flow_grow_44 (by decide) ?_
        refine lv_iload_n hC.1 hC.2.1 d_AckBook_Flow_grow_47 rfl (lv_at hl 1 rfl) ?_
        refine lv_imul hC.1 hC.2.1 d_AckBook_Flow_grow_48 ?_
        refine x_aload_n hC d_AckBook_Flow_grow_49 rfl (lv_at hl 0 rfl) ?_
        refine x_getI hC hZ zc8 h (by decide) t_226 (fun _ h9 => h9) d_AckBook_Flow_grow_50 (fun v7 h => ?_)
        obtain ⟨hz8, h⟩ := z_nz_spec h
        refine lv_idiv hC.1 hC.2.1 d_AckBook_Flow_grow_53 hz8 ?_
        refine lv_iadd hC.1 hC.2.1 d_AckBook_Flow_grow_54 ?_
        refine x_put hC hZ zc8 h (by decide) t_226 (fun _ h9 => h9) rfl rfl rfl rfl d_AckBook_Flow_grow_55 (fun w H locs hZ h => ?_)
        exact x_vret hC hRc hRs hZ hr h d_AckBook_Flow_grow_58
    · have h := z_ifn hc h
      exact kq_AckBook_Flow_grow_19 hT hfl hE hC hr hRc hRs hFr hRt hnm _ _ _ _ h _ _ _ _ _ hZ (lv_sub hl [0, 1] rfl)
def j_AckBook_Flow_leaveAcknowledged (F X : Nat) : Nat → Option Nat → Int32 → Option Nat → zW → zR
  | 0, _, _, _, _ => none
  | N + 1, rL0, xL2, rL3, w =>
    if rL3 = none then (
      some (.inl (some (.int xL2)), w))
    else (
      z_this w 8 rL0 <|
      z_cV (f_AckBook_Flow_leave F X rL0 rL3 w) fun w =>
      z_getI w 9 4 rL3 fun v2 =>
      if v2 = 0 then (
        z_getR w 9 7 rL3 fun r3 =>
        (j_AckBook_Flow_leaveAcknowledged F X N) rL0 (xL2 + (1 : Int32)) r3 w)
      else (
        z_getI w 9 5 rL3 fun v4 =>
        if v4 = 0 then (
          z_getR w 9 7 rL3 fun r5 =>
          (j_AckBook_Flow_leaveAcknowledged F X N) rL0 (xL2 + (1 : Int32)) r5 w)
        else (
          z_this w 8 rL0 <|
          z_cI (f_AckBook_Flow_isAfterRecovery F X rL0 rL3 w) fun v7 w =>
          if v7 = 0 then (
            z_getR w 9 7 rL3 fun r8 =>
            (j_AckBook_Flow_leaveAcknowledged F X N) rL0 (xL2 + (1 : Int32)) r8 w)
          else (
            z_getI w 9 1 rL3 fun v9 =>
            z_this w 8 rL0 <|
            z_cV (f_AckBook_Flow_grow F X rL0 v9 w) fun w =>
            z_getR w 9 7 rL3 fun r11 =>
            (j_AckBook_Flow_leaveAcknowledged F X N) rL0 (xL2 + (1 : Int32)) r11 w))))
set_option maxHeartbeats 4000000 in
set_option maxRecDepth 100000 in
theorem kj_AckBook_Flow_leaveAcknowledged {b0 : Nat} {H0 : Heap} {D : va_G} {vu vs : Value} {X M : Nat} {l : Launch} (hT : z_TB (zGG b0 H0 D vu vs X M)) (hfl : l.flags = pinnedFlags ++ [noTraceFlag]) (hE : vu.isRef = true ∧ vs.isRef = true) {p : Program} {e : Env} {R : Room} {s : State} {m : MethodId} {args : Array Value} {below : List Frame} {meth : Method} {c : Code} {w0 : zW} {F : Nat} (hC : z_C (zGG b0 H0 D vu vs X M) p e s m meth c c_AckBook_Flow_leaveAcknowledged 4 y_AckBook_Flow_leaveAcknowledged.cls) (hr : meth.sig.returnType = (some FieldType.int)) (hRc : R.cells = w0.2.1) (hRs : R.slots = w0.2.2.1) (hFr : c.exceptionTable.toList = []) (hRt : R.frames = 1 ∧ R.locals = 21) (hnm : meth.name = y_AckBook_Flow_leaveAcknowledged.name) : ∀ N : Nat, (∀ (rL0 : Option Nat) (xL2 : Int32) (rL3 : Option Nat) (w : zW) (res : zO × zW), j_AckBook_Flow_leaveAcknowledged F X N rL0 xL2 rL3 w = some res → ∀ (H : Heap) (locs : List Loc) (cells slots : Nat) (ls : Array Slot), z_Z (zGG b0 H0 D vu vs X M) R s w H locs cells slots → lv_has ls 4 [(0, va_rf rL0), (2, .int xL2), (3, va_rf rL3)] → W p l e R s m args below meth c H locs cells slots (z_Q (zGG b0 H0 D vu vs X M) below s w0 res) (F0 m 4 ls [])) := by
  intro N
  induction N with
  | zero =>
    intro rL0 xL2 rL3 w res h
    rw [j_AckBook_Flow_leaveAcknowledged] at h
    cases h
  | succ N ih =>
    intro rL0 xL2 rL3 w res h H locs cells slots ls hZ hl
    rw [j_AckBook_Flow_leaveAcknowledged] at h
    refine x_aload_n hC d_AckBook_Flow_leaveAcknowledged_4 rfl (lv_at hl 2 rfl) ?_
    refine x_ifnull (tgt := 54) hC d_AckBook_Flow_leaveAcknowledged_5 (by decide) (fun hc => ?_) (fun hc => ?_)
    · have h := z_ifp hc h
      refine lv_iload_n hC.1 hC.2.1 d_AckBook_Flow_leaveAcknowledged_54 rfl (lv_at hl 1 rfl) ?_
      exact x_iret hC hRc hRs hZ hr rfl h d_AckBook_Flow_leaveAcknowledged_55
    · have h := z_ifn hc h
      refine lv_iinc (lv' := [(2, .int (xL2 + (1 : Int32))), (0, va_rf rL0), (3, va_rf rL3)]) hC.1 hC.2.1 d_AckBook_Flow_leaveAcknowledged_8 hl (k := 1) rfl rfl (by decide) (by first | rfl | simp [z_rfc, z_ci, z_cj]) (fun ls hl => ?_)
      refine x_aload_n hC d_AckBook_Flow_leaveAcknowledged_11 rfl (lv_at hl 1 rfl) ?_
      refine x_aload_n hC d_AckBook_Flow_leaveAcknowledged_12 rfl (lv_at hl 2 rfl) ?_
      obtain ⟨a_, fs_, eo_, h⟩ := z_this_spec h
      obtain ⟨w1_, o1_, hF_, ha_⟩ := z_cV_spec h
      refine x_goes hC hRc hRs hFr ha_ (z_goV (As := [va_rf rL3]) hC hZ zc8 eo_ (k_AckBook_Flow_leave hT hfl hE _ _ hF_) t_339 t_340 t_341 t_11 t_342 ⟨by decide, by decide, (by decide +kernel : (parseMethodDescriptor y_AckBook_Flow_leave.desc).map (fun d => d.parameters.length) = some 1)⟩ (by rw [hRt.1]; decide) (by rw [hRt.2]; decide) hl.1 rfl (by first | exact Nat.le_of_ble_eq_true rfl | simp [z_rfc, z_ci, z_cj]) d_AckBook_Flow_leaveAcknowledged_13) (fun v_ hv H locs cells slots hZ => ?_)
      obtain ⟨rfl, h⟩ := hv
      generalize w1_ = w at h hZ
      refine x_aload_n hC d_AckBook_Flow_leaveAcknowledged_16 rfl (lv_at hl 2 rfl) ?_
      refine x_getI hC hZ zc9 h (by decide) t_498 (fun _ h9 => h9) d_AckBook_Flow_leaveAcknowledged_17 (fun v2 h => ?_)
      refine lv_if_eq (tgt := 46) hC.1 hC.2.1 d_AckBook_Flow_leaveAcknowledged_20 (by decide) (fun hc => ?_) (fun hc => ?_)
      · have h := z_ifp hc h
        refine x_aload_n hC d_AckBook_Flow_leaveAcknowledged_46 rfl (lv_at hl 2 rfl) ?_
        refine x_getR hC hZ zc9 h (by decide) t_504 (fun _ h9 => h9) d_AckBook_Flow_leaveAcknowledged_47 (fun r3 h => ?_)
        refine x_astore_n (i := 3) (lv' := [(3, va_rf r3), (2, .int (xL2 + (1 : Int32))), (0, va_rf rL0)]) hC d_AckBook_Flow_leaveAcknowledged_50 rfl hl (by decide) (by first | rfl | simp [z_rfc, z_ci, z_cj]) (fun ls hl => ?_)
        refine lv_goto (tgt := 4) hC.1 hC.2.1 d_AckBook_Flow_leaveAcknowledged_51 (by decide) ?_
        exact ih _ _ _ _ _ h _ _ _ _ _ hZ (lv_sub hl [2, 1, 0] rfl)
      · have h := z_ifn hc h
        refine x_aload_n hC d_AckBook_Flow_leaveAcknowledged_23 rfl (lv_at hl 2 rfl) ?_
        refine x_getI hC hZ zc9 h (by decide) t_499 (fun _ h9 => h9) d_AckBook_Flow_leaveAcknowledged_24 (fun v4 h => ?_)
        refine lv_if_eq (tgt := 46) hC.1 hC.2.1 d_AckBook_Flow_leaveAcknowledged_27 (by decide) (fun hc => ?_) (fun hc => ?_)
        · have h := z_ifp hc h
          refine x_aload_n hC d_AckBook_Flow_leaveAcknowledged_46 rfl (lv_at hl 2 rfl) ?_
          refine x_getR hC hZ zc9 h (by decide) t_504 (fun _ h9 => h9) d_AckBook_Flow_leaveAcknowledged_47 (fun r5 h => ?_)
          refine x_astore_n (i := 3) (lv' := [(3, va_rf r5), (2, .int (xL2 + (1 : Int32))), (0, va_rf rL0)]) hC d_AckBook_Flow_leaveAcknowledged_50 rfl hl (by decide) (by first | rfl | simp [z_rfc, z_ci, z_cj]) (fun ls hl => ?_)
          refine lv_goto (tgt := 4) hC.1 hC.2.1 d_AckBook_Flow_leaveAcknowledged_51 (by decide) ?_
          exact ih _ _ _ _ _ h _ _ _ _ _ hZ (lv_sub hl [2, 1, 0] rfl)
        · have h := z_ifn hc h
          refine x_aload_n hC d_AckBook_Flow_leaveAcknowledged_30 rfl (lv_at hl 1 rfl) ?_
          refine x_aload_n hC d_AckBook_Flow_leaveAcknowledged_31 rfl (lv_at hl 2 rfl) ?_
          obtain ⟨a_, fs_, eo_, h⟩ := z_this_spec h
          obtain ⟨w1_, o1_, hF_, ha_⟩ := z_cI_spec h
          refine x_goes hC hRc hRs hFr ha_ (z_goV (As := [va_rf rL3]) hC hZ zc8 eo_ (k_AckBook_Flow_isAfterRecovery hT hfl hE _ _ hF_) t_343 t_345 ts_AckBook_Flow_isAfterRecovery t_11 t_346 ⟨by decide, by decide, (by decide +kernel : (parseMethodDescriptor y_AckBook_Flow_isAfterRecovery.desc).map (fun d => d.parameters.length) = some 1)⟩ (by rw [hRt.1]; decide) (by rw [hRt.2]; decide) hl.1 rfl (by first | exact Nat.le_of_ble_eq_true rfl | simp [z_rfc, z_ci, z_cj]) d_AckBook_Flow_leaveAcknowledged_32) (fun v_ hv H locs cells slots hZ => ?_)
          obtain ⟨v7, rfl, h⟩ := hv
          generalize w1_ = w at h hZ
          refine lv_if_eq (tgt := 46) hC.1 hC.2.1 d_AckBook_Flow_leaveAcknowledged_35 (by decide) (fun hc => ?_) (fun hc => ?_)
          · have h := z_ifp hc h
            refine x_aload_n hC d_AckBook_Flow_leaveAcknowledged_46 rfl (lv_at hl 2 rfl) ?_
            refine x_getR hC hZ zc9 h (by decide) t_504 (fun _ h9 => h9) d_AckBook_Flow_leaveAcknowledged_47 (fun r8 h => ?_)
            refine x_astore_n (i := 3) (lv' := [(3, va_rf r8), (2, .int (xL2 + (1 : Int32))), (0, va_rf rL0)]) hC d_AckBook_Flow_leaveAcknowledged_50 rfl hl (by decide) (by first | rfl | simp [z_rfc, z_ci, z_cj]) (fun ls hl => ?_)
            refine lv_goto (tgt := 4) hC.1 hC.2.1 d_AckBook_Flow_leaveAcknowledged_51 (by decide) ?_
            exact ih _ _ _ _ _ h _ _ _ _ _ hZ (lv_sub hl [2, 1, 0] rfl)
          · have h := z_ifn hc h
            refine x_aload_n hC d_AckBook_Flow_leaveAcknowledged_38 rfl (lv_at hl 1 rfl) ?_
            refine x_aload_n hC d_AckBook_Flow_leaveAcknowledged_39 rfl (lv_at hl 2 rfl) ?_
            refine x_getI hC hZ zc9 h (by decide) t_489 (fun _ h9 => h9) d_AckBook_Flow_leaveAcknowledged_40 (fun v9 h => ?_)
            obtain ⟨a_, fs_, eo_, h⟩ := z_this_spec h
            obtain ⟨w1_, o1_, hF_, ha_⟩ := z_cV_spec h
            refine x_goes hC hRc hRs hFr ha_ (z_goV (As := [.int v9]) hC hZ zc8 eo_ (k_AckBook_Flow_grow hT hfl hE _ _ hF_) t_674 t_676 ts_AckBook_Flow_grow t_11 t_677 ⟨by decide, by decide, (by decide +kernel : (parseMethodDescriptor y_AckBook_Flow_grow.desc).map (fun d => d.parameters.length) = some 1)⟩ (by rw [hRt.1]; decide) (by rw [hRt.2]; decide) hl.1 rfl (by first | exact Nat.le_of_ble_eq_true rfl | simp [z_rfc, z_ci, z_cj]) d_AckBook_Flow_leaveAcknowledged_43) (fun v_ hv H locs cells slots hZ => ?_)
            obtain ⟨rfl, h⟩ := hv
            generalize w1_ = w at h hZ
            refine x_aload_n hC d_AckBook_Flow_leaveAcknowledged_46 rfl (lv_at hl 2 rfl) ?_
            refine x_getR hC hZ zc9 h (by decide) t_504 (fun _ h9 => h9) d_AckBook_Flow_leaveAcknowledged_47 (fun r11 h => ?_)
            refine x_astore_n (i := 3) (lv' := [(3, va_rf r11), (2, .int (xL2 + (1 : Int32))), (0, va_rf rL0)]) hC d_AckBook_Flow_leaveAcknowledged_50 rfl hl (by decide) (by first | rfl | simp [z_rfc, z_ci, z_cj]) (fun ls hl => ?_)
            refine lv_goto (tgt := 4) hC.1 hC.2.1 d_AckBook_Flow_leaveAcknowledged_51 (by decide) ?_
            exact ih _ _ _ _ _ h _ _ _ _ _ hZ (lv_sub hl [2, 1, 0] rfl)
def f_AckBook_Flow_leaveAcknowledged (F X : Nat) (a0 : Option Nat) (pR1 : Option Nat) (w : zW) : zR :=
  (j_AckBook_Flow_leaveAcknowledged F X F) a0 (0 : Int32) pR1 w
set_option maxHeartbeats 4000000 in
set_option maxRecDepth 100000 in
theorem k_AckBook_Flow_leaveAcknowledged {b0 : Nat} {H0 : Heap} {D : va_G} {vu vs : Value} {X M : Nat} {l : Launch} (hT : z_TB (zGG b0 H0 D vu vs X M)) (hfl : l.flags = pinnedFlags ++ [noTraceFlag]) (hE : vu.isRef = true ∧ vs.isRef = true) {a0 : Option Nat} {pR1 : Option Nat} (F : Nat) {w : zW} (res : zO × zW) (h : f_AckBook_Flow_leaveAcknowledged F X a0 pR1 w = some res) : z_Ct (zGG b0 H0 D vu vs X M) l y_AckBook_Flow_leaveAcknowledged (.code y_AckBook_Flow_leaveAcknowledged c_AckBook_Flow_leaveAcknowledged 4 (some FieldType.int)) 1 21 [va_rf a0, va_rf pR1] w res := by
  refine z_ct hT hfl (by decide) (by simp only [z_sl_i, z_sl_j, z_sl_r, z_sl_n]; decide) ?_
  intro p e R s m args below meth c hC hr hRc hRs hRt hnm hFr H ls hZ hl
  simp only [z_la_i, z_la_j, z_la_r, z_la_n] at hl
  have hl : lv_has ls 4 [(0, va_rf a0), (1, va_rf pR1)] := hl
  unfold f_AckBook_Flow_leaveAcknowledged at h
  refine lv_iconst (v := (0 : Int32)) hC.1 hC.2.1 d_AckBook_Flow_leaveAcknowledged_0 (by decide) ?_
  refine lv_istore_n (i := 2) (lv' := [(2, .int (0 : Int32)), (0, va_rf a0), (1, va_rf pR1)]) hC.1 hC.2.1 d_AckBook_Flow_leaveAcknowledged_1 rfl hl (by decide) (by first | rfl | simp [z_rfc, z_ci, z_cj]) (fun ls hl => ?_)
  refine x_aload_n hC d_AckBook_Flow_leaveAcknowledged_2 rfl (lv_at hl 2 rfl) ?_
  refine x_astore_n (i := 3) (lv' := [(3, va_rf pR1), (2, .int (0 : Int32)), (0, va_rf a0), (1, va_rf pR1)]) hC d_AckBook_Flow_leaveAcknowledged_3 rfl hl (by decide) (by first | rfl | simp [z_rfc, z_ci, z_cj]) (fun ls hl => ?_)
  exact (kj_AckBook_Flow_leaveAcknowledged hT hfl hE hC hr hRc hRs hFr hRt hnm F) _ _ _ _ _ h _ _ _ _ _ hZ (lv_sub hl [2, 1, 0] rfl)
def q_AckBook_settle_100 (F X : Nat) (rL0 : Option Nat) (rL1 : Option Nat) (rL5 : Option Nat) (w : zW) : zR :=
  z_getR w 0 3 rL0 fun r1 =>
  z_this w 8 r1 <|
  z_cI (f_AckBook_Flow_leaveAcknowledged F X r1 rL5 w) fun v3 w =>
  z_getR w 1 1 rL1 fun r4 =>
  z_this w 0 rL0 <|
  z_cV (f_AckBook_lookForLosses F X rL0 r4 w) fun w =>
  z_put w 0 5 rL0 (.int (0 : Int32)) fun w =>
  some (.inl (some (.int v3)), w)
set_option maxHeartbeats 4000000 in
set_option maxRecDepth 100000 in
theorem kq_AckBook_settle_100 {b0 : Nat} {H0 : Heap} {D : va_G} {vu vs : Value} {X M : Nat} {l : Launch} (hT : z_TB (zGG b0 H0 D vu vs X M)) (hfl : l.flags = pinnedFlags ++ [noTraceFlag]) (hE : vu.isRef = true ∧ vs.isRef = true) {p : Program} {e : Env} {R : Room} {s : State} {m : MethodId} {args : Array Value} {below : List Frame} {meth : Method} {c : Code} {w0 : zW} {F : Nat} (hC : z_C (zGG b0 H0 D vu vs X M) p e s m meth c c_AckBook_settle 7 y_AckBook_settle.cls) (hr : meth.sig.returnType = (some FieldType.int)) (hRc : R.cells = w0.2.1) (hRs : R.slots = w0.2.2.1) (hFr : c.exceptionTable.toList = []) (hRt : R.frames = 6 ∧ R.locals = 135) (hnm : meth.name = y_AckBook_settle.name) (rL0 : Option Nat) (rL1 : Option Nat) (rL5 : Option Nat) (w : zW) (res : zO × zW) (h : q_AckBook_settle_100 F X rL0 rL1 rL5 w = some res) (H : Heap) (locs : List Loc) (cells slots : Nat) (ls : Array Slot) (hZ : z_Z (zGG b0 H0 D vu vs X M) R s w H locs cells slots) (hl : lv_has ls 7 [(0, va_rf rL0), (1, va_rf rL1), (5, va_rf rL5)]) : W p l e R s m args below meth c H locs cells slots (z_Q (zGG b0 H0 D vu vs X M) below s w0 res) (F0 m 100 ls []) := by
  unfold q_AckBook_settle_100 at h
  refine x_aload_n hC d_AckBook_settle_100 rfl (lv_at hl 0 rfl) ?_
  refine x_getR hC hZ zc0 h (by decide) t_244 (fun _ h9 => h9) d_AckBook_settle_101 (fun r1 h => ?_)
  refine x_aload hC d_AckBook_settle_104 (lv_at hl 2 rfl) ?_
  obtain ⟨a_, fs_, eo_, h⟩ := z_this_spec h
  obtain ⟨w1_, o1_, hF_, ha_⟩ := z_cI_spec h
  refine x_goes hC hRc hRs hFr ha_ (z_goV (As := [va_rf rL5]) hC hZ zc8 eo_ (k_AckBook_Flow_leaveAcknowledged hT hfl hE _ _ hF_) t_670 t_671 t_672 t_11 t_673 ⟨by decide, by decide, (by decide +kernel : (parseMethodDescriptor y_AckBook_Flow_leaveAcknowledged.desc).map (fun d => d.parameters.length) = some 1)⟩ (by rw [hRt.1]; decide) (by rw [hRt.2]; decide) hl.1 rfl (by first | exact Nat.le_of_ble_eq_true rfl | simp [z_rfc, z_ci, z_cj]) d_AckBook_settle_106) (fun v_ hv H locs cells slots hZ => ?_)
  obtain ⟨v3, rfl, h⟩ := hv
  generalize w1_ = w at h hZ
  refine lv_istore (i := 6) (lv' := [(6, .int v3), (0, va_rf rL0), (1, va_rf rL1), (5, va_rf rL5)]) hC.1 hC.2.1 d_AckBook_settle_109 hl (by decide) (by first | rfl | simp [z_rfc, z_ci, z_cj]) (fun ls hl => ?_)
  refine x_aload_n hC d_AckBook_settle_111 rfl (lv_at hl 1 rfl) ?_
  refine x_aload_n hC d_AckBook_settle_112 rfl (lv_at hl 2 rfl) ?_
  refine x_getR hC hZ zc1 h (by decide) t_158 (fun _ h9 => h9) d_AckBook_settle_113 (fun r4 h => ?_)
  obtain ⟨a_, fs_, eo_, h⟩ := z_this_spec h
  obtain ⟨w1_, o1_, hF_, ha_⟩ := z_cV_spec h
  refine x_goes hC hRc hRs hFr ha_ (z_goV (As := [va_rf r4]) hC hZ zc0 eo_ (k_AckBook_lookForLosses hT hfl hE _ _ hF_) t_296 t_298 ts_AckBook_lookForLosses t_1 t_299 ⟨by decide, by decide, (by decide +kernel : (parseMethodDescriptor y_AckBook_lookForLosses.desc).map (fun d => d.parameters.length) = some 1)⟩ (by rw [hRt.1]; decide) (by rw [hRt.2]; decide) hl.1 rfl (by first | exact Nat.le_of_ble_eq_true rfl | simp [z_rfc, z_ci, z_cj]) d_AckBook_settle_116) (fun v_ hv H locs cells slots hZ => ?_)
  obtain ⟨rfl, h⟩ := hv
  generalize w1_ = w at h hZ
  refine x_aload_n hC d_AckBook_settle_119 rfl (lv_at hl 1 rfl) ?_
  refine lv_iconst (v := (0 : Int32)) hC.1 hC.2.1 d_AckBook_settle_120 (by decide) ?_
  refine x_put hC hZ zc0 h (by decide) t_246 (fun _ h9 => h9) rfl rfl rfl rfl d_AckBook_settle_121 (fun w H locs hZ h => ?_)
  refine lv_iload hC.1 hC.2.1 d_AckBook_settle_124 (lv_at hl 0 rfl) ?_
  exact x_iret hC hRc hRs hZ hr rfl h d_AckBook_settle_126
def q_AckBook_settle_76 (F X : Nat) (rL0 : Option Nat) (rL1 : Option Nat) (rL2 : Option Nat) (rL5 : Option Nat) (xS0 : Int32) (w : zW) : zR :=
  z_getR w 0 2 rL0 fun r6 =>
  z_getI w 0 4 rL0 fun v7 =>
  z_getI w 9 2 rL2 fun v8 =>
  z_getI w 0 4 rL0 fun v9 =>
  z_this w 7 r6 <|
  z_cV (f_AckBook_Way_take F X r6 (v7 - v8) xS0 v9 w) fun w =>
  q_AckBook_settle_100 F X rL0 rL1 rL5 w
set_option maxHeartbeats 4000000 in
set_option maxRecDepth 100000 in
theorem kq_AckBook_settle_76 {b0 : Nat} {H0 : Heap} {D : va_G} {vu vs : Value} {X M : Nat} {l : Launch} (hT : z_TB (zGG b0 H0 D vu vs X M)) (hfl : l.flags = pinnedFlags ++ [noTraceFlag]) (hE : vu.isRef = true ∧ vs.isRef = true) {p : Program} {e : Env} {R : Room} {s : State} {m : MethodId} {args : Array Value} {below : List Frame} {meth : Method} {c : Code} {w0 : zW} {F : Nat} (hC : z_C (zGG b0 H0 D vu vs X M) p e s m meth c c_AckBook_settle 7 y_AckBook_settle.cls) (hr : meth.sig.returnType = (some FieldType.int)) (hRc : R.cells = w0.2.1) (hRs : R.slots = w0.2.2.1) (hFr : c.exceptionTable.toList = []) (hRt : R.frames = 6 ∧ R.locals = 135) (hnm : meth.name = y_AckBook_settle.name) (rL0 : Option Nat) (rL1 : Option Nat) (rL2 : Option Nat) (rL5 : Option Nat) (xS0 : Int32) (w : zW) (res : zO × zW) (h : q_AckBook_settle_76 F X rL0 rL1 rL2 rL5 xS0 w = some res) (H : Heap) (locs : List Loc) (cells slots : Nat) (ls : Array Slot) (hZ : z_Z (zGG b0 H0 D vu vs X M) R s w H locs cells slots) (hl : lv_has ls 7 [(0, va_rf rL0), (1, va_rf rL1), (2, va_rf rL2), (5, va_rf rL5)]) : W p l e R s m args below meth c H locs cells slots (z_Q (zGG b0 H0 D vu vs X M) below s w0 res) (F0 m 76 ls [.int xS0]) := by
  unfold q_AckBook_settle_76 at h
  refine lv_istore (i := 6) (lv' := [(6, .int xS0), (0, va_rf rL0), (1, va_rf rL1), (2, va_rf rL2), (5, va_rf rL5)]) hC.1 hC.2.1 d_AckBook_settle_76 hl (by decide) (by first | rfl | simp [z_rfc, z_ci, z_cj]) (fun ls hl => ?_)
  refine x_aload_n hC d_AckBook_settle_78 rfl (lv_at hl 1 rfl) ?_
  refine x_getR hC hZ zc0 h (by decide) t_243 (fun _ h9 => h9) d_AckBook_settle_79 (fun r6 h => ?_)
  refine x_aload_n hC d_AckBook_settle_82 rfl (lv_at hl 1 rfl) ?_
  refine x_getI hC hZ zc0 h (by decide) t_245 (fun _ h9 => h9) d_AckBook_settle_83 (fun v7 h => ?_)
  refine x_aload_n hC d_AckBook_settle_86 rfl (lv_at hl 3 rfl) ?_
  refine x_getI hC hZ zc9 h (by decide) t_493 (fun _ h9 => h9) d_AckBook_settle_87 (fun v8 h => ?_)
  refine lv_isub hC.1 hC.2.1 d_AckBook_settle_90 ?_
  refine lv_iload hC.1 hC.2.1 d_AckBook_settle_91 (lv_at hl 0 rfl) ?_
  refine x_aload_n hC d_AckBook_settle_93 rfl (lv_at hl 1 rfl) ?_
  refine x_getI hC hZ zc0 h (by decide) t_245 (fun _ h9 => h9) d_AckBook_settle_94 (fun v9 h => ?_)
  obtain ⟨a_, fs_, eo_, h⟩ := z_this_spec h
  obtain ⟨w1_, o1_, hF_, ha_⟩ := z_cV_spec h
  refine x_goes hC hRc hRs hFr ha_ (z_goV (As := [.int (v7 - v8), .int xS0, .int v9]) hC hZ zc7 eo_ (k_AckBook_Way_take hT hfl hE _ _ hF_) t_662 t_663 t_664 t_10 t_665 ⟨by decide, by decide, (by decide +kernel : (parseMethodDescriptor y_AckBook_Way_take.desc).map (fun d => d.parameters.length) = some 3)⟩ (by rw [hRt.1]; decide) (by rw [hRt.2]; decide) hl.1 rfl (by first | exact Nat.le_of_ble_eq_true rfl | simp [z_rfc, z_ci, z_cj]) d_AckBook_settle_97) (fun v_ hv H locs cells slots hZ => ?_)
  obtain ⟨rfl, h⟩ := hv
  generalize w1_ = w at h hZ
  exact kq_AckBook_settle_100 hT hfl hE hC hr hRc hRs hFr hRt hnm _ _ _ _ _ h _ _ _ _ _ hZ (lv_sub hl [1, 2, 4] rfl)
def q_AckBook_settle_12 (F X : Nat) (rL0 : Option Nat) (rL1 : Option Nat) (rL2 : Option Nat) (xL3 : Int32) (xS0 : Int32) (w : zW) : zR :=
  z_getR w 1 1 rL1 fun r11 =>
  z_getI w 9 0 rL2 fun v12 =>
  z_this w 2 r11 <|
  z_cV (f_AckBook_Sent_raiseGreatest F X r11 v12 w) fun w =>
  z_getR w 1 1 rL1 fun r14 =>
  z_getR w 0 1 rL0 fun r15 =>
  z_this w 2 r14 <|
  z_cR (f_AckBook_Sent_markAcknowledged F X r14 r15 w) fun r17 w =>
  if r17 = none then (
    some (.inl (some (.int (0 : Int32))), w))
  else (
    if xS0 = 0 then (
      q_AckBook_settle_100 F X rL0 rL1 r17 w)
    else (
      z_cI (f_AckBook_hasEliciting F X r17 w) fun v19 w =>
      if v19 = 0 then (
        q_AckBook_settle_100 F X rL0 rL1 r17 w)
      else (
        z_getI w 1 0 rL1 fun v20 =>
        if v20 = (2 : Int32) then (
          q_AckBook_settle_76 F X rL0 rL1 rL2 r17 (if (25 : Int32) < xL3 then (25 : Int32) else xL3) w)
        else (
          q_AckBook_settle_76 F X rL0 rL1 rL2 r17 (0 : Int32) w))))
set_option maxHeartbeats 4000000 in
set_option maxRecDepth 100000 in
theorem kq_AckBook_settle_12 {b0 : Nat} {H0 : Heap} {D : va_G} {vu vs : Value} {X M : Nat} {l : Launch} (hT : z_TB (zGG b0 H0 D vu vs X M)) (hfl : l.flags = pinnedFlags ++ [noTraceFlag]) (hE : vu.isRef = true ∧ vs.isRef = true) {p : Program} {e : Env} {R : Room} {s : State} {m : MethodId} {args : Array Value} {below : List Frame} {meth : Method} {c : Code} {w0 : zW} {F : Nat} (hC : z_C (zGG b0 H0 D vu vs X M) p e s m meth c c_AckBook_settle 7 y_AckBook_settle.cls) (hr : meth.sig.returnType = (some FieldType.int)) (hRc : R.cells = w0.2.1) (hRs : R.slots = w0.2.2.1) (hFr : c.exceptionTable.toList = []) (hRt : R.frames = 6 ∧ R.locals = 135) (hnm : meth.name = y_AckBook_settle.name) (rL0 : Option Nat) (rL1 : Option Nat) (rL2 : Option Nat) (xL3 : Int32) (xS0 : Int32) (w : zW) (res : zO × zW) (h : q_AckBook_settle_12 F X rL0 rL1 rL2 xL3 xS0 w = some res) (H : Heap) (locs : List Loc) (cells slots : Nat) (ls : Array Slot) (hZ : z_Z (zGG b0 H0 D vu vs X M) R s w H locs cells slots) (hl : lv_has ls 7 [(0, va_rf rL0), (1, va_rf rL1), (2, va_rf rL2), (3, .int xL3)]) : W p l e R s m args below meth c H locs cells slots (z_Q (zGG b0 H0 D vu vs X M) below s w0 res) (F0 m 12 ls [.int xS0]) := by
  unfold q_AckBook_settle_12 at h
  refine lv_istore (i := 4) (lv' := [(4, .int xS0), (0, va_rf rL0), (1, va_rf rL1), (2, va_rf rL2), (3, .int xL3)]) hC.1 hC.2.1 d_AckBook_settle_12 hl (by decide) (by first | rfl | simp [z_rfc, z_ci, z_cj]) (fun ls hl => ?_)
  refine x_aload_n hC d_AckBook_settle_14 rfl (lv_at hl 2 rfl) ?_
  refine x_getR hC hZ zc1 h (by decide) t_158 (fun _ h9 => h9) d_AckBook_settle_15 (fun r11 h => ?_)
  refine x_aload_n hC d_AckBook_settle_18 rfl (lv_at hl 3 rfl) ?_
  refine x_getI hC hZ zc9 h (by decide) t_485 (fun _ h9 => h9) d_AckBook_settle_19 (fun v12 h => ?_)
  obtain ⟨a_, fs_, eo_, h⟩ := z_this_spec h
  obtain ⟨w1_, o1_, hF_, ha_⟩ := z_cV_spec h
  refine x_goes hC hRc hRs hFr ha_ (z_goV (As := [.int v12]) hC hZ zc2 eo_ (k_AckBook_Sent_raiseGreatest hT hfl hE _ _ hF_) t_638 t_639 t_640 t_3 t_641 ⟨by decide, by decide, (by decide +kernel : (parseMethodDescriptor y_AckBook_Sent_raiseGreatest.desc).map (fun d => d.parameters.length) = some 1)⟩ (by rw [hRt.1]; decide) (by rw [hRt.2]; decide) hl.1 rfl (by first | exact Nat.le_of_ble_eq_true rfl | simp [z_rfc, z_ci, z_cj]) d_AckBook_settle_22) (fun v_ hv H locs cells slots hZ => ?_)
  obtain ⟨rfl, h⟩ := hv
  generalize w1_ = w at h hZ
  refine x_aload_n hC d_AckBook_settle_25 rfl (lv_at hl 2 rfl) ?_
  refine x_getR hC hZ zc1 h (by decide) t_158 (fun _ h9 => h9) d_AckBook_settle_26 (fun r14 h => ?_)
  refine x_aload_n hC d_AckBook_settle_29 rfl (lv_at hl 1 rfl) ?_
  refine x_getR hC hZ zc0 h (by decide) t_242 (fun _ h9 => h9) d_AckBook_settle_30 (fun r15 h => ?_)
  obtain ⟨a_, fs_, eo_, h⟩ := z_this_spec h
  obtain ⟨w1_, o1_, hF_, ha_⟩ := z_cR_spec h
  refine x_goes hC hRc hRs hFr ha_ (z_goV (As := [va_rf r15]) hC hZ zc2 eo_ (k_AckBook_Sent_markAcknowledged hT hfl hE _ _ hF_) t_643 t_644 t_645 t_3 t_646 ⟨by decide, by decide, (by decide +kernel : (parseMethodDescriptor y_AckBook_Sent_markAcknowledged.desc).map (fun d => d.parameters.length) = some 1)⟩ (by rw [hRt.1]; decide) (by rw [hRt.2]; decide) hl.1 rfl (by first | exact Nat.le_of_ble_eq_true rfl | simp [z_rfc, z_ci, z_cj]) d_AckBook_settle_33) (fun v_ hv H locs cells slots hZ => ?_)
  obtain ⟨r17, rfl, h⟩ := hv
  generalize w1_ = w at h hZ
  refine x_astore (i := 5) (lv' := [(5, va_rf r17), (4, .int xS0), (0, va_rf rL0), (1, va_rf rL1), (2, va_rf rL2), (3, .int xL3)]) hC d_AckBook_settle_36 hl (by decide) (by first | rfl | simp [z_rfc, z_ci, z_cj]) (fun ls hl => ?_)
  refine x_aload hC d_AckBook_settle_38 (lv_at hl 0 rfl) ?_
  refine x_ifnonnull (tgt := 45) hC d_AckBook_settle_40 (by decide) (fun hc => ?_) (fun hc => ?_)
  · have h := z_ifn hc h
    refine lv_iload hC.1 hC.2.1 d_AckBook_settle_45 (lv_at hl 1 rfl) ?_
    refine lv_if_eq (tgt := 100) hC.1 hC.2.1 d_AckBook_settle_47 (by decide) (fun hc => ?_) (fun hc => ?_)
    · have h := z_ifp hc h
      exact kq_AckBook_settle_100 hT hfl hE hC hr hRc hRs hFr hRt hnm _ _ _ _ _ h _ _ _ _ _ hZ (lv_sub hl [2, 3, 0] rfl)
    · have h := z_ifn hc h
      refine x_aload hC d_AckBook_settle_50 (lv_at hl 0 rfl) ?_
      obtain ⟨w1_, o1_, hF_, ha_⟩ := z_cI_spec h
      refine x_goes hC hRc hRs hFr ha_ (z_goS (As := [va_rf r17]) hC hZ (k_AckBook_hasEliciting hT hfl hE _ _ hF_) t_659 t_660 t_1 t_661 ⟨by decide, by decide, (by decide +kernel : (parseMethodDescriptor y_AckBook_hasEliciting.desc).map (fun d => d.parameters.length) = some 1)⟩ (by rw [hRt.1]; decide) (by rw [hRt.2]; decide) hl.1 rfl (by first | exact Nat.le_of_ble_eq_true rfl | simp [z_rfc, z_ci, z_cj]) d_AckBook_settle_52) (fun v_ hv H locs cells slots hZ => ?_)
      obtain ⟨v19, rfl, h⟩ := hv
      generalize w1_ = w at h hZ
      refine lv_if_eq (tgt := 100) hC.1 hC.2.1 d_AckBook_settle_55 (by decide) (fun hc => ?_) (fun hc => ?_)
      · have h := z_ifp hc h
        exact kq_AckBook_settle_100 hT hfl hE hC hr hRc hRs hFr hRt hnm _ _ _ _ _ h _ _ _ _ _ hZ (lv_sub hl [2, 3, 0] rfl)
      · have h := z_ifn hc h
        refine x_aload_n hC d_AckBook_settle_58 rfl (lv_at hl 3 rfl) ?_
        refine x_getI hC hZ zc1 h (by decide) t_156 (fun _ h9 => h9) d_AckBook_settle_59 (fun v20 h => ?_)
        refine lv_iconst (v := (2 : Int32)) hC.1 hC.2.1 d_AckBook_settle_62 (by decide) ?_
        refine lv_icmp_ne (tgt := 75) hC.1 hC.2.1 d_AckBook_settle_63 (by decide) (fun hc => ?_) (fun hc => ?_)
        · have h := z_ifn hc h
          refine lv_iconst (v := (0 : Int32)) hC.1 hC.2.1 d_AckBook_settle_75 (by decide) ?_
          exact kq_AckBook_settle_76 hT hfl hE hC hr hRc hRs hFr hRt hnm _ _ _ _ _ _ _ h _ _ _ _ _ hZ (lv_sub hl [2, 3, 4, 0] rfl)
        · have h := z_ifp hc h
          refine lv_iload_n hC.1 hC.2.1 d_AckBook_settle_66 rfl (lv_at hl 5 rfl) ?_
          refine lv_bipush (v := (25 : Int32)) hC.1 hC.2.1 d_AckBook_settle_67 (by decide) ?_
          refine va_mmin hC.1 hC.2.1 (hC.2.2.1.trans hl.1.symm) hC.2.2.2.1 ((hZ.1.tb hC.2.2.2.2.2.2 args) _ t_360) ((hZ.1.tb hC.2.2.2.2.2.2 args) _ t_361) ((hZ.1.tb hC.2.2.2.2.2.2 args) _ t_20) ((hZ.1.tb hC.2.2.2.2.2.2 args) _ t_362) (by rw [hRt.1]; decide) (by rw [hRt.2]; first | exact Nat.le_of_ble_eq_true rfl | simp [z_rfc, z_ci, z_cj]) (hZ.2.2.1 ▸ Nat.le_add_right _ _) (hZ.2.2.2 ▸ Nat.le_add_right _ _) d_AckBook_settle_69 ?_
          refine lv_goto (tgt := 76) hC.1 hC.2.1 d_AckBook_settle_72 (by decide) ?_
          exact kq_AckBook_settle_76 hT hfl hE hC hr hRc hRs hFr hRt hnm _ _ _ _ _ _ _ h _ _ _ _ _ hZ (lv_sub hl [2, 3, 4, 0] rfl)
  · have h := z_ifp hc h
    refine lv_iconst (v := (0 : Int32)) hC.1 hC.2.1 d_AckBook_settle_43 (by decide) ?_
    exact x_iret hC hRc hRs hZ hr rfl h d_AckBook_settle_44
def f_AckBook_settle (F X : Nat) (a0 : Option Nat) (pR1 : Option Nat) (pR2 : Option Nat) (pI3 : Int32) (w : zW) : zR :=
  z_getI w 9 6 pR2 fun v21 =>
  if v21 = 0 then (
    q_AckBook_settle_12 F X a0 pR1 pR2 pI3 (1 : Int32) w)
  else (
    q_AckBook_settle_12 F X a0 pR1 pR2 pI3 (0 : Int32) w)
set_option maxHeartbeats 4000000 in
set_option maxRecDepth 100000 in
theorem k_AckBook_settle {b0 : Nat} {H0 : Heap} {D : va_G} {vu vs : Value} {X M : Nat} {l : Launch} (hT : z_TB (zGG b0 H0 D vu vs X M)) (hfl : l.flags = pinnedFlags ++ [noTraceFlag]) (hE : vu.isRef = true ∧ vs.isRef = true) {a0 : Option Nat} {pR1 : Option Nat} {pR2 : Option Nat} {pI3 : Int32} (F : Nat) {w : zW} (res : zO × zW) (h : f_AckBook_settle F X a0 pR1 pR2 pI3 w = some res) : z_Ct (zGG b0 H0 D vu vs X M) l y_AckBook_settle (.code y_AckBook_settle c_AckBook_settle 7 (some FieldType.int)) 6 135 [va_rf a0, va_rf pR1, va_rf pR2, .int pI3] w res := by
  refine z_ct hT hfl (by decide) (by simp only [z_sl_i, z_sl_j, z_sl_r, z_sl_n]; decide) ?_
  intro p e R s m args below meth c hC hr hRc hRs hRt hnm hFr H ls hZ hl
  simp only [z_la_i, z_la_j, z_la_r, z_la_n] at hl
  have hl : lv_has ls 7 [(0, va_rf a0), (1, va_rf pR1), (2, va_rf pR2), (3, .int pI3)] := hl
  unfold f_AckBook_settle at h
  refine x_aload_n hC d_AckBook_settle_0 rfl (lv_at hl 2 rfl) ?_
  refine x_getI hC hZ zc9 h (by decide) t_502 (fun _ h9 => h9) d_AckBook_settle_1 (fun v21 h => ?_)
  refine lv_if_ne (tgt := 11) hC.1 hC.2.1 d_AckBook_settle_4 (by decide) (fun hc => ?_) (fun hc => ?_)
  · have h := z_ifn hc h
    refine lv_iconst (v := (0 : Int32)) hC.1 hC.2.1 d_AckBook_settle_11 (by decide) ?_
    exact kq_AckBook_settle_12 hT hfl hE hC hr hRc hRs hFr hRt hnm _ _ _ _ _ _ _ h _ _ _ _ _ hZ (lv_sub hl [0, 1, 2, 3] rfl)
  · have h := z_ifp hc h
    refine lv_iconst (v := (1 : Int32)) hC.1 hC.2.1 d_AckBook_settle_7 (by decide) ?_
    refine lv_goto (tgt := 12) hC.1 hC.2.1 d_AckBook_settle_8 (by decide) ?_
    exact kq_AckBook_settle_12 hT hfl hE hC hr hRc hRs hFr hRt hnm _ _ _ _ _ _ _ h _ _ _ _ _ hZ (lv_sub hl [0, 1, 2, 3] rfl)
def f_AckBook_acknowledge (F X : Nat) (a0 : Option Nat) (pI1 : Int32) (pI2 : Int32) (w : zW) : zR :=
  z_getR w 0 1 a0 fun r1 =>
  z_this w 6 r1 <|
  z_cV (f_AckBook_Claim_close F X r1 w) fun w =>
  z_this w 0 a0 <|
  z_cR (f_AckBook_known F X a0 pI1 w) fun r4 w =>
  z_cV (f_AckBook_refuseDiscarded F X r4 w) fun w =>
  if pI2 < 0 then (
    z_thr w 11)
  else (
    if pI2 ≤ (100000 : Int32) then (
      z_getR w 1 1 r4 fun r6 =>
      z_getR w 0 1 a0 fun r7 =>
      z_this w 6 r7 <|
      z_cL (f_AckBook_Claim_greatest F X r7 w) fun v9 w =>
      z_this w 2 r6 <|
      z_cR (f_AckBook_Sent_packet F X r6 v9 w) fun r11 w =>
      if r11 = none then (
        z_thr w 11)
      else (
        z_this w 0 a0 <|
        z_cI (f_AckBook_settle F X a0 r4 r11 pI2 w) fun v13 w =>
        some (.inl (some (.int v13)), w)))
    else (
      z_thr w 11))
set_option maxHeartbeats 4000000 in
set_option maxRecDepth 100000 in
theorem k_AckBook_acknowledge {b0 : Nat} {H0 : Heap} {D : va_G} {vu vs : Value} {X M : Nat} {l : Launch} (hT : z_TB (zGG b0 H0 D vu vs X M)) (hfl : l.flags = pinnedFlags ++ [noTraceFlag]) (hE : vu.isRef = true ∧ vs.isRef = true) {a0 : Option Nat} {pI1 : Int32} {pI2 : Int32} (F : Nat) {w : zW} (res : zO × zW) (h : f_AckBook_acknowledge F X a0 pI1 pI2 w = some res) : z_Ct (zGG b0 H0 D vu vs X M) l y_AckBook_acknowledge (.code y_AckBook_acknowledge c_AckBook_acknowledge 5 (some FieldType.int)) 7 161 [va_rf a0, .int pI1, .int pI2] w res := by
  refine z_ct hT hfl (by decide) (by simp only [z_sl_i, z_sl_j, z_sl_r, z_sl_n]; decide) ?_
  intro p e R s m args below meth c hC hr hRc hRs hRt hnm hFr H ls hZ hl
  simp only [z_la_i, z_la_j, z_la_r, z_la_n] at hl
  have hl : lv_has ls 5 [(0, va_rf a0), (1, .int pI1), (2, .int pI2)] := hl
  unfold f_AckBook_acknowledge at h
  refine x_aload_n hC d_AckBook_acknowledge_0 rfl (lv_at hl 0 rfl) ?_
  refine x_getR hC hZ zc0 h (by decide) t_242 (fun _ h9 => h9) d_AckBook_acknowledge_1 (fun r1 h => ?_)
  obtain ⟨a_, fs_, eo_, h⟩ := z_this_spec h
  obtain ⟨w1_, o1_, hF_, ha_⟩ := z_cV_spec h
  refine x_goes hC hRc hRs hFr ha_ (z_goV (As := []) hC hZ zc6 eo_ (k_AckBook_Claim_close hT hfl hE _ _ hF_) t_618 t_619 t_620 t_9 t_621 ⟨by decide, by decide, (by decide +kernel : (parseMethodDescriptor y_AckBook_Claim_close.desc).map (fun d => d.parameters.length) = some 0)⟩ (by rw [hRt.1]; decide) (by rw [hRt.2]; decide) hl.1 rfl (by first | exact Nat.le_of_ble_eq_true rfl | simp [z_rfc, z_ci, z_cj]) d_AckBook_acknowledge_4) (fun v_ hv H locs cells slots hZ => ?_)
  obtain ⟨rfl, h⟩ := hv
  generalize w1_ = w at h hZ
  refine x_aload_n hC d_AckBook_acknowledge_7 rfl (lv_at hl 0 rfl) ?_
  refine lv_iload_n hC.1 hC.2.1 d_AckBook_acknowledge_8 rfl (lv_at hl 1 rfl) ?_
  obtain ⟨a_, fs_, eo_, h⟩ := z_this_spec h
  obtain ⟨w1_, o1_, hF_, ha_⟩ := z_cR_spec h
  refine x_goes hC hRc hRs hFr ha_ (z_goV (As := [.int pI1]) hC hZ zc0 eo_ (k_AckBook_known hT hfl hE _ _ hF_) t_380 t_382 ts_AckBook_known t_1 t_383 ⟨by decide, by decide, (by decide +kernel : (parseMethodDescriptor y_AckBook_known.desc).map (fun d => d.parameters.length) = some 1)⟩ (by rw [hRt.1]; decide) (by rw [hRt.2]; decide) hl.1 rfl (by first | exact Nat.le_of_ble_eq_true rfl | simp [z_rfc, z_ci, z_cj]) d_AckBook_acknowledge_9) (fun v_ hv H locs cells slots hZ => ?_)
  obtain ⟨r4, rfl, h⟩ := hv
  generalize w1_ = w at h hZ
  refine x_astore_n (i := 3) (lv' := [(3, va_rf r4), (0, va_rf a0), (1, .int pI1), (2, .int pI2)]) hC d_AckBook_acknowledge_12 rfl hl (by decide) (by first | rfl | simp [z_rfc, z_ci, z_cj]) (fun ls hl => ?_)
  refine x_aload_n hC d_AckBook_acknowledge_13 rfl (lv_at hl 0 rfl) ?_
  obtain ⟨w1_, o1_, hF_, ha_⟩ := z_cV_spec h
  refine x_goes hC hRc hRs hFr ha_ (z_goS (As := [va_rf r4]) hC hZ (k_AckBook_refuseDiscarded hT hfl hE _ _ hF_) t_454 t_455 t_1 t_456 ⟨by decide, by decide, (by decide +kernel : (parseMethodDescriptor y_AckBook_refuseDiscarded.desc).map (fun d => d.parameters.length) = some 1)⟩ (by rw [hRt.1]; decide) (by rw [hRt.2]; decide) hl.1 rfl (by first | exact Nat.le_of_ble_eq_true rfl | simp [z_rfc, z_ci, z_cj]) d_AckBook_acknowledge_14) (fun v_ hv H locs cells slots hZ => ?_)
  obtain ⟨rfl, h⟩ := hv
  generalize w1_ = w at h hZ
  refine lv_iload_n hC.1 hC.2.1 d_AckBook_acknowledge_17 rfl (lv_at hl 3 rfl) ?_
  refine lv_if_lt (tgt := 27) hC.1 hC.2.1 d_AckBook_acknowledge_18 (by decide) (fun hc => ?_) (fun hc => ?_)
  · have h := z_ifp hc h
    exact x_thr (names := ["java/lang/RuntimeException", "java/lang/Exception"]) hC hRc hRs hFr hZ rfl h ⟨List.mem_cons_self, hE.1⟩ ⟨List.mem_cons_of_mem _ List.mem_cons_self, hE.2⟩ (by decide +kernel) (by decide +kernel) at_AckBook_47 t_385 t_384 t_16 t_623 hl.1 d_AckBook_acknowledge_27 d_AckBook_acknowledge_30 d_AckBook_acknowledge_31 d_AckBook_acknowledge_33 d_AckBook_acknowledge_36 (by rw [hRt.1]; decide) (by rw [hRt.2]; first | exact Nat.le_of_ble_eq_true rfl | simp [z_rfc, z_ci, z_cj])
  · have h := z_ifn hc h
    refine lv_iload_n hC.1 hC.2.1 d_AckBook_acknowledge_21 rfl (lv_at hl 3 rfl) ?_
    refine lv_ldc (v := (100000 : Int32)) hC.1 hC.2.1 hC.2.2.2.1 ((hZ.1.tb hC.2.2.2.2.2.2 args) _ t_622) d_AckBook_acknowledge_22 ?_
    refine lv_icmp_le (tgt := 37) hC.1 hC.2.1 d_AckBook_acknowledge_24 (by decide) (fun hc => ?_) (fun hc => ?_)
    · have h := z_ifp hc h
      refine x_aload_n hC d_AckBook_acknowledge_37 rfl (lv_at hl 0 rfl) ?_
      refine x_getR hC hZ zc1 h (by decide) t_158 (fun _ h9 => h9) d_AckBook_acknowledge_38 (fun r6 h => ?_)
      refine x_aload_n hC d_AckBook_acknowledge_41 rfl (lv_at hl 1 rfl) ?_
      refine x_getR hC hZ zc0 h (by decide) t_242 (fun _ h9 => h9) d_AckBook_acknowledge_42 (fun r7 h => ?_)
      obtain ⟨a_, fs_, eo_, h⟩ := z_this_spec h
      obtain ⟨w1_, o1_, hF_, ha_⟩ := z_cL_spec h
      refine x_goes hC hRc hRs hFr ha_ (z_goV (As := []) hC hZ zc6 eo_ (k_AckBook_Claim_greatest hT hfl hE _ _ hF_) t_624 t_625 t_626 t_9 t_627 ⟨by decide, by decide, (by decide +kernel : (parseMethodDescriptor y_AckBook_Claim_greatest.desc).map (fun d => d.parameters.length) = some 0)⟩ (by rw [hRt.1]; decide) (by rw [hRt.2]; decide) hl.1 rfl (by first | exact Nat.le_of_ble_eq_true rfl | simp [z_rfc, z_ci, z_cj]) d_AckBook_acknowledge_45) (fun v_ hv H locs cells slots hZ => ?_)
      obtain ⟨v9, rfl, h⟩ := hv
      generalize w1_ = w at h hZ
      obtain ⟨a_, fs_, eo_, h⟩ := z_this_spec h
      obtain ⟨w1_, o1_, hF_, ha_⟩ := z_cR_spec h
      refine x_goes hC hRc hRs hFr ha_ (z_goV (As := [.long v9]) hC hZ zc2 eo_ (k_AckBook_Sent_packet hT hfl hE _ _ hF_) t_629 t_630 t_631 t_3 t_632 ⟨by decide, by decide, (by decide +kernel : (parseMethodDescriptor y_AckBook_Sent_packet.desc).map (fun d => d.parameters.length) = some 1)⟩ (by rw [hRt.1]; decide) (by rw [hRt.2]; decide) hl.1 rfl (by first | exact Nat.le_of_ble_eq_true rfl | simp [z_rfc, z_ci, z_cj]) d_AckBook_acknowledge_48) (fun v_ hv H locs cells slots hZ => ?_)
      obtain ⟨r11, rfl, h⟩ := hv
      generalize w1_ = w at h hZ
      refine x_astore (i := 4) (lv' := [(4, va_rf r11), (3, va_rf r4), (0, va_rf a0), (1, .int pI1), (2, .int pI2)]) hC d_AckBook_acknowledge_51 hl (by decide) (by first | rfl | simp [z_rfc, z_ci, z_cj]) (fun ls hl => ?_)
      refine x_aload hC d_AckBook_acknowledge_53 (lv_at hl 0 rfl) ?_
      refine x_ifnonnull (tgt := 68) hC d_AckBook_acknowledge_55 (by decide) (fun hc => ?_) (fun hc => ?_)
      · have h := z_ifn hc h
        refine x_aload_n hC d_AckBook_acknowledge_68 rfl (lv_at hl 2 rfl) ?_
        refine x_aload_n hC d_AckBook_acknowledge_69 rfl (lv_at hl 1 rfl) ?_
        refine x_aload hC d_AckBook_acknowledge_70 (lv_at hl 0 rfl) ?_
        refine lv_iload_n hC.1 hC.2.1 d_AckBook_acknowledge_72 rfl (lv_at hl 4 rfl) ?_
        obtain ⟨a_, fs_, eo_, h⟩ := z_this_spec h
        obtain ⟨w1_, o1_, hF_, ha_⟩ := z_cI_spec h
        refine x_goes hC hRc hRs hFr ha_ (z_goV (As := [va_rf r4, va_rf r11, .int pI2]) hC hZ zc0 eo_ (k_AckBook_settle hT hfl hE _ _ hF_) t_634 t_636 ts_AckBook_settle t_1 t_637 ⟨by decide, by decide, (by decide +kernel : (parseMethodDescriptor y_AckBook_settle.desc).map (fun d => d.parameters.length) = some 3)⟩ (by rw [hRt.1]; decide) (by rw [hRt.2]; decide) hl.1 rfl (by first | exact Nat.le_of_ble_eq_true rfl | simp [z_rfc, z_ci, z_cj]) d_AckBook_acknowledge_73) (fun v_ hv H locs cells slots hZ => ?_)
        obtain ⟨v13, rfl, h⟩ := hv
        generalize w1_ = w at h hZ
        exact x_iret hC hRc hRs hZ hr rfl h d_AckBook_acknowledge_76
      · have h := z_ifp hc h
        exact x_thr (names := ["java/lang/RuntimeException", "java/lang/Exception"]) hC hRc hRs hFr hZ rfl h ⟨List.mem_cons_self, hE.1⟩ ⟨List.mem_cons_of_mem _ List.mem_cons_self, hE.2⟩ (by decide +kernel) (by decide +kernel) at_AckBook_47 t_385 t_384 t_16 t_633 hl.1 d_AckBook_acknowledge_58 d_AckBook_acknowledge_61 d_AckBook_acknowledge_62 d_AckBook_acknowledge_64 d_AckBook_acknowledge_67 (by rw [hRt.1]; decide) (by rw [hRt.2]; first | exact Nat.le_of_ble_eq_true rfl | simp [z_rfc, z_ci, z_cj])
    · have h := z_ifn hc h
      exact x_thr (names := ["java/lang/RuntimeException", "java/lang/Exception"]) hC hRc hRs hFr hZ rfl h ⟨List.mem_cons_self, hE.1⟩ ⟨List.mem_cons_of_mem _ List.mem_cons_self, hE.2⟩ (by decide +kernel) (by decide +kernel) at_AckBook_47 t_385 t_384 t_16 t_623 hl.1 d_AckBook_acknowledge_27 d_AckBook_acknowledge_30 d_AckBook_acknowledge_31 d_AckBook_acknowledge_33 d_AckBook_acknowledge_36 (by rw [hRt.1]; decide) (by rw [hRt.2]; first | exact Nat.le_of_ble_eq_true rfl | simp [z_rfc, z_ci, z_cj])
def f_AckBookLaw_acknowledge (F X : Nat) (pR1 : Option Nat) (pI2 : Int32) (pI3 : Int32) (pR4 : Option Nat) (w : zW) : zR :=
  z_this w 0 pR1 <|
  z_tI (f_AckBook_acknowledge F X pR1 pI2 pI3 w) (fun v2 w =>
    z_stL w pR4 (0 : Int32) v2.toInt64 fun w =>
    some (.inl (some (.int (0 : Int32))), w))
    (fun ci w => if ci = 11 then (some (.inl (some (.int (1 : Int32))), w)) else if ci = 12 then (some (.inl (some (.int (2 : Int32))), w)) else none)
set_option maxHeartbeats 4000000 in
set_option maxRecDepth 100000 in
theorem k_AckBookLaw_acknowledge {b0 : Nat} {H0 : Heap} {D : va_G} {vu vs : Value} {X M : Nat} {l : Launch} (hT : z_TB (zGG b0 H0 D vu vs X M)) (hfl : l.flags = pinnedFlags ++ [noTraceFlag]) (hE : vu.isRef = true ∧ vs.isRef = true) {pR1 : Option Nat} {pI2 : Int32} {pI3 : Int32} {pR4 : Option Nat} (F : Nat) {w : zW} (res : zO × zW) (h : f_AckBookLaw_acknowledge F X pR1 pI2 pI3 pR4 w = some res) : z_Ct (zGG b0 H0 D vu vs X M) l y_AckBookLaw_acknowledge (.codeWith y_AckBookLaw_acknowledge c_AckBookLaw_acknowledge 5 (some FieldType.int) [(0, 10, 13, 13), (0, 10, 17, 15)]) 8 185 [va_rf pR1, .int pI2, .int pI3, va_rf pR4] w res := by
  refine z_ctW hT hfl (by decide) (by simp only [z_sl_i, z_sl_j, z_sl_r, z_sl_n]; decide) ?_
  intro p e R s m args below meth c hC hr hRc hRs hRt hnm hFr H ls hZ hl
  simp only [z_la_i, z_la_j, z_la_r, z_la_n] at hl
  have hl : lv_has ls 5 [(0, va_rf pR1), (1, .int pI2), (2, .int pI3), (3, va_rf pR4)] := hl
  unfold f_AckBookLaw_acknowledge at h
  refine x_aload_n hC d_AckBookLaw_acknowledge_0 rfl (lv_at hl 3 rfl) ?_
  refine lv_iconst (v := (0 : Int32)) hC.1 hC.2.1 d_AckBookLaw_acknowledge_1 (by decide) ?_
  refine x_aload_n hC d_AckBookLaw_acknowledge_2 rfl (lv_at hl 0 rfl) ?_
  refine lv_iload_n hC.1 hC.2.1 d_AckBookLaw_acknowledge_3 rfl (lv_at hl 1 rfl) ?_
  refine lv_iload_n hC.1 hC.2.1 d_AckBookLaw_acknowledge_4 rfl (lv_at hl 2 rfl) ?_
  obtain ⟨a_, fs_, eo_, h⟩ := z_this_spec h
  obtain ⟨w1_, o1_, hF_, ha_⟩ := z_tI_spec h
  refine x_goesT hC hFr ha_ (z_goV (As := [.int pI2, .int pI3]) hC hZ zc0 eo_ (k_AckBook_acknowledge hT hfl hE _ _ hF_) t_614 t_615 t_616 t_1 t_617 ⟨by decide, by decide, (by decide +kernel : (parseMethodDescriptor y_AckBook_acknowledge.desc).map (fun d => d.parameters.length) = some 2)⟩ (by rw [hRt.1]; decide) (by rw [hRt.2]; decide) hl.1 rfl (by first | exact Nat.le_of_ble_eq_true rfl | simp [z_rfc, z_ci, z_cj]) d_AckBookLaw_acknowledge_5) (fun v_ hv H locs cells slots hZ => ?_) (fun ci_ h => ?_)
  · obtain ⟨v2, rfl, h⟩ := hv
    generalize w1_ = w at h hZ
    refine lv_i2l hC.1 hC.2.1 d_AckBookLaw_acknowledge_8 rfl ?_
    refine x_stL hC hZ h d_AckBookLaw_acknowledge_9 (fun w H locs hZ h => ?_)
    refine lv_goto (tgt := 21) hC.1 hC.2.1 d_AckBookLaw_acknowledge_10 (by decide) ?_
    refine lv_iconst (v := (0 : Int32)) hC.1 hC.2.1 d_AckBookLaw_acknowledge_21 (by decide) ?_
    exact x_iret hC hRc hRs hZ hr rfl h d_AckBookLaw_acknowledge_22
  · by_cases hq0 : ci_ = 11
    · have h := z_ifp hq0 h
      subst hq0
      refine ⟨_, _, _, 13, rfl, ⟨⟨by decide, by decide⟩, by decide, _, t_374, Or.inl ⟨t_386, rfl⟩⟩, fun x_ H locs cells slots hZ => ?_⟩
      generalize w1_ = w at h hZ
      refine x_astore (i := 4) (lv' := [(4, va_rf (some x_)), (0, va_rf pR1), (1, .int pI2), (2, .int pI3), (3, va_rf pR4)]) hC d_AckBookLaw_acknowledge_13 hl (by decide) (by first | rfl | simp [z_rfc, z_ci, z_cj]) (fun ls hl => ?_)
      refine lv_iconst (v := (1 : Int32)) hC.1 hC.2.1 d_AckBookLaw_acknowledge_15 (by decide) ?_
      exact x_iret hC hRc hRs hZ hr rfl h d_AckBookLaw_acknowledge_16
    have h := z_ifn hq0 h
    by_cases hq1 : ci_ = 12
    · have h := z_ifp hq1 h
      subst hq1
      refine ⟨_, _, _, 17, rfl, ⟨⟨by decide, by decide⟩, by decide, _, t_374, Or.inr ⟨tn_0, ⟨⟨by decide, by decide⟩, by decide, _, t_375, Or.inl ⟨t_459, rfl⟩⟩⟩⟩, fun x_ H locs cells slots hZ => ?_⟩
      generalize w1_ = w at h hZ
      refine x_astore (i := 4) (lv' := [(4, va_rf (some x_)), (0, va_rf pR1), (1, .int pI2), (2, .int pI3), (3, va_rf pR4)]) hC d_AckBookLaw_acknowledge_17 hl (by decide) (by first | rfl | simp [z_rfc, z_ci, z_cj]) (fun ls hl => ?_)
      refine lv_iconst (v := (2 : Int32)) hC.1 hC.2.1 d_AckBookLaw_acknowledge_19 (by decide) ?_
      exact x_iret hC hRc hRs hZ hr rfl h d_AckBookLaw_acknowledge_20
    have h := z_ifn hq1 h
    cases h
def f_AckBook_Chain_clear (F X : Nat) (a0 : Option Nat) (w : zW) : zR :=
  z_put w 3 0 a0 (va_rf none) fun w =>
  some (.inl none, w)
set_option maxHeartbeats 4000000 in
set_option maxRecDepth 100000 in
theorem k_AckBook_Chain_clear {b0 : Nat} {H0 : Heap} {D : va_G} {vu vs : Value} {X M : Nat} {l : Launch} (hT : z_TB (zGG b0 H0 D vu vs X M)) (hfl : l.flags = pinnedFlags ++ [noTraceFlag]) (hE : vu.isRef = true ∧ vs.isRef = true) {a0 : Option Nat} (F : Nat) {w : zW} (res : zO × zW) (h : f_AckBook_Chain_clear F X a0 w = some res) : z_Ct (zGG b0 H0 D vu vs X M) l y_AckBook_Chain_clear (.code y_AckBook_Chain_clear c_AckBook_Chain_clear 1 (none)) 0 0 [va_rf a0] w res := by
  refine z_ct hT hfl (by decide) (by simp only [z_sl_i, z_sl_j, z_sl_r, z_sl_n]; decide) ?_
  intro p e R s m args below meth c hC hr hRc hRs hRt hnm hFr H ls hZ hl
  simp only [z_la_i, z_la_j, z_la_r, z_la_n] at hl
  have hl : lv_has ls 1 [(0, va_rf a0)] := hl
  unfold f_AckBook_Chain_clear at h
  refine x_aload_n hC d_AckBook_Chain_clear_0 rfl (lv_at hl 0 rfl) ?_
  refine x_null hC d_AckBook_Chain_clear_1 ?_
  refine x_put hC hZ zc3 h (by decide) t_53 (fun _ h9 => h9) rfl rfl (z_rfn _ _) (z_rff _ _) d_AckBook_Chain_clear_2 (fun w H locs hZ h => ?_)
  exact x_vret hC hRc hRs hZ hr h d_AckBook_Chain_clear_5
def j_AckBook_Sent_forget (F X : Nat) : Nat → Option Nat → Option Nat → Int32 → zW → zR
  | 0, _, _, _, _ => none
  | N + 1, rL0, rL1, xL2, w =>
    z_getR w 2 2 rL0 fun r1 =>
    z_this w 4 r1 <|
    z_cI (f_ArrayList_size F X r1 w) fun v3 w =>
    if v3 ≤ xL2 then (
      z_put w 2 3 rL0 (.int (0 : Int32)) fun w =>
      z_put w 2 4 rL0 (.int (0 : Int32)) fun w =>
      z_put w 2 6 rL0 (.int (-1 : Int32)) fun w =>
      z_put w 2 7 rL0 (.int (-1 : Int32)) fun w =>
      z_getR w 2 0 rL0 fun r4 =>
      z_this w 3 r4 <|
      z_cV (f_AckBook_Chain_clear F X r4 w) fun w =>
      z_getR w 2 1 rL0 fun r6 =>
      z_this w 3 r6 <|
      z_cV (f_AckBook_Chain_clear F X r6 w) fun w =>
      some (.inl none, w))
    else (
      z_getR w 2 2 rL0 fun r8 =>
      z_this w 4 r8 <|
      z_cR (f_ArrayList_get F X r8 xL2 w) fun r10 w =>
      z_cast w 9 r10 <|
      z_getI w 9 6 r10 fun v11 =>
      if v11 = 0 then (
        z_this w 8 rL1 <|
        z_cV (f_AckBook_Flow_leave F X rL1 r10 w) fun w =>
        (j_AckBook_Sent_forget F X N) rL0 rL1 (xL2 + (1 : Int32)) w)
      else (
        (j_AckBook_Sent_forget F X N) rL0 rL1 (xL2 + (1 : Int32)) w))
set_option maxHeartbeats 4000000 in
set_option maxRecDepth 100000 in
theorem kj_AckBook_Sent_forget {b0 : Nat} {H0 : Heap} {D : va_G} {vu vs : Value} {X M : Nat} {l : Launch} (hT : z_TB (zGG b0 H0 D vu vs X M)) (hfl : l.flags = pinnedFlags ++ [noTraceFlag]) (hE : vu.isRef = true ∧ vs.isRef = true) {p : Program} {e : Env} {R : Room} {s : State} {m : MethodId} {args : Array Value} {below : List Frame} {meth : Method} {c : Code} {w0 : zW} {F : Nat} (hC : z_C (zGG b0 H0 D vu vs X M) p e s m meth c c_AckBook_Sent_forget 4 y_AckBook_Sent_forget.cls) (hr : meth.sig.returnType = (none)) (hRc : R.cells = w0.2.1) (hRs : R.slots = w0.2.2.1) (hFr : c.exceptionTable.toList = []) (hRt : R.frames = 3 ∧ R.locals = 64) (hnm : meth.name = y_AckBook_Sent_forget.name) : ∀ N : Nat, (∀ (rL0 : Option Nat) (rL1 : Option Nat) (xL2 : Int32) (w : zW) (res : zO × zW), j_AckBook_Sent_forget F X N rL0 rL1 xL2 w = some res → ∀ (H : Heap) (locs : List Loc) (cells slots : Nat) (ls : Array Slot), z_Z (zGG b0 H0 D vu vs X M) R s w H locs cells slots → lv_has ls 4 [(0, va_rf rL0), (1, va_rf rL1), (2, .int xL2)] → W p l e R s m args below meth c H locs cells slots (z_Q (zGG b0 H0 D vu vs X M) below s w0 res) (F0 m 2 ls [])) := by
  intro N
  induction N with
  | zero =>
    intro rL0 rL1 xL2 w res h
    rw [j_AckBook_Sent_forget] at h
    cases h
  | succ N ih =>
    intro rL0 rL1 xL2 w res h H locs cells slots ls hZ hl
    rw [j_AckBook_Sent_forget] at h
    refine lv_iload_n hC.1 hC.2.1 d_AckBook_Sent_forget_2 rfl (lv_at hl 2 rfl) ?_
    refine x_aload_n hC d_AckBook_Sent_forget_3 rfl (lv_at hl 0 rfl) ?_
    refine x_getR hC hZ zc2 h (by decide) t_90 (fun _ h9 => h9) d_AckBook_Sent_forget_4 (fun r1 h => ?_)
    obtain ⟨a_, fs_, eo_, h⟩ := z_this_spec h
    obtain ⟨w1_, o1_, hF_, ha_⟩ := z_cI_spec h
    refine x_goes hC hRc hRs hFr ha_ (z_goV (As := []) hC hZ zc4 eo_ (k_ArrayList_size hT hfl hE _ _ hF_) t_308 t_309 t_310 t_7 t_311 ⟨by decide, by decide, (by decide +kernel : (parseMethodDescriptor y_ArrayList_size.desc).map (fun d => d.parameters.length) = some 0)⟩ (by rw [hRt.1]; decide) (by rw [hRt.2]; decide) hl.1 rfl (by first | exact Nat.le_of_ble_eq_true rfl | simp [z_rfc, z_ci, z_cj]) d_AckBook_Sent_forget_7) (fun v_ hv H locs cells slots hZ => ?_)
    obtain ⟨v3, rfl, h⟩ := hv
    generalize w1_ = w at h hZ
    refine lv_icmp_ge (tgt := 43) hC.1 hC.2.1 d_AckBook_Sent_forget_10 (by decide) (fun hc => ?_) (fun hc => ?_)
    · have h := z_ifp hc h
      refine x_aload_n hC d_AckBook_Sent_forget_43 rfl (lv_at hl 0 rfl) ?_
      refine lv_iconst (v := (0 : Int32)) hC.1 hC.2.1 d_AckBook_Sent_forget_44 (by decide) ?_
      refine x_put hC hZ zc2 h (by decide) t_91 (fun _ h9 => h9) rfl rfl rfl rfl d_AckBook_Sent_forget_45 (fun w H locs hZ h => ?_)
      refine x_aload_n hC d_AckBook_Sent_forget_48 rfl (lv_at hl 0 rfl) ?_
      refine lv_iconst (v := (0 : Int32)) hC.1 hC.2.1 d_AckBook_Sent_forget_49 (by decide) ?_
      refine x_put hC hZ zc2 h (by decide) t_93 (fun _ h9 => h9) rfl rfl rfl rfl d_AckBook_Sent_forget_50 (fun w H locs hZ h => ?_)
      refine x_aload_n hC d_AckBook_Sent_forget_53 rfl (lv_at hl 0 rfl) ?_
      refine lv_iconst (v := (-1 : Int32)) hC.1 hC.2.1 d_AckBook_Sent_forget_54 (by decide) ?_
      refine x_put hC hZ zc2 h (by decide) t_97 (fun _ h9 => h9) rfl rfl rfl rfl d_AckBook_Sent_forget_55 (fun w H locs hZ h => ?_)
      refine x_aload_n hC d_AckBook_Sent_forget_58 rfl (lv_at hl 0 rfl) ?_
      refine lv_iconst (v := (-1 : Int32)) hC.1 hC.2.1 d_AckBook_Sent_forget_59 (by decide) ?_
      refine x_put hC hZ zc2 h (by decide) t_99 (fun _ h9 => h9) rfl rfl rfl rfl d_AckBook_Sent_forget_60 (fun w H locs hZ h => ?_)
      refine x_aload_n hC d_AckBook_Sent_forget_63 rfl (lv_at hl 0 rfl) ?_
      refine x_getR hC hZ zc2 h (by decide) t_86 (fun _ h9 => h9) d_AckBook_Sent_forget_64 (fun r4 h => ?_)
      obtain ⟨a_, fs_, eo_, h⟩ := z_this_spec h
      obtain ⟨w1_, o1_, hF_, ha_⟩ := z_cV_spec h
      refine x_goes hC hRc hRs hFr ha_ (z_goV (As := []) hC hZ zc3 eo_ (k_AckBook_Chain_clear hT hfl hE _ _ hF_) t_690 t_691 t_692 t_4 t_693 ⟨by decide, by decide, (by decide +kernel : (parseMethodDescriptor y_AckBook_Chain_clear.desc).map (fun d => d.parameters.length) = some 0)⟩ (by rw [hRt.1]; decide) (by rw [hRt.2]; decide) hl.1 rfl (by first | exact Nat.le_of_ble_eq_true rfl | simp [z_rfc, z_ci, z_cj]) d_AckBook_Sent_forget_67) (fun v_ hv H locs cells slots hZ => ?_)
      obtain ⟨rfl, h⟩ := hv
      generalize w1_ = w at h hZ
      refine x_aload_n hC d_AckBook_Sent_forget_70 rfl (lv_at hl 0 rfl) ?_
      refine x_getR hC hZ zc2 h (by decide) t_88 (fun _ h9 => h9) d_AckBook_Sent_forget_71 (fun r6 h => ?_)
      obtain ⟨a_, fs_, eo_, h⟩ := z_this_spec h
      obtain ⟨w1_, o1_, hF_, ha_⟩ := z_cV_spec h
      refine x_goes hC hRc hRs hFr ha_ (z_goV (As := []) hC hZ zc3 eo_ (k_AckBook_Chain_clear hT hfl hE _ _ hF_) t_690 t_691 t_692 t_4 t_693 ⟨by decide, by decide, (by decide +kernel : (parseMethodDescriptor y_AckBook_Chain_clear.desc).map (fun d => d.parameters.length) = some 0)⟩ (by rw [hRt.1]; decide) (by rw [hRt.2]; decide) hl.1 rfl (by first | exact Nat.le_of_ble_eq_true rfl | simp [z_rfc, z_ci, z_cj]) d_AckBook_Sent_forget_74) (fun v_ hv H locs cells slots hZ => ?_)
      obtain ⟨rfl, h⟩ := hv
      generalize w1_ = w at h hZ
      exact x_vret hC hRc hRs hZ hr h d_AckBook_Sent_forget_77
    · have h := z_ifn hc h
      refine x_aload_n hC d_AckBook_Sent_forget_13 rfl (lv_at hl 0 rfl) ?_
      refine x_getR hC hZ zc2 h (by decide) t_90 (fun _ h9 => h9) d_AckBook_Sent_forget_14 (fun r8 h => ?_)
      refine lv_iload_n hC.1 hC.2.1 d_AckBook_Sent_forget_17 rfl (lv_at hl 2 rfl) ?_
      obtain ⟨a_, fs_, eo_, h⟩ := z_this_spec h
      obtain ⟨w1_, o1_, hF_, ha_⟩ := z_cR_spec h
      refine x_goes hC hRc hRs hFr ha_ (z_goV (As := [.int xL2]) hC hZ zc4 eo_ (k_ArrayList_get hT hfl hE _ _ hF_) t_312 t_313 t_314 t_7 t_315 ⟨by decide, by decide, (by decide +kernel : (parseMethodDescriptor y_ArrayList_get.desc).map (fun d => d.parameters.length) = some 1)⟩ (by rw [hRt.1]; decide) (by rw [hRt.2]; decide) hl.1 rfl (by first | exact Nat.le_of_ble_eq_true rfl | simp [z_rfc, z_ci, z_cj]) d_AckBook_Sent_forget_18) (fun v_ hv H locs cells slots hZ => ?_)
      obtain ⟨r10, rfl, h⟩ := hv
      generalize w1_ = w at h hZ
      refine x_cast hC hZ zc9 h t_326 d_AckBook_Sent_forget_21 (fun h => ?_)
      refine x_astore_n (i := 3) (lv' := [(3, va_rf r10), (0, va_rf rL0), (1, va_rf rL1), (2, .int xL2)]) hC d_AckBook_Sent_forget_24 rfl hl (by decide) (by first | rfl | simp [z_rfc, z_ci, z_cj]) (fun ls hl => ?_)
      refine x_aload_n hC d_AckBook_Sent_forget_25 rfl (lv_at hl 0 rfl) ?_
      refine x_getI hC hZ zc9 h (by decide) t_501 (fun _ h9 => h9) d_AckBook_Sent_forget_26 (fun v11 h => ?_)
      refine lv_if_ne (tgt := 37) hC.1 hC.2.1 d_AckBook_Sent_forget_29 (by decide) (fun hc => ?_) (fun hc => ?_)
      · have h := z_ifn hc h
        refine lv_iinc (lv' := [(2, .int (xL2 + (1 : Int32))), (3, va_rf r10), (0, va_rf rL0), (1, va_rf rL1)]) hC.1 hC.2.1 d_AckBook_Sent_forget_37 hl (k := 3) rfl rfl (by decide) (by first | rfl | simp [z_rfc, z_ci, z_cj]) (fun ls hl => ?_)
        refine lv_goto (tgt := 2) hC.1 hC.2.1 d_AckBook_Sent_forget_40 (by decide) ?_
        exact ih _ _ _ _ _ h _ _ _ _ _ hZ (lv_sub hl [2, 3, 0] rfl)
      · have h := z_ifp hc h
        refine x_aload_n hC d_AckBook_Sent_forget_32 rfl (lv_at hl 2 rfl) ?_
        refine x_aload_n hC d_AckBook_Sent_forget_33 rfl (lv_at hl 0 rfl) ?_
        obtain ⟨a_, fs_, eo_, h⟩ := z_this_spec h
        obtain ⟨w1_, o1_, hF_, ha_⟩ := z_cV_spec h
        refine x_goes hC hRc hRs hFr ha_ (z_goV (As := [va_rf r10]) hC hZ zc8 eo_ (k_AckBook_Flow_leave hT hfl hE _ _ hF_) t_689 t_340 t_341 t_11 t_342 ⟨by decide, by decide, (by decide +kernel : (parseMethodDescriptor y_AckBook_Flow_leave.desc).map (fun d => d.parameters.length) = some 1)⟩ (by rw [hRt.1]; decide) (by rw [hRt.2]; decide) hl.1 rfl (by first | exact Nat.le_of_ble_eq_true rfl | simp [z_rfc, z_ci, z_cj]) d_AckBook_Sent_forget_34) (fun v_ hv H locs cells slots hZ => ?_)
        obtain ⟨rfl, h⟩ := hv
        generalize w1_ = w at h hZ
        refine lv_iinc (lv' := [(2, .int (xL2 + (1 : Int32))), (3, va_rf r10), (0, va_rf rL0), (1, va_rf rL1)]) hC.1 hC.2.1 d_AckBook_Sent_forget_37 hl (k := 3) rfl rfl (by decide) (by first | rfl | simp [z_rfc, z_ci, z_cj]) (fun ls hl => ?_)
        refine lv_goto (tgt := 2) hC.1 hC.2.1 d_AckBook_Sent_forget_40 (by decide) ?_
        exact ih _ _ _ _ _ h _ _ _ _ _ hZ (lv_sub hl [2, 3, 0] rfl)
def f_AckBook_Sent_forget (F X : Nat) (a0 : Option Nat) (pR1 : Option Nat) (w : zW) : zR :=
  (j_AckBook_Sent_forget F X F) a0 pR1 (0 : Int32) w
set_option maxHeartbeats 4000000 in
set_option maxRecDepth 100000 in
theorem k_AckBook_Sent_forget {b0 : Nat} {H0 : Heap} {D : va_G} {vu vs : Value} {X M : Nat} {l : Launch} (hT : z_TB (zGG b0 H0 D vu vs X M)) (hfl : l.flags = pinnedFlags ++ [noTraceFlag]) (hE : vu.isRef = true ∧ vs.isRef = true) {a0 : Option Nat} {pR1 : Option Nat} (F : Nat) {w : zW} (res : zO × zW) (h : f_AckBook_Sent_forget F X a0 pR1 w = some res) : z_Ct (zGG b0 H0 D vu vs X M) l y_AckBook_Sent_forget (.code y_AckBook_Sent_forget c_AckBook_Sent_forget 4 (none)) 3 64 [va_rf a0, va_rf pR1] w res := by
  refine z_ct hT hfl (by decide) (by simp only [z_sl_i, z_sl_j, z_sl_r, z_sl_n]; decide) ?_
  intro p e R s m args below meth c hC hr hRc hRs hRt hnm hFr H ls hZ hl
  simp only [z_la_i, z_la_j, z_la_r, z_la_n] at hl
  have hl : lv_has ls 4 [(0, va_rf a0), (1, va_rf pR1)] := hl
  unfold f_AckBook_Sent_forget at h
  refine lv_iconst (v := (0 : Int32)) hC.1 hC.2.1 d_AckBook_Sent_forget_0 (by decide) ?_
  refine lv_istore_n (i := 2) (lv' := [(2, .int (0 : Int32)), (0, va_rf a0), (1, va_rf pR1)]) hC.1 hC.2.1 d_AckBook_Sent_forget_1 rfl hl (by decide) (by first | rfl | simp [z_rfc, z_ci, z_cj]) (fun ls hl => ?_)
  exact (kj_AckBook_Sent_forget hT hfl hE hC hr hRc hRs hFr hRt hnm F) _ _ _ _ _ h _ _ _ _ _ hZ (lv_sub hl [1, 2, 0] rfl)
def f_AckBook_Arrivals_forget (F X : Nat) (a0 : Option Nat) (w : zW) : zR :=
  z_put w 5 2 a0 (.int (0 : Int32)) fun w =>
  z_put w 5 3 a0 (.long (0 : Int64)) fun w =>
  z_put w 5 4 a0 (.int (0 : Int32)) fun w =>
  z_putZ w 5 6 a0 (0 : Int32) fun w =>
  some (.inl none, w)
set_option maxHeartbeats 4000000 in
set_option maxRecDepth 100000 in
theorem k_AckBook_Arrivals_forget {b0 : Nat} {H0 : Heap} {D : va_G} {vu vs : Value} {X M : Nat} {l : Launch} (hT : z_TB (zGG b0 H0 D vu vs X M)) (hfl : l.flags = pinnedFlags ++ [noTraceFlag]) (hE : vu.isRef = true ∧ vs.isRef = true) {a0 : Option Nat} (F : Nat) {w : zW} (res : zO × zW) (h : f_AckBook_Arrivals_forget F X a0 w = some res) : z_Ct (zGG b0 H0 D vu vs X M) l y_AckBook_Arrivals_forget (.code y_AckBook_Arrivals_forget c_AckBook_Arrivals_forget 1 (none)) 0 0 [va_rf a0] w res := by
  refine z_ct hT hfl (by decide) (by simp only [z_sl_i, z_sl_j, z_sl_r, z_sl_n]; decide) ?_
  intro p e R s m args below meth c hC hr hRc hRs hRt hnm hFr H ls hZ hl
  simp only [z_la_i, z_la_j, z_la_r, z_la_n] at hl
  have hl : lv_has ls 1 [(0, va_rf a0)] := hl
  unfold f_AckBook_Arrivals_forget at h
  refine x_aload_n hC d_AckBook_Arrivals_forget_0 rfl (lv_at hl 0 rfl) ?_
  refine lv_iconst (v := (0 : Int32)) hC.1 hC.2.1 d_AckBook_Arrivals_forget_1 (by decide) ?_
  refine x_put hC hZ zc5 h (by decide) t_128 (fun _ h9 => h9) rfl rfl rfl rfl d_AckBook_Arrivals_forget_2 (fun w H locs hZ h => ?_)
  refine x_aload_n hC d_AckBook_Arrivals_forget_5 rfl (lv_at hl 0 rfl) ?_
  refine lv_lconst (v := (0 : Int64)) hC.1 hC.2.1 d_AckBook_Arrivals_forget_6 (by decide) ?_
  refine x_put hC hZ zc5 h (by decide) t_130 (fun _ h9 => h9) rfl rfl rfl rfl d_AckBook_Arrivals_forget_7 (fun w H locs hZ h => ?_)
  refine x_aload_n hC d_AckBook_Arrivals_forget_10 rfl (lv_at hl 0 rfl) ?_
  refine lv_iconst (v := (0 : Int32)) hC.1 hC.2.1 d_AckBook_Arrivals_forget_11 (by decide) ?_
  refine x_put hC hZ zc5 h (by decide) t_132 (fun _ h9 => h9) rfl rfl rfl rfl d_AckBook_Arrivals_forget_12 (fun w H locs hZ h => ?_)
  refine x_aload_n hC d_AckBook_Arrivals_forget_15 rfl (lv_at hl 0 rfl) ?_
  refine lv_iconst (v := (0 : Int32)) hC.1 hC.2.1 d_AckBook_Arrivals_forget_16 (by decide) ?_
  refine x_putZ hC hZ zc5 h (by decide) t_135 (fun _ h9 => h9) rfl rfl d_AckBook_Arrivals_forget_17 (fun w H locs hZ h => ?_)
  exact x_vret hC hRc hRs hZ hr h d_AckBook_Arrivals_forget_20
def f_AckBook_discard (F X : Nat) (a0 : Option Nat) (pI1 : Int32) (w : zW) : zR :=
  z_this w 0 a0 <|
  z_cR (f_AckBook_known F X a0 pI1 w) fun r2 w =>
  z_cV (f_AckBook_refuseDiscarded F X r2 w) fun w =>
  z_putZ w 1 3 r2 (1 : Int32) fun w =>
  z_getR w 1 1 r2 fun r4 =>
  z_getR w 0 3 a0 fun r5 =>
  z_this w 2 r4 <|
  z_cV (f_AckBook_Sent_forget F X r4 r5 w) fun w =>
  z_getR w 1 2 r2 fun r7 =>
  z_this w 5 r7 <|
  z_cV (f_AckBook_Arrivals_forget F X r7 w) fun w =>
  z_put w 0 5 a0 (.int (0 : Int32)) fun w =>
  some (.inl none, w)
set_option maxHeartbeats 4000000 in
set_option maxRecDepth 100000 in
theorem k_AckBook_discard {b0 : Nat} {H0 : Heap} {D : va_G} {vu vs : Value} {X M : Nat} {l : Launch} (hT : z_TB (zGG b0 H0 D vu vs X M)) (hfl : l.flags = pinnedFlags ++ [noTraceFlag]) (hE : vu.isRef = true ∧ vs.isRef = true) {a0 : Option Nat} {pI1 : Int32} (F : Nat) {w : zW} (res : zO × zW) (h : f_AckBook_discard F X a0 pI1 w = some res) : z_Ct (zGG b0 H0 D vu vs X M) l y_AckBook_discard (.code y_AckBook_discard c_AckBook_discard 3 (none)) 7 121 [va_rf a0, .int pI1] w res := by
  refine z_ct hT hfl (by decide) (by simp only [z_sl_i, z_sl_j, z_sl_r, z_sl_n]; decide) ?_
  intro p e R s m args below meth c hC hr hRc hRs hRt hnm hFr H ls hZ hl
  simp only [z_la_i, z_la_j, z_la_r, z_la_n] at hl
  have hl : lv_has ls 3 [(0, va_rf a0), (1, .int pI1)] := hl
  unfold f_AckBook_discard at h
  refine x_aload_n hC d_AckBook_discard_0 rfl (lv_at hl 0 rfl) ?_
  refine lv_iload_n hC.1 hC.2.1 d_AckBook_discard_1 rfl (lv_at hl 1 rfl) ?_
  obtain ⟨a_, fs_, eo_, h⟩ := z_this_spec h
  obtain ⟨w1_, o1_, hF_, ha_⟩ := z_cR_spec h
  refine x_goes hC hRc hRs hFr ha_ (z_goV (As := [.int pI1]) hC hZ zc0 eo_ (k_AckBook_known hT hfl hE _ _ hF_) t_380 t_382 ts_AckBook_known t_1 t_383 ⟨by decide, by decide, (by decide +kernel : (parseMethodDescriptor y_AckBook_known.desc).map (fun d => d.parameters.length) = some 1)⟩ (by rw [hRt.1]; decide) (by rw [hRt.2]; decide) hl.1 rfl (by first | exact Nat.le_of_ble_eq_true rfl | simp [z_rfc, z_ci, z_cj]) d_AckBook_discard_2) (fun v_ hv H locs cells slots hZ => ?_)
  obtain ⟨r2, rfl, h⟩ := hv
  generalize w1_ = w at h hZ
  refine x_astore_n (i := 2) (lv' := [(2, va_rf r2), (0, va_rf a0), (1, .int pI1)]) hC d_AckBook_discard_5 rfl hl (by decide) (by first | rfl | simp [z_rfc, z_ci, z_cj]) (fun ls hl => ?_)
  refine x_aload_n hC d_AckBook_discard_6 rfl (lv_at hl 0 rfl) ?_
  obtain ⟨w1_, o1_, hF_, ha_⟩ := z_cV_spec h
  refine x_goes hC hRc hRs hFr ha_ (z_goS (As := [va_rf r2]) hC hZ (k_AckBook_refuseDiscarded hT hfl hE _ _ hF_) t_454 t_455 t_1 t_456 ⟨by decide, by decide, (by decide +kernel : (parseMethodDescriptor y_AckBook_refuseDiscarded.desc).map (fun d => d.parameters.length) = some 1)⟩ (by rw [hRt.1]; decide) (by rw [hRt.2]; decide) hl.1 rfl (by first | exact Nat.le_of_ble_eq_true rfl | simp [z_rfc, z_ci, z_cj]) d_AckBook_discard_7) (fun v_ hv H locs cells slots hZ => ?_)
  obtain ⟨rfl, h⟩ := hv
  generalize w1_ = w at h hZ
  refine x_aload_n hC d_AckBook_discard_10 rfl (lv_at hl 0 rfl) ?_
  refine lv_iconst (v := (1 : Int32)) hC.1 hC.2.1 d_AckBook_discard_11 (by decide) ?_
  refine x_putZ hC hZ zc1 h (by decide) t_161 (fun _ h9 => h9) rfl rfl d_AckBook_discard_12 (fun w H locs hZ h => ?_)
  refine x_aload_n hC d_AckBook_discard_15 rfl (lv_at hl 0 rfl) ?_
  refine x_getR hC hZ zc1 h (by decide) t_158 (fun _ h9 => h9) d_AckBook_discard_16 (fun r4 h => ?_)
  refine x_aload_n hC d_AckBook_discard_19 rfl (lv_at hl 1 rfl) ?_
  refine x_getR hC hZ zc0 h (by decide) t_244 (fun _ h9 => h9) d_AckBook_discard_20 (fun r5 h => ?_)
  obtain ⟨a_, fs_, eo_, h⟩ := z_this_spec h
  obtain ⟨w1_, o1_, hF_, ha_⟩ := z_cV_spec h
  refine x_goes hC hRc hRs hFr ha_ (z_goV (As := [va_rf r5]) hC hZ zc2 eo_ (k_AckBook_Sent_forget hT hfl hE _ _ hF_) t_685 t_686 t_687 t_3 t_688 ⟨by decide, by decide, (by decide +kernel : (parseMethodDescriptor y_AckBook_Sent_forget.desc).map (fun d => d.parameters.length) = some 1)⟩ (by rw [hRt.1]; decide) (by rw [hRt.2]; decide) hl.1 rfl (by first | exact Nat.le_of_ble_eq_true rfl | simp [z_rfc, z_ci, z_cj]) d_AckBook_discard_23) (fun v_ hv H locs cells slots hZ => ?_)
  obtain ⟨rfl, h⟩ := hv
  generalize w1_ = w at h hZ
  refine x_aload_n hC d_AckBook_discard_26 rfl (lv_at hl 0 rfl) ?_
  refine x_getR hC hZ zc1 h (by decide) t_160 (fun _ h9 => h9) d_AckBook_discard_27 (fun r7 h => ?_)
  obtain ⟨a_, fs_, eo_, h⟩ := z_this_spec h
  obtain ⟨w1_, o1_, hF_, ha_⟩ := z_cV_spec h
  refine x_goes hC hRc hRs hFr ha_ (z_goV (As := []) hC hZ zc5 eo_ (k_AckBook_Arrivals_forget hT hfl hE _ _ hF_) t_694 t_695 t_696 t_8 t_697 ⟨by decide, by decide, (by decide +kernel : (parseMethodDescriptor y_AckBook_Arrivals_forget.desc).map (fun d => d.parameters.length) = some 0)⟩ (by rw [hRt.1]; decide) (by rw [hRt.2]; decide) hl.1 rfl (by first | exact Nat.le_of_ble_eq_true rfl | simp [z_rfc, z_ci, z_cj]) d_AckBook_discard_30) (fun v_ hv H locs cells slots hZ => ?_)
  obtain ⟨rfl, h⟩ := hv
  generalize w1_ = w at h hZ
  refine x_aload_n hC d_AckBook_discard_33 rfl (lv_at hl 1 rfl) ?_
  refine lv_iconst (v := (0 : Int32)) hC.1 hC.2.1 d_AckBook_discard_34 (by decide) ?_
  refine x_put hC hZ zc0 h (by decide) t_246 (fun _ h9 => h9) rfl rfl rfl rfl d_AckBook_discard_35 (fun w H locs hZ h => ?_)
  exact x_vret hC hRc hRs hZ hr h d_AckBook_discard_38
def f_AckBookLaw_discard (F X : Nat) (pR1 : Option Nat) (pI2 : Int32) (w : zW) : zR :=
  z_this w 0 pR1 <|
  z_tV (f_AckBook_discard F X pR1 pI2 w) (fun w =>
    some (.inl (some (.int (0 : Int32))), w))
    (fun ci w => if ci = 11 then (some (.inl (some (.int (1 : Int32))), w)) else if ci = 12 then (some (.inl (some (.int (2 : Int32))), w)) else none)
set_option maxHeartbeats 4000000 in
set_option maxRecDepth 100000 in
theorem k_AckBookLaw_discard {b0 : Nat} {H0 : Heap} {D : va_G} {vu vs : Value} {X M : Nat} {l : Launch} (hT : z_TB (zGG b0 H0 D vu vs X M)) (hfl : l.flags = pinnedFlags ++ [noTraceFlag]) (hE : vu.isRef = true ∧ vs.isRef = true) {pR1 : Option Nat} {pI2 : Int32} (F : Nat) {w : zW} (res : zO × zW) (h : f_AckBookLaw_discard F X pR1 pI2 w = some res) : z_Ct (zGG b0 H0 D vu vs X M) l y_AckBookLaw_discard (.codeWith y_AckBookLaw_discard c_AckBookLaw_discard 3 (some FieldType.int) [(0, 5, 8, 13), (0, 5, 11, 15)]) 8 143 [va_rf pR1, .int pI2] w res := by
  refine z_ctW hT hfl (by decide) (by simp only [z_sl_i, z_sl_j, z_sl_r, z_sl_n]; decide) ?_
  intro p e R s m args below meth c hC hr hRc hRs hRt hnm hFr H ls hZ hl
  simp only [z_la_i, z_la_j, z_la_r, z_la_n] at hl
  have hl : lv_has ls 3 [(0, va_rf pR1), (1, .int pI2)] := hl
  unfold f_AckBookLaw_discard at h
  refine x_aload_n hC d_AckBookLaw_discard_0 rfl (lv_at hl 0 rfl) ?_
  refine lv_iload_n hC.1 hC.2.1 d_AckBookLaw_discard_1 rfl (lv_at hl 1 rfl) ?_
  obtain ⟨a_, fs_, eo_, h⟩ := z_this_spec h
  obtain ⟨w1_, o1_, hF_, ha_⟩ := z_tV_spec h
  refine x_goesT hC hFr ha_ (z_goV (As := [.int pI2]) hC hZ zc0 eo_ (k_AckBook_discard hT hfl hE _ _ hF_) t_681 t_682 t_683 t_1 t_684 ⟨by decide, by decide, (by decide +kernel : (parseMethodDescriptor y_AckBook_discard.desc).map (fun d => d.parameters.length) = some 1)⟩ (by rw [hRt.1]; decide) (by rw [hRt.2]; decide) hl.1 rfl (by first | exact Nat.le_of_ble_eq_true rfl | simp [z_rfc, z_ci, z_cj]) d_AckBookLaw_discard_2) (fun v_ hv H locs cells slots hZ => ?_) (fun ci_ h => ?_)
  · obtain ⟨rfl, h⟩ := hv
    generalize w1_ = w at h hZ
    refine lv_goto (tgt := 14) hC.1 hC.2.1 d_AckBookLaw_discard_5 (by decide) ?_
    refine lv_iconst (v := (0 : Int32)) hC.1 hC.2.1 d_AckBookLaw_discard_14 (by decide) ?_
    exact x_iret hC hRc hRs hZ hr rfl h d_AckBookLaw_discard_15
  · by_cases hq0 : ci_ = 11
    · have h := z_ifp hq0 h
      subst hq0
      refine ⟨_, _, _, 8, rfl, ⟨⟨by decide, by decide⟩, by decide, _, t_374, Or.inl ⟨t_386, rfl⟩⟩, fun x_ H locs cells slots hZ => ?_⟩
      generalize w1_ = w at h hZ
      refine x_astore_n (i := 2) (lv' := [(2, va_rf (some x_)), (0, va_rf pR1), (1, .int pI2)]) hC d_AckBookLaw_discard_8 rfl hl (by decide) (by first | rfl | simp [z_rfc, z_ci, z_cj]) (fun ls hl => ?_)
      refine lv_iconst (v := (1 : Int32)) hC.1 hC.2.1 d_AckBookLaw_discard_9 (by decide) ?_
      exact x_iret hC hRc hRs hZ hr rfl h d_AckBookLaw_discard_10
    have h := z_ifn hq0 h
    by_cases hq1 : ci_ = 12
    · have h := z_ifp hq1 h
      subst hq1
      refine ⟨_, _, _, 11, rfl, ⟨⟨by decide, by decide⟩, by decide, _, t_374, Or.inr ⟨tn_0, ⟨⟨by decide, by decide⟩, by decide, _, t_375, Or.inl ⟨t_459, rfl⟩⟩⟩⟩, fun x_ H locs cells slots hZ => ?_⟩
      generalize w1_ = w at h hZ
      refine x_astore_n (i := 2) (lv' := [(2, va_rf (some x_)), (0, va_rf pR1), (1, .int pI2)]) hC d_AckBookLaw_discard_11 rfl hl (by decide) (by first | rfl | simp [z_rfc, z_ci, z_cj]) (fun ls hl => ?_)
      refine lv_iconst (v := (2 : Int32)) hC.1 hC.2.1 d_AckBookLaw_discard_12 (by decide) ?_
      exact x_iret hC hRc hRs hZ hr rfl h d_AckBookLaw_discard_13
    have h := z_ifn hq1 h
    cases h
def f_AckBook_Chain_removeFirst (F X : Nat) (a0 : Option Nat) (w : zW) : zR :=
  z_getR w 3 0 a0 fun r1 =>
  if r1 = none then (
    some (.inl (some (.int (-1 : Int32))), w))
  else (
    z_getR w 3 0 a0 fun r2 =>
    z_getI w 9 0 r2 fun v3 =>
    z_getR w 3 0 a0 fun r4 =>
    z_getR w 9 7 r4 fun r5 =>
    z_put w 3 0 a0 (va_rf r5) fun w =>
    some (.inl (some (.int v3)), w))
set_option maxHeartbeats 4000000 in
set_option maxRecDepth 100000 in
theorem k_AckBook_Chain_removeFirst {b0 : Nat} {H0 : Heap} {D : va_G} {vu vs : Value} {X M : Nat} {l : Launch} (hT : z_TB (zGG b0 H0 D vu vs X M)) (hfl : l.flags = pinnedFlags ++ [noTraceFlag]) (hE : vu.isRef = true ∧ vs.isRef = true) {a0 : Option Nat} (F : Nat) {w : zW} (res : zO × zW) (h : f_AckBook_Chain_removeFirst F X a0 w = some res) : z_Ct (zGG b0 H0 D vu vs X M) l y_AckBook_Chain_removeFirst (.code y_AckBook_Chain_removeFirst c_AckBook_Chain_removeFirst 2 (some FieldType.int)) 0 0 [va_rf a0] w res := by
  refine z_ct hT hfl (by decide) (by simp only [z_sl_i, z_sl_j, z_sl_r, z_sl_n]; decide) ?_
  intro p e R s m args below meth c hC hr hRc hRs hRt hnm hFr H ls hZ hl
  simp only [z_la_i, z_la_j, z_la_r, z_la_n] at hl
  have hl : lv_has ls 2 [(0, va_rf a0)] := hl
  unfold f_AckBook_Chain_removeFirst at h
  refine x_aload_n hC d_AckBook_Chain_removeFirst_0 rfl (lv_at hl 0 rfl) ?_
  refine x_getR hC hZ zc3 h (by decide) t_53 (fun _ h9 => h9) d_AckBook_Chain_removeFirst_1 (fun r1 h => ?_)
  refine x_ifnonnull (tgt := 9) hC d_AckBook_Chain_removeFirst_4 (by decide) (fun hc => ?_) (fun hc => ?_)
  · have h := z_ifn hc h
    refine x_aload_n hC d_AckBook_Chain_removeFirst_9 rfl (lv_at hl 0 rfl) ?_
    refine x_getR hC hZ zc3 h (by decide) t_53 (fun _ h9 => h9) d_AckBook_Chain_removeFirst_10 (fun r2 h => ?_)
    refine x_getI hC hZ zc9 h (by decide) t_486 (fun _ h9 => h9) d_AckBook_Chain_removeFirst_13 (fun v3 h => ?_)
    refine lv_istore_n (i := 1) (lv' := [(1, .int v3), (0, va_rf a0)]) hC.1 hC.2.1 d_AckBook_Chain_removeFirst_16 rfl hl (by decide) (by first | rfl | simp [z_rfc, z_ci, z_cj]) (fun ls hl => ?_)
    refine x_aload_n hC d_AckBook_Chain_removeFirst_17 rfl (lv_at hl 1 rfl) ?_
    refine x_aload_n hC d_AckBook_Chain_removeFirst_18 rfl (lv_at hl 1 rfl) ?_
    refine x_getR hC hZ zc3 h (by decide) t_53 (fun _ h9 => h9) d_AckBook_Chain_removeFirst_19 (fun r4 h => ?_)
    refine x_getR hC hZ zc9 h (by decide) t_503 (fun _ h9 => h9) d_AckBook_Chain_removeFirst_22 (fun r5 h => ?_)
    refine x_put hC hZ zc3 h (by decide) t_53 (fun _ h9 => h9) rfl rfl (z_rfn _ _) (z_rff _ _) d_AckBook_Chain_removeFirst_25 (fun w H locs hZ h => ?_)
    refine lv_iload_n hC.1 hC.2.1 d_AckBook_Chain_removeFirst_28 rfl (lv_at hl 0 rfl) ?_
    exact x_iret hC hRc hRs hZ hr rfl h d_AckBook_Chain_removeFirst_29
  · have h := z_ifp hc h
    refine lv_iconst (v := (-1 : Int32)) hC.1 hC.2.1 d_AckBook_Chain_removeFirst_7 (by decide) ?_
    exact x_iret hC hRc hRs hZ hr rfl h d_AckBook_Chain_removeFirst_8
def f_AckBook_next (F X : Nat) (a0 : Option Nat) (pI1 : Int32) (pI2 : Int32) (w : zW) : zR :=
  z_this w 0 a0 <|
  z_cR (f_AckBook_known F X a0 pI1 w) fun r2 w =>
  z_getR w 1 1 r2 fun r3 =>
  if pI2 = 0 then (
    z_getR w 2 0 r3 fun r4 =>
    z_this w 3 r4 <|
    z_cI (f_AckBook_Chain_removeFirst F X r4 w) fun v6 w =>
    some (.inl (some (.int v6)), w))
  else (
    z_getR w 2 1 r3 fun r7 =>
    z_this w 3 r7 <|
    z_cI (f_AckBook_Chain_removeFirst F X r7 w) fun v9 w =>
    some (.inl (some (.int v9)), w))
set_option maxHeartbeats 4000000 in
set_option maxRecDepth 100000 in
theorem k_AckBook_next {b0 : Nat} {H0 : Heap} {D : va_G} {vu vs : Value} {X M : Nat} {l : Launch} (hT : z_TB (zGG b0 H0 D vu vs X M)) (hfl : l.flags = pinnedFlags ++ [noTraceFlag]) (hE : vu.isRef = true ∧ vs.isRef = true) {a0 : Option Nat} {pI1 : Int32} {pI2 : Int32} (F : Nat) {w : zW} (res : zO × zW) (h : f_AckBook_next F X a0 pI1 pI2 w = some res) : z_Ct (zGG b0 H0 D vu vs X M) l y_AckBook_next (.code y_AckBook_next c_AckBook_next 4 (some FieldType.int)) 7 121 [va_rf a0, .int pI1, .int pI2] w res := by
  refine z_ct hT hfl (by decide) (by simp only [z_sl_i, z_sl_j, z_sl_r, z_sl_n]; decide) ?_
  intro p e R s m args below meth c hC hr hRc hRs hRt hnm hFr H ls hZ hl
  simp only [z_la_i, z_la_j, z_la_r, z_la_n] at hl
  have hl : lv_has ls 4 [(0, va_rf a0), (1, .int pI1), (2, .int pI2)] := hl
  unfold f_AckBook_next at h
  refine x_aload_n hC d_AckBook_next_0 rfl (lv_at hl 0 rfl) ?_
  refine lv_iload_n hC.1 hC.2.1 d_AckBook_next_1 rfl (lv_at hl 1 rfl) ?_
  obtain ⟨a_, fs_, eo_, h⟩ := z_this_spec h
  obtain ⟨w1_, o1_, hF_, ha_⟩ := z_cR_spec h
  refine x_goes hC hRc hRs hFr ha_ (z_goV (As := [.int pI1]) hC hZ zc0 eo_ (k_AckBook_known hT hfl hE _ _ hF_) t_380 t_382 ts_AckBook_known t_1 t_383 ⟨by decide, by decide, (by decide +kernel : (parseMethodDescriptor y_AckBook_known.desc).map (fun d => d.parameters.length) = some 1)⟩ (by rw [hRt.1]; decide) (by rw [hRt.2]; decide) hl.1 rfl (by first | exact Nat.le_of_ble_eq_true rfl | simp [z_rfc, z_ci, z_cj]) d_AckBook_next_2) (fun v_ hv H locs cells slots hZ => ?_)
  obtain ⟨r2, rfl, h⟩ := hv
  generalize w1_ = w at h hZ
  refine x_getR hC hZ zc1 h (by decide) t_158 (fun _ h9 => h9) d_AckBook_next_5 (fun r3 h => ?_)
  refine x_astore_n (i := 3) (lv' := [(3, va_rf r3), (0, va_rf a0), (1, .int pI1), (2, .int pI2)]) hC d_AckBook_next_8 rfl hl (by decide) (by first | rfl | simp [z_rfc, z_ci, z_cj]) (fun ls hl => ?_)
  refine lv_iload_n hC.1 hC.2.1 d_AckBook_next_9 rfl (lv_at hl 3 rfl) ?_
  refine lv_if_eq (tgt := 23) hC.1 hC.2.1 d_AckBook_next_10 (by decide) (fun hc => ?_) (fun hc => ?_)
  · have h := z_ifp hc h
    refine x_aload_n hC d_AckBook_next_23 rfl (lv_at hl 0 rfl) ?_
    refine x_getR hC hZ zc2 h (by decide) t_87 (fun _ h9 => h9) d_AckBook_next_24 (fun r4 h => ?_)
    obtain ⟨a_, fs_, eo_, h⟩ := z_this_spec h
    obtain ⟨w1_, o1_, hF_, ha_⟩ := z_cI_spec h
    refine x_goes hC hRc hRs hFr ha_ (z_goV (As := []) hC hZ zc3 eo_ (k_AckBook_Chain_removeFirst hT hfl hE _ _ hF_) t_705 t_706 t_707 t_4 t_708 ⟨by decide, by decide, (by decide +kernel : (parseMethodDescriptor y_AckBook_Chain_removeFirst.desc).map (fun d => d.parameters.length) = some 0)⟩ (by rw [hRt.1]; decide) (by rw [hRt.2]; decide) hl.1 rfl (by first | exact Nat.le_of_ble_eq_true rfl | simp [z_rfc, z_ci, z_cj]) d_AckBook_next_27) (fun v_ hv H locs cells slots hZ => ?_)
    obtain ⟨v6, rfl, h⟩ := hv
    generalize w1_ = w at h hZ
    exact x_iret hC hRc hRs hZ hr rfl h d_AckBook_next_30
  · have h := z_ifn hc h
    refine x_aload_n hC d_AckBook_next_13 rfl (lv_at hl 0 rfl) ?_
    refine x_getR hC hZ zc2 h (by decide) t_89 (fun _ h9 => h9) d_AckBook_next_14 (fun r7 h => ?_)
    obtain ⟨a_, fs_, eo_, h⟩ := z_this_spec h
    obtain ⟨w1_, o1_, hF_, ha_⟩ := z_cI_spec h
    refine x_goes hC hRc hRs hFr ha_ (z_goV (As := []) hC hZ zc3 eo_ (k_AckBook_Chain_removeFirst hT hfl hE _ _ hF_) t_705 t_706 t_707 t_4 t_708 ⟨by decide, by decide, (by decide +kernel : (parseMethodDescriptor y_AckBook_Chain_removeFirst.desc).map (fun d => d.parameters.length) = some 0)⟩ (by rw [hRt.1]; decide) (by rw [hRt.2]; decide) hl.1 rfl (by first | exact Nat.le_of_ble_eq_true rfl | simp [z_rfc, z_ci, z_cj]) d_AckBook_next_17) (fun v_ hv H locs cells slots hZ => ?_)
    obtain ⟨v9, rfl, h⟩ := hv
    generalize w1_ = w at h hZ
    refine lv_goto (tgt := 30) hC.1 hC.2.1 d_AckBook_next_20 (by decide) ?_
    exact x_iret hC hRc hRs hZ hr rfl h d_AckBook_next_30
