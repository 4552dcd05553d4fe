def f_AckBook_came (F X : Nat) (a0 : Option Nat) (pI1 : Int32) (pJ2 : Int64) (pI3 : Int32) (w : zW) : zR :=
  z_this w 0 a0 <|
  z_cR (f_AckBook_known F X a0 pI1 w) fun r2 w =>
  if (lg_cmp pJ2 (0 : Int64)) < 0 then (
    z_thr w 11)
  else (
    if (lg_cmp pJ2 (4611686018427387903 : Int64)) ≤ 0 then (
      z_cV (f_AckBook_refuseDiscarded F X r2 w) fun w =>
      z_getR w 1 2 r2 fun r4 =>
      z_getI w 0 4 a0 fun v5 =>
      z_this w 5 r4 <|
      z_cI (f_AckBook_Arrivals_enter F X r4 pJ2 pI3 v5 w) fun v7 w =>
      z_retZ v7 w)
    else (
      z_thr w 11))
set_option maxHeartbeats 4000000 in
set_option maxRecDepth 100000 in
theorem k_AckBook_came {b0 : Nat} {H0 : Heap} {D : va_G} {vu vs : Value} {X : Nat} {l : Launch} (hT : z_TB (zGG b0 H0 D vu vs X)) (hfl : l.flags = pinnedFlags ++ [noTraceFlag]) (hE : vu.isRef = true ∧ vs.isRef = true) {a0 : Option Nat} {pI1 : Int32} {pJ2 : Int64} {pI3 : Int32} (F : Nat) {w : zW} (res : zO × zW) (h : f_AckBook_came F X a0 pI1 pJ2 pI3 w = some res) : z_Ct (zGG b0 H0 D vu vs X) l y_AckBook_came (.code y_AckBook_came c_AckBook_came 6 (some FieldType.boolean)) 7 121 [va_rf a0, .int pI1, .long pJ2, .int pI3] w res := by
  refine z_ct hT hfl (by decide) (by simp only [z_sl_i, z_sl_j, z_sl_r, z_sl_n]; decide) ?_
  intro p e R s m args below meth c hC hr hRc hRs hRt hnm hFr H ls hZ hl
  simp only [z_la_i, z_la_j, z_la_r, z_la_n] at hl
  have hl : lv_has ls 6 [(0, va_rf a0), (1, .int pI1), (2, .long pJ2), (4, .int pI3)] := hl
  unfold f_AckBook_came at h
  refine x_aload_n hC d_AckBook_came_0 rfl (lv_at hl 0 rfl) ?_
  refine lv_iload_n hC.1 hC.2.1 d_AckBook_came_1 rfl (lv_at hl 1 rfl) ?_
  obtain ⟨a_, fs_, eo_, h⟩ := z_this_spec h
  obtain ⟨w1_, o1_, hF_, ha_⟩ := z_cR_spec h
  refine x_goes hC hRc hRs hFr ha_ (z_goV (As := [.int pI1]) hC hZ zc0 eo_ (k_AckBook_known hT hfl hE _ _ hF_) t_380 t_382 ts_AckBook_known t_1 t_383 ⟨by decide, by decide, (by decide +kernel : (parseMethodDescriptor y_AckBook_known.desc).map (fun d => d.parameters.length) = some 1)⟩ (by rw [hRt.1]; decide) (by rw [hRt.2]; decide) hl.1 rfl (by first | exact Nat.le_of_ble_eq_true rfl | simp [z_rfc, z_ci, z_cj]) d_AckBook_came_2) (fun v_ hv H locs cells slots hZ => ?_)
  obtain ⟨r2, rfl, h⟩ := hv
  generalize w1_ = w at h hZ
  refine x_astore (i := 5) (lv' := [(5, va_rf r2), (0, va_rf a0), (1, .int pI1), (2, .long pJ2), (4, .int pI3)]) hC d_AckBook_came_5 hl (by decide) (by first | rfl | simp [z_rfc, z_ci, z_cj]) (fun ls hl => ?_)
  refine lv_lload_n hC.1 hC.2.1 d_AckBook_came_7 rfl (lv_at hl 3 rfl) ?_
  refine lv_lconst (v := (0 : Int64)) hC.1 hC.2.1 d_AckBook_came_8 (by decide) ?_
  refine W.lcmp hC.1 hC.2.1 d_AckBook_came_9 ?_
  refine lv_if_lt (tgt := 21) hC.1 hC.2.1 d_AckBook_came_10 (by decide) (fun hc => ?_) (fun hc => ?_)
  · have h := z_ifp hc h
    exact x_thr (names := ["java/lang/RuntimeException", "java/lang/Exception"]) hC hRc hRs hFr hZ rfl h ⟨List.mem_cons_self, hE.1⟩ ⟨List.mem_cons_of_mem _ List.mem_cons_self, hE.2⟩ (by decide +kernel) (by decide +kernel) at_AckBook_47 t_385 t_384 t_16 t_724 hl.1 d_AckBook_came_21 d_AckBook_came_24 d_AckBook_came_25 d_AckBook_came_27 d_AckBook_came_30 (by rw [hRt.1]; decide) (by rw [hRt.2]; first | exact Nat.le_of_ble_eq_true rfl | simp [z_rfc, z_ci, z_cj])
  · have h := z_ifn hc h
    refine lv_lload_n hC.1 hC.2.1 d_AckBook_came_13 rfl (lv_at hl 3 rfl) ?_
    refine lv_ldc2 (v := (4611686018427387903 : Int64)) hC.1 hC.2.1 hC.2.2.2.1 ((hZ.1.tb hC.2.2.2.2.2.2 args) _ t_723) d_AckBook_came_14 ?_
    refine W.lcmp hC.1 hC.2.1 d_AckBook_came_17 ?_
    refine lv_if_le (tgt := 31) hC.1 hC.2.1 d_AckBook_came_18 (by decide) (fun hc => ?_) (fun hc => ?_)
    · have h := z_ifp hc h
      refine x_aload hC d_AckBook_came_31 (lv_at hl 0 rfl) ?_
      obtain ⟨w1_, o1_, hF_, ha_⟩ := z_cV_spec h
      refine x_goes hC hRc hRs hFr ha_ (z_goS (As := [va_rf r2]) hC hZ (k_AckBook_refuseDiscarded hT hfl hE _ _ hF_) t_454 t_455 t_1 t_456 ⟨by decide, by decide, (by decide +kernel : (parseMethodDescriptor y_AckBook_refuseDiscarded.desc).map (fun d => d.parameters.length) = some 1)⟩ (by rw [hRt.1]; decide) (by rw [hRt.2]; decide) hl.1 rfl (by first | exact Nat.le_of_ble_eq_true rfl | simp [z_rfc, z_ci, z_cj]) d_AckBook_came_33) (fun v_ hv H locs cells slots hZ => ?_)
      obtain ⟨rfl, h⟩ := hv
      generalize w1_ = w at h hZ
      refine x_aload hC d_AckBook_came_36 (lv_at hl 0 rfl) ?_
      refine x_getR hC hZ zc1 h (by decide) t_160 (fun _ h9 => h9) d_AckBook_came_38 (fun r4 h => ?_)
      refine lv_lload_n hC.1 hC.2.1 d_AckBook_came_41 rfl (lv_at hl 3 rfl) ?_
      refine lv_iload hC.1 hC.2.1 d_AckBook_came_42 (lv_at hl 4 rfl) ?_
      refine x_aload_n hC d_AckBook_came_44 rfl (lv_at hl 1 rfl) ?_
      refine x_getI hC hZ zc0 h (by decide) t_245 (fun _ h9 => h9) d_AckBook_came_45 (fun v5 h => ?_)
      obtain ⟨a_, fs_, eo_, h⟩ := z_this_spec h
      obtain ⟨w1_, o1_, hF_, ha_⟩ := z_cI_spec h
      refine x_goes hC hRc hRs hFr ha_ (z_goV (As := [.long pJ2, .int pI3, .int v5]) hC hZ zc5 eo_ (k_AckBook_Arrivals_enter hT hfl hE _ _ hF_) t_725 t_726 t_727 t_8 t_728 ⟨by decide, by decide, (by decide +kernel : (parseMethodDescriptor y_AckBook_Arrivals_enter.desc).map (fun d => d.parameters.length) = some 3)⟩ (by rw [hRt.1]; decide) (by rw [hRt.2]; decide) hl.1 rfl (by first | exact Nat.le_of_ble_eq_true rfl | simp [z_rfc, z_ci, z_cj]) d_AckBook_came_48) (fun v_ hv H locs cells slots hZ => ?_)
      obtain ⟨v7, rfl, h⟩ := hv
      generalize w1_ = w at h hZ
      exact x_zret hC hRc hRs hZ hr h d_AckBook_came_51
    · have h := z_ifn hc h
      exact x_thr (names := ["java/lang/RuntimeException", "java/lang/Exception"]) hC hRc hRs hFr hZ rfl h ⟨List.mem_cons_self, hE.1⟩ ⟨List.mem_cons_of_mem _ List.mem_cons_self, hE.2⟩ (by decide +kernel) (by decide +kernel) at_AckBook_47 t_385 t_384 t_16 t_724 hl.1 d_AckBook_came_21 d_AckBook_came_24 d_AckBook_came_25 d_AckBook_came_27 d_AckBook_came_30 (by rw [hRt.1]; decide) (by rw [hRt.2]; first | exact Nat.le_of_ble_eq_true rfl | simp [z_rfc, z_ci, z_cj])
def f_AckBook_Arrivals_isPressing (F X : Nat) (a0 : Option Nat) (pI1 : Int32) (w : zW) : zR :=
  z_getI w 5 4 a0 fun v1 =>
  if v1 = 0 then (
    some (.inl (some (.int (0 : Int32))), w))
  else (
    z_getI w 5 4 a0 fun v2 =>
    if (2 : Int32) ≤ v2 then (
      some (.inl (some (.int (1 : Int32))), w))
    else (
      z_getI w 5 6 a0 fun v3 =>
      if v3 = 0 then (
        z_getI w 5 5 a0 fun v4 =>
        if (pI1 - v4) < (25 : Int32) then (
          some (.inl (some (.int (0 : Int32))), w))
        else (
          some (.inl (some (.int (1 : Int32))), w)))
      else (
        some (.inl (some (.int (1 : Int32))), w))))
set_option maxHeartbeats 4000000 in
set_option maxRecDepth 100000 in
theorem k_AckBook_Arrivals_isPressing {b0 : Nat} {H0 : Heap} {D : va_G} {vu vs : Value} {X : Nat} {l : Launch} (hT : z_TB (zGG b0 H0 D vu vs X)) (hfl : l.flags = pinnedFlags ++ [noTraceFlag]) (hE : vu.isRef = true ∧ vs.isRef = true) {a0 : Option Nat} {pI1 : Int32} (F : Nat) {w : zW} (res : zO × zW) (h : f_AckBook_Arrivals_isPressing F X a0 pI1 w = some res) : z_Ct (zGG b0 H0 D vu vs X) l y_AckBook_Arrivals_isPressing (.code y_AckBook_Arrivals_isPressing c_AckBook_Arrivals_isPressing 2 (some FieldType.boolean)) 0 0 [va_rf a0, .int pI1] w res := by
  refine z_ct hT hfl (by decide) (by simp only [z_sl_i, z_sl_j, z_sl_r, z_sl_n]; decide) ?_
  intro p e R s m args below meth c hC hr hRc hRs hRt hnm hFr H ls hZ hl
  simp only [z_la_i, z_la_j, z_la_r, z_la_n] at hl
  have hl : lv_has ls 2 [(0, va_rf a0), (1, .int pI1)] := hl
  unfold f_AckBook_Arrivals_isPressing at h
  refine x_aload_n hC d_AckBook_Arrivals_isPressing_0 rfl (lv_at hl 0 rfl) ?_
  refine x_getI hC hZ zc5 h (by decide) t_132 (fun _ h9 => h9) d_AckBook_Arrivals_isPressing_1 (fun v1 h => ?_)
  refine lv_if_ne (tgt := 9) hC.1 hC.2.1 d_AckBook_Arrivals_isPressing_4 (by decide) (fun hc => ?_) (fun hc => ?_)
  · have h := z_ifn hc h
    refine x_aload_n hC d_AckBook_Arrivals_isPressing_9 rfl (lv_at hl 0 rfl) ?_
    refine x_getI hC hZ zc5 h (by decide) t_132 (fun _ h9 => h9) d_AckBook_Arrivals_isPressing_10 (fun v2 h => ?_)
    refine lv_iconst (v := (2 : Int32)) hC.1 hC.2.1 d_AckBook_Arrivals_isPressing_13 (by decide) ?_
    refine lv_icmp_ge (tgt := 35) hC.1 hC.2.1 d_AckBook_Arrivals_isPressing_14 (by decide) (fun hc => ?_) (fun hc => ?_)
    · have h := z_ifp hc h
      refine lv_iconst (v := (1 : Int32)) hC.1 hC.2.1 d_AckBook_Arrivals_isPressing_35 (by decide) ?_
      refine lv_goto (tgt := 40) hC.1 hC.2.1 d_AckBook_Arrivals_isPressing_36 (by decide) ?_
      exact x_iret hC hRc hRs hZ hr rfl h d_AckBook_Arrivals_isPressing_40
    · have h := z_ifn hc h
      refine x_aload_n hC d_AckBook_Arrivals_isPressing_17 rfl (lv_at hl 0 rfl) ?_
      refine x_getI hC hZ zc5 h (by decide) t_135 (fun _ h9 => h9) d_AckBook_Arrivals_isPressing_18 (fun v3 h => ?_)
      refine lv_if_ne (tgt := 35) hC.1 hC.2.1 d_AckBook_Arrivals_isPressing_21 (by decide) (fun hc => ?_) (fun hc => ?_)
      · have h := z_ifn hc h
        refine lv_iconst (v := (1 : Int32)) hC.1 hC.2.1 d_AckBook_Arrivals_isPressing_35 (by decide) ?_
        refine lv_goto (tgt := 40) hC.1 hC.2.1 d_AckBook_Arrivals_isPressing_36 (by decide) ?_
        exact x_iret hC hRc hRs hZ hr rfl h d_AckBook_Arrivals_isPressing_40
      · have h := z_ifp hc h
        refine lv_iload_n hC.1 hC.2.1 d_AckBook_Arrivals_isPressing_24 rfl (lv_at hl 1 rfl) ?_
        refine x_aload_n hC d_AckBook_Arrivals_isPressing_25 rfl (lv_at hl 0 rfl) ?_
        refine x_getI hC hZ zc5 h (by decide) t_134 (fun _ h9 => h9) d_AckBook_Arrivals_isPressing_26 (fun v4 h => ?_)
        refine lv_isub hC.1 hC.2.1 d_AckBook_Arrivals_isPressing_29 ?_
        refine lv_bipush (v := (25 : Int32)) hC.1 hC.2.1 d_AckBook_Arrivals_isPressing_30 (by decide) ?_
        refine lv_icmp_lt (tgt := 39) hC.1 hC.2.1 d_AckBook_Arrivals_isPressing_32 (by decide) (fun hc => ?_) (fun hc => ?_)
        · have h := z_ifp hc h
          refine lv_iconst (v := (0 : Int32)) hC.1 hC.2.1 d_AckBook_Arrivals_isPressing_39 (by decide) ?_
          exact x_iret hC hRc hRs hZ hr rfl h d_AckBook_Arrivals_isPressing_40
        · have h := z_ifn hc h
          refine lv_iconst (v := (1 : Int32)) hC.1 hC.2.1 d_AckBook_Arrivals_isPressing_35 (by decide) ?_
          refine lv_goto (tgt := 40) hC.1 hC.2.1 d_AckBook_Arrivals_isPressing_36 (by decide) ?_
          exact x_iret hC hRc hRs hZ hr rfl h d_AckBook_Arrivals_isPressing_40
  · have h := z_ifp hc h
    refine lv_iconst (v := (0 : Int32)) hC.1 hC.2.1 d_AckBook_Arrivals_isPressing_7 (by decide) ?_
    exact x_iret hC hRc hRs hZ hr rfl h d_AckBook_Arrivals_isPressing_8
def f_AckBook_due (F X : Nat) (a0 : Option Nat) (pI1 : Int32) (w : zW) : zR :=
  z_this w 0 a0 <|
  z_cR (f_AckBook_known F X a0 pI1 w) fun r2 w =>
  z_getI w 1 0 r2 fun v3 =>
  if v3 = (2 : Int32) then (
    z_getR w 1 2 r2 fun r4 =>
    z_getI w 0 4 a0 fun v5 =>
    z_this w 5 r4 <|
    z_cI (f_AckBook_Arrivals_isPressing F X r4 v5 w) fun v7 w =>
    z_retZ v7 w)
  else (
    z_getR w 1 2 r2 fun r8 =>
    z_getI w 5 4 r8 fun v9 =>
    if v9 ≤ 0 then (
      some (.inl (some (.int (0 : Int32))), w))
    else (
      some (.inl (some (.int (1 : Int32))), w)))
set_option maxHeartbeats 4000000 in
set_option maxRecDepth 100000 in
theorem k_AckBook_due {b0 : Nat} {H0 : Heap} {D : va_G} {vu vs : Value} {X : Nat} {l : Launch} (hT : z_TB (zGG b0 H0 D vu vs X)) (hfl : l.flags = pinnedFlags ++ [noTraceFlag]) (hE : vu.isRef = true ∧ vs.isRef = true) {a0 : Option Nat} {pI1 : Int32} (F : Nat) {w : zW} (res : zO × zW) (h : f_AckBook_due F X a0 pI1 w = some res) : z_Ct (zGG b0 H0 D vu vs X) l y_AckBook_due (.code y_AckBook_due c_AckBook_due 3 (some FieldType.boolean)) 7 121 [va_rf a0, .int pI1] w res := by
  refine z_ct hT hfl (by decide) (by simp only [z_sl_i, z_sl_j, z_sl_r, z_sl_n]; decide) ?_
  intro p e R s m args below meth c hC hr hRc hRs hRt hnm hFr H ls hZ hl
  simp only [z_la_i, z_la_j, z_la_r, z_la_n] at hl
  have hl : lv_has ls 3 [(0, va_rf a0), (1, .int pI1)] := hl
  unfold f_AckBook_due at h
  refine x_aload_n hC d_AckBook_due_0 rfl (lv_at hl 0 rfl) ?_
  refine lv_iload_n hC.1 hC.2.1 d_AckBook_due_1 rfl (lv_at hl 1 rfl) ?_
  obtain ⟨a_, fs_, eo_, h⟩ := z_this_spec h
  obtain ⟨w1_, o1_, hF_, ha_⟩ := z_cR_spec h
  refine x_goes hC hRc hRs hFr ha_ (z_goV (As := [.int pI1]) hC hZ zc0 eo_ (k_AckBook_known hT hfl hE _ _ hF_) t_380 t_382 ts_AckBook_known t_1 t_383 ⟨by decide, by decide, (by decide +kernel : (parseMethodDescriptor y_AckBook_known.desc).map (fun d => d.parameters.length) = some 1)⟩ (by rw [hRt.1]; decide) (by rw [hRt.2]; decide) hl.1 rfl (by first | exact Nat.le_of_ble_eq_true rfl | simp [z_rfc, z_ci, z_cj]) d_AckBook_due_2) (fun v_ hv H locs cells slots hZ => ?_)
  obtain ⟨r2, rfl, h⟩ := hv
  generalize w1_ = w at h hZ
  refine x_astore_n (i := 2) (lv' := [(2, va_rf r2), (0, va_rf a0), (1, .int pI1)]) hC d_AckBook_due_5 rfl hl (by decide) (by first | rfl | simp [z_rfc, z_ci, z_cj]) (fun ls hl => ?_)
  refine x_aload_n hC d_AckBook_due_6 rfl (lv_at hl 0 rfl) ?_
  refine x_getI hC hZ zc1 h (by decide) t_156 (fun _ h9 => h9) d_AckBook_due_7 (fun v3 h => ?_)
  refine lv_iconst (v := (2 : Int32)) hC.1 hC.2.1 d_AckBook_due_10 (by decide) ?_
  refine lv_icmp_ne (tgt := 28) hC.1 hC.2.1 d_AckBook_due_11 (by decide) (fun hc => ?_) (fun hc => ?_)
  · have h := z_ifn hc h
    refine x_aload_n hC d_AckBook_due_28 rfl (lv_at hl 0 rfl) ?_
    refine x_getR hC hZ zc1 h (by decide) t_160 (fun _ h9 => h9) d_AckBook_due_29 (fun r8 h => ?_)
    refine x_getI hC hZ zc5 h (by decide) t_133 (fun _ h9 => h9) d_AckBook_due_32 (fun v9 h => ?_)
    refine lv_if_le (tgt := 42) hC.1 hC.2.1 d_AckBook_due_35 (by decide) (fun hc => ?_) (fun hc => ?_)
    · have h := z_ifp hc h
      refine lv_iconst (v := (0 : Int32)) hC.1 hC.2.1 d_AckBook_due_42 (by decide) ?_
      exact x_iret hC hRc hRs hZ hr rfl h d_AckBook_due_43
    · have h := z_ifn hc h
      refine lv_iconst (v := (1 : Int32)) hC.1 hC.2.1 d_AckBook_due_38 (by decide) ?_
      refine lv_goto (tgt := 43) hC.1 hC.2.1 d_AckBook_due_39 (by decide) ?_
      exact x_iret hC hRc hRs hZ hr rfl h d_AckBook_due_43
  · have h := z_ifp hc h
    refine x_aload_n hC d_AckBook_due_14 rfl (lv_at hl 0 rfl) ?_
    refine x_getR hC hZ zc1 h (by decide) t_160 (fun _ h9 => h9) d_AckBook_due_15 (fun r4 h => ?_)
    refine x_aload_n hC d_AckBook_due_18 rfl (lv_at hl 1 rfl) ?_
    refine x_getI hC hZ zc0 h (by decide) t_245 (fun _ h9 => h9) d_AckBook_due_19 (fun v5 h => ?_)
    obtain ⟨a_, fs_, eo_, h⟩ := z_this_spec h
    obtain ⟨w1_, o1_, hF_, ha_⟩ := z_cI_spec h
    refine x_goes hC hRc hRs hFr ha_ (z_goV (As := [.int v5]) hC hZ zc5 eo_ (k_AckBook_Arrivals_isPressing hT hfl hE _ _ hF_) t_757 t_758 t_759 t_8 t_760 ⟨by decide, by decide, (by decide +kernel : (parseMethodDescriptor y_AckBook_Arrivals_isPressing.desc).map (fun d => d.parameters.length) = some 1)⟩ (by rw [hRt.1]; decide) (by rw [hRt.2]; decide) hl.1 rfl (by first | exact Nat.le_of_ble_eq_true rfl | simp [z_rfc, z_ci, z_cj]) d_AckBook_due_22) (fun v_ hv H locs cells slots hZ => ?_)
    obtain ⟨v7, rfl, h⟩ := hv
    generalize w1_ = w at h hZ
    refine lv_goto (tgt := 43) hC.1 hC.2.1 d_AckBook_due_25 (by decide) ?_
    exact x_zret hC hRc hRs hZ hr h d_AckBook_due_43
def f_AckBook_Arrivals_settle (F X : Nat) (a0 : Option Nat) (pI1 : Int32) (w : zW) : zR :=
  z_put w 5 4 a0 (.int (0 : Int32)) fun w =>
  z_putZ w 5 6 a0 (0 : Int32) fun w =>
  z_getI w 5 7 a0 fun v1 =>
  some (.inl (some (.int (pI1 - v1))), w)
set_option maxHeartbeats 4000000 in
set_option maxRecDepth 100000 in
theorem k_AckBook_Arrivals_settle {b0 : Nat} {H0 : Heap} {D : va_G} {vu vs : Value} {X : Nat} {l : Launch} (hT : z_TB (zGG b0 H0 D vu vs X)) (hfl : l.flags = pinnedFlags ++ [noTraceFlag]) (hE : vu.isRef = true ∧ vs.isRef = true) {a0 : Option Nat} {pI1 : Int32} (F : Nat) {w : zW} (res : zO × zW) (h : f_AckBook_Arrivals_settle F X a0 pI1 w = some res) : z_Ct (zGG b0 H0 D vu vs X) l y_AckBook_Arrivals_settle (.code y_AckBook_Arrivals_settle c_AckBook_Arrivals_settle 2 (some FieldType.int)) 0 0 [va_rf a0, .int pI1] w res := by
  refine z_ct hT hfl (by decide) (by simp only [z_sl_i, z_sl_j, z_sl_r, z_sl_n]; decide) ?_
  intro p e R s m args below meth c hC hr hRc hRs hRt hnm hFr H ls hZ hl
  simp only [z_la_i, z_la_j, z_la_r, z_la_n] at hl
  have hl : lv_has ls 2 [(0, va_rf a0), (1, .int pI1)] := hl
  unfold f_AckBook_Arrivals_settle at h
  refine x_aload_n hC d_AckBook_Arrivals_settle_0 rfl (lv_at hl 0 rfl) ?_
  refine lv_iconst (v := (0 : Int32)) hC.1 hC.2.1 d_AckBook_Arrivals_settle_1 (by decide) ?_
  refine x_put hC hZ zc5 h (by decide) t_132 (fun _ h9 => h9) rfl rfl rfl rfl d_AckBook_Arrivals_settle_2 (fun w H locs hZ h => ?_)
  refine x_aload_n hC d_AckBook_Arrivals_settle_5 rfl (lv_at hl 0 rfl) ?_
  refine lv_iconst (v := (0 : Int32)) hC.1 hC.2.1 d_AckBook_Arrivals_settle_6 (by decide) ?_
  refine x_putZ hC hZ zc5 h (by decide) t_135 (fun _ h9 => h9) rfl rfl d_AckBook_Arrivals_settle_7 (fun w H locs hZ h => ?_)
  refine lv_iload_n hC.1 hC.2.1 d_AckBook_Arrivals_settle_10 rfl (lv_at hl 1 rfl) ?_
  refine x_aload_n hC d_AckBook_Arrivals_settle_11 rfl (lv_at hl 0 rfl) ?_
  refine x_getI hC hZ zc5 h (by decide) t_136 (fun _ h9 => h9) d_AckBook_Arrivals_settle_12 (fun v1 h => ?_)
  refine lv_isub hC.1 hC.2.1 d_AckBook_Arrivals_settle_15 ?_
  exact x_iret hC hRc hRs hZ hr rfl h d_AckBook_Arrivals_settle_16
def f_AckBook_written (F X : Nat) (a0 : Option Nat) (pI1 : Int32) (w : zW) : zR :=
  z_this w 0 a0 <|
  z_cR (f_AckBook_known F X a0 pI1 w) fun r2 w =>
  z_cV (f_AckBook_refuseDiscarded F X r2 w) fun w =>
  z_getR w 1 2 r2 fun r4 =>
  z_getI w 5 2 r4 fun v5 =>
  if v5 = 0 then (
    z_thr w 12)
  else (
    z_getR w 1 2 r2 fun r6 =>
    z_getI w 0 4 a0 fun v7 =>
    z_this w 5 r6 <|
    z_cI (f_AckBook_Arrivals_settle F X r6 v7 w) fun v9 w =>
    some (.inl (some (.int v9)), w))
set_option maxHeartbeats 4000000 in
set_option maxRecDepth 100000 in
theorem k_AckBook_written {b0 : Nat} {H0 : Heap} {D : va_G} {vu vs : Value} {X : Nat} {l : Launch} (hT : z_TB (zGG b0 H0 D vu vs X)) (hfl : l.flags = pinnedFlags ++ [noTraceFlag]) (hE : vu.isRef = true ∧ vs.isRef = true) {a0 : Option Nat} {pI1 : Int32} (F : Nat) {w : zW} (res : zO × zW) (h : f_AckBook_written F X a0 pI1 w = some res) : z_Ct (zGG b0 H0 D vu vs X) l y_AckBook_written (.code y_AckBook_written c_AckBook_written 3 (some FieldType.int)) 7 121 [va_rf a0, .int pI1] w res := by
  refine z_ct hT hfl (by decide) (by simp only [z_sl_i, z_sl_j, z_sl_r, z_sl_n]; decide) ?_
  intro p e R s m args below meth c hC hr hRc hRs hRt hnm hFr H ls hZ hl
  simp only [z_la_i, z_la_j, z_la_r, z_la_n] at hl
  have hl : lv_has ls 3 [(0, va_rf a0), (1, .int pI1)] := hl
  unfold f_AckBook_written at h
  refine x_aload_n hC d_AckBook_written_0 rfl (lv_at hl 0 rfl) ?_
  refine lv_iload_n hC.1 hC.2.1 d_AckBook_written_1 rfl (lv_at hl 1 rfl) ?_
  obtain ⟨a_, fs_, eo_, h⟩ := z_this_spec h
  obtain ⟨w1_, o1_, hF_, ha_⟩ := z_cR_spec h
  refine x_goes hC hRc hRs hFr ha_ (z_goV (As := [.int pI1]) hC hZ zc0 eo_ (k_AckBook_known hT hfl hE _ _ hF_) t_380 t_382 ts_AckBook_known t_1 t_383 ⟨by decide, by decide, (by decide +kernel : (parseMethodDescriptor y_AckBook_known.desc).map (fun d => d.parameters.length) = some 1)⟩ (by rw [hRt.1]; decide) (by rw [hRt.2]; decide) hl.1 rfl (by first | exact Nat.le_of_ble_eq_true rfl | simp [z_rfc, z_ci, z_cj]) d_AckBook_written_2) (fun v_ hv H locs cells slots hZ => ?_)
  obtain ⟨r2, rfl, h⟩ := hv
  generalize w1_ = w at h hZ
  refine x_astore_n (i := 2) (lv' := [(2, va_rf r2), (0, va_rf a0), (1, .int pI1)]) hC d_AckBook_written_5 rfl hl (by decide) (by first | rfl | simp [z_rfc, z_ci, z_cj]) (fun ls hl => ?_)
  refine x_aload_n hC d_AckBook_written_6 rfl (lv_at hl 0 rfl) ?_
  obtain ⟨w1_, o1_, hF_, ha_⟩ := z_cV_spec h
  refine x_goes hC hRc hRs hFr ha_ (z_goS (As := [va_rf r2]) hC hZ (k_AckBook_refuseDiscarded hT hfl hE _ _ hF_) t_454 t_455 t_1 t_456 ⟨by decide, by decide, (by decide +kernel : (parseMethodDescriptor y_AckBook_refuseDiscarded.desc).map (fun d => d.parameters.length) = some 1)⟩ (by rw [hRt.1]; decide) (by rw [hRt.2]; decide) hl.1 rfl (by first | exact Nat.le_of_ble_eq_true rfl | simp [z_rfc, z_ci, z_cj]) d_AckBook_written_7) (fun v_ hv H locs cells slots hZ => ?_)
  obtain ⟨rfl, h⟩ := hv
  generalize w1_ = w at h hZ
  refine x_aload_n hC d_AckBook_written_10 rfl (lv_at hl 0 rfl) ?_
  refine x_getR hC hZ zc1 h (by decide) t_160 (fun _ h9 => h9) d_AckBook_written_11 (fun r4 h => ?_)
  refine x_getI hC hZ zc5 h (by decide) t_129 (fun _ h9 => h9) d_AckBook_written_14 (fun v5 h => ?_)
  refine lv_if_ne (tgt := 30) hC.1 hC.2.1 d_AckBook_written_17 (by decide) (fun hc => ?_) (fun hc => ?_)
  · have h := z_ifn hc h
    refine x_aload_n hC d_AckBook_written_30 rfl (lv_at hl 0 rfl) ?_
    refine x_getR hC hZ zc1 h (by decide) t_160 (fun _ h9 => h9) d_AckBook_written_31 (fun r6 h => ?_)
    refine x_aload_n hC d_AckBook_written_34 rfl (lv_at hl 1 rfl) ?_
    refine x_getI hC hZ zc0 h (by decide) t_245 (fun _ h9 => h9) d_AckBook_written_35 (fun v7 h => ?_)
    obtain ⟨a_, fs_, eo_, h⟩ := z_this_spec h
    obtain ⟨w1_, o1_, hF_, ha_⟩ := z_cI_spec h
    refine x_goes hC hRc hRs hFr ha_ (z_goV (As := [.int v7]) hC hZ zc5 eo_ (k_AckBook_Arrivals_settle hT hfl hE _ _ hF_) t_769 t_770 t_771 t_8 t_772 ⟨by decide, by decide, (by decide +kernel : (parseMethodDescriptor y_AckBook_Arrivals_settle.desc).map (fun d => d.parameters.length) = some 1)⟩ (by rw [hRt.1]; decide) (by rw [hRt.2]; decide) hl.1 rfl (by first | exact Nat.le_of_ble_eq_true rfl | simp [z_rfc, z_ci, z_cj]) d_AckBook_written_38) (fun v_ hv H locs cells slots hZ => ?_)
    obtain ⟨v9, rfl, h⟩ := hv
    generalize w1_ = w at h hZ
    exact x_iret hC hRc hRs hZ hr rfl h d_AckBook_written_41
  · have h := z_ifp hc h
    exact x_thr (names := ["java/lang/RuntimeException", "java/lang/Exception"]) hC hRc hRs hFr hZ rfl h ⟨List.mem_cons_self, hE.1⟩ ⟨List.mem_cons_of_mem _ List.mem_cons_self, hE.2⟩ (by decide +kernel) (by decide +kernel) at_AckBook_70 t_458 t_457 t_17 t_768 hl.1 d_AckBook_written_20 d_AckBook_written_23 d_AckBook_written_24 d_AckBook_written_26 d_AckBook_written_29 (by rw [hRt.1]; decide) (by rw [hRt.2]; first | exact Nat.le_of_ble_eq_true rfl | simp [z_rfc, z_ci, z_cj])
def f_AckBook_range (F X : Nat) (a0 : Option Nat) (pI1 : Int32) (pI2 : Int32) (pI3 : Int32) (w : zW) : zR :=
  z_this w 0 a0 <|
  z_cR (f_AckBook_known F X a0 pI1 w) fun r2 w =>
  z_getR w 1 2 r2 fun r3 =>
  if pI2 < 0 then (
    none)
  else (
    z_getI w 5 2 r3 fun v4 =>
    if pI2 < v4 then (
      if pI3 = 0 then (
        z_getR w 5 0 r3 fun r5 =>
        z_ldL w r5 pI2 fun v6 =>
        some (.inl (some (.long v6)), w))
      else (
        z_getR w 5 1 r3 fun r7 =>
        z_ldL w r7 pI2 fun v8 =>
        some (.inl (some (.long v8)), w)))
    else (
      none))
set_option maxHeartbeats 4000000 in
set_option maxRecDepth 100000 in
theorem k_AckBook_range {b0 : Nat} {H0 : Heap} {D : va_G} {vu vs : Value} {X : Nat} {l : Launch} (hT : z_TB (zGG b0 H0 D vu vs X)) (hfl : l.flags = pinnedFlags ++ [noTraceFlag]) (hE : vu.isRef = true ∧ vs.isRef = true) {a0 : Option Nat} {pI1 : Int32} {pI2 : Int32} {pI3 : Int32} (F : Nat) {w : zW} (res : zO × zW) (h : f_AckBook_range F X a0 pI1 pI2 pI3 w = some res) : z_Ct (zGG b0 H0 D vu vs X) l y_AckBook_range (.code y_AckBook_range c_AckBook_range 5 (some FieldType.long)) 7 121 [va_rf a0, .int pI1, .int pI2, .int pI3] w res := by
  refine z_ct hT hfl (by decide) (by simp only [z_sl_i, z_sl_j, z_sl_r, z_sl_n]; decide) ?_
  intro p e R s m args below meth c hC hr hRc hRs hRt hnm hFr H ls hZ hl
  simp only [z_la_i, z_la_j, z_la_r, z_la_n] at hl
  have hl : lv_has ls 5 [(0, va_rf a0), (1, .int pI1), (2, .int pI2), (3, .int pI3)] := hl
  unfold f_AckBook_range at h
  refine x_aload_n hC d_AckBook_range_0 rfl (lv_at hl 0 rfl) ?_
  refine lv_iload_n hC.1 hC.2.1 d_AckBook_range_1 rfl (lv_at hl 1 rfl) ?_
  obtain ⟨a_, fs_, eo_, h⟩ := z_this_spec h
  obtain ⟨w1_, o1_, hF_, ha_⟩ := z_cR_spec h
  refine x_goes hC hRc hRs hFr ha_ (z_goV (As := [.int pI1]) hC hZ zc0 eo_ (k_AckBook_known hT hfl hE _ _ hF_) t_380 t_382 ts_AckBook_known t_1 t_383 ⟨by decide, by decide, (by decide +kernel : (parseMethodDescriptor y_AckBook_known.desc).map (fun d => d.parameters.length) = some 1)⟩ (by rw [hRt.1]; decide) (by rw [hRt.2]; decide) hl.1 rfl (by first | exact Nat.le_of_ble_eq_true rfl | simp [z_rfc, z_ci, z_cj]) d_AckBook_range_2) (fun v_ hv H locs cells slots hZ => ?_)
  obtain ⟨r2, rfl, h⟩ := hv
  generalize w1_ = w at h hZ
  refine x_getR hC hZ zc1 h (by decide) t_160 (fun _ h9 => h9) d_AckBook_range_5 (fun r3 h => ?_)
  refine x_astore (i := 4) (lv' := [(4, va_rf r3), (0, va_rf a0), (1, .int pI1), (2, .int pI2), (3, .int pI3)]) hC d_AckBook_range_8 hl (by decide) (by first | rfl | simp [z_rfc, z_ci, z_cj]) (fun ls hl => ?_)
  refine lv_iload_n hC.1 hC.2.1 d_AckBook_range_10 rfl (lv_at hl 3 rfl) ?_
  refine lv_if_lt (tgt := 23) hC.1 hC.2.1 d_AckBook_range_11 (by decide) (fun hc => ?_) (fun hc => ?_)
  · have h := z_ifp hc h
    cases h
  · have h := z_ifn hc h
    refine lv_iload_n hC.1 hC.2.1 d_AckBook_range_14 rfl (lv_at hl 3 rfl) ?_
    refine x_aload hC d_AckBook_range_15 (lv_at hl 0 rfl) ?_
    refine x_getI hC hZ zc5 h (by decide) t_129 (fun _ h9 => h9) d_AckBook_range_17 (fun v4 h => ?_)
    refine lv_icmp_lt (tgt := 33) hC.1 hC.2.1 d_AckBook_range_20 (by decide) (fun hc => ?_) (fun hc => ?_)
    · have h := z_ifp hc h
      refine lv_iload_n hC.1 hC.2.1 d_AckBook_range_33 rfl (lv_at hl 4 rfl) ?_
      refine lv_if_eq (tgt := 47) hC.1 hC.2.1 d_AckBook_range_34 (by decide) (fun hc => ?_) (fun hc => ?_)
      · have h := z_ifp hc h
        refine x_aload hC d_AckBook_range_47 (lv_at hl 0 rfl) ?_
        refine x_getR hC hZ zc5 h (by decide) t_125 (fun _ h9 => h9) d_AckBook_range_49 (fun r5 h => ?_)
        refine lv_iload_n hC.1 hC.2.1 d_AckBook_range_52 rfl (lv_at hl 3 rfl) ?_
        refine x_ldL hC hZ h d_AckBook_range_53 (fun v6 h => ?_)
        exact x_lret hC hRc hRs hZ hr h d_AckBook_range_54
      · have h := z_ifn hc h
        refine x_aload hC d_AckBook_range_37 (lv_at hl 0 rfl) ?_
        refine x_getR hC hZ zc5 h (by decide) t_127 (fun _ h9 => h9) d_AckBook_range_39 (fun r7 h => ?_)
        refine lv_iload_n hC.1 hC.2.1 d_AckBook_range_42 rfl (lv_at hl 3 rfl) ?_
        refine x_ldL hC hZ h d_AckBook_range_43 (fun v8 h => ?_)
        refine lv_goto (tgt := 54) hC.1 hC.2.1 d_AckBook_range_44 (by decide) ?_
        exact x_lret hC hRc hRs hZ hr h d_AckBook_range_54
    · have h := z_ifn hc h
      cases h
def f_AckBook_look (F X : Nat) (a0 : Option Nat) (pI1 : Int32) (w : zW) : zR :=
  if pI1 = (0 : Int32) then (
    z_getI w 0 4 a0 fun v1 =>
    some (.inl (some (.int v1)), w))
  else if pI1 = (1 : Int32) then (
    z_getR w 0 3 a0 fun r2 =>
    z_getI w 8 0 r2 fun v3 =>
    some (.inl (some (.int v3)), w))
  else if pI1 = (2 : Int32) then (
    z_getR w 0 3 a0 fun r4 =>
    z_getI w 8 1 r4 fun v5 =>
    some (.inl (some (.int v5)), w))
  else if pI1 = (3 : Int32) then (
    z_getR w 0 3 a0 fun r6 =>
    z_getI w 8 2 r6 fun v7 =>
    some (.inl (some (.int v7)), w))
  else if pI1 = (4 : Int32) then (
    z_getR w 0 3 a0 fun r8 =>
    z_getI w 8 3 r8 fun v9 =>
    some (.inl (some (.int v9)), w))
  else if pI1 = (5 : Int32) then (
    z_getR w 0 2 a0 fun r10 =>
    z_getI w 7 0 r10 fun v11 =>
    some (.inl (some (.int v11)), w))
  else if pI1 = (6 : Int32) then (
    z_getR w 0 2 a0 fun r12 =>
    z_getI w 7 1 r12 fun v13 =>
    some (.inl (some (.int v13)), w))
  else if pI1 = (7 : Int32) then (
    z_getR w 0 2 a0 fun r14 =>
    z_getI w 7 2 r14 fun v15 =>
    some (.inl (some (.int v15)), w))
  else if pI1 = (8 : Int32) then (
    z_getR w 0 2 a0 fun r16 =>
    z_getI w 7 3 r16 fun v17 =>
    some (.inl (some (.int v17)), w))
  else if pI1 = (9 : Int32) then (
    z_getI w 0 5 a0 fun v18 =>
    some (.inl (some (.int v18)), w))
  else if pI1 = (10 : Int32) then (
    z_getR w 0 2 a0 fun r19 =>
    z_this w 7 r19 <|
    z_cI (f_AckBook_Way_limit F X r19 w) fun v21 w =>
    some (.inl (some (.int v21)), w))
  else if pI1 = (11 : Int32) then (
    z_getR w 0 3 a0 fun r22 =>
    z_getI w 8 1 r22 fun v23 =>
    z_getR w 0 3 a0 fun r24 =>
    z_getI w 8 0 r24 fun v25 =>
    some (.inl (some (.int (if (v23 - v25) < (0 : Int32) then (0 : Int32) else (v23 - v25)))), w))
  else (
    none)
set_option maxHeartbeats 4000000 in
set_option maxRecDepth 100000 in
theorem k_AckBook_look {b0 : Nat} {H0 : Heap} {D : va_G} {vu vs : Value} {X : Nat} {l : Launch} (hT : z_TB (zGG b0 H0 D vu vs X)) (hfl : l.flags = pinnedFlags ++ [noTraceFlag]) (hE : vu.isRef = true ∧ vs.isRef = true) {a0 : Option Nat} {pI1 : Int32} (F : Nat) {w : zW} (res : zO × zW) (h : f_AckBook_look F X a0 pI1 w = some res) : z_Ct (zGG b0 H0 D vu vs X) l y_AckBook_look (.code y_AckBook_look c_AckBook_look 2 (some FieldType.int)) 6 100 [va_rf a0, .int pI1] w res := by
  refine z_ct hT hfl (by decide) (by simp only [z_sl_i, z_sl_j, z_sl_r, z_sl_n]; decide) ?_
  intro p e R s m args below meth c hC hr hRc hRs hRt hnm hFr H ls hZ hl
  simp only [z_la_i, z_la_j, z_la_r, z_la_n] at hl
  have hl : lv_has ls 2 [(0, va_rf a0), (1, .int pI1)] := hl
  unfold f_AckBook_look at h
  refine lv_iload_n hC.1 hC.2.1 d_AckBook_look_0 rfl (lv_at hl 1 rfl) ?_
  by_cases hc0 : pI1 = (0 : Int32)
  · have h := z_ifp hc0 h
    refine lv_tableIn (tgt := 64) hC.1 hC.2.1 d_AckBook_look_1 (by rw [hc0]; decide) (by rw [hc0]; decide) (by rw [hc0]; rfl) (by decide) ?_
    refine x_aload_n hC d_AckBook_look_64 rfl (lv_at hl 0 rfl) ?_
    refine x_getI hC hZ zc0 h (by decide) t_245 (fun _ h9 => h9) d_AckBook_look_65 (fun v1 h => ?_)
    exact x_iret hC hRc hRs hZ hr rfl h d_AckBook_look_68
  have h := z_ifn hc0 h
  by_cases hc1 : pI1 = (1 : Int32)
  · have h := z_ifp hc1 h
    refine lv_tableIn (tgt := 69) hC.1 hC.2.1 d_AckBook_look_1 (by rw [hc1]; decide) (by rw [hc1]; decide) (by rw [hc1]; rfl) (by decide) ?_
    refine x_aload_n hC d_AckBook_look_69 rfl (lv_at hl 0 rfl) ?_
    refine x_getR hC hZ zc0 h (by decide) t_244 (fun _ h9 => h9) d_AckBook_look_70 (fun r2 h => ?_)
    refine x_getI hC hZ zc8 h (by decide) t_225 (fun _ h9 => h9) d_AckBook_look_73 (fun v3 h => ?_)
    exact x_iret hC hRc hRs hZ hr rfl h d_AckBook_look_76
  have h := z_ifn hc1 h
  by_cases hc2 : pI1 = (2 : Int32)
  · have h := z_ifp hc2 h
    refine lv_tableIn (tgt := 77) hC.1 hC.2.1 d_AckBook_look_1 (by rw [hc2]; decide) (by rw [hc2]; decide) (by rw [hc2]; rfl) (by decide) ?_
    refine x_aload_n hC d_AckBook_look_77 rfl (lv_at hl 0 rfl) ?_
    refine x_getR hC hZ zc0 h (by decide) t_244 (fun _ h9 => h9) d_AckBook_look_78 (fun r4 h => ?_)
    refine x_getI hC hZ zc8 h (by decide) t_227 (fun _ h9 => h9) d_AckBook_look_81 (fun v5 h => ?_)
    exact x_iret hC hRc hRs hZ hr rfl h d_AckBook_look_84
  have h := z_ifn hc2 h
  by_cases hc3 : pI1 = (3 : Int32)
  · have h := z_ifp hc3 h
    refine lv_tableIn (tgt := 85) hC.1 hC.2.1 d_AckBook_look_1 (by rw [hc3]; decide) (by rw [hc3]; decide) (by rw [hc3]; rfl) (by decide) ?_
    refine x_aload_n hC d_AckBook_look_85 rfl (lv_at hl 0 rfl) ?_
    refine x_getR hC hZ zc0 h (by decide) t_244 (fun _ h9 => h9) d_AckBook_look_86 (fun r6 h => ?_)
    refine x_getI hC hZ zc8 h (by decide) t_229 (fun _ h9 => h9) d_AckBook_look_89 (fun v7 h => ?_)
    exact x_iret hC hRc hRs hZ hr rfl h d_AckBook_look_92
  have h := z_ifn hc3 h
  by_cases hc4 : pI1 = (4 : Int32)
  · have h := z_ifp hc4 h
    refine lv_tableIn (tgt := 93) hC.1 hC.2.1 d_AckBook_look_1 (by rw [hc4]; decide) (by rw [hc4]; decide) (by rw [hc4]; rfl) (by decide) ?_
    refine x_aload_n hC d_AckBook_look_93 rfl (lv_at hl 0 rfl) ?_
    refine x_getR hC hZ zc0 h (by decide) t_244 (fun _ h9 => h9) d_AckBook_look_94 (fun r8 h => ?_)
    refine x_getI hC hZ zc8 h (by decide) t_231 (fun _ h9 => h9) d_AckBook_look_97 (fun v9 h => ?_)
    exact x_iret hC hRc hRs hZ hr rfl h d_AckBook_look_100
  have h := z_ifn hc4 h
  by_cases hc5 : pI1 = (5 : Int32)
  · have h := z_ifp hc5 h
    refine lv_tableIn (tgt := 101) hC.1 hC.2.1 d_AckBook_look_1 (by rw [hc5]; decide) (by rw [hc5]; decide) (by rw [hc5]; rfl) (by decide) ?_
    refine x_aload_n hC d_AckBook_look_101 rfl (lv_at hl 0 rfl) ?_
    refine x_getR hC hZ zc0 h (by decide) t_243 (fun _ h9 => h9) d_AckBook_look_102 (fun r10 h => ?_)
    refine x_getI hC hZ zc7 h (by decide) t_198 (fun _ h9 => h9) d_AckBook_look_105 (fun v11 h => ?_)
    exact x_iret hC hRc hRs hZ hr rfl h d_AckBook_look_108
  have h := z_ifn hc5 h
  by_cases hc6 : pI1 = (6 : Int32)
  · have h := z_ifp hc6 h
    refine lv_tableIn (tgt := 109) hC.1 hC.2.1 d_AckBook_look_1 (by rw [hc6]; decide) (by rw [hc6]; decide) (by rw [hc6]; rfl) (by decide) ?_
    refine x_aload_n hC d_AckBook_look_109 rfl (lv_at hl 0 rfl) ?_
    refine x_getR hC hZ zc0 h (by decide) t_243 (fun _ h9 => h9) d_AckBook_look_110 (fun r12 h => ?_)
    refine x_getI hC hZ zc7 h (by decide) t_200 (fun _ h9 => h9) d_AckBook_look_113 (fun v13 h => ?_)
    exact x_iret hC hRc hRs hZ hr rfl h d_AckBook_look_116
  have h := z_ifn hc6 h
  by_cases hc7 : pI1 = (7 : Int32)
  · have h := z_ifp hc7 h
    refine lv_tableIn (tgt := 117) hC.1 hC.2.1 d_AckBook_look_1 (by rw [hc7]; decide) (by rw [hc7]; decide) (by rw [hc7]; rfl) (by decide) ?_
    refine x_aload_n hC d_AckBook_look_117 rfl (lv_at hl 0 rfl) ?_
    refine x_getR hC hZ zc0 h (by decide) t_243 (fun _ h9 => h9) d_AckBook_look_118 (fun r14 h => ?_)
    refine x_getI hC hZ zc7 h (by decide) t_202 (fun _ h9 => h9) d_AckBook_look_121 (fun v15 h => ?_)
    exact x_iret hC hRc hRs hZ hr rfl h d_AckBook_look_124
  have h := z_ifn hc7 h
  by_cases hc8 : pI1 = (8 : Int32)
  · have h := z_ifp hc8 h
    refine lv_tableIn (tgt := 125) hC.1 hC.2.1 d_AckBook_look_1 (by rw [hc8]; decide) (by rw [hc8]; decide) (by rw [hc8]; rfl) (by decide) ?_
    refine x_aload_n hC d_AckBook_look_125 rfl (lv_at hl 0 rfl) ?_
    refine x_getR hC hZ zc0 h (by decide) t_243 (fun _ h9 => h9) d_AckBook_look_126 (fun r16 h => ?_)
    refine x_getI hC hZ zc7 h (by decide) t_204 (fun _ h9 => h9) d_AckBook_look_129 (fun v17 h => ?_)
    exact x_iret hC hRc hRs hZ hr rfl h d_AckBook_look_132
  have h := z_ifn hc8 h
  by_cases hc9 : pI1 = (9 : Int32)
  · have h := z_ifp hc9 h
    refine lv_tableIn (tgt := 133) hC.1 hC.2.1 d_AckBook_look_1 (by rw [hc9]; decide) (by rw [hc9]; decide) (by rw [hc9]; rfl) (by decide) ?_
    refine x_aload_n hC d_AckBook_look_133 rfl (lv_at hl 0 rfl) ?_
    refine x_getI hC hZ zc0 h (by decide) t_246 (fun _ h9 => h9) d_AckBook_look_134 (fun v18 h => ?_)
    exact x_iret hC hRc hRs hZ hr rfl h d_AckBook_look_137
  have h := z_ifn hc9 h
  by_cases hc10 : pI1 = (10 : Int32)
  · have h := z_ifp hc10 h
    refine lv_tableIn (tgt := 138) hC.1 hC.2.1 d_AckBook_look_1 (by rw [hc10]; decide) (by rw [hc10]; decide) (by rw [hc10]; rfl) (by decide) ?_
    refine x_aload_n hC d_AckBook_look_138 rfl (lv_at hl 0 rfl) ?_
    refine x_getR hC hZ zc0 h (by decide) t_243 (fun _ h9 => h9) d_AckBook_look_139 (fun r19 h => ?_)
    obtain ⟨a_, fs_, eo_, h⟩ := z_this_spec h
    obtain ⟨w1_, o1_, hF_, ha_⟩ := z_cI_spec h
    refine x_goes hC hRc hRs hFr ha_ (z_goV (As := []) hC hZ zc7 eo_ (k_AckBook_Way_limit hT hfl hE _ _ hF_) t_300 t_301 t_302 t_10 t_303 ⟨by decide, by decide, (by decide +kernel : (parseMethodDescriptor y_AckBook_Way_limit.desc).map (fun d => d.parameters.length) = some 0)⟩ (by rw [hRt.1]; decide) (by rw [hRt.2]; decide) hl.1 rfl (by first | exact Nat.le_of_ble_eq_true rfl | simp [z_rfc, z_ci, z_cj]) d_AckBook_look_142) (fun v_ hv H locs cells slots hZ => ?_)
    obtain ⟨v21, rfl, h⟩ := hv
    generalize w1_ = w at h hZ
    exact x_iret hC hRc hRs hZ hr rfl h d_AckBook_look_145
  have h := z_ifn hc10 h
  by_cases hc11 : pI1 = (11 : Int32)
  · have h := z_ifp hc11 h
    refine lv_tableIn (tgt := 146) hC.1 hC.2.1 d_AckBook_look_1 (by rw [hc11]; decide) (by rw [hc11]; decide) (by rw [hc11]; rfl) (by decide) ?_
    refine x_aload_n hC d_AckBook_look_146 rfl (lv_at hl 0 rfl) ?_
    refine x_getR hC hZ zc0 h (by decide) t_244 (fun _ h9 => h9) d_AckBook_look_147 (fun r22 h => ?_)
    refine x_getI hC hZ zc8 h (by decide) t_227 (fun _ h9 => h9) d_AckBook_look_150 (fun v23 h => ?_)
    refine x_aload_n hC d_AckBook_look_153 rfl (lv_at hl 0 rfl) ?_
    refine x_getR hC hZ zc0 h (by decide) t_244 (fun _ h9 => h9) d_AckBook_look_154 (fun r24 h => ?_)
    refine x_getI hC hZ zc8 h (by decide) t_225 (fun _ h9 => h9) d_AckBook_look_157 (fun v25 h => ?_)
    refine lv_isub hC.1 hC.2.1 d_AckBook_look_160 ?_
    refine lv_iconst (v := (0 : Int32)) hC.1 hC.2.1 d_AckBook_look_161 (by decide) ?_
    refine va_mmax hC.1 hC.2.1 (hC.2.2.1.trans hl.1.symm) hC.2.2.2.1 ((hZ.1.tb hC.2.2.2.2.2.2 args) _ t_804) ((hZ.1.tb hC.2.2.2.2.2.2 args) _ t_290) ((hZ.1.tb hC.2.2.2.2.2.2 args) _ t_20) ((hZ.1.tb hC.2.2.2.2.2.2 args) _ t_291) (by rw [hRt.1]; decide) (by rw [hRt.2]; first | exact Nat.le_of_ble_eq_true rfl | simp [z_rfc, z_ci, z_cj]) (hZ.2.2.1 ▸ Nat.le_add_right _ _) (hZ.2.2.2 ▸ Nat.le_add_right _ _) d_AckBook_look_162 ?_
    exact x_iret hC hRc hRs hZ hr rfl h d_AckBook_look_165
  have h := z_ifn hc11 h
  refine lv_tableOut (tgt := 166) hC.1 hC.2.1 d_AckBook_look_1 (z_tab 11 (fun k hk => match k, hk with | 0, _ => hc0 | 1, _ => hc1 | 2, _ => hc2 | 3, _ => hc3 | 4, _ => hc4 | 5, _ => hc5 | 6, _ => hc6 | 7, _ => hc7 | 8, _ => hc8 | 9, _ => hc9 | 10, _ => hc10 | 11, _ => hc11 | _ + 12, hk => absurd hk (by omega))) (by decide) ?_
  cases h
def f_AckBook_space (F X : Nat) (a0 : Option Nat) (pI1 : Int32) (pI2 : Int32) (w : zW) : zR :=
  z_this w 0 a0 <|
  z_cR (f_AckBook_known F X a0 pI1 w) fun r2 w =>
  if pI2 = (0 : Int32) then (
    z_getR w 1 1 r2 fun r3 =>
    z_this w 2 r3 <|
    z_cI (f_AckBook_Sent_count F X r3 w) fun v5 w =>
    some (.inl (some (.long v5.toInt64)), w))
  else if pI2 = (1 : Int32) then (
    z_getR w 1 1 r2 fun r6 =>
    z_getI w 2 6 r6 fun v7 =>
    some (.inl (some (.long v7.toInt64)), w))
  else if pI2 = (2 : Int32) then (
    z_getR w 1 1 r2 fun r8 =>
    z_getI w 2 7 r8 fun v9 =>
    some (.inl (some (.long v9.toInt64)), w))
  else if pI2 = (3 : Int32) then (
    z_this w 0 a0 <|
    z_cI (f_AckBook_probeTime F X a0 r2 w) fun v11 w =>
    some (.inl (some (.long v11.toInt64)), w))
  else if pI2 = (4 : Int32) then (
    z_getR w 1 1 r2 fun r12 =>
    z_getI w 2 3 r12 fun v13 =>
    some (.inl (some (.long v13.toInt64)), w))
  else if pI2 = (5 : Int32) then (
    z_getR w 1 1 r2 fun r14 =>
    z_getI w 2 4 r14 fun v15 =>
    some (.inl (some (.long v15.toInt64)), w))
  else if pI2 = (6 : Int32) then (
    z_getR w 1 2 r2 fun r16 =>
    z_getI w 5 2 r16 fun v17 =>
    some (.inl (some (.long v17.toInt64)), w))
  else if pI2 = (7 : Int32) then (
    z_getR w 1 2 r2 fun r18 =>
    z_getI w 5 4 r18 fun v19 =>
    some (.inl (some (.long v19.toInt64)), w))
  else if pI2 = (8 : Int32) then (
    z_this w 0 a0 <|
    z_cI (f_AckBook_patience F X a0 r2 w) fun v21 w =>
    some (.inl (some (.long v21.toInt64)), w))
  else if pI2 = (9 : Int32) then (
    z_getI w 1 3 r2 fun v22 =>
    if v22 = 0 then (
      some (.inl (some (.long (0 : Int64))), w))
    else (
      some (.inl (some (.long (1 : Int64))), w)))
  else if pI2 = (10 : Int32) then (
    z_getR w 1 2 r2 fun r23 =>
    z_getL w 5 3 r23 fun v24 =>
    some (.inl (some (.long v24)), w))
  else (
    none)
set_option maxHeartbeats 4000000 in
set_option maxRecDepth 100000 in
theorem k_AckBook_space {b0 : Nat} {H0 : Heap} {D : va_G} {vu vs : Value} {X : Nat} {l : Launch} (hT : z_TB (zGG b0 H0 D vu vs X)) (hfl : l.flags = pinnedFlags ++ [noTraceFlag]) (hE : vu.isRef = true ∧ vs.isRef = true) {a0 : Option Nat} {pI1 : Int32} {pI2 : Int32} (F : Nat) {w : zW} (res : zO × zW) (h : f_AckBook_space F X a0 pI1 pI2 w = some res) : z_Ct (zGG b0 H0 D vu vs X) l y_AckBook_space (.code y_AckBook_space c_AckBook_space 4 (some FieldType.long)) 7 121 [va_rf a0, .int pI1, .int pI2] w res := by
  refine z_ct hT hfl (by decide) (by simp only [z_sl_i, z_sl_j, z_sl_r, z_sl_n]; decide) ?_
  intro p e R s m args below meth c hC hr hRc hRs hRt hnm hFr H ls hZ hl
  simp only [z_la_i, z_la_j, z_la_r, z_la_n] at hl
  have hl : lv_has ls 4 [(0, va_rf a0), (1, .int pI1), (2, .int pI2)] := hl
  unfold f_AckBook_space at h
  refine x_aload_n hC d_AckBook_space_0 rfl (lv_at hl 0 rfl) ?_
  refine lv_iload_n hC.1 hC.2.1 d_AckBook_space_1 rfl (lv_at hl 1 rfl) ?_
  obtain ⟨a_, fs_, eo_, h⟩ := z_this_spec h
  obtain ⟨w1_, o1_, hF_, ha_⟩ := z_cR_spec h
  refine x_goes hC hRc hRs hFr ha_ (z_goV (As := [.int pI1]) hC hZ zc0 eo_ (k_AckBook_known hT hfl hE _ _ hF_) t_380 t_382 ts_AckBook_known t_1 t_383 ⟨by decide, by decide, (by decide +kernel : (parseMethodDescriptor y_AckBook_known.desc).map (fun d => d.parameters.length) = some 1)⟩ (by rw [hRt.1]; decide) (by rw [hRt.2]; decide) hl.1 rfl (by first | exact Nat.le_of_ble_eq_true rfl | simp [z_rfc, z_ci, z_cj]) d_AckBook_space_2) (fun v_ hv H locs cells slots hZ => ?_)
  obtain ⟨r2, rfl, h⟩ := hv
  generalize w1_ = w at h hZ
  refine x_astore_n (i := 3) (lv' := [(3, va_rf r2), (0, va_rf a0), (1, .int pI1), (2, .int pI2)]) hC d_AckBook_space_5 rfl hl (by decide) (by first | rfl | simp [z_rfc, z_ci, z_cj]) (fun ls hl => ?_)
  refine lv_iload_n hC.1 hC.2.1 d_AckBook_space_6 rfl (lv_at hl 3 rfl) ?_
  by_cases hc0 : pI2 = (0 : Int32)
  · have h := z_ifp hc0 h
    refine lv_tableIn (tgt := 64) hC.1 hC.2.1 d_AckBook_space_7 (by rw [hc0]; decide) (by rw [hc0]; decide) (by rw [hc0]; rfl) (by decide) ?_
    refine x_aload_n hC d_AckBook_space_64 rfl (lv_at hl 0 rfl) ?_
    refine x_getR hC hZ zc1 h (by decide) t_158 (fun _ h9 => h9) d_AckBook_space_65 (fun r3 h => ?_)
    obtain ⟨a_, fs_, eo_, h⟩ := z_this_spec h
    obtain ⟨w1_, o1_, hF_, ha_⟩ := z_cI_spec h
    refine x_goes hC hRc hRs hFr ha_ (z_goV (As := []) hC hZ zc2 eo_ (k_AckBook_Sent_count hT hfl hE _ _ hF_) t_473 t_474 t_475 t_3 t_476 ⟨by decide, by decide, (by decide +kernel : (parseMethodDescriptor y_AckBook_Sent_count.desc).map (fun d => d.parameters.length) = some 0)⟩ (by rw [hRt.1]; decide) (by rw [hRt.2]; decide) hl.1 rfl (by first | exact Nat.le_of_ble_eq_true rfl | simp [z_rfc, z_ci, z_cj]) d_AckBook_space_68) (fun v_ hv H locs cells slots hZ => ?_)
    obtain ⟨v5, rfl, h⟩ := hv
    generalize w1_ = w at h hZ
    refine lv_i2l hC.1 hC.2.1 d_AckBook_space_71 rfl ?_
    exact x_lret hC hRc hRs hZ hr h d_AckBook_space_72
  have h := z_ifn hc0 h
  by_cases hc1 : pI2 = (1 : Int32)
  · have h := z_ifp hc1 h
    refine lv_tableIn (tgt := 73) hC.1 hC.2.1 d_AckBook_space_7 (by rw [hc1]; decide) (by rw [hc1]; decide) (by rw [hc1]; rfl) (by decide) ?_
    refine x_aload_n hC d_AckBook_space_73 rfl (lv_at hl 0 rfl) ?_
    refine x_getR hC hZ zc1 h (by decide) t_158 (fun _ h9 => h9) d_AckBook_space_74 (fun r6 h => ?_)
    refine x_getI hC hZ zc2 h (by decide) t_98 (fun _ h9 => h9) d_AckBook_space_77 (fun v7 h => ?_)
    refine lv_i2l hC.1 hC.2.1 d_AckBook_space_80 rfl ?_
    exact x_lret hC hRc hRs hZ hr h d_AckBook_space_81
  have h := z_ifn hc1 h
  by_cases hc2 : pI2 = (2 : Int32)
  · have h := z_ifp hc2 h
    refine lv_tableIn (tgt := 82) hC.1 hC.2.1 d_AckBook_space_7 (by rw [hc2]; decide) (by rw [hc2]; decide) (by rw [hc2]; rfl) (by decide) ?_
    refine x_aload_n hC d_AckBook_space_82 rfl (lv_at hl 0 rfl) ?_
    refine x_getR hC hZ zc1 h (by decide) t_158 (fun _ h9 => h9) d_AckBook_space_83 (fun r8 h => ?_)
    refine x_getI hC hZ zc2 h (by decide) t_100 (fun _ h9 => h9) d_AckBook_space_86 (fun v9 h => ?_)
    refine lv_i2l hC.1 hC.2.1 d_AckBook_space_89 rfl ?_
    exact x_lret hC hRc hRs hZ hr h d_AckBook_space_90
  have h := z_ifn hc2 h
  by_cases hc3 : pI2 = (3 : Int32)
  · have h := z_ifp hc3 h
    refine lv_tableIn (tgt := 91) hC.1 hC.2.1 d_AckBook_space_7 (by rw [hc3]; decide) (by rw [hc3]; decide) (by rw [hc3]; rfl) (by decide) ?_
    refine x_aload_n hC d_AckBook_space_91 rfl (lv_at hl 1 rfl) ?_
    refine x_aload_n hC d_AckBook_space_92 rfl (lv_at hl 0 rfl) ?_
    obtain ⟨a_, fs_, eo_, h⟩ := z_this_spec h
    obtain ⟨w1_, o1_, hF_, ha_⟩ := z_cI_spec h
    refine x_goes hC hRc hRs hFr ha_ (z_goV (As := [va_rf r2]) hC hZ zc0 eo_ (k_AckBook_probeTime hT hfl hE _ _ hF_) t_277 t_279 ts_AckBook_probeTime t_1 t_280 ⟨by decide, by decide, (by decide +kernel : (parseMethodDescriptor y_AckBook_probeTime.desc).map (fun d => d.parameters.length) = some 1)⟩ (by rw [hRt.1]; decide) (by rw [hRt.2]; decide) hl.1 rfl (by first | exact Nat.le_of_ble_eq_true rfl | simp [z_rfc, z_ci, z_cj]) d_AckBook_space_93) (fun v_ hv H locs cells slots hZ => ?_)
    obtain ⟨v11, rfl, h⟩ := hv
    generalize w1_ = w at h hZ
    refine lv_i2l hC.1 hC.2.1 d_AckBook_space_96 rfl ?_
    exact x_lret hC hRc hRs hZ hr h d_AckBook_space_97
  have h := z_ifn hc3 h
  by_cases hc4 : pI2 = (4 : Int32)
  · have h := z_ifp hc4 h
    refine lv_tableIn (tgt := 98) hC.1 hC.2.1 d_AckBook_space_7 (by rw [hc4]; decide) (by rw [hc4]; decide) (by rw [hc4]; rfl) (by decide) ?_
    refine x_aload_n hC d_AckBook_space_98 rfl (lv_at hl 0 rfl) ?_
    refine x_getR hC hZ zc1 h (by decide) t_158 (fun _ h9 => h9) d_AckBook_space_99 (fun r12 h => ?_)
    refine x_getI hC hZ zc2 h (by decide) t_92 (fun _ h9 => h9) d_AckBook_space_102 (fun v13 h => ?_)
    refine lv_i2l hC.1 hC.2.1 d_AckBook_space_105 rfl ?_
    exact x_lret hC hRc hRs hZ hr h d_AckBook_space_106
  have h := z_ifn hc4 h
  by_cases hc5 : pI2 = (5 : Int32)
  · have h := z_ifp hc5 h
    refine lv_tableIn (tgt := 107) hC.1 hC.2.1 d_AckBook_space_7 (by rw [hc5]; decide) (by rw [hc5]; decide) (by rw [hc5]; rfl) (by decide) ?_
    refine x_aload_n hC d_AckBook_space_107 rfl (lv_at hl 0 rfl) ?_
    refine x_getR hC hZ zc1 h (by decide) t_158 (fun _ h9 => h9) d_AckBook_space_108 (fun r14 h => ?_)
    refine x_getI hC hZ zc2 h (by decide) t_94 (fun _ h9 => h9) d_AckBook_space_111 (fun v15 h => ?_)
    refine lv_i2l hC.1 hC.2.1 d_AckBook_space_114 rfl ?_
    exact x_lret hC hRc hRs hZ hr h d_AckBook_space_115
  have h := z_ifn hc5 h
  by_cases hc6 : pI2 = (6 : Int32)
  · have h := z_ifp hc6 h
    refine lv_tableIn (tgt := 116) hC.1 hC.2.1 d_AckBook_space_7 (by rw [hc6]; decide) (by rw [hc6]; decide) (by rw [hc6]; rfl) (by decide) ?_
    refine x_aload_n hC d_AckBook_space_116 rfl (lv_at hl 0 rfl) ?_
    refine x_getR hC hZ zc1 h (by decide) t_160 (fun _ h9 => h9) d_AckBook_space_117 (fun r16 h => ?_)
    refine x_getI hC hZ zc5 h (by decide) t_129 (fun _ h9 => h9) d_AckBook_space_120 (fun v17 h => ?_)
    refine lv_i2l hC.1 hC.2.1 d_AckBook_space_123 rfl ?_
    exact x_lret hC hRc hRs hZ hr h d_AckBook_space_124
  have h := z_ifn hc6 h
  by_cases hc7 : pI2 = (7 : Int32)
  · have h := z_ifp hc7 h
    refine lv_tableIn (tgt := 125) hC.1 hC.2.1 d_AckBook_space_7 (by rw [hc7]; decide) (by rw [hc7]; decide) (by rw [hc7]; rfl) (by decide) ?_
    refine x_aload_n hC d_AckBook_space_125 rfl (lv_at hl 0 rfl) ?_
    refine x_getR hC hZ zc1 h (by decide) t_160 (fun _ h9 => h9) d_AckBook_space_126 (fun r18 h => ?_)
    refine x_getI hC hZ zc5 h (by decide) t_133 (fun _ h9 => h9) d_AckBook_space_129 (fun v19 h => ?_)
    refine lv_i2l hC.1 hC.2.1 d_AckBook_space_132 rfl ?_
    exact x_lret hC hRc hRs hZ hr h d_AckBook_space_133
  have h := z_ifn hc7 h
  by_cases hc8 : pI2 = (8 : Int32)
  · have h := z_ifp hc8 h
    refine lv_tableIn (tgt := 134) hC.1 hC.2.1 d_AckBook_space_7 (by rw [hc8]; decide) (by rw [hc8]; decide) (by rw [hc8]; rfl) (by decide) ?_
    refine x_aload_n hC d_AckBook_space_134 rfl (lv_at hl 1 rfl) ?_
    refine x_aload_n hC d_AckBook_space_135 rfl (lv_at hl 0 rfl) ?_
    obtain ⟨a_, fs_, eo_, h⟩ := z_this_spec h
    obtain ⟨w1_, o1_, hF_, ha_⟩ := z_cI_spec h
    refine x_goes hC hRc hRs hFr ha_ (z_goV (As := [va_rf r2]) hC hZ zc0 eo_ (k_AckBook_patience hT hfl hE _ _ hF_) t_281 t_283 ts_AckBook_patience t_1 t_284 ⟨by decide, by decide, (by decide +kernel : (parseMethodDescriptor y_AckBook_patience.desc).map (fun d => d.parameters.length) = some 1)⟩ (by rw [hRt.1]; decide) (by rw [hRt.2]; decide) hl.1 rfl (by first | exact Nat.le_of_ble_eq_true rfl | simp [z_rfc, z_ci, z_cj]) d_AckBook_space_136) (fun v_ hv H locs cells slots hZ => ?_)
    obtain ⟨v21, rfl, h⟩ := hv
    generalize w1_ = w at h hZ
    refine lv_i2l hC.1 hC.2.1 d_AckBook_space_139 rfl ?_
    exact x_lret hC hRc hRs hZ hr h d_AckBook_space_140
  have h := z_ifn hc8 h
  by_cases hc9 : pI2 = (9 : Int32)
  · have h := z_ifp hc9 h
    refine lv_tableIn (tgt := 141) hC.1 hC.2.1 d_AckBook_space_7 (by rw [hc9]; decide) (by rw [hc9]; decide) (by rw [hc9]; rfl) (by decide) ?_
    refine x_aload_n hC d_AckBook_space_141 rfl (lv_at hl 0 rfl) ?_
    refine x_getI hC hZ zc1 h (by decide) t_161 (fun _ h9 => h9) d_AckBook_space_142 (fun v22 h => ?_)
    refine lv_if_eq (tgt := 152) hC.1 hC.2.1 d_AckBook_space_145 (by decide) (fun hc => ?_) (fun hc => ?_)
    · have h := z_ifp hc h
      refine lv_lconst (v := (0 : Int64)) hC.1 hC.2.1 d_AckBook_space_152 (by decide) ?_
      exact x_lret hC hRc hRs hZ hr h d_AckBook_space_153
    · have h := z_ifn hc h
      refine lv_lconst (v := (1 : Int64)) hC.1 hC.2.1 d_AckBook_space_148 (by decide) ?_
      refine lv_goto (tgt := 153) hC.1 hC.2.1 d_AckBook_space_149 (by decide) ?_
      exact x_lret hC hRc hRs hZ hr h d_AckBook_space_153
  have h := z_ifn hc9 h
  by_cases hc10 : pI2 = (10 : Int32)
  · have h := z_ifp hc10 h
    refine lv_tableIn (tgt := 154) hC.1 hC.2.1 d_AckBook_space_7 (by rw [hc10]; decide) (by rw [hc10]; decide) (by rw [hc10]; rfl) (by decide) ?_
    refine x_aload_n hC d_AckBook_space_154 rfl (lv_at hl 0 rfl) ?_
    refine x_getR hC hZ zc1 h (by decide) t_160 (fun _ h9 => h9) d_AckBook_space_155 (fun r23 h => ?_)
    refine x_getL hC hZ zc5 h (by decide) t_131 (fun _ h9 => h9) d_AckBook_space_158 (fun v24 h => ?_)
    exact x_lret hC hRc hRs hZ hr h d_AckBook_space_161
  have h := z_ifn hc10 h
  refine lv_tableOut (tgt := 162) hC.1 hC.2.1 d_AckBook_space_7 (z_tab 10 (fun k hk => match k, hk with | 0, _ => hc0 | 1, _ => hc1 | 2, _ => hc2 | 3, _ => hc3 | 4, _ => hc4 | 5, _ => hc5 | 6, _ => hc6 | 7, _ => hc7 | 8, _ => hc8 | 9, _ => hc9 | 10, _ => hc10 | _ + 11, hk => absurd hk (by omega))) (by decide) ?_
  cases h
def j_AckBookModel_init (F X : Nat) : Nat → Option Nat → Int32 → zW → zR
  | 0, _, _, _ => none
  | N + 1, rL0, xL1, w =>
    if (3 : Int32) ≤ xL1 then (
      some (.inl none, w))
    else (
      z_getR w 10 12 rL0 fun r1 =>
      z_stI w r1 xL1 (-1 : Int32) fun w =>
      z_getR w 10 13 rL0 fun r2 =>
      z_stI w r2 xL1 (-1 : Int32) fun w =>
      j_AckBookModel_init F X N rL0 (xL1 + (1 : Int32)) w)
def f_AckBookModel_init (F X : Nat) (a0 : Option Nat) (w : zW) : zR :=
  z_nn a0 <|
  z_newa w .int (3 : Int32) (fun n => (n, .inl fun _ => 0)) fun a3 w =>
  z_put w 10 4 a0 (va_rf (some a3)) fun w =>
  z_newa w .int (12288 : Int32) (fun n => (n, .inl fun _ => 0)) fun a4 w =>
  z_put w 10 5 a0 (va_rf (some a4)) fun w =>
  z_newa w .int (12288 : Int32) (fun n => (n, .inl fun _ => 0)) fun a5 w =>
  z_put w 10 6 a0 (va_rf (some a5)) fun w =>
  z_newa w .int (12288 : Int32) (fun n => (n, .inl fun _ => 0)) fun a6 w =>
  z_put w 10 7 a0 (va_rf (some a6)) fun w =>
  z_newa w .boolean (12288 : Int32) (fun n => (n, .inl fun _ => 0)) fun a7 w =>
  z_put w 10 8 a0 (va_rf (some a7)) fun w =>
  z_newa w .boolean (12288 : Int32) (fun n => (n, .inl fun _ => 0)) fun a8 w =>
  z_put w 10 9 a0 (va_rf (some a8)) fun w =>
  z_newa w .boolean (12288 : Int32) (fun n => (n, .inl fun _ => 0)) fun a9 w =>
  z_put w 10 10 a0 (va_rf (some a9)) fun w =>
  z_newa w .boolean (3 : Int32) (fun n => (n, .inl fun _ => 0)) fun a10 w =>
  z_put w 10 11 a0 (va_rf (some a10)) fun w =>
  z_newa w .int (3 : Int32) (fun n => (n, .inl fun _ => 0)) fun a11 w =>
  z_put w 10 12 a0 (va_rf (some a11)) fun w =>
  z_newa w .int (3 : Int32) (fun n => (n, .inl fun _ => 0)) fun a12 w =>
  z_put w 10 13 a0 (va_rf (some a12)) fun w =>
  z_newa w .int (24576 : Int32) (fun n => (n, .inl fun _ => 0)) fun a13 w =>
  z_put w 10 15 a0 (va_rf (some a13)) fun w =>
  z_newa w .int (6 : Int32) (fun n => (n, .inl fun _ => 0)) fun a14 w =>
  z_put w 10 16 a0 (va_rf (some a14)) fun w =>
  z_newa w .int (6 : Int32) (fun n => (n, .inl fun _ => 0)) fun a15 w =>
  z_put w 10 17 a0 (va_rf (some a15)) fun w =>
  z_put w 10 18 a0 (.int (800 : Int32)) fun w =>
  z_put w 10 19 a0 (.int (200 : Int32)) fun w =>
  z_put w 10 21 a0 (.int (-1 : Int32)) fun w =>
  z_put w 10 22 a0 (.int (-1 : Int32)) fun w =>
  z_put w 10 24 a0 (.int (12000 : Int32)) fun w =>
  z_put w 10 25 a0 (.int (-1 : Int32)) fun w =>
  z_put w 10 26 a0 (.int (-1 : Int32)) fun w =>
  z_newa w .long (64 : Int32) (fun n => (n, .inr (.inl fun _ => 0))) fun a16 w =>
  z_put w 10 28 a0 (va_rf (some a16)) fun w =>
  z_newa w .long (64 : Int32) (fun n => (n, .inr (.inl fun _ => 0))) fun a17 w =>
  z_put w 10 29 a0 (va_rf (some a17)) fun w =>
  z_newa w .int (3 : Int32) (fun n => (n, .inl fun _ => 0)) fun a18 w =>
  z_put w 10 30 a0 (va_rf (some a18)) fun w =>
  z_newa w .long (195 : Int32) (fun n => (n, .inr (.inl fun _ => 0))) fun a19 w =>
  z_put w 10 31 a0 (va_rf (some a19)) fun w =>
  z_newa w .long (195 : Int32) (fun n => (n, .inr (.inl fun _ => 0))) fun a20 w =>
  z_put w 10 32 a0 (va_rf (some a20)) fun w =>
  z_newa w .long (3 : Int32) (fun n => (n, .inr (.inl fun _ => 0))) fun a21 w =>
  z_put w 10 33 a0 (va_rf (some a21)) fun w =>
  z_newa w .int (3 : Int32) (fun n => (n, .inl fun _ => 0)) fun a22 w =>
  z_put w 10 34 a0 (va_rf (some a22)) fun w =>
  z_newa w .int (3 : Int32) (fun n => (n, .inl fun _ => 0)) fun a23 w =>
  z_put w 10 35 a0 (va_rf (some a23)) fun w =>
  z_newa w .int (3 : Int32) (fun n => (n, .inl fun _ => 0)) fun a24 w =>
  z_put w 10 36 a0 (va_rf (some a24)) fun w =>
  z_newa w .boolean (3 : Int32) (fun n => (n, .inl fun _ => 0)) fun a25 w =>
  z_put w 10 37 a0 (va_rf (some a25)) fun w =>
  j_AckBookModel_init F X F a0 (0 : Int32) w
set_option maxHeartbeats 4000000 in
set_option maxRecDepth 100000 in
theorem kj_AckBookModel_init {b0 : Nat} {H0 : Heap} {D : va_G} {vu vs : Value} {X : Nat} {l : Launch} (hT : z_TB (zGG b0 H0 D vu vs X)) (hfl : l.flags = pinnedFlags ++ [noTraceFlag]) (hE : vu.isRef = true ∧ vs.isRef = true) {p : Program} {e : Env} {R : Room} {s : State} {m : MethodId} {args : Array Value} {below : List Frame} {meth : Method} {c : Code} {w0 : zW} {F : Nat} (hC : z_C (zGG b0 H0 D vu vs X) p e s m meth c c_AckBookModel_init 2 y_AckBookModel_init.cls) (hr : meth.sig.returnType = (none)) (hRc : R.cells = w0.2.1) (hRs : R.slots = w0.2.2.1) (hFr : c.exceptionTable.toList = []) (hRt : R.frames = 1 ∧ R.locals = 28) (hnm : meth.name = y_AckBookModel_init.name) : ∀ N : Nat, (∀ (rL0 : Option Nat) (xL1 : Int32) (w : zW) (res : zO × zW), j_AckBookModel_init F X N rL0 xL1 w = some res → ∀ (H : Heap) (locs : List Loc) (cells slots : Nat) (ls : Array Slot), z_Z (zGG b0 H0 D vu vs X) R s w H locs cells slots → lv_has ls 2 [(0, va_rf rL0), (1, .int xL1)] → W p l e R s m args below meth c H locs cells slots (z_Q (zGG b0 H0 D vu vs X) below s w0 res) (F0 m 230 ls [])) := by
  intro N
  induction N with
  | zero =>
    intro rL0 xL1 w res h
    rw [j_AckBookModel_init] at h
    cases h
  | succ N ih =>
    intro rL0 xL1 w res h H locs cells slots ls hZ hl
    rw [j_AckBookModel_init] at h
    refine lv_iload_n hC.1 hC.2.1 d_AckBookModel_init_230 rfl (lv_at hl 1 rfl) ?_
    refine lv_iconst (v := (3 : Int32)) hC.1 hC.2.1 d_AckBookModel_init_231 (by decide) ?_
    refine lv_icmp_ge (tgt := 255) hC.1 hC.2.1 d_AckBookModel_init_232 (by decide) (fun hc => ?_) (fun hc => ?_)
    · have h := z_ifp hc h
      exact x_vret hC hRc hRs hZ hr h d_AckBookModel_init_255
    · have h := z_ifn hc h
      refine x_aload_n hC d_AckBookModel_init_235 rfl (lv_at hl 0 rfl) ?_
      refine x_getR hC hZ zc10 h (by decide) t_831 (fun _ h9 => h9) d_AckBookModel_init_236 (fun r1 h => ?_)
      refine lv_iload_n hC.1 hC.2.1 d_AckBookModel_init_239 rfl (lv_at hl 1 rfl) ?_
      refine lv_iconst (v := (-1 : Int32)) hC.1 hC.2.1 d_AckBookModel_init_240 (by decide) ?_
      refine x_stI hC hZ h d_AckBookModel_init_241 (fun w H locs hZ h => ?_)
      refine x_aload_n hC d_AckBookModel_init_242 rfl (lv_at hl 0 rfl) ?_
      refine x_getR hC hZ zc10 h (by decide) t_832 (fun _ h9 => h9) d_AckBookModel_init_243 (fun r2 h => ?_)
      refine lv_iload_n hC.1 hC.2.1 d_AckBookModel_init_246 rfl (lv_at hl 1 rfl) ?_
      refine lv_iconst (v := (-1 : Int32)) hC.1 hC.2.1 d_AckBookModel_init_247 (by decide) ?_
      refine x_stI hC hZ h d_AckBookModel_init_248 (fun w H locs hZ h => ?_)
      refine lv_iinc (lv' := [(1, .int (xL1 + (1 : Int32))), (0, va_rf rL0)]) hC.1 hC.2.1 d_AckBookModel_init_249 hl (k := 1) rfl rfl (by decide) (by first | rfl | simp [z_rfc, z_ci, z_cj]) (fun ls hl => ?_)
      refine lv_goto (tgt := 230) hC.1 hC.2.1 d_AckBookModel_init_252 (by decide) ?_
      exact ih _ _ _ _ h _ _ _ _ _ hZ (lv_sub hl [1, 0] rfl)
set_option maxHeartbeats 4000000 in
set_option maxRecDepth 100000 in
theorem k_AckBookModel_init {b0 : Nat} {H0 : Heap} {D : va_G} {vu vs : Value} {X : Nat} {l : Launch} (hT : z_TB (zGG b0 H0 D vu vs X)) (hfl : l.flags = pinnedFlags ++ [noTraceFlag]) (hE : vu.isRef = true ∧ vs.isRef = true) {a0 : Option Nat} (F : Nat) {w : zW} (res : zO × zW) (h : f_AckBookModel_init F X a0 w = some res) : z_Ct (zGG b0 H0 D vu vs X) l y_AckBookModel_init (.code y_AckBookModel_init c_AckBookModel_init 2 (none)) 1 28 [va_rf a0] w res := by
  refine z_ct hT hfl (by decide) (by simp only [z_sl_i, z_sl_j, z_sl_r, z_sl_n]; decide) ?_
  intro p e R s m args below meth c hC hr hRc hRs hRt hnm hFr H ls hZ hl
  simp only [z_la_i, z_la_j, z_la_r, z_la_n] at hl
  have hl : lv_has ls 2 [(0, va_rf a0)] := hl
  unfold f_AckBookModel_init at h
  refine x_aload_n hC d_AckBookModel_init_0 rfl (lv_at hl 0 rfl) ?_
  obtain ⟨_, e_, h⟩ := z_nn_spec h
  refine x_objInit hC hZ e_ t_818 ⟨t_32, t_33⟩ hl.1 d_AckBookModel_init_1 (by rw [hRt.1]; decide) (by rw [hRt.2]; first | exact Nat.le_of_ble_eq_true rfl | simp [z_rfc, z_ci, z_cj]) ?_
  refine x_aload_n hC d_AckBookModel_init_4 rfl (lv_at hl 0 rfl) ?_
  refine lv_iconst (v := (3 : Int32)) hC.1 hC.2.1 d_AckBookModel_init_5 (by decide) ?_
  refine x_newaI hC hZ h t_934 d_AckBookModel_init_6 (fun a3 w H cells slots hZ h => ?_)
  refine x_putF hC hZ zc10 h (by decide) t_823 (fun _ h9 => h9) rfl hnm rfl rfl (z_rfnA _ _) (z_rffA _ _) d_AckBookModel_init_8 (fun w H locs hZ h => ?_)
  refine x_aload_n hC d_AckBookModel_init_11 rfl (lv_at hl 0 rfl) ?_
  refine lv_sipush (v := (12288 : Int32)) hC.1 hC.2.1 d_AckBookModel_init_12 (by decide) ?_
  refine x_newaI hC hZ h t_934 d_AckBookModel_init_15 (fun a4 w H cells slots hZ h => ?_)
  refine x_putF hC hZ zc10 h (by decide) t_824 (fun _ h9 => h9) rfl hnm rfl rfl (z_rfnA _ _) (z_rffA _ _) d_AckBookModel_init_17 (fun w H locs hZ h => ?_)
  refine x_aload_n hC d_AckBookModel_init_20 rfl (lv_at hl 0 rfl) ?_
  refine lv_sipush (v := (12288 : Int32)) hC.1 hC.2.1 d_AckBookModel_init_21 (by decide) ?_
  refine x_newaI hC hZ h t_934 d_AckBookModel_init_24 (fun a5 w H cells slots hZ h => ?_)
  refine x_putF hC hZ zc10 h (by decide) t_825 (fun _ h9 => h9) rfl hnm rfl rfl (z_rfnA _ _) (z_rffA _ _) d_AckBookModel_init_26 (fun w H locs hZ h => ?_)
  refine x_aload_n hC d_AckBookModel_init_29 rfl (lv_at hl 0 rfl) ?_
  refine lv_sipush (v := (12288 : Int32)) hC.1 hC.2.1 d_AckBookModel_init_30 (by decide) ?_
  refine x_newaI hC hZ h t_934 d_AckBookModel_init_33 (fun a6 w H cells slots hZ h => ?_)
  refine x_putF hC hZ zc10 h (by decide) t_826 (fun _ h9 => h9) rfl hnm rfl rfl (z_rfnA _ _) (z_rffA _ _) d_AckBookModel_init_35 (fun w H locs hZ h => ?_)
  refine x_aload_n hC d_AckBookModel_init_38 rfl (lv_at hl 0 rfl) ?_
  refine lv_sipush (v := (12288 : Int32)) hC.1 hC.2.1 d_AckBookModel_init_39 (by decide) ?_
  refine x_newaZ hC hZ h t_935 d_AckBookModel_init_42 (fun a7 w H cells slots hZ h => ?_)
  refine x_putF hC hZ zc10 h (by decide) t_827 (fun _ h9 => h9) rfl hnm rfl rfl (z_rfnA _ _) (z_rffA _ _) d_AckBookModel_init_44 (fun w H locs hZ h => ?_)
  refine x_aload_n hC d_AckBookModel_init_47 rfl (lv_at hl 0 rfl) ?_
  refine lv_sipush (v := (12288 : Int32)) hC.1 hC.2.1 d_AckBookModel_init_48 (by decide) ?_
  refine x_newaZ hC hZ h t_935 d_AckBookModel_init_51 (fun a8 w H cells slots hZ h => ?_)
  refine x_putF hC hZ zc10 h (by decide) t_828 (fun _ h9 => h9) rfl hnm rfl rfl (z_rfnA _ _) (z_rffA _ _) d_AckBookModel_init_53 (fun w H locs hZ h => ?_)
  refine x_aload_n hC d_AckBookModel_init_56 rfl (lv_at hl 0 rfl) ?_
  refine lv_sipush (v := (12288 : Int32)) hC.1 hC.2.1 d_AckBookModel_init_57 (by decide) ?_
  refine x_newaZ hC hZ h t_935 d_AckBookModel_init_60 (fun a9 w H cells slots hZ h => ?_)
  refine x_putF hC hZ zc10 h (by decide) t_829 (fun _ h9 => h9) rfl hnm rfl rfl (z_rfnA _ _) (z_rffA _ _) d_AckBookModel_init_62 (fun w H locs hZ h => ?_)
  refine x_aload_n hC d_AckBookModel_init_65 rfl (lv_at hl 0 rfl) ?_
  refine lv_iconst (v := (3 : Int32)) hC.1 hC.2.1 d_AckBookModel_init_66 (by decide) ?_
  refine x_newaZ hC hZ h t_935 d_AckBookModel_init_67 (fun a10 w H cells slots hZ h => ?_)
  refine x_putF hC hZ zc10 h (by decide) t_830 (fun _ h9 => h9) rfl hnm rfl rfl (z_rfnA _ _) (z_rffA _ _) d_AckBookModel_init_69 (fun w H locs hZ h => ?_)
  refine x_aload_n hC d_AckBookModel_init_72 rfl (lv_at hl 0 rfl) ?_
  refine lv_iconst (v := (3 : Int32)) hC.1 hC.2.1 d_AckBookModel_init_73 (by decide) ?_
  refine x_newaI hC hZ h t_934 d_AckBookModel_init_74 (fun a11 w H cells slots hZ h => ?_)
  refine x_putF hC hZ zc10 h (by decide) t_831 (fun _ h9 => h9) rfl hnm rfl rfl (z_rfnA _ _) (z_rffA _ _) d_AckBookModel_init_76 (fun w H locs hZ h => ?_)
  refine x_aload_n hC d_AckBookModel_init_79 rfl (lv_at hl 0 rfl) ?_
  refine lv_iconst (v := (3 : Int32)) hC.1 hC.2.1 d_AckBookModel_init_80 (by decide) ?_
  refine x_newaI hC hZ h t_934 d_AckBookModel_init_81 (fun a12 w H cells slots hZ h => ?_)
  refine x_putF hC hZ zc10 h (by decide) t_832 (fun _ h9 => h9) rfl hnm rfl rfl (z_rfnA _ _) (z_rffA _ _) d_AckBookModel_init_83 (fun w H locs hZ h => ?_)
  refine x_aload_n hC d_AckBookModel_init_86 rfl (lv_at hl 0 rfl) ?_
  refine lv_sipush (v := (24576 : Int32)) hC.1 hC.2.1 d_AckBookModel_init_87 (by decide) ?_
  refine x_newaI hC hZ h t_934 d_AckBookModel_init_90 (fun a13 w H cells slots hZ h => ?_)
  refine x_putF hC hZ zc10 h (by decide) t_834 (fun _ h9 => h9) rfl hnm rfl rfl (z_rfnA _ _) (z_rffA _ _) d_AckBookModel_init_92 (fun w H locs hZ h => ?_)
  refine x_aload_n hC d_AckBookModel_init_95 rfl (lv_at hl 0 rfl) ?_
  refine lv_bipush (v := (6 : Int32)) hC.1 hC.2.1 d_AckBookModel_init_96 (by decide) ?_
  refine x_newaI hC hZ h t_934 d_AckBookModel_init_98 (fun a14 w H cells slots hZ h => ?_)
  refine x_putF hC hZ zc10 h (by decide) t_835 (fun _ h9 => h9) rfl hnm rfl rfl (z_rfnA _ _) (z_rffA _ _) d_AckBookModel_init_100 (fun w H locs hZ h => ?_)
  refine x_aload_n hC d_AckBookModel_init_103 rfl (lv_at hl 0 rfl) ?_
  refine lv_bipush (v := (6 : Int32)) hC.1 hC.2.1 d_AckBookModel_init_104 (by decide) ?_
  refine x_newaI hC hZ h t_934 d_AckBookModel_init_106 (fun a15 w H cells slots hZ h => ?_)
  refine x_putF hC hZ zc10 h (by decide) t_836 (fun _ h9 => h9) rfl hnm rfl rfl (z_rfnA _ _) (z_rffA _ _) d_AckBookModel_init_108 (fun w H locs hZ h => ?_)
  refine x_aload_n hC d_AckBookModel_init_111 rfl (lv_at hl 0 rfl) ?_
  refine lv_sipush (v := (800 : Int32)) hC.1 hC.2.1 d_AckBookModel_init_112 (by decide) ?_
  refine x_put hC hZ zc10 h (by decide) t_837 (fun _ h9 => h9) rfl rfl rfl rfl d_AckBookModel_init_115 (fun w H locs hZ h => ?_)
  refine x_aload_n hC d_AckBookModel_init_118 rfl (lv_at hl 0 rfl) ?_
  refine lv_sipush (v := (200 : Int32)) hC.1 hC.2.1 d_AckBookModel_init_119 (by decide) ?_
  refine x_put hC hZ zc10 h (by decide) t_838 (fun _ h9 => h9) rfl rfl rfl rfl d_AckBookModel_init_122 (fun w H locs hZ h => ?_)
  refine x_aload_n hC d_AckBookModel_init_125 rfl (lv_at hl 0 rfl) ?_
  refine lv_iconst (v := (-1 : Int32)) hC.1 hC.2.1 d_AckBookModel_init_126 (by decide) ?_
  refine x_put hC hZ zc10 h (by decide) t_840 (fun _ h9 => h9) rfl rfl rfl rfl d_AckBookModel_init_127 (fun w H locs hZ h => ?_)
  refine x_aload_n hC d_AckBookModel_init_130 rfl (lv_at hl 0 rfl) ?_
  refine lv_iconst (v := (-1 : Int32)) hC.1 hC.2.1 d_AckBookModel_init_131 (by decide) ?_
  refine x_put hC hZ zc10 h (by decide) t_841 (fun _ h9 => h9) rfl rfl rfl rfl d_AckBookModel_init_132 (fun w H locs hZ h => ?_)
  refine x_aload_n hC d_AckBookModel_init_135 rfl (lv_at hl 0 rfl) ?_
  refine lv_sipush (v := (12000 : Int32)) hC.1 hC.2.1 d_AckBookModel_init_136 (by decide) ?_
  refine x_put hC hZ zc10 h (by decide) t_843 (fun _ h9 => h9) rfl rfl rfl rfl d_AckBookModel_init_139 (fun w H locs hZ h => ?_)
  refine x_aload_n hC d_AckBookModel_init_142 rfl (lv_at hl 0 rfl) ?_
  refine lv_iconst (v := (-1 : Int32)) hC.1 hC.2.1 d_AckBookModel_init_143 (by decide) ?_
  refine x_put hC hZ zc10 h (by decide) t_844 (fun _ h9 => h9) rfl rfl rfl rfl d_AckBookModel_init_144 (fun w H locs hZ h => ?_)
  refine x_aload_n hC d_AckBookModel_init_147 rfl (lv_at hl 0 rfl) ?_
  refine lv_iconst (v := (-1 : Int32)) hC.1 hC.2.1 d_AckBookModel_init_148 (by decide) ?_
  refine x_put hC hZ zc10 h (by decide) t_845 (fun _ h9 => h9) rfl rfl rfl rfl d_AckBookModel_init_149 (fun w H locs hZ h => ?_)
  refine x_aload_n hC d_AckBookModel_init_152 rfl (lv_at hl 0 rfl) ?_
  refine lv_bipush (v := (64 : Int32)) hC.1 hC.2.1 d_AckBookModel_init_153 (by decide) ?_
  refine x_newaJ hC hZ h t_154 d_AckBookModel_init_155 (fun a16 w H cells slots hZ h => ?_)
  refine x_putF hC hZ zc10 h (by decide) t_847 (fun _ h9 => h9) rfl hnm rfl rfl (z_rfnA _ _) (z_rffA _ _) d_AckBookModel_init_157 (fun w H locs hZ h => ?_)
  refine x_aload_n hC d_AckBookModel_init_160 rfl (lv_at hl 0 rfl) ?_
  refine lv_bipush (v := (64 : Int32)) hC.1 hC.2.1 d_AckBookModel_init_161 (by decide) ?_
  refine x_newaJ hC hZ h t_154 d_AckBookModel_init_163 (fun a17 w H cells slots hZ h => ?_)
  refine x_putF hC hZ zc10 h (by decide) t_848 (fun _ h9 => h9) rfl hnm rfl rfl (z_rfnA _ _) (z_rffA _ _) d_AckBookModel_init_165 (fun w H locs hZ h => ?_)
  refine x_aload_n hC d_AckBookModel_init_168 rfl (lv_at hl 0 rfl) ?_
  refine lv_iconst (v := (3 : Int32)) hC.1 hC.2.1 d_AckBookModel_init_169 (by decide) ?_
  refine x_newaI hC hZ h t_934 d_AckBookModel_init_170 (fun a18 w H cells slots hZ h => ?_)
  refine x_putF hC hZ zc10 h (by decide) t_849 (fun _ h9 => h9) rfl hnm rfl rfl (z_rfnA _ _) (z_rffA _ _) d_AckBookModel_init_172 (fun w H locs hZ h => ?_)
  refine x_aload_n hC d_AckBookModel_init_175 rfl (lv_at hl 0 rfl) ?_
  refine lv_sipush (v := (195 : Int32)) hC.1 hC.2.1 d_AckBookModel_init_176 (by decide) ?_
  refine x_newaJ hC hZ h t_154 d_AckBookModel_init_179 (fun a19 w H cells slots hZ h => ?_)
  refine x_putF hC hZ zc10 h (by decide) t_850 (fun _ h9 => h9) rfl hnm rfl rfl (z_rfnA _ _) (z_rffA _ _) d_AckBookModel_init_181 (fun w H locs hZ h => ?_)
  refine x_aload_n hC d_AckBookModel_init_184 rfl (lv_at hl 0 rfl) ?_
  refine lv_sipush (v := (195 : Int32)) hC.1 hC.2.1 d_AckBookModel_init_185 (by decide) ?_
  refine x_newaJ hC hZ h t_154 d_AckBookModel_init_188 (fun a20 w H cells slots hZ h => ?_)
  refine x_putF hC hZ zc10 h (by decide) t_851 (fun _ h9 => h9) rfl hnm rfl rfl (z_rfnA _ _) (z_rffA _ _) d_AckBookModel_init_190 (fun w H locs hZ h => ?_)
  refine x_aload_n hC d_AckBookModel_init_193 rfl (lv_at hl 0 rfl) ?_
  refine lv_iconst (v := (3 : Int32)) hC.1 hC.2.1 d_AckBookModel_init_194 (by decide) ?_
  refine x_newaJ hC hZ h t_154 d_AckBookModel_init_195 (fun a21 w H cells slots hZ h => ?_)
  refine x_putF hC hZ zc10 h (by decide) t_852 (fun _ h9 => h9) rfl hnm rfl rfl (z_rfnA _ _) (z_rffA _ _) d_AckBookModel_init_197 (fun w H locs hZ h => ?_)
  refine x_aload_n hC d_AckBookModel_init_200 rfl (lv_at hl 0 rfl) ?_
  refine lv_iconst (v := (3 : Int32)) hC.1 hC.2.1 d_AckBookModel_init_201 (by decide) ?_
  refine x_newaI hC hZ h t_934 d_AckBookModel_init_202 (fun a22 w H cells slots hZ h => ?_)
  refine x_putF hC hZ zc10 h (by decide) t_853 (fun _ h9 => h9) rfl hnm rfl rfl (z_rfnA _ _) (z_rffA _ _) d_AckBookModel_init_204 (fun w H locs hZ h => ?_)
  refine x_aload_n hC d_AckBookModel_init_207 rfl (lv_at hl 0 rfl) ?_
  refine lv_iconst (v := (3 : Int32)) hC.1 hC.2.1 d_AckBookModel_init_208 (by decide) ?_
  refine x_newaI hC hZ h t_934 d_AckBookModel_init_209 (fun a23 w H cells slots hZ h => ?_)
  refine x_putF hC hZ zc10 h (by decide) t_854 (fun _ h9 => h9) rfl hnm rfl rfl (z_rfnA _ _) (z_rffA _ _) d_AckBookModel_init_211 (fun w H locs hZ h => ?_)
  refine x_aload_n hC d_AckBookModel_init_214 rfl (lv_at hl 0 rfl) ?_
  refine lv_iconst (v := (3 : Int32)) hC.1 hC.2.1 d_AckBookModel_init_215 (by decide) ?_
  refine x_newaI hC hZ h t_934 d_AckBookModel_init_216 (fun a24 w H cells slots hZ h => ?_)
  refine x_putF hC hZ zc10 h (by decide) t_855 (fun _ h9 => h9) rfl hnm rfl rfl (z_rfnA _ _) (z_rffA _ _) d_AckBookModel_init_218 (fun w H locs hZ h => ?_)
  refine x_aload_n hC d_AckBookModel_init_221 rfl (lv_at hl 0 rfl) ?_
  refine lv_iconst (v := (3 : Int32)) hC.1 hC.2.1 d_AckBookModel_init_222 (by decide) ?_
  refine x_newaZ hC hZ h t_935 d_AckBookModel_init_223 (fun a25 w H cells slots hZ h => ?_)
  refine x_putF hC hZ zc10 h (by decide) t_856 (fun _ h9 => h9) rfl hnm rfl rfl (z_rfnA _ _) (z_rffA _ _) d_AckBookModel_init_225 (fun w H locs hZ h => ?_)
  refine lv_iconst (v := (0 : Int32)) hC.1 hC.2.1 d_AckBookModel_init_228 (by decide) ?_
  refine lv_istore_n (i := 1) (lv' := [(1, .int (0 : Int32)), (0, va_rf a0)]) hC.1 hC.2.1 d_AckBookModel_init_229 rfl hl (by decide) (by first | rfl | simp [z_rfc, z_ci, z_cj]) (fun ls hl => ?_)
  exact (kj_AckBookModel_init hT hfl hE hC hr hRc hRs hFr hRt hnm F) _ _ _ _ h _ _ _ _ _ hZ (lv_sub hl [1, 0] rfl)
def f_AckBookModel_thrown (F X : Nat) (a0 : Option Nat) (w : zW) : zR :=
  z_getI w 10 0 a0 fun v1 =>
  some (.inl (some (.int v1)), w)
set_option maxHeartbeats 4000000 in
set_option maxRecDepth 100000 in
theorem k_AckBookModel_thrown {b0 : Nat} {H0 : Heap} {D : va_G} {vu vs : Value} {X : Nat} {l : Launch} (hT : z_TB (zGG b0 H0 D vu vs X)) (hfl : l.flags = pinnedFlags ++ [noTraceFlag]) (hE : vu.isRef = true ∧ vs.isRef = true) {a0 : Option Nat} (F : Nat) {w : zW} (res : zO × zW) (h : f_AckBookModel_thrown F X a0 w = some res) : z_Ct (zGG b0 H0 D vu vs X) l y_AckBookModel_thrown (.code y_AckBookModel_thrown c_AckBookModel_thrown 1 (some FieldType.int)) 0 0 [va_rf a0] w res := by
  refine z_ct hT hfl (by decide) (by simp only [z_sl_i, z_sl_j, z_sl_r, z_sl_n]; decide) ?_
  intro p e R s m args below meth c hC hr hRc hRs hRt hnm hFr H ls hZ hl
  simp only [z_la_i, z_la_j, z_la_r, z_la_n] at hl
  have hl : lv_has ls 1 [(0, va_rf a0)] := hl
  unfold f_AckBookModel_thrown at h
  refine x_aload_n hC d_AckBookModel_thrown_0 rfl (lv_at hl 0 rfl) ?_
  refine x_getI hC hZ zc10 h (by decide) t_819 (fun _ h9 => h9) d_AckBookModel_thrown_1 (fun v1 h => ?_)
  exact x_iret hC hRc hRs hZ hr rfl h d_AckBookModel_thrown_4
def f_AckBookModel_noSpace (F X : Nat) (pI1 : Int32) (w : zW) : zR :=
  if pI1 < 0 then (
    some (.inl (some (.int (1 : Int32))), w))
  else (
    if pI1 ≤ (2 : Int32) then (
      some (.inl (some (.int (0 : Int32))), w))
    else (
      some (.inl (some (.int (1 : Int32))), w)))
set_option maxHeartbeats 4000000 in
set_option maxRecDepth 100000 in
theorem k_AckBookModel_noSpace {b0 : Nat} {H0 : Heap} {D : va_G} {vu vs : Value} {X : Nat} {l : Launch} (hT : z_TB (zGG b0 H0 D vu vs X)) (hfl : l.flags = pinnedFlags ++ [noTraceFlag]) (hE : vu.isRef = true ∧ vs.isRef = true) {pI1 : Int32} (F : Nat) {w : zW} (res : zO × zW) (h : f_AckBookModel_noSpace F X pI1 w = some res) : z_Ct (zGG b0 H0 D vu vs X) l y_AckBookModel_noSpace (.code y_AckBookModel_noSpace c_AckBookModel_noSpace 1 (some FieldType.boolean)) 0 0 [.int pI1] w res := by
  refine z_ct hT hfl (by decide) (by simp only [z_sl_i, z_sl_j, z_sl_r, z_sl_n]; decide) ?_
  intro p e R s m args below meth c hC hr hRc hRs hRt hnm hFr H ls hZ hl
  simp only [z_la_i, z_la_j, z_la_r, z_la_n] at hl
  have hl : lv_has ls 1 [(0, .int pI1)] := hl
  unfold f_AckBookModel_noSpace at h
  refine lv_iload_n hC.1 hC.2.1 d_AckBookModel_noSpace_0 rfl (lv_at hl 0 rfl) ?_
  refine lv_if_lt (tgt := 9) hC.1 hC.2.1 d_AckBookModel_noSpace_1 (by decide) (fun hc => ?_) (fun hc => ?_)
  · have h := z_ifp hc h
    refine lv_iconst (v := (1 : Int32)) hC.1 hC.2.1 d_AckBookModel_noSpace_9 (by decide) ?_
    refine lv_goto (tgt := 14) hC.1 hC.2.1 d_AckBookModel_noSpace_10 (by decide) ?_
    exact x_iret hC hRc hRs hZ hr rfl h d_AckBookModel_noSpace_14
  · have h := z_ifn hc h
    refine lv_iload_n hC.1 hC.2.1 d_AckBookModel_noSpace_4 rfl (lv_at hl 0 rfl) ?_
    refine lv_iconst (v := (2 : Int32)) hC.1 hC.2.1 d_AckBookModel_noSpace_5 (by decide) ?_
    refine lv_icmp_le (tgt := 13) hC.1 hC.2.1 d_AckBookModel_noSpace_6 (by decide) (fun hc => ?_) (fun hc => ?_)
    · have h := z_ifp hc h
      refine lv_iconst (v := (0 : Int32)) hC.1 hC.2.1 d_AckBookModel_noSpace_13 (by decide) ?_
      exact x_iret hC hRc hRs hZ hr rfl h d_AckBookModel_noSpace_14
    · have h := z_ifn hc h
      refine lv_iconst (v := (1 : Int32)) hC.1 hC.2.1 d_AckBookModel_noSpace_9 (by decide) ?_
      refine lv_goto (tgt := 14) hC.1 hC.2.1 d_AckBookModel_noSpace_10 (by decide) ?_
      exact x_iret hC hRc hRs hZ hr rfl h d_AckBookModel_noSpace_14
def f_AckBookModel_fails (F X : Nat) (a0 : Option Nat) (pI1 : Int32) (pI2 : Int32) (w : zW) : zR :=
  if pI1 = 0 then (
    z_put w 10 0 a0 (.int (0 : Int32)) fun w =>
    z_retZ pI1 w)
  else (
    z_put w 10 0 a0 (.int pI2) fun w =>
    z_retZ pI1 w)
set_option maxHeartbeats 4000000 in
set_option maxRecDepth 100000 in
theorem k_AckBookModel_fails {b0 : Nat} {H0 : Heap} {D : va_G} {vu vs : Value} {X : Nat} {l : Launch} (hT : z_TB (zGG b0 H0 D vu vs X)) (hfl : l.flags = pinnedFlags ++ [noTraceFlag]) (hE : vu.isRef = true ∧ vs.isRef = true) {a0 : Option Nat} {pI1 : Int32} {pI2 : Int32} (F : Nat) {w : zW} (res : zO × zW) (h : f_AckBookModel_fails F X a0 pI1 pI2 w = some res) : z_Ct (zGG b0 H0 D vu vs X) l y_AckBookModel_fails (.code y_AckBookModel_fails c_AckBookModel_fails 3 (some FieldType.boolean)) 0 0 [va_rf a0, .int pI1, .int pI2] w res := by
  refine z_ct hT hfl (by decide) (by simp only [z_sl_i, z_sl_j, z_sl_r, z_sl_n]; decide) ?_
  intro p e R s m args below meth c hC hr hRc hRs hRt hnm hFr H ls hZ hl
  simp only [z_la_i, z_la_j, z_la_r, z_la_n] at hl
  have hl : lv_has ls 3 [(0, va_rf a0), (1, .int pI1), (2, .int pI2)] := hl
  unfold f_AckBookModel_fails at h
  refine x_aload_n hC d_AckBookModel_fails_0 rfl (lv_at hl 0 rfl) ?_
  refine lv_iload_n hC.1 hC.2.1 d_AckBookModel_fails_1 rfl (lv_at hl 1 rfl) ?_
  refine lv_if_eq (tgt := 9) hC.1 hC.2.1 d_AckBookModel_fails_2 (by decide) (fun hc => ?_) (fun hc => ?_)
  · have h := z_ifp hc h
    refine lv_iconst (v := (0 : Int32)) hC.1 hC.2.1 d_AckBookModel_fails_9 (by decide) ?_
    refine x_put hC hZ zc10 h (by decide) t_819 (fun _ h9 => h9) rfl rfl rfl rfl d_AckBookModel_fails_10 (fun w H locs hZ h => ?_)
    refine lv_iload_n hC.1 hC.2.1 d_AckBookModel_fails_13 rfl (lv_at hl 1 rfl) ?_
    exact x_zret hC hRc hRs hZ hr h d_AckBookModel_fails_14
  · have h := z_ifn hc h
    refine lv_iload_n hC.1 hC.2.1 d_AckBookModel_fails_5 rfl (lv_at hl 2 rfl) ?_
    refine lv_goto (tgt := 10) hC.1 hC.2.1 d_AckBookModel_fails_6 (by decide) ?_
    refine x_put hC hZ zc10 h (by decide) t_819 (fun _ h9 => h9) rfl rfl rfl rfl d_AckBookModel_fails_10 (fun w H locs hZ h => ?_)
    refine lv_iload_n hC.1 hC.2.1 d_AckBookModel_fails_13 rfl (lv_at hl 1 rfl) ?_
    exact x_zret hC hRc hRs hZ hr h d_AckBookModel_fails_14
def f_AckBookModel_isOut (F X : Nat) (a0 : Option Nat) (pI1 : Int32) (pI2 : Int32) (w : zW) : zR :=
  z_getR w 10 11 a0 fun r1 =>
  z_ldI w .boolean r1 pI1 fun v2 =>
  if v2 = 0 then (
    z_getR w 10 7 a0 fun r3 =>
    z_ldI w .int r3 (((4096 : Int32) * pI1) + pI2) fun v4 =>
    if v4 = 0 then (
      some (.inl (some (.int (1 : Int32))), w))
    else (
      some (.inl (some (.int (0 : Int32))), w)))
  else (
    some (.inl (some (.int (0 : Int32))), w))
set_option maxHeartbeats 4000000 in
set_option maxRecDepth 100000 in
theorem k_AckBookModel_isOut {b0 : Nat} {H0 : Heap} {D : va_G} {vu vs : Value} {X : Nat} {l : Launch} (hT : z_TB (zGG b0 H0 D vu vs X)) (hfl : l.flags = pinnedFlags ++ [noTraceFlag]) (hE : vu.isRef = true ∧ vs.isRef = true) {a0 : Option Nat} {pI1 : Int32} {pI2 : Int32} (F : Nat) {w : zW} (res : zO × zW) (h : f_AckBookModel_isOut F X a0 pI1 pI2 w = some res) : z_Ct (zGG b0 H0 D vu vs X) l y_AckBookModel_isOut (.code y_AckBookModel_isOut c_AckBookModel_isOut 3 (some FieldType.boolean)) 0 0 [va_rf a0, .int pI1, .int pI2] w res := by
  refine z_ct hT hfl (by decide) (by simp only [z_sl_i, z_sl_j, z_sl_r, z_sl_n]; decide) ?_
  intro p e R s m args below meth c hC hr hRc hRs hRt hnm hFr H ls hZ hl
  simp only [z_la_i, z_la_j, z_la_r, z_la_n] at hl
  have hl : lv_has ls 3 [(0, va_rf a0), (1, .int pI1), (2, .int pI2)] := hl
  unfold f_AckBookModel_isOut at h
  refine x_aload_n hC d_AckBookModel_isOut_0 rfl (lv_at hl 0 rfl) ?_
  refine x_getR hC hZ zc10 h (by decide) t_830 (fun _ h9 => h9) d_AckBookModel_isOut_1 (fun r1 h => ?_)
  refine lv_iload_n hC.1 hC.2.1 d_AckBookModel_isOut_4 rfl (lv_at hl 1 rfl) ?_
  refine x_ldZ hC hZ h d_AckBookModel_isOut_5 (fun v2 h => ?_)
  refine lv_if_ne (tgt := 28) hC.1 hC.2.1 d_AckBookModel_isOut_6 (by decide) (fun hc => ?_) (fun hc => ?_)
  · have h := z_ifn hc h
    refine lv_iconst (v := (0 : Int32)) hC.1 hC.2.1 d_AckBookModel_isOut_28 (by decide) ?_
    exact x_iret hC hRc hRs hZ hr rfl h d_AckBookModel_isOut_29
  · have h := z_ifp hc h
    refine x_aload_n hC d_AckBookModel_isOut_9 rfl (lv_at hl 0 rfl) ?_
    refine x_getR hC hZ zc10 h (by decide) t_826 (fun _ h9 => h9) d_AckBookModel_isOut_10 (fun r3 h => ?_)
    refine lv_sipush (v := (4096 : Int32)) hC.1 hC.2.1 d_AckBookModel_isOut_13 (by decide) ?_
    refine lv_iload_n hC.1 hC.2.1 d_AckBookModel_isOut_16 rfl (lv_at hl 1 rfl) ?_
    refine lv_imul hC.1 hC.2.1 d_AckBookModel_isOut_17 ?_
    refine lv_iload_n hC.1 hC.2.1 d_AckBookModel_isOut_18 rfl (lv_at hl 2 rfl) ?_
    refine lv_iadd hC.1 hC.2.1 d_AckBookModel_isOut_19 ?_
    refine x_ldI hC hZ h d_AckBookModel_isOut_20 (fun v4 h => ?_)
    refine lv_if_ne (tgt := 28) hC.1 hC.2.1 d_AckBookModel_isOut_21 (by decide) (fun hc => ?_) (fun hc => ?_)
    · have h := z_ifn hc h
      refine lv_iconst (v := (0 : Int32)) hC.1 hC.2.1 d_AckBookModel_isOut_28 (by decide) ?_
      exact x_iret hC hRc hRs hZ hr rfl h d_AckBookModel_isOut_29
    · have h := z_ifp hc h
      refine lv_iconst (v := (1 : Int32)) hC.1 hC.2.1 d_AckBookModel_isOut_24 (by decide) ?_
      refine lv_goto (tgt := 29) hC.1 hC.2.1 d_AckBookModel_isOut_25 (by decide) ?_
      exact x_iret hC hRc hRs hZ hr rfl h d_AckBookModel_isOut_29
def j_AckBookModel_flight (F X : Nat) : Nat → Nat → Option Nat → Int32 → Int32 → Int32 → zW → zR
  | 0, _, _, _, _, _, _ => none
  | N + 1, lb, rL0, xL1, xL2, xL3, w =>
    if lb = 0 then (
    if (3 : Int32) ≤ xL2 then (
      some (.inl (some (.int xL1)), w))
    else (
      j_AckBookModel_flight F X N 1 rL0 xL1 xL2 (0 : Int32) w))
    else (
    z_getR w 10 4 rL0 fun r1 =>
    z_ldI w .int r1 xL2 fun v2 =>
    if v2 ≤ xL3 then (
      j_AckBookModel_flight F X N 0 rL0 xL1 (xL2 + (1 : Int32)) 0 w)
    else (
      z_this w 10 rL0 <|
      z_cI (f_AckBookModel_isOut F X rL0 xL2 xL3 w) fun v4 w =>
      if v4 = 0 then (
        j_AckBookModel_flight F X N 1 rL0 (xL1 + (0 : Int32)) xL2 (xL3 + (1 : Int32)) w)
      else (
        z_getR w 10 9 rL0 fun r5 =>
        z_ldI w .boolean r5 (((4096 : Int32) * xL2) + xL3) fun v6 =>
        if v6 = 0 then (
          j_AckBookModel_flight F X N 1 rL0 (xL1 + (0 : Int32)) xL2 (xL3 + (1 : Int32)) w)
        else (
          z_getR w 10 5 rL0 fun r7 =>
          z_ldI w .int r7 (((4096 : Int32) * xL2) + xL3) fun v8 =>
          j_AckBookModel_flight F X N 1 rL0 (xL1 + v8) xL2 (xL3 + (1 : Int32)) w))))
def f_AckBookModel_flight (F X : Nat) (a0 : Option Nat) (w : zW) : zR :=
  j_AckBookModel_flight F X F 0 a0 (0 : Int32) (0 : Int32) 0 w
set_option maxHeartbeats 4000000 in
set_option maxRecDepth 100000 in
theorem kj_AckBookModel_flight {b0 : Nat} {H0 : Heap} {D : va_G} {vu vs : Value} {X : Nat} {l : Launch} (hT : z_TB (zGG b0 H0 D vu vs X)) (hfl : l.flags = pinnedFlags ++ [noTraceFlag]) (hE : vu.isRef = true ∧ vs.isRef = true) {p : Program} {e : Env} {R : Room} {s : State} {m : MethodId} {args : Array Value} {below : List Frame} {meth : Method} {c : Code} {w0 : zW} {F : Nat} (hC : z_C (zGG b0 H0 D vu vs X) p e s m meth c c_AckBookModel_flight 4 y_AckBookModel_flight.cls) (hr : meth.sig.returnType = (some FieldType.int)) (hRc : R.cells = w0.2.1) (hRs : R.slots = w0.2.2.1) (hFr : c.exceptionTable.toList = []) (hRt : R.frames = 1 ∧ R.locals = 22) (hnm : meth.name = y_AckBookModel_flight.name) : ∀ N : Nat, (∀ (rL0 : Option Nat) (xL1 : Int32) (xL2 : Int32) (xL3 : Int32) (w : zW) (res : zO × zW), j_AckBookModel_flight F X N 0 rL0 xL1 xL2 xL3 w = some res → ∀ (H : Heap) (locs : List Loc) (cells slots : Nat) (ls : Array Slot), z_Z (zGG b0 H0 D vu vs X) R s w H locs cells slots → lv_has ls 4 [(0, va_rf rL0), (1, .int xL1), (2, .int xL2)] → W p l e R s m args below meth c H locs cells slots (z_Q (zGG b0 H0 D vu vs X) below s w0 res) (F0 m 4 ls [])) ∧ (∀ (rL0 : Option Nat) (xL1 : Int32) (xL2 : Int32) (xL3 : Int32) (w : zW) (res : zO × zW), j_AckBookModel_flight F X N 1 rL0 xL1 xL2 xL3 w = some res → ∀ (H : Heap) (locs : List Loc) (cells slots : Nat) (ls : Array Slot), z_Z (zGG b0 H0 D vu vs X) R s w H locs cells slots → lv_has ls 4 [(0, va_rf rL0), (1, .int xL1), (2, .int xL2), (3, .int xL3)] → W p l e R s m args below meth c H locs cells slots (z_Q (zGG b0 H0 D vu vs X) below s w0 res) (F0 m 11 ls [])) := by
  intro N
  induction N with
  | zero =>
    refine ⟨?_, ?_⟩
    · intro rL0 xL1 xL2 xL3 w res h
      rw [j_AckBookModel_flight] at h
      cases h
    · intro rL0 xL1 xL2 xL3 w res h
      rw [j_AckBookModel_flight] at h
      cases h
  | succ N ih =>
    refine ⟨?_, ?_⟩
    · intro rL0 xL1 xL2 xL3 w res h H locs cells slots ls hZ hl
      rw [j_AckBookModel_flight] at h
      have h := z_ifp rfl h
      refine lv_iload_n hC.1 hC.2.1 d_AckBookModel_flight_4 rfl (lv_at hl 2 rfl) ?_
      refine lv_iconst (v := (3 : Int32)) hC.1 hC.2.1 d_AckBookModel_flight_5 (by decide) ?_
      refine lv_icmp_ge (tgt := 76) hC.1 hC.2.1 d_AckBookModel_flight_6 (by decide) (fun hc => ?_) (fun hc => ?_)
      · have h := z_ifp hc h
        refine lv_iload_n hC.1 hC.2.1 d_AckBookModel_flight_76 rfl (lv_at hl 1 rfl) ?_
        exact x_iret hC hRc hRs hZ hr rfl h d_AckBookModel_flight_77
      · have h := z_ifn hc h
        refine lv_iconst (v := (0 : Int32)) hC.1 hC.2.1 d_AckBookModel_flight_9 (by decide) ?_
        refine lv_istore_n (i := 3) (lv' := [(3, .int (0 : Int32)), (0, va_rf rL0), (1, .int xL1), (2, .int xL2)]) hC.1 hC.2.1 d_AckBookModel_flight_10 rfl hl (by decide) (by first | rfl | simp [z_rfc, z_ci, z_cj]) (fun ls hl => ?_)
        exact ih.2 _ _ _ _ _ _ h _ _ _ _ _ hZ (lv_sub hl [1, 2, 3, 0] rfl)
    · intro rL0 xL1 xL2 xL3 w res h H locs cells slots ls hZ hl
      rw [j_AckBookModel_flight] at h
      have h := z_ifn (by decide) h
      refine lv_iload_n hC.1 hC.2.1 d_AckBookModel_flight_11 rfl (lv_at hl 3 rfl) ?_
      refine x_aload_n hC d_AckBookModel_flight_12 rfl (lv_at hl 0 rfl) ?_
      refine x_getR hC hZ zc10 h (by decide) t_823 (fun _ h9 => h9) d_AckBookModel_flight_13 (fun r1 h => ?_)
      refine lv_iload_n hC.1 hC.2.1 d_AckBookModel_flight_16 rfl (lv_at hl 2 rfl) ?_
      refine x_ldI hC hZ h d_AckBookModel_flight_17 (fun v2 h => ?_)
      refine lv_icmp_ge (tgt := 70) hC.1 hC.2.1 d_AckBookModel_flight_18 (by decide) (fun hc => ?_) (fun hc => ?_)
      · have h := z_ifp hc h
        refine lv_iinc (lv' := [(2, .int (xL2 + (1 : Int32))), (0, va_rf rL0), (1, .int xL1), (3, .int xL3)]) hC.1 hC.2.1 d_AckBookModel_flight_70 hl (k := 2) rfl rfl (by decide) (by first | rfl | simp [z_rfc, z_ci, z_cj]) (fun ls hl => ?_)
        refine lv_goto (tgt := 4) hC.1 hC.2.1 d_AckBookModel_flight_73 (by decide) ?_
        exact ih.1 _ _ _ _ _ _ h _ _ _ _ _ hZ (lv_sub hl [1, 2, 0] rfl)
      · have h := z_ifn hc h
        refine lv_iload_n hC.1 hC.2.1 d_AckBookModel_flight_21 rfl (lv_at hl 1 rfl) ?_
        refine x_aload_n hC d_AckBookModel_flight_22 rfl (lv_at hl 0 rfl) ?_
        refine lv_iload_n hC.1 hC.2.1 d_AckBookModel_flight_23 rfl (lv_at hl 2 rfl) ?_
        refine lv_iload_n hC.1 hC.2.1 d_AckBookModel_flight_24 rfl (lv_at hl 3 rfl) ?_
        obtain ⟨a_, fs_, eo_, h⟩ := z_this_spec h
        obtain ⟨w1_, o1_, hF_, ha_⟩ := z_cI_spec h
        refine x_goes hC hRc hRs hFr ha_ (z_goV (As := [.int xL2, .int xL3]) hC hZ zc10 eo_ (k_AckBookModel_isOut hT hfl hE _ _ hF_) t_955 t_957 ts_AckBookModel_isOut t_12 t_958 ⟨by decide, by decide, (by decide +kernel : (parseMethodDescriptor y_AckBookModel_isOut.desc).map (fun d => d.parameters.length) = some 2)⟩ (by rw [hRt.1]; decide) (by rw [hRt.2]; decide) hl.1 rfl (by first | exact Nat.le_of_ble_eq_true rfl | simp [z_rfc, z_ci, z_cj]) d_AckBookModel_flight_25) (fun v_ hv H locs cells slots hZ => ?_)
        obtain ⟨v4, rfl, h⟩ := hv
        generalize w1_ = w at h hZ
        refine lv_if_eq (tgt := 61) hC.1 hC.2.1 d_AckBookModel_flight_28 (by decide) (fun hc => ?_) (fun hc => ?_)
        · have h := z_ifp hc h
          refine lv_iconst (v := (0 : Int32)) hC.1 hC.2.1 d_AckBookModel_flight_61 (by decide) ?_
          refine lv_iadd hC.1 hC.2.1 d_AckBookModel_flight_62 ?_
          refine lv_istore_n (i := 1) (lv' := [(1, .int (xL1 + (0 : Int32))), (0, va_rf rL0), (2, .int xL2), (3, .int xL3)]) hC.1 hC.2.1 d_AckBookModel_flight_63 rfl hl (by decide) (by first | rfl | simp [z_rfc, z_ci, z_cj]) (fun ls hl => ?_)
          refine lv_iinc (lv' := [(3, .int (xL3 + (1 : Int32))), (1, .int (xL1 + (0 : Int32))), (0, va_rf rL0), (2, .int xL2)]) hC.1 hC.2.1 d_AckBookModel_flight_64 hl (k := 3) rfl rfl (by decide) (by first | rfl | simp [z_rfc, z_ci, z_cj]) (fun ls hl => ?_)
          refine lv_goto (tgt := 11) hC.1 hC.2.1 d_AckBookModel_flight_67 (by decide) ?_
          exact ih.2 _ _ _ _ _ _ h _ _ _ _ _ hZ (lv_sub hl [2, 1, 3, 0] rfl)
        · have h := z_ifn hc h
          refine x_aload_n hC d_AckBookModel_flight_31 rfl (lv_at hl 0 rfl) ?_
          refine x_getR hC hZ zc10 h (by decide) t_828 (fun _ h9 => h9) d_AckBookModel_flight_32 (fun r5 h => ?_)
          refine lv_sipush (v := (4096 : Int32)) hC.1 hC.2.1 d_AckBookModel_flight_35 (by decide) ?_
          refine lv_iload_n hC.1 hC.2.1 d_AckBookModel_flight_38 rfl (lv_at hl 2 rfl) ?_
          refine lv_imul hC.1 hC.2.1 d_AckBookModel_flight_39 ?_
          refine lv_iload_n hC.1 hC.2.1 d_AckBookModel_flight_40 rfl (lv_at hl 3 rfl) ?_
          refine lv_iadd hC.1 hC.2.1 d_AckBookModel_flight_41 ?_
          refine x_ldZ hC hZ h d_AckBookModel_flight_42 (fun v6 h => ?_)
          refine lv_if_eq (tgt := 61) hC.1 hC.2.1 d_AckBookModel_flight_43 (by decide) (fun hc => ?_) (fun hc => ?_)
          · have h := z_ifp hc h
            refine lv_iconst (v := (0 : Int32)) hC.1 hC.2.1 d_AckBookModel_flight_61 (by decide) ?_
            refine lv_iadd hC.1 hC.2.1 d_AckBookModel_flight_62 ?_
            refine lv_istore_n (i := 1) (lv' := [(1, .int (xL1 + (0 : Int32))), (0, va_rf rL0), (2, .int xL2), (3, .int xL3)]) hC.1 hC.2.1 d_AckBookModel_flight_63 rfl hl (by decide) (by first | rfl | simp [z_rfc, z_ci, z_cj]) (fun ls hl => ?_)
            refine lv_iinc (lv' := [(3, .int (xL3 + (1 : Int32))), (1, .int (xL1 + (0 : Int32))), (0, va_rf rL0), (2, .int xL2)]) hC.1 hC.2.1 d_AckBookModel_flight_64 hl (k := 3) rfl rfl (by decide) (by first | rfl | simp [z_rfc, z_ci, z_cj]) (fun ls hl => ?_)
            refine lv_goto (tgt := 11) hC.1 hC.2.1 d_AckBookModel_flight_67 (by decide) ?_
            exact ih.2 _ _ _ _ _ _ h _ _ _ _ _ hZ (lv_sub hl [2, 1, 3, 0] rfl)
          · have h := z_ifn hc h
            refine x_aload_n hC d_AckBookModel_flight_46 rfl (lv_at hl 0 rfl) ?_
            refine x_getR hC hZ zc10 h (by decide) t_824 (fun _ h9 => h9) d_AckBookModel_flight_47 (fun r7 h => ?_)
            refine lv_sipush (v := (4096 : Int32)) hC.1 hC.2.1 d_AckBookModel_flight_50 (by decide) ?_
            refine lv_iload_n hC.1 hC.2.1 d_AckBookModel_flight_53 rfl (lv_at hl 2 rfl) ?_
            refine lv_imul hC.1 hC.2.1 d_AckBookModel_flight_54 ?_
            refine lv_iload_n hC.1 hC.2.1 d_AckBookModel_flight_55 rfl (lv_at hl 3 rfl) ?_
            refine lv_iadd hC.1 hC.2.1 d_AckBookModel_flight_56 ?_
            refine x_ldI hC hZ h d_AckBookModel_flight_57 (fun v8 h => ?_)
            refine lv_goto (tgt := 62) hC.1 hC.2.1 d_AckBookModel_flight_58 (by decide) ?_
            refine lv_iadd hC.1 hC.2.1 d_AckBookModel_flight_62 ?_
            refine lv_istore_n (i := 1) (lv' := [(1, .int (xL1 + v8)), (0, va_rf rL0), (2, .int xL2), (3, .int xL3)]) hC.1 hC.2.1 d_AckBookModel_flight_63 rfl hl (by decide) (by first | rfl | simp [z_rfc, z_ci, z_cj]) (fun ls hl => ?_)
            refine lv_iinc (lv' := [(3, .int (xL3 + (1 : Int32))), (1, .int (xL1 + v8)), (0, va_rf rL0), (2, .int xL2)]) hC.1 hC.2.1 d_AckBookModel_flight_64 hl (k := 3) rfl rfl (by decide) (by first | rfl | simp [z_rfc, z_ci, z_cj]) (fun ls hl => ?_)
            refine lv_goto (tgt := 11) hC.1 hC.2.1 d_AckBookModel_flight_67 (by decide) ?_
            exact ih.2 _ _ _ _ _ _ h _ _ _ _ _ hZ (lv_sub hl [2, 1, 3, 0] rfl)
set_option maxHeartbeats 4000000 in
set_option maxRecDepth 100000 in
theorem k_AckBookModel_flight {b0 : Nat} {H0 : Heap} {D : va_G} {vu vs : Value} {X : Nat} {l : Launch} (hT : z_TB (zGG b0 H0 D vu vs X)) (hfl : l.flags = pinnedFlags ++ [noTraceFlag]) (hE : vu.isRef = true ∧ vs.isRef = true) {a0 : Option Nat} (F : Nat) {w : zW} (res : zO × zW) (h : f_AckBookModel_flight F X a0 w = some res) : z_Ct (zGG b0 H0 D vu vs X) l y_AckBookModel_flight (.code y_AckBookModel_flight c_AckBookModel_flight 4 (some FieldType.int)) 1 22 [va_rf a0] w res := by
  refine z_ct hT hfl (by decide) (by simp only [z_sl_i, z_sl_j, z_sl_r, z_sl_n]; decide) ?_
  intro p e R s m args below meth c hC hr hRc hRs hRt hnm hFr H ls hZ hl
  simp only [z_la_i, z_la_j, z_la_r, z_la_n] at hl
  have hl : lv_has ls 4 [(0, va_rf a0)] := hl
  unfold f_AckBookModel_flight at h
  refine lv_iconst (v := (0 : Int32)) hC.1 hC.2.1 d_AckBookModel_flight_0 (by decide) ?_
  refine lv_istore_n (i := 1) (lv' := [(1, .int (0 : Int32)), (0, va_rf a0)]) hC.1 hC.2.1 d_AckBookModel_flight_1 rfl hl (by decide) (by first | rfl | simp [z_rfc, z_ci, z_cj]) (fun ls hl => ?_)
  refine lv_iconst (v := (0 : Int32)) hC.1 hC.2.1 d_AckBookModel_flight_2 (by decide) ?_
  refine lv_istore_n (i := 2) (lv' := [(2, .int (0 : Int32)), (1, .int (0 : Int32)), (0, va_rf a0)]) hC.1 hC.2.1 d_AckBookModel_flight_3 rfl hl (by decide) (by first | rfl | simp [z_rfc, z_ci, z_cj]) (fun ls hl => ?_)
  exact (kj_AckBookModel_flight hT hfl hE hC hr hRc hRs hFr hRt hnm F).1 _ _ _ _ _ _ h _ _ _ _ _ hZ (lv_sub hl [2, 1, 0] rfl)
def f_AckBookModel_send (F X : Nat) (a0 : Option Nat) (pI1 : Int32) (pI2 : Int32) (pI3 : Int32) (pI4 : Int32) (w : zW) : zR :=
  z_cI (f_AckBookModel_noSpace F X pI1 w) fun v2 w =>
  if v2 = 0 then (
    if pI2 < (1 : Int32) then (
      z_this w 10 a0 <|
      z_cI (f_AckBookModel_fails F X a0 (1 : Int32) (1 : Int32) w) fun v4 w =>
      if v4 = 0 then (
        z_getR w 10 11 a0 fun r5 =>
        z_ldI w .boolean r5 pI1 fun v6 =>
        if v6 = 0 then (
          z_getR w 10 4 a0 fun r7 =>
          z_ldI w .int r7 pI1 fun v8 =>
          if v8 = (4096 : Int32) then (
            z_this w 10 a0 <|
            z_cI (f_AckBookModel_fails F X a0 (1 : Int32) (2 : Int32) w) fun v10 w =>
            if v10 = 0 then (
              z_getR w 10 4 a0 fun r11 =>
              z_ldI w .int r11 pI1 fun v12 =>
              z_getR w 10 5 a0 fun r13 =>
              z_stI w r13 (((4096 : Int32) * pI1) + v12) pI2 fun w =>
              z_getR w 10 6 a0 fun r14 =>
              z_getI w 10 1 a0 fun v15 =>
              z_stI w r14 (((4096 : Int32) * pI1) + v12) v15 fun w =>
              z_getR w 10 7 a0 fun r16 =>
              z_stI w r16 (((4096 : Int32) * pI1) + v12) (0 : Int32) fun w =>
              z_getR w 10 8 a0 fun r17 =>
              z_stZ w r17 (((4096 : Int32) * pI1) + v12) pI3 fun w =>
              z_getR w 10 9 a0 fun r18 =>
              z_stZ w r18 (((4096 : Int32) * pI1) + v12) pI4 fun w =>
              z_getR w 10 4 a0 fun r19 =>
              z_ldI w .int r19 pI1 fun v20 =>
              z_stI w r19 pI1 (v20 + (1 : Int32)) fun w =>
              z_getI w 10 1 a0 fun v21 =>
              z_put w 10 14 a0 (.int v21) fun w =>
              z_getR w 10 10 a0 fun r22 =>
              z_this w 10 a0 <|
              z_cI (f_AckBookModel_flight F X a0 w) fun v24 w =>
              z_getI w 10 24 a0 fun v25 =>
              if v24 ≤ (v25 - (1200 : Int32)) then (
                z_stZ w r22 (((4096 : Int32) * pI1) + v12) (0 : Int32) fun w =>
                some (.inl (some (.int v12)), w))
              else (
                z_stZ w r22 (((4096 : Int32) * pI1) + v12) (1 : Int32) fun w =>
                some (.inl (some (.int v12)), w)))
            else (
              some (.inl (some (.int (0 : Int32))), w)))
          else (
            z_this w 10 a0 <|
            z_cI (f_AckBookModel_fails F X a0 (0 : Int32) (2 : Int32) w) fun v27 w =>
            if v27 = 0 then (
              z_getR w 10 4 a0 fun r28 =>
              z_ldI w .int r28 pI1 fun v29 =>
              z_getR w 10 5 a0 fun r30 =>
              z_stI w r30 (((4096 : Int32) * pI1) + v29) pI2 fun w =>
              z_getR w 10 6 a0 fun r31 =>
              z_getI w 10 1 a0 fun v32 =>
              z_stI w r31 (((4096 : Int32) * pI1) + v29) v32 fun w =>
              z_getR w 10 7 a0 fun r33 =>
              z_stI w r33 (((4096 : Int32) * pI1) + v29) (0 : Int32) fun w =>
              z_getR w 10 8 a0 fun r34 =>
              z_stZ w r34 (((4096 : Int32) * pI1) + v29) pI3 fun w =>
              z_getR w 10 9 a0 fun r35 =>
              z_stZ w r35 (((4096 : Int32) * pI1) + v29) pI4 fun w =>
              z_getR w 10 4 a0 fun r36 =>
              z_ldI w .int r36 pI1 fun v37 =>
              z_stI w r36 pI1 (v37 + (1 : Int32)) fun w =>
              z_getI w 10 1 a0 fun v38 =>
              z_put w 10 14 a0 (.int v38) fun w =>
              z_getR w 10 10 a0 fun r39 =>
              z_this w 10 a0 <|
              z_cI (f_AckBookModel_flight F X a0 w) fun v41 w =>
              z_getI w 10 24 a0 fun v42 =>
              if v41 ≤ (v42 - (1200 : Int32)) then (
                z_stZ w r39 (((4096 : Int32) * pI1) + v29) (0 : Int32) fun w =>
                some (.inl (some (.int v29)), w))
              else (
                z_stZ w r39 (((4096 : Int32) * pI1) + v29) (1 : Int32) fun w =>
                some (.inl (some (.int v29)), w)))
            else (
              some (.inl (some (.int (0 : Int32))), w))))
        else (
          z_this w 10 a0 <|
          z_cI (f_AckBookModel_fails F X a0 (1 : Int32) (2 : Int32) w) fun v44 w =>
          if v44 = 0 then (
            z_getR w 10 4 a0 fun r45 =>
            z_ldI w .int r45 pI1 fun v46 =>
            z_getR w 10 5 a0 fun r47 =>
            z_stI w r47 (((4096 : Int32) * pI1) + v46) pI2 fun w =>
            z_getR w 10 6 a0 fun r48 =>
            z_getI w 10 1 a0 fun v49 =>
            z_stI w r48 (((4096 : Int32) * pI1) + v46) v49 fun w =>
            z_getR w 10 7 a0 fun r50 =>
            z_stI w r50 (((4096 : Int32) * pI1) + v46) (0 : Int32) fun w =>
            z_getR w 10 8 a0 fun r51 =>
            z_stZ w r51 (((4096 : Int32) * pI1) + v46) pI3 fun w =>
            z_getR w 10 9 a0 fun r52 =>
            z_stZ w r52 (((4096 : Int32) * pI1) + v46) pI4 fun w =>
            z_getR w 10 4 a0 fun r53 =>
            z_ldI w .int r53 pI1 fun v54 =>
            z_stI w r53 pI1 (v54 + (1 : Int32)) fun w =>
            z_getI w 10 1 a0 fun v55 =>
            z_put w 10 14 a0 (.int v55) fun w =>
            z_getR w 10 10 a0 fun r56 =>
            z_this w 10 a0 <|
            z_cI (f_AckBookModel_flight F X a0 w) fun v58 w =>
            z_getI w 10 24 a0 fun v59 =>
            if v58 ≤ (v59 - (1200 : Int32)) then (
              z_stZ w r56 (((4096 : Int32) * pI1) + v46) (0 : Int32) fun w =>
              some (.inl (some (.int v46)), w))
            else (
              z_stZ w r56 (((4096 : Int32) * pI1) + v46) (1 : Int32) fun w =>
              some (.inl (some (.int v46)), w)))
          else (
            some (.inl (some (.int (0 : Int32))), w))))
      else (
        some (.inl (some (.int (0 : Int32))), w)))
    else (
      if (1200 : Int32) < pI2 then (
        z_this w 10 a0 <|
        z_cI (f_AckBookModel_fails F X a0 (1 : Int32) (1 : Int32) w) fun v61 w =>
        if v61 = 0 then (
          z_getR w 10 11 a0 fun r62 =>
          z_ldI w .boolean r62 pI1 fun v63 =>
          if v63 = 0 then (
            z_getR w 10 4 a0 fun r64 =>
            z_ldI w .int r64 pI1 fun v65 =>
            if v65 = (4096 : Int32) then (
              z_this w 10 a0 <|
              z_cI (f_AckBookModel_fails F X a0 (1 : Int32) (2 : Int32) w) fun v67 w =>
              if v67 = 0 then (
                z_getR w 10 4 a0 fun r68 =>
                z_ldI w .int r68 pI1 fun v69 =>
                z_getR w 10 5 a0 fun r70 =>
                z_stI w r70 (((4096 : Int32) * pI1) + v69) pI2 fun w =>
                z_getR w 10 6 a0 fun r71 =>
                z_getI w 10 1 a0 fun v72 =>
                z_stI w r71 (((4096 : Int32) * pI1) + v69) v72 fun w =>
                z_getR w 10 7 a0 fun r73 =>
                z_stI w r73 (((4096 : Int32) * pI1) + v69) (0 : Int32) fun w =>
                z_getR w 10 8 a0 fun r74 =>
                z_stZ w r74 (((4096 : Int32) * pI1) + v69) pI3 fun w =>
                z_getR w 10 9 a0 fun r75 =>
                z_stZ w r75 (((4096 : Int32) * pI1) + v69) pI4 fun w =>
                z_getR w 10 4 a0 fun r76 =>
                z_ldI w .int r76 pI1 fun v77 =>
                z_stI w r76 pI1 (v77 + (1 : Int32)) fun w =>
                z_getI w 10 1 a0 fun v78 =>
                z_put w 10 14 a0 (.int v78) fun w =>
                z_getR w 10 10 a0 fun r79 =>
                z_this w 10 a0 <|
                z_cI (f_AckBookModel_flight F X a0 w) fun v81 w =>
                z_getI w 10 24 a0 fun v82 =>
                if v81 ≤ (v82 - (1200 : Int32)) then (
                  z_stZ w r79 (((4096 : Int32) * pI1) + v69) (0 : Int32) fun w =>
                  some (.inl (some (.int v69)), w))
                else (
                  z_stZ w r79 (((4096 : Int32) * pI1) + v69) (1 : Int32) fun w =>
                  some (.inl (some (.int v69)), w)))
              else (
                some (.inl (some (.int (0 : Int32))), w)))
            else (
              z_this w 10 a0 <|
              z_cI (f_AckBookModel_fails F X a0 (0 : Int32) (2 : Int32) w) fun v84 w =>
              if v84 = 0 then (
                z_getR w 10 4 a0 fun r85 =>
                z_ldI w .int r85 pI1 fun v86 =>
                z_getR w 10 5 a0 fun r87 =>
                z_stI w r87 (((4096 : Int32) * pI1) + v86) pI2 fun w =>
                z_getR w 10 6 a0 fun r88 =>
                z_getI w 10 1 a0 fun v89 =>
                z_stI w r88 (((4096 : Int32) * pI1) + v86) v89 fun w =>
                z_getR w 10 7 a0 fun r90 =>
                z_stI w r90 (((4096 : Int32) * pI1) + v86) (0 : Int32) fun w =>
                z_getR w 10 8 a0 fun r91 =>
                z_stZ w r91 (((4096 : Int32) * pI1) + v86) pI3 fun w =>
                z_getR w 10 9 a0 fun r92 =>
                z_stZ w r92 (((4096 : Int32) * pI1) + v86) pI4 fun w =>
                z_getR w 10 4 a0 fun r93 =>
                z_ldI w .int r93 pI1 fun v94 =>
                z_stI w r93 pI1 (v94 + (1 : Int32)) fun w =>
                z_getI w 10 1 a0 fun v95 =>
                z_put w 10 14 a0 (.int v95) fun w =>
                z_getR w 10 10 a0 fun r96 =>
                z_this w 10 a0 <|
                z_cI (f_AckBookModel_flight F X a0 w) fun v98 w =>
                z_getI w 10 24 a0 fun v99 =>
                if v98 ≤ (v99 - (1200 : Int32)) then (
                  z_stZ w r96 (((4096 : Int32) * pI1) + v86) (0 : Int32) fun w =>
                  some (.inl (some (.int v86)), w))
                else (
                  z_stZ w r96 (((4096 : Int32) * pI1) + v86) (1 : Int32) fun w =>
                  some (.inl (some (.int v86)), w)))
              else (
                some (.inl (some (.int (0 : Int32))), w))))
          else (
            z_this w 10 a0 <|
            z_cI (f_AckBookModel_fails F X a0 (1 : Int32) (2 : Int32) w) fun v101 w =>
            if v101 = 0 then (
              z_getR w 10 4 a0 fun r102 =>
              z_ldI w .int r102 pI1 fun v103 =>
              z_getR w 10 5 a0 fun r104 =>
              z_stI w r104 (((4096 : Int32) * pI1) + v103) pI2 fun w =>
              z_getR w 10 6 a0 fun r105 =>
              z_getI w 10 1 a0 fun v106 =>
              z_stI w r105 (((4096 : Int32) * pI1) + v103) v106 fun w =>
              z_getR w 10 7 a0 fun r107 =>
              z_stI w r107 (((4096 : Int32) * pI1) + v103) (0 : Int32) fun w =>
              z_getR w 10 8 a0 fun r108 =>
              z_stZ w r108 (((4096 : Int32) * pI1) + v103) pI3 fun w =>
              z_getR w 10 9 a0 fun r109 =>
              z_stZ w r109 (((4096 : Int32) * pI1) + v103) pI4 fun w =>
              z_getR w 10 4 a0 fun r110 =>
              z_ldI w .int r110 pI1 fun v111 =>
              z_stI w r110 pI1 (v111 + (1 : Int32)) fun w =>
              z_getI w 10 1 a0 fun v112 =>
              z_put w 10 14 a0 (.int v112) fun w =>
              z_getR w 10 10 a0 fun r113 =>
              z_this w 10 a0 <|
              z_cI (f_AckBookModel_flight F X a0 w) fun v115 w =>
              z_getI w 10 24 a0 fun v116 =>
              if v115 ≤ (v116 - (1200 : Int32)) then (
                z_stZ w r113 (((4096 : Int32) * pI1) + v103) (0 : Int32) fun w =>
                some (.inl (some (.int v103)), w))
              else (
                z_stZ w r113 (((4096 : Int32) * pI1) + v103) (1 : Int32) fun w =>
                some (.inl (some (.int v103)), w)))
            else (
              some (.inl (some (.int (0 : Int32))), w))))
        else (
          some (.inl (some (.int (0 : Int32))), w)))
      else (
        if pI3 = 0 then (
          z_this w 10 a0 <|
          z_cI (f_AckBookModel_fails F X a0 (0 : Int32) (1 : Int32) w) fun v118 w =>
          if v118 = 0 then (
            z_getR w 10 11 a0 fun r119 =>
            z_ldI w .boolean r119 pI1 fun v120 =>
            if v120 = 0 then (
              z_getR w 10 4 a0 fun r121 =>
              z_ldI w .int r121 pI1 fun v122 =>
              if v122 = (4096 : Int32) then (
                z_this w 10 a0 <|
                z_cI (f_AckBookModel_fails F X a0 (1 : Int32) (2 : Int32) w) fun v124 w =>
                if v124 = 0 then (
                  z_getR w 10 4 a0 fun r125 =>
                  z_ldI w .int r125 pI1 fun v126 =>
                  z_getR w 10 5 a0 fun r127 =>
                  z_stI w r127 (((4096 : Int32) * pI1) + v126) pI2 fun w =>
                  z_getR w 10 6 a0 fun r128 =>
                  z_getI w 10 1 a0 fun v129 =>
                  z_stI w r128 (((4096 : Int32) * pI1) + v126) v129 fun w =>
                  z_getR w 10 7 a0 fun r130 =>
                  z_stI w r130 (((4096 : Int32) * pI1) + v126) (0 : Int32) fun w =>
                  z_getR w 10 8 a0 fun r131 =>
                  z_stZ w r131 (((4096 : Int32) * pI1) + v126) pI3 fun w =>
                  z_getR w 10 9 a0 fun r132 =>
                  z_stZ w r132 (((4096 : Int32) * pI1) + v126) pI4 fun w =>
                  z_getR w 10 4 a0 fun r133 =>
                  z_ldI w .int r133 pI1 fun v134 =>
                  z_stI w r133 pI1 (v134 + (1 : Int32)) fun w =>
                  z_getI w 10 1 a0 fun v135 =>
                  z_put w 10 14 a0 (.int v135) fun w =>
                  z_getR w 10 10 a0 fun r136 =>
                  z_this w 10 a0 <|
                  z_cI (f_AckBookModel_flight F X a0 w) fun v138 w =>
                  z_getI w 10 24 a0 fun v139 =>
                  if v138 ≤ (v139 - (1200 : Int32)) then (
                    z_stZ w r136 (((4096 : Int32) * pI1) + v126) (0 : Int32) fun w =>
                    some (.inl (some (.int v126)), w))
                  else (
                    z_stZ w r136 (((4096 : Int32) * pI1) + v126) (1 : Int32) fun w =>
                    some (.inl (some (.int v126)), w)))
                else (
                  some (.inl (some (.int (0 : Int32))), w)))
              else (
                z_this w 10 a0 <|
                z_cI (f_AckBookModel_fails F X a0 (0 : Int32) (2 : Int32) w) fun v141 w =>
                if v141 = 0 then (
                  z_getR w 10 4 a0 fun r142 =>
                  z_ldI w .int r142 pI1 fun v143 =>
                  z_getR w 10 5 a0 fun r144 =>
                  z_stI w r144 (((4096 : Int32) * pI1) + v143) pI2 fun w =>
                  z_getR w 10 6 a0 fun r145 =>
                  z_getI w 10 1 a0 fun v146 =>
                  z_stI w r145 (((4096 : Int32) * pI1) + v143) v146 fun w =>
                  z_getR w 10 7 a0 fun r147 =>
                  z_stI w r147 (((4096 : Int32) * pI1) + v143) (0 : Int32) fun w =>
                  z_getR w 10 8 a0 fun r148 =>
                  z_stZ w r148 (((4096 : Int32) * pI1) + v143) pI3 fun w =>
                  z_getR w 10 9 a0 fun r149 =>
                  z_stZ w r149 (((4096 : Int32) * pI1) + v143) pI4 fun w =>
                  z_getR w 10 4 a0 fun r150 =>
                  z_ldI w .int r150 pI1 fun v151 =>
                  z_stI w r150 pI1 (v151 + (1 : Int32)) fun w =>
                  z_getI w 10 1 a0 fun v152 =>
                  z_put w 10 14 a0 (.int v152) fun w =>
                  z_getR w 10 10 a0 fun r153 =>
                  z_this w 10 a0 <|
                  z_cI (f_AckBookModel_flight F X a0 w) fun v155 w =>
                  z_getI w 10 24 a0 fun v156 =>
                  if v155 ≤ (v156 - (1200 : Int32)) then (
                    z_stZ w r153 (((4096 : Int32) * pI1) + v143) (0 : Int32) fun w =>
                    some (.inl (some (.int v143)), w))
                  else (
                    z_stZ w r153 (((4096 : Int32) * pI1) + v143) (1 : Int32) fun w =>
                    some (.inl (some (.int v143)), w)))
                else (
                  some (.inl (some (.int (0 : Int32))), w))))
            else (
              z_this w 10 a0 <|
              z_cI (f_AckBookModel_fails F X a0 (1 : Int32) (2 : Int32) w) fun v158 w =>
              if v158 = 0 then (
                z_getR w 10 4 a0 fun r159 =>
                z_ldI w .int r159 pI1 fun v160 =>
                z_getR w 10 5 a0 fun r161 =>
                z_stI w r161 (((4096 : Int32) * pI1) + v160) pI2 fun w =>
                z_getR w 10 6 a0 fun r162 =>
                z_getI w 10 1 a0 fun v163 =>
                z_stI w r162 (((4096 : Int32) * pI1) + v160) v163 fun w =>
                z_getR w 10 7 a0 fun r164 =>
                z_stI w r164 (((4096 : Int32) * pI1) + v160) (0 : Int32) fun w =>
                z_getR w 10 8 a0 fun r165 =>
                z_stZ w r165 (((4096 : Int32) * pI1) + v160) pI3 fun w =>
                z_getR w 10 9 a0 fun r166 =>
                z_stZ w r166 (((4096 : Int32) * pI1) + v160) pI4 fun w =>
                z_getR w 10 4 a0 fun r167 =>
                z_ldI w .int r167 pI1 fun v168 =>
                z_stI w r167 pI1 (v168 + (1 : Int32)) fun w =>
                z_getI w 10 1 a0 fun v169 =>
                z_put w 10 14 a0 (.int v169) fun w =>
                z_getR w 10 10 a0 fun r170 =>
                z_this w 10 a0 <|
                z_cI (f_AckBookModel_flight F X a0 w) fun v172 w =>
                z_getI w 10 24 a0 fun v173 =>
                if v172 ≤ (v173 - (1200 : Int32)) then (
                  z_stZ w r170 (((4096 : Int32) * pI1) + v160) (0 : Int32) fun w =>
                  some (.inl (some (.int v160)), w))
                else (
                  z_stZ w r170 (((4096 : Int32) * pI1) + v160) (1 : Int32) fun w =>
                  some (.inl (some (.int v160)), w)))
              else (
                some (.inl (some (.int (0 : Int32))), w))))
          else (
            some (.inl (some (.int (0 : Int32))), w)))
        else (
          if pI4 = 0 then (
            z_this w 10 a0 <|
            z_cI (f_AckBookModel_fails F X a0 (1 : Int32) (1 : Int32) w) fun v175 w =>
            if v175 = 0 then (
              z_getR w 10 11 a0 fun r176 =>
              z_ldI w .boolean r176 pI1 fun v177 =>
              if v177 = 0 then (
                z_getR w 10 4 a0 fun r178 =>
                z_ldI w .int r178 pI1 fun v179 =>
                if v179 = (4096 : Int32) then (
                  z_this w 10 a0 <|
                  z_cI (f_AckBookModel_fails F X a0 (1 : Int32) (2 : Int32) w) fun v181 w =>
                  if v181 = 0 then (
                    z_getR w 10 4 a0 fun r182 =>
                    z_ldI w .int r182 pI1 fun v183 =>
                    z_getR w 10 5 a0 fun r184 =>
                    z_stI w r184 (((4096 : Int32) * pI1) + v183) pI2 fun w =>
                    z_getR w 10 6 a0 fun r185 =>
                    z_getI w 10 1 a0 fun v186 =>
                    z_stI w r185 (((4096 : Int32) * pI1) + v183) v186 fun w =>
                    z_getR w 10 7 a0 fun r187 =>
                    z_stI w r187 (((4096 : Int32) * pI1) + v183) (0 : Int32) fun w =>
                    z_getR w 10 8 a0 fun r188 =>
                    z_stZ w r188 (((4096 : Int32) * pI1) + v183) pI3 fun w =>
                    z_getR w 10 9 a0 fun r189 =>
                    z_stZ w r189 (((4096 : Int32) * pI1) + v183) pI4 fun w =>
                    z_getR w 10 4 a0 fun r190 =>
                    z_ldI w .int r190 pI1 fun v191 =>
                    z_stI w r190 pI1 (v191 + (1 : Int32)) fun w =>
                    z_getI w 10 1 a0 fun v192 =>
                    z_put w 10 14 a0 (.int v192) fun w =>
                    z_getR w 10 10 a0 fun r193 =>
                    z_this w 10 a0 <|
                    z_cI (f_AckBookModel_flight F X a0 w) fun v195 w =>
                    z_getI w 10 24 a0 fun v196 =>
                    if v195 ≤ (v196 - (1200 : Int32)) then (
                      z_stZ w r193 (((4096 : Int32) * pI1) + v183) (0 : Int32) fun w =>
                      some (.inl (some (.int v183)), w))
                    else (
                      z_stZ w r193 (((4096 : Int32) * pI1) + v183) (1 : Int32) fun w =>
                      some (.inl (some (.int v183)), w)))
                  else (
                    some (.inl (some (.int (0 : Int32))), w)))
                else (
                  z_this w 10 a0 <|
                  z_cI (f_AckBookModel_fails F X a0 (0 : Int32) (2 : Int32) w) fun v198 w =>
                  if v198 = 0 then (
                    z_getR w 10 4 a0 fun r199 =>
                    z_ldI w .int r199 pI1 fun v200 =>
                    z_getR w 10 5 a0 fun r201 =>
                    z_stI w r201 (((4096 : Int32) * pI1) + v200) pI2 fun w =>
                    z_getR w 10 6 a0 fun r202 =>
                    z_getI w 10 1 a0 fun v203 =>
                    z_stI w r202 (((4096 : Int32) * pI1) + v200) v203 fun w =>
                    z_getR w 10 7 a0 fun r204 =>
                    z_stI w r204 (((4096 : Int32) * pI1) + v200) (0 : Int32) fun w =>
                    z_getR w 10 8 a0 fun r205 =>
                    z_stZ w r205 (((4096 : Int32) * pI1) + v200) pI3 fun w =>
                    z_getR w 10 9 a0 fun r206 =>
                    z_stZ w r206 (((4096 : Int32) * pI1) + v200) pI4 fun w =>
                    z_getR w 10 4 a0 fun r207 =>
                    z_ldI w .int r207 pI1 fun v208 =>
                    z_stI w r207 pI1 (v208 + (1 : Int32)) fun w =>
                    z_getI w 10 1 a0 fun v209 =>
                    z_put w 10 14 a0 (.int v209) fun w =>
                    z_getR w 10 10 a0 fun r210 =>
                    z_this w 10 a0 <|
                    z_cI (f_AckBookModel_flight F X a0 w) fun v212 w =>
                    z_getI w 10 24 a0 fun v213 =>
                    if v212 ≤ (v213 - (1200 : Int32)) then (
                      z_stZ w r210 (((4096 : Int32) * pI1) + v200) (0 : Int32) fun w =>
                      some (.inl (some (.int v200)), w))
                    else (
                      z_stZ w r210 (((4096 : Int32) * pI1) + v200) (1 : Int32) fun w =>
                      some (.inl (some (.int v200)), w)))
                  else (
                    some (.inl (some (.int (0 : Int32))), w))))
              else (
                z_this w 10 a0 <|
                z_cI (f_AckBookModel_fails F X a0 (1 : Int32) (2 : Int32) w) fun v215 w =>
                if v215 = 0 then (
                  z_getR w 10 4 a0 fun r216 =>
                  z_ldI w .int r216 pI1 fun v217 =>
                  z_getR w 10 5 a0 fun r218 =>
                  z_stI w r218 (((4096 : Int32) * pI1) + v217) pI2 fun w =>
                  z_getR w 10 6 a0 fun r219 =>
                  z_getI w 10 1 a0 fun v220 =>
                  z_stI w r219 (((4096 : Int32) * pI1) + v217) v220 fun w =>
                  z_getR w 10 7 a0 fun r221 =>
                  z_stI w r221 (((4096 : Int32) * pI1) + v217) (0 : Int32) fun w =>
                  z_getR w 10 8 a0 fun r222 =>
                  z_stZ w r222 (((4096 : Int32) * pI1) + v217) pI3 fun w =>
                  z_getR w 10 9 a0 fun r223 =>
                  z_stZ w r223 (((4096 : Int32) * pI1) + v217) pI4 fun w =>
                  z_getR w 10 4 a0 fun r224 =>
                  z_ldI w .int r224 pI1 fun v225 =>
                  z_stI w r224 pI1 (v225 + (1 : Int32)) fun w =>
                  z_getI w 10 1 a0 fun v226 =>
                  z_put w 10 14 a0 (.int v226) fun w =>
                  z_getR w 10 10 a0 fun r227 =>
                  z_this w 10 a0 <|
                  z_cI (f_AckBookModel_flight F X a0 w) fun v229 w =>
                  z_getI w 10 24 a0 fun v230 =>
                  if v229 ≤ (v230 - (1200 : Int32)) then (
                    z_stZ w r227 (((4096 : Int32) * pI1) + v217) (0 : Int32) fun w =>
                    some (.inl (some (.int v217)), w))
                  else (
                    z_stZ w r227 (((4096 : Int32) * pI1) + v217) (1 : Int32) fun w =>
                    some (.inl (some (.int v217)), w)))
                else (
                  some (.inl (some (.int (0 : Int32))), w))))
            else (
              some (.inl (some (.int (0 : Int32))), w)))
          else (
            z_this w 10 a0 <|
            z_cI (f_AckBookModel_fails F X a0 (0 : Int32) (1 : Int32) w) fun v232 w =>
            if v232 = 0 then (
              z_getR w 10 11 a0 fun r233 =>
              z_ldI w .boolean r233 pI1 fun v234 =>
              if v234 = 0 then (
                z_getR w 10 4 a0 fun r235 =>
                z_ldI w .int r235 pI1 fun v236 =>
                if v236 = (4096 : Int32) then (
                  z_this w 10 a0 <|
                  z_cI (f_AckBookModel_fails F X a0 (1 : Int32) (2 : Int32) w) fun v238 w =>
                  if v238 = 0 then (
                    z_getR w 10 4 a0 fun r239 =>
                    z_ldI w .int r239 pI1 fun v240 =>
                    z_getR w 10 5 a0 fun r241 =>
                    z_stI w r241 (((4096 : Int32) * pI1) + v240) pI2 fun w =>
                    z_getR w 10 6 a0 fun r242 =>
                    z_getI w 10 1 a0 fun v243 =>
                    z_stI w r242 (((4096 : Int32) * pI1) + v240) v243 fun w =>
                    z_getR w 10 7 a0 fun r244 =>
                    z_stI w r244 (((4096 : Int32) * pI1) + v240) (0 : Int32) fun w =>
                    z_getR w 10 8 a0 fun r245 =>
                    z_stZ w r245 (((4096 : Int32) * pI1) + v240) pI3 fun w =>
                    z_getR w 10 9 a0 fun r246 =>
                    z_stZ w r246 (((4096 : Int32) * pI1) + v240) pI4 fun w =>
                    z_getR w 10 4 a0 fun r247 =>
                    z_ldI w .int r247 pI1 fun v248 =>
                    z_stI w r247 pI1 (v248 + (1 : Int32)) fun w =>
                    z_getI w 10 1 a0 fun v249 =>
                    z_put w 10 14 a0 (.int v249) fun w =>
                    z_getR w 10 10 a0 fun r250 =>
                    z_this w 10 a0 <|
                    z_cI (f_AckBookModel_flight F X a0 w) fun v252 w =>
                    z_getI w 10 24 a0 fun v253 =>
                    if v252 ≤ (v253 - (1200 : Int32)) then (
                      z_stZ w r250 (((4096 : Int32) * pI1) + v240) (0 : Int32) fun w =>
                      some (.inl (some (.int v240)), w))
                    else (
                      z_stZ w r250 (((4096 : Int32) * pI1) + v240) (1 : Int32) fun w =>
                      some (.inl (some (.int v240)), w)))
                  else (
                    some (.inl (some (.int (0 : Int32))), w)))
                else (
                  z_this w 10 a0 <|
                  z_cI (f_AckBookModel_fails F X a0 (0 : Int32) (2 : Int32) w) fun v255 w =>
                  if v255 = 0 then (
                    z_getR w 10 4 a0 fun r256 =>
                    z_ldI w .int r256 pI1 fun v257 =>
                    z_getR w 10 5 a0 fun r258 =>
                    z_stI w r258 (((4096 : Int32) * pI1) + v257) pI2 fun w =>
                    z_getR w 10 6 a0 fun r259 =>
                    z_getI w 10 1 a0 fun v260 =>
                    z_stI w r259 (((4096 : Int32) * pI1) + v257) v260 fun w =>
                    z_getR w 10 7 a0 fun r261 =>
                    z_stI w r261 (((4096 : Int32) * pI1) + v257) (0 : Int32) fun w =>
                    z_getR w 10 8 a0 fun r262 =>
                    z_stZ w r262 (((4096 : Int32) * pI1) + v257) pI3 fun w =>
                    z_getR w 10 9 a0 fun r263 =>
                    z_stZ w r263 (((4096 : Int32) * pI1) + v257) pI4 fun w =>
                    z_getR w 10 4 a0 fun r264 =>
                    z_ldI w .int r264 pI1 fun v265 =>
                    z_stI w r264 pI1 (v265 + (1 : Int32)) fun w =>
                    z_getI w 10 1 a0 fun v266 =>
                    z_put w 10 14 a0 (.int v266) fun w =>
                    z_getR w 10 10 a0 fun r267 =>
                    z_this w 10 a0 <|
                    z_cI (f_AckBookModel_flight F X a0 w) fun v269 w =>
                    z_getI w 10 24 a0 fun v270 =>
                    if v269 ≤ (v270 - (1200 : Int32)) then (
                      z_stZ w r267 (((4096 : Int32) * pI1) + v257) (0 : Int32) fun w =>
                      some (.inl (some (.int v257)), w))
                    else (
                      z_stZ w r267 (((4096 : Int32) * pI1) + v257) (1 : Int32) fun w =>
                      some (.inl (some (.int v257)), w)))
                  else (
                    some (.inl (some (.int (0 : Int32))), w))))
              else (
                z_this w 10 a0 <|
                z_cI (f_AckBookModel_fails F X a0 (1 : Int32) (2 : Int32) w) fun v272 w =>
                if v272 = 0 then (
                  z_getR w 10 4 a0 fun r273 =>
                  z_ldI w .int r273 pI1 fun v274 =>
                  z_getR w 10 5 a0 fun r275 =>
                  z_stI w r275 (((4096 : Int32) * pI1) + v274) pI2 fun w =>
                  z_getR w 10 6 a0 fun r276 =>
                  z_getI w 10 1 a0 fun v277 =>
                  z_stI w r276 (((4096 : Int32) * pI1) + v274) v277 fun w =>
                  z_getR w 10 7 a0 fun r278 =>
                  z_stI w r278 (((4096 : Int32) * pI1) + v274) (0 : Int32) fun w =>
                  z_getR w 10 8 a0 fun r279 =>
                  z_stZ w r279 (((4096 : Int32) * pI1) + v274) pI3 fun w =>
                  z_getR w 10 9 a0 fun r280 =>
                  z_stZ w r280 (((4096 : Int32) * pI1) + v274) pI4 fun w =>
                  z_getR w 10 4 a0 fun r281 =>
                  z_ldI w .int r281 pI1 fun v282 =>
                  z_stI w r281 pI1 (v282 + (1 : Int32)) fun w =>
                  z_getI w 10 1 a0 fun v283 =>
                  z_put w 10 14 a0 (.int v283) fun w =>
                  z_getR w 10 10 a0 fun r284 =>
                  z_this w 10 a0 <|
                  z_cI (f_AckBookModel_flight F X a0 w) fun v286 w =>
                  z_getI w 10 24 a0 fun v287 =>
                  if v286 ≤ (v287 - (1200 : Int32)) then (
                    z_stZ w r284 (((4096 : Int32) * pI1) + v274) (0 : Int32) fun w =>
                    some (.inl (some (.int v274)), w))
                  else (
                    z_stZ w r284 (((4096 : Int32) * pI1) + v274) (1 : Int32) fun w =>
                    some (.inl (some (.int v274)), w)))
                else (
                  some (.inl (some (.int (0 : Int32))), w))))
            else (
              some (.inl (some (.int (0 : Int32))), w)))))))
  else (
    z_this w 10 a0 <|
    z_cI (f_AckBookModel_fails F X a0 (1 : Int32) (1 : Int32) w) fun v289 w =>
    if v289 = 0 then (
      z_getR w 10 11 a0 fun r290 =>
      z_ldI w .boolean r290 pI1 fun v291 =>
      if v291 = 0 then (
        z_getR w 10 4 a0 fun r292 =>
        z_ldI w .int r292 pI1 fun v293 =>
        if v293 = (4096 : Int32) then (
          z_this w 10 a0 <|
          z_cI (f_AckBookModel_fails F X a0 (1 : Int32) (2 : Int32) w) fun v295 w =>
          if v295 = 0 then (
            z_getR w 10 4 a0 fun r296 =>
            z_ldI w .int r296 pI1 fun v297 =>
            z_getR w 10 5 a0 fun r298 =>
            z_stI w r298 (((4096 : Int32) * pI1) + v297) pI2 fun w =>
            z_getR w 10 6 a0 fun r299 =>
            z_getI w 10 1 a0 fun v300 =>
            z_stI w r299 (((4096 : Int32) * pI1) + v297) v300 fun w =>
            z_getR w 10 7 a0 fun r301 =>
            z_stI w r301 (((4096 : Int32) * pI1) + v297) (0 : Int32) fun w =>
            z_getR w 10 8 a0 fun r302 =>
            z_stZ w r302 (((4096 : Int32) * pI1) + v297) pI3 fun w =>
            z_getR w 10 9 a0 fun r303 =>
            z_stZ w r303 (((4096 : Int32) * pI1) + v297) pI4 fun w =>
            z_getR w 10 4 a0 fun r304 =>
            z_ldI w .int r304 pI1 fun v305 =>
            z_stI w r304 pI1 (v305 + (1 : Int32)) fun w =>
            z_getI w 10 1 a0 fun v306 =>
            z_put w 10 14 a0 (.int v306) fun w =>
            z_getR w 10 10 a0 fun r307 =>
            z_this w 10 a0 <|
            z_cI (f_AckBookModel_flight F X a0 w) fun v309 w =>
            z_getI w 10 24 a0 fun v310 =>
            if v309 ≤ (v310 - (1200 : Int32)) then (
              z_stZ w r307 (((4096 : Int32) * pI1) + v297) (0 : Int32) fun w =>
              some (.inl (some (.int v297)), w))
            else (
              z_stZ w r307 (((4096 : Int32) * pI1) + v297) (1 : Int32) fun w =>
              some (.inl (some (.int v297)), w)))
          else (
            some (.inl (some (.int (0 : Int32))), w)))
        else (
          z_this w 10 a0 <|
          z_cI (f_AckBookModel_fails F X a0 (0 : Int32) (2 : Int32) w) fun v312 w =>
          if v312 = 0 then (
            z_getR w 10 4 a0 fun r313 =>
            z_ldI w .int r313 pI1 fun v314 =>
            z_getR w 10 5 a0 fun r315 =>
            z_stI w r315 (((4096 : Int32) * pI1) + v314) pI2 fun w =>
            z_getR w 10 6 a0 fun r316 =>
            z_getI w 10 1 a0 fun v317 =>
            z_stI w r316 (((4096 : Int32) * pI1) + v314) v317 fun w =>
            z_getR w 10 7 a0 fun r318 =>
            z_stI w r318 (((4096 : Int32) * pI1) + v314) (0 : Int32) fun w =>
            z_getR w 10 8 a0 fun r319 =>
            z_stZ w r319 (((4096 : Int32) * pI1) + v314) pI3 fun w =>
            z_getR w 10 9 a0 fun r320 =>
            z_stZ w r320 (((4096 : Int32) * pI1) + v314) pI4 fun w =>
            z_getR w 10 4 a0 fun r321 =>
            z_ldI w .int r321 pI1 fun v322 =>
            z_stI w r321 pI1 (v322 + (1 : Int32)) fun w =>
            z_getI w 10 1 a0 fun v323 =>
            z_put w 10 14 a0 (.int v323) fun w =>
            z_getR w 10 10 a0 fun r324 =>
            z_this w 10 a0 <|
            z_cI (f_AckBookModel_flight F X a0 w) fun v326 w =>
            z_getI w 10 24 a0 fun v327 =>
            if v326 ≤ (v327 - (1200 : Int32)) then (
              z_stZ w r324 (((4096 : Int32) * pI1) + v314) (0 : Int32) fun w =>
              some (.inl (some (.int v314)), w))
            else (
              z_stZ w r324 (((4096 : Int32) * pI1) + v314) (1 : Int32) fun w =>
              some (.inl (some (.int v314)), w)))
          else (
            some (.inl (some (.int (0 : Int32))), w))))
      else (
        z_this w 10 a0 <|
        z_cI (f_AckBookModel_fails F X a0 (1 : Int32) (2 : Int32) w) fun v329 w =>
        if v329 = 0 then (
          z_getR w 10 4 a0 fun r330 =>
          z_ldI w .int r330 pI1 fun v331 =>
          z_getR w 10 5 a0 fun r332 =>
          z_stI w r332 (((4096 : Int32) * pI1) + v331) pI2 fun w =>
          z_getR w 10 6 a0 fun r333 =>
          z_getI w 10 1 a0 fun v334 =>
          z_stI w r333 (((4096 : Int32) * pI1) + v331) v334 fun w =>
          z_getR w 10 7 a0 fun r335 =>
          z_stI w r335 (((4096 : Int32) * pI1) + v331) (0 : Int32) fun w =>
          z_getR w 10 8 a0 fun r336 =>
          z_stZ w r336 (((4096 : Int32) * pI1) + v331) pI3 fun w =>
          z_getR w 10 9 a0 fun r337 =>
          z_stZ w r337 (((4096 : Int32) * pI1) + v331) pI4 fun w =>
          z_getR w 10 4 a0 fun r338 =>
          z_ldI w .int r338 pI1 fun v339 =>
          z_stI w r338 pI1 (v339 + (1 : Int32)) fun w =>
          z_getI w 10 1 a0 fun v340 =>
          z_put w 10 14 a0 (.int v340) fun w =>
          z_getR w 10 10 a0 fun r341 =>
          z_this w 10 a0 <|
          z_cI (f_AckBookModel_flight F X a0 w) fun v343 w =>
          z_getI w 10 24 a0 fun v344 =>
          if v343 ≤ (v344 - (1200 : Int32)) then (
            z_stZ w r341 (((4096 : Int32) * pI1) + v331) (0 : Int32) fun w =>
            some (.inl (some (.int v331)), w))
          else (
            z_stZ w r341 (((4096 : Int32) * pI1) + v331) (1 : Int32) fun w =>
            some (.inl (some (.int v331)), w)))
        else (
          some (.inl (some (.int (0 : Int32))), w))))
    else (
      some (.inl (some (.int (0 : Int32))), w)))
set_option maxHeartbeats 4000000 in
set_option maxRecDepth 100000 in
theorem k_AckBookModel_send {b0 : Nat} {H0 : Heap} {D : va_G} {vu vs : Value} {X : Nat} {l : Launch} (hT : z_TB (zGG b0 H0 D vu vs X)) (hfl : l.flags = pinnedFlags ++ [noTraceFlag]) (hE : vu.isRef = true ∧ vs.isRef = true) {a0 : Option Nat} {pI1 : Int32} {pI2 : Int32} {pI3 : Int32} {pI4 : Int32} (F : Nat) {w : zW} (res : zO × zW) (h : f_AckBookModel_send F X a0 pI1 pI2 pI3 pI4 w = some res) : z_Ct (zGG b0 H0 D vu vs X) l y_AckBookModel_send (.code y_AckBookModel_send c_AckBookModel_send 7 (some FieldType.int)) 2 45 [va_rf a0, .int pI1, .int pI2, .int pI3, .int pI4] w res := by
  refine z_ct hT hfl (by decide) (by simp only [z_sl_i, z_sl_j, z_sl_r, z_sl_n]; decide) ?_
  intro p e R s m args below meth c hC hr hRc hRs hRt hnm hFr H ls hZ hl
  simp only [z_la_i, z_la_j, z_la_r, z_la_n] at hl
  have hl : lv_has ls 7 [(0, va_rf a0), (1, .int pI1), (2, .int pI2), (3, .int pI3), (4, .int pI4)] := hl
  unfold f_AckBookModel_send at h
  refine x_aload_n hC d_AckBookModel_send_0 rfl (lv_at hl 0 rfl) ?_
  refine lv_iload_n hC.1 hC.2.1 d_AckBookModel_send_1 rfl (lv_at hl 1 rfl) ?_
  obtain ⟨w1_, o1_, hF_, ha_⟩ := z_cI_spec h
  refine x_goes hC hRc hRs hFr ha_ (z_goS (As := [.int pI1]) hC hZ (k_AckBookModel_noSpace hT hfl hE _ _ hF_) t_944 t_945 t_12 t_946 ⟨by decide, by decide, (by decide +kernel : (parseMethodDescriptor y_AckBookModel_noSpace.desc).map (fun d => d.parameters.length) = some 1)⟩ (by rw [hRt.1]; decide) (by rw [hRt.2]; decide) hl.1 rfl (by first | exact Nat.le_of_ble_eq_true rfl | simp [z_rfc, z_ci, z_cj]) d_AckBookModel_send_2) (fun v_ hv H locs cells slots hZ => ?_)
  obtain ⟨v2, rfl, h⟩ := hv
  generalize w1_ = w at h hZ
  refine lv_if_ne (tgt := 29) hC.1 hC.2.1 d_AckBookModel_send_5 (by decide) (fun hc => ?_) (fun hc => ?_)
  · have h := z_ifn hc h
    refine lv_iconst (v := (1 : Int32)) hC.1 hC.2.1 d_AckBookModel_send_29 (by decide) ?_
    refine lv_goto (tgt := 34) hC.1 hC.2.1 d_AckBookModel_send_30 (by decide) ?_
    refine lv_iconst (v := (1 : Int32)) hC.1 hC.2.1 d_AckBookModel_send_34 (by decide) ?_
    obtain ⟨a_, fs_, eo_, h⟩ := z_this_spec h
    obtain ⟨w1_, o1_, hF_, ha_⟩ := z_cI_spec h
    refine x_goes hC hRc hRs hFr ha_ (z_goV (As := [.int (1 : Int32), .int (1 : Int32)]) hC hZ zc10 eo_ (k_AckBookModel_fails hT hfl hE _ _ hF_) t_947 t_949 ts_AckBookModel_fails t_12 t_950 ⟨by decide, by decide, (by decide +kernel : (parseMethodDescriptor y_AckBookModel_fails.desc).map (fun d => d.parameters.length) = some 2)⟩ (by rw [hRt.1]; decide) (by rw [hRt.2]; decide) hl.1 rfl (by first | exact Nat.le_of_ble_eq_true rfl | simp [z_rfc, z_ci, z_cj]) d_AckBookModel_send_35) (fun v_ hv H locs cells slots hZ => ?_)
    obtain ⟨v289, rfl, h⟩ := hv
    generalize w1_ = w at h hZ
    refine lv_if_ne (tgt := 75) hC.1 hC.2.1 d_AckBookModel_send_38 (by decide) (fun hc => ?_) (fun hc => ?_)
    · have h := z_ifn hc h
      refine lv_iconst (v := (0 : Int32)) hC.1 hC.2.1 d_AckBookModel_send_75 (by decide) ?_
      exact x_iret hC hRc hRs hZ hr rfl h d_AckBookModel_send_76
    · have h := z_ifp hc h
      refine x_aload_n hC d_AckBookModel_send_41 rfl (lv_at hl 0 rfl) ?_
      refine x_aload_n hC d_AckBookModel_send_42 rfl (lv_at hl 0 rfl) ?_
      refine x_getR hC hZ zc10 h (by decide) t_830 (fun _ h9 => h9) d_AckBookModel_send_43 (fun r290 h => ?_)
      refine lv_iload_n hC.1 hC.2.1 d_AckBookModel_send_46 rfl (lv_at hl 1 rfl) ?_
      refine x_ldZ hC hZ h d_AckBookModel_send_47 (fun v291 h => ?_)
      refine lv_if_ne (tgt := 63) hC.1 hC.2.1 d_AckBookModel_send_48 (by decide) (fun hc => ?_) (fun hc => ?_)
      · have h := z_ifn hc h
        refine lv_iconst (v := (1 : Int32)) hC.1 hC.2.1 d_AckBookModel_send_63 (by decide) ?_
        refine lv_goto (tgt := 68) hC.1 hC.2.1 d_AckBookModel_send_64 (by decide) ?_
        refine lv_iconst (v := (2 : Int32)) hC.1 hC.2.1 d_AckBookModel_send_68 (by decide) ?_
        obtain ⟨a_, fs_, eo_, h⟩ := z_this_spec h
        obtain ⟨w1_, o1_, hF_, ha_⟩ := z_cI_spec h
        refine x_goes hC hRc hRs hFr ha_ (z_goV (As := [.int (1 : Int32), .int (2 : Int32)]) hC hZ zc10 eo_ (k_AckBookModel_fails hT hfl hE _ _ hF_) t_947 t_949 ts_AckBookModel_fails t_12 t_950 ⟨by decide, by decide, (by decide +kernel : (parseMethodDescriptor y_AckBookModel_fails.desc).map (fun d => d.parameters.length) = some 2)⟩ (by rw [hRt.1]; decide) (by rw [hRt.2]; decide) hl.1 rfl (by first | exact Nat.le_of_ble_eq_true rfl | simp [z_rfc, z_ci, z_cj]) d_AckBookModel_send_69) (fun v_ hv H locs cells slots hZ => ?_)
        obtain ⟨v329, rfl, h⟩ := hv
        generalize w1_ = w at h hZ
        refine lv_if_eq (tgt := 77) hC.1 hC.2.1 d_AckBookModel_send_72 (by decide) (fun hc => ?_) (fun hc => ?_)
        · have h := z_ifp hc h
          refine x_aload_n hC d_AckBookModel_send_77 rfl (lv_at hl 0 rfl) ?_
          refine x_getR hC hZ zc10 h (by decide) t_823 (fun _ h9 => h9) d_AckBookModel_send_78 (fun r330 h => ?_)
          refine lv_iload_n hC.1 hC.2.1 d_AckBookModel_send_81 rfl (lv_at hl 1 rfl) ?_
          refine x_ldI hC hZ h d_AckBookModel_send_82 (fun v331 h => ?_)
          refine lv_istore (i := 5) (lv' := [(5, .int v331), (0, va_rf a0), (1, .int pI1), (2, .int pI2), (3, .int pI3), (4, .int pI4)]) hC.1 hC.2.1 d_AckBookModel_send_83 hl (by decide) (by first | rfl | simp [z_rfc, z_ci, z_cj]) (fun ls hl => ?_)
          refine lv_sipush (v := (4096 : Int32)) hC.1 hC.2.1 d_AckBookModel_send_85 (by decide) ?_
          refine lv_iload_n hC.1 hC.2.1 d_AckBookModel_send_88 rfl (lv_at hl 2 rfl) ?_
          refine lv_imul hC.1 hC.2.1 d_AckBookModel_send_89 ?_
          refine lv_iload hC.1 hC.2.1 d_AckBookModel_send_90 (lv_at hl 0 rfl) ?_
          refine lv_iadd hC.1 hC.2.1 d_AckBookModel_send_92 ?_
          refine lv_istore (i := 6) (lv' := [(6, .int (((4096 : Int32) * pI1) + v331)), (5, .int v331), (0, va_rf a0), (1, .int pI1), (2, .int pI2), (3, .int pI3), (4, .int pI4)]) hC.1 hC.2.1 d_AckBookModel_send_93 hl (by decide) (by first | rfl | simp [z_rfc, z_ci, z_cj]) (fun ls hl => ?_)
          refine x_aload_n hC d_AckBookModel_send_95 rfl (lv_at hl 2 rfl) ?_
          refine x_getR hC hZ zc10 h (by decide) t_824 (fun _ h9 => h9) d_AckBookModel_send_96 (fun r332 h => ?_)
          refine lv_iload hC.1 hC.2.1 d_AckBookModel_send_99 (lv_at hl 0 rfl) ?_
          refine lv_iload_n hC.1 hC.2.1 d_AckBookModel_send_101 rfl (lv_at hl 4 rfl) ?_
          refine x_stI hC hZ h d_AckBookModel_send_102 (fun w H locs hZ h => ?_)
          refine x_aload_n hC d_AckBookModel_send_103 rfl (lv_at hl 2 rfl) ?_
          refine x_getR hC hZ zc10 h (by decide) t_825 (fun _ h9 => h9) d_AckBookModel_send_104 (fun r333 h => ?_)
          refine lv_iload hC.1 hC.2.1 d_AckBookModel_send_107 (lv_at hl 0 rfl) ?_
          refine x_aload_n hC d_AckBookModel_send_109 rfl (lv_at hl 2 rfl) ?_
          refine x_getI hC hZ zc10 h (by decide) t_820 (fun _ h9 => h9) d_AckBookModel_send_110 (fun v334 h => ?_)
          refine x_stI hC hZ h d_AckBookModel_send_113 (fun w H locs hZ h => ?_)
          refine x_aload_n hC d_AckBookModel_send_114 rfl (lv_at hl 2 rfl) ?_
          refine x_getR hC hZ zc10 h (by decide) t_826 (fun _ h9 => h9) d_AckBookModel_send_115 (fun r335 h => ?_)
          refine lv_iload hC.1 hC.2.1 d_AckBookModel_send_118 (lv_at hl 0 rfl) ?_
          refine lv_iconst (v := (0 : Int32)) hC.1 hC.2.1 d_AckBookModel_send_120 (by decide) ?_
          refine x_stI hC hZ h d_AckBookModel_send_121 (fun w H locs hZ h => ?_)
          refine x_aload_n hC d_AckBookModel_send_122 rfl (lv_at hl 2 rfl) ?_
          refine x_getR hC hZ zc10 h (by decide) t_827 (fun _ h9 => h9) d_AckBookModel_send_123 (fun r336 h => ?_)
          refine lv_iload hC.1 hC.2.1 d_AckBookModel_send_126 (lv_at hl 0 rfl) ?_
          refine lv_iload_n hC.1 hC.2.1 d_AckBookModel_send_128 rfl (lv_at hl 5 rfl) ?_
          refine x_stZ hC hZ h d_AckBookModel_send_129 (fun w H locs hZ h => ?_)
          refine x_aload_n hC d_AckBookModel_send_130 rfl (lv_at hl 2 rfl) ?_
          refine x_getR hC hZ zc10 h (by decide) t_828 (fun _ h9 => h9) d_AckBookModel_send_131 (fun r337 h => ?_)
          refine lv_iload hC.1 hC.2.1 d_AckBookModel_send_134 (lv_at hl 0 rfl) ?_
          refine lv_iload hC.1 hC.2.1 d_AckBookModel_send_136 (lv_at hl 6 rfl) ?_
          refine x_stZ hC hZ h d_AckBookModel_send_138 (fun w H locs hZ h => ?_)
          refine x_aload_n hC d_AckBookModel_send_139 rfl (lv_at hl 2 rfl) ?_
          refine x_getR hC hZ zc10 h (by decide) t_823 (fun _ h9 => h9) d_AckBookModel_send_140 (fun r338 h => ?_)
          refine lv_iload_n hC.1 hC.2.1 d_AckBookModel_send_143 rfl (lv_at hl 3 rfl) ?_
          refine lv_dup2_11 hC.1 hC.2.1 d_AckBookModel_send_144 rfl (z_rfc _) ?_
          refine x_ldI hC hZ h d_AckBookModel_send_145 (fun v339 h => ?_)
          refine lv_iconst (v := (1 : Int32)) hC.1 hC.2.1 d_AckBookModel_send_146 (by decide) ?_
          refine lv_iadd hC.1 hC.2.1 d_AckBookModel_send_147 ?_
          refine x_stI hC hZ h d_AckBookModel_send_148 (fun w H locs hZ h => ?_)
          refine x_aload_n hC d_AckBookModel_send_149 rfl (lv_at hl 2 rfl) ?_
          refine x_aload_n hC d_AckBookModel_send_150 rfl (lv_at hl 2 rfl) ?_
          refine x_getI hC hZ zc10 h (by decide) t_820 (fun _ h9 => h9) d_AckBookModel_send_151 (fun v340 h => ?_)
          refine x_put hC hZ zc10 h (by decide) t_833 (fun _ h9 => h9) rfl rfl rfl rfl d_AckBookModel_send_154 (fun w H locs hZ h => ?_)
          refine x_aload_n hC d_AckBookModel_send_157 rfl (lv_at hl 2 rfl) ?_
          refine x_getR hC hZ zc10 h (by decide) t_829 (fun _ h9 => h9) d_AckBookModel_send_158 (fun r341 h => ?_)
          refine lv_iload hC.1 hC.2.1 d_AckBookModel_send_161 (lv_at hl 0 rfl) ?_
          refine x_aload_n hC d_AckBookModel_send_163 rfl (lv_at hl 2 rfl) ?_
          obtain ⟨a_, fs_, eo_, h⟩ := z_this_spec h
          obtain ⟨w1_, o1_, hF_, ha_⟩ := z_cI_spec h
          refine x_goes hC hRc hRs hFr ha_ (z_goV (As := []) hC hZ zc10 eo_ (k_AckBookModel_flight hT hfl hE _ _ hF_) t_951 t_953 ts_AckBookModel_flight t_12 t_954 ⟨by decide, by decide, (by decide +kernel : (parseMethodDescriptor y_AckBookModel_flight.desc).map (fun d => d.parameters.length) = some 0)⟩ (by rw [hRt.1]; decide) (by rw [hRt.2]; decide) hl.1 rfl (by first | exact Nat.le_of_ble_eq_true rfl | simp [z_rfc, z_ci, z_cj]) d_AckBookModel_send_164) (fun v_ hv H locs cells slots hZ => ?_)
          obtain ⟨v343, rfl, h⟩ := hv
          generalize w1_ = w at h hZ
          refine x_aload_n hC d_AckBookModel_send_167 rfl (lv_at hl 2 rfl) ?_
          refine x_getI hC hZ zc10 h (by decide) t_843 (fun _ h9 => h9) d_AckBookModel_send_168 (fun v344 h => ?_)
          refine lv_sipush (v := (1200 : Int32)) hC.1 hC.2.1 d_AckBookModel_send_171 (by decide) ?_
          refine lv_isub hC.1 hC.2.1 d_AckBookModel_send_174 ?_
          refine lv_icmp_le (tgt := 182) hC.1 hC.2.1 d_AckBookModel_send_175 (by decide) (fun hc => ?_) (fun hc => ?_)
          · have h := z_ifp hc h
            refine lv_iconst (v := (0 : Int32)) hC.1 hC.2.1 d_AckBookModel_send_182 (by decide) ?_
            refine x_stZ hC hZ h d_AckBookModel_send_183 (fun w H locs hZ h => ?_)
            refine lv_iload hC.1 hC.2.1 d_AckBookModel_send_184 (lv_at hl 1 rfl) ?_
            exact x_iret hC hRc hRs hZ hr rfl h d_AckBookModel_send_186
          · have h := z_ifn hc h
            refine lv_iconst (v := (1 : Int32)) hC.1 hC.2.1 d_AckBookModel_send_178 (by decide) ?_
            refine lv_goto (tgt := 183) hC.1 hC.2.1 d_AckBookModel_send_179 (by decide) ?_
            refine x_stZ hC hZ h d_AckBookModel_send_183 (fun w H locs hZ h => ?_)
            refine lv_iload hC.1 hC.2.1 d_AckBookModel_send_184 (lv_at hl 1 rfl) ?_
            exact x_iret hC hRc hRs hZ hr rfl h d_AckBookModel_send_186
        · have h := z_ifn hc h
          refine lv_iconst (v := (0 : Int32)) hC.1 hC.2.1 d_AckBookModel_send_75 (by decide) ?_
          exact x_iret hC hRc hRs hZ hr rfl h d_AckBookModel_send_76
      · have h := z_ifp hc h
        refine x_aload_n hC d_AckBookModel_send_51 rfl (lv_at hl 0 rfl) ?_
        refine x_getR hC hZ zc10 h (by decide) t_823 (fun _ h9 => h9) d_AckBookModel_send_52 (fun r292 h => ?_)
        refine lv_iload_n hC.1 hC.2.1 d_AckBookModel_send_55 rfl (lv_at hl 1 rfl) ?_
        refine x_ldI hC hZ h d_AckBookModel_send_56 (fun v293 h => ?_)
        refine lv_sipush (v := (4096 : Int32)) hC.1 hC.2.1 d_AckBookModel_send_57 (by decide) ?_
        refine lv_icmp_ne (tgt := 67) hC.1 hC.2.1 d_AckBookModel_send_60 (by decide) (fun hc => ?_) (fun hc => ?_)
        · have h := z_ifn hc h
          refine lv_iconst (v := (0 : Int32)) hC.1 hC.2.1 d_AckBookModel_send_67 (by decide) ?_
          refine lv_iconst (v := (2 : Int32)) hC.1 hC.2.1 d_AckBookModel_send_68 (by decide) ?_
          obtain ⟨a_, fs_, eo_, h⟩ := z_this_spec h
          obtain ⟨w1_, o1_, hF_, ha_⟩ := z_cI_spec h
          refine x_goes hC hRc hRs hFr ha_ (z_goV (As := [.int (0 : Int32), .int (2 : Int32)]) hC hZ zc10 eo_ (k_AckBookModel_fails hT hfl hE _ _ hF_) t_947 t_949 ts_AckBookModel_fails t_12 t_950 ⟨by decide, by decide, (by decide +kernel : (parseMethodDescriptor y_AckBookModel_fails.desc).map (fun d => d.parameters.length) = some 2)⟩ (by rw [hRt.1]; decide) (by rw [hRt.2]; decide) hl.1 rfl (by first | exact Nat.le_of_ble_eq_true rfl | simp [z_rfc, z_ci, z_cj]) d_AckBookModel_send_69) (fun v_ hv H locs cells slots hZ => ?_)
          obtain ⟨v312, rfl, h⟩ := hv
          generalize w1_ = w at h hZ
          refine lv_if_eq (tgt := 77) hC.1 hC.2.1 d_AckBookModel_send_72 (by decide) (fun hc => ?_) (fun hc => ?_)
          · have h := z_ifp hc h
            refine x_aload_n hC d_AckBookModel_send_77 rfl (lv_at hl 0 rfl) ?_
            refine x_getR hC hZ zc10 h (by decide) t_823 (fun _ h9 => h9) d_AckBookModel_send_78 (fun r313 h => ?_)
            refine lv_iload_n hC.1 hC.2.1 d_AckBookModel_send_81 rfl (lv_at hl 1 rfl) ?_
            refine x_ldI hC hZ h d_AckBookModel_send_82 (fun v314 h => ?_)
            refine lv_istore (i := 5) (lv' := [(5, .int v314), (0, va_rf a0), (1, .int pI1), (2, .int pI2), (3, .int pI3), (4, .int pI4)]) hC.1 hC.2.1 d_AckBookModel_send_83 hl (by decide) (by first | rfl | simp [z_rfc, z_ci, z_cj]) (fun ls hl => ?_)
            refine lv_sipush (v := (4096 : Int32)) hC.1 hC.2.1 d_AckBookModel_send_85 (by decide) ?_
            refine lv_iload_n hC.1 hC.2.1 d_AckBookModel_send_88 rfl (lv_at hl 2 rfl) ?_
            refine lv_imul hC.1 hC.2.1 d_AckBookModel_send_89 ?_
            refine lv_iload hC.1 hC.2.1 d_AckBookModel_send_90 (lv_at hl 0 rfl) ?_
            refine lv_iadd hC.1 hC.2.1 d_AckBookModel_send_92 ?_
            refine lv_istore (i := 6) (lv' := [(6, .int (((4096 : Int32) * pI1) + v314)), (5, .int v314), (0, va_rf a0), (1, .int pI1), (2, .int pI2), (3, .int pI3), (4, .int pI4)]) hC.1 hC.2.1 d_AckBookModel_send_93 hl (by decide) (by first | rfl | simp [z_rfc, z_ci, z_cj]) (fun ls hl => ?_)
            refine x_aload_n hC d_AckBookModel_send_95 rfl (lv_at hl 2 rfl) ?_
            refine x_getR hC hZ zc10 h (by decide) t_824 (fun _ h9 => h9) d_AckBookModel_send_96 (fun r315 h => ?_)
            refine lv_iload hC.1 hC.2.1 d_AckBookModel_send_99 (lv_at hl 0 rfl) ?_
            refine lv_iload_n hC.1 hC.2.1 d_AckBookModel_send_101 rfl (lv_at hl 4 rfl) ?_
            refine x_stI hC hZ h d_AckBookModel_send_102 (fun w H locs hZ h => ?_)
            refine x_aload_n hC d_AckBookModel_send_103 rfl (lv_at hl 2 rfl) ?_
            refine x_getR hC hZ zc10 h (by decide) t_825 (fun _ h9 => h9) d_AckBookModel_send_104 (fun r316 h => ?_)
            refine lv_iload hC.1 hC.2.1 d_AckBookModel_send_107 (lv_at hl 0 rfl) ?_
            refine x_aload_n hC d_AckBookModel_send_109 rfl (lv_at hl 2 rfl) ?_
            refine x_getI hC hZ zc10 h (by decide) t_820 (fun _ h9 => h9) d_AckBookModel_send_110 (fun v317 h => ?_)
            refine x_stI hC hZ h d_AckBookModel_send_113 (fun w H locs hZ h => ?_)
            refine x_aload_n hC d_AckBookModel_send_114 rfl (lv_at hl 2 rfl) ?_
            refine x_getR hC hZ zc10 h (by decide) t_826 (fun _ h9 => h9) d_AckBookModel_send_115 (fun r318 h => ?_)
            refine lv_iload hC.1 hC.2.1 d_AckBookModel_send_118 (lv_at hl 0 rfl) ?_
            refine lv_iconst (v := (0 : Int32)) hC.1 hC.2.1 d_AckBookModel_send_120 (by decide) ?_
            refine x_stI hC hZ h d_AckBookModel_send_121 (fun w H locs hZ h => ?_)
            refine x_aload_n hC d_AckBookModel_send_122 rfl (lv_at hl 2 rfl) ?_
            refine x_getR hC hZ zc10 h (by decide) t_827 (fun _ h9 => h9) d_AckBookModel_send_123 (fun r319 h => ?_)
            refine lv_iload hC.1 hC.2.1 d_AckBookModel_send_126 (lv_at hl 0 rfl) ?_
            refine lv_iload_n hC.1 hC.2.1 d_AckBookModel_send_128 rfl (lv_at hl 5 rfl) ?_
            refine x_stZ hC hZ h d_AckBookModel_send_129 (fun w H locs hZ h => ?_)
            refine x_aload_n hC d_AckBookModel_send_130 rfl (lv_at hl 2 rfl) ?_
            refine x_getR hC hZ zc10 h (by decide) t_828 (fun _ h9 => h9) d_AckBookModel_send_131 (fun r320 h => ?_)
            refine lv_iload hC.1 hC.2.1 d_AckBookModel_send_134 (lv_at hl 0 rfl) ?_
            refine lv_iload hC.1 hC.2.1 d_AckBookModel_send_136 (lv_at hl 6 rfl) ?_
            refine x_stZ hC hZ h d_AckBookModel_send_138 (fun w H locs hZ h => ?_)
            refine x_aload_n hC d_AckBookModel_send_139 rfl (lv_at hl 2 rfl) ?_
            refine x_getR hC hZ zc10 h (by decide) t_823 (fun _ h9 => h9) d_AckBookModel_send_140 (fun r321 h => ?_)
            refine lv_iload_n hC.1 hC.2.1 d_AckBookModel_send_143 rfl (lv_at hl 3 rfl) ?_
            refine lv_dup2_11 hC.1 hC.2.1 d_AckBookModel_send_144 rfl (z_rfc _) ?_
            refine x_ldI hC hZ h d_AckBookModel_send_145 (fun v322 h => ?_)
            refine lv_iconst (v := (1 : Int32)) hC.1 hC.2.1 d_AckBookModel_send_146 (by decide) ?_
            refine lv_iadd hC.1 hC.2.1 d_AckBookModel_send_147 ?_
            refine x_stI hC hZ h d_AckBookModel_send_148 (fun w H locs hZ h => ?_)
            refine x_aload_n hC d_AckBookModel_send_149 rfl (lv_at hl 2 rfl) ?_
            refine x_aload_n hC d_AckBookModel_send_150 rfl (lv_at hl 2 rfl) ?_
            refine x_getI hC hZ zc10 h (by decide) t_820 (fun _ h9 => h9) d_AckBookModel_send_151 (fun v323 h => ?_)
            refine x_put hC hZ zc10 h (by decide) t_833 (fun _ h9 => h9) rfl rfl rfl rfl d_AckBookModel_send_154 (fun w H locs hZ h => ?_)
            refine x_aload_n hC d_AckBookModel_send_157 rfl (lv_at hl 2 rfl) ?_
            refine x_getR hC hZ zc10 h (by decide) t_829 (fun _ h9 => h9) d_AckBookModel_send_158 (fun r324 h => ?_)
            refine lv_iload hC.1 hC.2.1 d_AckBookModel_send_161 (lv_at hl 0 rfl) ?_
            refine x_aload_n hC d_AckBookModel_send_163 rfl (lv_at hl 2 rfl) ?_
            obtain ⟨a_, fs_, eo_, h⟩ := z_this_spec h
            obtain ⟨w1_, o1_, hF_, ha_⟩ := z_cI_spec h
            refine x_goes hC hRc hRs hFr ha_ (z_goV (As := []) hC hZ zc10 eo_ (k_AckBookModel_flight hT hfl hE _ _ hF_) t_951 t_953 ts_AckBookModel_flight t_12 t_954 ⟨by decide, by decide, (by decide +kernel : (parseMethodDescriptor y_AckBookModel_flight.desc).map (fun d => d.parameters.length) = some 0)⟩ (by rw [hRt.1]; decide) (by rw [hRt.2]; decide) hl.1 rfl (by first | exact Nat.le_of_ble_eq_true rfl | simp [z_rfc, z_ci, z_cj]) d_AckBookModel_send_164) (fun v_ hv H locs cells slots hZ => ?_)
            obtain ⟨v326, rfl, h⟩ := hv
            generalize w1_ = w at h hZ
            refine x_aload_n hC d_AckBookModel_send_167 rfl (lv_at hl 2 rfl) ?_
            refine x_getI hC hZ zc10 h (by decide) t_843 (fun _ h9 => h9) d_AckBookModel_send_168 (fun v327 h => ?_)
            refine lv_sipush (v := (1200 : Int32)) hC.1 hC.2.1 d_AckBookModel_send_171 (by decide) ?_
            refine lv_isub hC.1 hC.2.1 d_AckBookModel_send_174 ?_
            refine lv_icmp_le (tgt := 182) hC.1 hC.2.1 d_AckBookModel_send_175 (by decide) (fun hc => ?_) (fun hc => ?_)
            · have h := z_ifp hc h
              refine lv_iconst (v := (0 : Int32)) hC.1 hC.2.1 d_AckBookModel_send_182 (by decide) ?_
              refine x_stZ hC hZ h d_AckBookModel_send_183 (fun w H locs hZ h => ?_)
              refine lv_iload hC.1 hC.2.1 d_AckBookModel_send_184 (lv_at hl 1 rfl) ?_
              exact x_iret hC hRc hRs hZ hr rfl h d_AckBookModel_send_186
            · have h := z_ifn hc h
              refine lv_iconst (v := (1 : Int32)) hC.1 hC.2.1 d_AckBookModel_send_178 (by decide) ?_
              refine lv_goto (tgt := 183) hC.1 hC.2.1 d_AckBookModel_send_179 (by decide) ?_
              refine x_stZ hC hZ h d_AckBookModel_send_183 (fun w H locs hZ h => ?_)
              refine lv_iload hC.1 hC.2.1 d_AckBookModel_send_184 (lv_at hl 1 rfl) ?_
              exact x_iret hC hRc hRs hZ hr rfl h d_AckBookModel_send_186
          · have h := z_ifn hc h
            refine lv_iconst (v := (0 : Int32)) hC.1 hC.2.1 d_AckBookModel_send_75 (by decide) ?_
            exact x_iret hC hRc hRs hZ hr rfl h d_AckBookModel_send_76
        · have h := z_ifp hc h
          refine lv_iconst (v := (1 : Int32)) hC.1 hC.2.1 d_AckBookModel_send_63 (by decide) ?_
          refine lv_goto (tgt := 68) hC.1 hC.2.1 d_AckBookModel_send_64 (by decide) ?_
          refine lv_iconst (v := (2 : Int32)) hC.1 hC.2.1 d_AckBookModel_send_68 (by decide) ?_
          obtain ⟨a_, fs_, eo_, h⟩ := z_this_spec h
          obtain ⟨w1_, o1_, hF_, ha_⟩ := z_cI_spec h
          refine x_goes hC hRc hRs hFr ha_ (z_goV (As := [.int (1 : Int32), .int (2 : Int32)]) hC hZ zc10 eo_ (k_AckBookModel_fails hT hfl hE _ _ hF_) t_947 t_949 ts_AckBookModel_fails t_12 t_950 ⟨by decide, by decide, (by decide +kernel : (parseMethodDescriptor y_AckBookModel_fails.desc).map (fun d => d.parameters.length) = some 2)⟩ (by rw [hRt.1]; decide) (by rw [hRt.2]; decide) hl.1 rfl (by first | exact Nat.le_of_ble_eq_true rfl | simp [z_rfc, z_ci, z_cj]) d_AckBookModel_send_69) (fun v_ hv H locs cells slots hZ => ?_)
          obtain ⟨v295, rfl, h⟩ := hv
          generalize w1_ = w at h hZ
          refine lv_if_eq (tgt := 77) hC.1 hC.2.1 d_AckBookModel_send_72 (by decide) (fun hc => ?_) (fun hc => ?_)
          · have h := z_ifp hc h
            refine x_aload_n hC d_AckBookModel_send_77 rfl (lv_at hl 0 rfl) ?_
            refine x_getR hC hZ zc10 h (by decide) t_823 (fun _ h9 => h9) d_AckBookModel_send_78 (fun r296 h => ?_)
            refine lv_iload_n hC.1 hC.2.1 d_AckBookModel_send_81 rfl (lv_at hl 1 rfl) ?_
            refine x_ldI hC hZ h d_AckBookModel_send_82 (fun v297 h => ?_)
            refine lv_istore (i := 5) (lv' := [(5, .int v297), (0, va_rf a0), (1, .int pI1), (2, .int pI2), (3, .int pI3), (4, .int pI4)]) hC.1 hC.2.1 d_AckBookModel_send_83 hl (by decide) (by first | rfl | simp [z_rfc, z_ci, z_cj]) (fun ls hl => ?_)
            refine lv_sipush (v := (4096 : Int32)) hC.1 hC.2.1 d_AckBookModel_send_85 (by decide) ?_
            refine lv_iload_n hC.1 hC.2.1 d_AckBookModel_send_88 rfl (lv_at hl 2 rfl) ?_
            refine lv_imul hC.1 hC.2.1 d_AckBookModel_send_89 ?_
            refine lv_iload hC.1 hC.2.1 d_AckBookModel_send_90 (lv_at hl 0 rfl) ?_
            refine lv_iadd hC.1 hC.2.1 d_AckBookModel_send_92 ?_
            refine lv_istore (i := 6) (lv' := [(6, .int (((4096 : Int32) * pI1) + v297)), (5, .int v297), (0, va_rf a0), (1, .int pI1), (2, .int pI2), (3, .int pI3), (4, .int pI4)]) hC.1 hC.2.1 d_AckBookModel_send_93 hl (by decide) (by first | rfl | simp [z_rfc, z_ci, z_cj]) (fun ls hl => ?_)
            refine x_aload_n hC d_AckBookModel_send_95 rfl (lv_at hl 2 rfl) ?_
            refine x_getR hC hZ zc10 h (by decide) t_824 (fun _ h9 => h9) d_AckBookModel_send_96 (fun r298 h => ?_)
            refine lv_iload hC.1 hC.2.1 d_AckBookModel_send_99 (lv_at hl 0 rfl) ?_
            refine lv_iload_n hC.1 hC.2.1 d_AckBookModel_send_101 rfl (lv_at hl 4 rfl) ?_
            refine x_stI hC hZ h d_AckBookModel_send_102 (fun w H locs hZ h => ?_)
            refine x_aload_n hC d_AckBookModel_send_103 rfl (lv_at hl 2 rfl) ?_
            refine x_getR hC hZ zc10 h (by decide) t_825 (fun _ h9 => h9) d_AckBookModel_send_104 (fun r299 h => ?_)
            refine lv_iload hC.1 hC.2.1 d_AckBookModel_send_107 (lv_at hl 0 rfl) ?_
            refine x_aload_n hC d_AckBookModel_send_109 rfl (lv_at hl 2 rfl) ?_
            refine x_getI hC hZ zc10 h (by decide) t_820 (fun _ h9 => h9) d_AckBookModel_send_110 (fun v300 h => ?_)
            refine x_stI hC hZ h d_AckBookModel_send_113 (fun w H locs hZ h => ?_)
            refine x_aload_n hC d_AckBookModel_send_114 rfl (lv_at hl 2 rfl) ?_
            refine x_getR hC hZ zc10 h (by decide) t_826 (fun _ h9 => h9) d_AckBookModel_send_115 (fun r301 h => ?_)
            refine lv_iload hC.1 hC.2.1 d_AckBookModel_send_118 (lv_at hl 0 rfl) ?_
            refine lv_iconst (v := (0 : Int32)) hC.1 hC.2.1 d_AckBookModel_send_120 (by decide) ?_
            refine x_stI hC hZ h d_AckBookModel_send_121 (fun w H locs hZ h => ?_)
            refine x_aload_n hC d_AckBookModel_send_122 rfl (lv_at hl 2 rfl) ?_
            refine x_getR hC hZ zc10 h (by decide) t_827 (fun _ h9 => h9) d_AckBookModel_send_123 (fun r302 h => ?_)
            refine lv_iload hC.1 hC.2.1 d_AckBookModel_send_126 (lv_at hl 0 rfl) ?_
            refine lv_iload_n hC.1 hC.2.1 d_AckBookModel_send_128 rfl (lv_at hl 5 rfl) ?_
            refine x_stZ hC hZ h d_AckBookModel_send_129 (fun w H locs hZ h => ?_)
            refine x_aload_n hC d_AckBookModel_send_130 rfl (lv_at hl 2 rfl) ?_
            refine x_getR hC hZ zc10 h (by decide) t_828 (fun _ h9 => h9) d_AckBookModel_send_131 (fun r303 h => ?_)
            refine lv_iload hC.1 hC.2.1 d_AckBookModel_send_134 (lv_at hl 0 rfl) ?_
            refine lv_iload hC.1 hC.2.1 d_AckBookModel_send_136 (lv_at hl 6 rfl) ?_
            refine x_stZ hC hZ h d_AckBookModel_send_138 (fun w H locs hZ h => ?_)
            refine x_aload_n hC d_AckBookModel_send_139 rfl (lv_at hl 2 rfl) ?_
            refine x_getR hC hZ zc10 h (by decide) t_823 (fun _ h9 => h9) d_AckBookModel_send_140 (fun r304 h => ?_)
            refine lv_iload_n hC.1 hC.2.1 d_AckBookModel_send_143 rfl (lv_at hl 3 rfl) ?_
            refine lv_dup2_11 hC.1 hC.2.1 d_AckBookModel_send_144 rfl (z_rfc _) ?_
            refine x_ldI hC hZ h d_AckBookModel_send_145 (fun v305 h => ?_)
            refine lv_iconst (v := (1 : Int32)) hC.1 hC.2.1 d_AckBookModel_send_146 (by decide) ?_
            refine lv_iadd hC.1 hC.2.1 d_AckBookModel_send_147 ?_
            refine x_stI hC hZ h d_AckBookModel_send_148 (fun w H locs hZ h => ?_)
            refine x_aload_n hC d_AckBookModel_send_149 rfl (lv_at hl 2 rfl) ?_
            refine x_aload_n hC d_AckBookModel_send_150 rfl (lv_at hl 2 rfl) ?_
            refine x_getI hC hZ zc10 h (by decide) t_820 (fun _ h9 => h9) d_AckBookModel_send_151 (fun v306 h => ?_)
            refine x_put hC hZ zc10 h (by decide) t_833 (fun _ h9 => h9) rfl rfl rfl rfl d_AckBookModel_send_154 (fun w H locs hZ h => ?_)
            refine x_aload_n hC d_AckBookModel_send_157 rfl (lv_at hl 2 rfl) ?_
            refine x_getR hC hZ zc10 h (by decide) t_829 (fun _ h9 => h9) d_AckBookModel_send_158 (fun r307 h => ?_)
            refine lv_iload hC.1 hC.2.1 d_AckBookModel_send_161 (lv_at hl 0 rfl) ?_
            refine x_aload_n hC d_AckBookModel_send_163 rfl (lv_at hl 2 rfl) ?_
            obtain ⟨a_, fs_, eo_, h⟩ := z_this_spec h
            obtain ⟨w1_, o1_, hF_, ha_⟩ := z_cI_spec h
            refine x_goes hC hRc hRs hFr ha_ (z_goV (As := []) hC hZ zc10 eo_ (k_AckBookModel_flight hT hfl hE _ _ hF_) t_951 t_953 ts_AckBookModel_flight t_12 t_954 ⟨by decide, by decide, (by decide +kernel : (parseMethodDescriptor y_AckBookModel_flight.desc).map (fun d => d.parameters.length) = some 0)⟩ (by rw [hRt.1]; decide) (by rw [hRt.2]; decide) hl.1 rfl (by first | exact Nat.le_of_ble_eq_true rfl | simp [z_rfc, z_ci, z_cj]) d_AckBookModel_send_164) (fun v_ hv H locs cells slots hZ => ?_)
            obtain ⟨v309, rfl, h⟩ := hv
            generalize w1_ = w at h hZ
            refine x_aload_n hC d_AckBookModel_send_167 rfl (lv_at hl 2 rfl) ?_
            refine x_getI hC hZ zc10 h (by decide) t_843 (fun _ h9 => h9) d_AckBookModel_send_168 (fun v310 h => ?_)
            refine lv_sipush (v := (1200 : Int32)) hC.1 hC.2.1 d_AckBookModel_send_171 (by decide) ?_
            refine lv_isub hC.1 hC.2.1 d_AckBookModel_send_174 ?_
            refine lv_icmp_le (tgt := 182) hC.1 hC.2.1 d_AckBookModel_send_175 (by decide) (fun hc => ?_) (fun hc => ?_)
            · have h := z_ifp hc h
              refine lv_iconst (v := (0 : Int32)) hC.1 hC.2.1 d_AckBookModel_send_182 (by decide) ?_
              refine x_stZ hC hZ h d_AckBookModel_send_183 (fun w H locs hZ h => ?_)
              refine lv_iload hC.1 hC.2.1 d_AckBookModel_send_184 (lv_at hl 1 rfl) ?_
              exact x_iret hC hRc hRs hZ hr rfl h d_AckBookModel_send_186
            · have h := z_ifn hc h
              refine lv_iconst (v := (1 : Int32)) hC.1 hC.2.1 d_AckBookModel_send_178 (by decide) ?_
              refine lv_goto (tgt := 183) hC.1 hC.2.1 d_AckBookModel_send_179 (by decide) ?_
              refine x_stZ hC hZ h d_AckBookModel_send_183 (fun w H locs hZ h => ?_)
              refine lv_iload hC.1 hC.2.1 d_AckBookModel_send_184 (lv_at hl 1 rfl) ?_
              exact x_iret hC hRc hRs hZ hr rfl h d_AckBookModel_send_186
          · have h := z_ifn hc h
            refine lv_iconst (v := (0 : Int32)) hC.1 hC.2.1 d_AckBookModel_send_75 (by decide) ?_
            exact x_iret hC hRc hRs hZ hr rfl h d_AckBookModel_send_76
  · have h := z_ifp hc h
    refine lv_iload_n hC.1 hC.2.1 d_AckBookModel_send_8 rfl (lv_at hl 2 rfl) ?_
    refine lv_iconst (v := (1 : Int32)) hC.1 hC.2.1 d_AckBookModel_send_9 (by decide) ?_
    refine lv_icmp_lt (tgt := 29) hC.1 hC.2.1 d_AckBookModel_send_10 (by decide) (fun hc => ?_) (fun hc => ?_)
    · have h := z_ifp hc h
      refine lv_iconst (v := (1 : Int32)) hC.1 hC.2.1 d_AckBookModel_send_29 (by decide) ?_
      refine lv_goto (tgt := 34) hC.1 hC.2.1 d_AckBookModel_send_30 (by decide) ?_
      refine lv_iconst (v := (1 : Int32)) hC.1 hC.2.1 d_AckBookModel_send_34 (by decide) ?_
      obtain ⟨a_, fs_, eo_, h⟩ := z_this_spec h
      obtain ⟨w1_, o1_, hF_, ha_⟩ := z_cI_spec h
      refine x_goes hC hRc hRs hFr ha_ (z_goV (As := [.int (1 : Int32), .int (1 : Int32)]) hC hZ zc10 eo_ (k_AckBookModel_fails hT hfl hE _ _ hF_) t_947 t_949 ts_AckBookModel_fails t_12 t_950 ⟨by decide, by decide, (by decide +kernel : (parseMethodDescriptor y_AckBookModel_fails.desc).map (fun d => d.parameters.length) = some 2)⟩ (by rw [hRt.1]; decide) (by rw [hRt.2]; decide) hl.1 rfl (by first | exact Nat.le_of_ble_eq_true rfl | simp [z_rfc, z_ci, z_cj]) d_AckBookModel_send_35) (fun v_ hv H locs cells slots hZ => ?_)
      obtain ⟨v4, rfl, h⟩ := hv
      generalize w1_ = w at h hZ
      refine lv_if_ne (tgt := 75) hC.1 hC.2.1 d_AckBookModel_send_38 (by decide) (fun hc => ?_) (fun hc => ?_)
      · have h := z_ifn hc h
        refine lv_iconst (v := (0 : Int32)) hC.1 hC.2.1 d_AckBookModel_send_75 (by decide) ?_
        exact x_iret hC hRc hRs hZ hr rfl h d_AckBookModel_send_76
      · have h := z_ifp hc h
        refine x_aload_n hC d_AckBookModel_send_41 rfl (lv_at hl 0 rfl) ?_
        refine x_aload_n hC d_AckBookModel_send_42 rfl (lv_at hl 0 rfl) ?_
        refine x_getR hC hZ zc10 h (by decide) t_830 (fun _ h9 => h9) d_AckBookModel_send_43 (fun r5 h => ?_)
        refine lv_iload_n hC.1 hC.2.1 d_AckBookModel_send_46 rfl (lv_at hl 1 rfl) ?_
        refine x_ldZ hC hZ h d_AckBookModel_send_47 (fun v6 h => ?_)
        refine lv_if_ne (tgt := 63) hC.1 hC.2.1 d_AckBookModel_send_48 (by decide) (fun hc => ?_) (fun hc => ?_)
        · have h := z_ifn hc h
          refine lv_iconst (v := (1 : Int32)) hC.1 hC.2.1 d_AckBookModel_send_63 (by decide) ?_
          refine lv_goto (tgt := 68) hC.1 hC.2.1 d_AckBookModel_send_64 (by decide) ?_
          refine lv_iconst (v := (2 : Int32)) hC.1 hC.2.1 d_AckBookModel_send_68 (by decide) ?_
          obtain ⟨a_, fs_, eo_, h⟩ := z_this_spec h
          obtain ⟨w1_, o1_, hF_, ha_⟩ := z_cI_spec h
          refine x_goes hC hRc hRs hFr ha_ (z_goV (As := [.int (1 : Int32), .int (2 : Int32)]) hC hZ zc10 eo_ (k_AckBookModel_fails hT hfl hE _ _ hF_) t_947 t_949 ts_AckBookModel_fails t_12 t_950 ⟨by decide, by decide, (by decide +kernel : (parseMethodDescriptor y_AckBookModel_fails.desc).map (fun d => d.parameters.length) = some 2)⟩ (by rw [hRt.1]; decide) (by rw [hRt.2]; decide) hl.1 rfl (by first | exact Nat.le_of_ble_eq_true rfl | simp [z_rfc, z_ci, z_cj]) d_AckBookModel_send_69) (fun v_ hv H locs cells slots hZ => ?_)
          obtain ⟨v44, rfl, h⟩ := hv
          generalize w1_ = w at h hZ
          refine lv_if_eq (tgt := 77) hC.1 hC.2.1 d_AckBookModel_send_72 (by decide) (fun hc => ?_) (fun hc => ?_)
          · have h := z_ifp hc h
            refine x_aload_n hC d_AckBookModel_send_77 rfl (lv_at hl 0 rfl) ?_
            refine x_getR hC hZ zc10 h (by decide) t_823 (fun _ h9 => h9) d_AckBookModel_send_78 (fun r45 h => ?_)
            refine lv_iload_n hC.1 hC.2.1 d_AckBookModel_send_81 rfl (lv_at hl 1 rfl) ?_
            refine x_ldI hC hZ h d_AckBookModel_send_82 (fun v46 h => ?_)
            refine lv_istore (i := 5) (lv' := [(5, .int v46), (0, va_rf a0), (1, .int pI1), (2, .int pI2), (3, .int pI3), (4, .int pI4)]) hC.1 hC.2.1 d_AckBookModel_send_83 hl (by decide) (by first | rfl | simp [z_rfc, z_ci, z_cj]) (fun ls hl => ?_)
            refine lv_sipush (v := (4096 : Int32)) hC.1 hC.2.1 d_AckBookModel_send_85 (by decide) ?_
            refine lv_iload_n hC.1 hC.2.1 d_AckBookModel_send_88 rfl (lv_at hl 2 rfl) ?_
            refine lv_imul hC.1 hC.2.1 d_AckBookModel_send_89 ?_
            refine lv_iload hC.1 hC.2.1 d_AckBookModel_send_90 (lv_at hl 0 rfl) ?_
            refine lv_iadd hC.1 hC.2.1 d_AckBookModel_send_92 ?_
            refine lv_istore (i := 6) (lv' := [(6, .int (((4096 : Int32) * pI1) + v46)), (5, .int v46), (0, va_rf a0), (1, .int pI1), (2, .int pI2), (3, .int pI3), (4, .int pI4)]) hC.1 hC.2.1 d_AckBookModel_send_93 hl (by decide) (by first | rfl | simp [z_rfc, z_ci, z_cj]) (fun ls hl => ?_)
            refine x_aload_n hC d_AckBookModel_send_95 rfl (lv_at hl 2 rfl) ?_
            refine x_getR hC hZ zc10 h (by decide) t_824 (fun _ h9 => h9) d_AckBookModel_send_96 (fun r47 h => ?_)
            refine lv_iload hC.1 hC.2.1 d_AckBookModel_send_99 (lv_at hl 0 rfl) ?_
            refine lv_iload_n hC.1 hC.2.1 d_AckBookModel_send_101 rfl (lv_at hl 4 rfl) ?_
            refine x_stI hC hZ h d_AckBookModel_send_102 (fun w H locs hZ h => ?_)
            refine x_aload_n hC d_AckBookModel_send_103 rfl (lv_at hl 2 rfl) ?_
            refine x_getR hC hZ zc10 h (by decide) t_825 (fun _ h9 => h9) d_AckBookModel_send_104 (fun r48 h => ?_)
            refine lv_iload hC.1 hC.2.1 d_AckBookModel_send_107 (lv_at hl 0 rfl) ?_
            refine x_aload_n hC d_AckBookModel_send_109 rfl (lv_at hl 2 rfl) ?_
            refine x_getI hC hZ zc10 h (by decide) t_820 (fun _ h9 => h9) d_AckBookModel_send_110 (fun v49 h => ?_)
            refine x_stI hC hZ h d_AckBookModel_send_113 (fun w H locs hZ h => ?_)
            refine x_aload_n hC d_AckBookModel_send_114 rfl (lv_at hl 2 rfl) ?_
            refine x_getR hC hZ zc10 h (by decide) t_826 (fun _ h9 => h9) d_AckBookModel_send_115 (fun r50 h => ?_)
            refine lv_iload hC.1 hC.2.1 d_AckBookModel_send_118 (lv_at hl 0 rfl) ?_
            refine lv_iconst (v := (0 : Int32)) hC.1 hC.2.1 d_AckBookModel_send_120 (by decide) ?_
            refine x_stI hC hZ h d_AckBookModel_send_121 (fun w H locs hZ h => ?_)
            refine x_aload_n hC d_AckBookModel_send_122 rfl (lv_at hl 2 rfl) ?_
            refine x_getR hC hZ zc10 h (by decide) t_827 (fun _ h9 => h9) d_AckBookModel_send_123 (fun r51 h => ?_)
            refine lv_iload hC.1 hC.2.1 d_AckBookModel_send_126 (lv_at hl 0 rfl) ?_
            refine lv_iload_n hC.1 hC.2.1 d_AckBookModel_send_128 rfl (lv_at hl 5 rfl) ?_
            refine x_stZ hC hZ h d_AckBookModel_send_129 (fun w H locs hZ h => ?_)
            refine x_aload_n hC d_AckBookModel_send_130 rfl (lv_at hl 2 rfl) ?_
            refine x_getR hC hZ zc10 h (by decide) t_828 (fun _ h9 => h9) d_AckBookModel_send_131 (fun r52 h => ?_)
            refine lv_iload hC.1 hC.2.1 d_AckBookModel_send_134 (lv_at hl 0 rfl) ?_
            refine lv_iload hC.1 hC.2.1 d_AckBookModel_send_136 (lv_at hl 6 rfl) ?_
            refine x_stZ hC hZ h d_AckBookModel_send_138 (fun w H locs hZ h => ?_)
            refine x_aload_n hC d_AckBookModel_send_139 rfl (lv_at hl 2 rfl) ?_
            refine x_getR hC hZ zc10 h (by decide) t_823 (fun _ h9 => h9) d_AckBookModel_send_140 (fun r53 h => ?_)
            refine lv_iload_n hC.1 hC.2.1 d_AckBookModel_send_143 rfl (lv_at hl 3 rfl) ?_
            refine lv_dup2_11 hC.1 hC.2.1 d_AckBookModel_send_144 rfl (z_rfc _) ?_
            refine x_ldI hC hZ h d_AckBookModel_send_145 (fun v54 h => ?_)
            refine lv_iconst (v := (1 : Int32)) hC.1 hC.2.1 d_AckBookModel_send_146 (by decide) ?_
            refine lv_iadd hC.1 hC.2.1 d_AckBookModel_send_147 ?_
            refine x_stI hC hZ h d_AckBookModel_send_148 (fun w H locs hZ h => ?_)
            refine x_aload_n hC d_AckBookModel_send_149 rfl (lv_at hl 2 rfl) ?_
            refine x_aload_n hC d_AckBookModel_send_150 rfl (lv_at hl 2 rfl) ?_
            refine x_getI hC hZ zc10 h (by decide) t_820 (fun _ h9 => h9) d_AckBookModel_send_151 (fun v55 h => ?_)
            refine x_put hC hZ zc10 h (by decide) t_833 (fun _ h9 => h9) rfl rfl rfl rfl d_AckBookModel_send_154 (fun w H locs hZ h => ?_)
            refine x_aload_n hC d_AckBookModel_send_157 rfl (lv_at hl 2 rfl) ?_
            refine x_getR hC hZ zc10 h (by decide) t_829 (fun _ h9 => h9) d_AckBookModel_send_158 (fun r56 h => ?_)
            refine lv_iload hC.1 hC.2.1 d_AckBookModel_send_161 (lv_at hl 0 rfl) ?_
            refine x_aload_n hC d_AckBookModel_send_163 rfl (lv_at hl 2 rfl) ?_
            obtain ⟨a_, fs_, eo_, h⟩ := z_this_spec h
            obtain ⟨w1_, o1_, hF_, ha_⟩ := z_cI_spec h
            refine x_goes hC hRc hRs hFr ha_ (z_goV (As := []) hC hZ zc10 eo_ (k_AckBookModel_flight hT hfl hE _ _ hF_) t_951 t_953 ts_AckBookModel_flight t_12 t_954 ⟨by decide, by decide, (by decide +kernel : (parseMethodDescriptor y_AckBookModel_flight.desc).map (fun d => d.parameters.length) = some 0)⟩ (by rw [hRt.1]; decide) (by rw [hRt.2]; decide) hl.1 rfl (by first | exact Nat.le_of_ble_eq_true rfl | simp [z_rfc, z_ci, z_cj]) d_AckBookModel_send_164) (fun v_ hv H locs cells slots hZ => ?_)
            obtain ⟨v58, rfl, h⟩ := hv
            generalize w1_ = w at h hZ
            refine x_aload_n hC d_AckBookModel_send_167 rfl (lv_at hl 2 rfl) ?_
            refine x_getI hC hZ zc10 h (by decide) t_843 (fun _ h9 => h9) d_AckBookModel_send_168 (fun v59 h => ?_)
            refine lv_sipush (v := (1200 : Int32)) hC.1 hC.2.1 d_AckBookModel_send_171 (by decide) ?_
            refine lv_isub hC.1 hC.2.1 d_AckBookModel_send_174 ?_
            refine lv_icmp_le (tgt := 182) hC.1 hC.2.1 d_AckBookModel_send_175 (by decide) (fun hc => ?_) (fun hc => ?_)
            · have h := z_ifp hc h
              refine lv_iconst (v := (0 : Int32)) hC.1 hC.2.1 d_AckBookModel_send_182 (by decide) ?_
              refine x_stZ hC hZ h d_AckBookModel_send_183 (fun w H locs hZ h => ?_)
              refine lv_iload hC.1 hC.2.1 d_AckBookModel_send_184 (lv_at hl 1 rfl) ?_
              exact x_iret hC hRc hRs hZ hr rfl h d_AckBookModel_send_186
            · have h := z_ifn hc h
              refine lv_iconst (v := (1 : Int32)) hC.1 hC.2.1 d_AckBookModel_send_178 (by decide) ?_
              refine lv_goto (tgt := 183) hC.1 hC.2.1 d_AckBookModel_send_179 (by decide) ?_
              refine x_stZ hC hZ h d_AckBookModel_send_183 (fun w H locs hZ h => ?_)
              refine lv_iload hC.1 hC.2.1 d_AckBookModel_send_184 (lv_at hl 1 rfl) ?_
              exact x_iret hC hRc hRs hZ hr rfl h d_AckBookModel_send_186
          · have h := z_ifn hc h
            refine lv_iconst (v := (0 : Int32)) hC.1 hC.2.1 d_AckBookModel_send_75 (by decide) ?_
            exact x_iret hC hRc hRs hZ hr rfl h d_AckBookModel_send_76
        · have h := z_ifp hc h
          refine x_aload_n hC d_AckBookModel_send_51 rfl (lv_at hl 0 rfl) ?_
          refine x_getR hC hZ zc10 h (by decide) t_823 (fun _ h9 => h9) d_AckBookModel_send_52 (fun r7 h => ?_)
          refine lv_iload_n hC.1 hC.2.1 d_AckBookModel_send_55 rfl (lv_at hl 1 rfl) ?_
          refine x_ldI hC hZ h d_AckBookModel_send_56 (fun v8 h => ?_)
          refine lv_sipush (v := (4096 : Int32)) hC.1 hC.2.1 d_AckBookModel_send_57 (by decide) ?_
          refine lv_icmp_ne (tgt := 67) hC.1 hC.2.1 d_AckBookModel_send_60 (by decide) (fun hc => ?_) (fun hc => ?_)
          · have h := z_ifn hc h
            refine lv_iconst (v := (0 : Int32)) hC.1 hC.2.1 d_AckBookModel_send_67 (by decide) ?_
            refine lv_iconst (v := (2 : Int32)) hC.1 hC.2.1 d_AckBookModel_send_68 (by decide) ?_
            obtain ⟨a_, fs_, eo_, h⟩ := z_this_spec h
            obtain ⟨w1_, o1_, hF_, ha_⟩ := z_cI_spec h
            refine x_goes hC hRc hRs hFr ha_ (z_goV (As := [.int (0 : Int32), .int (2 : Int32)]) hC hZ zc10 eo_ (k_AckBookModel_fails hT hfl hE _ _ hF_) t_947 t_949 ts_AckBookModel_fails t_12 t_950 ⟨by decide, by decide, (by decide +kernel : (parseMethodDescriptor y_AckBookModel_fails.desc).map (fun d => d.parameters.length) = some 2)⟩ (by rw [hRt.1]; decide) (by rw [hRt.2]; decide) hl.1 rfl (by first | exact Nat.le_of_ble_eq_true rfl | simp [z_rfc, z_ci, z_cj]) d_AckBookModel_send_69) (fun v_ hv H locs cells slots hZ => ?_)
            obtain ⟨v27, rfl, h⟩ := hv
            generalize w1_ = w at h hZ
            refine lv_if_eq (tgt := 77) hC.1 hC.2.1 d_AckBookModel_send_72 (by decide) (fun hc => ?_) (fun hc => ?_)
            · have h := z_ifp hc h
              refine x_aload_n hC d_AckBookModel_send_77 rfl (lv_at hl 0 rfl) ?_
              refine x_getR hC hZ zc10 h (by decide) t_823 (fun _ h9 => h9) d_AckBookModel_send_78 (fun r28 h => ?_)
              refine lv_iload_n hC.1 hC.2.1 d_AckBookModel_send_81 rfl (lv_at hl 1 rfl) ?_
              refine x_ldI hC hZ h d_AckBookModel_send_82 (fun v29 h => ?_)
              refine lv_istore (i := 5) (lv' := [(5, .int v29), (0, va_rf a0), (1, .int pI1), (2, .int pI2), (3, .int pI3), (4, .int pI4)]) hC.1 hC.2.1 d_AckBookModel_send_83 hl (by decide) (by first | rfl | simp [z_rfc, z_ci, z_cj]) (fun ls hl => ?_)
              refine lv_sipush (v := (4096 : Int32)) hC.1 hC.2.1 d_AckBookModel_send_85 (by decide) ?_
              refine lv_iload_n hC.1 hC.2.1 d_AckBookModel_send_88 rfl (lv_at hl 2 rfl) ?_
              refine lv_imul hC.1 hC.2.1 d_AckBookModel_send_89 ?_
              refine lv_iload hC.1 hC.2.1 d_AckBookModel_send_90 (lv_at hl 0 rfl) ?_
              refine lv_iadd hC.1 hC.2.1 d_AckBookModel_send_92 ?_
              refine lv_istore (i := 6) (lv' := [(6, .int (((4096 : Int32) * pI1) + v29)), (5, .int v29), (0, va_rf a0), (1, .int pI1), (2, .int pI2), (3, .int pI3), (4, .int pI4)]) hC.1 hC.2.1 d_AckBookModel_send_93 hl (by decide) (by first | rfl | simp [z_rfc, z_ci, z_cj]) (fun ls hl => ?_)
              refine x_aload_n hC d_AckBookModel_send_95 rfl (lv_at hl 2 rfl) ?_
              refine x_getR hC hZ zc10 h (by decide) t_824 (fun _ h9 => h9) d_AckBookModel_send_96 (fun r30 h => ?_)
              refine lv_iload hC.1 hC.2.1 d_AckBookModel_send_99 (lv_at hl 0 rfl) ?_
              refine lv_iload_n hC.1 hC.2.1 d_AckBookModel_send_101 rfl (lv_at hl 4 rfl) ?_
              refine x_stI hC hZ h d_AckBookModel_send_102 (fun w H locs hZ h => ?_)
              refine x_aload_n hC d_AckBookModel_send_103 rfl (lv_at hl 2 rfl) ?_
              refine x_getR hC hZ zc10 h (by decide) t_825 (fun _ h9 => h9) d_AckBookModel_send_104 (fun r31 h => ?_)
              refine lv_iload hC.1 hC.2.1 d_AckBookModel_send_107 (lv_at hl 0 rfl) ?_
              refine x_aload_n hC d_AckBookModel_send_109 rfl (lv_at hl 2 rfl) ?_
              refine x_getI hC hZ zc10 h (by decide) t_820 (fun _ h9 => h9) d_AckBookModel_send_110 (fun v32 h => ?_)
              refine x_stI hC hZ h d_AckBookModel_send_113 (fun w H locs hZ h => ?_)
              refine x_aload_n hC d_AckBookModel_send_114 rfl (lv_at hl 2 rfl) ?_
              refine x_getR hC hZ zc10 h (by decide) t_826 (fun _ h9 => h9) d_AckBookModel_send_115 (fun r33 h => ?_)
              refine lv_iload hC.1 hC.2.1 d_AckBookModel_send_118 (lv_at hl 0 rfl) ?_
              refine lv_iconst (v := (0 : Int32)) hC.1 hC.2.1 d_AckBookModel_send_120 (by decide) ?_
              refine x_stI hC hZ h d_AckBookModel_send_121 (fun w H locs hZ h => ?_)
              refine x_aload_n hC d_AckBookModel_send_122 rfl (lv_at hl 2 rfl) ?_
              refine x_getR hC hZ zc10 h (by decide) t_827 (fun _ h9 => h9) d_AckBookModel_send_123 (fun r34 h => ?_)
              refine lv_iload hC.1 hC.2.1 d_AckBookModel_send_126 (lv_at hl 0 rfl) ?_
              refine lv_iload_n hC.1 hC.2.1 d_AckBookModel_send_128 rfl (lv_at hl 5 rfl) ?_
              refine x_stZ hC hZ h d_AckBookModel_send_129 (fun w H locs hZ h => ?_)
              refine x_aload_n hC d_AckBookModel_send_130 rfl (lv_at hl 2 rfl) ?_
              refine x_getR hC hZ zc10 h (by decide) t_828 (fun _ h9 => h9) d_AckBookModel_send_131 (fun r35 h => ?_)
              refine lv_iload hC.1 hC.2.1 d_AckBookModel_send_134 (lv_at hl 0 rfl) ?_
              refine lv_iload hC.1 hC.2.1 d_AckBookModel_send_136 (lv_at hl 6 rfl) ?_
              refine x_stZ hC hZ h d_AckBookModel_send_138 (fun w H locs hZ h => ?_)
              refine x_aload_n hC d_AckBookModel_send_139 rfl (lv_at hl 2 rfl) ?_
              refine x_getR hC hZ zc10 h (by decide) t_823 (fun _ h9 => h9) d_AckBookModel_send_140 (fun r36 h => ?_)
              refine lv_iload_n hC.1 hC.2.1 d_AckBookModel_send_143 rfl (lv_at hl 3 rfl) ?_
              refine lv_dup2_11 hC.1 hC.2.1 d_AckBookModel_send_144 rfl (z_rfc _) ?_
              refine x_ldI hC hZ h d_AckBookModel_send_145 (fun v37 h => ?_)
              refine lv_iconst (v := (1 : Int32)) hC.1 hC.2.1 d_AckBookModel_send_146 (by decide) ?_
              refine lv_iadd hC.1 hC.2.1 d_AckBookModel_send_147 ?_
              refine x_stI hC hZ h d_AckBookModel_send_148 (fun w H locs hZ h => ?_)
              refine x_aload_n hC d_AckBookModel_send_149 rfl (lv_at hl 2 rfl) ?_
              refine x_aload_n hC d_AckBookModel_send_150 rfl (lv_at hl 2 rfl) ?_
              refine x_getI hC hZ zc10 h (by decide) t_820 (fun _ h9 => h9) d_AckBookModel_send_151 (fun v38 h => ?_)
              refine x_put hC hZ zc10 h (by decide) t_833 (fun _ h9 => h9) rfl rfl rfl rfl d_AckBookModel_send_154 (fun w H locs hZ h => ?_)
              refine x_aload_n hC d_AckBookModel_send_157 rfl (lv_at hl 2 rfl) ?_
              refine x_getR hC hZ zc10 h (by decide) t_829 (fun _ h9 => h9) d_AckBookModel_send_158 (fun r39 h => ?_)
              refine lv_iload hC.1 hC.2.1 d_AckBookModel_send_161 (lv_at hl 0 rfl) ?_
              refine x_aload_n hC d_AckBookModel_send_163 rfl (lv_at hl 2 rfl) ?_
              obtain ⟨a_, fs_, eo_, h⟩ := z_this_spec h
              obtain ⟨w1_, o1_, hF_, ha_⟩ := z_cI_spec h
              refine x_goes hC hRc hRs hFr ha_ (z_goV (As := []) hC hZ zc10 eo_ (k_AckBookModel_flight hT hfl hE _ _ hF_) t_951 t_953 ts_AckBookModel_flight t_12 t_954 ⟨by decide, by decide, (by decide +kernel : (parseMethodDescriptor y_AckBookModel_flight.desc).map (fun d => d.parameters.length) = some 0)⟩ (by rw [hRt.1]; decide) (by rw [hRt.2]; decide) hl.1 rfl (by first | exact Nat.le_of_ble_eq_true rfl | simp [z_rfc, z_ci, z_cj]) d_AckBookModel_send_164) (fun v_ hv H locs cells slots hZ => ?_)
              obtain ⟨v41, rfl, h⟩ := hv
              generalize w1_ = w at h hZ
              refine x_aload_n hC d_AckBookModel_send_167 rfl (lv_at hl 2 rfl) ?_
              refine x_getI hC hZ zc10 h (by decide) t_843 (fun _ h9 => h9) d_AckBookModel_send_168 (fun v42 h => ?_)
              refine lv_sipush (v := (1200 : Int32)) hC.1 hC.2.1 d_AckBookModel_send_171 (by decide) ?_
              refine lv_isub hC.1 hC.2.1 d_AckBookModel_send_174 ?_
              refine lv_icmp_le (tgt := 182) hC.1 hC.2.1 d_AckBookModel_send_175 (by decide) (fun hc => ?_) (fun hc => ?_)
              · have h := z_ifp hc h
                refine lv_iconst (v := (0 : Int32)) hC.1 hC.2.1 d_AckBookModel_send_182 (by decide) ?_
                refine x_stZ hC hZ h d_AckBookModel_send_183 (fun w H locs hZ h => ?_)
                refine lv_iload hC.1 hC.2.1 d_AckBookModel_send_184 (lv_at hl 1 rfl) ?_
                exact x_iret hC hRc hRs hZ hr rfl h d_AckBookModel_send_186
              · have h := z_ifn hc h
                refine lv_iconst (v := (1 : Int32)) hC.1 hC.2.1 d_AckBookModel_send_178 (by decide) ?_
                refine lv_goto (tgt := 183) hC.1 hC.2.1 d_AckBookModel_send_179 (by decide) ?_
                refine x_stZ hC hZ h d_AckBookModel_send_183 (fun w H locs hZ h => ?_)
                refine lv_iload hC.1 hC.2.1 d_AckBookModel_send_184 (lv_at hl 1 rfl) ?_
                exact x_iret hC hRc hRs hZ hr rfl h d_AckBookModel_send_186
            · have h := z_ifn hc h
              refine lv_iconst (v := (0 : Int32)) hC.1 hC.2.1 d_AckBookModel_send_75 (by decide) ?_
              exact x_iret hC hRc hRs hZ hr rfl h d_AckBookModel_send_76
          · have h := z_ifp hc h
            refine lv_iconst (v := (1 : Int32)) hC.1 hC.2.1 d_AckBookModel_send_63 (by decide) ?_
            refine lv_goto (tgt := 68) hC.1 hC.2.1 d_AckBookModel_send_64 (by decide) ?_
            refine lv_iconst (v := (2 : Int32)) hC.1 hC.2.1 d_AckBookModel_send_68 (by decide) ?_
            obtain ⟨a_, fs_, eo_, h⟩ := z_this_spec h
            obtain ⟨w1_, o1_, hF_, ha_⟩ := z_cI_spec h
            refine x_goes hC hRc hRs hFr ha_ (z_goV (As := [.int (1 : Int32), .int (2 : Int32)]) hC hZ zc10 eo_ (k_AckBookModel_fails hT hfl hE _ _ hF_) t_947 t_949 ts_AckBookModel_fails t_12 t_950 ⟨by decide, by decide, (by decide +kernel : (parseMethodDescriptor y_AckBookModel_fails.desc).map (fun d => d.parameters.length) = some 2)⟩ (by rw [hRt.1]; decide) (by rw [hRt.2]; decide) hl.1 rfl (by first | exact Nat.le_of_ble_eq_true rfl | simp [z_rfc, z_ci, z_cj]) d_AckBookModel_send_69) (fun v_ hv H locs cells slots hZ => ?_)
            obtain ⟨v10, rfl, h⟩ := hv
            generalize w1_ = w at h hZ
            refine lv_if_eq (tgt := 77) hC.1 hC.2.1 d_AckBookModel_send_72 (by decide) (fun hc => ?_) (fun hc => ?_)
            · have h := z_ifp hc h
              refine x_aload_n hC d_AckBookModel_send_77 rfl (lv_at hl 0 rfl) ?_
              refine x_getR hC hZ zc10 h (by decide) t_823 (fun _ h9 => h9) d_AckBookModel_send_78 (fun r11 h => ?_)
              refine lv_iload_n hC.1 hC.2.1 d_AckBookModel_send_81 rfl (lv_at hl 1 rfl) ?_
              refine x_ldI hC hZ h d_AckBookModel_send_82 (fun v12 h => ?_)
              refine lv_istore (i := 5) (lv' := [(5, .int v12), (0, va_rf a0), (1, .int pI1), (2, .int pI2), (3, .int pI3), (4, .int pI4)]) hC.1 hC.2.1 d_AckBookModel_send_83 hl (by decide) (by first | rfl | simp [z_rfc, z_ci, z_cj]) (fun ls hl => ?_)
              refine lv_sipush (v := (4096 : Int32)) hC.1 hC.2.1 d_AckBookModel_send_85 (by decide) ?_
              refine lv_iload_n hC.1 hC.2.1 d_AckBookModel_send_88 rfl (lv_at hl 2 rfl) ?_
              refine lv_imul hC.1 hC.2.1 d_AckBookModel_send_89 ?_
              refine lv_iload hC.1 hC.2.1 d_AckBookModel_send_90 (lv_at hl 0 rfl) ?_
              refine lv_iadd hC.1 hC.2.1 d_AckBookModel_send_92 ?_
              refine lv_istore (i := 6) (lv' := [(6, .int (((4096 : Int32) * pI1) + v12)), (5, .int v12), (0, va_rf a0), (1, .int pI1), (2, .int pI2), (3, .int pI3), (4, .int pI4)]) hC.1 hC.2.1 d_AckBookModel_send_93 hl (by decide) (by first | rfl | simp [z_rfc, z_ci, z_cj]) (fun ls hl => ?_)
              refine x_aload_n hC d_AckBookModel_send_95 rfl (lv_at hl 2 rfl) ?_
              refine x_getR hC hZ zc10 h (by decide) t_824 (fun _ h9 => h9) d_AckBookModel_send_96 (fun r13 h => ?_)
              refine lv_iload hC.1 hC.2.1 d_AckBookModel_send_99 (lv_at hl 0 rfl) ?_
              refine lv_iload_n hC.1 hC.2.1 d_AckBookModel_send_101 rfl (lv_at hl 4 rfl) ?_
              refine x_stI hC hZ h d_AckBookModel_send_102 (fun w H locs hZ h => ?_)
              refine x_aload_n hC d_AckBookModel_send_103 rfl (lv_at hl 2 rfl) ?_
              refine x_getR hC hZ zc10 h (by decide) t_825 (fun _ h9 => h9) d_AckBookModel_send_104 (fun r14 h => ?_)
              refine lv_iload hC.1 hC.2.1 d_AckBookModel_send_107 (lv_at hl 0 rfl) ?_
              refine x_aload_n hC d_AckBookModel_send_109 rfl (lv_at hl 2 rfl) ?_
              refine x_getI hC hZ zc10 h (by decide) t_820 (fun _ h9 => h9) d_AckBookModel_send_110 (fun v15 h => ?_)
              refine x_stI hC hZ h d_AckBookModel_send_113 (fun w H locs hZ h => ?_)
              refine x_aload_n hC d_AckBookModel_send_114 rfl (lv_at hl 2 rfl) ?_
              refine x_getR hC hZ zc10 h (by decide) t_826 (fun _ h9 => h9) d_AckBookModel_send_115 (fun r16 h => ?_)
              refine lv_iload hC.1 hC.2.1 d_AckBookModel_send_118 (lv_at hl 0 rfl) ?_
              refine lv_iconst (v := (0 : Int32)) hC.1 hC.2.1 d_AckBookModel_send_120 (by decide) ?_
              refine x_stI hC hZ h d_AckBookModel_send_121 (fun w H locs hZ h => ?_)
              refine x_aload_n hC d_AckBookModel_send_122 rfl (lv_at hl 2 rfl) ?_
              refine x_getR hC hZ zc10 h (by decide) t_827 (fun _ h9 => h9) d_AckBookModel_send_123 (fun r17 h => ?_)
              refine lv_iload hC.1 hC.2.1 d_AckBookModel_send_126 (lv_at hl 0 rfl) ?_
              refine lv_iload_n hC.1 hC.2.1 d_AckBookModel_send_128 rfl (lv_at hl 5 rfl) ?_
              refine x_stZ hC hZ h d_AckBookModel_send_129 (fun w H locs hZ h => ?_)
              refine x_aload_n hC d_AckBookModel_send_130 rfl (lv_at hl 2 rfl) ?_
              refine x_getR hC hZ zc10 h (by decide) t_828 (fun _ h9 => h9) d_AckBookModel_send_131 (fun r18 h => ?_)
              refine lv_iload hC.1 hC.2.1 d_AckBookModel_send_134 (lv_at hl 0 rfl) ?_
              refine lv_iload hC.1 hC.2.1 d_AckBookModel_send_136 (lv_at hl 6 rfl) ?_
              refine x_stZ hC hZ h d_AckBookModel_send_138 (fun w H locs hZ h => ?_)
              refine x_aload_n hC d_AckBookModel_send_139 rfl (lv_at hl 2 rfl) ?_
              refine x_getR hC hZ zc10 h (by decide) t_823 (fun _ h9 => h9) d_AckBookModel_send_140 (fun r19 h => ?_)
              refine lv_iload_n hC.1 hC.2.1 d_AckBookModel_send_143 rfl (lv_at hl 3 rfl) ?_
              refine lv_dup2_11 hC.1 hC.2.1 d_AckBookModel_send_144 rfl (z_rfc _) ?_
              refine x_ldI hC hZ h d_AckBookModel_send_145 (fun v20 h => ?_)
              refine lv_iconst (v := (1 : Int32)) hC.1 hC.2.1 d_AckBookModel_send_146 (by decide) ?_
              refine lv_iadd hC.1 hC.2.1 d_AckBookModel_send_147 ?_
              refine x_stI hC hZ h d_AckBookModel_send_148 (fun w H locs hZ h => ?_)
              refine x_aload_n hC d_AckBookModel_send_149 rfl (lv_at hl 2 rfl) ?_
              refine x_aload_n hC d_AckBookModel_send_150 rfl (lv_at hl 2 rfl) ?_
              refine x_getI hC hZ zc10 h (by decide) t_820 (fun _ h9 => h9) d_AckBookModel_send_151 (fun v21 h => ?_)
              refine x_put hC hZ zc10 h (by decide) t_833 (fun _ h9 => h9) rfl rfl rfl rfl d_AckBookModel_send_154 (fun w H locs hZ h => ?_)
              refine x_aload_n hC d_AckBookModel_send_157 rfl (lv_at hl 2 rfl) ?_
              refine x_getR hC hZ zc10 h (by decide) t_829 (fun _ h9 => h9) d_AckBookModel_send_158 (fun r22 h => ?_)
              refine lv_iload hC.1 hC.2.1 d_AckBookModel_send_161 (lv_at hl 0 rfl) ?_
              refine x_aload_n hC d_AckBookModel_send_163 rfl (lv_at hl 2 rfl) ?_
              obtain ⟨a_, fs_, eo_, h⟩ := z_this_spec h
              obtain ⟨w1_, o1_, hF_, ha_⟩ := z_cI_spec h
              refine x_goes hC hRc hRs hFr ha_ (z_goV (As := []) hC hZ zc10 eo_ (k_AckBookModel_flight hT hfl hE _ _ hF_) t_951 t_953 ts_AckBookModel_flight t_12 t_954 ⟨by decide, by decide, (by decide +kernel : (parseMethodDescriptor y_AckBookModel_flight.desc).map (fun d => d.parameters.length) = some 0)⟩ (by rw [hRt.1]; decide) (by rw [hRt.2]; decide) hl.1 rfl (by first | exact Nat.le_of_ble_eq_true rfl | simp [z_rfc, z_ci, z_cj]) d_AckBookModel_send_164) (fun v_ hv H locs cells slots hZ => ?_)
              obtain ⟨v24, rfl, h⟩ := hv
              generalize w1_ = w at h hZ
              refine x_aload_n hC d_AckBookModel_send_167 rfl (lv_at hl 2 rfl) ?_
              refine x_getI hC hZ zc10 h (by decide) t_843 (fun _ h9 => h9) d_AckBookModel_send_168 (fun v25 h => ?_)
              refine lv_sipush (v := (1200 : Int32)) hC.1 hC.2.1 d_AckBookModel_send_171 (by decide) ?_
              refine lv_isub hC.1 hC.2.1 d_AckBookModel_send_174 ?_
              refine lv_icmp_le (tgt := 182) hC.1 hC.2.1 d_AckBookModel_send_175 (by decide) (fun hc => ?_) (fun hc => ?_)
              · have h := z_ifp hc h
                refine lv_iconst (v := (0 : Int32)) hC.1 hC.2.1 d_AckBookModel_send_182 (by decide) ?_
                refine x_stZ hC hZ h d_AckBookModel_send_183 (fun w H locs hZ h => ?_)
                refine lv_iload hC.1 hC.2.1 d_AckBookModel_send_184 (lv_at hl 1 rfl) ?_
                exact x_iret hC hRc hRs hZ hr rfl h d_AckBookModel_send_186
              · have h := z_ifn hc h
                refine lv_iconst (v := (1 : Int32)) hC.1 hC.2.1 d_AckBookModel_send_178 (by decide) ?_
                refine lv_goto (tgt := 183) hC.1 hC.2.1 d_AckBookModel_send_179 (by decide) ?_
                refine x_stZ hC hZ h d_AckBookModel_send_183 (fun w H locs hZ h => ?_)
                refine lv_iload hC.1 hC.2.1 d_AckBookModel_send_184 (lv_at hl 1 rfl) ?_
                exact x_iret hC hRc hRs hZ hr rfl h d_AckBookModel_send_186
            · have h := z_ifn hc h
              refine lv_iconst (v := (0 : Int32)) hC.1 hC.2.1 d_AckBookModel_send_75 (by decide) ?_
              exact x_iret hC hRc hRs hZ hr rfl h d_AckBookModel_send_76
    · have h := z_ifn hc h
      refine lv_iload_n hC.1 hC.2.1 d_AckBookModel_send_13 rfl (lv_at hl 2 rfl) ?_
      refine lv_sipush (v := (1200 : Int32)) hC.1 hC.2.1 d_AckBookModel_send_14 (by decide) ?_
      refine lv_icmp_gt (tgt := 29) hC.1 hC.2.1 d_AckBookModel_send_17 (by decide) (fun hc => ?_) (fun hc => ?_)
      · have h := z_ifp hc h
        refine lv_iconst (v := (1 : Int32)) hC.1 hC.2.1 d_AckBookModel_send_29 (by decide) ?_
        refine lv_goto (tgt := 34) hC.1 hC.2.1 d_AckBookModel_send_30 (by decide) ?_
        refine lv_iconst (v := (1 : Int32)) hC.1 hC.2.1 d_AckBookModel_send_34 (by decide) ?_
        obtain ⟨a_, fs_, eo_, h⟩ := z_this_spec h
        obtain ⟨w1_, o1_, hF_, ha_⟩ := z_cI_spec h
        refine x_goes hC hRc hRs hFr ha_ (z_goV (As := [.int (1 : Int32), .int (1 : Int32)]) hC hZ zc10 eo_ (k_AckBookModel_fails hT hfl hE _ _ hF_) t_947 t_949 ts_AckBookModel_fails t_12 t_950 ⟨by decide, by decide, (by decide +kernel : (parseMethodDescriptor y_AckBookModel_fails.desc).map (fun d => d.parameters.length) = some 2)⟩ (by rw [hRt.1]; decide) (by rw [hRt.2]; decide) hl.1 rfl (by first | exact Nat.le_of_ble_eq_true rfl | simp [z_rfc, z_ci, z_cj]) d_AckBookModel_send_35) (fun v_ hv H locs cells slots hZ => ?_)
        obtain ⟨v61, rfl, h⟩ := hv
        generalize w1_ = w at h hZ
        refine lv_if_ne (tgt := 75) hC.1 hC.2.1 d_AckBookModel_send_38 (by decide) (fun hc => ?_) (fun hc => ?_)
        · have h := z_ifn hc h
          refine lv_iconst (v := (0 : Int32)) hC.1 hC.2.1 d_AckBookModel_send_75 (by decide) ?_
          exact x_iret hC hRc hRs hZ hr rfl h d_AckBookModel_send_76
        · have h := z_ifp hc h
          refine x_aload_n hC d_AckBookModel_send_41 rfl (lv_at hl 0 rfl) ?_
          refine x_aload_n hC d_AckBookModel_send_42 rfl (lv_at hl 0 rfl) ?_
          refine x_getR hC hZ zc10 h (by decide) t_830 (fun _ h9 => h9) d_AckBookModel_send_43 (fun r62 h => ?_)
          refine lv_iload_n hC.1 hC.2.1 d_AckBookModel_send_46 rfl (lv_at hl 1 rfl) ?_
          refine x_ldZ hC hZ h d_AckBookModel_send_47 (fun v63 h => ?_)
          refine lv_if_ne (tgt := 63) hC.1 hC.2.1 d_AckBookModel_send_48 (by decide) (fun hc => ?_) (fun hc => ?_)
          · have h := z_ifn hc h
            refine lv_iconst (v := (1 : Int32)) hC.1 hC.2.1 d_AckBookModel_send_63 (by decide) ?_
            refine lv_goto (tgt := 68) hC.1 hC.2.1 d_AckBookModel_send_64 (by decide) ?_
            refine lv_iconst (v := (2 : Int32)) hC.1 hC.2.1 d_AckBookModel_send_68 (by decide) ?_
            obtain ⟨a_, fs_, eo_, h⟩ := z_this_spec h
            obtain ⟨w1_, o1_, hF_, ha_⟩ := z_cI_spec h
            refine x_goes hC hRc hRs hFr ha_ (z_goV (As := [.int (1 : Int32), .int (2 : Int32)]) hC hZ zc10 eo_ (k_AckBookModel_fails hT hfl hE _ _ hF_) t_947 t_949 ts_AckBookModel_fails t_12 t_950 ⟨by decide, by decide, (by decide +kernel : (parseMethodDescriptor y_AckBookModel_fails.desc).map (fun d => d.parameters.length) = some 2)⟩ (by rw [hRt.1]; decide) (by rw [hRt.2]; decide) hl.1 rfl (by first | exact Nat.le_of_ble_eq_true rfl | simp [z_rfc, z_ci, z_cj]) d_AckBookModel_send_69) (fun v_ hv H locs cells slots hZ => ?_)
            obtain ⟨v101, rfl, h⟩ := hv
            generalize w1_ = w at h hZ
            refine lv_if_eq (tgt := 77) hC.1 hC.2.1 d_AckBookModel_send_72 (by decide) (fun hc => ?_) (fun hc => ?_)
            · have h := z_ifp hc h
              refine x_aload_n hC d_AckBookModel_send_77 rfl (lv_at hl 0 rfl) ?_
              refine x_getR hC hZ zc10 h (by decide) t_823 (fun _ h9 => h9) d_AckBookModel_send_78 (fun r102 h => ?_)
              refine lv_iload_n hC.1 hC.2.1 d_AckBookModel_send_81 rfl (lv_at hl 1 rfl) ?_
              refine x_ldI hC hZ h d_AckBookModel_send_82 (fun v103 h => ?_)
              refine lv_istore (i := 5) (lv' := [(5, .int v103), (0, va_rf a0), (1, .int pI1), (2, .int pI2), (3, .int pI3), (4, .int pI4)]) hC.1 hC.2.1 d_AckBookModel_send_83 hl (by decide) (by first | rfl | simp [z_rfc, z_ci, z_cj]) (fun ls hl => ?_)
              refine lv_sipush (v := (4096 : Int32)) hC.1 hC.2.1 d_AckBookModel_send_85 (by decide) ?_
              refine lv_iload_n hC.1 hC.2.1 d_AckBookModel_send_88 rfl (lv_at hl 2 rfl) ?_
              refine lv_imul hC.1 hC.2.1 d_AckBookModel_send_89 ?_
              refine lv_iload hC.1 hC.2.1 d_AckBookModel_send_90 (lv_at hl 0 rfl) ?_
              refine lv_iadd hC.1 hC.2.1 d_AckBookModel_send_92 ?_
              refine lv_istore (i := 6) (lv' := [(6, .int (((4096 : Int32) * pI1) + v103)), (5, .int v103), (0, va_rf a0), (1, .int pI1), (2, .int pI2), (3, .int pI3), (4, .int pI4)]) hC.1 hC.2.1 d_AckBookModel_send_93 hl (by decide) (by first | rfl | simp [z_rfc, z_ci, z_cj]) (fun ls hl => ?_)
              refine x_aload_n hC d_AckBookModel_send_95 rfl (lv_at hl 2 rfl) ?_
              refine x_getR hC hZ zc10 h (by decide) t_824 (fun _ h9 => h9) d_AckBookModel_send_96 (fun r104 h => ?_)
              refine lv_iload hC.1 hC.2.1 d_AckBookModel_send_99 (lv_at hl 0 rfl) ?_
              refine lv_iload_n hC.1 hC.2.1 d_AckBookModel_send_101 rfl (lv_at hl 4 rfl) ?_
              refine x_stI hC hZ h d_AckBookModel_send_102 (fun w H locs hZ h => ?_)
              refine x_aload_n hC d_AckBookModel_send_103 rfl (lv_at hl 2 rfl) ?_
              refine x_getR hC hZ zc10 h (by decide) t_825 (fun _ h9 => h9) d_AckBookModel_send_104 (fun r105 h => ?_)
              refine lv_iload hC.1 hC.2.1 d_AckBookModel_send_107 (lv_at hl 0 rfl) ?_
              refine x_aload_n hC d_AckBookModel_send_109 rfl (lv_at hl 2 rfl) ?_
              refine x_getI hC hZ zc10 h (by decide) t_820 (fun _ h9 => h9) d_AckBookModel_send_110 (fun v106 h => ?_)
              refine x_stI hC hZ h d_AckBookModel_send_113 (fun w H locs hZ h => ?_)
              refine x_aload_n hC d_AckBookModel_send_114 rfl (lv_at hl 2 rfl) ?_
              refine x_getR hC hZ zc10 h (by decide) t_826 (fun _ h9 => h9) d_AckBookModel_send_115 (fun r107 h => ?_)
              refine lv_iload hC.1 hC.2.1 d_AckBookModel_send_118 (lv_at hl 0 rfl) ?_
              refine lv_iconst (v := (0 : Int32)) hC.1 hC.2.1 d_AckBookModel_send_120 (by decide) ?_
              refine x_stI hC hZ h d_AckBookModel_send_121 (fun w H locs hZ h => ?_)
              refine x_aload_n hC d_AckBookModel_send_122 rfl (lv_at hl 2 rfl) ?_
              refine x_getR hC hZ zc10 h (by decide) t_827 (fun _ h9 => h9) d_AckBookModel_send_123 (fun r108 h => ?_)
              refine lv_iload hC.1 hC.2.1 d_AckBookModel_send_126 (lv_at hl 0 rfl) ?_
              refine lv_iload_n hC.1 hC.2.1 d_AckBookModel_send_128 rfl (lv_at hl 5 rfl) ?_
              refine x_stZ hC hZ h d_AckBookModel_send_129 (fun w H locs hZ h => ?_)
              refine x_aload_n hC d_AckBookModel_send_130 rfl (lv_at hl 2 rfl) ?_
              refine x_getR hC hZ zc10 h (by decide) t_828 (fun _ h9 => h9) d_AckBookModel_send_131 (fun r109 h => ?_)
              refine lv_iload hC.1 hC.2.1 d_AckBookModel_send_134 (lv_at hl 0 rfl) ?_
              refine lv_iload hC.1 hC.2.1 d_AckBookModel_send_136 (lv_at hl 6 rfl) ?_
              refine x_stZ hC hZ h d_AckBookModel_send_138 (fun w H locs hZ h => ?_)
              refine x_aload_n hC d_AckBookModel_send_139 rfl (lv_at hl 2 rfl) ?_
              refine x_getR hC hZ zc10 h (by decide) t_823 (fun _ h9 => h9) d_AckBookModel_send_140 (fun r110 h => ?_)
              refine lv_iload_n hC.1 hC.2.1 d_AckBookModel_send_143 rfl (lv_at hl 3 rfl) ?_
              refine lv_dup2_11 hC.1 hC.2.1 d_AckBookModel_send_144 rfl (z_rfc _) ?_
              refine x_ldI hC hZ h d_AckBookModel_send_145 (fun v111 h => ?_)
              refine lv_iconst (v := (1 : Int32)) hC.1 hC.2.1 d_AckBookModel_send_146 (by decide) ?_
              refine lv_iadd hC.1 hC.2.1 d_AckBookModel_send_147 ?_
              refine x_stI hC hZ h d_AckBookModel_send_148 (fun w H locs hZ h => ?_)
              refine x_aload_n hC d_AckBookModel_send_149 rfl (lv_at hl 2 rfl) ?_
              refine x_aload_n hC d_AckBookModel_send_150 rfl (lv_at hl 2 rfl) ?_
              refine x_getI hC hZ zc10 h (by decide) t_820 (fun _ h9 => h9) d_AckBookModel_send_151 (fun v112 h => ?_)
              refine x_put hC hZ zc10 h (by decide) t_833 (fun _ h9 => h9) rfl rfl rfl rfl d_AckBookModel_send_154 (fun w H locs hZ h => ?_)
              refine x_aload_n hC d_AckBookModel_send_157 rfl (lv_at hl 2 rfl) ?_
              refine x_getR hC hZ zc10 h (by decide) t_829 (fun _ h9 => h9) d_AckBookModel_send_158 (fun r113 h => ?_)
              refine lv_iload hC.1 hC.2.1 d_AckBookModel_send_161 (lv_at hl 0 rfl) ?_
              refine x_aload_n hC d_AckBookModel_send_163 rfl (lv_at hl 2 rfl) ?_
              obtain ⟨a_, fs_, eo_, h⟩ := z_this_spec h
              obtain ⟨w1_, o1_, hF_, ha_⟩ := z_cI_spec h
              refine x_goes hC hRc hRs hFr ha_ (z_goV (As := []) hC hZ zc10 eo_ (k_AckBookModel_flight hT hfl hE _ _ hF_) t_951 t_953 ts_AckBookModel_flight t_12 t_954 ⟨by decide, by decide, (by decide +kernel : (parseMethodDescriptor y_AckBookModel_flight.desc).map (fun d => d.parameters.length) = some 0)⟩ (by rw [hRt.1]; decide) (by rw [hRt.2]; decide) hl.1 rfl (by first | exact Nat.le_of_ble_eq_true rfl | simp [z_rfc, z_ci, z_cj]) d_AckBookModel_send_164) (fun v_ hv H locs cells slots hZ => ?_)
              obtain ⟨v115, rfl, h⟩ := hv
              generalize w1_ = w at h hZ
              refine x_aload_n hC d_AckBookModel_send_167 rfl (lv_at hl 2 rfl) ?_
              refine x_getI hC hZ zc10 h (by decide) t_843 (fun _ h9 => h9) d_AckBookModel_send_168 (fun v116 h => ?_)
              refine lv_sipush (v := (1200 : Int32)) hC.1 hC.2.1 d_AckBookModel_send_171 (by decide) ?_
              refine lv_isub hC.1 hC.2.1 d_AckBookModel_send_174 ?_
              refine lv_icmp_le (tgt := 182) hC.1 hC.2.1 d_AckBookModel_send_175 (by decide) (fun hc => ?_) (fun hc => ?_)
              · have h := z_ifp hc h
                refine lv_iconst (v := (0 : Int32)) hC.1 hC.2.1 d_AckBookModel_send_182 (by decide) ?_
                refine x_stZ hC hZ h d_AckBookModel_send_183 (fun w H locs hZ h => ?_)
                refine lv_iload hC.1 hC.2.1 d_AckBookModel_send_184 (lv_at hl 1 rfl) ?_
                exact x_iret hC hRc hRs hZ hr rfl h d_AckBookModel_send_186
              · have h := z_ifn hc h
                refine lv_iconst (v := (1 : Int32)) hC.1 hC.2.1 d_AckBookModel_send_178 (by decide) ?_
                refine lv_goto (tgt := 183) hC.1 hC.2.1 d_AckBookModel_send_179 (by decide) ?_
                refine x_stZ hC hZ h d_AckBookModel_send_183 (fun w H locs hZ h => ?_)
                refine lv_iload hC.1 hC.2.1 d_AckBookModel_send_184 (lv_at hl 1 rfl) ?_
                exact x_iret hC hRc hRs hZ hr rfl h d_AckBookModel_send_186
            · have h := z_ifn hc h
              refine lv_iconst (v := (0 : Int32)) hC.1 hC.2.1 d_AckBookModel_send_75 (by decide) ?_
              exact x_iret hC hRc hRs hZ hr rfl h d_AckBookModel_send_76
          · have h := z_ifp hc h
            refine x_aload_n hC d_AckBookModel_send_51 rfl (lv_at hl 0 rfl) ?_
            refine x_getR hC hZ zc10 h (by decide) t_823 (fun _ h9 => h9) d_AckBookModel_send_52 (fun r64 h => ?_)
            refine lv_iload_n hC.1 hC.2.1 d_AckBookModel_send_55 rfl (lv_at hl 1 rfl) ?_
            refine x_ldI hC hZ h d_AckBookModel_send_56 (fun v65 h => ?_)
            refine lv_sipush (v := (4096 : Int32)) hC.1 hC.2.1 d_AckBookModel_send_57 (by decide) ?_
            refine lv_icmp_ne (tgt := 67) hC.1 hC.2.1 d_AckBookModel_send_60 (by decide) (fun hc => ?_) (fun hc => ?_)
            · have h := z_ifn hc h
              refine lv_iconst (v := (0 : Int32)) hC.1 hC.2.1 d_AckBookModel_send_67 (by decide) ?_
              refine lv_iconst (v := (2 : Int32)) hC.1 hC.2.1 d_AckBookModel_send_68 (by decide) ?_
              obtain ⟨a_, fs_, eo_, h⟩ := z_this_spec h
              obtain ⟨w1_, o1_, hF_, ha_⟩ := z_cI_spec h
              refine x_goes hC hRc hRs hFr ha_ (z_goV (As := [.int (0 : Int32), .int (2 : Int32)]) hC hZ zc10 eo_ (k_AckBookModel_fails hT hfl hE _ _ hF_) t_947 t_949 ts_AckBookModel_fails t_12 t_950 ⟨by decide, by decide, (by decide +kernel : (parseMethodDescriptor y_AckBookModel_fails.desc).map (fun d => d.parameters.length) = some 2)⟩ (by rw [hRt.1]; decide) (by rw [hRt.2]; decide) hl.1 rfl (by first | exact Nat.le_of_ble_eq_true rfl | simp [z_rfc, z_ci, z_cj]) d_AckBookModel_send_69) (fun v_ hv H locs cells slots hZ => ?_)
              obtain ⟨v84, rfl, h⟩ := hv
              generalize w1_ = w at h hZ
              refine lv_if_eq (tgt := 77) hC.1 hC.2.1 d_AckBookModel_send_72 (by decide) (fun hc => ?_) (fun hc => ?_)
              · have h := z_ifp hc h
                refine x_aload_n hC d_AckBookModel_send_77 rfl (lv_at hl 0 rfl) ?_
                refine x_getR hC hZ zc10 h (by decide) t_823 (fun _ h9 => h9) d_AckBookModel_send_78 (fun r85 h => ?_)
                refine lv_iload_n hC.1 hC.2.1 d_AckBookModel_send_81 rfl (lv_at hl 1 rfl) ?_
                refine x_ldI hC hZ h d_AckBookModel_send_82 (fun v86 h => ?_)
                refine lv_istore (i := 5) (lv' := [(5, .int v86), (0, va_rf a0), (1, .int pI1), (2, .int pI2), (3, .int pI3), (4, .int pI4)]) hC.1 hC.2.1 d_AckBookModel_send_83 hl (by decide) (by first | rfl | simp [z_rfc, z_ci, z_cj]) (fun ls hl => ?_)
                refine lv_sipush (v := (4096 : Int32)) hC.1 hC.2.1 d_AckBookModel_send_85 (by decide) ?_
                refine lv_iload_n hC.1 hC.2.1 d_AckBookModel_send_88 rfl (lv_at hl 2 rfl) ?_
                refine lv_imul hC.1 hC.2.1 d_AckBookModel_send_89 ?_
                refine lv_iload hC.1 hC.2.1 d_AckBookModel_send_90 (lv_at hl 0 rfl) ?_
                refine lv_iadd hC.1 hC.2.1 d_AckBookModel_send_92 ?_
                refine lv_istore (i := 6) (lv' := [(6, .int (((4096 : Int32) * pI1) + v86)), (5, .int v86), (0, va_rf a0), (1, .int pI1), (2, .int pI2), (3, .int pI3), (4, .int pI4)]) hC.1 hC.2.1 d_AckBookModel_send_93 hl (by decide) (by first | rfl | simp [z_rfc, z_ci, z_cj]) (fun ls hl => ?_)
                refine x_aload_n hC d_AckBookModel_send_95 rfl (lv_at hl 2 rfl) ?_
                refine x_getR hC hZ zc10 h (by decide) t_824 (fun _ h9 => h9) d_AckBookModel_send_96 (fun r87 h => ?_)
                refine lv_iload hC.1 hC.2.1 d_AckBookModel_send_99 (lv_at hl 0 rfl) ?_
                refine lv_iload_n hC.1 hC.2.1 d_AckBookModel_send_101 rfl (lv_at hl 4 rfl) ?_
                refine x_stI hC hZ h d_AckBookModel_send_102 (fun w H locs hZ h => ?_)
                refine x_aload_n hC d_AckBookModel_send_103 rfl (lv_at hl 2 rfl) ?_
                refine x_getR hC hZ zc10 h (by decide) t_825 (fun _ h9 => h9) d_AckBookModel_send_104 (fun r88 h => ?_)
                refine lv_iload hC.1 hC.2.1 d_AckBookModel_send_107 (lv_at hl 0 rfl) ?_
                refine x_aload_n hC d_AckBookModel_send_109 rfl (lv_at hl 2 rfl) ?_
                refine x_getI hC hZ zc10 h (by decide) t_820 (fun _ h9 => h9) d_AckBookModel_send_110 (fun v89 h => ?_)
                refine x_stI hC hZ h d_AckBookModel_send_113 (fun w H locs hZ h => ?_)
                refine x_aload_n hC d_AckBookModel_send_114 rfl (lv_at hl 2 rfl) ?_
                refine x_getR hC hZ zc10 h (by decide) t_826 (fun _ h9 => h9) d_AckBookModel_send_115 (fun r90 h => ?_)
                refine lv_iload hC.1 hC.2.1 d_AckBookModel_send_118 (lv_at hl 0 rfl) ?_
                refine lv_iconst (v := (0 : Int32)) hC.1 hC.2.1 d_AckBookModel_send_120 (by decide) ?_
                refine x_stI hC hZ h d_AckBookModel_send_121 (fun w H locs hZ h => ?_)
                refine x_aload_n hC d_AckBookModel_send_122 rfl (lv_at hl 2 rfl) ?_
                refine x_getR hC hZ zc10 h (by decide) t_827 (fun _ h9 => h9) d_AckBookModel_send_123 (fun r91 h => ?_)
                refine lv_iload hC.1 hC.2.1 d_AckBookModel_send_126 (lv_at hl 0 rfl) ?_
                refine lv_iload_n hC.1 hC.2.1 d_AckBookModel_send_128 rfl (lv_at hl 5 rfl) ?_
                refine x_stZ hC hZ h d_AckBookModel_send_129 (fun w H locs hZ h => ?_)
                refine x_aload_n hC d_AckBookModel_send_130 rfl (lv_at hl 2 rfl) ?_
                refine x_getR hC hZ zc10 h (by decide) t_828 (fun _ h9 => h9) d_AckBookModel_send_131 (fun r92 h => ?_)
                refine lv_iload hC.1 hC.2.1 d_AckBookModel_send_134 (lv_at hl 0 rfl) ?_
                refine lv_iload hC.1 hC.2.1 d_AckBookModel_send_136 (lv_at hl 6 rfl) ?_
                refine x_stZ hC hZ h d_AckBookModel_send_138 (fun w H locs hZ h => ?_)
                refine x_aload_n hC d_AckBookModel_send_139 rfl (lv_at hl 2 rfl) ?_
                refine x_getR hC hZ zc10 h (by decide) t_823 (fun _ h9 => h9) d_AckBookModel_send_140 (fun r93 h => ?_)
                refine lv_iload_n hC.1 hC.2.1 d_AckBookModel_send_143 rfl (lv_at hl 3 rfl) ?_
                refine lv_dup2_11 hC.1 hC.2.1 d_AckBookModel_send_144 rfl (z_rfc _) ?_
                refine x_ldI hC hZ h d_AckBookModel_send_145 (fun v94 h => ?_)
                refine lv_iconst (v := (1 : Int32)) hC.1 hC.2.1 d_AckBookModel_send_146 (by decide) ?_
                refine lv_iadd hC.1 hC.2.1 d_AckBookModel_send_147 ?_
                refine x_stI hC hZ h d_AckBookModel_send_148 (fun w H locs hZ h => ?_)
                refine x_aload_n hC d_AckBookModel_send_149 rfl (lv_at hl 2 rfl) ?_
                refine x_aload_n hC d_AckBookModel_send_150 rfl (lv_at hl 2 rfl) ?_
                refine x_getI hC hZ zc10 h (by decide) t_820 (fun _ h9 => h9) d_AckBookModel_send_151 (fun v95 h => ?_)
                refine x_put hC hZ zc10 h (by decide) t_833 (fun _ h9 => h9) rfl rfl rfl rfl d_AckBookModel_send_154 (fun w H locs hZ h => ?_)
                refine x_aload_n hC d_AckBookModel_send_157 rfl (lv_at hl 2 rfl) ?_
                refine x_getR hC hZ zc10 h (by decide) t_829 (fun _ h9 => h9) d_AckBookModel_send_158 (fun r96 h => ?_)
                refine lv_iload hC.1 hC.2.1 d_AckBookModel_send_161 (lv_at hl 0 rfl) ?_
                refine x_aload_n hC d_AckBookModel_send_163 rfl (lv_at hl 2 rfl) ?_
                obtain ⟨a_, fs_, eo_, h⟩ := z_this_spec h
                obtain ⟨w1_, o1_, hF_, ha_⟩ := z_cI_spec h
                refine x_goes hC hRc hRs hFr ha_ (z_goV (As := []) hC hZ zc10 eo_ (k_AckBookModel_flight hT hfl hE _ _ hF_) t_951 t_953 ts_AckBookModel_flight t_12 t_954 ⟨by decide, by decide, (by decide +kernel : (parseMethodDescriptor y_AckBookModel_flight.desc).map (fun d => d.parameters.length) = some 0)⟩ (by rw [hRt.1]; decide) (by rw [hRt.2]; decide) hl.1 rfl (by first | exact Nat.le_of_ble_eq_true rfl | simp [z_rfc, z_ci, z_cj]) d_AckBookModel_send_164) (fun v_ hv H locs cells slots hZ => ?_)
                obtain ⟨v98, rfl, h⟩ := hv
                generalize w1_ = w at h hZ
                refine x_aload_n hC d_AckBookModel_send_167 rfl (lv_at hl 2 rfl) ?_
                refine x_getI hC hZ zc10 h (by decide) t_843 (fun _ h9 => h9) d_AckBookModel_send_168 (fun v99 h => ?_)
                refine lv_sipush (v := (1200 : Int32)) hC.1 hC.2.1 d_AckBookModel_send_171 (by decide) ?_
                refine lv_isub hC.1 hC.2.1 d_AckBookModel_send_174 ?_
                refine lv_icmp_le (tgt := 182) hC.1 hC.2.1 d_AckBookModel_send_175 (by decide) (fun hc => ?_) (fun hc => ?_)
                · have h := z_ifp hc h
                  refine lv_iconst (v := (0 : Int32)) hC.1 hC.2.1 d_AckBookModel_send_182 (by decide) ?_
                  refine x_stZ hC hZ h d_AckBookModel_send_183 (fun w H locs hZ h => ?_)
                  refine lv_iload hC.1 hC.2.1 d_AckBookModel_send_184 (lv_at hl 1 rfl) ?_
                  exact x_iret hC hRc hRs hZ hr rfl h d_AckBookModel_send_186
                · have h := z_ifn hc h
                  refine lv_iconst (v := (1 : Int32)) hC.1 hC.2.1 d_AckBookModel_send_178 (by decide) ?_
                  refine lv_goto (tgt := 183) hC.1 hC.2.1 d_AckBookModel_send_179 (by decide) ?_
                  refine x_stZ hC hZ h d_AckBookModel_send_183 (fun w H locs hZ h => ?_)
                  refine lv_iload hC.1 hC.2.1 d_AckBookModel_send_184 (lv_at hl 1 rfl) ?_
                  exact x_iret hC hRc hRs hZ hr rfl h d_AckBookModel_send_186
              · have h := z_ifn hc h
                refine lv_iconst (v := (0 : Int32)) hC.1 hC.2.1 d_AckBookModel_send_75 (by decide) ?_
                exact x_iret hC hRc hRs hZ hr rfl h d_AckBookModel_send_76
            · have h := z_ifp hc h
              refine lv_iconst (v := (1 : Int32)) hC.1 hC.2.1 d_AckBookModel_send_63 (by decide) ?_
              refine lv_goto (tgt := 68) hC.1 hC.2.1 d_AckBookModel_send_64 (by decide) ?_
              refine lv_iconst (v := (2 : Int32)) hC.1 hC.2.1 d_AckBookModel_send_68 (by decide) ?_
              obtain ⟨a_, fs_, eo_, h⟩ := z_this_spec h
              obtain ⟨w1_, o1_, hF_, ha_⟩ := z_cI_spec h
              refine x_goes hC hRc hRs hFr ha_ (z_goV (As := [.int (1 : Int32), .int (2 : Int32)]) hC hZ zc10 eo_ (k_AckBookModel_fails hT hfl hE _ _ hF_) t_947 t_949 ts_AckBookModel_fails t_12 t_950 ⟨by decide, by decide, (by decide +kernel : (parseMethodDescriptor y_AckBookModel_fails.desc).map (fun d => d.parameters.length) = some 2)⟩ (by rw [hRt.1]; decide) (by rw [hRt.2]; decide) hl.1 rfl (by first | exact Nat.le_of_ble_eq_true rfl | simp [z_rfc, z_ci, z_cj]) d_AckBookModel_send_69) (fun v_ hv H locs cells slots hZ => ?_)
              obtain ⟨v67, rfl, h⟩ := hv
              generalize w1_ = w at h hZ
              refine lv_if_eq (tgt := 77) hC.1 hC.2.1 d_AckBookModel_send_72 (by decide) (fun hc => ?_) (fun hc => ?_)
              · have h := z_ifp hc h
                refine x_aload_n hC d_AckBookModel_send_77 rfl (lv_at hl 0 rfl) ?_
                refine x_getR hC hZ zc10 h (by decide) t_823 (fun _ h9 => h9) d_AckBookModel_send_78 (fun r68 h => ?_)
                refine lv_iload_n hC.1 hC.2.1 d_AckBookModel_send_81 rfl (lv_at hl 1 rfl) ?_
                refine x_ldI hC hZ h d_AckBookModel_send_82 (fun v69 h => ?_)
                refine lv_istore (i := 5) (lv' := [(5, .int v69), (0, va_rf a0), (1, .int pI1), (2, .int pI2), (3, .int pI3), (4, .int pI4)]) hC.1 hC.2.1 d_AckBookModel_send_83 hl (by decide) (by first | rfl | simp [z_rfc, z_ci, z_cj]) (fun ls hl => ?_)
                refine lv_sipush (v := (4096 : Int32)) hC.1 hC.2.1 d_AckBookModel_send_85 (by decide) ?_
                refine lv_iload_n hC.1 hC.2.1 d_AckBookModel_send_88 rfl (lv_at hl 2 rfl) ?_
                refine lv_imul hC.1 hC.2.1 d_AckBookModel_send_89 ?_
                refine lv_iload hC.1 hC.2.1 d_AckBookModel_send_90 (lv_at hl 0 rfl) ?_
                refine lv_iadd hC.1 hC.2.1 d_AckBookModel_send_92 ?_
                refine lv_istore (i := 6) (lv' := [(6, .int (((4096 : Int32) * pI1) + v69)), (5, .int v69), (0, va_rf a0), (1, .int pI1), (2, .int pI2), (3, .int pI3), (4, .int pI4)]) hC.1 hC.2.1 d_AckBookModel_send_93 hl (by decide) (by first | rfl | simp [z_rfc, z_ci, z_cj]) (fun ls hl => ?_)
                refine x_aload_n hC d_AckBookModel_send_95 rfl (lv_at hl 2 rfl) ?_
                refine x_getR hC hZ zc10 h (by decide) t_824 (fun _ h9 => h9) d_AckBookModel_send_96 (fun r70 h => ?_)
                refine lv_iload hC.1 hC.2.1 d_AckBookModel_send_99 (lv_at hl 0 rfl) ?_
                refine lv_iload_n hC.1 hC.2.1 d_AckBookModel_send_101 rfl (lv_at hl 4 rfl) ?_
                refine x_stI hC hZ h d_AckBookModel_send_102 (fun w H locs hZ h => ?_)
                refine x_aload_n hC d_AckBookModel_send_103 rfl (lv_at hl 2 rfl) ?_
                refine x_getR hC hZ zc10 h (by decide) t_825 (fun _ h9 => h9) d_AckBookModel_send_104 (fun r71 h => ?_)
                refine lv_iload hC.1 hC.2.1 d_AckBookModel_send_107 (lv_at hl 0 rfl) ?_
                refine x_aload_n hC d_AckBookModel_send_109 rfl (lv_at hl 2 rfl) ?_
                refine x_getI hC hZ zc10 h (by decide) t_820 (fun _ h9 => h9) d_AckBookModel_send_110 (fun v72 h => ?_)
                refine x_stI hC hZ h d_AckBookModel_send_113 (fun w H locs hZ h => ?_)
                refine x_aload_n hC d_AckBookModel_send_114 rfl (lv_at hl 2 rfl) ?_
                refine x_getR hC hZ zc10 h (by decide) t_826 (fun _ h9 => h9) d_AckBookModel_send_115 (fun r73 h => ?_)
                refine lv_iload hC.1 hC.2.1 d_AckBookModel_send_118 (lv_at hl 0 rfl) ?_
                refine lv_iconst (v := (0 : Int32)) hC.1 hC.2.1 d_AckBookModel_send_120 (by decide) ?_
                refine x_stI hC hZ h d_AckBookModel_send_121 (fun w H locs hZ h => ?_)
                refine x_aload_n hC d_AckBookModel_send_122 rfl (lv_at hl 2 rfl) ?_
                refine x_getR hC hZ zc10 h (by decide) t_827 (fun _ h9 => h9) d_AckBookModel_send_123 (fun r74 h => ?_)
                refine lv_iload hC.1 hC.2.1 d_AckBookModel_send_126 (lv_at hl 0 rfl) ?_
                refine lv_iload_n hC.1 hC.2.1 d_AckBookModel_send_128 rfl (lv_at hl 5 rfl) ?_
                refine x_stZ hC hZ h d_AckBookModel_send_129 (fun w H locs hZ h => ?_)
                refine x_aload_n hC d_AckBookModel_send_130 rfl (lv_at hl 2 rfl) ?_
                refine x_getR hC hZ zc10 h (by decide) t_828 (fun _ h9 => h9) d_AckBookModel_send_131 (fun r75 h => ?_)
                refine lv_iload hC.1 hC.2.1 d_AckBookModel_send_134 (lv_at hl 0 rfl) ?_
                refine lv_iload hC.1 hC.2.1 d_AckBookModel_send_136 (lv_at hl 6 rfl) ?_
                refine x_stZ hC hZ h d_AckBookModel_send_138 (fun w H locs hZ h => ?_)
                refine x_aload_n hC d_AckBookModel_send_139 rfl (lv_at hl 2 rfl) ?_
                refine x_getR hC hZ zc10 h (by decide) t_823 (fun _ h9 => h9) d_AckBookModel_send_140 (fun r76 h => ?_)
                refine lv_iload_n hC.1 hC.2.1 d_AckBookModel_send_143 rfl (lv_at hl 3 rfl) ?_
                refine lv_dup2_11 hC.1 hC.2.1 d_AckBookModel_send_144 rfl (z_rfc _) ?_
                refine x_ldI hC hZ h d_AckBookModel_send_145 (fun v77 h => ?_)
                refine lv_iconst (v := (1 : Int32)) hC.1 hC.2.1 d_AckBookModel_send_146 (by decide) ?_
                refine lv_iadd hC.1 hC.2.1 d_AckBookModel_send_147 ?_
                refine x_stI hC hZ h d_AckBookModel_send_148 (fun w H locs hZ h => ?_)
                refine x_aload_n hC d_AckBookModel_send_149 rfl (lv_at hl 2 rfl) ?_
                refine x_aload_n hC d_AckBookModel_send_150 rfl (lv_at hl 2 rfl) ?_
                refine x_getI hC hZ zc10 h (by decide) t_820 (fun _ h9 => h9) d_AckBookModel_send_151 (fun v78 h => ?_)
                refine x_put hC hZ zc10 h (by decide) t_833 (fun _ h9 => h9) rfl rfl rfl rfl d_AckBookModel_send_154 (fun w H locs hZ h => ?_)
                refine x_aload_n hC d_AckBookModel_send_157 rfl (lv_at hl 2 rfl) ?_
                refine x_getR hC hZ zc10 h (by decide) t_829 (fun _ h9 => h9) d_AckBookModel_send_158 (fun r79 h => ?_)
                refine lv_iload hC.1 hC.2.1 d_AckBookModel_send_161 (lv_at hl 0 rfl) ?_
                refine x_aload_n hC d_AckBookModel_send_163 rfl (lv_at hl 2 rfl) ?_
                obtain ⟨a_, fs_, eo_, h⟩ := z_this_spec h
                obtain ⟨w1_, o1_, hF_, ha_⟩ := z_cI_spec h
                refine x_goes hC hRc hRs hFr ha_ (z_goV (As := []) hC hZ zc10 eo_ (k_AckBookModel_flight hT hfl hE _ _ hF_) t_951 t_953 ts_AckBookModel_flight t_12 t_954 ⟨by decide, by decide, (by decide +kernel : (parseMethodDescriptor y_AckBookModel_flight.desc).map (fun d => d.parameters.length) = some 0)⟩ (by rw [hRt.1]; decide) (by rw [hRt.2]; decide) hl.1 rfl (by first | exact Nat.le_of_ble_eq_true rfl | simp [z_rfc, z_ci, z_cj]) d_AckBookModel_send_164) (fun v_ hv H locs cells slots hZ => ?_)
                obtain ⟨v81, rfl, h⟩ := hv
                generalize w1_ = w at h hZ
                refine x_aload_n hC d_AckBookModel_send_167 rfl (lv_at hl 2 rfl) ?_
                refine x_getI hC hZ zc10 h (by decide) t_843 (fun _ h9 => h9) d_AckBookModel_send_168 (fun v82 h => ?_)
                refine lv_sipush (v := (1200 : Int32)) hC.1 hC.2.1 d_AckBookModel_send_171 (by decide) ?_
                refine lv_isub hC.1 hC.2.1 d_AckBookModel_send_174 ?_
                refine lv_icmp_le (tgt := 182) hC.1 hC.2.1 d_AckBookModel_send_175 (by decide) (fun hc => ?_) (fun hc => ?_)
                · have h := z_ifp hc h
                  refine lv_iconst (v := (0 : Int32)) hC.1 hC.2.1 d_AckBookModel_send_182 (by decide) ?_
                  refine x_stZ hC hZ h d_AckBookModel_send_183 (fun w H locs hZ h => ?_)
                  refine lv_iload hC.1 hC.2.1 d_AckBookModel_send_184 (lv_at hl 1 rfl) ?_
                  exact x_iret hC hRc hRs hZ hr rfl h d_AckBookModel_send_186
                · have h := z_ifn hc h
                  refine lv_iconst (v := (1 : Int32)) hC.1 hC.2.1 d_AckBookModel_send_178 (by decide) ?_
                  refine lv_goto (tgt := 183) hC.1 hC.2.1 d_AckBookModel_send_179 (by decide) ?_
                  refine x_stZ hC hZ h d_AckBookModel_send_183 (fun w H locs hZ h => ?_)
                  refine lv_iload hC.1 hC.2.1 d_AckBookModel_send_184 (lv_at hl 1 rfl) ?_
                  exact x_iret hC hRc hRs hZ hr rfl h d_AckBookModel_send_186
              · have h := z_ifn hc h
                refine lv_iconst (v := (0 : Int32)) hC.1 hC.2.1 d_AckBookModel_send_75 (by decide) ?_
                exact x_iret hC hRc hRs hZ hr rfl h d_AckBookModel_send_76
      · have h := z_ifn hc h
        refine lv_iload_n hC.1 hC.2.1 d_AckBookModel_send_20 rfl (lv_at hl 3 rfl) ?_
        refine lv_if_eq (tgt := 33) hC.1 hC.2.1 d_AckBookModel_send_21 (by decide) (fun hc => ?_) (fun hc => ?_)
        · have h := z_ifp hc h
          refine lv_iconst (v := (0 : Int32)) hC.1 hC.2.1 d_AckBookModel_send_33 (by decide) ?_
          refine lv_iconst (v := (1 : Int32)) hC.1 hC.2.1 d_AckBookModel_send_34 (by decide) ?_
          obtain ⟨a_, fs_, eo_, h⟩ := z_this_spec h
          obtain ⟨w1_, o1_, hF_, ha_⟩ := z_cI_spec h
          refine x_goes hC hRc hRs hFr ha_ (z_goV (As := [.int (0 : Int32), .int (1 : Int32)]) hC hZ zc10 eo_ (k_AckBookModel_fails hT hfl hE _ _ hF_) t_947 t_949 ts_AckBookModel_fails t_12 t_950 ⟨by decide, by decide, (by decide +kernel : (parseMethodDescriptor y_AckBookModel_fails.desc).map (fun d => d.parameters.length) = some 2)⟩ (by rw [hRt.1]; decide) (by rw [hRt.2]; decide) hl.1 rfl (by first | exact Nat.le_of_ble_eq_true rfl | simp [z_rfc, z_ci, z_cj]) d_AckBookModel_send_35) (fun v_ hv H locs cells slots hZ => ?_)
          obtain ⟨v118, rfl, h⟩ := hv
          generalize w1_ = w at h hZ
          refine lv_if_ne (tgt := 75) hC.1 hC.2.1 d_AckBookModel_send_38 (by decide) (fun hc => ?_) (fun hc => ?_)
          · have h := z_ifn hc h
            refine lv_iconst (v := (0 : Int32)) hC.1 hC.2.1 d_AckBookModel_send_75 (by decide) ?_
            exact x_iret hC hRc hRs hZ hr rfl h d_AckBookModel_send_76
          · have h := z_ifp hc h
            refine x_aload_n hC d_AckBookModel_send_41 rfl (lv_at hl 0 rfl) ?_
            refine x_aload_n hC d_AckBookModel_send_42 rfl (lv_at hl 0 rfl) ?_
            refine x_getR hC hZ zc10 h (by decide) t_830 (fun _ h9 => h9) d_AckBookModel_send_43 (fun r119 h => ?_)
            refine lv_iload_n hC.1 hC.2.1 d_AckBookModel_send_46 rfl (lv_at hl 1 rfl) ?_
            refine x_ldZ hC hZ h d_AckBookModel_send_47 (fun v120 h => ?_)
            refine lv_if_ne (tgt := 63) hC.1 hC.2.1 d_AckBookModel_send_48 (by decide) (fun hc => ?_) (fun hc => ?_)
            · have h := z_ifn hc h
              refine lv_iconst (v := (1 : Int32)) hC.1 hC.2.1 d_AckBookModel_send_63 (by decide) ?_
              refine lv_goto (tgt := 68) hC.1 hC.2.1 d_AckBookModel_send_64 (by decide) ?_
              refine lv_iconst (v := (2 : Int32)) hC.1 hC.2.1 d_AckBookModel_send_68 (by decide) ?_
              obtain ⟨a_, fs_, eo_, h⟩ := z_this_spec h
              obtain ⟨w1_, o1_, hF_, ha_⟩ := z_cI_spec h
              refine x_goes hC hRc hRs hFr ha_ (z_goV (As := [.int (1 : Int32), .int (2 : Int32)]) hC hZ zc10 eo_ (k_AckBookModel_fails hT hfl hE _ _ hF_) t_947 t_949 ts_AckBookModel_fails t_12 t_950 ⟨by decide, by decide, (by decide +kernel : (parseMethodDescriptor y_AckBookModel_fails.desc).map (fun d => d.parameters.length) = some 2)⟩ (by rw [hRt.1]; decide) (by rw [hRt.2]; decide) hl.1 rfl (by first | exact Nat.le_of_ble_eq_true rfl | simp [z_rfc, z_ci, z_cj]) d_AckBookModel_send_69) (fun v_ hv H locs cells slots hZ => ?_)
              obtain ⟨v158, rfl, h⟩ := hv
              generalize w1_ = w at h hZ
              refine lv_if_eq (tgt := 77) hC.1 hC.2.1 d_AckBookModel_send_72 (by decide) (fun hc => ?_) (fun hc => ?_)
              · have h := z_ifp hc h
                refine x_aload_n hC d_AckBookModel_send_77 rfl (lv_at hl 0 rfl) ?_
                refine x_getR hC hZ zc10 h (by decide) t_823 (fun _ h9 => h9) d_AckBookModel_send_78 (fun r159 h => ?_)
                refine lv_iload_n hC.1 hC.2.1 d_AckBookModel_send_81 rfl (lv_at hl 1 rfl) ?_
                refine x_ldI hC hZ h d_AckBookModel_send_82 (fun v160 h => ?_)
                refine lv_istore (i := 5) (lv' := [(5, .int v160), (0, va_rf a0), (1, .int pI1), (2, .int pI2), (3, .int pI3), (4, .int pI4)]) hC.1 hC.2.1 d_AckBookModel_send_83 hl (by decide) (by first | rfl | simp [z_rfc, z_ci, z_cj]) (fun ls hl => ?_)
                refine lv_sipush (v := (4096 : Int32)) hC.1 hC.2.1 d_AckBookModel_send_85 (by decide) ?_
                refine lv_iload_n hC.1 hC.2.1 d_AckBookModel_send_88 rfl (lv_at hl 2 rfl) ?_
                refine lv_imul hC.1 hC.2.1 d_AckBookModel_send_89 ?_
                refine lv_iload hC.1 hC.2.1 d_AckBookModel_send_90 (lv_at hl 0 rfl) ?_
                refine lv_iadd hC.1 hC.2.1 d_AckBookModel_send_92 ?_
                refine lv_istore (i := 6) (lv' := [(6, .int (((4096 : Int32) * pI1) + v160)), (5, .int v160), (0, va_rf a0), (1, .int pI1), (2, .int pI2), (3, .int pI3), (4, .int pI4)]) hC.1 hC.2.1 d_AckBookModel_send_93 hl (by decide) (by first | rfl | simp [z_rfc, z_ci, z_cj]) (fun ls hl => ?_)
                refine x_aload_n hC d_AckBookModel_send_95 rfl (lv_at hl 2 rfl) ?_
                refine x_getR hC hZ zc10 h (by decide) t_824 (fun _ h9 => h9) d_AckBookModel_send_96 (fun r161 h => ?_)
                refine lv_iload hC.1 hC.2.1 d_AckBookModel_send_99 (lv_at hl 0 rfl) ?_
                refine lv_iload_n hC.1 hC.2.1 d_AckBookModel_send_101 rfl (lv_at hl 4 rfl) ?_
                refine x_stI hC hZ h d_AckBookModel_send_102 (fun w H locs hZ h => ?_)
                refine x_aload_n hC d_AckBookModel_send_103 rfl (lv_at hl 2 rfl) ?_
                refine x_getR hC hZ zc10 h (by decide) t_825 (fun _ h9 => h9) d_AckBookModel_send_104 (fun r162 h => ?_)
                refine lv_iload hC.1 hC.2.1 d_AckBookModel_send_107 (lv_at hl 0 rfl) ?_
                refine x_aload_n hC d_AckBookModel_send_109 rfl (lv_at hl 2 rfl) ?_
                refine x_getI hC hZ zc10 h (by decide) t_820 (fun _ h9 => h9) d_AckBookModel_send_110 (fun v163 h => ?_)
                refine x_stI hC hZ h d_AckBookModel_send_113 (fun w H locs hZ h => ?_)
                refine x_aload_n hC d_AckBookModel_send_114 rfl (lv_at hl 2 rfl) ?_
                refine x_getR hC hZ zc10 h (by decide) t_826 (fun _ h9 => h9) d_AckBookModel_send_115 (fun r164 h => ?_)
                refine lv_iload hC.1 hC.2.1 d_AckBookModel_send_118 (lv_at hl 0 rfl) ?_
                refine lv_iconst (v := (0 : Int32)) hC.1 hC.2.1 d_AckBookModel_send_120 (by decide) ?_
                refine x_stI hC hZ h d_AckBookModel_send_121 (fun w H locs hZ h => ?_)
                refine x_aload_n hC d_AckBookModel_send_122 rfl (lv_at hl 2 rfl) ?_
                refine x_getR hC hZ zc10 h (by decide) t_827 (fun _ h9 => h9) d_AckBookModel_send_123 (fun r165 h => ?_)
                refine lv_iload hC.1 hC.2.1 d_AckBookModel_send_126 (lv_at hl 0 rfl) ?_
                refine lv_iload_n hC.1 hC.2.1 d_AckBookModel_send_128 rfl (lv_at hl 5 rfl) ?_
                refine x_stZ hC hZ h d_AckBookModel_send_129 (fun w H locs hZ h => ?_)
                refine x_aload_n hC d_AckBookModel_send_130 rfl (lv_at hl 2 rfl) ?_
                refine x_getR hC hZ zc10 h (by decide) t_828 (fun _ h9 => h9) d_AckBookModel_send_131 (fun r166 h => ?_)
                refine lv_iload hC.1 hC.2.1 d_AckBookModel_send_134 (lv_at hl 0 rfl) ?_
                refine lv_iload hC.1 hC.2.1 d_AckBookModel_send_136 (lv_at hl 6 rfl) ?_
                refine x_stZ hC hZ h d_AckBookModel_send_138 (fun w H locs hZ h => ?_)
                refine x_aload_n hC d_AckBookModel_send_139 rfl (lv_at hl 2 rfl) ?_
                refine x_getR hC hZ zc10 h (by decide) t_823 (fun _ h9 => h9) d_AckBookModel_send_140 (fun r167 h => ?_)
                refine lv_iload_n hC.1 hC.2.1 d_AckBookModel_send_143 rfl (lv_at hl 3 rfl) ?_
                refine lv_dup2_11 hC.1 hC.2.1 d_AckBookModel_send_144 rfl (z_rfc _) ?_
                refine x_ldI hC hZ h d_AckBookModel_send_145 (fun v168 h => ?_)
                refine lv_iconst (v := (1 : Int32)) hC.1 hC.2.1 d_AckBookModel_send_146 (by decide) ?_
                refine lv_iadd hC.1 hC.2.1 d_AckBookModel_send_147 ?_
                refine x_stI hC hZ h d_AckBookModel_send_148 (fun w H locs hZ h => ?_)
                refine x_aload_n hC d_AckBookModel_send_149 rfl (lv_at hl 2 rfl) ?_
                refine x_aload_n hC d_AckBookModel_send_150 rfl (lv_at hl 2 rfl) ?_
                refine x_getI hC hZ zc10 h (by decide) t_820 (fun _ h9 => h9) d_AckBookModel_send_151 (fun v169 h => ?_)
                refine x_put hC hZ zc10 h (by decide) t_833 (fun _ h9 => h9) rfl rfl rfl rfl d_AckBookModel_send_154 (fun w H locs hZ h => ?_)
                refine x_aload_n hC d_AckBookModel_send_157 rfl (lv_at hl 2 rfl) ?_
                refine x_getR hC hZ zc10 h (by decide) t_829 (fun _ h9 => h9) d_AckBookModel_send_158 (fun r170 h => ?_)
                refine lv_iload hC.1 hC.2.1 d_AckBookModel_send_161 (lv_at hl 0 rfl) ?_
                refine x_aload_n hC d_AckBookModel_send_163 rfl (lv_at hl 2 rfl) ?_
                obtain ⟨a_, fs_, eo_, h⟩ := z_this_spec h
                obtain ⟨w1_, o1_, hF_, ha_⟩ := z_cI_spec h
                refine x_goes hC hRc hRs hFr ha_ (z_goV (As := []) hC hZ zc10 eo_ (k_AckBookModel_flight hT hfl hE _ _ hF_) t_951 t_953 ts_AckBookModel_flight t_12 t_954 ⟨by decide, by decide, (by decide +kernel : (parseMethodDescriptor y_AckBookModel_flight.desc).map (fun d => d.parameters.length) = some 0)⟩ (by rw [hRt.1]; decide) (by rw [hRt.2]; decide) hl.1 rfl (by first | exact Nat.le_of_ble_eq_true rfl | simp [z_rfc, z_ci, z_cj]) d_AckBookModel_send_164) (fun v_ hv H locs cells slots hZ => ?_)
                obtain ⟨v172, rfl, h⟩ := hv
                generalize w1_ = w at h hZ
                refine x_aload_n hC d_AckBookModel_send_167 rfl (lv_at hl 2 rfl) ?_
                refine x_getI hC hZ zc10 h (by decide) t_843 (fun _ h9 => h9) d_AckBookModel_send_168 (fun v173 h => ?_)
                refine lv_sipush (v := (1200 : Int32)) hC.1 hC.2.1 d_AckBookModel_send_171 (by decide) ?_
                refine lv_isub hC.1 hC.2.1 d_AckBookModel_send_174 ?_
                refine lv_icmp_le (tgt := 182) hC.1 hC.2.1 d_AckBookModel_send_175 (by decide) (fun hc => ?_) (fun hc => ?_)
                · have h := z_ifp hc h
                  refine lv_iconst (v := (0 : Int32)) hC.1 hC.2.1 d_AckBookModel_send_182 (by decide) ?_
                  refine x_stZ hC hZ h d_AckBookModel_send_183 (fun w H locs hZ h => ?_)
                  refine lv_iload hC.1 hC.2.1 d_AckBookModel_send_184 (lv_at hl 1 rfl) ?_
                  exact x_iret hC hRc hRs hZ hr rfl h d_AckBookModel_send_186
                · have h := z_ifn hc h
                  refine lv_iconst (v := (1 : Int32)) hC.1 hC.2.1 d_AckBookModel_send_178 (by decide) ?_
                  refine lv_goto (tgt := 183) hC.1 hC.2.1 d_AckBookModel_send_179 (by decide) ?_
                  refine x_stZ hC hZ h d_AckBookModel_send_183 (fun w H locs hZ h => ?_)
                  refine lv_iload hC.1 hC.2.1 d_AckBookModel_send_184 (lv_at hl 1 rfl) ?_
                  exact x_iret hC hRc hRs hZ hr rfl h d_AckBookModel_send_186
              · have h := z_ifn hc h
                refine lv_iconst (v := (0 : Int32)) hC.1 hC.2.1 d_AckBookModel_send_75 (by decide) ?_
                exact x_iret hC hRc hRs hZ hr rfl h d_AckBookModel_send_76
            · have h := z_ifp hc h
              refine x_aload_n hC d_AckBookModel_send_51 rfl (lv_at hl 0 rfl) ?_
              refine x_getR hC hZ zc10 h (by decide) t_823 (fun _ h9 => h9) d_AckBookModel_send_52 (fun r121 h => ?_)
              refine lv_iload_n hC.1 hC.2.1 d_AckBookModel_send_55 rfl (lv_at hl 1 rfl) ?_
              refine x_ldI hC hZ h d_AckBookModel_send_56 (fun v122 h => ?_)
              refine lv_sipush (v := (4096 : Int32)) hC.1 hC.2.1 d_AckBookModel_send_57 (by decide) ?_
              refine lv_icmp_ne (tgt := 67) hC.1 hC.2.1 d_AckBookModel_send_60 (by decide) (fun hc => ?_) (fun hc => ?_)
              · have h := z_ifn hc h
                refine lv_iconst (v := (0 : Int32)) hC.1 hC.2.1 d_AckBookModel_send_67 (by decide) ?_
                refine lv_iconst (v := (2 : Int32)) hC.1 hC.2.1 d_AckBookModel_send_68 (by decide) ?_
                obtain ⟨a_, fs_, eo_, h⟩ := z_this_spec h
                obtain ⟨w1_, o1_, hF_, ha_⟩ := z_cI_spec h
                refine x_goes hC hRc hRs hFr ha_ (z_goV (As := [.int (0 : Int32), .int (2 : Int32)]) hC hZ zc10 eo_ (k_AckBookModel_fails hT hfl hE _ _ hF_) t_947 t_949 ts_AckBookModel_fails t_12 t_950 ⟨by decide, by decide, (by decide +kernel : (parseMethodDescriptor y_AckBookModel_fails.desc).map (fun d => d.parameters.length) = some 2)⟩ (by rw [hRt.1]; decide) (by rw [hRt.2]; decide) hl.1 rfl (by first | exact Nat.le_of_ble_eq_true rfl | simp [z_rfc, z_ci, z_cj]) d_AckBookModel_send_69) (fun v_ hv H locs cells slots hZ => ?_)
                obtain ⟨v141, rfl, h⟩ := hv
                generalize w1_ = w at h hZ
                refine lv_if_eq (tgt := 77) hC.1 hC.2.1 d_AckBookModel_send_72 (by decide) (fun hc => ?_) (fun hc => ?_)
                · have h := z_ifp hc h
                  refine x_aload_n hC d_AckBookModel_send_77 rfl (lv_at hl 0 rfl) ?_
                  refine x_getR hC hZ zc10 h (by decide) t_823 (fun _ h9 => h9) d_AckBookModel_send_78 (fun r142 h => ?_)
                  refine lv_iload_n hC.1 hC.2.1 d_AckBookModel_send_81 rfl (lv_at hl 1 rfl) ?_
                  refine x_ldI hC hZ h d_AckBookModel_send_82 (fun v143 h => ?_)
                  refine lv_istore (i := 5) (lv' := [(5, .int v143), (0, va_rf a0), (1, .int pI1), (2, .int pI2), (3, .int pI3), (4, .int pI4)]) hC.1 hC.2.1 d_AckBookModel_send_83 hl (by decide) (by first | rfl | simp [z_rfc, z_ci, z_cj]) (fun ls hl => ?_)
                  refine lv_sipush (v := (4096 : Int32)) hC.1 hC.2.1 d_AckBookModel_send_85 (by decide) ?_
                  refine lv_iload_n hC.1 hC.2.1 d_AckBookModel_send_88 rfl (lv_at hl 2 rfl) ?_
                  refine lv_imul hC.1 hC.2.1 d_AckBookModel_send_89 ?_
                  refine lv_iload hC.1 hC.2.1 d_AckBookModel_send_90 (lv_at hl 0 rfl) ?_
                  refine lv_iadd hC.1 hC.2.1 d_AckBookModel_send_92 ?_
                  refine lv_istore (i := 6) (lv' := [(6, .int (((4096 : Int32) * pI1) + v143)), (5, .int v143), (0, va_rf a0), (1, .int pI1), (2, .int pI2), (3, .int pI3), (4, .int pI4)]) hC.1 hC.2.1 d_AckBookModel_send_93 hl (by decide) (by first | rfl | simp [z_rfc, z_ci, z_cj]) (fun ls hl => ?_)
                  refine x_aload_n hC d_AckBookModel_send_95 rfl (lv_at hl 2 rfl) ?_
                  refine x_getR hC hZ zc10 h (by decide) t_824 (fun _ h9 => h9) d_AckBookModel_send_96 (fun r144 h => ?_)
                  refine lv_iload hC.1 hC.2.1 d_AckBookModel_send_99 (lv_at hl 0 rfl) ?_
                  refine lv_iload_n hC.1 hC.2.1 d_AckBookModel_send_101 rfl (lv_at hl 4 rfl) ?_
                  refine x_stI hC hZ h d_AckBookModel_send_102 (fun w H locs hZ h => ?_)
                  refine x_aload_n hC d_AckBookModel_send_103 rfl (lv_at hl 2 rfl) ?_
                  refine x_getR hC hZ zc10 h (by decide) t_825 (fun _ h9 => h9) d_AckBookModel_send_104 (fun r145 h => ?_)
                  refine lv_iload hC.1 hC.2.1 d_AckBookModel_send_107 (lv_at hl 0 rfl) ?_
                  refine x_aload_n hC d_AckBookModel_send_109 rfl (lv_at hl 2 rfl) ?_
                  refine x_getI hC hZ zc10 h (by decide) t_820 (fun _ h9 => h9) d_AckBookModel_send_110 (fun v146 h => ?_)
                  refine x_stI hC hZ h d_AckBookModel_send_113 (fun w H locs hZ h => ?_)
                  refine x_aload_n hC d_AckBookModel_send_114 rfl (lv_at hl 2 rfl) ?_
                  refine x_getR hC hZ zc10 h (by decide) t_826 (fun _ h9 => h9) d_AckBookModel_send_115 (fun r147 h => ?_)
                  refine lv_iload hC.1 hC.2.1 d_AckBookModel_send_118 (lv_at hl 0 rfl) ?_
                  refine lv_iconst (v := (0 : Int32)) hC.1 hC.2.1 d_AckBookModel_send_120 (by decide) ?_
                  refine x_stI hC hZ h d_AckBookModel_send_121 (fun w H locs hZ h => ?_)
                  refine x_aload_n hC d_AckBookModel_send_122 rfl (lv_at hl 2 rfl) ?_
                  refine x_getR hC hZ zc10 h (by decide) t_827 (fun _ h9 => h9) d_AckBookModel_send_123 (fun r148 h => ?_)
                  refine lv_iload hC.1 hC.2.1 d_AckBookModel_send_126 (lv_at hl 0 rfl) ?_
                  refine lv_iload_n hC.1 hC.2.1 d_AckBookModel_send_128 rfl (lv_at hl 5 rfl) ?_
                  refine x_stZ hC hZ h d_AckBookModel_send_129 (fun w H locs hZ h => ?_)
                  refine x_aload_n hC d_AckBookModel_send_130 rfl (lv_at hl 2 rfl) ?_
                  refine x_getR hC hZ zc10 h (by decide) t_828 (fun _ h9 => h9) d_AckBookModel_send_131 (fun r149 h => ?_)
                  refine lv_iload hC.1 hC.2.1 d_AckBookModel_send_134 (lv_at hl 0 rfl) ?_
                  refine lv_iload hC.1 hC.2.1 d_AckBookModel_send_136 (lv_at hl 6 rfl) ?_
                  refine x_stZ hC hZ h d_AckBookModel_send_138 (fun w H locs hZ h => ?_)
                  refine x_aload_n hC d_AckBookModel_send_139 rfl (lv_at hl 2 rfl) ?_
                  refine x_getR hC hZ zc10 h (by decide) t_823 (fun _ h9 => h9) d_AckBookModel_send_140 (fun r150 h => ?_)
                  refine lv_iload_n hC.1 hC.2.1 d_AckBookModel_send_143 rfl (lv_at hl 3 rfl) ?_
                  refine lv_dup2_11 hC.1 hC.2.1 d_AckBookModel_send_144 rfl (z_rfc _) ?_
                  refine x_ldI hC hZ h d_AckBookModel_send_145 (fun v151 h => ?_)
                  refine lv_iconst (v := (1 : Int32)) hC.1 hC.2.1 d_AckBookModel_send_146 (by decide) ?_
                  refine lv_iadd hC.1 hC.2.1 d_AckBookModel_send_147 ?_
                  refine x_stI hC hZ h d_AckBookModel_send_148 (fun w H locs hZ h => ?_)
                  refine x_aload_n hC d_AckBookModel_send_149 rfl (lv_at hl 2 rfl) ?_
                  refine x_aload_n hC d_AckBookModel_send_150 rfl (lv_at hl 2 rfl) ?_
                  refine x_getI hC hZ zc10 h (by decide) t_820 (fun _ h9 => h9) d_AckBookModel_send_151 (fun v152 h => ?_)
                  refine x_put hC hZ zc10 h (by decide) t_833 (fun _ h9 => h9) rfl rfl rfl rfl d_AckBookModel_send_154 (fun w H locs hZ h => ?_)
                  refine x_aload_n hC d_AckBookModel_send_157 rfl (lv_at hl 2 rfl) ?_
                  refine x_getR hC hZ zc10 h (by decide) t_829 (fun _ h9 => h9) d_AckBookModel_send_158 (fun r153 h => ?_)
                  refine lv_iload hC.1 hC.2.1 d_AckBookModel_send_161 (lv_at hl 0 rfl) ?_
                  refine x_aload_n hC d_AckBookModel_send_163 rfl (lv_at hl 2 rfl) ?_
                  obtain ⟨a_, fs_, eo_, h⟩ := z_this_spec h
                  obtain ⟨w1_, o1_, hF_, ha_⟩ := z_cI_spec h
                  refine x_goes hC hRc hRs hFr ha_ (z_goV (As := []) hC hZ zc10 eo_ (k_AckBookModel_flight hT hfl hE _ _ hF_) t_951 t_953 ts_AckBookModel_flight t_12 t_954 ⟨by decide, by decide, (by decide +kernel : (parseMethodDescriptor y_AckBookModel_flight.desc).map (fun d => d.parameters.length) = some 0)⟩ (by rw [hRt.1]; decide) (by rw [hRt.2]; decide) hl.1 rfl (by first | exact Nat.le_of_ble_eq_true rfl | simp [z_rfc, z_ci, z_cj]) d_AckBookModel_send_164) (fun v_ hv H locs cells slots hZ => ?_)
                  obtain ⟨v155, rfl, h⟩ := hv
                  generalize w1_ = w at h hZ
                  refine x_aload_n hC d_AckBookModel_send_167 rfl (lv_at hl 2 rfl) ?_
                  refine x_getI hC hZ zc10 h (by decide) t_843 (fun _ h9 => h9) d_AckBookModel_send_168 (fun v156 h => ?_)
                  refine lv_sipush (v := (1200 : Int32)) hC.1 hC.2.1 d_AckBookModel_send_171 (by decide) ?_
                  refine lv_isub hC.1 hC.2.1 d_AckBookModel_send_174 ?_
                  refine lv_icmp_le (tgt := 182) hC.1 hC.2.1 d_AckBookModel_send_175 (by decide) (fun hc => ?_) (fun hc => ?_)
                  · have h := z_ifp hc h
                    refine lv_iconst (v := (0 : Int32)) hC.1 hC.2.1 d_AckBookModel_send_182 (by decide) ?_
                    refine x_stZ hC hZ h d_AckBookModel_send_183 (fun w H locs hZ h => ?_)
                    refine lv_iload hC.1 hC.2.1 d_AckBookModel_send_184 (lv_at hl 1 rfl) ?_
                    exact x_iret hC hRc hRs hZ hr rfl h d_AckBookModel_send_186
                  · have h := z_ifn hc h
                    refine lv_iconst (v := (1 : Int32)) hC.1 hC.2.1 d_AckBookModel_send_178 (by decide) ?_
                    refine lv_goto (tgt := 183) hC.1 hC.2.1 d_AckBookModel_send_179 (by decide) ?_
                    refine x_stZ hC hZ h d_AckBookModel_send_183 (fun w H locs hZ h => ?_)
                    refine lv_iload hC.1 hC.2.1 d_AckBookModel_send_184 (lv_at hl 1 rfl) ?_
                    exact x_iret hC hRc hRs hZ hr rfl h d_AckBookModel_send_186
                · have h := z_ifn hc h
                  refine lv_iconst (v := (0 : Int32)) hC.1 hC.2.1 d_AckBookModel_send_75 (by decide) ?_
                  exact x_iret hC hRc hRs hZ hr rfl h d_AckBookModel_send_76
              · have h := z_ifp hc h
                refine lv_iconst (v := (1 : Int32)) hC.1 hC.2.1 d_AckBookModel_send_63 (by decide) ?_
                refine lv_goto (tgt := 68) hC.1 hC.2.1 d_AckBookModel_send_64 (by decide) ?_
                refine lv_iconst (v := (2 : Int32)) hC.1 hC.2.1 d_AckBookModel_send_68 (by decide) ?_
                obtain ⟨a_, fs_, eo_, h⟩ := z_this_spec h
                obtain ⟨w1_, o1_, hF_, ha_⟩ := z_cI_spec h
                refine x_goes hC hRc hRs hFr ha_ (z_goV (As := [.int (1 : Int32), .int (2 : Int32)]) hC hZ zc10 eo_ (k_AckBookModel_fails hT hfl hE _ _ hF_) t_947 t_949 ts_AckBookModel_fails t_12 t_950 ⟨by decide, by decide, (by decide +kernel : (parseMethodDescriptor y_AckBookModel_fails.desc).map (fun d => d.parameters.length) = some 2)⟩ (by rw [hRt.1]; decide) (by rw [hRt.2]; decide) hl.1 rfl (by first | exact Nat.le_of_ble_eq_true rfl | simp [z_rfc, z_ci, z_cj]) d_AckBookModel_send_69) (fun v_ hv H locs cells slots hZ => ?_)
                obtain ⟨v124, rfl, h⟩ := hv
                generalize w1_ = w at h hZ
                refine lv_if_eq (tgt := 77) hC.1 hC.2.1 d_AckBookModel_send_72 (by decide) (fun hc => ?_) (fun hc => ?_)
                · have h := z_ifp hc h
                  refine x_aload_n hC d_AckBookModel_send_77 rfl (lv_at hl 0 rfl) ?_
                  refine x_getR hC hZ zc10 h (by decide) t_823 (fun _ h9 => h9) d_AckBookModel_send_78 (fun r125 h => ?_)
                  refine lv_iload_n hC.1 hC.2.1 d_AckBookModel_send_81 rfl (lv_at hl 1 rfl) ?_
                  refine x_ldI hC hZ h d_AckBookModel_send_82 (fun v126 h => ?_)
                  refine lv_istore (i := 5) (lv' := [(5, .int v126), (0, va_rf a0), (1, .int pI1), (2, .int pI2), (3, .int pI3), (4, .int pI4)]) hC.1 hC.2.1 d_AckBookModel_send_83 hl (by decide) (by first | rfl | simp [z_rfc, z_ci, z_cj]) (fun ls hl => ?_)
                  refine lv_sipush (v := (4096 : Int32)) hC.1 hC.2.1 d_AckBookModel_send_85 (by decide) ?_
                  refine lv_iload_n hC.1 hC.2.1 d_AckBookModel_send_88 rfl (lv_at hl 2 rfl) ?_
                  refine lv_imul hC.1 hC.2.1 d_AckBookModel_send_89 ?_
                  refine lv_iload hC.1 hC.2.1 d_AckBookModel_send_90 (lv_at hl 0 rfl) ?_
                  refine lv_iadd hC.1 hC.2.1 d_AckBookModel_send_92 ?_
                  refine lv_istore (i := 6) (lv' := [(6, .int (((4096 : Int32) * pI1) + v126)), (5, .int v126), (0, va_rf a0), (1, .int pI1), (2, .int pI2), (3, .int pI3), (4, .int pI4)]) hC.1 hC.2.1 d_AckBookModel_send_93 hl (by decide) (by first | rfl | simp [z_rfc, z_ci, z_cj]) (fun ls hl => ?_)
                  refine x_aload_n hC d_AckBookModel_send_95 rfl (lv_at hl 2 rfl) ?_
                  refine x_getR hC hZ zc10 h (by decide) t_824 (fun _ h9 => h9) d_AckBookModel_send_96 (fun r127 h => ?_)
                  refine lv_iload hC.1 hC.2.1 d_AckBookModel_send_99 (lv_at hl 0 rfl) ?_
                  refine lv_iload_n hC.1 hC.2.1 d_AckBookModel_send_101 rfl (lv_at hl 4 rfl) ?_
                  refine x_stI hC hZ h d_AckBookModel_send_102 (fun w H locs hZ h => ?_)
                  refine x_aload_n hC d_AckBookModel_send_103 rfl (lv_at hl 2 rfl) ?_
                  refine x_getR hC hZ zc10 h (by decide) t_825 (fun _ h9 => h9) d_AckBookModel_send_104 (fun r128 h => ?_)
                  refine lv_iload hC.1 hC.2.1 d_AckBookModel_send_107 (lv_at hl 0 rfl) ?_
                  refine x_aload_n hC d_AckBookModel_send_109 rfl (lv_at hl 2 rfl) ?_
                  refine x_getI hC hZ zc10 h (by decide) t_820 (fun _ h9 => h9) d_AckBookModel_send_110 (fun v129 h => ?_)
                  refine x_stI hC hZ h d_AckBookModel_send_113 (fun w H locs hZ h => ?_)
                  refine x_aload_n hC d_AckBookModel_send_114 rfl (lv_at hl 2 rfl) ?_
                  refine x_getR hC hZ zc10 h (by decide) t_826 (fun _ h9 => h9) d_AckBookModel_send_115 (fun r130 h => ?_)
                  refine lv_iload hC.1 hC.2.1 d_AckBookModel_send_118 (lv_at hl 0 rfl) ?_
                  refine lv_iconst (v := (0 : Int32)) hC.1 hC.2.1 d_AckBookModel_send_120 (by decide) ?_
                  refine x_stI hC hZ h d_AckBookModel_send_121 (fun w H locs hZ h => ?_)
                  refine x_aload_n hC d_AckBookModel_send_122 rfl (lv_at hl 2 rfl) ?_
                  refine x_getR hC hZ zc10 h (by decide) t_827 (fun _ h9 => h9) d_AckBookModel_send_123 (fun r131 h => ?_)
                  refine lv_iload hC.1 hC.2.1 d_AckBookModel_send_126 (lv_at hl 0 rfl) ?_
                  refine lv_iload_n hC.1 hC.2.1 d_AckBookModel_send_128 rfl (lv_at hl 5 rfl) ?_
                  refine x_stZ hC hZ h d_AckBookModel_send_129 (fun w H locs hZ h => ?_)
                  refine x_aload_n hC d_AckBookModel_send_130 rfl (lv_at hl 2 rfl) ?_
                  refine x_getR hC hZ zc10 h (by decide) t_828 (fun _ h9 => h9) d_AckBookModel_send_131 (fun r132 h => ?_)
                  refine lv_iload hC.1 hC.2.1 d_AckBookModel_send_134 (lv_at hl 0 rfl) ?_
                  refine lv_iload hC.1 hC.2.1 d_AckBookModel_send_136 (lv_at hl 6 rfl) ?_
                  refine x_stZ hC hZ h d_AckBookModel_send_138 (fun w H locs hZ h => ?_)
                  refine x_aload_n hC d_AckBookModel_send_139 rfl (lv_at hl 2 rfl) ?_
                  refine x_getR hC hZ zc10 h (by decide) t_823 (fun _ h9 => h9) d_AckBookModel_send_140 (fun r133 h => ?_)
                  refine lv_iload_n hC.1 hC.2.1 d_AckBookModel_send_143 rfl (lv_at hl 3 rfl) ?_
                  refine lv_dup2_11 hC.1 hC.2.1 d_AckBookModel_send_144 rfl (z_rfc _) ?_
                  refine x_ldI hC hZ h d_AckBookModel_send_145 (fun v134 h => ?_)
                  refine lv_iconst (v := (1 : Int32)) hC.1 hC.2.1 d_AckBookModel_send_146 (by decide) ?_
                  refine lv_iadd hC.1 hC.2.1 d_AckBookModel_send_147 ?_
                  refine x_stI hC hZ h d_AckBookModel_send_148 (fun w H locs hZ h => ?_)
                  refine x_aload_n hC d_AckBookModel_send_149 rfl (lv_at hl 2 rfl) ?_
                  refine x_aload_n hC d_AckBookModel_send_150 rfl (lv_at hl 2 rfl) ?_
                  refine x_getI hC hZ zc10 h (by decide) t_820 (fun _ h9 => h9) d_AckBookModel_send_151 (fun v135 h => ?_)
                  refine x_put hC hZ zc10 h (by decide) t_833 (fun _ h9 => h9) rfl rfl rfl rfl d_AckBookModel_send_154 (fun w H locs hZ h => ?_)
                  refine x_aload_n hC d_AckBookModel_send_157 rfl (lv_at hl 2 rfl) ?_
                  refine x_getR hC hZ zc10 h (by decide) t_829 (fun _ h9 => h9) d_AckBookModel_send_158 (fun r136 h => ?_)
                  refine lv_iload hC.1 hC.2.1 d_AckBookModel_send_161 (lv_at hl 0 rfl) ?_
                  refine x_aload_n hC d_AckBookModel_send_163 rfl (lv_at hl 2 rfl) ?_
                  obtain ⟨a_, fs_, eo_, h⟩ := z_this_spec h
                  obtain ⟨w1_, o1_, hF_, ha_⟩ := z_cI_spec h
                  refine x_goes hC hRc hRs hFr ha_ (z_goV (As := []) hC hZ zc10 eo_ (k_AckBookModel_flight hT hfl hE _ _ hF_) t_951 t_953 ts_AckBookModel_flight t_12 t_954 ⟨by decide, by decide, (by decide +kernel : (parseMethodDescriptor y_AckBookModel_flight.desc).map (fun d => d.parameters.length) = some 0)⟩ (by rw [hRt.1]; decide) (by rw [hRt.2]; decide) hl.1 rfl (by first | exact Nat.le_of_ble_eq_true rfl | simp [z_rfc, z_ci, z_cj]) d_AckBookModel_send_164) (fun v_ hv H locs cells slots hZ => ?_)
                  obtain ⟨v138, rfl, h⟩ := hv
                  generalize w1_ = w at h hZ
                  refine x_aload_n hC d_AckBookModel_send_167 rfl (lv_at hl 2 rfl) ?_
                  refine x_getI hC hZ zc10 h (by decide) t_843 (fun _ h9 => h9) d_AckBookModel_send_168 (fun v139 h => ?_)
                  refine lv_sipush (v := (1200 : Int32)) hC.1 hC.2.1 d_AckBookModel_send_171 (by decide) ?_
                  refine lv_isub hC.1 hC.2.1 d_AckBookModel_send_174 ?_
                  refine lv_icmp_le (tgt := 182) hC.1 hC.2.1 d_AckBookModel_send_175 (by decide) (fun hc => ?_) (fun hc => ?_)
                  · have h := z_ifp hc h
                    refine lv_iconst (v := (0 : Int32)) hC.1 hC.2.1 d_AckBookModel_send_182 (by decide) ?_
                    refine x_stZ hC hZ h d_AckBookModel_send_183 (fun w H locs hZ h => ?_)
                    refine lv_iload hC.1 hC.2.1 d_AckBookModel_send_184 (lv_at hl 1 rfl) ?_
                    exact x_iret hC hRc hRs hZ hr rfl h d_AckBookModel_send_186
                  · have h := z_ifn hc h
                    refine lv_iconst (v := (1 : Int32)) hC.1 hC.2.1 d_AckBookModel_send_178 (by decide) ?_
                    refine lv_goto (tgt := 183) hC.1 hC.2.1 d_AckBookModel_send_179 (by decide) ?_
                    refine x_stZ hC hZ h d_AckBookModel_send_183 (fun w H locs hZ h => ?_)
                    refine lv_iload hC.1 hC.2.1 d_AckBookModel_send_184 (lv_at hl 1 rfl) ?_
                    exact x_iret hC hRc hRs hZ hr rfl h d_AckBookModel_send_186
                · have h := z_ifn hc h
                  refine lv_iconst (v := (0 : Int32)) hC.1 hC.2.1 d_AckBookModel_send_75 (by decide) ?_
                  exact x_iret hC hRc hRs hZ hr rfl h d_AckBookModel_send_76
        · have h := z_ifn hc h
          refine lv_iload hC.1 hC.2.1 d_AckBookModel_send_24 (lv_at hl 4 rfl) ?_
          refine lv_if_ne (tgt := 33) hC.1 hC.2.1 d_AckBookModel_send_26 (by decide) (fun hc => ?_) (fun hc => ?_)
          · have h := z_ifn hc h
            refine lv_iconst (v := (0 : Int32)) hC.1 hC.2.1 d_AckBookModel_send_33 (by decide) ?_
            refine lv_iconst (v := (1 : Int32)) hC.1 hC.2.1 d_AckBookModel_send_34 (by decide) ?_
            obtain ⟨a_, fs_, eo_, h⟩ := z_this_spec h
            obtain ⟨w1_, o1_, hF_, ha_⟩ := z_cI_spec h
            refine x_goes hC hRc hRs hFr ha_ (z_goV (As := [.int (0 : Int32), .int (1 : Int32)]) hC hZ zc10 eo_ (k_AckBookModel_fails hT hfl hE _ _ hF_) t_947 t_949 ts_AckBookModel_fails t_12 t_950 ⟨by decide, by decide, (by decide +kernel : (parseMethodDescriptor y_AckBookModel_fails.desc).map (fun d => d.parameters.length) = some 2)⟩ (by rw [hRt.1]; decide) (by rw [hRt.2]; decide) hl.1 rfl (by first | exact Nat.le_of_ble_eq_true rfl | simp [z_rfc, z_ci, z_cj]) d_AckBookModel_send_35) (fun v_ hv H locs cells slots hZ => ?_)
            obtain ⟨v232, rfl, h⟩ := hv
            generalize w1_ = w at h hZ
            refine lv_if_ne (tgt := 75) hC.1 hC.2.1 d_AckBookModel_send_38 (by decide) (fun hc => ?_) (fun hc => ?_)
            · have h := z_ifn hc h
              refine lv_iconst (v := (0 : Int32)) hC.1 hC.2.1 d_AckBookModel_send_75 (by decide) ?_
              exact x_iret hC hRc hRs hZ hr rfl h d_AckBookModel_send_76
            · have h := z_ifp hc h
              refine x_aload_n hC d_AckBookModel_send_41 rfl (lv_at hl 0 rfl) ?_
              refine x_aload_n hC d_AckBookModel_send_42 rfl (lv_at hl 0 rfl) ?_
              refine x_getR hC hZ zc10 h (by decide) t_830 (fun _ h9 => h9) d_AckBookModel_send_43 (fun r233 h => ?_)
              refine lv_iload_n hC.1 hC.2.1 d_AckBookModel_send_46 rfl (lv_at hl 1 rfl) ?_
              refine x_ldZ hC hZ h d_AckBookModel_send_47 (fun v234 h => ?_)
              refine lv_if_ne (tgt := 63) hC.1 hC.2.1 d_AckBookModel_send_48 (by decide) (fun hc => ?_) (fun hc => ?_)
              · have h := z_ifn hc h
                refine lv_iconst (v := (1 : Int32)) hC.1 hC.2.1 d_AckBookModel_send_63 (by decide) ?_
                refine lv_goto (tgt := 68) hC.1 hC.2.1 d_AckBookModel_send_64 (by decide) ?_
                refine lv_iconst (v := (2 : Int32)) hC.1 hC.2.1 d_AckBookModel_send_68 (by decide) ?_
                obtain ⟨a_, fs_, eo_, h⟩ := z_this_spec h
                obtain ⟨w1_, o1_, hF_, ha_⟩ := z_cI_spec h
                refine x_goes hC hRc hRs hFr ha_ (z_goV (As := [.int (1 : Int32), .int (2 : Int32)]) hC hZ zc10 eo_ (k_AckBookModel_fails hT hfl hE _ _ hF_) t_947 t_949 ts_AckBookModel_fails t_12 t_950 ⟨by decide, by decide, (by decide +kernel : (parseMethodDescriptor y_AckBookModel_fails.desc).map (fun d => d.parameters.length) = some 2)⟩ (by rw [hRt.1]; decide) (by rw [hRt.2]; decide) hl.1 rfl (by first | exact Nat.le_of_ble_eq_true rfl | simp [z_rfc, z_ci, z_cj]) d_AckBookModel_send_69) (fun v_ hv H locs cells slots hZ => ?_)
                obtain ⟨v272, rfl, h⟩ := hv
                generalize w1_ = w at h hZ
                refine lv_if_eq (tgt := 77) hC.1 hC.2.1 d_AckBookModel_send_72 (by decide) (fun hc => ?_) (fun hc => ?_)
                · have h := z_ifp hc h
                  refine x_aload_n hC d_AckBookModel_send_77 rfl (lv_at hl 0 rfl) ?_
                  refine x_getR hC hZ zc10 h (by decide) t_823 (fun _ h9 => h9) d_AckBookModel_send_78 (fun r273 h => ?_)
                  refine lv_iload_n hC.1 hC.2.1 d_AckBookModel_send_81 rfl (lv_at hl 1 rfl) ?_
                  refine x_ldI hC hZ h d_AckBookModel_send_82 (fun v274 h => ?_)
                  refine lv_istore (i := 5) (lv' := [(5, .int v274), (0, va_rf a0), (1, .int pI1), (2, .int pI2), (3, .int pI3), (4, .int pI4)]) hC.1 hC.2.1 d_AckBookModel_send_83 hl (by decide) (by first | rfl | simp [z_rfc, z_ci, z_cj]) (fun ls hl => ?_)
                  refine lv_sipush (v := (4096 : Int32)) hC.1 hC.2.1 d_AckBookModel_send_85 (by decide) ?_
                  refine lv_iload_n hC.1 hC.2.1 d_AckBookModel_send_88 rfl (lv_at hl 2 rfl) ?_
                  refine lv_imul hC.1 hC.2.1 d_AckBookModel_send_89 ?_
                  refine lv_iload hC.1 hC.2.1 d_AckBookModel_send_90 (lv_at hl 0 rfl) ?_
                  refine lv_iadd hC.1 hC.2.1 d_AckBookModel_send_92 ?_
                  refine lv_istore (i := 6) (lv' := [(6, .int (((4096 : Int32) * pI1) + v274)), (5, .int v274), (0, va_rf a0), (1, .int pI1), (2, .int pI2), (3, .int pI3), (4, .int pI4)]) hC.1 hC.2.1 d_AckBookModel_send_93 hl (by decide) (by first | rfl | simp [z_rfc, z_ci, z_cj]) (fun ls hl => ?_)
                  refine x_aload_n hC d_AckBookModel_send_95 rfl (lv_at hl 2 rfl) ?_
                  refine x_getR hC hZ zc10 h (by decide) t_824 (fun _ h9 => h9) d_AckBookModel_send_96 (fun r275 h => ?_)
                  refine lv_iload hC.1 hC.2.1 d_AckBookModel_send_99 (lv_at hl 0 rfl) ?_
                  refine lv_iload_n hC.1 hC.2.1 d_AckBookModel_send_101 rfl (lv_at hl 4 rfl) ?_
                  refine x_stI hC hZ h d_AckBookModel_send_102 (fun w H locs hZ h => ?_)
                  refine x_aload_n hC d_AckBookModel_send_103 rfl (lv_at hl 2 rfl) ?_
                  refine x_getR hC hZ zc10 h (by decide) t_825 (fun _ h9 => h9) d_AckBookModel_send_104 (fun r276 h => ?_)
                  refine lv_iload hC.1 hC.2.1 d_AckBookModel_send_107 (lv_at hl 0 rfl) ?_
                  refine x_aload_n hC d_AckBookModel_send_109 rfl (lv_at hl 2 rfl) ?_
                  refine x_getI hC hZ zc10 h (by decide) t_820 (fun _ h9 => h9) d_AckBookModel_send_110 (fun v277 h => ?_)
                  refine x_stI hC hZ h d_AckBookModel_send_113 (fun w H locs hZ h => ?_)
                  refine x_aload_n hC d_AckBookModel_send_114 rfl (lv_at hl 2 rfl) ?_
                  refine x_getR hC hZ zc10 h (by decide) t_826 (fun _ h9 => h9) d_AckBookModel_send_115 (fun r278 h => ?_)
                  refine lv_iload hC.1 hC.2.1 d_AckBookModel_send_118 (lv_at hl 0 rfl) ?_
                  refine lv_iconst (v := (0 : Int32)) hC.1 hC.2.1 d_AckBookModel_send_120 (by decide) ?_
                  refine x_stI hC hZ h d_AckBookModel_send_121 (fun w H locs hZ h => ?_)
                  refine x_aload_n hC d_AckBookModel_send_122 rfl (lv_at hl 2 rfl) ?_
                  refine x_getR hC hZ zc10 h (by decide) t_827 (fun _ h9 => h9) d_AckBookModel_send_123 (fun r279 h => ?_)
                  refine lv_iload hC.1 hC.2.1 d_AckBookModel_send_126 (lv_at hl 0 rfl) ?_
                  refine lv_iload_n hC.1 hC.2.1 d_AckBookModel_send_128 rfl (lv_at hl 5 rfl) ?_
                  refine x_stZ hC hZ h d_AckBookModel_send_129 (fun w H locs hZ h => ?_)
                  refine x_aload_n hC d_AckBookModel_send_130 rfl (lv_at hl 2 rfl) ?_
                  refine x_getR hC hZ zc10 h (by decide) t_828 (fun _ h9 => h9) d_AckBookModel_send_131 (fun r280 h => ?_)
                  refine lv_iload hC.1 hC.2.1 d_AckBookModel_send_134 (lv_at hl 0 rfl) ?_
                  refine lv_iload hC.1 hC.2.1 d_AckBookModel_send_136 (lv_at hl 6 rfl) ?_
                  refine x_stZ hC hZ h d_AckBookModel_send_138 (fun w H locs hZ h => ?_)
                  refine x_aload_n hC d_AckBookModel_send_139 rfl (lv_at hl 2 rfl) ?_
                  refine x_getR hC hZ zc10 h (by decide) t_823 (fun _ h9 => h9) d_AckBookModel_send_140 (fun r281 h => ?_)
                  refine lv_iload_n hC.1 hC.2.1 d_AckBookModel_send_143 rfl (lv_at hl 3 rfl) ?_
                  refine lv_dup2_11 hC.1 hC.2.1 d_AckBookModel_send_144 rfl (z_rfc _) ?_
                  refine x_ldI hC hZ h d_AckBookModel_send_145 (fun v282 h => ?_)
                  refine lv_iconst (v := (1 : Int32)) hC.1 hC.2.1 d_AckBookModel_send_146 (by decide) ?_
                  refine lv_iadd hC.1 hC.2.1 d_AckBookModel_send_147 ?_
                  refine x_stI hC hZ h d_AckBookModel_send_148 (fun w H locs hZ h => ?_)
                  refine x_aload_n hC d_AckBookModel_send_149 rfl (lv_at hl 2 rfl) ?_
                  refine x_aload_n hC d_AckBookModel_send_150 rfl (lv_at hl 2 rfl) ?_
                  refine x_getI hC hZ zc10 h (by decide) t_820 (fun _ h9 => h9) d_AckBookModel_send_151 (fun v283 h => ?_)
                  refine x_put hC hZ zc10 h (by decide) t_833 (fun _ h9 => h9) rfl rfl rfl rfl d_AckBookModel_send_154 (fun w H locs hZ h => ?_)
                  refine x_aload_n hC d_AckBookModel_send_157 rfl (lv_at hl 2 rfl) ?_
                  refine x_getR hC hZ zc10 h (by decide) t_829 (fun _ h9 => h9) d_AckBookModel_send_158 (fun r284 h => ?_)
                  refine lv_iload hC.1 hC.2.1 d_AckBookModel_send_161 (lv_at hl 0 rfl) ?_
                  refine x_aload_n hC d_AckBookModel_send_163 rfl (lv_at hl 2 rfl) ?_
                  obtain ⟨a_, fs_, eo_, h⟩ := z_this_spec h
                  obtain ⟨w1_, o1_, hF_, ha_⟩ := z_cI_spec h
                  refine x_goes hC hRc hRs hFr ha_ (z_goV (As := []) hC hZ zc10 eo_ (k_AckBookModel_flight hT hfl hE _ _ hF_) t_951 t_953 ts_AckBookModel_flight t_12 t_954 ⟨by decide, by decide, (by decide +kernel : (parseMethodDescriptor y_AckBookModel_flight.desc).map (fun d => d.parameters.length) = some 0)⟩ (by rw [hRt.1]; decide) (by rw [hRt.2]; decide) hl.1 rfl (by first | exact Nat.le_of_ble_eq_true rfl | simp [z_rfc, z_ci, z_cj]) d_AckBookModel_send_164) (fun v_ hv H locs cells slots hZ => ?_)
                  obtain ⟨v286, rfl, h⟩ := hv
                  generalize w1_ = w at h hZ
                  refine x_aload_n hC d_AckBookModel_send_167 rfl (lv_at hl 2 rfl) ?_
                  refine x_getI hC hZ zc10 h (by decide) t_843 (fun _ h9 => h9) d_AckBookModel_send_168 (fun v287 h => ?_)
                  refine lv_sipush (v := (1200 : Int32)) hC.1 hC.2.1 d_AckBookModel_send_171 (by decide) ?_
                  refine lv_isub hC.1 hC.2.1 d_AckBookModel_send_174 ?_
                  refine lv_icmp_le (tgt := 182) hC.1 hC.2.1 d_AckBookModel_send_175 (by decide) (fun hc => ?_) (fun hc => ?_)
                  · have h := z_ifp hc h
                    refine lv_iconst (v := (0 : Int32)) hC.1 hC.2.1 d_AckBookModel_send_182 (by decide) ?_
                    refine x_stZ hC hZ h d_AckBookModel_send_183 (fun w H locs hZ h => ?_)
                    refine lv_iload hC.1 hC.2.1 d_AckBookModel_send_184 (lv_at hl 1 rfl) ?_
                    exact x_iret hC hRc hRs hZ hr rfl h d_AckBookModel_send_186
                  · have h := z_ifn hc h
                    refine lv_iconst (v := (1 : Int32)) hC.1 hC.2.1 d_AckBookModel_send_178 (by decide) ?_
                    refine lv_goto (tgt := 183) hC.1 hC.2.1 d_AckBookModel_send_179 (by decide) ?_
                    refine x_stZ hC hZ h d_AckBookModel_send_183 (fun w H locs hZ h => ?_)
                    refine lv_iload hC.1 hC.2.1 d_AckBookModel_send_184 (lv_at hl 1 rfl) ?_
                    exact x_iret hC hRc hRs hZ hr rfl h d_AckBookModel_send_186
                · have h := z_ifn hc h
                  refine lv_iconst (v := (0 : Int32)) hC.1 hC.2.1 d_AckBookModel_send_75 (by decide) ?_
                  exact x_iret hC hRc hRs hZ hr rfl h d_AckBookModel_send_76
              · have h := z_ifp hc h
                refine x_aload_n hC d_AckBookModel_send_51 rfl (lv_at hl 0 rfl) ?_
                refine x_getR hC hZ zc10 h (by decide) t_823 (fun _ h9 => h9) d_AckBookModel_send_52 (fun r235 h => ?_)
                refine lv_iload_n hC.1 hC.2.1 d_AckBookModel_send_55 rfl (lv_at hl 1 rfl) ?_
                refine x_ldI hC hZ h d_AckBookModel_send_56 (fun v236 h => ?_)
                refine lv_sipush (v := (4096 : Int32)) hC.1 hC.2.1 d_AckBookModel_send_57 (by decide) ?_
                refine lv_icmp_ne (tgt := 67) hC.1 hC.2.1 d_AckBookModel_send_60 (by decide) (fun hc => ?_) (fun hc => ?_)
                · have h := z_ifn hc h
                  refine lv_iconst (v := (0 : Int32)) hC.1 hC.2.1 d_AckBookModel_send_67 (by decide) ?_
                  refine lv_iconst (v := (2 : Int32)) hC.1 hC.2.1 d_AckBookModel_send_68 (by decide) ?_
                  obtain ⟨a_, fs_, eo_, h⟩ := z_this_spec h
                  obtain ⟨w1_, o1_, hF_, ha_⟩ := z_cI_spec h
                  refine x_goes hC hRc hRs hFr ha_ (z_goV (As := [.int (0 : Int32), .int (2 : Int32)]) hC hZ zc10 eo_ (k_AckBookModel_fails hT hfl hE _ _ hF_) t_947 t_949 ts_AckBookModel_fails t_12 t_950 ⟨by decide, by decide, (by decide +kernel : (parseMethodDescriptor y_AckBookModel_fails.desc).map (fun d => d.parameters.length) = some 2)⟩ (by rw [hRt.1]; decide) (by rw [hRt.2]; decide) hl.1 rfl (by first | exact Nat.le_of_ble_eq_true rfl | simp [z_rfc, z_ci, z_cj]) d_AckBookModel_send_69) (fun v_ hv H locs cells slots hZ => ?_)
                  obtain ⟨v255, rfl, h⟩ := hv
                  generalize w1_ = w at h hZ
                  refine lv_if_eq (tgt := 77) hC.1 hC.2.1 d_AckBookModel_send_72 (by decide) (fun hc => ?_) (fun hc => ?_)
                  · have h := z_ifp hc h
                    refine x_aload_n hC d_AckBookModel_send_77 rfl (lv_at hl 0 rfl) ?_
                    refine x_getR hC hZ zc10 h (by decide) t_823 (fun _ h9 => h9) d_AckBookModel_send_78 (fun r256 h => ?_)
                    refine lv_iload_n hC.1 hC.2.1 d_AckBookModel_send_81 rfl (lv_at hl 1 rfl) ?_
                    refine x_ldI hC hZ h d_AckBookModel_send_82 (fun v257 h => ?_)
                    refine lv_istore (i := 5) (lv' := [(5, .int v257), (0, va_rf a0), (1, .int pI1), (2, .int pI2), (3, .int pI3), (4, .int pI4)]) hC.1 hC.2.1 d_AckBookModel_send_83 hl (by decide) (by first | rfl | simp [z_rfc, z_ci, z_cj]) (fun ls hl => ?_)
                    refine lv_sipush (v := (4096 : Int32)) hC.1 hC.2.1 d_AckBookModel_send_85 (by decide) ?_
                    refine lv_iload_n hC.1 hC.2.1 d_AckBookModel_send_88 rfl (lv_at hl 2 rfl) ?_
                    refine lv_imul hC.1 hC.2.1 d_AckBookModel_send_89 ?_
                    refine lv_iload hC.1 hC.2.1 d_AckBookModel_send_90 (lv_at hl 0 rfl) ?_
                    refine lv_iadd hC.1 hC.2.1 d_AckBookModel_send_92 ?_
                    refine lv_istore (i := 6) (lv' := [(6, .int (((4096 : Int32) * pI1) + v257)), (5, .int v257), (0, va_rf a0), (1, .int pI1), (2, .int pI2), (3, .int pI3), (4, .int pI4)]) hC.1 hC.2.1 d_AckBookModel_send_93 hl (by decide) (by first | rfl | simp [z_rfc, z_ci, z_cj]) (fun ls hl => ?_)
                    refine x_aload_n hC d_AckBookModel_send_95 rfl (lv_at hl 2 rfl) ?_
                    refine x_getR hC hZ zc10 h (by decide) t_824 (fun _ h9 => h9) d_AckBookModel_send_96 (fun r258 h => ?_)
                    refine lv_iload hC.1 hC.2.1 d_AckBookModel_send_99 (lv_at hl 0 rfl) ?_
                    refine lv_iload_n hC.1 hC.2.1 d_AckBookModel_send_101 rfl (lv_at hl 4 rfl) ?_
                    refine x_stI hC hZ h d_AckBookModel_send_102 (fun w H locs hZ h => ?_)
                    refine x_aload_n hC d_AckBookModel_send_103 rfl (lv_at hl 2 rfl) ?_
                    refine x_getR hC hZ zc10 h (by decide) t_825 (fun _ h9 => h9) d_AckBookModel_send_104 (fun r259 h => ?_)
                    refine lv_iload hC.1 hC.2.1 d_AckBookModel_send_107 (lv_at hl 0 rfl) ?_
                    refine x_aload_n hC d_AckBookModel_send_109 rfl (lv_at hl 2 rfl) ?_
                    refine x_getI hC hZ zc10 h (by decide) t_820 (fun _ h9 => h9) d_AckBookModel_send_110 (fun v260 h => ?_)
                    refine x_stI hC hZ h d_AckBookModel_send_113 (fun w H locs hZ h => ?_)
                    refine x_aload_n hC d_AckBookModel_send_114 rfl (lv_at hl 2 rfl) ?_
                    refine x_getR hC hZ zc10 h (by decide) t_826 (fun _ h9 => h9) d_AckBookModel_send_115 (fun r261 h => ?_)
                    refine lv_iload hC.1 hC.2.1 d_AckBookModel_send_118 (lv_at hl 0 rfl) ?_
                    refine lv_iconst (v := (0 : Int32)) hC.1 hC.2.1 d_AckBookModel_send_120 (by decide) ?_
                    refine x_stI hC hZ h d_AckBookModel_send_121 (fun w H locs hZ h => ?_)
                    refine x_aload_n hC d_AckBookModel_send_122 rfl (lv_at hl 2 rfl) ?_
                    refine x_getR hC hZ zc10 h (by decide) t_827 (fun _ h9 => h9) d_AckBookModel_send_123 (fun r262 h => ?_)
                    refine lv_iload hC.1 hC.2.1 d_AckBookModel_send_126 (lv_at hl 0 rfl) ?_
                    refine lv_iload_n hC.1 hC.2.1 d_AckBookModel_send_128 rfl (lv_at hl 5 rfl) ?_
                    refine x_stZ hC hZ h d_AckBookModel_send_129 (fun w H locs hZ h => ?_)
                    refine x_aload_n hC d_AckBookModel_send_130 rfl (lv_at hl 2 rfl) ?_
                    refine x_getR hC hZ zc10 h (by decide) t_828 (fun _ h9 => h9) d_AckBookModel_send_131 (fun r263 h => ?_)
                    refine lv_iload hC.1 hC.2.1 d_AckBookModel_send_134 (lv_at hl 0 rfl) ?_
                    refine lv_iload hC.1 hC.2.1 d_AckBookModel_send_136 (lv_at hl 6 rfl) ?_
                    refine x_stZ hC hZ h d_AckBookModel_send_138 (fun w H locs hZ h => ?_)
                    refine x_aload_n hC d_AckBookModel_send_139 rfl (lv_at hl 2 rfl) ?_
                    refine x_getR hC hZ zc10 h (by decide) t_823 (fun _ h9 => h9) d_AckBookModel_send_140 (fun r264 h => ?_)
                    refine lv_iload_n hC.1 hC.2.1 d_AckBookModel_send_143 rfl (lv_at hl 3 rfl) ?_
                    refine lv_dup2_11 hC.1 hC.2.1 d_AckBookModel_send_144 rfl (z_rfc _) ?_
                    refine x_ldI hC hZ h d_AckBookModel_send_145 (fun v265 h => ?_)
                    refine lv_iconst (v := (1 : Int32)) hC.1 hC.2.1 d_AckBookModel_send_146 (by decide) ?_
                    refine lv_iadd hC.1 hC.2.1 d_AckBookModel_send_147 ?_
                    refine x_stI hC hZ h d_AckBookModel_send_148 (fun w H locs hZ h => ?_)
                    refine x_aload_n hC d_AckBookModel_send_149 rfl (lv_at hl 2 rfl) ?_
                    refine x_aload_n hC d_AckBookModel_send_150 rfl (lv_at hl 2 rfl) ?_
                    refine x_getI hC hZ zc10 h (by decide) t_820 (fun _ h9 => h9) d_AckBookModel_send_151 (fun v266 h => ?_)
                    refine x_put hC hZ zc10 h (by decide) t_833 (fun _ h9 => h9) rfl rfl rfl rfl d_AckBookModel_send_154 (fun w H locs hZ h => ?_)
                    refine x_aload_n hC d_AckBookModel_send_157 rfl (lv_at hl 2 rfl) ?_
                    refine x_getR hC hZ zc10 h (by decide) t_829 (fun _ h9 => h9) d_AckBookModel_send_158 (fun r267 h => ?_)
                    refine lv_iload hC.1 hC.2.1 d_AckBookModel_send_161 (lv_at hl 0 rfl) ?_
                    refine x_aload_n hC d_AckBookModel_send_163 rfl (lv_at hl 2 rfl) ?_
                    obtain ⟨a_, fs_, eo_, h⟩ := z_this_spec h
                    obtain ⟨w1_, o1_, hF_, ha_⟩ := z_cI_spec h
                    refine x_goes hC hRc hRs hFr ha_ (z_goV (As := []) hC hZ zc10 eo_ (k_AckBookModel_flight hT hfl hE _ _ hF_) t_951 t_953 ts_AckBookModel_flight t_12 t_954 ⟨by decide, by decide, (by decide +kernel : (parseMethodDescriptor y_AckBookModel_flight.desc).map (fun d => d.parameters.length) = some 0)⟩ (by rw [hRt.1]; decide) (by rw [hRt.2]; decide) hl.1 rfl (by first | exact Nat.le_of_ble_eq_true rfl | simp [z_rfc, z_ci, z_cj]) d_AckBookModel_send_164) (fun v_ hv H locs cells slots hZ => ?_)
                    obtain ⟨v269, rfl, h⟩ := hv
                    generalize w1_ = w at h hZ
                    refine x_aload_n hC d_AckBookModel_send_167 rfl (lv_at hl 2 rfl) ?_
                    refine x_getI hC hZ zc10 h (by decide) t_843 (fun _ h9 => h9) d_AckBookModel_send_168 (fun v270 h => ?_)
                    refine lv_sipush (v := (1200 : Int32)) hC.1 hC.2.1 d_AckBookModel_send_171 (by decide) ?_
                    refine lv_isub hC.1 hC.2.1 d_AckBookModel_send_174 ?_
                    refine lv_icmp_le (tgt := 182) hC.1 hC.2.1 d_AckBookModel_send_175 (by decide) (fun hc => ?_) (fun hc => ?_)
                    · have h := z_ifp hc h
                      refine lv_iconst (v := (0 : Int32)) hC.1 hC.2.1 d_AckBookModel_send_182 (by decide) ?_
                      refine x_stZ hC hZ h d_AckBookModel_send_183 (fun w H locs hZ h => ?_)
                      refine lv_iload hC.1 hC.2.1 d_AckBookModel_send_184 (lv_at hl 1 rfl) ?_
                      exact x_iret hC hRc hRs hZ hr rfl h d_AckBookModel_send_186
                    · have h := z_ifn hc h
                      refine lv_iconst (v := (1 : Int32)) hC.1 hC.2.1 d_AckBookModel_send_178 (by decide) ?_
                      refine lv_goto (tgt := 183) hC.1 hC.2.1 d_AckBookModel_send_179 (by decide) ?_
                      refine x_stZ hC hZ h d_AckBookModel_send_183 (fun w H locs hZ h => ?_)
                      refine lv_iload hC.1 hC.2.1 d_AckBookModel_send_184 (lv_at hl 1 rfl) ?_
                      exact x_iret hC hRc hRs hZ hr rfl h d_AckBookModel_send_186
                  · have h := z_ifn hc h
                    refine lv_iconst (v := (0 : Int32)) hC.1 hC.2.1 d_AckBookModel_send_75 (by decide) ?_
                    exact x_iret hC hRc hRs hZ hr rfl h d_AckBookModel_send_76
                · have h := z_ifp hc h
                  refine lv_iconst (v := (1 : Int32)) hC.1 hC.2.1 d_AckBookModel_send_63 (by decide) ?_
                  refine lv_goto (tgt := 68) hC.1 hC.2.1 d_AckBookModel_send_64 (by decide) ?_
                  refine lv_iconst (v := (2 : Int32)) hC.1 hC.2.1 d_AckBookModel_send_68 (by decide) ?_
                  obtain ⟨a_, fs_, eo_, h⟩ := z_this_spec h
                  obtain ⟨w1_, o1_, hF_, ha_⟩ := z_cI_spec h
                  refine x_goes hC hRc hRs hFr ha_ (z_goV (As := [.int (1 : Int32), .int (2 : Int32)]) hC hZ zc10 eo_ (k_AckBookModel_fails hT hfl hE _ _ hF_) t_947 t_949 ts_AckBookModel_fails t_12 t_950 ⟨by decide, by decide, (by decide +kernel : (parseMethodDescriptor y_AckBookModel_fails.desc).map (fun d => d.parameters.length) = some 2)⟩ (by rw [hRt.1]; decide) (by rw [hRt.2]; decide) hl.1 rfl (by first | exact Nat.le_of_ble_eq_true rfl | simp [z_rfc, z_ci, z_cj]) d_AckBookModel_send_69) (fun v_ hv H locs cells slots hZ => ?_)
                  obtain ⟨v238, rfl, h⟩ := hv
                  generalize w1_ = w at h hZ
                  refine lv_if_eq (tgt := 77) hC.1 hC.2.1 d_AckBookModel_send_72 (by decide) (fun hc => ?_) (fun hc => ?_)
                  · have h := z_ifp hc h
                    refine x_aload_n hC d_AckBookModel_send_77 rfl (lv_at hl 0 rfl) ?_
                    refine x_getR hC hZ zc10 h (by decide) t_823 (fun _ h9 => h9) d_AckBookModel_send_78 (fun r239 h => ?_)
                    refine lv_iload_n hC.1 hC.2.1 d_AckBookModel_send_81 rfl (lv_at hl 1 rfl) ?_
                    refine x_ldI hC hZ h d_AckBookModel_send_82 (fun v240 h => ?_)
                    refine lv_istore (i := 5) (lv' := [(5, .int v240), (0, va_rf a0), (1, .int pI1), (2, .int pI2), (3, .int pI3), (4, .int pI4)]) hC.1 hC.2.1 d_AckBookModel_send_83 hl (by decide) (by first | rfl | simp [z_rfc, z_ci, z_cj]) (fun ls hl => ?_)
                    refine lv_sipush (v := (4096 : Int32)) hC.1 hC.2.1 d_AckBookModel_send_85 (by decide) ?_
                    refine lv_iload_n hC.1 hC.2.1 d_AckBookModel_send_88 rfl (lv_at hl 2 rfl) ?_
                    refine lv_imul hC.1 hC.2.1 d_AckBookModel_send_89 ?_
                    refine lv_iload hC.1 hC.2.1 d_AckBookModel_send_90 (lv_at hl 0 rfl) ?_
                    refine lv_iadd hC.1 hC.2.1 d_AckBookModel_send_92 ?_
                    refine lv_istore (i := 6) (lv' := [(6, .int (((4096 : Int32) * pI1) + v240)), (5, .int v240), (0, va_rf a0), (1, .int pI1), (2, .int pI2), (3, .int pI3), (4, .int pI4)]) hC.1 hC.2.1 d_AckBookModel_send_93 hl (by decide) (by first | rfl | simp [z_rfc, z_ci, z_cj]) (fun ls hl => ?_)
                    refine x_aload_n hC d_AckBookModel_send_95 rfl (lv_at hl 2 rfl) ?_
                    refine x_getR hC hZ zc10 h (by decide) t_824 (fun _ h9 => h9) d_AckBookModel_send_96 (fun r241 h => ?_)
                    refine lv_iload hC.1 hC.2.1 d_AckBookModel_send_99 (lv_at hl 0 rfl) ?_
                    refine lv_iload_n hC.1 hC.2.1 d_AckBookModel_send_101 rfl (lv_at hl 4 rfl) ?_
                    refine x_stI hC hZ h d_AckBookModel_send_102 (fun w H locs hZ h => ?_)
                    refine x_aload_n hC d_AckBookModel_send_103 rfl (lv_at hl 2 rfl) ?_
                    refine x_getR hC hZ zc10 h (by decide) t_825 (fun _ h9 => h9) d_AckBookModel_send_104 (fun r242 h => ?_)
                    refine lv_iload hC.1 hC.2.1 d_AckBookModel_send_107 (lv_at hl 0 rfl) ?_
                    refine x_aload_n hC d_AckBookModel_send_109 rfl (lv_at hl 2 rfl) ?_
                    refine x_getI hC hZ zc10 h (by decide) t_820 (fun _ h9 => h9) d_AckBookModel_send_110 (fun v243 h => ?_)
                    refine x_stI hC hZ h d_AckBookModel_send_113 (fun w H locs hZ h => ?_)
                    refine x_aload_n hC d_AckBookModel_send_114 rfl (lv_at hl 2 rfl) ?_
                    refine x_getR hC hZ zc10 h (by decide) t_826 (fun _ h9 => h9) d_AckBookModel_send_115 (fun r244 h => ?_)
                    refine lv_iload hC.1 hC.2.1 d_AckBookModel_send_118 (lv_at hl 0 rfl) ?_
                    refine lv_iconst (v := (0 : Int32)) hC.1 hC.2.1 d_AckBookModel_send_120 (by decide) ?_
                    refine x_stI hC hZ h d_AckBookModel_send_121 (fun w H locs hZ h => ?_)
                    refine x_aload_n hC d_AckBookModel_send_122 rfl (lv_at hl 2 rfl) ?_
                    refine x_getR hC hZ zc10 h (by decide) t_827 (fun _ h9 => h9) d_AckBookModel_send_123 (fun r245 h => ?_)
                    refine lv_iload hC.1 hC.2.1 d_AckBookModel_send_126 (lv_at hl 0 rfl) ?_
                    refine lv_iload_n hC.1 hC.2.1 d_AckBookModel_send_128 rfl (lv_at hl 5 rfl) ?_
                    refine x_stZ hC hZ h d_AckBookModel_send_129 (fun w H locs hZ h => ?_)
                    refine x_aload_n hC d_AckBookModel_send_130 rfl (lv_at hl 2 rfl) ?_
                    refine x_getR hC hZ zc10 h (by decide) t_828 (fun _ h9 => h9) d_AckBookModel_send_131 (fun r246 h => ?_)
                    refine lv_iload hC.1 hC.2.1 d_AckBookModel_send_134 (lv_at hl 0 rfl) ?_
                    refine lv_iload hC.1 hC.2.1 d_AckBookModel_send_136 (lv_at hl 6 rfl) ?_
                    refine x_stZ hC hZ h d_AckBookModel_send_138 (fun w H locs hZ h => ?_)
                    refine x_aload_n hC d_AckBookModel_send_139 rfl (lv_at hl 2 rfl) ?_
                    refine x_getR hC hZ zc10 h (by decide) t_823 (fun _ h9 => h9) d_AckBookModel_send_140 (fun r247 h => ?_)
                    refine lv_iload_n hC.1 hC.2.1 d_AckBookModel_send_143 rfl (lv_at hl 3 rfl) ?_
                    refine lv_dup2_11 hC.1 hC.2.1 d_AckBookModel_send_144 rfl (z_rfc _) ?_
                    refine x_ldI hC hZ h d_AckBookModel_send_145 (fun v248 h => ?_)
                    refine lv_iconst (v := (1 : Int32)) hC.1 hC.2.1 d_AckBookModel_send_146 (by decide) ?_
                    refine lv_iadd hC.1 hC.2.1 d_AckBookModel_send_147 ?_
                    refine x_stI hC hZ h d_AckBookModel_send_148 (fun w H locs hZ h => ?_)
                    refine x_aload_n hC d_AckBookModel_send_149 rfl (lv_at hl 2 rfl) ?_
                    refine x_aload_n hC d_AckBookModel_send_150 rfl (lv_at hl 2 rfl) ?_
                    refine x_getI hC hZ zc10 h (by decide) t_820 (fun _ h9 => h9) d_AckBookModel_send_151 (fun v249 h => ?_)
                    refine x_put hC hZ zc10 h (by decide) t_833 (fun _ h9 => h9) rfl rfl rfl rfl d_AckBookModel_send_154 (fun w H locs hZ h => ?_)
                    refine x_aload_n hC d_AckBookModel_send_157 rfl (lv_at hl 2 rfl) ?_
                    refine x_getR hC hZ zc10 h (by decide) t_829 (fun _ h9 => h9) d_AckBookModel_send_158 (fun r250 h => ?_)
                    refine lv_iload hC.1 hC.2.1 d_AckBookModel_send_161 (lv_at hl 0 rfl) ?_
                    refine x_aload_n hC d_AckBookModel_send_163 rfl (lv_at hl 2 rfl) ?_
                    obtain ⟨a_, fs_, eo_, h⟩ := z_this_spec h
                    obtain ⟨w1_, o1_, hF_, ha_⟩ := z_cI_spec h
                    refine x_goes hC hRc hRs hFr ha_ (z_goV (As := []) hC hZ zc10 eo_ (k_AckBookModel_flight hT hfl hE _ _ hF_) t_951 t_953 ts_AckBookModel_flight t_12 t_954 ⟨by decide, by decide, (by decide +kernel : (parseMethodDescriptor y_AckBookModel_flight.desc).map (fun d => d.parameters.length) = some 0)⟩ (by rw [hRt.1]; decide) (by rw [hRt.2]; decide) hl.1 rfl (by first | exact Nat.le_of_ble_eq_true rfl | simp [z_rfc, z_ci, z_cj]) d_AckBookModel_send_164) (fun v_ hv H locs cells slots hZ => ?_)
                    obtain ⟨v252, rfl, h⟩ := hv
                    generalize w1_ = w at h hZ
                    refine x_aload_n hC d_AckBookModel_send_167 rfl (lv_at hl 2 rfl) ?_
                    refine x_getI hC hZ zc10 h (by decide) t_843 (fun _ h9 => h9) d_AckBookModel_send_168 (fun v253 h => ?_)
                    refine lv_sipush (v := (1200 : Int32)) hC.1 hC.2.1 d_AckBookModel_send_171 (by decide) ?_
                    refine lv_isub hC.1 hC.2.1 d_AckBookModel_send_174 ?_
                    refine lv_icmp_le (tgt := 182) hC.1 hC.2.1 d_AckBookModel_send_175 (by decide) (fun hc => ?_) (fun hc => ?_)
                    · have h := z_ifp hc h
                      refine lv_iconst (v := (0 : Int32)) hC.1 hC.2.1 d_AckBookModel_send_182 (by decide) ?_
                      refine x_stZ hC hZ h d_AckBookModel_send_183 (fun w H locs hZ h => ?_)
                      refine lv_iload hC.1 hC.2.1 d_AckBookModel_send_184 (lv_at hl 1 rfl) ?_
                      exact x_iret hC hRc hRs hZ hr rfl h d_AckBookModel_send_186
                    · have h := z_ifn hc h
                      refine lv_iconst (v := (1 : Int32)) hC.1 hC.2.1 d_AckBookModel_send_178 (by decide) ?_
                      refine lv_goto (tgt := 183) hC.1 hC.2.1 d_AckBookModel_send_179 (by decide) ?_
                      refine x_stZ hC hZ h d_AckBookModel_send_183 (fun w H locs hZ h => ?_)
                      refine lv_iload hC.1 hC.2.1 d_AckBookModel_send_184 (lv_at hl 1 rfl) ?_
                      exact x_iret hC hRc hRs hZ hr rfl h d_AckBookModel_send_186
                  · have h := z_ifn hc h
                    refine lv_iconst (v := (0 : Int32)) hC.1 hC.2.1 d_AckBookModel_send_75 (by decide) ?_
                    exact x_iret hC hRc hRs hZ hr rfl h d_AckBookModel_send_76
          · have h := z_ifp hc h
            refine lv_iconst (v := (1 : Int32)) hC.1 hC.2.1 d_AckBookModel_send_29 (by decide) ?_
            refine lv_goto (tgt := 34) hC.1 hC.2.1 d_AckBookModel_send_30 (by decide) ?_
            refine lv_iconst (v := (1 : Int32)) hC.1 hC.2.1 d_AckBookModel_send_34 (by decide) ?_
            obtain ⟨a_, fs_, eo_, h⟩ := z_this_spec h
            obtain ⟨w1_, o1_, hF_, ha_⟩ := z_cI_spec h
            refine x_goes hC hRc hRs hFr ha_ (z_goV (As := [.int (1 : Int32), .int (1 : Int32)]) hC hZ zc10 eo_ (k_AckBookModel_fails hT hfl hE _ _ hF_) t_947 t_949 ts_AckBookModel_fails t_12 t_950 ⟨by decide, by decide, (by decide +kernel : (parseMethodDescriptor y_AckBookModel_fails.desc).map (fun d => d.parameters.length) = some 2)⟩ (by rw [hRt.1]; decide) (by rw [hRt.2]; decide) hl.1 rfl (by first | exact Nat.le_of_ble_eq_true rfl | simp [z_rfc, z_ci, z_cj]) d_AckBookModel_send_35) (fun v_ hv H locs cells slots hZ => ?_)
            obtain ⟨v175, rfl, h⟩ := hv
            generalize w1_ = w at h hZ
            refine lv_if_ne (tgt := 75) hC.1 hC.2.1 d_AckBookModel_send_38 (by decide) (fun hc => ?_) (fun hc => ?_)
            · have h := z_ifn hc h
              refine lv_iconst (v := (0 : Int32)) hC.1 hC.2.1 d_AckBookModel_send_75 (by decide) ?_
              exact x_iret hC hRc hRs hZ hr rfl h d_AckBookModel_send_76
            · have h := z_ifp hc h
              refine x_aload_n hC d_AckBookModel_send_41 rfl (lv_at hl 0 rfl) ?_
              refine x_aload_n hC d_AckBookModel_send_42 rfl (lv_at hl 0 rfl) ?_
              refine x_getR hC hZ zc10 h (by decide) t_830 (fun _ h9 => h9) d_AckBookModel_send_43 (fun r176 h => ?_)
              refine lv_iload_n hC.1 hC.2.1 d_AckBookModel_send_46 rfl (lv_at hl 1 rfl) ?_
              refine x_ldZ hC hZ h d_AckBookModel_send_47 (fun v177 h => ?_)
              refine lv_if_ne (tgt := 63) hC.1 hC.2.1 d_AckBookModel_send_48 (by decide) (fun hc => ?_) (fun hc => ?_)
              · have h := z_ifn hc h
                refine lv_iconst (v := (1 : Int32)) hC.1 hC.2.1 d_AckBookModel_send_63 (by decide) ?_
                refine lv_goto (tgt := 68) hC.1 hC.2.1 d_AckBookModel_send_64 (by decide) ?_
                refine lv_iconst (v := (2 : Int32)) hC.1 hC.2.1 d_AckBookModel_send_68 (by decide) ?_
                obtain ⟨a_, fs_, eo_, h⟩ := z_this_spec h
                obtain ⟨w1_, o1_, hF_, ha_⟩ := z_cI_spec h
                refine x_goes hC hRc hRs hFr ha_ (z_goV (As := [.int (1 : Int32), .int (2 : Int32)]) hC hZ zc10 eo_ (k_AckBookModel_fails hT hfl hE _ _ hF_) t_947 t_949 ts_AckBookModel_fails t_12 t_950 ⟨by decide, by decide, (by decide +kernel : (parseMethodDescriptor y_AckBookModel_fails.desc).map (fun d => d.parameters.length) = some 2)⟩ (by rw [hRt.1]; decide) (by rw [hRt.2]; decide) hl.1 rfl (by first | exact Nat.le_of_ble_eq_true rfl | simp [z_rfc, z_ci, z_cj]) d_AckBookModel_send_69) (fun v_ hv H locs cells slots hZ => ?_)
                obtain ⟨v215, rfl, h⟩ := hv
                generalize w1_ = w at h hZ
                refine lv_if_eq (tgt := 77) hC.1 hC.2.1 d_AckBookModel_send_72 (by decide) (fun hc => ?_) (fun hc => ?_)
                · have h := z_ifp hc h
                  refine x_aload_n hC d_AckBookModel_send_77 rfl (lv_at hl 0 rfl) ?_
                  refine x_getR hC hZ zc10 h (by decide) t_823 (fun _ h9 => h9) d_AckBookModel_send_78 (fun r216 h => ?_)
                  refine lv_iload_n hC.1 hC.2.1 d_AckBookModel_send_81 rfl (lv_at hl 1 rfl) ?_
                  refine x_ldI hC hZ h d_AckBookModel_send_82 (fun v217 h => ?_)
                  refine lv_istore (i := 5) (lv' := [(5, .int v217), (0, va_rf a0), (1, .int pI1), (2, .int pI2), (3, .int pI3), (4, .int pI4)]) hC.1 hC.2.1 d_AckBookModel_send_83 hl (by decide) (by first | rfl | simp [z_rfc, z_ci, z_cj]) (fun ls hl => ?_)
                  refine lv_sipush (v := (4096 : Int32)) hC.1 hC.2.1 d_AckBookModel_send_85 (by decide) ?_
                  refine lv_iload_n hC.1 hC.2.1 d_AckBookModel_send_88 rfl (lv_at hl 2 rfl) ?_
                  refine lv_imul hC.1 hC.2.1 d_AckBookModel_send_89 ?_
                  refine lv_iload hC.1 hC.2.1 d_AckBookModel_send_90 (lv_at hl 0 rfl) ?_
                  refine lv_iadd hC.1 hC.2.1 d_AckBookModel_send_92 ?_
                  refine lv_istore (i := 6) (lv' := [(6, .int (((4096 : Int32) * pI1) + v217)), (5, .int v217), (0, va_rf a0), (1, .int pI1), (2, .int pI2), (3, .int pI3), (4, .int pI4)]) hC.1 hC.2.1 d_AckBookModel_send_93 hl (by decide) (by first | rfl | simp [z_rfc, z_ci, z_cj]) (fun ls hl => ?_)
                  refine x_aload_n hC d_AckBookModel_send_95 rfl (lv_at hl 2 rfl) ?_
                  refine x_getR hC hZ zc10 h (by decide) t_824 (fun _ h9 => h9) d_AckBookModel_send_96 (fun r218 h => ?_)
                  refine lv_iload hC.1 hC.2.1 d_AckBookModel_send_99 (lv_at hl 0 rfl) ?_
                  refine lv_iload_n hC.1 hC.2.1 d_AckBookModel_send_101 rfl (lv_at hl 4 rfl) ?_
                  refine x_stI hC hZ h d_AckBookModel_send_102 (fun w H locs hZ h => ?_)
                  refine x_aload_n hC d_AckBookModel_send_103 rfl (lv_at hl 2 rfl) ?_
                  refine x_getR hC hZ zc10 h (by decide) t_825 (fun _ h9 => h9) d_AckBookModel_send_104 (fun r219 h => ?_)
                  refine lv_iload hC.1 hC.2.1 d_AckBookModel_send_107 (lv_at hl 0 rfl) ?_
                  refine x_aload_n hC d_AckBookModel_send_109 rfl (lv_at hl 2 rfl) ?_
                  refine x_getI hC hZ zc10 h (by decide) t_820 (fun _ h9 => h9) d_AckBookModel_send_110 (fun v220 h => ?_)
                  refine x_stI hC hZ h d_AckBookModel_send_113 (fun w H locs hZ h => ?_)
                  refine x_aload_n hC d_AckBookModel_send_114 rfl (lv_at hl 2 rfl) ?_
                  refine x_getR hC hZ zc10 h (by decide) t_826 (fun _ h9 => h9) d_AckBookModel_send_115 (fun r221 h => ?_)
                  refine lv_iload hC.1 hC.2.1 d_AckBookModel_send_118 (lv_at hl 0 rfl) ?_
                  refine lv_iconst (v := (0 : Int32)) hC.1 hC.2.1 d_AckBookModel_send_120 (by decide) ?_
                  refine x_stI hC hZ h d_AckBookModel_send_121 (fun w H locs hZ h => ?_)
                  refine x_aload_n hC d_AckBookModel_send_122 rfl (lv_at hl 2 rfl) ?_
                  refine x_getR hC hZ zc10 h (by decide) t_827 (fun _ h9 => h9) d_AckBookModel_send_123 (fun r222 h => ?_)
                  refine lv_iload hC.1 hC.2.1 d_AckBookModel_send_126 (lv_at hl 0 rfl) ?_
                  refine lv_iload_n hC.1 hC.2.1 d_AckBookModel_send_128 rfl (lv_at hl 5 rfl) ?_
                  refine x_stZ hC hZ h d_AckBookModel_send_129 (fun w H locs hZ h => ?_)
                  refine x_aload_n hC d_AckBookModel_send_130 rfl (lv_at hl 2 rfl) ?_
                  refine x_getR hC hZ zc10 h (by decide) t_828 (fun _ h9 => h9) d_AckBookModel_send_131 (fun r223 h => ?_)
                  refine lv_iload hC.1 hC.2.1 d_AckBookModel_send_134 (lv_at hl 0 rfl) ?_
                  refine lv_iload hC.1 hC.2.1 d_AckBookModel_send_136 (lv_at hl 6 rfl) ?_
                  refine x_stZ hC hZ h d_AckBookModel_send_138 (fun w H locs hZ h => ?_)
                  refine x_aload_n hC d_AckBookModel_send_139 rfl (lv_at hl 2 rfl) ?_
                  refine x_getR hC hZ zc10 h (by decide) t_823 (fun _ h9 => h9) d_AckBookModel_send_140 (fun r224 h => ?_)
                  refine lv_iload_n hC.1 hC.2.1 d_AckBookModel_send_143 rfl (lv_at hl 3 rfl) ?_
                  refine lv_dup2_11 hC.1 hC.2.1 d_AckBookModel_send_144 rfl (z_rfc _) ?_
                  refine x_ldI hC hZ h d_AckBookModel_send_145 (fun v225 h => ?_)
                  refine lv_iconst (v := (1 : Int32)) hC.1 hC.2.1 d_AckBookModel_send_146 (by decide) ?_
                  refine lv_iadd hC.1 hC.2.1 d_AckBookModel_send_147 ?_
                  refine x_stI hC hZ h d_AckBookModel_send_148 (fun w H locs hZ h => ?_)
                  refine x_aload_n hC d_AckBookModel_send_149 rfl (lv_at hl 2 rfl) ?_
                  refine x_aload_n hC d_AckBookModel_send_150 rfl (lv_at hl 2 rfl) ?_
                  refine x_getI hC hZ zc10 h (by decide) t_820 (fun _ h9 => h9) d_AckBookModel_send_151 (fun v226 h => ?_)
                  refine x_put hC hZ zc10 h (by decide) t_833 (fun _ h9 => h9) rfl rfl rfl rfl d_AckBookModel_send_154 (fun w H locs hZ h => ?_)
                  refine x_aload_n hC d_AckBookModel_send_157 rfl (lv_at hl 2 rfl) ?_
                  refine x_getR hC hZ zc10 h (by decide) t_829 (fun _ h9 => h9) d_AckBookModel_send_158 (fun r227 h => ?_)
                  refine lv_iload hC.1 hC.2.1 d_AckBookModel_send_161 (lv_at hl 0 rfl) ?_
                  refine x_aload_n hC d_AckBookModel_send_163 rfl (lv_at hl 2 rfl) ?_
                  obtain ⟨a_, fs_, eo_, h⟩ := z_this_spec h
                  obtain ⟨w1_, o1_, hF_, ha_⟩ := z_cI_spec h
                  refine x_goes hC hRc hRs hFr ha_ (z_goV (As := []) hC hZ zc10 eo_ (k_AckBookModel_flight hT hfl hE _ _ hF_) t_951 t_953 ts_AckBookModel_flight t_12 t_954 ⟨by decide, by decide, (by decide +kernel : (parseMethodDescriptor y_AckBookModel_flight.desc).map (fun d => d.parameters.length) = some 0)⟩ (by rw [hRt.1]; decide) (by rw [hRt.2]; decide) hl.1 rfl (by first | exact Nat.le_of_ble_eq_true rfl | simp [z_rfc, z_ci, z_cj]) d_AckBookModel_send_164) (fun v_ hv H locs cells slots hZ => ?_)
                  obtain ⟨v229, rfl, h⟩ := hv
                  generalize w1_ = w at h hZ
                  refine x_aload_n hC d_AckBookModel_send_167 rfl (lv_at hl 2 rfl) ?_
                  refine x_getI hC hZ zc10 h (by decide) t_843 (fun _ h9 => h9) d_AckBookModel_send_168 (fun v230 h => ?_)
                  refine lv_sipush (v := (1200 : Int32)) hC.1 hC.2.1 d_AckBookModel_send_171 (by decide) ?_
                  refine lv_isub hC.1 hC.2.1 d_AckBookModel_send_174 ?_
                  refine lv_icmp_le (tgt := 182) hC.1 hC.2.1 d_AckBookModel_send_175 (by decide) (fun hc => ?_) (fun hc => ?_)
                  · have h := z_ifp hc h
                    refine lv_iconst (v := (0 : Int32)) hC.1 hC.2.1 d_AckBookModel_send_182 (by decide) ?_
                    refine x_stZ hC hZ h d_AckBookModel_send_183 (fun w H locs hZ h => ?_)
                    refine lv_iload hC.1 hC.2.1 d_AckBookModel_send_184 (lv_at hl 1 rfl) ?_
                    exact x_iret hC hRc hRs hZ hr rfl h d_AckBookModel_send_186
                  · have h := z_ifn hc h
                    refine lv_iconst (v := (1 : Int32)) hC.1 hC.2.1 d_AckBookModel_send_178 (by decide) ?_
                    refine lv_goto (tgt := 183) hC.1 hC.2.1 d_AckBookModel_send_179 (by decide) ?_
                    refine x_stZ hC hZ h d_AckBookModel_send_183 (fun w H locs hZ h => ?_)
                    refine lv_iload hC.1 hC.2.1 d_AckBookModel_send_184 (lv_at hl 1 rfl) ?_
                    exact x_iret hC hRc hRs hZ hr rfl h d_AckBookModel_send_186
                · have h := z_ifn hc h
                  refine lv_iconst (v := (0 : Int32)) hC.1 hC.2.1 d_AckBookModel_send_75 (by decide) ?_
                  exact x_iret hC hRc hRs hZ hr rfl h d_AckBookModel_send_76
              · have h := z_ifp hc h
                refine x_aload_n hC d_AckBookModel_send_51 rfl (lv_at hl 0 rfl) ?_
                refine x_getR hC hZ zc10 h (by decide) t_823 (fun _ h9 => h9) d_AckBookModel_send_52 (fun r178 h => ?_)
                refine lv_iload_n hC.1 hC.2.1 d_AckBookModel_send_55 rfl (lv_at hl 1 rfl) ?_
                refine x_ldI hC hZ h d_AckBookModel_send_56 (fun v179 h => ?_)
                refine lv_sipush (v := (4096 : Int32)) hC.1 hC.2.1 d_AckBookModel_send_57 (by decide) ?_
                refine lv_icmp_ne (tgt := 67) hC.1 hC.2.1 d_AckBookModel_send_60 (by decide) (fun hc => ?_) (fun hc => ?_)
                · have h := z_ifn hc h
                  refine lv_iconst (v := (0 : Int32)) hC.1 hC.2.1 d_AckBookModel_send_67 (by decide) ?_
                  refine lv_iconst (v := (2 : Int32)) hC.1 hC.2.1 d_AckBookModel_send_68 (by decide) ?_
                  obtain ⟨a_, fs_, eo_, h⟩ := z_this_spec h
                  obtain ⟨w1_, o1_, hF_, ha_⟩ := z_cI_spec h
                  refine x_goes hC hRc hRs hFr ha_ (z_goV (As := [.int (0 : Int32), .int (2 : Int32)]) hC hZ zc10 eo_ (k_AckBookModel_fails hT hfl hE _ _ hF_) t_947 t_949 ts_AckBookModel_fails t_12 t_950 ⟨by decide, by decide, (by decide +kernel : (parseMethodDescriptor y_AckBookModel_fails.desc).map (fun d => d.parameters.length) = some 2)⟩ (by rw [hRt.1]; decide) (by rw [hRt.2]; decide) hl.1 rfl (by first | exact Nat.le_of_ble_eq_true rfl | simp [z_rfc, z_ci, z_cj]) d_AckBookModel_send_69) (fun v_ hv H locs cells slots hZ => ?_)
                  obtain ⟨v198, rfl, h⟩ := hv
                  generalize w1_ = w at h hZ
                  refine lv_if_eq (tgt := 77) hC.1 hC.2.1 d_AckBookModel_send_72 (by decide) (fun hc => ?_) (fun hc => ?_)
                  · have h := z_ifp hc h
                    refine x_aload_n hC d_AckBookModel_send_77 rfl (lv_at hl 0 rfl) ?_
                    refine x_getR hC hZ zc10 h (by decide) t_823 (fun _ h9 => h9) d_AckBookModel_send_78 (fun r199 h => ?_)
                    refine lv_iload_n hC.1 hC.2.1 d_AckBookModel_send_81 rfl (lv_at hl 1 rfl) ?_
                    refine x_ldI hC hZ h d_AckBookModel_send_82 (fun v200 h => ?_)
                    refine lv_istore (i := 5) (lv' := [(5, .int v200), (0, va_rf a0), (1, .int pI1), (2, .int pI2), (3, .int pI3), (4, .int pI4)]) hC.1 hC.2.1 d_AckBookModel_send_83 hl (by decide) (by first | rfl | simp [z_rfc, z_ci, z_cj]) (fun ls hl => ?_)
                    refine lv_sipush (v := (4096 : Int32)) hC.1 hC.2.1 d_AckBookModel_send_85 (by decide) ?_
                    refine lv_iload_n hC.1 hC.2.1 d_AckBookModel_send_88 rfl (lv_at hl 2 rfl) ?_
                    refine lv_imul hC.1 hC.2.1 d_AckBookModel_send_89 ?_
                    refine lv_iload hC.1 hC.2.1 d_AckBookModel_send_90 (lv_at hl 0 rfl) ?_
                    refine lv_iadd hC.1 hC.2.1 d_AckBookModel_send_92 ?_
                    refine lv_istore (i := 6) (lv' := [(6, .int (((4096 : Int32) * pI1) + v200)), (5, .int v200), (0, va_rf a0), (1, .int pI1), (2, .int pI2), (3, .int pI3), (4, .int pI4)]) hC.1 hC.2.1 d_AckBookModel_send_93 hl (by decide) (by first | rfl | simp [z_rfc, z_ci, z_cj]) (fun ls hl => ?_)
                    refine x_aload_n hC d_AckBookModel_send_95 rfl (lv_at hl 2 rfl) ?_
                    refine x_getR hC hZ zc10 h (by decide) t_824 (fun _ h9 => h9) d_AckBookModel_send_96 (fun r201 h => ?_)
                    refine lv_iload hC.1 hC.2.1 d_AckBookModel_send_99 (lv_at hl 0 rfl) ?_
                    refine lv_iload_n hC.1 hC.2.1 d_AckBookModel_send_101 rfl (lv_at hl 4 rfl) ?_
                    refine x_stI hC hZ h d_AckBookModel_send_102 (fun w H locs hZ h => ?_)
                    refine x_aload_n hC d_AckBookModel_send_103 rfl (lv_at hl 2 rfl) ?_
                    refine x_getR hC hZ zc10 h (by decide) t_825 (fun _ h9 => h9) d_AckBookModel_send_104 (fun r202 h => ?_)
                    refine lv_iload hC.1 hC.2.1 d_AckBookModel_send_107 (lv_at hl 0 rfl) ?_
                    refine x_aload_n hC d_AckBookModel_send_109 rfl (lv_at hl 2 rfl) ?_
                    refine x_getI hC hZ zc10 h (by decide) t_820 (fun _ h9 => h9) d_AckBookModel_send_110 (fun v203 h => ?_)
                    refine x_stI hC hZ h d_AckBookModel_send_113 (fun w H locs hZ h => ?_)
                    refine x_aload_n hC d_AckBookModel_send_114 rfl (lv_at hl 2 rfl) ?_
                    refine x_getR hC hZ zc10 h (by decide) t_826 (fun _ h9 => h9) d_AckBookModel_send_115 (fun r204 h => ?_)
                    refine lv_iload hC.1 hC.2.1 d_AckBookModel_send_118 (lv_at hl 0 rfl) ?_
                    refine lv_iconst (v := (0 : Int32)) hC.1 hC.2.1 d_AckBookModel_send_120 (by decide) ?_
                    refine x_stI hC hZ h d_AckBookModel_send_121 (fun w H locs hZ h => ?_)
                    refine x_aload_n hC d_AckBookModel_send_122 rfl (lv_at hl 2 rfl) ?_
                    refine x_getR hC hZ zc10 h (by decide) t_827 (fun _ h9 => h9) d_AckBookModel_send_123 (fun r205 h => ?_)
                    refine lv_iload hC.1 hC.2.1 d_AckBookModel_send_126 (lv_at hl 0 rfl) ?_
                    refine lv_iload_n hC.1 hC.2.1 d_AckBookModel_send_128 rfl (lv_at hl 5 rfl) ?_
                    refine x_stZ hC hZ h d_AckBookModel_send_129 (fun w H locs hZ h => ?_)
                    refine x_aload_n hC d_AckBookModel_send_130 rfl (lv_at hl 2 rfl) ?_
                    refine x_getR hC hZ zc10 h (by decide) t_828 (fun _ h9 => h9) d_AckBookModel_send_131 (fun r206 h => ?_)
                    refine lv_iload hC.1 hC.2.1 d_AckBookModel_send_134 (lv_at hl 0 rfl) ?_
                    refine lv_iload hC.1 hC.2.1 d_AckBookModel_send_136 (lv_at hl 6 rfl) ?_
                    refine x_stZ hC hZ h d_AckBookModel_send_138 (fun w H locs hZ h => ?_)
                    refine x_aload_n hC d_AckBookModel_send_139 rfl (lv_at hl 2 rfl) ?_
                    refine x_getR hC hZ zc10 h (by decide) t_823 (fun _ h9 => h9) d_AckBookModel_send_140 (fun r207 h => ?_)
                    refine lv_iload_n hC.1 hC.2.1 d_AckBookModel_send_143 rfl (lv_at hl 3 rfl) ?_
                    refine lv_dup2_11 hC.1 hC.2.1 d_AckBookModel_send_144 rfl (z_rfc _) ?_
                    refine x_ldI hC hZ h d_AckBookModel_send_145 (fun v208 h => ?_)
                    refine lv_iconst (v := (1 : Int32)) hC.1 hC.2.1 d_AckBookModel_send_146 (by decide) ?_
                    refine lv_iadd hC.1 hC.2.1 d_AckBookModel_send_147 ?_
                    refine x_stI hC hZ h d_AckBookModel_send_148 (fun w H locs hZ h => ?_)
                    refine x_aload_n hC d_AckBookModel_send_149 rfl (lv_at hl 2 rfl) ?_
                    refine x_aload_n hC d_AckBookModel_send_150 rfl (lv_at hl 2 rfl) ?_
                    refine x_getI hC hZ zc10 h (by decide) t_820 (fun _ h9 => h9) d_AckBookModel_send_151 (fun v209 h => ?_)
                    refine x_put hC hZ zc10 h (by decide) t_833 (fun _ h9 => h9) rfl rfl rfl rfl d_AckBookModel_send_154 (fun w H locs hZ h => ?_)
                    refine x_aload_n hC d_AckBookModel_send_157 rfl (lv_at hl 2 rfl) ?_
                    refine x_getR hC hZ zc10 h (by decide) t_829 (fun _ h9 => h9) d_AckBookModel_send_158 (fun r210 h => ?_)
                    refine lv_iload hC.1 hC.2.1 d_AckBookModel_send_161 (lv_at hl 0 rfl) ?_
                    refine x_aload_n hC d_AckBookModel_send_163 rfl (lv_at hl 2 rfl) ?_
                    obtain ⟨a_, fs_, eo_, h⟩ := z_this_spec h
                    obtain ⟨w1_, o1_, hF_, ha_⟩ := z_cI_spec h
                    refine x_goes hC hRc hRs hFr ha_ (z_goV (As := []) hC hZ zc10 eo_ (k_AckBookModel_flight hT hfl hE _ _ hF_) t_951 t_953 ts_AckBookModel_flight t_12 t_954 ⟨by decide, by decide, (by decide +kernel : (parseMethodDescriptor y_AckBookModel_flight.desc).map (fun d => d.parameters.length) = some 0)⟩ (by rw [hRt.1]; decide) (by rw [hRt.2]; decide) hl.1 rfl (by first | exact Nat.le_of_ble_eq_true rfl | simp [z_rfc, z_ci, z_cj]) d_AckBookModel_send_164) (fun v_ hv H locs cells slots hZ => ?_)
                    obtain ⟨v212, rfl, h⟩ := hv
                    generalize w1_ = w at h hZ
                    refine x_aload_n hC d_AckBookModel_send_167 rfl (lv_at hl 2 rfl) ?_
                    refine x_getI hC hZ zc10 h (by decide) t_843 (fun _ h9 => h9) d_AckBookModel_send_168 (fun v213 h => ?_)
                    refine lv_sipush (v := (1200 : Int32)) hC.1 hC.2.1 d_AckBookModel_send_171 (by decide) ?_
                    refine lv_isub hC.1 hC.2.1 d_AckBookModel_send_174 ?_
                    refine lv_icmp_le (tgt := 182) hC.1 hC.2.1 d_AckBookModel_send_175 (by decide) (fun hc => ?_) (fun hc => ?_)
                    · have h := z_ifp hc h
                      refine lv_iconst (v := (0 : Int32)) hC.1 hC.2.1 d_AckBookModel_send_182 (by decide) ?_
                      refine x_stZ hC hZ h d_AckBookModel_send_183 (fun w H locs hZ h => ?_)
                      refine lv_iload hC.1 hC.2.1 d_AckBookModel_send_184 (lv_at hl 1 rfl) ?_
                      exact x_iret hC hRc hRs hZ hr rfl h d_AckBookModel_send_186
                    · have h := z_ifn hc h
                      refine lv_iconst (v := (1 : Int32)) hC.1 hC.2.1 d_AckBookModel_send_178 (by decide) ?_
                      refine lv_goto (tgt := 183) hC.1 hC.2.1 d_AckBookModel_send_179 (by decide) ?_
                      refine x_stZ hC hZ h d_AckBookModel_send_183 (fun w H locs hZ h => ?_)
                      refine lv_iload hC.1 hC.2.1 d_AckBookModel_send_184 (lv_at hl 1 rfl) ?_
                      exact x_iret hC hRc hRs hZ hr rfl h d_AckBookModel_send_186
                  · have h := z_ifn hc h
                    refine lv_iconst (v := (0 : Int32)) hC.1 hC.2.1 d_AckBookModel_send_75 (by decide) ?_
                    exact x_iret hC hRc hRs hZ hr rfl h d_AckBookModel_send_76
                · have h := z_ifp hc h
                  refine lv_iconst (v := (1 : Int32)) hC.1 hC.2.1 d_AckBookModel_send_63 (by decide) ?_
                  refine lv_goto (tgt := 68) hC.1 hC.2.1 d_AckBookModel_send_64 (by decide) ?_
                  refine lv_iconst (v := (2 : Int32)) hC.1 hC.2.1 d_AckBookModel_send_68 (by decide) ?_
                  obtain ⟨a_, fs_, eo_, h⟩ := z_this_spec h
                  obtain ⟨w1_, o1_, hF_, ha_⟩ := z_cI_spec h
                  refine x_goes hC hRc hRs hFr ha_ (z_goV (As := [.int (1 : Int32), .int (2 : Int32)]) hC hZ zc10 eo_ (k_AckBookModel_fails hT hfl hE _ _ hF_) t_947 t_949 ts_AckBookModel_fails t_12 t_950 ⟨by decide, by decide, (by decide +kernel : (parseMethodDescriptor y_AckBookModel_fails.desc).map (fun d => d.parameters.length) = some 2)⟩ (by rw [hRt.1]; decide) (by rw [hRt.2]; decide) hl.1 rfl (by first | exact Nat.le_of_ble_eq_true rfl | simp [z_rfc, z_ci, z_cj]) d_AckBookModel_send_69) (fun v_ hv H locs cells slots hZ => ?_)
                  obtain ⟨v181, rfl, h⟩ := hv
                  generalize w1_ = w at h hZ
                  refine lv_if_eq (tgt := 77) hC.1 hC.2.1 d_AckBookModel_send_72 (by decide) (fun hc => ?_) (fun hc => ?_)
                  · have h := z_ifp hc h
                    refine x_aload_n hC d_AckBookModel_send_77 rfl (lv_at hl 0 rfl) ?_
                    refine x_getR hC hZ zc10 h (by decide) t_823 (fun _ h9 => h9) d_AckBookModel_send_78 (fun r182 h => ?_)
                    refine lv_iload_n hC.1 hC.2.1 d_AckBookModel_send_81 rfl (lv_at hl 1 rfl) ?_
                    refine x_ldI hC hZ h d_AckBookModel_send_82 (fun v183 h => ?_)
                    refine lv_istore (i := 5) (lv' := [(5, .int v183), (0, va_rf a0), (1, .int pI1), (2, .int pI2), (3, .int pI3), (4, .int pI4)]) hC.1 hC.2.1 d_AckBookModel_send_83 hl (by decide) (by first | rfl | simp [z_rfc, z_ci, z_cj]) (fun ls hl => ?_)
                    refine lv_sipush (v := (4096 : Int32)) hC.1 hC.2.1 d_AckBookModel_send_85 (by decide) ?_
                    refine lv_iload_n hC.1 hC.2.1 d_AckBookModel_send_88 rfl (lv_at hl 2 rfl) ?_
                    refine lv_imul hC.1 hC.2.1 d_AckBookModel_send_89 ?_
                    refine lv_iload hC.1 hC.2.1 d_AckBookModel_send_90 (lv_at hl 0 rfl) ?_
                    refine lv_iadd hC.1 hC.2.1 d_AckBookModel_send_92 ?_
                    refine lv_istore (i := 6) (lv' := [(6, .int (((4096 : Int32) * pI1) + v183)), (5, .int v183), (0, va_rf a0), (1, .int pI1), (2, .int pI2), (3, .int pI3), (4, .int pI4)]) hC.1 hC.2.1 d_AckBookModel_send_93 hl (by decide) (by first | rfl | simp [z_rfc, z_ci, z_cj]) (fun ls hl => ?_)
                    refine x_aload_n hC d_AckBookModel_send_95 rfl (lv_at hl 2 rfl) ?_
                    refine x_getR hC hZ zc10 h (by decide) t_824 (fun _ h9 => h9) d_AckBookModel_send_96 (fun r184 h => ?_)
                    refine lv_iload hC.1 hC.2.1 d_AckBookModel_send_99 (lv_at hl 0 rfl) ?_
                    refine lv_iload_n hC.1 hC.2.1 d_AckBookModel_send_101 rfl (lv_at hl 4 rfl) ?_
                    refine x_stI hC hZ h d_AckBookModel_send_102 (fun w H locs hZ h => ?_)
                    refine x_aload_n hC d_AckBookModel_send_103 rfl (lv_at hl 2 rfl) ?_
                    refine x_getR hC hZ zc10 h (by decide) t_825 (fun _ h9 => h9) d_AckBookModel_send_104 (fun r185 h => ?_)
                    refine lv_iload hC.1 hC.2.1 d_AckBookModel_send_107 (lv_at hl 0 rfl) ?_
                    refine x_aload_n hC d_AckBookModel_send_109 rfl (lv_at hl 2 rfl) ?_
                    refine x_getI hC hZ zc10 h (by decide) t_820 (fun _ h9 => h9) d_AckBookModel_send_110 (fun v186 h => ?_)
                    refine x_stI hC hZ h d_AckBookModel_send_113 (fun w H locs hZ h => ?_)
                    refine x_aload_n hC d_AckBookModel_send_114 rfl (lv_at hl 2 rfl) ?_
                    refine x_getR hC hZ zc10 h (by decide) t_826 (fun _ h9 => h9) d_AckBookModel_send_115 (fun r187 h => ?_)
                    refine lv_iload hC.1 hC.2.1 d_AckBookModel_send_118 (lv_at hl 0 rfl) ?_
                    refine lv_iconst (v := (0 : Int32)) hC.1 hC.2.1 d_AckBookModel_send_120 (by decide) ?_
                    refine x_stI hC hZ h d_AckBookModel_send_121 (fun w H locs hZ h => ?_)
                    refine x_aload_n hC d_AckBookModel_send_122 rfl (lv_at hl 2 rfl) ?_
                    refine x_getR hC hZ zc10 h (by decide) t_827 (fun _ h9 => h9) d_AckBookModel_send_123 (fun r188 h => ?_)
                    refine lv_iload hC.1 hC.2.1 d_AckBookModel_send_126 (lv_at hl 0 rfl) ?_
                    refine lv_iload_n hC.1 hC.2.1 d_AckBookModel_send_128 rfl (lv_at hl 5 rfl) ?_
                    refine x_stZ hC hZ h d_AckBookModel_send_129 (fun w H locs hZ h => ?_)
                    refine x_aload_n hC d_AckBookModel_send_130 rfl (lv_at hl 2 rfl) ?_
                    refine x_getR hC hZ zc10 h (by decide) t_828 (fun _ h9 => h9) d_AckBookModel_send_131 (fun r189 h => ?_)
                    refine lv_iload hC.1 hC.2.1 d_AckBookModel_send_134 (lv_at hl 0 rfl) ?_
                    refine lv_iload hC.1 hC.2.1 d_AckBookModel_send_136 (lv_at hl 6 rfl) ?_
                    refine x_stZ hC hZ h d_AckBookModel_send_138 (fun w H locs hZ h => ?_)
                    refine x_aload_n hC d_AckBookModel_send_139 rfl (lv_at hl 2 rfl) ?_
                    refine x_getR hC hZ zc10 h (by decide) t_823 (fun _ h9 => h9) d_AckBookModel_send_140 (fun r190 h => ?_)
                    refine lv_iload_n hC.1 hC.2.1 d_AckBookModel_send_143 rfl (lv_at hl 3 rfl) ?_
                    refine lv_dup2_11 hC.1 hC.2.1 d_AckBookModel_send_144 rfl (z_rfc _) ?_
                    refine x_ldI hC hZ h d_AckBookModel_send_145 (fun v191 h => ?_)
                    refine lv_iconst (v := (1 : Int32)) hC.1 hC.2.1 d_AckBookModel_send_146 (by decide) ?_
                    refine lv_iadd hC.1 hC.2.1 d_AckBookModel_send_147 ?_
                    refine x_stI hC hZ h d_AckBookModel_send_148 (fun w H locs hZ h => ?_)
                    refine x_aload_n hC d_AckBookModel_send_149 rfl (lv_at hl 2 rfl) ?_
                    refine x_aload_n hC d_AckBookModel_send_150 rfl (lv_at hl 2 rfl) ?_
                    refine x_getI hC hZ zc10 h (by decide) t_820 (fun _ h9 => h9) d_AckBookModel_send_151 (fun v192 h => ?_)
                    refine x_put hC hZ zc10 h (by decide) t_833 (fun _ h9 => h9) rfl rfl rfl rfl d_AckBookModel_send_154 (fun w H locs hZ h => ?_)
                    refine x_aload_n hC d_AckBookModel_send_157 rfl (lv_at hl 2 rfl) ?_
                    refine x_getR hC hZ zc10 h (by decide) t_829 (fun _ h9 => h9) d_AckBookModel_send_158 (fun r193 h => ?_)
                    refine lv_iload hC.1 hC.2.1 d_AckBookModel_send_161 (lv_at hl 0 rfl) ?_
                    refine x_aload_n hC d_AckBookModel_send_163 rfl (lv_at hl 2 rfl) ?_
                    obtain ⟨a_, fs_, eo_, h⟩ := z_this_spec h
                    obtain ⟨w1_, o1_, hF_, ha_⟩ := z_cI_spec h
                    refine x_goes hC hRc hRs hFr ha_ (z_goV (As := []) hC hZ zc10 eo_ (k_AckBookModel_flight hT hfl hE _ _ hF_) t_951 t_953 ts_AckBookModel_flight t_12 t_954 ⟨by decide, by decide, (by decide +kernel : (parseMethodDescriptor y_AckBookModel_flight.desc).map (fun d => d.parameters.length) = some 0)⟩ (by rw [hRt.1]; decide) (by rw [hRt.2]; decide) hl.1 rfl (by first | exact Nat.le_of_ble_eq_true rfl | simp [z_rfc, z_ci, z_cj]) d_AckBookModel_send_164) (fun v_ hv H locs cells slots hZ => ?_)
                    obtain ⟨v195, rfl, h⟩ := hv
                    generalize w1_ = w at h hZ
                    refine x_aload_n hC d_AckBookModel_send_167 rfl (lv_at hl 2 rfl) ?_
                    refine x_getI hC hZ zc10 h (by decide) t_843 (fun _ h9 => h9) d_AckBookModel_send_168 (fun v196 h => ?_)
                    refine lv_sipush (v := (1200 : Int32)) hC.1 hC.2.1 d_AckBookModel_send_171 (by decide) ?_
                    refine lv_isub hC.1 hC.2.1 d_AckBookModel_send_174 ?_
                    refine lv_icmp_le (tgt := 182) hC.1 hC.2.1 d_AckBookModel_send_175 (by decide) (fun hc => ?_) (fun hc => ?_)
                    · have h := z_ifp hc h
                      refine lv_iconst (v := (0 : Int32)) hC.1 hC.2.1 d_AckBookModel_send_182 (by decide) ?_
                      refine x_stZ hC hZ h d_AckBookModel_send_183 (fun w H locs hZ h => ?_)
                      refine lv_iload hC.1 hC.2.1 d_AckBookModel_send_184 (lv_at hl 1 rfl) ?_
                      exact x_iret hC hRc hRs hZ hr rfl h d_AckBookModel_send_186
                    · have h := z_ifn hc h
                      refine lv_iconst (v := (1 : Int32)) hC.1 hC.2.1 d_AckBookModel_send_178 (by decide) ?_
                      refine lv_goto (tgt := 183) hC.1 hC.2.1 d_AckBookModel_send_179 (by decide) ?_
                      refine x_stZ hC hZ h d_AckBookModel_send_183 (fun w H locs hZ h => ?_)
                      refine lv_iload hC.1 hC.2.1 d_AckBookModel_send_184 (lv_at hl 1 rfl) ?_
                      exact x_iret hC hRc hRs hZ hr rfl h d_AckBookModel_send_186
                  · have h := z_ifn hc h
                    refine lv_iconst (v := (0 : Int32)) hC.1 hC.2.1 d_AckBookModel_send_75 (by decide) ?_
                    exact x_iret hC hRc hRs hZ hr rfl h d_AckBookModel_send_76
