def f_AckBook_came (F X : Nat) (a0 : Option Nat) (pI1 : Int32) (pJ2 : Int64) (pI3 : Int32) (w : zW) : zR :=
  z_this w 0 a0 <|
  z_cR (f_AckBook_known F X a0 pI1 w) fun r2 w =>
  if (lg_cmp pJ2 (0 : Int64)) < 0 then (
    z_thr w 11)
  else (
    if (lg_cmp pJ2 (4611686018427387903 : Int64)) ≤ 0 then (
      z_cV (f_AckBook_refuseDiscarded F X r2 w) fun w =>
      z_getR w 1 2 r2 fun r4 =>
      z_getI w 0 4 a0 fun v5 =>
      z_this w 5 r4 <|
      z_cI (f_AckBook_Arrivals_enter F X r4 pJ2 pI3 v5 w) fun v7 w =>
      z_retZ v7 w)
    else (
      z_thr w 11))
set_option maxHeartbeats 4000000 in
set_option maxRecDepth 100000 in
theorem k_AckBook_came {b0 : Nat} {H0 : Heap} {D : va_G} {vu vs : Value} {X : Nat} {l : Launch} (hT : z_TB (zGG b0 H0 D vu vs X)) (hfl : l.flags = pinnedFlags ++ [noTraceFlag]) (hE : vu.isRef = true ∧ vs.isRef = true) {a0 : Option Nat} {pI1 : Int32} {pJ2 : Int64} {pI3 : Int32} (F : Nat) {w : zW} (res : zO × zW) (h : f_AckBook_came F X a0 pI1 pJ2 pI3 w = some res) : z_Ct (zGG b0 H0 D vu vs X) l y_AckBook_came (.code y_AckBook_came c_AckBook_came 6 (some FieldType.boolean)) 7 121 [va_rf a0, .int pI1, .long pJ2, .int pI3] w res := by
  refine z_ct hT hfl (by decide) (by simp only [z_sl_i, z_sl_j, z_sl_r, z_sl_n]; decide) ?_
  intro p e R s m args below meth c hC hr hRc hRs hRt hnm hFr H ls hZ hl
  simp only [z_la_i, z_la_j, z_la_r, z_la_n] at hl
  have hl : lv_has ls 6 [(0, va_rf a0), (1, .int pI1), (2, .long pJ2), (4, .int pI3)] := hl
  unfold f_AckBook_came at h
  refine x_aload_n hC d_AckBook_came_0 rfl (lv_at hl 0 rfl) ?_
  refine lv_iload_n hC.1 hC.2.1 d_AckBook_came_1 rfl (lv_at hl 1 rfl) ?_
  obtain ⟨a_, fs_, eo_, h⟩ := z_this_spec h
  obtain ⟨w1_, o1_, hF_, ha_⟩ := z_cR_spec h
  refine x_goes hC hRc hRs hFr ha_ (z_goV (As := [.int pI1]) hC hZ zc0 eo_ (k_AckBook_known hT hfl hE _ _ hF_) t_380 t_382 ts_AckBook_known t_1 t_383 ⟨by decide, by decide, (by decide +kernel : (parseMethodDescriptor y_AckBook_known.desc).map (fun d => d.parameters.length) = some 1)⟩ (by rw [hRt.1]; decide) (by rw [hRt.2]; decide) hl.1 rfl (by first | exact Nat.le_of_ble_eq_true rfl | simp [z_rfc, z_ci, z_cj]) d_AckBook_came_2) (fun v_ hv H locs cells slots hZ => ?_)
  obtain ⟨r2, rfl, h⟩ := hv
  generalize w1_ = w at h hZ
  refine x_astore (i := 5) (lv' := [(5, va_rf r2), (0, va_rf a0), (1, .int pI1), (2, .long pJ2), (4, .int pI3)]) hC d_AckBook_came_5 hl (by decide) (by first | rfl | simp [z_rfc, z_ci, z_cj]) (fun ls hl => ?_)
  refine lv_lload_n hC.1 hC.2.1 d_AckBook_came_7 rfl (lv_at hl 3 rfl) ?_
  refine lv_lconst (v := (0 : Int64)) hC.1 hC.2.1 d_AckBook_came_8 (by decide) ?_
  refine W.lcmp hC.1 hC.2.1 d_AckBook_came_9 ?_
  refine lv_if_lt (tgt := 21) hC.1 hC.2.1 d_AckBook_came_10 (by decide) (fun hc => ?_) (fun hc => ?_)
  · have h := z_ifp hc h
    exact x_thr (names := ["java/lang/RuntimeException", "java/lang/Exception"]) hC hRc hRs hFr hZ rfl h ⟨List.mem_cons_self, hE.1⟩ ⟨List.mem_cons_of_mem _ List.mem_cons_self, hE.2⟩ (by decide +kernel) (by decide +kernel) at_AckBook_47 t_385 t_384 t_16 t_724 hl.1 d_AckBook_came_21 d_AckBook_came_24 d_AckBook_came_25 d_AckBook_came_27 d_AckBook_came_30 (by rw [hRt.1]; decide) (by rw [hRt.2]; first | exact Nat.le_of_ble_eq_true rfl | simp [z_rfc, z_ci, z_cj])
  · have h := z_ifn hc h
    refine lv_lload_n hC.1 hC.2.1 d_AckBook_came_13 rfl (lv_at hl 3 rfl) ?_
    refine lv_ldc2 (v := (4611686018427387903 : Int64)) hC.1 hC.2.1 hC.2.2.2.1 ((hZ.1.tb hC.2.2.2.2.2.2 args) _ t_723) d_AckBook_came_14 ?_
    refine W.lcmp hC.1 hC.2.1 d_AckBook_came_17 ?_
    refine lv_if_le (tgt := 31) hC.1 hC.2.1 d_AckBook_came_18 (by decide) (fun hc => ?_) (fun hc => ?_)
    · have h := z_ifp hc h
      refine x_aload hC d_AckBook_came_31 (lv_at hl 0 rfl) ?_
      obtain ⟨w1_, o1_, hF_, ha_⟩ := z_cV_spec h
      refine x_goes hC hRc hRs hFr ha_ (z_goS (As := [va_rf r2]) hC hZ (k_AckBook_refuseDiscarded hT hfl hE _ _ hF_) t_454 t_455 t_1 t_456 ⟨by decide, by decide, (by decide +kernel : (parseMethodDescriptor y_AckBook_refuseDiscarded.desc).map (fun d => d.parameters.length) = some 1)⟩ (by rw [hRt.1]; decide) (by rw [hRt.2]; decide) hl.1 rfl (by first | exact Nat.le_of_ble_eq_true rfl | simp [z_rfc, z_ci, z_cj]) d_AckBook_came_33) (fun v_ hv H locs cells slots hZ => ?_)
      obtain ⟨rfl, h⟩ := hv
      generalize w1_ = w at h hZ
      refine x_aload hC d_AckBook_came_36 (lv_at hl 0 rfl) ?_
      refine x_getR hC hZ zc1 h (by decide) t_160 (fun _ h9 => h9) d_AckBook_came_38 (fun r4 h => ?_)
      refine lv_lload_n hC.1 hC.2.1 d_AckBook_came_41 rfl (lv_at hl 3 rfl) ?_
      refine lv_iload hC.1 hC.2.1 d_AckBook_came_42 (lv_at hl 4 rfl) ?_
      refine x_aload_n hC d_AckBook_came_44 rfl (lv_at hl 1 rfl) ?_
      refine x_getI hC hZ zc0 h (by decide) t_245 (fun _ h9 => h9) d_AckBook_came_45 (fun v5 h => ?_)
      obtain ⟨a_, fs_, eo_, h⟩ := z_this_spec h
      obtain ⟨w1_, o1_, hF_, ha_⟩ := z_cI_spec h
      refine x_goes hC hRc hRs hFr ha_ (z_goV (As := [.long pJ2, .int pI3, .int v5]) hC hZ zc5 eo_ (k_AckBook_Arrivals_enter hT hfl hE _ _ hF_) t_725 t_726 t_727 t_8 t_728 ⟨by decide, by decide, (by decide +kernel : (parseMethodDescriptor y_AckBook_Arrivals_enter.desc).map (fun d => d.parameters.length) = some 3)⟩ (by rw [hRt.1]; decide) (by rw [hRt.2]; decide) hl.1 rfl (by first | exact Nat.le_of_ble_eq_true rfl | simp [z_rfc, z_ci, z_cj]) d_AckBook_came_48) (fun v_ hv H locs cells slots hZ => ?_)
      obtain ⟨v7, rfl, h⟩ := hv
      generalize w1_ = w at h hZ
      exact x_zret hC hRc hRs hZ hr h d_AckBook_came_51
    · have h := z_ifn hc h
      exact x_thr (names := ["java/lang/RuntimeException", "java/lang/Exception"]) hC hRc hRs hFr hZ rfl h ⟨List.mem_cons_self, hE.1⟩ ⟨List.mem_cons_of_mem _ List.mem_cons_self, hE.2⟩ (by decide +kernel) (by decide +kernel) at_AckBook_47 t_385 t_384 t_16 t_724 hl.1 d_AckBook_came_21 d_AckBook_came_24 d_AckBook_came_25 d_AckBook_came_27 d_AckBook_came_30 (by rw [hRt.1]; decide) (by rw [hRt.2]; first | exact Nat.le_of_ble_eq_true rfl | simp [z_rfc, z_ci, z_cj])
def f_AckBook_Arrivals_isPressing (F X : Nat) (a0 : Option Nat) (pI1 : Int32) (w : zW) : zR :=
  z_getI w 5 4 a0 fun v1 =>
  if v1 = 0 then (
    some (.inl (some (.int (0 : Int32))), w))
  else (
    z_getI w 5 4 a0 fun v2 =>
    if (2 : Int32) ≤ v2 then (
      some (.inl (some (.int (1 : Int32))), w))
    else (
      z_getI w 5 6 a0 fun v3 =>
      if v3 = 0 then (
        z_getI w 5 5 a0 fun v4 =>
        if (pI1 - v4) < (25 : Int32) then (
          some (.inl (some (.int (0 : Int32))), w))
        else (
          some (.inl (some (.int (1 : Int32))), w)))
      else (
        some (.inl (some (.int (1 : Int32))), w))))
set_option maxHeartbeats 4000000 in
set_option maxRecDepth 100000 in
theorem k_AckBook_Arrivals_isPressing {b0 : Nat} {H0 : Heap} {D : va_G} {vu vs : Value} {X : Nat} {l : Launch} (hT : z_TB (zGG b0 H0 D vu vs X)) (hfl : l.flags = pinnedFlags ++ [noTraceFlag]) (hE : vu.isRef = true ∧ vs.isRef = true) {a0 : Option Nat} {pI1 : Int32} (F : Nat) {w : zW} (res : zO × zW) (h : f_AckBook_Arrivals_isPressing F X a0 pI1 w = some res) : z_Ct (zGG b0 H0 D vu vs X) l y_AckBook_Arrivals_isPressing (.code y_AckBook_Arrivals_isPressing c_AckBook_Arrivals_isPressing 2 (some FieldType.boolean)) 0 0 [va_rf a0, .int pI1] w res := by
  refine z_ct hT hfl (by decide) (by simp only [z_sl_i, z_sl_j, z_sl_r, z_sl_n]; decide) ?_
  intro p e R s m args below meth c hC hr hRc hRs hRt hnm hFr H ls hZ hl
  simp only [z_la_i, z_la_j, z_la_r, z_la_n] at hl
  have hl : lv_has ls 2 [(0, va_rf a0), (1, .int pI1)] := hl
  unfold f_AckBook_Arrivals_isPressing at h
  refine x_aload_n hC d_AckBook_Arrivals_isPressing_0 rfl (lv_at hl 0 rfl) ?_
  refine x_getI hC hZ zc5 h (by decide) t_132 (fun _ h9 => h9) d_AckBook_Arrivals_isPressing_1 (fun v1 h => ?_)
  refine lv_if_ne (tgt := 9) hC.1 hC.2.1 d_AckBook_Arrivals_isPressing_4 (by decide) (fun hc => ?_) (fun hc => ?_)
  · have h := z_ifn hc h
    refine x_aload_n hC d_AckBook_Arrivals_isPressing_9 rfl (lv_at hl 0 rfl) ?_
    refine x_getI hC hZ zc5 h (by decide) t_132 (fun _ h9 => h9) d_AckBook_Arrivals_isPressing_10 (fun v2 h => ?_)
    refine lv_iconst (v := (2 : Int32)) hC.1 hC.2.1 d_AckBook_Arrivals_isPressing_13 (by decide) ?_
    refine lv_icmp_ge (tgt := 35) hC.1 hC.2.1 d_AckBook_Arrivals_isPressing_14 (by decide) (fun hc => ?_) (fun hc => ?_)
    · have h := z_ifp hc h
      refine lv_iconst (v := (1 : Int32)) hC.1 hC.2.1 d_AckBook_Arrivals_isPressing_35 (by decide) ?_
      refine lv_goto (tgt := 40) hC.1 hC.2.1 d_AckBook_Arrivals_isPressing_36 (by decide) ?_
      exact x_iret hC hRc hRs hZ hr rfl h d_AckBook_Arrivals_isPressing_40
    · have h := z_ifn hc h
      refine x_aload_n hC d_AckBook_Arrivals_isPressing_17 rfl (lv_at hl 0 rfl) ?_
      refine x_getI hC hZ zc5 h (by decide) t_135 (fun _ h9 => h9) d_AckBook_Arrivals_isPressing_18 (fun v3 h => ?_)
      refine lv_if_ne (tgt := 35) hC.1 hC.2.1 d_AckBook_Arrivals_isPressing_21 (by decide) (fun hc => ?_) (fun hc => ?_)
      · have h := z_ifn hc h
        refine lv_iconst (v := (1 : Int32)) hC.1 hC.2.1 d_AckBook_Arrivals_isPressing_35 (by decide) ?_
        refine lv_goto (tgt := 40) hC.1 hC.2.1 d_AckBook_Arrivals_isPressing_36 (by decide) ?_
        exact x_iret hC hRc hRs hZ hr rfl h d_AckBook_Arrivals_isPressing_40
      · have h := z_ifp hc h
        refine lv_iload_n hC.1 hC.2.1 d_AckBook_Arrivals_isPressing_24 rfl (lv_at hl 1 rfl) ?_
        refine x_aload_n hC d_AckBook_Arrivals_isPressing_25 rfl (lv_at hl 0 rfl) ?_
        refine x_getI hC hZ zc5 h (by decide) t_134 (fun _ h9 => h9) d_AckBook_Arrivals_isPressing_26 (fun v4 h => ?_)
        refine lv_isub hC.1 hC.2.1 d_AckBook_Arrivals_isPressing_29 ?_
        refine lv_bipush (v := (25 : Int32)) hC.1 hC.2.1 d_AckBook_Arrivals_isPressing_30 (by decide) ?_
        refine lv_icmp_lt (tgt := 39) hC.1 hC.2.1 d_AckBook_Arrivals_isPressing_32 (by decide) (fun hc => ?_) (fun hc => ?_)
        · have h := z_ifp hc h
          refine lv_iconst (v := (0 : Int32)) hC.1 hC.2.1 d_AckBook_Arrivals_isPressing_39 (by decide) ?_
          exact x_iret hC hRc hRs hZ hr rfl h d_AckBook_Arrivals_isPressing_40
        · have h := z_ifn hc h
          refine lv_iconst (v := (1 : Int32)) hC.1 hC.2.1 d_AckBook_Arrivals_isPressing_35 (by decide) ?_
          refine lv_goto (tgt := 40) hC.1 hC.2.1 d_AckBook_Arrivals_isPressing_36 (by decide) ?_
          exact x_iret hC hRc hRs hZ hr rfl h d_AckBook_Arrivals_isPressing_40
  · have h := z_ifp hc h
    refine lv_iconst (v := (0 : Int32)) hC.1 hC.2.1 d_AckBook_Arrivals_isPressing_7 (by decide) ?_
    exact x_iret hC hRc hRs hZ hr rfl h d_AckBook_Arrivals_isPressing_8
def f_AckBook_due (F X : Nat) (a0 : Option Nat) (pI1 : Int32) (w : zW) : zR :=
  z_this w 0 a0 <|
  z_cR (f_AckBook_known F X a0 pI1 w) fun r2 w =>
  z_getI w 1 0 r2 fun v3 =>
  if v3 = (2 : Int32) then (
    z_getR w 1 2 r2 fun r4 =>
    z_getI w 0 4 a0 fun v5 =>
    z_this w 5 r4 <|
    z_cI (f_AckBook_Arrivals_isPressing F X r4 v5 w) fun v7 w =>
    z_retZ v7 w)
  else (
    z_getR w 1 2 r2 fun r8 =>
    z_getI w 5 4 r8 fun v9 =>
    if v9 ≤ 0 then (
      some (.inl (some (.int (0 : Int32))), w))
    else (
      some (.inl (some (.int (1 : Int32))), w)))
set_option maxHeartbeats 4000000 in
set_option maxRecDepth 100000 in
theorem k_AckBook_due {b0 : Nat} {H0 : Heap} {D : va_G} {vu vs : Value} {X : Nat} {l : Launch} (hT : z_TB (zGG b0 H0 D vu vs X)) (hfl : l.flags = pinnedFlags ++ [noTraceFlag]) (hE : vu.isRef = true ∧ vs.isRef = true) {a0 : Option Nat} {pI1 : Int32} (F : Nat) {w : zW} (res : zO × zW) (h : f_AckBook_due F X a0 pI1 w = some res) : z_Ct (zGG b0 H0 D vu vs X) l y_AckBook_due (.code y_AckBook_due c_AckBook_due 3 (some FieldType.boolean)) 7 121 [va_rf a0, .int pI1] w res := by
  refine z_ct hT hfl (by decide) (by simp only [z_sl_i, z_sl_j, z_sl_r, z_sl_n]; decide) ?_
  intro p e R s m args below meth c hC hr hRc hRs hRt hnm hFr H ls hZ hl
  simp only [z_la_i, z_la_j, z_la_r, z_la_n] at hl
  have hl : lv_has ls 3 [(0, va_rf a0), (1, .int pI1)] := hl
  unfold f_AckBook_due at h
  refine x_aload_n hC d_AckBook_due_0 rfl (lv_at hl 0 rfl) ?_
  refine lv_iload_n hC.1 hC.2.1 d_AckBook_due_1 rfl (lv_at hl 1 rfl) ?_
  obtain ⟨a_, fs_, eo_, h⟩ := z_this_spec h
  obtain ⟨w1_, o1_, hF_, ha_⟩ := z_cR_spec h
  refine x_goes hC hRc hRs hFr ha_ (z_goV (As := [.int pI1]) hC hZ zc0 eo_ (k_AckBook_known hT hfl hE _ _ hF_) t_380 t_382 ts_AckBook_known t_1 t_383 ⟨by decide, by decide, (by decide +kernel : (parseMethodDescriptor y_AckBook_known.desc).map (fun d => d.parameters.length) = some 1)⟩ (by rw [hRt.1]; decide) (by rw [hRt.2]; decide) hl.1 rfl (by first | exact Nat.le_of_ble_eq_true rfl | simp [z_rfc, z_ci, z_cj]) d_AckBook_due_2) (fun v_ hv H locs cells slots hZ => ?_)
  obtain ⟨r2, rfl, h⟩ := hv
  generalize w1_ = w at h hZ
  refine x_astore_n (i := 2) (lv' := [(2, va_rf r2), (0, va_rf a0), (1, .int pI1)]) hC d_AckBook_due_5 rfl hl (by decide) (by first | rfl | simp [z_rfc, z_ci, z_cj]) (fun ls hl => ?_)
  refine x_aload_n hC d_AckBook_due_6 rfl (lv_at hl 0 rfl) ?_
  refine x_getI hC hZ zc1 h (by decide) t_156 (fun _ h9 => h9) d_AckBook_due_7 (fun v3 h => ?_)
  refine lv_iconst (v := (2 : Int32)) hC.1 hC.2.1 d_AckBook_due_10 (by decide) ?_
  refine lv_icmp_ne (tgt := 28) hC.1 hC.2.1 d_AckBook_due_11 (by decide) (fun hc => ?_) (fun hc => ?_)
  · have h := z_ifn hc h
    refine x_aload_n hC d_AckBook_due_28 rfl (lv_at hl 0 rfl) ?_
    refine x_getR hC hZ zc1 h (by decide) t_160 (fun _ h9 => h9) d_AckBook_due_29 (fun r8 h => ?_)
    refine x_getI hC hZ zc5 h (by decide) t_133 (fun _ h9 => h9) d_AckBook_due_32 (fun v9 h => ?_)
    refine lv_if_le (tgt := 42) hC.1 hC.2.1 d_AckBook_due_35 (by decide) (fun hc => ?_) (fun hc => ?_)
    · have h := z_ifp hc h
      refine lv_iconst (v := (0 : Int32)) hC.1 hC.2.1 d_AckBook_due_42 (by decide) ?_
      exact x_iret hC hRc hRs hZ hr rfl h d_AckBook_due_43
    · have h := z_ifn hc h
      refine lv_iconst (v := (1 : Int32)) hC.1 hC.2.1 d_AckBook_due_38 (by decide) ?_
      refine lv_goto (tgt := 43) hC.1 hC.2.1 d_AckBook_due_39 (by decide) ?_
      exact x_iret hC hRc hRs hZ hr rfl h d_AckBook_due_43
  · have h := z_ifp hc h
    refine x_aload_n hC d_AckBook_due_14 rfl (lv_at hl 0 rfl) ?_
    refine x_getR hC hZ zc1 h (by decide) t_160 (fun _ h9 => h9) d_AckBook_due_15 (fun r4 h => ?_)
    refine x_aload_n hC d_AckBook_due_18 rfl (lv_at hl 1 rfl) ?_
    refine x_getI hC hZ zc0 h (by decide) t_245 (fun _ h9 => h9) d_AckBook_due_19 (fun v5 h => ?_)
    obtain ⟨a_, fs_, eo_, h⟩ := z_this_spec h
    obtain ⟨w1_, o1_, hF_, ha_⟩ := z_cI_spec h
    refine x_goes hC hRc hRs hFr ha_ (z_goV (As := [.int v5]) hC hZ zc5 eo_ (k_AckBook_Arrivals_isPressing hT hfl hE _ _ hF_) t_757 t_758 t_759 t_8 t_760 ⟨by decide, by decide, (by decide +kernel : (parseMethodDescriptor y_AckBook_Arrivals_isPressing.desc).map (fun d => d.parameters.length) = some 1)⟩ (by rw [hRt.1]; decide) (by rw [hRt.2]; decide) hl.1 rfl (by first | exact Nat.le_of_ble_eq_true rfl | simp [z_rfc, z_ci, z_cj]) d_AckBook_due_22) (fun v_ hv H locs cells slots hZ => ?_)
    obtain ⟨v7, rfl, h⟩ := hv
    generalize w1_ = w at h hZ
    refine lv_goto (tgt := 43) hC.1 hC.2.1 d_AckBook_due_25 (by decide) ?_
    exact x_zret hC hRc hRs hZ hr h d_AckBook_due_43
def f_AckBook_Arrivals_settle (F X : Nat) (a0 : Option Nat) (pI1 : Int32) (w : zW) : zR :=
  z_put w 5 4 a0 (.int (0 : Int32)) fun w =>
  z_putZ w 5 6 a0 (0 : Int32) fun w =>
  z_getI w 5 7 a0 fun v1 =>
  some (.inl (some (.int (pI1 - v1))), w)
set_option maxHeartbeats 4000000 in
set_option maxRecDepth 100000 in
theorem k_AckBook_Arrivals_settle {b0 : Nat} {H0 : Heap} {D : va_G} {vu vs : Value} {X : Nat} {l : Launch} (hT : z_TB (zGG b0 H0 D vu vs X)) (hfl : l.flags = pinnedFlags ++ [noTraceFlag]) (hE : vu.isRef = true ∧ vs.isRef = true) {a0 : Option Nat} {pI1 : Int32} (F : Nat) {w : zW} (res : zO × zW) (h : f_AckBook_Arrivals_settle F X a0 pI1 w = some res) : z_Ct (zGG b0 H0 D vu vs X) l y_AckBook_Arrivals_settle (.code y_AckBook_Arrivals_settle c_AckBook_Arrivals_settle 2 (some FieldType.int)) 0 0 [va_rf a0, .int pI1] w res := by
  refine z_ct hT hfl (by decide) (by simp only [z_sl_i, z_sl_j, z_sl_r, z_sl_n]; decide) ?_
  intro p e R s m args below meth c hC hr hRc hRs hRt hnm hFr H ls hZ hl
  simp only [z_la_i, z_la_j, z_la_r, z_la_n] at hl
  have hl : lv_has ls 2 [(0, va_rf a0), (1, .int pI1)] := hl
  unfold f_AckBook_Arrivals_settle at h
  refine x_aload_n hC d_AckBook_Arrivals_settle_0 rfl (lv_at hl 0 rfl) ?_
  refine lv_iconst (v := (0 : Int32)) hC.1 hC.2.1 d_AckBook_Arrivals_settle_1 (by decide) ?_
  refine x_put hC hZ zc5 h (by decide) t_132 (fun _ h9 => h9) rfl rfl rfl rfl d_AckBook_Arrivals_settle_2 (fun w H locs hZ h => ?_)
  refine x_aload_n hC d_AckBook_Arrivals_settle_5 rfl (lv_at hl 0 rfl) ?_
  refine lv_iconst (v := (0 : Int32)) hC.1 hC.2.1 d_AckBook_Arrivals_settle_6 (by decide) ?_
  refine x_putZ hC hZ zc5 h (by decide) t_135 (fun _ h9 => h9) rfl rfl d_AckBook_Arrivals_settle_7 (fun w H locs hZ h => ?_)
  refine lv_iload_n hC.1 hC.2.1 d_AckBook_Arrivals_settle_10 rfl (lv_at hl 1 rfl) ?_
  refine x_aload_n hC d_AckBook_Arrivals_settle_11 rfl (lv_at hl 0 rfl) ?_
  refine x_getI hC hZ zc5 h (by decide) t_136 (fun _ h9 => h9) d_AckBook_Arrivals_settle_12 (fun v1 h => ?_)
  refine lv_isub hC.1 hC.2.1 d_AckBook_Arrivals_settle_15 ?_
  exact x_iret hC hRc hRs hZ hr rfl h d_AckBook_Arrivals_settle_16
def f_AckBook_written (F X : Nat) (a0 : Option Nat) (pI1 : Int32) (w : zW) : zR :=
  z_this w 0 a0 <|
  z_cR (f_AckBook_known F X a0 pI1 w) fun r2 w =>
  z_cV (f_AckBook_refuseDiscarded F X r2 w) fun w =>
  z_getR w 1 2 r2 fun r4 =>
  z_getI w 5 2 r4 fun v5 =>
  if v5 = 0 then (
    z_thr w 12)
  else (
    z_getR w 1 2 r2 fun r6 =>
    z_getI w 0 4 a0 fun v7 =>
    z_this w 5 r6 <|
    z_cI (f_AckBook_Arrivals_settle F X r6 v7 w) fun v9 w =>
    some (.inl (some (.int v9)), w))
set_option maxHeartbeats 4000000 in
set_option maxRecDepth 100000 in
theorem k_AckBook_written {b0 : Nat} {H0 : Heap} {D : va_G} {vu vs : Value} {X : Nat} {l : Launch} (hT : z_TB (zGG b0 H0 D vu vs X)) (hfl : l.flags = pinnedFlags ++ [noTraceFlag]) (hE : vu.isRef = true ∧ vs.isRef = true) {a0 : Option Nat} {pI1 : Int32} (F : Nat) {w : zW} (res : zO × zW) (h : f_AckBook_written F X a0 pI1 w = some res) : z_Ct (zGG b0 H0 D vu vs X) l y_AckBook_written (.code y_AckBook_written c_AckBook_written 3 (some FieldType.int)) 7 121 [va_rf a0, .int pI1] w res := by
  refine z_ct hT hfl (by decide) (by simp only [z_sl_i, z_sl_j, z_sl_r, z_sl_n]; decide) ?_
  intro p e R s m args below meth c hC hr hRc hRs hRt hnm hFr H ls hZ hl
  simp only [z_la_i, z_la_j, z_la_r, z_la_n] at hl
  have hl : lv_has ls 3 [(0, va_rf a0), (1, .int pI1)] := hl
  unfold f_AckBook_written at h
  refine x_aload_n hC d_AckBook_written_0 rfl (lv_at hl 0 rfl) ?_
  refine lv_iload_n hC.1 hC.2.1 d_AckBook_written_1 rfl (lv_at hl 1 rfl) ?_
  obtain ⟨a_, fs_, eo_, h⟩ := z_this_spec h
  obtain ⟨w1_, o1_, hF_, ha_⟩ := z_cR_spec h
  refine x_goes hC hRc hRs hFr ha_ (z_goV (As := [.int pI1]) hC hZ zc0 eo_ (k_AckBook_known hT hfl hE _ _ hF_) t_380 t_382 ts_AckBook_known t_1 t_383 ⟨by decide, by decide, (by decide +kernel : (parseMethodDescriptor y_AckBook_known.desc).map (fun d => d.parameters.length) = some 1)⟩ (by rw [hRt.1]; decide) (by rw [hRt.2]; decide) hl.1 rfl (by first | exact Nat.le_of_ble_eq_true rfl | simp [z_rfc, z_ci, z_cj]) d_AckBook_written_2) (fun v_ hv H locs cells slots hZ => ?_)
  obtain ⟨r2, rfl, h⟩ := hv
  generalize w1_ = w at h hZ
  refine x_astore_n (i := 2) (lv' := [(2, va_rf r2), (0, va_rf a0), (1, .int pI1)]) hC d_AckBook_written_5 rfl hl (by decide) (by first | rfl | simp [z_rfc, z_ci, z_cj]) (fun ls hl => ?_)
  refine x_aload_n hC d_AckBook_written_6 rfl (lv_at hl 0 rfl) ?_
  obtain ⟨w1_, o1_, hF_, ha_⟩ := z_cV_spec h
  refine x_goes hC hRc hRs hFr ha_ (z_goS (As := [va_rf r2]) hC hZ (k_AckBook_refuseDiscarded hT hfl hE _ _ hF_) t_454 t_455 t_1 t_456 ⟨by decide, by decide, (by decide +kernel : (parseMethodDescriptor y_AckBook_refuseDiscarded.desc).map (fun d => d.parameters.length) = some 1)⟩ (by rw [hRt.1]; decide) (by rw [hRt.2]; decide) hl.1 rfl (by first | exact Nat.le_of_ble_eq_true rfl | simp [z_rfc, z_ci, z_cj]) d_AckBook_written_7) (fun v_ hv H locs cells slots hZ => ?_)
  obtain ⟨rfl, h⟩ := hv
  generalize w1_ = w at h hZ
  refine x_aload_n hC d_AckBook_written_10 rfl (lv_at hl 0 rfl) ?_
  refine x_getR hC hZ zc1 h (by decide) t_160 (fun _ h9 => h9) d_AckBook_written_11 (fun r4 h => ?_)
  refine x_getI hC hZ zc5 h (by decide) t_129 (fun _ h9 => h9) d_AckBook_written_14 (fun v5 h => ?_)
  refine lv_if_ne (tgt := 30) hC.1 hC.2.1 d_AckBook_written_17 (by decide) (fun hc => ?_) (fun hc => ?_)
  · have h := z_ifn hc h
    refine x_aload_n hC d_AckBook_written_30 rfl (lv_at hl 0 rfl) ?_
    refine x_getR hC hZ zc1 h (by decide) t_160 (fun _ h9 => h9) d_AckBook_written_31 (fun r6 h => ?_)
    refine x_aload_n hC d_AckBook_written_34 rfl (lv_at hl 1 rfl) ?_
    refine x_getI hC hZ zc0 h (by decide) t_245 (fun _ h9 => h9) d_AckBook_written_35 (fun v7 h => ?_)
    obtain ⟨a_, fs_, eo_, h⟩ := z_this_spec h
    obtain ⟨w1_, o1_, hF_, ha_⟩ := z_cI_spec h
    refine x_goes hC hRc hRs hFr ha_ (z_goV (As := [.int v7]) hC hZ zc5 eo_ (k_AckBook_Arrivals_settle hT hfl hE _ _ hF_) t_769 t_770 t_771 t_8 t_772 ⟨by decide, by decide, (by decide +kernel : (parseMethodDescriptor y_AckBook_Arrivals_settle.desc).map (fun d => d.parameters.length) = some 1)⟩ (by rw [hRt.1]; decide) (by rw [hRt.2]; decide) hl.1 rfl (by first | exact Nat.le_of_ble_eq_true rfl | simp [z_rfc, z_ci, z_cj]) d_AckBook_written_38) (fun v_ hv H locs cells slots hZ => ?_)
    obtain ⟨v9, rfl, h⟩ := hv
    generalize w1_ = w at h hZ
    exact x_iret hC hRc hRs hZ hr rfl h d_AckBook_written_41
  · have h := z_ifp hc h
    exact x_thr (names := ["java/lang/RuntimeException", "java/lang/Exception"]) hC hRc hRs hFr hZ rfl h ⟨List.mem_cons_self, hE.1⟩ ⟨List.mem_cons_of_mem _ List.mem_cons_self, hE.2⟩ (by decide +kernel) (by decide +kernel) at_AckBook_70 t_458 t_457 t_17 t_768 hl.1 d_AckBook_written_20 d_AckBook_written_23 d_AckBook_written_24 d_AckBook_written_26 d_AckBook_written_29 (by rw [hRt.1]; decide) (by rw [hRt.2]; first | exact Nat.le_of_ble_eq_true rfl | simp [z_rfc, z_ci, z_cj])
def f_AckBook_range (F X : Nat) (a0 : Option Nat) (pI1 : Int32) (pI2 : Int32) (pI3 : Int32) (w : zW) : zR :=
  z_this w 0 a0 <|
  z_cR (f_AckBook_known F X a0 pI1 w) fun r2 w =>
  z_getR w 1 2 r2 fun r3 =>
  if pI2 < 0 then (
    none)
  else (
    z_getI w 5 2 r3 fun v4 =>
    if pI2 < v4 then (
      if pI3 = 0 then (
        z_getR w 5 0 r3 fun r5 =>
        z_ldL w r5 pI2 fun v6 =>
        some (.inl (some (.long v6)), w))
      else (
        z_getR w 5 1 r3 fun r7 =>
        z_ldL w r7 pI2 fun v8 =>
        some (.inl (some (.long v8)), w)))
    else (
      none))
set_option maxHeartbeats 4000000 in
set_option maxRecDepth 100000 in
theorem k_AckBook_range {b0 : Nat} {H0 : Heap} {D : va_G} {vu vs : Value} {X : Nat} {l : Launch} (hT : z_TB (zGG b0 H0 D vu vs X)) (hfl : l.flags = pinnedFlags ++ [noTraceFlag]) (hE : vu.isRef = true ∧ vs.isRef = true) {a0 : Option Nat} {pI1 : Int32} {pI2 : Int32} {pI3 : Int32} (F : Nat) {w : zW} (res : zO × zW) (h : f_AckBook_range F X a0 pI1 pI2 pI3 w = some res) : z_Ct (zGG b0 H0 D vu vs X) l y_AckBook_range (.code y_AckBook_range c_AckBook_range 5 (some FieldType.long)) 7 121 [va_rf a0, .int pI1, .int pI2, .int pI3] w res := by
  refine z_ct hT hfl (by decide) (by simp only [z_sl_i, z_sl_j, z_sl_r, z_sl_n]; decide) ?_
  intro p e R s m args below meth c hC hr hRc hRs hRt hnm hFr H ls hZ hl
  simp only [z_la_i, z_la_j, z_la_r, z_la_n] at hl
  have hl : lv_has ls 5 [(0, va_rf a0), (1, .int pI1), (2, .int pI2), (3, .int pI3)] := hl
  unfold f_AckBook_range at h
  refine x_aload_n hC d_AckBook_range_0 rfl (lv_at hl 0 rfl) ?_
  refine lv_iload_n hC.1 hC.2.1 d_AckBook_range_1 rfl (lv_at hl 1 rfl) ?_
  obtain ⟨a_, fs_, eo_, h⟩ := z_this_spec h
  obtain ⟨w1_, o1_, hF_, ha_⟩ := z_cR_spec h
  refine x_goes hC hRc hRs hFr ha_ (z_goV (As := [.int pI1]) hC hZ zc0 eo_ (k_AckBook_known hT hfl hE _ _ hF_) t_380 t_382 ts_AckBook_known t_1 t_383 ⟨by decide, by decide, (by decide +kernel : (parseMethodDescriptor y_AckBook_known.desc).map (fun d => d.parameters.length) = some 1)⟩ (by rw [hRt.1]; decide) (by rw [hRt.2]; decide) hl.1 rfl (by first | exact Nat.le_of_ble_eq_true rfl | simp [z_rfc, z_ci, z_cj]) d_AckBook_range_2) (fun v_ hv H locs cells slots hZ => ?_)
  obtain ⟨r2, rfl, h⟩ := hv
  generalize w1_ = w at h hZ
  refine x_getR hC hZ zc1 h (by decide) t_160 (fun _ h9 => h9) d_AckBook_range_5 (fun r3 h => ?_)
  refine x_astore (i := 4) (lv' := [(4, va_rf r3), (0, va_rf a0), (1, .int pI1), (2, .int pI2), (3, .int pI3)]) hC d_AckBook_range_8 hl (by decide) (by first | rfl | simp [z_rfc, z_ci, z_cj]) (fun ls hl => ?_)
  refine lv_iload_n hC.1 hC.2.1 d_AckBook_range_10 rfl (lv_at hl 3 rfl) ?_
  refine lv_if_lt (tgt := 23) hC.1 hC.2.1 d_AckBook_range_11 (by decide) (fun hc => ?_) (fun hc => ?_)
  · have h := z_ifp hc h
    cases h
  · have h := z_ifn hc h
    refine lv_iload_n hC.1 hC.2.1 d_AckBook_range_14 rfl (lv_at hl 3 rfl) ?_
    refine x_aload hC d_AckBook_range_15 (lv_at hl 0 rfl) ?_
    refine x_getI hC hZ zc5 h (by decide) t_129 (fun _ h9 => h9) d_AckBook_range_17 (fun v4 h => ?_)
    refine lv_icmp_lt (tgt := 33) hC.1 hC.2.1 d_AckBook_range_20 (by decide) (fun hc => ?_) (fun hc => ?_)
    · have h := z_ifp hc h
      refine lv_iload_n hC.1 hC.2.1 d_AckBook_range_33 rfl (lv_at hl 4 rfl) ?_
      refine lv_if_eq (tgt := 47) hC.1 hC.2.1 d_AckBook_range_34 (by decide) (fun hc => ?_) (fun hc => ?_)
      · have h := z_ifp hc h
        refine x_aload hC d_AckBook_range_47 (lv_at hl 0 rfl) ?_
        refine x_getR hC hZ zc5 h (by decide) t_125 (fun _ h9 => h9) d_AckBook_range_49 (fun r5 h => ?_)
        refine lv_iload_n hC.1 hC.2.1 d_AckBook_range_52 rfl (lv_at hl 3 rfl) ?_
        refine x_ldL hC hZ h d_AckBook_range_53 (fun v6 h => ?_)
        exact x_lret hC hRc hRs hZ hr h d_AckBook_range_54
      · have h := z_ifn hc h
        refine x_aload hC d_AckBook_range_37 (lv_at hl 0 rfl) ?_
        refine x_getR hC hZ zc5 h (by decide) t_127 (fun _ h9 => h9) d_AckBook_range_39 (fun r7 h => ?_)
        refine lv_iload_n hC.1 hC.2.1 d_AckBook_range_42 rfl (lv_at hl 3 rfl) ?_
        refine x_ldL hC hZ h d_AckBook_range_43 (fun v8 h => ?_)
        refine lv_goto (tgt := 54) hC.1 hC.2.1 d_AckBook_range_44 (by decide) ?_
        exact x_lret hC hRc hRs hZ hr h d_AckBook_range_54
    · have h := z_ifn hc h
      cases h
def f_AckBook_look (F X : Nat) (a0 : Option Nat) (pI1 : Int32) (w : zW) : zR :=
  if pI1 = (0 : Int32) then (
    z_getI w 0 4 a0 fun v1 =>
    some (.inl (some (.int v1)), w))
  else if pI1 = (1 : Int32) then (
    z_getR w 0 3 a0 fun r2 =>
    z_getI w 8 0 r2 fun v3 =>
    some (.inl (some (.int v3)), w))
  else if pI1 = (2 : Int32) then (
    z_getR w 0 3 a0 fun r4 =>
    z_getI w 8 1 r4 fun v5 =>
    some (.inl (some (.int v5)), w))
  else if pI1 = (3 : Int32) then (
    z_getR w 0 3 a0 fun r6 =>
    z_getI w 8 2 r6 fun v7 =>
    some (.inl (some (.int v7)), w))
  else if pI1 = (4 : Int32) then (
    z_getR w 0 3 a0 fun r8 =>
    z_getI w 8 3 r8 fun v9 =>
    some (.inl (some (.int v9)), w))
  else if pI1 = (5 : Int32) then (
    z_getR w 0 2 a0 fun r10 =>
    z_getI w 7 0 r10 fun v11 =>
    some (.inl (some (.int v11)), w))
  else if pI1 = (6 : Int32) then (
    z_getR w 0 2 a0 fun r12 =>
    z_getI w 7 1 r12 fun v13 =>
    some (.inl (some (.int v13)), w))
  else if pI1 = (7 : Int32) then (
    z_getR w 0 2 a0 fun r14 =>
    z_getI w 7 2 r14 fun v15 =>
    some (.inl (some (.int v15)), w))
  else if pI1 = (8 : Int32) then (
    z_getR w 0 2 a0 fun r16 =>
    z_getI w 7 3 r16 fun v17 =>
    some (.inl (some (.int v17)), w))
  else if pI1 = (9 : Int32) then (
    z_getI w 0 5 a0 fun v18 =>
    some (.inl (some (.int v18)), w))
  else if pI1 = (10 : Int32) then (
    z_getR w 0 2 a0 fun r19 =>
    z_this w 7 r19 <|
    z_cI (f_AckBook_Way_limit F X r19 w) fun v21 w =>
    some (.inl (some (.int v21)), w))
  else if pI1 = (11 : Int32) then (
    z_getR w 0 3 a0 fun r22 =>
    z_getI w 8 1 r22 fun v23 =>
    z_getR w 0 3 a0 fun r24 =>
    z_getI w 8 0 r24 fun v25 =>
    some (.inl (some (.int (if (v23 - v25) < (0 : Int32) then (0 : Int32) else (v23 - v25)))), w))
  else (
    none)
set_option maxHeartbeats 4000000 in
set_option maxRecDepth 100000 in
theorem k_AckBook_look {b0 : Nat} {H0 : Heap} {D : va_G} {vu vs : Value} {X : Nat} {l : Launch} (hT : z_TB (zGG b0 H0 D vu vs X)) (hfl : l.flags = pinnedFlags ++ [noTraceFlag]) (hE : vu.isRef = true ∧ vs.isRef = true) {a0 : Option Nat} {pI1 : Int32} (F : Nat) {w : zW} (res : zO × zW) (h : f_AckBook_look F X a0 pI1 w = some res) : z_Ct (zGG b0 H0 D vu vs X) l y_AckBook_look (.code y_AckBook_look c_AckBook_look 2 (some FieldType.int)) 6 100 [va_rf a0, .int pI1] w res := by
  refine z_ct hT hfl (by decide) (by simp only [z_sl_i, z_sl_j, z_sl_r, z_sl_n]; decide) ?_
  intro p e R s m args below meth c hC hr hRc hRs hRt hnm hFr H ls hZ hl
  simp only [z_la_i, z_la_j, z_la_r, z_la_n] at hl
  have hl : lv_has ls 2 [(0, va_rf a0), (1, .int pI1)] := hl
  unfold f_AckBook_look at h
  refine lv_iload_n hC.1 hC.2.1 d_AckBook_look_0 rfl (lv_at hl 1 rfl) ?_
  by_cases hc0 : pI1 = (0 : Int32)
  · have h := z_ifp hc0 h
    refine lv_tableIn (tgt := 64) hC.1 hC.2.1 d_AckBook_look_1 (by rw [hc0]; decide) (by rw [hc0]; decide) (by rw [hc0]; rfl) (by decide) ?_
    refine x_aload_n hC d_AckBook_look_64 rfl (lv_at hl 0 rfl) ?_
    refine x_getI hC hZ zc0 h (by decide) t_245 (fun _ h9 => h9) d_AckBook_look_65 (fun v1 h => ?_)
    exact x_iret hC hRc hRs hZ hr rfl h d_AckBook_look_68
  have h := z_ifn hc0 h
  by_cases hc1 : pI1 = (1 : Int32)
  · have h := z_ifp hc1 h
    refine lv_tableIn (tgt := 69) hC.1 hC.2.1 d_AckBook_look_1 (by rw [hc1]; decide) (by rw [hc1]; decide) (by rw [hc1]; rfl) (by decide) ?_
    refine x_aload_n hC d_AckBook_look_69 rfl (lv_at hl 0 rfl) ?_
    refine x_getR hC hZ zc0 h (by decide) t_244 (fun _ h9 => h9) d_AckBook_look_70 (fun r2 h => ?_)
    refine x_getI hC hZ zc8 h (by decide) t_225 (fun _ h9 => h9) d_AckBook_look_73 (fun v3 h => ?_)
    exact x_iret hC hRc hRs hZ hr rfl h d_AckBook_look_76
  have h := z_ifn hc1 h
  by_cases hc2 : pI1 = (2 : Int32)
  · have h := z_ifp hc2 h
    refine lv_tableIn (tgt := 77) hC.1 hC.2.1 d_AckBook_look_1 (by rw [hc2]; decide) (by rw [hc2]; decide) (by rw [hc2]; rfl) (by decide) ?_
    refine x_aload_n hC d_AckBook_look_77 rfl (lv_at hl 0 rfl) ?_
    refine x_getR hC hZ zc0 h (by decide) t_244 (fun _ h9 => h9) d_AckBook_look_78 (fun r4 h => ?_)
    refine x_getI hC hZ zc8 h (by decide) t_227 (fun _ h9 => h9) d_AckBook_look_81 (fun v5 h => ?_)
    exact x_iret hC hRc hRs hZ hr rfl h d_AckBook_look_84
  have h := z_ifn hc2 h
  by_cases hc3 : pI1 = (3 : Int32)
  · have h := z_ifp hc3 h
    refine lv_tableIn (tgt := 85) hC.1 hC.2.1 d_AckBook_look_1 (by rw [hc3]; decide) (by rw [hc3]; decide) (by rw [hc3]; rfl) (by decide) ?_
    refine x_aload_n hC d_AckBook_look_85 rfl (lv_at hl 0 rfl) ?_
    refine x_getR hC hZ zc0 h (by decide) t_244 (fun _ h9 => h9) d_AckBook_look_86 (fun r6 h => ?_)
    refine x_getI hC hZ zc8 h (by decide) t_229 (fun _ h9 => h9) d_AckBook_look_89 (fun v7 h => ?_)
    exact x_iret hC hRc hRs hZ hr rfl h d_AckBook_look_92
  have h := z_ifn hc3 h
  by_cases hc4 : pI1 = (4 : Int32)
  · have h := z_ifp hc4 h
    refine lv_tableIn (tgt := 93) hC.1 hC.2.1 d_AckBook_look_1 (by rw [hc4]; decide) (by rw [hc4]; decide) (by rw [hc4]; rfl) (by decide) ?_
    refine x_aload_n hC d_AckBook_look_93 rfl (lv_at hl 0 rfl) ?_
    refine x_getR hC hZ zc0 h (by decide) t_244 (fun _ h9 => h9) d_AckBook_look_94 (fun r8 h => ?_)
    refine x_getI hC hZ zc8 h (by decide) t_231 (fun _ h9 => h9) d_AckBook_look_97 (fun v9 h => ?_)
    exact x_iret hC hRc hRs hZ hr rfl h d_AckBook_look_100
  have h := z_ifn hc4 h
  by_cases hc5 : pI1 = (5 : Int32)
  · have h := z_ifp hc5 h
    refine lv_tableIn (tgt := 101) hC.1 hC.2.1 d_AckBook_look_1 (by rw [hc5]; decide) (by rw [hc5]; decide) (by rw [hc5]; rfl) (by decide) ?_
    refine x_aload_n hC d_AckBook_look_101 rfl (lv_at hl 0 rfl) ?_
    refine x_getR hC hZ zc0 h (by decide) t_243 (fun _ h9 => h9) d_AckBook_look_102 (fun r10 h => ?_)
    refine x_getI hC hZ zc7 h (by decide) t_198 (fun _ h9 => h9) d_AckBook_look_105 (fun v11 h => ?_)
    exact x_iret hC hRc hRs hZ hr rfl h d_AckBook_look_108
  have h := z_ifn hc5 h
  by_cases hc6 : pI1 = (6 : Int32)
  · have h := z_ifp hc6 h
    refine lv_tableIn (tgt := 109) hC.1 hC.2.1 d_AckBook_look_1 (by rw [hc6]; decide) (by rw [hc6]; decide) (by rw [hc6]; rfl) (by decide) ?_
    refine x_aload_n hC d_AckBook_look_109 rfl (lv_at hl 0 rfl) ?_
    refine x_getR hC hZ zc0 h (by decide) t_243 (fun _ h9 => h9) d_AckBook_look_110 (fun r12 h => ?_)
    refine x_getI hC hZ zc7 h (by decide) t_200 (fun _ h9 => h9) d_AckBook_look_113 (fun v13 h => ?_)
    exact x_iret hC hRc hRs hZ hr rfl h d_AckBook_look_116
  have h := z_ifn hc6 h
  by_cases hc7 : pI1 = (7 : Int32)
  · have h := z_ifp hc7 h
    refine lv_tableIn (tgt := 117) hC.1 hC.2.1 d_AckBook_look_1 (by rw [hc7]; decide) (by rw [hc7]; decide) (by rw [hc7]; rfl) (by decide) ?_
    refine x_aload_n hC d_AckBook_look_117 rfl (lv_at hl 0 rfl) ?_
    refine x_getR hC hZ zc0 h (by decide) t_243 (fun _ h9 => h9) d_AckBook_look_118 (fun r14 h => ?_)
    refine x_getI hC hZ zc7 h (by decide) t_202 (fun _ h9 => h9) d_AckBook_look_121 (fun v15 h => ?_)
    exact x_iret hC hRc hRs hZ hr rfl h d_AckBook_look_124
  have h := z_ifn hc7 h
  by_cases hc8 : pI1 = (8 : Int32)
  · have h := z_ifp hc8 h
    refine lv_tableIn (tgt := 125) hC.1 hC.2.1 d_AckBook_look_1 (by rw [hc8]; decide) (by rw [hc8]; decide) (by rw [hc8]; rfl) (by decide) ?_
    refine x_aload_n hC d_AckBook_look_125 rfl (lv_at hl 0 rfl) ?_
    refine x_getR hC hZ zc0 h (by decide) t_243 (fun _ h9 => h9) d_AckBook_look_126 (fun r16 h => ?_)
    refine x_getI hC hZ zc7 h (by decide) t_204 (fun _ h9 => h9) d_AckBook_look_129 (fun v17 h => ?_)
    exact x_iret hC hRc hRs hZ hr rfl h d_AckBook_look_132
  have h := z_ifn hc8 h
  by_cases hc9 : pI1 = (9 : Int32)
  · have h := z_ifp hc9 h
    refine lv_tableIn (tgt := 133) hC.1 hC.2.1 d_AckBook_look_1 (by rw [hc9]; decide) (by rw [hc9]; decide) (by rw [hc9]; rfl) (by decide) ?_
    refine x_aload_n hC d_AckBook_look_133 rfl (lv_at hl 0 rfl) ?_
    refine x_getI hC hZ zc0 h (by decide) t_246 (fun _ h9 => h9) d_AckBook_look_134 (fun v18 h => ?_)
    exact x_iret hC hRc hRs hZ hr rfl h d_AckBook_look_137
  have h := z_ifn hc9 h
  by_cases hc10 : pI1 = (10 : Int32)
  · have h := z_ifp hc10 h
    refine lv_tableIn (tgt := 138) hC.1 hC.2.1 d_AckBook_look_1 (by rw [hc10]; decide) (by rw [hc10]; decide) (by rw [hc10]; rfl) (by decide) ?_
    refine x_aload_n hC d_AckBook_look_138 rfl (lv_at hl 0 rfl) ?_
    refine x_getR hC hZ zc0 h (by decide) t_243 (fun _ h9 => h9) d_AckBook_look_139 (fun r19 h => ?_)
    obtain ⟨a_, fs_, eo_, h⟩ := z_this_spec h
    obtain ⟨w1_, o1_, hF_, ha_⟩ := z_cI_spec h
    refine x_goes hC hRc hRs hFr ha_ (z_goV (As := []) hC hZ zc7 eo_ (k_AckBook_Way_limit hT hfl hE _ _ hF_) t_300 t_301 t_302 t_10 t_303 ⟨by decide, by decide, (by decide +kernel : (parseMethodDescriptor y_AckBook_Way_limit.desc).map (fun d => d.parameters.length) = some 0)⟩ (by rw [hRt.1]; decide) (by rw [hRt.2]; decide) hl.1 rfl (by first | exact Nat.le_of_ble_eq_true rfl | simp [z_rfc, z_ci, z_cj]) d_AckBook_look_142) (fun v_ hv H locs cells slots hZ => ?_)
    obtain ⟨v21, rfl, h⟩ := hv
    generalize w1_ = w at h hZ
    exact x_iret hC hRc hRs hZ hr rfl h d_AckBook_look_145
  have h := z_ifn hc10 h
  by_cases hc11 : pI1 = (11 : Int32)
  · have h := z_ifp hc11 h
    refine lv_tableIn (tgt := 146) hC.1 hC.2.1 d_AckBook_look_1 (by rw [hc11]; decide) (by rw [hc11]; decide) (by rw [hc11]; rfl) (by decide) ?_
    refine x_aload_n hC d_AckBook_look_146 rfl (lv_at hl 0 rfl) ?_
    refine x_getR hC hZ zc0 h (by decide) t_244 (fun _ h9 => h9) d_AckBook_look_147 (fun r22 h => ?_)
    refine x_getI hC hZ zc8 h (by decide) t_227 (fun _ h9 => h9) d_AckBook_look_150 (fun v23 h => ?_)
    refine x_aload_n hC d_AckBook_look_153 rfl (lv_at hl 0 rfl) ?_
    refine x_getR hC hZ zc0 h (by decide) t_244 (fun _ h9 => h9) d_AckBook_look_154 (fun r24 h => ?_)
    refine x_getI hC hZ zc8 h (by decide) t_225 (fun _ h9 => h9) d_AckBook_look_157 (fun v25 h => ?_)
    refine lv_isub hC.1 hC.2.1 d_AckBook_look_160 ?_
    refine lv_iconst (v := (0 : Int32)) hC.1 hC.2.1 d_AckBook_look_161 (by decide) ?_
    refine va_mmax hC.1 hC.2.1 (hC.2.2.1.trans hl.1.symm) hC.2.2.2.1 ((hZ.1.tb hC.2.2.2.2.2.2 args) _ t_804) ((hZ.1.tb hC.2.2.2.2.2.2 args) _ t_290) ((hZ.1.tb hC.2.2.2.2.2.2 args) _ t_20) ((hZ.1.tb hC.2.2.2.2.2.2 args) _ t_291) (by rw [hRt.1]; decide) (by rw [hRt.2]; first | exact Nat.le_of_ble_eq_true rfl | simp [z_rfc, z_ci, z_cj]) (hZ.2.2.1 ▸ Nat.le_add_right _ _) (hZ.2.2.2 ▸ Nat.le_add_right _ _) d_AckBook_look_162 ?_
    exact x_iret hC hRc hRs hZ hr rfl h d_AckBook_look_165
  have h := z_ifn hc11 h
  refine lv_tableOut (tgt := 166) hC.1 hC.2.1 d_AckBook_look_1 (z_tab 11 (fun k hk => match k, hk with | 0, _ => hc0 | 1, _ => hc1 | 2, _ => hc2 | 3, _ => hc3 | 4, _ => hc4 | 5, _ => hc5 | 6, _ => hc6 | 7, _ => hc7 | 8, _ => hc8 | 9, _ => hc9 | 10, _ => hc10 | 11, _ => hc11 | _ + 12, hk => absurd hk (by omega))) (by decide) ?_
  cases h
def f_AckBook_space (F X : Nat) (a0 : Option Nat) (pI1 : Int32) (pI2 : Int32) (w : zW) : zR :=
  z_this w 0 a0 <|
  z_cR (f_AckBook_known F X a0 pI1 w) fun r2 w =>
  if pI2 = (0 : Int32) then (
    z_getR w 1 1 r2 fun r3 =>
    z_this w 2 r3 <|
    z_cI (f_AckBook_Sent_count F X r3 w) fun v5 w =>
    some (.inl (some (.long v5.toInt64)), w))
  else if pI2 = (1 : Int32) then (
    z_getR w 1 1 r2 fun r6 =>
    z_getI w 2 6 r6 fun v7 =>
    some (.inl (some (.long v7.toInt64)), w))
  else if pI2 = (2 : Int32) then (
    z_getR w 1 1 r2 fun r8 =>
    z_getI w 2 7 r8 fun v9 =>
    some (.inl (some (.long v9.toInt64)), w))
  else if pI2 = (3 : Int32) then (
    z_this w 0 a0 <|
    z_cI (f_AckBook_probeTime F X a0 r2 w) fun v11 w =>
    some (.inl (some (.long v11.toInt64)), w))
  else if pI2 = (4 : Int32) then (
    z_getR w 1 1 r2 fun r12 =>
    z_getI w 2 3 r12 fun v13 =>
    some (.inl (some (.long v13.toInt64)), w))
  else if pI2 = (5 : Int32) then (
    z_getR w 1 1 r2 fun r14 =>
    z_getI w 2 4 r14 fun v15 =>
    some (.inl (some (.long v15.toInt64)), w))
  else if pI2 = (6 : Int32) then (
    z_getR w 1 2 r2 fun r16 =>
    z_getI w 5 2 r16 fun v17 =>
    some (.inl (some (.long v17.toInt64)), w))
  else if pI2 = (7 : Int32) then (
    z_getR w 1 2 r2 fun r18 =>
    z_getI w 5 4 r18 fun v19 =>
    some (.inl (some (.long v19.toInt64)), w))
  else if pI2 = (8 : Int32) then (
    z_this w 0 a0 <|
    z_cI (f_AckBook_patience F X a0 r2 w) fun v21 w =>
    some (.inl (some (.long v21.toInt64)), w))
  else if pI2 = (9 : Int32) then (
    z_getI w 1 3 r2 fun v22 =>
    if v22 = 0 then (
      some (.inl (some (.long (0 : Int64))), w))
    else (
      some (.inl (some (.long (1 : Int64))), w)))
  else if pI2 = (10 : Int32) then (
    z_getR w 1 2 r2 fun r23 =>
    z_getL w 5 3 r23 fun v24 =>
    some (.inl (some (.long v24)), w))
  else (
    none)
set_option maxHeartbeats 4000000 in
set_option maxRecDepth 100000 in
theorem k_AckBook_space {b0 : Nat} {H0 : Heap} {D : va_G} {vu vs : Value} {X : Nat} {l : Launch} (hT : z_TB (zGG b0 H0 D vu vs X)) (hfl : l.flags = pinnedFlags ++ [noTraceFlag]) (hE : vu.isRef = true ∧ vs.isRef = true) {a0 : Option Nat} {pI1 : Int32} {pI2 : Int32} (F : Nat) {w : zW} (res : zO × zW) (h : f_AckBook_space F X a0 pI1 pI2 w = some res) : z_Ct (zGG b0 H0 D vu vs X) l y_AckBook_space (.code y_AckBook_space c_AckBook_space 4 (some FieldType.long)) 7 121 [va_rf a0, .int pI1, .int pI2] w res := by
  refine z_ct hT hfl (by decide) (by simp only [z_sl_i, z_sl_j, z_sl_r, z_sl_n]; decide) ?_
  intro p e R s m args below meth c hC hr hRc hRs hRt hnm hFr H ls hZ hl
  simp only [z_la_i, z_la_j, z_la_r, z_la_n] at hl
  have hl : lv_has ls 4 [(0, va_rf a0), (1, .int pI1), (2, .int pI2)] := hl
  unfold f_AckBook_space at h
  refine x_aload_n hC d_AckBook_space_0 rfl (lv_at hl 0 rfl) ?_
  refine lv_iload_n hC.1 hC.2.1 d_AckBook_space_1 rfl (lv_at hl 1 rfl) ?_
  obtain ⟨a_, fs_, eo_, h⟩ := z_this_spec h
  obtain ⟨w1_, o1_, hF_, ha_⟩ := z_cR_spec h
  refine x_goes hC hRc hRs hFr ha_ (z_goV (As := [.int pI1]) hC hZ zc0 eo_ (k_AckBook_known hT hfl hE _ _ hF_) t_380 t_382 ts_AckBook_known t_1 t_383 ⟨by decide, by decide, (by decide +kernel : (parseMethodDescriptor y_AckBook_known.desc).map (fun d => d.parameters.length) = some 1)⟩ (by rw [hRt.1]; decide) (by rw [hRt.2]; decide) hl.1 rfl (by first | exact Nat.le_of_ble_eq_true rfl | simp [z_rfc, z_ci, z_cj]) d_AckBook_space_2) (fun v_ hv H locs cells slots hZ => ?_)
  obtain ⟨r2, rfl, h⟩ := hv
  generalize w1_ = w at h hZ
  refine x_astore_n (i := 3) (lv' := [(3, va_rf r2), (0, va_rf a0), (1, .int pI1), (2, .int pI2)]) hC d_AckBook_space_5 rfl hl (by decide) (by first | rfl | simp [z_rfc, z_ci, z_cj]) (fun ls hl => ?_)
  refine lv_iload_n hC.1 hC.2.1 d_AckBook_space_6 rfl (lv_at hl 3 rfl) ?_
  by_cases hc0 : pI2 = (0 : Int32)
  · have h := z_ifp hc0 h
    refine lv_tableIn (tgt := 64) hC.1 hC.2.1 d_AckBook_space_7 (by rw [hc0]; decide) (by rw [hc0]; decide) (by rw [hc0]; rfl) (by decide) ?_
    refine x_aload_n hC d_AckBook_space_64 rfl (lv_at hl 0 rfl) ?_
    refine x_getR hC hZ zc1 h (by decide) t_158 (fun _ h9 => h9) d_AckBook_space_65 (fun r3 h => ?_)
    obtain ⟨a_, fs_, eo_, h⟩ := z_this_spec h
    obtain ⟨w1_, o1_, hF_, ha_⟩ := z_cI_spec h
    refine x_goes hC hRc hRs hFr ha_ (z_goV (As := []) hC hZ zc2 eo_ (k_AckBook_Sent_count hT hfl hE _ _ hF_) t_473 t_474 t_475 t_3 t_476 ⟨by decide, by decide, (by decide +kernel : (parseMethodDescriptor y_AckBook_Sent_count.desc).map (fun d => d.parameters.length) = some 0)⟩ (by rw [hRt.1]; decide) (by rw [hRt.2]; decide) hl.1 rfl (by first | exact Nat.le_of_ble_eq_true rfl | simp [z_rfc, z_ci, z_cj]) d_AckBook_space_68) (fun v_ hv H locs cells slots hZ => ?_)
    obtain ⟨v5, rfl, h⟩ := hv
    generalize w1_ = w at h hZ
    refine lv_i2l hC.1 hC.2.1 d_AckBook_space_71 rfl ?_
    exact x_lret hC hRc hRs hZ hr h d_AckBook_space_72
  have h := z_ifn hc0 h
  by_cases hc1 : pI2 = (1 : Int32)
  · have h := z_ifp hc1 h
    refine lv_tableIn (tgt := 73) hC.1 hC.2.1 d_AckBook_space_7 (by rw [hc1]; decide) (by rw [hc1]; decide) (by rw [hc1]; rfl) (by decide) ?_
    refine x_aload_n hC d_AckBook_space_73 rfl (lv_at hl 0 rfl) ?_
    refine x_getR hC hZ zc1 h (by decide) t_158 (fun _ h9 => h9) d_AckBook_space_74 (fun r6 h => ?_)
    refine x_getI hC hZ zc2 h (by decide) t_98 (fun _ h9 => h9) d_AckBook_space_77 (fun v7 h => ?_)
    refine lv_i2l hC.1 hC.2.1 d_AckBook_space_80 rfl ?_
    exact x_lret hC hRc hRs hZ hr h d_AckBook_space_81
  have h := z_ifn hc1 h
  by_cases hc2 : pI2 = (2 : Int32)
  · have h := z_ifp hc2 h
    refine lv_tableIn (tgt := 82) hC.1 hC.2.1 d_AckBook_space_7 (by rw [hc2]; decide) (by rw [hc2]; decide) (by rw [hc2]; rfl) (by decide) ?_
    refine x_aload_n hC d_AckBook_space_82 rfl (lv_at hl 0 rfl) ?_
    refine x_getR hC hZ zc1 h (by decide) t_158 (fun _ h9 => h9) d_AckBook_space_83 (fun r8 h => ?_)
    refine x_getI hC hZ zc2 h (by decide) t_100 (fun _ h9 => h9) d_AckBook_space_86 (fun v9 h => ?_)
    refine lv_i2l hC.1 hC.2.1 d_AckBook_space_89 rfl ?_
    exact x_lret hC hRc hRs hZ hr h d_AckBook_space_90
  have h := z_ifn hc2 h
  by_cases hc3 : pI2 = (3 : Int32)
  · have h := z_ifp hc3 h
    refine lv_tableIn (tgt := 91) hC.1 hC.2.1 d_AckBook_space_7 (by rw [hc3]; decide) (by rw [hc3]; decide) (by rw [hc3]; rfl) (by decide) ?_
    refine x_aload_n hC d_AckBook_space_91 rfl (lv_at hl 1 rfl) ?_
    refine x_aload_n hC d_AckBook_space_92 rfl (lv_at hl 0 rfl) ?_
    obtain ⟨a_, fs_, eo_, h⟩ := z_this_spec h
    obtain ⟨w1_, o1_, hF_, ha_⟩ := z_cI_spec h
    refine x_goes hC hRc hRs hFr ha_ (z_goV (As := [va_rf r2]) hC hZ zc0 eo_ (k_AckBook_probeTime hT hfl hE _ _ hF_) t_277 t_279 ts_AckBook_probeTime t_1 t_280 ⟨by decide, by decide, (by decide +kernel : (parseMethodDescriptor y_AckBook_probeTime.desc).map (fun d => d.parameters.length) = some 1)⟩ (by rw [hRt.1]; decide) (by rw [hRt.2]; decide) hl.1 rfl (by first | exact Nat.le_of_ble_eq_true rfl | simp [z_rfc, z_ci, z_cj]) d_AckBook_space_93) (fun v_ hv H locs cells slots hZ => ?_)
    obtain ⟨v11, rfl, h⟩ := hv
    generalize w1_ = w at h hZ
    refine lv_i2l hC.1 hC.2.1 d_AckBook_space_96 rfl ?_
    exact x_lret hC hRc hRs hZ hr h d_AckBook_space_97
  have h := z_ifn hc3 h
  by_cases hc4 : pI2 = (4 : Int32)
  · have h := z_ifp hc4 h
    refine lv_tableIn (tgt := 98) hC.1 hC.2.1 d_AckBook_space_7 (by rw [hc4]; decide) (by rw [hc4]; decide) (by rw [hc4]; rfl) (by decide) ?_
    refine x_aload_n hC d_AckBook_space_98 rfl (lv_at hl 0 rfl) ?_
    refine x_getR hC hZ zc1 h (by decide) t_158 (fun _ h9 => h9) d_AckBook_space_99 (fun r12 h => ?_)
    refine x_getI hC hZ zc2 h (by decide) t_92 (fun _ h9 => h9) d_AckBook_space_102 (fun v13 h => ?_)
    refine lv_i2l hC.1 hC.2.1 d_AckBook_space_105 rfl ?_
    exact x_lret hC hRc hRs hZ hr h d_AckBook_space_106
  have h := z_ifn hc4 h
  by_cases hc5 : pI2 = (5 : Int32)
  · have h := z_ifp hc5 h
    refine lv_tableIn (tgt := 107) hC.1 hC.2.1 d_AckBook_space_7 (by rw [hc5]; decide) (by rw [hc5]; decide) (by rw [hc5]; rfl) (by decide) ?_
    refine x_aload_n hC d_AckBook_space_107 rfl (lv_at hl 0 rfl) ?_
    refine x_getR hC hZ zc1 h (by decide) t_158 (fun _ h9 => h9) d_AckBook_space_108 (fun r14 h => ?_)
    refine x_getI hC hZ zc2 h (by decide) t_94 (fun _ h9 => h9) d_AckBook_space_111 (fun v15 h => ?_)
    refine lv_i2l hC.1 hC.2.1 d_AckBook_space_114 rfl ?_
    exact x_lret hC hRc hRs hZ hr h d_AckBook_space_115
  have h := z_ifn hc5 h
  by_cases hc6 : pI2 = (6 : Int32)
  · have h := z_ifp hc6 h
    refine lv_tableIn (tgt := 116) hC.1 hC.2.1 d_AckBook_space_7 (by rw [hc6]; decide) (by rw [hc6]; decide) (by rw [hc6]; rfl) (by decide) ?_
    refine x_aload_n hC d_AckBook_space_116 rfl (lv_at hl 0 rfl) ?_
    refine x_getR hC hZ zc1 h (by decide) t_160 (fun _ h9 => h9) d_AckBook_space_117 (fun r16 h => ?_)
    refine x_getI hC hZ zc5 h (by decide) t_129 (fun _ h9 => h9) d_AckBook_space_120 (fun v17 h => ?_)
    refine lv_i2l hC.1 hC.2.1 d_AckBook_space_123 rfl ?_
    exact x_lret hC hRc hRs hZ hr h d_AckBook_space_124
  have h := z_ifn hc6 h
  by_cases hc7 : pI2 = (7 : Int32)
  · have h := z_ifp hc7 h
    refine lv_tableIn (tgt := 125) hC.1 hC.2.1 d_AckBook_space_7 (by rw [hc7]; decide) (by rw [hc7]; decide) (by rw [hc7]; rfl) (by decide) ?_
    refine x_aload_n hC d_AckBook_space_125 rfl (lv_at hl 0 rfl) ?_
    refine x_getR hC hZ zc1 h (by decide) t_160 (fun _ h9 => h9) d_AckBook_space_126 (fun r18 h => ?_)
    refine x_getI hC hZ zc5 h (by decide) t_133 (fun _ h9 => h9) d_AckBook_space_129 (fun v19 h => ?_)
    refine lv_i2l hC.1 hC.2.1 d_AckBook_space_132 rfl ?_
    exact x_lret hC hRc hRs hZ hr h d_AckBook_space_133
  have h := z_ifn hc7 h
  by_cases hc8 : pI2 = (8 : Int32)
  · have h := z_ifp hc8 h
    refine lv_tableIn (tgt := 134) hC.1 hC.2.1 d_AckBook_space_7 (by rw [hc8]; decide) (by rw [hc8]; decide) (by rw [hc8]; rfl) (by decide) ?_
    refine x_aload_n hC d_AckBook_space_134 rfl (lv_at hl 1 rfl) ?_
    refine x_aload_n hC d_AckBook_space_135 rfl (lv_at hl 0 rfl) ?_
    obtain ⟨a_, fs_, eo_, h⟩ := z_this_spec h
    obtain ⟨w1_, o1_, hF_, ha_⟩ := z_cI_spec h
    refine x_goes hC hRc hRs hFr ha_ (z_goV (As := [va_rf r2]) hC hZ zc0 eo_ (k_AckBook_patience hT hfl hE _ _ hF_) t_281 t_283 ts_AckBook_patience t_1 t_284 ⟨by decide, by decide, (by decide +kernel : (parseMethodDescriptor y_AckBook_patience.desc).map (fun d => d.parameters.length) = some 1)⟩ (by rw [hRt.1]; decide) (by rw [hRt.2]; decide) hl.1 rfl (by first | exact Nat.le_of_ble_eq_true rfl | simp [z_rfc, z_ci, z_cj]) d_AckBook_space_136) (fun v_ hv H locs cells slots hZ => ?_)
    obtain ⟨v21, rfl, h⟩ := hv
    generalize w1_ = w at h hZ
    refine lv_i2l hC.1 hC.2.1 d_AckBook_space_139 rfl ?_
    exact x_lret hC hRc hRs hZ hr h d_AckBook_space_140
  have h := z_ifn hc8 h
  by_cases hc9 : pI2 = (9 : Int32)
  · have h := z_ifp hc9 h
    refine lv_tableIn (tgt := 141) hC.1 hC.2.1 d_AckBook_space_7 (by rw [hc9]; decide) (by rw [hc9]; decide) (by rw [hc9]; rfl) (by decide) ?_
    refine x_aload_n hC d_AckBook_space_141 rfl (lv_at hl 0 rfl) ?_
    refine x_getI hC hZ zc1 h (by decide) t_161 (fun _ h9 => h9) d_AckBook_space_142 (fun v22 h => ?_)
    refine lv_if_eq (tgt := 152) hC.1 hC.2.1 d_AckBook_space_145 (by decide) (fun hc => ?_) (fun hc => ?_)
    · have h := z_ifp hc h
      refine lv_lconst (v := (0 : Int64)) hC.1 hC.2.1 d_AckBook_space_152 (by decide) ?_
      exact x_lret hC hRc hRs hZ hr h d_AckBook_space_153
    · have h := z_ifn hc h
      refine lv_lconst (v := (1 : Int64)) hC.1 hC.2.1 d_AckBook_space_148 (by decide) ?_
      refine lv_goto (tgt := 153) hC.1 hC.2.1 d_AckBook_space_149 (by decide) ?_
      exact x_lret hC hRc hRs hZ hr h d_AckBook_space_153
  have h := z_ifn hc9 h
  by_cases hc10 : pI2 = (10 : Int32)
  · have h := z_ifp hc10 h
    refine lv_tableIn (tgt := 154) hC.1 hC.2.1 d_AckBook_space_7 (by rw [hc10]; decide) (by rw [hc10]; decide) (by rw [hc10]; rfl) (by decide) ?_
    refine x_aload_n hC d_AckBook_space_154 rfl (lv_at hl 0 rfl) ?_
    refine x_getR hC hZ zc1 h (by decide) t_160 (fun _ h9 => h9) d_AckBook_space_155 (fun r23 h => ?_)
    refine x_getL hC hZ zc5 h (by decide) t_131 (fun _ h9 => h9) d_AckBook_space_158 (fun v24 h => ?_)
    exact x_lret hC hRc hRs hZ hr h d_AckBook_space_161
  have h := z_ifn hc10 h
  refine lv_tableOut (tgt := 162) hC.1 hC.2.1 d_AckBook_space_7 (z_tab 10 (fun k hk => match k, hk with | 0, _ => hc0 | 1, _ => hc1 | 2, _ => hc2 | 3, _ => hc3 | 4, _ => hc4 | 5, _ => hc5 | 6, _ => hc6 | 7, _ => hc7 | 8, _ => hc8 | 9, _ => hc9 | 10, _ => hc10 | _ + 11, hk => absurd hk (by omega))) (by decide) ?_
  cases h
