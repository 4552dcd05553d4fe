def f_AckBookModel_due (F X : Nat) (a0 : Option Nat) (pI1 : Int32) (w : zW) : zR :=
  z_cI (f_AckBookModel_noSpace F X pI1 w) fun v2 w =>
  z_this w 10 a0 <|
  z_cI (f_AckBookModel_fails F X a0 v2 (1 : Int32) w) fun v4 w =>
  if v4 = 0 then (
    z_getR w 10 35 a0 fun r5 =>
    z_ldI w .int r5 pI1 fun v6 =>
    if v6 = 0 then (
      some (.inl (some (.int (0 : Int32))), w))
    else (
      if pI1 < (2 : Int32) then (
        some (.inl (some (.int (1 : Int32))), w))
      else (
        z_getR w 10 35 a0 fun r7 =>
        z_ldI w .int r7 pI1 fun v8 =>
        if (1 : Int32) < v8 then (
          some (.inl (some (.int (1 : Int32))), w))
        else (
          z_getR w 10 37 a0 fun r9 =>
          z_ldI w .boolean r9 pI1 fun v10 =>
          if v10 = 0 then (
            z_getI w 10 1 a0 fun v11 =>
            z_getR w 10 36 a0 fun r12 =>
            z_ldI w .int r12 pI1 fun v13 =>
            if (v11 - v13) < (25 : Int32) then (
              some (.inl (some (.int (0 : Int32))), w))
            else (
              some (.inl (some (.int (1 : Int32))), w)))
          else (
            some (.inl (some (.int (1 : Int32))), w))))))
  else (
    some (.inl (some (.int (0 : Int32))), w))
set_option maxHeartbeats 4000000 in
set_option maxRecDepth 100000 in
theorem k_AckBookModel_due {b0 : Nat} {H0 : Heap} {D : va_G} {vu vs : Value} {X : Nat} {l : Launch} (hT : z_TB (zGG b0 H0 D vu vs X)) (hfl : l.flags = pinnedFlags ++ [noTraceFlag]) (hE : vu.isRef = true ∧ vs.isRef = true) {a0 : Option Nat} {pI1 : Int32} (F : Nat) {w : zW} (res : zO × zW) (h : f_AckBookModel_due F X a0 pI1 w = some res) : z_Ct (zGG b0 H0 D vu vs X) l y_AckBookModel_due (.code y_AckBookModel_due c_AckBookModel_due 2 (some FieldType.boolean)) 1 22 [va_rf a0, .int pI1] w res := by
  refine z_ct hT hfl (by decide) (by simp only [z_sl_i, z_sl_j, z_sl_r, z_sl_n]; decide) ?_
  intro p e R s m args below meth c hC hr hRc hRs hRt hnm hFr H ls hZ hl
  simp only [z_la_i, z_la_j, z_la_r, z_la_n] at hl
  have hl : lv_has ls 2 [(0, va_rf a0), (1, .int pI1)] := hl
  unfold f_AckBookModel_due at h
  refine x_aload_n hC d_AckBookModel_due_0 rfl (lv_at hl 0 rfl) ?_
  refine lv_iload_n hC.1 hC.2.1 d_AckBookModel_due_1 rfl (lv_at hl 1 rfl) ?_
  obtain ⟨w1_, o1_, hF_, ha_⟩ := z_cI_spec h
  refine x_goes hC hRc hRs hFr ha_ (z_goS (As := [.int pI1]) hC hZ (k_AckBookModel_noSpace hT hfl hE _ _ hF_) t_944 t_945 t_12 t_946 ⟨by decide, by decide, (by decide +kernel : (parseMethodDescriptor y_AckBookModel_noSpace.desc).map (fun d => d.parameters.length) = some 1)⟩ (by rw [hRt.1]; decide) (by rw [hRt.2]; decide) hl.1 rfl (by first | exact Nat.le_of_ble_eq_true rfl | simp [z_rfc, z_ci, z_cj]) d_AckBookModel_due_2) (fun v_ hv H locs cells slots hZ => ?_)
  obtain ⟨v2, rfl, h⟩ := hv
  generalize w1_ = w at h hZ
  refine lv_iconst (v := (1 : Int32)) hC.1 hC.2.1 d_AckBookModel_due_5 (by decide) ?_
  obtain ⟨a_, fs_, eo_, h⟩ := z_this_spec h
  obtain ⟨w1_, o1_, hF_, ha_⟩ := z_cI_spec h
  refine x_goes hC hRc hRs hFr ha_ (z_goV (As := [.int v2, .int (1 : Int32)]) hC hZ zc10 eo_ (k_AckBookModel_fails hT hfl hE _ _ hF_) t_947 t_949 ts_AckBookModel_fails t_12 t_950 ⟨by decide, by decide, (by decide +kernel : (parseMethodDescriptor y_AckBookModel_fails.desc).map (fun d => d.parameters.length) = some 2)⟩ (by rw [hRt.1]; decide) (by rw [hRt.2]; decide) hl.1 rfl (by first | exact Nat.le_of_ble_eq_true rfl | simp [z_rfc, z_ci, z_cj]) d_AckBookModel_due_6) (fun v_ hv H locs cells slots hZ => ?_)
  obtain ⟨v4, rfl, h⟩ := hv
  generalize w1_ = w at h hZ
  refine lv_if_ne (tgt := 21) hC.1 hC.2.1 d_AckBookModel_due_9 (by decide) (fun hc => ?_) (fun hc => ?_)
  · have h := z_ifn hc h
    refine lv_iconst (v := (0 : Int32)) hC.1 hC.2.1 d_AckBookModel_due_21 (by decide) ?_
    exact x_iret hC hRc hRs hZ hr rfl h d_AckBookModel_due_22
  · have h := z_ifp hc h
    refine x_aload_n hC d_AckBookModel_due_12 rfl (lv_at hl 0 rfl) ?_
    refine x_getR hC hZ zc10 h (by decide) t_854 (fun _ h9 => h9) d_AckBookModel_due_13 (fun r5 h => ?_)
    refine lv_iload_n hC.1 hC.2.1 d_AckBookModel_due_16 rfl (lv_at hl 1 rfl) ?_
    refine x_ldI hC hZ h d_AckBookModel_due_17 (fun v6 h => ?_)
    refine lv_if_ne (tgt := 23) hC.1 hC.2.1 d_AckBookModel_due_18 (by decide) (fun hc => ?_) (fun hc => ?_)
    · have h := z_ifn hc h
      refine lv_iload_n hC.1 hC.2.1 d_AckBookModel_due_23 rfl (lv_at hl 1 rfl) ?_
      refine lv_iconst (v := (2 : Int32)) hC.1 hC.2.1 d_AckBookModel_due_24 (by decide) ?_
      refine lv_icmp_lt (tgt := 63) hC.1 hC.2.1 d_AckBookModel_due_25 (by decide) (fun hc => ?_) (fun hc => ?_)
      · have h := z_ifp hc h
        refine lv_iconst (v := (1 : Int32)) hC.1 hC.2.1 d_AckBookModel_due_63 (by decide) ?_
        refine lv_goto (tgt := 68) hC.1 hC.2.1 d_AckBookModel_due_64 (by decide) ?_
        exact x_iret hC hRc hRs hZ hr rfl h d_AckBookModel_due_68
      · have h := z_ifn hc h
        refine x_aload_n hC d_AckBookModel_due_28 rfl (lv_at hl 0 rfl) ?_
        refine x_getR hC hZ zc10 h (by decide) t_854 (fun _ h9 => h9) d_AckBookModel_due_29 (fun r7 h => ?_)
        refine lv_iload_n hC.1 hC.2.1 d_AckBookModel_due_32 rfl (lv_at hl 1 rfl) ?_
        refine x_ldI hC hZ h d_AckBookModel_due_33 (fun v8 h => ?_)
        refine lv_iconst (v := (1 : Int32)) hC.1 hC.2.1 d_AckBookModel_due_34 (by decide) ?_
        refine lv_icmp_gt (tgt := 63) hC.1 hC.2.1 d_AckBookModel_due_35 (by decide) (fun hc => ?_) (fun hc => ?_)
        · have h := z_ifp hc h
          refine lv_iconst (v := (1 : Int32)) hC.1 hC.2.1 d_AckBookModel_due_63 (by decide) ?_
          refine lv_goto (tgt := 68) hC.1 hC.2.1 d_AckBookModel_due_64 (by decide) ?_
          exact x_iret hC hRc hRs hZ hr rfl h d_AckBookModel_due_68
        · have h := z_ifn hc h
          refine x_aload_n hC d_AckBookModel_due_38 rfl (lv_at hl 0 rfl) ?_
          refine x_getR hC hZ zc10 h (by decide) t_856 (fun _ h9 => h9) d_AckBookModel_due_39 (fun r9 h => ?_)
          refine lv_iload_n hC.1 hC.2.1 d_AckBookModel_due_42 rfl (lv_at hl 1 rfl) ?_
          refine x_ldZ hC hZ h d_AckBookModel_due_43 (fun v10 h => ?_)
          refine lv_if_ne (tgt := 63) hC.1 hC.2.1 d_AckBookModel_due_44 (by decide) (fun hc => ?_) (fun hc => ?_)
          · have h := z_ifn hc h
            refine lv_iconst (v := (1 : Int32)) hC.1 hC.2.1 d_AckBookModel_due_63 (by decide) ?_
            refine lv_goto (tgt := 68) hC.1 hC.2.1 d_AckBookModel_due_64 (by decide) ?_
            exact x_iret hC hRc hRs hZ hr rfl h d_AckBookModel_due_68
          · have h := z_ifp hc h
            refine x_aload_n hC d_AckBookModel_due_47 rfl (lv_at hl 0 rfl) ?_
            refine x_getI hC hZ zc10 h (by decide) t_820 (fun _ h9 => h9) d_AckBookModel_due_48 (fun v11 h => ?_)
            refine x_aload_n hC d_AckBookModel_due_51 rfl (lv_at hl 0 rfl) ?_
            refine x_getR hC hZ zc10 h (by decide) t_855 (fun _ h9 => h9) d_AckBookModel_due_52 (fun r12 h => ?_)
            refine lv_iload_n hC.1 hC.2.1 d_AckBookModel_due_55 rfl (lv_at hl 1 rfl) ?_
            refine x_ldI hC hZ h d_AckBookModel_due_56 (fun v13 h => ?_)
            refine lv_isub hC.1 hC.2.1 d_AckBookModel_due_57 ?_
            refine lv_bipush (v := (25 : Int32)) hC.1 hC.2.1 d_AckBookModel_due_58 (by decide) ?_
            refine lv_icmp_lt (tgt := 67) hC.1 hC.2.1 d_AckBookModel_due_60 (by decide) (fun hc => ?_) (fun hc => ?_)
            · have h := z_ifp hc h
              refine lv_iconst (v := (0 : Int32)) hC.1 hC.2.1 d_AckBookModel_due_67 (by decide) ?_
              exact x_iret hC hRc hRs hZ hr rfl h d_AckBookModel_due_68
            · have h := z_ifn hc h
              refine lv_iconst (v := (1 : Int32)) hC.1 hC.2.1 d_AckBookModel_due_63 (by decide) ?_
              refine lv_goto (tgt := 68) hC.1 hC.2.1 d_AckBookModel_due_64 (by decide) ?_
              exact x_iret hC hRc hRs hZ hr rfl h d_AckBookModel_due_68
    · have h := z_ifp hc h
      refine lv_iconst (v := (0 : Int32)) hC.1 hC.2.1 d_AckBookModel_due_21 (by decide) ?_
      exact x_iret hC hRc hRs hZ hr rfl h d_AckBookModel_due_22
def f_AckBookModel_written (F X : Nat) (a0 : Option Nat) (pI1 : Int32) (w : zW) : zR :=
  z_cI (f_AckBookModel_noSpace F X pI1 w) fun v2 w =>
  z_this w 10 a0 <|
  z_cI (f_AckBookModel_fails F X a0 v2 (1 : Int32) w) fun v4 w =>
  if v4 = 0 then (
    z_getR w 10 30 a0 fun r5 =>
    z_ldI w .int r5 pI1 fun v6 =>
    if v6 = 0 then (
      z_this w 10 a0 <|
      z_cI (f_AckBookModel_fails F X a0 (1 : Int32) (2 : Int32) w) fun v8 w =>
      if v8 = 0 then (
        z_getR w 10 35 a0 fun r9 =>
        z_stI w r9 pI1 (0 : Int32) fun w =>
        z_getR w 10 37 a0 fun r10 =>
        z_stZ w r10 pI1 (0 : Int32) fun w =>
        z_getI w 10 1 a0 fun v11 =>
        z_getR w 10 34 a0 fun r12 =>
        z_ldI w .int r12 pI1 fun v13 =>
        some (.inl (some (.int (v11 - v13))), w))
      else (
        some (.inl (some (.int (0 : Int32))), w)))
    else (
      z_getR w 10 11 a0 fun r14 =>
      z_ldI w .boolean r14 pI1 fun v15 =>
      if v15 = 0 then (
        z_this w 10 a0 <|
        z_cI (f_AckBookModel_fails F X a0 (0 : Int32) (2 : Int32) w) fun v17 w =>
        if v17 = 0 then (
          z_getR w 10 35 a0 fun r18 =>
          z_stI w r18 pI1 (0 : Int32) fun w =>
          z_getR w 10 37 a0 fun r19 =>
          z_stZ w r19 pI1 (0 : Int32) fun w =>
          z_getI w 10 1 a0 fun v20 =>
          z_getR w 10 34 a0 fun r21 =>
          z_ldI w .int r21 pI1 fun v22 =>
          some (.inl (some (.int (v20 - v22))), w))
        else (
          some (.inl (some (.int (0 : Int32))), w)))
      else (
        z_this w 10 a0 <|
        z_cI (f_AckBookModel_fails F X a0 (1 : Int32) (2 : Int32) w) fun v24 w =>
        if v24 = 0 then (
          z_getR w 10 35 a0 fun r25 =>
          z_stI w r25 pI1 (0 : Int32) fun w =>
          z_getR w 10 37 a0 fun r26 =>
          z_stZ w r26 pI1 (0 : Int32) fun w =>
          z_getI w 10 1 a0 fun v27 =>
          z_getR w 10 34 a0 fun r28 =>
          z_ldI w .int r28 pI1 fun v29 =>
          some (.inl (some (.int (v27 - v29))), w))
        else (
          some (.inl (some (.int (0 : Int32))), w)))))
  else (
    some (.inl (some (.int (0 : Int32))), w))
set_option maxHeartbeats 4000000 in
set_option maxRecDepth 100000 in
theorem k_AckBookModel_written {b0 : Nat} {H0 : Heap} {D : va_G} {vu vs : Value} {X : Nat} {l : Launch} (hT : z_TB (zGG b0 H0 D vu vs X)) (hfl : l.flags = pinnedFlags ++ [noTraceFlag]) (hE : vu.isRef = true ∧ vs.isRef = true) {a0 : Option Nat} {pI1 : Int32} (F : Nat) {w : zW} (res : zO × zW) (h : f_AckBookModel_written F X a0 pI1 w = some res) : z_Ct (zGG b0 H0 D vu vs X) l y_AckBookModel_written (.code y_AckBookModel_written c_AckBookModel_written 2 (some FieldType.int)) 1 22 [va_rf a0, .int pI1] w res := by
  refine z_ct hT hfl (by decide) (by simp only [z_sl_i, z_sl_j, z_sl_r, z_sl_n]; decide) ?_
  intro p e R s m args below meth c hC hr hRc hRs hRt hnm hFr H ls hZ hl
  simp only [z_la_i, z_la_j, z_la_r, z_la_n] at hl
  have hl : lv_has ls 2 [(0, va_rf a0), (1, .int pI1)] := hl
  unfold f_AckBookModel_written at h
  refine x_aload_n hC d_AckBookModel_written_0 rfl (lv_at hl 0 rfl) ?_
  refine lv_iload_n hC.1 hC.2.1 d_AckBookModel_written_1 rfl (lv_at hl 1 rfl) ?_
  obtain ⟨w1_, o1_, hF_, ha_⟩ := z_cI_spec h
  refine x_goes hC hRc hRs hFr ha_ (z_goS (As := [.int pI1]) hC hZ (k_AckBookModel_noSpace hT hfl hE _ _ hF_) t_944 t_945 t_12 t_946 ⟨by decide, by decide, (by decide +kernel : (parseMethodDescriptor y_AckBookModel_noSpace.desc).map (fun d => d.parameters.length) = some 1)⟩ (by rw [hRt.1]; decide) (by rw [hRt.2]; decide) hl.1 rfl (by first | exact Nat.le_of_ble_eq_true rfl | simp [z_rfc, z_ci, z_cj]) d_AckBookModel_written_2) (fun v_ hv H locs cells slots hZ => ?_)
  obtain ⟨v2, rfl, h⟩ := hv
  generalize w1_ = w at h hZ
  refine lv_iconst (v := (1 : Int32)) hC.1 hC.2.1 d_AckBookModel_written_5 (by decide) ?_
  obtain ⟨a_, fs_, eo_, h⟩ := z_this_spec h
  obtain ⟨w1_, o1_, hF_, ha_⟩ := z_cI_spec h
  refine x_goes hC hRc hRs hFr ha_ (z_goV (As := [.int v2, .int (1 : Int32)]) hC hZ zc10 eo_ (k_AckBookModel_fails hT hfl hE _ _ hF_) t_947 t_949 ts_AckBookModel_fails t_12 t_950 ⟨by decide, by decide, (by decide +kernel : (parseMethodDescriptor y_AckBookModel_fails.desc).map (fun d => d.parameters.length) = some 2)⟩ (by rw [hRt.1]; decide) (by rw [hRt.2]; decide) hl.1 rfl (by first | exact Nat.le_of_ble_eq_true rfl | simp [z_rfc, z_ci, z_cj]) d_AckBookModel_written_6) (fun v_ hv H locs cells slots hZ => ?_)
  obtain ⟨v4, rfl, h⟩ := hv
  generalize w1_ = w at h hZ
  refine lv_if_ne (tgt := 43) hC.1 hC.2.1 d_AckBookModel_written_9 (by decide) (fun hc => ?_) (fun hc => ?_)
  · have h := z_ifn hc h
    refine lv_iconst (v := (0 : Int32)) hC.1 hC.2.1 d_AckBookModel_written_43 (by decide) ?_
    exact x_iret hC hRc hRs hZ hr rfl h d_AckBookModel_written_44
  · have h := z_ifp hc h
    refine x_aload_n hC d_AckBookModel_written_12 rfl (lv_at hl 0 rfl) ?_
    refine x_aload_n hC d_AckBookModel_written_13 rfl (lv_at hl 0 rfl) ?_
    refine x_getR hC hZ zc10 h (by decide) t_849 (fun _ h9 => h9) d_AckBookModel_written_14 (fun r5 h => ?_)
    refine lv_iload_n hC.1 hC.2.1 d_AckBookModel_written_17 rfl (lv_at hl 1 rfl) ?_
    refine x_ldI hC hZ h d_AckBookModel_written_18 (fun v6 h => ?_)
    refine lv_if_eq (tgt := 31) hC.1 hC.2.1 d_AckBookModel_written_19 (by decide) (fun hc => ?_) (fun hc => ?_)
    · have h := z_ifp hc h
      refine lv_iconst (v := (1 : Int32)) hC.1 hC.2.1 d_AckBookModel_written_31 (by decide) ?_
      refine lv_goto (tgt := 36) hC.1 hC.2.1 d_AckBookModel_written_32 (by decide) ?_
      refine lv_iconst (v := (2 : Int32)) hC.1 hC.2.1 d_AckBookModel_written_36 (by decide) ?_
      obtain ⟨a_, fs_, eo_, h⟩ := z_this_spec h
      obtain ⟨w1_, o1_, hF_, ha_⟩ := z_cI_spec h
      refine x_goes hC hRc hRs hFr ha_ (z_goV (As := [.int (1 : Int32), .int (2 : Int32)]) hC hZ zc10 eo_ (k_AckBookModel_fails hT hfl hE _ _ hF_) t_947 t_949 ts_AckBookModel_fails t_12 t_950 ⟨by decide, by decide, (by decide +kernel : (parseMethodDescriptor y_AckBookModel_fails.desc).map (fun d => d.parameters.length) = some 2)⟩ (by rw [hRt.1]; decide) (by rw [hRt.2]; decide) hl.1 rfl (by first | exact Nat.le_of_ble_eq_true rfl | simp [z_rfc, z_ci, z_cj]) d_AckBookModel_written_37) (fun v_ hv H locs cells slots hZ => ?_)
      obtain ⟨v8, rfl, h⟩ := hv
      generalize w1_ = w at h hZ
      refine lv_if_eq (tgt := 45) hC.1 hC.2.1 d_AckBookModel_written_40 (by decide) (fun hc => ?_) (fun hc => ?_)
      · have h := z_ifp hc h
        refine x_aload_n hC d_AckBookModel_written_45 rfl (lv_at hl 0 rfl) ?_
        refine x_getR hC hZ zc10 h (by decide) t_854 (fun _ h9 => h9) d_AckBookModel_written_46 (fun r9 h => ?_)
        refine lv_iload_n hC.1 hC.2.1 d_AckBookModel_written_49 rfl (lv_at hl 1 rfl) ?_
        refine lv_iconst (v := (0 : Int32)) hC.1 hC.2.1 d_AckBookModel_written_50 (by decide) ?_
        refine x_stI hC hZ h d_AckBookModel_written_51 (fun w H locs hZ h => ?_)
        refine x_aload_n hC d_AckBookModel_written_52 rfl (lv_at hl 0 rfl) ?_
        refine x_getR hC hZ zc10 h (by decide) t_856 (fun _ h9 => h9) d_AckBookModel_written_53 (fun r10 h => ?_)
        refine lv_iload_n hC.1 hC.2.1 d_AckBookModel_written_56 rfl (lv_at hl 1 rfl) ?_
        refine lv_iconst (v := (0 : Int32)) hC.1 hC.2.1 d_AckBookModel_written_57 (by decide) ?_
        refine x_stZ hC hZ h d_AckBookModel_written_58 (fun w H locs hZ h => ?_)
        refine x_aload_n hC d_AckBookModel_written_59 rfl (lv_at hl 0 rfl) ?_
        refine x_getI hC hZ zc10 h (by decide) t_820 (fun _ h9 => h9) d_AckBookModel_written_60 (fun v11 h => ?_)
        refine x_aload_n hC d_AckBookModel_written_63 rfl (lv_at hl 0 rfl) ?_
        refine x_getR hC hZ zc10 h (by decide) t_853 (fun _ h9 => h9) d_AckBookModel_written_64 (fun r12 h => ?_)
        refine lv_iload_n hC.1 hC.2.1 d_AckBookModel_written_67 rfl (lv_at hl 1 rfl) ?_
        refine x_ldI hC hZ h d_AckBookModel_written_68 (fun v13 h => ?_)
        refine lv_isub hC.1 hC.2.1 d_AckBookModel_written_69 ?_
        exact x_iret hC hRc hRs hZ hr rfl h d_AckBookModel_written_70
      · have h := z_ifn hc h
        refine lv_iconst (v := (0 : Int32)) hC.1 hC.2.1 d_AckBookModel_written_43 (by decide) ?_
        exact x_iret hC hRc hRs hZ hr rfl h d_AckBookModel_written_44
    · have h := z_ifn hc h
      refine x_aload_n hC d_AckBookModel_written_22 rfl (lv_at hl 0 rfl) ?_
      refine x_getR hC hZ zc10 h (by decide) t_830 (fun _ h9 => h9) d_AckBookModel_written_23 (fun r14 h => ?_)
      refine lv_iload_n hC.1 hC.2.1 d_AckBookModel_written_26 rfl (lv_at hl 1 rfl) ?_
      refine x_ldZ hC hZ h d_AckBookModel_written_27 (fun v15 h => ?_)
      refine lv_if_eq (tgt := 35) hC.1 hC.2.1 d_AckBookModel_written_28 (by decide) (fun hc => ?_) (fun hc => ?_)
      · have h := z_ifp hc h
        refine lv_iconst (v := (0 : Int32)) hC.1 hC.2.1 d_AckBookModel_written_35 (by decide) ?_
        refine lv_iconst (v := (2 : Int32)) hC.1 hC.2.1 d_AckBookModel_written_36 (by decide) ?_
        obtain ⟨a_, fs_, eo_, h⟩ := z_this_spec h
        obtain ⟨w1_, o1_, hF_, ha_⟩ := z_cI_spec h
        refine x_goes hC hRc hRs hFr ha_ (z_goV (As := [.int (0 : Int32), .int (2 : Int32)]) hC hZ zc10 eo_ (k_AckBookModel_fails hT hfl hE _ _ hF_) t_947 t_949 ts_AckBookModel_fails t_12 t_950 ⟨by decide, by decide, (by decide +kernel : (parseMethodDescriptor y_AckBookModel_fails.desc).map (fun d => d.parameters.length) = some 2)⟩ (by rw [hRt.1]; decide) (by rw [hRt.2]; decide) hl.1 rfl (by first | exact Nat.le_of_ble_eq_true rfl | simp [z_rfc, z_ci, z_cj]) d_AckBookModel_written_37) (fun v_ hv H locs cells slots hZ => ?_)
        obtain ⟨v17, rfl, h⟩ := hv
        generalize w1_ = w at h hZ
        refine lv_if_eq (tgt := 45) hC.1 hC.2.1 d_AckBookModel_written_40 (by decide) (fun hc => ?_) (fun hc => ?_)
        · have h := z_ifp hc h
          refine x_aload_n hC d_AckBookModel_written_45 rfl (lv_at hl 0 rfl) ?_
          refine x_getR hC hZ zc10 h (by decide) t_854 (fun _ h9 => h9) d_AckBookModel_written_46 (fun r18 h => ?_)
          refine lv_iload_n hC.1 hC.2.1 d_AckBookModel_written_49 rfl (lv_at hl 1 rfl) ?_
          refine lv_iconst (v := (0 : Int32)) hC.1 hC.2.1 d_AckBookModel_written_50 (by decide) ?_
          refine x_stI hC hZ h d_AckBookModel_written_51 (fun w H locs hZ h => ?_)
          refine x_aload_n hC d_AckBookModel_written_52 rfl (lv_at hl 0 rfl) ?_
          refine x_getR hC hZ zc10 h (by decide) t_856 (fun _ h9 => h9) d_AckBookModel_written_53 (fun r19 h => ?_)
          refine lv_iload_n hC.1 hC.2.1 d_AckBookModel_written_56 rfl (lv_at hl 1 rfl) ?_
          refine lv_iconst (v := (0 : Int32)) hC.1 hC.2.1 d_AckBookModel_written_57 (by decide) ?_
          refine x_stZ hC hZ h d_AckBookModel_written_58 (fun w H locs hZ h => ?_)
          refine x_aload_n hC d_AckBookModel_written_59 rfl (lv_at hl 0 rfl) ?_
          refine x_getI hC hZ zc10 h (by decide) t_820 (fun _ h9 => h9) d_AckBookModel_written_60 (fun v20 h => ?_)
          refine x_aload_n hC d_AckBookModel_written_63 rfl (lv_at hl 0 rfl) ?_
          refine x_getR hC hZ zc10 h (by decide) t_853 (fun _ h9 => h9) d_AckBookModel_written_64 (fun r21 h => ?_)
          refine lv_iload_n hC.1 hC.2.1 d_AckBookModel_written_67 rfl (lv_at hl 1 rfl) ?_
          refine x_ldI hC hZ h d_AckBookModel_written_68 (fun v22 h => ?_)
          refine lv_isub hC.1 hC.2.1 d_AckBookModel_written_69 ?_
          exact x_iret hC hRc hRs hZ hr rfl h d_AckBookModel_written_70
        · have h := z_ifn hc h
          refine lv_iconst (v := (0 : Int32)) hC.1 hC.2.1 d_AckBookModel_written_43 (by decide) ?_
          exact x_iret hC hRc hRs hZ hr rfl h d_AckBookModel_written_44
      · have h := z_ifn hc h
        refine lv_iconst (v := (1 : Int32)) hC.1 hC.2.1 d_AckBookModel_written_31 (by decide) ?_
        refine lv_goto (tgt := 36) hC.1 hC.2.1 d_AckBookModel_written_32 (by decide) ?_
        refine lv_iconst (v := (2 : Int32)) hC.1 hC.2.1 d_AckBookModel_written_36 (by decide) ?_
        obtain ⟨a_, fs_, eo_, h⟩ := z_this_spec h
        obtain ⟨w1_, o1_, hF_, ha_⟩ := z_cI_spec h
        refine x_goes hC hRc hRs hFr ha_ (z_goV (As := [.int (1 : Int32), .int (2 : Int32)]) hC hZ zc10 eo_ (k_AckBookModel_fails hT hfl hE _ _ hF_) t_947 t_949 ts_AckBookModel_fails t_12 t_950 ⟨by decide, by decide, (by decide +kernel : (parseMethodDescriptor y_AckBookModel_fails.desc).map (fun d => d.parameters.length) = some 2)⟩ (by rw [hRt.1]; decide) (by rw [hRt.2]; decide) hl.1 rfl (by first | exact Nat.le_of_ble_eq_true rfl | simp [z_rfc, z_ci, z_cj]) d_AckBookModel_written_37) (fun v_ hv H locs cells slots hZ => ?_)
        obtain ⟨v24, rfl, h⟩ := hv
        generalize w1_ = w at h hZ
        refine lv_if_eq (tgt := 45) hC.1 hC.2.1 d_AckBookModel_written_40 (by decide) (fun hc => ?_) (fun hc => ?_)
        · have h := z_ifp hc h
          refine x_aload_n hC d_AckBookModel_written_45 rfl (lv_at hl 0 rfl) ?_
          refine x_getR hC hZ zc10 h (by decide) t_854 (fun _ h9 => h9) d_AckBookModel_written_46 (fun r25 h => ?_)
          refine lv_iload_n hC.1 hC.2.1 d_AckBookModel_written_49 rfl (lv_at hl 1 rfl) ?_
          refine lv_iconst (v := (0 : Int32)) hC.1 hC.2.1 d_AckBookModel_written_50 (by decide) ?_
          refine x_stI hC hZ h d_AckBookModel_written_51 (fun w H locs hZ h => ?_)
          refine x_aload_n hC d_AckBookModel_written_52 rfl (lv_at hl 0 rfl) ?_
          refine x_getR hC hZ zc10 h (by decide) t_856 (fun _ h9 => h9) d_AckBookModel_written_53 (fun r26 h => ?_)
          refine lv_iload_n hC.1 hC.2.1 d_AckBookModel_written_56 rfl (lv_at hl 1 rfl) ?_
          refine lv_iconst (v := (0 : Int32)) hC.1 hC.2.1 d_AckBookModel_written_57 (by decide) ?_
          refine x_stZ hC hZ h d_AckBookModel_written_58 (fun w H locs hZ h => ?_)
          refine x_aload_n hC d_AckBookModel_written_59 rfl (lv_at hl 0 rfl) ?_
          refine x_getI hC hZ zc10 h (by decide) t_820 (fun _ h9 => h9) d_AckBookModel_written_60 (fun v27 h => ?_)
          refine x_aload_n hC d_AckBookModel_written_63 rfl (lv_at hl 0 rfl) ?_
          refine x_getR hC hZ zc10 h (by decide) t_853 (fun _ h9 => h9) d_AckBookModel_written_64 (fun r28 h => ?_)
          refine lv_iload_n hC.1 hC.2.1 d_AckBookModel_written_67 rfl (lv_at hl 1 rfl) ?_
          refine x_ldI hC hZ h d_AckBookModel_written_68 (fun v29 h => ?_)
          refine lv_isub hC.1 hC.2.1 d_AckBookModel_written_69 ?_
          exact x_iret hC hRc hRs hZ hr rfl h d_AckBookModel_written_70
        · have h := z_ifn hc h
          refine lv_iconst (v := (0 : Int32)) hC.1 hC.2.1 d_AckBookModel_written_43 (by decide) ?_
          exact x_iret hC hRc hRs hZ hr rfl h d_AckBookModel_written_44
def f_AckBookModel_range (F X : Nat) (a0 : Option Nat) (pI1 : Int32) (pI2 : Int32) (pI3 : Int32) (w : zW) : zR :=
  z_cI (f_AckBookModel_noSpace F X pI1 w) fun v2 w =>
  z_this w 10 a0 <|
  z_cI (f_AckBookModel_fails F X a0 v2 (1 : Int32) w) fun v4 w =>
  if v4 = 0 then (
    if pI2 < 0 then (
      z_this w 10 a0 <|
      z_cI (f_AckBookModel_fails F X a0 (1 : Int32) (2 : Int32) w) fun v6 w =>
      if v6 = 0 then (
        z_getR w 10 30 a0 fun r7 =>
        z_ldI w .int r7 pI1 fun v8 =>
        if pI3 = 0 then (
          z_getR w 10 31 a0 fun r9 =>
          z_ldL w r9 (((((65 : Int32) * pI1) + v8) - (1 : Int32)) - pI2) fun v10 =>
          some (.inl (some (.long v10)), w))
        else (
          z_getR w 10 32 a0 fun r11 =>
          z_ldL w r11 (((((65 : Int32) * pI1) + v8) - (1 : Int32)) - pI2) fun v12 =>
          some (.inl (some (.long v12)), w)))
      else (
        some (.inl (some (.long (0 : Int64))), w)))
    else (
      z_getR w 10 30 a0 fun r13 =>
      z_ldI w .int r13 pI1 fun v14 =>
      if pI2 < v14 then (
        z_this w 10 a0 <|
        z_cI (f_AckBookModel_fails F X a0 (0 : Int32) (2 : Int32) w) fun v16 w =>
        if v16 = 0 then (
          z_getR w 10 30 a0 fun r17 =>
          z_ldI w .int r17 pI1 fun v18 =>
          if pI3 = 0 then (
            z_getR w 10 31 a0 fun r19 =>
            z_ldL w r19 (((((65 : Int32) * pI1) + v18) - (1 : Int32)) - pI2) fun v20 =>
            some (.inl (some (.long v20)), w))
          else (
            z_getR w 10 32 a0 fun r21 =>
            z_ldL w r21 (((((65 : Int32) * pI1) + v18) - (1 : Int32)) - pI2) fun v22 =>
            some (.inl (some (.long v22)), w)))
        else (
          some (.inl (some (.long (0 : Int64))), w)))
      else (
        z_this w 10 a0 <|
        z_cI (f_AckBookModel_fails F X a0 (1 : Int32) (2 : Int32) w) fun v24 w =>
        if v24 = 0 then (
          z_getR w 10 30 a0 fun r25 =>
          z_ldI w .int r25 pI1 fun v26 =>
          if pI3 = 0 then (
            z_getR w 10 31 a0 fun r27 =>
            z_ldL w r27 (((((65 : Int32) * pI1) + v26) - (1 : Int32)) - pI2) fun v28 =>
            some (.inl (some (.long v28)), w))
          else (
            z_getR w 10 32 a0 fun r29 =>
            z_ldL w r29 (((((65 : Int32) * pI1) + v26) - (1 : Int32)) - pI2) fun v30 =>
            some (.inl (some (.long v30)), w)))
        else (
          some (.inl (some (.long (0 : Int64))), w)))))
  else (
    some (.inl (some (.long (0 : Int64))), w))
set_option maxHeartbeats 4000000 in
set_option maxRecDepth 100000 in
theorem k_AckBookModel_range {b0 : Nat} {H0 : Heap} {D : va_G} {vu vs : Value} {X : Nat} {l : Launch} (hT : z_TB (zGG b0 H0 D vu vs X)) (hfl : l.flags = pinnedFlags ++ [noTraceFlag]) (hE : vu.isRef = true ∧ vs.isRef = true) {a0 : Option Nat} {pI1 : Int32} {pI2 : Int32} {pI3 : Int32} (F : Nat) {w : zW} (res : zO × zW) (h : f_AckBookModel_range F X a0 pI1 pI2 pI3 w = some res) : z_Ct (zGG b0 H0 D vu vs X) l y_AckBookModel_range (.code y_AckBookModel_range c_AckBookModel_range 5 (some FieldType.long)) 1 22 [va_rf a0, .int pI1, .int pI2, .int pI3] w res := by
  refine z_ct hT hfl (by decide) (by simp only [z_sl_i, z_sl_j, z_sl_r, z_sl_n]; decide) ?_
  intro p e R s m args below meth c hC hr hRc hRs hRt hnm hFr H ls hZ hl
  simp only [z_la_i, z_la_j, z_la_r, z_la_n] at hl
  have hl : lv_has ls 5 [(0, va_rf a0), (1, .int pI1), (2, .int pI2), (3, .int pI3)] := hl
  unfold f_AckBookModel_range at h
  refine x_aload_n hC d_AckBookModel_range_0 rfl (lv_at hl 0 rfl) ?_
  refine lv_iload_n hC.1 hC.2.1 d_AckBookModel_range_1 rfl (lv_at hl 1 rfl) ?_
  obtain ⟨w1_, o1_, hF_, ha_⟩ := z_cI_spec h
  refine x_goes hC hRc hRs hFr ha_ (z_goS (As := [.int pI1]) hC hZ (k_AckBookModel_noSpace hT hfl hE _ _ hF_) t_944 t_945 t_12 t_946 ⟨by decide, by decide, (by decide +kernel : (parseMethodDescriptor y_AckBookModel_noSpace.desc).map (fun d => d.parameters.length) = some 1)⟩ (by rw [hRt.1]; decide) (by rw [hRt.2]; decide) hl.1 rfl (by first | exact Nat.le_of_ble_eq_true rfl | simp [z_rfc, z_ci, z_cj]) d_AckBookModel_range_2) (fun v_ hv H locs cells slots hZ => ?_)
  obtain ⟨v2, rfl, h⟩ := hv
  generalize w1_ = w at h hZ
  refine lv_iconst (v := (1 : Int32)) hC.1 hC.2.1 d_AckBookModel_range_5 (by decide) ?_
  obtain ⟨a_, fs_, eo_, h⟩ := z_this_spec h
  obtain ⟨w1_, o1_, hF_, ha_⟩ := z_cI_spec h
  refine x_goes hC hRc hRs hFr ha_ (z_goV (As := [.int v2, .int (1 : Int32)]) hC hZ zc10 eo_ (k_AckBookModel_fails hT hfl hE _ _ hF_) t_947 t_949 ts_AckBookModel_fails t_12 t_950 ⟨by decide, by decide, (by decide +kernel : (parseMethodDescriptor y_AckBookModel_fails.desc).map (fun d => d.parameters.length) = some 2)⟩ (by rw [hRt.1]; decide) (by rw [hRt.2]; decide) hl.1 rfl (by first | exact Nat.le_of_ble_eq_true rfl | simp [z_rfc, z_ci, z_cj]) d_AckBookModel_range_6) (fun v_ hv H locs cells slots hZ => ?_)
  obtain ⟨v4, rfl, h⟩ := hv
  generalize w1_ = w at h hZ
  refine lv_if_ne (tgt := 39) hC.1 hC.2.1 d_AckBookModel_range_9 (by decide) (fun hc => ?_) (fun hc => ?_)
  · have h := z_ifn hc h
    refine lv_lconst (v := (0 : Int64)) hC.1 hC.2.1 d_AckBookModel_range_39 (by decide) ?_
    exact x_lret hC hRc hRs hZ hr h d_AckBookModel_range_40
  · have h := z_ifp hc h
    refine x_aload_n hC d_AckBookModel_range_12 rfl (lv_at hl 0 rfl) ?_
    refine lv_iload_n hC.1 hC.2.1 d_AckBookModel_range_13 rfl (lv_at hl 2 rfl) ?_
    refine lv_if_lt (tgt := 27) hC.1 hC.2.1 d_AckBookModel_range_14 (by decide) (fun hc => ?_) (fun hc => ?_)
    · have h := z_ifp hc h
      refine lv_iconst (v := (1 : Int32)) hC.1 hC.2.1 d_AckBookModel_range_27 (by decide) ?_
      refine lv_goto (tgt := 32) hC.1 hC.2.1 d_AckBookModel_range_28 (by decide) ?_
      refine lv_iconst (v := (2 : Int32)) hC.1 hC.2.1 d_AckBookModel_range_32 (by decide) ?_
      obtain ⟨a_, fs_, eo_, h⟩ := z_this_spec h
      obtain ⟨w1_, o1_, hF_, ha_⟩ := z_cI_spec h
      refine x_goes hC hRc hRs hFr ha_ (z_goV (As := [.int (1 : Int32), .int (2 : Int32)]) hC hZ zc10 eo_ (k_AckBookModel_fails hT hfl hE _ _ hF_) t_947 t_949 ts_AckBookModel_fails t_12 t_950 ⟨by decide, by decide, (by decide +kernel : (parseMethodDescriptor y_AckBookModel_fails.desc).map (fun d => d.parameters.length) = some 2)⟩ (by rw [hRt.1]; decide) (by rw [hRt.2]; decide) hl.1 rfl (by first | exact Nat.le_of_ble_eq_true rfl | simp [z_rfc, z_ci, z_cj]) d_AckBookModel_range_33) (fun v_ hv H locs cells slots hZ => ?_)
      obtain ⟨v6, rfl, h⟩ := hv
      generalize w1_ = w at h hZ
      refine lv_if_eq (tgt := 41) hC.1 hC.2.1 d_AckBookModel_range_36 (by decide) (fun hc => ?_) (fun hc => ?_)
      · have h := z_ifp hc h
        refine lv_bipush (v := (65 : Int32)) hC.1 hC.2.1 d_AckBookModel_range_41 (by decide) ?_
        refine lv_iload_n hC.1 hC.2.1 d_AckBookModel_range_43 rfl (lv_at hl 1 rfl) ?_
        refine lv_imul hC.1 hC.2.1 d_AckBookModel_range_44 ?_
        refine x_aload_n hC d_AckBookModel_range_45 rfl (lv_at hl 0 rfl) ?_
        refine x_getR hC hZ zc10 h (by decide) t_849 (fun _ h9 => h9) d_AckBookModel_range_46 (fun r7 h => ?_)
        refine lv_iload_n hC.1 hC.2.1 d_AckBookModel_range_49 rfl (lv_at hl 1 rfl) ?_
        refine x_ldI hC hZ h d_AckBookModel_range_50 (fun v8 h => ?_)
        refine lv_iadd hC.1 hC.2.1 d_AckBookModel_range_51 ?_
        refine lv_iconst (v := (1 : Int32)) hC.1 hC.2.1 d_AckBookModel_range_52 (by decide) ?_
        refine lv_isub hC.1 hC.2.1 d_AckBookModel_range_53 ?_
        refine lv_iload_n hC.1 hC.2.1 d_AckBookModel_range_54 rfl (lv_at hl 2 rfl) ?_
        refine lv_isub hC.1 hC.2.1 d_AckBookModel_range_55 ?_
        refine lv_istore (i := 4) (lv' := [(4, .int (((((65 : Int32) * pI1) + v8) - (1 : Int32)) - pI2)), (0, va_rf a0), (1, .int pI1), (2, .int pI2), (3, .int pI3)]) hC.1 hC.2.1 d_AckBookModel_range_56 hl (by decide) (by first | rfl | simp [z_rfc, z_ci, z_cj]) (fun ls hl => ?_)
        refine lv_iload_n hC.1 hC.2.1 d_AckBookModel_range_58 rfl (lv_at hl 4 rfl) ?_
        refine lv_if_eq (tgt := 72) hC.1 hC.2.1 d_AckBookModel_range_59 (by decide) (fun hc => ?_) (fun hc => ?_)
        · have h := z_ifp hc h
          refine x_aload_n hC d_AckBookModel_range_72 rfl (lv_at hl 1 rfl) ?_
          refine x_getR hC hZ zc10 h (by decide) t_850 (fun _ h9 => h9) d_AckBookModel_range_73 (fun r9 h => ?_)
          refine lv_iload hC.1 hC.2.1 d_AckBookModel_range_76 (lv_at hl 0 rfl) ?_
          refine x_ldL hC hZ h d_AckBookModel_range_78 (fun v10 h => ?_)
          exact x_lret hC hRc hRs hZ hr h d_AckBookModel_range_79
        · have h := z_ifn hc h
          refine x_aload_n hC d_AckBookModel_range_62 rfl (lv_at hl 1 rfl) ?_
          refine x_getR hC hZ zc10 h (by decide) t_851 (fun _ h9 => h9) d_AckBookModel_range_63 (fun r11 h => ?_)
          refine lv_iload hC.1 hC.2.1 d_AckBookModel_range_66 (lv_at hl 0 rfl) ?_
          refine x_ldL hC hZ h d_AckBookModel_range_68 (fun v12 h => ?_)
          refine lv_goto (tgt := 79) hC.1 hC.2.1 d_AckBookModel_range_69 (by decide) ?_
          exact x_lret hC hRc hRs hZ hr h d_AckBookModel_range_79
      · have h := z_ifn hc h
        refine lv_lconst (v := (0 : Int64)) hC.1 hC.2.1 d_AckBookModel_range_39 (by decide) ?_
        exact x_lret hC hRc hRs hZ hr h d_AckBookModel_range_40
    · have h := z_ifn hc h
      refine lv_iload_n hC.1 hC.2.1 d_AckBookModel_range_17 rfl (lv_at hl 2 rfl) ?_
      refine x_aload_n hC d_AckBookModel_range_18 rfl (lv_at hl 0 rfl) ?_
      refine x_getR hC hZ zc10 h (by decide) t_849 (fun _ h9 => h9) d_AckBookModel_range_19 (fun r13 h => ?_)
      refine lv_iload_n hC.1 hC.2.1 d_AckBookModel_range_22 rfl (lv_at hl 1 rfl) ?_
      refine x_ldI hC hZ h d_AckBookModel_range_23 (fun v14 h => ?_)
      refine lv_icmp_lt (tgt := 31) hC.1 hC.2.1 d_AckBookModel_range_24 (by decide) (fun hc => ?_) (fun hc => ?_)
      · have h := z_ifp hc h
        refine lv_iconst (v := (0 : Int32)) hC.1 hC.2.1 d_AckBookModel_range_31 (by decide) ?_
        refine lv_iconst (v := (2 : Int32)) hC.1 hC.2.1 d_AckBookModel_range_32 (by decide) ?_
        obtain ⟨a_, fs_, eo_, h⟩ := z_this_spec h
        obtain ⟨w1_, o1_, hF_, ha_⟩ := z_cI_spec h
        refine x_goes hC hRc hRs hFr ha_ (z_goV (As := [.int (0 : Int32), .int (2 : Int32)]) hC hZ zc10 eo_ (k_AckBookModel_fails hT hfl hE _ _ hF_) t_947 t_949 ts_AckBookModel_fails t_12 t_950 ⟨by decide, by decide, (by decide +kernel : (parseMethodDescriptor y_AckBookModel_fails.desc).map (fun d => d.parameters.length) = some 2)⟩ (by rw [hRt.1]; decide) (by rw [hRt.2]; decide) hl.1 rfl (by first | exact Nat.le_of_ble_eq_true rfl | simp [z_rfc, z_ci, z_cj]) d_AckBookModel_range_33) (fun v_ hv H locs cells slots hZ => ?_)
        obtain ⟨v16, rfl, h⟩ := hv
        generalize w1_ = w at h hZ
        refine lv_if_eq (tgt := 41) hC.1 hC.2.1 d_AckBookModel_range_36 (by decide) (fun hc => ?_) (fun hc => ?_)
        · have h := z_ifp hc h
          refine lv_bipush (v := (65 : Int32)) hC.1 hC.2.1 d_AckBookModel_range_41 (by decide) ?_
          refine lv_iload_n hC.1 hC.2.1 d_AckBookModel_range_43 rfl (lv_at hl 1 rfl) ?_
          refine lv_imul hC.1 hC.2.1 d_AckBookModel_range_44 ?_
          refine x_aload_n hC d_AckBookModel_range_45 rfl (lv_at hl 0 rfl) ?_
          refine x_getR hC hZ zc10 h (by decide) t_849 (fun _ h9 => h9) d_AckBookModel_range_46 (fun r17 h => ?_)
          refine lv_iload_n hC.1 hC.2.1 d_AckBookModel_range_49 rfl (lv_at hl 1 rfl) ?_
          refine x_ldI hC hZ h d_AckBookModel_range_50 (fun v18 h => ?_)
          refine lv_iadd hC.1 hC.2.1 d_AckBookModel_range_51 ?_
          refine lv_iconst (v := (1 : Int32)) hC.1 hC.2.1 d_AckBookModel_range_52 (by decide) ?_
          refine lv_isub hC.1 hC.2.1 d_AckBookModel_range_53 ?_
          refine lv_iload_n hC.1 hC.2.1 d_AckBookModel_range_54 rfl (lv_at hl 2 rfl) ?_
          refine lv_isub hC.1 hC.2.1 d_AckBookModel_range_55 ?_
          refine lv_istore (i := 4) (lv' := [(4, .int (((((65 : Int32) * pI1) + v18) - (1 : Int32)) - pI2)), (0, va_rf a0), (1, .int pI1), (2, .int pI2), (3, .int pI3)]) hC.1 hC.2.1 d_AckBookModel_range_56 hl (by decide) (by first | rfl | simp [z_rfc, z_ci, z_cj]) (fun ls hl => ?_)
          refine lv_iload_n hC.1 hC.2.1 d_AckBookModel_range_58 rfl (lv_at hl 4 rfl) ?_
          refine lv_if_eq (tgt := 72) hC.1 hC.2.1 d_AckBookModel_range_59 (by decide) (fun hc => ?_) (fun hc => ?_)
          · have h := z_ifp hc h
            refine x_aload_n hC d_AckBookModel_range_72 rfl (lv_at hl 1 rfl) ?_
            refine x_getR hC hZ zc10 h (by decide) t_850 (fun _ h9 => h9) d_AckBookModel_range_73 (fun r19 h => ?_)
            refine lv_iload hC.1 hC.2.1 d_AckBookModel_range_76 (lv_at hl 0 rfl) ?_
            refine x_ldL hC hZ h d_AckBookModel_range_78 (fun v20 h => ?_)
            exact x_lret hC hRc hRs hZ hr h d_AckBookModel_range_79
          · have h := z_ifn hc h
            refine x_aload_n hC d_AckBookModel_range_62 rfl (lv_at hl 1 rfl) ?_
            refine x_getR hC hZ zc10 h (by decide) t_851 (fun _ h9 => h9) d_AckBookModel_range_63 (fun r21 h => ?_)
            refine lv_iload hC.1 hC.2.1 d_AckBookModel_range_66 (lv_at hl 0 rfl) ?_
            refine x_ldL hC hZ h d_AckBookModel_range_68 (fun v22 h => ?_)
            refine lv_goto (tgt := 79) hC.1 hC.2.1 d_AckBookModel_range_69 (by decide) ?_
            exact x_lret hC hRc hRs hZ hr h d_AckBookModel_range_79
        · have h := z_ifn hc h
          refine lv_lconst (v := (0 : Int64)) hC.1 hC.2.1 d_AckBookModel_range_39 (by decide) ?_
          exact x_lret hC hRc hRs hZ hr h d_AckBookModel_range_40
      · have h := z_ifn hc h
        refine lv_iconst (v := (1 : Int32)) hC.1 hC.2.1 d_AckBookModel_range_27 (by decide) ?_
        refine lv_goto (tgt := 32) hC.1 hC.2.1 d_AckBookModel_range_28 (by decide) ?_
        refine lv_iconst (v := (2 : Int32)) hC.1 hC.2.1 d_AckBookModel_range_32 (by decide) ?_
        obtain ⟨a_, fs_, eo_, h⟩ := z_this_spec h
        obtain ⟨w1_, o1_, hF_, ha_⟩ := z_cI_spec h
        refine x_goes hC hRc hRs hFr ha_ (z_goV (As := [.int (1 : Int32), .int (2 : Int32)]) hC hZ zc10 eo_ (k_AckBookModel_fails hT hfl hE _ _ hF_) t_947 t_949 ts_AckBookModel_fails t_12 t_950 ⟨by decide, by decide, (by decide +kernel : (parseMethodDescriptor y_AckBookModel_fails.desc).map (fun d => d.parameters.length) = some 2)⟩ (by rw [hRt.1]; decide) (by rw [hRt.2]; decide) hl.1 rfl (by first | exact Nat.le_of_ble_eq_true rfl | simp [z_rfc, z_ci, z_cj]) d_AckBookModel_range_33) (fun v_ hv H locs cells slots hZ => ?_)
        obtain ⟨v24, rfl, h⟩ := hv
        generalize w1_ = w at h hZ
        refine lv_if_eq (tgt := 41) hC.1 hC.2.1 d_AckBookModel_range_36 (by decide) (fun hc => ?_) (fun hc => ?_)
        · have h := z_ifp hc h
          refine lv_bipush (v := (65 : Int32)) hC.1 hC.2.1 d_AckBookModel_range_41 (by decide) ?_
          refine lv_iload_n hC.1 hC.2.1 d_AckBookModel_range_43 rfl (lv_at hl 1 rfl) ?_
          refine lv_imul hC.1 hC.2.1 d_AckBookModel_range_44 ?_
          refine x_aload_n hC d_AckBookModel_range_45 rfl (lv_at hl 0 rfl) ?_
          refine x_getR hC hZ zc10 h (by decide) t_849 (fun _ h9 => h9) d_AckBookModel_range_46 (fun r25 h => ?_)
          refine lv_iload_n hC.1 hC.2.1 d_AckBookModel_range_49 rfl (lv_at hl 1 rfl) ?_
          refine x_ldI hC hZ h d_AckBookModel_range_50 (fun v26 h => ?_)
          refine lv_iadd hC.1 hC.2.1 d_AckBookModel_range_51 ?_
          refine lv_iconst (v := (1 : Int32)) hC.1 hC.2.1 d_AckBookModel_range_52 (by decide) ?_
          refine lv_isub hC.1 hC.2.1 d_AckBookModel_range_53 ?_
          refine lv_iload_n hC.1 hC.2.1 d_AckBookModel_range_54 rfl (lv_at hl 2 rfl) ?_
          refine lv_isub hC.1 hC.2.1 d_AckBookModel_range_55 ?_
          refine lv_istore (i := 4) (lv' := [(4, .int (((((65 : Int32) * pI1) + v26) - (1 : Int32)) - pI2)), (0, va_rf a0), (1, .int pI1), (2, .int pI2), (3, .int pI3)]) hC.1 hC.2.1 d_AckBookModel_range_56 hl (by decide) (by first | rfl | simp [z_rfc, z_ci, z_cj]) (fun ls hl => ?_)
          refine lv_iload_n hC.1 hC.2.1 d_AckBookModel_range_58 rfl (lv_at hl 4 rfl) ?_
          refine lv_if_eq (tgt := 72) hC.1 hC.2.1 d_AckBookModel_range_59 (by decide) (fun hc => ?_) (fun hc => ?_)
          · have h := z_ifp hc h
            refine x_aload_n hC d_AckBookModel_range_72 rfl (lv_at hl 1 rfl) ?_
            refine x_getR hC hZ zc10 h (by decide) t_850 (fun _ h9 => h9) d_AckBookModel_range_73 (fun r27 h => ?_)
            refine lv_iload hC.1 hC.2.1 d_AckBookModel_range_76 (lv_at hl 0 rfl) ?_
            refine x_ldL hC hZ h d_AckBookModel_range_78 (fun v28 h => ?_)
            exact x_lret hC hRc hRs hZ hr h d_AckBookModel_range_79
          · have h := z_ifn hc h
            refine x_aload_n hC d_AckBookModel_range_62 rfl (lv_at hl 1 rfl) ?_
            refine x_getR hC hZ zc10 h (by decide) t_851 (fun _ h9 => h9) d_AckBookModel_range_63 (fun r29 h => ?_)
            refine lv_iload hC.1 hC.2.1 d_AckBookModel_range_66 (lv_at hl 0 rfl) ?_
            refine x_ldL hC hZ h d_AckBookModel_range_68 (fun v30 h => ?_)
            refine lv_goto (tgt := 79) hC.1 hC.2.1 d_AckBookModel_range_69 (by decide) ?_
            exact x_lret hC hRc hRs hZ hr h d_AckBookModel_range_79
        · have h := z_ifn hc h
          refine lv_lconst (v := (0 : Int64)) hC.1 hC.2.1 d_AckBookModel_range_39 (by decide) ?_
          exact x_lret hC hRc hRs hZ hr h d_AckBookModel_range_40
def f_AckBookModel_look (F X : Nat) (a0 : Option Nat) (pI1 : Int32) (w : zW) : zR :=
  if pI1 < 0 then (
    z_this w 10 a0 <|
    z_cI (f_AckBookModel_fails F X a0 (1 : Int32) (1 : Int32) w) fun v2 w =>
    if v2 = 0 then (
      if pI1 = (0 : Int32) then (
        z_getI w 10 1 a0 fun v3 =>
        some (.inl (some (.int v3)), w))
      else if pI1 = (1 : Int32) then (
        z_this w 10 a0 <|
        z_cI (f_AckBookModel_flight F X a0 w) fun v5 w =>
        some (.inl (some (.int v5)), w))
      else if pI1 = (2 : Int32) then (
        z_getI w 10 24 a0 fun v6 =>
        some (.inl (some (.int v6)), w))
      else if pI1 = (3 : Int32) then (
        z_getI w 10 25 a0 fun v7 =>
        some (.inl (some (.int v7)), w))
      else if pI1 = (4 : Int32) then (
        z_getI w 10 26 a0 fun v8 =>
        some (.inl (some (.int v8)), w))
      else if pI1 = (5 : Int32) then (
        z_getI w 10 18 a0 fun v9 =>
        some (.inl (some (.int v9)), w))
      else if pI1 = (6 : Int32) then (
        z_getI w 10 19 a0 fun v10 =>
        some (.inl (some (.int v10)), w))
      else if pI1 = (7 : Int32) then (
        z_getI w 10 20 a0 fun v11 =>
        some (.inl (some (.int v11)), w))
      else if pI1 = (8 : Int32) then (
        z_getI w 10 21 a0 fun v12 =>
        some (.inl (some (.int v12)), w))
      else if pI1 = (9 : Int32) then (
        z_getI w 10 23 a0 fun v13 =>
        some (.inl (some (.int v13)), w))
      else if pI1 = (10 : Int32) then (
        z_this w 10 a0 <|
        z_cI (f_AckBookModel_limit F X a0 w) fun v15 w =>
        some (.inl (some (.int v15)), w))
      else (
        z_getI w 10 24 a0 fun v16 =>
        z_this w 10 a0 <|
        z_cI (f_AckBookModel_flight F X a0 w) fun v18 w =>
        z_cI (f_AckBookModel_greater F X (v16 - v18) (0 : Int32) w) fun v20 w =>
        some (.inl (some (.int v20)), w)))
    else (
      some (.inl (some (.int (0 : Int32))), w)))
  else (
    if pI1 ≤ (11 : Int32) then (
      z_this w 10 a0 <|
      z_cI (f_AckBookModel_fails F X a0 (0 : Int32) (1 : Int32) w) fun v22 w =>
      if v22 = 0 then (
        if pI1 = (0 : Int32) then (
          z_getI w 10 1 a0 fun v23 =>
          some (.inl (some (.int v23)), w))
        else if pI1 = (1 : Int32) then (
          z_this w 10 a0 <|
          z_cI (f_AckBookModel_flight F X a0 w) fun v25 w =>
          some (.inl (some (.int v25)), w))
        else if pI1 = (2 : Int32) then (
          z_getI w 10 24 a0 fun v26 =>
          some (.inl (some (.int v26)), w))
        else if pI1 = (3 : Int32) then (
          z_getI w 10 25 a0 fun v27 =>
          some (.inl (some (.int v27)), w))
        else if pI1 = (4 : Int32) then (
          z_getI w 10 26 a0 fun v28 =>
          some (.inl (some (.int v28)), w))
        else if pI1 = (5 : Int32) then (
          z_getI w 10 18 a0 fun v29 =>
          some (.inl (some (.int v29)), w))
        else if pI1 = (6 : Int32) then (
          z_getI w 10 19 a0 fun v30 =>
          some (.inl (some (.int v30)), w))
        else if pI1 = (7 : Int32) then (
          z_getI w 10 20 a0 fun v31 =>
          some (.inl (some (.int v31)), w))
        else if pI1 = (8 : Int32) then (
          z_getI w 10 21 a0 fun v32 =>
          some (.inl (some (.int v32)), w))
        else if pI1 = (9 : Int32) then (
          z_getI w 10 23 a0 fun v33 =>
          some (.inl (some (.int v33)), w))
        else if pI1 = (10 : Int32) then (
          z_this w 10 a0 <|
          z_cI (f_AckBookModel_limit F X a0 w) fun v35 w =>
          some (.inl (some (.int v35)), w))
        else (
          z_getI w 10 24 a0 fun v36 =>
          z_this w 10 a0 <|
          z_cI (f_AckBookModel_flight F X a0 w) fun v38 w =>
          z_cI (f_AckBookModel_greater F X (v36 - v38) (0 : Int32) w) fun v40 w =>
          some (.inl (some (.int v40)), w)))
      else (
        some (.inl (some (.int (0 : Int32))), w)))
    else (
      z_this w 10 a0 <|
      z_cI (f_AckBookModel_fails F X a0 (1 : Int32) (1 : Int32) w) fun v42 w =>
      if v42 = 0 then (
        if pI1 = (0 : Int32) then (
          z_getI w 10 1 a0 fun v43 =>
          some (.inl (some (.int v43)), w))
        else if pI1 = (1 : Int32) then (
          z_this w 10 a0 <|
          z_cI (f_AckBookModel_flight F X a0 w) fun v45 w =>
          some (.inl (some (.int v45)), w))
        else if pI1 = (2 : Int32) then (
          z_getI w 10 24 a0 fun v46 =>
          some (.inl (some (.int v46)), w))
        else if pI1 = (3 : Int32) then (
          z_getI w 10 25 a0 fun v47 =>
          some (.inl (some (.int v47)), w))
        else if pI1 = (4 : Int32) then (
          z_getI w 10 26 a0 fun v48 =>
          some (.inl (some (.int v48)), w))
        else if pI1 = (5 : Int32) then (
          z_getI w 10 18 a0 fun v49 =>
          some (.inl (some (.int v49)), w))
        else if pI1 = (6 : Int32) then (
          z_getI w 10 19 a0 fun v50 =>
          some (.inl (some (.int v50)), w))
        else if pI1 = (7 : Int32) then (
          z_getI w 10 20 a0 fun v51 =>
          some (.inl (some (.int v51)), w))
        else if pI1 = (8 : Int32) then (
          z_getI w 10 21 a0 fun v52 =>
          some (.inl (some (.int v52)), w))
        else if pI1 = (9 : Int32) then (
          z_getI w 10 23 a0 fun v53 =>
          some (.inl (some (.int v53)), w))
        else if pI1 = (10 : Int32) then (
          z_this w 10 a0 <|
          z_cI (f_AckBookModel_limit F X a0 w) fun v55 w =>
          some (.inl (some (.int v55)), w))
        else (
          z_getI w 10 24 a0 fun v56 =>
          z_this w 10 a0 <|
          z_cI (f_AckBookModel_flight F X a0 w) fun v58 w =>
          z_cI (f_AckBookModel_greater F X (v56 - v58) (0 : Int32) w) fun v60 w =>
          some (.inl (some (.int v60)), w)))
      else (
        some (.inl (some (.int (0 : Int32))), w))))
set_option maxHeartbeats 4000000 in
set_option maxRecDepth 100000 in
theorem k_AckBookModel_look {b0 : Nat} {H0 : Heap} {D : va_G} {vu vs : Value} {X : Nat} {l : Launch} (hT : z_TB (zGG b0 H0 D vu vs X)) (hfl : l.flags = pinnedFlags ++ [noTraceFlag]) (hE : vu.isRef = true ∧ vs.isRef = true) {a0 : Option Nat} {pI1 : Int32} (F : Nat) {w : zW} (res : zO × zW) (h : f_AckBookModel_look F X a0 pI1 w = some res) : z_Ct (zGG b0 H0 D vu vs X) l y_AckBookModel_look (.code y_AckBookModel_look c_AckBookModel_look 2 (some FieldType.int)) 2 45 [va_rf a0, .int pI1] w res := by
  refine z_ct hT hfl (by decide) (by simp only [z_sl_i, z_sl_j, z_sl_r, z_sl_n]; decide) ?_
  intro p e R s m args below meth c hC hr hRc hRs hRt hnm hFr H ls hZ hl
  simp only [z_la_i, z_la_j, z_la_r, z_la_n] at hl
  have hl : lv_has ls 2 [(0, va_rf a0), (1, .int pI1)] := hl
  unfold f_AckBookModel_look at h
  refine x_aload_n hC d_AckBookModel_look_0 rfl (lv_at hl 0 rfl) ?_
  refine lv_iload_n hC.1 hC.2.1 d_AckBookModel_look_1 rfl (lv_at hl 1 rfl) ?_
  refine lv_if_lt (tgt := 11) hC.1 hC.2.1 d_AckBookModel_look_2 (by decide) (fun hc => ?_) (fun hc => ?_)
  · have h := z_ifp hc h
    refine lv_iconst (v := (1 : Int32)) hC.1 hC.2.1 d_AckBookModel_look_11 (by decide) ?_
    refine lv_goto (tgt := 16) hC.1 hC.2.1 d_AckBookModel_look_12 (by decide) ?_
    refine lv_iconst (v := (1 : Int32)) hC.1 hC.2.1 d_AckBookModel_look_16 (by decide) ?_
    obtain ⟨a_, fs_, eo_, h⟩ := z_this_spec h
    obtain ⟨w1_, o1_, hF_, ha_⟩ := z_cI_spec h
    refine x_goes hC hRc hRs hFr ha_ (z_goV (As := [.int (1 : Int32), .int (1 : Int32)]) hC hZ zc10 eo_ (k_AckBookModel_fails hT hfl hE _ _ hF_) t_947 t_949 ts_AckBookModel_fails t_12 t_950 ⟨by decide, by decide, (by decide +kernel : (parseMethodDescriptor y_AckBookModel_fails.desc).map (fun d => d.parameters.length) = some 2)⟩ (by rw [hRt.1]; decide) (by rw [hRt.2]; decide) hl.1 rfl (by first | exact Nat.le_of_ble_eq_true rfl | simp [z_rfc, z_ci, z_cj]) d_AckBookModel_look_17) (fun v_ hv H locs cells slots hZ => ?_)
    obtain ⟨v2, rfl, h⟩ := hv
    generalize w1_ = w at h hZ
    refine lv_if_eq (tgt := 25) hC.1 hC.2.1 d_AckBookModel_look_20 (by decide) (fun hc => ?_) (fun hc => ?_)
    · have h := z_ifp hc h
      refine lv_iload_n hC.1 hC.2.1 d_AckBookModel_look_25 rfl (lv_at hl 1 rfl) ?_
      by_cases hc0 : pI1 = (0 : Int32)
      · have h := z_ifp hc0 h
        refine lv_tableIn (tgt := 84) hC.1 hC.2.1 d_AckBookModel_look_26 (by rw [hc0]; decide) (by rw [hc0]; decide) (by rw [hc0]; rfl) (by decide) ?_
        refine x_aload_n hC d_AckBookModel_look_84 rfl (lv_at hl 0 rfl) ?_
        refine x_getI hC hZ zc10 h (by decide) t_820 (fun _ h9 => h9) d_AckBookModel_look_85 (fun v3 h => ?_)
        exact x_iret hC hRc hRs hZ hr rfl h d_AckBookModel_look_88
      have h := z_ifn hc0 h
      by_cases hc1 : pI1 = (1 : Int32)
      · have h := z_ifp hc1 h
        refine lv_tableIn (tgt := 89) hC.1 hC.2.1 d_AckBookModel_look_26 (by rw [hc1]; decide) (by rw [hc1]; decide) (by rw [hc1]; rfl) (by decide) ?_
        refine x_aload_n hC d_AckBookModel_look_89 rfl (lv_at hl 0 rfl) ?_
        obtain ⟨a_, fs_, eo_, h⟩ := z_this_spec h
        obtain ⟨w1_, o1_, hF_, ha_⟩ := z_cI_spec h
        refine x_goes hC hRc hRs hFr ha_ (z_goV (As := []) hC hZ zc10 eo_ (k_AckBookModel_flight hT hfl hE _ _ hF_) t_951 t_953 ts_AckBookModel_flight t_12 t_954 ⟨by decide, by decide, (by decide +kernel : (parseMethodDescriptor y_AckBookModel_flight.desc).map (fun d => d.parameters.length) = some 0)⟩ (by rw [hRt.1]; decide) (by rw [hRt.2]; decide) hl.1 rfl (by first | exact Nat.le_of_ble_eq_true rfl | simp [z_rfc, z_ci, z_cj]) d_AckBookModel_look_90) (fun v_ hv H locs cells slots hZ => ?_)
        obtain ⟨v5, rfl, h⟩ := hv
        generalize w1_ = w at h hZ
        exact x_iret hC hRc hRs hZ hr rfl h d_AckBookModel_look_93
      have h := z_ifn hc1 h
      by_cases hc2 : pI1 = (2 : Int32)
      · have h := z_ifp hc2 h
        refine lv_tableIn (tgt := 94) hC.1 hC.2.1 d_AckBookModel_look_26 (by rw [hc2]; decide) (by rw [hc2]; decide) (by rw [hc2]; rfl) (by decide) ?_
        refine x_aload_n hC d_AckBookModel_look_94 rfl (lv_at hl 0 rfl) ?_
        refine x_getI hC hZ zc10 h (by decide) t_843 (fun _ h9 => h9) d_AckBookModel_look_95 (fun v6 h => ?_)
        exact x_iret hC hRc hRs hZ hr rfl h d_AckBookModel_look_98
      have h := z_ifn hc2 h
      by_cases hc3 : pI1 = (3 : Int32)
      · have h := z_ifp hc3 h
        refine lv_tableIn (tgt := 99) hC.1 hC.2.1 d_AckBookModel_look_26 (by rw [hc3]; decide) (by rw [hc3]; decide) (by rw [hc3]; rfl) (by decide) ?_
        refine x_aload_n hC d_AckBookModel_look_99 rfl (lv_at hl 0 rfl) ?_
        refine x_getI hC hZ zc10 h (by decide) t_844 (fun _ h9 => h9) d_AckBookModel_look_100 (fun v7 h => ?_)
        exact x_iret hC hRc hRs hZ hr rfl h d_AckBookModel_look_103
      have h := z_ifn hc3 h
      by_cases hc4 : pI1 = (4 : Int32)
      · have h := z_ifp hc4 h
        refine lv_tableIn (tgt := 104) hC.1 hC.2.1 d_AckBookModel_look_26 (by rw [hc4]; decide) (by rw [hc4]; decide) (by rw [hc4]; rfl) (by decide) ?_
        refine x_aload_n hC d_AckBookModel_look_104 rfl (lv_at hl 0 rfl) ?_
        refine x_getI hC hZ zc10 h (by decide) t_845 (fun _ h9 => h9) d_AckBookModel_look_105 (fun v8 h => ?_)
        exact x_iret hC hRc hRs hZ hr rfl h d_AckBookModel_look_108
      have h := z_ifn hc4 h
      by_cases hc5 : pI1 = (5 : Int32)
      · have h := z_ifp hc5 h
        refine lv_tableIn (tgt := 109) hC.1 hC.2.1 d_AckBookModel_look_26 (by rw [hc5]; decide) (by rw [hc5]; decide) (by rw [hc5]; rfl) (by decide) ?_
        refine x_aload_n hC d_AckBookModel_look_109 rfl (lv_at hl 0 rfl) ?_
        refine x_getI hC hZ zc10 h (by decide) t_837 (fun _ h9 => h9) d_AckBookModel_look_110 (fun v9 h => ?_)
        exact x_iret hC hRc hRs hZ hr rfl h d_AckBookModel_look_113
      have h := z_ifn hc5 h
      by_cases hc6 : pI1 = (6 : Int32)
      · have h := z_ifp hc6 h
        refine lv_tableIn (tgt := 114) hC.1 hC.2.1 d_AckBookModel_look_26 (by rw [hc6]; decide) (by rw [hc6]; decide) (by rw [hc6]; rfl) (by decide) ?_
        refine x_aload_n hC d_AckBookModel_look_114 rfl (lv_at hl 0 rfl) ?_
        refine x_getI hC hZ zc10 h (by decide) t_838 (fun _ h9 => h9) d_AckBookModel_look_115 (fun v10 h => ?_)
        exact x_iret hC hRc hRs hZ hr rfl h d_AckBookModel_look_118
      have h := z_ifn hc6 h
      by_cases hc7 : pI1 = (7 : Int32)
      · have h := z_ifp hc7 h
        refine lv_tableIn (tgt := 119) hC.1 hC.2.1 d_AckBookModel_look_26 (by rw [hc7]; decide) (by rw [hc7]; decide) (by rw [hc7]; rfl) (by decide) ?_
        refine x_aload_n hC d_AckBookModel_look_119 rfl (lv_at hl 0 rfl) ?_
        refine x_getI hC hZ zc10 h (by decide) t_839 (fun _ h9 => h9) d_AckBookModel_look_120 (fun v11 h => ?_)
        exact x_iret hC hRc hRs hZ hr rfl h d_AckBookModel_look_123
      have h := z_ifn hc7 h
      by_cases hc8 : pI1 = (8 : Int32)
      · have h := z_ifp hc8 h
        refine lv_tableIn (tgt := 124) hC.1 hC.2.1 d_AckBookModel_look_26 (by rw [hc8]; decide) (by rw [hc8]; decide) (by rw [hc8]; rfl) (by decide) ?_
        refine x_aload_n hC d_AckBookModel_look_124 rfl (lv_at hl 0 rfl) ?_
        refine x_getI hC hZ zc10 h (by decide) t_840 (fun _ h9 => h9) d_AckBookModel_look_125 (fun v12 h => ?_)
        exact x_iret hC hRc hRs hZ hr rfl h d_AckBookModel_look_128
      have h := z_ifn hc8 h
      by_cases hc9 : pI1 = (9 : Int32)
      · have h := z_ifp hc9 h
        refine lv_tableIn (tgt := 129) hC.1 hC.2.1 d_AckBookModel_look_26 (by rw [hc9]; decide) (by rw [hc9]; decide) (by rw [hc9]; rfl) (by decide) ?_
        refine x_aload_n hC d_AckBookModel_look_129 rfl (lv_at hl 0 rfl) ?_
        refine x_getI hC hZ zc10 h (by decide) t_842 (fun _ h9 => h9) d_AckBookModel_look_130 (fun v13 h => ?_)
        exact x_iret hC hRc hRs hZ hr rfl h d_AckBookModel_look_133
      have h := z_ifn hc9 h
      by_cases hc10 : pI1 = (10 : Int32)
      · have h := z_ifp hc10 h
        refine lv_tableIn (tgt := 134) hC.1 hC.2.1 d_AckBookModel_look_26 (by rw [hc10]; decide) (by rw [hc10]; decide) (by rw [hc10]; rfl) (by decide) ?_
        refine x_aload_n hC d_AckBookModel_look_134 rfl (lv_at hl 0 rfl) ?_
        obtain ⟨a_, fs_, eo_, h⟩ := z_this_spec h
        obtain ⟨w1_, o1_, hF_, ha_⟩ := z_cI_spec h
        refine x_goes hC hRc hRs hFr ha_ (z_goV (As := []) hC hZ zc10 eo_ (k_AckBookModel_limit hT hfl hE _ _ hF_) t_1000 t_1002 ts_AckBookModel_limit t_12 t_1003 ⟨by decide, by decide, (by decide +kernel : (parseMethodDescriptor y_AckBookModel_limit.desc).map (fun d => d.parameters.length) = some 0)⟩ (by rw [hRt.1]; decide) (by rw [hRt.2]; decide) hl.1 rfl (by first | exact Nat.le_of_ble_eq_true rfl | simp [z_rfc, z_ci, z_cj]) d_AckBookModel_look_135) (fun v_ hv H locs cells slots hZ => ?_)
        obtain ⟨v15, rfl, h⟩ := hv
        generalize w1_ = w at h hZ
        exact x_iret hC hRc hRs hZ hr rfl h d_AckBookModel_look_138
      have h := z_ifn hc10 h
      refine lv_tableOut (tgt := 139) hC.1 hC.2.1 d_AckBookModel_look_26 (z_tab 10 (fun k hk => match k, hk with | 0, _ => hc0 | 1, _ => hc1 | 2, _ => hc2 | 3, _ => hc3 | 4, _ => hc4 | 5, _ => hc5 | 6, _ => hc6 | 7, _ => hc7 | 8, _ => hc8 | 9, _ => hc9 | 10, _ => hc10 | _ + 11, hk => absurd hk (by omega))) (by decide) ?_
      refine x_aload_n hC d_AckBookModel_look_139 rfl (lv_at hl 0 rfl) ?_
      refine x_getI hC hZ zc10 h (by decide) t_843 (fun _ h9 => h9) d_AckBookModel_look_140 (fun v16 h => ?_)
      refine x_aload_n hC d_AckBookModel_look_143 rfl (lv_at hl 0 rfl) ?_
      obtain ⟨a_, fs_, eo_, h⟩ := z_this_spec h
      obtain ⟨w1_, o1_, hF_, ha_⟩ := z_cI_spec h
      refine x_goes hC hRc hRs hFr ha_ (z_goV (As := []) hC hZ zc10 eo_ (k_AckBookModel_flight hT hfl hE _ _ hF_) t_951 t_953 ts_AckBookModel_flight t_12 t_954 ⟨by decide, by decide, (by decide +kernel : (parseMethodDescriptor y_AckBookModel_flight.desc).map (fun d => d.parameters.length) = some 0)⟩ (by rw [hRt.1]; decide) (by rw [hRt.2]; decide) hl.1 rfl (by first | exact Nat.le_of_ble_eq_true rfl | simp [z_rfc, z_ci, z_cj]) d_AckBookModel_look_144) (fun v_ hv H locs cells slots hZ => ?_)
      obtain ⟨v18, rfl, h⟩ := hv
      generalize w1_ = w at h hZ
      refine lv_isub hC.1 hC.2.1 d_AckBookModel_look_147 ?_
      refine lv_iconst (v := (0 : Int32)) hC.1 hC.2.1 d_AckBookModel_look_148 (by decide) ?_
      obtain ⟨w1_, o1_, hF_, ha_⟩ := z_cI_spec h
      refine x_goes hC hRc hRs hFr ha_ (z_goS (As := [.int (v16 - v18), .int (0 : Int32)]) hC hZ (k_AckBookModel_greater hT hfl hE _ _ hF_) t_973 t_974 t_12 t_975 ⟨by decide, by decide, (by decide +kernel : (parseMethodDescriptor y_AckBookModel_greater.desc).map (fun d => d.parameters.length) = some 2)⟩ (by rw [hRt.1]; decide) (by rw [hRt.2]; decide) hl.1 rfl (by first | exact Nat.le_of_ble_eq_true rfl | simp [z_rfc, z_ci, z_cj]) d_AckBookModel_look_149) (fun v_ hv H locs cells slots hZ => ?_)
      obtain ⟨v20, rfl, h⟩ := hv
      generalize w1_ = w at h hZ
      exact x_iret hC hRc hRs hZ hr rfl h d_AckBookModel_look_152
    · have h := z_ifn hc h
      refine lv_iconst (v := (0 : Int32)) hC.1 hC.2.1 d_AckBookModel_look_23 (by decide) ?_
      exact x_iret hC hRc hRs hZ hr rfl h d_AckBookModel_look_24
  · have h := z_ifn hc h
    refine lv_iload_n hC.1 hC.2.1 d_AckBookModel_look_5 rfl (lv_at hl 1 rfl) ?_
    refine lv_bipush (v := (11 : Int32)) hC.1 hC.2.1 d_AckBookModel_look_6 (by decide) ?_
    refine lv_icmp_le (tgt := 15) hC.1 hC.2.1 d_AckBookModel_look_8 (by decide) (fun hc => ?_) (fun hc => ?_)
    · have h := z_ifp hc h
      refine lv_iconst (v := (0 : Int32)) hC.1 hC.2.1 d_AckBookModel_look_15 (by decide) ?_
      refine lv_iconst (v := (1 : Int32)) hC.1 hC.2.1 d_AckBookModel_look_16 (by decide) ?_
      obtain ⟨a_, fs_, eo_, h⟩ := z_this_spec h
      obtain ⟨w1_, o1_, hF_, ha_⟩ := z_cI_spec h
      refine x_goes hC hRc hRs hFr ha_ (z_goV (As := [.int (0 : Int32), .int (1 : Int32)]) hC hZ zc10 eo_ (k_AckBookModel_fails hT hfl hE _ _ hF_) t_947 t_949 ts_AckBookModel_fails t_12 t_950 ⟨by decide, by decide, (by decide +kernel : (parseMethodDescriptor y_AckBookModel_fails.desc).map (fun d => d.parameters.length) = some 2)⟩ (by rw [hRt.1]; decide) (by rw [hRt.2]; decide) hl.1 rfl (by first | exact Nat.le_of_ble_eq_true rfl | simp [z_rfc, z_ci, z_cj]) d_AckBookModel_look_17) (fun v_ hv H locs cells slots hZ => ?_)
      obtain ⟨v22, rfl, h⟩ := hv
      generalize w1_ = w at h hZ
      refine lv_if_eq (tgt := 25) hC.1 hC.2.1 d_AckBookModel_look_20 (by decide) (fun hc => ?_) (fun hc => ?_)
      · have h := z_ifp hc h
        refine lv_iload_n hC.1 hC.2.1 d_AckBookModel_look_25 rfl (lv_at hl 1 rfl) ?_
        by_cases hc0 : pI1 = (0 : Int32)
        · have h := z_ifp hc0 h
          refine lv_tableIn (tgt := 84) hC.1 hC.2.1 d_AckBookModel_look_26 (by rw [hc0]; decide) (by rw [hc0]; decide) (by rw [hc0]; rfl) (by decide) ?_
          refine x_aload_n hC d_AckBookModel_look_84 rfl (lv_at hl 0 rfl) ?_
          refine x_getI hC hZ zc10 h (by decide) t_820 (fun _ h9 => h9) d_AckBookModel_look_85 (fun v23 h => ?_)
          exact x_iret hC hRc hRs hZ hr rfl h d_AckBookModel_look_88
        have h := z_ifn hc0 h
        by_cases hc1 : pI1 = (1 : Int32)
        · have h := z_ifp hc1 h
          refine lv_tableIn (tgt := 89) hC.1 hC.2.1 d_AckBookModel_look_26 (by rw [hc1]; decide) (by rw [hc1]; decide) (by rw [hc1]; rfl) (by decide) ?_
          refine x_aload_n hC d_AckBookModel_look_89 rfl (lv_at hl 0 rfl) ?_
          obtain ⟨a_, fs_, eo_, h⟩ := z_this_spec h
          obtain ⟨w1_, o1_, hF_, ha_⟩ := z_cI_spec h
          refine x_goes hC hRc hRs hFr ha_ (z_goV (As := []) hC hZ zc10 eo_ (k_AckBookModel_flight hT hfl hE _ _ hF_) t_951 t_953 ts_AckBookModel_flight t_12 t_954 ⟨by decide, by decide, (by decide +kernel : (parseMethodDescriptor y_AckBookModel_flight.desc).map (fun d => d.parameters.length) = some 0)⟩ (by rw [hRt.1]; decide) (by rw [hRt.2]; decide) hl.1 rfl (by first | exact Nat.le_of_ble_eq_true rfl | simp [z_rfc, z_ci, z_cj]) d_AckBookModel_look_90) (fun v_ hv H locs cells slots hZ => ?_)
          obtain ⟨v25, rfl, h⟩ := hv
          generalize w1_ = w at h hZ
          exact x_iret hC hRc hRs hZ hr rfl h d_AckBookModel_look_93
        have h := z_ifn hc1 h
        by_cases hc2 : pI1 = (2 : Int32)
        · have h := z_ifp hc2 h
          refine lv_tableIn (tgt := 94) hC.1 hC.2.1 d_AckBookModel_look_26 (by rw [hc2]; decide) (by rw [hc2]; decide) (by rw [hc2]; rfl) (by decide) ?_
          refine x_aload_n hC d_AckBookModel_look_94 rfl (lv_at hl 0 rfl) ?_
          refine x_getI hC hZ zc10 h (by decide) t_843 (fun _ h9 => h9) d_AckBookModel_look_95 (fun v26 h => ?_)
          exact x_iret hC hRc hRs hZ hr rfl h d_AckBookModel_look_98
        have h := z_ifn hc2 h
        by_cases hc3 : pI1 = (3 : Int32)
        · have h := z_ifp hc3 h
          refine lv_tableIn (tgt := 99) hC.1 hC.2.1 d_AckBookModel_look_26 (by rw [hc3]; decide) (by rw [hc3]; decide) (by rw [hc3]; rfl) (by decide) ?_
          refine x_aload_n hC d_AckBookModel_look_99 rfl (lv_at hl 0 rfl) ?_
          refine x_getI hC hZ zc10 h (by decide) t_844 (fun _ h9 => h9) d_AckBookModel_look_100 (fun v27 h => ?_)
          exact x_iret hC hRc hRs hZ hr rfl h d_AckBookModel_look_103
        have h := z_ifn hc3 h
        by_cases hc4 : pI1 = (4 : Int32)
        · have h := z_ifp hc4 h
          refine lv_tableIn (tgt := 104) hC.1 hC.2.1 d_AckBookModel_look_26 (by rw [hc4]; decide) (by rw [hc4]; decide) (by rw [hc4]; rfl) (by decide) ?_
          refine x_aload_n hC d_AckBookModel_look_104 rfl (lv_at hl 0 rfl) ?_
          refine x_getI hC hZ zc10 h (by decide) t_845 (fun _ h9 => h9) d_AckBookModel_look_105 (fun v28 h => ?_)
          exact x_iret hC hRc hRs hZ hr rfl h d_AckBookModel_look_108
        have h := z_ifn hc4 h
        by_cases hc5 : pI1 = (5 : Int32)
        · have h := z_ifp hc5 h
          refine lv_tableIn (tgt := 109) hC.1 hC.2.1 d_AckBookModel_look_26 (by rw [hc5]; decide) (by rw [hc5]; decide) (by rw [hc5]; rfl) (by decide) ?_
          refine x_aload_n hC d_AckBookModel_look_109 rfl (lv_at hl 0 rfl) ?_
          refine x_getI hC hZ zc10 h (by decide) t_837 (fun _ h9 => h9) d_AckBookModel_look_110 (fun v29 h => ?_)
          exact x_iret hC hRc hRs hZ hr rfl h d_AckBookModel_look_113
        have h := z_ifn hc5 h
        by_cases hc6 : pI1 = (6 : Int32)
        · have h := z_ifp hc6 h
          refine lv_tableIn (tgt := 114) hC.1 hC.2.1 d_AckBookModel_look_26 (by rw [hc6]; decide) (by rw [hc6]; decide) (by rw [hc6]; rfl) (by decide) ?_
          refine x_aload_n hC d_AckBookModel_look_114 rfl (lv_at hl 0 rfl) ?_
          refine x_getI hC hZ zc10 h (by decide) t_838 (fun _ h9 => h9) d_AckBookModel_look_115 (fun v30 h => ?_)
          exact x_iret hC hRc hRs hZ hr rfl h d_AckBookModel_look_118
        have h := z_ifn hc6 h
        by_cases hc7 : pI1 = (7 : Int32)
        · have h := z_ifp hc7 h
          refine lv_tableIn (tgt := 119) hC.1 hC.2.1 d_AckBookModel_look_26 (by rw [hc7]; decide) (by rw [hc7]; decide) (by rw [hc7]; rfl) (by decide) ?_
          refine x_aload_n hC d_AckBookModel_look_119 rfl (lv_at hl 0 rfl) ?_
          refine x_getI hC hZ zc10 h (by decide) t_839 (fun _ h9 => h9) d_AckBookModel_look_120 (fun v31 h => ?_)
          exact x_iret hC hRc hRs hZ hr rfl h d_AckBookModel_look_123
        have h := z_ifn hc7 h
        by_cases hc8 : pI1 = (8 : Int32)
        · have h := z_ifp hc8 h
          refine lv_tableIn (tgt := 124) hC.1 hC.2.1 d_AckBookModel_look_26 (by rw [hc8]; decide) (by rw [hc8]; decide) (by rw [hc8]; rfl) (by decide) ?_
          refine x_aload_n hC d_AckBookModel_look_124 rfl (lv_at hl 0 rfl) ?_
          refine x_getI hC hZ zc10 h (by decide) t_840 (fun _ h9 => h9) d_AckBookModel_look_125 (fun v32 h => ?_)
          exact x_iret hC hRc hRs hZ hr rfl h d_AckBookModel_look_128
        have h := z_ifn hc8 h
        by_cases hc9 : pI1 = (9 : Int32)
        · have h := z_ifp hc9 h
          refine lv_tableIn (tgt := 129) hC.1 hC.2.1 d_AckBookModel_look_26 (by rw [hc9]; decide) (by rw [hc9]; decide) (by rw [hc9]; rfl) (by decide) ?_
          refine x_aload_n hC d_AckBookModel_look_129 rfl (lv_at hl 0 rfl) ?_
          refine x_getI hC hZ zc10 h (by decide) t_842 (fun _ h9 => h9) d_AckBookModel_look_130 (fun v33 h => ?_)
          exact x_iret hC hRc hRs hZ hr rfl h d_AckBookModel_look_133
        have h := z_ifn hc9 h
        by_cases hc10 : pI1 = (10 : Int32)
        · have h := z_ifp hc10 h
          refine lv_tableIn (tgt := 134) hC.1 hC.2.1 d_AckBookModel_look_26 (by rw [hc10]; decide) (by rw [hc10]; decide) (by rw [hc10]; rfl) (by decide) ?_
          refine x_aload_n hC d_AckBookModel_look_134 rfl (lv_at hl 0 rfl) ?_
          obtain ⟨a_, fs_, eo_, h⟩ := z_this_spec h
          obtain ⟨w1_, o1_, hF_, ha_⟩ := z_cI_spec h
          refine x_goes hC hRc hRs hFr ha_ (z_goV (As := []) hC hZ zc10 eo_ (k_AckBookModel_limit hT hfl hE _ _ hF_) t_1000 t_1002 ts_AckBookModel_limit t_12 t_1003 ⟨by decide, by decide, (by decide +kernel : (parseMethodDescriptor y_AckBookModel_limit.desc).map (fun d => d.parameters.length) = some 0)⟩ (by rw [hRt.1]; decide) (by rw [hRt.2]; decide) hl.1 rfl (by first | exact Nat.le_of_ble_eq_true rfl | simp [z_rfc, z_ci, z_cj]) d_AckBookModel_look_135) (fun v_ hv H locs cells slots hZ => ?_)
          obtain ⟨v35, rfl, h⟩ := hv
          generalize w1_ = w at h hZ
          exact x_iret hC hRc hRs hZ hr rfl h d_AckBookModel_look_138
        have h := z_ifn hc10 h
        refine lv_tableOut (tgt := 139) hC.1 hC.2.1 d_AckBookModel_look_26 (z_tab 10 (fun k hk => match k, hk with | 0, _ => hc0 | 1, _ => hc1 | 2, _ => hc2 | 3, _ => hc3 | 4, _ => hc4 | 5, _ => hc5 | 6, _ => hc6 | 7, _ => hc7 | 8, _ => hc8 | 9, _ => hc9 | 10, _ => hc10 | _ + 11, hk => absurd hk (by omega))) (by decide) ?_
        refine x_aload_n hC d_AckBookModel_look_139 rfl (lv_at hl 0 rfl) ?_
        refine x_getI hC hZ zc10 h (by decide) t_843 (fun _ h9 => h9) d_AckBookModel_look_140 (fun v36 h => ?_)
        refine x_aload_n hC d_AckBookModel_look_143 rfl (lv_at hl 0 rfl) ?_
        obtain ⟨a_, fs_, eo_, h⟩ := z_this_spec h
        obtain ⟨w1_, o1_, hF_, ha_⟩ := z_cI_spec h
        refine x_goes hC hRc hRs hFr ha_ (z_goV (As := []) hC hZ zc10 eo_ (k_AckBookModel_flight hT hfl hE _ _ hF_) t_951 t_953 ts_AckBookModel_flight t_12 t_954 ⟨by decide, by decide, (by decide +kernel : (parseMethodDescriptor y_AckBookModel_flight.desc).map (fun d => d.parameters.length) = some 0)⟩ (by rw [hRt.1]; decide) (by rw [hRt.2]; decide) hl.1 rfl (by first | exact Nat.le_of_ble_eq_true rfl | simp [z_rfc, z_ci, z_cj]) d_AckBookModel_look_144) (fun v_ hv H locs cells slots hZ => ?_)
        obtain ⟨v38, rfl, h⟩ := hv
        generalize w1_ = w at h hZ
        refine lv_isub hC.1 hC.2.1 d_AckBookModel_look_147 ?_
        refine lv_iconst (v := (0 : Int32)) hC.1 hC.2.1 d_AckBookModel_look_148 (by decide) ?_
        obtain ⟨w1_, o1_, hF_, ha_⟩ := z_cI_spec h
        refine x_goes hC hRc hRs hFr ha_ (z_goS (As := [.int (v36 - v38), .int (0 : Int32)]) hC hZ (k_AckBookModel_greater hT hfl hE _ _ hF_) t_973 t_974 t_12 t_975 ⟨by decide, by decide, (by decide +kernel : (parseMethodDescriptor y_AckBookModel_greater.desc).map (fun d => d.parameters.length) = some 2)⟩ (by rw [hRt.1]; decide) (by rw [hRt.2]; decide) hl.1 rfl (by first | exact Nat.le_of_ble_eq_true rfl | simp [z_rfc, z_ci, z_cj]) d_AckBookModel_look_149) (fun v_ hv H locs cells slots hZ => ?_)
        obtain ⟨v40, rfl, h⟩ := hv
        generalize w1_ = w at h hZ
        exact x_iret hC hRc hRs hZ hr rfl h d_AckBookModel_look_152
      · have h := z_ifn hc h
        refine lv_iconst (v := (0 : Int32)) hC.1 hC.2.1 d_AckBookModel_look_23 (by decide) ?_
        exact x_iret hC hRc hRs hZ hr rfl h d_AckBookModel_look_24
    · have h := z_ifn hc h
      refine lv_iconst (v := (1 : Int32)) hC.1 hC.2.1 d_AckBookModel_look_11 (by decide) ?_
      refine lv_goto (tgt := 16) hC.1 hC.2.1 d_AckBookModel_look_12 (by decide) ?_
      refine lv_iconst (v := (1 : Int32)) hC.1 hC.2.1 d_AckBookModel_look_16 (by decide) ?_
      obtain ⟨a_, fs_, eo_, h⟩ := z_this_spec h
      obtain ⟨w1_, o1_, hF_, ha_⟩ := z_cI_spec h
      refine x_goes hC hRc hRs hFr ha_ (z_goV (As := [.int (1 : Int32), .int (1 : Int32)]) hC hZ zc10 eo_ (k_AckBookModel_fails hT hfl hE _ _ hF_) t_947 t_949 ts_AckBookModel_fails t_12 t_950 ⟨by decide, by decide, (by decide +kernel : (parseMethodDescriptor y_AckBookModel_fails.desc).map (fun d => d.parameters.length) = some 2)⟩ (by rw [hRt.1]; decide) (by rw [hRt.2]; decide) hl.1 rfl (by first | exact Nat.le_of_ble_eq_true rfl | simp [z_rfc, z_ci, z_cj]) d_AckBookModel_look_17) (fun v_ hv H locs cells slots hZ => ?_)
      obtain ⟨v42, rfl, h⟩ := hv
      generalize w1_ = w at h hZ
      refine lv_if_eq (tgt := 25) hC.1 hC.2.1 d_AckBookModel_look_20 (by decide) (fun hc => ?_) (fun hc => ?_)
      · have h := z_ifp hc h
        refine lv_iload_n hC.1 hC.2.1 d_AckBookModel_look_25 rfl (lv_at hl 1 rfl) ?_
        by_cases hc0 : pI1 = (0 : Int32)
        · have h := z_ifp hc0 h
          refine lv_tableIn (tgt := 84) hC.1 hC.2.1 d_AckBookModel_look_26 (by rw [hc0]; decide) (by rw [hc0]; decide) (by rw [hc0]; rfl) (by decide) ?_
          refine x_aload_n hC d_AckBookModel_look_84 rfl (lv_at hl 0 rfl) ?_
          refine x_getI hC hZ zc10 h (by decide) t_820 (fun _ h9 => h9) d_AckBookModel_look_85 (fun v43 h => ?_)
          exact x_iret hC hRc hRs hZ hr rfl h d_AckBookModel_look_88
        have h := z_ifn hc0 h
        by_cases hc1 : pI1 = (1 : Int32)
        · have h := z_ifp hc1 h
          refine lv_tableIn (tgt := 89) hC.1 hC.2.1 d_AckBookModel_look_26 (by rw [hc1]; decide) (by rw [hc1]; decide) (by rw [hc1]; rfl) (by decide) ?_
          refine x_aload_n hC d_AckBookModel_look_89 rfl (lv_at hl 0 rfl) ?_
          obtain ⟨a_, fs_, eo_, h⟩ := z_this_spec h
          obtain ⟨w1_, o1_, hF_, ha_⟩ := z_cI_spec h
          refine x_goes hC hRc hRs hFr ha_ (z_goV (As := []) hC hZ zc10 eo_ (k_AckBookModel_flight hT hfl hE _ _ hF_) t_951 t_953 ts_AckBookModel_flight t_12 t_954 ⟨by decide, by decide, (by decide +kernel : (parseMethodDescriptor y_AckBookModel_flight.desc).map (fun d => d.parameters.length) = some 0)⟩ (by rw [hRt.1]; decide) (by rw [hRt.2]; decide) hl.1 rfl (by first | exact Nat.le_of_ble_eq_true rfl | simp [z_rfc, z_ci, z_cj]) d_AckBookModel_look_90) (fun v_ hv H locs cells slots hZ => ?_)
          obtain ⟨v45, rfl, h⟩ := hv
          generalize w1_ = w at h hZ
          exact x_iret hC hRc hRs hZ hr rfl h d_AckBookModel_look_93
        have h := z_ifn hc1 h
        by_cases hc2 : pI1 = (2 : Int32)
        · have h := z_ifp hc2 h
          refine lv_tableIn (tgt := 94) hC.1 hC.2.1 d_AckBookModel_look_26 (by rw [hc2]; decide) (by rw [hc2]; decide) (by rw [hc2]; rfl) (by decide) ?_
          refine x_aload_n hC d_AckBookModel_look_94 rfl (lv_at hl 0 rfl) ?_
          refine x_getI hC hZ zc10 h (by decide) t_843 (fun _ h9 => h9) d_AckBookModel_look_95 (fun v46 h => ?_)
          exact x_iret hC hRc hRs hZ hr rfl h d_AckBookModel_look_98
        have h := z_ifn hc2 h
        by_cases hc3 : pI1 = (3 : Int32)
        · have h := z_ifp hc3 h
          refine lv_tableIn (tgt := 99) hC.1 hC.2.1 d_AckBookModel_look_26 (by rw [hc3]; decide) (by rw [hc3]; decide) (by rw [hc3]; rfl) (by decide) ?_
          refine x_aload_n hC d_AckBookModel_look_99 rfl (lv_at hl 0 rfl) ?_
          refine x_getI hC hZ zc10 h (by decide) t_844 (fun _ h9 => h9) d_AckBookModel_look_100 (fun v47 h => ?_)
          exact x_iret hC hRc hRs hZ hr rfl h d_AckBookModel_look_103
        have h := z_ifn hc3 h
        by_cases hc4 : pI1 = (4 : Int32)
        · have h := z_ifp hc4 h
          refine lv_tableIn (tgt := 104) hC.1 hC.2.1 d_AckBookModel_look_26 (by rw [hc4]; decide) (by rw [hc4]; decide) (by rw [hc4]; rfl) (by decide) ?_
          refine x_aload_n hC d_AckBookModel_look_104 rfl (lv_at hl 0 rfl) ?_
          refine x_getI hC hZ zc10 h (by decide) t_845 (fun _ h9 => h9) d_AckBookModel_look_105 (fun v48 h => ?_)
          exact x_iret hC hRc hRs hZ hr rfl h d_AckBookModel_look_108
        have h := z_ifn hc4 h
        by_cases hc5 : pI1 = (5 : Int32)
        · have h := z_ifp hc5 h
          refine lv_tableIn (tgt := 109) hC.1 hC.2.1 d_AckBookModel_look_26 (by rw [hc5]; decide) (by rw [hc5]; decide) (by rw [hc5]; rfl) (by decide) ?_
          refine x_aload_n hC d_AckBookModel_look_109 rfl (lv_at hl 0 rfl) ?_
          refine x_getI hC hZ zc10 h (by decide) t_837 (fun _ h9 => h9) d_AckBookModel_look_110 (fun v49 h => ?_)
          exact x_iret hC hRc hRs hZ hr rfl h d_AckBookModel_look_113
        have h := z_ifn hc5 h
        by_cases hc6 : pI1 = (6 : Int32)
        · have h := z_ifp hc6 h
          refine lv_tableIn (tgt := 114) hC.1 hC.2.1 d_AckBookModel_look_26 (by rw [hc6]; decide) (by rw [hc6]; decide) (by rw [hc6]; rfl) (by decide) ?_
          refine x_aload_n hC d_AckBookModel_look_114 rfl (lv_at hl 0 rfl) ?_
          refine x_getI hC hZ zc10 h (by decide) t_838 (fun _ h9 => h9) d_AckBookModel_look_115 (fun v50 h => ?_)
          exact x_iret hC hRc hRs hZ hr rfl h d_AckBookModel_look_118
        have h := z_ifn hc6 h
        by_cases hc7 : pI1 = (7 : Int32)
        · have h := z_ifp hc7 h
          refine lv_tableIn (tgt := 119) hC.1 hC.2.1 d_AckBookModel_look_26 (by rw [hc7]; decide) (by rw [hc7]; decide) (by rw [hc7]; rfl) (by decide) ?_
          refine x_aload_n hC d_AckBookModel_look_119 rfl (lv_at hl 0 rfl) ?_
          refine x_getI hC hZ zc10 h (by decide) t_839 (fun _ h9 => h9) d_AckBookModel_look_120 (fun v51 h => ?_)
          exact x_iret hC hRc hRs hZ hr rfl h d_AckBookModel_look_123
        have h := z_ifn hc7 h
        by_cases hc8 : pI1 = (8 : Int32)
        · have h := z_ifp hc8 h
          refine lv_tableIn (tgt := 124) hC.1 hC.2.1 d_AckBookModel_look_26 (by rw [hc8]; decide) (by rw [hc8]; decide) (by rw [hc8]; rfl) (by decide) ?_
          refine x_aload_n hC d_AckBookModel_look_124 rfl (lv_at hl 0 rfl) ?_
          refine x_getI hC hZ zc10 h (by decide) t_840 (fun _ h9 => h9) d_AckBookModel_look_125 (fun v52 h => ?_)
          exact x_iret hC hRc hRs hZ hr rfl h d_AckBookModel_look_128
        have h := z_ifn hc8 h
        by_cases hc9 : pI1 = (9 : Int32)
        · have h := z_ifp hc9 h
          refine lv_tableIn (tgt := 129) hC.1 hC.2.1 d_AckBookModel_look_26 (by rw [hc9]; decide) (by rw [hc9]; decide) (by rw [hc9]; rfl) (by decide) ?_
          refine x_aload_n hC d_AckBookModel_look_129 rfl (lv_at hl 0 rfl) ?_
          refine x_getI hC hZ zc10 h (by decide) t_842 (fun _ h9 => h9) d_AckBookModel_look_130 (fun v53 h => ?_)
          exact x_iret hC hRc hRs hZ hr rfl h d_AckBookModel_look_133
        have h := z_ifn hc9 h
        by_cases hc10 : pI1 = (10 : Int32)
        · have h := z_ifp hc10 h
          refine lv_tableIn (tgt := 134) hC.1 hC.2.1 d_AckBookModel_look_26 (by rw [hc10]; decide) (by rw [hc10]; decide) (by rw [hc10]; rfl) (by decide) ?_
          refine x_aload_n hC d_AckBookModel_look_134 rfl (lv_at hl 0 rfl) ?_
          obtain ⟨a_, fs_, eo_, h⟩ := z_this_spec h
          obtain ⟨w1_, o1_, hF_, ha_⟩ := z_cI_spec h
          refine x_goes hC hRc hRs hFr ha_ (z_goV (As := []) hC hZ zc10 eo_ (k_AckBookModel_limit hT hfl hE _ _ hF_) t_1000 t_1002 ts_AckBookModel_limit t_12 t_1003 ⟨by decide, by decide, (by decide +kernel : (parseMethodDescriptor y_AckBookModel_limit.desc).map (fun d => d.parameters.length) = some 0)⟩ (by rw [hRt.1]; decide) (by rw [hRt.2]; decide) hl.1 rfl (by first | exact Nat.le_of_ble_eq_true rfl | simp [z_rfc, z_ci, z_cj]) d_AckBookModel_look_135) (fun v_ hv H locs cells slots hZ => ?_)
          obtain ⟨v55, rfl, h⟩ := hv
          generalize w1_ = w at h hZ
          exact x_iret hC hRc hRs hZ hr rfl h d_AckBookModel_look_138
        have h := z_ifn hc10 h
        refine lv_tableOut (tgt := 139) hC.1 hC.2.1 d_AckBookModel_look_26 (z_tab 10 (fun k hk => match k, hk with | 0, _ => hc0 | 1, _ => hc1 | 2, _ => hc2 | 3, _ => hc3 | 4, _ => hc4 | 5, _ => hc5 | 6, _ => hc6 | 7, _ => hc7 | 8, _ => hc8 | 9, _ => hc9 | 10, _ => hc10 | _ + 11, hk => absurd hk (by omega))) (by decide) ?_
        refine x_aload_n hC d_AckBookModel_look_139 rfl (lv_at hl 0 rfl) ?_
        refine x_getI hC hZ zc10 h (by decide) t_843 (fun _ h9 => h9) d_AckBookModel_look_140 (fun v56 h => ?_)
        refine x_aload_n hC d_AckBookModel_look_143 rfl (lv_at hl 0 rfl) ?_
        obtain ⟨a_, fs_, eo_, h⟩ := z_this_spec h
        obtain ⟨w1_, o1_, hF_, ha_⟩ := z_cI_spec h
        refine x_goes hC hRc hRs hFr ha_ (z_goV (As := []) hC hZ zc10 eo_ (k_AckBookModel_flight hT hfl hE _ _ hF_) t_951 t_953 ts_AckBookModel_flight t_12 t_954 ⟨by decide, by decide, (by decide +kernel : (parseMethodDescriptor y_AckBookModel_flight.desc).map (fun d => d.parameters.length) = some 0)⟩ (by rw [hRt.1]; decide) (by rw [hRt.2]; decide) hl.1 rfl (by first | exact Nat.le_of_ble_eq_true rfl | simp [z_rfc, z_ci, z_cj]) d_AckBookModel_look_144) (fun v_ hv H locs cells slots hZ => ?_)
        obtain ⟨v58, rfl, h⟩ := hv
        generalize w1_ = w at h hZ
        refine lv_isub hC.1 hC.2.1 d_AckBookModel_look_147 ?_
        refine lv_iconst (v := (0 : Int32)) hC.1 hC.2.1 d_AckBookModel_look_148 (by decide) ?_
        obtain ⟨w1_, o1_, hF_, ha_⟩ := z_cI_spec h
        refine x_goes hC hRc hRs hFr ha_ (z_goS (As := [.int (v56 - v58), .int (0 : Int32)]) hC hZ (k_AckBookModel_greater hT hfl hE _ _ hF_) t_973 t_974 t_12 t_975 ⟨by decide, by decide, (by decide +kernel : (parseMethodDescriptor y_AckBookModel_greater.desc).map (fun d => d.parameters.length) = some 2)⟩ (by rw [hRt.1]; decide) (by rw [hRt.2]; decide) hl.1 rfl (by first | exact Nat.le_of_ble_eq_true rfl | simp [z_rfc, z_ci, z_cj]) d_AckBookModel_look_149) (fun v_ hv H locs cells slots hZ => ?_)
        obtain ⟨v60, rfl, h⟩ := hv
        generalize w1_ = w at h hZ
        exact x_iret hC hRc hRs hZ hr rfl h d_AckBookModel_look_152
      · have h := z_ifn hc h
        refine lv_iconst (v := (0 : Int32)) hC.1 hC.2.1 d_AckBookModel_look_23 (by decide) ?_
        exact x_iret hC hRc hRs hZ hr rfl h d_AckBookModel_look_24
def f_AckBookModel_space (F X : Nat) (a0 : Option Nat) (pI1 : Int32) (pI2 : Int32) (w : zW) : zR :=
  z_cI (f_AckBookModel_noSpace F X pI1 w) fun v2 w =>
  z_this w 10 a0 <|
  z_cI (f_AckBookModel_fails F X a0 v2 (1 : Int32) w) fun v4 w =>
  if v4 = 0 then (
    if pI2 < 0 then (
      z_this w 10 a0 <|
      z_cI (f_AckBookModel_fails F X a0 (1 : Int32) (2 : Int32) w) fun v6 w =>
      if v6 = 0 then (
        if pI2 = (0 : Int32) then (
          z_getR w 10 4 a0 fun r7 =>
          z_ldI w .int r7 pI1 fun v8 =>
          some (.inl (some (.long v8.toInt64)), w))
        else if pI2 = (1 : Int32) then (
          z_getR w 10 12 a0 fun r9 =>
          z_ldI w .int r9 pI1 fun v10 =>
          some (.inl (some (.long v10.toInt64)), w))
        else if pI2 = (2 : Int32) then (
          z_getR w 10 13 a0 fun r11 =>
          z_ldI w .int r11 pI1 fun v12 =>
          some (.inl (some (.long v12.toInt64)), w))
        else if pI2 = (3 : Int32) then (
          z_this w 10 a0 <|
          z_cI (f_AckBookModel_probeTime F X a0 pI1 w) fun v14 w =>
          some (.inl (some (.long v14.toInt64)), w))
        else if pI2 = (4 : Int32) then (
          z_this w 10 a0 <|
          z_cI (f_AckBookModel_outs F X a0 pI1 (1 : Int32) w) fun v16 w =>
          some (.inl (some (.long v16.toInt64)), w))
        else if pI2 = (5 : Int32) then (
          z_this w 10 a0 <|
          z_cI (f_AckBookModel_outs F X a0 pI1 (0 : Int32) w) fun v18 w =>
          some (.inl (some (.long v18.toInt64)), w))
        else if pI2 = (6 : Int32) then (
          z_getR w 10 30 a0 fun r19 =>
          z_ldI w .int r19 pI1 fun v20 =>
          some (.inl (some (.long v20.toInt64)), w))
        else if pI2 = (7 : Int32) then (
          z_getR w 10 35 a0 fun r21 =>
          z_ldI w .int r21 pI1 fun v22 =>
          some (.inl (some (.long v22.toInt64)), w))
        else if pI2 = (8 : Int32) then (
          z_this w 10 a0 <|
          z_cI (f_AckBookModel_patience F X a0 pI1 w) fun v24 w =>
          some (.inl (some (.long v24.toInt64)), w))
        else if pI2 = (9 : Int32) then (
          z_getR w 10 11 a0 fun r25 =>
          z_ldI w .boolean r25 pI1 fun v26 =>
          if v26 = 0 then (
            some (.inl (some (.long (0 : Int64))), w))
          else (
            some (.inl (some (.long (1 : Int64))), w)))
        else (
          z_getR w 10 33 a0 fun r27 =>
          z_ldL w r27 pI1 fun v28 =>
          some (.inl (some (.long v28)), w)))
      else (
        some (.inl (some (.long (0 : Int64))), w)))
    else (
      if pI2 ≤ (10 : Int32) then (
        z_this w 10 a0 <|
        z_cI (f_AckBookModel_fails F X a0 (0 : Int32) (2 : Int32) w) fun v30 w =>
        if v30 = 0 then (
          if pI2 = (0 : Int32) then (
            z_getR w 10 4 a0 fun r31 =>
            z_ldI w .int r31 pI1 fun v32 =>
            some (.inl (some (.long v32.toInt64)), w))
          else if pI2 = (1 : Int32) then (
            z_getR w 10 12 a0 fun r33 =>
            z_ldI w .int r33 pI1 fun v34 =>
            some (.inl (some (.long v34.toInt64)), w))
          else if pI2 = (2 : Int32) then (
            z_getR w 10 13 a0 fun r35 =>
            z_ldI w .int r35 pI1 fun v36 =>
            some (.inl (some (.long v36.toInt64)), w))
          else if pI2 = (3 : Int32) then (
            z_this w 10 a0 <|
            z_cI (f_AckBookModel_probeTime F X a0 pI1 w) fun v38 w =>
            some (.inl (some (.long v38.toInt64)), w))
          else if pI2 = (4 : Int32) then (
            z_this w 10 a0 <|
            z_cI (f_AckBookModel_outs F X a0 pI1 (1 : Int32) w) fun v40 w =>
            some (.inl (some (.long v40.toInt64)), w))
          else if pI2 = (5 : Int32) then (
            z_this w 10 a0 <|
            z_cI (f_AckBookModel_outs F X a0 pI1 (0 : Int32) w) fun v42 w =>
            some (.inl (some (.long v42.toInt64)), w))
          else if pI2 = (6 : Int32) then (
            z_getR w 10 30 a0 fun r43 =>
            z_ldI w .int r43 pI1 fun v44 =>
            some (.inl (some (.long v44.toInt64)), w))
          else if pI2 = (7 : Int32) then (
            z_getR w 10 35 a0 fun r45 =>
            z_ldI w .int r45 pI1 fun v46 =>
            some (.inl (some (.long v46.toInt64)), w))
          else if pI2 = (8 : Int32) then (
            z_this w 10 a0 <|
            z_cI (f_AckBookModel_patience F X a0 pI1 w) fun v48 w =>
            some (.inl (some (.long v48.toInt64)), w))
          else if pI2 = (9 : Int32) then (
            z_getR w 10 11 a0 fun r49 =>
            z_ldI w .boolean r49 pI1 fun v50 =>
            if v50 = 0 then (
              some (.inl (some (.long (0 : Int64))), w))
            else (
              some (.inl (some (.long (1 : Int64))), w)))
          else (
            z_getR w 10 33 a0 fun r51 =>
            z_ldL w r51 pI1 fun v52 =>
            some (.inl (some (.long v52)), w)))
        else (
          some (.inl (some (.long (0 : Int64))), w)))
      else (
        z_this w 10 a0 <|
        z_cI (f_AckBookModel_fails F X a0 (1 : Int32) (2 : Int32) w) fun v54 w =>
        if v54 = 0 then (
          if pI2 = (0 : Int32) then (
            z_getR w 10 4 a0 fun r55 =>
            z_ldI w .int r55 pI1 fun v56 =>
            some (.inl (some (.long v56.toInt64)), w))
          else if pI2 = (1 : Int32) then (
            z_getR w 10 12 a0 fun r57 =>
            z_ldI w .int r57 pI1 fun v58 =>
            some (.inl (some (.long v58.toInt64)), w))
          else if pI2 = (2 : Int32) then (
            z_getR w 10 13 a0 fun r59 =>
            z_ldI w .int r59 pI1 fun v60 =>
            some (.inl (some (.long v60.toInt64)), w))
          else if pI2 = (3 : Int32) then (
            z_this w 10 a0 <|
            z_cI (f_AckBookModel_probeTime F X a0 pI1 w) fun v62 w =>
            some (.inl (some (.long v62.toInt64)), w))
          else if pI2 = (4 : Int32) then (
            z_this w 10 a0 <|
            z_cI (f_AckBookModel_outs F X a0 pI1 (1 : Int32) w) fun v64 w =>
            some (.inl (some (.long v64.toInt64)), w))
          else if pI2 = (5 : Int32) then (
            z_this w 10 a0 <|
            z_cI (f_AckBookModel_outs F X a0 pI1 (0 : Int32) w) fun v66 w =>
            some (.inl (some (.long v66.toInt64)), w))
          else if pI2 = (6 : Int32) then (
            z_getR w 10 30 a0 fun r67 =>
            z_ldI w .int r67 pI1 fun v68 =>
            some (.inl (some (.long v68.toInt64)), w))
          else if pI2 = (7 : Int32) then (
            z_getR w 10 35 a0 fun r69 =>
            z_ldI w .int r69 pI1 fun v70 =>
            some (.inl (some (.long v70.toInt64)), w))
          else if pI2 = (8 : Int32) then (
            z_this w 10 a0 <|
            z_cI (f_AckBookModel_patience F X a0 pI1 w) fun v72 w =>
            some (.inl (some (.long v72.toInt64)), w))
          else if pI2 = (9 : Int32) then (
            z_getR w 10 11 a0 fun r73 =>
            z_ldI w .boolean r73 pI1 fun v74 =>
            if v74 = 0 then (
              some (.inl (some (.long (0 : Int64))), w))
            else (
              some (.inl (some (.long (1 : Int64))), w)))
          else (
            z_getR w 10 33 a0 fun r75 =>
            z_ldL w r75 pI1 fun v76 =>
            some (.inl (some (.long v76)), w)))
        else (
          some (.inl (some (.long (0 : Int64))), w)))))
  else (
    some (.inl (some (.long (0 : Int64))), w))
set_option maxHeartbeats 4000000 in
set_option maxRecDepth 100000 in
theorem k_AckBookModel_space {b0 : Nat} {H0 : Heap} {D : va_G} {vu vs : Value} {X : Nat} {l : Launch} (hT : z_TB (zGG b0 H0 D vu vs X)) (hfl : l.flags = pinnedFlags ++ [noTraceFlag]) (hE : vu.isRef = true ∧ vs.isRef = true) {a0 : Option Nat} {pI1 : Int32} {pI2 : Int32} (F : Nat) {w : zW} (res : zO × zW) (h : f_AckBookModel_space F X a0 pI1 pI2 w = some res) : z_Ct (zGG b0 H0 D vu vs X) l y_AckBookModel_space (.code y_AckBookModel_space c_AckBookModel_space 3 (some FieldType.long)) 3 69 [va_rf a0, .int pI1, .int pI2] w res := by
  refine z_ct hT hfl (by decide) (by simp only [z_sl_i, z_sl_j, z_sl_r, z_sl_n]; decide) ?_
  intro p e R s m args below meth c hC hr hRc hRs hRt hnm hFr H ls hZ hl
  simp only [z_la_i, z_la_j, z_la_r, z_la_n] at hl
  have hl : lv_has ls 3 [(0, va_rf a0), (1, .int pI1), (2, .int pI2)] := hl
  unfold f_AckBookModel_space at h
  refine x_aload_n hC d_AckBookModel_space_0 rfl (lv_at hl 0 rfl) ?_
  refine lv_iload_n hC.1 hC.2.1 d_AckBookModel_space_1 rfl (lv_at hl 1 rfl) ?_
  obtain ⟨w1_, o1_, hF_, ha_⟩ := z_cI_spec h
  refine x_goes hC hRc hRs hFr ha_ (z_goS (As := [.int pI1]) hC hZ (k_AckBookModel_noSpace hT hfl hE _ _ hF_) t_944 t_945 t_12 t_946 ⟨by decide, by decide, (by decide +kernel : (parseMethodDescriptor y_AckBookModel_noSpace.desc).map (fun d => d.parameters.length) = some 1)⟩ (by rw [hRt.1]; decide) (by rw [hRt.2]; decide) hl.1 rfl (by first | exact Nat.le_of_ble_eq_true rfl | simp [z_rfc, z_ci, z_cj]) d_AckBookModel_space_2) (fun v_ hv H locs cells slots hZ => ?_)
  obtain ⟨v2, rfl, h⟩ := hv
  generalize w1_ = w at h hZ
  refine lv_iconst (v := (1 : Int32)) hC.1 hC.2.1 d_AckBookModel_space_5 (by decide) ?_
  obtain ⟨a_, fs_, eo_, h⟩ := z_this_spec h
  obtain ⟨w1_, o1_, hF_, ha_⟩ := z_cI_spec h
  refine x_goes hC hRc hRs hFr ha_ (z_goV (As := [.int v2, .int (1 : Int32)]) hC hZ zc10 eo_ (k_AckBookModel_fails hT hfl hE _ _ hF_) t_947 t_949 ts_AckBookModel_fails t_12 t_950 ⟨by decide, by decide, (by decide +kernel : (parseMethodDescriptor y_AckBookModel_fails.desc).map (fun d => d.parameters.length) = some 2)⟩ (by rw [hRt.1]; decide) (by rw [hRt.2]; decide) hl.1 rfl (by first | exact Nat.le_of_ble_eq_true rfl | simp [z_rfc, z_ci, z_cj]) d_AckBookModel_space_6) (fun v_ hv H locs cells slots hZ => ?_)
  obtain ⟨v4, rfl, h⟩ := hv
  generalize w1_ = w at h hZ
  refine lv_if_ne (tgt := 35) hC.1 hC.2.1 d_AckBookModel_space_9 (by decide) (fun hc => ?_) (fun hc => ?_)
  · have h := z_ifn hc h
    refine lv_lconst (v := (0 : Int64)) hC.1 hC.2.1 d_AckBookModel_space_35 (by decide) ?_
    exact x_lret hC hRc hRs hZ hr h d_AckBookModel_space_36
  · have h := z_ifp hc h
    refine x_aload_n hC d_AckBookModel_space_12 rfl (lv_at hl 0 rfl) ?_
    refine lv_iload_n hC.1 hC.2.1 d_AckBookModel_space_13 rfl (lv_at hl 2 rfl) ?_
    refine lv_if_lt (tgt := 23) hC.1 hC.2.1 d_AckBookModel_space_14 (by decide) (fun hc => ?_) (fun hc => ?_)
    · have h := z_ifp hc h
      refine lv_iconst (v := (1 : Int32)) hC.1 hC.2.1 d_AckBookModel_space_23 (by decide) ?_
      refine lv_goto (tgt := 28) hC.1 hC.2.1 d_AckBookModel_space_24 (by decide) ?_
      refine lv_iconst (v := (2 : Int32)) hC.1 hC.2.1 d_AckBookModel_space_28 (by decide) ?_
      obtain ⟨a_, fs_, eo_, h⟩ := z_this_spec h
      obtain ⟨w1_, o1_, hF_, ha_⟩ := z_cI_spec h
      refine x_goes hC hRc hRs hFr ha_ (z_goV (As := [.int (1 : Int32), .int (2 : Int32)]) hC hZ zc10 eo_ (k_AckBookModel_fails hT hfl hE _ _ hF_) t_947 t_949 ts_AckBookModel_fails t_12 t_950 ⟨by decide, by decide, (by decide +kernel : (parseMethodDescriptor y_AckBookModel_fails.desc).map (fun d => d.parameters.length) = some 2)⟩ (by rw [hRt.1]; decide) (by rw [hRt.2]; decide) hl.1 rfl (by first | exact Nat.le_of_ble_eq_true rfl | simp [z_rfc, z_ci, z_cj]) d_AckBookModel_space_29) (fun v_ hv H locs cells slots hZ => ?_)
      obtain ⟨v6, rfl, h⟩ := hv
      generalize w1_ = w at h hZ
      refine lv_if_eq (tgt := 37) hC.1 hC.2.1 d_AckBookModel_space_32 (by decide) (fun hc => ?_) (fun hc => ?_)
      · have h := z_ifp hc h
        refine lv_iload_n hC.1 hC.2.1 d_AckBookModel_space_37 rfl (lv_at hl 2 rfl) ?_
        by_cases hc0 : pI2 = (0 : Int32)
        · have h := z_ifp hc0 h
          refine lv_tableIn (tgt := 92) hC.1 hC.2.1 d_AckBookModel_space_38 (by rw [hc0]; decide) (by rw [hc0]; decide) (by rw [hc0]; rfl) (by decide) ?_
          refine x_aload_n hC d_AckBookModel_space_92 rfl (lv_at hl 0 rfl) ?_
          refine x_getR hC hZ zc10 h (by decide) t_823 (fun _ h9 => h9) d_AckBookModel_space_93 (fun r7 h => ?_)
          refine lv_iload_n hC.1 hC.2.1 d_AckBookModel_space_96 rfl (lv_at hl 1 rfl) ?_
          refine x_ldI hC hZ h d_AckBookModel_space_97 (fun v8 h => ?_)
          refine lv_i2l hC.1 hC.2.1 d_AckBookModel_space_98 rfl ?_
          exact x_lret hC hRc hRs hZ hr h d_AckBookModel_space_99
        have h := z_ifn hc0 h
        by_cases hc1 : pI2 = (1 : Int32)
        · have h := z_ifp hc1 h
          refine lv_tableIn (tgt := 100) hC.1 hC.2.1 d_AckBookModel_space_38 (by rw [hc1]; decide) (by rw [hc1]; decide) (by rw [hc1]; rfl) (by decide) ?_
          refine x_aload_n hC d_AckBookModel_space_100 rfl (lv_at hl 0 rfl) ?_
          refine x_getR hC hZ zc10 h (by decide) t_831 (fun _ h9 => h9) d_AckBookModel_space_101 (fun r9 h => ?_)
          refine lv_iload_n hC.1 hC.2.1 d_AckBookModel_space_104 rfl (lv_at hl 1 rfl) ?_
          refine x_ldI hC hZ h d_AckBookModel_space_105 (fun v10 h => ?_)
          refine lv_i2l hC.1 hC.2.1 d_AckBookModel_space_106 rfl ?_
          exact x_lret hC hRc hRs hZ hr h d_AckBookModel_space_107
        have h := z_ifn hc1 h
        by_cases hc2 : pI2 = (2 : Int32)
        · have h := z_ifp hc2 h
          refine lv_tableIn (tgt := 108) hC.1 hC.2.1 d_AckBookModel_space_38 (by rw [hc2]; decide) (by rw [hc2]; decide) (by rw [hc2]; rfl) (by decide) ?_
          refine x_aload_n hC d_AckBookModel_space_108 rfl (lv_at hl 0 rfl) ?_
          refine x_getR hC hZ zc10 h (by decide) t_832 (fun _ h9 => h9) d_AckBookModel_space_109 (fun r11 h => ?_)
          refine lv_iload_n hC.1 hC.2.1 d_AckBookModel_space_112 rfl (lv_at hl 1 rfl) ?_
          refine x_ldI hC hZ h d_AckBookModel_space_113 (fun v12 h => ?_)
          refine lv_i2l hC.1 hC.2.1 d_AckBookModel_space_114 rfl ?_
          exact x_lret hC hRc hRs hZ hr h d_AckBookModel_space_115
        have h := z_ifn hc2 h
        by_cases hc3 : pI2 = (3 : Int32)
        · have h := z_ifp hc3 h
          refine lv_tableIn (tgt := 116) hC.1 hC.2.1 d_AckBookModel_space_38 (by rw [hc3]; decide) (by rw [hc3]; decide) (by rw [hc3]; rfl) (by decide) ?_
          refine x_aload_n hC d_AckBookModel_space_116 rfl (lv_at hl 0 rfl) ?_
          refine lv_iload_n hC.1 hC.2.1 d_AckBookModel_space_117 rfl (lv_at hl 1 rfl) ?_
          obtain ⟨a_, fs_, eo_, h⟩ := z_this_spec h
          obtain ⟨w1_, o1_, hF_, ha_⟩ := z_cI_spec h
          refine x_goes hC hRc hRs hFr ha_ (z_goV (As := [.int pI1]) hC hZ zc10 eo_ (k_AckBookModel_probeTime hT hfl hE _ _ hF_) t_1012 t_1014 ts_AckBookModel_probeTime t_12 t_1015 ⟨by decide, by decide, (by decide +kernel : (parseMethodDescriptor y_AckBookModel_probeTime.desc).map (fun d => d.parameters.length) = some 1)⟩ (by rw [hRt.1]; decide) (by rw [hRt.2]; decide) hl.1 rfl (by first | exact Nat.le_of_ble_eq_true rfl | simp [z_rfc, z_ci, z_cj]) d_AckBookModel_space_118) (fun v_ hv H locs cells slots hZ => ?_)
          obtain ⟨v14, rfl, h⟩ := hv
          generalize w1_ = w at h hZ
          refine lv_i2l hC.1 hC.2.1 d_AckBookModel_space_121 rfl ?_
          exact x_lret hC hRc hRs hZ hr h d_AckBookModel_space_122
        have h := z_ifn hc3 h
        by_cases hc4 : pI2 = (4 : Int32)
        · have h := z_ifp hc4 h
          refine lv_tableIn (tgt := 123) hC.1 hC.2.1 d_AckBookModel_space_38 (by rw [hc4]; decide) (by rw [hc4]; decide) (by rw [hc4]; rfl) (by decide) ?_
          refine x_aload_n hC d_AckBookModel_space_123 rfl (lv_at hl 0 rfl) ?_
          refine lv_iload_n hC.1 hC.2.1 d_AckBookModel_space_124 rfl (lv_at hl 1 rfl) ?_
          refine lv_iconst (v := (1 : Int32)) hC.1 hC.2.1 d_AckBookModel_space_125 (by decide) ?_
          obtain ⟨a_, fs_, eo_, h⟩ := z_this_spec h
          obtain ⟨w1_, o1_, hF_, ha_⟩ := z_cI_spec h
          refine x_goes hC hRc hRs hFr ha_ (z_goV (As := [.int pI1, .int (1 : Int32)]) hC hZ zc10 eo_ (k_AckBookModel_outs hT hfl hE _ _ hF_) t_1016 t_1018 ts_AckBookModel_outs t_12 t_1019 ⟨by decide, by decide, (by decide +kernel : (parseMethodDescriptor y_AckBookModel_outs.desc).map (fun d => d.parameters.length) = some 2)⟩ (by rw [hRt.1]; decide) (by rw [hRt.2]; decide) hl.1 rfl (by first | exact Nat.le_of_ble_eq_true rfl | simp [z_rfc, z_ci, z_cj]) d_AckBookModel_space_126) (fun v_ hv H locs cells slots hZ => ?_)
          obtain ⟨v16, rfl, h⟩ := hv
          generalize w1_ = w at h hZ
          refine lv_i2l hC.1 hC.2.1 d_AckBookModel_space_129 rfl ?_
          exact x_lret hC hRc hRs hZ hr h d_AckBookModel_space_130
        have h := z_ifn hc4 h
        by_cases hc5 : pI2 = (5 : Int32)
        · have h := z_ifp hc5 h
          refine lv_tableIn (tgt := 131) hC.1 hC.2.1 d_AckBookModel_space_38 (by rw [hc5]; decide) (by rw [hc5]; decide) (by rw [hc5]; rfl) (by decide) ?_
          refine x_aload_n hC d_AckBookModel_space_131 rfl (lv_at hl 0 rfl) ?_
          refine lv_iload_n hC.1 hC.2.1 d_AckBookModel_space_132 rfl (lv_at hl 1 rfl) ?_
          refine lv_iconst (v := (0 : Int32)) hC.1 hC.2.1 d_AckBookModel_space_133 (by decide) ?_
          obtain ⟨a_, fs_, eo_, h⟩ := z_this_spec h
          obtain ⟨w1_, o1_, hF_, ha_⟩ := z_cI_spec h
          refine x_goes hC hRc hRs hFr ha_ (z_goV (As := [.int pI1, .int (0 : Int32)]) hC hZ zc10 eo_ (k_AckBookModel_outs hT hfl hE _ _ hF_) t_1016 t_1018 ts_AckBookModel_outs t_12 t_1019 ⟨by decide, by decide, (by decide +kernel : (parseMethodDescriptor y_AckBookModel_outs.desc).map (fun d => d.parameters.length) = some 2)⟩ (by rw [hRt.1]; decide) (by rw [hRt.2]; decide) hl.1 rfl (by first | exact Nat.le_of_ble_eq_true rfl | simp [z_rfc, z_ci, z_cj]) d_AckBookModel_space_134) (fun v_ hv H locs cells slots hZ => ?_)
          obtain ⟨v18, rfl, h⟩ := hv
          generalize w1_ = w at h hZ
          refine lv_i2l hC.1 hC.2.1 d_AckBookModel_space_137 rfl ?_
          exact x_lret hC hRc hRs hZ hr h d_AckBookModel_space_138
        have h := z_ifn hc5 h
        by_cases hc6 : pI2 = (6 : Int32)
        · have h := z_ifp hc6 h
          refine lv_tableIn (tgt := 139) hC.1 hC.2.1 d_AckBookModel_space_38 (by rw [hc6]; decide) (by rw [hc6]; decide) (by rw [hc6]; rfl) (by decide) ?_
          refine x_aload_n hC d_AckBookModel_space_139 rfl (lv_at hl 0 rfl) ?_
          refine x_getR hC hZ zc10 h (by decide) t_849 (fun _ h9 => h9) d_AckBookModel_space_140 (fun r19 h => ?_)
          refine lv_iload_n hC.1 hC.2.1 d_AckBookModel_space_143 rfl (lv_at hl 1 rfl) ?_
          refine x_ldI hC hZ h d_AckBookModel_space_144 (fun v20 h => ?_)
          refine lv_i2l hC.1 hC.2.1 d_AckBookModel_space_145 rfl ?_
          exact x_lret hC hRc hRs hZ hr h d_AckBookModel_space_146
        have h := z_ifn hc6 h
        by_cases hc7 : pI2 = (7 : Int32)
        · have h := z_ifp hc7 h
          refine lv_tableIn (tgt := 147) hC.1 hC.2.1 d_AckBookModel_space_38 (by rw [hc7]; decide) (by rw [hc7]; decide) (by rw [hc7]; rfl) (by decide) ?_
          refine x_aload_n hC d_AckBookModel_space_147 rfl (lv_at hl 0 rfl) ?_
          refine x_getR hC hZ zc10 h (by decide) t_854 (fun _ h9 => h9) d_AckBookModel_space_148 (fun r21 h => ?_)
          refine lv_iload_n hC.1 hC.2.1 d_AckBookModel_space_151 rfl (lv_at hl 1 rfl) ?_
          refine x_ldI hC hZ h d_AckBookModel_space_152 (fun v22 h => ?_)
          refine lv_i2l hC.1 hC.2.1 d_AckBookModel_space_153 rfl ?_
          exact x_lret hC hRc hRs hZ hr h d_AckBookModel_space_154
        have h := z_ifn hc7 h
        by_cases hc8 : pI2 = (8 : Int32)
        · have h := z_ifp hc8 h
          refine lv_tableIn (tgt := 155) hC.1 hC.2.1 d_AckBookModel_space_38 (by rw [hc8]; decide) (by rw [hc8]; decide) (by rw [hc8]; rfl) (by decide) ?_
          refine x_aload_n hC d_AckBookModel_space_155 rfl (lv_at hl 0 rfl) ?_
          refine lv_iload_n hC.1 hC.2.1 d_AckBookModel_space_156 rfl (lv_at hl 1 rfl) ?_
          obtain ⟨a_, fs_, eo_, h⟩ := z_this_spec h
          obtain ⟨w1_, o1_, hF_, ha_⟩ := z_cI_spec h
          refine x_goes hC hRc hRs hFr ha_ (z_goV (As := [.int pI1]) hC hZ zc10 eo_ (k_AckBookModel_patience hT hfl hE _ _ hF_) t_1020 t_1022 ts_AckBookModel_patience t_12 t_1023 ⟨by decide, by decide, (by decide +kernel : (parseMethodDescriptor y_AckBookModel_patience.desc).map (fun d => d.parameters.length) = some 1)⟩ (by rw [hRt.1]; decide) (by rw [hRt.2]; decide) hl.1 rfl (by first | exact Nat.le_of_ble_eq_true rfl | simp [z_rfc, z_ci, z_cj]) d_AckBookModel_space_157) (fun v_ hv H locs cells slots hZ => ?_)
          obtain ⟨v24, rfl, h⟩ := hv
          generalize w1_ = w at h hZ
          refine lv_i2l hC.1 hC.2.1 d_AckBookModel_space_160 rfl ?_
          exact x_lret hC hRc hRs hZ hr h d_AckBookModel_space_161
        have h := z_ifn hc8 h
        by_cases hc9 : pI2 = (9 : Int32)
        · have h := z_ifp hc9 h
          refine lv_tableIn (tgt := 162) hC.1 hC.2.1 d_AckBookModel_space_38 (by rw [hc9]; decide) (by rw [hc9]; decide) (by rw [hc9]; rfl) (by decide) ?_
          refine x_aload_n hC d_AckBookModel_space_162 rfl (lv_at hl 0 rfl) ?_
          refine x_getR hC hZ zc10 h (by decide) t_830 (fun _ h9 => h9) d_AckBookModel_space_163 (fun r25 h => ?_)
          refine lv_iload_n hC.1 hC.2.1 d_AckBookModel_space_166 rfl (lv_at hl 1 rfl) ?_
          refine x_ldZ hC hZ h d_AckBookModel_space_167 (fun v26 h => ?_)
          refine lv_if_eq (tgt := 175) hC.1 hC.2.1 d_AckBookModel_space_168 (by decide) (fun hc => ?_) (fun hc => ?_)
          · have h := z_ifp hc h
            refine lv_lconst (v := (0 : Int64)) hC.1 hC.2.1 d_AckBookModel_space_175 (by decide) ?_
            exact x_lret hC hRc hRs hZ hr h d_AckBookModel_space_176
          · have h := z_ifn hc h
            refine lv_lconst (v := (1 : Int64)) hC.1 hC.2.1 d_AckBookModel_space_171 (by decide) ?_
            refine lv_goto (tgt := 176) hC.1 hC.2.1 d_AckBookModel_space_172 (by decide) ?_
            exact x_lret hC hRc hRs hZ hr h d_AckBookModel_space_176
        have h := z_ifn hc9 h
        refine lv_tableOut (tgt := 177) hC.1 hC.2.1 d_AckBookModel_space_38 (z_tab 9 (fun k hk => match k, hk with | 0, _ => hc0 | 1, _ => hc1 | 2, _ => hc2 | 3, _ => hc3 | 4, _ => hc4 | 5, _ => hc5 | 6, _ => hc6 | 7, _ => hc7 | 8, _ => hc8 | 9, _ => hc9 | _ + 10, hk => absurd hk (by omega))) (by decide) ?_
        refine x_aload_n hC d_AckBookModel_space_177 rfl (lv_at hl 0 rfl) ?_
        refine x_getR hC hZ zc10 h (by decide) t_852 (fun _ h9 => h9) d_AckBookModel_space_178 (fun r27 h => ?_)
        refine lv_iload_n hC.1 hC.2.1 d_AckBookModel_space_181 rfl (lv_at hl 1 rfl) ?_
        refine x_ldL hC hZ h d_AckBookModel_space_182 (fun v28 h => ?_)
        exact x_lret hC hRc hRs hZ hr h d_AckBookModel_space_183
      · have h := z_ifn hc h
        refine lv_lconst (v := (0 : Int64)) hC.1 hC.2.1 d_AckBookModel_space_35 (by decide) ?_
        exact x_lret hC hRc hRs hZ hr h d_AckBookModel_space_36
    · have h := z_ifn hc h
      refine lv_iload_n hC.1 hC.2.1 d_AckBookModel_space_17 rfl (lv_at hl 2 rfl) ?_
      refine lv_bipush (v := (10 : Int32)) hC.1 hC.2.1 d_AckBookModel_space_18 (by decide) ?_
      refine lv_icmp_le (tgt := 27) hC.1 hC.2.1 d_AckBookModel_space_20 (by decide) (fun hc => ?_) (fun hc => ?_)
      · have h := z_ifp hc h
        refine lv_iconst (v := (0 : Int32)) hC.1 hC.2.1 d_AckBookModel_space_27 (by decide) ?_
        refine lv_iconst (v := (2 : Int32)) hC.1 hC.2.1 d_AckBookModel_space_28 (by decide) ?_
        obtain ⟨a_, fs_, eo_, h⟩ := z_this_spec h
        obtain ⟨w1_, o1_, hF_, ha_⟩ := z_cI_spec h
        refine x_goes hC hRc hRs hFr ha_ (z_goV (As := [.int (0 : Int32), .int (2 : Int32)]) hC hZ zc10 eo_ (k_AckBookModel_fails hT hfl hE _ _ hF_) t_947 t_949 ts_AckBookModel_fails t_12 t_950 ⟨by decide, by decide, (by decide +kernel : (parseMethodDescriptor y_AckBookModel_fails.desc).map (fun d => d.parameters.length) = some 2)⟩ (by rw [hRt.1]; decide) (by rw [hRt.2]; decide) hl.1 rfl (by first | exact Nat.le_of_ble_eq_true rfl | simp [z_rfc, z_ci, z_cj]) d_AckBookModel_space_29) (fun v_ hv H locs cells slots hZ => ?_)
        obtain ⟨v30, rfl, h⟩ := hv
        generalize w1_ = w at h hZ
        refine lv_if_eq (tgt := 37) hC.1 hC.2.1 d_AckBookModel_space_32 (by decide) (fun hc => ?_) (fun hc => ?_)
        · have h := z_ifp hc h
          refine lv_iload_n hC.1 hC.2.1 d_AckBookModel_space_37 rfl (lv_at hl 2 rfl) ?_
          by_cases hc0 : pI2 = (0 : Int32)
          · have h := z_ifp hc0 h
            refine lv_tableIn (tgt := 92) hC.1 hC.2.1 d_AckBookModel_space_38 (by rw [hc0]; decide) (by rw [hc0]; decide) (by rw [hc0]; rfl) (by decide) ?_
            refine x_aload_n hC d_AckBookModel_space_92 rfl (lv_at hl 0 rfl) ?_
            refine x_getR hC hZ zc10 h (by decide) t_823 (fun _ h9 => h9) d_AckBookModel_space_93 (fun r31 h => ?_)
            refine lv_iload_n hC.1 hC.2.1 d_AckBookModel_space_96 rfl (lv_at hl 1 rfl) ?_
            refine x_ldI hC hZ h d_AckBookModel_space_97 (fun v32 h => ?_)
            refine lv_i2l hC.1 hC.2.1 d_AckBookModel_space_98 rfl ?_
            exact x_lret hC hRc hRs hZ hr h d_AckBookModel_space_99
          have h := z_ifn hc0 h
          by_cases hc1 : pI2 = (1 : Int32)
          · have h := z_ifp hc1 h
            refine lv_tableIn (tgt := 100) hC.1 hC.2.1 d_AckBookModel_space_38 (by rw [hc1]; decide) (by rw [hc1]; decide) (by rw [hc1]; rfl) (by decide) ?_
            refine x_aload_n hC d_AckBookModel_space_100 rfl (lv_at hl 0 rfl) ?_
            refine x_getR hC hZ zc10 h (by decide) t_831 (fun _ h9 => h9) d_AckBookModel_space_101 (fun r33 h => ?_)
            refine lv_iload_n hC.1 hC.2.1 d_AckBookModel_space_104 rfl (lv_at hl 1 rfl) ?_
            refine x_ldI hC hZ h d_AckBookModel_space_105 (fun v34 h => ?_)
            refine lv_i2l hC.1 hC.2.1 d_AckBookModel_space_106 rfl ?_
            exact x_lret hC hRc hRs hZ hr h d_AckBookModel_space_107
          have h := z_ifn hc1 h
          by_cases hc2 : pI2 = (2 : Int32)
          · have h := z_ifp hc2 h
            refine lv_tableIn (tgt := 108) hC.1 hC.2.1 d_AckBookModel_space_38 (by rw [hc2]; decide) (by rw [hc2]; decide) (by rw [hc2]; rfl) (by decide) ?_
            refine x_aload_n hC d_AckBookModel_space_108 rfl (lv_at hl 0 rfl) ?_
            refine x_getR hC hZ zc10 h (by decide) t_832 (fun _ h9 => h9) d_AckBookModel_space_109 (fun r35 h => ?_)
            refine lv_iload_n hC.1 hC.2.1 d_AckBookModel_space_112 rfl (lv_at hl 1 rfl) ?_
            refine x_ldI hC hZ h d_AckBookModel_space_113 (fun v36 h => ?_)
            refine lv_i2l hC.1 hC.2.1 d_AckBookModel_space_114 rfl ?_
            exact x_lret hC hRc hRs hZ hr h d_AckBookModel_space_115
          have h := z_ifn hc2 h
          by_cases hc3 : pI2 = (3 : Int32)
          · have h := z_ifp hc3 h
            refine lv_tableIn (tgt := 116) hC.1 hC.2.1 d_AckBookModel_space_38 (by rw [hc3]; decide) (by rw [hc3]; decide) (by rw [hc3]; rfl) (by decide) ?_
            refine x_aload_n hC d_AckBookModel_space_116 rfl (lv_at hl 0 rfl) ?_
            refine lv_iload_n hC.1 hC.2.1 d_AckBookModel_space_117 rfl (lv_at hl 1 rfl) ?_
            obtain ⟨a_, fs_, eo_, h⟩ := z_this_spec h
            obtain ⟨w1_, o1_, hF_, ha_⟩ := z_cI_spec h
            refine x_goes hC hRc hRs hFr ha_ (z_goV (As := [.int pI1]) hC hZ zc10 eo_ (k_AckBookModel_probeTime hT hfl hE _ _ hF_) t_1012 t_1014 ts_AckBookModel_probeTime t_12 t_1015 ⟨by decide, by decide, (by decide +kernel : (parseMethodDescriptor y_AckBookModel_probeTime.desc).map (fun d => d.parameters.length) = some 1)⟩ (by rw [hRt.1]; decide) (by rw [hRt.2]; decide) hl.1 rfl (by first | exact Nat.le_of_ble_eq_true rfl | simp [z_rfc, z_ci, z_cj]) d_AckBookModel_space_118) (fun v_ hv H locs cells slots hZ => ?_)
            obtain ⟨v38, rfl, h⟩ := hv
            generalize w1_ = w at h hZ
            refine lv_i2l hC.1 hC.2.1 d_AckBookModel_space_121 rfl ?_
            exact x_lret hC hRc hRs hZ hr h d_AckBookModel_space_122
          have h := z_ifn hc3 h
          by_cases hc4 : pI2 = (4 : Int32)
          · have h := z_ifp hc4 h
            refine lv_tableIn (tgt := 123) hC.1 hC.2.1 d_AckBookModel_space_38 (by rw [hc4]; decide) (by rw [hc4]; decide) (by rw [hc4]; rfl) (by decide) ?_
            refine x_aload_n hC d_AckBookModel_space_123 rfl (lv_at hl 0 rfl) ?_
            refine lv_iload_n hC.1 hC.2.1 d_AckBookModel_space_124 rfl (lv_at hl 1 rfl) ?_
            refine lv_iconst (v := (1 : Int32)) hC.1 hC.2.1 d_AckBookModel_space_125 (by decide) ?_
            obtain ⟨a_, fs_, eo_, h⟩ := z_this_spec h
            obtain ⟨w1_, o1_, hF_, ha_⟩ := z_cI_spec h
            refine x_goes hC hRc hRs hFr ha_ (z_goV (As := [.int pI1, .int (1 : Int32)]) hC hZ zc10 eo_ (k_AckBookModel_outs hT hfl hE _ _ hF_) t_1016 t_1018 ts_AckBookModel_outs t_12 t_1019 ⟨by decide, by decide, (by decide +kernel : (parseMethodDescriptor y_AckBookModel_outs.desc).map (fun d => d.parameters.length) = some 2)⟩ (by rw [hRt.1]; decide) (by rw [hRt.2]; decide) hl.1 rfl (by first | exact Nat.le_of_ble_eq_true rfl | simp [z_rfc, z_ci, z_cj]) d_AckBookModel_space_126) (fun v_ hv H locs cells slots hZ => ?_)
            obtain ⟨v40, rfl, h⟩ := hv
            generalize w1_ = w at h hZ
            refine lv_i2l hC.1 hC.2.1 d_AckBookModel_space_129 rfl ?_
            exact x_lret hC hRc hRs hZ hr h d_AckBookModel_space_130
          have h := z_ifn hc4 h
          by_cases hc5 : pI2 = (5 : Int32)
          · have h := z_ifp hc5 h
            refine lv_tableIn (tgt := 131) hC.1 hC.2.1 d_AckBookModel_space_38 (by rw [hc5]; decide) (by rw [hc5]; decide) (by rw [hc5]; rfl) (by decide) ?_
            refine x_aload_n hC d_AckBookModel_space_131 rfl (lv_at hl 0 rfl) ?_
            refine lv_iload_n hC.1 hC.2.1 d_AckBookModel_space_132 rfl (lv_at hl 1 rfl) ?_
            refine lv_iconst (v := (0 : Int32)) hC.1 hC.2.1 d_AckBookModel_space_133 (by decide) ?_
            obtain ⟨a_, fs_, eo_, h⟩ := z_this_spec h
            obtain ⟨w1_, o1_, hF_, ha_⟩ := z_cI_spec h
            refine x_goes hC hRc hRs hFr ha_ (z_goV (As := [.int pI1, .int (0 : Int32)]) hC hZ zc10 eo_ (k_AckBookModel_outs hT hfl hE _ _ hF_) t_1016 t_1018 ts_AckBookModel_outs t_12 t_1019 ⟨by decide, by decide, (by decide +kernel : (parseMethodDescriptor y_AckBookModel_outs.desc).map (fun d => d.parameters.length) = some 2)⟩ (by rw [hRt.1]; decide) (by rw [hRt.2]; decide) hl.1 rfl (by first | exact Nat.le_of_ble_eq_true rfl | simp [z_rfc, z_ci, z_cj]) d_AckBookModel_space_134) (fun v_ hv H locs cells slots hZ => ?_)
            obtain ⟨v42, rfl, h⟩ := hv
            generalize w1_ = w at h hZ
            refine lv_i2l hC.1 hC.2.1 d_AckBookModel_space_137 rfl ?_
            exact x_lret hC hRc hRs hZ hr h d_AckBookModel_space_138
          have h := z_ifn hc5 h
          by_cases hc6 : pI2 = (6 : Int32)
          · have h := z_ifp hc6 h
            refine lv_tableIn (tgt := 139) hC.1 hC.2.1 d_AckBookModel_space_38 (by rw [hc6]; decide) (by rw [hc6]; decide) (by rw [hc6]; rfl) (by decide) ?_
            refine x_aload_n hC d_AckBookModel_space_139 rfl (lv_at hl 0 rfl) ?_
            refine x_getR hC hZ zc10 h (by decide) t_849 (fun _ h9 => h9) d_AckBookModel_space_140 (fun r43 h => ?_)
            refine lv_iload_n hC.1 hC.2.1 d_AckBookModel_space_143 rfl (lv_at hl 1 rfl) ?_
            refine x_ldI hC hZ h d_AckBookModel_space_144 (fun v44 h => ?_)
            refine lv_i2l hC.1 hC.2.1 d_AckBookModel_space_145 rfl ?_
            exact x_lret hC hRc hRs hZ hr h d_AckBookModel_space_146
          have h := z_ifn hc6 h
          by_cases hc7 : pI2 = (7 : Int32)
          · have h := z_ifp hc7 h
            refine lv_tableIn (tgt := 147) hC.1 hC.2.1 d_AckBookModel_space_38 (by rw [hc7]; decide) (by rw [hc7]; decide) (by rw [hc7]; rfl) (by decide) ?_
            refine x_aload_n hC d_AckBookModel_space_147 rfl (lv_at hl 0 rfl) ?_
            refine x_getR hC hZ zc10 h (by decide) t_854 (fun _ h9 => h9) d_AckBookModel_space_148 (fun r45 h => ?_)
            refine lv_iload_n hC.1 hC.2.1 d_AckBookModel_space_151 rfl (lv_at hl 1 rfl) ?_
            refine x_ldI hC hZ h d_AckBookModel_space_152 (fun v46 h => ?_)
            refine lv_i2l hC.1 hC.2.1 d_AckBookModel_space_153 rfl ?_
            exact x_lret hC hRc hRs hZ hr h d_AckBookModel_space_154
          have h := z_ifn hc7 h
          by_cases hc8 : pI2 = (8 : Int32)
          · have h := z_ifp hc8 h
            refine lv_tableIn (tgt := 155) hC.1 hC.2.1 d_AckBookModel_space_38 (by rw [hc8]; decide) (by rw [hc8]; decide) (by rw [hc8]; rfl) (by decide) ?_
            refine x_aload_n hC d_AckBookModel_space_155 rfl (lv_at hl 0 rfl) ?_
            refine lv_iload_n hC.1 hC.2.1 d_AckBookModel_space_156 rfl (lv_at hl 1 rfl) ?_
            obtain ⟨a_, fs_, eo_, h⟩ := z_this_spec h
            obtain ⟨w1_, o1_, hF_, ha_⟩ := z_cI_spec h
            refine x_goes hC hRc hRs hFr ha_ (z_goV (As := [.int pI1]) hC hZ zc10 eo_ (k_AckBookModel_patience hT hfl hE _ _ hF_) t_1020 t_1022 ts_AckBookModel_patience t_12 t_1023 ⟨by decide, by decide, (by decide +kernel : (parseMethodDescriptor y_AckBookModel_patience.desc).map (fun d => d.parameters.length) = some 1)⟩ (by rw [hRt.1]; decide) (by rw [hRt.2]; decide) hl.1 rfl (by first | exact Nat.le_of_ble_eq_true rfl | simp [z_rfc, z_ci, z_cj]) d_AckBookModel_space_157) (fun v_ hv H locs cells slots hZ => ?_)
            obtain ⟨v48, rfl, h⟩ := hv
            generalize w1_ = w at h hZ
            refine lv_i2l hC.1 hC.2.1 d_AckBookModel_space_160 rfl ?_
            exact x_lret hC hRc hRs hZ hr h d_AckBookModel_space_161
          have h := z_ifn hc8 h
          by_cases hc9 : pI2 = (9 : Int32)
          · have h := z_ifp hc9 h
            refine lv_tableIn (tgt := 162) hC.1 hC.2.1 d_AckBookModel_space_38 (by rw [hc9]; decide) (by rw [hc9]; decide) (by rw [hc9]; rfl) (by decide) ?_
            refine x_aload_n hC d_AckBookModel_space_162 rfl (lv_at hl 0 rfl) ?_
            refine x_getR hC hZ zc10 h (by decide) t_830 (fun _ h9 => h9) d_AckBookModel_space_163 (fun r49 h => ?_)
            refine lv_iload_n hC.1 hC.2.1 d_AckBookModel_space_166 rfl (lv_at hl 1 rfl) ?_
            refine x_ldZ hC hZ h d_AckBookModel_space_167 (fun v50 h => ?_)
            refine lv_if_eq (tgt := 175) hC.1 hC.2.1 d_AckBookModel_space_168 (by decide) (fun hc => ?_) (fun hc => ?_)
            · have h := z_ifp hc h
              refine lv_lconst (v := (0 : Int64)) hC.1 hC.2.1 d_AckBookModel_space_175 (by decide) ?_
              exact x_lret hC hRc hRs hZ hr h d_AckBookModel_space_176
            · have h := z_ifn hc h
              refine lv_lconst (v := (1 : Int64)) hC.1 hC.2.1 d_AckBookModel_space_171 (by decide) ?_
              refine lv_goto (tgt := 176) hC.1 hC.2.1 d_AckBookModel_space_172 (by decide) ?_
              exact x_lret hC hRc hRs hZ hr h d_AckBookModel_space_176
          have h := z_ifn hc9 h
          refine lv_tableOut (tgt := 177) hC.1 hC.2.1 d_AckBookModel_space_38 (z_tab 9 (fun k hk => match k, hk with | 0, _ => hc0 | 1, _ => hc1 | 2, _ => hc2 | 3, _ => hc3 | 4, _ => hc4 | 5, _ => hc5 | 6, _ => hc6 | 7, _ => hc7 | 8, _ => hc8 | 9, _ => hc9 | _ + 10, hk => absurd hk (by omega))) (by decide) ?_
          refine x_aload_n hC d_AckBookModel_space_177 rfl (lv_at hl 0 rfl) ?_
          refine x_getR hC hZ zc10 h (by decide) t_852 (fun _ h9 => h9) d_AckBookModel_space_178 (fun r51 h => ?_)
          refine lv_iload_n hC.1 hC.2.1 d_AckBookModel_space_181 rfl (lv_at hl 1 rfl) ?_
          refine x_ldL hC hZ h d_AckBookModel_space_182 (fun v52 h => ?_)
          exact x_lret hC hRc hRs hZ hr h d_AckBookModel_space_183
        · have h := z_ifn hc h
          refine lv_lconst (v := (0 : Int64)) hC.1 hC.2.1 d_AckBookModel_space_35 (by decide) ?_
          exact x_lret hC hRc hRs hZ hr h d_AckBookModel_space_36
      · have h := z_ifn hc h
        refine lv_iconst (v := (1 : Int32)) hC.1 hC.2.1 d_AckBookModel_space_23 (by decide) ?_
        refine lv_goto (tgt := 28) hC.1 hC.2.1 d_AckBookModel_space_24 (by decide) ?_
        refine lv_iconst (v := (2 : Int32)) hC.1 hC.2.1 d_AckBookModel_space_28 (by decide) ?_
        obtain ⟨a_, fs_, eo_, h⟩ := z_this_spec h
        obtain ⟨w1_, o1_, hF_, ha_⟩ := z_cI_spec h
        refine x_goes hC hRc hRs hFr ha_ (z_goV (As := [.int (1 : Int32), .int (2 : Int32)]) hC hZ zc10 eo_ (k_AckBookModel_fails hT hfl hE _ _ hF_) t_947 t_949 ts_AckBookModel_fails t_12 t_950 ⟨by decide, by decide, (by decide +kernel : (parseMethodDescriptor y_AckBookModel_fails.desc).map (fun d => d.parameters.length) = some 2)⟩ (by rw [hRt.1]; decide) (by rw [hRt.2]; decide) hl.1 rfl (by first | exact Nat.le_of_ble_eq_true rfl | simp [z_rfc, z_ci, z_cj]) d_AckBookModel_space_29) (fun v_ hv H locs cells slots hZ => ?_)
        obtain ⟨v54, rfl, h⟩ := hv
        generalize w1_ = w at h hZ
        refine lv_if_eq (tgt := 37) hC.1 hC.2.1 d_AckBookModel_space_32 (by decide) (fun hc => ?_) (fun hc => ?_)
        · have h := z_ifp hc h
          refine lv_iload_n hC.1 hC.2.1 d_AckBookModel_space_37 rfl (lv_at hl 2 rfl) ?_
          by_cases hc0 : pI2 = (0 : Int32)
          · have h := z_ifp hc0 h
            refine lv_tableIn (tgt := 92) hC.1 hC.2.1 d_AckBookModel_space_38 (by rw [hc0]; decide) (by rw [hc0]; decide) (by rw [hc0]; rfl) (by decide) ?_
            refine x_aload_n hC d_AckBookModel_space_92 rfl (lv_at hl 0 rfl) ?_
            refine x_getR hC hZ zc10 h (by decide) t_823 (fun _ h9 => h9) d_AckBookModel_space_93 (fun r55 h => ?_)
            refine lv_iload_n hC.1 hC.2.1 d_AckBookModel_space_96 rfl (lv_at hl 1 rfl) ?_
            refine x_ldI hC hZ h d_AckBookModel_space_97 (fun v56 h => ?_)
            refine lv_i2l hC.1 hC.2.1 d_AckBookModel_space_98 rfl ?_
            exact x_lret hC hRc hRs hZ hr h d_AckBookModel_space_99
          have h := z_ifn hc0 h
          by_cases hc1 : pI2 = (1 : Int32)
          · have h := z_ifp hc1 h
            refine lv_tableIn (tgt := 100) hC.1 hC.2.1 d_AckBookModel_space_38 (by rw [hc1]; decide) (by rw [hc1]; decide) (by rw [hc1]; rfl) (by decide) ?_
            refine x_aload_n hC d_AckBookModel_space_100 rfl (lv_at hl 0 rfl) ?_
            refine x_getR hC hZ zc10 h (by decide) t_831 (fun _ h9 => h9) d_AckBookModel_space_101 (fun r57 h => ?_)
            refine lv_iload_n hC.1 hC.2.1 d_AckBookModel_space_104 rfl (lv_at hl 1 rfl) ?_
            refine x_ldI hC hZ h d_AckBookModel_space_105 (fun v58 h => ?_)
            refine lv_i2l hC.1 hC.2.1 d_AckBookModel_space_106 rfl ?_
            exact x_lret hC hRc hRs hZ hr h d_AckBookModel_space_107
          have h := z_ifn hc1 h
          by_cases hc2 : pI2 = (2 : Int32)
          · have h := z_ifp hc2 h
            refine lv_tableIn (tgt := 108) hC.1 hC.2.1 d_AckBookModel_space_38 (by rw [hc2]; decide) (by rw [hc2]; decide) (by rw [hc2]; rfl) (by decide) ?_
            refine x_aload_n hC d_AckBookModel_space_108 rfl (lv_at hl 0 rfl) ?_
            refine x_getR hC hZ zc10 h (by decide) t_832 (fun _ h9 => h9) d_AckBookModel_space_109 (fun r59 h => ?_)
            refine lv_iload_n hC.1 hC.2.1 d_AckBookModel_space_112 rfl (lv_at hl 1 rfl) ?_
            refine x_ldI hC hZ h d_AckBookModel_space_113 (fun v60 h => ?_)
            refine lv_i2l hC.1 hC.2.1 d_AckBookModel_space_114 rfl ?_
            exact x_lret hC hRc hRs hZ hr h d_AckBookModel_space_115
          have h := z_ifn hc2 h
          by_cases hc3 : pI2 = (3 : Int32)
          · have h := z_ifp hc3 h
            refine lv_tableIn (tgt := 116) hC.1 hC.2.1 d_AckBookModel_space_38 (by rw [hc3]; decide) (by rw [hc3]; decide) (by rw [hc3]; rfl) (by decide) ?_
            refine x_aload_n hC d_AckBookModel_space_116 rfl (lv_at hl 0 rfl) ?_
            refine lv_iload_n hC.1 hC.2.1 d_AckBookModel_space_117 rfl (lv_at hl 1 rfl) ?_
            obtain ⟨a_, fs_, eo_, h⟩ := z_this_spec h
            obtain ⟨w1_, o1_, hF_, ha_⟩ := z_cI_spec h
            refine x_goes hC hRc hRs hFr ha_ (z_goV (As := [.int pI1]) hC hZ zc10 eo_ (k_AckBookModel_probeTime hT hfl hE _ _ hF_) t_1012 t_1014 ts_AckBookModel_probeTime t_12 t_1015 ⟨by decide, by decide, (by decide +kernel : (parseMethodDescriptor y_AckBookModel_probeTime.desc).map (fun d => d.parameters.length) = some 1)⟩ (by rw [hRt.1]; decide) (by rw [hRt.2]; decide) hl.1 rfl (by first | exact Nat.le_of_ble_eq_true rfl | simp [z_rfc, z_ci, z_cj]) d_AckBookModel_space_118) (fun v_ hv H locs cells slots hZ => ?_)
            obtain ⟨v62, rfl, h⟩ := hv
            generalize w1_ = w at h hZ
            refine lv_i2l hC.1 hC.2.1 d_AckBookModel_space_121 rfl ?_
            exact x_lret hC hRc hRs hZ hr h d_AckBookModel_space_122
          have h := z_ifn hc3 h
          by_cases hc4 : pI2 = (4 : Int32)
          · have h := z_ifp hc4 h
            refine lv_tableIn (tgt := 123) hC.1 hC.2.1 d_AckBookModel_space_38 (by rw [hc4]; decide) (by rw [hc4]; decide) (by rw [hc4]; rfl) (by decide) ?_
            refine x_aload_n hC d_AckBookModel_space_123 rfl (lv_at hl 0 rfl) ?_
            refine lv_iload_n hC.1 hC.2.1 d_AckBookModel_space_124 rfl (lv_at hl 1 rfl) ?_
            refine lv_iconst (v := (1 : Int32)) hC.1 hC.2.1 d_AckBookModel_space_125 (by decide) ?_
            obtain ⟨a_, fs_, eo_, h⟩ := z_this_spec h
            obtain ⟨w1_, o1_, hF_, ha_⟩ := z_cI_spec h
            refine x_goes hC hRc hRs hFr ha_ (z_goV (As := [.int pI1, .int (1 : Int32)]) hC hZ zc10 eo_ (k_AckBookModel_outs hT hfl hE _ _ hF_) t_1016 t_1018 ts_AckBookModel_outs t_12 t_1019 ⟨by decide, by decide, (by decide +kernel : (parseMethodDescriptor y_AckBookModel_outs.desc).map (fun d => d.parameters.length) = some 2)⟩ (by rw [hRt.1]; decide) (by rw [hRt.2]; decide) hl.1 rfl (by first | exact Nat.le_of_ble_eq_true rfl | simp [z_rfc, z_ci, z_cj]) d_AckBookModel_space_126) (fun v_ hv H locs cells slots hZ => ?_)
            obtain ⟨v64, rfl, h⟩ := hv
            generalize w1_ = w at h hZ
            refine lv_i2l hC.1 hC.2.1 d_AckBookModel_space_129 rfl ?_
            exact x_lret hC hRc hRs hZ hr h d_AckBookModel_space_130
          have h := z_ifn hc4 h
          by_cases hc5 : pI2 = (5 : Int32)
          · have h := z_ifp hc5 h
            refine lv_tableIn (tgt := 131) hC.1 hC.2.1 d_AckBookModel_space_38 (by rw [hc5]; decide) (by rw [hc5]; decide) (by rw [hc5]; rfl) (by decide) ?_
            refine x_aload_n hC d_AckBookModel_space_131 rfl (lv_at hl 0 rfl) ?_
            refine lv_iload_n hC.1 hC.2.1 d_AckBookModel_space_132 rfl (lv_at hl 1 rfl) ?_
            refine lv_iconst (v := (0 : Int32)) hC.1 hC.2.1 d_AckBookModel_space_133 (by decide) ?_
            obtain ⟨a_, fs_, eo_, h⟩ := z_this_spec h
            obtain ⟨w1_, o1_, hF_, ha_⟩ := z_cI_spec h
            refine x_goes hC hRc hRs hFr ha_ (z_goV (As := [.int pI1, .int (0 : Int32)]) hC hZ zc10 eo_ (k_AckBookModel_outs hT hfl hE _ _ hF_) t_1016 t_1018 ts_AckBookModel_outs t_12 t_1019 ⟨by decide, by decide, (by decide +kernel : (parseMethodDescriptor y_AckBookModel_outs.desc).map (fun d => d.parameters.length) = some 2)⟩ (by rw [hRt.1]; decide) (by rw [hRt.2]; decide) hl.1 rfl (by first | exact Nat.le_of_ble_eq_true rfl | simp [z_rfc, z_ci, z_cj]) d_AckBookModel_space_134) (fun v_ hv H locs cells slots hZ => ?_)
            obtain ⟨v66, rfl, h⟩ := hv
            generalize w1_ = w at h hZ
            refine lv_i2l hC.1 hC.2.1 d_AckBookModel_space_137 rfl ?_
            exact x_lret hC hRc hRs hZ hr h d_AckBookModel_space_138
          have h := z_ifn hc5 h
          by_cases hc6 : pI2 = (6 : Int32)
          · have h := z_ifp hc6 h
            refine lv_tableIn (tgt := 139) hC.1 hC.2.1 d_AckBookModel_space_38 (by rw [hc6]; decide) (by rw [hc6]; decide) (by rw [hc6]; rfl) (by decide) ?_
            refine x_aload_n hC d_AckBookModel_space_139 rfl (lv_at hl 0 rfl) ?_
            refine x_getR hC hZ zc10 h (by decide) t_849 (fun _ h9 => h9) d_AckBookModel_space_140 (fun r67 h => ?_)
            refine lv_iload_n hC.1 hC.2.1 d_AckBookModel_space_143 rfl (lv_at hl 1 rfl) ?_
            refine x_ldI hC hZ h d_AckBookModel_space_144 (fun v68 h => ?_)
            refine lv_i2l hC.1 hC.2.1 d_AckBookModel_space_145 rfl ?_
            exact x_lret hC hRc hRs hZ hr h d_AckBookModel_space_146
          have h := z_ifn hc6 h
          by_cases hc7 : pI2 = (7 : Int32)
          · have h := z_ifp hc7 h
            refine lv_tableIn (tgt := 147) hC.1 hC.2.1 d_AckBookModel_space_38 (by rw [hc7]; decide) (by rw [hc7]; decide) (by rw [hc7]; rfl) (by decide) ?_
            refine x_aload_n hC d_AckBookModel_space_147 rfl (lv_at hl 0 rfl) ?_
            refine x_getR hC hZ zc10 h (by decide) t_854 (fun _ h9 => h9) d_AckBookModel_space_148 (fun r69 h => ?_)
            refine lv_iload_n hC.1 hC.2.1 d_AckBookModel_space_151 rfl (lv_at hl 1 rfl) ?_
            refine x_ldI hC hZ h d_AckBookModel_space_152 (fun v70 h => ?_)
            refine lv_i2l hC.1 hC.2.1 d_AckBookModel_space_153 rfl ?_
            exact x_lret hC hRc hRs hZ hr h d_AckBookModel_space_154
          have h := z_ifn hc7 h
          by_cases hc8 : pI2 = (8 : Int32)
          · have h := z_ifp hc8 h
            refine lv_tableIn (tgt := 155) hC.1 hC.2.1 d_AckBookModel_space_38 (by rw [hc8]; decide) (by rw [hc8]; decide) (by rw [hc8]; rfl) (by decide) ?_
            refine x_aload_n hC d_AckBookModel_space_155 rfl (lv_at hl 0 rfl) ?_
            refine lv_iload_n hC.1 hC.2.1 d_AckBookModel_space_156 rfl (lv_at hl 1 rfl) ?_
            obtain ⟨a_, fs_, eo_, h⟩ := z_this_spec h
            obtain ⟨w1_, o1_, hF_, ha_⟩ := z_cI_spec h
            refine x_goes hC hRc hRs hFr ha_ (z_goV (As := [.int pI1]) hC hZ zc10 eo_ (k_AckBookModel_patience hT hfl hE _ _ hF_) t_1020 t_1022 ts_AckBookModel_patience t_12 t_1023 ⟨by decide, by decide, (by decide +kernel : (parseMethodDescriptor y_AckBookModel_patience.desc).map (fun d => d.parameters.length) = some 1)⟩ (by rw [hRt.1]; decide) (by rw [hRt.2]; decide) hl.1 rfl (by first | exact Nat.le_of_ble_eq_true rfl | simp [z_rfc, z_ci, z_cj]) d_AckBookModel_space_157) (fun v_ hv H locs cells slots hZ => ?_)
            obtain ⟨v72, rfl, h⟩ := hv
            generalize w1_ = w at h hZ
            refine lv_i2l hC.1 hC.2.1 d_AckBookModel_space_160 rfl ?_
            exact x_lret hC hRc hRs hZ hr h d_AckBookModel_space_161
          have h := z_ifn hc8 h
          by_cases hc9 : pI2 = (9 : Int32)
          · have h := z_ifp hc9 h
            refine lv_tableIn (tgt := 162) hC.1 hC.2.1 d_AckBookModel_space_38 (by rw [hc9]; decide) (by rw [hc9]; decide) (by rw [hc9]; rfl) (by decide) ?_
            refine x_aload_n hC d_AckBookModel_space_162 rfl (lv_at hl 0 rfl) ?_
            refine x_getR hC hZ zc10 h (by decide) t_830 (fun _ h9 => h9) d_AckBookModel_space_163 (fun r73 h => ?_)
            refine lv_iload_n hC.1 hC.2.1 d_AckBookModel_space_166 rfl (lv_at hl 1 rfl) ?_
            refine x_ldZ hC hZ h d_AckBookModel_space_167 (fun v74 h => ?_)
            refine lv_if_eq (tgt := 175) hC.1 hC.2.1 d_AckBookModel_space_168 (by decide) (fun hc => ?_) (fun hc => ?_)
            · have h := z_ifp hc h
              refine lv_lconst (v := (0 : Int64)) hC.1 hC.2.1 d_AckBookModel_space_175 (by decide) ?_
              exact x_lret hC hRc hRs hZ hr h d_AckBookModel_space_176
            · have h := z_ifn hc h
              refine lv_lconst (v := (1 : Int64)) hC.1 hC.2.1 d_AckBookModel_space_171 (by decide) ?_
              refine lv_goto (tgt := 176) hC.1 hC.2.1 d_AckBookModel_space_172 (by decide) ?_
              exact x_lret hC hRc hRs hZ hr h d_AckBookModel_space_176
          have h := z_ifn hc9 h
          refine lv_tableOut (tgt := 177) hC.1 hC.2.1 d_AckBookModel_space_38 (z_tab 9 (fun k hk => match k, hk with | 0, _ => hc0 | 1, _ => hc1 | 2, _ => hc2 | 3, _ => hc3 | 4, _ => hc4 | 5, _ => hc5 | 6, _ => hc6 | 7, _ => hc7 | 8, _ => hc8 | 9, _ => hc9 | _ + 10, hk => absurd hk (by omega))) (by decide) ?_
          refine x_aload_n hC d_AckBookModel_space_177 rfl (lv_at hl 0 rfl) ?_
          refine x_getR hC hZ zc10 h (by decide) t_852 (fun _ h9 => h9) d_AckBookModel_space_178 (fun r75 h => ?_)
          refine lv_iload_n hC.1 hC.2.1 d_AckBookModel_space_181 rfl (lv_at hl 1 rfl) ?_
          refine x_ldL hC hZ h d_AckBookModel_space_182 (fun v76 h => ?_)
          exact x_lret hC hRc hRs hZ hr h d_AckBookModel_space_183
        · have h := z_ifn hc h
          refine lv_lconst (v := (0 : Int64)) hC.1 hC.2.1 d_AckBookModel_space_35 (by decide) ?_
          exact x_lret hC hRc hRs hZ hr h d_AckBookModel_space_36
