def f_AckBookLaw_look (F X : Nat) (pR1 : Option Nat) (pI2 : Int32) (pR3 : Option Nat) (w : zW) : zR :=
  z_this w 0 pR1 <|
  z_tI (f_AckBook_look F X pR1 pI2 w) (fun v2 w =>
    z_stL w pR3 (0 : Int32) v2.toInt64 fun w =>
    some (.inl (some (.int (0 : Int32))), w))
    (fun ci w => if ci = 13 then (some (.inl (some (.int (1 : Int32))), w)) else none)
set_option maxHeartbeats 4000000 in
set_option maxRecDepth 100000 in
theorem k_AckBookLaw_look {b0 : Nat} {H0 : Heap} {D : va_G} {vu vs : Value} {X M : Nat} {l : Launch} (hT : z_TB (zGG b0 H0 D vu vs X M)) (hfl : l.flags = pinnedFlags ++ [noTraceFlag]) (hE : vu.isRef = true ∧ vs.isRef = true) {pR1 : Option Nat} {pI2 : Int32} {pR3 : Option Nat} (F : Nat) {w : zW} (res : zO × zW) (h : f_AckBookLaw_look F X pR1 pI2 pR3 w = some res) : z_Ct (zGG b0 H0 D vu vs X M) l y_AckBookLaw_look (.codeWith y_AckBookLaw_look c_AckBookLaw_look 4 (some FieldType.int) [(0, 9, 12, 52)]) 7 121 [va_rf pR1, .int pI2, va_rf pR3] w res := by
  refine z_ctW hT hfl (by decide) (by simp only [z_sl_i, z_sl_j, z_sl_r, z_sl_n]; decide) ?_
  intro p e R s m args below meth c hC hr hRc hRs hRt hnm hFr H ls hZ hl
  simp only [z_la_i, z_la_j, z_la_r, z_la_n] at hl
  have hl : lv_has ls 4 [(0, va_rf pR1), (1, .int pI2), (2, va_rf pR3)] := hl
  unfold f_AckBookLaw_look at h
  refine x_aload_n hC d_AckBookLaw_look_0 rfl (lv_at hl 2 rfl) ?_
  refine lv_iconst (v := (0 : Int32)) hC.1 hC.2.1 d_AckBookLaw_look_1 (by decide) ?_
  refine x_aload_n hC d_AckBookLaw_look_2 rfl (lv_at hl 0 rfl) ?_
  refine lv_iload_n hC.1 hC.2.1 d_AckBookLaw_look_3 rfl (lv_at hl 1 rfl) ?_
  obtain ⟨a_, fs_, eo_, h⟩ := z_this_spec h
  obtain ⟨w1_, o1_, hF_, ha_⟩ := z_tI_spec h
  refine x_goesT hC hFr ha_ (z_goV (As := [.int pI2]) hC hZ zc0 eo_ (k_AckBook_look hT hfl hE _ _ hF_) t_800 t_801 t_802 t_1 t_803 ⟨by decide, by decide, (by decide +kernel : (parseMethodDescriptor y_AckBook_look.desc).map (fun d => d.parameters.length) = some 1)⟩ (by rw [hRt.1]; decide) (by rw [hRt.2]; decide) hl.1 rfl (by first | exact Nat.le_of_ble_eq_true rfl | simp [z_rfc, z_ci, z_cj]) d_AckBookLaw_look_4) (fun v_ hv H locs cells slots hZ => ?_) (fun ci_ h => ?_)
  · obtain ⟨v2, rfl, h⟩ := hv
    generalize w1_ = w at h hZ
    refine lv_i2l hC.1 hC.2.1 d_AckBookLaw_look_7 rfl ?_
    refine x_stL hC hZ h d_AckBookLaw_look_8 (fun w H locs hZ h => ?_)
    refine lv_goto (tgt := 15) hC.1 hC.2.1 d_AckBookLaw_look_9 (by decide) ?_
    refine lv_iconst (v := (0 : Int32)) hC.1 hC.2.1 d_AckBookLaw_look_15 (by decide) ?_
    exact x_iret hC hRc hRs hZ hr rfl h d_AckBookLaw_look_16
  · by_cases hq0 : ci_ = 13
    · have h := z_ifp hq0 h
      subst hq0
      refine ⟨_, _, _, 12, rfl, ⟨⟨by decide, by decide⟩, by decide, _, t_776, Or.inl ⟨t_783, rfl⟩⟩, fun x_ H locs cells slots hZ => ?_⟩
      generalize w1_ = w at h hZ
      refine x_astore_n (i := 3) (lv' := [(3, va_rf (some x_)), (0, va_rf pR1), (1, .int pI2), (2, va_rf pR3)]) hC d_AckBookLaw_look_12 rfl hl (by decide) (by first | rfl | simp [z_rfc, z_ci, z_cj]) (fun ls hl => ?_)
      refine lv_iconst (v := (1 : Int32)) hC.1 hC.2.1 d_AckBookLaw_look_13 (by decide) ?_
      exact x_iret hC hRc hRs hZ hr rfl h d_AckBookLaw_look_14
    have h := z_ifn hq0 h
    cases h
def f_AckBook_space (F X : Nat) (a0 : Option Nat) (pI1 : Int32) (pI2 : Int32) (w : zW) : zR :=
  z_this w 0 a0 <|
  z_cR (f_AckBook_known F X a0 pI1 w) fun r2 w =>
  if pI2 = (0 : Int32) then (
    z_getR w 1 1 r2 fun r3 =>
    z_this w 2 r3 <|
    z_cI (f_AckBook_Sent_count F X r3 w) fun v5 w =>
    some (.inl (some (.long v5.toInt64)), w))
  else if pI2 = (1 : Int32) then (
    z_getR w 1 1 r2 fun r6 =>
    z_getI w 2 6 r6 fun v7 =>
    some (.inl (some (.long v7.toInt64)), w))
  else if pI2 = (2 : Int32) then (
    z_getR w 1 1 r2 fun r8 =>
    z_getI w 2 7 r8 fun v9 =>
    some (.inl (some (.long v9.toInt64)), w))
  else if pI2 = (3 : Int32) then (
    z_this w 0 a0 <|
    z_cI (f_AckBook_probeTime F X a0 r2 w) fun v11 w =>
    some (.inl (some (.long v11.toInt64)), w))
  else if pI2 = (4 : Int32) then (
    z_getR w 1 1 r2 fun r12 =>
    z_getI w 2 3 r12 fun v13 =>
    some (.inl (some (.long v13.toInt64)), w))
  else if pI2 = (5 : Int32) then (
    z_getR w 1 1 r2 fun r14 =>
    z_getI w 2 4 r14 fun v15 =>
    some (.inl (some (.long v15.toInt64)), w))
  else if pI2 = (6 : Int32) then (
    z_getR w 1 2 r2 fun r16 =>
    z_getI w 5 2 r16 fun v17 =>
    some (.inl (some (.long v17.toInt64)), w))
  else if pI2 = (7 : Int32) then (
    z_getR w 1 2 r2 fun r18 =>
    z_getI w 5 4 r18 fun v19 =>
    some (.inl (some (.long v19.toInt64)), w))
  else if pI2 = (8 : Int32) then (
    z_this w 0 a0 <|
    z_cI (f_AckBook_patience F X a0 r2 w) fun v21 w =>
    some (.inl (some (.long v21.toInt64)), w))
  else if pI2 = (9 : Int32) then (
    z_getI w 1 3 r2 fun v22 =>
    if v22 = 0 then (
      some (.inl (some (.long (0 : Int64))), w))
    else (
      some (.inl (some (.long (1 : Int64))), w)))
  else if pI2 = (10 : Int32) then (
    z_getR w 1 2 r2 fun r23 =>
    z_getL w 5 3 r23 fun v24 =>
    some (.inl (some (.long v24)), w))
  else (
    z_thr w 13)
set_option maxHeartbeats 4000000 in
set_option maxRecDepth 100000 in
theorem k_AckBook_space {b0 : Nat} {H0 : Heap} {D : va_G} {vu vs : Value} {X M : Nat} {l : Launch} (hT : z_TB (zGG b0 H0 D vu vs X M)) (hfl : l.flags = pinnedFlags ++ [noTraceFlag]) (hE : vu.isRef = true ∧ vs.isRef = true) {a0 : Option Nat} {pI1 : Int32} {pI2 : Int32} (F : Nat) {w : zW} (res : zO × zW) (h : f_AckBook_space F X a0 pI1 pI2 w = some res) : z_Ct (zGG b0 H0 D vu vs X M) l y_AckBook_space (.code y_AckBook_space c_AckBook_space 4 (some FieldType.long)) 7 121 [va_rf a0, .int pI1, .int pI2] w res := by
  refine z_ct hT hfl (by decide) (by simp only [z_sl_i, z_sl_j, z_sl_r, z_sl_n]; decide) ?_
  intro p e R s m args below meth c hC hr hRc hRs hRt hnm hFr H ls hZ hl
  simp only [z_la_i, z_la_j, z_la_r, z_la_n] at hl
  have hl : lv_has ls 4 [(0, va_rf a0), (1, .int pI1), (2, .int pI2)] := hl
  unfold f_AckBook_space at h
  refine x_aload_n hC d_AckBook_space_0 rfl (lv_at hl 0 rfl) ?_
  refine lv_iload_n hC.1 hC.2.1 d_AckBook_space_1 rfl (lv_at hl 1 rfl) ?_
  obtain ⟨a_, fs_, eo_, h⟩ := z_this_spec h
  obtain ⟨w1_, o1_, hF_, ha_⟩ := z_cR_spec h
  refine x_goes hC hRc hRs hFr ha_ (z_goV (As := [.int pI1]) hC hZ zc0 eo_ (k_AckBook_known hT hfl hE _ _ hF_) t_380 t_382 ts_AckBook_known t_1 t_383 ⟨by decide, by decide, (by decide +kernel : (parseMethodDescriptor y_AckBook_known.desc).map (fun d => d.parameters.length) = some 1)⟩ (by rw [hRt.1]; decide) (by rw [hRt.2]; decide) hl.1 rfl (by first | exact Nat.le_of_ble_eq_true rfl | simp [z_rfc, z_ci, z_cj]) d_AckBook_space_2) (fun v_ hv H locs cells slots hZ => ?_)
  obtain ⟨r2, rfl, h⟩ := hv
  generalize w1_ = w at h hZ
  refine x_astore_n (i := 3) (lv' := [(3, va_rf r2), (0, va_rf a0), (1, .int pI1), (2, .int pI2)]) hC d_AckBook_space_5 rfl hl (by decide) (by first | rfl | simp [z_rfc, z_ci, z_cj]) (fun ls hl => ?_)
  refine lv_iload_n hC.1 hC.2.1 d_AckBook_space_6 rfl (lv_at hl 3 rfl) ?_
  by_cases hc0 : pI2 = (0 : Int32)
  · have h := z_ifp hc0 h
    refine lv_tableIn (tgt := 64) hC.1 hC.2.1 d_AckBook_space_7 (by rw [hc0]; decide) (by rw [hc0]; decide) (by rw [hc0]; rfl) (by decide) ?_
    refine x_aload_n hC d_AckBook_space_64 rfl (lv_at hl 0 rfl) ?_
    refine x_getR hC hZ zc1 h (by decide) t_158 (fun _ h9 => h9) d_AckBook_space_65 (fun r3 h => ?_)
    obtain ⟨a_, fs_, eo_, h⟩ := z_this_spec h
    obtain ⟨w1_, o1_, hF_, ha_⟩ := z_cI_spec h
    refine x_goes hC hRc hRs hFr ha_ (z_goV (As := []) hC hZ zc2 eo_ (k_AckBook_Sent_count hT hfl hE _ _ hF_) t_473 t_474 t_475 t_3 t_476 ⟨by decide, by decide, (by decide +kernel : (parseMethodDescriptor y_AckBook_Sent_count.desc).map (fun d => d.parameters.length) = some 0)⟩ (by rw [hRt.1]; decide) (by rw [hRt.2]; decide) hl.1 rfl (by first | exact Nat.le_of_ble_eq_true rfl | simp [z_rfc, z_ci, z_cj]) d_AckBook_space_68) (fun v_ hv H locs cells slots hZ => ?_)
    obtain ⟨v5, rfl, h⟩ := hv
    generalize w1_ = w at h hZ
    refine lv_i2l hC.1 hC.2.1 d_AckBook_space_71 rfl ?_
    exact x_lret hC hRc hRs hZ hr h d_AckBook_space_72
  have h := z_ifn hc0 h
  by_cases hc1 : pI2 = (1 : Int32)
  · have h := z_ifp hc1 h
    refine lv_tableIn (tgt := 73) hC.1 hC.2.1 d_AckBook_space_7 (by rw [hc1]; decide) (by rw [hc1]; decide) (by rw [hc1]; rfl) (by decide) ?_
    refine x_aload_n hC d_AckBook_space_73 rfl (lv_at hl 0 rfl) ?_
    refine x_getR hC hZ zc1 h (by decide) t_158 (fun _ h9 => h9) d_AckBook_space_74 (fun r6 h => ?_)
    refine x_getI hC hZ zc2 h (by decide) t_98 (fun _ h9 => h9) d_AckBook_space_77 (fun v7 h => ?_)
    refine lv_i2l hC.1 hC.2.1 d_AckBook_space_80 rfl ?_
    exact x_lret hC hRc hRs hZ hr h d_AckBook_space_81
  have h := z_ifn hc1 h
  by_cases hc2 : pI2 = (2 : Int32)
  · have h := z_ifp hc2 h
    refine lv_tableIn (tgt := 82) hC.1 hC.2.1 d_AckBook_space_7 (by rw [hc2]; decide) (by rw [hc2]; decide) (by rw [hc2]; rfl) (by decide) ?_
    refine x_aload_n hC d_AckBook_space_82 rfl (lv_at hl 0 rfl) ?_
    refine x_getR hC hZ zc1 h (by decide) t_158 (fun _ h9 => h9) d_AckBook_space_83 (fun r8 h => ?_)
    refine x_getI hC hZ zc2 h (by decide) t_100 (fun _ h9 => h9) d_AckBook_space_86 (fun v9 h => ?_)
    refine lv_i2l hC.1 hC.2.1 d_AckBook_space_89 rfl ?_
    exact x_lret hC hRc hRs hZ hr h d_AckBook_space_90
  have h := z_ifn hc2 h
  by_cases hc3 : pI2 = (3 : Int32)
  · have h := z_ifp hc3 h
    refine lv_tableIn (tgt := 91) hC.1 hC.2.1 d_AckBook_space_7 (by rw [hc3]; decide) (by rw [hc3]; decide) (by rw [hc3]; rfl) (by decide) ?_
    refine x_aload_n hC d_AckBook_space_91 rfl (lv_at hl 1 rfl) ?_
    refine x_aload_n hC d_AckBook_space_92 rfl (lv_at hl 0 rfl) ?_
    obtain ⟨a_, fs_, eo_, h⟩ := z_this_spec h
    obtain ⟨w1_, o1_, hF_, ha_⟩ := z_cI_spec h
    refine x_goes hC hRc hRs hFr ha_ (z_goV (As := [va_rf r2]) hC hZ zc0 eo_ (k_AckBook_probeTime hT hfl hE _ _ hF_) t_277 t_279 ts_AckBook_probeTime t_1 t_280 ⟨by decide, by decide, (by decide +kernel : (parseMethodDescriptor y_AckBook_probeTime.desc).map (fun d => d.parameters.length) = some 1)⟩ (by rw [hRt.1]; decide) (by rw [hRt.2]; decide) hl.1 rfl (by first | exact Nat.le_of_ble_eq_true rfl | simp [z_rfc, z_ci, z_cj]) d_AckBook_space_93) (fun v_ hv H locs cells slots hZ => ?_)
    obtain ⟨v11, rfl, h⟩ := hv
    generalize w1_ = w at h hZ
    refine lv_i2l hC.1 hC.2.1 d_AckBook_space_96 rfl ?_
    exact x_lret hC hRc hRs hZ hr h d_AckBook_space_97
  have h := z_ifn hc3 h
  by_cases hc4 : pI2 = (4 : Int32)
  · have h := z_ifp hc4 h
    refine lv_tableIn (tgt := 98) hC.1 hC.2.1 d_AckBook_space_7 (by rw [hc4]; decide) (by rw [hc4]; decide) (by rw [hc4]; rfl) (by decide) ?_
    refine x_aload_n hC d_AckBook_space_98 rfl (lv_at hl 0 rfl) ?_
    refine x_getR hC hZ zc1 h (by decide) t_158 (fun _ h9 => h9) d_AckBook_space_99 (fun r12 h => ?_)
    refine x_getI hC hZ zc2 h (by decide) t_92 (fun _ h9 => h9) d_AckBook_space_102 (fun v13 h => ?_)
    refine lv_i2l hC.1 hC.2.1 d_AckBook_space_105 rfl ?_
    exact x_lret hC hRc hRs hZ hr h d_AckBook_space_106
  have h := z_ifn hc4 h
  by_cases hc5 : pI2 = (5 : Int32)
  · have h := z_ifp hc5 h
    refine lv_tableIn (tgt := 107) hC.1 hC.2.1 d_AckBook_space_7 (by rw [hc5]; decide) (by rw [hc5]; decide) (by rw [hc5]; rfl) (by decide) ?_
    refine x_aload_n hC d_AckBook_space_107 rfl (lv_at hl 0 rfl) ?_
    refine x_getR hC hZ zc1 h (by decide) t_158 (fun _ h9 => h9) d_AckBook_space_108 (fun r14 h => ?_)
    refine x_getI hC hZ zc2 h (by decide) t_94 (fun _ h9 => h9) d_AckBook_space_111 (fun v15 h => ?_)
    refine lv_i2l hC.1 hC.2.1 d_AckBook_space_114 rfl ?_
    exact x_lret hC hRc hRs hZ hr h d_AckBook_space_115
  have h := z_ifn hc5 h
  by_cases hc6 : pI2 = (6 : Int32)
  · have h := z_ifp hc6 h
    refine lv_tableIn (tgt := 116) hC.1 hC.2.1 d_AckBook_space_7 (by rw [hc6]; decide) (by rw [hc6]; decide) (by rw [hc6]; rfl) (by decide) ?_
    refine x_aload_n hC d_AckBook_space_116 rfl (lv_at hl 0 rfl) ?_
    refine x_getR hC hZ zc1 h (by decide) t_160 (fun _ h9 => h9) d_AckBook_space_117 (fun r16 h => ?_)
    refine x_getI hC hZ zc5 h (by decide) t_129 (fun _ h9 => h9) d_AckBook_space_120 (fun v17 h => ?_)
    refine lv_i2l hC.1 hC.2.1 d_AckBook_space_123 rfl ?_
    exact x_lret hC hRc hRs hZ hr h d_AckBook_space_124
  have h := z_ifn hc6 h
  by_cases hc7 : pI2 = (7 : Int32)
  · have h := z_ifp hc7 h
    refine lv_tableIn (tgt := 125) hC.1 hC.2.1 d_AckBook_space_7 (by rw [hc7]; decide) (by rw [hc7]; decide) (by rw [hc7]; rfl) (by decide) ?_
    refine x_aload_n hC d_AckBook_space_125 rfl (lv_at hl 0 rfl) ?_
    refine x_getR hC hZ zc1 h (by decide) t_160 (fun _ h9 => h9) d_AckBook_space_126 (fun r18 h => ?_)
    refine x_getI hC hZ zc5 h (by decide) t_133 (fun _ h9 => h9) d_AckBook_space_129 (fun v19 h => ?_)
    refine lv_i2l hC.1 hC.2.1 d_AckBook_space_132 rfl ?_
    exact x_lret hC hRc hRs hZ hr h d_AckBook_space_133
  have h := z_ifn hc7 h
  by_cases hc8 : pI2 = (8 : Int32)
  · have h := z_ifp hc8 h
    refine lv_tableIn (tgt := 134) hC.1 hC.2.1 d_AckBook_space_7 (by rw [hc8]; decide) (by rw [hc8]; decide) (by rw [hc8]; rfl) (by decide) ?_
    refine x_aload_n hC d_AckBook_space_134 rfl (lv_at hl 1 rfl) ?_
    refine x_aload_n hC d_AckBook_space_135 rfl (lv_at hl 0 rfl) ?_
    obtain ⟨a_, fs_, eo_, h⟩ := z_this_spec h
    obtain ⟨w1_, o1_, hF_, ha_⟩ := z_cI_spec h
    refine x_goes hC hRc hRs hFr ha_ (z_goV (As := [va_rf r2]) hC hZ zc0 eo_ (k_AckBook_patience hT hfl hE _ _ hF_) t_281 t_283 ts_AckBook_patience t_1 t_284 ⟨by decide, by decide, (by decide +kernel : (parseMethodDescriptor y_AckBook_patience.desc).map (fun d => d.parameters.length) = some 1)⟩ (by rw [hRt.1]; decide) (by rw [hRt.2]; decide) hl.1 rfl (by first | exact Nat.le_of_ble_eq_true rfl | simp [z_rfc, z_ci, z_cj]) d_AckBook_space_136) (fun v_ hv H locs cells slots hZ => ?_)
    obtain ⟨v21, rfl, h⟩ := hv
    generalize w1_ = w at h hZ
    refine lv_i2l hC.1 hC.2.1 d_AckBook_space_139 rfl ?_
    exact x_lret hC hRc hRs hZ hr h d_AckBook_space_140
  have h := z_ifn hc8 h
  by_cases hc9 : pI2 = (9 : Int32)
  · have h := z_ifp hc9 h
    refine lv_tableIn (tgt := 141) hC.1 hC.2.1 d_AckBook_space_7 (by rw [hc9]; decide) (by rw [hc9]; decide) (by rw [hc9]; rfl) (by decide) ?_
    refine x_aload_n hC d_AckBook_space_141 rfl (lv_at hl 0 rfl) ?_
    refine x_getI hC hZ zc1 h (by decide) t_161 (fun _ h9 => h9) d_AckBook_space_142 (fun v22 h => ?_)
    refine lv_if_eq (tgt := 152) hC.1 hC.2.1 d_AckBook_space_145 (by decide) (fun hc => ?_) (fun hc => ?_)
    · have h := z_ifp hc h
      refine lv_lconst (v := (0 : Int64)) hC.1 hC.2.1 d_AckBook_space_152 (by decide) ?_
      exact x_lret hC hRc hRs hZ hr h d_AckBook_space_153
    · have h := z_ifn hc h
      refine lv_lconst (v := (1 : Int64)) hC.1 hC.2.1 d_AckBook_space_148 (by decide) ?_
      refine lv_goto (tgt := 153) hC.1 hC.2.1 d_AckBook_space_149 (by decide) ?_
      exact x_lret hC hRc hRs hZ hr h d_AckBook_space_153
  have h := z_ifn hc9 h
  by_cases hc10 : pI2 = (10 : Int32)
  · have h := z_ifp hc10 h
    refine lv_tableIn (tgt := 154) hC.1 hC.2.1 d_AckBook_space_7 (by rw [hc10]; decide) (by rw [hc10]; decide) (by rw [hc10]; rfl) (by decide) ?_
    refine x_aload_n hC d_AckBook_space_154 rfl (lv_at hl 0 rfl) ?_
    refine x_getR hC hZ zc1 h (by decide) t_160 (fun _ h9 => h9) d_AckBook_space_155 (fun r23 h => ?_)
    refine x_getL hC hZ zc5 h (by decide) t_131 (fun _ h9 => h9) d_AckBook_space_158 (fun v24 h => ?_)
    exact x_lret hC hRc hRs hZ hr h d_AckBook_space_161
  have h := z_ifn hc10 h
  refine lv_tableOut (tgt := 162) hC.1 hC.2.1 d_AckBook_space_7 (z_tab 10 (fun k hk => match k, hk with | 0, _ => hc0 | 1, _ => hc1 | 2, _ => hc2 | 3, _ => hc3 | 4, _ => hc4 | 5, _ => hc5 | 6, _ => hc6 | 7, _ => hc7 | 8, _ => hc8 | 9, _ => hc9 | 10, _ => hc10 | _ + 11, hk => absurd hk (by omega))) (by decide) ?_
  exact x_thrN (names := ["java/lang/Exception"]) (Y := "java/lang/RuntimeException") (i0 := 13) (b0 := prog_29_method_4_code) hC hRc hRs hFr hZ rfl h ⟨List.mem_cons_self, hE.1⟩ ⟨List.mem_cons_of_mem _ List.mem_cons_self, hE.2⟩ (by decide +kernel) (by decide +kernel) (by decide +kernel) (by decide +kernel) (by decide +kernel) (by decide +kernel) (by decide +kernel) at_AckBook_211 t_782 t_781 t_25 t_805 hl.1 d_AckBook_space_162 d_AckBook_space_165 d_AckBook_space_166 d_AckBook_space_168 d_AckBook_space_171 (by rw [hRt.1]; decide) (by rw [hRt.2]; first | exact Nat.le_of_ble_eq_true rfl | simp [z_rfc, z_ci, z_cj])
def f_AckBookLaw_space (F X : Nat) (pR1 : Option Nat) (pI2 : Int32) (pI3 : Int32) (pR4 : Option Nat) (w : zW) : zR :=
  z_this w 0 pR1 <|
  z_tL (f_AckBook_space F X pR1 pI2 pI3 w) (fun v2 w =>
    z_stL w pR4 (0 : Int32) v2 fun w =>
    some (.inl (some (.int (0 : Int32))), w))
    (fun ci w => if ci = 11 then (some (.inl (some (.int (1 : Int32))), w)) else if ci = 13 then (some (.inl (some (.int (2 : Int32))), w)) else none)
set_option maxHeartbeats 4000000 in
set_option maxRecDepth 100000 in
theorem k_AckBookLaw_space {b0 : Nat} {H0 : Heap} {D : va_G} {vu vs : Value} {X M : Nat} {l : Launch} (hT : z_TB (zGG b0 H0 D vu vs X M)) (hfl : l.flags = pinnedFlags ++ [noTraceFlag]) (hE : vu.isRef = true ∧ vs.isRef = true) {pR1 : Option Nat} {pI2 : Int32} {pI3 : Int32} {pR4 : Option Nat} (F : Nat) {w : zW} (res : zO × zW) (h : f_AckBookLaw_space F X pR1 pI2 pI3 pR4 w = some res) : z_Ct (zGG b0 H0 D vu vs X M) l y_AckBookLaw_space (.codeWith y_AckBookLaw_space c_AckBookLaw_space 5 (some FieldType.int) [(0, 9, 12, 13), (0, 9, 16, 52)]) 8 144 [va_rf pR1, .int pI2, .int pI3, va_rf pR4] w res := by
  refine z_ctW hT hfl (by decide) (by simp only [z_sl_i, z_sl_j, z_sl_r, z_sl_n]; decide) ?_
  intro p e R s m args below meth c hC hr hRc hRs hRt hnm hFr H ls hZ hl
  simp only [z_la_i, z_la_j, z_la_r, z_la_n] at hl
  have hl : lv_has ls 5 [(0, va_rf pR1), (1, .int pI2), (2, .int pI3), (3, va_rf pR4)] := hl
  unfold f_AckBookLaw_space at h
  refine x_aload_n hC d_AckBookLaw_space_0 rfl (lv_at hl 3 rfl) ?_
  refine lv_iconst (v := (0 : Int32)) hC.1 hC.2.1 d_AckBookLaw_space_1 (by decide) ?_
  refine x_aload_n hC d_AckBookLaw_space_2 rfl (lv_at hl 0 rfl) ?_
  refine lv_iload_n hC.1 hC.2.1 d_AckBookLaw_space_3 rfl (lv_at hl 1 rfl) ?_
  refine lv_iload_n hC.1 hC.2.1 d_AckBookLaw_space_4 rfl (lv_at hl 2 rfl) ?_
  obtain ⟨a_, fs_, eo_, h⟩ := z_this_spec h
  obtain ⟨w1_, o1_, hF_, ha_⟩ := z_tL_spec h
  refine x_goesT hC hFr ha_ (z_goV (As := [.int pI2, .int pI3]) hC hZ zc0 eo_ (k_AckBook_space hT hfl hE _ _ hF_) t_809 t_810 t_811 t_1 t_812 ⟨by decide, by decide, (by decide +kernel : (parseMethodDescriptor y_AckBook_space.desc).map (fun d => d.parameters.length) = some 2)⟩ (by rw [hRt.1]; decide) (by rw [hRt.2]; decide) hl.1 rfl (by first | exact Nat.le_of_ble_eq_true rfl | simp [z_rfc, z_ci, z_cj]) d_AckBookLaw_space_5) (fun v_ hv H locs cells slots hZ => ?_) (fun ci_ h => ?_)
  · obtain ⟨v2, rfl, h⟩ := hv
    generalize w1_ = w at h hZ
    refine x_stL hC hZ h d_AckBookLaw_space_8 (fun w H locs hZ h => ?_)
    refine lv_goto (tgt := 20) hC.1 hC.2.1 d_AckBookLaw_space_9 (by decide) ?_
    refine lv_iconst (v := (0 : Int32)) hC.1 hC.2.1 d_AckBookLaw_space_20 (by decide) ?_
    exact x_iret hC hRc hRs hZ hr rfl h d_AckBookLaw_space_21
  · by_cases hq0 : ci_ = 11
    · have h := z_ifp hq0 h
      subst hq0
      refine ⟨_, _, _, 12, rfl, ⟨⟨by decide, by decide⟩, by decide, _, t_374, Or.inl ⟨t_386, rfl⟩⟩, fun x_ H locs cells slots hZ => ?_⟩
      generalize w1_ = w at h hZ
      refine x_astore (i := 4) (lv' := [(4, va_rf (some x_)), (0, va_rf pR1), (1, .int pI2), (2, .int pI3), (3, va_rf pR4)]) hC d_AckBookLaw_space_12 hl (by decide) (by first | rfl | simp [z_rfc, z_ci, z_cj]) (fun ls hl => ?_)
      refine lv_iconst (v := (1 : Int32)) hC.1 hC.2.1 d_AckBookLaw_space_14 (by decide) ?_
      exact x_iret hC hRc hRs hZ hr rfl h d_AckBookLaw_space_15
    have h := z_ifn hq0 h
    by_cases hq1 : ci_ = 13
    · have h := z_ifp hq1 h
      subst hq1
      refine ⟨_, _, _, 16, rfl, ⟨⟨by decide, by decide⟩, by decide, _, t_374, Or.inr ⟨tn_1, ⟨⟨by decide, by decide⟩, by decide, _, t_776, Or.inl ⟨t_783, rfl⟩⟩⟩⟩, fun x_ H locs cells slots hZ => ?_⟩
      generalize w1_ = w at h hZ
      refine x_astore (i := 4) (lv' := [(4, va_rf (some x_)), (0, va_rf pR1), (1, .int pI2), (2, .int pI3), (3, va_rf pR4)]) hC d_AckBookLaw_space_16 hl (by decide) (by first | rfl | simp [z_rfc, z_ci, z_cj]) (fun ls hl => ?_)
      refine lv_iconst (v := (2 : Int32)) hC.1 hC.2.1 d_AckBookLaw_space_18 (by decide) ?_
      exact x_iret hC hRc hRs hZ hr rfl h d_AckBookLaw_space_19
    have h := z_ifn hq1 h
    cases h
def j_AckBookModel_init (F X : Nat) : Nat → Option Nat → Int32 → zW → zR
  | 0, _, _, _ => none
  | N + 1, rL0, xL1, w =>
    if (3 : Int32) ≤ xL1 then (
      some (.inl none, w))
    else (
      z_getR w 10 12 rL0 fun r1 =>
      z_stI w r1 xL1 (-1 : Int32) fun w =>
      z_getR w 10 13 rL0 fun r2 =>
      z_stI w r2 xL1 (-1 : Int32) fun w =>
      (j_AckBookModel_init F X N) rL0 (xL1 + (1 : Int32)) w)
set_option maxHeartbeats 4000000 in
set_option maxRecDepth 100000 in
theorem kj_AckBookModel_init {b0 : Nat} {H0 : Heap} {D : va_G} {vu vs : Value} {X M : Nat} {l : Launch} (hT : z_TB (zGG b0 H0 D vu vs X M)) (hfl : l.flags = pinnedFlags ++ [noTraceFlag]) (hE : vu.isRef = true ∧ vs.isRef = true) {p : Program} {e : Env} {R : Room} {s : State} {m : MethodId} {args : Array Value} {below : List Frame} {meth : Method} {c : Code} {w0 : zW} {F : Nat} (hC : z_C (zGG b0 H0 D vu vs X M) p e s m meth c c_AckBookModel_init 2 y_AckBookModel_init.cls) (hr : meth.sig.returnType = (none)) (hRc : R.cells = w0.2.1) (hRs : R.slots = w0.2.2.1) (hFr : c.exceptionTable.toList = []) (hRt : R.frames = 1 ∧ R.locals = 28) (hnm : meth.name = y_AckBookModel_init.name) : ∀ N : Nat, (∀ (rL0 : Option Nat) (xL1 : Int32) (w : zW) (res : zO × zW), j_AckBookModel_init F X N rL0 xL1 w = some res → ∀ (H : Heap) (locs : List Loc) (cells slots : Nat) (ls : Array Slot), z_Z (zGG b0 H0 D vu vs X M) R s w H locs cells slots → lv_has ls 2 [(0, va_rf rL0), (1, .int xL1)] → W p l e R s m args below meth c H locs cells slots (z_Q (zGG b0 H0 D vu vs X M) below s w0 res) (F0 m 230 ls [])) := by
  intro N
  induction N with
  | zero =>
    intro rL0 xL1 w res h
    rw [j_AckBookModel_init] at h
    cases h
  | succ N ih =>
    intro rL0 xL1 w res h H locs cells slots ls hZ hl
    rw [j_AckBookModel_init] at h
    refine lv_iload_n hC.1 hC.2.1 d_AckBookModel_init_230 rfl (lv_at hl 1 rfl) ?_
    refine lv_iconst (v := (3 : Int32)) hC.1 hC.2.1 d_AckBookModel_init_231 (by decide) ?_
    refine lv_icmp_ge (tgt := 255) hC.1 hC.2.1 d_AckBookModel_init_232 (by decide) (fun hc => ?_) (fun hc => ?_)
    · have h := z_ifp hc h
      exact x_vret hC hRc hRs hZ hr h d_AckBookModel_init_255
    · have h := z_ifn hc h
      refine x_aload_n hC d_AckBookModel_init_235 rfl (lv_at hl 0 rfl) ?_
      refine x_getR hC hZ zc10 h (by decide) t_831 (fun _ h9 => h9) d_AckBookModel_init_236 (fun r1 h => ?_)
      refine lv_iload_n hC.1 hC.2.1 d_AckBookModel_init_239 rfl (lv_at hl 1 rfl) ?_
      refine lv_iconst (v := (-1 : Int32)) hC.1 hC.2.1 d_AckBookModel_init_240 (by decide) ?_
      refine x_stI hC hZ h d_AckBookModel_init_241 (fun w H locs hZ h => ?_)
      refine x_aload_n hC d_AckBookModel_init_242 rfl (lv_at hl 0 rfl) ?_
      refine x_getR hC hZ zc10 h (by decide) t_832 (fun _ h9 => h9) d_AckBookModel_init_243 (fun r2 h => ?_)
      refine lv_iload_n hC.1 hC.2.1 d_AckBookModel_init_246 rfl (lv_at hl 1 rfl) ?_
      refine lv_iconst (v := (-1 : Int32)) hC.1 hC.2.1 d_AckBookModel_init_247 (by decide) ?_
      refine x_stI hC hZ h d_AckBookModel_init_248 (fun w H locs hZ h => ?_)
      refine lv_iinc (lv' := [(1, .int (xL1 + (1 : Int32))), (0, va_rf rL0)]) hC.1 hC.2.1 d_AckBookModel_init_249 hl (k := 1) rfl rfl (by decide) (by first | rfl | simp [z_rfc, z_ci, z_cj]) (fun ls hl => ?_)
      refine lv_goto (tgt := 230) hC.1 hC.2.1 d_AckBookModel_init_252 (by decide) ?_
      exact ih _ _ _ _ h _ _ _ _ _ hZ (lv_sub hl [1, 0] rfl)
def f_AckBookModel_init (F X : Nat) (a0 : Option Nat) (w : zW) : zR :=
  z_nn a0 <|
  z_newa w .int (3 : Int32) (fun n => (n, .inl fun _ => 0)) fun a3 w =>
  z_put w 10 4 a0 (va_rf (some a3)) fun w =>
  z_newa w .int (12288 : Int32) (fun n => (n, .inl fun _ => 0)) fun a4 w =>
  z_put w 10 5 a0 (va_rf (some a4)) fun w =>
  z_newa w .int (12288 : Int32) (fun n => (n, .inl fun _ => 0)) fun a5 w =>
  z_put w 10 6 a0 (va_rf (some a5)) fun w =>
  z_newa w .int (12288 : Int32) (fun n => (n, .inl fun _ => 0)) fun a6 w =>
  z_put w 10 7 a0 (va_rf (some a6)) fun w =>
  z_newa w .boolean (12288 : Int32) (fun n => (n, .inl fun _ => 0)) fun a7 w =>
  z_put w 10 8 a0 (va_rf (some a7)) fun w =>
  z_newa w .boolean (12288 : Int32) (fun n => (n, .inl fun _ => 0)) fun a8 w =>
  z_put w 10 9 a0 (va_rf (some a8)) fun w =>
  z_newa w .boolean (12288 : Int32) (fun n => (n, .inl fun _ => 0)) fun a9 w =>
  z_put w 10 10 a0 (va_rf (some a9)) fun w =>
  z_newa w .boolean (3 : Int32) (fun n => (n, .inl fun _ => 0)) fun a10 w =>
  z_put w 10 11 a0 (va_rf (some a10)) fun w =>
  z_newa w .int (3 : Int32) (fun n => (n, .inl fun _ => 0)) fun a11 w =>
  z_put w 10 12 a0 (va_rf (some a11)) fun w =>
  z_newa w .int (3 : Int32) (fun n => (n, .inl fun _ => 0)) fun a12 w =>
  z_put w 10 13 a0 (va_rf (some a12)) fun w =>
  z_newa w .int (24576 : Int32) (fun n => (n, .inl fun _ => 0)) fun a13 w =>
  z_put w 10 15 a0 (va_rf (some a13)) fun w =>
  z_newa w .int (6 : Int32) (fun n => (n, .inl fun _ => 0)) fun a14 w =>
  z_put w 10 16 a0 (va_rf (some a14)) fun w =>
  z_newa w .int (6 : Int32) (fun n => (n, .inl fun _ => 0)) fun a15 w =>
  z_put w 10 17 a0 (va_rf (some a15)) fun w =>
  z_put w 10 18 a0 (.int (800 : Int32)) fun w =>
  z_put w 10 19 a0 (.int (200 : Int32)) fun w =>
  z_put w 10 21 a0 (.int (-1 : Int32)) fun w =>
  z_put w 10 22 a0 (.int (-1 : Int32)) fun w =>
  z_put w 10 24 a0 (.int (12000 : Int32)) fun w =>
  z_put w 10 25 a0 (.int (-1 : Int32)) fun w =>
  z_put w 10 26 a0 (.int (-1 : Int32)) fun w =>
  z_newa w .long (64 : Int32) (fun n => (n, .inr (.inl fun _ => 0))) fun a16 w =>
  z_put w 10 28 a0 (va_rf (some a16)) fun w =>
  z_newa w .long (64 : Int32) (fun n => (n, .inr (.inl fun _ => 0))) fun a17 w =>
  z_put w 10 29 a0 (va_rf (some a17)) fun w =>
  z_newa w .int (3 : Int32) (fun n => (n, .inl fun _ => 0)) fun a18 w =>
  z_put w 10 30 a0 (va_rf (some a18)) fun w =>
  z_newa w .long (195 : Int32) (fun n => (n, .inr (.inl fun _ => 0))) fun a19 w =>
  z_put w 10 31 a0 (va_rf (some a19)) fun w =>
  z_newa w .long (195 : Int32) (fun n => (n, .inr (.inl fun _ => 0))) fun a20 w =>
  z_put w 10 32 a0 (va_rf (some a20)) fun w =>
  z_newa w .long (3 : Int32) (fun n => (n, .inr (.inl fun _ => 0))) fun a21 w =>
  z_put w 10 33 a0 (va_rf (some a21)) fun w =>
  z_newa w .int (3 : Int32) (fun n => (n, .inl fun _ => 0)) fun a22 w =>
  z_put w 10 34 a0 (va_rf (some a22)) fun w =>
  z_newa w .int (3 : Int32) (fun n => (n, .inl fun _ => 0)) fun a23 w =>
  z_put w 10 35 a0 (va_rf (some a23)) fun w =>
  z_newa w .int (3 : Int32) (fun n => (n, .inl fun _ => 0)) fun a24 w =>
  z_put w 10 36 a0 (va_rf (some a24)) fun w =>
  z_newa w .boolean (3 : Int32) (fun n => (n, .inl fun _ => 0)) fun a25 w =>
  z_put w 10 37 a0 (va_rf (some a25)) fun w =>
  (j_AckBookModel_init F X F) a0 (0 : Int32) w
set_option maxHeartbeats 4000000 in
set_option maxRecDepth 100000 in
theorem k_AckBookModel_init {b0 : Nat} {H0 : Heap} {D : va_G} {vu vs : Value} {X M : Nat} {l : Launch} (hT : z_TB (zGG b0 H0 D vu vs X M)) (hfl : l.flags = pinnedFlags ++ [noTraceFlag]) (hE : vu.isRef = true ∧ vs.isRef = true) {a0 : Option Nat} (F : Nat) {w : zW} (res : zO × zW) (h : f_AckBookModel_init F X a0 w = some res) : z_Ct (zGG b0 H0 D vu vs X M) l y_AckBookModel_init (.code y_AckBookModel_init c_AckBookModel_init 2 (none)) 1 28 [va_rf a0] w res := by
  refine z_ct hT hfl (by decide) (by simp only [z_sl_i, z_sl_j, z_sl_r, z_sl_n]; decide) ?_
  intro p e R s m args below meth c hC hr hRc hRs hRt hnm hFr H ls hZ hl
  simp only [z_la_i, z_la_j, z_la_r, z_la_n] at hl
  have hl : lv_has ls 2 [(0, va_rf a0)] := hl
  unfold f_AckBookModel_init at h
  refine x_aload_n hC d_AckBookModel_init_0 rfl (lv_at hl 0 rfl) ?_
  obtain ⟨_, e_, h⟩ := z_nn_spec h
  refine x_objInit hC hZ e_ t_818 ⟨t_32, t_33⟩ hl.1 d_AckBookModel_init_1 (by rw [hRt.1]; decide) (by rw [hRt.2]; first | exact Nat.le_of_ble_eq_true rfl | simp [z_rfc, z_ci, z_cj]) ?_
  refine x_aload_n hC d_AckBookModel_init_4 rfl (lv_at hl 0 rfl) ?_
  refine lv_iconst (v := (3 : Int32)) hC.1 hC.2.1 d_AckBookModel_init_5 (by decide) ?_
  refine x_newaI hC hZ h t_934 d_AckBookModel_init_6 (fun a3 w H cells slots hZ h => ?_)
  refine x_putF hC hZ zc10 h (by decide) t_823 (fun _ h9 => h9) rfl hnm rfl rfl (z_rfnA _ _) (z_rffA _ _) d_AckBookModel_init_8 (fun w H locs hZ h => ?_)
  refine x_aload_n hC d_AckBookModel_init_11 rfl (lv_at hl 0 rfl) ?_
  refine lv_sipush (v := (12288 : Int32)) hC.1 hC.2.1 d_AckBookModel_init_12 (by decide) ?_
  refine x_newaI hC hZ h t_934 d_AckBookModel_init_15 (fun a4 w H cells slots hZ h => ?_)
  refine x_putF hC hZ zc10 h (by decide) t_824 (fun _ h9 => h9) rfl hnm rfl rfl (z_rfnA _ _) (z_rffA _ _) d_AckBookModel_init_17 (fun w H locs hZ h => ?_)
  refine x_aload_n hC d_AckBookModel_init_20 rfl (lv_at hl 0 rfl) ?_
  refine lv_sipush (v := (12288 : Int32)) hC.1 hC.2.1 d_AckBookModel_init_21 (by decide) ?_
  refine x_newaI hC hZ h t_934 d_AckBookModel_init_24 (fun a5 w H cells slots hZ h => ?_)
  refine x_putF hC hZ zc10 h (by decide) t_825 (fun _ h9 => h9) rfl hnm rfl rfl (z_rfnA _ _) (z_rffA _ _) d_AckBookModel_init_26 (fun w H locs hZ h => ?_)
  refine x_aload_n hC d_AckBookModel_init_29 rfl (lv_at hl 0 rfl) ?_
  refine lv_sipush (v := (12288 : Int32)) hC.1 hC.2.1 d_AckBookModel_init_30 (by decide) ?_
  refine x_newaI hC hZ h t_934 d_AckBookModel_init_33 (fun a6 w H cells slots hZ h => ?_)
  refine x_putF hC hZ zc10 h (by decide) t_826 (fun _ h9 => h9) rfl hnm rfl rfl (z_rfnA _ _) (z_rffA _ _) d_AckBookModel_init_35 (fun w H locs hZ h => ?_)
  refine x_aload_n hC d_AckBookModel_init_38 rfl (lv_at hl 0 rfl) ?_
  refine lv_sipush (v := (12288 : Int32)) hC.1 hC.2.1 d_AckBookModel_init_39 (by decide) ?_
  refine x_newaZ hC hZ h t_935 d_AckBookModel_init_42 (fun a7 w H cells slots hZ h => ?_)
  refine x_putF hC hZ zc10 h (by decide) t_827 (fun _ h9 => h9) rfl hnm rfl rfl (z_rfnA _ _) (z_rffA _ _) d_AckBookModel_init_44 (fun w H locs hZ h => ?_)
  refine x_aload_n hC d_AckBookModel_init_47 rfl (lv_at hl 0 rfl) ?_
  refine lv_sipush (v := (12288 : Int32)) hC.1 hC.2.1 d_AckBookModel_init_48 (by decide) ?_
  refine x_newaZ hC hZ h t_935 d_AckBookModel_init_51 (fun a8 w H cells slots hZ h => ?_)
  refine x_putF hC hZ zc10 h (by decide) t_828 (fun _ h9 => h9) rfl hnm rfl rfl (z_rfnA _ _) (z_rffA _ _) d_AckBookModel_init_53 (fun w H locs hZ h => ?_)
  refine x_aload_n hC d_AckBookModel_init_56 rfl (lv_at hl 0 rfl) ?_
  refine lv_sipush (v := (12288 : Int32)) hC.1 hC.2.1 d_AckBookModel_init_57 (by decide) ?_
  refine x_newaZ hC hZ h t_935 d_AckBookModel_init_60 (fun a9 w H cells slots hZ h => ?_)
  refine x_putF hC hZ zc10 h (by decide) t_829 (fun _ h9 => h9) rfl hnm rfl rfl (z_rfnA _ _) (z_rffA _ _) d_AckBookModel_init_62 (fun w H locs hZ h => ?_)
  refine x_aload_n hC d_AckBookModel_init_65 rfl (lv_at hl 0 rfl) ?_
  refine lv_iconst (v := (3 : Int32)) hC.1 hC.2.1 d_AckBookModel_init_66 (by decide) ?_
  refine x_newaZ hC hZ h t_935 d_AckBookModel_init_67 (fun a10 w H cells slots hZ h => ?_)
  refine x_putF hC hZ zc10 h (by decide) t_830 (fun _ h9 => h9) rfl hnm rfl rfl (z_rfnA _ _) (z_rffA _ _) d_AckBookModel_init_69 (fun w H locs hZ h => ?_)
  refine x_aload_n hC d_AckBookModel_init_72 rfl (lv_at hl 0 rfl) ?_
  refine lv_iconst (v := (3 : Int32)) hC.1 hC.2.1 d_AckBookModel_init_73 (by decide) ?_
  refine x_newaI hC hZ h t_934 d_AckBookModel_init_74 (fun a11 w H cells slots hZ h => ?_)
  refine x_putF hC hZ zc10 h (by decide) t_831 (fun _ h9 => h9) rfl hnm rfl rfl (z_rfnA _ _) (z_rffA _ _) d_AckBookModel_init_76 (fun w H locs hZ h => ?_)
  refine x_aload_n hC d_AckBookModel_init_79 rfl (lv_at hl 0 rfl) ?_
  refine lv_iconst (v := (3 : Int32)) hC.1 hC.2.1 d_AckBookModel_init_80 (by decide) ?_
  refine x_newaI hC hZ h t_934 d_AckBookModel_init_81 (fun a12 w H cells slots hZ h => ?_)
  refine x_putF hC hZ zc10 h (by decide) t_832 (fun _ h9 => h9) rfl hnm rfl rfl (z_rfnA _ _) (z_rffA _ _) d_AckBookModel_init_83 (fun w H locs hZ h => ?_)
  refine x_aload_n hC d_AckBookModel_init_86 rfl (lv_at hl 0 rfl) ?_
  refine lv_sipush (v := (24576 : Int32)) hC.1 hC.2.1 d_AckBookModel_init_87 (by decide) ?_
  refine x_newaI hC hZ h t_934 d_AckBookModel_init_90 (fun a13 w H cells slots hZ h => ?_)
  refine x_putF hC hZ zc10 h (by decide) t_834 (fun _ h9 => h9) rfl hnm rfl rfl (z_rfnA _ _) (z_rffA _ _) d_AckBookModel_init_92 (fun w H locs hZ h => ?_)
  refine x_aload_n hC d_AckBookModel_init_95 rfl (lv_at hl 0 rfl) ?_
  refine lv_bipush (v := (6 : Int32)) hC.1 hC.2.1 d_AckBookModel_init_96 (by decide) ?_
  refine x_newaI hC hZ h t_934 d_AckBookModel_init_98 (fun a14 w H cells slots hZ h => ?_)
  refine x_putF hC hZ zc10 h (by decide) t_835 (fun _ h9 => h9) rfl hnm rfl rfl (z_rfnA _ _) (z_rffA _ _) d_AckBookModel_init_100 (fun w H locs hZ h => ?_)
  refine x_aload_n hC d_AckBookModel_init_103 rfl (lv_at hl 0 rfl) ?_
  refine lv_bipush (v := (6 : Int32)) hC.1 hC.2.1 d_AckBookModel_init_104 (by decide) ?_
  refine x_newaI hC hZ h t_934 d_AckBookModel_init_106 (fun a15 w H cells slots hZ h => ?_)
  refine x_putF hC hZ zc10 h (by decide) t_836 (fun _ h9 => h9) rfl hnm rfl rfl (z_rfnA _ _) (z_rffA _ _) d_AckBookModel_init_108 (fun w H locs hZ h => ?_)
  refine x_aload_n hC d_AckBookModel_init_111 rfl (lv_at hl 0 rfl) ?_
  refine lv_sipush (v := (800 : Int32)) hC.1 hC.2.1 d_AckBookModel_init_112 (by decide) ?_
  refine x_put hC hZ zc10 h (by decide) t_837 (fun _ h9 => h9) rfl rfl rfl rfl d_AckBookModel_init_115 (fun w H locs hZ h => ?_)
  refine x_aload_n hC d_AckBookModel_init_118 rfl (lv_at hl 0 rfl) ?_
  refine lv_sipush (v := (200 : Int32)) hC.1 hC.2.1 d_AckBookModel_init_119 (by decide) ?_
  refine x_put hC hZ zc10 h (by decide) t_838 (fun _ h9 => h9) rfl rfl rfl rfl d_AckBookModel_init_122 (fun w H locs hZ h => ?_)
  refine x_aload_n hC d_AckBookModel_init_125 rfl (lv_at hl 0 rfl) ?_
  refine lv_iconst (v := (-1 : Int32)) hC.1 hC.2.1 d_AckBookModel_init_126 (by decide) ?_
  refine x_put hC hZ zc10 h (by decide) t_840 (fun _ h9 => h9) rfl rfl rfl rfl d_AckBookModel_init_127 (fun w H locs hZ h => ?_)
  refine x_aload_n hC d_AckBookModel_init_130 rfl (lv_at hl 0 rfl) ?_
  refine lv_iconst (v := (-1 : Int32)) hC.1 hC.2.1 d_AckBookModel_init_131 (by decide) ?_
  refine x_put hC hZ zc10 h (by decide) t_841 (fun _ h9 => h9) rfl rfl rfl rfl d_AckBookModel_init_132 (fun w H locs hZ h => ?_)
  refine x_aload_n hC d_AckBookModel_init_135 rfl (lv_at hl 0 rfl) ?_
  refine lv_sipush (v := (12000 : Int32)) hC.1 hC.2.1 d_AckBookModel_init_136 (by decide) ?_
  refine x_put hC hZ zc10 h (by decide) t_843 (fun _ h9 => h9) rfl rfl rfl rfl d_AckBookModel_init_139 (fun w H locs hZ h => ?_)
  refine x_aload_n hC d_AckBookModel_init_142 rfl (lv_at hl 0 rfl) ?_
  refine lv_iconst (v := (-1 : Int32)) hC.1 hC.2.1 d_AckBookModel_init_143 (by decide) ?_
  refine x_put hC hZ zc10 h (by decide) t_844 (fun _ h9 => h9) rfl rfl rfl rfl d_AckBookModel_init_144 (fun w H locs hZ h => ?_)
  refine x_aload_n hC d_AckBookModel_init_147 rfl (lv_at hl 0 rfl) ?_
  refine lv_iconst (v := (-1 : Int32)) hC.1 hC.2.1 d_AckBookModel_init_148 (by decide) ?_
  refine x_put hC hZ zc10 h (by decide) t_845 (fun _ h9 => h9) rfl rfl rfl rfl d_AckBookModel_init_149 (fun w H locs hZ h => ?_)
  refine x_aload_n hC d_AckBookModel_init_152 rfl (lv_at hl 0 rfl) ?_
  refine lv_bipush (v := (64 : Int32)) hC.1 hC.2.1 d_AckBookModel_init_153 (by decide) ?_
  refine x_newaJ hC hZ h t_154 d_AckBookModel_init_155 (fun a16 w H cells slots hZ h => ?_)
  refine x_putF hC hZ zc10 h (by decide) t_847 (fun _ h9 => h9) rfl hnm rfl rfl (z_rfnA _ _) (z_rffA _ _) d_AckBookModel_init_157 (fun w H locs hZ h => ?_)
  refine x_aload_n hC d_AckBookModel_init_160 rfl (lv_at hl 0 rfl) ?_
  refine lv_bipush (v := (64 : Int32)) hC.1 hC.2.1 d_AckBookModel_init_161 (by decide) ?_
  refine x_newaJ hC hZ h t_154 d_AckBookModel_init_163 (fun a17 w H cells slots hZ h => ?_)
  refine x_putF hC hZ zc10 h (by decide) t_848 (fun _ h9 => h9) rfl hnm rfl rfl (z_rfnA _ _) (z_rffA _ _) d_AckBookModel_init_165 (fun w H locs hZ h => ?_)
  refine x_aload_n hC d_AckBookModel_init_168 rfl (lv_at hl 0 rfl) ?_
  refine lv_iconst (v := (3 : Int32)) hC.1 hC.2.1 d_AckBookModel_init_169 (by decide) ?_
  refine x_newaI hC hZ h t_934 d_AckBookModel_init_170 (fun a18 w H cells slots hZ h => ?_)
  refine x_putF hC hZ zc10 h (by decide) t_849 (fun _ h9 => h9) rfl hnm rfl rfl (z_rfnA _ _) (z_rffA _ _) d_AckBookModel_init_172 (fun w H locs hZ h => ?_)
  refine x_aload_n hC d_AckBookModel_init_175 rfl (lv_at hl 0 rfl) ?_
  refine lv_sipush (v := (195 : Int32)) hC.1 hC.2.1 d_AckBookModel_init_176 (by decide) ?_
  refine x_newaJ hC hZ h t_154 d_AckBookModel_init_179 (fun a19 w H cells slots hZ h => ?_)
  refine x_putF hC hZ zc10 h (by decide) t_850 (fun _ h9 => h9) rfl hnm rfl rfl (z_rfnA _ _) (z_rffA _ _) d_AckBookModel_init_181 (fun w H locs hZ h => ?_)
  refine x_aload_n hC d_AckBookModel_init_184 rfl (lv_at hl 0 rfl) ?_
  refine lv_sipush (v := (195 : Int32)) hC.1 hC.2.1 d_AckBookModel_init_185 (by decide) ?_
  refine x_newaJ hC hZ h t_154 d_AckBookModel_init_188 (fun a20 w H cells slots hZ h => ?_)
  refine x_putF hC hZ zc10 h (by decide) t_851 (fun _ h9 => h9) rfl hnm rfl rfl (z_rfnA _ _) (z_rffA _ _) d_AckBookModel_init_190 (fun w H locs hZ h => ?_)
  refine x_aload_n hC d_AckBookModel_init_193 rfl (lv_at hl 0 rfl) ?_
  refine lv_iconst (v := (3 : Int32)) hC.1 hC.2.1 d_AckBookModel_init_194 (by decide) ?_
  refine x_newaJ hC hZ h t_154 d_AckBookModel_init_195 (fun a21 w H cells slots hZ h => ?_)
  refine x_putF hC hZ zc10 h (by decide) t_852 (fun _ h9 => h9) rfl hnm rfl rfl (z_rfnA _ _) (z_rffA _ _) d_AckBookModel_init_197 (fun w H locs hZ h => ?_)
  refine x_aload_n hC d_AckBookModel_init_200 rfl (lv_at hl 0 rfl) ?_
  refine lv_iconst (v := (3 : Int32)) hC.1 hC.2.1 d_AckBookModel_init_201 (by decide) ?_
  refine x_newaI hC hZ h t_934 d_AckBookModel_init_202 (fun a22 w H cells slots hZ h => ?_)
  refine x_putF hC hZ zc10 h (by decide) t_853 (fun _ h9 => h9) rfl hnm rfl rfl (z_rfnA _ _) (z_rffA _ _) d_AckBookModel_init_204 (fun w H locs hZ h => ?_)
  refine x_aload_n hC d_AckBookModel_init_207 rfl (lv_at hl 0 rfl) ?_
  refine lv_iconst (v := (3 : Int32)) hC.1 hC.2.1 d_AckBookModel_init_208 (by decide) ?_
  refine x_newaI hC hZ h t_934 d_AckBookModel_init_209 (fun a23 w H cells slots hZ h => ?_)
  refine x_putF hC hZ zc10 h (by decide) t_854 (fun _ h9 => h9) rfl hnm rfl rfl (z_rfnA _ _) (z_rffA _ _) d_AckBookModel_init_211 (fun w H locs hZ h => ?_)
  refine x_aload_n hC d_AckBookModel_init_214 rfl (lv_at hl 0 rfl) ?_
  refine lv_iconst (v := (3 : Int32)) hC.1 hC.2.1 d_AckBookModel_init_215 (by decide) ?_
  refine x_newaI hC hZ h t_934 d_AckBookModel_init_216 (fun a24 w H cells slots hZ h => ?_)
  refine x_putF hC hZ zc10 h (by decide) t_855 (fun _ h9 => h9) rfl hnm rfl rfl (z_rfnA _ _) (z_rffA _ _) d_AckBookModel_init_218 (fun w H locs hZ h => ?_)
  refine x_aload_n hC d_AckBookModel_init_221 rfl (lv_at hl 0 rfl) ?_
  refine lv_iconst (v := (3 : Int32)) hC.1 hC.2.1 d_AckBookModel_init_222 (by decide) ?_
  refine x_newaZ hC hZ h t_935 d_AckBookModel_init_223 (fun a25 w H cells slots hZ h => ?_)
  refine x_putF hC hZ zc10 h (by decide) t_856 (fun _ h9 => h9) rfl hnm rfl rfl (z_rfnA _ _) (z_rffA _ _) d_AckBookModel_init_225 (fun w H locs hZ h => ?_)
  refine lv_iconst (v := (0 : Int32)) hC.1 hC.2.1 d_AckBookModel_init_228 (by decide) ?_
  refine lv_istore_n (i := 1) (lv' := [(1, .int (0 : Int32)), (0, va_rf a0)]) hC.1 hC.2.1 d_AckBookModel_init_229 rfl hl (by decide) (by first | rfl | simp [z_rfc, z_ci, z_cj]) (fun ls hl => ?_)
  exact (kj_AckBookModel_init hT hfl hE hC hr hRc hRs hFr hRt hnm F) _ _ _ _ h _ _ _ _ _ hZ (lv_sub hl [1, 0] rfl)
def f_AckBookModel_thrown (F X : Nat) (a0 : Option Nat) (w : zW) : zR :=
  z_getI w 10 0 a0 fun v1 =>
  some (.inl (some (.int v1)), w)
set_option maxHeartbeats 4000000 in
set_option maxRecDepth 100000 in
theorem k_AckBookModel_thrown {b0 : Nat} {H0 : Heap} {D : va_G} {vu vs : Value} {X M : Nat} {l : Launch} (hT : z_TB (zGG b0 H0 D vu vs X M)) (hfl : l.flags = pinnedFlags ++ [noTraceFlag]) (hE : vu.isRef = true ∧ vs.isRef = true) {a0 : Option Nat} (F : Nat) {w : zW} (res : zO × zW) (h : f_AckBookModel_thrown F X a0 w = some res) : z_Ct (zGG b0 H0 D vu vs X M) l y_AckBookModel_thrown (.code y_AckBookModel_thrown c_AckBookModel_thrown 1 (some FieldType.int)) 0 0 [va_rf a0] w res := by
  refine z_ct hT hfl (by decide) (by simp only [z_sl_i, z_sl_j, z_sl_r, z_sl_n]; decide) ?_
  intro p e R s m args below meth c hC hr hRc hRs hRt hnm hFr H ls hZ hl
  simp only [z_la_i, z_la_j, z_la_r, z_la_n] at hl
  have hl : lv_has ls 1 [(0, va_rf a0)] := hl
  unfold f_AckBookModel_thrown at h
  refine x_aload_n hC d_AckBookModel_thrown_0 rfl (lv_at hl 0 rfl) ?_
  refine x_getI hC hZ zc10 h (by decide) t_819 (fun _ h9 => h9) d_AckBookModel_thrown_1 (fun v1 h => ?_)
  exact x_iret hC hRc hRs hZ hr rfl h d_AckBookModel_thrown_4
def f_AckBookModel_noSpace (F X : Nat) (pI1 : Int32) (w : zW) : zR :=
  if pI1 < 0 then (
    some (.inl (some (.int (1 : Int32))), w))
  else (
    if pI1 ≤ (2 : Int32) then (
      some (.inl (some (.int (0 : Int32))), w))
    else (
      some (.inl (some (.int (1 : Int32))), w)))
set_option maxHeartbeats 4000000 in
set_option maxRecDepth 100000 in
theorem k_AckBookModel_noSpace {b0 : Nat} {H0 : Heap} {D : va_G} {vu vs : Value} {X M : Nat} {l : Launch} (hT : z_TB (zGG b0 H0 D vu vs X M)) (hfl : l.flags = pinnedFlags ++ [noTraceFlag]) (hE : vu.isRef = true ∧ vs.isRef = true) {pI1 : Int32} (F : Nat) {w : zW} (res : zO × zW) (h : f_AckBookModel_noSpace F X pI1 w = some res) : z_Ct (zGG b0 H0 D vu vs X M) l y_AckBookModel_noSpace (.code y_AckBookModel_noSpace c_AckBookModel_noSpace 1 (some FieldType.boolean)) 0 0 [.int pI1] w res := by
  refine z_ct hT hfl (by decide) (by simp only [z_sl_i, z_sl_j, z_sl_r, z_sl_n]; decide) ?_
  intro p e R s m args below meth c hC hr hRc hRs hRt hnm hFr H ls hZ hl
  simp only [z_la_i, z_la_j, z_la_r, z_la_n] at hl
  have hl : lv_has ls 1 [(0, .int pI1)] := hl
  unfold f_AckBookModel_noSpace at h
  refine lv_iload_n hC.1 hC.2.1 d_AckBookModel_noSpace_0 rfl (lv_at hl 0 rfl) ?_
  refine lv_if_lt (tgt := 9) hC.1 hC.2.1 d_AckBookModel_noSpace_1 (by decide) (fun hc => ?_) (fun hc => ?_)
  · have h := z_ifp hc h
    refine lv_iconst (v := (1 : Int32)) hC.1 hC.2.1 d_AckBookModel_noSpace_9 (by decide) ?_
    refine lv_goto (tgt := 14) hC.1 hC.2.1 d_AckBookModel_noSpace_10 (by decide) ?_
    exact x_iret hC hRc hRs hZ hr rfl h d_AckBookModel_noSpace_14
  · have h := z_ifn hc h
    refine lv_iload_n hC.1 hC.2.1 d_AckBookModel_noSpace_4 rfl (lv_at hl 0 rfl) ?_
    refine lv_iconst (v := (2 : Int32)) hC.1 hC.2.1 d_AckBookModel_noSpace_5 (by decide) ?_
    refine lv_icmp_le (tgt := 13) hC.1 hC.2.1 d_AckBookModel_noSpace_6 (by decide) (fun hc => ?_) (fun hc => ?_)
    · have h := z_ifp hc h
      refine lv_iconst (v := (0 : Int32)) hC.1 hC.2.1 d_AckBookModel_noSpace_13 (by decide) ?_
      exact x_iret hC hRc hRs hZ hr rfl h d_AckBookModel_noSpace_14
    · have h := z_ifn hc h
      refine lv_iconst (v := (1 : Int32)) hC.1 hC.2.1 d_AckBookModel_noSpace_9 (by decide) ?_
      refine lv_goto (tgt := 14) hC.1 hC.2.1 d_AckBookModel_noSpace_10 (by decide) ?_
      exact x_iret hC hRc hRs hZ hr rfl h d_AckBookModel_noSpace_14
def f_AckBookModel_fails (F X : Nat) (a0 : Option Nat) (pI1 : Int32) (pI2 : Int32) (w : zW) : zR :=
  if pI1 = 0 then (
    z_put w 10 0 a0 (.int (0 : Int32)) fun w =>
    z_retZ pI1 w)
  else (
    z_put w 10 0 a0 (.int pI2) fun w =>
    z_retZ pI1 w)
set_option maxHeartbeats 4000000 in
set_option maxRecDepth 100000 in
theorem k_AckBookModel_fails {b0 : Nat} {H0 : Heap} {D : va_G} {vu vs : Value} {X M : Nat} {l : Launch} (hT : z_TB (zGG b0 H0 D vu vs X M)) (hfl : l.flags = pinnedFlags ++ [noTraceFlag]) (hE : vu.isRef = true ∧ vs.isRef = true) {a0 : Option Nat} {pI1 : Int32} {pI2 : Int32} (F : Nat) {w : zW} (res : zO × zW) (h : f_AckBookModel_fails F X a0 pI1 pI2 w = some res) : z_Ct (zGG b0 H0 D vu vs X M) l y_AckBookModel_fails (.code y_AckBookModel_fails c_AckBookModel_fails 3 (some FieldType.boolean)) 0 0 [va_rf a0, .int pI1, .int pI2] w res := by
  refine z_ct hT hfl (by decide) (by simp only [z_sl_i, z_sl_j, z_sl_r, z_sl_n]; decide) ?_
  intro p e R s m args below meth c hC hr hRc hRs hRt hnm hFr H ls hZ hl
  simp only [z_la_i, z_la_j, z_la_r, z_la_n] at hl
  have hl : lv_has ls 3 [(0, va_rf a0), (1, .int pI1), (2, .int pI2)] := hl
  unfold f_AckBookModel_fails at h
  refine x_aload_n hC d_AckBookModel_fails_0 rfl (lv_at hl 0 rfl) ?_
  refine lv_iload_n hC.1 hC.2.1 d_AckBookModel_fails_1 rfl (lv_at hl 1 rfl) ?_
  refine lv_if_eq (tgt := 9) hC.1 hC.2.1 d_AckBookModel_fails_2 (by decide) (fun hc => ?_) (fun hc => ?_)
  · have h := z_ifp hc h
    refine lv_iconst (v := (0 : Int32)) hC.1 hC.2.1 d_AckBookModel_fails_9 (by decide) ?_
    refine x_put hC hZ zc10 h (by decide) t_819 (fun _ h9 => h9) rfl rfl rfl rfl d_AckBookModel_fails_10 (fun w H locs hZ h => ?_)
    refine lv_iload_n hC.1 hC.2.1 d_AckBookModel_fails_13 rfl (lv_at hl 1 rfl) ?_
    exact x_zret hC hRc hRs hZ hr h d_AckBookModel_fails_14
  · have h := z_ifn hc h
    refine lv_iload_n hC.1 hC.2.1 d_AckBookModel_fails_5 rfl (lv_at hl 2 rfl) ?_
    refine lv_goto (tgt := 10) hC.1 hC.2.1 d_AckBookModel_fails_6 (by decide) ?_
    refine x_put hC hZ zc10 h (by decide) t_819 (fun _ h9 => h9) rfl rfl rfl rfl d_AckBookModel_fails_10 (fun w H locs hZ h => ?_)
    refine lv_iload_n hC.1 hC.2.1 d_AckBookModel_fails_13 rfl (lv_at hl 1 rfl) ?_
    exact x_zret hC hRc hRs hZ hr h d_AckBookModel_fails_14
def f_AckBookModel_isOut (F X : Nat) (a0 : Option Nat) (pI1 : Int32) (pI2 : Int32) (w : zW) : zR :=
  z_getR w 10 11 a0 fun r1 =>
  z_ldI w .boolean r1 pI1 fun v2 =>
  if v2 = 0 then (
    z_getR w 10 7 a0 fun r3 =>
    z_ldI w .int r3 (((4096 : Int32) * pI1) + pI2) fun v4 =>
    if v4 = 0 then (
      some (.inl (some (.int (1 : Int32))), w))
    else (
      some (.inl (some (.int (0 : Int32))), w)))
  else (
    some (.inl (some (.int (0 : Int32))), w))
set_option maxHeartbeats 4000000 in
set_option maxRecDepth 100000 in
theorem k_AckBookModel_isOut {b0 : Nat} {H0 : Heap} {D : va_G} {vu vs : Value} {X M : Nat} {l : Launch} (hT : z_TB (zGG b0 H0 D vu vs X M)) (hfl : l.flags = pinnedFlags ++ [noTraceFlag]) (hE : vu.isRef = true ∧ vs.isRef = true) {a0 : Option Nat} {pI1 : Int32} {pI2 : Int32} (F : Nat) {w : zW} (res : zO × zW) (h : f_AckBookModel_isOut F X a0 pI1 pI2 w = some res) : z_Ct (zGG b0 H0 D vu vs X M) l y_AckBookModel_isOut (.code y_AckBookModel_isOut c_AckBookModel_isOut 3 (some FieldType.boolean)) 0 0 [va_rf a0, .int pI1, .int pI2] w res := by
  refine z_ct hT hfl (by decide) (by simp only [z_sl_i, z_sl_j, z_sl_r, z_sl_n]; decide) ?_
  intro p e R s m args below meth c hC hr hRc hRs hRt hnm hFr H ls hZ hl
  simp only [z_la_i, z_la_j, z_la_r, z_la_n] at hl
  have hl : lv_has ls 3 [(0, va_rf a0), (1, .int pI1), (2, .int pI2)] := hl
  unfold f_AckBookModel_isOut at h
  refine x_aload_n hC d_AckBookModel_isOut_0 rfl (lv_at hl 0 rfl) ?_
  refine x_getR hC hZ zc10 h (by decide) t_830 (fun _ h9 => h9) d_AckBookModel_isOut_1 (fun r1 h => ?_)
  refine lv_iload_n hC.1 hC.2.1 d_AckBookModel_isOut_4 rfl (lv_at hl 1 rfl) ?_
  refine x_ldZ hC hZ h d_AckBookModel_isOut_5 (fun v2 h => ?_)
  refine lv_if_ne (tgt := 28) hC.1 hC.2.1 d_AckBookModel_isOut_6 (by decide) (fun hc => ?_) (fun hc => ?_)
  · have h := z_ifn hc h
    refine lv_iconst (v := (0 : Int32)) hC.1 hC.2.1 d_AckBookModel_isOut_28 (by decide) ?_
    exact x_iret hC hRc hRs hZ hr rfl h d_AckBookModel_isOut_29
  · have h := z_ifp hc h
    refine x_aload_n hC d_AckBookModel_isOut_9 rfl (lv_at hl 0 rfl) ?_
    refine x_getR hC hZ zc10 h (by decide) t_826 (fun _ h9 => h9) d_AckBookModel_isOut_10 (fun r3 h => ?_)
    refine lv_sipush (v := (4096 : Int32)) hC.1 hC.2.1 d_AckBookModel_isOut_13 (by decide) ?_
    refine lv_iload_n hC.1 hC.2.1 d_AckBookModel_isOut_16 rfl (lv_at hl 1 rfl) ?_
    refine lv_imul hC.1 hC.2.1 d_AckBookModel_isOut_17 ?_
    refine lv_iload_n hC.1 hC.2.1 d_AckBookModel_isOut_18 rfl (lv_at hl 2 rfl) ?_
    refine lv_iadd hC.1 hC.2.1 d_AckBookModel_isOut_19 ?_
    refine x_ldI hC hZ h d_AckBookModel_isOut_20 (fun v4 h => ?_)
    refine lv_if_ne (tgt := 28) hC.1 hC.2.1 d_AckBookModel_isOut_21 (by decide) (fun hc => ?_) (fun hc => ?_)
    · have h := z_ifn hc h
      refine lv_iconst (v := (0 : Int32)) hC.1 hC.2.1 d_AckBookModel_isOut_28 (by decide) ?_
      exact x_iret hC hRc hRs hZ hr rfl h d_AckBookModel_isOut_29
    · have h := z_ifp hc h
      refine lv_iconst (v := (1 : Int32)) hC.1 hC.2.1 d_AckBookModel_isOut_24 (by decide) ?_
      refine lv_goto (tgt := 29) hC.1 hC.2.1 d_AckBookModel_isOut_25 (by decide) ?_
      exact x_iret hC hRc hRs hZ hr rfl h d_AckBookModel_isOut_29
def j_AckBookModel_flight (F X : Nat) : Nat → Nat → Option Nat → Int32 → Int32 → Int32 → zW → zR
  | 0, _, _, _, _, _, _ => none
  | N + 1, lb, rL0, xL1, xL2, xL3, w =>
    if lb = 0 then (
    if (3 : Int32) ≤ xL2 then (
      some (.inl (some (.int xL1)), w))
    else (
      (j_AckBookModel_flight F X N) 1 rL0 xL1 xL2 (0 : Int32) w))
    else (
    z_getR w 10 4 rL0 fun r1 =>
    z_ldI w .int r1 xL2 fun v2 =>
    if v2 ≤ xL3 then (
      (j_AckBookModel_flight F X N) 0 rL0 xL1 (xL2 + (1 : Int32)) 0 w)
    else (
      z_this w 10 rL0 <|
      z_cI (f_AckBookModel_isOut F X rL0 xL2 xL3 w) fun v4 w =>
      if v4 = 0 then (
        (j_AckBookModel_flight F X N) 1 rL0 (xL1 + (0 : Int32)) xL2 (xL3 + (1 : Int32)) w)
      else (
        z_getR w 10 9 rL0 fun r5 =>
        z_ldI w .boolean r5 (((4096 : Int32) * xL2) + xL3) fun v6 =>
        if v6 = 0 then (
          (j_AckBookModel_flight F X N) 1 rL0 (xL1 + (0 : Int32)) xL2 (xL3 + (1 : Int32)) w)
        else (
          z_getR w 10 5 rL0 fun r7 =>
          z_ldI w .int r7 (((4096 : Int32) * xL2) + xL3) fun v8 =>
          (j_AckBookModel_flight F X N) 1 rL0 (xL1 + v8) xL2 (xL3 + (1 : Int32)) w))))
set_option maxHeartbeats 4000000 in
set_option maxRecDepth 100000 in
theorem kj_AckBookModel_flight {b0 : Nat} {H0 : Heap} {D : va_G} {vu vs : Value} {X M : Nat} {l : Launch} (hT : z_TB (zGG b0 H0 D vu vs X M)) (hfl : l.flags = pinnedFlags ++ [noTraceFlag]) (hE : vu.isRef = true ∧ vs.isRef = true) {p : Program} {e : Env} {R : Room} {s : State} {m : MethodId} {args : Array Value} {below : List Frame} {meth : Method} {c : Code} {w0 : zW} {F : Nat} (hC : z_C (zGG b0 H0 D vu vs X M) p e s m meth c c_AckBookModel_flight 4 y_AckBookModel_flight.cls) (hr : meth.sig.returnType = (some FieldType.int)) (hRc : R.cells = w0.2.1) (hRs : R.slots = w0.2.2.1) (hFr : c.exceptionTable.toList = []) (hRt : R.frames = 1 ∧ R.locals = 22) (hnm : meth.name = y_AckBookModel_flight.name) : ∀ N : Nat, (∀ (rL0 : Option Nat) (xL1 : Int32) (xL2 : Int32) (xL3 : Int32) (w : zW) (res : zO × zW), j_AckBookModel_flight F X N 0 rL0 xL1 xL2 xL3 w = some res → ∀ (H : Heap) (locs : List Loc) (cells slots : Nat) (ls : Array Slot), z_Z (zGG b0 H0 D vu vs X M) R s w H locs cells slots → lv_has ls 4 [(0, va_rf rL0), (1, .int xL1), (2, .int xL2)] → W p l e R s m args below meth c H locs cells slots (z_Q (zGG b0 H0 D vu vs X M) below s w0 res) (F0 m 4 ls [])) ∧ (∀ (rL0 : Option Nat) (xL1 : Int32) (xL2 : Int32) (xL3 : Int32) (w : zW) (res : zO × zW), j_AckBookModel_flight F X N 1 rL0 xL1 xL2 xL3 w = some res → ∀ (H : Heap) (locs : List Loc) (cells slots : Nat) (ls : Array Slot), z_Z (zGG b0 H0 D vu vs X M) R s w H locs cells slots → lv_has ls 4 [(0, va_rf rL0), (1, .int xL1), (2, .int xL2), (3, .int xL3)] → W p l e R s m args below meth c H locs cells slots (z_Q (zGG b0 H0 D vu vs X M) below s w0 res) (F0 m 11 ls [])) := by
  intro N
  induction N with
  | zero =>
    refine ⟨?_, ?_⟩
    · intro rL0 xL1 xL2 xL3 w res h
      rw [j_AckBookModel_flight] at h
      cases h
    · intro rL0 xL1 xL2 xL3 w res h
      rw [j_AckBookModel_flight] at h
      cases h
  | succ N ih =>
    refine ⟨?_, ?_⟩
    · intro rL0 xL1 xL2 xL3 w res h H locs cells slots ls hZ hl
      rw [j_AckBookModel_flight] at h
      have h := z_ifp rfl h
      refine lv_iload_n hC.1 hC.2.1 d_AckBookModel_flight_4 rfl (lv_at hl 2 rfl) ?_
      refine lv_iconst (v := (3 : Int32)) hC.1 hC.2.1 d_AckBookModel_flight_5 (by decide) ?_
      refine lv_icmp_ge (tgt := 76) hC.1 hC.2.1 d_AckBookModel_flight_6 (by decide) (fun hc => ?_) (fun hc => ?_)
      · have h := z_ifp hc h
        refine lv_iload_n hC.1 hC.2.1 d_AckBookModel_flight_76 rfl (lv_at hl 1 rfl) ?_
        exact x_iret hC hRc hRs hZ hr rfl h d_AckBookModel_flight_77
      · have h := z_ifn hc h
        refine lv_iconst (v := (0 : Int32)) hC.1 hC.2.1 d_AckBookModel_flight_9 (by decide) ?_
        refine lv_istore_n (i := 3) (lv' := [(3, .int (0 : Int32)), (0, va_rf rL0), (1, .int xL1), (2, .int xL2)]) hC.1 hC.2.1 d_AckBookModel_flight_10 rfl hl (by decide) (by first | rfl | simp [z_rfc, z_ci, z_cj]) (fun ls hl => ?_)
        exact ih.2 _ _ _ _ _ _ h _ _ _ _ _ hZ (lv_sub hl [1, 2, 3, 0] rfl)
    · intro rL0 xL1 xL2 xL3 w res h H locs cells slots ls hZ hl
      rw [j_AckBookModel_flight] at h
      have h := z_ifn (by decide) h
      refine lv_iload_n hC.1 hC.2.1 d_AckBookModel_flight_11 rfl (lv_at hl 3 rfl) ?_
      refine x_aload_n hC d_AckBookModel_flight_12 rfl (lv_at hl 0 rfl) ?_
      refine x_getR hC hZ zc10 h (by decide) t_823 (fun _ h9 => h9) d_AckBookModel_flight_13 (fun r1 h => ?_)
      refine lv_iload_n hC.1 hC.2.1 d_AckBookModel_flight_16 rfl (lv_at hl 2 rfl) ?_
      refine x_ldI hC hZ h d_AckBookModel_flight_17 (fun v2 h => ?_)
      refine lv_icmp_ge (tgt := 70) hC.1 hC.2.1 d_AckBookModel_flight_18 (by decide) (fun hc => ?_) (fun hc => ?_)
      · have h := z_ifp hc h
        refine lv_iinc (lv' := [(2, .int (xL2 + (1 : Int32))), (0, va_rf rL0), (1, .int xL1), (3, .int xL3)]) hC.1 hC.2.1 d_AckBookModel_flight_70 hl (k := 2) rfl rfl (by decide) (by first | rfl | simp [z_rfc, z_ci, z_cj]) (fun ls hl => ?_)
        refine lv_goto (tgt := 4) hC.1 hC.2.1 d_AckBookModel_flight_73 (by decide) ?_
        exact ih.1 _ _ _ _ _ _ h _ _ _ _ _ hZ (lv_sub hl [1, 2, 0] rfl)
      · have h := z_ifn hc h
        refine lv_iload_n hC.1 hC.2.1 d_AckBookModel_flight_21 rfl (lv_at hl 1 rfl) ?_
        refine x_aload_n hC d_AckBookModel_flight_22 rfl (lv_at hl 0 rfl) ?_
        refine lv_iload_n hC.1 hC.2.1 d_AckBookModel_flight_23 rfl (lv_at hl 2 rfl) ?_
        refine lv_iload_n hC.1 hC.2.1 d_AckBookModel_flight_24 rfl (lv_at hl 3 rfl) ?_
        obtain ⟨a_, fs_, eo_, h⟩ := z_this_spec h
        obtain ⟨w1_, o1_, hF_, ha_⟩ := z_cI_spec h
        refine x_goes hC hRc hRs hFr ha_ (z_goV (As := [.int xL2, .int xL3]) hC hZ zc10 eo_ (k_AckBookModel_isOut hT hfl hE _ _ hF_) t_955 t_957 ts_AckBookModel_isOut t_12 t_958 ⟨by decide, by decide, (by decide +kernel : (parseMethodDescriptor y_AckBookModel_isOut.desc).map (fun d => d.parameters.length) = some 2)⟩ (by rw [hRt.1]; decide) (by rw [hRt.2]; decide) hl.1 rfl (by first | exact Nat.le_of_ble_eq_true rfl | simp [z_rfc, z_ci, z_cj]) d_AckBookModel_flight_25) (fun v_ hv H locs cells slots hZ => ?_)
        obtain ⟨v4, rfl, h⟩ := hv
        generalize w1_ = w at h hZ
        refine lv_if_eq (tgt := 61) hC.1 hC.2.1 d_AckBookModel_flight_28 (by decide) (fun hc => ?_) (fun hc => ?_)
        · have h := z_ifp hc h
          refine lv_iconst (v := (0 : Int32)) hC.1 hC.2.1 d_AckBookModel_flight_61 (by decide) ?_
          refine lv_iadd hC.1 hC.2.1 d_AckBookModel_flight_62 ?_
          refine lv_istore_n (i := 1) (lv' := [(1, .int (xL1 + (0 : Int32))), (0, va_rf rL0), (2, .int xL2), (3, .int xL3)]) hC.1 hC.2.1 d_AckBookModel_flight_63 rfl hl (by decide) (by first | rfl | simp [z_rfc, z_ci, z_cj]) (fun ls hl => ?_)
          refine lv_iinc (lv' := [(3, .int (xL3 + (1 : Int32))), (1, .int (xL1 + (0 : Int32))), (0, va_rf rL0), (2, .int xL2)]) hC.1 hC.2.1 d_AckBookModel_flight_64 hl (k := 3) rfl rfl (by decide) (by first | rfl | simp [z_rfc, z_ci, z_cj]) (fun ls hl => ?_)
          refine lv_goto (tgt := 11) hC.1 hC.2.1 d_AckBookModel_flight_67 (by decide) ?_
          exact ih.2 _ _ _ _ _ _ h _ _ _ _ _ hZ (lv_sub hl [2, 1, 3, 0] rfl)
        · have h := z_ifn hc h
          refine x_aload_n hC d_AckBookModel_flight_31 rfl (lv_at hl 0 rfl) ?_
          refine x_getR hC hZ zc10 h (by decide) t_828 (fun _ h9 => h9) d_AckBookModel_flight_32 (fun r5 h => ?_)
          refine lv_sipush (v := (4096 : Int32)) hC.1 hC.2.1 d_AckBookModel_flight_35 (by decide) ?_
          refine lv_iload_n hC.1 hC.2.1 d_AckBookModel_flight_38 rfl (lv_at hl 2 rfl) ?_
          refine lv_imul hC.1 hC.2.1 d_AckBookModel_flight_39 ?_
          refine lv_iload_n hC.1 hC.2.1 d_AckBookModel_flight_40 rfl (lv_at hl 3 rfl) ?_
          refine lv_iadd hC.1 hC.2.1 d_AckBookModel_flight_41 ?_
          refine x_ldZ hC hZ h d_AckBookModel_flight_42 (fun v6 h => ?_)
          refine lv_if_eq (tgt := 61) hC.1 hC.2.1 d_AckBookModel_flight_43 (by decide) (fun hc => ?_) (fun hc => ?_)
          · have h := z_ifp hc h
            refine lv_iconst (v := (0 : Int32)) hC.1 hC.2.1 d_AckBookModel_flight_61 (by decide) ?_
            refine lv_iadd hC.1 hC.2.1 d_AckBookModel_flight_62 ?_
            refine lv_istore_n (i := 1) (lv' := [(1, .int (xL1 + (0 : Int32))), (0, va_rf rL0), (2, .int xL2), (3, .int xL3)]) hC.1 hC.2.1 d_AckBookModel_flight_63 rfl hl (by decide) (by first | rfl | simp [z_rfc, z_ci, z_cj]) (fun ls hl => ?_)
            refine lv_iinc (lv' := [(3, .int (xL3 + (1 : Int32))), (1, .int (xL1 + (0 : Int32))), (0, va_rf rL0), (2, .int xL2)]) hC.1 hC.2.1 d_AckBookModel_flight_64 hl (k := 3) rfl rfl (by decide) (by first | rfl | simp [z_rfc, z_ci, z_cj]) (fun ls hl => ?_)
            refine lv_goto (tgt := 11) hC.1 hC.2.1 d_AckBookModel_flight_67 (by decide) ?_
            exact ih.2 _ _ _ _ _ _ h _ _ _ _ _ hZ (lv_sub hl [2, 1, 3, 0] rfl)
          · have h := z_ifn hc h
            refine x_aload_n hC d_AckBookModel_flight_46 rfl (lv_at hl 0 rfl) ?_
            refine x_getR hC hZ zc10 h (by decide) t_824 (fun _ h9 => h9) d_AckBookModel_flight_47 (fun r7 h => ?_)
            refine lv_sipush (v := (4096 : Int32)) hC.1 hC.2.1 d_AckBookModel_flight_50 (by decide) ?_
            refine lv_iload_n hC.1 hC.2.1 d_AckBookModel_flight_53 rfl (lv_at hl 2 rfl) ?_
            refine lv_imul hC.1 hC.2.1 d_AckBookModel_flight_54 ?_
            refine lv_iload_n hC.1 hC.2.1 d_AckBookModel_flight_55 rfl (lv_at hl 3 rfl) ?_
            refine lv_iadd hC.1 hC.2.1 d_AckBookModel_flight_56 ?_
            refine x_ldI hC hZ h d_AckBookModel_flight_57 (fun v8 h => ?_)
            refine lv_goto (tgt := 62) hC.1 hC.2.1 d_AckBookModel_flight_58 (by decide) ?_
            refine lv_iadd hC.1 hC.2.1 d_AckBookModel_flight_62 ?_
            refine lv_istore_n (i := 1) (lv' := [(1, .int (xL1 + v8)), (0, va_rf rL0), (2, .int xL2), (3, .int xL3)]) hC.1 hC.2.1 d_AckBookModel_flight_63 rfl hl (by decide) (by first | rfl | simp [z_rfc, z_ci, z_cj]) (fun ls hl => ?_)
            refine lv_iinc (lv' := [(3, .int (xL3 + (1 : Int32))), (1, .int (xL1 + v8)), (0, va_rf rL0), (2, .int xL2)]) hC.1 hC.2.1 d_AckBookModel_flight_64 hl (k := 3) rfl rfl (by decide) (by first | rfl | simp [z_rfc, z_ci, z_cj]) (fun ls hl => ?_)
            refine lv_goto (tgt := 11) hC.1 hC.2.1 d_AckBookModel_flight_67 (by decide) ?_
            exact ih.2 _ _ _ _ _ _ h _ _ _ _ _ hZ (lv_sub hl [2, 1, 3, 0] rfl)
def f_AckBookModel_flight (F X : Nat) (a0 : Option Nat) (w : zW) : zR :=
  (j_AckBookModel_flight F X F) 0 a0 (0 : Int32) (0 : Int32) 0 w
set_option maxHeartbeats 4000000 in
set_option maxRecDepth 100000 in
theorem k_AckBookModel_flight {b0 : Nat} {H0 : Heap} {D : va_G} {vu vs : Value} {X M : Nat} {l : Launch} (hT : z_TB (zGG b0 H0 D vu vs X M)) (hfl : l.flags = pinnedFlags ++ [noTraceFlag]) (hE : vu.isRef = true ∧ vs.isRef = true) {a0 : Option Nat} (F : Nat) {w : zW} (res : zO × zW) (h : f_AckBookModel_flight F X a0 w = some res) : z_Ct (zGG b0 H0 D vu vs X M) l y_AckBookModel_flight (.code y_AckBookModel_flight c_AckBookModel_flight 4 (some FieldType.int)) 1 22 [va_rf a0] w res := by
  refine z_ct hT hfl (by decide) (by simp only [z_sl_i, z_sl_j, z_sl_r, z_sl_n]; decide) ?_
  intro p e R s m args below meth c hC hr hRc hRs hRt hnm hFr H ls hZ hl
  simp only [z_la_i, z_la_j, z_la_r, z_la_n] at hl
  have hl : lv_has ls 4 [(0, va_rf a0)] := hl
  unfold f_AckBookModel_flight at h
  refine lv_iconst (v := (0 : Int32)) hC.1 hC.2.1 d_AckBookModel_flight_0 (by decide) ?_
  refine lv_istore_n (i := 1) (lv' := [(1, .int (0 : Int32)), (0, va_rf a0)]) hC.1 hC.2.1 d_AckBookModel_flight_1 rfl hl (by decide) (by first | rfl | simp [z_rfc, z_ci, z_cj]) (fun ls hl => ?_)
  refine lv_iconst (v := (0 : Int32)) hC.1 hC.2.1 d_AckBookModel_flight_2 (by decide) ?_
  refine lv_istore_n (i := 2) (lv' := [(2, .int (0 : Int32)), (1, .int (0 : Int32)), (0, va_rf a0)]) hC.1 hC.2.1 d_AckBookModel_flight_3 rfl hl (by decide) (by first | rfl | simp [z_rfc, z_ci, z_cj]) (fun ls hl => ?_)
  exact (kj_AckBookModel_flight hT hfl hE hC hr hRc hRs hFr hRt hnm F).1 _ _ _ _ _ _ h _ _ _ _ _ hZ (lv_sub hl [2, 1, 0] rfl)
def q_AckBookModel_send_68 (F X : Nat) (rL0 : Option Nat) (xL1 : Int32) (xL2 : Int32) (xL3 : Int32) (xL4 : Int32) (rS0 : Option Nat) (xS1 : Int32) (w : zW) : zR :=
  z_this w 10 rS0 <|
  z_cI (f_AckBookModel_fails F X rS0 xS1 (2 : Int32) w) fun v2 w =>
  if v2 = 0 then (
    z_getR w 10 4 rL0 fun r3 =>
    z_ldI w .int r3 xL1 fun v4 =>
    z_getR w 10 5 rL0 fun r5 =>
    z_stI w r5 (((4096 : Int32) * xL1) + v4) xL2 fun w =>
    z_getR w 10 6 rL0 fun r6 =>
    z_getI w 10 1 rL0 fun v7 =>
    z_stI w r6 (((4096 : Int32) * xL1) + v4) v7 fun w =>
    z_getR w 10 7 rL0 fun r8 =>
    z_stI w r8 (((4096 : Int32) * xL1) + v4) (0 : Int32) fun w =>
    z_getR w 10 8 rL0 fun r9 =>
    z_stZ w r9 (((4096 : Int32) * xL1) + v4) xL3 fun w =>
    z_getR w 10 9 rL0 fun r10 =>
    z_stZ w r10 (((4096 : Int32) * xL1) + v4) xL4 fun w =>
    z_getR w 10 4 rL0 fun r11 =>
    z_ldI w .int r11 xL1 fun v12 =>
    z_stI w r11 xL1 (v12 + (1 : Int32)) fun w =>
    z_getI w 10 1 rL0 fun v13 =>
    z_put w 10 14 rL0 (.int v13) fun w =>
    z_getR w 10 10 rL0 fun r14 =>
    z_this w 10 rL0 <|
    z_cI (f_AckBookModel_flight F X rL0 w) fun v16 w =>
    z_getI w 10 24 rL0 fun v17 =>
    if v16 ≤ (v17 - (1200 : Int32)) then (
      z_stZ w r14 (((4096 : Int32) * xL1) + v4) (0 : Int32) fun w =>
      some (.inl (some (.int v4)), w))
    else (
      z_stZ w r14 (((4096 : Int32) * xL1) + v4) (1 : Int32) fun w =>
      some (.inl (some (.int v4)), w)))
  else (
    some (.inl (some (.int (0 : Int32))), w))
set_option maxHeartbeats 4000000 in
set_option maxRecDepth 100000 in
theorem kq_AckBookModel_send_68 {b0 : Nat} {H0 : Heap} {D : va_G} {vu vs : Value} {X M : Nat} {l : Launch} (hT : z_TB (zGG b0 H0 D vu vs X M)) (hfl : l.flags = pinnedFlags ++ [noTraceFlag]) (hE : vu.isRef = true ∧ vs.isRef = true) {p : Program} {e : Env} {R : Room} {s : State} {m : MethodId} {args : Array Value} {below : List Frame} {meth : Method} {c : Code} {w0 : zW} {F : Nat} (hC : z_C (zGG b0 H0 D vu vs X M) p e s m meth c c_AckBookModel_send 7 y_AckBookModel_send.cls) (hr : meth.sig.returnType = (some FieldType.int)) (hRc : R.cells = w0.2.1) (hRs : R.slots = w0.2.2.1) (hFr : c.exceptionTable.toList = []) (hRt : R.frames = 2 ∧ R.locals = 45) (hnm : meth.name = y_AckBookModel_send.name) (rL0 : Option Nat) (xL1 : Int32) (xL2 : Int32) (xL3 : Int32) (xL4 : Int32) (rS0 : Option Nat) (xS1 : Int32) (w : zW) (res : zO × zW) (h : q_AckBookModel_send_68 F X rL0 xL1 xL2 xL3 xL4 rS0 xS1 w = some res) (H : Heap) (locs : List Loc) (cells slots : Nat) (ls : Array Slot) (hZ : z_Z (zGG b0 H0 D vu vs X M) R s w H locs cells slots) (hl : lv_has ls 7 [(0, va_rf rL0), (1, .int xL1), (2, .int xL2), (3, .int xL3), (4, .int xL4)]) : W p l e R s m args below meth c H locs cells slots (z_Q (zGG b0 H0 D vu vs X M) below s w0 res) (F0 m 68 ls [.int xS1, va_rf rS0]) := by
  unfold q_AckBookModel_send_68 at h
  refine lv_iconst (v := (2 : Int32)) hC.1 hC.2.1 d_AckBookModel_send_68 (by decide) ?_
  obtain ⟨a_, fs_, eo_, h⟩ := z_this_spec h
  obtain ⟨w1_, o1_, hF_, ha_⟩ := z_cI_spec h
  refine x_goes hC hRc hRs hFr ha_ (z_goV (As := [.int xS1, .int (2 : Int32)]) hC hZ zc10 eo_ (k_AckBookModel_fails hT hfl hE _ _ hF_) t_947 t_949 ts_AckBookModel_fails t_12 t_950 ⟨by decide, by decide, (by decide +kernel : (parseMethodDescriptor y_AckBookModel_fails.desc).map (fun d => d.parameters.length) = some 2)⟩ (by rw [hRt.1]; decide) (by rw [hRt.2]; decide) hl.1 rfl (by first | exact Nat.le_of_ble_eq_true rfl | simp [z_rfc, z_ci, z_cj]) d_AckBookModel_send_69) (fun v_ hv H locs cells slots hZ => ?_)
  obtain ⟨v2, rfl, h⟩ := hv
  generalize w1_ = w at h hZ
  refine lv_if_eq (tgt := 77) hC.1 hC.2.1 d_AckBookModel_send_72 (by decide) (fun hc => ?_) (fun hc => ?_)
  · have h := z_ifp hc h
    refine x_aload_n hC d_AckBookModel_send_77 rfl (lv_at hl 0 rfl) ?_
    refine x_getR hC hZ zc10 h (by decide) t_823 (fun _ h9 => h9) d_AckBookModel_send_78 (fun r3 h => ?_)
    refine lv_iload_n hC.1 hC.2.1 d_AckBookModel_send_81 rfl (lv_at hl 1 rfl) ?_
    refine x_ldI hC hZ h d_AckBookModel_send_82 (fun v4 h => ?_)
    refine lv_istore (i := 5) (lv' := [(5, .int v4), (0, va_rf rL0), (1, .int xL1), (2, .int xL2), (3, .int xL3), (4, .int xL4)]) hC.1 hC.2.1 d_AckBookModel_send_83 hl (by decide) (by first | rfl | simp [z_rfc, z_ci, z_cj]) (fun ls hl => ?_)
    refine lv_sipush (v := (4096 : Int32)) hC.1 hC.2.1 d_AckBookModel_send_85 (by decide) ?_
    refine lv_iload_n hC.1 hC.2.1 d_AckBookModel_send_88 rfl (lv_at hl 2 rfl) ?_
    refine lv_imul hC.1 hC.2.1 d_AckBookModel_send_89 ?_
    refine lv_iload hC.1 hC.2.1 d_AckBookModel_send_90 (lv_at hl 0 rfl) ?_
    refine lv_iadd hC.1 hC.2.1 d_AckBookModel_send_92 ?_
    refine lv_istore (i := 6) (lv' := [(6, .int (((4096 : Int32) * xL1) + v4)), (5, .int v4), (0, va_rf rL0), (1, .int xL1), (2, .int xL2), (3, .int xL3), (4, .int xL4)]) hC.1 hC.2.1 d_AckBookModel_send_93 hl (by decide) (by first | rfl | simp [z_rfc, z_ci, z_cj]) (fun ls hl => ?_)
    refine x_aload_n hC d_AckBookModel_send_95 rfl (lv_at hl 2 rfl) ?_
    refine x_getR hC hZ zc10 h (by decide) t_824 (fun _ h9 => h9) d_AckBookModel_send_96 (fun r5 h => ?_)
    refine lv_iload hC.1 hC.2.1 d_AckBookModel_send_99 (lv_at hl 0 rfl) ?_
    refine lv_iload_n hC.1 hC.2.1 d_AckBookModel_send_101 rfl (lv_at hl 4 rfl) ?_
    refine x_stI hC hZ h d_AckBookModel_send_102 (fun w H locs hZ h => ?_)
    refine x_aload_n hC d_AckBookModel_send_103 rfl (lv_at hl 2 rfl) ?_
    refine x_getR hC hZ zc10 h (by decide) t_825 (fun _ h9 => h9) d_AckBookModel_send_104 (fun r6 h => ?_)
    refine lv_iload hC.1 hC.2.1 d_AckBookModel_send_107 (lv_at hl 0 rfl) ?_
    refine x_aload_n hC d_AckBookModel_send_109 rfl (lv_at hl 2 rfl) ?_
    refine x_getI hC hZ zc10 h (by decide) t_820 (fun _ h9 => h9) d_AckBookModel_send_110 (fun v7 h => ?_)
    refine x_stI hC hZ h d_AckBookModel_send_113 (fun w H locs hZ h => ?_)
    refine x_aload_n hC d_AckBookModel_send_114 rfl (lv_at hl 2 rfl) ?_
    refine x_getR hC hZ zc10 h (by decide) t_826 (fun _ h9 => h9) d_AckBookModel_send_115 (fun r8 h => ?_)
    refine lv_iload hC.1 hC.2.1 d_AckBookModel_send_118 (lv_at hl 0 rfl) ?_
    refine lv_iconst (v := (0 : Int32)) hC.1 hC.2.1 d_AckBookModel_send_120 (by decide) ?_
    refine x_stI hC hZ h d_AckBookModel_send_121 (fun w H locs hZ h => ?_)
    refine x_aload_n hC d_AckBookModel_send_122 rfl (lv_at hl 2 rfl) ?_
    refine x_getR hC hZ zc10 h (by decide) t_827 (fun _ h9 => h9) d_AckBookModel_send_123 (fun r9 h => ?_)
    refine lv_iload hC.1 hC.2.1 d_AckBookModel_send_126 (lv_at hl 0 rfl) ?_
    refine lv_iload_n hC.1 hC.2.1 d_AckBookModel_send_128 rfl (lv_at hl 5 rfl) ?_
    refine x_stZ hC hZ h d_AckBookModel_send_129 (fun w H locs hZ h => ?_)
    refine x_aload_n hC d_AckBookModel_send_130 rfl (lv_at hl 2 rfl) ?_
    refine x_getR hC hZ zc10 h (by decide) t_828 (fun _ h9 => h9) d_AckBookModel_send_131 (fun r10 h => ?_)
    refine lv_iload hC.1 hC.2.1 d_AckBookModel_send_134 (lv_at hl 0 rfl) ?_
    refine lv_iload hC.1 hC.2.1 d_AckBookModel_send_136 (lv_at hl 6 rfl) ?_
    refine x_stZ hC hZ h d_AckBookModel_send_138 (fun w H locs hZ h => ?_)
    refine x_aload_n hC d_AckBookModel_send_139 rfl (lv_at hl 2 rfl) ?_
    refine x_getR hC hZ zc10 h (by decide) t_823 (fun _ h9 => h9) d_AckBookModel_send_140 (fun r11 h => ?_)
    refine lv_iload_n hC.1 hC.2.1 d_AckBookModel_send_143 rfl (lv_at hl 3 rfl) ?_
    refine lv_dup2_11 hC.1 hC.2.1 d_AckBookModel_send_144 rfl (z_rfc _) ?_
    refine x_ldI hC hZ h d_AckBookModel_send_145 (fun v12 h => ?_)
    refine lv_iconst (v := (1 : Int32)) hC.1 hC.2.1 d_AckBookModel_send_146 (by decide) ?_
    refine lv_iadd hC.1 hC.2.1 d_AckBookModel_send_147 ?_
    refine x_stI hC hZ h d_AckBookModel_send_148 (fun w H locs hZ h => ?_)
    refine x_aload_n hC d_AckBookModel_send_149 rfl (lv_at hl 2 rfl) ?_
    refine x_aload_n hC d_AckBookModel_send_150 rfl (lv_at hl 2 rfl) ?_
    refine x_getI hC hZ zc10 h (by decide) t_820 (fun _ h9 => h9) d_AckBookModel_send_151 (fun v13 h => ?_)
    refine x_put hC hZ zc10 h (by decide) t_833 (fun _ h9 => h9) rfl rfl rfl rfl d_AckBookModel_send_154 (fun w H locs hZ h => ?_)
    refine x_aload_n hC d_AckBookModel_send_157 rfl (lv_at hl 2 rfl) ?_
    refine x_getR hC hZ zc10 h (by decide) t_829 (fun _ h9 => h9) d_AckBookModel_send_158 (fun r14 h => ?_)
    refine lv_iload hC.1 hC.2.1 d_AckBookModel_send_161 (lv_at hl 0 rfl) ?_
    refine x_aload_n hC d_AckBookModel_send_163 rfl (lv_at hl 2 rfl) ?_
    obtain ⟨a_, fs_, eo_, h⟩ := z_this_spec h
    obtain ⟨w1_, o1_, hF_, ha_⟩ := z_cI_spec h
    refine x_goes hC hRc hRs hFr ha_ (z_goV (As := []) hC hZ zc10 eo_ (k_AckBookModel_flight hT hfl hE _ _ hF_) t_951 t_953 ts_AckBookModel_flight t_12 t_954 ⟨by decide, by decide, (by decide +kernel : (parseMethodDescriptor y_AckBookModel_flight.desc).map (fun d => d.parameters.length) = some 0)⟩ (by rw [hRt.1]; decide) (by rw [hRt.2]; decide) hl.1 rfl (by first | exact Nat.le_of_ble_eq_true rfl | simp [z_rfc, z_ci, z_cj]) d_AckBookModel_send_164) (fun v_ hv H locs cells slots hZ => ?_)
    obtain ⟨v16, rfl, h⟩ := hv
    generalize w1_ = w at h hZ
    refine x_aload_n hC d_AckBookModel_send_167 rfl (lv_at hl 2 rfl) ?_
    refine x_getI hC hZ zc10 h (by decide) t_843 (fun _ h9 => h9) d_AckBookModel_send_168 (fun v17 h => ?_)
    refine lv_sipush (v := (1200 : Int32)) hC.1 hC.2.1 d_AckBookModel_send_171 (by decide) ?_
    refine lv_isub hC.1 hC.2.1 d_AckBookModel_send_174 ?_
    refine lv_icmp_le (tgt := 182) hC.1 hC.2.1 d_AckBookModel_send_175 (by decide) (fun hc => ?_) (fun hc => ?_)
    · have h := z_ifp hc h
      refine lv_iconst (v := (0 : Int32)) hC.1 hC.2.1 d_AckBookModel_send_182 (by decide) ?_
      refine x_stZ hC hZ h d_AckBookModel_send_183 (fun w H locs hZ h => ?_)
      refine lv_iload hC.1 hC.2.1 d_AckBookModel_send_184 (lv_at hl 1 rfl) ?_
      exact x_iret hC hRc hRs hZ hr rfl h d_AckBookModel_send_186
    · have h := z_ifn hc h
      refine lv_iconst (v := (1 : Int32)) hC.1 hC.2.1 d_AckBookModel_send_178 (by decide) ?_
      refine lv_goto (tgt := 183) hC.1 hC.2.1 d_AckBookModel_send_179 (by decide) ?_
      refine x_stZ hC hZ h d_AckBookModel_send_183 (fun w H locs hZ h => ?_)
      refine lv_iload hC.1 hC.2.1 d_AckBookModel_send_184 (lv_at hl 1 rfl) ?_
      exact x_iret hC hRc hRs hZ hr rfl h d_AckBookModel_send_186
  · have h := z_ifn hc h
    refine lv_iconst (v := (0 : Int32)) hC.1 hC.2.1 d_AckBookModel_send_75 (by decide) ?_
    exact x_iret hC hRc hRs hZ hr rfl h d_AckBookModel_send_76
def q_AckBookModel_send_63 (F X : Nat) (rL0 : Option Nat) (xL1 : Int32) (xL2 : Int32) (xL3 : Int32) (xL4 : Int32) (rS0 : Option Nat) (w : zW) : zR :=
  q_AckBookModel_send_68 F X rL0 xL1 xL2 xL3 xL4 rS0 (1 : Int32) w
set_option maxHeartbeats 4000000 in
set_option maxRecDepth 100000 in
theorem kq_AckBookModel_send_63 {b0 : Nat} {H0 : Heap} {D : va_G} {vu vs : Value} {X M : Nat} {l : Launch} (hT : z_TB (zGG b0 H0 D vu vs X M)) (hfl : l.flags = pinnedFlags ++ [noTraceFlag]) (hE : vu.isRef = true ∧ vs.isRef = true) {p : Program} {e : Env} {R : Room} {s : State} {m : MethodId} {args : Array Value} {below : List Frame} {meth : Method} {c : Code} {w0 : zW} {F : Nat} (hC : z_C (zGG b0 H0 D vu vs X M) p e s m meth c c_AckBookModel_send 7 y_AckBookModel_send.cls) (hr : meth.sig.returnType = (some FieldType.int)) (hRc : R.cells = w0.2.1) (hRs : R.slots = w0.2.2.1) (hFr : c.exceptionTable.toList = []) (hRt : R.frames = 2 ∧ R.locals = 45) (hnm : meth.name = y_AckBookModel_send.name) (rL0 : Option Nat) (xL1 : Int32) (xL2 : Int32) (xL3 : Int32) (xL4 : Int32) (rS0 : Option Nat) (w : zW) (res : zO × zW) (h : q_AckBookModel_send_63 F X rL0 xL1 xL2 xL3 xL4 rS0 w = some res) (H : Heap) (locs : List Loc) (cells slots : Nat) (ls : Array Slot) (hZ : z_Z (zGG b0 H0 D vu vs X M) R s w H locs cells slots) (hl : lv_has ls 7 [(0, va_rf rL0), (1, .int xL1), (2, .int xL2), (3, .int xL3), (4, .int xL4)]) : W p l e R s m args below meth c H locs cells slots (z_Q (zGG b0 H0 D vu vs X M) below s w0 res) (F0 m 63 ls [va_rf rS0]) := by
  unfold q_AckBookModel_send_63 at h
  refine lv_iconst (v := (1 : Int32)) hC.1 hC.2.1 d_AckBookModel_send_63 (by decide) ?_
  refine lv_goto (tgt := 68) hC.1 hC.2.1 d_AckBookModel_send_64 (by decide) ?_
  exact kq_AckBookModel_send_68 hT hfl hE hC hr hRc hRs hFr hRt hnm _ _ _ _ _ _ _ _ _ h _ _ _ _ _ hZ (lv_sub hl [0, 1, 2, 3, 4] rfl)
def q_AckBookModel_send_34 (F X : Nat) (rL0 : Option Nat) (xL1 : Int32) (xL2 : Int32) (xL3 : Int32) (xL4 : Int32) (rS0 : Option Nat) (xS1 : Int32) (w : zW) : zR :=
  z_this w 10 rS0 <|
  z_cI (f_AckBookModel_fails F X rS0 xS1 (1 : Int32) w) fun v19 w =>
  if v19 = 0 then (
    z_getR w 10 11 rL0 fun r20 =>
    z_ldI w .boolean r20 xL1 fun v21 =>
    if v21 = 0 then (
      z_getR w 10 4 rL0 fun r22 =>
      z_ldI w .int r22 xL1 fun v23 =>
      if v23 = (4096 : Int32) then (
        q_AckBookModel_send_63 F X rL0 xL1 xL2 xL3 xL4 rL0 w)
      else (
        q_AckBookModel_send_68 F X rL0 xL1 xL2 xL3 xL4 rL0 (0 : Int32) w))
    else (
      q_AckBookModel_send_63 F X rL0 xL1 xL2 xL3 xL4 rL0 w))
  else (
    some (.inl (some (.int (0 : Int32))), w))
set_option maxHeartbeats 4000000 in
set_option maxRecDepth 100000 in
theorem kq_AckBookModel_send_34 {b0 : Nat} {H0 : Heap} {D : va_G} {vu vs : Value} {X M : Nat} {l : Launch} (hT : z_TB (zGG b0 H0 D vu vs X M)) (hfl : l.flags = pinnedFlags ++ [noTraceFlag]) (hE : vu.isRef = true ∧ vs.isRef = true) {p : Program} {e : Env} {R : Room} {s : State} {m : MethodId} {args : Array Value} {below : List Frame} {meth : Method} {c : Code} {w0 : zW} {F : Nat} (hC : z_C (zGG b0 H0 D vu vs X M) p e s m meth c c_AckBookModel_send 7 y_AckBookModel_send.cls) (hr : meth.sig.returnType = (some FieldType.int)) (hRc : R.cells = w0.2.1) (hRs : R.slots = w0.2.2.1) (hFr : c.exceptionTable.toList = []) (hRt : R.frames = 2 ∧ R.locals = 45) (hnm : meth.name = y_AckBookModel_send.name) (rL0 : Option Nat) (xL1 : Int32) (xL2 : Int32) (xL3 : Int32) (xL4 : Int32) (rS0 : Option Nat) (xS1 : Int32) (w : zW) (res : zO × zW) (h : q_AckBookModel_send_34 F X rL0 xL1 xL2 xL3 xL4 rS0 xS1 w = some res) (H : Heap) (locs : List Loc) (cells slots : Nat) (ls : Array Slot) (hZ : z_Z (zGG b0 H0 D vu vs X M) R s w H locs cells slots) (hl : lv_has ls 7 [(0, va_rf rL0), (1, .int xL1), (2, .int xL2), (3, .int xL3), (4, .int xL4)]) : W p l e R s m args below meth c H locs cells slots (z_Q (zGG b0 H0 D vu vs X M) below s w0 res) (F0 m 34 ls [.int xS1, va_rf rS0]) := by
  unfold q_AckBookModel_send_34 at h
  refine lv_iconst (v := (1 : Int32)) hC.1 hC.2.1 d_AckBookModel_send_34 (by decide) ?_
  obtain ⟨a_, fs_, eo_, h⟩ := z_this_spec h
  obtain ⟨w1_, o1_, hF_, ha_⟩ := z_cI_spec h
  refine x_goes hC hRc hRs hFr ha_ (z_goV (As := [.int xS1, .int (1 : Int32)]) hC hZ zc10 eo_ (k_AckBookModel_fails hT hfl hE _ _ hF_) t_947 t_949 ts_AckBookModel_fails t_12 t_950 ⟨by decide, by decide, (by decide +kernel : (parseMethodDescriptor y_AckBookModel_fails.desc).map (fun d => d.parameters.length) = some 2)⟩ (by rw [hRt.1]; decide) (by rw [hRt.2]; decide) hl.1 rfl (by first | exact Nat.le_of_ble_eq_true rfl | simp [z_rfc, z_ci, z_cj]) d_AckBookModel_send_35) (fun v_ hv H locs cells slots hZ => ?_)
  obtain ⟨v19, rfl, h⟩ := hv
  generalize w1_ = w at h hZ
  refine lv_if_ne (tgt := 75) hC.1 hC.2.1 d_AckBookModel_send_38 (by decide) (fun hc => ?_) (fun hc => ?_)
  · have h := z_ifn hc h
    refine lv_iconst (v := (0 : Int32)) hC.1 hC.2.1 d_AckBookModel_send_75 (by decide) ?_
    exact x_iret hC hRc hRs hZ hr rfl h d_AckBookModel_send_76
  · have h := z_ifp hc h
    refine x_aload_n hC d_AckBookModel_send_41 rfl (lv_at hl 0 rfl) ?_
    refine x_aload_n hC d_AckBookModel_send_42 rfl (lv_at hl 0 rfl) ?_
    refine x_getR hC hZ zc10 h (by decide) t_830 (fun _ h9 => h9) d_AckBookModel_send_43 (fun r20 h => ?_)
    refine lv_iload_n hC.1 hC.2.1 d_AckBookModel_send_46 rfl (lv_at hl 1 rfl) ?_
    refine x_ldZ hC hZ h d_AckBookModel_send_47 (fun v21 h => ?_)
    refine lv_if_ne (tgt := 63) hC.1 hC.2.1 d_AckBookModel_send_48 (by decide) (fun hc => ?_) (fun hc => ?_)
    · have h := z_ifn hc h
      exact kq_AckBookModel_send_63 hT hfl hE hC hr hRc hRs hFr hRt hnm _ _ _ _ _ _ _ _ h _ _ _ _ _ hZ (lv_sub hl [0, 1, 2, 3, 4] rfl)
    · have h := z_ifp hc h
      refine x_aload_n hC d_AckBookModel_send_51 rfl (lv_at hl 0 rfl) ?_
      refine x_getR hC hZ zc10 h (by decide) t_823 (fun _ h9 => h9) d_AckBookModel_send_52 (fun r22 h => ?_)
      refine lv_iload_n hC.1 hC.2.1 d_AckBookModel_send_55 rfl (lv_at hl 1 rfl) ?_
      refine x_ldI hC hZ h d_AckBookModel_send_56 (fun v23 h => ?_)
      refine lv_sipush (v := (4096 : Int32)) hC.1 hC.2.1 d_AckBookModel_send_57 (by decide) ?_
      refine lv_icmp_ne (tgt := 67) hC.1 hC.2.1 d_AckBookModel_send_60 (by decide) (fun hc => ?_) (fun hc => ?_)
      · have h := z_ifn hc h
        refine lv_iconst (v := (0 : Int32)) hC.1 hC.2.1 d_AckBookModel_send_67 (by decide) ?_
        exact kq_AckBookModel_send_68 hT hfl hE hC hr hRc hRs hFr hRt hnm _ _ _ _ _ _ _ _ _ h _ _ _ _ _ hZ (lv_sub hl [0, 1, 2, 3, 4] rfl)
      · have h := z_ifp hc h
        exact kq_AckBookModel_send_63 hT hfl hE hC hr hRc hRs hFr hRt hnm _ _ _ _ _ _ _ _ h _ _ _ _ _ hZ (lv_sub hl [0, 1, 2, 3, 4] rfl)
def q_AckBookModel_send_33 (F X : Nat) (rL0 : Option Nat) (xL1 : Int32) (xL2 : Int32) (xL3 : Int32) (xL4 : Int32) (rS0 : Option Nat) (w : zW) : zR :=
  q_AckBookModel_send_34 F X rL0 xL1 xL2 xL3 xL4 rS0 (0 : Int32) w
set_option maxHeartbeats 4000000 in
set_option maxRecDepth 100000 in
theorem kq_AckBookModel_send_33 {b0 : Nat} {H0 : Heap} {D : va_G} {vu vs : Value} {X M : Nat} {l : Launch} (hT : z_TB (zGG b0 H0 D vu vs X M)) (hfl : l.flags = pinnedFlags ++ [noTraceFlag]) (hE : vu.isRef = true ∧ vs.isRef = true) {p : Program} {e : Env} {R : Room} {s : State} {m : MethodId} {args : Array Value} {below : List Frame} {meth : Method} {c : Code} {w0 : zW} {F : Nat} (hC : z_C (zGG b0 H0 D vu vs X M) p e s m meth c c_AckBookModel_send 7 y_AckBookModel_send.cls) (hr : meth.sig.returnType = (some FieldType.int)) (hRc : R.cells = w0.2.1) (hRs : R.slots = w0.2.2.1) (hFr : c.exceptionTable.toList = []) (hRt : R.frames = 2 ∧ R.locals = 45) (hnm : meth.name = y_AckBookModel_send.name) (rL0 : Option Nat) (xL1 : Int32) (xL2 : Int32) (xL3 : Int32) (xL4 : Int32) (rS0 : Option Nat) (w : zW) (res : zO × zW) (h : q_AckBookModel_send_33 F X rL0 xL1 xL2 xL3 xL4 rS0 w = some res) (H : Heap) (locs : List Loc) (cells slots : Nat) (ls : Array Slot) (hZ : z_Z (zGG b0 H0 D vu vs X M) R s w H locs cells slots) (hl : lv_has ls 7 [(0, va_rf rL0), (1, .int xL1), (2, .int xL2), (3, .int xL3), (4, .int xL4)]) : W p l e R s m args below meth c H locs cells slots (z_Q (zGG b0 H0 D vu vs X M) below s w0 res) (F0 m 33 ls [va_rf rS0]) := by
  unfold q_AckBookModel_send_33 at h
  refine lv_iconst (v := (0 : Int32)) hC.1 hC.2.1 d_AckBookModel_send_33 (by decide) ?_
  exact kq_AckBookModel_send_34 hT hfl hE hC hr hRc hRs hFr hRt hnm _ _ _ _ _ _ _ _ _ h _ _ _ _ _ hZ (lv_sub hl [0, 1, 2, 3, 4] rfl)
def q_AckBookModel_send_29 (F X : Nat) (rL0 : Option Nat) (xL1 : Int32) (xL2 : Int32) (xL3 : Int32) (xL4 : Int32) (rS0 : Option Nat) (w : zW) : zR :=
  q_AckBookModel_send_34 F X rL0 xL1 xL2 xL3 xL4 rS0 (1 : Int32) w
set_option maxHeartbeats 4000000 in
set_option maxRecDepth 100000 in
theorem kq_AckBookModel_send_29 {b0 : Nat} {H0 : Heap} {D : va_G} {vu vs : Value} {X M : Nat} {l : Launch} (hT : z_TB (zGG b0 H0 D vu vs X M)) (hfl : l.flags = pinnedFlags ++ [noTraceFlag]) (hE : vu.isRef = true ∧ vs.isRef = true) {p : Program} {e : Env} {R : Room} {s : State} {m : MethodId} {args : Array Value} {below : List Frame} {meth : Method} {c : Code} {w0 : zW} {F : Nat} (hC : z_C (zGG b0 H0 D vu vs X M) p e s m meth c c_AckBookModel_send 7 y_AckBookModel_send.cls) (hr : meth.sig.returnType = (some FieldType.int)) (hRc : R.cells = w0.2.1) (hRs : R.slots = w0.2.2.1) (hFr : c.exceptionTable.toList = []) (hRt : R.frames = 2 ∧ R.locals = 45) (hnm : meth.name = y_AckBookModel_send.name) (rL0 : Option Nat) (xL1 : Int32) (xL2 : Int32) (xL3 : Int32) (xL4 : Int32) (rS0 : Option Nat) (w : zW) (res : zO × zW) (h : q_AckBookModel_send_29 F X rL0 xL1 xL2 xL3 xL4 rS0 w = some res) (H : Heap) (locs : List Loc) (cells slots : Nat) (ls : Array Slot) (hZ : z_Z (zGG b0 H0 D vu vs X M) R s w H locs cells slots) (hl : lv_has ls 7 [(0, va_rf rL0), (1, .int xL1), (2, .int xL2), (3, .int xL3), (4, .int xL4)]) : W p l e R s m args below meth c H locs cells slots (z_Q (zGG b0 H0 D vu vs X M) below s w0 res) (F0 m 29 ls [va_rf rS0]) := by
  unfold q_AckBookModel_send_29 at h
  refine lv_iconst (v := (1 : Int32)) hC.1 hC.2.1 d_AckBookModel_send_29 (by decide) ?_
  refine lv_goto (tgt := 34) hC.1 hC.2.1 d_AckBookModel_send_30 (by decide) ?_
  exact kq_AckBookModel_send_34 hT hfl hE hC hr hRc hRs hFr hRt hnm _ _ _ _ _ _ _ _ _ h _ _ _ _ _ hZ (lv_sub hl [0, 1, 2, 3, 4] rfl)
def f_AckBookModel_send (F X : Nat) (a0 : Option Nat) (pI1 : Int32) (pI2 : Int32) (pI3 : Int32) (pI4 : Int32) (w : zW) : zR :=
  z_cI (f_AckBookModel_noSpace F X pI1 w) fun v25 w =>
  if v25 = 0 then (
    if pI2 < (1 : Int32) then (
      q_AckBookModel_send_29 F X a0 pI1 pI2 pI3 pI4 a0 w)
    else (
      if (1200 : Int32) < pI2 then (
        q_AckBookModel_send_29 F X a0 pI1 pI2 pI3 pI4 a0 w)
      else (
        if pI3 = 0 then (
          q_AckBookModel_send_33 F X a0 pI1 pI2 pI3 pI4 a0 w)
        else (
          if pI4 = 0 then (
            q_AckBookModel_send_29 F X a0 pI1 pI2 pI3 pI4 a0 w)
          else (
            q_AckBookModel_send_33 F X a0 pI1 pI2 pI3 pI4 a0 w)))))
  else (
    q_AckBookModel_send_29 F X a0 pI1 pI2 pI3 pI4 a0 w)
set_option maxHeartbeats 4000000 in
set_option maxRecDepth 100000 in
theorem k_AckBookModel_send {b0 : Nat} {H0 : Heap} {D : va_G} {vu vs : Value} {X M : Nat} {l : Launch} (hT : z_TB (zGG b0 H0 D vu vs X M)) (hfl : l.flags = pinnedFlags ++ [noTraceFlag]) (hE : vu.isRef = true ∧ vs.isRef = true) {a0 : Option Nat} {pI1 : Int32} {pI2 : Int32} {pI3 : Int32} {pI4 : Int32} (F : Nat) {w : zW} (res : zO × zW) (h : f_AckBookModel_send F X a0 pI1 pI2 pI3 pI4 w = some res) : z_Ct (zGG b0 H0 D vu vs X M) l y_AckBookModel_send (.code y_AckBookModel_send c_AckBookModel_send 7 (some FieldType.int)) 2 45 [va_rf a0, .int pI1, .int pI2, .int pI3, .int pI4] w res := by
  refine z_ct hT hfl (by decide) (by simp only [z_sl_i, z_sl_j, z_sl_r, z_sl_n]; decide) ?_
  intro p e R s m args below meth c hC hr hRc hRs hRt hnm hFr H ls hZ hl
  simp only [z_la_i, z_la_j, z_la_r, z_la_n] at hl
  have hl : lv_has ls 7 [(0, va_rf a0), (1, .int pI1), (2, .int pI2), (3, .int pI3), (4, .int pI4)] := hl
  unfold f_AckBookModel_send at h
  refine x_aload_n hC d_AckBookModel_send_0 rfl (lv_at hl 0 rfl) ?_
  refine lv_iload_n hC.1 hC.2.1 d_AckBookModel_send_1 rfl (lv_at hl 1 rfl) ?_
  obtain ⟨w1_, o1_, hF_, ha_⟩ := z_cI_spec h
  refine x_goes hC hRc hRs hFr ha_ (z_goS (As := [.int pI1]) hC hZ (k_AckBookModel_noSpace hT hfl hE _ _ hF_) t_944 t_945 t_12 t_946 ⟨by decide, by decide, (by decide +kernel : (parseMethodDescriptor y_AckBookModel_noSpace.desc).map (fun d => d.parameters.length) = some 1)⟩ (by rw [hRt.1]; decide) (by rw [hRt.2]; decide) hl.1 rfl (by first | exact Nat.le_of_ble_eq_true rfl | simp [z_rfc, z_ci, z_cj]) d_AckBookModel_send_2) (fun v_ hv H locs cells slots hZ => ?_)
  obtain ⟨v25, rfl, h⟩ := hv
  generalize w1_ = w at h hZ
  refine lv_if_ne (tgt := 29) hC.1 hC.2.1 d_AckBookModel_send_5 (by decide) (fun hc => ?_) (fun hc => ?_)
  · have h := z_ifn hc h
    exact kq_AckBookModel_send_29 hT hfl hE hC hr hRc hRs hFr hRt hnm _ _ _ _ _ _ _ _ h _ _ _ _ _ hZ (lv_sub hl [0, 1, 2, 3, 4] rfl)
  · have h := z_ifp hc h
    refine lv_iload_n hC.1 hC.2.1 d_AckBookModel_send_8 rfl (lv_at hl 2 rfl) ?_
    refine lv_iconst (v := (1 : Int32)) hC.1 hC.2.1 d_AckBookModel_send_9 (by decide) ?_
    refine lv_icmp_lt (tgt := 29) hC.1 hC.2.1 d_AckBookModel_send_10 (by decide) (fun hc => ?_) (fun hc => ?_)
    · have h := z_ifp hc h
      exact kq_AckBookModel_send_29 hT hfl hE hC hr hRc hRs hFr hRt hnm _ _ _ _ _ _ _ _ h _ _ _ _ _ hZ (lv_sub hl [0, 1, 2, 3, 4] rfl)
    · have h := z_ifn hc h
      refine lv_iload_n hC.1 hC.2.1 d_AckBookModel_send_13 rfl (lv_at hl 2 rfl) ?_
      refine lv_sipush (v := (1200 : Int32)) hC.1 hC.2.1 d_AckBookModel_send_14 (by decide) ?_
      refine lv_icmp_gt (tgt := 29) hC.1 hC.2.1 d_AckBookModel_send_17 (by decide) (fun hc => ?_) (fun hc => ?_)
      · have h := z_ifp hc h
        exact kq_AckBookModel_send_29 hT hfl hE hC hr hRc hRs hFr hRt hnm _ _ _ _ _ _ _ _ h _ _ _ _ _ hZ (lv_sub hl [0, 1, 2, 3, 4] rfl)
      · have h := z_ifn hc h
        refine lv_iload_n hC.1 hC.2.1 d_AckBookModel_send_20 rfl (lv_at hl 3 rfl) ?_
        refine lv_if_eq (tgt := 33) hC.1 hC.2.1 d_AckBookModel_send_21 (by decide) (fun hc => ?_) (fun hc => ?_)
        · have h := z_ifp hc h
          exact kq_AckBookModel_send_33 hT hfl hE hC hr hRc hRs hFr hRt hnm _ _ _ _ _ _ _ _ h _ _ _ _ _ hZ (lv_sub hl [0, 1, 2, 3, 4] rfl)
        · have h := z_ifn hc h
          refine lv_iload hC.1 hC.2.1 d_AckBookModel_send_24 (lv_at hl 4 rfl) ?_
          refine lv_if_ne (tgt := 33) hC.1 hC.2.1 d_AckBookModel_send_26 (by decide) (fun hc => ?_) (fun hc => ?_)
          · have h := z_ifn hc h
            exact kq_AckBookModel_send_33 hT hfl hE hC hr hRc hRs hFr hRt hnm _ _ _ _ _ _ _ _ h _ _ _ _ _ hZ (lv_sub hl [0, 1, 2, 3, 4] rfl)
          · have h := z_ifp hc h
            exact kq_AckBookModel_send_29 hT hfl hE hC hr hRc hRs hFr hRt hnm _ _ _ _ _ _ _ _ h _ _ _ _ _ hZ (lv_sub hl [0, 1, 2, 3, 4] rfl)
def q_AckBookModel_span_67 (F X : Nat) (rL0 : Option Nat) (yL1 : Int64) (yL3 : Int64) (rS0 : Option Nat) (xS1 : Int32) (w : zW) : zR :=
  z_this w 10 rS0 <|
  z_cI (f_AckBookModel_fails F X rS0 xS1 (2 : Int32) w) fun v2 w =>
  if v2 = 0 then (
    z_getR w 10 28 rL0 fun r3 =>
    z_getI w 10 27 rL0 fun v4 =>
    z_stL w r3 v4 yL1 fun w =>
    z_getR w 10 29 rL0 fun r5 =>
    z_getI w 10 27 rL0 fun v6 =>
    z_stL w r5 v6 yL3 fun w =>
    z_getI w 10 27 rL0 fun v7 =>
    z_put w 10 27 rL0 (.int (v7 + (1 : Int32))) fun w =>
    z_getI w 10 27 rL0 fun v8 =>
    some (.inl (some (.int v8)), w))
  else (
    some (.inl (some (.int (0 : Int32))), w))
set_option maxHeartbeats 4000000 in
set_option maxRecDepth 100000 in
theorem kq_AckBookModel_span_67 {b0 : Nat} {H0 : Heap} {D : va_G} {vu vs : Value} {X M : Nat} {l : Launch} (hT : z_TB (zGG b0 H0 D vu vs X M)) (hfl : l.flags = pinnedFlags ++ [noTraceFlag]) (hE : vu.isRef = true ∧ vs.isRef = true) {p : Program} {e : Env} {R : Room} {s : State} {m : MethodId} {args : Array Value} {below : List Frame} {meth : Method} {c : Code} {w0 : zW} {F : Nat} (hC : z_C (zGG b0 H0 D vu vs X M) p e s m meth c c_AckBookModel_span 5 y_AckBookModel_span.cls) (hr : meth.sig.returnType = (some FieldType.int)) (hRc : R.cells = w0.2.1) (hRs : R.slots = w0.2.2.1) (hFr : c.exceptionTable.toList = []) (hRt : R.frames = 1 ∧ R.locals = 22) (hnm : meth.name = y_AckBookModel_span.name) (rL0 : Option Nat) (yL1 : Int64) (yL3 : Int64) (rS0 : Option Nat) (xS1 : Int32) (w : zW) (res : zO × zW) (h : q_AckBookModel_span_67 F X rL0 yL1 yL3 rS0 xS1 w = some res) (H : Heap) (locs : List Loc) (cells slots : Nat) (ls : Array Slot) (hZ : z_Z (zGG b0 H0 D vu vs X M) R s w H locs cells slots) (hl : lv_has ls 5 [(0, va_rf rL0), (1, .long yL1), (3, .long yL3)]) : W p l e R s m args below meth c H locs cells slots (z_Q (zGG b0 H0 D vu vs X M) below s w0 res) (F0 m 67 ls [.int xS1, va_rf rS0]) := by
  unfold q_AckBookModel_span_67 at h
  refine lv_iconst (v := (2 : Int32)) hC.1 hC.2.1 d_AckBookModel_span_67 (by decide) ?_
  obtain ⟨a_, fs_, eo_, h⟩ := z_this_spec h
  obtain ⟨w1_, o1_, hF_, ha_⟩ := z_cI_spec h
  refine x_goes hC hRc hRs hFr ha_ (z_goV (As := [.int xS1, .int (2 : Int32)]) hC hZ zc10 eo_ (k_AckBookModel_fails hT hfl hE _ _ hF_) t_947 t_949 ts_AckBookModel_fails t_12 t_950 ⟨by decide, by decide, (by decide +kernel : (parseMethodDescriptor y_AckBookModel_fails.desc).map (fun d => d.parameters.length) = some 2)⟩ (by rw [hRt.1]; decide) (by rw [hRt.2]; decide) hl.1 rfl (by first | exact Nat.le_of_ble_eq_true rfl | simp [z_rfc, z_ci, z_cj]) d_AckBookModel_span_68) (fun v_ hv H locs cells slots hZ => ?_)
  obtain ⟨v2, rfl, h⟩ := hv
  generalize w1_ = w at h hZ
  refine lv_if_eq (tgt := 76) hC.1 hC.2.1 d_AckBookModel_span_71 (by decide) (fun hc => ?_) (fun hc => ?_)
  · have h := z_ifp hc h
    refine x_aload_n hC d_AckBookModel_span_76 rfl (lv_at hl 0 rfl) ?_
    refine x_getR hC hZ zc10 h (by decide) t_847 (fun _ h9 => h9) d_AckBookModel_span_77 (fun r3 h => ?_)
    refine x_aload_n hC d_AckBookModel_span_80 rfl (lv_at hl 0 rfl) ?_
    refine x_getI hC hZ zc10 h (by decide) t_846 (fun _ h9 => h9) d_AckBookModel_span_81 (fun v4 h => ?_)
    refine lv_lload_n hC.1 hC.2.1 d_AckBookModel_span_84 rfl (lv_at hl 1 rfl) ?_
    refine x_stL hC hZ h d_AckBookModel_span_85 (fun w H locs hZ h => ?_)
    refine x_aload_n hC d_AckBookModel_span_86 rfl (lv_at hl 0 rfl) ?_
    refine x_getR hC hZ zc10 h (by decide) t_848 (fun _ h9 => h9) d_AckBookModel_span_87 (fun r5 h => ?_)
    refine x_aload_n hC d_AckBookModel_span_90 rfl (lv_at hl 0 rfl) ?_
    refine x_getI hC hZ zc10 h (by decide) t_846 (fun _ h9 => h9) d_AckBookModel_span_91 (fun v6 h => ?_)
    refine lv_lload_n hC.1 hC.2.1 d_AckBookModel_span_94 rfl (lv_at hl 2 rfl) ?_
    refine x_stL hC hZ h d_AckBookModel_span_95 (fun w H locs hZ h => ?_)
    refine x_aload_n hC d_AckBookModel_span_96 rfl (lv_at hl 0 rfl) ?_
    refine lv_dup hC.1 hC.2.1 d_AckBookModel_span_97 (z_rfc _) ?_
    refine x_getI hC hZ zc10 h (by decide) t_846 (fun _ h9 => h9) d_AckBookModel_span_98 (fun v7 h => ?_)
    refine lv_iconst (v := (1 : Int32)) hC.1 hC.2.1 d_AckBookModel_span_101 (by decide) ?_
    refine lv_iadd hC.1 hC.2.1 d_AckBookModel_span_102 ?_
    refine x_put hC hZ zc10 h (by decide) t_846 (fun _ h9 => h9) rfl rfl rfl rfl d_AckBookModel_span_103 (fun w H locs hZ h => ?_)
    refine x_aload_n hC d_AckBookModel_span_106 rfl (lv_at hl 0 rfl) ?_
    refine x_getI hC hZ zc10 h (by decide) t_846 (fun _ h9 => h9) d_AckBookModel_span_107 (fun v8 h => ?_)
    exact x_iret hC hRc hRs hZ hr rfl h d_AckBookModel_span_110
  · have h := z_ifn hc h
    refine lv_iconst (v := (0 : Int32)) hC.1 hC.2.1 d_AckBookModel_span_74 (by decide) ?_
    exact x_iret hC hRc hRs hZ hr rfl h d_AckBookModel_span_75
def q_AckBookModel_span_45 (F X : Nat) (rL0 : Option Nat) (yL1 : Int64) (yL3 : Int64) (rS0 : Option Nat) (xS1 : Int32) (w : zW) : zR :=
  z_this w 10 rS0 <|
  z_cI (f_AckBookModel_fails F X rS0 xS1 (1 : Int32) w) fun v10 w =>
  if v10 = 0 then (
    z_getI w 10 27 rL0 fun v11 =>
    if v11 = (64 : Int32) then (
      q_AckBookModel_span_67 F X rL0 yL1 yL3 rL0 (1 : Int32) w)
    else (
      q_AckBookModel_span_67 F X rL0 yL1 yL3 rL0 (0 : Int32) w))
  else (
    some (.inl (some (.int (0 : Int32))), w))
set_option maxHeartbeats 4000000 in
set_option maxRecDepth 100000 in
theorem kq_AckBookModel_span_45 {b0 : Nat} {H0 : Heap} {D : va_G} {vu vs : Value} {X M : Nat} {l : Launch} (hT : z_TB (zGG b0 H0 D vu vs X M)) (hfl : l.flags = pinnedFlags ++ [noTraceFlag]) (hE : vu.isRef = true ∧ vs.isRef = true) {p : Program} {e : Env} {R : Room} {s : State} {m : MethodId} {args : Array Value} {below : List Frame} {meth : Method} {c : Code} {w0 : zW} {F : Nat} (hC : z_C (zGG b0 H0 D vu vs X M) p e s m meth c c_AckBookModel_span 5 y_AckBookModel_span.cls) (hr : meth.sig.returnType = (some FieldType.int)) (hRc : R.cells = w0.2.1) (hRs : R.slots = w0.2.2.1) (hFr : c.exceptionTable.toList = []) (hRt : R.frames = 1 ∧ R.locals = 22) (hnm : meth.name = y_AckBookModel_span.name) (rL0 : Option Nat) (yL1 : Int64) (yL3 : Int64) (rS0 : Option Nat) (xS1 : Int32) (w : zW) (res : zO × zW) (h : q_AckBookModel_span_45 F X rL0 yL1 yL3 rS0 xS1 w = some res) (H : Heap) (locs : List Loc) (cells slots : Nat) (ls : Array Slot) (hZ : z_Z (zGG b0 H0 D vu vs X M) R s w H locs cells slots) (hl : lv_has ls 5 [(0, va_rf rL0), (1, .long yL1), (3, .long yL3)]) : W p l e R s m args below meth c H locs cells slots (z_Q (zGG b0 H0 D vu vs X M) below s w0 res) (F0 m 45 ls [.int xS1, va_rf rS0]) := by
  unfold q_AckBookModel_span_45 at h
  refine lv_iconst (v := (1 : Int32)) hC.1 hC.2.1 d_AckBookModel_span_45 (by decide) ?_
  obtain ⟨a_, fs_, eo_, h⟩ := z_this_spec h
  obtain ⟨w1_, o1_, hF_, ha_⟩ := z_cI_spec h
  refine x_goes hC hRc hRs hFr ha_ (z_goV (As := [.int xS1, .int (1 : Int32)]) hC hZ zc10 eo_ (k_AckBookModel_fails hT hfl hE _ _ hF_) t_947 t_949 ts_AckBookModel_fails t_12 t_950 ⟨by decide, by decide, (by decide +kernel : (parseMethodDescriptor y_AckBookModel_fails.desc).map (fun d => d.parameters.length) = some 2)⟩ (by rw [hRt.1]; decide) (by rw [hRt.2]; decide) hl.1 rfl (by first | exact Nat.le_of_ble_eq_true rfl | simp [z_rfc, z_ci, z_cj]) d_AckBookModel_span_46) (fun v_ hv H locs cells slots hZ => ?_)
  obtain ⟨v10, rfl, h⟩ := hv
  generalize w1_ = w at h hZ
  refine lv_if_ne (tgt := 74) hC.1 hC.2.1 d_AckBookModel_span_49 (by decide) (fun hc => ?_) (fun hc => ?_)
  · have h := z_ifn hc h
    refine lv_iconst (v := (0 : Int32)) hC.1 hC.2.1 d_AckBookModel_span_74 (by decide) ?_
    exact x_iret hC hRc hRs hZ hr rfl h d_AckBookModel_span_75
  · have h := z_ifp hc h
    refine x_aload_n hC d_AckBookModel_span_52 rfl (lv_at hl 0 rfl) ?_
    refine x_aload_n hC d_AckBookModel_span_53 rfl (lv_at hl 0 rfl) ?_
    refine x_getI hC hZ zc10 h (by decide) t_846 (fun _ h9 => h9) d_AckBookModel_span_54 (fun v11 h => ?_)
    refine lv_bipush (v := (64 : Int32)) hC.1 hC.2.1 d_AckBookModel_span_57 (by decide) ?_
    refine lv_icmp_ne (tgt := 66) hC.1 hC.2.1 d_AckBookModel_span_59 (by decide) (fun hc => ?_) (fun hc => ?_)
    · have h := z_ifn hc h
      refine lv_iconst (v := (0 : Int32)) hC.1 hC.2.1 d_AckBookModel_span_66 (by decide) ?_
      exact kq_AckBookModel_span_67 hT hfl hE hC hr hRc hRs hFr hRt hnm _ _ _ _ _ _ _ h _ _ _ _ _ hZ (lv_sub hl [0, 1, 2] rfl)
    · have h := z_ifp hc h
      refine lv_iconst (v := (1 : Int32)) hC.1 hC.2.1 d_AckBookModel_span_62 (by decide) ?_
      refine lv_goto (tgt := 67) hC.1 hC.2.1 d_AckBookModel_span_63 (by decide) ?_
      exact kq_AckBookModel_span_67 hT hfl hE hC hr hRc hRs hFr hRt hnm _ _ _ _ _ _ _ h _ _ _ _ _ hZ (lv_sub hl [0, 1, 2] rfl)
def q_AckBookModel_span_44 (F X : Nat) (rL0 : Option Nat) (yL1 : Int64) (yL3 : Int64) (rS0 : Option Nat) (w : zW) : zR :=
  q_AckBookModel_span_45 F X rL0 yL1 yL3 rS0 (0 : Int32) w
set_option maxHeartbeats 4000000 in
set_option maxRecDepth 100000 in
theorem kq_AckBookModel_span_44 {b0 : Nat} {H0 : Heap} {D : va_G} {vu vs : Value} {X M : Nat} {l : Launch} (hT : z_TB (zGG b0 H0 D vu vs X M)) (hfl : l.flags = pinnedFlags ++ [noTraceFlag]) (hE : vu.isRef = true ∧ vs.isRef = true) {p : Program} {e : Env} {R : Room} {s : State} {m : MethodId} {args : Array Value} {below : List Frame} {meth : Method} {c : Code} {w0 : zW} {F : Nat} (hC : z_C (zGG b0 H0 D vu vs X M) p e s m meth c c_AckBookModel_span 5 y_AckBookModel_span.cls) (hr : meth.sig.returnType = (some FieldType.int)) (hRc : R.cells = w0.2.1) (hRs : R.slots = w0.2.2.1) (hFr : c.exceptionTable.toList = []) (hRt : R.frames = 1 ∧ R.locals = 22) (hnm : meth.name = y_AckBookModel_span.name) (rL0 : Option Nat) (yL1 : Int64) (yL3 : Int64) (rS0 : Option Nat) (w : zW) (res : zO × zW) (h : q_AckBookModel_span_44 F X rL0 yL1 yL3 rS0 w = some res) (H : Heap) (locs : List Loc) (cells slots : Nat) (ls : Array Slot) (hZ : z_Z (zGG b0 H0 D vu vs X M) R s w H locs cells slots) (hl : lv_has ls 5 [(0, va_rf rL0), (1, .long yL1), (3, .long yL3)]) : W p l e R s m args below meth c H locs cells slots (z_Q (zGG b0 H0 D vu vs X M) below s w0 res) (F0 m 44 ls [va_rf rS0]) := by
  unfold q_AckBookModel_span_44 at h
  refine lv_iconst (v := (0 : Int32)) hC.1 hC.2.1 d_AckBookModel_span_44 (by decide) ?_
  exact kq_AckBookModel_span_45 hT hfl hE hC hr hRc hRs hFr hRt hnm _ _ _ _ _ _ _ h _ _ _ _ _ hZ (lv_sub hl [0, 1, 2] rfl)
def q_AckBookModel_span_40 (F X : Nat) (rL0 : Option Nat) (yL1 : Int64) (yL3 : Int64) (rS0 : Option Nat) (w : zW) : zR :=
  q_AckBookModel_span_45 F X rL0 yL1 yL3 rS0 (1 : Int32) w
set_option maxHeartbeats 4000000 in
set_option maxRecDepth 100000 in
theorem kq_AckBookModel_span_40 {b0 : Nat} {H0 : Heap} {D : va_G} {vu vs : Value} {X M : Nat} {l : Launch} (hT : z_TB (zGG b0 H0 D vu vs X M)) (hfl : l.flags = pinnedFlags ++ [noTraceFlag]) (hE : vu.isRef = true ∧ vs.isRef = true) {p : Program} {e : Env} {R : Room} {s : State} {m : MethodId} {args : Array Value} {below : List Frame} {meth : Method} {c : Code} {w0 : zW} {F : Nat} (hC : z_C (zGG b0 H0 D vu vs X M) p e s m meth c c_AckBookModel_span 5 y_AckBookModel_span.cls) (hr : meth.sig.returnType = (some FieldType.int)) (hRc : R.cells = w0.2.1) (hRs : R.slots = w0.2.2.1) (hFr : c.exceptionTable.toList = []) (hRt : R.frames = 1 ∧ R.locals = 22) (hnm : meth.name = y_AckBookModel_span.name) (rL0 : Option Nat) (yL1 : Int64) (yL3 : Int64) (rS0 : Option Nat) (w : zW) (res : zO × zW) (h : q_AckBookModel_span_40 F X rL0 yL1 yL3 rS0 w = some res) (H : Heap) (locs : List Loc) (cells slots : Nat) (ls : Array Slot) (hZ : z_Z (zGG b0 H0 D vu vs X M) R s w H locs cells slots) (hl : lv_has ls 5 [(0, va_rf rL0), (1, .long yL1), (3, .long yL3)]) : W p l e R s m args below meth c H locs cells slots (z_Q (zGG b0 H0 D vu vs X M) below s w0 res) (F0 m 40 ls [va_rf rS0]) := by
  unfold q_AckBookModel_span_40 at h
  refine lv_iconst (v := (1 : Int32)) hC.1 hC.2.1 d_AckBookModel_span_40 (by decide) ?_
  refine lv_goto (tgt := 45) hC.1 hC.2.1 d_AckBookModel_span_41 (by decide) ?_
  exact kq_AckBookModel_span_45 hT hfl hE hC hr hRc hRs hFr hRt hnm _ _ _ _ _ _ _ h _ _ _ _ _ hZ (lv_sub hl [0, 1, 2] rfl)
def f_AckBookModel_span (F X : Nat) (a0 : Option Nat) (pJ1 : Int64) (pJ2 : Int64) (w : zW) : zR :=
  if (lg_cmp pJ1 (0 : Int64)) < 0 then (
    q_AckBookModel_span_40 F X a0 pJ1 pJ2 a0 w)
  else (
    if (lg_cmp pJ2 pJ1) < 0 then (
      q_AckBookModel_span_40 F X a0 pJ1 pJ2 a0 w)
    else (
      z_getI w 10 27 a0 fun v12 =>
      if v12 ≤ 0 then (
        q_AckBookModel_span_44 F X a0 pJ1 pJ2 a0 w)
      else (
        z_getR w 10 28 a0 fun r13 =>
        z_getI w 10 27 a0 fun v14 =>
        z_ldL w r13 (v14 - (1 : Int32)) fun v15 =>
        if (lg_cmp pJ2 (v15 - (2 : Int64))) ≤ 0 then (
          q_AckBookModel_span_44 F X a0 pJ1 pJ2 a0 w)
        else (
          q_AckBookModel_span_40 F X a0 pJ1 pJ2 a0 w))))
set_option maxHeartbeats 4000000 in
set_option maxRecDepth 100000 in
theorem k_AckBookModel_span {b0 : Nat} {H0 : Heap} {D : va_G} {vu vs : Value} {X M : Nat} {l : Launch} (hT : z_TB (zGG b0 H0 D vu vs X M)) (hfl : l.flags = pinnedFlags ++ [noTraceFlag]) (hE : vu.isRef = true ∧ vs.isRef = true) {a0 : Option Nat} {pJ1 : Int64} {pJ2 : Int64} (F : Nat) {w : zW} (res : zO × zW) (h : f_AckBookModel_span F X a0 pJ1 pJ2 w = some res) : z_Ct (zGG b0 H0 D vu vs X M) l y_AckBookModel_span (.code y_AckBookModel_span c_AckBookModel_span 5 (some FieldType.int)) 1 22 [va_rf a0, .long pJ1, .long pJ2] w res := by
  refine z_ct hT hfl (by decide) (by simp only [z_sl_i, z_sl_j, z_sl_r, z_sl_n]; decide) ?_
  intro p e R s m args below meth c hC hr hRc hRs hRt hnm hFr H ls hZ hl
  simp only [z_la_i, z_la_j, z_la_r, z_la_n] at hl
  have hl : lv_has ls 5 [(0, va_rf a0), (1, .long pJ1), (3, .long pJ2)] := hl
  unfold f_AckBookModel_span at h
  refine x_aload_n hC d_AckBookModel_span_0 rfl (lv_at hl 0 rfl) ?_
  refine lv_lload_n hC.1 hC.2.1 d_AckBookModel_span_1 rfl (lv_at hl 1 rfl) ?_
  refine lv_lconst (v := (0 : Int64)) hC.1 hC.2.1 d_AckBookModel_span_2 (by decide) ?_
  refine W.lcmp hC.1 hC.2.1 d_AckBookModel_span_3 ?_
  refine lv_if_lt (tgt := 40) hC.1 hC.2.1 d_AckBookModel_span_4 (by decide) (fun hc => ?_) (fun hc => ?_)
  · have h := z_ifp hc h
    exact kq_AckBookModel_span_40 hT hfl hE hC hr hRc hRs hFr hRt hnm _ _ _ _ _ _ h _ _ _ _ _ hZ (lv_sub hl [0, 1, 2] rfl)
  · have h := z_ifn hc h
    refine lv_lload_n hC.1 hC.2.1 d_AckBookModel_span_7 rfl (lv_at hl 2 rfl) ?_
    refine lv_lload_n hC.1 hC.2.1 d_AckBookModel_span_8 rfl (lv_at hl 1 rfl) ?_
    refine W.lcmp hC.1 hC.2.1 d_AckBookModel_span_9 ?_
    refine lv_if_lt (tgt := 40) hC.1 hC.2.1 d_AckBookModel_span_10 (by decide) (fun hc => ?_) (fun hc => ?_)
    · have h := z_ifp hc h
      exact kq_AckBookModel_span_40 hT hfl hE hC hr hRc hRs hFr hRt hnm _ _ _ _ _ _ h _ _ _ _ _ hZ (lv_sub hl [0, 1, 2] rfl)
    · have h := z_ifn hc h
      refine x_aload_n hC d_AckBookModel_span_13 rfl (lv_at hl 0 rfl) ?_
      refine x_getI hC hZ zc10 h (by decide) t_846 (fun _ h9 => h9) d_AckBookModel_span_14 (fun v12 h => ?_)
      refine lv_if_le (tgt := 44) hC.1 hC.2.1 d_AckBookModel_span_17 (by decide) (fun hc => ?_) (fun hc => ?_)
      · have h := z_ifp hc h
        exact kq_AckBookModel_span_44 hT hfl hE hC hr hRc hRs hFr hRt hnm _ _ _ _ _ _ h _ _ _ _ _ hZ (lv_sub hl [0, 1, 2] rfl)
      · have h := z_ifn hc h
        refine lv_lload_n hC.1 hC.2.1 d_AckBookModel_span_20 rfl (lv_at hl 2 rfl) ?_
        refine x_aload_n hC d_AckBookModel_span_21 rfl (lv_at hl 0 rfl) ?_
        refine x_getR hC hZ zc10 h (by decide) t_847 (fun _ h9 => h9) d_AckBookModel_span_22 (fun r13 h => ?_)
        refine x_aload_n hC d_AckBookModel_span_25 rfl (lv_at hl 0 rfl) ?_
        refine x_getI hC hZ zc10 h (by decide) t_846 (fun _ h9 => h9) d_AckBookModel_span_26 (fun v14 h => ?_)
        refine lv_iconst (v := (1 : Int32)) hC.1 hC.2.1 d_AckBookModel_span_29 (by decide) ?_
        refine lv_isub hC.1 hC.2.1 d_AckBookModel_span_30 ?_
        refine x_ldL hC hZ h d_AckBookModel_span_31 (fun v15 h => ?_)
        refine lv_ldc2 (v := (2 : Int64)) hC.1 hC.2.1 hC.2.2.2.1 ((hZ.1.tb hC.2.2.2.2.2.2 args) _ t_963) d_AckBookModel_span_32 ?_
        refine lv_lsub hC.1 hC.2.1 d_AckBookModel_span_35 ?_
        refine W.lcmp hC.1 hC.2.1 d_AckBookModel_span_36 ?_
        refine lv_if_le (tgt := 44) hC.1 hC.2.1 d_AckBookModel_span_37 (by decide) (fun hc => ?_) (fun hc => ?_)
        · have h := z_ifp hc h
          exact kq_AckBookModel_span_44 hT hfl hE hC hr hRc hRs hFr hRt hnm _ _ _ _ _ _ h _ _ _ _ _ hZ (lv_sub hl [0, 1, 2] rfl)
        · have h := z_ifn hc h
          exact kq_AckBookModel_span_40 hT hfl hE hC hr hRc hRs hFr hRt hnm _ _ _ _ _ _ h _ _ _ _ _ hZ (lv_sub hl [0, 1, 2] rfl)
def f_AckBookModel_greater (F X : Nat) (pI1 : Int32) (pI2 : Int32) (w : zW) : zR :=
  if pI1 ≤ pI2 then (
    some (.inl (some (.int pI2)), w))
  else (
    some (.inl (some (.int pI1)), w))
set_option maxHeartbeats 4000000 in
set_option maxRecDepth 100000 in
theorem k_AckBookModel_greater {b0 : Nat} {H0 : Heap} {D : va_G} {vu vs : Value} {X M : Nat} {l : Launch} (hT : z_TB (zGG b0 H0 D vu vs X M)) (hfl : l.flags = pinnedFlags ++ [noTraceFlag]) (hE : vu.isRef = true ∧ vs.isRef = true) {pI1 : Int32} {pI2 : Int32} (F : Nat) {w : zW} (res : zO × zW) (h : f_AckBookModel_greater F X pI1 pI2 w = some res) : z_Ct (zGG b0 H0 D vu vs X M) l y_AckBookModel_greater (.code y_AckBookModel_greater c_AckBookModel_greater 2 (some FieldType.int)) 0 0 [.int pI1, .int pI2] w res := by
  refine z_ct hT hfl (by decide) (by simp only [z_sl_i, z_sl_j, z_sl_r, z_sl_n]; decide) ?_
  intro p e R s m args below meth c hC hr hRc hRs hRt hnm hFr H ls hZ hl
  simp only [z_la_i, z_la_j, z_la_r, z_la_n] at hl
  have hl : lv_has ls 2 [(0, .int pI1), (1, .int pI2)] := hl
  unfold f_AckBookModel_greater at h
  refine lv_iload_n hC.1 hC.2.1 d_AckBookModel_greater_0 rfl (lv_at hl 0 rfl) ?_
  refine lv_iload_n hC.1 hC.2.1 d_AckBookModel_greater_1 rfl (lv_at hl 1 rfl) ?_
  refine lv_icmp_le (tgt := 9) hC.1 hC.2.1 d_AckBookModel_greater_2 (by decide) (fun hc => ?_) (fun hc => ?_)
  · have h := z_ifp hc h
    refine lv_iload_n hC.1 hC.2.1 d_AckBookModel_greater_9 rfl (lv_at hl 1 rfl) ?_
    exact x_iret hC hRc hRs hZ hr rfl h d_AckBookModel_greater_10
  · have h := z_ifn hc h
    refine lv_iload_n hC.1 hC.2.1 d_AckBookModel_greater_5 rfl (lv_at hl 0 rfl) ?_
    refine lv_goto (tgt := 10) hC.1 hC.2.1 d_AckBookModel_greater_6 (by decide) ?_
    exact x_iret hC hRc hRs hZ hr rfl h d_AckBookModel_greater_10
def j_AckBookModel_isNew (F X : Nat) : Nat → Option Nat → Int32 → Int32 → Int32 → Int32 → zW → zR
  | 0, _, _, _, _, _, _ => none
  | N + 1, rL0, xL1, xL2, xL3, xL4, w =>
    z_getI w 10 27 rL0 fun v1 =>
    if v1 ≤ xL4 then (
      if xL3 = 0 then (
        some (.inl (some (.int (0 : Int32))), w))
      else (
        z_this w 10 rL0 <|
        z_cI (f_AckBookModel_isOut F X rL0 xL1 xL2 w) fun v3 w =>
        if v3 = 0 then (
          some (.inl (some (.int (0 : Int32))), w))
        else (
          some (.inl (some (.int (1 : Int32))), w))))
    else (
      if xL3 = 0 then (
        z_getR w 10 28 rL0 fun r4 =>
        z_ldL w r4 xL4 fun v5 =>
        if (lg_cmp xL2.toInt64 v5) < 0 then (
          (j_AckBookModel_isNew F X N) rL0 xL1 xL2 (0 : Int32) (xL4 + (1 : Int32)) w)
        else (
          z_getR w 10 29 rL0 fun r6 =>
          z_ldL w r6 xL4 fun v7 =>
          if 0 < (lg_cmp xL2.toInt64 v7) then (
            (j_AckBookModel_isNew F X N) rL0 xL1 xL2 (0 : Int32) (xL4 + (1 : Int32)) w)
          else (
            (j_AckBookModel_isNew F X N) rL0 xL1 xL2 (1 : Int32) (xL4 + (1 : Int32)) w)))
      else (
        (j_AckBookModel_isNew F X N) rL0 xL1 xL2 (1 : Int32) (xL4 + (1 : Int32)) w))
set_option maxHeartbeats 4000000 in
set_option maxRecDepth 100000 in
theorem kj_AckBookModel_isNew {b0 : Nat} {H0 : Heap} {D : va_G} {vu vs : Value} {X M : Nat} {l : Launch} (hT : z_TB (zGG b0 H0 D vu vs X M)) (hfl : l.flags = pinnedFlags ++ [noTraceFlag]) (hE : vu.isRef = true ∧ vs.isRef = true) {p : Program} {e : Env} {R : Room} {s : State} {m : MethodId} {args : Array Value} {below : List Frame} {meth : Method} {c : Code} {w0 : zW} {F : Nat} (hC : z_C (zGG b0 H0 D vu vs X M) p e s m meth c c_AckBookModel_isNew 5 y_AckBookModel_isNew.cls) (hr : meth.sig.returnType = (some FieldType.boolean)) (hRc : R.cells = w0.2.1) (hRs : R.slots = w0.2.2.1) (hFr : c.exceptionTable.toList = []) (hRt : R.frames = 1 ∧ R.locals = 22) (hnm : meth.name = y_AckBookModel_isNew.name) : ∀ N : Nat, (∀ (rL0 : Option Nat) (xL1 : Int32) (xL2 : Int32) (xL3 : Int32) (xL4 : Int32) (w : zW) (res : zO × zW), j_AckBookModel_isNew F X N rL0 xL1 xL2 xL3 xL4 w = some res → ∀ (H : Heap) (locs : List Loc) (cells slots : Nat) (ls : Array Slot), z_Z (zGG b0 H0 D vu vs X M) R s w H locs cells slots → lv_has ls 5 [(0, va_rf rL0), (1, .int xL1), (2, .int xL2), (3, .int xL3), (4, .int xL4)] → W p l e R s m args below meth c H locs cells slots (z_Q (zGG b0 H0 D vu vs X M) below s w0 res) (F0 m 5 ls [])) := by
  intro N
  induction N with
  | zero =>
    intro rL0 xL1 xL2 xL3 xL4 w res h
    rw [j_AckBookModel_isNew] at h
    cases h
  | succ N ih =>
    intro rL0 xL1 xL2 xL3 xL4 w res h H locs cells slots ls hZ hl
    rw [j_AckBookModel_isNew] at h
    refine lv_iload hC.1 hC.2.1 d_AckBookModel_isNew_5 (lv_at hl 4 rfl) ?_
    refine x_aload_n hC d_AckBookModel_isNew_7 rfl (lv_at hl 0 rfl) ?_
    refine x_getI hC hZ zc10 h (by decide) t_846 (fun _ h9 => h9) d_AckBookModel_isNew_8 (fun v1 h => ?_)
    refine lv_icmp_ge (tgt := 56) hC.1 hC.2.1 d_AckBookModel_isNew_11 (by decide) (fun hc => ?_) (fun hc => ?_)
    · have h := z_ifp hc h
      refine lv_iload_n hC.1 hC.2.1 d_AckBookModel_isNew_56 rfl (lv_at hl 3 rfl) ?_
      refine lv_if_eq (tgt := 73) hC.1 hC.2.1 d_AckBookModel_isNew_57 (by decide) (fun hc => ?_) (fun hc => ?_)
      · have h := z_ifp hc h
        refine lv_iconst (v := (0 : Int32)) hC.1 hC.2.1 d_AckBookModel_isNew_73 (by decide) ?_
        exact x_iret hC hRc hRs hZ hr rfl h d_AckBookModel_isNew_74
      · have h := z_ifn hc h
        refine x_aload_n hC d_AckBookModel_isNew_60 rfl (lv_at hl 0 rfl) ?_
        refine lv_iload_n hC.1 hC.2.1 d_AckBookModel_isNew_61 rfl (lv_at hl 1 rfl) ?_
        refine lv_iload_n hC.1 hC.2.1 d_AckBookModel_isNew_62 rfl (lv_at hl 2 rfl) ?_
        obtain ⟨a_, fs_, eo_, h⟩ := z_this_spec h
        obtain ⟨w1_, o1_, hF_, ha_⟩ := z_cI_spec h
        refine x_goes hC hRc hRs hFr ha_ (z_goV (As := [.int xL1, .int xL2]) hC hZ zc10 eo_ (k_AckBookModel_isOut hT hfl hE _ _ hF_) t_955 t_957 ts_AckBookModel_isOut t_12 t_958 ⟨by decide, by decide, (by decide +kernel : (parseMethodDescriptor y_AckBookModel_isOut.desc).map (fun d => d.parameters.length) = some 2)⟩ (by rw [hRt.1]; decide) (by rw [hRt.2]; decide) hl.1 rfl (by first | exact Nat.le_of_ble_eq_true rfl | simp [z_rfc, z_ci, z_cj]) d_AckBookModel_isNew_63) (fun v_ hv H locs cells slots hZ => ?_)
        obtain ⟨v3, rfl, h⟩ := hv
        generalize w1_ = w at h hZ
        refine lv_if_eq (tgt := 73) hC.1 hC.2.1 d_AckBookModel_isNew_66 (by decide) (fun hc => ?_) (fun hc => ?_)
        · have h := z_ifp hc h
          refine lv_iconst (v := (0 : Int32)) hC.1 hC.2.1 d_AckBookModel_isNew_73 (by decide) ?_
          exact x_iret hC hRc hRs hZ hr rfl h d_AckBookModel_isNew_74
        · have h := z_ifn hc h
          refine lv_iconst (v := (1 : Int32)) hC.1 hC.2.1 d_AckBookModel_isNew_69 (by decide) ?_
          refine lv_goto (tgt := 74) hC.1 hC.2.1 d_AckBookModel_isNew_70 (by decide) ?_
          exact x_iret hC hRc hRs hZ hr rfl h d_AckBookModel_isNew_74
    · have h := z_ifn hc h
      refine lv_iload_n hC.1 hC.2.1 d_AckBookModel_isNew_14 rfl (lv_at hl 3 rfl) ?_
      refine lv_if_ne (tgt := 44) hC.1 hC.2.1 d_AckBookModel_isNew_15 (by decide) (fun hc => ?_) (fun hc => ?_)
      · have h := z_ifn hc h
        refine lv_iconst (v := (1 : Int32)) hC.1 hC.2.1 d_AckBookModel_isNew_44 (by decide) ?_
        refine lv_goto (tgt := 49) hC.1 hC.2.1 d_AckBookModel_isNew_45 (by decide) ?_
        refine lv_istore_n (i := 3) (lv' := [(3, .int (1 : Int32)), (0, va_rf rL0), (1, .int xL1), (2, .int xL2), (4, .int xL4)]) hC.1 hC.2.1 d_AckBookModel_isNew_49 rfl hl (by decide) (by first | rfl | simp [z_rfc, z_ci, z_cj]) (fun ls hl => ?_)
        refine lv_iinc (lv' := [(4, .int (xL4 + (1 : Int32))), (3, .int (1 : Int32)), (0, va_rf rL0), (1, .int xL1), (2, .int xL2)]) hC.1 hC.2.1 d_AckBookModel_isNew_50 hl (k := 4) rfl rfl (by decide) (by first | rfl | simp [z_rfc, z_ci, z_cj]) (fun ls hl => ?_)
        refine lv_goto (tgt := 5) hC.1 hC.2.1 d_AckBookModel_isNew_53 (by decide) ?_
        exact ih _ _ _ _ _ _ _ h _ _ _ _ _ hZ (lv_sub hl [2, 3, 4, 1, 0] rfl)
      · have h := z_ifp hc h
        refine lv_iload_n hC.1 hC.2.1 d_AckBookModel_isNew_18 rfl (lv_at hl 2 rfl) ?_
        refine lv_i2l hC.1 hC.2.1 d_AckBookModel_isNew_19 rfl ?_
        refine x_aload_n hC d_AckBookModel_isNew_20 rfl (lv_at hl 0 rfl) ?_
        refine x_getR hC hZ zc10 h (by decide) t_847 (fun _ h9 => h9) d_AckBookModel_isNew_21 (fun r4 h => ?_)
        refine lv_iload hC.1 hC.2.1 d_AckBookModel_isNew_24 (lv_at hl 4 rfl) ?_
        refine x_ldL hC hZ h d_AckBookModel_isNew_26 (fun v5 h => ?_)
        refine W.lcmp hC.1 hC.2.1 d_AckBookModel_isNew_27 ?_
        refine lv_if_lt (tgt := 48) hC.1 hC.2.1 d_AckBookModel_isNew_28 (by decide) (fun hc => ?_) (fun hc => ?_)
        · have h := z_ifp hc h
          refine lv_iconst (v := (0 : Int32)) hC.1 hC.2.1 d_AckBookModel_isNew_48 (by decide) ?_
          refine lv_istore_n (i := 3) (lv' := [(3, .int (0 : Int32)), (0, va_rf rL0), (1, .int xL1), (2, .int xL2), (4, .int xL4)]) hC.1 hC.2.1 d_AckBookModel_isNew_49 rfl hl (by decide) (by first | rfl | simp [z_rfc, z_ci, z_cj]) (fun ls hl => ?_)
          refine lv_iinc (lv' := [(4, .int (xL4 + (1 : Int32))), (3, .int (0 : Int32)), (0, va_rf rL0), (1, .int xL1), (2, .int xL2)]) hC.1 hC.2.1 d_AckBookModel_isNew_50 hl (k := 4) rfl rfl (by decide) (by first | rfl | simp [z_rfc, z_ci, z_cj]) (fun ls hl => ?_)
          refine lv_goto (tgt := 5) hC.1 hC.2.1 d_AckBookModel_isNew_53 (by decide) ?_
          exact ih _ _ _ _ _ _ _ h _ _ _ _ _ hZ (lv_sub hl [2, 3, 4, 1, 0] rfl)
        · have h := z_ifn hc h
          refine lv_iload_n hC.1 hC.2.1 d_AckBookModel_isNew_31 rfl (lv_at hl 2 rfl) ?_
          refine lv_i2l hC.1 hC.2.1 d_AckBookModel_isNew_32 rfl ?_
          refine x_aload_n hC d_AckBookModel_isNew_33 rfl (lv_at hl 0 rfl) ?_
          refine x_getR hC hZ zc10 h (by decide) t_848 (fun _ h9 => h9) d_AckBookModel_isNew_34 (fun r6 h => ?_)
          refine lv_iload hC.1 hC.2.1 d_AckBookModel_isNew_37 (lv_at hl 4 rfl) ?_
          refine x_ldL hC hZ h d_AckBookModel_isNew_39 (fun v7 h => ?_)
          refine W.lcmp hC.1 hC.2.1 d_AckBookModel_isNew_40 ?_
          refine lv_if_gt (tgt := 48) hC.1 hC.2.1 d_AckBookModel_isNew_41 (by decide) (fun hc => ?_) (fun hc => ?_)
          · have h := z_ifp hc h
            refine lv_iconst (v := (0 : Int32)) hC.1 hC.2.1 d_AckBookModel_isNew_48 (by decide) ?_
            refine lv_istore_n (i := 3) (lv' := [(3, .int (0 : Int32)), (0, va_rf rL0), (1, .int xL1), (2, .int xL2), (4, .int xL4)]) hC.1 hC.2.1 d_AckBookModel_isNew_49 rfl hl (by decide) (by first | rfl | simp [z_rfc, z_ci, z_cj]) (fun ls hl => ?_)
            refine lv_iinc (lv' := [(4, .int (xL4 + (1 : Int32))), (3, .int (0 : Int32)), (0, va_rf rL0), (1, .int xL1), (2, .int xL2)]) hC.1 hC.2.1 d_AckBookModel_isNew_50 hl (k := 4) rfl rfl (by decide) (by first | rfl | simp [z_rfc, z_ci, z_cj]) (fun ls hl => ?_)
            refine lv_goto (tgt := 5) hC.1 hC.2.1 d_AckBookModel_isNew_53 (by decide) ?_
            exact ih _ _ _ _ _ _ _ h _ _ _ _ _ hZ (lv_sub hl [2, 3, 4, 1, 0] rfl)
          · have h := z_ifn hc h
            refine lv_iconst (v := (1 : Int32)) hC.1 hC.2.1 d_AckBookModel_isNew_44 (by decide) ?_
            refine lv_goto (tgt := 49) hC.1 hC.2.1 d_AckBookModel_isNew_45 (by decide) ?_
            refine lv_istore_n (i := 3) (lv' := [(3, .int (1 : Int32)), (0, va_rf rL0), (1, .int xL1), (2, .int xL2), (4, .int xL4)]) hC.1 hC.2.1 d_AckBookModel_isNew_49 rfl hl (by decide) (by first | rfl | simp [z_rfc, z_ci, z_cj]) (fun ls hl => ?_)
            refine lv_iinc (lv' := [(4, .int (xL4 + (1 : Int32))), (3, .int (1 : Int32)), (0, va_rf rL0), (1, .int xL1), (2, .int xL2)]) hC.1 hC.2.1 d_AckBookModel_isNew_50 hl (k := 4) rfl rfl (by decide) (by first | rfl | simp [z_rfc, z_ci, z_cj]) (fun ls hl => ?_)
            refine lv_goto (tgt := 5) hC.1 hC.2.1 d_AckBookModel_isNew_53 (by decide) ?_
            exact ih _ _ _ _ _ _ _ h _ _ _ _ _ hZ (lv_sub hl [2, 3, 4, 1, 0] rfl)
def f_AckBookModel_isNew (F X : Nat) (a0 : Option Nat) (pI1 : Int32) (pI2 : Int32) (w : zW) : zR :=
  (j_AckBookModel_isNew F X F) a0 pI1 pI2 (0 : Int32) (0 : Int32) w
set_option maxHeartbeats 4000000 in
set_option maxRecDepth 100000 in
theorem k_AckBookModel_isNew {b0 : Nat} {H0 : Heap} {D : va_G} {vu vs : Value} {X M : Nat} {l : Launch} (hT : z_TB (zGG b0 H0 D vu vs X M)) (hfl : l.flags = pinnedFlags ++ [noTraceFlag]) (hE : vu.isRef = true ∧ vs.isRef = true) {a0 : Option Nat} {pI1 : Int32} {pI2 : Int32} (F : Nat) {w : zW} (res : zO × zW) (h : f_AckBookModel_isNew F X a0 pI1 pI2 w = some res) : z_Ct (zGG b0 H0 D vu vs X M) l y_AckBookModel_isNew (.code y_AckBookModel_isNew c_AckBookModel_isNew 5 (some FieldType.boolean)) 1 22 [va_rf a0, .int pI1, .int pI2] w res := by
  refine z_ct hT hfl (by decide) (by simp only [z_sl_i, z_sl_j, z_sl_r, z_sl_n]; decide) ?_
  intro p e R s m args below meth c hC hr hRc hRs hRt hnm hFr H ls hZ hl
  simp only [z_la_i, z_la_j, z_la_r, z_la_n] at hl
  have hl : lv_has ls 5 [(0, va_rf a0), (1, .int pI1), (2, .int pI2)] := hl
  unfold f_AckBookModel_isNew at h
  refine lv_iconst (v := (0 : Int32)) hC.1 hC.2.1 d_AckBookModel_isNew_0 (by decide) ?_
  refine lv_istore_n (i := 3) (lv' := [(3, .int (0 : Int32)), (0, va_rf a0), (1, .int pI1), (2, .int pI2)]) hC.1 hC.2.1 d_AckBookModel_isNew_1 rfl hl (by decide) (by first | rfl | simp [z_rfc, z_ci, z_cj]) (fun ls hl => ?_)
  refine lv_iconst (v := (0 : Int32)) hC.1 hC.2.1 d_AckBookModel_isNew_2 (by decide) ?_
  refine lv_istore (i := 4) (lv' := [(4, .int (0 : Int32)), (3, .int (0 : Int32)), (0, va_rf a0), (1, .int pI1), (2, .int pI2)]) hC.1 hC.2.1 d_AckBookModel_isNew_3 hl (by decide) (by first | rfl | simp [z_rfc, z_ci, z_cj]) (fun ls hl => ?_)
  exact (kj_AckBookModel_isNew hT hfl hE hC hr hRc hRs hFr hRt hnm F) _ _ _ _ _ _ _ h _ _ _ _ _ hZ (lv_sub hl [2, 3, 4, 1, 0] rfl)
def q_AckBookModel_sample_110 (F X : Nat) (rL0 : Option Nat) (xL3 : Int32) (rS0 : Option Nat) (xS1 : Int32) (xS2 : Int32) (w : zW) : zR :=
  z_getI w 10 19 rL0 fun v1 =>
  z_put w 10 19 rS0 (.int (xS1 + (xS2 - (v1 / (4 : Int32))))) fun w =>
  z_getI w 10 18 rL0 fun v2 =>
  z_getI w 10 18 rL0 fun v3 =>
  z_put w 10 18 rL0 (.int (v2 + (xL3 - (v3 / (8 : Int32))))) fun w =>
  some (.inl none, w)
set_option maxHeartbeats 4000000 in
set_option maxRecDepth 100000 in
theorem kq_AckBookModel_sample_110 {b0 : Nat} {H0 : Heap} {D : va_G} {vu vs : Value} {X M : Nat} {l : Launch} (hT : z_TB (zGG b0 H0 D vu vs X M)) (hfl : l.flags = pinnedFlags ++ [noTraceFlag]) (hE : vu.isRef = true ∧ vs.isRef = true) {p : Program} {e : Env} {R : Room} {s : State} {m : MethodId} {args : Array Value} {below : List Frame} {meth : Method} {c : Code} {w0 : zW} {F : Nat} (hC : z_C (zGG b0 H0 D vu vs X M) p e s m meth c c_AckBookModel_sample 5 y_AckBookModel_sample.cls) (hr : meth.sig.returnType = (none)) (hRc : R.cells = w0.2.1) (hRs : R.slots = w0.2.2.1) (hFr : c.exceptionTable.toList = []) (hRt : R.frames = 0 ∧ R.locals = 0) (hnm : meth.name = y_AckBookModel_sample.name) (rL0 : Option Nat) (xL3 : Int32) (rS0 : Option Nat) (xS1 : Int32) (xS2 : Int32) (w : zW) (res : zO × zW) (h : q_AckBookModel_sample_110 F X rL0 xL3 rS0 xS1 xS2 w = some res) (H : Heap) (locs : List Loc) (cells slots : Nat) (ls : Array Slot) (hZ : z_Z (zGG b0 H0 D vu vs X M) R s w H locs cells slots) (hl : lv_has ls 5 [(0, va_rf rL0), (3, .int xL3)]) : W p l e R s m args below meth c H locs cells slots (z_Q (zGG b0 H0 D vu vs X M) below s w0 res) (F0 m 110 ls [.int xS2, .int xS1, va_rf rS0]) := by
  unfold q_AckBookModel_sample_110 at h
  refine x_aload_n hC d_AckBookModel_sample_110 rfl (lv_at hl 0 rfl) ?_
  refine x_getI hC hZ zc10 h (by decide) t_838 (fun _ h9 => h9) d_AckBookModel_sample_111 (fun v1 h => ?_)
  refine lv_iconst (v := (4 : Int32)) hC.1 hC.2.1 d_AckBookModel_sample_114 (by decide) ?_
  refine lv_idiv hC.1 hC.2.1 d_AckBookModel_sample_115 (by decide) ?_
  refine lv_isub hC.1 hC.2.1 d_AckBookModel_sample_116 ?_
  refine lv_iadd hC.1 hC.2.1 d_AckBookModel_sample_117 ?_
  refine x_put hC hZ zc10 h (by decide) t_838 (fun _ h9 => h9) rfl rfl rfl rfl d_AckBookModel_sample_118 (fun w H locs hZ h => ?_)
  refine x_aload_n hC d_AckBookModel_sample_121 rfl (lv_at hl 0 rfl) ?_
  refine lv_dup hC.1 hC.2.1 d_AckBookModel_sample_122 (z_rfc _) ?_
  refine x_getI hC hZ zc10 h (by decide) t_837 (fun _ h9 => h9) d_AckBookModel_sample_123 (fun v2 h => ?_)
  refine lv_iload_n hC.1 hC.2.1 d_AckBookModel_sample_126 rfl (lv_at hl 1 rfl) ?_
  refine x_aload_n hC d_AckBookModel_sample_127 rfl (lv_at hl 0 rfl) ?_
  refine x_getI hC hZ zc10 h (by decide) t_837 (fun _ h9 => h9) d_AckBookModel_sample_128 (fun v3 h => ?_)
  refine lv_bipush (v := (8 : Int32)) hC.1 hC.2.1 d_AckBookModel_sample_131 (by decide) ?_
  refine lv_idiv hC.1 hC.2.1 d_AckBookModel_sample_133 (by decide) ?_
  refine lv_isub hC.1 hC.2.1 d_AckBookModel_sample_134 ?_
  refine lv_iadd hC.1 hC.2.1 d_AckBookModel_sample_135 ?_
  refine x_put hC hZ zc10 h (by decide) t_837 (fun _ h9 => h9) rfl rfl rfl rfl d_AckBookModel_sample_136 (fun w H locs hZ h => ?_)
  exact x_vret hC hRc hRs hZ hr h d_AckBookModel_sample_139
def q_AckBookModel_sample_80 (F X : Nat) (rL0 : Option Nat) (xS0 : Int32) (w : zW) : zR :=
  z_getI w 10 18 rL0 fun v4 =>
  z_getI w 10 19 rL0 fun v5 =>
  if 0 ≤ ((v4 / (8 : Int32)) - xS0) then (
    q_AckBookModel_sample_110 F X rL0 xS0 rL0 v5 ((v4 / (8 : Int32)) - xS0) w)
  else (
    q_AckBookModel_sample_110 F X rL0 xS0 rL0 v5 (-((v4 / (8 : Int32)) - xS0)) w)
set_option maxHeartbeats 4000000 in
set_option maxRecDepth 100000 in
theorem kq_AckBookModel_sample_80 {b0 : Nat} {H0 : Heap} {D : va_G} {vu vs : Value} {X M : Nat} {l : Launch} (hT : z_TB (zGG b0 H0 D vu vs X M)) (hfl : l.flags = pinnedFlags ++ [noTraceFlag]) (hE : vu.isRef = true ∧ vs.isRef = true) {p : Program} {e : Env} {R : Room} {s : State} {m : MethodId} {args : Array Value} {below : List Frame} {meth : Method} {c : Code} {w0 : zW} {F : Nat} (hC : z_C (zGG b0 H0 D vu vs X M) p e s m meth c c_AckBookModel_sample 5 y_AckBookModel_sample.cls) (hr : meth.sig.returnType = (none)) (hRc : R.cells = w0.2.1) (hRs : R.slots = w0.2.2.1) (hFr : c.exceptionTable.toList = []) (hRt : R.frames = 0 ∧ R.locals = 0) (hnm : meth.name = y_AckBookModel_sample.name) (rL0 : Option Nat) (xS0 : Int32) (w : zW) (res : zO × zW) (h : q_AckBookModel_sample_80 F X rL0 xS0 w = some res) (H : Heap) (locs : List Loc) (cells slots : Nat) (ls : Array Slot) (hZ : z_Z (zGG b0 H0 D vu vs X M) R s w H locs cells slots) (hl : lv_has ls 5 [(0, va_rf rL0)]) : W p l e R s m args below meth c H locs cells slots (z_Q (zGG b0 H0 D vu vs X M) below s w0 res) (F0 m 80 ls [.int xS0]) := by
  unfold q_AckBookModel_sample_80 at h
  refine lv_istore_n (i := 3) (lv' := [(3, .int xS0), (0, va_rf rL0)]) hC.1 hC.2.1 d_AckBookModel_sample_80 rfl hl (by decide) (by first | rfl | simp [z_rfc, z_ci, z_cj]) (fun ls hl => ?_)
  refine x_aload_n hC d_AckBookModel_sample_81 rfl (lv_at hl 1 rfl) ?_
  refine x_getI hC hZ zc10 h (by decide) t_837 (fun _ h9 => h9) d_AckBookModel_sample_82 (fun v4 h => ?_)
  refine lv_bipush (v := (8 : Int32)) hC.1 hC.2.1 d_AckBookModel_sample_85 (by decide) ?_
  refine lv_idiv hC.1 hC.2.1 d_AckBookModel_sample_87 (by decide) ?_
  refine lv_iload_n hC.1 hC.2.1 d_AckBookModel_sample_88 rfl (lv_at hl 0 rfl) ?_
  refine lv_isub hC.1 hC.2.1 d_AckBookModel_sample_89 ?_
  refine lv_istore (i := 4) (lv' := [(4, .int ((v4 / (8 : Int32)) - xS0)), (3, .int xS0), (0, va_rf rL0)]) hC.1 hC.2.1 d_AckBookModel_sample_90 hl (by decide) (by first | rfl | simp [z_rfc, z_ci, z_cj]) (fun ls hl => ?_)
  refine x_aload_n hC d_AckBookModel_sample_92 rfl (lv_at hl 2 rfl) ?_
  refine lv_dup hC.1 hC.2.1 d_AckBookModel_sample_93 (z_rfc _) ?_
  refine x_getI hC hZ zc10 h (by decide) t_838 (fun _ h9 => h9) d_AckBookModel_sample_94 (fun v5 h => ?_)
  refine lv_iload hC.1 hC.2.1 d_AckBookModel_sample_97 (lv_at hl 0 rfl) ?_
  refine lv_if_ge (tgt := 108) hC.1 hC.2.1 d_AckBookModel_sample_99 (by decide) (fun hc => ?_) (fun hc => ?_)
  · have h := z_ifp hc h
    refine lv_iload hC.1 hC.2.1 d_AckBookModel_sample_108 (lv_at hl 0 rfl) ?_
    exact kq_AckBookModel_sample_110 hT hfl hE hC hr hRc hRs hFr hRt hnm _ _ _ _ _ _ _ h _ _ _ _ _ hZ (lv_sub hl [2, 1] rfl)
  · have h := z_ifn hc h
    refine lv_iload hC.1 hC.2.1 d_AckBookModel_sample_102 (lv_at hl 0 rfl) ?_
    refine lv_ineg hC.1 hC.2.1 d_AckBookModel_sample_104 ?_
    refine lv_goto (tgt := 110) hC.1 hC.2.1 d_AckBookModel_sample_105 (by decide) ?_
    exact kq_AckBookModel_sample_110 hT hfl hE hC hr hRc hRs hFr hRt hnm _ _ _ _ _ _ _ h _ _ _ _ _ hZ (lv_sub hl [2, 1] rfl)
def q_AckBookModel_sample_29 (F X : Nat) (rL0 : Option Nat) (xL1 : Int32) (xL2 : Int32) (rS0 : Option Nat) (xS1 : Int32) (w : zW) : zR :=
  z_put w 10 21 rS0 (.int xS1) fun w =>
  z_getI w 10 22 rL0 fun v6 =>
  if 0 ≤ v6 then (
    z_getI w 10 21 rL0 fun v7 =>
    if xL1 < (v7 + xL2) then (
      q_AckBookModel_sample_80 F X rL0 xL1 w)
    else (
      q_AckBookModel_sample_80 F X rL0 (xL1 - xL2) w))
  else (
    z_getI w 10 1 rL0 fun v8 =>
    z_put w 10 22 rL0 (.int v8) fun w =>
    z_put w 10 18 rL0 (.int ((8 : Int32) * xL1)) fun w =>
    z_put w 10 19 rL0 (.int ((2 : Int32) * xL1)) fun w =>
    some (.inl none, w))
set_option maxHeartbeats 4000000 in
set_option maxRecDepth 100000 in
theorem kq_AckBookModel_sample_29 {b0 : Nat} {H0 : Heap} {D : va_G} {vu vs : Value} {X M : Nat} {l : Launch} (hT : z_TB (zGG b0 H0 D vu vs X M)) (hfl : l.flags = pinnedFlags ++ [noTraceFlag]) (hE : vu.isRef = true ∧ vs.isRef = true) {p : Program} {e : Env} {R : Room} {s : State} {m : MethodId} {args : Array Value} {below : List Frame} {meth : Method} {c : Code} {w0 : zW} {F : Nat} (hC : z_C (zGG b0 H0 D vu vs X M) p e s m meth c c_AckBookModel_sample 5 y_AckBookModel_sample.cls) (hr : meth.sig.returnType = (none)) (hRc : R.cells = w0.2.1) (hRs : R.slots = w0.2.2.1) (hFr : c.exceptionTable.toList = []) (hRt : R.frames = 0 ∧ R.locals = 0) (hnm : meth.name = y_AckBookModel_sample.name) (rL0 : Option Nat) (xL1 : Int32) (xL2 : Int32) (rS0 : Option Nat) (xS1 : Int32) (w : zW) (res : zO × zW) (h : q_AckBookModel_sample_29 F X rL0 xL1 xL2 rS0 xS1 w = some res) (H : Heap) (locs : List Loc) (cells slots : Nat) (ls : Array Slot) (hZ : z_Z (zGG b0 H0 D vu vs X M) R s w H locs cells slots) (hl : lv_has ls 5 [(0, va_rf rL0), (1, .int xL1), (2, .int xL2)]) : W p l e R s m args below meth c H locs cells slots (z_Q (zGG b0 H0 D vu vs X M) below s w0 res) (F0 m 29 ls [.int xS1, va_rf rS0]) := by
  unfold q_AckBookModel_sample_29 at h
  refine x_put hC hZ zc10 h (by decide) t_840 (fun _ h9 => h9) rfl rfl rfl rfl d_AckBookModel_sample_29 (fun w H locs hZ h => ?_)
  refine x_aload_n hC d_AckBookModel_sample_32 rfl (lv_at hl 0 rfl) ?_
  refine x_getI hC hZ zc10 h (by decide) t_841 (fun _ h9 => h9) d_AckBookModel_sample_33 (fun v6 h => ?_)
  refine lv_if_ge (tgt := 63) hC.1 hC.2.1 d_AckBookModel_sample_36 (by decide) (fun hc => ?_) (fun hc => ?_)
  · have h := z_ifp hc h
    refine lv_iload_n hC.1 hC.2.1 d_AckBookModel_sample_63 rfl (lv_at hl 1 rfl) ?_
    refine x_aload_n hC d_AckBookModel_sample_64 rfl (lv_at hl 0 rfl) ?_
    refine x_getI hC hZ zc10 h (by decide) t_840 (fun _ h9 => h9) d_AckBookModel_sample_65 (fun v7 h => ?_)
    refine lv_iload_n hC.1 hC.2.1 d_AckBookModel_sample_68 rfl (lv_at hl 2 rfl) ?_
    refine lv_iadd hC.1 hC.2.1 d_AckBookModel_sample_69 ?_
    refine lv_icmp_lt (tgt := 79) hC.1 hC.2.1 d_AckBookModel_sample_70 (by decide) (fun hc => ?_) (fun hc => ?_)
    · have h := z_ifp hc h
      refine lv_iload_n hC.1 hC.2.1 d_AckBookModel_sample_79 rfl (lv_at hl 1 rfl) ?_
      exact kq_AckBookModel_sample_80 hT hfl hE hC hr hRc hRs hFr hRt hnm _ _ _ _ h _ _ _ _ _ hZ (lv_sub hl [0] rfl)
    · have h := z_ifn hc h
      refine lv_iload_n hC.1 hC.2.1 d_AckBookModel_sample_73 rfl (lv_at hl 1 rfl) ?_
      refine lv_iload_n hC.1 hC.2.1 d_AckBookModel_sample_74 rfl (lv_at hl 2 rfl) ?_
      refine lv_isub hC.1 hC.2.1 d_AckBookModel_sample_75 ?_
      refine lv_goto (tgt := 80) hC.1 hC.2.1 d_AckBookModel_sample_76 (by decide) ?_
      exact kq_AckBookModel_sample_80 hT hfl hE hC hr hRc hRs hFr hRt hnm _ _ _ _ h _ _ _ _ _ hZ (lv_sub hl [0] rfl)
  · have h := z_ifn hc h
    refine x_aload_n hC d_AckBookModel_sample_39 rfl (lv_at hl 0 rfl) ?_
    refine x_aload_n hC d_AckBookModel_sample_40 rfl (lv_at hl 0 rfl) ?_
    refine x_getI hC hZ zc10 h (by decide) t_820 (fun _ h9 => h9) d_AckBookModel_sample_41 (fun v8 h => ?_)
    refine x_put hC hZ zc10 h (by decide) t_841 (fun _ h9 => h9) rfl rfl rfl rfl d_AckBookModel_sample_44 (fun w H locs hZ h => ?_)
    refine x_aload_n hC d_AckBookModel_sample_47 rfl (lv_at hl 0 rfl) ?_
    refine lv_bipush (v := (8 : Int32)) hC.1 hC.2.1 d_AckBookModel_sample_48 (by decide) ?_
    refine lv_iload_n hC.1 hC.2.1 d_AckBookModel_sample_50 rfl (lv_at hl 1 rfl) ?_
    refine lv_imul hC.1 hC.2.1 d_AckBookModel_sample_51 ?_
    refine x_put hC hZ zc10 h (by decide) t_837 (fun _ h9 => h9) rfl rfl rfl rfl d_AckBookModel_sample_52 (fun w H locs hZ h => ?_)
    refine x_aload_n hC d_AckBookModel_sample_55 rfl (lv_at hl 0 rfl) ?_
    refine lv_iconst (v := (2 : Int32)) hC.1 hC.2.1 d_AckBookModel_sample_56 (by decide) ?_
    refine lv_iload_n hC.1 hC.2.1 d_AckBookModel_sample_57 rfl (lv_at hl 1 rfl) ?_
    refine lv_imul hC.1 hC.2.1 d_AckBookModel_sample_58 ?_
    refine x_put hC hZ zc10 h (by decide) t_838 (fun _ h9 => h9) rfl rfl rfl rfl d_AckBookModel_sample_59 (fun w H locs hZ h => ?_)
    exact x_vret hC hRc hRs hZ hr h d_AckBookModel_sample_62
def q_AckBookModel_sample_21 (F X : Nat) (rL0 : Option Nat) (xL1 : Int32) (xL2 : Int32) (rS0 : Option Nat) (w : zW) : zR :=
  q_AckBookModel_sample_29 F X rL0 xL1 xL2 rS0 xL1 w
set_option maxHeartbeats 4000000 in
set_option maxRecDepth 100000 in
theorem kq_AckBookModel_sample_21 {b0 : Nat} {H0 : Heap} {D : va_G} {vu vs : Value} {X M : Nat} {l : Launch} (hT : z_TB (zGG b0 H0 D vu vs X M)) (hfl : l.flags = pinnedFlags ++ [noTraceFlag]) (hE : vu.isRef = true ∧ vs.isRef = true) {p : Program} {e : Env} {R : Room} {s : State} {m : MethodId} {args : Array Value} {below : List Frame} {meth : Method} {c : Code} {w0 : zW} {F : Nat} (hC : z_C (zGG b0 H0 D vu vs X M) p e s m meth c c_AckBookModel_sample 5 y_AckBookModel_sample.cls) (hr : meth.sig.returnType = (none)) (hRc : R.cells = w0.2.1) (hRs : R.slots = w0.2.2.1) (hFr : c.exceptionTable.toList = []) (hRt : R.frames = 0 ∧ R.locals = 0) (hnm : meth.name = y_AckBookModel_sample.name) (rL0 : Option Nat) (xL1 : Int32) (xL2 : Int32) (rS0 : Option Nat) (w : zW) (res : zO × zW) (h : q_AckBookModel_sample_21 F X rL0 xL1 xL2 rS0 w = some res) (H : Heap) (locs : List Loc) (cells slots : Nat) (ls : Array Slot) (hZ : z_Z (zGG b0 H0 D vu vs X M) R s w H locs cells slots) (hl : lv_has ls 5 [(0, va_rf rL0), (1, .int xL1), (2, .int xL2)]) : W p l e R s m args below meth c H locs cells slots (z_Q (zGG b0 H0 D vu vs X M) below s w0 res) (F0 m 21 ls [va_rf rS0]) := by
  unfold q_AckBookModel_sample_21 at h
  refine lv_iload_n hC.1 hC.2.1 d_AckBookModel_sample_21 rfl (lv_at hl 1 rfl) ?_
  refine lv_goto (tgt := 29) hC.1 hC.2.1 d_AckBookModel_sample_22 (by decide) ?_
  exact kq_AckBookModel_sample_29 hT hfl hE hC hr hRc hRs hFr hRt hnm _ _ _ _ _ _ _ h _ _ _ _ _ hZ (lv_sub hl [0, 1, 2] rfl)
def f_AckBookModel_sample (F X : Nat) (a0 : Option Nat) (pI1 : Int32) (pI2 : Int32) (w : zW) : zR :=
  z_put w 10 20 a0 (.int pI1) fun w =>
  z_getI w 10 21 a0 fun v9 =>
  if v9 < 0 then (
    q_AckBookModel_sample_21 F X a0 pI1 pI2 a0 w)
  else (
    z_getI w 10 21 a0 fun v10 =>
    if v10 ≤ pI1 then (
      z_getI w 10 21 a0 fun v11 =>
      q_AckBookModel_sample_29 F X a0 pI1 pI2 a0 v11 w)
    else (
      q_AckBookModel_sample_21 F X a0 pI1 pI2 a0 w))
set_option maxHeartbeats 4000000 in
set_option maxRecDepth 100000 in
theorem k_AckBookModel_sample {b0 : Nat} {H0 : Heap} {D : va_G} {vu vs : Value} {X M : Nat} {l : Launch} (hT : z_TB (zGG b0 H0 D vu vs X M)) (hfl : l.flags = pinnedFlags ++ [noTraceFlag]) (hE : vu.isRef = true ∧ vs.isRef = true) {a0 : Option Nat} {pI1 : Int32} {pI2 : Int32} (F : Nat) {w : zW} (res : zO × zW) (h : f_AckBookModel_sample F X a0 pI1 pI2 w = some res) : z_Ct (zGG b0 H0 D vu vs X M) l y_AckBookModel_sample (.code y_AckBookModel_sample c_AckBookModel_sample 5 (none)) 0 0 [va_rf a0, .int pI1, .int pI2] w res := by
  refine z_ct hT hfl (by decide) (by simp only [z_sl_i, z_sl_j, z_sl_r, z_sl_n]; decide) ?_
  intro p e R s m args below meth c hC hr hRc hRs hRt hnm hFr H ls hZ hl
  simp only [z_la_i, z_la_j, z_la_r, z_la_n] at hl
  have hl : lv_has ls 5 [(0, va_rf a0), (1, .int pI1), (2, .int pI2)] := hl
  unfold f_AckBookModel_sample at h
  refine x_aload_n hC d_AckBookModel_sample_0 rfl (lv_at hl 0 rfl) ?_
  refine lv_iload_n hC.1 hC.2.1 d_AckBookModel_sample_1 rfl (lv_at hl 1 rfl) ?_
  refine x_put hC hZ zc10 h (by decide) t_839 (fun _ h9 => h9) rfl rfl rfl rfl d_AckBookModel_sample_2 (fun w H locs hZ h => ?_)
  refine x_aload_n hC d_AckBookModel_sample_5 rfl (lv_at hl 0 rfl) ?_
  refine x_aload_n hC d_AckBookModel_sample_6 rfl (lv_at hl 0 rfl) ?_
  refine x_getI hC hZ zc10 h (by decide) t_840 (fun _ h9 => h9) d_AckBookModel_sample_7 (fun v9 h => ?_)
  refine lv_if_lt (tgt := 21) hC.1 hC.2.1 d_AckBookModel_sample_10 (by decide) (fun hc => ?_) (fun hc => ?_)
  · have h := z_ifp hc h
    exact kq_AckBookModel_sample_21 hT hfl hE hC hr hRc hRs hFr hRt hnm _ _ _ _ _ _ h _ _ _ _ _ hZ (lv_sub hl [0, 1, 2] rfl)
  · have h := z_ifn hc h
    refine lv_iload_n hC.1 hC.2.1 d_AckBookModel_sample_13 rfl (lv_at hl 1 rfl) ?_
    refine x_aload_n hC d_AckBookModel_sample_14 rfl (lv_at hl 0 rfl) ?_
    refine x_getI hC hZ zc10 h (by decide) t_840 (fun _ h9 => h9) d_AckBookModel_sample_15 (fun v10 h => ?_)
    refine lv_icmp_ge (tgt := 25) hC.1 hC.2.1 d_AckBookModel_sample_18 (by decide) (fun hc => ?_) (fun hc => ?_)
    · have h := z_ifp hc h
      refine x_aload_n hC d_AckBookModel_sample_25 rfl (lv_at hl 0 rfl) ?_
      refine x_getI hC hZ zc10 h (by decide) t_840 (fun _ h9 => h9) d_AckBookModel_sample_26 (fun v11 h => ?_)
      exact kq_AckBookModel_sample_29 hT hfl hE hC hr hRc hRs hFr hRt hnm _ _ _ _ _ _ _ h _ _ _ _ _ hZ (lv_sub hl [0, 1, 2] rfl)
    · have h := z_ifn hc h
      exact kq_AckBookModel_sample_21 hT hfl hE hC hr hRc hRs hFr hRt hnm _ _ _ _ _ _ h _ _ _ _ _ hZ (lv_sub hl [0, 1, 2] rfl)
