def f_AckBookModel_span (F X : Nat) (a0 : Option Nat) (pJ1 : Int64) (pJ2 : Int64) (w : zW) : zR :=
  if (lg_cmp pJ1 (0 : Int64)) < 0 then (
    z_this w 10 a0 <|
    z_cI (f_AckBookModel_fails F X a0 (1 : Int32) (1 : Int32) w) fun v2 w =>
    if v2 = 0 then (
      z_getI w 10 27 a0 fun v3 =>
      if v3 = (64 : Int32) then (
        z_this w 10 a0 <|
        z_cI (f_AckBookModel_fails F X a0 (1 : Int32) (2 : Int32) w) fun v5 w =>
        if v5 = 0 then (
          z_getR w 10 28 a0 fun r6 =>
          z_getI w 10 27 a0 fun v7 =>
          z_stL w r6 v7 pJ1 fun w =>
          z_getR w 10 29 a0 fun r8 =>
          z_getI w 10 27 a0 fun v9 =>
          z_stL w r8 v9 pJ2 fun w =>
          z_getI w 10 27 a0 fun v10 =>
          z_put w 10 27 a0 (.int (v10 + (1 : Int32))) fun w =>
          z_getI w 10 27 a0 fun v11 =>
          some (.inl (some (.int v11)), w))
        else (
          some (.inl (some (.int (0 : Int32))), w)))
      else (
        z_this w 10 a0 <|
        z_cI (f_AckBookModel_fails F X a0 (0 : Int32) (2 : Int32) w) fun v13 w =>
        if v13 = 0 then (
          z_getR w 10 28 a0 fun r14 =>
          z_getI w 10 27 a0 fun v15 =>
          z_stL w r14 v15 pJ1 fun w =>
          z_getR w 10 29 a0 fun r16 =>
          z_getI w 10 27 a0 fun v17 =>
          z_stL w r16 v17 pJ2 fun w =>
          z_getI w 10 27 a0 fun v18 =>
          z_put w 10 27 a0 (.int (v18 + (1 : Int32))) fun w =>
          z_getI w 10 27 a0 fun v19 =>
          some (.inl (some (.int v19)), w))
        else (
          some (.inl (some (.int (0 : Int32))), w))))
    else (
      some (.inl (some (.int (0 : Int32))), w)))
  else (
    if (lg_cmp pJ2 pJ1) < 0 then (
      z_this w 10 a0 <|
      z_cI (f_AckBookModel_fails F X a0 (1 : Int32) (1 : Int32) w) fun v21 w =>
      if v21 = 0 then (
        z_getI w 10 27 a0 fun v22 =>
        if v22 = (64 : Int32) then (
          z_this w 10 a0 <|
          z_cI (f_AckBookModel_fails F X a0 (1 : Int32) (2 : Int32) w) fun v24 w =>
          if v24 = 0 then (
            z_getR w 10 28 a0 fun r25 =>
            z_getI w 10 27 a0 fun v26 =>
            z_stL w r25 v26 pJ1 fun w =>
            z_getR w 10 29 a0 fun r27 =>
            z_getI w 10 27 a0 fun v28 =>
            z_stL w r27 v28 pJ2 fun w =>
            z_getI w 10 27 a0 fun v29 =>
            z_put w 10 27 a0 (.int (v29 + (1 : Int32))) fun w =>
            z_getI w 10 27 a0 fun v30 =>
            some (.inl (some (.int v30)), w))
          else (
            some (.inl (some (.int (0 : Int32))), w)))
        else (
          z_this w 10 a0 <|
          z_cI (f_AckBookModel_fails F X a0 (0 : Int32) (2 : Int32) w) fun v32 w =>
          if v32 = 0 then (
            z_getR w 10 28 a0 fun r33 =>
            z_getI w 10 27 a0 fun v34 =>
            z_stL w r33 v34 pJ1 fun w =>
            z_getR w 10 29 a0 fun r35 =>
            z_getI w 10 27 a0 fun v36 =>
            z_stL w r35 v36 pJ2 fun w =>
            z_getI w 10 27 a0 fun v37 =>
            z_put w 10 27 a0 (.int (v37 + (1 : Int32))) fun w =>
            z_getI w 10 27 a0 fun v38 =>
            some (.inl (some (.int v38)), w))
          else (
            some (.inl (some (.int (0 : Int32))), w))))
      else (
        some (.inl (some (.int (0 : Int32))), w)))
    else (
      z_getI w 10 27 a0 fun v39 =>
      if v39 ≤ 0 then (
        z_this w 10 a0 <|
        z_cI (f_AckBookModel_fails F X a0 (0 : Int32) (1 : Int32) w) fun v41 w =>
        if v41 = 0 then (
          z_getI w 10 27 a0 fun v42 =>
          if v42 = (64 : Int32) then (
            z_this w 10 a0 <|
            z_cI (f_AckBookModel_fails F X a0 (1 : Int32) (2 : Int32) w) fun v44 w =>
            if v44 = 0 then (
              z_getR w 10 28 a0 fun r45 =>
              z_getI w 10 27 a0 fun v46 =>
              z_stL w r45 v46 pJ1 fun w =>
              z_getR w 10 29 a0 fun r47 =>
              z_getI w 10 27 a0 fun v48 =>
              z_stL w r47 v48 pJ2 fun w =>
              z_getI w 10 27 a0 fun v49 =>
              z_put w 10 27 a0 (.int (v49 + (1 : Int32))) fun w =>
              z_getI w 10 27 a0 fun v50 =>
              some (.inl (some (.int v50)), w))
            else (
              some (.inl (some (.int (0 : Int32))), w)))
          else (
            z_this w 10 a0 <|
            z_cI (f_AckBookModel_fails F X a0 (0 : Int32) (2 : Int32) w) fun v52 w =>
            if v52 = 0 then (
              z_getR w 10 28 a0 fun r53 =>
              z_getI w 10 27 a0 fun v54 =>
              z_stL w r53 v54 pJ1 fun w =>
              z_getR w 10 29 a0 fun r55 =>
              z_getI w 10 27 a0 fun v56 =>
              z_stL w r55 v56 pJ2 fun w =>
              z_getI w 10 27 a0 fun v57 =>
              z_put w 10 27 a0 (.int (v57 + (1 : Int32))) fun w =>
              z_getI w 10 27 a0 fun v58 =>
              some (.inl (some (.int v58)), w))
            else (
              some (.inl (some (.int (0 : Int32))), w))))
        else (
          some (.inl (some (.int (0 : Int32))), w)))
      else (
        z_getR w 10 28 a0 fun r59 =>
        z_getI w 10 27 a0 fun v60 =>
        z_ldL w r59 (v60 - (1 : Int32)) fun v61 =>
        if (lg_cmp pJ2 (v61 - (2 : Int64))) ≤ 0 then (
          z_this w 10 a0 <|
          z_cI (f_AckBookModel_fails F X a0 (0 : Int32) (1 : Int32) w) fun v63 w =>
          if v63 = 0 then (
            z_getI w 10 27 a0 fun v64 =>
            if v64 = (64 : Int32) then (
              z_this w 10 a0 <|
              z_cI (f_AckBookModel_fails F X a0 (1 : Int32) (2 : Int32) w) fun v66 w =>
              if v66 = 0 then (
                z_getR w 10 28 a0 fun r67 =>
                z_getI w 10 27 a0 fun v68 =>
                z_stL w r67 v68 pJ1 fun w =>
                z_getR w 10 29 a0 fun r69 =>
                z_getI w 10 27 a0 fun v70 =>
                z_stL w r69 v70 pJ2 fun w =>
                z_getI w 10 27 a0 fun v71 =>
                z_put w 10 27 a0 (.int (v71 + (1 : Int32))) fun w =>
                z_getI w 10 27 a0 fun v72 =>
                some (.inl (some (.int v72)), w))
              else (
                some (.inl (some (.int (0 : Int32))), w)))
            else (
              z_this w 10 a0 <|
              z_cI (f_AckBookModel_fails F X a0 (0 : Int32) (2 : Int32) w) fun v74 w =>
              if v74 = 0 then (
                z_getR w 10 28 a0 fun r75 =>
                z_getI w 10 27 a0 fun v76 =>
                z_stL w r75 v76 pJ1 fun w =>
                z_getR w 10 29 a0 fun r77 =>
                z_getI w 10 27 a0 fun v78 =>
                z_stL w r77 v78 pJ2 fun w =>
                z_getI w 10 27 a0 fun v79 =>
                z_put w 10 27 a0 (.int (v79 + (1 : Int32))) fun w =>
                z_getI w 10 27 a0 fun v80 =>
                some (.inl (some (.int v80)), w))
              else (
                some (.inl (some (.int (0 : Int32))), w))))
          else (
            some (.inl (some (.int (0 : Int32))), w)))
        else (
          z_this w 10 a0 <|
          z_cI (f_AckBookModel_fails F X a0 (1 : Int32) (1 : Int32) w) fun v82 w =>
          if v82 = 0 then (
            z_getI w 10 27 a0 fun v83 =>
            if v83 = (64 : Int32) then (
              z_this w 10 a0 <|
              z_cI (f_AckBookModel_fails F X a0 (1 : Int32) (2 : Int32) w) fun v85 w =>
              if v85 = 0 then (
                z_getR w 10 28 a0 fun r86 =>
                z_getI w 10 27 a0 fun v87 =>
                z_stL w r86 v87 pJ1 fun w =>
                z_getR w 10 29 a0 fun r88 =>
                z_getI w 10 27 a0 fun v89 =>
                z_stL w r88 v89 pJ2 fun w =>
                z_getI w 10 27 a0 fun v90 =>
                z_put w 10 27 a0 (.int (v90 + (1 : Int32))) fun w =>
                z_getI w 10 27 a0 fun v91 =>
                some (.inl (some (.int v91)), w))
              else (
                some (.inl (some (.int (0 : Int32))), w)))
            else (
              z_this w 10 a0 <|
              z_cI (f_AckBookModel_fails F X a0 (0 : Int32) (2 : Int32) w) fun v93 w =>
              if v93 = 0 then (
                z_getR w 10 28 a0 fun r94 =>
                z_getI w 10 27 a0 fun v95 =>
                z_stL w r94 v95 pJ1 fun w =>
                z_getR w 10 29 a0 fun r96 =>
                z_getI w 10 27 a0 fun v97 =>
                z_stL w r96 v97 pJ2 fun w =>
                z_getI w 10 27 a0 fun v98 =>
                z_put w 10 27 a0 (.int (v98 + (1 : Int32))) fun w =>
                z_getI w 10 27 a0 fun v99 =>
                some (.inl (some (.int v99)), w))
              else (
                some (.inl (some (.int (0 : Int32))), w))))
          else (
            some (.inl (some (.int (0 : Int32))), w))))))
set_option maxHeartbeats 4000000 in
set_option maxRecDepth 100000 in
theorem k_AckBookModel_span {b0 : Nat} {H0 : Heap} {D : va_G} {vu vs : Value} {X : Nat} {l : Launch} (hT : z_TB (zGG b0 H0 D vu vs X)) (hfl : l.flags = pinnedFlags ++ [noTraceFlag]) (hE : vu.isRef = true ∧ vs.isRef = true) {a0 : Option Nat} {pJ1 : Int64} {pJ2 : Int64} (F : Nat) {w : zW} (res : zO × zW) (h : f_AckBookModel_span F X a0 pJ1 pJ2 w = some res) : z_Ct (zGG b0 H0 D vu vs X) l y_AckBookModel_span (.code y_AckBookModel_span c_AckBookModel_span 5 (some FieldType.int)) 1 22 [va_rf a0, .long pJ1, .long pJ2] w res := by
  refine z_ct hT hfl (by decide) (by simp only [z_sl_i, z_sl_j, z_sl_r, z_sl_n]; decide) ?_
  intro p e R s m args below meth c hC hr hRc hRs hRt hnm hFr H ls hZ hl
  simp only [z_la_i, z_la_j, z_la_r, z_la_n] at hl
  have hl : lv_has ls 5 [(0, va_rf a0), (1, .long pJ1), (3, .long pJ2)] := hl
  unfold f_AckBookModel_span at h
  refine x_aload_n hC d_AckBookModel_span_0 rfl (lv_at hl 0 rfl) ?_
  refine lv_lload_n hC.1 hC.2.1 d_AckBookModel_span_1 rfl (lv_at hl 1 rfl) ?_
  refine lv_lconst (v := (0 : Int64)) hC.1 hC.2.1 d_AckBookModel_span_2 (by decide) ?_
  refine W.lcmp hC.1 hC.2.1 d_AckBookModel_span_3 ?_
  refine lv_if_lt (tgt := 40) hC.1 hC.2.1 d_AckBookModel_span_4 (by decide) (fun hc => ?_) (fun hc => ?_)
  · have h := z_ifp hc h
    refine lv_iconst (v := (1 : Int32)) hC.1 hC.2.1 d_AckBookModel_span_40 (by decide) ?_
    refine lv_goto (tgt := 45) hC.1 hC.2.1 d_AckBookModel_span_41 (by decide) ?_
    refine lv_iconst (v := (1 : Int32)) hC.1 hC.2.1 d_AckBookModel_span_45 (by decide) ?_
    obtain ⟨a_, fs_, eo_, h⟩ := z_this_spec h
    obtain ⟨w1_, o1_, hF_, ha_⟩ := z_cI_spec h
    refine x_goes hC hRc hRs hFr ha_ (z_goV (As := [.int (1 : Int32), .int (1 : Int32)]) hC hZ zc10 eo_ (k_AckBookModel_fails hT hfl hE _ _ hF_) t_947 t_949 ts_AckBookModel_fails t_12 t_950 ⟨by decide, by decide, (by decide +kernel : (parseMethodDescriptor y_AckBookModel_fails.desc).map (fun d => d.parameters.length) = some 2)⟩ (by rw [hRt.1]; decide) (by rw [hRt.2]; decide) hl.1 rfl (by first | exact Nat.le_of_ble_eq_true rfl | simp [z_rfc, z_ci, z_cj]) d_AckBookModel_span_46) (fun v_ hv H locs cells slots hZ => ?_)
    obtain ⟨v2, rfl, h⟩ := hv
    generalize w1_ = w at h hZ
    refine lv_if_ne (tgt := 74) hC.1 hC.2.1 d_AckBookModel_span_49 (by decide) (fun hc => ?_) (fun hc => ?_)
    · have h := z_ifn hc h
      refine lv_iconst (v := (0 : Int32)) hC.1 hC.2.1 d_AckBookModel_span_74 (by decide) ?_
      exact x_iret hC hRc hRs hZ hr rfl h d_AckBookModel_span_75
    · have h := z_ifp hc h
      refine x_aload_n hC d_AckBookModel_span_52 rfl (lv_at hl 0 rfl) ?_
      refine x_aload_n hC d_AckBookModel_span_53 rfl (lv_at hl 0 rfl) ?_
      refine x_getI hC hZ zc10 h (by decide) t_846 (fun _ h9 => h9) d_AckBookModel_span_54 (fun v3 h => ?_)
      refine lv_bipush (v := (64 : Int32)) hC.1 hC.2.1 d_AckBookModel_span_57 (by decide) ?_
      refine lv_icmp_ne (tgt := 66) hC.1 hC.2.1 d_AckBookModel_span_59 (by decide) (fun hc => ?_) (fun hc => ?_)
      · have h := z_ifn hc h
        refine lv_iconst (v := (0 : Int32)) hC.1 hC.2.1 d_AckBookModel_span_66 (by decide) ?_
        refine lv_iconst (v := (2 : Int32)) hC.1 hC.2.1 d_AckBookModel_span_67 (by decide) ?_
        obtain ⟨a_, fs_, eo_, h⟩ := z_this_spec h
        obtain ⟨w1_, o1_, hF_, ha_⟩ := z_cI_spec h
        refine x_goes hC hRc hRs hFr ha_ (z_goV (As := [.int (0 : Int32), .int (2 : Int32)]) hC hZ zc10 eo_ (k_AckBookModel_fails hT hfl hE _ _ hF_) t_947 t_949 ts_AckBookModel_fails t_12 t_950 ⟨by decide, by decide, (by decide +kernel : (parseMethodDescriptor y_AckBookModel_fails.desc).map (fun d => d.parameters.length) = some 2)⟩ (by rw [hRt.1]; decide) (by rw [hRt.2]; decide) hl.1 rfl (by first | exact Nat.le_of_ble_eq_true rfl | simp [z_rfc, z_ci, z_cj]) d_AckBookModel_span_68) (fun v_ hv H locs cells slots hZ => ?_)
        obtain ⟨v13, rfl, h⟩ := hv
        generalize w1_ = w at h hZ
        refine lv_if_eq (tgt := 76) hC.1 hC.2.1 d_AckBookModel_span_71 (by decide) (fun hc => ?_) (fun hc => ?_)
        · have h := z_ifp hc h
          refine x_aload_n hC d_AckBookModel_span_76 rfl (lv_at hl 0 rfl) ?_
          refine x_getR hC hZ zc10 h (by decide) t_847 (fun _ h9 => h9) d_AckBookModel_span_77 (fun r14 h => ?_)
          refine x_aload_n hC d_AckBookModel_span_80 rfl (lv_at hl 0 rfl) ?_
          refine x_getI hC hZ zc10 h (by decide) t_846 (fun _ h9 => h9) d_AckBookModel_span_81 (fun v15 h => ?_)
          refine lv_lload_n hC.1 hC.2.1 d_AckBookModel_span_84 rfl (lv_at hl 1 rfl) ?_
          refine x_stL hC hZ h d_AckBookModel_span_85 (fun w H locs hZ h => ?_)
          refine x_aload_n hC d_AckBookModel_span_86 rfl (lv_at hl 0 rfl) ?_
          refine x_getR hC hZ zc10 h (by decide) t_848 (fun _ h9 => h9) d_AckBookModel_span_87 (fun r16 h => ?_)
          refine x_aload_n hC d_AckBookModel_span_90 rfl (lv_at hl 0 rfl) ?_
          refine x_getI hC hZ zc10 h (by decide) t_846 (fun _ h9 => h9) d_AckBookModel_span_91 (fun v17 h => ?_)
          refine lv_lload_n hC.1 hC.2.1 d_AckBookModel_span_94 rfl (lv_at hl 2 rfl) ?_
          refine x_stL hC hZ h d_AckBookModel_span_95 (fun w H locs hZ h => ?_)
          refine x_aload_n hC d_AckBookModel_span_96 rfl (lv_at hl 0 rfl) ?_
          refine lv_dup hC.1 hC.2.1 d_AckBookModel_span_97 (z_rfc _) ?_
          refine x_getI hC hZ zc10 h (by decide) t_846 (fun _ h9 => h9) d_AckBookModel_span_98 (fun v18 h => ?_)
          refine lv_iconst (v := (1 : Int32)) hC.1 hC.2.1 d_AckBookModel_span_101 (by decide) ?_
          refine lv_iadd hC.1 hC.2.1 d_AckBookModel_span_102 ?_
          refine x_put hC hZ zc10 h (by decide) t_846 (fun _ h9 => h9) rfl rfl rfl rfl d_AckBookModel_span_103 (fun w H locs hZ h => ?_)
          refine x_aload_n hC d_AckBookModel_span_106 rfl (lv_at hl 0 rfl) ?_
          refine x_getI hC hZ zc10 h (by decide) t_846 (fun _ h9 => h9) d_AckBookModel_span_107 (fun v19 h => ?_)
          exact x_iret hC hRc hRs hZ hr rfl h d_AckBookModel_span_110
        · have h := z_ifn hc h
          refine lv_iconst (v := (0 : Int32)) hC.1 hC.2.1 d_AckBookModel_span_74 (by decide) ?_
          exact x_iret hC hRc hRs hZ hr rfl h d_AckBookModel_span_75
      · have h := z_ifp hc h
        refine lv_iconst (v := (1 : Int32)) hC.1 hC.2.1 d_AckBookModel_span_62 (by decide) ?_
        refine lv_goto (tgt := 67) hC.1 hC.2.1 d_AckBookModel_span_63 (by decide) ?_
        refine lv_iconst (v := (2 : Int32)) hC.1 hC.2.1 d_AckBookModel_span_67 (by decide) ?_
        obtain ⟨a_, fs_, eo_, h⟩ := z_this_spec h
        obtain ⟨w1_, o1_, hF_, ha_⟩ := z_cI_spec h
        refine x_goes hC hRc hRs hFr ha_ (z_goV (As := [.int (1 : Int32), .int (2 : Int32)]) hC hZ zc10 eo_ (k_AckBookModel_fails hT hfl hE _ _ hF_) t_947 t_949 ts_AckBookModel_fails t_12 t_950 ⟨by decide, by decide, (by decide +kernel : (parseMethodDescriptor y_AckBookModel_fails.desc).map (fun d => d.parameters.length) = some 2)⟩ (by rw [hRt.1]; decide) (by rw [hRt.2]; decide) hl.1 rfl (by first | exact Nat.le_of_ble_eq_true rfl | simp [z_rfc, z_ci, z_cj]) d_AckBookModel_span_68) (fun v_ hv H locs cells slots hZ => ?_)
        obtain ⟨v5, rfl, h⟩ := hv
        generalize w1_ = w at h hZ
        refine lv_if_eq (tgt := 76) hC.1 hC.2.1 d_AckBookModel_span_71 (by decide) (fun hc => ?_) (fun hc => ?_)
        · have h := z_ifp hc h
          refine x_aload_n hC d_AckBookModel_span_76 rfl (lv_at hl 0 rfl) ?_
          refine x_getR hC hZ zc10 h (by decide) t_847 (fun _ h9 => h9) d_AckBookModel_span_77 (fun r6 h => ?_)
          refine x_aload_n hC d_AckBookModel_span_80 rfl (lv_at hl 0 rfl) ?_
          refine x_getI hC hZ zc10 h (by decide) t_846 (fun _ h9 => h9) d_AckBookModel_span_81 (fun v7 h => ?_)
          refine lv_lload_n hC.1 hC.2.1 d_AckBookModel_span_84 rfl (lv_at hl 1 rfl) ?_
          refine x_stL hC hZ h d_AckBookModel_span_85 (fun w H locs hZ h => ?_)
          refine x_aload_n hC d_AckBookModel_span_86 rfl (lv_at hl 0 rfl) ?_
          refine x_getR hC hZ zc10 h (by decide) t_848 (fun _ h9 => h9) d_AckBookModel_span_87 (fun r8 h => ?_)
          refine x_aload_n hC d_AckBookModel_span_90 rfl (lv_at hl 0 rfl) ?_
          refine x_getI hC hZ zc10 h (by decide) t_846 (fun _ h9 => h9) d_AckBookModel_span_91 (fun v9 h => ?_)
          refine lv_lload_n hC.1 hC.2.1 d_AckBookModel_span_94 rfl (lv_at hl 2 rfl) ?_
          refine x_stL hC hZ h d_AckBookModel_span_95 (fun w H locs hZ h => ?_)
          refine x_aload_n hC d_AckBookModel_span_96 rfl (lv_at hl 0 rfl) ?_
          refine lv_dup hC.1 hC.2.1 d_AckBookModel_span_97 (z_rfc _) ?_
          refine x_getI hC hZ zc10 h (by decide) t_846 (fun _ h9 => h9) d_AckBookModel_span_98 (fun v10 h => ?_)
          refine lv_iconst (v := (1 : Int32)) hC.1 hC.2.1 d_AckBookModel_span_101 (by decide) ?_
          refine lv_iadd hC.1 hC.2.1 d_AckBookModel_span_102 ?_
          refine x_put hC hZ zc10 h (by decide) t_846 (fun _ h9 => h9) rfl rfl rfl rfl d_AckBookModel_span_103 (fun w H locs hZ h => ?_)
          refine x_aload_n hC d_AckBookModel_span_106 rfl (lv_at hl 0 rfl) ?_
          refine x_getI hC hZ zc10 h (by decide) t_846 (fun _ h9 => h9) d_AckBookModel_span_107 (fun v11 h => ?_)
          exact x_iret hC hRc hRs hZ hr rfl h d_AckBookModel_span_110
        · have h := z_ifn hc h
          refine lv_iconst (v := (0 : Int32)) hC.1 hC.2.1 d_AckBookModel_span_74 (by decide) ?_
          exact x_iret hC hRc hRs hZ hr rfl h d_AckBookModel_span_75
  · have h := z_ifn hc h
    refine lv_lload_n hC.1 hC.2.1 d_AckBookModel_span_7 rfl (lv_at hl 2 rfl) ?_
    refine lv_lload_n hC.1 hC.2.1 d_AckBookModel_span_8 rfl (lv_at hl 1 rfl) ?_
    refine W.lcmp hC.1 hC.2.1 d_AckBookModel_span_9 ?_
    refine lv_if_lt (tgt := 40) hC.1 hC.2.1 d_AckBookModel_span_10 (by decide) (fun hc => ?_) (fun hc => ?_)
    · have h := z_ifp hc h
      refine lv_iconst (v := (1 : Int32)) hC.1 hC.2.1 d_AckBookModel_span_40 (by decide) ?_
      refine lv_goto (tgt := 45) hC.1 hC.2.1 d_AckBookModel_span_41 (by decide) ?_
      refine lv_iconst (v := (1 : Int32)) hC.1 hC.2.1 d_AckBookModel_span_45 (by decide) ?_
      obtain ⟨a_, fs_, eo_, h⟩ := z_this_spec h
      obtain ⟨w1_, o1_, hF_, ha_⟩ := z_cI_spec h
      refine x_goes hC hRc hRs hFr ha_ (z_goV (As := [.int (1 : Int32), .int (1 : Int32)]) hC hZ zc10 eo_ (k_AckBookModel_fails hT hfl hE _ _ hF_) t_947 t_949 ts_AckBookModel_fails t_12 t_950 ⟨by decide, by decide, (by decide +kernel : (parseMethodDescriptor y_AckBookModel_fails.desc).map (fun d => d.parameters.length) = some 2)⟩ (by rw [hRt.1]; decide) (by rw [hRt.2]; decide) hl.1 rfl (by first | exact Nat.le_of_ble_eq_true rfl | simp [z_rfc, z_ci, z_cj]) d_AckBookModel_span_46) (fun v_ hv H locs cells slots hZ => ?_)
      obtain ⟨v21, rfl, h⟩ := hv
      generalize w1_ = w at h hZ
      refine lv_if_ne (tgt := 74) hC.1 hC.2.1 d_AckBookModel_span_49 (by decide) (fun hc => ?_) (fun hc => ?_)
      · have h := z_ifn hc h
        refine lv_iconst (v := (0 : Int32)) hC.1 hC.2.1 d_AckBookModel_span_74 (by decide) ?_
        exact x_iret hC hRc hRs hZ hr rfl h d_AckBookModel_span_75
      · have h := z_ifp hc h
        refine x_aload_n hC d_AckBookModel_span_52 rfl (lv_at hl 0 rfl) ?_
        refine x_aload_n hC d_AckBookModel_span_53 rfl (lv_at hl 0 rfl) ?_
        refine x_getI hC hZ zc10 h (by decide) t_846 (fun _ h9 => h9) d_AckBookModel_span_54 (fun v22 h => ?_)
        refine lv_bipush (v := (64 : Int32)) hC.1 hC.2.1 d_AckBookModel_span_57 (by decide) ?_
        refine lv_icmp_ne (tgt := 66) hC.1 hC.2.1 d_AckBookModel_span_59 (by decide) (fun hc => ?_) (fun hc => ?_)
        · have h := z_ifn hc h
          refine lv_iconst (v := (0 : Int32)) hC.1 hC.2.1 d_AckBookModel_span_66 (by decide) ?_
          refine lv_iconst (v := (2 : Int32)) hC.1 hC.2.1 d_AckBookModel_span_67 (by decide) ?_
          obtain ⟨a_, fs_, eo_, h⟩ := z_this_spec h
          obtain ⟨w1_, o1_, hF_, ha_⟩ := z_cI_spec h
          refine x_goes hC hRc hRs hFr ha_ (z_goV (As := [.int (0 : Int32), .int (2 : Int32)]) hC hZ zc10 eo_ (k_AckBookModel_fails hT hfl hE _ _ hF_) t_947 t_949 ts_AckBookModel_fails t_12 t_950 ⟨by decide, by decide, (by decide +kernel : (parseMethodDescriptor y_AckBookModel_fails.desc).map (fun d => d.parameters.length) = some 2)⟩ (by rw [hRt.1]; decide) (by rw [hRt.2]; decide) hl.1 rfl (by first | exact Nat.le_of_ble_eq_true rfl | simp [z_rfc, z_ci, z_cj]) d_AckBookModel_span_68) (fun v_ hv H locs cells slots hZ => ?_)
          obtain ⟨v32, rfl, h⟩ := hv
          generalize w1_ = w at h hZ
          refine lv_if_eq (tgt := 76) hC.1 hC.2.1 d_AckBookModel_span_71 (by decide) (fun hc => ?_) (fun hc => ?_)
          · have h := z_ifp hc h
            refine x_aload_n hC d_AckBookModel_span_76 rfl (lv_at hl 0 rfl) ?_
            refine x_getR hC hZ zc10 h (by decide) t_847 (fun _ h9 => h9) d_AckBookModel_span_77 (fun r33 h => ?_)
            refine x_aload_n hC d_AckBookModel_span_80 rfl (lv_at hl 0 rfl) ?_
            refine x_getI hC hZ zc10 h (by decide) t_846 (fun _ h9 => h9) d_AckBookModel_span_81 (fun v34 h => ?_)
            refine lv_lload_n hC.1 hC.2.1 d_AckBookModel_span_84 rfl (lv_at hl 1 rfl) ?_
            refine x_stL hC hZ h d_AckBookModel_span_85 (fun w H locs hZ h => ?_)
            refine x_aload_n hC d_AckBookModel_span_86 rfl (lv_at hl 0 rfl) ?_
            refine x_getR hC hZ zc10 h (by decide) t_848 (fun _ h9 => h9) d_AckBookModel_span_87 (fun r35 h => ?_)
            refine x_aload_n hC d_AckBookModel_span_90 rfl (lv_at hl 0 rfl) ?_
            refine x_getI hC hZ zc10 h (by decide) t_846 (fun _ h9 => h9) d_AckBookModel_span_91 (fun v36 h => ?_)
            refine lv_lload_n hC.1 hC.2.1 d_AckBookModel_span_94 rfl (lv_at hl 2 rfl) ?_
            refine x_stL hC hZ h d_AckBookModel_span_95 (fun w H locs hZ h => ?_)
            refine x_aload_n hC d_AckBookModel_span_96 rfl (lv_at hl 0 rfl) ?_
            refine lv_dup hC.1 hC.2.1 d_AckBookModel_span_97 (z_rfc _) ?_
            refine x_getI hC hZ zc10 h (by decide) t_846 (fun _ h9 => h9) d_AckBookModel_span_98 (fun v37 h => ?_)
            refine lv_iconst (v := (1 : Int32)) hC.1 hC.2.1 d_AckBookModel_span_101 (by decide) ?_
            refine lv_iadd hC.1 hC.2.1 d_AckBookModel_span_102 ?_
            refine x_put hC hZ zc10 h (by decide) t_846 (fun _ h9 => h9) rfl rfl rfl rfl d_AckBookModel_span_103 (fun w H locs hZ h => ?_)
            refine x_aload_n hC d_AckBookModel_span_106 rfl (lv_at hl 0 rfl) ?_
            refine x_getI hC hZ zc10 h (by decide) t_846 (fun _ h9 => h9) d_AckBookModel_span_107 (fun v38 h => ?_)
            exact x_iret hC hRc hRs hZ hr rfl h d_AckBookModel_span_110
          · have h := z_ifn hc h
            refine lv_iconst (v := (0 : Int32)) hC.1 hC.2.1 d_AckBookModel_span_74 (by decide) ?_
            exact x_iret hC hRc hRs hZ hr rfl h d_AckBookModel_span_75
        · have h := z_ifp hc h
          refine lv_iconst (v := (1 : Int32)) hC.1 hC.2.1 d_AckBookModel_span_62 (by decide) ?_
          refine lv_goto (tgt := 67) hC.1 hC.2.1 d_AckBookModel_span_63 (by decide) ?_
          refine lv_iconst (v := (2 : Int32)) hC.1 hC.2.1 d_AckBookModel_span_67 (by decide) ?_
          obtain ⟨a_, fs_, eo_, h⟩ := z_this_spec h
          obtain ⟨w1_, o1_, hF_, ha_⟩ := z_cI_spec h
          refine x_goes hC hRc hRs hFr ha_ (z_goV (As := [.int (1 : Int32), .int (2 : Int32)]) hC hZ zc10 eo_ (k_AckBookModel_fails hT hfl hE _ _ hF_) t_947 t_949 ts_AckBookModel_fails t_12 t_950 ⟨by decide, by decide, (by decide +kernel : (parseMethodDescriptor y_AckBookModel_fails.desc).map (fun d => d.parameters.length) = some 2)⟩ (by rw [hRt.1]; decide) (by rw [hRt.2]; decide) hl.1 rfl (by first | exact Nat.le_of_ble_eq_true rfl | simp [z_rfc, z_ci, z_cj]) d_AckBookModel_span_68) (fun v_ hv H locs cells slots hZ => ?_)
          obtain ⟨v24, rfl, h⟩ := hv
          generalize w1_ = w at h hZ
          refine lv_if_eq (tgt := 76) hC.1 hC.2.1 d_AckBookModel_span_71 (by decide) (fun hc => ?_) (fun hc => ?_)
          · have h := z_ifp hc h
            refine x_aload_n hC d_AckBookModel_span_76 rfl (lv_at hl 0 rfl) ?_
            refine x_getR hC hZ zc10 h (by decide) t_847 (fun _ h9 => h9) d_AckBookModel_span_77 (fun r25 h => ?_)
            refine x_aload_n hC d_AckBookModel_span_80 rfl (lv_at hl 0 rfl) ?_
            refine x_getI hC hZ zc10 h (by decide) t_846 (fun _ h9 => h9) d_AckBookModel_span_81 (fun v26 h => ?_)
            refine lv_lload_n hC.1 hC.2.1 d_AckBookModel_span_84 rfl (lv_at hl 1 rfl) ?_
            refine x_stL hC hZ h d_AckBookModel_span_85 (fun w H locs hZ h => ?_)
            refine x_aload_n hC d_AckBookModel_span_86 rfl (lv_at hl 0 rfl) ?_
            refine x_getR hC hZ zc10 h (by decide) t_848 (fun _ h9 => h9) d_AckBookModel_span_87 (fun r27 h => ?_)
            refine x_aload_n hC d_AckBookModel_span_90 rfl (lv_at hl 0 rfl) ?_
            refine x_getI hC hZ zc10 h (by decide) t_846 (fun _ h9 => h9) d_AckBookModel_span_91 (fun v28 h => ?_)
            refine lv_lload_n hC.1 hC.2.1 d_AckBookModel_span_94 rfl (lv_at hl 2 rfl) ?_
            refine x_stL hC hZ h d_AckBookModel_span_95 (fun w H locs hZ h => ?_)
            refine x_aload_n hC d_AckBookModel_span_96 rfl (lv_at hl 0 rfl) ?_
            refine lv_dup hC.1 hC.2.1 d_AckBookModel_span_97 (z_rfc _) ?_
            refine x_getI hC hZ zc10 h (by decide) t_846 (fun _ h9 => h9) d_AckBookModel_span_98 (fun v29 h => ?_)
            refine lv_iconst (v := (1 : Int32)) hC.1 hC.2.1 d_AckBookModel_span_101 (by decide) ?_
            refine lv_iadd hC.1 hC.2.1 d_AckBookModel_span_102 ?_
            refine x_put hC hZ zc10 h (by decide) t_846 (fun _ h9 => h9) rfl rfl rfl rfl d_AckBookModel_span_103 (fun w H locs hZ h => ?_)
            refine x_aload_n hC d_AckBookModel_span_106 rfl (lv_at hl 0 rfl) ?_
            refine x_getI hC hZ zc10 h (by decide) t_846 (fun _ h9 => h9) d_AckBookModel_span_107 (fun v30 h => ?_)
            exact x_iret hC hRc hRs hZ hr rfl h d_AckBookModel_span_110
          · have h := z_ifn hc h
            refine lv_iconst (v := (0 : Int32)) hC.1 hC.2.1 d_AckBookModel_span_74 (by decide) ?_
            exact x_iret hC hRc hRs hZ hr rfl h d_AckBookModel_span_75
    · have h := z_ifn hc h
      refine x_aload_n hC d_AckBookModel_span_13 rfl (lv_at hl 0 rfl) ?_
      refine x_getI hC hZ zc10 h (by decide) t_846 (fun _ h9 => h9) d_AckBookModel_span_14 (fun v39 h => ?_)
      refine lv_if_le (tgt := 44) hC.1 hC.2.1 d_AckBookModel_span_17 (by decide) (fun hc => ?_) (fun hc => ?_)
      · have h := z_ifp hc h
        refine lv_iconst (v := (0 : Int32)) hC.1 hC.2.1 d_AckBookModel_span_44 (by decide) ?_
        refine lv_iconst (v := (1 : Int32)) hC.1 hC.2.1 d_AckBookModel_span_45 (by decide) ?_
        obtain ⟨a_, fs_, eo_, h⟩ := z_this_spec h
        obtain ⟨w1_, o1_, hF_, ha_⟩ := z_cI_spec h
        refine x_goes hC hRc hRs hFr ha_ (z_goV (As := [.int (0 : Int32), .int (1 : Int32)]) hC hZ zc10 eo_ (k_AckBookModel_fails hT hfl hE _ _ hF_) t_947 t_949 ts_AckBookModel_fails t_12 t_950 ⟨by decide, by decide, (by decide +kernel : (parseMethodDescriptor y_AckBookModel_fails.desc).map (fun d => d.parameters.length) = some 2)⟩ (by rw [hRt.1]; decide) (by rw [hRt.2]; decide) hl.1 rfl (by first | exact Nat.le_of_ble_eq_true rfl | simp [z_rfc, z_ci, z_cj]) d_AckBookModel_span_46) (fun v_ hv H locs cells slots hZ => ?_)
        obtain ⟨v41, rfl, h⟩ := hv
        generalize w1_ = w at h hZ
        refine lv_if_ne (tgt := 74) hC.1 hC.2.1 d_AckBookModel_span_49 (by decide) (fun hc => ?_) (fun hc => ?_)
        · have h := z_ifn hc h
          refine lv_iconst (v := (0 : Int32)) hC.1 hC.2.1 d_AckBookModel_span_74 (by decide) ?_
          exact x_iret hC hRc hRs hZ hr rfl h d_AckBookModel_span_75
        · have h := z_ifp hc h
          refine x_aload_n hC d_AckBookModel_span_52 rfl (lv_at hl 0 rfl) ?_
          refine x_aload_n hC d_AckBookModel_span_53 rfl (lv_at hl 0 rfl) ?_
          refine x_getI hC hZ zc10 h (by decide) t_846 (fun _ h9 => h9) d_AckBookModel_span_54 (fun v42 h => ?_)
          refine lv_bipush (v := (64 : Int32)) hC.1 hC.2.1 d_AckBookModel_span_57 (by decide) ?_
          refine lv_icmp_ne (tgt := 66) hC.1 hC.2.1 d_AckBookModel_span_59 (by decide) (fun hc => ?_) (fun hc => ?_)
          · have h := z_ifn hc h
            refine lv_iconst (v := (0 : Int32)) hC.1 hC.2.1 d_AckBookModel_span_66 (by decide) ?_
            refine lv_iconst (v := (2 : Int32)) hC.1 hC.2.1 d_AckBookModel_span_67 (by decide) ?_
            obtain ⟨a_, fs_, eo_, h⟩ := z_this_spec h
            obtain ⟨w1_, o1_, hF_, ha_⟩ := z_cI_spec h
            refine x_goes hC hRc hRs hFr ha_ (z_goV (As := [.int (0 : Int32), .int (2 : Int32)]) hC hZ zc10 eo_ (k_AckBookModel_fails hT hfl hE _ _ hF_) t_947 t_949 ts_AckBookModel_fails t_12 t_950 ⟨by decide, by decide, (by decide +kernel : (parseMethodDescriptor y_AckBookModel_fails.desc).map (fun d => d.parameters.length) = some 2)⟩ (by rw [hRt.1]; decide) (by rw [hRt.2]; decide) hl.1 rfl (by first | exact Nat.le_of_ble_eq_true rfl | simp [z_rfc, z_ci, z_cj]) d_AckBookModel_span_68) (fun v_ hv H locs cells slots hZ => ?_)
            obtain ⟨v52, rfl, h⟩ := hv
            generalize w1_ = w at h hZ
            refine lv_if_eq (tgt := 76) hC.1 hC.2.1 d_AckBookModel_span_71 (by decide) (fun hc => ?_) (fun hc => ?_)
            · have h := z_ifp hc h
              refine x_aload_n hC d_AckBookModel_span_76 rfl (lv_at hl 0 rfl) ?_
              refine x_getR hC hZ zc10 h (by decide) t_847 (fun _ h9 => h9) d_AckBookModel_span_77 (fun r53 h => ?_)
              refine x_aload_n hC d_AckBookModel_span_80 rfl (lv_at hl 0 rfl) ?_
              refine x_getI hC hZ zc10 h (by decide) t_846 (fun _ h9 => h9) d_AckBookModel_span_81 (fun v54 h => ?_)
              refine lv_lload_n hC.1 hC.2.1 d_AckBookModel_span_84 rfl (lv_at hl 1 rfl) ?_
              refine x_stL hC hZ h d_AckBookModel_span_85 (fun w H locs hZ h => ?_)
              refine x_aload_n hC d_AckBookModel_span_86 rfl (lv_at hl 0 rfl) ?_
              refine x_getR hC hZ zc10 h (by decide) t_848 (fun _ h9 => h9) d_AckBookModel_span_87 (fun r55 h => ?_)
              refine x_aload_n hC d_AckBookModel_span_90 rfl (lv_at hl 0 rfl) ?_
              refine x_getI hC hZ zc10 h (by decide) t_846 (fun _ h9 => h9) d_AckBookModel_span_91 (fun v56 h => ?_)
              refine lv_lload_n hC.1 hC.2.1 d_AckBookModel_span_94 rfl (lv_at hl 2 rfl) ?_
              refine x_stL hC hZ h d_AckBookModel_span_95 (fun w H locs hZ h => ?_)
              refine x_aload_n hC d_AckBookModel_span_96 rfl (lv_at hl 0 rfl) ?_
              refine lv_dup hC.1 hC.2.1 d_AckBookModel_span_97 (z_rfc _) ?_
              refine x_getI hC hZ zc10 h (by decide) t_846 (fun _ h9 => h9) d_AckBookModel_span_98 (fun v57 h => ?_)
              refine lv_iconst (v := (1 : Int32)) hC.1 hC.2.1 d_AckBookModel_span_101 (by decide) ?_
              refine lv_iadd hC.1 hC.2.1 d_AckBookModel_span_102 ?_
              refine x_put hC hZ zc10 h (by decide) t_846 (fun _ h9 => h9) rfl rfl rfl rfl d_AckBookModel_span_103 (fun w H locs hZ h => ?_)
              refine x_aload_n hC d_AckBookModel_span_106 rfl (lv_at hl 0 rfl) ?_
              refine x_getI hC hZ zc10 h (by decide) t_846 (fun _ h9 => h9) d_AckBookModel_span_107 (fun v58 h => ?_)
              exact x_iret hC hRc hRs hZ hr rfl h d_AckBookModel_span_110
            · have h := z_ifn hc h
              refine lv_iconst (v := (0 : Int32)) hC.1 hC.2.1 d_AckBookModel_span_74 (by decide) ?_
              exact x_iret hC hRc hRs hZ hr rfl h d_AckBookModel_span_75
          · have h := z_ifp hc h
            refine lv_iconst (v := (1 : Int32)) hC.1 hC.2.1 d_AckBookModel_span_62 (by decide) ?_
            refine lv_goto (tgt := 67) hC.1 hC.2.1 d_AckBookModel_span_63 (by decide) ?_
            refine lv_iconst (v := (2 : Int32)) hC.1 hC.2.1 d_AckBookModel_span_67 (by decide) ?_
            obtain ⟨a_, fs_, eo_, h⟩ := z_this_spec h
            obtain ⟨w1_, o1_, hF_, ha_⟩ := z_cI_spec h
            refine x_goes hC hRc hRs hFr ha_ (z_goV (As := [.int (1 : Int32), .int (2 : Int32)]) hC hZ zc10 eo_ (k_AckBookModel_fails hT hfl hE _ _ hF_) t_947 t_949 ts_AckBookModel_fails t_12 t_950 ⟨by decide, by decide, (by decide +kernel : (parseMethodDescriptor y_AckBookModel_fails.desc).map (fun d => d.parameters.length) = some 2)⟩ (by rw [hRt.1]; decide) (by rw [hRt.2]; decide) hl.1 rfl (by first | exact Nat.le_of_ble_eq_true rfl | simp [z_rfc, z_ci, z_cj]) d_AckBookModel_span_68) (fun v_ hv H locs cells slots hZ => ?_)
            obtain ⟨v44, rfl, h⟩ := hv
            generalize w1_ = w at h hZ
            refine lv_if_eq (tgt := 76) hC.1 hC.2.1 d_AckBookModel_span_71 (by decide) (fun hc => ?_) (fun hc => ?_)
            · have h := z_ifp hc h
              refine x_aload_n hC d_AckBookModel_span_76 rfl (lv_at hl 0 rfl) ?_
              refine x_getR hC hZ zc10 h (by decide) t_847 (fun _ h9 => h9) d_AckBookModel_span_77 (fun r45 h => ?_)
              refine x_aload_n hC d_AckBookModel_span_80 rfl (lv_at hl 0 rfl) ?_
              refine x_getI hC hZ zc10 h (by decide) t_846 (fun _ h9 => h9) d_AckBookModel_span_81 (fun v46 h => ?_)
              refine lv_lload_n hC.1 hC.2.1 d_AckBookModel_span_84 rfl (lv_at hl 1 rfl) ?_
              refine x_stL hC hZ h d_AckBookModel_span_85 (fun w H locs hZ h => ?_)
              refine x_aload_n hC d_AckBookModel_span_86 rfl (lv_at hl 0 rfl) ?_
              refine x_getR hC hZ zc10 h (by decide) t_848 (fun _ h9 => h9) d_AckBookModel_span_87 (fun r47 h => ?_)
              refine x_aload_n hC d_AckBookModel_span_90 rfl (lv_at hl 0 rfl) ?_
              refine x_getI hC hZ zc10 h (by decide) t_846 (fun _ h9 => h9) d_AckBookModel_span_91 (fun v48 h => ?_)
              refine lv_lload_n hC.1 hC.2.1 d_AckBookModel_span_94 rfl (lv_at hl 2 rfl) ?_
              refine x_stL hC hZ h d_AckBookModel_span_95 (fun w H locs hZ h => ?_)
              refine x_aload_n hC d_AckBookModel_span_96 rfl (lv_at hl 0 rfl) ?_
              refine lv_dup hC.1 hC.2.1 d_AckBookModel_span_97 (z_rfc _) ?_
              refine x_getI hC hZ zc10 h (by decide) t_846 (fun _ h9 => h9) d_AckBookModel_span_98 (fun v49 h => ?_)
              refine lv_iconst (v := (1 : Int32)) hC.1 hC.2.1 d_AckBookModel_span_101 (by decide) ?_
              refine lv_iadd hC.1 hC.2.1 d_AckBookModel_span_102 ?_
              refine x_put hC hZ zc10 h (by decide) t_846 (fun _ h9 => h9) rfl rfl rfl rfl d_AckBookModel_span_103 (fun w H locs hZ h => ?_)
              refine x_aload_n hC d_AckBookModel_span_106 rfl (lv_at hl 0 rfl) ?_
              refine x_getI hC hZ zc10 h (by decide) t_846 (fun _ h9 => h9) d_AckBookModel_span_107 (fun v50 h => ?_)
              exact x_iret hC hRc hRs hZ hr rfl h d_AckBookModel_span_110
            · have h := z_ifn hc h
              refine lv_iconst (v := (0 : Int32)) hC.1 hC.2.1 d_AckBookModel_span_74 (by decide) ?_
              exact x_iret hC hRc hRs hZ hr rfl h d_AckBookModel_span_75
      · have h := z_ifn hc h
        refine lv_lload_n hC.1 hC.2.1 d_AckBookModel_span_20 rfl (lv_at hl 2 rfl) ?_
        refine x_aload_n hC d_AckBookModel_span_21 rfl (lv_at hl 0 rfl) ?_
        refine x_getR hC hZ zc10 h (by decide) t_847 (fun _ h9 => h9) d_AckBookModel_span_22 (fun r59 h => ?_)
        refine x_aload_n hC d_AckBookModel_span_25 rfl (lv_at hl 0 rfl) ?_
        refine x_getI hC hZ zc10 h (by decide) t_846 (fun _ h9 => h9) d_AckBookModel_span_26 (fun v60 h => ?_)
        refine lv_iconst (v := (1 : Int32)) hC.1 hC.2.1 d_AckBookModel_span_29 (by decide) ?_
        refine lv_isub hC.1 hC.2.1 d_AckBookModel_span_30 ?_
        refine x_ldL hC hZ h d_AckBookModel_span_31 (fun v61 h => ?_)
        refine lv_ldc2 (v := (2 : Int64)) hC.1 hC.2.1 hC.2.2.2.1 ((hZ.1.tb hC.2.2.2.2.2.2 args) _ t_963) d_AckBookModel_span_32 ?_
        refine lv_lsub hC.1 hC.2.1 d_AckBookModel_span_35 ?_
        refine W.lcmp hC.1 hC.2.1 d_AckBookModel_span_36 ?_
        refine lv_if_le (tgt := 44) hC.1 hC.2.1 d_AckBookModel_span_37 (by decide) (fun hc => ?_) (fun hc => ?_)
        · have h := z_ifp hc h
          refine lv_iconst (v := (0 : Int32)) hC.1 hC.2.1 d_AckBookModel_span_44 (by decide) ?_
          refine lv_iconst (v := (1 : Int32)) hC.1 hC.2.1 d_AckBookModel_span_45 (by decide) ?_
          obtain ⟨a_, fs_, eo_, h⟩ := z_this_spec h
          obtain ⟨w1_, o1_, hF_, ha_⟩ := z_cI_spec h
          refine x_goes hC hRc hRs hFr ha_ (z_goV (As := [.int (0 : Int32), .int (1 : Int32)]) hC hZ zc10 eo_ (k_AckBookModel_fails hT hfl hE _ _ hF_) t_947 t_949 ts_AckBookModel_fails t_12 t_950 ⟨by decide, by decide, (by decide +kernel : (parseMethodDescriptor y_AckBookModel_fails.desc).map (fun d => d.parameters.length) = some 2)⟩ (by rw [hRt.1]; decide) (by rw [hRt.2]; decide) hl.1 rfl (by first | exact Nat.le_of_ble_eq_true rfl | simp [z_rfc, z_ci, z_cj]) d_AckBookModel_span_46) (fun v_ hv H locs cells slots hZ => ?_)
          obtain ⟨v63, rfl, h⟩ := hv
          generalize w1_ = w at h hZ
          refine lv_if_ne (tgt := 74) hC.1 hC.2.1 d_AckBookModel_span_49 (by decide) (fun hc => ?_) (fun hc => ?_)
          · have h := z_ifn hc h
            refine lv_iconst (v := (0 : Int32)) hC.1 hC.2.1 d_AckBookModel_span_74 (by decide) ?_
            exact x_iret hC hRc hRs hZ hr rfl h d_AckBookModel_span_75
          · have h := z_ifp hc h
            refine x_aload_n hC d_AckBookModel_span_52 rfl (lv_at hl 0 rfl) ?_
            refine x_aload_n hC d_AckBookModel_span_53 rfl (lv_at hl 0 rfl) ?_
            refine x_getI hC hZ zc10 h (by decide) t_846 (fun _ h9 => h9) d_AckBookModel_span_54 (fun v64 h => ?_)
            refine lv_bipush (v := (64 : Int32)) hC.1 hC.2.1 d_AckBookModel_span_57 (by decide) ?_
            refine lv_icmp_ne (tgt := 66) hC.1 hC.2.1 d_AckBookModel_span_59 (by decide) (fun hc => ?_) (fun hc => ?_)
            · have h := z_ifn hc h
              refine lv_iconst (v := (0 : Int32)) hC.1 hC.2.1 d_AckBookModel_span_66 (by decide) ?_
              refine lv_iconst (v := (2 : Int32)) hC.1 hC.2.1 d_AckBookModel_span_67 (by decide) ?_
              obtain ⟨a_, fs_, eo_, h⟩ := z_this_spec h
              obtain ⟨w1_, o1_, hF_, ha_⟩ := z_cI_spec h
              refine x_goes hC hRc hRs hFr ha_ (z_goV (As := [.int (0 : Int32), .int (2 : Int32)]) hC hZ zc10 eo_ (k_AckBookModel_fails hT hfl hE _ _ hF_) t_947 t_949 ts_AckBookModel_fails t_12 t_950 ⟨by decide, by decide, (by decide +kernel : (parseMethodDescriptor y_AckBookModel_fails.desc).map (fun d => d.parameters.length) = some 2)⟩ (by rw [hRt.1]; decide) (by rw [hRt.2]; decide) hl.1 rfl (by first | exact Nat.le_of_ble_eq_true rfl | simp [z_rfc, z_ci, z_cj]) d_AckBookModel_span_68) (fun v_ hv H locs cells slots hZ => ?_)
              obtain ⟨v74, rfl, h⟩ := hv
              generalize w1_ = w at h hZ
              refine lv_if_eq (tgt := 76) hC.1 hC.2.1 d_AckBookModel_span_71 (by decide) (fun hc => ?_) (fun hc => ?_)
              · have h := z_ifp hc h
                refine x_aload_n hC d_AckBookModel_span_76 rfl (lv_at hl 0 rfl) ?_
                refine x_getR hC hZ zc10 h (by decide) t_847 (fun _ h9 => h9) d_AckBookModel_span_77 (fun r75 h => ?_)
                refine x_aload_n hC d_AckBookModel_span_80 rfl (lv_at hl 0 rfl) ?_
                refine x_getI hC hZ zc10 h (by decide) t_846 (fun _ h9 => h9) d_AckBookModel_span_81 (fun v76 h => ?_)
                refine lv_lload_n hC.1 hC.2.1 d_AckBookModel_span_84 rfl (lv_at hl 1 rfl) ?_
                refine x_stL hC hZ h d_AckBookModel_span_85 (fun w H locs hZ h => ?_)
                refine x_aload_n hC d_AckBookModel_span_86 rfl (lv_at hl 0 rfl) ?_
                refine x_getR hC hZ zc10 h (by decide) t_848 (fun _ h9 => h9) d_AckBookModel_span_87 (fun r77 h => ?_)
                refine x_aload_n hC d_AckBookModel_span_90 rfl (lv_at hl 0 rfl) ?_
                refine x_getI hC hZ zc10 h (by decide) t_846 (fun _ h9 => h9) d_AckBookModel_span_91 (fun v78 h => ?_)
                refine lv_lload_n hC.1 hC.2.1 d_AckBookModel_span_94 rfl (lv_at hl 2 rfl) ?_
                refine x_stL hC hZ h d_AckBookModel_span_95 (fun w H locs hZ h => ?_)
                refine x_aload_n hC d_AckBookModel_span_96 rfl (lv_at hl 0 rfl) ?_
                refine lv_dup hC.1 hC.2.1 d_AckBookModel_span_97 (z_rfc _) ?_
                refine x_getI hC hZ zc10 h (by decide) t_846 (fun _ h9 => h9) d_AckBookModel_span_98 (fun v79 h => ?_)
                refine lv_iconst (v := (1 : Int32)) hC.1 hC.2.1 d_AckBookModel_span_101 (by decide) ?_
                refine lv_iadd hC.1 hC.2.1 d_AckBookModel_span_102 ?_
                refine x_put hC hZ zc10 h (by decide) t_846 (fun _ h9 => h9) rfl rfl rfl rfl d_AckBookModel_span_103 (fun w H locs hZ h => ?_)
                refine x_aload_n hC d_AckBookModel_span_106 rfl (lv_at hl 0 rfl) ?_
                refine x_getI hC hZ zc10 h (by decide) t_846 (fun _ h9 => h9) d_AckBookModel_span_107 (fun v80 h => ?_)
                exact x_iret hC hRc hRs hZ hr rfl h d_AckBookModel_span_110
              · have h := z_ifn hc h
                refine lv_iconst (v := (0 : Int32)) hC.1 hC.2.1 d_AckBookModel_span_74 (by decide) ?_
                exact x_iret hC hRc hRs hZ hr rfl h d_AckBookModel_span_75
            · have h := z_ifp hc h
              refine lv_iconst (v := (1 : Int32)) hC.1 hC.2.1 d_AckBookModel_span_62 (by decide) ?_
              refine lv_goto (tgt := 67) hC.1 hC.2.1 d_AckBookModel_span_63 (by decide) ?_
              refine lv_iconst (v := (2 : Int32)) hC.1 hC.2.1 d_AckBookModel_span_67 (by decide) ?_
              obtain ⟨a_, fs_, eo_, h⟩ := z_this_spec h
              obtain ⟨w1_, o1_, hF_, ha_⟩ := z_cI_spec h
              refine x_goes hC hRc hRs hFr ha_ (z_goV (As := [.int (1 : Int32), .int (2 : Int32)]) hC hZ zc10 eo_ (k_AckBookModel_fails hT hfl hE _ _ hF_) t_947 t_949 ts_AckBookModel_fails t_12 t_950 ⟨by decide, by decide, (by decide +kernel : (parseMethodDescriptor y_AckBookModel_fails.desc).map (fun d => d.parameters.length) = some 2)⟩ (by rw [hRt.1]; decide) (by rw [hRt.2]; decide) hl.1 rfl (by first | exact Nat.le_of_ble_eq_true rfl | simp [z_rfc, z_ci, z_cj]) d_AckBookModel_span_68) (fun v_ hv H locs cells slots hZ => ?_)
              obtain ⟨v66, rfl, h⟩ := hv
              generalize w1_ = w at h hZ
              refine lv_if_eq (tgt := 76) hC.1 hC.2.1 d_AckBookModel_span_71 (by decide) (fun hc => ?_) (fun hc => ?_)
              · have h := z_ifp hc h
                refine x_aload_n hC d_AckBookModel_span_76 rfl (lv_at hl 0 rfl) ?_
                refine x_getR hC hZ zc10 h (by decide) t_847 (fun _ h9 => h9) d_AckBookModel_span_77 (fun r67 h => ?_)
                refine x_aload_n hC d_AckBookModel_span_80 rfl (lv_at hl 0 rfl) ?_
                refine x_getI hC hZ zc10 h (by decide) t_846 (fun _ h9 => h9) d_AckBookModel_span_81 (fun v68 h => ?_)
                refine lv_lload_n hC.1 hC.2.1 d_AckBookModel_span_84 rfl (lv_at hl 1 rfl) ?_
                refine x_stL hC hZ h d_AckBookModel_span_85 (fun w H locs hZ h => ?_)
                refine x_aload_n hC d_AckBookModel_span_86 rfl (lv_at hl 0 rfl) ?_
                refine x_getR hC hZ zc10 h (by decide) t_848 (fun _ h9 => h9) d_AckBookModel_span_87 (fun r69 h => ?_)
                refine x_aload_n hC d_AckBookModel_span_90 rfl (lv_at hl 0 rfl) ?_
                refine x_getI hC hZ zc10 h (by decide) t_846 (fun _ h9 => h9) d_AckBookModel_span_91 (fun v70 h => ?_)
                refine lv_lload_n hC.1 hC.2.1 d_AckBookModel_span_94 rfl (lv_at hl 2 rfl) ?_
                refine x_stL hC hZ h d_AckBookModel_span_95 (fun w H locs hZ h => ?_)
                refine x_aload_n hC d_AckBookModel_span_96 rfl (lv_at hl 0 rfl) ?_
                refine lv_dup hC.1 hC.2.1 d_AckBookModel_span_97 (z_rfc _) ?_
                refine x_getI hC hZ zc10 h (by decide) t_846 (fun _ h9 => h9) d_AckBookModel_span_98 (fun v71 h => ?_)
                refine lv_iconst (v := (1 : Int32)) hC.1 hC.2.1 d_AckBookModel_span_101 (by decide) ?_
                refine lv_iadd hC.1 hC.2.1 d_AckBookModel_span_102 ?_
                refine x_put hC hZ zc10 h (by decide) t_846 (fun _ h9 => h9) rfl rfl rfl rfl d_AckBookModel_span_103 (fun w H locs hZ h => ?_)
                refine x_aload_n hC d_AckBookModel_span_106 rfl (lv_at hl 0 rfl) ?_
                refine x_getI hC hZ zc10 h (by decide) t_846 (fun _ h9 => h9) d_AckBookModel_span_107 (fun v72 h => ?_)
                exact x_iret hC hRc hRs hZ hr rfl h d_AckBookModel_span_110
              · have h := z_ifn hc h
                refine lv_iconst (v := (0 : Int32)) hC.1 hC.2.1 d_AckBookModel_span_74 (by decide) ?_
                exact x_iret hC hRc hRs hZ hr rfl h d_AckBookModel_span_75
        · have h := z_ifn hc h
          refine lv_iconst (v := (1 : Int32)) hC.1 hC.2.1 d_AckBookModel_span_40 (by decide) ?_
          refine lv_goto (tgt := 45) hC.1 hC.2.1 d_AckBookModel_span_41 (by decide) ?_
          refine lv_iconst (v := (1 : Int32)) hC.1 hC.2.1 d_AckBookModel_span_45 (by decide) ?_
          obtain ⟨a_, fs_, eo_, h⟩ := z_this_spec h
          obtain ⟨w1_, o1_, hF_, ha_⟩ := z_cI_spec h
          refine x_goes hC hRc hRs hFr ha_ (z_goV (As := [.int (1 : Int32), .int (1 : Int32)]) hC hZ zc10 eo_ (k_AckBookModel_fails hT hfl hE _ _ hF_) t_947 t_949 ts_AckBookModel_fails t_12 t_950 ⟨by decide, by decide, (by decide +kernel : (parseMethodDescriptor y_AckBookModel_fails.desc).map (fun d => d.parameters.length) = some 2)⟩ (by rw [hRt.1]; decide) (by rw [hRt.2]; decide) hl.1 rfl (by first | exact Nat.le_of_ble_eq_true rfl | simp [z_rfc, z_ci, z_cj]) d_AckBookModel_span_46) (fun v_ hv H locs cells slots hZ => ?_)
          obtain ⟨v82, rfl, h⟩ := hv
          generalize w1_ = w at h hZ
          refine lv_if_ne (tgt := 74) hC.1 hC.2.1 d_AckBookModel_span_49 (by decide) (fun hc => ?_) (fun hc => ?_)
          · have h := z_ifn hc h
            refine lv_iconst (v := (0 : Int32)) hC.1 hC.2.1 d_AckBookModel_span_74 (by decide) ?_
            exact x_iret hC hRc hRs hZ hr rfl h d_AckBookModel_span_75
          · have h := z_ifp hc h
            refine x_aload_n hC d_AckBookModel_span_52 rfl (lv_at hl 0 rfl) ?_
            refine x_aload_n hC d_AckBookModel_span_53 rfl (lv_at hl 0 rfl) ?_
            refine x_getI hC hZ zc10 h (by decide) t_846 (fun _ h9 => h9) d_AckBookModel_span_54 (fun v83 h => ?_)
            refine lv_bipush (v := (64 : Int32)) hC.1 hC.2.1 d_AckBookModel_span_57 (by decide) ?_
            refine lv_icmp_ne (tgt := 66) hC.1 hC.2.1 d_AckBookModel_span_59 (by decide) (fun hc => ?_) (fun hc => ?_)
            · have h := z_ifn hc h
              refine lv_iconst (v := (0 : Int32)) hC.1 hC.2.1 d_AckBookModel_span_66 (by decide) ?_
              refine lv_iconst (v := (2 : Int32)) hC.1 hC.2.1 d_AckBookModel_span_67 (by decide) ?_
              obtain ⟨a_, fs_, eo_, h⟩ := z_this_spec h
              obtain ⟨w1_, o1_, hF_, ha_⟩ := z_cI_spec h
              refine x_goes hC hRc hRs hFr ha_ (z_goV (As := [.int (0 : Int32), .int (2 : Int32)]) hC hZ zc10 eo_ (k_AckBookModel_fails hT hfl hE _ _ hF_) t_947 t_949 ts_AckBookModel_fails t_12 t_950 ⟨by decide, by decide, (by decide +kernel : (parseMethodDescriptor y_AckBookModel_fails.desc).map (fun d => d.parameters.length) = some 2)⟩ (by rw [hRt.1]; decide) (by rw [hRt.2]; decide) hl.1 rfl (by first | exact Nat.le_of_ble_eq_true rfl | simp [z_rfc, z_ci, z_cj]) d_AckBookModel_span_68) (fun v_ hv H locs cells slots hZ => ?_)
              obtain ⟨v93, rfl, h⟩ := hv
              generalize w1_ = w at h hZ
              refine lv_if_eq (tgt := 76) hC.1 hC.2.1 d_AckBookModel_span_71 (by decide) (fun hc => ?_) (fun hc => ?_)
              · have h := z_ifp hc h
                refine x_aload_n hC d_AckBookModel_span_76 rfl (lv_at hl 0 rfl) ?_
                refine x_getR hC hZ zc10 h (by decide) t_847 (fun _ h9 => h9) d_AckBookModel_span_77 (fun r94 h => ?_)
                refine x_aload_n hC d_AckBookModel_span_80 rfl (lv_at hl 0 rfl) ?_
                refine x_getI hC hZ zc10 h (by decide) t_846 (fun _ h9 => h9) d_AckBookModel_span_81 (fun v95 h => ?_)
                refine lv_lload_n hC.1 hC.2.1 d_AckBookModel_span_84 rfl (lv_at hl 1 rfl) ?_
                refine x_stL hC hZ h d_AckBookModel_span_85 (fun w H locs hZ h => ?_)
                refine x_aload_n hC d_AckBookModel_span_86 rfl (lv_at hl 0 rfl) ?_
                refine x_getR hC hZ zc10 h (by decide) t_848 (fun _ h9 => h9) d_AckBookModel_span_87 (fun r96 h => ?_)
                refine x_aload_n hC d_AckBookModel_span_90 rfl (lv_at hl 0 rfl) ?_
                refine x_getI hC hZ zc10 h (by decide) t_846 (fun _ h9 => h9) d_AckBookModel_span_91 (fun v97 h => ?_)
                refine lv_lload_n hC.1 hC.2.1 d_AckBookModel_span_94 rfl (lv_at hl 2 rfl) ?_
                refine x_stL hC hZ h d_AckBookModel_span_95 (fun w H locs hZ h => ?_)
                refine x_aload_n hC d_AckBookModel_span_96 rfl (lv_at hl 0 rfl) ?_
                refine lv_dup hC.1 hC.2.1 d_AckBookModel_span_97 (z_rfc _) ?_
                refine x_getI hC hZ zc10 h (by decide) t_846 (fun _ h9 => h9) d_AckBookModel_span_98 (fun v98 h => ?_)
                refine lv_iconst (v := (1 : Int32)) hC.1 hC.2.1 d_AckBookModel_span_101 (by decide) ?_
                refine lv_iadd hC.1 hC.2.1 d_AckBookModel_span_102 ?_
                refine x_put hC hZ zc10 h (by decide) t_846 (fun _ h9 => h9) rfl rfl rfl rfl d_AckBookModel_span_103 (fun w H locs hZ h => ?_)
                refine x_aload_n hC d_AckBookModel_span_106 rfl (lv_at hl 0 rfl) ?_
                refine x_getI hC hZ zc10 h (by decide) t_846 (fun _ h9 => h9) d_AckBookModel_span_107 (fun v99 h => ?_)
                exact x_iret hC hRc hRs hZ hr rfl h d_AckBookModel_span_110
              · have h := z_ifn hc h
                refine lv_iconst (v := (0 : Int32)) hC.1 hC.2.1 d_AckBookModel_span_74 (by decide) ?_
                exact x_iret hC hRc hRs hZ hr rfl h d_AckBookModel_span_75
            · have h := z_ifp hc h
              refine lv_iconst (v := (1 : Int32)) hC.1 hC.2.1 d_AckBookModel_span_62 (by decide) ?_
              refine lv_goto (tgt := 67) hC.1 hC.2.1 d_AckBookModel_span_63 (by decide) ?_
              refine lv_iconst (v := (2 : Int32)) hC.1 hC.2.1 d_AckBookModel_span_67 (by decide) ?_
              obtain ⟨a_, fs_, eo_, h⟩ := z_this_spec h
              obtain ⟨w1_, o1_, hF_, ha_⟩ := z_cI_spec h
              refine x_goes hC hRc hRs hFr ha_ (z_goV (As := [.int (1 : Int32), .int (2 : Int32)]) hC hZ zc10 eo_ (k_AckBookModel_fails hT hfl hE _ _ hF_) t_947 t_949 ts_AckBookModel_fails t_12 t_950 ⟨by decide, by decide, (by decide +kernel : (parseMethodDescriptor y_AckBookModel_fails.desc).map (fun d => d.parameters.length) = some 2)⟩ (by rw [hRt.1]; decide) (by rw [hRt.2]; decide) hl.1 rfl (by first | exact Nat.le_of_ble_eq_true rfl | simp [z_rfc, z_ci, z_cj]) d_AckBookModel_span_68) (fun v_ hv H locs cells slots hZ => ?_)
              obtain ⟨v85, rfl, h⟩ := hv
              generalize w1_ = w at h hZ
              refine lv_if_eq (tgt := 76) hC.1 hC.2.1 d_AckBookModel_span_71 (by decide) (fun hc => ?_) (fun hc => ?_)
              · have h := z_ifp hc h
                refine x_aload_n hC d_AckBookModel_span_76 rfl (lv_at hl 0 rfl) ?_
                refine x_getR hC hZ zc10 h (by decide) t_847 (fun _ h9 => h9) d_AckBookModel_span_77 (fun r86 h => ?_)
                refine x_aload_n hC d_AckBookModel_span_80 rfl (lv_at hl 0 rfl) ?_
                refine x_getI hC hZ zc10 h (by decide) t_846 (fun _ h9 => h9) d_AckBookModel_span_81 (fun v87 h => ?_)
                refine lv_lload_n hC.1 hC.2.1 d_AckBookModel_span_84 rfl (lv_at hl 1 rfl) ?_
                refine x_stL hC hZ h d_AckBookModel_span_85 (fun w H locs hZ h => ?_)
                refine x_aload_n hC d_AckBookModel_span_86 rfl (lv_at hl 0 rfl) ?_
                refine x_getR hC hZ zc10 h (by decide) t_848 (fun _ h9 => h9) d_AckBookModel_span_87 (fun r88 h => ?_)
                refine x_aload_n hC d_AckBookModel_span_90 rfl (lv_at hl 0 rfl) ?_
                refine x_getI hC hZ zc10 h (by decide) t_846 (fun _ h9 => h9) d_AckBookModel_span_91 (fun v89 h => ?_)
                refine lv_lload_n hC.1 hC.2.1 d_AckBookModel_span_94 rfl (lv_at hl 2 rfl) ?_
                refine x_stL hC hZ h d_AckBookModel_span_95 (fun w H locs hZ h => ?_)
                refine x_aload_n hC d_AckBookModel_span_96 rfl (lv_at hl 0 rfl) ?_
                refine lv_dup hC.1 hC.2.1 d_AckBookModel_span_97 (z_rfc _) ?_
                refine x_getI hC hZ zc10 h (by decide) t_846 (fun _ h9 => h9) d_AckBookModel_span_98 (fun v90 h => ?_)
                refine lv_iconst (v := (1 : Int32)) hC.1 hC.2.1 d_AckBookModel_span_101 (by decide) ?_
                refine lv_iadd hC.1 hC.2.1 d_AckBookModel_span_102 ?_
                refine x_put hC hZ zc10 h (by decide) t_846 (fun _ h9 => h9) rfl rfl rfl rfl d_AckBookModel_span_103 (fun w H locs hZ h => ?_)
                refine x_aload_n hC d_AckBookModel_span_106 rfl (lv_at hl 0 rfl) ?_
                refine x_getI hC hZ zc10 h (by decide) t_846 (fun _ h9 => h9) d_AckBookModel_span_107 (fun v91 h => ?_)
                exact x_iret hC hRc hRs hZ hr rfl h d_AckBookModel_span_110
              · have h := z_ifn hc h
                refine lv_iconst (v := (0 : Int32)) hC.1 hC.2.1 d_AckBookModel_span_74 (by decide) ?_
                exact x_iret hC hRc hRs hZ hr rfl h d_AckBookModel_span_75
def f_AckBookModel_greater (F X : Nat) (pI1 : Int32) (pI2 : Int32) (w : zW) : zR :=
  if pI1 ≤ pI2 then (
    some (.inl (some (.int pI2)), w))
  else (
    some (.inl (some (.int pI1)), w))
set_option maxHeartbeats 4000000 in
set_option maxRecDepth 100000 in
theorem k_AckBookModel_greater {b0 : Nat} {H0 : Heap} {D : va_G} {vu vs : Value} {X : Nat} {l : Launch} (hT : z_TB (zGG b0 H0 D vu vs X)) (hfl : l.flags = pinnedFlags ++ [noTraceFlag]) (hE : vu.isRef = true ∧ vs.isRef = true) {pI1 : Int32} {pI2 : Int32} (F : Nat) {w : zW} (res : zO × zW) (h : f_AckBookModel_greater F X pI1 pI2 w = some res) : z_Ct (zGG b0 H0 D vu vs X) l y_AckBookModel_greater (.code y_AckBookModel_greater c_AckBookModel_greater 2 (some FieldType.int)) 0 0 [.int pI1, .int pI2] w res := by
  refine z_ct hT hfl (by decide) (by simp only [z_sl_i, z_sl_j, z_sl_r, z_sl_n]; decide) ?_
  intro p e R s m args below meth c hC hr hRc hRs hRt hnm hFr H ls hZ hl
  simp only [z_la_i, z_la_j, z_la_r, z_la_n] at hl
  have hl : lv_has ls 2 [(0, .int pI1), (1, .int pI2)] := hl
  unfold f_AckBookModel_greater at h
  refine lv_iload_n hC.1 hC.2.1 d_AckBookModel_greater_0 rfl (lv_at hl 0 rfl) ?_
  refine lv_iload_n hC.1 hC.2.1 d_AckBookModel_greater_1 rfl (lv_at hl 1 rfl) ?_
  refine lv_icmp_le (tgt := 9) hC.1 hC.2.1 d_AckBookModel_greater_2 (by decide) (fun hc => ?_) (fun hc => ?_)
  · have h := z_ifp hc h
    refine lv_iload_n hC.1 hC.2.1 d_AckBookModel_greater_9 rfl (lv_at hl 1 rfl) ?_
    exact x_iret hC hRc hRs hZ hr rfl h d_AckBookModel_greater_10
  · have h := z_ifn hc h
    refine lv_iload_n hC.1 hC.2.1 d_AckBookModel_greater_5 rfl (lv_at hl 0 rfl) ?_
    refine lv_goto (tgt := 10) hC.1 hC.2.1 d_AckBookModel_greater_6 (by decide) ?_
    exact x_iret hC hRc hRs hZ hr rfl h d_AckBookModel_greater_10
def j_AckBookModel_isNew (F X : Nat) : Nat → Option Nat → Int32 → Int32 → Int32 → Int32 → zW → zR
  | 0, _, _, _, _, _, _ => none
  | N + 1, rL0, xL1, xL2, xL3, xL4, w =>
    z_getI w 10 27 rL0 fun v1 =>
    if v1 ≤ xL4 then (
      if xL3 = 0 then (
        some (.inl (some (.int (0 : Int32))), w))
      else (
        z_this w 10 rL0 <|
        z_cI (f_AckBookModel_isOut F X rL0 xL1 xL2 w) fun v3 w =>
        if v3 = 0 then (
          some (.inl (some (.int (0 : Int32))), w))
        else (
          some (.inl (some (.int (1 : Int32))), w))))
    else (
      if xL3 = 0 then (
        z_getR w 10 28 rL0 fun r4 =>
        z_ldL w r4 xL4 fun v5 =>
        if (lg_cmp xL2.toInt64 v5) < 0 then (
          j_AckBookModel_isNew F X N rL0 xL1 xL2 (0 : Int32) (xL4 + (1 : Int32)) w)
        else (
          z_getR w 10 29 rL0 fun r6 =>
          z_ldL w r6 xL4 fun v7 =>
          if 0 < (lg_cmp xL2.toInt64 v7) then (
            j_AckBookModel_isNew F X N rL0 xL1 xL2 (0 : Int32) (xL4 + (1 : Int32)) w)
          else (
            j_AckBookModel_isNew F X N rL0 xL1 xL2 (1 : Int32) (xL4 + (1 : Int32)) w)))
      else (
        j_AckBookModel_isNew F X N rL0 xL1 xL2 (1 : Int32) (xL4 + (1 : Int32)) w))
def f_AckBookModel_isNew (F X : Nat) (a0 : Option Nat) (pI1 : Int32) (pI2 : Int32) (w : zW) : zR :=
  j_AckBookModel_isNew F X F a0 pI1 pI2 (0 : Int32) (0 : Int32) w
set_option maxHeartbeats 4000000 in
set_option maxRecDepth 100000 in
theorem kj_AckBookModel_isNew {b0 : Nat} {H0 : Heap} {D : va_G} {vu vs : Value} {X : Nat} {l : Launch} (hT : z_TB (zGG b0 H0 D vu vs X)) (hfl : l.flags = pinnedFlags ++ [noTraceFlag]) (hE : vu.isRef = true ∧ vs.isRef = true) {p : Program} {e : Env} {R : Room} {s : State} {m : MethodId} {args : Array Value} {below : List Frame} {meth : Method} {c : Code} {w0 : zW} {F : Nat} (hC : z_C (zGG b0 H0 D vu vs X) p e s m meth c c_AckBookModel_isNew 5 y_AckBookModel_isNew.cls) (hr : meth.sig.returnType = (some FieldType.boolean)) (hRc : R.cells = w0.2.1) (hRs : R.slots = w0.2.2.1) (hFr : c.exceptionTable.toList = []) (hRt : R.frames = 1 ∧ R.locals = 22) (hnm : meth.name = y_AckBookModel_isNew.name) : ∀ N : Nat, (∀ (rL0 : Option Nat) (xL1 : Int32) (xL2 : Int32) (xL3 : Int32) (xL4 : Int32) (w : zW) (res : zO × zW), j_AckBookModel_isNew F X N rL0 xL1 xL2 xL3 xL4 w = some res → ∀ (H : Heap) (locs : List Loc) (cells slots : Nat) (ls : Array Slot), z_Z (zGG b0 H0 D vu vs X) R s w H locs cells slots → lv_has ls 5 [(0, va_rf rL0), (1, .int xL1), (2, .int xL2), (3, .int xL3), (4, .int xL4)] → W p l e R s m args below meth c H locs cells slots (z_Q (zGG b0 H0 D vu vs X) below s w0 res) (F0 m 5 ls [])) := by
  intro N
  induction N with
  | zero =>
    intro rL0 xL1 xL2 xL3 xL4 w res h
    rw [j_AckBookModel_isNew] at h
    cases h
  | succ N ih =>
    intro rL0 xL1 xL2 xL3 xL4 w res h H locs cells slots ls hZ hl
    rw [j_AckBookModel_isNew] at h
    refine lv_iload hC.1 hC.2.1 d_AckBookModel_isNew_5 (lv_at hl 4 rfl) ?_
    refine x_aload_n hC d_AckBookModel_isNew_7 rfl (lv_at hl 0 rfl) ?_
    refine x_getI hC hZ zc10 h (by decide) t_846 (fun _ h9 => h9) d_AckBookModel_isNew_8 (fun v1 h => ?_)
    refine lv_icmp_ge (tgt := 56) hC.1 hC.2.1 d_AckBookModel_isNew_11 (by decide) (fun hc => ?_) (fun hc => ?_)
    · have h := z_ifp hc h
      refine lv_iload_n hC.1 hC.2.1 d_AckBookModel_isNew_56 rfl (lv_at hl 3 rfl) ?_
      refine lv_if_eq (tgt := 73) hC.1 hC.2.1 d_AckBookModel_isNew_57 (by decide) (fun hc => ?_) (fun hc => ?_)
      · have h := z_ifp hc h
        refine lv_iconst (v := (0 : Int32)) hC.1 hC.2.1 d_AckBookModel_isNew_73 (by decide) ?_
        exact x_iret hC hRc hRs hZ hr rfl h d_AckBookModel_isNew_74
      · have h := z_ifn hc h
        refine x_aload_n hC d_AckBookModel_isNew_60 rfl (lv_at hl 0 rfl) ?_
        refine lv_iload_n hC.1 hC.2.1 d_AckBookModel_isNew_61 rfl (lv_at hl 1 rfl) ?_
        refine lv_iload_n hC.1 hC.2.1 d_AckBookModel_isNew_62 rfl (lv_at hl 2 rfl) ?_
        obtain ⟨a_, fs_, eo_, h⟩ := z_this_spec h
        obtain ⟨w1_, o1_, hF_, ha_⟩ := z_cI_spec h
        refine x_goes hC hRc hRs hFr ha_ (z_goV (As := [.int xL1, .int xL2]) hC hZ zc10 eo_ (k_AckBookModel_isOut hT hfl hE _ _ hF_) t_955 t_957 ts_AckBookModel_isOut t_12 t_958 ⟨by decide, by decide, (by decide +kernel : (parseMethodDescriptor y_AckBookModel_isOut.desc).map (fun d => d.parameters.length) = some 2)⟩ (by rw [hRt.1]; decide) (by rw [hRt.2]; decide) hl.1 rfl (by first | exact Nat.le_of_ble_eq_true rfl | simp [z_rfc, z_ci, z_cj]) d_AckBookModel_isNew_63) (fun v_ hv H locs cells slots hZ => ?_)
        obtain ⟨v3, rfl, h⟩ := hv
        generalize w1_ = w at h hZ
        refine lv_if_eq (tgt := 73) hC.1 hC.2.1 d_AckBookModel_isNew_66 (by decide) (fun hc => ?_) (fun hc => ?_)
        · have h := z_ifp hc h
          refine lv_iconst (v := (0 : Int32)) hC.1 hC.2.1 d_AckBookModel_isNew_73 (by decide) ?_
          exact x_iret hC hRc hRs hZ hr rfl h d_AckBookModel_isNew_74
        · have h := z_ifn hc h
          refine lv_iconst (v := (1 : Int32)) hC.1 hC.2.1 d_AckBookModel_isNew_69 (by decide) ?_
          refine lv_goto (tgt := 74) hC.1 hC.2.1 d_AckBookModel_isNew_70 (by decide) ?_
          exact x_iret hC hRc hRs hZ hr rfl h d_AckBookModel_isNew_74
    · have h := z_ifn hc h
      refine lv_iload_n hC.1 hC.2.1 d_AckBookModel_isNew_14 rfl (lv_at hl 3 rfl) ?_
      refine lv_if_ne (tgt := 44) hC.1 hC.2.1 d_AckBookModel_isNew_15 (by decide) (fun hc => ?_) (fun hc => ?_)
      · have h := z_ifn hc h
        refine lv_iconst (v := (1 : Int32)) hC.1 hC.2.1 d_AckBookModel_isNew_44 (by decide) ?_
        refine lv_goto (tgt := 49) hC.1 hC.2.1 d_AckBookModel_isNew_45 (by decide) ?_
        refine lv_istore_n (i := 3) (lv' := [(3, .int (1 : Int32)), (0, va_rf rL0), (1, .int xL1), (2, .int xL2), (4, .int xL4)]) hC.1 hC.2.1 d_AckBookModel_isNew_49 rfl hl (by decide) (by first | rfl | simp [z_rfc, z_ci, z_cj]) (fun ls hl => ?_)
        refine lv_iinc (lv' := [(4, .int (xL4 + (1 : Int32))), (3, .int (1 : Int32)), (0, va_rf rL0), (1, .int xL1), (2, .int xL2)]) hC.1 hC.2.1 d_AckBookModel_isNew_50 hl (k := 4) rfl rfl (by decide) (by first | rfl | simp [z_rfc, z_ci, z_cj]) (fun ls hl => ?_)
        refine lv_goto (tgt := 5) hC.1 hC.2.1 d_AckBookModel_isNew_53 (by decide) ?_
        exact ih _ _ _ _ _ _ _ h _ _ _ _ _ hZ (lv_sub hl [2, 3, 4, 1, 0] rfl)
      · have h := z_ifp hc h
        refine lv_iload_n hC.1 hC.2.1 d_AckBookModel_isNew_18 rfl (lv_at hl 2 rfl) ?_
        refine lv_i2l hC.1 hC.2.1 d_AckBookModel_isNew_19 rfl ?_
        refine x_aload_n hC d_AckBookModel_isNew_20 rfl (lv_at hl 0 rfl) ?_
        refine x_getR hC hZ zc10 h (by decide) t_847 (fun _ h9 => h9) d_AckBookModel_isNew_21 (fun r4 h => ?_)
        refine lv_iload hC.1 hC.2.1 d_AckBookModel_isNew_24 (lv_at hl 4 rfl) ?_
        refine x_ldL hC hZ h d_AckBookModel_isNew_26 (fun v5 h => ?_)
        refine W.lcmp hC.1 hC.2.1 d_AckBookModel_isNew_27 ?_
        refine lv_if_lt (tgt := 48) hC.1 hC.2.1 d_AckBookModel_isNew_28 (by decide) (fun hc => ?_) (fun hc => ?_)
        · have h := z_ifp hc h
          refine lv_iconst (v := (0 : Int32)) hC.1 hC.2.1 d_AckBookModel_isNew_48 (by decide) ?_
          refine lv_istore_n (i := 3) (lv' := [(3, .int (0 : Int32)), (0, va_rf rL0), (1, .int xL1), (2, .int xL2), (4, .int xL4)]) hC.1 hC.2.1 d_AckBookModel_isNew_49 rfl hl (by decide) (by first | rfl | simp [z_rfc, z_ci, z_cj]) (fun ls hl => ?_)
          refine lv_iinc (lv' := [(4, .int (xL4 + (1 : Int32))), (3, .int (0 : Int32)), (0, va_rf rL0), (1, .int xL1), (2, .int xL2)]) hC.1 hC.2.1 d_AckBookModel_isNew_50 hl (k := 4) rfl rfl (by decide) (by first | rfl | simp [z_rfc, z_ci, z_cj]) (fun ls hl => ?_)
          refine lv_goto (tgt := 5) hC.1 hC.2.1 d_AckBookModel_isNew_53 (by decide) ?_
          exact ih _ _ _ _ _ _ _ h _ _ _ _ _ hZ (lv_sub hl [2, 3, 4, 1, 0] rfl)
        · have h := z_ifn hc h
          refine lv_iload_n hC.1 hC.2.1 d_AckBookModel_isNew_31 rfl (lv_at hl 2 rfl) ?_
          refine lv_i2l hC.1 hC.2.1 d_AckBookModel_isNew_32 rfl ?_
          refine x_aload_n hC d_AckBookModel_isNew_33 rfl (lv_at hl 0 rfl) ?_
          refine x_getR hC hZ zc10 h (by decide) t_848 (fun _ h9 => h9) d_AckBookModel_isNew_34 (fun r6 h => ?_)
          refine lv_iload hC.1 hC.2.1 d_AckBookModel_isNew_37 (lv_at hl 4 rfl) ?_
          refine x_ldL hC hZ h d_AckBookModel_isNew_39 (fun v7 h => ?_)
          refine W.lcmp hC.1 hC.2.1 d_AckBookModel_isNew_40 ?_
          refine lv_if_gt (tgt := 48) hC.1 hC.2.1 d_AckBookModel_isNew_41 (by decide) (fun hc => ?_) (fun hc => ?_)
          · have h := z_ifp hc h
            refine lv_iconst (v := (0 : Int32)) hC.1 hC.2.1 d_AckBookModel_isNew_48 (by decide) ?_
            refine lv_istore_n (i := 3) (lv' := [(3, .int (0 : Int32)), (0, va_rf rL0), (1, .int xL1), (2, .int xL2), (4, .int xL4)]) hC.1 hC.2.1 d_AckBookModel_isNew_49 rfl hl (by decide) (by first | rfl | simp [z_rfc, z_ci, z_cj]) (fun ls hl => ?_)
            refine lv_iinc (lv' := [(4, .int (xL4 + (1 : Int32))), (3, .int (0 : Int32)), (0, va_rf rL0), (1, .int xL1), (2, .int xL2)]) hC.1 hC.2.1 d_AckBookModel_isNew_50 hl (k := 4) rfl rfl (by decide) (by first | rfl | simp [z_rfc, z_ci, z_cj]) (fun ls hl => ?_)
            refine lv_goto (tgt := 5) hC.1 hC.2.1 d_AckBookModel_isNew_53 (by decide) ?_
            exact ih _ _ _ _ _ _ _ h _ _ _ _ _ hZ (lv_sub hl [2, 3, 4, 1, 0] rfl)
          · have h := z_ifn hc h
            refine lv_iconst (v := (1 : Int32)) hC.1 hC.2.1 d_AckBookModel_isNew_44 (by decide) ?_
            refine lv_goto (tgt := 49) hC.1 hC.2.1 d_AckBookModel_isNew_45 (by decide) ?_
            refine lv_istore_n (i := 3) (lv' := [(3, .int (1 : Int32)), (0, va_rf rL0), (1, .int xL1), (2, .int xL2), (4, .int xL4)]) hC.1 hC.2.1 d_AckBookModel_isNew_49 rfl hl (by decide) (by first | rfl | simp [z_rfc, z_ci, z_cj]) (fun ls hl => ?_)
            refine lv_iinc (lv' := [(4, .int (xL4 + (1 : Int32))), (3, .int (1 : Int32)), (0, va_rf rL0), (1, .int xL1), (2, .int xL2)]) hC.1 hC.2.1 d_AckBookModel_isNew_50 hl (k := 4) rfl rfl (by decide) (by first | rfl | simp [z_rfc, z_ci, z_cj]) (fun ls hl => ?_)
            refine lv_goto (tgt := 5) hC.1 hC.2.1 d_AckBookModel_isNew_53 (by decide) ?_
            exact ih _ _ _ _ _ _ _ h _ _ _ _ _ hZ (lv_sub hl [2, 3, 4, 1, 0] rfl)
set_option maxHeartbeats 4000000 in
set_option maxRecDepth 100000 in
theorem k_AckBookModel_isNew {b0 : Nat} {H0 : Heap} {D : va_G} {vu vs : Value} {X : Nat} {l : Launch} (hT : z_TB (zGG b0 H0 D vu vs X)) (hfl : l.flags = pinnedFlags ++ [noTraceFlag]) (hE : vu.isRef = true ∧ vs.isRef = true) {a0 : Option Nat} {pI1 : Int32} {pI2 : Int32} (F : Nat) {w : zW} (res : zO × zW) (h : f_AckBookModel_isNew F X a0 pI1 pI2 w = some res) : z_Ct (zGG b0 H0 D vu vs X) l y_AckBookModel_isNew (.code y_AckBookModel_isNew c_AckBookModel_isNew 5 (some FieldType.boolean)) 1 22 [va_rf a0, .int pI1, .int pI2] w res := by
  refine z_ct hT hfl (by decide) (by simp only [z_sl_i, z_sl_j, z_sl_r, z_sl_n]; decide) ?_
  intro p e R s m args below meth c hC hr hRc hRs hRt hnm hFr H ls hZ hl
  simp only [z_la_i, z_la_j, z_la_r, z_la_n] at hl
  have hl : lv_has ls 5 [(0, va_rf a0), (1, .int pI1), (2, .int pI2)] := hl
  unfold f_AckBookModel_isNew at h
  refine lv_iconst (v := (0 : Int32)) hC.1 hC.2.1 d_AckBookModel_isNew_0 (by decide) ?_
  refine lv_istore_n (i := 3) (lv' := [(3, .int (0 : Int32)), (0, va_rf a0), (1, .int pI1), (2, .int pI2)]) hC.1 hC.2.1 d_AckBookModel_isNew_1 rfl hl (by decide) (by first | rfl | simp [z_rfc, z_ci, z_cj]) (fun ls hl => ?_)
  refine lv_iconst (v := (0 : Int32)) hC.1 hC.2.1 d_AckBookModel_isNew_2 (by decide) ?_
  refine lv_istore (i := 4) (lv' := [(4, .int (0 : Int32)), (3, .int (0 : Int32)), (0, va_rf a0), (1, .int pI1), (2, .int pI2)]) hC.1 hC.2.1 d_AckBookModel_isNew_3 hl (by decide) (by first | rfl | simp [z_rfc, z_ci, z_cj]) (fun ls hl => ?_)
  exact (kj_AckBookModel_isNew hT hfl hE hC hr hRc hRs hFr hRt hnm F) _ _ _ _ _ _ _ h _ _ _ _ _ hZ (lv_sub hl [2, 3, 4, 1, 0] rfl)
def f_AckBookModel_sample (F X : Nat) (a0 : Option Nat) (pI1 : Int32) (pI2 : Int32) (w : zW) : zR :=
  z_put w 10 20 a0 (.int pI1) fun w =>
  z_getI w 10 21 a0 fun v1 =>
  if v1 < 0 then (
    z_put w 10 21 a0 (.int pI1) fun w =>
    z_getI w 10 22 a0 fun v2 =>
    if 0 ≤ v2 then (
      z_getI w 10 21 a0 fun v3 =>
      if pI1 < (v3 + pI2) then (
        z_getI w 10 18 a0 fun v4 =>
        z_getI w 10 19 a0 fun v5 =>
        if 0 ≤ ((v4 / (8 : Int32)) - pI1) then (
          z_getI w 10 19 a0 fun v6 =>
          z_put w 10 19 a0 (.int (v5 + (((v4 / (8 : Int32)) - pI1) - (v6 / (4 : Int32))))) fun w =>
          z_getI w 10 18 a0 fun v7 =>
          z_getI w 10 18 a0 fun v8 =>
          z_put w 10 18 a0 (.int (v7 + (pI1 - (v8 / (8 : Int32))))) fun w =>
          some (.inl none, w))
        else (
          z_getI w 10 19 a0 fun v9 =>
          z_put w 10 19 a0 (.int (v5 + ((-((v4 / (8 : Int32)) - pI1)) - (v9 / (4 : Int32))))) fun w =>
          z_getI w 10 18 a0 fun v10 =>
          z_getI w 10 18 a0 fun v11 =>
          z_put w 10 18 a0 (.int (v10 + (pI1 - (v11 / (8 : Int32))))) fun w =>
          some (.inl none, w)))
      else (
        z_getI w 10 18 a0 fun v12 =>
        z_getI w 10 19 a0 fun v13 =>
        if 0 ≤ ((v12 / (8 : Int32)) - (pI1 - pI2)) then (
          z_getI w 10 19 a0 fun v14 =>
          z_put w 10 19 a0 (.int (v13 + (((v12 / (8 : Int32)) - (pI1 - pI2)) - (v14 / (4 : Int32))))) fun w =>
          z_getI w 10 18 a0 fun v15 =>
          z_getI w 10 18 a0 fun v16 =>
          z_put w 10 18 a0 (.int (v15 + ((pI1 - pI2) - (v16 / (8 : Int32))))) fun w =>
          some (.inl none, w))
        else (
          z_getI w 10 19 a0 fun v17 =>
          z_put w 10 19 a0 (.int (v13 + ((-((v12 / (8 : Int32)) - (pI1 - pI2))) - (v17 / (4 : Int32))))) fun w =>
          z_getI w 10 18 a0 fun v18 =>
          z_getI w 10 18 a0 fun v19 =>
          z_put w 10 18 a0 (.int (v18 + ((pI1 - pI2) - (v19 / (8 : Int32))))) fun w =>
          some (.inl none, w))))
    else (
      z_getI w 10 1 a0 fun v20 =>
      z_put w 10 22 a0 (.int v20) fun w =>
      z_put w 10 18 a0 (.int ((8 : Int32) * pI1)) fun w =>
      z_put w 10 19 a0 (.int ((2 : Int32) * pI1)) fun w =>
      some (.inl none, w)))
  else (
    z_getI w 10 21 a0 fun v21 =>
    if v21 ≤ pI1 then (
      z_getI w 10 21 a0 fun v22 =>
      z_put w 10 21 a0 (.int v22) fun w =>
      z_getI w 10 22 a0 fun v23 =>
      if 0 ≤ v23 then (
        z_getI w 10 21 a0 fun v24 =>
        if pI1 < (v24 + pI2) then (
          z_getI w 10 18 a0 fun v25 =>
          z_getI w 10 19 a0 fun v26 =>
          if 0 ≤ ((v25 / (8 : Int32)) - pI1) then (
            z_getI w 10 19 a0 fun v27 =>
            z_put w 10 19 a0 (.int (v26 + (((v25 / (8 : Int32)) - pI1) - (v27 / (4 : Int32))))) fun w =>
            z_getI w 10 18 a0 fun v28 =>
            z_getI w 10 18 a0 fun v29 =>
            z_put w 10 18 a0 (.int (v28 + (pI1 - (v29 / (8 : Int32))))) fun w =>
            some (.inl none, w))
          else (
            z_getI w 10 19 a0 fun v30 =>
            z_put w 10 19 a0 (.int (v26 + ((-((v25 / (8 : Int32)) - pI1)) - (v30 / (4 : Int32))))) fun w =>
            z_getI w 10 18 a0 fun v31 =>
            z_getI w 10 18 a0 fun v32 =>
            z_put w 10 18 a0 (.int (v31 + (pI1 - (v32 / (8 : Int32))))) fun w =>
            some (.inl none, w)))
        else (
          z_getI w 10 18 a0 fun v33 =>
          z_getI w 10 19 a0 fun v34 =>
          if 0 ≤ ((v33 / (8 : Int32)) - (pI1 - pI2)) then (
            z_getI w 10 19 a0 fun v35 =>
            z_put w 10 19 a0 (.int (v34 + (((v33 / (8 : Int32)) - (pI1 - pI2)) - (v35 / (4 : Int32))))) fun w =>
            z_getI w 10 18 a0 fun v36 =>
            z_getI w 10 18 a0 fun v37 =>
            z_put w 10 18 a0 (.int (v36 + ((pI1 - pI2) - (v37 / (8 : Int32))))) fun w =>
            some (.inl none, w))
          else (
            z_getI w 10 19 a0 fun v38 =>
            z_put w 10 19 a0 (.int (v34 + ((-((v33 / (8 : Int32)) - (pI1 - pI2))) - (v38 / (4 : Int32))))) fun w =>
            z_getI w 10 18 a0 fun v39 =>
            z_getI w 10 18 a0 fun v40 =>
            z_put w 10 18 a0 (.int (v39 + ((pI1 - pI2) - (v40 / (8 : Int32))))) fun w =>
            some (.inl none, w))))
      else (
        z_getI w 10 1 a0 fun v41 =>
        z_put w 10 22 a0 (.int v41) fun w =>
        z_put w 10 18 a0 (.int ((8 : Int32) * pI1)) fun w =>
        z_put w 10 19 a0 (.int ((2 : Int32) * pI1)) fun w =>
        some (.inl none, w)))
    else (
      z_put w 10 21 a0 (.int pI1) fun w =>
      z_getI w 10 22 a0 fun v42 =>
      if 0 ≤ v42 then (
        z_getI w 10 21 a0 fun v43 =>
        if pI1 < (v43 + pI2) then (
          z_getI w 10 18 a0 fun v44 =>
          z_getI w 10 19 a0 fun v45 =>
          if 0 ≤ ((v44 / (8 : Int32)) - pI1) then (
            z_getI w 10 19 a0 fun v46 =>
            z_put w 10 19 a0 (.int (v45 + (((v44 / (8 : Int32)) - pI1) - (v46 / (4 : Int32))))) fun w =>
            z_getI w 10 18 a0 fun v47 =>
            z_getI w 10 18 a0 fun v48 =>
            z_put w 10 18 a0 (.int (v47 + (pI1 - (v48 / (8 : Int32))))) fun w =>
            some (.inl none, w))
          else (
            z_getI w 10 19 a0 fun v49 =>
            z_put w 10 19 a0 (.int (v45 + ((-((v44 / (8 : Int32)) - pI1)) - (v49 / (4 : Int32))))) fun w =>
            z_getI w 10 18 a0 fun v50 =>
            z_getI w 10 18 a0 fun v51 =>
            z_put w 10 18 a0 (.int (v50 + (pI1 - (v51 / (8 : Int32))))) fun w =>
            some (.inl none, w)))
        else (
          z_getI w 10 18 a0 fun v52 =>
          z_getI w 10 19 a0 fun v53 =>
          if 0 ≤ ((v52 / (8 : Int32)) - (pI1 - pI2)) then (
            z_getI w 10 19 a0 fun v54 =>
            z_put w 10 19 a0 (.int (v53 + (((v52 / (8 : Int32)) - (pI1 - pI2)) - (v54 / (4 : Int32))))) fun w =>
            z_getI w 10 18 a0 fun v55 =>
            z_getI w 10 18 a0 fun v56 =>
            z_put w 10 18 a0 (.int (v55 + ((pI1 - pI2) - (v56 / (8 : Int32))))) fun w =>
            some (.inl none, w))
          else (
            z_getI w 10 19 a0 fun v57 =>
            z_put w 10 19 a0 (.int (v53 + ((-((v52 / (8 : Int32)) - (pI1 - pI2))) - (v57 / (4 : Int32))))) fun w =>
            z_getI w 10 18 a0 fun v58 =>
            z_getI w 10 18 a0 fun v59 =>
            z_put w 10 18 a0 (.int (v58 + ((pI1 - pI2) - (v59 / (8 : Int32))))) fun w =>
            some (.inl none, w))))
      else (
        z_getI w 10 1 a0 fun v60 =>
        z_put w 10 22 a0 (.int v60) fun w =>
        z_put w 10 18 a0 (.int ((8 : Int32) * pI1)) fun w =>
        z_put w 10 19 a0 (.int ((2 : Int32) * pI1)) fun w =>
        some (.inl none, w))))
set_option maxHeartbeats 4000000 in
set_option maxRecDepth 100000 in
theorem k_AckBookModel_sample {b0 : Nat} {H0 : Heap} {D : va_G} {vu vs : Value} {X : Nat} {l : Launch} (hT : z_TB (zGG b0 H0 D vu vs X)) (hfl : l.flags = pinnedFlags ++ [noTraceFlag]) (hE : vu.isRef = true ∧ vs.isRef = true) {a0 : Option Nat} {pI1 : Int32} {pI2 : Int32} (F : Nat) {w : zW} (res : zO × zW) (h : f_AckBookModel_sample F X a0 pI1 pI2 w = some res) : z_Ct (zGG b0 H0 D vu vs X) l y_AckBookModel_sample (.code y_AckBookModel_sample c_AckBookModel_sample 5 (none)) 0 0 [va_rf a0, .int pI1, .int pI2] w res := by
  refine z_ct hT hfl (by decide) (by simp only [z_sl_i, z_sl_j, z_sl_r, z_sl_n]; decide) ?_
  intro p e R s m args below meth c hC hr hRc hRs hRt hnm hFr H ls hZ hl
  simp only [z_la_i, z_la_j, z_la_r, z_la_n] at hl
  have hl : lv_has ls 5 [(0, va_rf a0), (1, .int pI1), (2, .int pI2)] := hl
  unfold f_AckBookModel_sample at h
  refine x_aload_n hC d_AckBookModel_sample_0 rfl (lv_at hl 0 rfl) ?_
  refine lv_iload_n hC.1 hC.2.1 d_AckBookModel_sample_1 rfl (lv_at hl 1 rfl) ?_
  refine x_put hC hZ zc10 h (by decide) t_839 (fun _ h9 => h9) rfl rfl rfl rfl d_AckBookModel_sample_2 (fun w H locs hZ h => ?_)
  refine x_aload_n hC d_AckBookModel_sample_5 rfl (lv_at hl 0 rfl) ?_
  refine x_aload_n hC d_AckBookModel_sample_6 rfl (lv_at hl 0 rfl) ?_
  refine x_getI hC hZ zc10 h (by decide) t_840 (fun _ h9 => h9) d_AckBookModel_sample_7 (fun v1 h => ?_)
  refine lv_if_lt (tgt := 21) hC.1 hC.2.1 d_AckBookModel_sample_10 (by decide) (fun hc => ?_) (fun hc => ?_)
  · have h := z_ifp hc h
    refine lv_iload_n hC.1 hC.2.1 d_AckBookModel_sample_21 rfl (lv_at hl 1 rfl) ?_
    refine lv_goto (tgt := 29) hC.1 hC.2.1 d_AckBookModel_sample_22 (by decide) ?_
    refine x_put hC hZ zc10 h (by decide) t_840 (fun _ h9 => h9) rfl rfl rfl rfl d_AckBookModel_sample_29 (fun w H locs hZ h => ?_)
    refine x_aload_n hC d_AckBookModel_sample_32 rfl (lv_at hl 0 rfl) ?_
    refine x_getI hC hZ zc10 h (by decide) t_841 (fun _ h9 => h9) d_AckBookModel_sample_33 (fun v2 h => ?_)
    refine lv_if_ge (tgt := 63) hC.1 hC.2.1 d_AckBookModel_sample_36 (by decide) (fun hc => ?_) (fun hc => ?_)
    · have h := z_ifp hc h
      refine lv_iload_n hC.1 hC.2.1 d_AckBookModel_sample_63 rfl (lv_at hl 1 rfl) ?_
      refine x_aload_n hC d_AckBookModel_sample_64 rfl (lv_at hl 0 rfl) ?_
      refine x_getI hC hZ zc10 h (by decide) t_840 (fun _ h9 => h9) d_AckBookModel_sample_65 (fun v3 h => ?_)
      refine lv_iload_n hC.1 hC.2.1 d_AckBookModel_sample_68 rfl (lv_at hl 2 rfl) ?_
      refine lv_iadd hC.1 hC.2.1 d_AckBookModel_sample_69 ?_
      refine lv_icmp_lt (tgt := 79) hC.1 hC.2.1 d_AckBookModel_sample_70 (by decide) (fun hc => ?_) (fun hc => ?_)
      · have h := z_ifp hc h
        refine lv_iload_n hC.1 hC.2.1 d_AckBookModel_sample_79 rfl (lv_at hl 1 rfl) ?_
        refine lv_istore_n (i := 3) (lv' := [(3, .int pI1), (0, va_rf a0), (1, .int pI1), (2, .int pI2)]) hC.1 hC.2.1 d_AckBookModel_sample_80 rfl hl (by decide) (by first | rfl | simp [z_rfc, z_ci, z_cj]) (fun ls hl => ?_)
        refine x_aload_n hC d_AckBookModel_sample_81 rfl (lv_at hl 1 rfl) ?_
        refine x_getI hC hZ zc10 h (by decide) t_837 (fun _ h9 => h9) d_AckBookModel_sample_82 (fun v4 h => ?_)
        refine lv_bipush (v := (8 : Int32)) hC.1 hC.2.1 d_AckBookModel_sample_85 (by decide) ?_
        refine lv_idiv hC.1 hC.2.1 d_AckBookModel_sample_87 (by decide) ?_
        refine lv_iload_n hC.1 hC.2.1 d_AckBookModel_sample_88 rfl (lv_at hl 0 rfl) ?_
        refine lv_isub hC.1 hC.2.1 d_AckBookModel_sample_89 ?_
        refine lv_istore (i := 4) (lv' := [(4, .int ((v4 / (8 : Int32)) - pI1)), (3, .int pI1), (0, va_rf a0), (1, .int pI1), (2, .int pI2)]) hC.1 hC.2.1 d_AckBookModel_sample_90 hl (by decide) (by first | rfl | simp [z_rfc, z_ci, z_cj]) (fun ls hl => ?_)
        refine x_aload_n hC d_AckBookModel_sample_92 rfl (lv_at hl 2 rfl) ?_
        refine lv_dup hC.1 hC.2.1 d_AckBookModel_sample_93 (z_rfc _) ?_
        refine x_getI hC hZ zc10 h (by decide) t_838 (fun _ h9 => h9) d_AckBookModel_sample_94 (fun v5 h => ?_)
        refine lv_iload hC.1 hC.2.1 d_AckBookModel_sample_97 (lv_at hl 0 rfl) ?_
        refine lv_if_ge (tgt := 108) hC.1 hC.2.1 d_AckBookModel_sample_99 (by decide) (fun hc => ?_) (fun hc => ?_)
        · have h := z_ifp hc h
          refine lv_iload hC.1 hC.2.1 d_AckBookModel_sample_108 (lv_at hl 0 rfl) ?_
          refine x_aload_n hC d_AckBookModel_sample_110 rfl (lv_at hl 2 rfl) ?_
          refine x_getI hC hZ zc10 h (by decide) t_838 (fun _ h9 => h9) d_AckBookModel_sample_111 (fun v6 h => ?_)
          refine lv_iconst (v := (4 : Int32)) hC.1 hC.2.1 d_AckBookModel_sample_114 (by decide) ?_
          refine lv_idiv hC.1 hC.2.1 d_AckBookModel_sample_115 (by decide) ?_
          refine lv_isub hC.1 hC.2.1 d_AckBookModel_sample_116 ?_
          refine lv_iadd hC.1 hC.2.1 d_AckBookModel_sample_117 ?_
          refine x_put hC hZ zc10 h (by decide) t_838 (fun _ h9 => h9) rfl rfl rfl rfl d_AckBookModel_sample_118 (fun w H locs hZ h => ?_)
          refine x_aload_n hC d_AckBookModel_sample_121 rfl (lv_at hl 2 rfl) ?_
          refine lv_dup hC.1 hC.2.1 d_AckBookModel_sample_122 (z_rfc _) ?_
          refine x_getI hC hZ zc10 h (by decide) t_837 (fun _ h9 => h9) d_AckBookModel_sample_123 (fun v7 h => ?_)
          refine lv_iload_n hC.1 hC.2.1 d_AckBookModel_sample_126 rfl (lv_at hl 1 rfl) ?_
          refine x_aload_n hC d_AckBookModel_sample_127 rfl (lv_at hl 2 rfl) ?_
          refine x_getI hC hZ zc10 h (by decide) t_837 (fun _ h9 => h9) d_AckBookModel_sample_128 (fun v8 h => ?_)
          refine lv_bipush (v := (8 : Int32)) hC.1 hC.2.1 d_AckBookModel_sample_131 (by decide) ?_
          refine lv_idiv hC.1 hC.2.1 d_AckBookModel_sample_133 (by decide) ?_
          refine lv_isub hC.1 hC.2.1 d_AckBookModel_sample_134 ?_
          refine lv_iadd hC.1 hC.2.1 d_AckBookModel_sample_135 ?_
          refine x_put hC hZ zc10 h (by decide) t_837 (fun _ h9 => h9) rfl rfl rfl rfl d_AckBookModel_sample_136 (fun w H locs hZ h => ?_)
          exact x_vret hC hRc hRs hZ hr h d_AckBookModel_sample_139
        · have h := z_ifn hc h
          refine lv_iload hC.1 hC.2.1 d_AckBookModel_sample_102 (lv_at hl 0 rfl) ?_
          refine lv_ineg hC.1 hC.2.1 d_AckBookModel_sample_104 ?_
          refine lv_goto (tgt := 110) hC.1 hC.2.1 d_AckBookModel_sample_105 (by decide) ?_
          refine x_aload_n hC d_AckBookModel_sample_110 rfl (lv_at hl 2 rfl) ?_
          refine x_getI hC hZ zc10 h (by decide) t_838 (fun _ h9 => h9) d_AckBookModel_sample_111 (fun v9 h => ?_)
          refine lv_iconst (v := (4 : Int32)) hC.1 hC.2.1 d_AckBookModel_sample_114 (by decide) ?_
          refine lv_idiv hC.1 hC.2.1 d_AckBookModel_sample_115 (by decide) ?_
          refine lv_isub hC.1 hC.2.1 d_AckBookModel_sample_116 ?_
          refine lv_iadd hC.1 hC.2.1 d_AckBookModel_sample_117 ?_
          refine x_put hC hZ zc10 h (by decide) t_838 (fun _ h9 => h9) rfl rfl rfl rfl d_AckBookModel_sample_118 (fun w H locs hZ h => ?_)
          refine x_aload_n hC d_AckBookModel_sample_121 rfl (lv_at hl 2 rfl) ?_
          refine lv_dup hC.1 hC.2.1 d_AckBookModel_sample_122 (z_rfc _) ?_
          refine x_getI hC hZ zc10 h (by decide) t_837 (fun _ h9 => h9) d_AckBookModel_sample_123 (fun v10 h => ?_)
          refine lv_iload_n hC.1 hC.2.1 d_AckBookModel_sample_126 rfl (lv_at hl 1 rfl) ?_
          refine x_aload_n hC d_AckBookModel_sample_127 rfl (lv_at hl 2 rfl) ?_
          refine x_getI hC hZ zc10 h (by decide) t_837 (fun _ h9 => h9) d_AckBookModel_sample_128 (fun v11 h => ?_)
          refine lv_bipush (v := (8 : Int32)) hC.1 hC.2.1 d_AckBookModel_sample_131 (by decide) ?_
          refine lv_idiv hC.1 hC.2.1 d_AckBookModel_sample_133 (by decide) ?_
          refine lv_isub hC.1 hC.2.1 d_AckBookModel_sample_134 ?_
          refine lv_iadd hC.1 hC.2.1 d_AckBookModel_sample_135 ?_
          refine x_put hC hZ zc10 h (by decide) t_837 (fun _ h9 => h9) rfl rfl rfl rfl d_AckBookModel_sample_136 (fun w H locs hZ h => ?_)
          exact x_vret hC hRc hRs hZ hr h d_AckBookModel_sample_139
      · have h := z_ifn hc h
        refine lv_iload_n hC.1 hC.2.1 d_AckBookModel_sample_73 rfl (lv_at hl 1 rfl) ?_
        refine lv_iload_n hC.1 hC.2.1 d_AckBookModel_sample_74 rfl (lv_at hl 2 rfl) ?_
        refine lv_isub hC.1 hC.2.1 d_AckBookModel_sample_75 ?_
        refine lv_goto (tgt := 80) hC.1 hC.2.1 d_AckBookModel_sample_76 (by decide) ?_
        refine lv_istore_n (i := 3) (lv' := [(3, .int (pI1 - pI2)), (0, va_rf a0), (1, .int pI1), (2, .int pI2)]) hC.1 hC.2.1 d_AckBookModel_sample_80 rfl hl (by decide) (by first | rfl | simp [z_rfc, z_ci, z_cj]) (fun ls hl => ?_)
        refine x_aload_n hC d_AckBookModel_sample_81 rfl (lv_at hl 1 rfl) ?_
        refine x_getI hC hZ zc10 h (by decide) t_837 (fun _ h9 => h9) d_AckBookModel_sample_82 (fun v12 h => ?_)
        refine lv_bipush (v := (8 : Int32)) hC.1 hC.2.1 d_AckBookModel_sample_85 (by decide) ?_
        refine lv_idiv hC.1 hC.2.1 d_AckBookModel_sample_87 (by decide) ?_
        refine lv_iload_n hC.1 hC.2.1 d_AckBookModel_sample_88 rfl (lv_at hl 0 rfl) ?_
        refine lv_isub hC.1 hC.2.1 d_AckBookModel_sample_89 ?_
        refine lv_istore (i := 4) (lv' := [(4, .int ((v12 / (8 : Int32)) - (pI1 - pI2))), (3, .int (pI1 - pI2)), (0, va_rf a0), (1, .int pI1), (2, .int pI2)]) hC.1 hC.2.1 d_AckBookModel_sample_90 hl (by decide) (by first | rfl | simp [z_rfc, z_ci, z_cj]) (fun ls hl => ?_)
        refine x_aload_n hC d_AckBookModel_sample_92 rfl (lv_at hl 2 rfl) ?_
        refine lv_dup hC.1 hC.2.1 d_AckBookModel_sample_93 (z_rfc _) ?_
        refine x_getI hC hZ zc10 h (by decide) t_838 (fun _ h9 => h9) d_AckBookModel_sample_94 (fun v13 h => ?_)
        refine lv_iload hC.1 hC.2.1 d_AckBookModel_sample_97 (lv_at hl 0 rfl) ?_
        refine lv_if_ge (tgt := 108) hC.1 hC.2.1 d_AckBookModel_sample_99 (by decide) (fun hc => ?_) (fun hc => ?_)
        · have h := z_ifp hc h
          refine lv_iload hC.1 hC.2.1 d_AckBookModel_sample_108 (lv_at hl 0 rfl) ?_
          refine x_aload_n hC d_AckBookModel_sample_110 rfl (lv_at hl 2 rfl) ?_
          refine x_getI hC hZ zc10 h (by decide) t_838 (fun _ h9 => h9) d_AckBookModel_sample_111 (fun v14 h => ?_)
          refine lv_iconst (v := (4 : Int32)) hC.1 hC.2.1 d_AckBookModel_sample_114 (by decide) ?_
          refine lv_idiv hC.1 hC.2.1 d_AckBookModel_sample_115 (by decide) ?_
          refine lv_isub hC.1 hC.2.1 d_AckBookModel_sample_116 ?_
          refine lv_iadd hC.1 hC.2.1 d_AckBookModel_sample_117 ?_
          refine x_put hC hZ zc10 h (by decide) t_838 (fun _ h9 => h9) rfl rfl rfl rfl d_AckBookModel_sample_118 (fun w H locs hZ h => ?_)
          refine x_aload_n hC d_AckBookModel_sample_121 rfl (lv_at hl 2 rfl) ?_
          refine lv_dup hC.1 hC.2.1 d_AckBookModel_sample_122 (z_rfc _) ?_
          refine x_getI hC hZ zc10 h (by decide) t_837 (fun _ h9 => h9) d_AckBookModel_sample_123 (fun v15 h => ?_)
          refine lv_iload_n hC.1 hC.2.1 d_AckBookModel_sample_126 rfl (lv_at hl 1 rfl) ?_
          refine x_aload_n hC d_AckBookModel_sample_127 rfl (lv_at hl 2 rfl) ?_
          refine x_getI hC hZ zc10 h (by decide) t_837 (fun _ h9 => h9) d_AckBookModel_sample_128 (fun v16 h => ?_)
          refine lv_bipush (v := (8 : Int32)) hC.1 hC.2.1 d_AckBookModel_sample_131 (by decide) ?_
          refine lv_idiv hC.1 hC.2.1 d_AckBookModel_sample_133 (by decide) ?_
          refine lv_isub hC.1 hC.2.1 d_AckBookModel_sample_134 ?_
          refine lv_iadd hC.1 hC.2.1 d_AckBookModel_sample_135 ?_
          refine x_put hC hZ zc10 h (by decide) t_837 (fun _ h9 => h9) rfl rfl rfl rfl d_AckBookModel_sample_136 (fun w H locs hZ h => ?_)
          exact x_vret hC hRc hRs hZ hr h d_AckBookModel_sample_139
        · have h := z_ifn hc h
          refine lv_iload hC.1 hC.2.1 d_AckBookModel_sample_102 (lv_at hl 0 rfl) ?_
          refine lv_ineg hC.1 hC.2.1 d_AckBookModel_sample_104 ?_
          refine lv_goto (tgt := 110) hC.1 hC.2.1 d_AckBookModel_sample_105 (by decide) ?_
          refine x_aload_n hC d_AckBookModel_sample_110 rfl (lv_at hl 2 rfl) ?_
          refine x_getI hC hZ zc10 h (by decide) t_838 (fun _ h9 => h9) d_AckBookModel_sample_111 (fun v17 h => ?_)
          refine lv_iconst (v := (4 : Int32)) hC.1 hC.2.1 d_AckBookModel_sample_114 (by decide) ?_
          refine lv_idiv hC.1 hC.2.1 d_AckBookModel_sample_115 (by decide) ?_
          refine lv_isub hC.1 hC.2.1 d_AckBookModel_sample_116 ?_
          refine lv_iadd hC.1 hC.2.1 d_AckBookModel_sample_117 ?_
          refine x_put hC hZ zc10 h (by decide) t_838 (fun _ h9 => h9) rfl rfl rfl rfl d_AckBookModel_sample_118 (fun w H locs hZ h => ?_)
          refine x_aload_n hC d_AckBookModel_sample_121 rfl (lv_at hl 2 rfl) ?_
          refine lv_dup hC.1 hC.2.1 d_AckBookModel_sample_122 (z_rfc _) ?_
          refine x_getI hC hZ zc10 h (by decide) t_837 (fun _ h9 => h9) d_AckBookModel_sample_123 (fun v18 h => ?_)
          refine lv_iload_n hC.1 hC.2.1 d_AckBookModel_sample_126 rfl (lv_at hl 1 rfl) ?_
          refine x_aload_n hC d_AckBookModel_sample_127 rfl (lv_at hl 2 rfl) ?_
          refine x_getI hC hZ zc10 h (by decide) t_837 (fun _ h9 => h9) d_AckBookModel_sample_128 (fun v19 h => ?_)
          refine lv_bipush (v := (8 : Int32)) hC.1 hC.2.1 d_AckBookModel_sample_131 (by decide) ?_
          refine lv_idiv hC.1 hC.2.1 d_AckBookModel_sample_133 (by decide) ?_
          refine lv_isub hC.1 hC.2.1 d_AckBookModel_sample_134 ?_
          refine lv_iadd hC.1 hC.2.1 d_AckBookModel_sample_135 ?_
          refine x_put hC hZ zc10 h (by decide) t_837 (fun _ h9 => h9) rfl rfl rfl rfl d_AckBookModel_sample_136 (fun w H locs hZ h => ?_)
          exact x_vret hC hRc hRs hZ hr h d_AckBookModel_sample_139
    · have h := z_ifn hc h
      refine x_aload_n hC d_AckBookModel_sample_39 rfl (lv_at hl 0 rfl) ?_
      refine x_aload_n hC d_AckBookModel_sample_40 rfl (lv_at hl 0 rfl) ?_
      refine x_getI hC hZ zc10 h (by decide) t_820 (fun _ h9 => h9) d_AckBookModel_sample_41 (fun v20 h => ?_)
      refine x_put hC hZ zc10 h (by decide) t_841 (fun _ h9 => h9) rfl rfl rfl rfl d_AckBookModel_sample_44 (fun w H locs hZ h => ?_)
      refine x_aload_n hC d_AckBookModel_sample_47 rfl (lv_at hl 0 rfl) ?_
      refine lv_bipush (v := (8 : Int32)) hC.1 hC.2.1 d_AckBookModel_sample_48 (by decide) ?_
      refine lv_iload_n hC.1 hC.2.1 d_AckBookModel_sample_50 rfl (lv_at hl 1 rfl) ?_
      refine lv_imul hC.1 hC.2.1 d_AckBookModel_sample_51 ?_
      refine x_put hC hZ zc10 h (by decide) t_837 (fun _ h9 => h9) rfl rfl rfl rfl d_AckBookModel_sample_52 (fun w H locs hZ h => ?_)
      refine x_aload_n hC d_AckBookModel_sample_55 rfl (lv_at hl 0 rfl) ?_
      refine lv_iconst (v := (2 : Int32)) hC.1 hC.2.1 d_AckBookModel_sample_56 (by decide) ?_
      refine lv_iload_n hC.1 hC.2.1 d_AckBookModel_sample_57 rfl (lv_at hl 1 rfl) ?_
      refine lv_imul hC.1 hC.2.1 d_AckBookModel_sample_58 ?_
      refine x_put hC hZ zc10 h (by decide) t_838 (fun _ h9 => h9) rfl rfl rfl rfl d_AckBookModel_sample_59 (fun w H locs hZ h => ?_)
      exact x_vret hC hRc hRs hZ hr h d_AckBookModel_sample_62
  · have h := z_ifn hc h
    refine lv_iload_n hC.1 hC.2.1 d_AckBookModel_sample_13 rfl (lv_at hl 1 rfl) ?_
    refine x_aload_n hC d_AckBookModel_sample_14 rfl (lv_at hl 0 rfl) ?_
    refine x_getI hC hZ zc10 h (by decide) t_840 (fun _ h9 => h9) d_AckBookModel_sample_15 (fun v21 h => ?_)
    refine lv_icmp_ge (tgt := 25) hC.1 hC.2.1 d_AckBookModel_sample_18 (by decide) (fun hc => ?_) (fun hc => ?_)
    · have h := z_ifp hc h
      refine x_aload_n hC d_AckBookModel_sample_25 rfl (lv_at hl 0 rfl) ?_
      refine x_getI hC hZ zc10 h (by decide) t_840 (fun _ h9 => h9) d_AckBookModel_sample_26 (fun v22 h => ?_)
      refine x_put hC hZ zc10 h (by decide) t_840 (fun _ h9 => h9) rfl rfl rfl rfl d_AckBookModel_sample_29 (fun w H locs hZ h => ?_)
      refine x_aload_n hC d_AckBookModel_sample_32 rfl (lv_at hl 0 rfl) ?_
      refine x_getI hC hZ zc10 h (by decide) t_841 (fun _ h9 => h9) d_AckBookModel_sample_33 (fun v23 h => ?_)
      refine lv_if_ge (tgt := 63) hC.1 hC.2.1 d_AckBookModel_sample_36 (by decide) (fun hc => ?_) (fun hc => ?_)
      · have h := z_ifp hc h
        refine lv_iload_n hC.1 hC.2.1 d_AckBookModel_sample_63 rfl (lv_at hl 1 rfl) ?_
        refine x_aload_n hC d_AckBookModel_sample_64 rfl (lv_at hl 0 rfl) ?_
        refine x_getI hC hZ zc10 h (by decide) t_840 (fun _ h9 => h9) d_AckBookModel_sample_65 (fun v24 h => ?_)
        refine lv_iload_n hC.1 hC.2.1 d_AckBookModel_sample_68 rfl (lv_at hl 2 rfl) ?_
        refine lv_iadd hC.1 hC.2.1 d_AckBookModel_sample_69 ?_
        refine lv_icmp_lt (tgt := 79) hC.1 hC.2.1 d_AckBookModel_sample_70 (by decide) (fun hc => ?_) (fun hc => ?_)
        · have h := z_ifp hc h
          refine lv_iload_n hC.1 hC.2.1 d_AckBookModel_sample_79 rfl (lv_at hl 1 rfl) ?_
          refine lv_istore_n (i := 3) (lv' := [(3, .int pI1), (0, va_rf a0), (1, .int pI1), (2, .int pI2)]) hC.1 hC.2.1 d_AckBookModel_sample_80 rfl hl (by decide) (by first | rfl | simp [z_rfc, z_ci, z_cj]) (fun ls hl => ?_)
          refine x_aload_n hC d_AckBookModel_sample_81 rfl (lv_at hl 1 rfl) ?_
          refine x_getI hC hZ zc10 h (by decide) t_837 (fun _ h9 => h9) d_AckBookModel_sample_82 (fun v25 h => ?_)
          refine lv_bipush (v := (8 : Int32)) hC.1 hC.2.1 d_AckBookModel_sample_85 (by decide) ?_
          refine lv_idiv hC.1 hC.2.1 d_AckBookModel_sample_87 (by decide) ?_
          refine lv_iload_n hC.1 hC.2.1 d_AckBookModel_sample_88 rfl (lv_at hl 0 rfl) ?_
          refine lv_isub hC.1 hC.2.1 d_AckBookModel_sample_89 ?_
          refine lv_istore (i := 4) (lv' := [(4, .int ((v25 / (8 : Int32)) - pI1)), (3, .int pI1), (0, va_rf a0), (1, .int pI1), (2, .int pI2)]) hC.1 hC.2.1 d_AckBookModel_sample_90 hl (by decide) (by first | rfl | simp [z_rfc, z_ci, z_cj]) (fun ls hl => ?_)
          refine x_aload_n hC d_AckBookModel_sample_92 rfl (lv_at hl 2 rfl) ?_
          refine lv_dup hC.1 hC.2.1 d_AckBookModel_sample_93 (z_rfc _) ?_
          refine x_getI hC hZ zc10 h (by decide) t_838 (fun _ h9 => h9) d_AckBookModel_sample_94 (fun v26 h => ?_)
          refine lv_iload hC.1 hC.2.1 d_AckBookModel_sample_97 (lv_at hl 0 rfl) ?_
          refine lv_if_ge (tgt := 108) hC.1 hC.2.1 d_AckBookModel_sample_99 (by decide) (fun hc => ?_) (fun hc => ?_)
          · have h := z_ifp hc h
            refine lv_iload hC.1 hC.2.1 d_AckBookModel_sample_108 (lv_at hl 0 rfl) ?_
            refine x_aload_n hC d_AckBookModel_sample_110 rfl (lv_at hl 2 rfl) ?_
            refine x_getI hC hZ zc10 h (by decide) t_838 (fun _ h9 => h9) d_AckBookModel_sample_111 (fun v27 h => ?_)
            refine lv_iconst (v := (4 : Int32)) hC.1 hC.2.1 d_AckBookModel_sample_114 (by decide) ?_
            refine lv_idiv hC.1 hC.2.1 d_AckBookModel_sample_115 (by decide) ?_
            refine lv_isub hC.1 hC.2.1 d_AckBookModel_sample_116 ?_
            refine lv_iadd hC.1 hC.2.1 d_AckBookModel_sample_117 ?_
            refine x_put hC hZ zc10 h (by decide) t_838 (fun _ h9 => h9) rfl rfl rfl rfl d_AckBookModel_sample_118 (fun w H locs hZ h => ?_)
            refine x_aload_n hC d_AckBookModel_sample_121 rfl (lv_at hl 2 rfl) ?_
            refine lv_dup hC.1 hC.2.1 d_AckBookModel_sample_122 (z_rfc _) ?_
            refine x_getI hC hZ zc10 h (by decide) t_837 (fun _ h9 => h9) d_AckBookModel_sample_123 (fun v28 h => ?_)
            refine lv_iload_n hC.1 hC.2.1 d_AckBookModel_sample_126 rfl (lv_at hl 1 rfl) ?_
            refine x_aload_n hC d_AckBookModel_sample_127 rfl (lv_at hl 2 rfl) ?_
            refine x_getI hC hZ zc10 h (by decide) t_837 (fun _ h9 => h9) d_AckBookModel_sample_128 (fun v29 h => ?_)
            refine lv_bipush (v := (8 : Int32)) hC.1 hC.2.1 d_AckBookModel_sample_131 (by decide) ?_
            refine lv_idiv hC.1 hC.2.1 d_AckBookModel_sample_133 (by decide) ?_
            refine lv_isub hC.1 hC.2.1 d_AckBookModel_sample_134 ?_
            refine lv_iadd hC.1 hC.2.1 d_AckBookModel_sample_135 ?_
            refine x_put hC hZ zc10 h (by decide) t_837 (fun _ h9 => h9) rfl rfl rfl rfl d_AckBookModel_sample_136 (fun w H locs hZ h => ?_)
            exact x_vret hC hRc hRs hZ hr h d_AckBookModel_sample_139
          · have h := z_ifn hc h
            refine lv_iload hC.1 hC.2.1 d_AckBookModel_sample_102 (lv_at hl 0 rfl) ?_
            refine lv_ineg hC.1 hC.2.1 d_AckBookModel_sample_104 ?_
            refine lv_goto (tgt := 110) hC.1 hC.2.1 d_AckBookModel_sample_105 (by decide) ?_
            refine x_aload_n hC d_AckBookModel_sample_110 rfl (lv_at hl 2 rfl) ?_
            refine x_getI hC hZ zc10 h (by decide) t_838 (fun _ h9 => h9) d_AckBookModel_sample_111 (fun v30 h => ?_)
            refine lv_iconst (v := (4 : Int32)) hC.1 hC.2.1 d_AckBookModel_sample_114 (by decide) ?_
            refine lv_idiv hC.1 hC.2.1 d_AckBookModel_sample_115 (by decide) ?_
            refine lv_isub hC.1 hC.2.1 d_AckBookModel_sample_116 ?_
            refine lv_iadd hC.1 hC.2.1 d_AckBookModel_sample_117 ?_
            refine x_put hC hZ zc10 h (by decide) t_838 (fun _ h9 => h9) rfl rfl rfl rfl d_AckBookModel_sample_118 (fun w H locs hZ h => ?_)
            refine x_aload_n hC d_AckBookModel_sample_121 rfl (lv_at hl 2 rfl) ?_
            refine lv_dup hC.1 hC.2.1 d_AckBookModel_sample_122 (z_rfc _) ?_
            refine x_getI hC hZ zc10 h (by decide) t_837 (fun _ h9 => h9) d_AckBookModel_sample_123 (fun v31 h => ?_)
            refine lv_iload_n hC.1 hC.2.1 d_AckBookModel_sample_126 rfl (lv_at hl 1 rfl) ?_
            refine x_aload_n hC d_AckBookModel_sample_127 rfl (lv_at hl 2 rfl) ?_
            refine x_getI hC hZ zc10 h (by decide) t_837 (fun _ h9 => h9) d_AckBookModel_sample_128 (fun v32 h => ?_)
            refine lv_bipush (v := (8 : Int32)) hC.1 hC.2.1 d_AckBookModel_sample_131 (by decide) ?_
            refine lv_idiv hC.1 hC.2.1 d_AckBookModel_sample_133 (by decide) ?_
            refine lv_isub hC.1 hC.2.1 d_AckBookModel_sample_134 ?_
            refine lv_iadd hC.1 hC.2.1 d_AckBookModel_sample_135 ?_
            refine x_put hC hZ zc10 h (by decide) t_837 (fun _ h9 => h9) rfl rfl rfl rfl d_AckBookModel_sample_136 (fun w H locs hZ h => ?_)
            exact x_vret hC hRc hRs hZ hr h d_AckBookModel_sample_139
        · have h := z_ifn hc h
          refine lv_iload_n hC.1 hC.2.1 d_AckBookModel_sample_73 rfl (lv_at hl 1 rfl) ?_
          refine lv_iload_n hC.1 hC.2.1 d_AckBookModel_sample_74 rfl (lv_at hl 2 rfl) ?_
          refine lv_isub hC.1 hC.2.1 d_AckBookModel_sample_75 ?_
          refine lv_goto (tgt := 80) hC.1 hC.2.1 d_AckBookModel_sample_76 (by decide) ?_
          refine lv_istore_n (i := 3) (lv' := [(3, .int (pI1 - pI2)), (0, va_rf a0), (1, .int pI1), (2, .int pI2)]) hC.1 hC.2.1 d_AckBookModel_sample_80 rfl hl (by decide) (by first | rfl | simp [z_rfc, z_ci, z_cj]) (fun ls hl => ?_)
          refine x_aload_n hC d_AckBookModel_sample_81 rfl (lv_at hl 1 rfl) ?_
          refine x_getI hC hZ zc10 h (by decide) t_837 (fun _ h9 => h9) d_AckBookModel_sample_82 (fun v33 h => ?_)
          refine lv_bipush (v := (8 : Int32)) hC.1 hC.2.1 d_AckBookModel_sample_85 (by decide) ?_
          refine lv_idiv hC.1 hC.2.1 d_AckBookModel_sample_87 (by decide) ?_
          refine lv_iload_n hC.1 hC.2.1 d_AckBookModel_sample_88 rfl (lv_at hl 0 rfl) ?_
          refine lv_isub hC.1 hC.2.1 d_AckBookModel_sample_89 ?_
          refine lv_istore (i := 4) (lv' := [(4, .int ((v33 / (8 : Int32)) - (pI1 - pI2))), (3, .int (pI1 - pI2)), (0, va_rf a0), (1, .int pI1), (2, .int pI2)]) hC.1 hC.2.1 d_AckBookModel_sample_90 hl (by decide) (by first | rfl | simp [z_rfc, z_ci, z_cj]) (fun ls hl => ?_)
          refine x_aload_n hC d_AckBookModel_sample_92 rfl (lv_at hl 2 rfl) ?_
          refine lv_dup hC.1 hC.2.1 d_AckBookModel_sample_93 (z_rfc _) ?_
          refine x_getI hC hZ zc10 h (by decide) t_838 (fun _ h9 => h9) d_AckBookModel_sample_94 (fun v34 h => ?_)
          refine lv_iload hC.1 hC.2.1 d_AckBookModel_sample_97 (lv_at hl 0 rfl) ?_
          refine lv_if_ge (tgt := 108) hC.1 hC.2.1 d_AckBookModel_sample_99 (by decide) (fun hc => ?_) (fun hc => ?_)
          · have h := z_ifp hc h
            refine lv_iload hC.1 hC.2.1 d_AckBookModel_sample_108 (lv_at hl 0 rfl) ?_
            refine x_aload_n hC d_AckBookModel_sample_110 rfl (lv_at hl 2 rfl) ?_
            refine x_getI hC hZ zc10 h (by decide) t_838 (fun _ h9 => h9) d_AckBookModel_sample_111 (fun v35 h => ?_)
            refine lv_iconst (v := (4 : Int32)) hC.1 hC.2.1 d_AckBookModel_sample_114 (by decide) ?_
            refine lv_idiv hC.1 hC.2.1 d_AckBookModel_sample_115 (by decide) ?_
            refine lv_isub hC.1 hC.2.1 d_AckBookModel_sample_116 ?_
            refine lv_iadd hC.1 hC.2.1 d_AckBookModel_sample_117 ?_
            refine x_put hC hZ zc10 h (by decide) t_838 (fun _ h9 => h9) rfl rfl rfl rfl d_AckBookModel_sample_118 (fun w H locs hZ h => ?_)
            refine x_aload_n hC d_AckBookModel_sample_121 rfl (lv_at hl 2 rfl) ?_
            refine lv_dup hC.1 hC.2.1 d_AckBookModel_sample_122 (z_rfc _) ?_
            refine x_getI hC hZ zc10 h (by decide) t_837 (fun _ h9 => h9) d_AckBookModel_sample_123 (fun v36 h => ?_)
            refine lv_iload_n hC.1 hC.2.1 d_AckBookModel_sample_126 rfl (lv_at hl 1 rfl) ?_
            refine x_aload_n hC d_AckBookModel_sample_127 rfl (lv_at hl 2 rfl) ?_
            refine x_getI hC hZ zc10 h (by decide) t_837 (fun _ h9 => h9) d_AckBookModel_sample_128 (fun v37 h => ?_)
            refine lv_bipush (v := (8 : Int32)) hC.1 hC.2.1 d_AckBookModel_sample_131 (by decide) ?_
            refine lv_idiv hC.1 hC.2.1 d_AckBookModel_sample_133 (by decide) ?_
            refine lv_isub hC.1 hC.2.1 d_AckBookModel_sample_134 ?_
            refine lv_iadd hC.1 hC.2.1 d_AckBookModel_sample_135 ?_
            refine x_put hC hZ zc10 h (by decide) t_837 (fun _ h9 => h9) rfl rfl rfl rfl d_AckBookModel_sample_136 (fun w H locs hZ h => ?_)
            exact x_vret hC hRc hRs hZ hr h d_AckBookModel_sample_139
          · have h := z_ifn hc h
            refine lv_iload hC.1 hC.2.1 d_AckBookModel_sample_102 (lv_at hl 0 rfl) ?_
            refine lv_ineg hC.1 hC.2.1 d_AckBookModel_sample_104 ?_
            refine lv_goto (tgt := 110) hC.1 hC.2.1 d_AckBookModel_sample_105 (by decide) ?_
            refine x_aload_n hC d_AckBookModel_sample_110 rfl (lv_at hl 2 rfl) ?_
            refine x_getI hC hZ zc10 h (by decide) t_838 (fun _ h9 => h9) d_AckBookModel_sample_111 (fun v38 h => ?_)
            refine lv_iconst (v := (4 : Int32)) hC.1 hC.2.1 d_AckBookModel_sample_114 (by decide) ?_
            refine lv_idiv hC.1 hC.2.1 d_AckBookModel_sample_115 (by decide) ?_
            refine lv_isub hC.1 hC.2.1 d_AckBookModel_sample_116 ?_
            refine lv_iadd hC.1 hC.2.1 d_AckBookModel_sample_117 ?_
            refine x_put hC hZ zc10 h (by decide) t_838 (fun _ h9 => h9) rfl rfl rfl rfl d_AckBookModel_sample_118 (fun w H locs hZ h => ?_)
            refine x_aload_n hC d_AckBookModel_sample_121 rfl (lv_at hl 2 rfl) ?_
            refine lv_dup hC.1 hC.2.1 d_AckBookModel_sample_122 (z_rfc _) ?_
            refine x_getI hC hZ zc10 h (by decide) t_837 (fun _ h9 => h9) d_AckBookModel_sample_123 (fun v39 h => ?_)
            refine lv_iload_n hC.1 hC.2.1 d_AckBookModel_sample_126 rfl (lv_at hl 1 rfl) ?_
            refine x_aload_n hC d_AckBookModel_sample_127 rfl (lv_at hl 2 rfl) ?_
            refine x_getI hC hZ zc10 h (by decide) t_837 (fun _ h9 => h9) d_AckBookModel_sample_128 (fun v40 h => ?_)
            refine lv_bipush (v := (8 : Int32)) hC.1 hC.2.1 d_AckBookModel_sample_131 (by decide) ?_
            refine lv_idiv hC.1 hC.2.1 d_AckBookModel_sample_133 (by decide) ?_
            refine lv_isub hC.1 hC.2.1 d_AckBookModel_sample_134 ?_
            refine lv_iadd hC.1 hC.2.1 d_AckBookModel_sample_135 ?_
            refine x_put hC hZ zc10 h (by decide) t_837 (fun _ h9 => h9) rfl rfl rfl rfl d_AckBookModel_sample_136 (fun w H locs hZ h => ?_)
            exact x_vret hC hRc hRs hZ hr h d_AckBookModel_sample_139
      · have h := z_ifn hc h
        refine x_aload_n hC d_AckBookModel_sample_39 rfl (lv_at hl 0 rfl) ?_
        refine x_aload_n hC d_AckBookModel_sample_40 rfl (lv_at hl 0 rfl) ?_
        refine x_getI hC hZ zc10 h (by decide) t_820 (fun _ h9 => h9) d_AckBookModel_sample_41 (fun v41 h => ?_)
        refine x_put hC hZ zc10 h (by decide) t_841 (fun _ h9 => h9) rfl rfl rfl rfl d_AckBookModel_sample_44 (fun w H locs hZ h => ?_)
        refine x_aload_n hC d_AckBookModel_sample_47 rfl (lv_at hl 0 rfl) ?_
        refine lv_bipush (v := (8 : Int32)) hC.1 hC.2.1 d_AckBookModel_sample_48 (by decide) ?_
        refine lv_iload_n hC.1 hC.2.1 d_AckBookModel_sample_50 rfl (lv_at hl 1 rfl) ?_
        refine lv_imul hC.1 hC.2.1 d_AckBookModel_sample_51 ?_
        refine x_put hC hZ zc10 h (by decide) t_837 (fun _ h9 => h9) rfl rfl rfl rfl d_AckBookModel_sample_52 (fun w H locs hZ h => ?_)
        refine x_aload_n hC d_AckBookModel_sample_55 rfl (lv_at hl 0 rfl) ?_
        refine lv_iconst (v := (2 : Int32)) hC.1 hC.2.1 d_AckBookModel_sample_56 (by decide) ?_
        refine lv_iload_n hC.1 hC.2.1 d_AckBookModel_sample_57 rfl (lv_at hl 1 rfl) ?_
        refine lv_imul hC.1 hC.2.1 d_AckBookModel_sample_58 ?_
        refine x_put hC hZ zc10 h (by decide) t_838 (fun _ h9 => h9) rfl rfl rfl rfl d_AckBookModel_sample_59 (fun w H locs hZ h => ?_)
        exact x_vret hC hRc hRs hZ hr h d_AckBookModel_sample_62
    · have h := z_ifn hc h
      refine lv_iload_n hC.1 hC.2.1 d_AckBookModel_sample_21 rfl (lv_at hl 1 rfl) ?_
      refine lv_goto (tgt := 29) hC.1 hC.2.1 d_AckBookModel_sample_22 (by decide) ?_
      refine x_put hC hZ zc10 h (by decide) t_840 (fun _ h9 => h9) rfl rfl rfl rfl d_AckBookModel_sample_29 (fun w H locs hZ h => ?_)
      refine x_aload_n hC d_AckBookModel_sample_32 rfl (lv_at hl 0 rfl) ?_
      refine x_getI hC hZ zc10 h (by decide) t_841 (fun _ h9 => h9) d_AckBookModel_sample_33 (fun v42 h => ?_)
      refine lv_if_ge (tgt := 63) hC.1 hC.2.1 d_AckBookModel_sample_36 (by decide) (fun hc => ?_) (fun hc => ?_)
      · have h := z_ifp hc h
        refine lv_iload_n hC.1 hC.2.1 d_AckBookModel_sample_63 rfl (lv_at hl 1 rfl) ?_
        refine x_aload_n hC d_AckBookModel_sample_64 rfl (lv_at hl 0 rfl) ?_
        refine x_getI hC hZ zc10 h (by decide) t_840 (fun _ h9 => h9) d_AckBookModel_sample_65 (fun v43 h => ?_)
        refine lv_iload_n hC.1 hC.2.1 d_AckBookModel_sample_68 rfl (lv_at hl 2 rfl) ?_
        refine lv_iadd hC.1 hC.2.1 d_AckBookModel_sample_69 ?_
        refine lv_icmp_lt (tgt := 79) hC.1 hC.2.1 d_AckBookModel_sample_70 (by decide) (fun hc => ?_) (fun hc => ?_)
        · have h := z_ifp hc h
          refine lv_iload_n hC.1 hC.2.1 d_AckBookModel_sample_79 rfl (lv_at hl 1 rfl) ?_
          refine lv_istore_n (i := 3) (lv' := [(3, .int pI1), (0, va_rf a0), (1, .int pI1), (2, .int pI2)]) hC.1 hC.2.1 d_AckBookModel_sample_80 rfl hl (by decide) (by first | rfl | simp [z_rfc, z_ci, z_cj]) (fun ls hl => ?_)
          refine x_aload_n hC d_AckBookModel_sample_81 rfl (lv_at hl 1 rfl) ?_
          refine x_getI hC hZ zc10 h (by decide) t_837 (fun _ h9 => h9) d_AckBookModel_sample_82 (fun v44 h => ?_)
          refine lv_bipush (v := (8 : Int32)) hC.1 hC.2.1 d_AckBookModel_sample_85 (by decide) ?_
          refine lv_idiv hC.1 hC.2.1 d_AckBookModel_sample_87 (by decide) ?_
          refine lv_iload_n hC.1 hC.2.1 d_AckBookModel_sample_88 rfl (lv_at hl 0 rfl) ?_
          refine lv_isub hC.1 hC.2.1 d_AckBookModel_sample_89 ?_
          refine lv_istore (i := 4) (lv' := [(4, .int ((v44 / (8 : Int32)) - pI1)), (3, .int pI1), (0, va_rf a0), (1, .int pI1), (2, .int pI2)]) hC.1 hC.2.1 d_AckBookModel_sample_90 hl (by decide) (by first | rfl | simp [z_rfc, z_ci, z_cj]) (fun ls hl => ?_)
          refine x_aload_n hC d_AckBookModel_sample_92 rfl (lv_at hl 2 rfl) ?_
          refine lv_dup hC.1 hC.2.1 d_AckBookModel_sample_93 (z_rfc _) ?_
          refine x_getI hC hZ zc10 h (by decide) t_838 (fun _ h9 => h9) d_AckBookModel_sample_94 (fun v45 h => ?_)
          refine lv_iload hC.1 hC.2.1 d_AckBookModel_sample_97 (lv_at hl 0 rfl) ?_
          refine lv_if_ge (tgt := 108) hC.1 hC.2.1 d_AckBookModel_sample_99 (by decide) (fun hc => ?_) (fun hc => ?_)
          · have h := z_ifp hc h
            refine lv_iload hC.1 hC.2.1 d_AckBookModel_sample_108 (lv_at hl 0 rfl) ?_
            refine x_aload_n hC d_AckBookModel_sample_110 rfl (lv_at hl 2 rfl) ?_
            refine x_getI hC hZ zc10 h (by decide) t_838 (fun _ h9 => h9) d_AckBookModel_sample_111 (fun v46 h => ?_)
            refine lv_iconst (v := (4 : Int32)) hC.1 hC.2.1 d_AckBookModel_sample_114 (by decide) ?_
            refine lv_idiv hC.1 hC.2.1 d_AckBookModel_sample_115 (by decide) ?_
            refine lv_isub hC.1 hC.2.1 d_AckBookModel_sample_116 ?_
            refine lv_iadd hC.1 hC.2.1 d_AckBookModel_sample_117 ?_
            refine x_put hC hZ zc10 h (by decide) t_838 (fun _ h9 => h9) rfl rfl rfl rfl d_AckBookModel_sample_118 (fun w H locs hZ h => ?_)
            refine x_aload_n hC d_AckBookModel_sample_121 rfl (lv_at hl 2 rfl) ?_
            refine lv_dup hC.1 hC.2.1 d_AckBookModel_sample_122 (z_rfc _) ?_
            refine x_getI hC hZ zc10 h (by decide) t_837 (fun _ h9 => h9) d_AckBookModel_sample_123 (fun v47 h => ?_)
            refine lv_iload_n hC.1 hC.2.1 d_AckBookModel_sample_126 rfl (lv_at hl 1 rfl) ?_
            refine x_aload_n hC d_AckBookModel_sample_127 rfl (lv_at hl 2 rfl) ?_
            refine x_getI hC hZ zc10 h (by decide) t_837 (fun _ h9 => h9) d_AckBookModel_sample_128 (fun v48 h => ?_)
            refine lv_bipush (v := (8 : Int32)) hC.1 hC.2.1 d_AckBookModel_sample_131 (by decide) ?_
            refine lv_idiv hC.1 hC.2.1 d_AckBookModel_sample_133 (by decide) ?_
            refine lv_isub hC.1 hC.2.1 d_AckBookModel_sample_134 ?_
            refine lv_iadd hC.1 hC.2.1 d_AckBookModel_sample_135 ?_
            refine x_put hC hZ zc10 h (by decide) t_837 (fun _ h9 => h9) rfl rfl rfl rfl d_AckBookModel_sample_136 (fun w H locs hZ h => ?_)
            exact x_vret hC hRc hRs hZ hr h d_AckBookModel_sample_139
          · have h := z_ifn hc h
            refine lv_iload hC.1 hC.2.1 d_AckBookModel_sample_102 (lv_at hl 0 rfl) ?_
            refine lv_ineg hC.1 hC.2.1 d_AckBookModel_sample_104 ?_
            refine lv_goto (tgt := 110) hC.1 hC.2.1 d_AckBookModel_sample_105 (by decide) ?_
            refine x_aload_n hC d_AckBookModel_sample_110 rfl (lv_at hl 2 rfl) ?_
            refine x_getI hC hZ zc10 h (by decide) t_838 (fun _ h9 => h9) d_AckBookModel_sample_111 (fun v49 h => ?_)
            refine lv_iconst (v := (4 : Int32)) hC.1 hC.2.1 d_AckBookModel_sample_114 (by decide) ?_
            refine lv_idiv hC.1 hC.2.1 d_AckBookModel_sample_115 (by decide) ?_
            refine lv_isub hC.1 hC.2.1 d_AckBookModel_sample_116 ?_
            refine lv_iadd hC.1 hC.2.1 d_AckBookModel_sample_117 ?_
            refine x_put hC hZ zc10 h (by decide) t_838 (fun _ h9 => h9) rfl rfl rfl rfl d_AckBookModel_sample_118 (fun w H locs hZ h => ?_)
            refine x_aload_n hC d_AckBookModel_sample_121 rfl (lv_at hl 2 rfl) ?_
            refine lv_dup hC.1 hC.2.1 d_AckBookModel_sample_122 (z_rfc _) ?_
            refine x_getI hC hZ zc10 h (by decide) t_837 (fun _ h9 => h9) d_AckBookModel_sample_123 (fun v50 h => ?_)
            refine lv_iload_n hC.1 hC.2.1 d_AckBookModel_sample_126 rfl (lv_at hl 1 rfl) ?_
            refine x_aload_n hC d_AckBookModel_sample_127 rfl (lv_at hl 2 rfl) ?_
            refine x_getI hC hZ zc10 h (by decide) t_837 (fun _ h9 => h9) d_AckBookModel_sample_128 (fun v51 h => ?_)
            refine lv_bipush (v := (8 : Int32)) hC.1 hC.2.1 d_AckBookModel_sample_131 (by decide) ?_
            refine lv_idiv hC.1 hC.2.1 d_AckBookModel_sample_133 (by decide) ?_
            refine lv_isub hC.1 hC.2.1 d_AckBookModel_sample_134 ?_
            refine lv_iadd hC.1 hC.2.1 d_AckBookModel_sample_135 ?_
            refine x_put hC hZ zc10 h (by decide) t_837 (fun _ h9 => h9) rfl rfl rfl rfl d_AckBookModel_sample_136 (fun w H locs hZ h => ?_)
            exact x_vret hC hRc hRs hZ hr h d_AckBookModel_sample_139
        · have h := z_ifn hc h
          refine lv_iload_n hC.1 hC.2.1 d_AckBookModel_sample_73 rfl (lv_at hl 1 rfl) ?_
          refine lv_iload_n hC.1 hC.2.1 d_AckBookModel_sample_74 rfl (lv_at hl 2 rfl) ?_
          refine lv_isub hC.1 hC.2.1 d_AckBookModel_sample_75 ?_
          refine lv_goto (tgt := 80) hC.1 hC.2.1 d_AckBookModel_sample_76 (by decide) ?_
          refine lv_istore_n (i := 3) (lv' := [(3, .int (pI1 - pI2)), (0, va_rf a0), (1, .int pI1), (2, .int pI2)]) hC.1 hC.2.1 d_AckBookModel_sample_80 rfl hl (by decide) (by first | rfl | simp [z_rfc, z_ci, z_cj]) (fun ls hl => ?_)
          refine x_aload_n hC d_AckBookModel_sample_81 rfl (lv_at hl 1 rfl) ?_
          refine x_getI hC hZ zc10 h (by decide) t_837 (fun _ h9 => h9) d_AckBookModel_sample_82 (fun v52 h => ?_)
          refine lv_bipush (v := (8 : Int32)) hC.1 hC.2.1 d_AckBookModel_sample_85 (by decide) ?_
          refine lv_idiv hC.1 hC.2.1 d_AckBookModel_sample_87 (by decide) ?_
          refine lv_iload_n hC.1 hC.2.1 d_AckBookModel_sample_88 rfl (lv_at hl 0 rfl) ?_
          refine lv_isub hC.1 hC.2.1 d_AckBookModel_sample_89 ?_
          refine lv_istore (i := 4) (lv' := [(4, .int ((v52 / (8 : Int32)) - (pI1 - pI2))), (3, .int (pI1 - pI2)), (0, va_rf a0), (1, .int pI1), (2, .int pI2)]) hC.1 hC.2.1 d_AckBookModel_sample_90 hl (by decide) (by first | rfl | simp [z_rfc, z_ci, z_cj]) (fun ls hl => ?_)
          refine x_aload_n hC d_AckBookModel_sample_92 rfl (lv_at hl 2 rfl) ?_
          refine lv_dup hC.1 hC.2.1 d_AckBookModel_sample_93 (z_rfc _) ?_
          refine x_getI hC hZ zc10 h (by decide) t_838 (fun _ h9 => h9) d_AckBookModel_sample_94 (fun v53 h => ?_)
          refine lv_iload hC.1 hC.2.1 d_AckBookModel_sample_97 (lv_at hl 0 rfl) ?_
          refine lv_if_ge (tgt := 108) hC.1 hC.2.1 d_AckBookModel_sample_99 (by decide) (fun hc => ?_) (fun hc => ?_)
          · have h := z_ifp hc h
            refine lv_iload hC.1 hC.2.1 d_AckBookModel_sample_108 (lv_at hl 0 rfl) ?_
            refine x_aload_n hC d_AckBookModel_sample_110 rfl (lv_at hl 2 rfl) ?_
            refine x_getI hC hZ zc10 h (by decide) t_838 (fun _ h9 => h9) d_AckBookModel_sample_111 (fun v54 h => ?_)
            refine lv_iconst (v := (4 : Int32)) hC.1 hC.2.1 d_AckBookModel_sample_114 (by decide) ?_
            refine lv_idiv hC.1 hC.2.1 d_AckBookModel_sample_115 (by decide) ?_
            refine lv_isub hC.1 hC.2.1 d_AckBookModel_sample_116 ?_
            refine lv_iadd hC.1 hC.2.1 d_AckBookModel_sample_117 ?_
            refine x_put hC hZ zc10 h (by decide) t_838 (fun _ h9 => h9) rfl rfl rfl rfl d_AckBookModel_sample_118 (fun w H locs hZ h => ?_)
            refine x_aload_n hC d_AckBookModel_sample_121 rfl (lv_at hl 2 rfl) ?_
            refine lv_dup hC.1 hC.2.1 d_AckBookModel_sample_122 (z_rfc _) ?_
            refine x_getI hC hZ zc10 h (by decide) t_837 (fun _ h9 => h9) d_AckBookModel_sample_123 (fun v55 h => ?_)
            refine lv_iload_n hC.1 hC.2.1 d_AckBookModel_sample_126 rfl (lv_at hl 1 rfl) ?_
            refine x_aload_n hC d_AckBookModel_sample_127 rfl (lv_at hl 2 rfl) ?_
            refine x_getI hC hZ zc10 h (by decide) t_837 (fun _ h9 => h9) d_AckBookModel_sample_128 (fun v56 h => ?_)
            refine lv_bipush (v := (8 : Int32)) hC.1 hC.2.1 d_AckBookModel_sample_131 (by decide) ?_
            refine lv_idiv hC.1 hC.2.1 d_AckBookModel_sample_133 (by decide) ?_
            refine lv_isub hC.1 hC.2.1 d_AckBookModel_sample_134 ?_
            refine lv_iadd hC.1 hC.2.1 d_AckBookModel_sample_135 ?_
            refine x_put hC hZ zc10 h (by decide) t_837 (fun _ h9 => h9) rfl rfl rfl rfl d_AckBookModel_sample_136 (fun w H locs hZ h => ?_)
            exact x_vret hC hRc hRs hZ hr h d_AckBookModel_sample_139
          · have h := z_ifn hc h
            refine lv_iload hC.1 hC.2.1 d_AckBookModel_sample_102 (lv_at hl 0 rfl) ?_
            refine lv_ineg hC.1 hC.2.1 d_AckBookModel_sample_104 ?_
            refine lv_goto (tgt := 110) hC.1 hC.2.1 d_AckBookModel_sample_105 (by decide) ?_
            refine x_aload_n hC d_AckBookModel_sample_110 rfl (lv_at hl 2 rfl) ?_
            refine x_getI hC hZ zc10 h (by decide) t_838 (fun _ h9 => h9) d_AckBookModel_sample_111 (fun v57 h => ?_)
            refine lv_iconst (v := (4 : Int32)) hC.1 hC.2.1 d_AckBookModel_sample_114 (by decide) ?_
            refine lv_idiv hC.1 hC.2.1 d_AckBookModel_sample_115 (by decide) ?_
            refine lv_isub hC.1 hC.2.1 d_AckBookModel_sample_116 ?_
            refine lv_iadd hC.1 hC.2.1 d_AckBookModel_sample_117 ?_
            refine x_put hC hZ zc10 h (by decide) t_838 (fun _ h9 => h9) rfl rfl rfl rfl d_AckBookModel_sample_118 (fun w H locs hZ h => ?_)
            refine x_aload_n hC d_AckBookModel_sample_121 rfl (lv_at hl 2 rfl) ?_
            refine lv_dup hC.1 hC.2.1 d_AckBookModel_sample_122 (z_rfc _) ?_
            refine x_getI hC hZ zc10 h (by decide) t_837 (fun _ h9 => h9) d_AckBookModel_sample_123 (fun v58 h => ?_)
            refine lv_iload_n hC.1 hC.2.1 d_AckBookModel_sample_126 rfl (lv_at hl 1 rfl) ?_
            refine x_aload_n hC d_AckBookModel_sample_127 rfl (lv_at hl 2 rfl) ?_
            refine x_getI hC hZ zc10 h (by decide) t_837 (fun _ h9 => h9) d_AckBookModel_sample_128 (fun v59 h => ?_)
            refine lv_bipush (v := (8 : Int32)) hC.1 hC.2.1 d_AckBookModel_sample_131 (by decide) ?_
            refine lv_idiv hC.1 hC.2.1 d_AckBookModel_sample_133 (by decide) ?_
            refine lv_isub hC.1 hC.2.1 d_AckBookModel_sample_134 ?_
            refine lv_iadd hC.1 hC.2.1 d_AckBookModel_sample_135 ?_
            refine x_put hC hZ zc10 h (by decide) t_837 (fun _ h9 => h9) rfl rfl rfl rfl d_AckBookModel_sample_136 (fun w H locs hZ h => ?_)
            exact x_vret hC hRc hRs hZ hr h d_AckBookModel_sample_139
      · have h := z_ifn hc h
        refine x_aload_n hC d_AckBookModel_sample_39 rfl (lv_at hl 0 rfl) ?_
        refine x_aload_n hC d_AckBookModel_sample_40 rfl (lv_at hl 0 rfl) ?_
        refine x_getI hC hZ zc10 h (by decide) t_820 (fun _ h9 => h9) d_AckBookModel_sample_41 (fun v60 h => ?_)
        refine x_put hC hZ zc10 h (by decide) t_841 (fun _ h9 => h9) rfl rfl rfl rfl d_AckBookModel_sample_44 (fun w H locs hZ h => ?_)
        refine x_aload_n hC d_AckBookModel_sample_47 rfl (lv_at hl 0 rfl) ?_
        refine lv_bipush (v := (8 : Int32)) hC.1 hC.2.1 d_AckBookModel_sample_48 (by decide) ?_
        refine lv_iload_n hC.1 hC.2.1 d_AckBookModel_sample_50 rfl (lv_at hl 1 rfl) ?_
        refine lv_imul hC.1 hC.2.1 d_AckBookModel_sample_51 ?_
        refine x_put hC hZ zc10 h (by decide) t_837 (fun _ h9 => h9) rfl rfl rfl rfl d_AckBookModel_sample_52 (fun w H locs hZ h => ?_)
        refine x_aload_n hC d_AckBookModel_sample_55 rfl (lv_at hl 0 rfl) ?_
        refine lv_iconst (v := (2 : Int32)) hC.1 hC.2.1 d_AckBookModel_sample_56 (by decide) ?_
        refine lv_iload_n hC.1 hC.2.1 d_AckBookModel_sample_57 rfl (lv_at hl 1 rfl) ?_
        refine lv_imul hC.1 hC.2.1 d_AckBookModel_sample_58 ?_
        refine x_put hC hZ zc10 h (by decide) t_838 (fun _ h9 => h9) rfl rfl rfl rfl d_AckBookModel_sample_59 (fun w H locs hZ h => ?_)
        exact x_vret hC hRc hRs hZ hr h d_AckBookModel_sample_62
