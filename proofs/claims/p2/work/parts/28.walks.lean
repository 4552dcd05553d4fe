def j_AckBookModel_takeOut (F X : Nat) : Nat → Option Nat → Int32 → Int32 → zW → zR
  | 0, _, _, _, _ => none
  | N + 1, rL0, xL1, xL3, w =>
    z_getR w 10 30 rL0 fun r1 =>
    z_ldI w .int r1 xL1 fun v2 =>
    if (((65 : Int32) * xL1) + v2) ≤ xL3 then (
      some (.inl none, w))
    else (
      z_getR w 10 31 rL0 fun r3 =>
      z_getR w 10 31 rL0 fun r4 =>
      z_ldL w r4 (xL3 + (1 : Int32)) fun v5 =>
      z_stL w r3 xL3 v5 fun w =>
      z_getR w 10 32 rL0 fun r6 =>
      z_getR w 10 32 rL0 fun r7 =>
      z_ldL w r7 (xL3 + (1 : Int32)) fun v8 =>
      z_stL w r6 xL3 v8 fun w =>
      j_AckBookModel_takeOut F X N rL0 xL1 (xL3 + (1 : Int32)) w)
def f_AckBookModel_takeOut (F X : Nat) (a0 : Option Nat) (pI1 : Int32) (pI2 : Int32) (w : zW) : zR :=
  z_getR w 10 30 a0 fun r9 =>
  z_ldI w .int r9 pI1 fun v10 =>
  z_stI w r9 pI1 (v10 - (1 : Int32)) fun w =>
  j_AckBookModel_takeOut F X F a0 pI1 pI2 w
set_option maxHeartbeats 4000000 in
set_option maxRecDepth 100000 in
theorem kj_AckBookModel_takeOut {b0 : Nat} {H0 : Heap} {D : va_G} {vu vs : Value} {X : Nat} {l : Launch} (hT : z_TB (zGG b0 H0 D vu vs X)) (hfl : l.flags = pinnedFlags ++ [noTraceFlag]) (hE : vu.isRef = true ∧ vs.isRef = true) {p : Program} {e : Env} {R : Room} {s : State} {m : MethodId} {args : Array Value} {below : List Frame} {meth : Method} {c : Code} {w0 : zW} {F : Nat} (hC : z_C (zGG b0 H0 D vu vs X) p e s m meth c c_AckBookModel_takeOut 4 y_AckBookModel_takeOut.cls) (hr : meth.sig.returnType = (none)) (hRc : R.cells = w0.2.1) (hRs : R.slots = w0.2.2.1) (hFr : c.exceptionTable.toList = []) (hRt : R.frames = 0 ∧ R.locals = 0) (hnm : meth.name = y_AckBookModel_takeOut.name) : ∀ N : Nat, (∀ (rL0 : Option Nat) (xL1 : Int32) (xL3 : Int32) (w : zW) (res : zO × zW), j_AckBookModel_takeOut F X N rL0 xL1 xL3 w = some res → ∀ (H : Heap) (locs : List Loc) (cells slots : Nat) (ls : Array Slot), z_Z (zGG b0 H0 D vu vs X) R s w H locs cells slots → lv_has ls 4 [(0, va_rf rL0), (1, .int xL1), (3, .int xL3)] → W p l e R s m args below meth c H locs cells slots (z_Q (zGG b0 H0 D vu vs X) below s w0 res) (F0 m 12 ls [])) := by
  intro N
  induction N with
  | zero =>
    intro rL0 xL1 xL3 w res h
    rw [j_AckBookModel_takeOut] at h
    cases h
  | succ N ih =>
    intro rL0 xL1 xL3 w res h H locs cells slots ls hZ hl
    rw [j_AckBookModel_takeOut] at h
    refine lv_iload_n hC.1 hC.2.1 d_AckBookModel_takeOut_12 rfl (lv_at hl 2 rfl) ?_
    refine lv_bipush (v := (65 : Int32)) hC.1 hC.2.1 d_AckBookModel_takeOut_13 (by decide) ?_
    refine lv_iload_n hC.1 hC.2.1 d_AckBookModel_takeOut_15 rfl (lv_at hl 1 rfl) ?_
    refine lv_imul hC.1 hC.2.1 d_AckBookModel_takeOut_16 ?_
    refine x_aload_n hC d_AckBookModel_takeOut_17 rfl (lv_at hl 0 rfl) ?_
    refine x_getR hC hZ zc10 h (by decide) t_849 (fun _ h9 => h9) d_AckBookModel_takeOut_18 (fun r1 h => ?_)
    refine lv_iload_n hC.1 hC.2.1 d_AckBookModel_takeOut_21 rfl (lv_at hl 1 rfl) ?_
    refine x_ldI hC hZ h d_AckBookModel_takeOut_22 (fun v2 h => ?_)
    refine lv_iadd hC.1 hC.2.1 d_AckBookModel_takeOut_23 ?_
    refine lv_icmp_ge (tgt := 61) hC.1 hC.2.1 d_AckBookModel_takeOut_24 (by decide) (fun hc => ?_) (fun hc => ?_)
    · have h := z_ifp hc h
      exact x_vret hC hRc hRs hZ hr h d_AckBookModel_takeOut_61
    · have h := z_ifn hc h
      refine x_aload_n hC d_AckBookModel_takeOut_27 rfl (lv_at hl 0 rfl) ?_
      refine x_getR hC hZ zc10 h (by decide) t_850 (fun _ h9 => h9) d_AckBookModel_takeOut_28 (fun r3 h => ?_)
      refine lv_iload_n hC.1 hC.2.1 d_AckBookModel_takeOut_31 rfl (lv_at hl 2 rfl) ?_
      refine x_aload_n hC d_AckBookModel_takeOut_32 rfl (lv_at hl 0 rfl) ?_
      refine x_getR hC hZ zc10 h (by decide) t_850 (fun _ h9 => h9) d_AckBookModel_takeOut_33 (fun r4 h => ?_)
      refine lv_iload_n hC.1 hC.2.1 d_AckBookModel_takeOut_36 rfl (lv_at hl 2 rfl) ?_
      refine lv_iconst (v := (1 : Int32)) hC.1 hC.2.1 d_AckBookModel_takeOut_37 (by decide) ?_
      refine lv_iadd hC.1 hC.2.1 d_AckBookModel_takeOut_38 ?_
      refine x_ldL hC hZ h d_AckBookModel_takeOut_39 (fun v5 h => ?_)
      refine x_stL hC hZ h d_AckBookModel_takeOut_40 (fun w H locs hZ h => ?_)
      refine x_aload_n hC d_AckBookModel_takeOut_41 rfl (lv_at hl 0 rfl) ?_
      refine x_getR hC hZ zc10 h (by decide) t_851 (fun _ h9 => h9) d_AckBookModel_takeOut_42 (fun r6 h => ?_)
      refine lv_iload_n hC.1 hC.2.1 d_AckBookModel_takeOut_45 rfl (lv_at hl 2 rfl) ?_
      refine x_aload_n hC d_AckBookModel_takeOut_46 rfl (lv_at hl 0 rfl) ?_
      refine x_getR hC hZ zc10 h (by decide) t_851 (fun _ h9 => h9) d_AckBookModel_takeOut_47 (fun r7 h => ?_)
      refine lv_iload_n hC.1 hC.2.1 d_AckBookModel_takeOut_50 rfl (lv_at hl 2 rfl) ?_
      refine lv_iconst (v := (1 : Int32)) hC.1 hC.2.1 d_AckBookModel_takeOut_51 (by decide) ?_
      refine lv_iadd hC.1 hC.2.1 d_AckBookModel_takeOut_52 ?_
      refine x_ldL hC hZ h d_AckBookModel_takeOut_53 (fun v8 h => ?_)
      refine x_stL hC hZ h d_AckBookModel_takeOut_54 (fun w H locs hZ h => ?_)
      refine lv_iinc (lv' := [(3, .int (xL3 + (1 : Int32))), (0, va_rf rL0), (1, .int xL1)]) hC.1 hC.2.1 d_AckBookModel_takeOut_55 hl (k := 2) rfl rfl (by decide) (by first | rfl | simp [z_rfc, z_ci, z_cj]) (fun ls hl => ?_)
      refine lv_goto (tgt := 12) hC.1 hC.2.1 d_AckBookModel_takeOut_58 (by decide) ?_
      exact ih _ _ _ _ _ h _ _ _ _ _ hZ (lv_sub hl [1, 2, 0] rfl)
set_option maxHeartbeats 4000000 in
set_option maxRecDepth 100000 in
theorem k_AckBookModel_takeOut {b0 : Nat} {H0 : Heap} {D : va_G} {vu vs : Value} {X : Nat} {l : Launch} (hT : z_TB (zGG b0 H0 D vu vs X)) (hfl : l.flags = pinnedFlags ++ [noTraceFlag]) (hE : vu.isRef = true ∧ vs.isRef = true) {a0 : Option Nat} {pI1 : Int32} {pI2 : Int32} (F : Nat) {w : zW} (res : zO × zW) (h : f_AckBookModel_takeOut F X a0 pI1 pI2 w = some res) : z_Ct (zGG b0 H0 D vu vs X) l y_AckBookModel_takeOut (.code y_AckBookModel_takeOut c_AckBookModel_takeOut 4 (none)) 0 0 [va_rf a0, .int pI1, .int pI2] w res := by
  refine z_ct hT hfl (by decide) (by simp only [z_sl_i, z_sl_j, z_sl_r, z_sl_n]; decide) ?_
  intro p e R s m args below meth c hC hr hRc hRs hRt hnm hFr H ls hZ hl
  simp only [z_la_i, z_la_j, z_la_r, z_la_n] at hl
  have hl : lv_has ls 4 [(0, va_rf a0), (1, .int pI1), (2, .int pI2)] := hl
  unfold f_AckBookModel_takeOut at h
  refine x_aload_n hC d_AckBookModel_takeOut_0 rfl (lv_at hl 0 rfl) ?_
  refine x_getR hC hZ zc10 h (by decide) t_849 (fun _ h9 => h9) d_AckBookModel_takeOut_1 (fun r9 h => ?_)
  refine lv_iload_n hC.1 hC.2.1 d_AckBookModel_takeOut_4 rfl (lv_at hl 1 rfl) ?_
  refine lv_dup2_11 hC.1 hC.2.1 d_AckBookModel_takeOut_5 rfl (z_rfc _) ?_
  refine x_ldI hC hZ h d_AckBookModel_takeOut_6 (fun v10 h => ?_)
  refine lv_iconst (v := (1 : Int32)) hC.1 hC.2.1 d_AckBookModel_takeOut_7 (by decide) ?_
  refine lv_isub hC.1 hC.2.1 d_AckBookModel_takeOut_8 ?_
  refine x_stI hC hZ h d_AckBookModel_takeOut_9 (fun w H locs hZ h => ?_)
  refine lv_iload_n hC.1 hC.2.1 d_AckBookModel_takeOut_10 rfl (lv_at hl 2 rfl) ?_
  refine lv_istore_n (i := 3) (lv' := [(3, .int pI2), (0, va_rf a0), (1, .int pI1), (2, .int pI2)]) hC.1 hC.2.1 d_AckBookModel_takeOut_11 rfl hl (by decide) (by first | rfl | simp [z_rfc, z_ci, z_cj]) (fun ls hl => ?_)
  exact (kj_AckBookModel_takeOut hT hfl hE hC hr hRc hRs hFr hRt hnm F) _ _ _ _ _ h _ _ _ _ _ hZ (lv_sub hl [1, 2, 0] rfl)
def j_AckBookModel_comeIn (F X : Nat) : Nat → Option Nat → Int32 → Int64 → Int32 → zW → zR
  | 0, _, _, _, _, _ => none
  | N + 1, rL0, xL1, yL2, xL4, w =>
    if xL4 ≤ ((65 : Int32) * xL1) then (
      z_getR w 10 31 rL0 fun r1 =>
      z_stL w r1 xL4 yL2 fun w =>
      z_getR w 10 32 rL0 fun r2 =>
      z_stL w r2 xL4 yL2 fun w =>
      z_getR w 10 30 rL0 fun r3 =>
      z_ldI w .int r3 xL1 fun v4 =>
      z_stI w r3 xL1 (v4 + (1 : Int32)) fun w =>
      z_getR w 10 30 rL0 fun r5 =>
      z_ldI w .int r5 xL1 fun v6 =>
      if (((65 : Int32) * xL1) + v6) ≤ (xL4 + (1 : Int32)) then (
        if xL4 ≤ ((65 : Int32) * xL1) then (
          z_getR w 10 30 rL0 fun r7 =>
          z_ldI w .int r7 xL1 fun v8 =>
          if v8 ≤ (64 : Int32) then (
            some (.inl none, w))
          else (
            z_getR w 10 33 rL0 fun r9 =>
            z_getR w 10 32 rL0 fun r10 =>
            z_ldL w r10 ((65 : Int32) * xL1) fun v11 =>
            z_stL w r9 xL1 (v11 + (1 : Int64)) fun w =>
            z_this w 10 rL0 <|
            z_cV (f_AckBookModel_takeOut F X rL0 xL1 ((65 : Int32) * xL1) w) fun w =>
            some (.inl none, w)))
        else (
          z_getR w 10 32 rL0 fun r13 =>
          z_ldL w r13 (xL4 - (1 : Int32)) fun v14 =>
          if (lg_cmp v14 (yL2 - (1 : Int64))) = 0 then (
            z_getR w 10 32 rL0 fun r15 =>
            z_getR w 10 32 rL0 fun r16 =>
            z_ldL w r16 xL4 fun v17 =>
            z_stL w r15 (xL4 - (1 : Int32)) v17 fun w =>
            z_this w 10 rL0 <|
            z_cV (f_AckBookModel_takeOut F X rL0 xL1 xL4 w) fun w =>
            z_getR w 10 30 rL0 fun r19 =>
            z_ldI w .int r19 xL1 fun v20 =>
            if v20 ≤ (64 : Int32) then (
              some (.inl none, w))
            else (
              z_getR w 10 33 rL0 fun r21 =>
              z_getR w 10 32 rL0 fun r22 =>
              z_ldL w r22 ((65 : Int32) * xL1) fun v23 =>
              z_stL w r21 xL1 (v23 + (1 : Int64)) fun w =>
              z_this w 10 rL0 <|
              z_cV (f_AckBookModel_takeOut F X rL0 xL1 ((65 : Int32) * xL1) w) fun w =>
              some (.inl none, w)))
          else (
            z_getR w 10 30 rL0 fun r25 =>
            z_ldI w .int r25 xL1 fun v26 =>
            if v26 ≤ (64 : Int32) then (
              some (.inl none, w))
            else (
              z_getR w 10 33 rL0 fun r27 =>
              z_getR w 10 32 rL0 fun r28 =>
              z_ldL w r28 ((65 : Int32) * xL1) fun v29 =>
              z_stL w r27 xL1 (v29 + (1 : Int64)) fun w =>
              z_this w 10 rL0 <|
              z_cV (f_AckBookModel_takeOut F X rL0 xL1 ((65 : Int32) * xL1) w) fun w =>
              some (.inl none, w)))))
      else (
        z_getR w 10 31 rL0 fun r31 =>
        z_ldL w r31 (xL4 + (1 : Int32)) fun v32 =>
        if (lg_cmp v32 (yL2 + (1 : Int64))) = 0 then (
          z_getR w 10 32 rL0 fun r33 =>
          z_getR w 10 32 rL0 fun r34 =>
          z_ldL w r34 (xL4 + (1 : Int32)) fun v35 =>
          z_stL w r33 xL4 v35 fun w =>
          z_this w 10 rL0 <|
          z_cV (f_AckBookModel_takeOut F X rL0 xL1 (xL4 + (1 : Int32)) w) fun w =>
          if xL4 ≤ ((65 : Int32) * xL1) then (
            z_getR w 10 30 rL0 fun r37 =>
            z_ldI w .int r37 xL1 fun v38 =>
            if v38 ≤ (64 : Int32) then (
              some (.inl none, w))
            else (
              z_getR w 10 33 rL0 fun r39 =>
              z_getR w 10 32 rL0 fun r40 =>
              z_ldL w r40 ((65 : Int32) * xL1) fun v41 =>
              z_stL w r39 xL1 (v41 + (1 : Int64)) fun w =>
              z_this w 10 rL0 <|
              z_cV (f_AckBookModel_takeOut F X rL0 xL1 ((65 : Int32) * xL1) w) fun w =>
              some (.inl none, w)))
          else (
            z_getR w 10 32 rL0 fun r43 =>
            z_ldL w r43 (xL4 - (1 : Int32)) fun v44 =>
            if (lg_cmp v44 (yL2 - (1 : Int64))) = 0 then (
              z_getR w 10 32 rL0 fun r45 =>
              z_getR w 10 32 rL0 fun r46 =>
              z_ldL w r46 xL4 fun v47 =>
              z_stL w r45 (xL4 - (1 : Int32)) v47 fun w =>
              z_this w 10 rL0 <|
              z_cV (f_AckBookModel_takeOut F X rL0 xL1 xL4 w) fun w =>
              z_getR w 10 30 rL0 fun r49 =>
              z_ldI w .int r49 xL1 fun v50 =>
              if v50 ≤ (64 : Int32) then (
                some (.inl none, w))
              else (
                z_getR w 10 33 rL0 fun r51 =>
                z_getR w 10 32 rL0 fun r52 =>
                z_ldL w r52 ((65 : Int32) * xL1) fun v53 =>
                z_stL w r51 xL1 (v53 + (1 : Int64)) fun w =>
                z_this w 10 rL0 <|
                z_cV (f_AckBookModel_takeOut F X rL0 xL1 ((65 : Int32) * xL1) w) fun w =>
                some (.inl none, w)))
            else (
              z_getR w 10 30 rL0 fun r55 =>
              z_ldI w .int r55 xL1 fun v56 =>
              if v56 ≤ (64 : Int32) then (
                some (.inl none, w))
              else (
                z_getR w 10 33 rL0 fun r57 =>
                z_getR w 10 32 rL0 fun r58 =>
                z_ldL w r58 ((65 : Int32) * xL1) fun v59 =>
                z_stL w r57 xL1 (v59 + (1 : Int64)) fun w =>
                z_this w 10 rL0 <|
                z_cV (f_AckBookModel_takeOut F X rL0 xL1 ((65 : Int32) * xL1) w) fun w =>
                some (.inl none, w)))))
        else (
          if xL4 ≤ ((65 : Int32) * xL1) then (
            z_getR w 10 30 rL0 fun r61 =>
            z_ldI w .int r61 xL1 fun v62 =>
            if v62 ≤ (64 : Int32) then (
              some (.inl none, w))
            else (
              z_getR w 10 33 rL0 fun r63 =>
              z_getR w 10 32 rL0 fun r64 =>
              z_ldL w r64 ((65 : Int32) * xL1) fun v65 =>
              z_stL w r63 xL1 (v65 + (1 : Int64)) fun w =>
              z_this w 10 rL0 <|
              z_cV (f_AckBookModel_takeOut F X rL0 xL1 ((65 : Int32) * xL1) w) fun w =>
              some (.inl none, w)))
          else (
            z_getR w 10 32 rL0 fun r67 =>
            z_ldL w r67 (xL4 - (1 : Int32)) fun v68 =>
            if (lg_cmp v68 (yL2 - (1 : Int64))) = 0 then (
              z_getR w 10 32 rL0 fun r69 =>
              z_getR w 10 32 rL0 fun r70 =>
              z_ldL w r70 xL4 fun v71 =>
              z_stL w r69 (xL4 - (1 : Int32)) v71 fun w =>
              z_this w 10 rL0 <|
              z_cV (f_AckBookModel_takeOut F X rL0 xL1 xL4 w) fun w =>
              z_getR w 10 30 rL0 fun r73 =>
              z_ldI w .int r73 xL1 fun v74 =>
              if v74 ≤ (64 : Int32) then (
                some (.inl none, w))
              else (
                z_getR w 10 33 rL0 fun r75 =>
                z_getR w 10 32 rL0 fun r76 =>
                z_ldL w r76 ((65 : Int32) * xL1) fun v77 =>
                z_stL w r75 xL1 (v77 + (1 : Int64)) fun w =>
                z_this w 10 rL0 <|
                z_cV (f_AckBookModel_takeOut F X rL0 xL1 ((65 : Int32) * xL1) w) fun w =>
                some (.inl none, w)))
            else (
              z_getR w 10 30 rL0 fun r79 =>
              z_ldI w .int r79 xL1 fun v80 =>
              if v80 ≤ (64 : Int32) then (
                some (.inl none, w))
              else (
                z_getR w 10 33 rL0 fun r81 =>
                z_getR w 10 32 rL0 fun r82 =>
                z_ldL w r82 ((65 : Int32) * xL1) fun v83 =>
                z_stL w r81 xL1 (v83 + (1 : Int64)) fun w =>
                z_this w 10 rL0 <|
                z_cV (f_AckBookModel_takeOut F X rL0 xL1 ((65 : Int32) * xL1) w) fun w =>
                some (.inl none, w)))))))
    else (
      z_getR w 10 31 rL0 fun r85 =>
      z_ldL w r85 (xL4 - (1 : Int32)) fun v86 =>
      if (lg_cmp v86 yL2) ≤ 0 then (
        z_getR w 10 31 rL0 fun r87 =>
        z_stL w r87 xL4 yL2 fun w =>
        z_getR w 10 32 rL0 fun r88 =>
        z_stL w r88 xL4 yL2 fun w =>
        z_getR w 10 30 rL0 fun r89 =>
        z_ldI w .int r89 xL1 fun v90 =>
        z_stI w r89 xL1 (v90 + (1 : Int32)) fun w =>
        z_getR w 10 30 rL0 fun r91 =>
        z_ldI w .int r91 xL1 fun v92 =>
        if (((65 : Int32) * xL1) + v92) ≤ (xL4 + (1 : Int32)) then (
          if xL4 ≤ ((65 : Int32) * xL1) then (
            z_getR w 10 30 rL0 fun r93 =>
            z_ldI w .int r93 xL1 fun v94 =>
            if v94 ≤ (64 : Int32) then (
              some (.inl none, w))
            else (
              z_getR w 10 33 rL0 fun r95 =>
              z_getR w 10 32 rL0 fun r96 =>
              z_ldL w r96 ((65 : Int32) * xL1) fun v97 =>
              z_stL w r95 xL1 (v97 + (1 : Int64)) fun w =>
              z_this w 10 rL0 <|
              z_cV (f_AckBookModel_takeOut F X rL0 xL1 ((65 : Int32) * xL1) w) fun w =>
              some (.inl none, w)))
          else (
            z_getR w 10 32 rL0 fun r99 =>
            z_ldL w r99 (xL4 - (1 : Int32)) fun v100 =>
            if (lg_cmp v100 (yL2 - (1 : Int64))) = 0 then (
              z_getR w 10 32 rL0 fun r101 =>
              z_getR w 10 32 rL0 fun r102 =>
              z_ldL w r102 xL4 fun v103 =>
              z_stL w r101 (xL4 - (1 : Int32)) v103 fun w =>
              z_this w 10 rL0 <|
              z_cV (f_AckBookModel_takeOut F X rL0 xL1 xL4 w) fun w =>
              z_getR w 10 30 rL0 fun r105 =>
              z_ldI w .int r105 xL1 fun v106 =>
              if v106 ≤ (64 : Int32) then (
                some (.inl none, w))
              else (
                z_getR w 10 33 rL0 fun r107 =>
                z_getR w 10 32 rL0 fun r108 =>
                z_ldL w r108 ((65 : Int32) * xL1) fun v109 =>
                z_stL w r107 xL1 (v109 + (1 : Int64)) fun w =>
                z_this w 10 rL0 <|
                z_cV (f_AckBookModel_takeOut F X rL0 xL1 ((65 : Int32) * xL1) w) fun w =>
                some (.inl none, w)))
            else (
              z_getR w 10 30 rL0 fun r111 =>
              z_ldI w .int r111 xL1 fun v112 =>
              if v112 ≤ (64 : Int32) then (
                some (.inl none, w))
              else (
                z_getR w 10 33 rL0 fun r113 =>
                z_getR w 10 32 rL0 fun r114 =>
                z_ldL w r114 ((65 : Int32) * xL1) fun v115 =>
                z_stL w r113 xL1 (v115 + (1 : Int64)) fun w =>
                z_this w 10 rL0 <|
                z_cV (f_AckBookModel_takeOut F X rL0 xL1 ((65 : Int32) * xL1) w) fun w =>
                some (.inl none, w)))))
        else (
          z_getR w 10 31 rL0 fun r117 =>
          z_ldL w r117 (xL4 + (1 : Int32)) fun v118 =>
          if (lg_cmp v118 (yL2 + (1 : Int64))) = 0 then (
            z_getR w 10 32 rL0 fun r119 =>
            z_getR w 10 32 rL0 fun r120 =>
            z_ldL w r120 (xL4 + (1 : Int32)) fun v121 =>
            z_stL w r119 xL4 v121 fun w =>
            z_this w 10 rL0 <|
            z_cV (f_AckBookModel_takeOut F X rL0 xL1 (xL4 + (1 : Int32)) w) fun w =>
            if xL4 ≤ ((65 : Int32) * xL1) then (
              z_getR w 10 30 rL0 fun r123 =>
              z_ldI w .int r123 xL1 fun v124 =>
              if v124 ≤ (64 : Int32) then (
                some (.inl none, w))
              else (
                z_getR w 10 33 rL0 fun r125 =>
                z_getR w 10 32 rL0 fun r126 =>
                z_ldL w r126 ((65 : Int32) * xL1) fun v127 =>
                z_stL w r125 xL1 (v127 + (1 : Int64)) fun w =>
                z_this w 10 rL0 <|
                z_cV (f_AckBookModel_takeOut F X rL0 xL1 ((65 : Int32) * xL1) w) fun w =>
                some (.inl none, w)))
            else (
              z_getR w 10 32 rL0 fun r129 =>
              z_ldL w r129 (xL4 - (1 : Int32)) fun v130 =>
              if (lg_cmp v130 (yL2 - (1 : Int64))) = 0 then (
                z_getR w 10 32 rL0 fun r131 =>
                z_getR w 10 32 rL0 fun r132 =>
                z_ldL w r132 xL4 fun v133 =>
                z_stL w r131 (xL4 - (1 : Int32)) v133 fun w =>
                z_this w 10 rL0 <|
                z_cV (f_AckBookModel_takeOut F X rL0 xL1 xL4 w) fun w =>
                z_getR w 10 30 rL0 fun r135 =>
                z_ldI w .int r135 xL1 fun v136 =>
                if v136 ≤ (64 : Int32) then (
                  some (.inl none, w))
                else (
                  z_getR w 10 33 rL0 fun r137 =>
                  z_getR w 10 32 rL0 fun r138 =>
                  z_ldL w r138 ((65 : Int32) * xL1) fun v139 =>
                  z_stL w r137 xL1 (v139 + (1 : Int64)) fun w =>
                  z_this w 10 rL0 <|
                  z_cV (f_AckBookModel_takeOut F X rL0 xL1 ((65 : Int32) * xL1) w) fun w =>
                  some (.inl none, w)))
              else (
                z_getR w 10 30 rL0 fun r141 =>
                z_ldI w .int r141 xL1 fun v142 =>
                if v142 ≤ (64 : Int32) then (
                  some (.inl none, w))
                else (
                  z_getR w 10 33 rL0 fun r143 =>
                  z_getR w 10 32 rL0 fun r144 =>
                  z_ldL w r144 ((65 : Int32) * xL1) fun v145 =>
                  z_stL w r143 xL1 (v145 + (1 : Int64)) fun w =>
                  z_this w 10 rL0 <|
                  z_cV (f_AckBookModel_takeOut F X rL0 xL1 ((65 : Int32) * xL1) w) fun w =>
                  some (.inl none, w)))))
          else (
            if xL4 ≤ ((65 : Int32) * xL1) then (
              z_getR w 10 30 rL0 fun r147 =>
              z_ldI w .int r147 xL1 fun v148 =>
              if v148 ≤ (64 : Int32) then (
                some (.inl none, w))
              else (
                z_getR w 10 33 rL0 fun r149 =>
                z_getR w 10 32 rL0 fun r150 =>
                z_ldL w r150 ((65 : Int32) * xL1) fun v151 =>
                z_stL w r149 xL1 (v151 + (1 : Int64)) fun w =>
                z_this w 10 rL0 <|
                z_cV (f_AckBookModel_takeOut F X rL0 xL1 ((65 : Int32) * xL1) w) fun w =>
                some (.inl none, w)))
            else (
              z_getR w 10 32 rL0 fun r153 =>
              z_ldL w r153 (xL4 - (1 : Int32)) fun v154 =>
              if (lg_cmp v154 (yL2 - (1 : Int64))) = 0 then (
                z_getR w 10 32 rL0 fun r155 =>
                z_getR w 10 32 rL0 fun r156 =>
                z_ldL w r156 xL4 fun v157 =>
                z_stL w r155 (xL4 - (1 : Int32)) v157 fun w =>
                z_this w 10 rL0 <|
                z_cV (f_AckBookModel_takeOut F X rL0 xL1 xL4 w) fun w =>
                z_getR w 10 30 rL0 fun r159 =>
                z_ldI w .int r159 xL1 fun v160 =>
                if v160 ≤ (64 : Int32) then (
                  some (.inl none, w))
                else (
                  z_getR w 10 33 rL0 fun r161 =>
                  z_getR w 10 32 rL0 fun r162 =>
                  z_ldL w r162 ((65 : Int32) * xL1) fun v163 =>
                  z_stL w r161 xL1 (v163 + (1 : Int64)) fun w =>
                  z_this w 10 rL0 <|
                  z_cV (f_AckBookModel_takeOut F X rL0 xL1 ((65 : Int32) * xL1) w) fun w =>
                  some (.inl none, w)))
              else (
                z_getR w 10 30 rL0 fun r165 =>
                z_ldI w .int r165 xL1 fun v166 =>
                if v166 ≤ (64 : Int32) then (
                  some (.inl none, w))
                else (
                  z_getR w 10 33 rL0 fun r167 =>
                  z_getR w 10 32 rL0 fun r168 =>
                  z_ldL w r168 ((65 : Int32) * xL1) fun v169 =>
                  z_stL w r167 xL1 (v169 + (1 : Int64)) fun w =>
                  z_this w 10 rL0 <|
                  z_cV (f_AckBookModel_takeOut F X rL0 xL1 ((65 : Int32) * xL1) w) fun w =>
                  some (.inl none, w)))))))
      else (
        z_getR w 10 31 rL0 fun r171 =>
        z_getR w 10 31 rL0 fun r172 =>
        z_ldL w r172 (xL4 - (1 : Int32)) fun v173 =>
        z_stL w r171 xL4 v173 fun w =>
        z_getR w 10 32 rL0 fun r174 =>
        z_getR w 10 32 rL0 fun r175 =>
        z_ldL w r175 (xL4 - (1 : Int32)) fun v176 =>
        z_stL w r174 xL4 v176 fun w =>
        j_AckBookModel_comeIn F X N rL0 xL1 yL2 (xL4 + (-1 : Int32)) w))
def f_AckBookModel_comeIn (F X : Nat) (a0 : Option Nat) (pI1 : Int32) (pJ2 : Int64) (w : zW) : zR :=
  z_getR w 10 30 a0 fun r177 =>
  z_ldI w .int r177 pI1 fun v178 =>
  j_AckBookModel_comeIn F X F a0 pI1 pJ2 (((65 : Int32) * pI1) + v178) w
set_option maxHeartbeats 4000000 in
set_option maxRecDepth 100000 in
theorem kj_AckBookModel_comeIn {b0 : Nat} {H0 : Heap} {D : va_G} {vu vs : Value} {X : Nat} {l : Launch} (hT : z_TB (zGG b0 H0 D vu vs X)) (hfl : l.flags = pinnedFlags ++ [noTraceFlag]) (hE : vu.isRef = true ∧ vs.isRef = true) {p : Program} {e : Env} {R : Room} {s : State} {m : MethodId} {args : Array Value} {below : List Frame} {meth : Method} {c : Code} {w0 : zW} {F : Nat} (hC : z_C (zGG b0 H0 D vu vs X) p e s m meth c c_AckBookModel_comeIn 5 y_AckBookModel_comeIn.cls) (hr : meth.sig.returnType = (none)) (hRc : R.cells = w0.2.1) (hRs : R.slots = w0.2.2.1) (hFr : c.exceptionTable.toList = []) (hRt : R.frames = 1 ∧ R.locals = 23) (hnm : meth.name = y_AckBookModel_comeIn.name) : ∀ N : Nat, (∀ (rL0 : Option Nat) (xL1 : Int32) (yL2 : Int64) (xL4 : Int32) (w : zW) (res : zO × zW), j_AckBookModel_comeIn F X N rL0 xL1 yL2 xL4 w = some res → ∀ (H : Heap) (locs : List Loc) (cells slots : Nat) (ls : Array Slot), z_Z (zGG b0 H0 D vu vs X) R s w H locs cells slots → lv_has ls 5 [(0, va_rf rL0), (1, .int xL1), (2, .long yL2), (4, .int xL4)] → W p l e R s m args below meth c H locs cells slots (z_Q (zGG b0 H0 D vu vs X) below s w0 res) (F0 m 13 ls [])) := by
  intro N
  induction N with
  | zero =>
    intro rL0 xL1 yL2 xL4 w res h
    rw [j_AckBookModel_comeIn] at h
    cases h
  | succ N ih =>
    intro rL0 xL1 yL2 xL4 w res h H locs cells slots ls hZ hl
    rw [j_AckBookModel_comeIn] at h
    refine lv_iload hC.1 hC.2.1 d_AckBookModel_comeIn_13 (lv_at hl 3 rfl) ?_
    refine lv_bipush (v := (65 : Int32)) hC.1 hC.2.1 d_AckBookModel_comeIn_15 (by decide) ?_
    refine lv_iload_n hC.1 hC.2.1 d_AckBookModel_comeIn_17 rfl (lv_at hl 1 rfl) ?_
    refine lv_imul hC.1 hC.2.1 d_AckBookModel_comeIn_18 ?_
    refine lv_icmp_le (tgt := 74) hC.1 hC.2.1 d_AckBookModel_comeIn_19 (by decide) (fun hc => ?_) (fun hc => ?_)
    · have h := z_ifp hc h
      refine x_aload_n hC d_AckBookModel_comeIn_74 rfl (lv_at hl 0 rfl) ?_
      refine x_getR hC hZ zc10 h (by decide) t_850 (fun _ h9 => h9) d_AckBookModel_comeIn_75 (fun r1 h => ?_)
      refine lv_iload hC.1 hC.2.1 d_AckBookModel_comeIn_78 (lv_at hl 3 rfl) ?_
      refine lv_lload_n hC.1 hC.2.1 d_AckBookModel_comeIn_80 rfl (lv_at hl 2 rfl) ?_
      refine x_stL hC hZ h d_AckBookModel_comeIn_81 (fun w H locs hZ h => ?_)
      refine x_aload_n hC d_AckBookModel_comeIn_82 rfl (lv_at hl 0 rfl) ?_
      refine x_getR hC hZ zc10 h (by decide) t_851 (fun _ h9 => h9) d_AckBookModel_comeIn_83 (fun r2 h => ?_)
      refine lv_iload hC.1 hC.2.1 d_AckBookModel_comeIn_86 (lv_at hl 3 rfl) ?_
      refine lv_lload_n hC.1 hC.2.1 d_AckBookModel_comeIn_88 rfl (lv_at hl 2 rfl) ?_
      refine x_stL hC hZ h d_AckBookModel_comeIn_89 (fun w H locs hZ h => ?_)
      refine x_aload_n hC d_AckBookModel_comeIn_90 rfl (lv_at hl 0 rfl) ?_
      refine x_getR hC hZ zc10 h (by decide) t_849 (fun _ h9 => h9) d_AckBookModel_comeIn_91 (fun r3 h => ?_)
      refine lv_iload_n hC.1 hC.2.1 d_AckBookModel_comeIn_94 rfl (lv_at hl 1 rfl) ?_
      refine lv_dup2_11 hC.1 hC.2.1 d_AckBookModel_comeIn_95 rfl (z_rfc _) ?_
      refine x_ldI hC hZ h d_AckBookModel_comeIn_96 (fun v4 h => ?_)
      refine lv_iconst (v := (1 : Int32)) hC.1 hC.2.1 d_AckBookModel_comeIn_97 (by decide) ?_
      refine lv_iadd hC.1 hC.2.1 d_AckBookModel_comeIn_98 ?_
      refine x_stI hC hZ h d_AckBookModel_comeIn_99 (fun w H locs hZ h => ?_)
      refine lv_iload hC.1 hC.2.1 d_AckBookModel_comeIn_100 (lv_at hl 3 rfl) ?_
      refine lv_iconst (v := (1 : Int32)) hC.1 hC.2.1 d_AckBookModel_comeIn_102 (by decide) ?_
      refine lv_iadd hC.1 hC.2.1 d_AckBookModel_comeIn_103 ?_
      refine lv_bipush (v := (65 : Int32)) hC.1 hC.2.1 d_AckBookModel_comeIn_104 (by decide) ?_
      refine lv_iload_n hC.1 hC.2.1 d_AckBookModel_comeIn_106 rfl (lv_at hl 1 rfl) ?_
      refine lv_imul hC.1 hC.2.1 d_AckBookModel_comeIn_107 ?_
      refine x_aload_n hC d_AckBookModel_comeIn_108 rfl (lv_at hl 0 rfl) ?_
      refine x_getR hC hZ zc10 h (by decide) t_849 (fun _ h9 => h9) d_AckBookModel_comeIn_109 (fun r5 h => ?_)
      refine lv_iload_n hC.1 hC.2.1 d_AckBookModel_comeIn_112 rfl (lv_at hl 1 rfl) ?_
      refine x_ldI hC hZ h d_AckBookModel_comeIn_113 (fun v6 h => ?_)
      refine lv_iadd hC.1 hC.2.1 d_AckBookModel_comeIn_114 ?_
      refine lv_icmp_ge (tgt := 159) hC.1 hC.2.1 d_AckBookModel_comeIn_115 (by decide) (fun hc => ?_) (fun hc => ?_)
      · have h := z_ifp hc h
        refine lv_iload hC.1 hC.2.1 d_AckBookModel_comeIn_159 (lv_at hl 3 rfl) ?_
        refine lv_bipush (v := (65 : Int32)) hC.1 hC.2.1 d_AckBookModel_comeIn_161 (by decide) ?_
        refine lv_iload_n hC.1 hC.2.1 d_AckBookModel_comeIn_163 rfl (lv_at hl 1 rfl) ?_
        refine lv_imul hC.1 hC.2.1 d_AckBookModel_comeIn_164 ?_
        refine lv_icmp_le (tgt := 207) hC.1 hC.2.1 d_AckBookModel_comeIn_165 (by decide) (fun hc => ?_) (fun hc => ?_)
        · have h := z_ifp hc h
          refine x_aload_n hC d_AckBookModel_comeIn_207 rfl (lv_at hl 0 rfl) ?_
          refine x_getR hC hZ zc10 h (by decide) t_849 (fun _ h9 => h9) d_AckBookModel_comeIn_208 (fun r7 h => ?_)
          refine lv_iload_n hC.1 hC.2.1 d_AckBookModel_comeIn_211 rfl (lv_at hl 1 rfl) ?_
          refine x_ldI hC hZ h d_AckBookModel_comeIn_212 (fun v8 h => ?_)
          refine lv_bipush (v := (64 : Int32)) hC.1 hC.2.1 d_AckBookModel_comeIn_213 (by decide) ?_
          refine lv_icmp_le (tgt := 244) hC.1 hC.2.1 d_AckBookModel_comeIn_215 (by decide) (fun hc => ?_) (fun hc => ?_)
          · have h := z_ifp hc h
            exact x_vret hC hRc hRs hZ hr h d_AckBookModel_comeIn_244
          · have h := z_ifn hc h
            refine x_aload_n hC d_AckBookModel_comeIn_218 rfl (lv_at hl 0 rfl) ?_
            refine x_getR hC hZ zc10 h (by decide) t_852 (fun _ h9 => h9) d_AckBookModel_comeIn_219 (fun r9 h => ?_)
            refine lv_iload_n hC.1 hC.2.1 d_AckBookModel_comeIn_222 rfl (lv_at hl 1 rfl) ?_
            refine x_aload_n hC d_AckBookModel_comeIn_223 rfl (lv_at hl 0 rfl) ?_
            refine x_getR hC hZ zc10 h (by decide) t_851 (fun _ h9 => h9) d_AckBookModel_comeIn_224 (fun r10 h => ?_)
            refine lv_bipush (v := (65 : Int32)) hC.1 hC.2.1 d_AckBookModel_comeIn_227 (by decide) ?_
            refine lv_iload_n hC.1 hC.2.1 d_AckBookModel_comeIn_229 rfl (lv_at hl 1 rfl) ?_
            refine lv_imul hC.1 hC.2.1 d_AckBookModel_comeIn_230 ?_
            refine x_ldL hC hZ h d_AckBookModel_comeIn_231 (fun v11 h => ?_)
            refine lv_lconst (v := (1 : Int64)) hC.1 hC.2.1 d_AckBookModel_comeIn_232 (by decide) ?_
            refine lv_ladd hC.1 hC.2.1 d_AckBookModel_comeIn_233 ?_
            refine x_stL hC hZ h d_AckBookModel_comeIn_234 (fun w H locs hZ h => ?_)
            refine x_aload_n hC d_AckBookModel_comeIn_235 rfl (lv_at hl 0 rfl) ?_
            refine lv_iload_n hC.1 hC.2.1 d_AckBookModel_comeIn_236 rfl (lv_at hl 1 rfl) ?_
            refine lv_bipush (v := (65 : Int32)) hC.1 hC.2.1 d_AckBookModel_comeIn_237 (by decide) ?_
            refine lv_iload_n hC.1 hC.2.1 d_AckBookModel_comeIn_239 rfl (lv_at hl 1 rfl) ?_
            refine lv_imul hC.1 hC.2.1 d_AckBookModel_comeIn_240 ?_
            obtain ⟨a_, fs_, eo_, h⟩ := z_this_spec h
            obtain ⟨w1_, o1_, hF_, ha_⟩ := z_cV_spec h
            refine x_goes hC hRc hRs hFr ha_ (z_goV (As := [.int xL1, .int ((65 : Int32) * xL1)]) hC hZ zc10 eo_ (k_AckBookModel_takeOut hT hfl hE _ _ hF_) t_1066 t_1068 ts_AckBookModel_takeOut t_12 t_1069 ⟨by decide, by decide, (by decide +kernel : (parseMethodDescriptor y_AckBookModel_takeOut.desc).map (fun d => d.parameters.length) = some 2)⟩ (by rw [hRt.1]; decide) (by rw [hRt.2]; decide) hl.1 rfl (by first | exact Nat.le_of_ble_eq_true rfl | simp [z_rfc, z_ci, z_cj]) d_AckBookModel_comeIn_241) (fun v_ hv H locs cells slots hZ => ?_)
            obtain ⟨rfl, h⟩ := hv
            generalize w1_ = w at h hZ
            exact x_vret hC hRc hRs hZ hr h d_AckBookModel_comeIn_244
        · have h := z_ifn hc h
          refine x_aload_n hC d_AckBookModel_comeIn_168 rfl (lv_at hl 0 rfl) ?_
          refine x_getR hC hZ zc10 h (by decide) t_851 (fun _ h9 => h9) d_AckBookModel_comeIn_169 (fun r13 h => ?_)
          refine lv_iload hC.1 hC.2.1 d_AckBookModel_comeIn_172 (lv_at hl 3 rfl) ?_
          refine lv_iconst (v := (1 : Int32)) hC.1 hC.2.1 d_AckBookModel_comeIn_174 (by decide) ?_
          refine lv_isub hC.1 hC.2.1 d_AckBookModel_comeIn_175 ?_
          refine x_ldL hC hZ h d_AckBookModel_comeIn_176 (fun v14 h => ?_)
          refine lv_lload_n hC.1 hC.2.1 d_AckBookModel_comeIn_177 rfl (lv_at hl 2 rfl) ?_
          refine lv_lconst (v := (1 : Int64)) hC.1 hC.2.1 d_AckBookModel_comeIn_178 (by decide) ?_
          refine lv_lsub hC.1 hC.2.1 d_AckBookModel_comeIn_179 ?_
          refine W.lcmp hC.1 hC.2.1 d_AckBookModel_comeIn_180 ?_
          refine lv_if_ne (tgt := 207) hC.1 hC.2.1 d_AckBookModel_comeIn_181 (by decide) (fun hc => ?_) (fun hc => ?_)
          · have h := z_ifn hc h
            refine x_aload_n hC d_AckBookModel_comeIn_207 rfl (lv_at hl 0 rfl) ?_
            refine x_getR hC hZ zc10 h (by decide) t_849 (fun _ h9 => h9) d_AckBookModel_comeIn_208 (fun r25 h => ?_)
            refine lv_iload_n hC.1 hC.2.1 d_AckBookModel_comeIn_211 rfl (lv_at hl 1 rfl) ?_
            refine x_ldI hC hZ h d_AckBookModel_comeIn_212 (fun v26 h => ?_)
            refine lv_bipush (v := (64 : Int32)) hC.1 hC.2.1 d_AckBookModel_comeIn_213 (by decide) ?_
            refine lv_icmp_le (tgt := 244) hC.1 hC.2.1 d_AckBookModel_comeIn_215 (by decide) (fun hc => ?_) (fun hc => ?_)
            · have h := z_ifp hc h
              exact x_vret hC hRc hRs hZ hr h d_AckBookModel_comeIn_244
            · have h := z_ifn hc h
              refine x_aload_n hC d_AckBookModel_comeIn_218 rfl (lv_at hl 0 rfl) ?_
              refine x_getR hC hZ zc10 h (by decide) t_852 (fun _ h9 => h9) d_AckBookModel_comeIn_219 (fun r27 h => ?_)
              refine lv_iload_n hC.1 hC.2.1 d_AckBookModel_comeIn_222 rfl (lv_at hl 1 rfl) ?_
              refine x_aload_n hC d_AckBookModel_comeIn_223 rfl (lv_at hl 0 rfl) ?_
              refine x_getR hC hZ zc10 h (by decide) t_851 (fun _ h9 => h9) d_AckBookModel_comeIn_224 (fun r28 h => ?_)
              refine lv_bipush (v := (65 : Int32)) hC.1 hC.2.1 d_AckBookModel_comeIn_227 (by decide) ?_
              refine lv_iload_n hC.1 hC.2.1 d_AckBookModel_comeIn_229 rfl (lv_at hl 1 rfl) ?_
              refine lv_imul hC.1 hC.2.1 d_AckBookModel_comeIn_230 ?_
              refine x_ldL hC hZ h d_AckBookModel_comeIn_231 (fun v29 h => ?_)
              refine lv_lconst (v := (1 : Int64)) hC.1 hC.2.1 d_AckBookModel_comeIn_232 (by decide) ?_
              refine lv_ladd hC.1 hC.2.1 d_AckBookModel_comeIn_233 ?_
              refine x_stL hC hZ h d_AckBookModel_comeIn_234 (fun w H locs hZ h => ?_)
              refine x_aload_n hC d_AckBookModel_comeIn_235 rfl (lv_at hl 0 rfl) ?_
              refine lv_iload_n hC.1 hC.2.1 d_AckBookModel_comeIn_236 rfl (lv_at hl 1 rfl) ?_
              refine lv_bipush (v := (65 : Int32)) hC.1 hC.2.1 d_AckBookModel_comeIn_237 (by decide) ?_
              refine lv_iload_n hC.1 hC.2.1 d_AckBookModel_comeIn_239 rfl (lv_at hl 1 rfl) ?_
              refine lv_imul hC.1 hC.2.1 d_AckBookModel_comeIn_240 ?_
              obtain ⟨a_, fs_, eo_, h⟩ := z_this_spec h
              obtain ⟨w1_, o1_, hF_, ha_⟩ := z_cV_spec h
              refine x_goes hC hRc hRs hFr ha_ (z_goV (As := [.int xL1, .int ((65 : Int32) * xL1)]) hC hZ zc10 eo_ (k_AckBookModel_takeOut hT hfl hE _ _ hF_) t_1066 t_1068 ts_AckBookModel_takeOut t_12 t_1069 ⟨by decide, by decide, (by decide +kernel : (parseMethodDescriptor y_AckBookModel_takeOut.desc).map (fun d => d.parameters.length) = some 2)⟩ (by rw [hRt.1]; decide) (by rw [hRt.2]; decide) hl.1 rfl (by first | exact Nat.le_of_ble_eq_true rfl | simp [z_rfc, z_ci, z_cj]) d_AckBookModel_comeIn_241) (fun v_ hv H locs cells slots hZ => ?_)
              obtain ⟨rfl, h⟩ := hv
              generalize w1_ = w at h hZ
              exact x_vret hC hRc hRs hZ hr h d_AckBookModel_comeIn_244
          · have h := z_ifp hc h
            refine x_aload_n hC d_AckBookModel_comeIn_184 rfl (lv_at hl 0 rfl) ?_
            refine x_getR hC hZ zc10 h (by decide) t_851 (fun _ h9 => h9) d_AckBookModel_comeIn_185 (fun r15 h => ?_)
            refine lv_iload hC.1 hC.2.1 d_AckBookModel_comeIn_188 (lv_at hl 3 rfl) ?_
            refine lv_iconst (v := (1 : Int32)) hC.1 hC.2.1 d_AckBookModel_comeIn_190 (by decide) ?_
            refine lv_isub hC.1 hC.2.1 d_AckBookModel_comeIn_191 ?_
            refine x_aload_n hC d_AckBookModel_comeIn_192 rfl (lv_at hl 0 rfl) ?_
            refine x_getR hC hZ zc10 h (by decide) t_851 (fun _ h9 => h9) d_AckBookModel_comeIn_193 (fun r16 h => ?_)
            refine lv_iload hC.1 hC.2.1 d_AckBookModel_comeIn_196 (lv_at hl 3 rfl) ?_
            refine x_ldL hC hZ h d_AckBookModel_comeIn_198 (fun v17 h => ?_)
            refine x_stL hC hZ h d_AckBookModel_comeIn_199 (fun w H locs hZ h => ?_)
            refine x_aload_n hC d_AckBookModel_comeIn_200 rfl (lv_at hl 0 rfl) ?_
            refine lv_iload_n hC.1 hC.2.1 d_AckBookModel_comeIn_201 rfl (lv_at hl 1 rfl) ?_
            refine lv_iload hC.1 hC.2.1 d_AckBookModel_comeIn_202 (lv_at hl 3 rfl) ?_
            obtain ⟨a_, fs_, eo_, h⟩ := z_this_spec h
            obtain ⟨w1_, o1_, hF_, ha_⟩ := z_cV_spec h
            refine x_goes hC hRc hRs hFr ha_ (z_goV (As := [.int xL1, .int xL4]) hC hZ zc10 eo_ (k_AckBookModel_takeOut hT hfl hE _ _ hF_) t_1066 t_1068 ts_AckBookModel_takeOut t_12 t_1069 ⟨by decide, by decide, (by decide +kernel : (parseMethodDescriptor y_AckBookModel_takeOut.desc).map (fun d => d.parameters.length) = some 2)⟩ (by rw [hRt.1]; decide) (by rw [hRt.2]; decide) hl.1 rfl (by first | exact Nat.le_of_ble_eq_true rfl | simp [z_rfc, z_ci, z_cj]) d_AckBookModel_comeIn_204) (fun v_ hv H locs cells slots hZ => ?_)
            obtain ⟨rfl, h⟩ := hv
            generalize w1_ = w at h hZ
            refine x_aload_n hC d_AckBookModel_comeIn_207 rfl (lv_at hl 0 rfl) ?_
            refine x_getR hC hZ zc10 h (by decide) t_849 (fun _ h9 => h9) d_AckBookModel_comeIn_208 (fun r19 h => ?_)
            refine lv_iload_n hC.1 hC.2.1 d_AckBookModel_comeIn_211 rfl (lv_at hl 1 rfl) ?_
            refine x_ldI hC hZ h d_AckBookModel_comeIn_212 (fun v20 h => ?_)
            refine lv_bipush (v := (64 : Int32)) hC.1 hC.2.1 d_AckBookModel_comeIn_213 (by decide) ?_
            refine lv_icmp_le (tgt := 244) hC.1 hC.2.1 d_AckBookModel_comeIn_215 (by decide) (fun hc => ?_) (fun hc => ?_)
            · have h := z_ifp hc h
              exact x_vret hC hRc hRs hZ hr h d_AckBookModel_comeIn_244
            · have h := z_ifn hc h
              refine x_aload_n hC d_AckBookModel_comeIn_218 rfl (lv_at hl 0 rfl) ?_
              refine x_getR hC hZ zc10 h (by decide) t_852 (fun _ h9 => h9) d_AckBookModel_comeIn_219 (fun r21 h => ?_)
              refine lv_iload_n hC.1 hC.2.1 d_AckBookModel_comeIn_222 rfl (lv_at hl 1 rfl) ?_
              refine x_aload_n hC d_AckBookModel_comeIn_223 rfl (lv_at hl 0 rfl) ?_
              refine x_getR hC hZ zc10 h (by decide) t_851 (fun _ h9 => h9) d_AckBookModel_comeIn_224 (fun r22 h => ?_)
              refine lv_bipush (v := (65 : Int32)) hC.1 hC.2.1 d_AckBookModel_comeIn_227 (by decide) ?_
              refine lv_iload_n hC.1 hC.2.1 d_AckBookModel_comeIn_229 rfl (lv_at hl 1 rfl) ?_
              refine lv_imul hC.1 hC.2.1 d_AckBookModel_comeIn_230 ?_
              refine x_ldL hC hZ h d_AckBookModel_comeIn_231 (fun v23 h => ?_)
              refine lv_lconst (v := (1 : Int64)) hC.1 hC.2.1 d_AckBookModel_comeIn_232 (by decide) ?_
              refine lv_ladd hC.1 hC.2.1 d_AckBookModel_comeIn_233 ?_
              refine x_stL hC hZ h d_AckBookModel_comeIn_234 (fun w H locs hZ h => ?_)
              refine x_aload_n hC d_AckBookModel_comeIn_235 rfl (lv_at hl 0 rfl) ?_
              refine lv_iload_n hC.1 hC.2.1 d_AckBookModel_comeIn_236 rfl (lv_at hl 1 rfl) ?_
              refine lv_bipush (v := (65 : Int32)) hC.1 hC.2.1 d_AckBookModel_comeIn_237 (by decide) ?_
              refine lv_iload_n hC.1 hC.2.1 d_AckBookModel_comeIn_239 rfl (lv_at hl 1 rfl) ?_
              refine lv_imul hC.1 hC.2.1 d_AckBookModel_comeIn_240 ?_
              obtain ⟨a_, fs_, eo_, h⟩ := z_this_spec h
              obtain ⟨w1_, o1_, hF_, ha_⟩ := z_cV_spec h
              refine x_goes hC hRc hRs hFr ha_ (z_goV (As := [.int xL1, .int ((65 : Int32) * xL1)]) hC hZ zc10 eo_ (k_AckBookModel_takeOut hT hfl hE _ _ hF_) t_1066 t_1068 ts_AckBookModel_takeOut t_12 t_1069 ⟨by decide, by decide, (by decide +kernel : (parseMethodDescriptor y_AckBookModel_takeOut.desc).map (fun d => d.parameters.length) = some 2)⟩ (by rw [hRt.1]; decide) (by rw [hRt.2]; decide) hl.1 rfl (by first | exact Nat.le_of_ble_eq_true rfl | simp [z_rfc, z_ci, z_cj]) d_AckBookModel_comeIn_241) (fun v_ hv H locs cells slots hZ => ?_)
              obtain ⟨rfl, h⟩ := hv
              generalize w1_ = w at h hZ
              exact x_vret hC hRc hRs hZ hr h d_AckBookModel_comeIn_244
      · have h := z_ifn hc h
        refine x_aload_n hC d_AckBookModel_comeIn_118 rfl (lv_at hl 0 rfl) ?_
        refine x_getR hC hZ zc10 h (by decide) t_850 (fun _ h9 => h9) d_AckBookModel_comeIn_119 (fun r31 h => ?_)
        refine lv_iload hC.1 hC.2.1 d_AckBookModel_comeIn_122 (lv_at hl 3 rfl) ?_
        refine lv_iconst (v := (1 : Int32)) hC.1 hC.2.1 d_AckBookModel_comeIn_124 (by decide) ?_
        refine lv_iadd hC.1 hC.2.1 d_AckBookModel_comeIn_125 ?_
        refine x_ldL hC hZ h d_AckBookModel_comeIn_126 (fun v32 h => ?_)
        refine lv_lload_n hC.1 hC.2.1 d_AckBookModel_comeIn_127 rfl (lv_at hl 2 rfl) ?_
        refine lv_lconst (v := (1 : Int64)) hC.1 hC.2.1 d_AckBookModel_comeIn_128 (by decide) ?_
        refine lv_ladd hC.1 hC.2.1 d_AckBookModel_comeIn_129 ?_
        refine W.lcmp hC.1 hC.2.1 d_AckBookModel_comeIn_130 ?_
        refine lv_if_ne (tgt := 159) hC.1 hC.2.1 d_AckBookModel_comeIn_131 (by decide) (fun hc => ?_) (fun hc => ?_)
        · have h := z_ifn hc h
          refine lv_iload hC.1 hC.2.1 d_AckBookModel_comeIn_159 (lv_at hl 3 rfl) ?_
          refine lv_bipush (v := (65 : Int32)) hC.1 hC.2.1 d_AckBookModel_comeIn_161 (by decide) ?_
          refine lv_iload_n hC.1 hC.2.1 d_AckBookModel_comeIn_163 rfl (lv_at hl 1 rfl) ?_
          refine lv_imul hC.1 hC.2.1 d_AckBookModel_comeIn_164 ?_
          refine lv_icmp_le (tgt := 207) hC.1 hC.2.1 d_AckBookModel_comeIn_165 (by decide) (fun hc => ?_) (fun hc => ?_)
          · have h := z_ifp hc h
            refine x_aload_n hC d_AckBookModel_comeIn_207 rfl (lv_at hl 0 rfl) ?_
            refine x_getR hC hZ zc10 h (by decide) t_849 (fun _ h9 => h9) d_AckBookModel_comeIn_208 (fun r61 h => ?_)
            refine lv_iload_n hC.1 hC.2.1 d_AckBookModel_comeIn_211 rfl (lv_at hl 1 rfl) ?_
            refine x_ldI hC hZ h d_AckBookModel_comeIn_212 (fun v62 h => ?_)
            refine lv_bipush (v := (64 : Int32)) hC.1 hC.2.1 d_AckBookModel_comeIn_213 (by decide) ?_
            refine lv_icmp_le (tgt := 244) hC.1 hC.2.1 d_AckBookModel_comeIn_215 (by decide) (fun hc => ?_) (fun hc => ?_)
            · have h := z_ifp hc h
              exact x_vret hC hRc hRs hZ hr h d_AckBookModel_comeIn_244
            · have h := z_ifn hc h
              refine x_aload_n hC d_AckBookModel_comeIn_218 rfl (lv_at hl 0 rfl) ?_
              refine x_getR hC hZ zc10 h (by decide) t_852 (fun _ h9 => h9) d_AckBookModel_comeIn_219 (fun r63 h => ?_)
              refine lv_iload_n hC.1 hC.2.1 d_AckBookModel_comeIn_222 rfl (lv_at hl 1 rfl) ?_
              refine x_aload_n hC d_AckBookModel_comeIn_223 rfl (lv_at hl 0 rfl) ?_
              refine x_getR hC hZ zc10 h (by decide) t_851 (fun _ h9 => h9) d_AckBookModel_comeIn_224 (fun r64 h => ?_)
              refine lv_bipush (v := (65 : Int32)) hC.1 hC.2.1 d_AckBookModel_comeIn_227 (by decide) ?_
              refine lv_iload_n hC.1 hC.2.1 d_AckBookModel_comeIn_229 rfl (lv_at hl 1 rfl) ?_
              refine lv_imul hC.1 hC.2.1 d_AckBookModel_comeIn_230 ?_
              refine x_ldL hC hZ h d_AckBookModel_comeIn_231 (fun v65 h => ?_)
              refine lv_lconst (v := (1 : Int64)) hC.1 hC.2.1 d_AckBookModel_comeIn_232 (by decide) ?_
              refine lv_ladd hC.1 hC.2.1 d_AckBookModel_comeIn_233 ?_
              refine x_stL hC hZ h d_AckBookModel_comeIn_234 (fun w H locs hZ h => ?_)
              refine x_aload_n hC d_AckBookModel_comeIn_235 rfl (lv_at hl 0 rfl) ?_
              refine lv_iload_n hC.1 hC.2.1 d_AckBookModel_comeIn_236 rfl (lv_at hl 1 rfl) ?_
              refine lv_bipush (v := (65 : Int32)) hC.1 hC.2.1 d_AckBookModel_comeIn_237 (by decide) ?_
              refine lv_iload_n hC.1 hC.2.1 d_AckBookModel_comeIn_239 rfl (lv_at hl 1 rfl) ?_
              refine lv_imul hC.1 hC.2.1 d_AckBookModel_comeIn_240 ?_
              obtain ⟨a_, fs_, eo_, h⟩ := z_this_spec h
              obtain ⟨w1_, o1_, hF_, ha_⟩ := z_cV_spec h
              refine x_goes hC hRc hRs hFr ha_ (z_goV (As := [.int xL1, .int ((65 : Int32) * xL1)]) hC hZ zc10 eo_ (k_AckBookModel_takeOut hT hfl hE _ _ hF_) t_1066 t_1068 ts_AckBookModel_takeOut t_12 t_1069 ⟨by decide, by decide, (by decide +kernel : (parseMethodDescriptor y_AckBookModel_takeOut.desc).map (fun d => d.parameters.length) = some 2)⟩ (by rw [hRt.1]; decide) (by rw [hRt.2]; decide) hl.1 rfl (by first | exact Nat.le_of_ble_eq_true rfl | simp [z_rfc, z_ci, z_cj]) d_AckBookModel_comeIn_241) (fun v_ hv H locs cells slots hZ => ?_)
              obtain ⟨rfl, h⟩ := hv
              generalize w1_ = w at h hZ
              exact x_vret hC hRc hRs hZ hr h d_AckBookModel_comeIn_244
          · have h := z_ifn hc h
            refine x_aload_n hC d_AckBookModel_comeIn_168 rfl (lv_at hl 0 rfl) ?_
            refine x_getR hC hZ zc10 h (by decide) t_851 (fun _ h9 => h9) d_AckBookModel_comeIn_169 (fun r67 h => ?_)
            refine lv_iload hC.1 hC.2.1 d_AckBookModel_comeIn_172 (lv_at hl 3 rfl) ?_
            refine lv_iconst (v := (1 : Int32)) hC.1 hC.2.1 d_AckBookModel_comeIn_174 (by decide) ?_
            refine lv_isub hC.1 hC.2.1 d_AckBookModel_comeIn_175 ?_
            refine x_ldL hC hZ h d_AckBookModel_comeIn_176 (fun v68 h => ?_)
            refine lv_lload_n hC.1 hC.2.1 d_AckBookModel_comeIn_177 rfl (lv_at hl 2 rfl) ?_
            refine lv_lconst (v := (1 : Int64)) hC.1 hC.2.1 d_AckBookModel_comeIn_178 (by decide) ?_
            refine lv_lsub hC.1 hC.2.1 d_AckBookModel_comeIn_179 ?_
            refine W.lcmp hC.1 hC.2.1 d_AckBookModel_comeIn_180 ?_
            refine lv_if_ne (tgt := 207) hC.1 hC.2.1 d_AckBookModel_comeIn_181 (by decide) (fun hc => ?_) (fun hc => ?_)
            · have h := z_ifn hc h
              refine x_aload_n hC d_AckBookModel_comeIn_207 rfl (lv_at hl 0 rfl) ?_
              refine x_getR hC hZ zc10 h (by decide) t_849 (fun _ h9 => h9) d_AckBookModel_comeIn_208 (fun r79 h => ?_)
              refine lv_iload_n hC.1 hC.2.1 d_AckBookModel_comeIn_211 rfl (lv_at hl 1 rfl) ?_
              refine x_ldI hC hZ h d_AckBookModel_comeIn_212 (fun v80 h => ?_)
              refine lv_bipush (v := (64 : Int32)) hC.1 hC.2.1 d_AckBookModel_comeIn_213 (by decide) ?_
              refine lv_icmp_le (tgt := 244) hC.1 hC.2.1 d_AckBookModel_comeIn_215 (by decide) (fun hc => ?_) (fun hc => ?_)
              · have h := z_ifp hc h
                exact x_vret hC hRc hRs hZ hr h d_AckBookModel_comeIn_244
              · have h := z_ifn hc h
                refine x_aload_n hC d_AckBookModel_comeIn_218 rfl (lv_at hl 0 rfl) ?_
                refine x_getR hC hZ zc10 h (by decide) t_852 (fun _ h9 => h9) d_AckBookModel_comeIn_219 (fun r81 h => ?_)
                refine lv_iload_n hC.1 hC.2.1 d_AckBookModel_comeIn_222 rfl (lv_at hl 1 rfl) ?_
                refine x_aload_n hC d_AckBookModel_comeIn_223 rfl (lv_at hl 0 rfl) ?_
                refine x_getR hC hZ zc10 h (by decide) t_851 (fun _ h9 => h9) d_AckBookModel_comeIn_224 (fun r82 h => ?_)
                refine lv_bipush (v := (65 : Int32)) hC.1 hC.2.1 d_AckBookModel_comeIn_227 (by decide) ?_
                refine lv_iload_n hC.1 hC.2.1 d_AckBookModel_comeIn_229 rfl (lv_at hl 1 rfl) ?_
                refine lv_imul hC.1 hC.2.1 d_AckBookModel_comeIn_230 ?_
                refine x_ldL hC hZ h d_AckBookModel_comeIn_231 (fun v83 h => ?_)
                refine lv_lconst (v := (1 : Int64)) hC.1 hC.2.1 d_AckBookModel_comeIn_232 (by decide) ?_
                refine lv_ladd hC.1 hC.2.1 d_AckBookModel_comeIn_233 ?_
                refine x_stL hC hZ h d_AckBookModel_comeIn_234 (fun w H locs hZ h => ?_)
                refine x_aload_n hC d_AckBookModel_comeIn_235 rfl (lv_at hl 0 rfl) ?_
                refine lv_iload_n hC.1 hC.2.1 d_AckBookModel_comeIn_236 rfl (lv_at hl 1 rfl) ?_
                refine lv_bipush (v := (65 : Int32)) hC.1 hC.2.1 d_AckBookModel_comeIn_237 (by decide) ?_
                refine lv_iload_n hC.1 hC.2.1 d_AckBookModel_comeIn_239 rfl (lv_at hl 1 rfl) ?_
                refine lv_imul hC.1 hC.2.1 d_AckBookModel_comeIn_240 ?_
                obtain ⟨a_, fs_, eo_, h⟩ := z_this_spec h
                obtain ⟨w1_, o1_, hF_, ha_⟩ := z_cV_spec h
                refine x_goes hC hRc hRs hFr ha_ (z_goV (As := [.int xL1, .int ((65 : Int32) * xL1)]) hC hZ zc10 eo_ (k_AckBookModel_takeOut hT hfl hE _ _ hF_) t_1066 t_1068 ts_AckBookModel_takeOut t_12 t_1069 ⟨by decide, by decide, (by decide +kernel : (parseMethodDescriptor y_AckBookModel_takeOut.desc).map (fun d => d.parameters.length) = some 2)⟩ (by rw [hRt.1]; decide) (by rw [hRt.2]; decide) hl.1 rfl (by first | exact Nat.le_of_ble_eq_true rfl | simp [z_rfc, z_ci, z_cj]) d_AckBookModel_comeIn_241) (fun v_ hv H locs cells slots hZ => ?_)
                obtain ⟨rfl, h⟩ := hv
                generalize w1_ = w at h hZ
                exact x_vret hC hRc hRs hZ hr h d_AckBookModel_comeIn_244
            · have h := z_ifp hc h
              refine x_aload_n hC d_AckBookModel_comeIn_184 rfl (lv_at hl 0 rfl) ?_
              refine x_getR hC hZ zc10 h (by decide) t_851 (fun _ h9 => h9) d_AckBookModel_comeIn_185 (fun r69 h => ?_)
              refine lv_iload hC.1 hC.2.1 d_AckBookModel_comeIn_188 (lv_at hl 3 rfl) ?_
              refine lv_iconst (v := (1 : Int32)) hC.1 hC.2.1 d_AckBookModel_comeIn_190 (by decide) ?_
              refine lv_isub hC.1 hC.2.1 d_AckBookModel_comeIn_191 ?_
              refine x_aload_n hC d_AckBookModel_comeIn_192 rfl (lv_at hl 0 rfl) ?_
              refine x_getR hC hZ zc10 h (by decide) t_851 (fun _ h9 => h9) d_AckBookModel_comeIn_193 (fun r70 h => ?_)
              refine lv_iload hC.1 hC.2.1 d_AckBookModel_comeIn_196 (lv_at hl 3 rfl) ?_
              refine x_ldL hC hZ h d_AckBookModel_comeIn_198 (fun v71 h => ?_)
              refine x_stL hC hZ h d_AckBookModel_comeIn_199 (fun w H locs hZ h => ?_)
              refine x_aload_n hC d_AckBookModel_comeIn_200 rfl (lv_at hl 0 rfl) ?_
              refine lv_iload_n hC.1 hC.2.1 d_AckBookModel_comeIn_201 rfl (lv_at hl 1 rfl) ?_
              refine lv_iload hC.1 hC.2.1 d_AckBookModel_comeIn_202 (lv_at hl 3 rfl) ?_
              obtain ⟨a_, fs_, eo_, h⟩ := z_this_spec h
              obtain ⟨w1_, o1_, hF_, ha_⟩ := z_cV_spec h
              refine x_goes hC hRc hRs hFr ha_ (z_goV (As := [.int xL1, .int xL4]) hC hZ zc10 eo_ (k_AckBookModel_takeOut hT hfl hE _ _ hF_) t_1066 t_1068 ts_AckBookModel_takeOut t_12 t_1069 ⟨by decide, by decide, (by decide +kernel : (parseMethodDescriptor y_AckBookModel_takeOut.desc).map (fun d => d.parameters.length) = some 2)⟩ (by rw [hRt.1]; decide) (by rw [hRt.2]; decide) hl.1 rfl (by first | exact Nat.le_of_ble_eq_true rfl | simp [z_rfc, z_ci, z_cj]) d_AckBookModel_comeIn_204) (fun v_ hv H locs cells slots hZ => ?_)
              obtain ⟨rfl, h⟩ := hv
              generalize w1_ = w at h hZ
              refine x_aload_n hC d_AckBookModel_comeIn_207 rfl (lv_at hl 0 rfl) ?_
              refine x_getR hC hZ zc10 h (by decide) t_849 (fun _ h9 => h9) d_AckBookModel_comeIn_208 (fun r73 h => ?_)
              refine lv_iload_n hC.1 hC.2.1 d_AckBookModel_comeIn_211 rfl (lv_at hl 1 rfl) ?_
              refine x_ldI hC hZ h d_AckBookModel_comeIn_212 (fun v74 h => ?_)
              refine lv_bipush (v := (64 : Int32)) hC.1 hC.2.1 d_AckBookModel_comeIn_213 (by decide) ?_
              refine lv_icmp_le (tgt := 244) hC.1 hC.2.1 d_AckBookModel_comeIn_215 (by decide) (fun hc => ?_) (fun hc => ?_)
              · have h := z_ifp hc h
                exact x_vret hC hRc hRs hZ hr h d_AckBookModel_comeIn_244
              · have h := z_ifn hc h
                refine x_aload_n hC d_AckBookModel_comeIn_218 rfl (lv_at hl 0 rfl) ?_
                refine x_getR hC hZ zc10 h (by decide) t_852 (fun _ h9 => h9) d_AckBookModel_comeIn_219 (fun r75 h => ?_)
                refine lv_iload_n hC.1 hC.2.1 d_AckBookModel_comeIn_222 rfl (lv_at hl 1 rfl) ?_
                refine x_aload_n hC d_AckBookModel_comeIn_223 rfl (lv_at hl 0 rfl) ?_
                refine x_getR hC hZ zc10 h (by decide) t_851 (fun _ h9 => h9) d_AckBookModel_comeIn_224 (fun r76 h => ?_)
                refine lv_bipush (v := (65 : Int32)) hC.1 hC.2.1 d_AckBookModel_comeIn_227 (by decide) ?_
                refine lv_iload_n hC.1 hC.2.1 d_AckBookModel_comeIn_229 rfl (lv_at hl 1 rfl) ?_
                refine lv_imul hC.1 hC.2.1 d_AckBookModel_comeIn_230 ?_
                refine x_ldL hC hZ h d_AckBookModel_comeIn_231 (fun v77 h => ?_)
                refine lv_lconst (v := (1 : Int64)) hC.1 hC.2.1 d_AckBookModel_comeIn_232 (by decide) ?_
                refine lv_ladd hC.1 hC.2.1 d_AckBookModel_comeIn_233 ?_
                refine x_stL hC hZ h d_AckBookModel_comeIn_234 (fun w H locs hZ h => ?_)
                refine x_aload_n hC d_AckBookModel_comeIn_235 rfl (lv_at hl 0 rfl) ?_
                refine lv_iload_n hC.1 hC.2.1 d_AckBookModel_comeIn_236 rfl (lv_at hl 1 rfl) ?_
                refine lv_bipush (v := (65 : Int32)) hC.1 hC.2.1 d_AckBookModel_comeIn_237 (by decide) ?_
                refine lv_iload_n hC.1 hC.2.1 d_AckBookModel_comeIn_239 rfl (lv_at hl 1 rfl) ?_
                refine lv_imul hC.1 hC.2.1 d_AckBookModel_comeIn_240 ?_
                obtain ⟨a_, fs_, eo_, h⟩ := z_this_spec h
                obtain ⟨w1_, o1_, hF_, ha_⟩ := z_cV_spec h
                refine x_goes hC hRc hRs hFr ha_ (z_goV (As := [.int xL1, .int ((65 : Int32) * xL1)]) hC hZ zc10 eo_ (k_AckBookModel_takeOut hT hfl hE _ _ hF_) t_1066 t_1068 ts_AckBookModel_takeOut t_12 t_1069 ⟨by decide, by decide, (by decide +kernel : (parseMethodDescriptor y_AckBookModel_takeOut.desc).map (fun d => d.parameters.length) = some 2)⟩ (by rw [hRt.1]; decide) (by rw [hRt.2]; decide) hl.1 rfl (by first | exact Nat.le_of_ble_eq_true rfl | simp [z_rfc, z_ci, z_cj]) d_AckBookModel_comeIn_241) (fun v_ hv H locs cells slots hZ => ?_)
                obtain ⟨rfl, h⟩ := hv
                generalize w1_ = w at h hZ
                exact x_vret hC hRc hRs hZ hr h d_AckBookModel_comeIn_244
        · have h := z_ifp hc h
          refine x_aload_n hC d_AckBookModel_comeIn_134 rfl (lv_at hl 0 rfl) ?_
          refine x_getR hC hZ zc10 h (by decide) t_851 (fun _ h9 => h9) d_AckBookModel_comeIn_135 (fun r33 h => ?_)
          refine lv_iload hC.1 hC.2.1 d_AckBookModel_comeIn_138 (lv_at hl 3 rfl) ?_
          refine x_aload_n hC d_AckBookModel_comeIn_140 rfl (lv_at hl 0 rfl) ?_
          refine x_getR hC hZ zc10 h (by decide) t_851 (fun _ h9 => h9) d_AckBookModel_comeIn_141 (fun r34 h => ?_)
          refine lv_iload hC.1 hC.2.1 d_AckBookModel_comeIn_144 (lv_at hl 3 rfl) ?_
          refine lv_iconst (v := (1 : Int32)) hC.1 hC.2.1 d_AckBookModel_comeIn_146 (by decide) ?_
          refine lv_iadd hC.1 hC.2.1 d_AckBookModel_comeIn_147 ?_
          refine x_ldL hC hZ h d_AckBookModel_comeIn_148 (fun v35 h => ?_)
          refine x_stL hC hZ h d_AckBookModel_comeIn_149 (fun w H locs hZ h => ?_)
          refine x_aload_n hC d_AckBookModel_comeIn_150 rfl (lv_at hl 0 rfl) ?_
          refine lv_iload_n hC.1 hC.2.1 d_AckBookModel_comeIn_151 rfl (lv_at hl 1 rfl) ?_
          refine lv_iload hC.1 hC.2.1 d_AckBookModel_comeIn_152 (lv_at hl 3 rfl) ?_
          refine lv_iconst (v := (1 : Int32)) hC.1 hC.2.1 d_AckBookModel_comeIn_154 (by decide) ?_
          refine lv_iadd hC.1 hC.2.1 d_AckBookModel_comeIn_155 ?_
          obtain ⟨a_, fs_, eo_, h⟩ := z_this_spec h
          obtain ⟨w1_, o1_, hF_, ha_⟩ := z_cV_spec h
          refine x_goes hC hRc hRs hFr ha_ (z_goV (As := [.int xL1, .int (xL4 + (1 : Int32))]) hC hZ zc10 eo_ (k_AckBookModel_takeOut hT hfl hE _ _ hF_) t_1066 t_1068 ts_AckBookModel_takeOut t_12 t_1069 ⟨by decide, by decide, (by decide +kernel : (parseMethodDescriptor y_AckBookModel_takeOut.desc).map (fun d => d.parameters.length) = some 2)⟩ (by rw [hRt.1]; decide) (by rw [hRt.2]; decide) hl.1 rfl (by first | exact Nat.le_of_ble_eq_true rfl | simp [z_rfc, z_ci, z_cj]) d_AckBookModel_comeIn_156) (fun v_ hv H locs cells slots hZ => ?_)
          obtain ⟨rfl, h⟩ := hv
          generalize w1_ = w at h hZ
          refine lv_iload hC.1 hC.2.1 d_AckBookModel_comeIn_159 (lv_at hl 3 rfl) ?_
          refine lv_bipush (v := (65 : Int32)) hC.1 hC.2.1 d_AckBookModel_comeIn_161 (by decide) ?_
          refine lv_iload_n hC.1 hC.2.1 d_AckBookModel_comeIn_163 rfl (lv_at hl 1 rfl) ?_
          refine lv_imul hC.1 hC.2.1 d_AckBookModel_comeIn_164 ?_
          refine lv_icmp_le (tgt := 207) hC.1 hC.2.1 d_AckBookModel_comeIn_165 (by decide) (fun hc => ?_) (fun hc => ?_)
          · have h := z_ifp hc h
            refine x_aload_n hC d_AckBookModel_comeIn_207 rfl (lv_at hl 0 rfl) ?_
            refine x_getR hC hZ zc10 h (by decide) t_849 (fun _ h9 => h9) d_AckBookModel_comeIn_208 (fun r37 h => ?_)
            refine lv_iload_n hC.1 hC.2.1 d_AckBookModel_comeIn_211 rfl (lv_at hl 1 rfl) ?_
            refine x_ldI hC hZ h d_AckBookModel_comeIn_212 (fun v38 h => ?_)
            refine lv_bipush (v := (64 : Int32)) hC.1 hC.2.1 d_AckBookModel_comeIn_213 (by decide) ?_
            refine lv_icmp_le (tgt := 244) hC.1 hC.2.1 d_AckBookModel_comeIn_215 (by decide) (fun hc => ?_) (fun hc => ?_)
            · have h := z_ifp hc h
              exact x_vret hC hRc hRs hZ hr h d_AckBookModel_comeIn_244
            · have h := z_ifn hc h
              refine x_aload_n hC d_AckBookModel_comeIn_218 rfl (lv_at hl 0 rfl) ?_
              refine x_getR hC hZ zc10 h (by decide) t_852 (fun _ h9 => h9) d_AckBookModel_comeIn_219 (fun r39 h => ?_)
              refine lv_iload_n hC.1 hC.2.1 d_AckBookModel_comeIn_222 rfl (lv_at hl 1 rfl) ?_
              refine x_aload_n hC d_AckBookModel_comeIn_223 rfl (lv_at hl 0 rfl) ?_
              refine x_getR hC hZ zc10 h (by decide) t_851 (fun _ h9 => h9) d_AckBookModel_comeIn_224 (fun r40 h => ?_)
              refine lv_bipush (v := (65 : Int32)) hC.1 hC.2.1 d_AckBookModel_comeIn_227 (by decide) ?_
              refine lv_iload_n hC.1 hC.2.1 d_AckBookModel_comeIn_229 rfl (lv_at hl 1 rfl) ?_
              refine lv_imul hC.1 hC.2.1 d_AckBookModel_comeIn_230 ?_
              refine x_ldL hC hZ h d_AckBookModel_comeIn_231 (fun v41 h => ?_)
              refine lv_lconst (v := (1 : Int64)) hC.1 hC.2.1 d_AckBookModel_comeIn_232 (by decide) ?_
              refine lv_ladd hC.1 hC.2.1 d_AckBookModel_comeIn_233 ?_
              refine x_stL hC hZ h d_AckBookModel_comeIn_234 (fun w H locs hZ h => ?_)
              refine x_aload_n hC d_AckBookModel_comeIn_235 rfl (lv_at hl 0 rfl) ?_
              refine lv_iload_n hC.1 hC.2.1 d_AckBookModel_comeIn_236 rfl (lv_at hl 1 rfl) ?_
              refine lv_bipush (v := (65 : Int32)) hC.1 hC.2.1 d_AckBookModel_comeIn_237 (by decide) ?_
              refine lv_iload_n hC.1 hC.2.1 d_AckBookModel_comeIn_239 rfl (lv_at hl 1 rfl) ?_
              refine lv_imul hC.1 hC.2.1 d_AckBookModel_comeIn_240 ?_
              obtain ⟨a_, fs_, eo_, h⟩ := z_this_spec h
              obtain ⟨w1_, o1_, hF_, ha_⟩ := z_cV_spec h
              refine x_goes hC hRc hRs hFr ha_ (z_goV (As := [.int xL1, .int ((65 : Int32) * xL1)]) hC hZ zc10 eo_ (k_AckBookModel_takeOut hT hfl hE _ _ hF_) t_1066 t_1068 ts_AckBookModel_takeOut t_12 t_1069 ⟨by decide, by decide, (by decide +kernel : (parseMethodDescriptor y_AckBookModel_takeOut.desc).map (fun d => d.parameters.length) = some 2)⟩ (by rw [hRt.1]; decide) (by rw [hRt.2]; decide) hl.1 rfl (by first | exact Nat.le_of_ble_eq_true rfl | simp [z_rfc, z_ci, z_cj]) d_AckBookModel_comeIn_241) (fun v_ hv H locs cells slots hZ => ?_)
              obtain ⟨rfl, h⟩ := hv
              generalize w1_ = w at h hZ
              exact x_vret hC hRc hRs hZ hr h d_AckBookModel_comeIn_244
          · have h := z_ifn hc h
            refine x_aload_n hC d_AckBookModel_comeIn_168 rfl (lv_at hl 0 rfl) ?_
            refine x_getR hC hZ zc10 h (by decide) t_851 (fun _ h9 => h9) d_AckBookModel_comeIn_169 (fun r43 h => ?_)
            refine lv_iload hC.1 hC.2.1 d_AckBookModel_comeIn_172 (lv_at hl 3 rfl) ?_
            refine lv_iconst (v := (1 : Int32)) hC.1 hC.2.1 d_AckBookModel_comeIn_174 (by decide) ?_
            refine lv_isub hC.1 hC.2.1 d_AckBookModel_comeIn_175 ?_
            refine x_ldL hC hZ h d_AckBookModel_comeIn_176 (fun v44 h => ?_)
            refine lv_lload_n hC.1 hC.2.1 d_AckBookModel_comeIn_177 rfl (lv_at hl 2 rfl) ?_
            refine lv_lconst (v := (1 : Int64)) hC.1 hC.2.1 d_AckBookModel_comeIn_178 (by decide) ?_
            refine lv_lsub hC.1 hC.2.1 d_AckBookModel_comeIn_179 ?_
            refine W.lcmp hC.1 hC.2.1 d_AckBookModel_comeIn_180 ?_
            refine lv_if_ne (tgt := 207) hC.1 hC.2.1 d_AckBookModel_comeIn_181 (by decide) (fun hc => ?_) (fun hc => ?_)
            · have h := z_ifn hc h
              refine x_aload_n hC d_AckBookModel_comeIn_207 rfl (lv_at hl 0 rfl) ?_
              refine x_getR hC hZ zc10 h (by decide) t_849 (fun _ h9 => h9) d_AckBookModel_comeIn_208 (fun r55 h => ?_)
              refine lv_iload_n hC.1 hC.2.1 d_AckBookModel_comeIn_211 rfl (lv_at hl 1 rfl) ?_
              refine x_ldI hC hZ h d_AckBookModel_comeIn_212 (fun v56 h => ?_)
              refine lv_bipush (v := (64 : Int32)) hC.1 hC.2.1 d_AckBookModel_comeIn_213 (by decide) ?_
              refine lv_icmp_le (tgt := 244) hC.1 hC.2.1 d_AckBookModel_comeIn_215 (by decide) (fun hc => ?_) (fun hc => ?_)
              · have h := z_ifp hc h
                exact x_vret hC hRc hRs hZ hr h d_AckBookModel_comeIn_244
              · have h := z_ifn hc h
                refine x_aload_n hC d_AckBookModel_comeIn_218 rfl (lv_at hl 0 rfl) ?_
                refine x_getR hC hZ zc10 h (by decide) t_852 (fun _ h9 => h9) d_AckBookModel_comeIn_219 (fun r57 h => ?_)
                refine lv_iload_n hC.1 hC.2.1 d_AckBookModel_comeIn_222 rfl (lv_at hl 1 rfl) ?_
                refine x_aload_n hC d_AckBookModel_comeIn_223 rfl (lv_at hl 0 rfl) ?_
                refine x_getR hC hZ zc10 h (by decide) t_851 (fun _ h9 => h9) d_AckBookModel_comeIn_224 (fun r58 h => ?_)
                refine lv_bipush (v := (65 : Int32)) hC.1 hC.2.1 d_AckBookModel_comeIn_227 (by decide) ?_
                refine lv_iload_n hC.1 hC.2.1 d_AckBookModel_comeIn_229 rfl (lv_at hl 1 rfl) ?_
                refine lv_imul hC.1 hC.2.1 d_AckBookModel_comeIn_230 ?_
                refine x_ldL hC hZ h d_AckBookModel_comeIn_231 (fun v59 h => ?_)
                refine lv_lconst (v := (1 : Int64)) hC.1 hC.2.1 d_AckBookModel_comeIn_232 (by decide) ?_
                refine lv_ladd hC.1 hC.2.1 d_AckBookModel_comeIn_233 ?_
                refine x_stL hC hZ h d_AckBookModel_comeIn_234 (fun w H locs hZ h => ?_)
                refine x_aload_n hC d_AckBookModel_comeIn_235 rfl (lv_at hl 0 rfl) ?_
                refine lv_iload_n hC.1 hC.2.1 d_AckBookModel_comeIn_236 rfl (lv_at hl 1 rfl) ?_
                refine lv_bipush (v := (65 : Int32)) hC.1 hC.2.1 d_AckBookModel_comeIn_237 (by decide) ?_
                refine lv_iload_n hC.1 hC.2.1 d_AckBookModel_comeIn_239 rfl (lv_at hl 1 rfl) ?_
                refine lv_imul hC.1 hC.2.1 d_AckBookModel_comeIn_240 ?_
                obtain ⟨a_, fs_, eo_, h⟩ := z_this_spec h
                obtain ⟨w1_, o1_, hF_, ha_⟩ := z_cV_spec h
                refine x_goes hC hRc hRs hFr ha_ (z_goV (As := [.int xL1, .int ((65 : Int32) * xL1)]) hC hZ zc10 eo_ (k_AckBookModel_takeOut hT hfl hE _ _ hF_) t_1066 t_1068 ts_AckBookModel_takeOut t_12 t_1069 ⟨by decide, by decide, (by decide +kernel : (parseMethodDescriptor y_AckBookModel_takeOut.desc).map (fun d => d.parameters.length) = some 2)⟩ (by rw [hRt.1]; decide) (by rw [hRt.2]; decide) hl.1 rfl (by first | exact Nat.le_of_ble_eq_true rfl | simp [z_rfc, z_ci, z_cj]) d_AckBookModel_comeIn_241) (fun v_ hv H locs cells slots hZ => ?_)
                obtain ⟨rfl, h⟩ := hv
                generalize w1_ = w at h hZ
                exact x_vret hC hRc hRs hZ hr h d_AckBookModel_comeIn_244
            · have h := z_ifp hc h
              refine x_aload_n hC d_AckBookModel_comeIn_184 rfl (lv_at hl 0 rfl) ?_
              refine x_getR hC hZ zc10 h (by decide) t_851 (fun _ h9 => h9) d_AckBookModel_comeIn_185 (fun r45 h => ?_)
              refine lv_iload hC.1 hC.2.1 d_AckBookModel_comeIn_188 (lv_at hl 3 rfl) ?_
              refine lv_iconst (v := (1 : Int32)) hC.1 hC.2.1 d_AckBookModel_comeIn_190 (by decide) ?_
              refine lv_isub hC.1 hC.2.1 d_AckBookModel_comeIn_191 ?_
              refine x_aload_n hC d_AckBookModel_comeIn_192 rfl (lv_at hl 0 rfl) ?_
              refine x_getR hC hZ zc10 h (by decide) t_851 (fun _ h9 => h9) d_AckBookModel_comeIn_193 (fun r46 h => ?_)
              refine lv_iload hC.1 hC.2.1 d_AckBookModel_comeIn_196 (lv_at hl 3 rfl) ?_
              refine x_ldL hC hZ h d_AckBookModel_comeIn_198 (fun v47 h => ?_)
              refine x_stL hC hZ h d_AckBookModel_comeIn_199 (fun w H locs hZ h => ?_)
              refine x_aload_n hC d_AckBookModel_comeIn_200 rfl (lv_at hl 0 rfl) ?_
              refine lv_iload_n hC.1 hC.2.1 d_AckBookModel_comeIn_201 rfl (lv_at hl 1 rfl) ?_
              refine lv_iload hC.1 hC.2.1 d_AckBookModel_comeIn_202 (lv_at hl 3 rfl) ?_
              obtain ⟨a_, fs_, eo_, h⟩ := z_this_spec h
              obtain ⟨w1_, o1_, hF_, ha_⟩ := z_cV_spec h
              refine x_goes hC hRc hRs hFr ha_ (z_goV (As := [.int xL1, .int xL4]) hC hZ zc10 eo_ (k_AckBookModel_takeOut hT hfl hE _ _ hF_) t_1066 t_1068 ts_AckBookModel_takeOut t_12 t_1069 ⟨by decide, by decide, (by decide +kernel : (parseMethodDescriptor y_AckBookModel_takeOut.desc).map (fun d => d.parameters.length) = some 2)⟩ (by rw [hRt.1]; decide) (by rw [hRt.2]; decide) hl.1 rfl (by first | exact Nat.le_of_ble_eq_true rfl | simp [z_rfc, z_ci, z_cj]) d_AckBookModel_comeIn_204) (fun v_ hv H locs cells slots hZ => ?_)
              obtain ⟨rfl, h⟩ := hv
              generalize w1_ = w at h hZ
              refine x_aload_n hC d_AckBookModel_comeIn_207 rfl (lv_at hl 0 rfl) ?_
              refine x_getR hC hZ zc10 h (by decide) t_849 (fun _ h9 => h9) d_AckBookModel_comeIn_208 (fun r49 h => ?_)
              refine lv_iload_n hC.1 hC.2.1 d_AckBookModel_comeIn_211 rfl (lv_at hl 1 rfl) ?_
              refine x_ldI hC hZ h d_AckBookModel_comeIn_212 (fun v50 h => ?_)
              refine lv_bipush (v := (64 : Int32)) hC.1 hC.2.1 d_AckBookModel_comeIn_213 (by decide) ?_
              refine lv_icmp_le (tgt := 244) hC.1 hC.2.1 d_AckBookModel_comeIn_215 (by decide) (fun hc => ?_) (fun hc => ?_)
              · have h := z_ifp hc h
                exact x_vret hC hRc hRs hZ hr h d_AckBookModel_comeIn_244
              · have h := z_ifn hc h
                refine x_aload_n hC d_AckBookModel_comeIn_218 rfl (lv_at hl 0 rfl) ?_
                refine x_getR hC hZ zc10 h (by decide) t_852 (fun _ h9 => h9) d_AckBookModel_comeIn_219 (fun r51 h => ?_)
                refine lv_iload_n hC.1 hC.2.1 d_AckBookModel_comeIn_222 rfl (lv_at hl 1 rfl) ?_
                refine x_aload_n hC d_AckBookModel_comeIn_223 rfl (lv_at hl 0 rfl) ?_
                refine x_getR hC hZ zc10 h (by decide) t_851 (fun _ h9 => h9) d_AckBookModel_comeIn_224 (fun r52 h => ?_)
                refine lv_bipush (v := (65 : Int32)) hC.1 hC.2.1 d_AckBookModel_comeIn_227 (by decide) ?_
                refine lv_iload_n hC.1 hC.2.1 d_AckBookModel_comeIn_229 rfl (lv_at hl 1 rfl) ?_
                refine lv_imul hC.1 hC.2.1 d_AckBookModel_comeIn_230 ?_
                refine x_ldL hC hZ h d_AckBookModel_comeIn_231 (fun v53 h => ?_)
                refine lv_lconst (v := (1 : Int64)) hC.1 hC.2.1 d_AckBookModel_comeIn_232 (by decide) ?_
                refine lv_ladd hC.1 hC.2.1 d_AckBookModel_comeIn_233 ?_
                refine x_stL hC hZ h d_AckBookModel_comeIn_234 (fun w H locs hZ h => ?_)
                refine x_aload_n hC d_AckBookModel_comeIn_235 rfl (lv_at hl 0 rfl) ?_
                refine lv_iload_n hC.1 hC.2.1 d_AckBookModel_comeIn_236 rfl (lv_at hl 1 rfl) ?_
                refine lv_bipush (v := (65 : Int32)) hC.1 hC.2.1 d_AckBookModel_comeIn_237 (by decide) ?_
                refine lv_iload_n hC.1 hC.2.1 d_AckBookModel_comeIn_239 rfl (lv_at hl 1 rfl) ?_
                refine lv_imul hC.1 hC.2.1 d_AckBookModel_comeIn_240 ?_
                obtain ⟨a_, fs_, eo_, h⟩ := z_this_spec h
                obtain ⟨w1_, o1_, hF_, ha_⟩ := z_cV_spec h
                refine x_goes hC hRc hRs hFr ha_ (z_goV (As := [.int xL1, .int ((65 : Int32) * xL1)]) hC hZ zc10 eo_ (k_AckBookModel_takeOut hT hfl hE _ _ hF_) t_1066 t_1068 ts_AckBookModel_takeOut t_12 t_1069 ⟨by decide, by decide, (by decide +kernel : (parseMethodDescriptor y_AckBookModel_takeOut.desc).map (fun d => d.parameters.length) = some 2)⟩ (by rw [hRt.1]; decide) (by rw [hRt.2]; decide) hl.1 rfl (by first | exact Nat.le_of_ble_eq_true rfl | simp [z_rfc, z_ci, z_cj]) d_AckBookModel_comeIn_241) (fun v_ hv H locs cells slots hZ => ?_)
                obtain ⟨rfl, h⟩ := hv
                generalize w1_ = w at h hZ
                exact x_vret hC hRc hRs hZ hr h d_AckBookModel_comeIn_244
    · have h := z_ifn hc h
      refine x_aload_n hC d_AckBookModel_comeIn_22 rfl (lv_at hl 0 rfl) ?_
      refine x_getR hC hZ zc10 h (by decide) t_850 (fun _ h9 => h9) d_AckBookModel_comeIn_23 (fun r85 h => ?_)
      refine lv_iload hC.1 hC.2.1 d_AckBookModel_comeIn_26 (lv_at hl 3 rfl) ?_
      refine lv_iconst (v := (1 : Int32)) hC.1 hC.2.1 d_AckBookModel_comeIn_28 (by decide) ?_
      refine lv_isub hC.1 hC.2.1 d_AckBookModel_comeIn_29 ?_
      refine x_ldL hC hZ h d_AckBookModel_comeIn_30 (fun v86 h => ?_)
      refine lv_lload_n hC.1 hC.2.1 d_AckBookModel_comeIn_31 rfl (lv_at hl 2 rfl) ?_
      refine W.lcmp hC.1 hC.2.1 d_AckBookModel_comeIn_32 ?_
      refine lv_if_le (tgt := 74) hC.1 hC.2.1 d_AckBookModel_comeIn_33 (by decide) (fun hc => ?_) (fun hc => ?_)
      · have h := z_ifp hc h
        refine x_aload_n hC d_AckBookModel_comeIn_74 rfl (lv_at hl 0 rfl) ?_
        refine x_getR hC hZ zc10 h (by decide) t_850 (fun _ h9 => h9) d_AckBookModel_comeIn_75 (fun r87 h => ?_)
        refine lv_iload hC.1 hC.2.1 d_AckBookModel_comeIn_78 (lv_at hl 3 rfl) ?_
        refine lv_lload_n hC.1 hC.2.1 d_AckBookModel_comeIn_80 rfl (lv_at hl 2 rfl) ?_
        refine x_stL hC hZ h d_AckBookModel_comeIn_81 (fun w H locs hZ h => ?_)
        refine x_aload_n hC d_AckBookModel_comeIn_82 rfl (lv_at hl 0 rfl) ?_
        refine x_getR hC hZ zc10 h (by decide) t_851 (fun _ h9 => h9) d_AckBookModel_comeIn_83 (fun r88 h => ?_)
        refine lv_iload hC.1 hC.2.1 d_AckBookModel_comeIn_86 (lv_at hl 3 rfl) ?_
        refine lv_lload_n hC.1 hC.2.1 d_AckBookModel_comeIn_88 rfl (lv_at hl 2 rfl) ?_
        refine x_stL hC hZ h d_AckBookModel_comeIn_89 (fun w H locs hZ h => ?_)
        refine x_aload_n hC d_AckBookModel_comeIn_90 rfl (lv_at hl 0 rfl) ?_
        refine x_getR hC hZ zc10 h (by decide) t_849 (fun _ h9 => h9) d_AckBookModel_comeIn_91 (fun r89 h => ?_)
        refine lv_iload_n hC.1 hC.2.1 d_AckBookModel_comeIn_94 rfl (lv_at hl 1 rfl) ?_
        refine lv_dup2_11 hC.1 hC.2.1 d_AckBookModel_comeIn_95 rfl (z_rfc _) ?_
        refine x_ldI hC hZ h d_AckBookModel_comeIn_96 (fun v90 h => ?_)
        refine lv_iconst (v := (1 : Int32)) hC.1 hC.2.1 d_AckBookModel_comeIn_97 (by decide) ?_
        refine lv_iadd hC.1 hC.2.1 d_AckBookModel_comeIn_98 ?_
        refine x_stI hC hZ h d_AckBookModel_comeIn_99 (fun w H locs hZ h => ?_)
        refine lv_iload hC.1 hC.2.1 d_AckBookModel_comeIn_100 (lv_at hl 3 rfl) ?_
        refine lv_iconst (v := (1 : Int32)) hC.1 hC.2.1 d_AckBookModel_comeIn_102 (by decide) ?_
        refine lv_iadd hC.1 hC.2.1 d_AckBookModel_comeIn_103 ?_
        refine lv_bipush (v := (65 : Int32)) hC.1 hC.2.1 d_AckBookModel_comeIn_104 (by decide) ?_
        refine lv_iload_n hC.1 hC.2.1 d_AckBookModel_comeIn_106 rfl (lv_at hl 1 rfl) ?_
        refine lv_imul hC.1 hC.2.1 d_AckBookModel_comeIn_107 ?_
        refine x_aload_n hC d_AckBookModel_comeIn_108 rfl (lv_at hl 0 rfl) ?_
        refine x_getR hC hZ zc10 h (by decide) t_849 (fun _ h9 => h9) d_AckBookModel_comeIn_109 (fun r91 h => ?_)
        refine lv_iload_n hC.1 hC.2.1 d_AckBookModel_comeIn_112 rfl (lv_at hl 1 rfl) ?_
        refine x_ldI hC hZ h d_AckBookModel_comeIn_113 (fun v92 h => ?_)
        refine lv_iadd hC.1 hC.2.1 d_AckBookModel_comeIn_114 ?_
        refine lv_icmp_ge (tgt := 159) hC.1 hC.2.1 d_AckBookModel_comeIn_115 (by decide) (fun hc => ?_) (fun hc => ?_)
        · have h := z_ifp hc h
          refine lv_iload hC.1 hC.2.1 d_AckBookModel_comeIn_159 (lv_at hl 3 rfl) ?_
          refine lv_bipush (v := (65 : Int32)) hC.1 hC.2.1 d_AckBookModel_comeIn_161 (by decide) ?_
          refine lv_iload_n hC.1 hC.2.1 d_AckBookModel_comeIn_163 rfl (lv_at hl 1 rfl) ?_
          refine lv_imul hC.1 hC.2.1 d_AckBookModel_comeIn_164 ?_
          refine lv_icmp_le (tgt := 207) hC.1 hC.2.1 d_AckBookModel_comeIn_165 (by decide) (fun hc => ?_) (fun hc => ?_)
          · have h := z_ifp hc h
            refine x_aload_n hC d_AckBookModel_comeIn_207 rfl (lv_at hl 0 rfl) ?_
            refine x_getR hC hZ zc10 h (by decide) t_849 (fun _ h9 => h9) d_AckBookModel_comeIn_208 (fun r93 h => ?_)
            refine lv_iload_n hC.1 hC.2.1 d_AckBookModel_comeIn_211 rfl (lv_at hl 1 rfl) ?_
            refine x_ldI hC hZ h d_AckBookModel_comeIn_212 (fun v94 h => ?_)
            refine lv_bipush (v := (64 : Int32)) hC.1 hC.2.1 d_AckBookModel_comeIn_213 (by decide) ?_
            refine lv_icmp_le (tgt := 244) hC.1 hC.2.1 d_AckBookModel_comeIn_215 (by decide) (fun hc => ?_) (fun hc => ?_)
            · have h := z_ifp hc h
              exact x_vret hC hRc hRs hZ hr h d_AckBookModel_comeIn_244
            · have h := z_ifn hc h
              refine x_aload_n hC d_AckBookModel_comeIn_218 rfl (lv_at hl 0 rfl) ?_
              refine x_getR hC hZ zc10 h (by decide) t_852 (fun _ h9 => h9) d_AckBookModel_comeIn_219 (fun r95 h => ?_)
              refine lv_iload_n hC.1 hC.2.1 d_AckBookModel_comeIn_222 rfl (lv_at hl 1 rfl) ?_
              refine x_aload_n hC d_AckBookModel_comeIn_223 rfl (lv_at hl 0 rfl) ?_
              refine x_getR hC hZ zc10 h (by decide) t_851 (fun _ h9 => h9) d_AckBookModel_comeIn_224 (fun r96 h => ?_)
              refine lv_bipush (v := (65 : Int32)) hC.1 hC.2.1 d_AckBookModel_comeIn_227 (by decide) ?_
              refine lv_iload_n hC.1 hC.2.1 d_AckBookModel_comeIn_229 rfl (lv_at hl 1 rfl) ?_
              refine lv_imul hC.1 hC.2.1 d_AckBookModel_comeIn_230 ?_
              refine x_ldL hC hZ h d_AckBookModel_comeIn_231 (fun v97 h => ?_)
              refine lv_lconst (v := (1 : Int64)) hC.1 hC.2.1 d_AckBookModel_comeIn_232 (by decide) ?_
              refine lv_ladd hC.1 hC.2.1 d_AckBookModel_comeIn_233 ?_
              refine x_stL hC hZ h d_AckBookModel_comeIn_234 (fun w H locs hZ h => ?_)
              refine x_aload_n hC d_AckBookModel_comeIn_235 rfl (lv_at hl 0 rfl) ?_
              refine lv_iload_n hC.1 hC.2.1 d_AckBookModel_comeIn_236 rfl (lv_at hl 1 rfl) ?_
              refine lv_bipush (v := (65 : Int32)) hC.1 hC.2.1 d_AckBookModel_comeIn_237 (by decide) ?_
              refine lv_iload_n hC.1 hC.2.1 d_AckBookModel_comeIn_239 rfl (lv_at hl 1 rfl) ?_
              refine lv_imul hC.1 hC.2.1 d_AckBookModel_comeIn_240 ?_
              obtain ⟨a_, fs_, eo_, h⟩ := z_this_spec h
              obtain ⟨w1_, o1_, hF_, ha_⟩ := z_cV_spec h
              refine x_goes hC hRc hRs hFr ha_ (z_goV (As := [.int xL1, .int ((65 : Int32) * xL1)]) hC hZ zc10 eo_ (k_AckBookModel_takeOut hT hfl hE _ _ hF_) t_1066 t_1068 ts_AckBookModel_takeOut t_12 t_1069 ⟨by decide, by decide, (by decide +kernel : (parseMethodDescriptor y_AckBookModel_takeOut.desc).map (fun d => d.parameters.length) = some 2)⟩ (by rw [hRt.1]; decide) (by rw [hRt.2]; decide) hl.1 rfl (by first | exact Nat.le_of_ble_eq_true rfl | simp [z_rfc, z_ci, z_cj]) d_AckBookModel_comeIn_241) (fun v_ hv H locs cells slots hZ => ?_)
              obtain ⟨rfl, h⟩ := hv
              generalize w1_ = w at h hZ
              exact x_vret hC hRc hRs hZ hr h d_AckBookModel_comeIn_244
          · have h := z_ifn hc h
            refine x_aload_n hC d_AckBookModel_comeIn_168 rfl (lv_at hl 0 rfl) ?_
            refine x_getR hC hZ zc10 h (by decide) t_851 (fun _ h9 => h9) d_AckBookModel_comeIn_169 (fun r99 h => ?_)
            refine lv_iload hC.1 hC.2.1 d_AckBookModel_comeIn_172 (lv_at hl 3 rfl) ?_
            refine lv_iconst (v := (1 : Int32)) hC.1 hC.2.1 d_AckBookModel_comeIn_174 (by decide) ?_
            refine lv_isub hC.1 hC.2.1 d_AckBookModel_comeIn_175 ?_
            refine x_ldL hC hZ h d_AckBookModel_comeIn_176 (fun v100 h => ?_)
            refine lv_lload_n hC.1 hC.2.1 d_AckBookModel_comeIn_177 rfl (lv_at hl 2 rfl) ?_
            refine lv_lconst (v := (1 : Int64)) hC.1 hC.2.1 d_AckBookModel_comeIn_178 (by decide) ?_
            refine lv_lsub hC.1 hC.2.1 d_AckBookModel_comeIn_179 ?_
            refine W.lcmp hC.1 hC.2.1 d_AckBookModel_comeIn_180 ?_
            refine lv_if_ne (tgt := 207) hC.1 hC.2.1 d_AckBookModel_comeIn_181 (by decide) (fun hc => ?_) (fun hc => ?_)
            · have h := z_ifn hc h
              refine x_aload_n hC d_AckBookModel_comeIn_207 rfl (lv_at hl 0 rfl) ?_
              refine x_getR hC hZ zc10 h (by decide) t_849 (fun _ h9 => h9) d_AckBookModel_comeIn_208 (fun r111 h => ?_)
              refine lv_iload_n hC.1 hC.2.1 d_AckBookModel_comeIn_211 rfl (lv_at hl 1 rfl) ?_
              refine x_ldI hC hZ h d_AckBookModel_comeIn_212 (fun v112 h => ?_)
              refine lv_bipush (v := (64 : Int32)) hC.1 hC.2.1 d_AckBookModel_comeIn_213 (by decide) ?_
              refine lv_icmp_le (tgt := 244) hC.1 hC.2.1 d_AckBookModel_comeIn_215 (by decide) (fun hc => ?_) (fun hc => ?_)
              · have h := z_ifp hc h
                exact x_vret hC hRc hRs hZ hr h d_AckBookModel_comeIn_244
              · have h := z_ifn hc h
                refine x_aload_n hC d_AckBookModel_comeIn_218 rfl (lv_at hl 0 rfl) ?_
                refine x_getR hC hZ zc10 h (by decide) t_852 (fun _ h9 => h9) d_AckBookModel_comeIn_219 (fun r113 h => ?_)
                refine lv_iload_n hC.1 hC.2.1 d_AckBookModel_comeIn_222 rfl (lv_at hl 1 rfl) ?_
                refine x_aload_n hC d_AckBookModel_comeIn_223 rfl (lv_at hl 0 rfl) ?_
                refine x_getR hC hZ zc10 h (by decide) t_851 (fun _ h9 => h9) d_AckBookModel_comeIn_224 (fun r114 h => ?_)
                refine lv_bipush (v := (65 : Int32)) hC.1 hC.2.1 d_AckBookModel_comeIn_227 (by decide) ?_
                refine lv_iload_n hC.1 hC.2.1 d_AckBookModel_comeIn_229 rfl (lv_at hl 1 rfl) ?_
                refine lv_imul hC.1 hC.2.1 d_AckBookModel_comeIn_230 ?_
                refine x_ldL hC hZ h d_AckBookModel_comeIn_231 (fun v115 h => ?_)
                refine lv_lconst (v := (1 : Int64)) hC.1 hC.2.1 d_AckBookModel_comeIn_232 (by decide) ?_
                refine lv_ladd hC.1 hC.2.1 d_AckBookModel_comeIn_233 ?_
                refine x_stL hC hZ h d_AckBookModel_comeIn_234 (fun w H locs hZ h => ?_)
                refine x_aload_n hC d_AckBookModel_comeIn_235 rfl (lv_at hl 0 rfl) ?_
                refine lv_iload_n hC.1 hC.2.1 d_AckBookModel_comeIn_236 rfl (lv_at hl 1 rfl) ?_
                refine lv_bipush (v := (65 : Int32)) hC.1 hC.2.1 d_AckBookModel_comeIn_237 (by decide) ?_
                refine lv_iload_n hC.1 hC.2.1 d_AckBookModel_comeIn_239 rfl (lv_at hl 1 rfl) ?_
                refine lv_imul hC.1 hC.2.1 d_AckBookModel_comeIn_240 ?_
                obtain ⟨a_, fs_, eo_, h⟩ := z_this_spec h
                obtain ⟨w1_, o1_, hF_, ha_⟩ := z_cV_spec h
                refine x_goes hC hRc hRs hFr ha_ (z_goV (As := [.int xL1, .int ((65 : Int32) * xL1)]) hC hZ zc10 eo_ (k_AckBookModel_takeOut hT hfl hE _ _ hF_) t_1066 t_1068 ts_AckBookModel_takeOut t_12 t_1069 ⟨by decide, by decide, (by decide +kernel : (parseMethodDescriptor y_AckBookModel_takeOut.desc).map (fun d => d.parameters.length) = some 2)⟩ (by rw [hRt.1]; decide) (by rw [hRt.2]; decide) hl.1 rfl (by first | exact Nat.le_of_ble_eq_true rfl | simp [z_rfc, z_ci, z_cj]) d_AckBookModel_comeIn_241) (fun v_ hv H locs cells slots hZ => ?_)
                obtain ⟨rfl, h⟩ := hv
                generalize w1_ = w at h hZ
                exact x_vret hC hRc hRs hZ hr h d_AckBookModel_comeIn_244
            · have h := z_ifp hc h
              refine x_aload_n hC d_AckBookModel_comeIn_184 rfl (lv_at hl 0 rfl) ?_
              refine x_getR hC hZ zc10 h (by decide) t_851 (fun _ h9 => h9) d_AckBookModel_comeIn_185 (fun r101 h => ?_)
              refine lv_iload hC.1 hC.2.1 d_AckBookModel_comeIn_188 (lv_at hl 3 rfl) ?_
              refine lv_iconst (v := (1 : Int32)) hC.1 hC.2.1 d_AckBookModel_comeIn_190 (by decide) ?_
              refine lv_isub hC.1 hC.2.1 d_AckBookModel_comeIn_191 ?_
              refine x_aload_n hC d_AckBookModel_comeIn_192 rfl (lv_at hl 0 rfl) ?_
              refine x_getR hC hZ zc10 h (by decide) t_851 (fun _ h9 => h9) d_AckBookModel_comeIn_193 (fun r102 h => ?_)
              refine lv_iload hC.1 hC.2.1 d_AckBookModel_comeIn_196 (lv_at hl 3 rfl) ?_
              refine x_ldL hC hZ h d_AckBookModel_comeIn_198 (fun v103 h => ?_)
              refine x_stL hC hZ h d_AckBookModel_comeIn_199 (fun w H locs hZ h => ?_)
              refine x_aload_n hC d_AckBookModel_comeIn_200 rfl (lv_at hl 0 rfl) ?_
              refine lv_iload_n hC.1 hC.2.1 d_AckBookModel_comeIn_201 rfl (lv_at hl 1 rfl) ?_
              refine lv_iload hC.1 hC.2.1 d_AckBookModel_comeIn_202 (lv_at hl 3 rfl) ?_
              obtain ⟨a_, fs_, eo_, h⟩ := z_this_spec h
              obtain ⟨w1_, o1_, hF_, ha_⟩ := z_cV_spec h
              refine x_goes hC hRc hRs hFr ha_ (z_goV (As := [.int xL1, .int xL4]) hC hZ zc10 eo_ (k_AckBookModel_takeOut hT hfl hE _ _ hF_) t_1066 t_1068 ts_AckBookModel_takeOut t_12 t_1069 ⟨by decide, by decide, (by decide +kernel : (parseMethodDescriptor y_AckBookModel_takeOut.desc).map (fun d => d.parameters.length) = some 2)⟩ (by rw [hRt.1]; decide) (by rw [hRt.2]; decide) hl.1 rfl (by first | exact Nat.le_of_ble_eq_true rfl | simp [z_rfc, z_ci, z_cj]) d_AckBookModel_comeIn_204) (fun v_ hv H locs cells slots hZ => ?_)
              obtain ⟨rfl, h⟩ := hv
              generalize w1_ = w at h hZ
              refine x_aload_n hC d_AckBookModel_comeIn_207 rfl (lv_at hl 0 rfl) ?_
              refine x_getR hC hZ zc10 h (by decide) t_849 (fun _ h9 => h9) d_AckBookModel_comeIn_208 (fun r105 h => ?_)
              refine lv_iload_n hC.1 hC.2.1 d_AckBookModel_comeIn_211 rfl (lv_at hl 1 rfl) ?_
              refine x_ldI hC hZ h d_AckBookModel_comeIn_212 (fun v106 h => ?_)
              refine lv_bipush (v := (64 : Int32)) hC.1 hC.2.1 d_AckBookModel_comeIn_213 (by decide) ?_
              refine lv_icmp_le (tgt := 244) hC.1 hC.2.1 d_AckBookModel_comeIn_215 (by decide) (fun hc => ?_) (fun hc => ?_)
              · have h := z_ifp hc h
                exact x_vret hC hRc hRs hZ hr h d_AckBookModel_comeIn_244
              · have h := z_ifn hc h
                refine x_aload_n hC d_AckBookModel_comeIn_218 rfl (lv_at hl 0 rfl) ?_
                refine x_getR hC hZ zc10 h (by decide) t_852 (fun _ h9 => h9) d_AckBookModel_comeIn_219 (fun r107 h => ?_)
                refine lv_iload_n hC.1 hC.2.1 d_AckBookModel_comeIn_222 rfl (lv_at hl 1 rfl) ?_
                refine x_aload_n hC d_AckBookModel_comeIn_223 rfl (lv_at hl 0 rfl) ?_
                refine x_getR hC hZ zc10 h (by decide) t_851 (fun _ h9 => h9) d_AckBookModel_comeIn_224 (fun r108 h => ?_)
                refine lv_bipush (v := (65 : Int32)) hC.1 hC.2.1 d_AckBookModel_comeIn_227 (by decide) ?_
                refine lv_iload_n hC.1 hC.2.1 d_AckBookModel_comeIn_229 rfl (lv_at hl 1 rfl) ?_
                refine lv_imul hC.1 hC.2.1 d_AckBookModel_comeIn_230 ?_
                refine x_ldL hC hZ h d_AckBookModel_comeIn_231 (fun v109 h => ?_)
                refine lv_lconst (v := (1 : Int64)) hC.1 hC.2.1 d_AckBookModel_comeIn_232 (by decide) ?_
                refine lv_ladd hC.1 hC.2.1 d_AckBookModel_comeIn_233 ?_
                refine x_stL hC hZ h d_AckBookModel_comeIn_234 (fun w H locs hZ h => ?_)
                refine x_aload_n hC d_AckBookModel_comeIn_235 rfl (lv_at hl 0 rfl) ?_
                refine lv_iload_n hC.1 hC.2.1 d_AckBookModel_comeIn_236 rfl (lv_at hl 1 rfl) ?_
                refine lv_bipush (v := (65 : Int32)) hC.1 hC.2.1 d_AckBookModel_comeIn_237 (by decide) ?_
                refine lv_iload_n hC.1 hC.2.1 d_AckBookModel_comeIn_239 rfl (lv_at hl 1 rfl) ?_
                refine lv_imul hC.1 hC.2.1 d_AckBookModel_comeIn_240 ?_
                obtain ⟨a_, fs_, eo_, h⟩ := z_this_spec h
                obtain ⟨w1_, o1_, hF_, ha_⟩ := z_cV_spec h
                refine x_goes hC hRc hRs hFr ha_ (z_goV (As := [.int xL1, .int ((65 : Int32) * xL1)]) hC hZ zc10 eo_ (k_AckBookModel_takeOut hT hfl hE _ _ hF_) t_1066 t_1068 ts_AckBookModel_takeOut t_12 t_1069 ⟨by decide, by decide, (by decide +kernel : (parseMethodDescriptor y_AckBookModel_takeOut.desc).map (fun d => d.parameters.length) = some 2)⟩ (by rw [hRt.1]; decide) (by rw [hRt.2]; decide) hl.1 rfl (by first | exact Nat.le_of_ble_eq_true rfl | simp [z_rfc, z_ci, z_cj]) d_AckBookModel_comeIn_241) (fun v_ hv H locs cells slots hZ => ?_)
                obtain ⟨rfl, h⟩ := hv
                generalize w1_ = w at h hZ
                exact x_vret hC hRc hRs hZ hr h d_AckBookModel_comeIn_244
        · have h := z_ifn hc h
          refine x_aload_n hC d_AckBookModel_comeIn_118 rfl (lv_at hl 0 rfl) ?_
          refine x_getR hC hZ zc10 h (by decide) t_850 (fun _ h9 => h9) d_AckBookModel_comeIn_119 (fun r117 h => ?_)
          refine lv_iload hC.1 hC.2.1 d_AckBookModel_comeIn_122 (lv_at hl 3 rfl) ?_
          refine lv_iconst (v := (1 : Int32)) hC.1 hC.2.1 d_AckBookModel_comeIn_124 (by decide) ?_
          refine lv_iadd hC.1 hC.2.1 d_AckBookModel_comeIn_125 ?_
          refine x_ldL hC hZ h d_AckBookModel_comeIn_126 (fun v118 h => ?_)
          refine lv_lload_n hC.1 hC.2.1 d_AckBookModel_comeIn_127 rfl (lv_at hl 2 rfl) ?_
          refine lv_lconst (v := (1 : Int64)) hC.1 hC.2.1 d_AckBookModel_comeIn_128 (by decide) ?_
          refine lv_ladd hC.1 hC.2.1 d_AckBookModel_comeIn_129 ?_
          refine W.lcmp hC.1 hC.2.1 d_AckBookModel_comeIn_130 ?_
          refine lv_if_ne (tgt := 159) hC.1 hC.2.1 d_AckBookModel_comeIn_131 (by decide) (fun hc => ?_) (fun hc => ?_)
          · have h := z_ifn hc h
            refine lv_iload hC.1 hC.2.1 d_AckBookModel_comeIn_159 (lv_at hl 3 rfl) ?_
            refine lv_bipush (v := (65 : Int32)) hC.1 hC.2.1 d_AckBookModel_comeIn_161 (by decide) ?_
            refine lv_iload_n hC.1 hC.2.1 d_AckBookModel_comeIn_163 rfl (lv_at hl 1 rfl) ?_
            refine lv_imul hC.1 hC.2.1 d_AckBookModel_comeIn_164 ?_
            refine lv_icmp_le (tgt := 207) hC.1 hC.2.1 d_AckBookModel_comeIn_165 (by decide) (fun hc => ?_) (fun hc => ?_)
            · have h := z_ifp hc h
              refine x_aload_n hC d_AckBookModel_comeIn_207 rfl (lv_at hl 0 rfl) ?_
              refine x_getR hC hZ zc10 h (by decide) t_849 (fun _ h9 => h9) d_AckBookModel_comeIn_208 (fun r147 h => ?_)
              refine lv_iload_n hC.1 hC.2.1 d_AckBookModel_comeIn_211 rfl (lv_at hl 1 rfl) ?_
              refine x_ldI hC hZ h d_AckBookModel_comeIn_212 (fun v148 h => ?_)
              refine lv_bipush (v := (64 : Int32)) hC.1 hC.2.1 d_AckBookModel_comeIn_213 (by decide) ?_
              refine lv_icmp_le (tgt := 244) hC.1 hC.2.1 d_AckBookModel_comeIn_215 (by decide) (fun hc => ?_) (fun hc => ?_)
              · have h := z_ifp hc h
                exact x_vret hC hRc hRs hZ hr h d_AckBookModel_comeIn_244
              · have h := z_ifn hc h
                refine x_aload_n hC d_AckBookModel_comeIn_218 rfl (lv_at hl 0 rfl) ?_
                refine x_getR hC hZ zc10 h (by decide) t_852 (fun _ h9 => h9) d_AckBookModel_comeIn_219 (fun r149 h => ?_)
                refine lv_iload_n hC.1 hC.2.1 d_AckBookModel_comeIn_222 rfl (lv_at hl 1 rfl) ?_
                refine x_aload_n hC d_AckBookModel_comeIn_223 rfl (lv_at hl 0 rfl) ?_
                refine x_getR hC hZ zc10 h (by decide) t_851 (fun _ h9 => h9) d_AckBookModel_comeIn_224 (fun r150 h => ?_)
                refine lv_bipush (v := (65 : Int32)) hC.1 hC.2.1 d_AckBookModel_comeIn_227 (by decide) ?_
                refine lv_iload_n hC.1 hC.2.1 d_AckBookModel_comeIn_229 rfl (lv_at hl 1 rfl) ?_
                refine lv_imul hC.1 hC.2.1 d_AckBookModel_comeIn_230 ?_
                refine x_ldL hC hZ h d_AckBookModel_comeIn_231 (fun v151 h => ?_)
                refine lv_lconst (v := (1 : Int64)) hC.1 hC.2.1 d_AckBookModel_comeIn_232 (by decide) ?_
                refine lv_ladd hC.1 hC.2.1 d_AckBookModel_comeIn_233 ?_
                refine x_stL hC hZ h d_AckBookModel_comeIn_234 (fun w H locs hZ h => ?_)
                refine x_aload_n hC d_AckBookModel_comeIn_235 rfl (lv_at hl 0 rfl) ?_
                refine lv_iload_n hC.1 hC.2.1 d_AckBookModel_comeIn_236 rfl (lv_at hl 1 rfl) ?_
                refine lv_bipush (v := (65 : Int32)) hC.1 hC.2.1 d_AckBookModel_comeIn_237 (by decide) ?_
                refine lv_iload_n hC.1 hC.2.1 d_AckBookModel_comeIn_239 rfl (lv_at hl 1 rfl) ?_
                refine lv_imul hC.1 hC.2.1 d_AckBookModel_comeIn_240 ?_
                obtain ⟨a_, fs_, eo_, h⟩ := z_this_spec h
                obtain ⟨w1_, o1_, hF_, ha_⟩ := z_cV_spec h
                refine x_goes hC hRc hRs hFr ha_ (z_goV (As := [.int xL1, .int ((65 : Int32) * xL1)]) hC hZ zc10 eo_ (k_AckBookModel_takeOut hT hfl hE _ _ hF_) t_1066 t_1068 ts_AckBookModel_takeOut t_12 t_1069 ⟨by decide, by decide, (by decide +kernel : (parseMethodDescriptor y_AckBookModel_takeOut.desc).map (fun d => d.parameters.length) = some 2)⟩ (by rw [hRt.1]; decide) (by rw [hRt.2]; decide) hl.1 rfl (by first | exact Nat.le_of_ble_eq_true rfl | simp [z_rfc, z_ci, z_cj]) d_AckBookModel_comeIn_241) (fun v_ hv H locs cells slots hZ => ?_)
                obtain ⟨rfl, h⟩ := hv
                generalize w1_ = w at h hZ
                exact x_vret hC hRc hRs hZ hr h d_AckBookModel_comeIn_244
            · have h := z_ifn hc h
              refine x_aload_n hC d_AckBookModel_comeIn_168 rfl (lv_at hl 0 rfl) ?_
              refine x_getR hC hZ zc10 h (by decide) t_851 (fun _ h9 => h9) d_AckBookModel_comeIn_169 (fun r153 h => ?_)
              refine lv_iload hC.1 hC.2.1 d_AckBookModel_comeIn_172 (lv_at hl 3 rfl) ?_
              refine lv_iconst (v := (1 : Int32)) hC.1 hC.2.1 d_AckBookModel_comeIn_174 (by decide) ?_
              refine lv_isub hC.1 hC.2.1 d_AckBookModel_comeIn_175 ?_
              refine x_ldL hC hZ h d_AckBookModel_comeIn_176 (fun v154 h => ?_)
              refine lv_lload_n hC.1 hC.2.1 d_AckBookModel_comeIn_177 rfl (lv_at hl 2 rfl) ?_
              refine lv_lconst (v := (1 : Int64)) hC.1 hC.2.1 d_AckBookModel_comeIn_178 (by decide) ?_
              refine lv_lsub hC.1 hC.2.1 d_AckBookModel_comeIn_179 ?_
              refine W.lcmp hC.1 hC.2.1 d_AckBookModel_comeIn_180 ?_
              refine lv_if_ne (tgt := 207) hC.1 hC.2.1 d_AckBookModel_comeIn_181 (by decide) (fun hc => ?_) (fun hc => ?_)
              · have h := z_ifn hc h
                refine x_aload_n hC d_AckBookModel_comeIn_207 rfl (lv_at hl 0 rfl) ?_
                refine x_getR hC hZ zc10 h (by decide) t_849 (fun _ h9 => h9) d_AckBookModel_comeIn_208 (fun r165 h => ?_)
                refine lv_iload_n hC.1 hC.2.1 d_AckBookModel_comeIn_211 rfl (lv_at hl 1 rfl) ?_
                refine x_ldI hC hZ h d_AckBookModel_comeIn_212 (fun v166 h => ?_)
                refine lv_bipush (v := (64 : Int32)) hC.1 hC.2.1 d_AckBookModel_comeIn_213 (by decide) ?_
                refine lv_icmp_le (tgt := 244) hC.1 hC.2.1 d_AckBookModel_comeIn_215 (by decide) (fun hc => ?_) (fun hc => ?_)
                · have h := z_ifp hc h
                  exact x_vret hC hRc hRs hZ hr h d_AckBookModel_comeIn_244
                · have h := z_ifn hc h
                  refine x_aload_n hC d_AckBookModel_comeIn_218 rfl (lv_at hl 0 rfl) ?_
                  refine x_getR hC hZ zc10 h (by decide) t_852 (fun _ h9 => h9) d_AckBookModel_comeIn_219 (fun r167 h => ?_)
                  refine lv_iload_n hC.1 hC.2.1 d_AckBookModel_comeIn_222 rfl (lv_at hl 1 rfl) ?_
                  refine x_aload_n hC d_AckBookModel_comeIn_223 rfl (lv_at hl 0 rfl) ?_
                  refine x_getR hC hZ zc10 h (by decide) t_851 (fun _ h9 => h9) d_AckBookModel_comeIn_224 (fun r168 h => ?_)
                  refine lv_bipush (v := (65 : Int32)) hC.1 hC.2.1 d_AckBookModel_comeIn_227 (by decide) ?_
                  refine lv_iload_n hC.1 hC.2.1 d_AckBookModel_comeIn_229 rfl (lv_at hl 1 rfl) ?_
                  refine lv_imul hC.1 hC.2.1 d_AckBookModel_comeIn_230 ?_
                  refine x_ldL hC hZ h d_AckBookModel_comeIn_231 (fun v169 h => ?_)
                  refine lv_lconst (v := (1 : Int64)) hC.1 hC.2.1 d_AckBookModel_comeIn_232 (by decide) ?_
                  refine lv_ladd hC.1 hC.2.1 d_AckBookModel_comeIn_233 ?_
                  refine x_stL hC hZ h d_AckBookModel_comeIn_234 (fun w H locs hZ h => ?_)
                  refine x_aload_n hC d_AckBookModel_comeIn_235 rfl (lv_at hl 0 rfl) ?_
                  refine lv_iload_n hC.1 hC.2.1 d_AckBookModel_comeIn_236 rfl (lv_at hl 1 rfl) ?_
                  refine lv_bipush (v := (65 : Int32)) hC.1 hC.2.1 d_AckBookModel_comeIn_237 (by decide) ?_
                  refine lv_iload_n hC.1 hC.2.1 d_AckBookModel_comeIn_239 rfl (lv_at hl 1 rfl) ?_
                  refine lv_imul hC.1 hC.2.1 d_AckBookModel_comeIn_240 ?_
                  obtain ⟨a_, fs_, eo_, h⟩ := z_this_spec h
                  obtain ⟨w1_, o1_, hF_, ha_⟩ := z_cV_spec h
                  refine x_goes hC hRc hRs hFr ha_ (z_goV (As := [.int xL1, .int ((65 : Int32) * xL1)]) hC hZ zc10 eo_ (k_AckBookModel_takeOut hT hfl hE _ _ hF_) t_1066 t_1068 ts_AckBookModel_takeOut t_12 t_1069 ⟨by decide, by decide, (by decide +kernel : (parseMethodDescriptor y_AckBookModel_takeOut.desc).map (fun d => d.parameters.length) = some 2)⟩ (by rw [hRt.1]; decide) (by rw [hRt.2]; decide) hl.1 rfl (by first | exact Nat.le_of_ble_eq_true rfl | simp [z_rfc, z_ci, z_cj]) d_AckBookModel_comeIn_241) (fun v_ hv H locs cells slots hZ => ?_)
                  obtain ⟨rfl, h⟩ := hv
                  generalize w1_ = w at h hZ
                  exact x_vret hC hRc hRs hZ hr h d_AckBookModel_comeIn_244
              · have h := z_ifp hc h
                refine x_aload_n hC d_AckBookModel_comeIn_184 rfl (lv_at hl 0 rfl) ?_
                refine x_getR hC hZ zc10 h (by decide) t_851 (fun _ h9 => h9) d_AckBookModel_comeIn_185 (fun r155 h => ?_)
                refine lv_iload hC.1 hC.2.1 d_AckBookModel_comeIn_188 (lv_at hl 3 rfl) ?_
                refine lv_iconst (v := (1 : Int32)) hC.1 hC.2.1 d_AckBookModel_comeIn_190 (by decide) ?_
                refine lv_isub hC.1 hC.2.1 d_AckBookModel_comeIn_191 ?_
                refine x_aload_n hC d_AckBookModel_comeIn_192 rfl (lv_at hl 0 rfl) ?_
                refine x_getR hC hZ zc10 h (by decide) t_851 (fun _ h9 => h9) d_AckBookModel_comeIn_193 (fun r156 h => ?_)
                refine lv_iload hC.1 hC.2.1 d_AckBookModel_comeIn_196 (lv_at hl 3 rfl) ?_
                refine x_ldL hC hZ h d_AckBookModel_comeIn_198 (fun v157 h => ?_)
                refine x_stL hC hZ h d_AckBookModel_comeIn_199 (fun w H locs hZ h => ?_)
                refine x_aload_n hC d_AckBookModel_comeIn_200 rfl (lv_at hl 0 rfl) ?_
                refine lv_iload_n hC.1 hC.2.1 d_AckBookModel_comeIn_201 rfl (lv_at hl 1 rfl) ?_
                refine lv_iload hC.1 hC.2.1 d_AckBookModel_comeIn_202 (lv_at hl 3 rfl) ?_
                obtain ⟨a_, fs_, eo_, h⟩ := z_this_spec h
                obtain ⟨w1_, o1_, hF_, ha_⟩ := z_cV_spec h
                refine x_goes hC hRc hRs hFr ha_ (z_goV (As := [.int xL1, .int xL4]) hC hZ zc10 eo_ (k_AckBookModel_takeOut hT hfl hE _ _ hF_) t_1066 t_1068 ts_AckBookModel_takeOut t_12 t_1069 ⟨by decide, by decide, (by decide +kernel : (parseMethodDescriptor y_AckBookModel_takeOut.desc).map (fun d => d.parameters.length) = some 2)⟩ (by rw [hRt.1]; decide) (by rw [hRt.2]; decide) hl.1 rfl (by first | exact Nat.le_of_ble_eq_true rfl | simp [z_rfc, z_ci, z_cj]) d_AckBookModel_comeIn_204) (fun v_ hv H locs cells slots hZ => ?_)
                obtain ⟨rfl, h⟩ := hv
                generalize w1_ = w at h hZ
                refine x_aload_n hC d_AckBookModel_comeIn_207 rfl (lv_at hl 0 rfl) ?_
                refine x_getR hC hZ zc10 h (by decide) t_849 (fun _ h9 => h9) d_AckBookModel_comeIn_208 (fun r159 h => ?_)
                refine lv_iload_n hC.1 hC.2.1 d_AckBookModel_comeIn_211 rfl (lv_at hl 1 rfl) ?_
                refine x_ldI hC hZ h d_AckBookModel_comeIn_212 (fun v160 h => ?_)
                refine lv_bipush (v := (64 : Int32)) hC.1 hC.2.1 d_AckBookModel_comeIn_213 (by decide) ?_
                refine lv_icmp_le (tgt := 244) hC.1 hC.2.1 d_AckBookModel_comeIn_215 (by decide) (fun hc => ?_) (fun hc => ?_)
                · have h := z_ifp hc h
                  exact x_vret hC hRc hRs hZ hr h d_AckBookModel_comeIn_244
                · have h := z_ifn hc h
                  refine x_aload_n hC d_AckBookModel_comeIn_218 rfl (lv_at hl 0 rfl) ?_
                  refine x_getR hC hZ zc10 h (by decide) t_852 (fun _ h9 => h9) d_AckBookModel_comeIn_219 (fun r161 h => ?_)
                  refine lv_iload_n hC.1 hC.2.1 d_AckBookModel_comeIn_222 rfl (lv_at hl 1 rfl) ?_
                  refine x_aload_n hC d_AckBookModel_comeIn_223 rfl (lv_at hl 0 rfl) ?_
                  refine x_getR hC hZ zc10 h (by decide) t_851 (fun _ h9 => h9) d_AckBookModel_comeIn_224 (fun r162 h => ?_)
                  refine lv_bipush (v := (65 : Int32)) hC.1 hC.2.1 d_AckBookModel_comeIn_227 (by decide) ?_
                  refine lv_iload_n hC.1 hC.2.1 d_AckBookModel_comeIn_229 rfl (lv_at hl 1 rfl) ?_
                  refine lv_imul hC.1 hC.2.1 d_AckBookModel_comeIn_230 ?_
                  refine x_ldL hC hZ h d_AckBookModel_comeIn_231 (fun v163 h => ?_)
                  refine lv_lconst (v := (1 : Int64)) hC.1 hC.2.1 d_AckBookModel_comeIn_232 (by decide) ?_
                  refine lv_ladd hC.1 hC.2.1 d_AckBookModel_comeIn_233 ?_
                  refine x_stL hC hZ h d_AckBookModel_comeIn_234 (fun w H locs hZ h => ?_)
                  refine x_aload_n hC d_AckBookModel_comeIn_235 rfl (lv_at hl 0 rfl) ?_
                  refine lv_iload_n hC.1 hC.2.1 d_AckBookModel_comeIn_236 rfl (lv_at hl 1 rfl) ?_
                  refine lv_bipush (v := (65 : Int32)) hC.1 hC.2.1 d_AckBookModel_comeIn_237 (by decide) ?_
                  refine lv_iload_n hC.1 hC.2.1 d_AckBookModel_comeIn_239 rfl (lv_at hl 1 rfl) ?_
                  refine lv_imul hC.1 hC.2.1 d_AckBookModel_comeIn_240 ?_
                  obtain ⟨a_, fs_, eo_, h⟩ := z_this_spec h
                  obtain ⟨w1_, o1_, hF_, ha_⟩ := z_cV_spec h
                  refine x_goes hC hRc hRs hFr ha_ (z_goV (As := [.int xL1, .int ((65 : Int32) * xL1)]) hC hZ zc10 eo_ (k_AckBookModel_takeOut hT hfl hE _ _ hF_) t_1066 t_1068 ts_AckBookModel_takeOut t_12 t_1069 ⟨by decide, by decide, (by decide +kernel : (parseMethodDescriptor y_AckBookModel_takeOut.desc).map (fun d => d.parameters.length) = some 2)⟩ (by rw [hRt.1]; decide) (by rw [hRt.2]; decide) hl.1 rfl (by first | exact Nat.le_of_ble_eq_true rfl | simp [z_rfc, z_ci, z_cj]) d_AckBookModel_comeIn_241) (fun v_ hv H locs cells slots hZ => ?_)
                  obtain ⟨rfl, h⟩ := hv
                  generalize w1_ = w at h hZ
                  exact x_vret hC hRc hRs hZ hr h d_AckBookModel_comeIn_244
          · have h := z_ifp hc h
            refine x_aload_n hC d_AckBookModel_comeIn_134 rfl (lv_at hl 0 rfl) ?_
            refine x_getR hC hZ zc10 h (by decide) t_851 (fun _ h9 => h9) d_AckBookModel_comeIn_135 (fun r119 h => ?_)
            refine lv_iload hC.1 hC.2.1 d_AckBookModel_comeIn_138 (lv_at hl 3 rfl) ?_
            refine x_aload_n hC d_AckBookModel_comeIn_140 rfl (lv_at hl 0 rfl) ?_
            refine x_getR hC hZ zc10 h (by decide) t_851 (fun _ h9 => h9) d_AckBookModel_comeIn_141 (fun r120 h => ?_)
            refine lv_iload hC.1 hC.2.1 d_AckBookModel_comeIn_144 (lv_at hl 3 rfl) ?_
            refine lv_iconst (v := (1 : Int32)) hC.1 hC.2.1 d_AckBookModel_comeIn_146 (by decide) ?_
            refine lv_iadd hC.1 hC.2.1 d_AckBookModel_comeIn_147 ?_
            refine x_ldL hC hZ h d_AckBookModel_comeIn_148 (fun v121 h => ?_)
            refine x_stL hC hZ h d_AckBookModel_comeIn_149 (fun w H locs hZ h => ?_)
            refine x_aload_n hC d_AckBookModel_comeIn_150 rfl (lv_at hl 0 rfl) ?_
            refine lv_iload_n hC.1 hC.2.1 d_AckBookModel_comeIn_151 rfl (lv_at hl 1 rfl) ?_
            refine lv_iload hC.1 hC.2.1 d_AckBookModel_comeIn_152 (lv_at hl 3 rfl) ?_
            refine lv_iconst (v := (1 : Int32)) hC.1 hC.2.1 d_AckBookModel_comeIn_154 (by decide) ?_
            refine lv_iadd hC.1 hC.2.1 d_AckBookModel_comeIn_155 ?_
            obtain ⟨a_, fs_, eo_, h⟩ := z_this_spec h
            obtain ⟨w1_, o1_, hF_, ha_⟩ := z_cV_spec h
            refine x_goes hC hRc hRs hFr ha_ (z_goV (As := [.int xL1, .int (xL4 + (1 : Int32))]) hC hZ zc10 eo_ (k_AckBookModel_takeOut hT hfl hE _ _ hF_) t_1066 t_1068 ts_AckBookModel_takeOut t_12 t_1069 ⟨by decide, by decide, (by decide +kernel : (parseMethodDescriptor y_AckBookModel_takeOut.desc).map (fun d => d.parameters.length) = some 2)⟩ (by rw [hRt.1]; decide) (by rw [hRt.2]; decide) hl.1 rfl (by first | exact Nat.le_of_ble_eq_true rfl | simp [z_rfc, z_ci, z_cj]) d_AckBookModel_comeIn_156) (fun v_ hv H locs cells slots hZ => ?_)
            obtain ⟨rfl, h⟩ := hv
            generalize w1_ = w at h hZ
            refine lv_iload hC.1 hC.2.1 d_AckBookModel_comeIn_159 (lv_at hl 3 rfl) ?_
            refine lv_bipush (v := (65 : Int32)) hC.1 hC.2.1 d_AckBookModel_comeIn_161 (by decide) ?_
            refine lv_iload_n hC.1 hC.2.1 d_AckBookModel_comeIn_163 rfl (lv_at hl 1 rfl) ?_
            refine lv_imul hC.1 hC.2.1 d_AckBookModel_comeIn_164 ?_
            refine lv_icmp_le (tgt := 207) hC.1 hC.2.1 d_AckBookModel_comeIn_165 (by decide) (fun hc => ?_) (fun hc => ?_)
            · have h := z_ifp hc h
              refine x_aload_n hC d_AckBookModel_comeIn_207 rfl (lv_at hl 0 rfl) ?_
              refine x_getR hC hZ zc10 h (by decide) t_849 (fun _ h9 => h9) d_AckBookModel_comeIn_208 (fun r123 h => ?_)
              refine lv_iload_n hC.1 hC.2.1 d_AckBookModel_comeIn_211 rfl (lv_at hl 1 rfl) ?_
              refine x_ldI hC hZ h d_AckBookModel_comeIn_212 (fun v124 h => ?_)
              refine lv_bipush (v := (64 : Int32)) hC.1 hC.2.1 d_AckBookModel_comeIn_213 (by decide) ?_
              refine lv_icmp_le (tgt := 244) hC.1 hC.2.1 d_AckBookModel_comeIn_215 (by decide) (fun hc => ?_) (fun hc => ?_)
              · have h := z_ifp hc h
                exact x_vret hC hRc hRs hZ hr h d_AckBookModel_comeIn_244
              · have h := z_ifn hc h
                refine x_aload_n hC d_AckBookModel_comeIn_218 rfl (lv_at hl 0 rfl) ?_
                refine x_getR hC hZ zc10 h (by decide) t_852 (fun _ h9 => h9) d_AckBookModel_comeIn_219 (fun r125 h => ?_)
                refine lv_iload_n hC.1 hC.2.1 d_AckBookModel_comeIn_222 rfl (lv_at hl 1 rfl) ?_
                refine x_aload_n hC d_AckBookModel_comeIn_223 rfl (lv_at hl 0 rfl) ?_
                refine x_getR hC hZ zc10 h (by decide) t_851 (fun _ h9 => h9) d_AckBookModel_comeIn_224 (fun r126 h => ?_)
                refine lv_bipush (v := (65 : Int32)) hC.1 hC.2.1 d_AckBookModel_comeIn_227 (by decide) ?_
                refine lv_iload_n hC.1 hC.2.1 d_AckBookModel_comeIn_229 rfl (lv_at hl 1 rfl) ?_
                refine lv_imul hC.1 hC.2.1 d_AckBookModel_comeIn_230 ?_
                refine x_ldL hC hZ h d_AckBookModel_comeIn_231 (fun v127 h => ?_)
                refine lv_lconst (v := (1 : Int64)) hC.1 hC.2.1 d_AckBookModel_comeIn_232 (by decide) ?_
                refine lv_ladd hC.1 hC.2.1 d_AckBookModel_comeIn_233 ?_
                refine x_stL hC hZ h d_AckBookModel_comeIn_234 (fun w H locs hZ h => ?_)
                refine x_aload_n hC d_AckBookModel_comeIn_235 rfl (lv_at hl 0 rfl) ?_
                refine lv_iload_n hC.1 hC.2.1 d_AckBookModel_comeIn_236 rfl (lv_at hl 1 rfl) ?_
                refine lv_bipush (v := (65 : Int32)) hC.1 hC.2.1 d_AckBookModel_comeIn_237 (by decide) ?_
                refine lv_iload_n hC.1 hC.2.1 d_AckBookModel_comeIn_239 rfl (lv_at hl 1 rfl) ?_
                refine lv_imul hC.1 hC.2.1 d_AckBookModel_comeIn_240 ?_
                obtain ⟨a_, fs_, eo_, h⟩ := z_this_spec h
                obtain ⟨w1_, o1_, hF_, ha_⟩ := z_cV_spec h
                refine x_goes hC hRc hRs hFr ha_ (z_goV (As := [.int xL1, .int ((65 : Int32) * xL1)]) hC hZ zc10 eo_ (k_AckBookModel_takeOut hT hfl hE _ _ hF_) t_1066 t_1068 ts_AckBookModel_takeOut t_12 t_1069 ⟨by decide, by decide, (by decide +kernel : (parseMethodDescriptor y_AckBookModel_takeOut.desc).map (fun d => d.parameters.length) = some 2)⟩ (by rw [hRt.1]; decide) (by rw [hRt.2]; decide) hl.1 rfl (by first | exact Nat.le_of_ble_eq_true rfl | simp [z_rfc, z_ci, z_cj]) d_AckBookModel_comeIn_241) (fun v_ hv H locs cells slots hZ => ?_)
                obtain ⟨rfl, h⟩ := hv
                generalize w1_ = w at h hZ
                exact x_vret hC hRc hRs hZ hr h d_AckBookModel_comeIn_244
            · have h := z_ifn hc h
              refine x_aload_n hC d_AckBookModel_comeIn_168 rfl (lv_at hl 0 rfl) ?_
              refine x_getR hC hZ zc10 h (by decide) t_851 (fun _ h9 => h9) d_AckBookModel_comeIn_169 (fun r129 h => ?_)
              refine lv_iload hC.1 hC.2.1 d_AckBookModel_comeIn_172 (lv_at hl 3 rfl) ?_
              refine lv_iconst (v := (1 : Int32)) hC.1 hC.2.1 d_AckBookModel_comeIn_174 (by decide) ?_
              refine lv_isub hC.1 hC.2.1 d_AckBookModel_comeIn_175 ?_
              refine x_ldL hC hZ h d_AckBookModel_comeIn_176 (fun v130 h => ?_)
              refine lv_lload_n hC.1 hC.2.1 d_AckBookModel_comeIn_177 rfl (lv_at hl 2 rfl) ?_
              refine lv_lconst (v := (1 : Int64)) hC.1 hC.2.1 d_AckBookModel_comeIn_178 (by decide) ?_
              refine lv_lsub hC.1 hC.2.1 d_AckBookModel_comeIn_179 ?_
              refine W.lcmp hC.1 hC.2.1 d_AckBookModel_comeIn_180 ?_
              refine lv_if_ne (tgt := 207) hC.1 hC.2.1 d_AckBookModel_comeIn_181 (by decide) (fun hc => ?_) (fun hc => ?_)
              · have h := z_ifn hc h
                refine x_aload_n hC d_AckBookModel_comeIn_207 rfl (lv_at hl 0 rfl) ?_
                refine x_getR hC hZ zc10 h (by decide) t_849 (fun _ h9 => h9) d_AckBookModel_comeIn_208 (fun r141 h => ?_)
                refine lv_iload_n hC.1 hC.2.1 d_AckBookModel_comeIn_211 rfl (lv_at hl 1 rfl) ?_
                refine x_ldI hC hZ h d_AckBookModel_comeIn_212 (fun v142 h => ?_)
                refine lv_bipush (v := (64 : Int32)) hC.1 hC.2.1 d_AckBookModel_comeIn_213 (by decide) ?_
                refine lv_icmp_le (tgt := 244) hC.1 hC.2.1 d_AckBookModel_comeIn_215 (by decide) (fun hc => ?_) (fun hc => ?_)
                · have h := z_ifp hc h
                  exact x_vret hC hRc hRs hZ hr h d_AckBookModel_comeIn_244
                · have h := z_ifn hc h
                  refine x_aload_n hC d_AckBookModel_comeIn_218 rfl (lv_at hl 0 rfl) ?_
                  refine x_getR hC hZ zc10 h (by decide) t_852 (fun _ h9 => h9) d_AckBookModel_comeIn_219 (fun r143 h => ?_)
                  refine lv_iload_n hC.1 hC.2.1 d_AckBookModel_comeIn_222 rfl (lv_at hl 1 rfl) ?_
                  refine x_aload_n hC d_AckBookModel_comeIn_223 rfl (lv_at hl 0 rfl) ?_
                  refine x_getR hC hZ zc10 h (by decide) t_851 (fun _ h9 => h9) d_AckBookModel_comeIn_224 (fun r144 h => ?_)
                  refine lv_bipush (v := (65 : Int32)) hC.1 hC.2.1 d_AckBookModel_comeIn_227 (by decide) ?_
                  refine lv_iload_n hC.1 hC.2.1 d_AckBookModel_comeIn_229 rfl (lv_at hl 1 rfl) ?_
                  refine lv_imul hC.1 hC.2.1 d_AckBookModel_comeIn_230 ?_
                  refine x_ldL hC hZ h d_AckBookModel_comeIn_231 (fun v145 h => ?_)
                  refine lv_lconst (v := (1 : Int64)) hC.1 hC.2.1 d_AckBookModel_comeIn_232 (by decide) ?_
                  refine lv_ladd hC.1 hC.2.1 d_AckBookModel_comeIn_233 ?_
                  refine x_stL hC hZ h d_AckBookModel_comeIn_234 (fun w H locs hZ h => ?_)
                  refine x_aload_n hC d_AckBookModel_comeIn_235 rfl (lv_at hl 0 rfl) ?_
                  refine lv_iload_n hC.1 hC.2.1 d_AckBookModel_comeIn_236 rfl (lv_at hl 1 rfl) ?_
                  refine lv_bipush (v := (65 : Int32)) hC.1 hC.2.1 d_AckBookModel_comeIn_237 (by decide) ?_
                  refine lv_iload_n hC.1 hC.2.1 d_AckBookModel_comeIn_239 rfl (lv_at hl 1 rfl) ?_
                  refine lv_imul hC.1 hC.2.1 d_AckBookModel_comeIn_240 ?_
                  obtain ⟨a_, fs_, eo_, h⟩ := z_this_spec h
                  obtain ⟨w1_, o1_, hF_, ha_⟩ := z_cV_spec h
                  refine x_goes hC hRc hRs hFr ha_ (z_goV (As := [.int xL1, .int ((65 : Int32) * xL1)]) hC hZ zc10 eo_ (k_AckBookModel_takeOut hT hfl hE _ _ hF_) t_1066 t_1068 ts_AckBookModel_takeOut t_12 t_1069 ⟨by decide, by decide, (by decide +kernel : (parseMethodDescriptor y_AckBookModel_takeOut.desc).map (fun d => d.parameters.length) = some 2)⟩ (by rw [hRt.1]; decide) (by rw [hRt.2]; decide) hl.1 rfl (by first | exact Nat.le_of_ble_eq_true rfl | simp [z_rfc, z_ci, z_cj]) d_AckBookModel_comeIn_241) (fun v_ hv H locs cells slots hZ => ?_)
                  obtain ⟨rfl, h⟩ := hv
                  generalize w1_ = w at h hZ
                  exact x_vret hC hRc hRs hZ hr h d_AckBookModel_comeIn_244
              · have h := z_ifp hc h
                refine x_aload_n hC d_AckBookModel_comeIn_184 rfl (lv_at hl 0 rfl) ?_
                refine x_getR hC hZ zc10 h (by decide) t_851 (fun _ h9 => h9) d_AckBookModel_comeIn_185 (fun r131 h => ?_)
                refine lv_iload hC.1 hC.2.1 d_AckBookModel_comeIn_188 (lv_at hl 3 rfl) ?_
                refine lv_iconst (v := (1 : Int32)) hC.1 hC.2.1 d_AckBookModel_comeIn_190 (by decide) ?_
                refine lv_isub hC.1 hC.2.1 d_AckBookModel_comeIn_191 ?_
                refine x_aload_n hC d_AckBookModel_comeIn_192 rfl (lv_at hl 0 rfl) ?_
                refine x_getR hC hZ zc10 h (by decide) t_851 (fun _ h9 => h9) d_AckBookModel_comeIn_193 (fun r132 h => ?_)
                refine lv_iload hC.1 hC.2.1 d_AckBookModel_comeIn_196 (lv_at hl 3 rfl) ?_
                refine x_ldL hC hZ h d_AckBookModel_comeIn_198 (fun v133 h => ?_)
                refine x_stL hC hZ h d_AckBookModel_comeIn_199 (fun w H locs hZ h => ?_)
                refine x_aload_n hC d_AckBookModel_comeIn_200 rfl (lv_at hl 0 rfl) ?_
                refine lv_iload_n hC.1 hC.2.1 d_AckBookModel_comeIn_201 rfl (lv_at hl 1 rfl) ?_
                refine lv_iload hC.1 hC.2.1 d_AckBookModel_comeIn_202 (lv_at hl 3 rfl) ?_
                obtain ⟨a_, fs_, eo_, h⟩ := z_this_spec h
                obtain ⟨w1_, o1_, hF_, ha_⟩ := z_cV_spec h
                refine x_goes hC hRc hRs hFr ha_ (z_goV (As := [.int xL1, .int xL4]) hC hZ zc10 eo_ (k_AckBookModel_takeOut hT hfl hE _ _ hF_) t_1066 t_1068 ts_AckBookModel_takeOut t_12 t_1069 ⟨by decide, by decide, (by decide +kernel : (parseMethodDescriptor y_AckBookModel_takeOut.desc).map (fun d => d.parameters.length) = some 2)⟩ (by rw [hRt.1]; decide) (by rw [hRt.2]; decide) hl.1 rfl (by first | exact Nat.le_of_ble_eq_true rfl | simp [z_rfc, z_ci, z_cj]) d_AckBookModel_comeIn_204) (fun v_ hv H locs cells slots hZ => ?_)
                obtain ⟨rfl, h⟩ := hv
                generalize w1_ = w at h hZ
                refine x_aload_n hC d_AckBookModel_comeIn_207 rfl (lv_at hl 0 rfl) ?_
                refine x_getR hC hZ zc10 h (by decide) t_849 (fun _ h9 => h9) d_AckBookModel_comeIn_208 (fun r135 h => ?_)
                refine lv_iload_n hC.1 hC.2.1 d_AckBookModel_comeIn_211 rfl (lv_at hl 1 rfl) ?_
                refine x_ldI hC hZ h d_AckBookModel_comeIn_212 (fun v136 h => ?_)
                refine lv_bipush (v := (64 : Int32)) hC.1 hC.2.1 d_AckBookModel_comeIn_213 (by decide) ?_
                refine lv_icmp_le (tgt := 244) hC.1 hC.2.1 d_AckBookModel_comeIn_215 (by decide) (fun hc => ?_) (fun hc => ?_)
                · have h := z_ifp hc h
                  exact x_vret hC hRc hRs hZ hr h d_AckBookModel_comeIn_244
                · have h := z_ifn hc h
                  refine x_aload_n hC d_AckBookModel_comeIn_218 rfl (lv_at hl 0 rfl) ?_
                  refine x_getR hC hZ zc10 h (by decide) t_852 (fun _ h9 => h9) d_AckBookModel_comeIn_219 (fun r137 h => ?_)
                  refine lv_iload_n hC.1 hC.2.1 d_AckBookModel_comeIn_222 rfl (lv_at hl 1 rfl) ?_
                  refine x_aload_n hC d_AckBookModel_comeIn_223 rfl (lv_at hl 0 rfl) ?_
                  refine x_getR hC hZ zc10 h (by decide) t_851 (fun _ h9 => h9) d_AckBookModel_comeIn_224 (fun r138 h => ?_)
                  refine lv_bipush (v := (65 : Int32)) hC.1 hC.2.1 d_AckBookModel_comeIn_227 (by decide) ?_
                  refine lv_iload_n hC.1 hC.2.1 d_AckBookModel_comeIn_229 rfl (lv_at hl 1 rfl) ?_
                  refine lv_imul hC.1 hC.2.1 d_AckBookModel_comeIn_230 ?_
                  refine x_ldL hC hZ h d_AckBookModel_comeIn_231 (fun v139 h => ?_)
                  refine lv_lconst (v := (1 : Int64)) hC.1 hC.2.1 d_AckBookModel_comeIn_232 (by decide) ?_
                  refine lv_ladd hC.1 hC.2.1 d_AckBookModel_comeIn_233 ?_
                  refine x_stL hC hZ h d_AckBookModel_comeIn_234 (fun w H locs hZ h => ?_)
                  refine x_aload_n hC d_AckBookModel_comeIn_235 rfl (lv_at hl 0 rfl) ?_
                  refine lv_iload_n hC.1 hC.2.1 d_AckBookModel_comeIn_236 rfl (lv_at hl 1 rfl) ?_
                  refine lv_bipush (v := (65 : Int32)) hC.1 hC.2.1 d_AckBookModel_comeIn_237 (by decide) ?_
                  refine lv_iload_n hC.1 hC.2.1 d_AckBookModel_comeIn_239 rfl (lv_at hl 1 rfl) ?_
                  refine lv_imul hC.1 hC.2.1 d_AckBookModel_comeIn_240 ?_
                  obtain ⟨a_, fs_, eo_, h⟩ := z_this_spec h
                  obtain ⟨w1_, o1_, hF_, ha_⟩ := z_cV_spec h
                  refine x_goes hC hRc hRs hFr ha_ (z_goV (As := [.int xL1, .int ((65 : Int32) * xL1)]) hC hZ zc10 eo_ (k_AckBookModel_takeOut hT hfl hE _ _ hF_) t_1066 t_1068 ts_AckBookModel_takeOut t_12 t_1069 ⟨by decide, by decide, (by decide +kernel : (parseMethodDescriptor y_AckBookModel_takeOut.desc).map (fun d => d.parameters.length) = some 2)⟩ (by rw [hRt.1]; decide) (by rw [hRt.2]; decide) hl.1 rfl (by first | exact Nat.le_of_ble_eq_true rfl | simp [z_rfc, z_ci, z_cj]) d_AckBookModel_comeIn_241) (fun v_ hv H locs cells slots hZ => ?_)
                  obtain ⟨rfl, h⟩ := hv
                  generalize w1_ = w at h hZ
                  exact x_vret hC hRc hRs hZ hr h d_AckBookModel_comeIn_244
      · have h := z_ifn hc h
        refine x_aload_n hC d_AckBookModel_comeIn_36 rfl (lv_at hl 0 rfl) ?_
        refine x_getR hC hZ zc10 h (by decide) t_850 (fun _ h9 => h9) d_AckBookModel_comeIn_37 (fun r171 h => ?_)
        refine lv_iload hC.1 hC.2.1 d_AckBookModel_comeIn_40 (lv_at hl 3 rfl) ?_
        refine x_aload_n hC d_AckBookModel_comeIn_42 rfl (lv_at hl 0 rfl) ?_
        refine x_getR hC hZ zc10 h (by decide) t_850 (fun _ h9 => h9) d_AckBookModel_comeIn_43 (fun r172 h => ?_)
        refine lv_iload hC.1 hC.2.1 d_AckBookModel_comeIn_46 (lv_at hl 3 rfl) ?_
        refine lv_iconst (v := (1 : Int32)) hC.1 hC.2.1 d_AckBookModel_comeIn_48 (by decide) ?_
        refine lv_isub hC.1 hC.2.1 d_AckBookModel_comeIn_49 ?_
        refine x_ldL hC hZ h d_AckBookModel_comeIn_50 (fun v173 h => ?_)
        refine x_stL hC hZ h d_AckBookModel_comeIn_51 (fun w H locs hZ h => ?_)
        refine x_aload_n hC d_AckBookModel_comeIn_52 rfl (lv_at hl 0 rfl) ?_
        refine x_getR hC hZ zc10 h (by decide) t_851 (fun _ h9 => h9) d_AckBookModel_comeIn_53 (fun r174 h => ?_)
        refine lv_iload hC.1 hC.2.1 d_AckBookModel_comeIn_56 (lv_at hl 3 rfl) ?_
        refine x_aload_n hC d_AckBookModel_comeIn_58 rfl (lv_at hl 0 rfl) ?_
        refine x_getR hC hZ zc10 h (by decide) t_851 (fun _ h9 => h9) d_AckBookModel_comeIn_59 (fun r175 h => ?_)
        refine lv_iload hC.1 hC.2.1 d_AckBookModel_comeIn_62 (lv_at hl 3 rfl) ?_
        refine lv_iconst (v := (1 : Int32)) hC.1 hC.2.1 d_AckBookModel_comeIn_64 (by decide) ?_
        refine lv_isub hC.1 hC.2.1 d_AckBookModel_comeIn_65 ?_
        refine x_ldL hC hZ h d_AckBookModel_comeIn_66 (fun v176 h => ?_)
        refine x_stL hC hZ h d_AckBookModel_comeIn_67 (fun w H locs hZ h => ?_)
        refine lv_iinc (lv' := [(4, .int (xL4 + (-1 : Int32))), (0, va_rf rL0), (1, .int xL1), (2, .long yL2)]) hC.1 hC.2.1 d_AckBookModel_comeIn_68 hl (k := 3) rfl rfl (by decide) (by first | rfl | simp [z_rfc, z_ci, z_cj]) (fun ls hl => ?_)
        refine lv_goto (tgt := 13) hC.1 hC.2.1 d_AckBookModel_comeIn_71 (by decide) ?_
        exact ih _ _ _ _ _ _ h _ _ _ _ _ hZ (lv_sub hl [1, 2, 3, 0] rfl)
set_option maxHeartbeats 4000000 in
set_option maxRecDepth 100000 in
theorem k_AckBookModel_comeIn {b0 : Nat} {H0 : Heap} {D : va_G} {vu vs : Value} {X : Nat} {l : Launch} (hT : z_TB (zGG b0 H0 D vu vs X)) (hfl : l.flags = pinnedFlags ++ [noTraceFlag]) (hE : vu.isRef = true ∧ vs.isRef = true) {a0 : Option Nat} {pI1 : Int32} {pJ2 : Int64} (F : Nat) {w : zW} (res : zO × zW) (h : f_AckBookModel_comeIn F X a0 pI1 pJ2 w = some res) : z_Ct (zGG b0 H0 D vu vs X) l y_AckBookModel_comeIn (.code y_AckBookModel_comeIn c_AckBookModel_comeIn 5 (none)) 1 23 [va_rf a0, .int pI1, .long pJ2] w res := by
  refine z_ct hT hfl (by decide) (by simp only [z_sl_i, z_sl_j, z_sl_r, z_sl_n]; decide) ?_
  intro p e R s m args below meth c hC hr hRc hRs hRt hnm hFr H ls hZ hl
  simp only [z_la_i, z_la_j, z_la_r, z_la_n] at hl
  have hl : lv_has ls 5 [(0, va_rf a0), (1, .int pI1), (2, .long pJ2)] := hl
  unfold f_AckBookModel_comeIn at h
  refine lv_bipush (v := (65 : Int32)) hC.1 hC.2.1 d_AckBookModel_comeIn_0 (by decide) ?_
  refine lv_iload_n hC.1 hC.2.1 d_AckBookModel_comeIn_2 rfl (lv_at hl 1 rfl) ?_
  refine lv_imul hC.1 hC.2.1 d_AckBookModel_comeIn_3 ?_
  refine x_aload_n hC d_AckBookModel_comeIn_4 rfl (lv_at hl 0 rfl) ?_
  refine x_getR hC hZ zc10 h (by decide) t_849 (fun _ h9 => h9) d_AckBookModel_comeIn_5 (fun r177 h => ?_)
  refine lv_iload_n hC.1 hC.2.1 d_AckBookModel_comeIn_8 rfl (lv_at hl 1 rfl) ?_
  refine x_ldI hC hZ h d_AckBookModel_comeIn_9 (fun v178 h => ?_)
  refine lv_iadd hC.1 hC.2.1 d_AckBookModel_comeIn_10 ?_
  refine lv_istore (i := 4) (lv' := [(4, .int (((65 : Int32) * pI1) + v178)), (0, va_rf a0), (1, .int pI1), (2, .long pJ2)]) hC.1 hC.2.1 d_AckBookModel_comeIn_11 hl (by decide) (by first | rfl | simp [z_rfc, z_ci, z_cj]) (fun ls hl => ?_)
  exact (kj_AckBookModel_comeIn hT hfl hE hC hr hRc hRs hFr hRt hnm F) _ _ _ _ _ _ h _ _ _ _ _ hZ (lv_sub hl [1, 2, 3, 0] rfl)
