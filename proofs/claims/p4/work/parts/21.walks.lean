def j_AckBook_Sent_hasAcknowledged (F X : Nat) : Nat → Option Nat → Int32 → Int32 → zW → zR
  | 0, _, _, _, _ => none
  | N + 1, rL0, xL2, xL3, w =>
    if xL2 ≤ xL3 then (
      some (.inl (some (.int (0 : Int32))), w))
    else (
      z_getR w 2 2 rL0 fun r1 =>
      z_this w 4 r1 <|
      z_cI (f_ArrayList_size F X r1 w) fun v3 w =>
      if v3 ≤ xL3 then (
        some (.inl (some (.int (0 : Int32))), w))
      else (
        z_getR w 2 2 rL0 fun r4 =>
        z_this w 4 r4 <|
        z_cR (f_ArrayList_get F X r4 xL3 w) fun r6 w =>
        z_cast w 9 r6 <|
        z_getI w 9 6 r6 fun v7 =>
        if v7 = (1 : Int32) then (
          some (.inl (some (.int (1 : Int32))), w))
        else (
          (j_AckBook_Sent_hasAcknowledged F X N) rL0 xL2 (xL3 + (1 : Int32)) w)))
set_option maxHeartbeats 4000000 in
set_option maxRecDepth 100000 in
theorem kj_AckBook_Sent_hasAcknowledged {b0 : Nat} {H0 : Heap} {D : va_G} {vu vs : Value} {X M : Nat} {l : Launch} (hT : z_TB (zGG b0 H0 D vu vs X M)) (hfl : l.flags = pinnedFlags ++ [noTraceFlag]) (hE : vu.isRef = true ∧ vs.isRef = true) {p : Program} {e : Env} {R : Room} {s : State} {m : MethodId} {args : Array Value} {below : List Frame} {meth : Method} {c : Code} {w0 : zW} {F : Nat} (hC : z_C (zGG b0 H0 D vu vs X M) p e s m meth c c_AckBook_Sent_hasAcknowledged 4 y_AckBook_Sent_hasAcknowledged.cls) (hr : meth.sig.returnType = (some FieldType.boolean)) (hRc : R.cells = w0.2.1) (hRs : R.slots = w0.2.2.1) (hFr : c.exceptionTable.toList = []) (hRt : R.frames = 3 ∧ R.locals = 64) (hnm : meth.name = y_AckBook_Sent_hasAcknowledged.name) : ∀ N : Nat, (∀ (rL0 : Option Nat) (xL2 : Int32) (xL3 : Int32) (w : zW) (res : zO × zW), j_AckBook_Sent_hasAcknowledged F X N rL0 xL2 xL3 w = some res → ∀ (H : Heap) (locs : List Loc) (cells slots : Nat) (ls : Array Slot), z_Z (zGG b0 H0 D vu vs X M) R s w H locs cells slots → lv_has ls 4 [(0, va_rf rL0), (2, .int xL2), (3, .int xL3)] → W p l e R s m args below meth c H locs cells slots (z_Q (zGG b0 H0 D vu vs X M) below s w0 res) (F0 m 4 ls [])) := by
  intro N
  induction N with
  | zero =>
    intro rL0 xL2 xL3 w res h
    rw [j_AckBook_Sent_hasAcknowledged] at h
    cases h
  | succ N ih =>
    intro rL0 xL2 xL3 w res h H locs cells slots ls hZ hl
    rw [j_AckBook_Sent_hasAcknowledged] at h
    refine lv_iload_n hC.1 hC.2.1 d_AckBook_Sent_hasAcknowledged_4 rfl (lv_at hl 2 rfl) ?_
    refine lv_iload_n hC.1 hC.2.1 d_AckBook_Sent_hasAcknowledged_5 rfl (lv_at hl 1 rfl) ?_
    refine lv_icmp_ge (tgt := 46) hC.1 hC.2.1 d_AckBook_Sent_hasAcknowledged_6 (by decide) (fun hc => ?_) (fun hc => ?_)
    · have h := z_ifp hc h
      refine lv_iconst (v := (0 : Int32)) hC.1 hC.2.1 d_AckBook_Sent_hasAcknowledged_46 (by decide) ?_
      exact x_iret hC hRc hRs hZ hr rfl h d_AckBook_Sent_hasAcknowledged_47
    · have h := z_ifn hc h
      refine lv_iload_n hC.1 hC.2.1 d_AckBook_Sent_hasAcknowledged_9 rfl (lv_at hl 2 rfl) ?_
      refine x_aload_n hC d_AckBook_Sent_hasAcknowledged_10 rfl (lv_at hl 0 rfl) ?_
      refine x_getR hC hZ zc2 h (by decide) t_90 (fun _ h9 => h9) d_AckBook_Sent_hasAcknowledged_11 (fun r1 h => ?_)
      obtain ⟨a_, fs_, eo_, h⟩ := z_this_spec h
      obtain ⟨w1_, o1_, hF_, ha_⟩ := z_cI_spec h
      refine x_goes hC hRc hRs hFr ha_ (z_goV (As := []) hC hZ zc4 eo_ (k_ArrayList_size hT hfl hE _ _ hF_) t_308 t_309 t_310 t_7 t_311 ⟨by decide, by decide, (by decide +kernel : (parseMethodDescriptor y_ArrayList_size.desc).map (fun d => d.parameters.length) = some 0)⟩ (by rw [hRt.1]; decide) (by rw [hRt.2]; decide) hl.1 rfl (by first | exact Nat.le_of_ble_eq_true rfl | simp [z_rfc, z_ci, z_cj]) d_AckBook_Sent_hasAcknowledged_14) (fun v_ hv H locs cells slots hZ => ?_)
      obtain ⟨v3, rfl, h⟩ := hv
      generalize w1_ = w at h hZ
      refine lv_icmp_ge (tgt := 46) hC.1 hC.2.1 d_AckBook_Sent_hasAcknowledged_17 (by decide) (fun hc => ?_) (fun hc => ?_)
      · have h := z_ifp hc h
        refine lv_iconst (v := (0 : Int32)) hC.1 hC.2.1 d_AckBook_Sent_hasAcknowledged_46 (by decide) ?_
        exact x_iret hC hRc hRs hZ hr rfl h d_AckBook_Sent_hasAcknowledged_47
      · have h := z_ifn hc h
        refine x_aload_n hC d_AckBook_Sent_hasAcknowledged_20 rfl (lv_at hl 0 rfl) ?_
        refine x_getR hC hZ zc2 h (by decide) t_90 (fun _ h9 => h9) d_AckBook_Sent_hasAcknowledged_21 (fun r4 h => ?_)
        refine lv_iload_n hC.1 hC.2.1 d_AckBook_Sent_hasAcknowledged_24 rfl (lv_at hl 2 rfl) ?_
        obtain ⟨a_, fs_, eo_, h⟩ := z_this_spec h
        obtain ⟨w1_, o1_, hF_, ha_⟩ := z_cR_spec h
        refine x_goes hC hRc hRs hFr ha_ (z_goV (As := [.int xL3]) hC hZ zc4 eo_ (k_ArrayList_get hT hfl hE _ _ hF_) t_312 t_313 t_314 t_7 t_315 ⟨by decide, by decide, (by decide +kernel : (parseMethodDescriptor y_ArrayList_get.desc).map (fun d => d.parameters.length) = some 1)⟩ (by rw [hRt.1]; decide) (by rw [hRt.2]; decide) hl.1 rfl (by first | exact Nat.le_of_ble_eq_true rfl | simp [z_rfc, z_ci, z_cj]) d_AckBook_Sent_hasAcknowledged_25) (fun v_ hv H locs cells slots hZ => ?_)
        obtain ⟨r6, rfl, h⟩ := hv
        generalize w1_ = w at h hZ
        refine x_cast hC hZ zc9 h t_326 d_AckBook_Sent_hasAcknowledged_28 (fun h => ?_)
        refine x_getI hC hZ zc9 h (by decide) t_501 (fun _ h9 => h9) d_AckBook_Sent_hasAcknowledged_31 (fun v7 h => ?_)
        refine lv_iconst (v := (1 : Int32)) hC.1 hC.2.1 d_AckBook_Sent_hasAcknowledged_34 (by decide) ?_
        refine lv_icmp_ne (tgt := 40) hC.1 hC.2.1 d_AckBook_Sent_hasAcknowledged_35 (by decide) (fun hc => ?_) (fun hc => ?_)
        · have h := z_ifn hc h
          refine lv_iinc (lv' := [(3, .int (xL3 + (1 : Int32))), (0, va_rf rL0), (2, .int xL2)]) hC.1 hC.2.1 d_AckBook_Sent_hasAcknowledged_40 hl (k := 2) rfl rfl (by decide) (by first | rfl | simp [z_rfc, z_ci, z_cj]) (fun ls hl => ?_)
          refine lv_goto (tgt := 4) hC.1 hC.2.1 d_AckBook_Sent_hasAcknowledged_43 (by decide) ?_
          exact ih _ _ _ _ _ h _ _ _ _ _ hZ (lv_sub hl [1, 2, 0] rfl)
        · have h := z_ifp hc h
          refine lv_iconst (v := (1 : Int32)) hC.1 hC.2.1 d_AckBook_Sent_hasAcknowledged_38 (by decide) ?_
          exact x_iret hC hRc hRs hZ hr rfl h d_AckBook_Sent_hasAcknowledged_39
def f_AckBook_Sent_hasAcknowledged (F X : Nat) (a0 : Option Nat) (pI1 : Int32) (pI2 : Int32) (w : zW) : zR :=
  (j_AckBook_Sent_hasAcknowledged F X F) a0 pI2 (pI1 + (1 : Int32)) w
set_option maxHeartbeats 4000000 in
set_option maxRecDepth 100000 in
theorem k_AckBook_Sent_hasAcknowledged {b0 : Nat} {H0 : Heap} {D : va_G} {vu vs : Value} {X M : Nat} {l : Launch} (hT : z_TB (zGG b0 H0 D vu vs X M)) (hfl : l.flags = pinnedFlags ++ [noTraceFlag]) (hE : vu.isRef = true ∧ vs.isRef = true) {a0 : Option Nat} {pI1 : Int32} {pI2 : Int32} (F : Nat) {w : zW} (res : zO × zW) (h : f_AckBook_Sent_hasAcknowledged F X a0 pI1 pI2 w = some res) : z_Ct (zGG b0 H0 D vu vs X M) l y_AckBook_Sent_hasAcknowledged (.code y_AckBook_Sent_hasAcknowledged c_AckBook_Sent_hasAcknowledged 4 (some FieldType.boolean)) 3 64 [va_rf a0, .int pI1, .int pI2] w res := by
  refine z_ct hT hfl (by decide) (by simp only [z_sl_i, z_sl_j, z_sl_r, z_sl_n]; decide) ?_
  intro p e R s m args below meth c hC hr hRc hRs hRt hnm hFr H ls hZ hl
  simp only [z_la_i, z_la_j, z_la_r, z_la_n] at hl
  have hl : lv_has ls 4 [(0, va_rf a0), (1, .int pI1), (2, .int pI2)] := hl
  unfold f_AckBook_Sent_hasAcknowledged at h
  refine lv_iload_n hC.1 hC.2.1 d_AckBook_Sent_hasAcknowledged_0 rfl (lv_at hl 1 rfl) ?_
  refine lv_iconst (v := (1 : Int32)) hC.1 hC.2.1 d_AckBook_Sent_hasAcknowledged_1 (by decide) ?_
  refine lv_iadd hC.1 hC.2.1 d_AckBook_Sent_hasAcknowledged_2 ?_
  refine lv_istore_n (i := 3) (lv' := [(3, .int (pI1 + (1 : Int32))), (0, va_rf a0), (1, .int pI1), (2, .int pI2)]) hC.1 hC.2.1 d_AckBook_Sent_hasAcknowledged_3 rfl hl (by decide) (by first | rfl | simp [z_rfc, z_ci, z_cj]) (fun ls hl => ?_)
  exact (kj_AckBook_Sent_hasAcknowledged hT hfl hE hC hr hRc hRs hFr hRt hnm F) _ _ _ _ _ h _ _ _ _ _ hZ (lv_sub hl [1, 3, 0] rfl)
def q_AckBook_Sent_wasCutOff_43 (F X : Nat) (J : Option Nat → Int32 → Int32 → Option Nat → Option Nat → Option Nat → zW → zR) (rL0 : Option Nat) (xL2 : Int32) (xL3 : Int32) (rL6 : Option Nat) (rS0 : Option Nat) (w : zW) : zR :=
  z_getR w 9 7 rL6 fun r1 =>
  J rL0 xL2 xL3 rS0 rL6 r1 w
set_option maxHeartbeats 4000000 in
set_option maxRecDepth 100000 in
theorem kq_AckBook_Sent_wasCutOff_43 {b0 : Nat} {H0 : Heap} {D : va_G} {vu vs : Value} {X M : Nat} {l : Launch} (hT : z_TB (zGG b0 H0 D vu vs X M)) (hfl : l.flags = pinnedFlags ++ [noTraceFlag]) (hE : vu.isRef = true ∧ vs.isRef = true) {p : Program} {e : Env} {R : Room} {s : State} {m : MethodId} {args : Array Value} {below : List Frame} {meth : Method} {c : Code} {w0 : zW} {F : Nat} (hC : z_C (zGG b0 H0 D vu vs X M) p e s m meth c c_AckBook_Sent_wasCutOff 7 y_AckBook_Sent_wasCutOff.cls) (hr : meth.sig.returnType = (some FieldType.boolean)) (hRc : R.cells = w0.2.1) (hRs : R.slots = w0.2.2.1) (hFr : c.exceptionTable.toList = []) (hRt : R.frames = 4 ∧ R.locals = 87) (hnm : meth.name = y_AckBook_Sent_wasCutOff.name) {J : Option Nat → Int32 → Int32 → Option Nat → Option Nat → Option Nat → zW → zR} (hJ : (∀ (rL0 : Option Nat) (xL2 : Int32) (xL3 : Int32) (rL4 : Option Nat) (rL5 : Option Nat) (rL6 : Option Nat) (w : zW) (res : zO × zW), J rL0 xL2 xL3 rL4 rL5 rL6 w = some res → ∀ (H : Heap) (locs : List Loc) (cells slots : Nat) (ls : Array Slot), z_Z (zGG b0 H0 D vu vs X M) R s w H locs cells slots → lv_has ls 7 [(0, va_rf rL0), (2, .int xL2), (3, .int xL3), (4, va_rf rL4), (5, va_rf rL5), (6, va_rf rL6)] → W p l e R s m args below meth c H locs cells slots (z_Q (zGG b0 H0 D vu vs X M) below s w0 res) (F0 m 9 ls []))) (rL0 : Option Nat) (xL2 : Int32) (xL3 : Int32) (rL6 : Option Nat) (rS0 : Option Nat) (w : zW) (res : zO × zW) (h : q_AckBook_Sent_wasCutOff_43 F X J rL0 xL2 xL3 rL6 rS0 w = some res) (H : Heap) (locs : List Loc) (cells slots : Nat) (ls : Array Slot) (hZ : z_Z (zGG b0 H0 D vu vs X M) R s w H locs cells slots) (hl : lv_has ls 7 [(0, va_rf rL0), (2, .int xL2), (3, .int xL3), (6, va_rf rL6)]) : W p l e R s m args below meth c H locs cells slots (z_Q (zGG b0 H0 D vu vs X M) below s w0 res) (F0 m 43 ls [va_rf rS0]) := by
  unfold q_AckBook_Sent_wasCutOff_43 at h
  refine x_astore (i := 4) (lv' := [(4, va_rf rS0), (0, va_rf rL0), (2, .int xL2), (3, .int xL3), (6, va_rf rL6)]) hC d_AckBook_Sent_wasCutOff_43 hl (by decide) (by first | rfl | simp [z_rfc, z_ci, z_cj]) (fun ls hl => ?_)
  refine x_aload hC d_AckBook_Sent_wasCutOff_45 (lv_at hl 4 rfl) ?_
  refine x_astore (i := 5) (lv' := [(5, va_rf rL6), (4, va_rf rS0), (0, va_rf rL0), (2, .int xL2), (3, .int xL3), (6, va_rf rL6)]) hC d_AckBook_Sent_wasCutOff_47 hl (by decide) (by first | rfl | simp [z_rfc, z_ci, z_cj]) (fun ls hl => ?_)
  refine x_aload hC d_AckBook_Sent_wasCutOff_49 (lv_at hl 5 rfl) ?_
  refine x_getR hC hZ zc9 h (by decide) t_505 (fun _ h9 => h9) d_AckBook_Sent_wasCutOff_51 (fun r1 h => ?_)
  refine x_astore (i := 6) (lv' := [(6, va_rf r1), (5, va_rf rL6), (4, va_rf rS0), (0, va_rf rL0), (2, .int xL2), (3, .int xL3)]) hC d_AckBook_Sent_wasCutOff_54 hl (by decide) (by first | rfl | simp [z_rfc, z_ci, z_cj]) (fun ls hl => ?_)
  refine lv_goto (tgt := 9) hC.1 hC.2.1 d_AckBook_Sent_wasCutOff_56 (by decide) ?_
  exact hJ _ _ _ _ _ _ _ _ h _ _ _ _ _ hZ (lv_sub hl [3, 4, 5, 2, 1, 0] rfl)
def j_AckBook_Sent_wasCutOff (F X : Nat) : Nat → Option Nat → Int32 → Int32 → Option Nat → Option Nat → Option Nat → zW → zR
  | 0, _, _, _, _, _, _, _ => none
  | N + 1, rL0, xL2, xL3, rL4, rL5, rL6, w =>
    if rL6 = none then (
      if rL4 = none then (
        some (.inl (some (.int (0 : Int32))), w))
      else (
        if rL5 = none then (
          some (.inl (some (.int (0 : Int32))), w))
        else (
          z_getI w 9 2 rL5 fun v2 =>
          z_getI w 9 2 rL4 fun v3 =>
          if (v2 - v3) ≤ xL3 then (
            some (.inl (some (.int (0 : Int32))), w))
          else (
            z_getI w 9 0 rL4 fun v4 =>
            z_getI w 9 0 rL5 fun v5 =>
            z_this w 2 rL0 <|
            z_cI (f_AckBook_Sent_hasAcknowledged F X rL0 v4 v5 w) fun v7 w =>
            if v7 = 0 then (
              some (.inl (some (.int (1 : Int32))), w))
            else (
              some (.inl (some (.int (0 : Int32))), w))))))
    else (
      z_getI w 9 3 rL6 fun v8 =>
      if v8 = 0 then (
        z_getR w 9 7 rL6 fun r9 =>
        (j_AckBook_Sent_wasCutOff F X N) rL0 xL2 xL3 rL4 rL5 r9 w)
      else (
        z_getI w 9 2 rL6 fun v10 =>
        if v10 ≤ xL2 then (
          z_getR w 9 7 rL6 fun r11 =>
          (j_AckBook_Sent_wasCutOff F X N) rL0 xL2 xL3 rL4 rL5 r11 w)
        else (
          if rL4 = none then (
            q_AckBook_Sent_wasCutOff_43 F X (j_AckBook_Sent_wasCutOff F X N) rL0 xL2 xL3 rL6 rL6 w)
          else (
            q_AckBook_Sent_wasCutOff_43 F X (j_AckBook_Sent_wasCutOff F X N) rL0 xL2 xL3 rL6 rL4 w))))
set_option maxHeartbeats 4000000 in
set_option maxRecDepth 100000 in
theorem kj_AckBook_Sent_wasCutOff {b0 : Nat} {H0 : Heap} {D : va_G} {vu vs : Value} {X M : Nat} {l : Launch} (hT : z_TB (zGG b0 H0 D vu vs X M)) (hfl : l.flags = pinnedFlags ++ [noTraceFlag]) (hE : vu.isRef = true ∧ vs.isRef = true) {p : Program} {e : Env} {R : Room} {s : State} {m : MethodId} {args : Array Value} {below : List Frame} {meth : Method} {c : Code} {w0 : zW} {F : Nat} (hC : z_C (zGG b0 H0 D vu vs X M) p e s m meth c c_AckBook_Sent_wasCutOff 7 y_AckBook_Sent_wasCutOff.cls) (hr : meth.sig.returnType = (some FieldType.boolean)) (hRc : R.cells = w0.2.1) (hRs : R.slots = w0.2.2.1) (hFr : c.exceptionTable.toList = []) (hRt : R.frames = 4 ∧ R.locals = 87) (hnm : meth.name = y_AckBook_Sent_wasCutOff.name) : ∀ N : Nat, (∀ (rL0 : Option Nat) (xL2 : Int32) (xL3 : Int32) (rL4 : Option Nat) (rL5 : Option Nat) (rL6 : Option Nat) (w : zW) (res : zO × zW), j_AckBook_Sent_wasCutOff F X N rL0 xL2 xL3 rL4 rL5 rL6 w = some res → ∀ (H : Heap) (locs : List Loc) (cells slots : Nat) (ls : Array Slot), z_Z (zGG b0 H0 D vu vs X M) R s w H locs cells slots → lv_has ls 7 [(0, va_rf rL0), (2, .int xL2), (3, .int xL3), (4, va_rf rL4), (5, va_rf rL5), (6, va_rf rL6)] → W p l e R s m args below meth c H locs cells slots (z_Q (zGG b0 H0 D vu vs X M) below s w0 res) (F0 m 9 ls [])) := by
  intro N
  induction N with
  | zero =>
    intro rL0 xL2 xL3 rL4 rL5 rL6 w res h
    rw [j_AckBook_Sent_wasCutOff] at h
    cases h
  | succ N ih =>
    intro rL0 xL2 xL3 rL4 rL5 rL6 w res h H locs cells slots ls hZ hl
    rw [j_AckBook_Sent_wasCutOff] at h
    refine x_aload hC d_AckBook_Sent_wasCutOff_9 (lv_at hl 5 rfl) ?_
    refine x_ifnull (tgt := 59) hC d_AckBook_Sent_wasCutOff_11 (by decide) (fun hc => ?_) (fun hc => ?_)
    · have h := z_ifp hc h
      refine x_aload hC d_AckBook_Sent_wasCutOff_59 (lv_at hl 3 rfl) ?_
      refine x_ifnull (tgt := 69) hC d_AckBook_Sent_wasCutOff_61 (by decide) (fun hc => ?_) (fun hc => ?_)
      · have h := z_ifp hc h
        refine lv_iconst (v := (0 : Int32)) hC.1 hC.2.1 d_AckBook_Sent_wasCutOff_69 (by decide) ?_
        exact x_iret hC hRc hRs hZ hr rfl h d_AckBook_Sent_wasCutOff_70
      · have h := z_ifn hc h
        refine x_aload hC d_AckBook_Sent_wasCutOff_64 (lv_at hl 4 rfl) ?_
        refine x_ifnonnull (tgt := 71) hC d_AckBook_Sent_wasCutOff_66 (by decide) (fun hc => ?_) (fun hc => ?_)
        · have h := z_ifn hc h
          refine x_aload hC d_AckBook_Sent_wasCutOff_71 (lv_at hl 4 rfl) ?_
          refine x_getI hC hZ zc9 h (by decide) t_491 (fun _ h9 => h9) d_AckBook_Sent_wasCutOff_73 (fun v2 h => ?_)
          refine x_aload hC d_AckBook_Sent_wasCutOff_76 (lv_at hl 3 rfl) ?_
          refine x_getI hC hZ zc9 h (by decide) t_491 (fun _ h9 => h9) d_AckBook_Sent_wasCutOff_78 (fun v3 h => ?_)
          refine lv_isub hC.1 hC.2.1 d_AckBook_Sent_wasCutOff_81 ?_
          refine lv_iload_n hC.1 hC.2.1 d_AckBook_Sent_wasCutOff_82 rfl (lv_at hl 2 rfl) ?_
          refine lv_icmp_le (tgt := 107) hC.1 hC.2.1 d_AckBook_Sent_wasCutOff_83 (by decide) (fun hc => ?_) (fun hc => ?_)
          · have h := z_ifp hc h
            refine lv_iconst (v := (0 : Int32)) hC.1 hC.2.1 d_AckBook_Sent_wasCutOff_107 (by decide) ?_
            exact x_iret hC hRc hRs hZ hr rfl h d_AckBook_Sent_wasCutOff_108
          · have h := z_ifn hc h
            refine x_aload_n hC d_AckBook_Sent_wasCutOff_86 rfl (lv_at hl 0 rfl) ?_
            refine x_aload hC d_AckBook_Sent_wasCutOff_87 (lv_at hl 3 rfl) ?_
            refine x_getI hC hZ zc9 h (by decide) t_487 (fun _ h9 => h9) d_AckBook_Sent_wasCutOff_89 (fun v4 h => ?_)
            refine x_aload hC d_AckBook_Sent_wasCutOff_92 (lv_at hl 4 rfl) ?_
            refine x_getI hC hZ zc9 h (by decide) t_487 (fun _ h9 => h9) d_AckBook_Sent_wasCutOff_94 (fun v5 h => ?_)
            obtain ⟨a_, fs_, eo_, h⟩ := z_this_spec h
            obtain ⟨w1_, o1_, hF_, ha_⟩ := z_cI_spec h
            refine x_goes hC hRc hRs hFr ha_ (z_goV (As := [.int v4, .int v5]) hC hZ zc2 eo_ (k_AckBook_Sent_hasAcknowledged hT hfl hE _ _ hF_) t_352 t_354 ts_AckBook_Sent_hasAcknowledged t_3 t_355 ⟨by decide, by decide, (by decide +kernel : (parseMethodDescriptor y_AckBook_Sent_hasAcknowledged.desc).map (fun d => d.parameters.length) = some 2)⟩ (by rw [hRt.1]; decide) (by rw [hRt.2]; decide) hl.1 rfl (by first | exact Nat.le_of_ble_eq_true rfl | simp [z_rfc, z_ci, z_cj]) d_AckBook_Sent_wasCutOff_97) (fun v_ hv H locs cells slots hZ => ?_)
            obtain ⟨v7, rfl, h⟩ := hv
            generalize w1_ = w at h hZ
            refine lv_if_ne (tgt := 107) hC.1 hC.2.1 d_AckBook_Sent_wasCutOff_100 (by decide) (fun hc => ?_) (fun hc => ?_)
            · have h := z_ifn hc h
              refine lv_iconst (v := (0 : Int32)) hC.1 hC.2.1 d_AckBook_Sent_wasCutOff_107 (by decide) ?_
              exact x_iret hC hRc hRs hZ hr rfl h d_AckBook_Sent_wasCutOff_108
            · have h := z_ifp hc h
              refine lv_iconst (v := (1 : Int32)) hC.1 hC.2.1 d_AckBook_Sent_wasCutOff_103 (by decide) ?_
              refine lv_goto (tgt := 108) hC.1 hC.2.1 d_AckBook_Sent_wasCutOff_104 (by decide) ?_
              exact x_iret hC hRc hRs hZ hr rfl h d_AckBook_Sent_wasCutOff_108
        · have h := z_ifp hc h
          refine lv_iconst (v := (0 : Int32)) hC.1 hC.2.1 d_AckBook_Sent_wasCutOff_69 (by decide) ?_
          exact x_iret hC hRc hRs hZ hr rfl h d_AckBook_Sent_wasCutOff_70
    · have h := z_ifn hc h
      refine x_aload hC d_AckBook_Sent_wasCutOff_14 (lv_at hl 5 rfl) ?_
      refine x_getI hC hZ zc9 h (by decide) t_495 (fun _ h9 => h9) d_AckBook_Sent_wasCutOff_16 (fun v8 h => ?_)
      refine lv_if_eq (tgt := 49) hC.1 hC.2.1 d_AckBook_Sent_wasCutOff_19 (by decide) (fun hc => ?_) (fun hc => ?_)
      · have h := z_ifp hc h
        refine x_aload hC d_AckBook_Sent_wasCutOff_49 (lv_at hl 5 rfl) ?_
        refine x_getR hC hZ zc9 h (by decide) t_505 (fun _ h9 => h9) d_AckBook_Sent_wasCutOff_51 (fun r9 h => ?_)
        refine x_astore (i := 6) (lv' := [(6, va_rf r9), (0, va_rf rL0), (2, .int xL2), (3, .int xL3), (4, va_rf rL4), (5, va_rf rL5)]) hC d_AckBook_Sent_wasCutOff_54 hl (by decide) (by first | rfl | simp [z_rfc, z_ci, z_cj]) (fun ls hl => ?_)
        refine lv_goto (tgt := 9) hC.1 hC.2.1 d_AckBook_Sent_wasCutOff_56 (by decide) ?_
        exact ih _ _ _ _ _ _ _ _ h _ _ _ _ _ hZ (lv_sub hl [1, 2, 3, 4, 5, 0] rfl)
      · have h := z_ifn hc h
        refine x_aload hC d_AckBook_Sent_wasCutOff_22 (lv_at hl 5 rfl) ?_
        refine x_getI hC hZ zc9 h (by decide) t_491 (fun _ h9 => h9) d_AckBook_Sent_wasCutOff_24 (fun v10 h => ?_)
        refine lv_iload_n hC.1 hC.2.1 d_AckBook_Sent_wasCutOff_27 rfl (lv_at hl 1 rfl) ?_
        refine lv_icmp_le (tgt := 49) hC.1 hC.2.1 d_AckBook_Sent_wasCutOff_28 (by decide) (fun hc => ?_) (fun hc => ?_)
        · have h := z_ifp hc h
          refine x_aload hC d_AckBook_Sent_wasCutOff_49 (lv_at hl 5 rfl) ?_
          refine x_getR hC hZ zc9 h (by decide) t_505 (fun _ h9 => h9) d_AckBook_Sent_wasCutOff_51 (fun r11 h => ?_)
          refine x_astore (i := 6) (lv' := [(6, va_rf r11), (0, va_rf rL0), (2, .int xL2), (3, .int xL3), (4, va_rf rL4), (5, va_rf rL5)]) hC d_AckBook_Sent_wasCutOff_54 hl (by decide) (by first | rfl | simp [z_rfc, z_ci, z_cj]) (fun ls hl => ?_)
          refine lv_goto (tgt := 9) hC.1 hC.2.1 d_AckBook_Sent_wasCutOff_56 (by decide) ?_
          exact ih _ _ _ _ _ _ _ _ h _ _ _ _ _ hZ (lv_sub hl [1, 2, 3, 4, 5, 0] rfl)
        · have h := z_ifn hc h
          refine x_aload hC d_AckBook_Sent_wasCutOff_31 (lv_at hl 3 rfl) ?_
          refine x_ifnonnull (tgt := 41) hC d_AckBook_Sent_wasCutOff_33 (by decide) (fun hc => ?_) (fun hc => ?_)
          · have h := z_ifn hc h
            refine x_aload hC d_AckBook_Sent_wasCutOff_41 (lv_at hl 3 rfl) ?_
            exact kq_AckBook_Sent_wasCutOff_43 hT hfl hE hC hr hRc hRs hFr hRt hnm ih _ _ _ _ _ _ _ h _ _ _ _ _ hZ (lv_sub hl [0, 1, 2, 5] rfl)
          · have h := z_ifp hc h
            refine x_aload hC d_AckBook_Sent_wasCutOff_36 (lv_at hl 5 rfl) ?_
            refine lv_goto (tgt := 43) hC.1 hC.2.1 d_AckBook_Sent_wasCutOff_38 (by decide) ?_
            exact kq_AckBook_Sent_wasCutOff_43 hT hfl hE hC hr hRc hRs hFr hRt hnm ih _ _ _ _ _ _ _ h _ _ _ _ _ hZ (lv_sub hl [0, 1, 2, 5] rfl)
def f_AckBook_Sent_wasCutOff (F X : Nat) (a0 : Option Nat) (pR1 : Option Nat) (pI2 : Int32) (pI3 : Int32) (w : zW) : zR :=
  (j_AckBook_Sent_wasCutOff F X F) a0 pI2 pI3 none none pR1 w
set_option maxHeartbeats 4000000 in
set_option maxRecDepth 100000 in
theorem k_AckBook_Sent_wasCutOff {b0 : Nat} {H0 : Heap} {D : va_G} {vu vs : Value} {X M : Nat} {l : Launch} (hT : z_TB (zGG b0 H0 D vu vs X M)) (hfl : l.flags = pinnedFlags ++ [noTraceFlag]) (hE : vu.isRef = true ∧ vs.isRef = true) {a0 : Option Nat} {pR1 : Option Nat} {pI2 : Int32} {pI3 : Int32} (F : Nat) {w : zW} (res : zO × zW) (h : f_AckBook_Sent_wasCutOff F X a0 pR1 pI2 pI3 w = some res) : z_Ct (zGG b0 H0 D vu vs X M) l y_AckBook_Sent_wasCutOff (.code y_AckBook_Sent_wasCutOff c_AckBook_Sent_wasCutOff 7 (some FieldType.boolean)) 4 87 [va_rf a0, va_rf pR1, .int pI2, .int pI3] w res := by
  refine z_ct hT hfl (by decide) (by simp only [z_sl_i, z_sl_j, z_sl_r, z_sl_n]; decide) ?_
  intro p e R s m args below meth c hC hr hRc hRs hRt hnm hFr H ls hZ hl
  simp only [z_la_i, z_la_j, z_la_r, z_la_n] at hl
  have hl : lv_has ls 7 [(0, va_rf a0), (1, va_rf pR1), (2, .int pI2), (3, .int pI3)] := hl
  unfold f_AckBook_Sent_wasCutOff at h
  refine x_null hC d_AckBook_Sent_wasCutOff_0 ?_
  refine x_astore (i := 4) (lv' := [(4, va_rf none), (0, va_rf a0), (1, va_rf pR1), (2, .int pI2), (3, .int pI3)]) hC d_AckBook_Sent_wasCutOff_1 hl (by decide) (by first | rfl | simp [z_rfc, z_ci, z_cj]) (fun ls hl => ?_)
  refine x_null hC d_AckBook_Sent_wasCutOff_3 ?_
  refine x_astore (i := 5) (lv' := [(5, va_rf none), (4, va_rf none), (0, va_rf a0), (1, va_rf pR1), (2, .int pI2), (3, .int pI3)]) hC d_AckBook_Sent_wasCutOff_4 hl (by decide) (by first | rfl | simp [z_rfc, z_ci, z_cj]) (fun ls hl => ?_)
  refine x_aload_n hC d_AckBook_Sent_wasCutOff_6 rfl (lv_at hl 3 rfl) ?_
  refine x_astore (i := 6) (lv' := [(6, va_rf pR1), (5, va_rf none), (4, va_rf none), (0, va_rf a0), (1, va_rf pR1), (2, .int pI2), (3, .int pI3)]) hC d_AckBook_Sent_wasCutOff_7 hl (by decide) (by first | rfl | simp [z_rfc, z_ci, z_cj]) (fun ls hl => ?_)
  exact (kj_AckBook_Sent_wasCutOff hT hfl hE hC hr hRc hRs hFr hRt hnm F) _ _ _ _ _ _ _ _ h _ _ _ _ _ hZ (lv_sub hl [3, 5, 6, 2, 1, 0] rfl)
def f_AckBook_Flow_collapse (F X : Nat) (a0 : Option Nat) (w : zW) : zR :=
  z_put w 8 1 a0 (.int (2400 : Int32)) fun w =>
  z_put w 8 3 a0 (.int (-1 : Int32)) fun w =>
  some (.inl none, w)
set_option maxHeartbeats 4000000 in
set_option maxRecDepth 100000 in
theorem k_AckBook_Flow_collapse {b0 : Nat} {H0 : Heap} {D : va_G} {vu vs : Value} {X M : Nat} {l : Launch} (hT : z_TB (zGG b0 H0 D vu vs X M)) (hfl : l.flags = pinnedFlags ++ [noTraceFlag]) (hE : vu.isRef = true ∧ vs.isRef = true) {a0 : Option Nat} (F : Nat) {w : zW} (res : zO × zW) (h : f_AckBook_Flow_collapse F X a0 w = some res) : z_Ct (zGG b0 H0 D vu vs X M) l y_AckBook_Flow_collapse (.code y_AckBook_Flow_collapse c_AckBook_Flow_collapse 1 (none)) 0 0 [va_rf a0] w res := by
  refine z_ct hT hfl (by decide) (by simp only [z_sl_i, z_sl_j, z_sl_r, z_sl_n]; decide) ?_
  intro p e R s m args below meth c hC hr hRc hRs hRt hnm hFr H ls hZ hl
  simp only [z_la_i, z_la_j, z_la_r, z_la_n] at hl
  have hl : lv_has ls 1 [(0, va_rf a0)] := hl
  unfold f_AckBook_Flow_collapse at h
  refine x_aload_n hC d_AckBook_Flow_collapse_0 rfl (lv_at hl 0 rfl) ?_
  refine lv_sipush (v := (2400 : Int32)) hC.1 hC.2.1 d_AckBook_Flow_collapse_1 (by decide) ?_
  refine x_put hC hZ zc8 h (by decide) t_226 (fun _ h9 => h9) rfl rfl rfl rfl d_AckBook_Flow_collapse_4 (fun w H locs hZ h => ?_)
  refine x_aload_n hC d_AckBook_Flow_collapse_7 rfl (lv_at hl 0 rfl) ?_
  refine lv_iconst (v := (-1 : Int32)) hC.1 hC.2.1 d_AckBook_Flow_collapse_8 (by decide) ?_
  refine x_put hC hZ zc8 h (by decide) t_230 (fun _ h9 => h9) rfl rfl rfl rfl d_AckBook_Flow_collapse_9 (fun w H locs hZ h => ?_)
  exact x_vret hC hRc hRs hZ hr h d_AckBook_Flow_collapse_12
def f_AckBook_lookForLosses (F X : Nat) (a0 : Option Nat) (pR1 : Option Nat) (w : zW) : zR :=
  z_getI w 0 4 a0 fun v1 =>
  z_getR w 0 2 a0 fun r2 =>
  z_this w 7 r2 <|
  z_cI (f_AckBook_Way_limit F X r2 w) fun v4 w =>
  z_this w 2 pR1 <|
  z_cR (f_AckBook_Sent_markLost F X pR1 v1 v4 w) fun r6 w =>
  if r6 = none then (
    some (.inl none, w))
  else (
    z_getR w 0 3 a0 fun r7 =>
    z_getI w 0 4 a0 fun v8 =>
    z_this w 8 r7 <|
    z_cV (f_AckBook_Flow_leaveLost F X r7 r6 v8 w) fun w =>
    z_getR w 0 2 a0 fun r10 =>
    z_getI w 7 4 r10 fun v11 =>
    if v11 = (-1 : Int32) then (
      some (.inl none, w))
    else (
      z_getR w 0 2 a0 fun r12 =>
      z_getI w 7 4 r12 fun v13 =>
      z_getR w 0 2 a0 fun r14 =>
      z_this w 7 r14 <|
      z_cI (f_AckBook_Way_patience F X r14 w) fun v16 w =>
      z_this w 2 pR1 <|
      z_cI (f_AckBook_Sent_wasCutOff F X pR1 r6 v13 ((3 : Int32) * (v16 + (25 : Int32))) w) fun v18 w =>
      if v18 = 0 then (
        some (.inl none, w))
      else (
        z_getR w 0 3 a0 fun r19 =>
        z_this w 8 r19 <|
        z_cV (f_AckBook_Flow_collapse F X r19 w) fun w =>
        some (.inl none, w))))
set_option maxHeartbeats 4000000 in
set_option maxRecDepth 100000 in
theorem k_AckBook_lookForLosses {b0 : Nat} {H0 : Heap} {D : va_G} {vu vs : Value} {X M : Nat} {l : Launch} (hT : z_TB (zGG b0 H0 D vu vs X M)) (hfl : l.flags = pinnedFlags ++ [noTraceFlag]) (hE : vu.isRef = true ∧ vs.isRef = true) {a0 : Option Nat} {pR1 : Option Nat} (F : Nat) {w : zW} (res : zO × zW) (h : f_AckBook_lookForLosses F X a0 pR1 w = some res) : z_Ct (zGG b0 H0 D vu vs X M) l y_AckBook_lookForLosses (.code y_AckBook_lookForLosses c_AckBook_lookForLosses 3 (none)) 5 113 [va_rf a0, va_rf pR1] w res := by
  refine z_ct hT hfl (by decide) (by simp only [z_sl_i, z_sl_j, z_sl_r, z_sl_n]; decide) ?_
  intro p e R s m args below meth c hC hr hRc hRs hRt hnm hFr H ls hZ hl
  simp only [z_la_i, z_la_j, z_la_r, z_la_n] at hl
  have hl : lv_has ls 3 [(0, va_rf a0), (1, va_rf pR1)] := hl
  unfold f_AckBook_lookForLosses at h
  refine x_aload_n hC d_AckBook_lookForLosses_0 rfl (lv_at hl 1 rfl) ?_
  refine x_aload_n hC d_AckBook_lookForLosses_1 rfl (lv_at hl 0 rfl) ?_
  refine x_getI hC hZ zc0 h (by decide) t_245 (fun _ h9 => h9) d_AckBook_lookForLosses_2 (fun v1 h => ?_)
  refine x_aload_n hC d_AckBook_lookForLosses_5 rfl (lv_at hl 0 rfl) ?_
  refine x_getR hC hZ zc0 h (by decide) t_243 (fun _ h9 => h9) d_AckBook_lookForLosses_6 (fun r2 h => ?_)
  obtain ⟨a_, fs_, eo_, h⟩ := z_this_spec h
  obtain ⟨w1_, o1_, hF_, ha_⟩ := z_cI_spec h
  refine x_goes hC hRc hRs hFr ha_ (z_goV (As := []) hC hZ zc7 eo_ (k_AckBook_Way_limit hT hfl hE _ _ hF_) t_300 t_301 t_302 t_10 t_303 ⟨by decide, by decide, (by decide +kernel : (parseMethodDescriptor y_AckBook_Way_limit.desc).map (fun d => d.parameters.length) = some 0)⟩ (by rw [hRt.1]; decide) (by rw [hRt.2]; decide) hl.1 rfl (by first | exact Nat.le_of_ble_eq_true rfl | simp [z_rfc, z_ci, z_cj]) d_AckBook_lookForLosses_9) (fun v_ hv H locs cells slots hZ => ?_)
  obtain ⟨v4, rfl, h⟩ := hv
  generalize w1_ = w at h hZ
  obtain ⟨a_, fs_, eo_, h⟩ := z_this_spec h
  obtain ⟨w1_, o1_, hF_, ha_⟩ := z_cR_spec h
  refine x_goes hC hRc hRs hFr ha_ (z_goV (As := [.int v1, .int v4]) hC hZ zc2 eo_ (k_AckBook_Sent_markLost hT hfl hE _ _ hF_) t_304 t_305 t_306 t_3 t_307 ⟨by decide, by decide, (by decide +kernel : (parseMethodDescriptor y_AckBook_Sent_markLost.desc).map (fun d => d.parameters.length) = some 2)⟩ (by rw [hRt.1]; decide) (by rw [hRt.2]; decide) hl.1 rfl (by first | exact Nat.le_of_ble_eq_true rfl | simp [z_rfc, z_ci, z_cj]) d_AckBook_lookForLosses_12) (fun v_ hv H locs cells slots hZ => ?_)
  obtain ⟨r6, rfl, h⟩ := hv
  generalize w1_ = w at h hZ
  refine x_astore_n (i := 2) (lv' := [(2, va_rf r6), (0, va_rf a0), (1, va_rf pR1)]) hC d_AckBook_lookForLosses_15 rfl hl (by decide) (by first | rfl | simp [z_rfc, z_ci, z_cj]) (fun ls hl => ?_)
  refine x_aload_n hC d_AckBook_lookForLosses_16 rfl (lv_at hl 0 rfl) ?_
  refine x_ifnonnull (tgt := 21) hC d_AckBook_lookForLosses_17 (by decide) (fun hc => ?_) (fun hc => ?_)
  · have h := z_ifn hc h
    refine x_aload_n hC d_AckBook_lookForLosses_21 rfl (lv_at hl 1 rfl) ?_
    refine x_getR hC hZ zc0 h (by decide) t_244 (fun _ h9 => h9) d_AckBook_lookForLosses_22 (fun r7 h => ?_)
    refine x_aload_n hC d_AckBook_lookForLosses_25 rfl (lv_at hl 0 rfl) ?_
    refine x_aload_n hC d_AckBook_lookForLosses_26 rfl (lv_at hl 1 rfl) ?_
    refine x_getI hC hZ zc0 h (by decide) t_245 (fun _ h9 => h9) d_AckBook_lookForLosses_27 (fun v8 h => ?_)
    obtain ⟨a_, fs_, eo_, h⟩ := z_this_spec h
    obtain ⟨w1_, o1_, hF_, ha_⟩ := z_cV_spec h
    refine x_goes hC hRc hRs hFr ha_ (z_goV (As := [va_rf r6, .int v8]) hC hZ zc8 eo_ (k_AckBook_Flow_leaveLost hT hfl hE _ _ hF_) t_335 t_336 t_337 t_11 t_338 ⟨by decide, by decide, (by decide +kernel : (parseMethodDescriptor y_AckBook_Flow_leaveLost.desc).map (fun d => d.parameters.length) = some 2)⟩ (by rw [hRt.1]; decide) (by rw [hRt.2]; decide) hl.1 rfl (by first | exact Nat.le_of_ble_eq_true rfl | simp [z_rfc, z_ci, z_cj]) d_AckBook_lookForLosses_30) (fun v_ hv H locs cells slots hZ => ?_)
    obtain ⟨rfl, h⟩ := hv
    generalize w1_ = w at h hZ
    refine x_aload_n hC d_AckBook_lookForLosses_33 rfl (lv_at hl 1 rfl) ?_
    refine x_getR hC hZ zc0 h (by decide) t_243 (fun _ h9 => h9) d_AckBook_lookForLosses_34 (fun r10 h => ?_)
    refine x_getI hC hZ zc7 h (by decide) t_206 (fun _ h9 => h9) d_AckBook_lookForLosses_37 (fun v11 h => ?_)
    refine lv_iconst (v := (-1 : Int32)) hC.1 hC.2.1 d_AckBook_lookForLosses_40 (by decide) ?_
    refine lv_icmp_eq (tgt := 78) hC.1 hC.2.1 d_AckBook_lookForLosses_41 (by decide) (fun hc => ?_) (fun hc => ?_)
    · have h := z_ifp hc h
      exact x_vret hC hRc hRs hZ hr h d_AckBook_lookForLosses_78
    · have h := z_ifn hc h
      refine x_aload_n hC d_AckBook_lookForLosses_44 rfl (lv_at hl 2 rfl) ?_
      refine x_aload_n hC d_AckBook_lookForLosses_45 rfl (lv_at hl 0 rfl) ?_
      refine x_aload_n hC d_AckBook_lookForLosses_46 rfl (lv_at hl 1 rfl) ?_
      refine x_getR hC hZ zc0 h (by decide) t_243 (fun _ h9 => h9) d_AckBook_lookForLosses_47 (fun r12 h => ?_)
      refine x_getI hC hZ zc7 h (by decide) t_206 (fun _ h9 => h9) d_AckBook_lookForLosses_50 (fun v13 h => ?_)
      refine lv_iconst (v := (3 : Int32)) hC.1 hC.2.1 d_AckBook_lookForLosses_53 (by decide) ?_
      refine x_aload_n hC d_AckBook_lookForLosses_54 rfl (lv_at hl 1 rfl) ?_
      refine x_getR hC hZ zc0 h (by decide) t_243 (fun _ h9 => h9) d_AckBook_lookForLosses_55 (fun r14 h => ?_)
      obtain ⟨a_, fs_, eo_, h⟩ := z_this_spec h
      obtain ⟨w1_, o1_, hF_, ha_⟩ := z_cI_spec h
      refine x_goes hC hRc hRs hFr ha_ (z_goV (As := []) hC hZ zc7 eo_ (k_AckBook_Way_patience hT hfl hE _ _ hF_) t_285 t_286 t_287 t_10 t_288 ⟨by decide, by decide, (by decide +kernel : (parseMethodDescriptor y_AckBook_Way_patience.desc).map (fun d => d.parameters.length) = some 0)⟩ (by rw [hRt.1]; decide) (by rw [hRt.2]; decide) hl.1 rfl (by first | exact Nat.le_of_ble_eq_true rfl | simp [z_rfc, z_ci, z_cj]) d_AckBook_lookForLosses_58) (fun v_ hv H locs cells slots hZ => ?_)
      obtain ⟨v16, rfl, h⟩ := hv
      generalize w1_ = w at h hZ
      refine lv_bipush (v := (25 : Int32)) hC.1 hC.2.1 d_AckBook_lookForLosses_61 (by decide) ?_
      refine lv_iadd hC.1 hC.2.1 d_AckBook_lookForLosses_63 ?_
      refine lv_imul hC.1 hC.2.1 d_AckBook_lookForLosses_64 ?_
      obtain ⟨a_, fs_, eo_, h⟩ := z_this_spec h
      obtain ⟨w1_, o1_, hF_, ha_⟩ := z_cI_spec h
      refine x_goes hC hRc hRs hFr ha_ (z_goV (As := [va_rf r6, .int v13, .int ((3 : Int32) * (v16 + (25 : Int32)))]) hC hZ zc2 eo_ (k_AckBook_Sent_wasCutOff hT hfl hE _ _ hF_) t_348 t_349 t_350 t_3 t_351 ⟨by decide, by decide, (by decide +kernel : (parseMethodDescriptor y_AckBook_Sent_wasCutOff.desc).map (fun d => d.parameters.length) = some 3)⟩ (by rw [hRt.1]; decide) (by rw [hRt.2]; decide) hl.1 rfl (by first | exact Nat.le_of_ble_eq_true rfl | simp [z_rfc, z_ci, z_cj]) d_AckBook_lookForLosses_65) (fun v_ hv H locs cells slots hZ => ?_)
      obtain ⟨v18, rfl, h⟩ := hv
      generalize w1_ = w at h hZ
      refine lv_if_eq (tgt := 78) hC.1 hC.2.1 d_AckBook_lookForLosses_68 (by decide) (fun hc => ?_) (fun hc => ?_)
      · have h := z_ifp hc h
        exact x_vret hC hRc hRs hZ hr h d_AckBook_lookForLosses_78
      · have h := z_ifn hc h
        refine x_aload_n hC d_AckBook_lookForLosses_71 rfl (lv_at hl 1 rfl) ?_
        refine x_getR hC hZ zc0 h (by decide) t_244 (fun _ h9 => h9) d_AckBook_lookForLosses_72 (fun r19 h => ?_)
        obtain ⟨a_, fs_, eo_, h⟩ := z_this_spec h
        obtain ⟨w1_, o1_, hF_, ha_⟩ := z_cV_spec h
        refine x_goes hC hRc hRs hFr ha_ (z_goV (As := []) hC hZ zc8 eo_ (k_AckBook_Flow_collapse hT hfl hE _ _ hF_) t_356 t_357 t_358 t_11 t_359 ⟨by decide, by decide, (by decide +kernel : (parseMethodDescriptor y_AckBook_Flow_collapse.desc).map (fun d => d.parameters.length) = some 0)⟩ (by rw [hRt.1]; decide) (by rw [hRt.2]; decide) hl.1 rfl (by first | exact Nat.le_of_ble_eq_true rfl | simp [z_rfc, z_ci, z_cj]) d_AckBook_lookForLosses_75) (fun v_ hv H locs cells slots hZ => ?_)
        obtain ⟨rfl, h⟩ := hv
        generalize w1_ = w at h hZ
        exact x_vret hC hRc hRs hZ hr h d_AckBook_lookForLosses_78
  · have h := z_ifp hc h
    exact x_vret hC hRc hRs hZ hr h d_AckBook_lookForLosses_20
def f_AckBook_tick (F X : Nat) (a0 : Option Nat) (w : zW) : zR :=
  z_getI w 0 4 a0 fun v1 =>
  z_put w 0 4 a0 (.int (v1 + (1 : Int32))) fun w =>
  z_this w 0 a0 <|
  z_cR (f_AckBook_earliest F X a0 (0 : Int32) w) fun r3 w =>
  if r3 = none then (
    z_this w 0 a0 <|
    z_cR (f_AckBook_earliest F X a0 (1 : Int32) w) fun r5 w =>
    if r5 = none then (
      some (.inl (some (.int (0 : Int32))), w))
    else (
      z_getI w 0 5 a0 fun v6 =>
      z_put w 0 5 a0 (.int (if (10 : Int32) < (v6 + (1 : Int32)) then (10 : Int32) else (v6 + (1 : Int32)))) fun w =>
      z_getI w 1 0 r5 fun v7 =>
      some (.inl (some (.int ((2 : Int32) + v7))), w)))
  else (
    z_getR w 1 1 r3 fun r8 =>
    z_this w 0 a0 <|
    z_cV (f_AckBook_lookForLosses F X a0 r8 w) fun w =>
    some (.inl (some (.int (1 : Int32))), w))
set_option maxHeartbeats 4000000 in
set_option maxRecDepth 100000 in
theorem k_AckBook_tick {b0 : Nat} {H0 : Heap} {D : va_G} {vu vs : Value} {X M : Nat} {l : Launch} (hT : z_TB (zGG b0 H0 D vu vs X M)) (hfl : l.flags = pinnedFlags ++ [noTraceFlag]) (hE : vu.isRef = true ∧ vs.isRef = true) {a0 : Option Nat} (F : Nat) {w : zW} (res : zO × zW) (h : f_AckBook_tick F X a0 w = some res) : z_Ct (zGG b0 H0 D vu vs X M) l y_AckBook_tick (.code y_AckBook_tick c_AckBook_tick 3 (some FieldType.int)) 6 135 [va_rf a0] w res := by
  refine z_ct hT hfl (by decide) (by simp only [z_sl_i, z_sl_j, z_sl_r, z_sl_n]; decide) ?_
  intro p e R s m args below meth c hC hr hRc hRs hRt hnm hFr H ls hZ hl
  simp only [z_la_i, z_la_j, z_la_r, z_la_n] at hl
  have hl : lv_has ls 3 [(0, va_rf a0)] := hl
  unfold f_AckBook_tick at h
  refine x_aload_n hC d_AckBook_tick_0 rfl (lv_at hl 0 rfl) ?_
  refine lv_dup hC.1 hC.2.1 d_AckBook_tick_1 (z_rfc _) ?_
  refine x_getI hC hZ zc0 h (by decide) t_245 (fun _ h9 => h9) d_AckBook_tick_2 (fun v1 h => ?_)
  refine lv_iconst (v := (1 : Int32)) hC.1 hC.2.1 d_AckBook_tick_5 (by decide) ?_
  refine lv_iadd hC.1 hC.2.1 d_AckBook_tick_6 ?_
  refine x_put hC hZ zc0 h (by decide) t_245 (fun _ h9 => h9) rfl rfl rfl rfl d_AckBook_tick_7 (fun w H locs hZ h => ?_)
  refine x_aload_n hC d_AckBook_tick_10 rfl (lv_at hl 0 rfl) ?_
  refine lv_iconst (v := (0 : Int32)) hC.1 hC.2.1 d_AckBook_tick_11 (by decide) ?_
  obtain ⟨a_, fs_, eo_, h⟩ := z_this_spec h
  obtain ⟨w1_, o1_, hF_, ha_⟩ := z_cR_spec h
  refine x_goes hC hRc hRs hFr ha_ (z_goV (As := [.int (0 : Int32)]) hC hZ zc0 eo_ (k_AckBook_earliest hT hfl hE _ _ hF_) t_273 t_275 ts_AckBook_earliest t_1 t_276 ⟨by decide, by decide, (by decide +kernel : (parseMethodDescriptor y_AckBook_earliest.desc).map (fun d => d.parameters.length) = some 1)⟩ (by rw [hRt.1]; decide) (by rw [hRt.2]; decide) hl.1 rfl (by first | exact Nat.le_of_ble_eq_true rfl | simp [z_rfc, z_ci, z_cj]) d_AckBook_tick_12) (fun v_ hv H locs cells slots hZ => ?_)
  obtain ⟨r3, rfl, h⟩ := hv
  generalize w1_ = w at h hZ
  refine x_astore_n (i := 1) (lv' := [(1, va_rf r3), (0, va_rf a0)]) hC d_AckBook_tick_15 rfl hl (by decide) (by first | rfl | simp [z_rfc, z_ci, z_cj]) (fun ls hl => ?_)
  refine x_aload_n hC d_AckBook_tick_16 rfl (lv_at hl 0 rfl) ?_
  refine x_ifnull (tgt := 30) hC d_AckBook_tick_17 (by decide) (fun hc => ?_) (fun hc => ?_)
  · have h := z_ifp hc h
    refine x_aload_n hC d_AckBook_tick_30 rfl (lv_at hl 1 rfl) ?_
    refine lv_iconst (v := (1 : Int32)) hC.1 hC.2.1 d_AckBook_tick_31 (by decide) ?_
    obtain ⟨a_, fs_, eo_, h⟩ := z_this_spec h
    obtain ⟨w1_, o1_, hF_, ha_⟩ := z_cR_spec h
    refine x_goes hC hRc hRs hFr ha_ (z_goV (As := [.int (1 : Int32)]) hC hZ zc0 eo_ (k_AckBook_earliest hT hfl hE _ _ hF_) t_273 t_275 ts_AckBook_earliest t_1 t_276 ⟨by decide, by decide, (by decide +kernel : (parseMethodDescriptor y_AckBook_earliest.desc).map (fun d => d.parameters.length) = some 1)⟩ (by rw [hRt.1]; decide) (by rw [hRt.2]; decide) hl.1 rfl (by first | exact Nat.le_of_ble_eq_true rfl | simp [z_rfc, z_ci, z_cj]) d_AckBook_tick_32) (fun v_ hv H locs cells slots hZ => ?_)
    obtain ⟨r5, rfl, h⟩ := hv
    generalize w1_ = w at h hZ
    refine x_astore_n (i := 2) (lv' := [(2, va_rf r5), (1, va_rf r3), (0, va_rf a0)]) hC d_AckBook_tick_35 rfl hl (by decide) (by first | rfl | simp [z_rfc, z_ci, z_cj]) (fun ls hl => ?_)
    refine x_aload_n hC d_AckBook_tick_36 rfl (lv_at hl 0 rfl) ?_
    refine x_ifnull (tgt := 62) hC d_AckBook_tick_37 (by decide) (fun hc => ?_) (fun hc => ?_)
    · have h := z_ifp hc h
      refine lv_iconst (v := (0 : Int32)) hC.1 hC.2.1 d_AckBook_tick_62 (by decide) ?_
      exact x_iret hC hRc hRs hZ hr rfl h d_AckBook_tick_63
    · have h := z_ifn hc h
      refine x_aload_n hC d_AckBook_tick_40 rfl (lv_at hl 2 rfl) ?_
      refine x_aload_n hC d_AckBook_tick_41 rfl (lv_at hl 2 rfl) ?_
      refine x_getI hC hZ zc0 h (by decide) t_246 (fun _ h9 => h9) d_AckBook_tick_42 (fun v6 h => ?_)
      refine lv_iconst (v := (1 : Int32)) hC.1 hC.2.1 d_AckBook_tick_45 (by decide) ?_
      refine lv_iadd hC.1 hC.2.1 d_AckBook_tick_46 ?_
      refine lv_bipush (v := (10 : Int32)) hC.1 hC.2.1 d_AckBook_tick_47 (by decide) ?_
      refine va_mmin hC.1 hC.2.1 (hC.2.2.1.trans hl.1.symm) hC.2.2.2.1 ((hZ.1.tb hC.2.2.2.2.2.2 args) _ t_360) ((hZ.1.tb hC.2.2.2.2.2.2 args) _ t_361) ((hZ.1.tb hC.2.2.2.2.2.2 args) _ t_20) ((hZ.1.tb hC.2.2.2.2.2.2 args) _ t_362) (by rw [hRt.1]; decide) (by rw [hRt.2]; first | exact Nat.le_of_ble_eq_true rfl | simp [z_rfc, z_ci, z_cj]) (hZ.2.2.1 ▸ Nat.le_add_right _ _) (hZ.2.2.2 ▸ Nat.le_add_right _ _) d_AckBook_tick_49 ?_
      refine x_put hC hZ zc0 h (by decide) t_246 (fun _ h9 => h9) rfl rfl rfl rfl d_AckBook_tick_52 (fun w H locs hZ h => ?_)
      refine lv_iconst (v := (2 : Int32)) hC.1 hC.2.1 d_AckBook_tick_55 (by decide) ?_
      refine x_aload_n hC d_AckBook_tick_56 rfl (lv_at hl 0 rfl) ?_
      refine x_getI hC hZ zc1 h (by decide) t_156 (fun _ h9 => h9) d_AckBook_tick_57 (fun v7 h => ?_)
      refine lv_iadd hC.1 hC.2.1 d_AckBook_tick_60 ?_
      exact x_iret hC hRc hRs hZ hr rfl h d_AckBook_tick_61
  · have h := z_ifn hc h
    refine x_aload_n hC d_AckBook_tick_20 rfl (lv_at hl 1 rfl) ?_
    refine x_aload_n hC d_AckBook_tick_21 rfl (lv_at hl 0 rfl) ?_
    refine x_getR hC hZ zc1 h (by decide) t_158 (fun _ h9 => h9) d_AckBook_tick_22 (fun r8 h => ?_)
    obtain ⟨a_, fs_, eo_, h⟩ := z_this_spec h
    obtain ⟨w1_, o1_, hF_, ha_⟩ := z_cV_spec h
    refine x_goes hC hRc hRs hFr ha_ (z_goV (As := [va_rf r8]) hC hZ zc0 eo_ (k_AckBook_lookForLosses hT hfl hE _ _ hF_) t_296 t_298 ts_AckBook_lookForLosses t_1 t_299 ⟨by decide, by decide, (by decide +kernel : (parseMethodDescriptor y_AckBook_lookForLosses.desc).map (fun d => d.parameters.length) = some 1)⟩ (by rw [hRt.1]; decide) (by rw [hRt.2]; decide) hl.1 rfl (by first | exact Nat.le_of_ble_eq_true rfl | simp [z_rfc, z_ci, z_cj]) d_AckBook_tick_25) (fun v_ hv H locs cells slots hZ => ?_)
    obtain ⟨rfl, h⟩ := hv
    generalize w1_ = w at h hZ
    refine lv_iconst (v := (1 : Int32)) hC.1 hC.2.1 d_AckBook_tick_28 (by decide) ?_
    exact x_iret hC hRc hRs hZ hr rfl h d_AckBook_tick_29
def f_AckBook_confirm (F X : Nat) (a0 : Option Nat) (w : zW) : zR :=
  z_putZ w 0 7 a0 (1 : Int32) fun w =>
  some (.inl none, w)
set_option maxHeartbeats 4000000 in
set_option maxRecDepth 100000 in
theorem k_AckBook_confirm {b0 : Nat} {H0 : Heap} {D : va_G} {vu vs : Value} {X M : Nat} {l : Launch} (hT : z_TB (zGG b0 H0 D vu vs X M)) (hfl : l.flags = pinnedFlags ++ [noTraceFlag]) (hE : vu.isRef = true ∧ vs.isRef = true) {a0 : Option Nat} (F : Nat) {w : zW} (res : zO × zW) (h : f_AckBook_confirm F X a0 w = some res) : z_Ct (zGG b0 H0 D vu vs X M) l y_AckBook_confirm (.code y_AckBook_confirm c_AckBook_confirm 1 (none)) 0 0 [va_rf a0] w res := by
  refine z_ct hT hfl (by decide) (by simp only [z_sl_i, z_sl_j, z_sl_r, z_sl_n]; decide) ?_
  intro p e R s m args below meth c hC hr hRc hRs hRt hnm hFr H ls hZ hl
  simp only [z_la_i, z_la_j, z_la_r, z_la_n] at hl
  have hl : lv_has ls 1 [(0, va_rf a0)] := hl
  unfold f_AckBook_confirm at h
  refine x_aload_n hC d_AckBook_confirm_0 rfl (lv_at hl 0 rfl) ?_
  refine lv_iconst (v := (1 : Int32)) hC.1 hC.2.1 d_AckBook_confirm_1 (by decide) ?_
  refine x_putZ hC hZ zc0 h (by decide) t_248 (fun _ h9 => h9) rfl rfl d_AckBook_confirm_2 (fun w H locs hZ h => ?_)
  exact x_vret hC hRc hRs hZ hr h d_AckBook_confirm_5
def f_AckBook_anxious (F X : Nat) (a0 : Option Nat) (pI1 : Int32) (w : zW) : zR :=
  z_putZ w 0 8 a0 pI1 fun w =>
  some (.inl none, w)
set_option maxHeartbeats 4000000 in
set_option maxRecDepth 100000 in
theorem k_AckBook_anxious {b0 : Nat} {H0 : Heap} {D : va_G} {vu vs : Value} {X M : Nat} {l : Launch} (hT : z_TB (zGG b0 H0 D vu vs X M)) (hfl : l.flags = pinnedFlags ++ [noTraceFlag]) (hE : vu.isRef = true ∧ vs.isRef = true) {a0 : Option Nat} {pI1 : Int32} (F : Nat) {w : zW} (res : zO × zW) (h : f_AckBook_anxious F X a0 pI1 w = some res) : z_Ct (zGG b0 H0 D vu vs X M) l y_AckBook_anxious (.code y_AckBook_anxious c_AckBook_anxious 2 (none)) 0 0 [va_rf a0, .int pI1] w res := by
  refine z_ct hT hfl (by decide) (by simp only [z_sl_i, z_sl_j, z_sl_r, z_sl_n]; decide) ?_
  intro p e R s m args below meth c hC hr hRc hRs hRt hnm hFr H ls hZ hl
  simp only [z_la_i, z_la_j, z_la_r, z_la_n] at hl
  have hl : lv_has ls 2 [(0, va_rf a0), (1, .int pI1)] := hl
  unfold f_AckBook_anxious at h
  refine x_aload_n hC d_AckBook_anxious_0 rfl (lv_at hl 0 rfl) ?_
  refine lv_iload_n hC.1 hC.2.1 d_AckBook_anxious_1 rfl (lv_at hl 1 rfl) ?_
  refine x_putZ hC hZ zc0 h (by decide) t_249 (fun _ h9 => h9) rfl rfl d_AckBook_anxious_2 (fun w H locs hZ h => ?_)
  exact x_vret hC hRc hRs hZ hr h d_AckBook_anxious_5
def f_AckBook_known (F X : Nat) (a0 : Option Nat) (pI1 : Int32) (w : zW) : zR :=
  if pI1 < 0 then (
    z_thr w 11)
  else (
    z_getR w 0 0 a0 fun r1 =>
    z_len w r1 fun v2 =>
    if pI1 < v2 then (
      z_getR w 0 0 a0 fun r3 =>
      z_ldR w (.object "AckBook$Space") r3 pI1 fun r4 =>
      some (.inl (some (va_rf r4)), w))
    else (
      z_thr w 11))
set_option maxHeartbeats 4000000 in
set_option maxRecDepth 100000 in
theorem k_AckBook_known {b0 : Nat} {H0 : Heap} {D : va_G} {vu vs : Value} {X M : Nat} {l : Launch} (hT : z_TB (zGG b0 H0 D vu vs X M)) (hfl : l.flags = pinnedFlags ++ [noTraceFlag]) (hE : vu.isRef = true ∧ vs.isRef = true) {a0 : Option Nat} {pI1 : Int32} (F : Nat) {w : zW} (res : zO × zW) (h : f_AckBook_known F X a0 pI1 w = some res) : z_Ct (zGG b0 H0 D vu vs X M) l y_AckBook_known (.code y_AckBook_known c_AckBook_known 2 (some (FieldType.object "AckBook$Space"))) 6 100 [va_rf a0, .int pI1] w res := by
  refine z_ct hT hfl (by decide) (by simp only [z_sl_i, z_sl_j, z_sl_r, z_sl_n]; decide) ?_
  intro p e R s m args below meth c hC hr hRc hRs hRt hnm hFr H ls hZ hl
  simp only [z_la_i, z_la_j, z_la_r, z_la_n] at hl
  have hl : lv_has ls 2 [(0, va_rf a0), (1, .int pI1)] := hl
  unfold f_AckBook_known at h
  refine lv_iload_n hC.1 hC.2.1 d_AckBook_known_0 rfl (lv_at hl 1 rfl) ?_
  refine lv_if_lt (tgt := 13) hC.1 hC.2.1 d_AckBook_known_1 (by decide) (fun hc => ?_) (fun hc => ?_)
  · have h := z_ifp hc h
    exact x_thrW (names := ["java/lang/RuntimeException", "java/lang/Exception"]) hC hRc hRs hFr hZ rfl h ⟨List.mem_cons_self, hE.1⟩ ⟨List.mem_cons_of_mem _ List.mem_cons_self, hE.2⟩ (by decide +kernel) (by decide +kernel) at_AckBook_47 t_385 t_384 t_16 t_425 hl.1 d_AckBook_known_13 d_AckBook_known_16 d_AckBook_known_17 d_AckBook_known_20 d_AckBook_known_23 (by rw [hRt.1]; decide) (by rw [hRt.2]; first | exact Nat.le_of_ble_eq_true rfl | simp [z_rfc, z_ci, z_cj])
  · have h := z_ifn hc h
    refine lv_iload_n hC.1 hC.2.1 d_AckBook_known_4 rfl (lv_at hl 1 rfl) ?_
    refine x_aload_n hC d_AckBook_known_5 rfl (lv_at hl 0 rfl) ?_
    refine x_getR hC hZ zc0 h (by decide) t_241 (fun _ h9 => h9) d_AckBook_known_6 (fun r1 h => ?_)
    refine x_len hC hZ h d_AckBook_known_9 (fun v2 h => ?_)
    refine lv_icmp_lt (tgt := 24) hC.1 hC.2.1 d_AckBook_known_10 (by decide) (fun hc => ?_) (fun hc => ?_)
    · have h := z_ifp hc h
      refine x_aload_n hC d_AckBook_known_24 rfl (lv_at hl 0 rfl) ?_
      refine x_getR hC hZ zc0 h (by decide) t_241 (fun _ h9 => h9) d_AckBook_known_25 (fun r3 h => ?_)
      refine lv_iload_n hC.1 hC.2.1 d_AckBook_known_28 rfl (lv_at hl 1 rfl) ?_
      refine x_ldR hC hZ h rfl d_AckBook_known_29 (fun r4 h => ?_)
      exact x_aret hC hRc hRs hZ hr (Or.inl ⟨_, rfl⟩) h d_AckBook_known_30
    · have h := z_ifn hc h
      exact x_thrW (names := ["java/lang/RuntimeException", "java/lang/Exception"]) hC hRc hRs hFr hZ rfl h ⟨List.mem_cons_self, hE.1⟩ ⟨List.mem_cons_of_mem _ List.mem_cons_self, hE.2⟩ (by decide +kernel) (by decide +kernel) at_AckBook_47 t_385 t_384 t_16 t_425 hl.1 d_AckBook_known_13 d_AckBook_known_16 d_AckBook_known_17 d_AckBook_known_20 d_AckBook_known_23 (by rw [hRt.1]; decide) (by rw [hRt.2]; first | exact Nat.le_of_ble_eq_true rfl | simp [z_rfc, z_ci, z_cj])
def f_AckBook_refuseDiscarded (F X : Nat) (pR1 : Option Nat) (w : zW) : zR :=
  z_getI w 1 3 pR1 fun v1 =>
  if v1 = 0 then (
    some (.inl none, w))
  else (
    z_thr w 12)
set_option maxHeartbeats 4000000 in
set_option maxRecDepth 100000 in
theorem k_AckBook_refuseDiscarded {b0 : Nat} {H0 : Heap} {D : va_G} {vu vs : Value} {X M : Nat} {l : Launch} (hT : z_TB (zGG b0 H0 D vu vs X M)) (hfl : l.flags = pinnedFlags ++ [noTraceFlag]) (hE : vu.isRef = true ∧ vs.isRef = true) {pR1 : Option Nat} (F : Nat) {w : zW} (res : zO × zW) (h : f_AckBook_refuseDiscarded F X pR1 w = some res) : z_Ct (zGG b0 H0 D vu vs X M) l y_AckBook_refuseDiscarded (.code y_AckBook_refuseDiscarded c_AckBook_refuseDiscarded 1 (none)) 6 100 [va_rf pR1] w res := by
  refine z_ct hT hfl (by decide) (by simp only [z_sl_i, z_sl_j, z_sl_r, z_sl_n]; decide) ?_
  intro p e R s m args below meth c hC hr hRc hRs hRt hnm hFr H ls hZ hl
  simp only [z_la_i, z_la_j, z_la_r, z_la_n] at hl
  have hl : lv_has ls 1 [(0, va_rf pR1)] := hl
  unfold f_AckBook_refuseDiscarded at h
  refine x_aload_n hC d_AckBook_refuseDiscarded_0 rfl (lv_at hl 0 rfl) ?_
  refine x_getI hC hZ zc1 h (by decide) t_161 (fun _ h9 => h9) d_AckBook_refuseDiscarded_1 (fun v1 h => ?_)
  refine lv_if_eq (tgt := 18) hC.1 hC.2.1 d_AckBook_refuseDiscarded_4 (by decide) (fun hc => ?_) (fun hc => ?_)
  · have h := z_ifp hc h
    exact x_vret hC hRc hRs hZ hr h d_AckBook_refuseDiscarded_18
  · have h := z_ifn hc h
    exact x_thrW (names := ["java/lang/RuntimeException", "java/lang/Exception"]) hC hRc hRs hFr hZ rfl h ⟨List.mem_cons_self, hE.1⟩ ⟨List.mem_cons_of_mem _ List.mem_cons_self, hE.2⟩ (by decide +kernel) (by decide +kernel) at_AckBook_70 t_458 t_457 t_17 t_466 hl.1 d_AckBook_refuseDiscarded_7 d_AckBook_refuseDiscarded_10 d_AckBook_refuseDiscarded_11 d_AckBook_refuseDiscarded_14 d_AckBook_refuseDiscarded_17 (by rw [hRt.1]; decide) (by rw [hRt.2]; first | exact Nat.le_of_ble_eq_true rfl | simp [z_rfc, z_ci, z_cj])
def f_AckBook_Sent_count (F X : Nat) (a0 : Option Nat) (w : zW) : zR :=
  z_getR w 2 2 a0 fun r1 =>
  z_this w 4 r1 <|
  z_cI (f_ArrayList_size F X r1 w) fun v3 w =>
  some (.inl (some (.int v3)), w)
set_option maxHeartbeats 4000000 in
set_option maxRecDepth 100000 in
theorem k_AckBook_Sent_count {b0 : Nat} {H0 : Heap} {D : va_G} {vu vs : Value} {X M : Nat} {l : Launch} (hT : z_TB (zGG b0 H0 D vu vs X M)) (hfl : l.flags = pinnedFlags ++ [noTraceFlag]) (hE : vu.isRef = true ∧ vs.isRef = true) {a0 : Option Nat} (F : Nat) {w : zW} (res : zO × zW) (h : f_AckBook_Sent_count F X a0 w = some res) : z_Ct (zGG b0 H0 D vu vs X M) l y_AckBook_Sent_count (.code y_AckBook_Sent_count c_AckBook_Sent_count 1 (some FieldType.int)) 1 20 [va_rf a0] w res := by
  refine z_ct hT hfl (by decide) (by simp only [z_sl_i, z_sl_j, z_sl_r, z_sl_n]; decide) ?_
  intro p e R s m args below meth c hC hr hRc hRs hRt hnm hFr H ls hZ hl
  simp only [z_la_i, z_la_j, z_la_r, z_la_n] at hl
  have hl : lv_has ls 1 [(0, va_rf a0)] := hl
  unfold f_AckBook_Sent_count at h
  refine x_aload_n hC d_AckBook_Sent_count_0 rfl (lv_at hl 0 rfl) ?_
  refine x_getR hC hZ zc2 h (by decide) t_90 (fun _ h9 => h9) d_AckBook_Sent_count_1 (fun r1 h => ?_)
  obtain ⟨a_, fs_, eo_, h⟩ := z_this_spec h
  obtain ⟨w1_, o1_, hF_, ha_⟩ := z_cI_spec h
  refine x_goes hC hRc hRs hFr ha_ (z_goV (As := []) hC hZ zc4 eo_ (k_ArrayList_size hT hfl hE _ _ hF_) t_308 t_309 t_310 t_7 t_311 ⟨by decide, by decide, (by decide +kernel : (parseMethodDescriptor y_ArrayList_size.desc).map (fun d => d.parameters.length) = some 0)⟩ (by rw [hRt.1]; decide) (by rw [hRt.2]; decide) hl.1 rfl (by first | exact Nat.le_of_ble_eq_true rfl | simp [z_rfc, z_ci, z_cj]) d_AckBook_Sent_count_4) (fun v_ hv H locs cells slots hZ => ?_)
  obtain ⟨v3, rfl, h⟩ := hv
  generalize w1_ = w at h hZ
  exact x_iret hC hRc hRs hZ hr rfl h d_AckBook_Sent_count_7
def f_AckBook_Packet_init (F X : Nat) (a0 : Option Nat) (pI1 : Int32) (pI2 : Int32) (pI3 : Int32) (pI4 : Int32) (pI5 : Int32) (w : zW) : zR :=
  z_nn a0 <|
  z_put w 9 0 a0 (.int pI1) fun w =>
  z_put w 9 1 a0 (.int pI2) fun w =>
  z_put w 9 2 a0 (.int pI3) fun w =>
  z_putZ w 9 3 a0 pI4 fun w =>
  z_putZ w 9 4 a0 pI5 fun w =>
  z_put w 9 6 a0 (.int (0 : Int32)) fun w =>
  some (.inl none, w)
set_option maxHeartbeats 4000000 in
set_option maxRecDepth 100000 in
theorem k_AckBook_Packet_init {b0 : Nat} {H0 : Heap} {D : va_G} {vu vs : Value} {X M : Nat} {l : Launch} (hT : z_TB (zGG b0 H0 D vu vs X M)) (hfl : l.flags = pinnedFlags ++ [noTraceFlag]) (hE : vu.isRef = true ∧ vs.isRef = true) {a0 : Option Nat} {pI1 : Int32} {pI2 : Int32} {pI3 : Int32} {pI4 : Int32} {pI5 : Int32} (F : Nat) {w : zW} (res : zO × zW) (h : f_AckBook_Packet_init F X a0 pI1 pI2 pI3 pI4 pI5 w = some res) : z_Ct (zGG b0 H0 D vu vs X M) l y_AckBook_Packet_init (.code y_AckBook_Packet_init c_AckBook_Packet_init 6 (none)) 1 28 [va_rf a0, .int pI1, .int pI2, .int pI3, .int pI4, .int pI5] w res := by
  refine z_ct hT hfl (by decide) (by simp only [z_sl_i, z_sl_j, z_sl_r, z_sl_n]; decide) ?_
  intro p e R s m args below meth c hC hr hRc hRs hRt hnm hFr H ls hZ hl
  simp only [z_la_i, z_la_j, z_la_r, z_la_n] at hl
  have hl : lv_has ls 6 [(0, va_rf a0), (1, .int pI1), (2, .int pI2), (3, .int pI3), (4, .int pI4), (5, .int pI5)] := hl
  unfold f_AckBook_Packet_init at h
  refine x_aload_n hC d_AckBook_Packet_init_0 rfl (lv_at hl 0 rfl) ?_
  obtain ⟨_, e_, h⟩ := z_nn_spec h
  refine x_objInit hC hZ e_ t_483 ⟨t_32, t_33⟩ hl.1 d_AckBook_Packet_init_1 (by rw [hRt.1]; decide) (by rw [hRt.2]; first | exact Nat.le_of_ble_eq_true rfl | simp [z_rfc, z_ci, z_cj]) ?_
  refine x_aload_n hC d_AckBook_Packet_init_4 rfl (lv_at hl 0 rfl) ?_
  refine lv_iload_n hC.1 hC.2.1 d_AckBook_Packet_init_5 rfl (lv_at hl 1 rfl) ?_
  refine x_putF hC hZ zc9 h (by decide) t_484 (fun _ h9 => h9) rfl hnm rfl rfl rfl rfl d_AckBook_Packet_init_6 (fun w H locs hZ h => ?_)
  refine x_aload_n hC d_AckBook_Packet_init_9 rfl (lv_at hl 0 rfl) ?_
  refine lv_iload_n hC.1 hC.2.1 d_AckBook_Packet_init_10 rfl (lv_at hl 2 rfl) ?_
  refine x_putF hC hZ zc9 h (by decide) t_488 (fun _ h9 => h9) rfl hnm rfl rfl rfl rfl d_AckBook_Packet_init_11 (fun w H locs hZ h => ?_)
  refine x_aload_n hC d_AckBook_Packet_init_14 rfl (lv_at hl 0 rfl) ?_
  refine lv_iload_n hC.1 hC.2.1 d_AckBook_Packet_init_15 rfl (lv_at hl 3 rfl) ?_
  refine x_putF hC hZ zc9 h (by decide) t_490 (fun _ h9 => h9) rfl hnm rfl rfl rfl rfl d_AckBook_Packet_init_16 (fun w H locs hZ h => ?_)
  refine x_aload_n hC d_AckBook_Packet_init_19 rfl (lv_at hl 0 rfl) ?_
  refine lv_iload hC.1 hC.2.1 d_AckBook_Packet_init_20 (lv_at hl 4 rfl) ?_
  refine x_putZF hC hZ zc9 h (by decide) t_494 (fun _ h9 => h9) rfl hnm rfl rfl d_AckBook_Packet_init_22 (fun w H locs hZ h => ?_)
  refine x_aload_n hC d_AckBook_Packet_init_25 rfl (lv_at hl 0 rfl) ?_
  refine lv_iload hC.1 hC.2.1 d_AckBook_Packet_init_26 (lv_at hl 5 rfl) ?_
  refine x_putZF hC hZ zc9 h (by decide) t_497 (fun _ h9 => h9) rfl hnm rfl rfl d_AckBook_Packet_init_28 (fun w H locs hZ h => ?_)
  refine x_aload_n hC d_AckBook_Packet_init_31 rfl (lv_at hl 0 rfl) ?_
  refine lv_iconst (v := (0 : Int32)) hC.1 hC.2.1 d_AckBook_Packet_init_32 (by decide) ?_
  refine x_put hC hZ zc9 h (by decide) t_500 (fun _ h9 => h9) rfl rfl rfl rfl d_AckBook_Packet_init_33 (fun w H locs hZ h => ?_)
  exact x_vret hC hRc hRs hZ hr h d_AckBook_Packet_init_36
def f_ArraysSupport_hugeLength (F X : Nat) (pI1 : Int32) (pI2 : Int32) (w : zW) : zR :=
  if 0 ≤ (pI1 + pI2) then (
    if (2147483639 : Int32) < (pI1 + pI2) then (
      some (.inl (some (.int (pI1 + pI2))), w))
    else (
      some (.inl (some (.int (2147483639 : Int32))), w)))
  else (
    none)
set_option maxHeartbeats 4000000 in
set_option maxRecDepth 100000 in
theorem k_ArraysSupport_hugeLength {b0 : Nat} {H0 : Heap} {D : va_G} {vu vs : Value} {X M : Nat} {l : Launch} (hT : z_TB (zGG b0 H0 D vu vs X M)) (hfl : l.flags = pinnedFlags ++ [noTraceFlag]) (hE : vu.isRef = true ∧ vs.isRef = true) {pI1 : Int32} {pI2 : Int32} (F : Nat) {w : zW} (res : zO × zW) (h : f_ArraysSupport_hugeLength F X pI1 pI2 w = some res) : z_Ct (zGG b0 H0 D vu vs X M) l y_ArraysSupport_hugeLength (.code y_ArraysSupport_hugeLength c_ArraysSupport_hugeLength 3 (some FieldType.int)) 0 0 [.int pI1, .int pI2] w res := by
  refine z_ct hT hfl (by decide) (by simp only [z_sl_i, z_sl_j, z_sl_r, z_sl_n]; decide) ?_
  intro p e R s m args below meth c hC hr hRc hRs hRt hnm hFr H ls hZ hl
  simp only [z_la_i, z_la_j, z_la_r, z_la_n] at hl
  have hl : lv_has ls 3 [(0, .int pI1), (1, .int pI2)] := hl
  unfold f_ArraysSupport_hugeLength at h
  refine lv_iload_n hC.1 hC.2.1 d_ArraysSupport_hugeLength_0 rfl (lv_at hl 0 rfl) ?_
  refine lv_iload_n hC.1 hC.2.1 d_ArraysSupport_hugeLength_1 rfl (lv_at hl 1 rfl) ?_
  refine lv_iadd hC.1 hC.2.1 d_ArraysSupport_hugeLength_2 ?_
  refine lv_istore_n (i := 2) (lv' := [(2, .int (pI1 + pI2)), (0, .int pI1), (1, .int pI2)]) hC.1 hC.2.1 d_ArraysSupport_hugeLength_3 rfl hl (by decide) (by first | rfl | simp [z_rfc, z_ci, z_cj]) (fun ls hl => ?_)
  refine lv_iload_n hC.1 hC.2.1 d_ArraysSupport_hugeLength_4 rfl (lv_at hl 0 rfl) ?_
  refine lv_if_ge (tgt := 49) hC.1 hC.2.1 d_ArraysSupport_hugeLength_5 (by decide) (fun hc => ?_) (fun hc => ?_)
  · have h := z_ifp hc h
    refine lv_iload_n hC.1 hC.2.1 d_ArraysSupport_hugeLength_49 rfl (lv_at hl 0 rfl) ?_
    refine lv_ldc (v := (2147483639 : Int32)) hC.1 hC.2.1 hC.2.2.2.1 ((hZ.1.tb hC.2.2.2.2.2.2 args) _ t_548) d_ArraysSupport_hugeLength_50 ?_
    refine lv_icmp_gt (tgt := 58) hC.1 hC.2.1 d_ArraysSupport_hugeLength_52 (by decide) (fun hc => ?_) (fun hc => ?_)
    · have h := z_ifp hc h
      refine lv_iload_n hC.1 hC.2.1 d_ArraysSupport_hugeLength_58 rfl (lv_at hl 0 rfl) ?_
      exact x_iret hC hRc hRs hZ hr rfl h d_ArraysSupport_hugeLength_59
    · have h := z_ifn hc h
      refine lv_ldc (v := (2147483639 : Int32)) hC.1 hC.2.1 hC.2.2.2.1 ((hZ.1.tb hC.2.2.2.2.2.2 args) _ t_548) d_ArraysSupport_hugeLength_55 ?_
      exact x_iret hC hRc hRs hZ hr rfl h d_ArraysSupport_hugeLength_57
  · have h := z_ifn hc h
    cases h
def q_ArraysSupport_newLength_21 (F X : Nat) (xL0 : Int32) (xL1 : Int32) (w : zW) : zR :=
  z_cI (f_ArraysSupport_hugeLength F X xL0 xL1 w) fun v2 w =>
  some (.inl (some (.int v2)), w)
set_option maxHeartbeats 4000000 in
set_option maxRecDepth 100000 in
theorem kq_ArraysSupport_newLength_21 {b0 : Nat} {H0 : Heap} {D : va_G} {vu vs : Value} {X M : Nat} {l : Launch} (hT : z_TB (zGG b0 H0 D vu vs X M)) (hfl : l.flags = pinnedFlags ++ [noTraceFlag]) (hE : vu.isRef = true ∧ vs.isRef = true) {p : Program} {e : Env} {R : Room} {s : State} {m : MethodId} {args : Array Value} {below : List Frame} {meth : Method} {c : Code} {w0 : zW} {F : Nat} (hC : z_C (zGG b0 H0 D vu vs X M) p e s m meth c c_ArraysSupport_newLength 4 y_ArraysSupport_newLength.cls) (hr : meth.sig.returnType = (some FieldType.int)) (hRc : R.cells = w0.2.1) (hRs : R.slots = w0.2.2.1) (hFr : c.exceptionTable.toList = []) (hRt : R.frames = 1 ∧ R.locals = 28) (hnm : meth.name = y_ArraysSupport_newLength.name) (xL0 : Int32) (xL1 : Int32) (w : zW) (res : zO × zW) (h : q_ArraysSupport_newLength_21 F X xL0 xL1 w = some res) (H : Heap) (locs : List Loc) (cells slots : Nat) (ls : Array Slot) (hZ : z_Z (zGG b0 H0 D vu vs X M) R s w H locs cells slots) (hl : lv_has ls 4 [(0, .int xL0), (1, .int xL1)]) : W p l e R s m args below meth c H locs cells slots (z_Q (zGG b0 H0 D vu vs X M) below s w0 res) (F0 m 21 ls []) := by
  unfold q_ArraysSupport_newLength_21 at h
  refine lv_iload_n hC.1 hC.2.1 d_ArraysSupport_newLength_21 rfl (lv_at hl 0 rfl) ?_
  refine lv_iload_n hC.1 hC.2.1 d_ArraysSupport_newLength_22 rfl (lv_at hl 1 rfl) ?_
  obtain ⟨w1_, o1_, hF_, ha_⟩ := z_cI_spec h
  refine x_goes hC hRc hRs hFr ha_ (z_goS (As := [.int xL0, .int xL1]) hC hZ (k_ArraysSupport_hugeLength hT hfl hE _ _ hF_) t_549 t_550 t_19 t_551 ⟨by decide, by decide, (by decide +kernel : (parseMethodDescriptor y_ArraysSupport_hugeLength.desc).map (fun d => d.parameters.length) = some 2)⟩ (by rw [hRt.1]; decide) (by rw [hRt.2]; decide) hl.1 rfl (by first | exact Nat.le_of_ble_eq_true rfl | simp [z_rfc, z_ci, z_cj]) d_ArraysSupport_newLength_23) (fun v_ hv H locs cells slots hZ => ?_)
  obtain ⟨v2, rfl, h⟩ := hv
  generalize w1_ = w at h hZ
  exact x_iret hC hRc hRs hZ hr rfl h d_ArraysSupport_newLength_26
def f_ArraysSupport_newLength (F X : Nat) (pI1 : Int32) (pI2 : Int32) (pI3 : Int32) (w : zW) : zR :=
  if (pI1 + (if pI2 < pI3 then pI3 else pI2)) ≤ (0 : Int32) then (
    q_ArraysSupport_newLength_21 F X pI1 pI2 w)
  else (
    if (2147483639 : Int32) < (pI1 + (if pI2 < pI3 then pI3 else pI2)) then (
      q_ArraysSupport_newLength_21 F X pI1 pI2 w)
    else (
      some (.inl (some (.int (pI1 + (if pI2 < pI3 then pI3 else pI2)))), w)))
set_option maxHeartbeats 4000000 in
set_option maxRecDepth 100000 in
theorem k_ArraysSupport_newLength {b0 : Nat} {H0 : Heap} {D : va_G} {vu vs : Value} {X M : Nat} {l : Launch} (hT : z_TB (zGG b0 H0 D vu vs X M)) (hfl : l.flags = pinnedFlags ++ [noTraceFlag]) (hE : vu.isRef = true ∧ vs.isRef = true) {pI1 : Int32} {pI2 : Int32} {pI3 : Int32} (F : Nat) {w : zW} (res : zO × zW) (h : f_ArraysSupport_newLength F X pI1 pI2 pI3 w = some res) : z_Ct (zGG b0 H0 D vu vs X M) l y_ArraysSupport_newLength (.code y_ArraysSupport_newLength c_ArraysSupport_newLength 4 (some FieldType.int)) 1 28 [.int pI1, .int pI2, .int pI3] w res := by
  refine z_ct hT hfl (by decide) (by simp only [z_sl_i, z_sl_j, z_sl_r, z_sl_n]; decide) ?_
  intro p e R s m args below meth c hC hr hRc hRs hRt hnm hFr H ls hZ hl
  simp only [z_la_i, z_la_j, z_la_r, z_la_n] at hl
  have hl : lv_has ls 4 [(0, .int pI1), (1, .int pI2), (2, .int pI3)] := hl
  unfold f_ArraysSupport_newLength at h
  refine lv_iload_n hC.1 hC.2.1 d_ArraysSupport_newLength_0 rfl (lv_at hl 0 rfl) ?_
  refine lv_iload_n hC.1 hC.2.1 d_ArraysSupport_newLength_1 rfl (lv_at hl 1 rfl) ?_
  refine lv_iload_n hC.1 hC.2.1 d_ArraysSupport_newLength_2 rfl (lv_at hl 2 rfl) ?_
  refine va_mmax hC.1 hC.2.1 (hC.2.2.1.trans hl.1.symm) hC.2.2.2.1 ((hZ.1.tb hC.2.2.2.2.2.2 args) _ t_547) ((hZ.1.tb hC.2.2.2.2.2.2 args) _ t_290) ((hZ.1.tb hC.2.2.2.2.2.2 args) _ t_20) ((hZ.1.tb hC.2.2.2.2.2.2 args) _ t_291) (by rw [hRt.1]; decide) (by rw [hRt.2]; first | exact Nat.le_of_ble_eq_true rfl | simp [z_rfc, z_ci, z_cj]) (hZ.2.2.1 ▸ Nat.le_add_right _ _) (hZ.2.2.2 ▸ Nat.le_add_right _ _) d_ArraysSupport_newLength_3 ?_
  refine lv_iadd hC.1 hC.2.1 d_ArraysSupport_newLength_6 ?_
  refine lv_istore_n (i := 3) (lv' := [(3, .int (pI1 + (if pI2 < pI3 then pI3 else pI2))), (0, .int pI1), (1, .int pI2), (2, .int pI3)]) hC.1 hC.2.1 d_ArraysSupport_newLength_7 rfl hl (by decide) (by first | rfl | simp [z_rfc, z_ci, z_cj]) (fun ls hl => ?_)
  refine lv_iconst (v := (0 : Int32)) hC.1 hC.2.1 d_ArraysSupport_newLength_8 (by decide) ?_
  refine lv_iload_n hC.1 hC.2.1 d_ArraysSupport_newLength_9 rfl (lv_at hl 0 rfl) ?_
  refine lv_icmp_ge (tgt := 21) hC.1 hC.2.1 d_ArraysSupport_newLength_10 (by decide) (fun hc => ?_) (fun hc => ?_)
  · have h := z_ifp hc h
    exact kq_ArraysSupport_newLength_21 hT hfl hE hC hr hRc hRs hFr hRt hnm _ _ _ _ h _ _ _ _ _ hZ (lv_sub hl [1, 2] rfl)
  · have h := z_ifn hc h
    refine lv_iload_n hC.1 hC.2.1 d_ArraysSupport_newLength_13 rfl (lv_at hl 0 rfl) ?_
    refine lv_ldc (v := (2147483639 : Int32)) hC.1 hC.2.1 hC.2.2.2.1 ((hZ.1.tb hC.2.2.2.2.2.2 args) _ t_548) d_ArraysSupport_newLength_14 ?_
    refine lv_icmp_gt (tgt := 21) hC.1 hC.2.1 d_ArraysSupport_newLength_16 (by decide) (fun hc => ?_) (fun hc => ?_)
    · have h := z_ifp hc h
      exact kq_ArraysSupport_newLength_21 hT hfl hE hC hr hRc hRs hFr hRt hnm _ _ _ _ h _ _ _ _ _ hZ (lv_sub hl [1, 2] rfl)
    · have h := z_ifn hc h
      refine lv_iload_n hC.1 hC.2.1 d_ArraysSupport_newLength_19 rfl (lv_at hl 0 rfl) ?_
      exact x_iret hC hRc hRs hZ hr rfl h d_ArraysSupport_newLength_20
def q_Arrays_copyOf_24 (F X : Nat) (rL0 : Option Nat) (xL1 : Int32) (rS0 : Option Nat) (w : zW) : zR :=
  z_len w rL0 fun v1 =>
  z_acp w "java/lang/Object" 9 rL0 (0 : Int32) rS0 (0 : Int32) (if xL1 < v1 then xL1 else v1) fun w =>
  some (.inl (some (va_rf rS0)), w)
set_option maxHeartbeats 4000000 in
set_option maxRecDepth 100000 in
theorem kq_Arrays_copyOf_24 {b0 : Nat} {H0 : Heap} {D : va_G} {vu vs : Value} {X M : Nat} {l : Launch} (hT : z_TB (zGG b0 H0 D vu vs X M)) (hfl : l.flags = pinnedFlags ++ [noTraceFlag]) (hE : vu.isRef = true ∧ vs.isRef = true) {p : Program} {e : Env} {R : Room} {s : State} {m : MethodId} {args : Array Value} {below : List Frame} {meth : Method} {c : Code} {w0 : zW} {F : Nat} (hC : z_C (zGG b0 H0 D vu vs X M) p e s m meth c c_Arrays_copyOf 4 y_Arrays_copyOf.cls) (hr : meth.sig.returnType = (some (FieldType.array (FieldType.object "java/lang/Object")))) (hRc : R.cells = w0.2.1) (hRs : R.slots = w0.2.2.1) (hFr : c.exceptionTable.toList = []) (hRt : R.frames = 1 ∧ R.locals = 60) (hnm : meth.name = y_Arrays_copyOf.name) (rL0 : Option Nat) (xL1 : Int32) (rS0 : Option Nat) (w : zW) (res : zO × zW) (h : q_Arrays_copyOf_24 F X rL0 xL1 rS0 w = some res) (H : Heap) (locs : List Loc) (cells slots : Nat) (ls : Array Slot) (hZ : z_Z (zGG b0 H0 D vu vs X M) R s w H locs cells slots) (hl : lv_has ls 4 [(0, va_rf rL0), (1, .int xL1)]) : W p l e R s m args below meth c H locs cells slots (z_Q (zGG b0 H0 D vu vs X M) below s w0 res) (F0 m 24 ls [va_rf rS0]) := by
  unfold q_Arrays_copyOf_24 at h
  refine x_astore_n (i := 3) (lv' := [(3, va_rf rS0), (0, va_rf rL0), (1, .int xL1)]) hC d_Arrays_copyOf_24 rfl hl (by decide) (by first | rfl | simp [z_rfc, z_ci, z_cj]) (fun ls hl => ?_)
  refine x_aload_n hC d_Arrays_copyOf_25 rfl (lv_at hl 1 rfl) ?_
  refine lv_iconst (v := (0 : Int32)) hC.1 hC.2.1 d_Arrays_copyOf_26 (by decide) ?_
  refine x_aload_n hC d_Arrays_copyOf_27 rfl (lv_at hl 0 rfl) ?_
  refine lv_iconst (v := (0 : Int32)) hC.1 hC.2.1 d_Arrays_copyOf_28 (by decide) ?_
  refine x_aload_n hC d_Arrays_copyOf_29 rfl (lv_at hl 1 rfl) ?_
  refine x_len hC hZ h d_Arrays_copyOf_30 (fun v1 h => ?_)
  refine lv_iload_n hC.1 hC.2.1 d_Arrays_copyOf_31 rfl (lv_at hl 2 rfl) ?_
  refine va_mmin hC.1 hC.2.1 (hC.2.2.1.trans hl.1.symm) hC.2.2.2.1 ((hZ.1.tb hC.2.2.2.2.2.2 args) _ t_579) ((hZ.1.tb hC.2.2.2.2.2.2 args) _ t_361) ((hZ.1.tb hC.2.2.2.2.2.2 args) _ t_20) ((hZ.1.tb hC.2.2.2.2.2.2 args) _ t_362) (by rw [hRt.1]; decide) (by rw [hRt.2]; first | exact Nat.le_of_ble_eq_true rfl | simp [z_rfc, z_ci, z_cj]) (hZ.2.2.1 ▸ Nat.le_add_right _ _) (hZ.2.2.2 ▸ Nat.le_add_right _ _) d_Arrays_copyOf_32 ?_
  refine x_acp hC hZ zc9 h (Or.inl t_1105) t_580 t_582 t_581 t_22 hl.1 (by rw [hRt.1]; decide) (by rw [hRt.2]; first | exact Nat.le_of_ble_eq_true rfl | decide | simp [z_rfc, z_ci, z_cj]) d_Arrays_copyOf_35 (fun w H locs hZ h => ?_)
  refine x_aload_n hC d_Arrays_copyOf_38 rfl (lv_at hl 0 rfl) ?_
  exact x_aret hC hRc hRs hZ hr (Or.inr ⟨_, rfl⟩) h d_Arrays_copyOf_39
def f_Arrays_copyOf (F X : Nat) (pR1 : Option Nat) (pI2 : Int32) (w : zW) : zR :=
  z_newa w (.object "java/lang/Object") pI2 (fun n => (n, .inr (.inr (.inr (.inr fun _ => none))))) fun a2 w =>
  q_Arrays_copyOf_24 F X pR1 pI2 (some a2) w
set_option maxHeartbeats 4000000 in
set_option maxRecDepth 100000 in
theorem k_Arrays_copyOf {b0 : Nat} {H0 : Heap} {D : va_G} {vu vs : Value} {X M : Nat} {l : Launch} (hT : z_TB (zGG b0 H0 D vu vs X M)) (hfl : l.flags = pinnedFlags ++ [noTraceFlag]) (hE : vu.isRef = true ∧ vs.isRef = true) {pR1 : Option Nat} {pI2 : Int32} (F : Nat) {w : zW} (res : zO × zW) (h : f_Arrays_copyOf F X pR1 pI2 w = some res) : z_Ct (zGG b0 H0 D vu vs X M) l y_Arrays_copyOf (.code y_Arrays_copyOf c_Arrays_copyOf 4 (some (FieldType.array (FieldType.object "java/lang/Object")))) 1 60 [va_rf pR1, .int pI2, va_rf (some M)] w res := by
  refine z_ct hT hfl (by decide) (by simp only [z_sl_i, z_sl_j, z_sl_r, z_sl_n]; decide) ?_
  intro p e R s m args below meth c hC hr hRc hRs hRt hnm hFr H ls hZ hl
  simp only [z_la_i, z_la_j, z_la_r, z_la_n] at hl
  have hl : lv_has ls 4 [(0, va_rf pR1), (1, .int pI2), (2, va_rf (some M))] := hl
  unfold f_Arrays_copyOf at h
  refine x_aload_n hC d_Arrays_copyOf_0 rfl (lv_at hl 2 rfl) ?_
  refine x_ldcM hC hZ List.mem_cons_self t_576 d_Arrays_copyOf_1 ?_
  refine lv_acmp_ne (tgt := 13) hC.1 hC.2.1 d_Arrays_copyOf_3 (by decide) (fun hc => absurd rfl hc) (fun _ => ?_)
  refine lv_iload_n hC.1 hC.2.1 d_Arrays_copyOf_6 rfl (lv_at hl 1 rfl) ?_
  refine x_anew hC hZ h t_578 t_577 d_Arrays_copyOf_7 (fun a2 w H cells slots hZ h => ?_)
  refine lv_goto (tgt := 24) hC.1 hC.2.1 d_Arrays_copyOf_10 (by decide) ?_
  exact kq_Arrays_copyOf_24 hT hfl hE hC hr hRc hRs hFr hRt hnm _ _ _ _ _ h _ _ _ _ _ hZ (lv_sub hl [0, 1] rfl)
def f_Arrays_copyOf2 (F X : Nat) (pR1 : Option Nat) (pI2 : Int32) (w : zW) : zR :=
  z_isAr w (.object "java/lang/Object") pR1 <|
  z_cR (f_Arrays_copyOf F X pR1 pI2 w) fun r2 w =>
  some (.inl (some (va_rf r2)), w)
set_option maxHeartbeats 4000000 in
set_option maxRecDepth 100000 in
theorem k_Arrays_copyOf2 {b0 : Nat} {H0 : Heap} {D : va_G} {vu vs : Value} {X M : Nat} {l : Launch} (hT : z_TB (zGG b0 H0 D vu vs X M)) (hfl : l.flags = pinnedFlags ++ [noTraceFlag]) (hE : vu.isRef = true ∧ vs.isRef = true) {pR1 : Option Nat} {pI2 : Int32} (F : Nat) {w : zW} (res : zO × zW) (h : f_Arrays_copyOf2 F X pR1 pI2 w = some res) : z_Ct (zGG b0 H0 D vu vs X M) l y_Arrays_copyOf2 (.code y_Arrays_copyOf2 c_Arrays_copyOf2 2 (some (FieldType.array (FieldType.object "java/lang/Object")))) 2 83 [va_rf pR1, .int pI2] w res := by
  refine z_ct hT hfl (by decide) (by simp only [z_sl_i, z_sl_j, z_sl_r, z_sl_n]; decide) ?_
  intro p e R s m args below meth c hC hr hRc hRs hRt hnm hFr H ls hZ hl
  simp only [z_la_i, z_la_j, z_la_r, z_la_n] at hl
  have hl : lv_has ls 2 [(0, va_rf pR1), (1, .int pI2)] := hl
  unfold f_Arrays_copyOf2 at h
  refine x_aload_n hC d_Arrays_copyOf2_0 rfl (lv_at hl 0 rfl) ?_
  refine lv_iload_n hC.1 hC.2.1 d_Arrays_copyOf2_1 rfl (lv_at hl 1 rfl) ?_
  refine x_aload_n hC d_Arrays_copyOf2_2 rfl (lv_at hl 0 rfl) ?_
  refine x_getC hC hZ List.mem_cons_self h t_555 t_1095 t_1094 t_556 t_572 hl.1 (by rw [hRt.1]; decide) (by rw [hRt.2]; first | exact Nat.le_of_ble_eq_true rfl | decide | simp [z_rfc, z_ci, z_cj]) d_Arrays_copyOf2_3 (fun h => ?_)
  obtain ⟨w1_, o1_, hF_, ha_⟩ := z_cR_spec h
  refine x_goes hC hRc hRs hFr ha_ (z_goS (As := [va_rf pR1, .int pI2, va_rf (some M)]) hC hZ (k_Arrays_copyOf hT hfl hE _ _ hF_) t_573 t_574 t_21 t_575 ⟨by decide, by decide, (by decide +kernel : (parseMethodDescriptor y_Arrays_copyOf.desc).map (fun d => d.parameters.length) = some 3)⟩ (by rw [hRt.1]; decide) (by rw [hRt.2]; decide) hl.1 rfl (by first | exact Nat.le_of_ble_eq_true rfl | simp [z_rfc, z_ci, z_cj]) d_Arrays_copyOf2_6) (fun v_ hv H locs cells slots hZ => ?_)
  obtain ⟨r2, rfl, h⟩ := hv
  generalize w1_ = w at h hZ
  exact x_aret hC hRc hRs hZ hr (Or.inr ⟨_, rfl⟩) h d_Arrays_copyOf2_9
def q_ArrayList_grow_20 (F X : Nat) (rL0 : Option Nat) (xL1 : Int32) (xL2 : Int32) (w : zW) : zR :=
  z_cI (f_ArraysSupport_newLength F X xL2 (xL1 - xL2) (xL2 >>> ((1 : Int32) &&& 31)) w) fun v2 w =>
  z_getR w 4 0 rL0 fun r3 =>
  z_cR (f_Arrays_copyOf2 F X r3 v2 w) fun r5 w =>
  z_put w 4 0 rL0 (va_rf r5) fun w =>
  some (.inl (some (va_rf r5)), w)
set_option maxHeartbeats 4000000 in
set_option maxRecDepth 100000 in
theorem kq_ArrayList_grow_20 {b0 : Nat} {H0 : Heap} {D : va_G} {vu vs : Value} {X M : Nat} {l : Launch} (hT : z_TB (zGG b0 H0 D vu vs X M)) (hfl : l.flags = pinnedFlags ++ [noTraceFlag]) (hE : vu.isRef = true ∧ vs.isRef = true) {p : Program} {e : Env} {R : Room} {s : State} {m : MethodId} {args : Array Value} {below : List Frame} {meth : Method} {c : Code} {w0 : zW} {F : Nat} (hC : z_C (zGG b0 H0 D vu vs X M) p e s m meth c c_ArrayList_grow 4 y_ArrayList_grow.cls) (hr : meth.sig.returnType = (some (FieldType.array (FieldType.object "java/lang/Object")))) (hRc : R.cells = w0.2.1) (hRs : R.slots = w0.2.2.1) (hFr : c.exceptionTable.toList = []) (hRt : R.frames = 3 ∧ R.locals = 104) (hnm : meth.name = y_ArrayList_grow.name) (rL0 : Option Nat) (xL1 : Int32) (xL2 : Int32) (w : zW) (res : zO × zW) (h : q_ArrayList_grow_20 F X rL0 xL1 xL2 w = some res) (H : Heap) (locs : List Loc) (cells slots : Nat) (ls : Array Slot) (hZ : z_Z (zGG b0 H0 D vu vs X M) R s w H locs cells slots) (hl : lv_has ls 4 [(0, va_rf rL0), (1, .int xL1), (2, .int xL2)]) : W p l e R s m args below meth c H locs cells slots (z_Q (zGG b0 H0 D vu vs X M) below s w0 res) (F0 m 20 ls []) := by
  unfold q_ArrayList_grow_20 at h
  refine lv_iload_n hC.1 hC.2.1 d_ArrayList_grow_20 rfl (lv_at hl 2 rfl) ?_
  refine lv_iload_n hC.1 hC.2.1 d_ArrayList_grow_21 rfl (lv_at hl 1 rfl) ?_
  refine lv_iload_n hC.1 hC.2.1 d_ArrayList_grow_22 rfl (lv_at hl 2 rfl) ?_
  refine lv_isub hC.1 hC.2.1 d_ArrayList_grow_23 ?_
  refine lv_iload_n hC.1 hC.2.1 d_ArrayList_grow_24 rfl (lv_at hl 2 rfl) ?_
  refine lv_iconst (v := (1 : Int32)) hC.1 hC.2.1 d_ArrayList_grow_25 (by decide) ?_
  refine lv_ishr hC.1 hC.2.1 d_ArrayList_grow_26 ?_
  obtain ⟨w1_, o1_, hF_, ha_⟩ := z_cI_spec h
  refine x_goes hC hRc hRs hFr ha_ (z_goS (As := [.int xL2, .int (xL1 - xL2), .int (xL2 >>> ((1 : Int32) &&& 31))]) hC hZ (k_ArraysSupport_newLength hT hfl hE _ _ hF_) t_544 t_545 t_19 t_546 ⟨by decide, by decide, (by decide +kernel : (parseMethodDescriptor y_ArraysSupport_newLength.desc).map (fun d => d.parameters.length) = some 3)⟩ (by rw [hRt.1]; decide) (by rw [hRt.2]; decide) hl.1 rfl (by first | exact Nat.le_of_ble_eq_true rfl | simp [z_rfc, z_ci, z_cj]) d_ArrayList_grow_27) (fun v_ hv H locs cells slots hZ => ?_)
  obtain ⟨v2, rfl, h⟩ := hv
  generalize w1_ = w at h hZ
  refine lv_istore_n (i := 3) (lv' := [(3, .int v2), (0, va_rf rL0), (1, .int xL1), (2, .int xL2)]) hC.1 hC.2.1 d_ArrayList_grow_30 rfl hl (by decide) (by first | rfl | simp [z_rfc, z_ci, z_cj]) (fun ls hl => ?_)
  refine x_aload_n hC d_ArrayList_grow_31 rfl (lv_at hl 1 rfl) ?_
  refine x_aload_n hC d_ArrayList_grow_32 rfl (lv_at hl 1 rfl) ?_
  refine x_getR hC hZ zc4 h (by decide) t_74 (fun _ h9 => h9) d_ArrayList_grow_33 (fun r3 h => ?_)
  refine lv_iload_n hC.1 hC.2.1 d_ArrayList_grow_36 rfl (lv_at hl 0 rfl) ?_
  obtain ⟨w1_, o1_, hF_, ha_⟩ := z_cR_spec h
  refine x_goes hC hRc hRs hFr ha_ (z_goS (As := [va_rf r3, .int v2]) hC hZ (k_Arrays_copyOf2 hT hfl hE _ _ hF_) t_552 t_553 t_21 t_554 ⟨by decide, by decide, (by decide +kernel : (parseMethodDescriptor y_Arrays_copyOf2.desc).map (fun d => d.parameters.length) = some 2)⟩ (by rw [hRt.1]; decide) (by rw [hRt.2]; decide) hl.1 rfl (by first | exact Nat.le_of_ble_eq_true rfl | simp [z_rfc, z_ci, z_cj]) d_ArrayList_grow_37) (fun v_ hv H locs cells slots hZ => ?_)
  obtain ⟨r5, rfl, h⟩ := hv
  generalize w1_ = w at h hZ
  refine lv_dup_x1 hC.1 hC.2.1 d_ArrayList_grow_40 (z_rfc _) (z_rfc _) ?_
  refine x_put hC hZ zc4 h (by decide) t_74 (fun _ h9 => h9) rfl rfl (z_rfnA _ _) (z_rffA _ _) d_ArrayList_grow_41 (fun w H locs hZ h => ?_)
  exact x_aret hC hRc hRs hZ hr (Or.inr ⟨_, rfl⟩) h d_ArrayList_grow_44
def f_ArrayList_grow (F X : Nat) (a0 : Option Nat) (pI1 : Int32) (w : zW) : zR :=
  z_getR w 4 0 a0 fun r6 =>
  z_len w r6 fun v7 =>
  if 0 < v7 then (
    q_ArrayList_grow_20 F X a0 pI1 v7 w)
  else (
    z_getR w 4 0 a0 fun r8 =>
    if r8 = some X then (
      z_newa w (.object "java/lang/Object") (if (10 : Int32) < pI1 then pI1 else (10 : Int32)) (fun n => (n, .inr (.inr (.inr (.inr fun _ => none))))) fun a9 w =>
      z_put w 4 0 a0 (va_rf (some a9)) fun w =>
      some (.inl (some (va_rf (some a9))), w))
    else (
      q_ArrayList_grow_20 F X a0 pI1 v7 w))
set_option maxHeartbeats 4000000 in
set_option maxRecDepth 100000 in
theorem k_ArrayList_grow {b0 : Nat} {H0 : Heap} {D : va_G} {vu vs : Value} {X M : Nat} {l : Launch} (hT : z_TB (zGG b0 H0 D vu vs X M)) (hfl : l.flags = pinnedFlags ++ [noTraceFlag]) (hE : vu.isRef = true ∧ vs.isRef = true) {a0 : Option Nat} {pI1 : Int32} (F : Nat) {w : zW} (res : zO × zW) (h : f_ArrayList_grow F X a0 pI1 w = some res) : z_Ct (zGG b0 H0 D vu vs X M) l y_ArrayList_grow (.code y_ArrayList_grow c_ArrayList_grow 4 (some (FieldType.array (FieldType.object "java/lang/Object")))) 3 104 [va_rf a0, .int pI1] w res := by
  refine z_ct hT hfl (by decide) (by simp only [z_sl_i, z_sl_j, z_sl_r, z_sl_n]; decide) ?_
  intro p e R s m args below meth c hC hr hRc hRs hRt hnm hFr H ls hZ hl
  simp only [z_la_i, z_la_j, z_la_r, z_la_n] at hl
  have hl : lv_has ls 4 [(0, va_rf a0), (1, .int pI1)] := hl
  unfold f_ArrayList_grow at h
  refine x_aload_n hC d_ArrayList_grow_0 rfl (lv_at hl 0 rfl) ?_
  refine x_getR hC hZ zc4 h (by decide) t_74 (fun _ h9 => h9) d_ArrayList_grow_1 (fun r6 h => ?_)
  refine x_len hC hZ h d_ArrayList_grow_4 (fun v7 h => ?_)
  refine lv_istore_n (i := 2) (lv' := [(2, .int v7), (0, va_rf a0), (1, .int pI1)]) hC.1 hC.2.1 d_ArrayList_grow_5 rfl hl (by decide) (by first | rfl | simp [z_rfc, z_ci, z_cj]) (fun ls hl => ?_)
  refine lv_iload_n hC.1 hC.2.1 d_ArrayList_grow_6 rfl (lv_at hl 0 rfl) ?_
  refine lv_if_gt (tgt := 20) hC.1 hC.2.1 d_ArrayList_grow_7 (by decide) (fun hc => ?_) (fun hc => ?_)
  · have h := z_ifp hc h
    exact kq_ArrayList_grow_20 hT hfl hE hC hr hRc hRs hFr hRt hnm _ _ _ _ _ h _ _ _ _ _ hZ (lv_sub hl [1, 2, 0] rfl)
  · have h := z_ifn hc h
    refine x_aload_n hC d_ArrayList_grow_10 rfl (lv_at hl 1 rfl) ?_
    refine x_getR hC hZ zc4 h (by decide) t_74 (fun _ h9 => h9) d_ArrayList_grow_11 (fun r8 h => ?_)
    refine x_getsR hC hZ (List.mem_cons_of_mem _ (List.mem_cons_of_mem _ List.mem_cons_self)) t_72 d_ArrayList_grow_14 ?_
    refine lv_acmp_eq (tgt := 45) hC.1 hC.2.1 d_ArrayList_grow_17 (by decide) (fun hc => ?_) (fun hc => ?_)
    · have h := z_ifp hc h
      refine x_aload_n hC d_ArrayList_grow_45 rfl (lv_at hl 1 rfl) ?_
      refine lv_bipush (v := (10 : Int32)) hC.1 hC.2.1 d_ArrayList_grow_46 (by decide) ?_
      refine lv_iload_n hC.1 hC.2.1 d_ArrayList_grow_48 rfl (lv_at hl 2 rfl) ?_
      refine va_mmax hC.1 hC.2.1 (hC.2.2.1.trans hl.1.symm) hC.2.2.2.1 ((hZ.1.tb hC.2.2.2.2.2.2 args) _ t_583) ((hZ.1.tb hC.2.2.2.2.2.2 args) _ t_290) ((hZ.1.tb hC.2.2.2.2.2.2 args) _ t_20) ((hZ.1.tb hC.2.2.2.2.2.2 args) _ t_291) (by rw [hRt.1]; decide) (by rw [hRt.2]; first | exact Nat.le_of_ble_eq_true rfl | simp [z_rfc, z_ci, z_cj]) (hZ.2.2.1 ▸ Nat.le_add_right _ _) (hZ.2.2.2 ▸ Nat.le_add_right _ _) d_ArrayList_grow_49 ?_
      refine x_anew hC hZ h t_584 t_577 d_ArrayList_grow_52 (fun a9 w H cells slots hZ h => ?_)
      refine lv_dup_x1 hC.1 hC.2.1 d_ArrayList_grow_55 (z_rfc _) (z_rfc _) ?_
      refine x_put hC hZ zc4 h (by decide) t_74 (fun _ h9 => h9) rfl rfl (z_rfnA _ _) (z_rffA _ _) d_ArrayList_grow_56 (fun w H locs hZ h => ?_)
      exact x_aret hC hRc hRs hZ hr (Or.inr ⟨_, rfl⟩) h d_ArrayList_grow_59
    · have h := z_ifn hc h
      exact kq_ArrayList_grow_20 hT hfl hE hC hr hRc hRs hFr hRt hnm _ _ _ _ _ h _ _ _ _ _ hZ (lv_sub hl [1, 2, 0] rfl)
def f_ArrayList_grow2 (F X : Nat) (a0 : Option Nat) (w : zW) : zR :=
  z_getI w 4 1 a0 fun v1 =>
  z_this w 4 a0 <|
  z_cR (f_ArrayList_grow F X a0 (v1 + (1 : Int32)) w) fun r3 w =>
  some (.inl (some (va_rf r3)), w)
set_option maxHeartbeats 4000000 in
set_option maxRecDepth 100000 in
theorem k_ArrayList_grow2 {b0 : Nat} {H0 : Heap} {D : va_G} {vu vs : Value} {X M : Nat} {l : Launch} (hT : z_TB (zGG b0 H0 D vu vs X M)) (hfl : l.flags = pinnedFlags ++ [noTraceFlag]) (hE : vu.isRef = true ∧ vs.isRef = true) {a0 : Option Nat} (F : Nat) {w : zW} (res : zO × zW) (h : f_ArrayList_grow2 F X a0 w = some res) : z_Ct (zGG b0 H0 D vu vs X M) l y_ArrayList_grow2 (.code y_ArrayList_grow2 c_ArrayList_grow2 1 (some (FieldType.array (FieldType.object "java/lang/Object")))) 4 127 [va_rf a0] w res := by
  refine z_ct hT hfl (by decide) (by simp only [z_sl_i, z_sl_j, z_sl_r, z_sl_n]; decide) ?_
  intro p e R s m args below meth c hC hr hRc hRs hRt hnm hFr H ls hZ hl
  simp only [z_la_i, z_la_j, z_la_r, z_la_n] at hl
  have hl : lv_has ls 1 [(0, va_rf a0)] := hl
  unfold f_ArrayList_grow2 at h
  refine x_aload_n hC d_ArrayList_grow2_0 rfl (lv_at hl 0 rfl) ?_
  refine x_aload_n hC d_ArrayList_grow2_1 rfl (lv_at hl 0 rfl) ?_
  refine x_getI hC hZ zc4 h (by decide) t_75 (fun _ h9 => h9) d_ArrayList_grow2_2 (fun v1 h => ?_)
  refine lv_iconst (v := (1 : Int32)) hC.1 hC.2.1 d_ArrayList_grow2_5 (by decide) ?_
  refine lv_iadd hC.1 hC.2.1 d_ArrayList_grow2_6 ?_
  obtain ⟨a_, fs_, eo_, h⟩ := z_this_spec h
  obtain ⟨w1_, o1_, hF_, ha_⟩ := z_cR_spec h
  refine x_goes hC hRc hRs hFr ha_ (z_goV (As := [.int (v1 + (1 : Int32))]) hC hZ zc4 eo_ (k_ArrayList_grow hT hfl hE _ _ hF_) t_540 t_542 ts_ArrayList_grow t_7 t_543 ⟨by decide, by decide, (by decide +kernel : (parseMethodDescriptor y_ArrayList_grow.desc).map (fun d => d.parameters.length) = some 1)⟩ (by rw [hRt.1]; decide) (by rw [hRt.2]; decide) hl.1 rfl (by first | exact Nat.le_of_ble_eq_true rfl | simp [z_rfc, z_ci, z_cj]) d_ArrayList_grow2_7) (fun v_ hv H locs cells slots hZ => ?_)
  obtain ⟨r3, rfl, h⟩ := hv
  generalize w1_ = w at h hZ
  exact x_aret hC hRc hRs hZ hr (Or.inr ⟨_, rfl⟩) h d_ArrayList_grow2_10
def q_ArrayList_add_11 (F X : Nat) (rL0 : Option Nat) (rL1 : Option Nat) (rL2 : Option Nat) (xL3 : Int32) (w : zW) : zR :=
  z_stR w (.object "java/lang/Object") 9 rL2 xL3 rL1 fun w =>
  z_put w 4 1 rL0 (.int (xL3 + (1 : Int32))) fun w =>
  some (.inl none, w)
set_option maxHeartbeats 4000000 in
set_option maxRecDepth 100000 in
theorem kq_ArrayList_add_11 {b0 : Nat} {H0 : Heap} {D : va_G} {vu vs : Value} {X M : Nat} {l : Launch} (hT : z_TB (zGG b0 H0 D vu vs X M)) (hfl : l.flags = pinnedFlags ++ [noTraceFlag]) (hE : vu.isRef = true ∧ vs.isRef = true) {p : Program} {e : Env} {R : Room} {s : State} {m : MethodId} {args : Array Value} {below : List Frame} {meth : Method} {c : Code} {w0 : zW} {F : Nat} (hC : z_C (zGG b0 H0 D vu vs X M) p e s m meth c c_ArrayList_add 4 y_ArrayList_add.cls) (hr : meth.sig.returnType = (none)) (hRc : R.cells = w0.2.1) (hRs : R.slots = w0.2.2.1) (hFr : c.exceptionTable.toList = []) (hRt : R.frames = 5 ∧ R.locals = 147) (hnm : meth.name = y_ArrayList_add.name) (rL0 : Option Nat) (rL1 : Option Nat) (rL2 : Option Nat) (xL3 : Int32) (w : zW) (res : zO × zW) (h : q_ArrayList_add_11 F X rL0 rL1 rL2 xL3 w = some res) (H : Heap) (locs : List Loc) (cells slots : Nat) (ls : Array Slot) (hZ : z_Z (zGG b0 H0 D vu vs X M) R s w H locs cells slots) (hl : lv_has ls 4 [(0, va_rf rL0), (1, va_rf rL1), (2, va_rf rL2), (3, .int xL3)]) : W p l e R s m args below meth c H locs cells slots (z_Q (zGG b0 H0 D vu vs X M) below s w0 res) (F0 m 11 ls []) := by
  unfold q_ArrayList_add_11 at h
  refine x_aload_n hC d_ArrayList_add_11 rfl (lv_at hl 2 rfl) ?_
  refine lv_iload_n hC.1 hC.2.1 d_ArrayList_add_12 rfl (lv_at hl 3 rfl) ?_
  refine x_aload_n hC d_ArrayList_add_13 rfl (lv_at hl 1 rfl) ?_
  refine x_stR hC hZ zc9 h (Or.inl t_1105) d_ArrayList_add_14 (fun w H locs hZ h => ?_)
  refine x_aload_n hC d_ArrayList_add_15 rfl (lv_at hl 0 rfl) ?_
  refine lv_iload_n hC.1 hC.2.1 d_ArrayList_add_16 rfl (lv_at hl 3 rfl) ?_
  refine lv_iconst (v := (1 : Int32)) hC.1 hC.2.1 d_ArrayList_add_17 (by decide) ?_
  refine lv_iadd hC.1 hC.2.1 d_ArrayList_add_18 ?_
  refine x_put hC hZ zc4 h (by decide) t_75 (fun _ h9 => h9) rfl rfl rfl rfl d_ArrayList_add_19 (fun w H locs hZ h => ?_)
  exact x_vret hC hRc hRs hZ hr h d_ArrayList_add_22
def f_ArrayList_add (F X : Nat) (a0 : Option Nat) (pR1 : Option Nat) (pR2 : Option Nat) (pI3 : Int32) (w : zW) : zR :=
  z_len w pR2 fun v1 =>
  if pI3 = v1 then (
    z_this w 4 a0 <|
    z_cR (f_ArrayList_grow2 F X a0 w) fun r3 w =>
    q_ArrayList_add_11 F X a0 pR1 r3 pI3 w)
  else (
    q_ArrayList_add_11 F X a0 pR1 pR2 pI3 w)
set_option maxHeartbeats 4000000 in
set_option maxRecDepth 100000 in
theorem k_ArrayList_add {b0 : Nat} {H0 : Heap} {D : va_G} {vu vs : Value} {X M : Nat} {l : Launch} (hT : z_TB (zGG b0 H0 D vu vs X M)) (hfl : l.flags = pinnedFlags ++ [noTraceFlag]) (hE : vu.isRef = true ∧ vs.isRef = true) {a0 : Option Nat} {pR1 : Option Nat} {pR2 : Option Nat} {pI3 : Int32} (F : Nat) {w : zW} (res : zO × zW) (h : f_ArrayList_add F X a0 pR1 pR2 pI3 w = some res) : z_Ct (zGG b0 H0 D vu vs X M) l y_ArrayList_add (.code y_ArrayList_add c_ArrayList_add 4 (none)) 5 147 [va_rf a0, va_rf pR1, va_rf pR2, .int pI3] w res := by
  refine z_ct hT hfl (by decide) (by simp only [z_sl_i, z_sl_j, z_sl_r, z_sl_n]; decide) ?_
  intro p e R s m args below meth c hC hr hRc hRs hRt hnm hFr H ls hZ hl
  simp only [z_la_i, z_la_j, z_la_r, z_la_n] at hl
  have hl : lv_has ls 4 [(0, va_rf a0), (1, va_rf pR1), (2, va_rf pR2), (3, .int pI3)] := hl
  unfold f_ArrayList_add at h
  refine lv_iload_n hC.1 hC.2.1 d_ArrayList_add_0 rfl (lv_at hl 3 rfl) ?_
  refine x_aload_n hC d_ArrayList_add_1 rfl (lv_at hl 2 rfl) ?_
  refine x_len hC hZ h d_ArrayList_add_2 (fun v1 h => ?_)
  refine lv_icmp_ne (tgt := 11) hC.1 hC.2.1 d_ArrayList_add_3 (by decide) (fun hc => ?_) (fun hc => ?_)
  · have h := z_ifn hc h
    exact kq_ArrayList_add_11 hT hfl hE hC hr hRc hRs hFr hRt hnm _ _ _ _ _ _ h _ _ _ _ _ hZ (lv_sub hl [0, 1, 2, 3] rfl)
  · have h := z_ifp hc h
    refine x_aload_n hC d_ArrayList_add_6 rfl (lv_at hl 0 rfl) ?_
    obtain ⟨a_, fs_, eo_, h⟩ := z_this_spec h
    obtain ⟨w1_, o1_, hF_, ha_⟩ := z_cR_spec h
    refine x_goes hC hRc hRs hFr ha_ (z_goV (As := []) hC hZ zc4 eo_ (k_ArrayList_grow2 hT hfl hE _ _ hF_) t_536 t_538 ts_ArrayList_grow2 t_7 t_539 ⟨by decide, by decide, (by decide +kernel : (parseMethodDescriptor y_ArrayList_grow2.desc).map (fun d => d.parameters.length) = some 0)⟩ (by rw [hRt.1]; decide) (by rw [hRt.2]; decide) hl.1 rfl (by first | exact Nat.le_of_ble_eq_true rfl | simp [z_rfc, z_ci, z_cj]) d_ArrayList_add_7) (fun v_ hv H locs cells slots hZ => ?_)
    obtain ⟨r3, rfl, h⟩ := hv
    generalize w1_ = w at h hZ
    refine x_astore_n (i := 2) (lv' := [(2, va_rf r3), (0, va_rf a0), (1, va_rf pR1), (3, .int pI3)]) hC d_ArrayList_add_10 rfl hl (by decide) (by first | rfl | simp [z_rfc, z_ci, z_cj]) (fun ls hl => ?_)
    exact kq_ArrayList_add_11 hT hfl hE hC hr hRc hRs hFr hRt hnm _ _ _ _ _ _ h _ _ _ _ _ hZ (lv_sub hl [1, 2, 0, 3] rfl)
def f_ArrayList_add2 (F X : Nat) (a0 : Option Nat) (pR1 : Option Nat) (w : zW) : zR :=
  z_getI w 4 2 a0 fun v1 =>
  z_put w 4 2 a0 (.int (v1 + (1 : Int32))) fun w =>
  z_getR w 4 0 a0 fun r2 =>
  z_getI w 4 1 a0 fun v3 =>
  z_this w 4 a0 <|
  z_cV (f_ArrayList_add F X a0 pR1 r2 v3 w) fun w =>
  some (.inl (some (.int (1 : Int32))), w)
set_option maxHeartbeats 4000000 in
set_option maxRecDepth 100000 in
theorem k_ArrayList_add2 {b0 : Nat} {H0 : Heap} {D : va_G} {vu vs : Value} {X M : Nat} {l : Launch} (hT : z_TB (zGG b0 H0 D vu vs X M)) (hfl : l.flags = pinnedFlags ++ [noTraceFlag]) (hE : vu.isRef = true ∧ vs.isRef = true) {a0 : Option Nat} {pR1 : Option Nat} (F : Nat) {w : zW} (res : zO × zW) (h : f_ArrayList_add2 F X a0 pR1 w = some res) : z_Ct (zGG b0 H0 D vu vs X M) l y_ArrayList_add2 (.code y_ArrayList_add2 c_ArrayList_add2 2 (some FieldType.boolean)) 6 170 [va_rf a0, va_rf pR1] w res := by
  refine z_ct hT hfl (by decide) (by simp only [z_sl_i, z_sl_j, z_sl_r, z_sl_n]; decide) ?_
  intro p e R s m args below meth c hC hr hRc hRs hRt hnm hFr H ls hZ hl
  simp only [z_la_i, z_la_j, z_la_r, z_la_n] at hl
  have hl : lv_has ls 2 [(0, va_rf a0), (1, va_rf pR1)] := hl
  unfold f_ArrayList_add2 at h
  refine x_aload_n hC d_ArrayList_add2_0 rfl (lv_at hl 0 rfl) ?_
  refine lv_dup hC.1 hC.2.1 d_ArrayList_add2_1 (z_rfc _) ?_
  refine x_getI hC hZ zc4 h (by decide) t_77 (fun x9 h9 => u_same ((hZ.1.tb hC.2.2.2.2.2.2 args) _ t_78) x9 h9) d_ArrayList_add2_2 (fun v1 h => ?_)
  refine lv_iconst (v := (1 : Int32)) hC.1 hC.2.1 d_ArrayList_add2_5 (by decide) ?_
  refine lv_iadd hC.1 hC.2.1 d_ArrayList_add2_6 ?_
  refine x_put hC hZ zc4 h (by decide) t_77 (fun x9 h9 => u_same ((hZ.1.tb hC.2.2.2.2.2.2 args) _ t_78) x9 h9) rfl rfl rfl rfl d_ArrayList_add2_7 (fun w H locs hZ h => ?_)
  refine x_aload_n hC d_ArrayList_add2_10 rfl (lv_at hl 0 rfl) ?_
  refine x_aload_n hC d_ArrayList_add2_11 rfl (lv_at hl 1 rfl) ?_
  refine x_aload_n hC d_ArrayList_add2_12 rfl (lv_at hl 0 rfl) ?_
  refine x_getR hC hZ zc4 h (by decide) t_74 (fun _ h9 => h9) d_ArrayList_add2_13 (fun r2 h => ?_)
  refine x_aload_n hC d_ArrayList_add2_16 rfl (lv_at hl 0 rfl) ?_
  refine x_getI hC hZ zc4 h (by decide) t_75 (fun _ h9 => h9) d_ArrayList_add2_17 (fun v3 h => ?_)
  obtain ⟨a_, fs_, eo_, h⟩ := z_this_spec h
  obtain ⟨w1_, o1_, hF_, ha_⟩ := z_cV_spec h
  refine x_goes hC hRc hRs hFr ha_ (z_goV (As := [va_rf pR1, va_rf r2, .int v3]) hC hZ zc4 eo_ (k_ArrayList_add hT hfl hE _ _ hF_) t_532 t_534 ts_ArrayList_add t_7 t_535 ⟨by decide, by decide, (by decide +kernel : (parseMethodDescriptor y_ArrayList_add.desc).map (fun d => d.parameters.length) = some 3)⟩ (by rw [hRt.1]; decide) (by rw [hRt.2]; decide) hl.1 rfl (by first | exact Nat.le_of_ble_eq_true rfl | simp [z_rfc, z_ci, z_cj]) d_ArrayList_add2_20) (fun v_ hv H locs cells slots hZ => ?_)
  obtain ⟨rfl, h⟩ := hv
  generalize w1_ = w at h hZ
  refine lv_iconst (v := (1 : Int32)) hC.1 hC.2.1 d_ArrayList_add2_23 (by decide) ?_
  exact x_iret hC hRc hRs hZ hr rfl h d_ArrayList_add2_24
def f_AckBook_Sent_enter (F X : Nat) (a0 : Option Nat) (pR1 : Option Nat) (w : zW) : zR :=
  z_getR w 2 2 a0 fun r1 =>
  z_this w 4 r1 <|
  z_cI (f_ArrayList_add2 F X r1 pR1 w) fun v3 w =>
  z_getI w 2 3 a0 fun v4 =>
  z_put w 2 3 a0 (.int (v4 + (1 : Int32))) fun w =>
  z_getI w 9 3 pR1 fun v5 =>
  if v5 = 0 then (
    some (.inl none, w))
  else (
    z_getI w 2 4 a0 fun v6 =>
    z_put w 2 4 a0 (.int (v6 + (1 : Int32))) fun w =>
    z_getI w 9 2 pR1 fun v7 =>
    z_put w 2 5 a0 (.int v7) fun w =>
    some (.inl none, w))
set_option maxHeartbeats 4000000 in
set_option maxRecDepth 100000 in
theorem k_AckBook_Sent_enter {b0 : Nat} {H0 : Heap} {D : va_G} {vu vs : Value} {X M : Nat} {l : Launch} (hT : z_TB (zGG b0 H0 D vu vs X M)) (hfl : l.flags = pinnedFlags ++ [noTraceFlag]) (hE : vu.isRef = true ∧ vs.isRef = true) {a0 : Option Nat} {pR1 : Option Nat} (F : Nat) {w : zW} (res : zO × zW) (h : f_AckBook_Sent_enter F X a0 pR1 w = some res) : z_Ct (zGG b0 H0 D vu vs X M) l y_AckBook_Sent_enter (.code y_AckBook_Sent_enter c_AckBook_Sent_enter 2 (none)) 7 191 [va_rf a0, va_rf pR1] w res := by
  refine z_ct hT hfl (by decide) (by simp only [z_sl_i, z_sl_j, z_sl_r, z_sl_n]; decide) ?_
  intro p e R s m args below meth c hC hr hRc hRs hRt hnm hFr H ls hZ hl
  simp only [z_la_i, z_la_j, z_la_r, z_la_n] at hl
  have hl : lv_has ls 2 [(0, va_rf a0), (1, va_rf pR1)] := hl
  unfold f_AckBook_Sent_enter at h
  refine x_aload_n hC d_AckBook_Sent_enter_0 rfl (lv_at hl 0 rfl) ?_
  refine x_getR hC hZ zc2 h (by decide) t_90 (fun _ h9 => h9) d_AckBook_Sent_enter_1 (fun r1 h => ?_)
  refine x_aload_n hC d_AckBook_Sent_enter_4 rfl (lv_at hl 1 rfl) ?_
  obtain ⟨a_, fs_, eo_, h⟩ := z_this_spec h
  obtain ⟨w1_, o1_, hF_, ha_⟩ := z_cI_spec h
  refine x_goes hC hRc hRs hFr ha_ (z_goV (As := [va_rf pR1]) hC hZ zc4 eo_ (k_ArrayList_add2 hT hfl hE _ _ hF_) t_528 t_529 t_530 t_7 t_531 ⟨by decide, by decide, (by decide +kernel : (parseMethodDescriptor y_ArrayList_add2.desc).map (fun d => d.parameters.length) = some 1)⟩ (by rw [hRt.1]; decide) (by rw [hRt.2]; decide) hl.1 rfl (by first | exact Nat.le_of_ble_eq_true rfl | simp [z_rfc, z_ci, z_cj]) d_AckBook_Sent_enter_5) (fun v_ hv H locs cells slots hZ => ?_)
  obtain ⟨v3, rfl, h⟩ := hv
  generalize w1_ = w at h hZ
  refine lv_pop hC.1 hC.2.1 d_AckBook_Sent_enter_8 rfl ?_
  refine x_aload_n hC d_AckBook_Sent_enter_9 rfl (lv_at hl 0 rfl) ?_
  refine lv_dup hC.1 hC.2.1 d_AckBook_Sent_enter_10 (z_rfc _) ?_
  refine x_getI hC hZ zc2 h (by decide) t_91 (fun _ h9 => h9) d_AckBook_Sent_enter_11 (fun v4 h => ?_)
  refine lv_iconst (v := (1 : Int32)) hC.1 hC.2.1 d_AckBook_Sent_enter_14 (by decide) ?_
  refine lv_iadd hC.1 hC.2.1 d_AckBook_Sent_enter_15 ?_
  refine x_put hC hZ zc2 h (by decide) t_91 (fun _ h9 => h9) rfl rfl rfl rfl d_AckBook_Sent_enter_16 (fun w H locs hZ h => ?_)
  refine x_aload_n hC d_AckBook_Sent_enter_19 rfl (lv_at hl 1 rfl) ?_
  refine x_getI hC hZ zc9 h (by decide) t_495 (fun _ h9 => h9) d_AckBook_Sent_enter_20 (fun v5 h => ?_)
  refine lv_if_eq (tgt := 44) hC.1 hC.2.1 d_AckBook_Sent_enter_23 (by decide) (fun hc => ?_) (fun hc => ?_)
  · have h := z_ifp hc h
    exact x_vret hC hRc hRs hZ hr h d_AckBook_Sent_enter_44
  · have h := z_ifn hc h
    refine x_aload_n hC d_AckBook_Sent_enter_26 rfl (lv_at hl 0 rfl) ?_
    refine lv_dup hC.1 hC.2.1 d_AckBook_Sent_enter_27 (z_rfc _) ?_
    refine x_getI hC hZ zc2 h (by decide) t_93 (fun _ h9 => h9) d_AckBook_Sent_enter_28 (fun v6 h => ?_)
    refine lv_iconst (v := (1 : Int32)) hC.1 hC.2.1 d_AckBook_Sent_enter_31 (by decide) ?_
    refine lv_iadd hC.1 hC.2.1 d_AckBook_Sent_enter_32 ?_
    refine x_put hC hZ zc2 h (by decide) t_93 (fun _ h9 => h9) rfl rfl rfl rfl d_AckBook_Sent_enter_33 (fun w H locs hZ h => ?_)
    refine x_aload_n hC d_AckBook_Sent_enter_36 rfl (lv_at hl 0 rfl) ?_
    refine x_aload_n hC d_AckBook_Sent_enter_37 rfl (lv_at hl 1 rfl) ?_
    refine x_getI hC hZ zc9 h (by decide) t_491 (fun _ h9 => h9) d_AckBook_Sent_enter_38 (fun v7 h => ?_)
    refine x_put hC hZ zc2 h (by decide) t_95 (fun _ h9 => h9) rfl rfl rfl rfl d_AckBook_Sent_enter_41 (fun w H locs hZ h => ?_)
    exact x_vret hC hRc hRs hZ hr h d_AckBook_Sent_enter_44
def q_AckBook_Flow_enter_20 (F X : Nat) (rL0 : Option Nat) (rL1 : Option Nat) (w : zW) : zR :=
  z_getI w 8 0 rL0 fun v1 =>
  z_getI w 8 1 rL0 fun v2 =>
  if v1 ≤ (v2 - (1200 : Int32)) then (
    z_putZ w 9 5 rL1 (0 : Int32) fun w =>
    some (.inl none, w))
  else (
    z_putZ w 9 5 rL1 (1 : Int32) fun w =>
    some (.inl none, w))
set_option maxHeartbeats 4000000 in
set_option maxRecDepth 100000 in
theorem kq_AckBook_Flow_enter_20 {b0 : Nat} {H0 : Heap} {D : va_G} {vu vs : Value} {X M : Nat} {l : Launch} (hT : z_TB (zGG b0 H0 D vu vs X M)) (hfl : l.flags = pinnedFlags ++ [noTraceFlag]) (hE : vu.isRef = true ∧ vs.isRef = true) {p : Program} {e : Env} {R : Room} {s : State} {m : MethodId} {args : Array Value} {below : List Frame} {meth : Method} {c : Code} {w0 : zW} {F : Nat} (hC : z_C (zGG b0 H0 D vu vs X M) p e s m meth c c_AckBook_Flow_enter 2 y_AckBook_Flow_enter.cls) (hr : meth.sig.returnType = (none)) (hRc : R.cells = w0.2.1) (hRs : R.slots = w0.2.2.1) (hFr : c.exceptionTable.toList = []) (hRt : R.frames = 0 ∧ R.locals = 0) (hnm : meth.name = y_AckBook_Flow_enter.name) (rL0 : Option Nat) (rL1 : Option Nat) (w : zW) (res : zO × zW) (h : q_AckBook_Flow_enter_20 F X rL0 rL1 w = some res) (H : Heap) (locs : List Loc) (cells slots : Nat) (ls : Array Slot) (hZ : z_Z (zGG b0 H0 D vu vs X M) R s w H locs cells slots) (hl : lv_has ls 2 [(0, va_rf rL0), (1, va_rf rL1)]) : W p l e R s m args below meth c H locs cells slots (z_Q (zGG b0 H0 D vu vs X M) below s w0 res) (F0 m 20 ls []) := by
  unfold q_AckBook_Flow_enter_20 at h
  refine x_aload_n hC d_AckBook_Flow_enter_20 rfl (lv_at hl 1 rfl) ?_
  refine x_aload_n hC d_AckBook_Flow_enter_21 rfl (lv_at hl 0 rfl) ?_
  refine x_getI hC hZ zc8 h (by decide) t_224 (fun _ h9 => h9) d_AckBook_Flow_enter_22 (fun v1 h => ?_)
  refine x_aload_n hC d_AckBook_Flow_enter_25 rfl (lv_at hl 0 rfl) ?_
  refine x_getI hC hZ zc8 h (by decide) t_226 (fun _ h9 => h9) d_AckBook_Flow_enter_26 (fun v2 h => ?_)
  refine lv_sipush (v := (1200 : Int32)) hC.1 hC.2.1 d_AckBook_Flow_enter_29 (by decide) ?_
  refine lv_isub hC.1 hC.2.1 d_AckBook_Flow_enter_32 ?_
  refine lv_icmp_le (tgt := 40) hC.1 hC.2.1 d_AckBook_Flow_enter_33 (by decide) (fun hc => ?_) (fun hc => ?_)
  · have h := z_ifp hc h
    refine lv_iconst (v := (0 : Int32)) hC.1 hC.2.1 d_AckBook_Flow_enter_40 (by decide) ?_
    refine x_putZ hC hZ zc9 h (by decide) t_499 (fun _ h9 => h9) rfl rfl d_AckBook_Flow_enter_41 (fun w H locs hZ h => ?_)
    exact x_vret hC hRc hRs hZ hr h d_AckBook_Flow_enter_44
  · have h := z_ifn hc h
    refine lv_iconst (v := (1 : Int32)) hC.1 hC.2.1 d_AckBook_Flow_enter_36 (by decide) ?_
    refine lv_goto (tgt := 41) hC.1 hC.2.1 d_AckBook_Flow_enter_37 (by decide) ?_
    refine x_putZ hC hZ zc9 h (by decide) t_499 (fun _ h9 => h9) rfl rfl d_AckBook_Flow_enter_41 (fun w H locs hZ h => ?_)
    exact x_vret hC hRc hRs hZ hr h d_AckBook_Flow_enter_44
def f_AckBook_Flow_enter (F X : Nat) (a0 : Option Nat) (pR1 : Option Nat) (w : zW) : zR :=
  z_getI w 9 4 pR1 fun v3 =>
  if v3 = 0 then (
    q_AckBook_Flow_enter_20 F X a0 pR1 w)
  else (
    z_getI w 8 0 a0 fun v4 =>
    z_getI w 9 1 pR1 fun v5 =>
    z_put w 8 0 a0 (.int (v4 + v5)) fun w =>
    q_AckBook_Flow_enter_20 F X a0 pR1 w)
set_option maxHeartbeats 4000000 in
set_option maxRecDepth 100000 in
theorem k_AckBook_Flow_enter {b0 : Nat} {H0 : Heap} {D : va_G} {vu vs : Value} {X M : Nat} {l : Launch} (hT : z_TB (zGG b0 H0 D vu vs X M)) (hfl : l.flags = pinnedFlags ++ [noTraceFlag]) (hE : vu.isRef = true ∧ vs.isRef = true) {a0 : Option Nat} {pR1 : Option Nat} (F : Nat) {w : zW} (res : zO × zW) (h : f_AckBook_Flow_enter F X a0 pR1 w = some res) : z_Ct (zGG b0 H0 D vu vs X M) l y_AckBook_Flow_enter (.code y_AckBook_Flow_enter c_AckBook_Flow_enter 2 (none)) 0 0 [va_rf a0, va_rf pR1] w res := by
  refine z_ct hT hfl (by decide) (by simp only [z_sl_i, z_sl_j, z_sl_r, z_sl_n]; decide) ?_
  intro p e R s m args below meth c hC hr hRc hRs hRt hnm hFr H ls hZ hl
  simp only [z_la_i, z_la_j, z_la_r, z_la_n] at hl
  have hl : lv_has ls 2 [(0, va_rf a0), (1, va_rf pR1)] := hl
  unfold f_AckBook_Flow_enter at h
  refine x_aload_n hC d_AckBook_Flow_enter_0 rfl (lv_at hl 1 rfl) ?_
  refine x_getI hC hZ zc9 h (by decide) t_498 (fun _ h9 => h9) d_AckBook_Flow_enter_1 (fun v3 h => ?_)
  refine lv_if_eq (tgt := 20) hC.1 hC.2.1 d_AckBook_Flow_enter_4 (by decide) (fun hc => ?_) (fun hc => ?_)
  · have h := z_ifp hc h
    exact kq_AckBook_Flow_enter_20 hT hfl hE hC hr hRc hRs hFr hRt hnm _ _ _ _ h _ _ _ _ _ hZ (lv_sub hl [0, 1] rfl)
  · have h := z_ifn hc h
    refine x_aload_n hC d_AckBook_Flow_enter_7 rfl (lv_at hl 0 rfl) ?_
    refine lv_dup hC.1 hC.2.1 d_AckBook_Flow_enter_8 (z_rfc _) ?_
    refine x_getI hC hZ zc8 h (by decide) t_224 (fun _ h9 => h9) d_AckBook_Flow_enter_9 (fun v4 h => ?_)
    refine x_aload_n hC d_AckBook_Flow_enter_12 rfl (lv_at hl 1 rfl) ?_
    refine x_getI hC hZ zc9 h (by decide) t_489 (fun _ h9 => h9) d_AckBook_Flow_enter_13 (fun v5 h => ?_)
    refine lv_iadd hC.1 hC.2.1 d_AckBook_Flow_enter_16 ?_
    refine x_put hC hZ zc8 h (by decide) t_224 (fun _ h9 => h9) rfl rfl rfl rfl d_AckBook_Flow_enter_17 (fun w H locs hZ h => ?_)
    exact kq_AckBook_Flow_enter_20 hT hfl hE hC hr hRc hRs hFr hRt hnm _ _ _ _ h _ _ _ _ _ hZ (lv_sub hl [0, 1] rfl)
def q_AckBook_send_48 (F X : Nat) (rL0 : Option Nat) (xL2 : Int32) (xL3 : Int32) (xL4 : Int32) (rL5 : Option Nat) (w : zW) : zR :=
  z_cV (f_AckBook_refuseDiscarded F X rL5 w) fun w =>
  z_getR w 1 1 rL5 fun r2 =>
  z_this w 2 r2 <|
  z_cI (f_AckBook_Sent_count F X r2 w) fun v4 w =>
  if v4 < (4096 : Int32) then (
    z_new w 9 8 [.int 0, .int 0, .int 0, .int 0, .int 0, .int 0, .int 0, .null] fun a5 w =>
    z_getR w 1 1 rL5 fun r6 =>
    z_this w 2 r6 <|
    z_cI (f_AckBook_Sent_count F X r6 w) fun v8 w =>
    z_getI w 0 4 rL0 fun v9 =>
    z_nn (some a5) <|
    z_cV (f_AckBook_Packet_init F X (some a5) v8 xL2 v9 xL3 xL4 w) fun w =>
    z_getR w 1 1 rL5 fun r11 =>
    z_this w 2 r11 <|
    z_cV (f_AckBook_Sent_enter F X r11 (some a5) w) fun w =>
    z_getR w 0 3 rL0 fun r13 =>
    z_this w 8 r13 <|
    z_cV (f_AckBook_Flow_enter F X r13 (some a5) w) fun w =>
    z_getI w 0 4 rL0 fun v15 =>
    z_put w 0 6 rL0 (.int v15) fun w =>
    z_getI w 9 0 (some a5) fun v16 =>
    some (.inl (some (.int v16)), w))
  else (
    z_thr w 12)
set_option maxHeartbeats 4000000 in
set_option maxRecDepth 100000 in
theorem kq_AckBook_send_48 {b0 : Nat} {H0 : Heap} {D : va_G} {vu vs : Value} {X M : Nat} {l : Launch} (hT : z_TB (zGG b0 H0 D vu vs X M)) (hfl : l.flags = pinnedFlags ++ [noTraceFlag]) (hE : vu.isRef = true ∧ vs.isRef = true) {p : Program} {e : Env} {R : Room} {s : State} {m : MethodId} {args : Array Value} {below : List Frame} {meth : Method} {c : Code} {w0 : zW} {F : Nat} (hC : z_C (zGG b0 H0 D vu vs X M) p e s m meth c c_AckBook_send 7 y_AckBook_send.cls) (hr : meth.sig.returnType = (some FieldType.int)) (hRc : R.cells = w0.2.1) (hRs : R.slots = w0.2.2.1) (hFr : c.exceptionTable.toList = []) (hRt : R.frames = 8 ∧ R.locals = 212) (hnm : meth.name = y_AckBook_send.name) (rL0 : Option Nat) (xL2 : Int32) (xL3 : Int32) (xL4 : Int32) (rL5 : Option Nat) (w : zW) (res : zO × zW) (h : q_AckBook_send_48 F X rL0 xL2 xL3 xL4 rL5 w = some res) (H : Heap) (locs : List Loc) (cells slots : Nat) (ls : Array Slot) (hZ : z_Z (zGG b0 H0 D vu vs X M) R s w H locs cells slots) (hl : lv_has ls 7 [(0, va_rf rL0), (2, .int xL2), (3, .int xL3), (4, .int xL4), (5, va_rf rL5)]) : W p l e R s m args below meth c H locs cells slots (z_Q (zGG b0 H0 D vu vs X M) below s w0 res) (F0 m 48 ls []) := by
  unfold q_AckBook_send_48 at h
  refine x_aload hC d_AckBook_send_48 (lv_at hl 4 rfl) ?_
  obtain ⟨w1_, o1_, hF_, ha_⟩ := z_cV_spec h
  refine x_goes hC hRc hRs hFr ha_ (z_goS (As := [va_rf rL5]) hC hZ (k_AckBook_refuseDiscarded hT hfl hE _ _ hF_) t_454 t_455 t_1 t_456 ⟨by decide, by decide, (by decide +kernel : (parseMethodDescriptor y_AckBook_refuseDiscarded.desc).map (fun d => d.parameters.length) = some 1)⟩ (by rw [hRt.1]; decide) (by rw [hRt.2]; decide) hl.1 rfl (by first | exact Nat.le_of_ble_eq_true rfl | simp [z_rfc, z_ci, z_cj]) d_AckBook_send_50) (fun v_ hv H locs cells slots hZ => ?_)
  obtain ⟨rfl, h⟩ := hv
  generalize w1_ = w at h hZ
  refine x_aload hC d_AckBook_send_53 (lv_at hl 4 rfl) ?_
  refine x_getR hC hZ zc1 h (by decide) t_158 (fun _ h9 => h9) d_AckBook_send_55 (fun r2 h => ?_)
  obtain ⟨a_, fs_, eo_, h⟩ := z_this_spec h
  obtain ⟨w1_, o1_, hF_, ha_⟩ := z_cI_spec h
  refine x_goes hC hRc hRs hFr ha_ (z_goV (As := []) hC hZ zc2 eo_ (k_AckBook_Sent_count hT hfl hE _ _ hF_) t_473 t_474 t_475 t_3 t_476 ⟨by decide, by decide, (by decide +kernel : (parseMethodDescriptor y_AckBook_Sent_count.desc).map (fun d => d.parameters.length) = some 0)⟩ (by rw [hRt.1]; decide) (by rw [hRt.2]; decide) hl.1 rfl (by first | exact Nat.le_of_ble_eq_true rfl | simp [z_rfc, z_ci, z_cj]) d_AckBook_send_58) (fun v_ hv H locs cells slots hZ => ?_)
  obtain ⟨v4, rfl, h⟩ := hv
  generalize w1_ = w at h hZ
  refine lv_sipush (v := (4096 : Int32)) hC.1 hC.2.1 d_AckBook_send_61 (by decide) ?_
  refine lv_icmp_lt (tgt := 77) hC.1 hC.2.1 d_AckBook_send_64 (by decide) (fun hc => ?_) (fun hc => ?_)
  · have h := z_ifp hc h
    refine x_new hC hZ zc9 h t_478 t_479 t_18 (fun j hj => match j, hj with | 0, _ => rfl | 1, _ => rfl | 2, _ => rfl | 3, _ => rfl | 4, _ => rfl | 5, _ => rfl | 6, _ => rfl | 7, _ => rfl | _ + 8, hj => absurd hj (by omega)) d_AckBook_send_77 (fun a5 w H cells slots hZ h => ?_)
    refine lv_dup hC.1 hC.2.1 d_AckBook_send_80 (z_rfc _) ?_
    refine x_aload hC d_AckBook_send_81 (lv_at hl 4 rfl) ?_
    refine x_getR hC hZ zc1 h (by decide) t_158 (fun _ h9 => h9) d_AckBook_send_83 (fun r6 h => ?_)
    obtain ⟨a_, fs_, eo_, h⟩ := z_this_spec h
    obtain ⟨w1_, o1_, hF_, ha_⟩ := z_cI_spec h
    refine x_goes hC hRc hRs hFr ha_ (z_goV (As := []) hC hZ zc2 eo_ (k_AckBook_Sent_count hT hfl hE _ _ hF_) t_473 t_474 t_475 t_3 t_476 ⟨by decide, by decide, (by decide +kernel : (parseMethodDescriptor y_AckBook_Sent_count.desc).map (fun d => d.parameters.length) = some 0)⟩ (by rw [hRt.1]; decide) (by rw [hRt.2]; decide) hl.1 rfl (by first | exact Nat.le_of_ble_eq_true rfl | simp [z_rfc, z_ci, z_cj]) d_AckBook_send_86) (fun v_ hv H locs cells slots hZ => ?_)
    obtain ⟨v8, rfl, h⟩ := hv
    generalize w1_ = w at h hZ
    refine lv_iload_n hC.1 hC.2.1 d_AckBook_send_89 rfl (lv_at hl 1 rfl) ?_
    refine x_aload_n hC d_AckBook_send_90 rfl (lv_at hl 0 rfl) ?_
    refine x_getI hC hZ zc0 h (by decide) t_245 (fun _ h9 => h9) d_AckBook_send_91 (fun v9 h => ?_)
    refine lv_iload_n hC.1 hC.2.1 d_AckBook_send_94 rfl (lv_at hl 2 rfl) ?_
    refine lv_iload hC.1 hC.2.1 d_AckBook_send_95 (lv_at hl 3 rfl) ?_
    obtain ⟨a_, eo_, h⟩ := z_nn_spec h
    obtain ⟨w1_, o1_, hF_, ha_⟩ := z_cV_spec h
    refine x_goes hC hRc hRs hFr ha_ (z_goI (As := [.int v8, .int xL2, .int v9, .int xL3, .int xL4]) hC hZ eo_ (k_AckBook_Packet_init hT hfl hE _ _ hF_) t_480 t_481 t_18 t_482 rfl ⟨by decide, by decide, (by decide +kernel : (parseMethodDescriptor y_AckBook_Packet_init.desc).map (fun d => d.parameters.length) = some 5)⟩ (by rw [hRt.1]; decide) (by rw [hRt.2]; decide) hl.1 rfl (by first | exact Nat.le_of_ble_eq_true rfl | simp [z_rfc, z_ci, z_cj]) d_AckBook_send_97) (fun v_ hv H locs cells slots hZ => ?_)
    obtain ⟨rfl, h⟩ := hv
    generalize w1_ = w at h hZ
    refine x_astore (i := 6) (lv' := [(6, va_rf (some a5)), (0, va_rf rL0), (2, .int xL2), (3, .int xL3), (4, .int xL4), (5, va_rf rL5)]) hC d_AckBook_send_100 hl (by decide) (by first | rfl | simp [z_rfc, z_ci, z_cj]) (fun ls hl => ?_)
    refine x_aload hC d_AckBook_send_102 (lv_at hl 5 rfl) ?_
    refine x_getR hC hZ zc1 h (by decide) t_158 (fun _ h9 => h9) d_AckBook_send_104 (fun r11 h => ?_)
    refine x_aload hC d_AckBook_send_107 (lv_at hl 0 rfl) ?_
    obtain ⟨a_, fs_, eo_, h⟩ := z_this_spec h
    obtain ⟨w1_, o1_, hF_, ha_⟩ := z_cV_spec h
    refine x_goes hC hRc hRs hFr ha_ (z_goV (As := [va_rf (some a5)]) hC hZ zc2 eo_ (k_AckBook_Sent_enter hT hfl hE _ _ hF_) t_524 t_525 t_526 t_3 t_527 ⟨by decide, by decide, (by decide +kernel : (parseMethodDescriptor y_AckBook_Sent_enter.desc).map (fun d => d.parameters.length) = some 1)⟩ (by rw [hRt.1]; decide) (by rw [hRt.2]; decide) hl.1 rfl (by first | exact Nat.le_of_ble_eq_true rfl | simp [z_rfc, z_ci, z_cj]) d_AckBook_send_109) (fun v_ hv H locs cells slots hZ => ?_)
    obtain ⟨rfl, h⟩ := hv
    generalize w1_ = w at h hZ
    refine x_aload_n hC d_AckBook_send_112 rfl (lv_at hl 1 rfl) ?_
    refine x_getR hC hZ zc0 h (by decide) t_244 (fun _ h9 => h9) d_AckBook_send_113 (fun r13 h => ?_)
    refine x_aload hC d_AckBook_send_116 (lv_at hl 0 rfl) ?_
    obtain ⟨a_, fs_, eo_, h⟩ := z_this_spec h
    obtain ⟨w1_, o1_, hF_, ha_⟩ := z_cV_spec h
    refine x_goes hC hRc hRs hFr ha_ (z_goV (As := [va_rf (some a5)]) hC hZ zc8 eo_ (k_AckBook_Flow_enter hT hfl hE _ _ hF_) t_585 t_586 t_587 t_11 t_588 ⟨by decide, by decide, (by decide +kernel : (parseMethodDescriptor y_AckBook_Flow_enter.desc).map (fun d => d.parameters.length) = some 1)⟩ (by rw [hRt.1]; decide) (by rw [hRt.2]; decide) hl.1 rfl (by first | exact Nat.le_of_ble_eq_true rfl | simp [z_rfc, z_ci, z_cj]) d_AckBook_send_118) (fun v_ hv H locs cells slots hZ => ?_)
    obtain ⟨rfl, h⟩ := hv
    generalize w1_ = w at h hZ
    refine x_aload_n hC d_AckBook_send_121 rfl (lv_at hl 1 rfl) ?_
    refine x_aload_n hC d_AckBook_send_122 rfl (lv_at hl 1 rfl) ?_
    refine x_getI hC hZ zc0 h (by decide) t_245 (fun _ h9 => h9) d_AckBook_send_123 (fun v15 h => ?_)
    refine x_put hC hZ zc0 h (by decide) t_247 (fun _ h9 => h9) rfl rfl rfl rfl d_AckBook_send_126 (fun w H locs hZ h => ?_)
    refine x_aload hC d_AckBook_send_129 (lv_at hl 0 rfl) ?_
    refine x_getI hC hZ zc9 h (by decide) t_485 (fun _ h9 => h9) d_AckBook_send_131 (fun v16 h => ?_)
    exact x_iret hC hRc hRs hZ hr rfl h d_AckBook_send_134
  · have h := z_ifn hc h
    exact x_thr (names := ["java/lang/RuntimeException", "java/lang/Exception"]) hC hRc hRs hFr hZ rfl h ⟨List.mem_cons_self, hE.1⟩ ⟨List.mem_cons_of_mem _ List.mem_cons_self, hE.2⟩ (by decide +kernel) (by decide +kernel) at_AckBook_70 t_458 t_457 t_17 t_477 hl.1 d_AckBook_send_67 d_AckBook_send_70 d_AckBook_send_71 d_AckBook_send_73 d_AckBook_send_76 (by rw [hRt.1]; decide) (by rw [hRt.2]; first | exact Nat.le_of_ble_eq_true rfl | simp [z_rfc, z_ci, z_cj])
def f_AckBook_send (F X : Nat) (a0 : Option Nat) (pI1 : Int32) (pI2 : Int32) (pI3 : Int32) (pI4 : Int32) (w : zW) : zR :=
  z_this w 0 a0 <|
  z_cR (f_AckBook_known F X a0 pI1 w) fun r18 w =>
  if pI2 < (1 : Int32) then (
    z_thr w 11)
  else (
    if pI2 ≤ (1200 : Int32) then (
      if pI3 = 0 then (
        q_AckBook_send_48 F X a0 pI2 pI3 pI4 r18 w)
      else (
        if pI4 = 0 then (
          z_thr w 11)
        else (
          q_AckBook_send_48 F X a0 pI2 pI3 pI4 r18 w)))
    else (
      z_thr w 11))
set_option maxHeartbeats 4000000 in
set_option maxRecDepth 100000 in
theorem k_AckBook_send {b0 : Nat} {H0 : Heap} {D : va_G} {vu vs : Value} {X M : Nat} {l : Launch} (hT : z_TB (zGG b0 H0 D vu vs X M)) (hfl : l.flags = pinnedFlags ++ [noTraceFlag]) (hE : vu.isRef = true ∧ vs.isRef = true) {a0 : Option Nat} {pI1 : Int32} {pI2 : Int32} {pI3 : Int32} {pI4 : Int32} (F : Nat) {w : zW} (res : zO × zW) (h : f_AckBook_send F X a0 pI1 pI2 pI3 pI4 w = some res) : z_Ct (zGG b0 H0 D vu vs X M) l y_AckBook_send (.code y_AckBook_send c_AckBook_send 7 (some FieldType.int)) 8 212 [va_rf a0, .int pI1, .int pI2, .int pI3, .int pI4] w res := by
  refine z_ct hT hfl (by decide) (by simp only [z_sl_i, z_sl_j, z_sl_r, z_sl_n]; decide) ?_
  intro p e R s m args below meth c hC hr hRc hRs hRt hnm hFr H ls hZ hl
  simp only [z_la_i, z_la_j, z_la_r, z_la_n] at hl
  have hl : lv_has ls 7 [(0, va_rf a0), (1, .int pI1), (2, .int pI2), (3, .int pI3), (4, .int pI4)] := hl
  unfold f_AckBook_send at h
  refine x_aload_n hC d_AckBook_send_0 rfl (lv_at hl 0 rfl) ?_
  refine lv_iload_n hC.1 hC.2.1 d_AckBook_send_1 rfl (lv_at hl 1 rfl) ?_
  obtain ⟨a_, fs_, eo_, h⟩ := z_this_spec h
  obtain ⟨w1_, o1_, hF_, ha_⟩ := z_cR_spec h
  refine x_goes hC hRc hRs hFr ha_ (z_goV (As := [.int pI1]) hC hZ zc0 eo_ (k_AckBook_known hT hfl hE _ _ hF_) t_380 t_382 ts_AckBook_known t_1 t_383 ⟨by decide, by decide, (by decide +kernel : (parseMethodDescriptor y_AckBook_known.desc).map (fun d => d.parameters.length) = some 1)⟩ (by rw [hRt.1]; decide) (by rw [hRt.2]; decide) hl.1 rfl (by first | exact Nat.le_of_ble_eq_true rfl | simp [z_rfc, z_ci, z_cj]) d_AckBook_send_2) (fun v_ hv H locs cells slots hZ => ?_)
  obtain ⟨r18, rfl, h⟩ := hv
  generalize w1_ = w at h hZ
  refine x_astore (i := 5) (lv' := [(5, va_rf r18), (0, va_rf a0), (1, .int pI1), (2, .int pI2), (3, .int pI3), (4, .int pI4)]) hC d_AckBook_send_5 hl (by decide) (by first | rfl | simp [z_rfc, z_ci, z_cj]) (fun ls hl => ?_)
  refine lv_iload_n hC.1 hC.2.1 d_AckBook_send_7 rfl (lv_at hl 3 rfl) ?_
  refine lv_iconst (v := (1 : Int32)) hC.1 hC.2.1 d_AckBook_send_8 (by decide) ?_
  refine lv_icmp_lt (tgt := 19) hC.1 hC.2.1 d_AckBook_send_9 (by decide) (fun hc => ?_) (fun hc => ?_)
  · have h := z_ifp hc h
    exact x_thr (names := ["java/lang/RuntimeException", "java/lang/Exception"]) hC hRc hRs hFr hZ rfl h ⟨List.mem_cons_self, hE.1⟩ ⟨List.mem_cons_of_mem _ List.mem_cons_self, hE.2⟩ (by decide +kernel) (by decide +kernel) at_AckBook_47 t_385 t_384 t_16 t_452 hl.1 d_AckBook_send_19 d_AckBook_send_22 d_AckBook_send_23 d_AckBook_send_25 d_AckBook_send_28 (by rw [hRt.1]; decide) (by rw [hRt.2]; first | exact Nat.le_of_ble_eq_true rfl | simp [z_rfc, z_ci, z_cj])
  · have h := z_ifn hc h
    refine lv_iload_n hC.1 hC.2.1 d_AckBook_send_12 rfl (lv_at hl 3 rfl) ?_
    refine lv_sipush (v := (1200 : Int32)) hC.1 hC.2.1 d_AckBook_send_13 (by decide) ?_
    refine lv_icmp_le (tgt := 29) hC.1 hC.2.1 d_AckBook_send_16 (by decide) (fun hc => ?_) (fun hc => ?_)
    · have h := z_ifp hc h
      refine lv_iload_n hC.1 hC.2.1 d_AckBook_send_29 rfl (lv_at hl 4 rfl) ?_
      refine lv_if_eq (tgt := 48) hC.1 hC.2.1 d_AckBook_send_30 (by decide) (fun hc => ?_) (fun hc => ?_)
      · have h := z_ifp hc h
        exact kq_AckBook_send_48 hT hfl hE hC hr hRc hRs hFr hRt hnm _ _ _ _ _ _ _ h _ _ _ _ _ hZ (lv_sub hl [1, 3, 4, 5, 0] rfl)
      · have h := z_ifn hc h
        refine lv_iload hC.1 hC.2.1 d_AckBook_send_33 (lv_at hl 5 rfl) ?_
        refine lv_if_ne (tgt := 48) hC.1 hC.2.1 d_AckBook_send_35 (by decide) (fun hc => ?_) (fun hc => ?_)
        · have h := z_ifn hc h
          exact kq_AckBook_send_48 hT hfl hE hC hr hRc hRs hFr hRt hnm _ _ _ _ _ _ _ h _ _ _ _ _ hZ (lv_sub hl [1, 3, 4, 5, 0] rfl)
        · have h := z_ifp hc h
          exact x_thr (names := ["java/lang/RuntimeException", "java/lang/Exception"]) hC hRc hRs hFr hZ rfl h ⟨List.mem_cons_self, hE.1⟩ ⟨List.mem_cons_of_mem _ List.mem_cons_self, hE.2⟩ (by decide +kernel) (by decide +kernel) at_AckBook_47 t_385 t_384 t_16 t_453 hl.1 d_AckBook_send_38 d_AckBook_send_41 d_AckBook_send_42 d_AckBook_send_44 d_AckBook_send_47 (by rw [hRt.1]; decide) (by rw [hRt.2]; first | exact Nat.le_of_ble_eq_true rfl | simp [z_rfc, z_ci, z_cj])
    · have h := z_ifn hc h
      exact x_thr (names := ["java/lang/RuntimeException", "java/lang/Exception"]) hC hRc hRs hFr hZ rfl h ⟨List.mem_cons_self, hE.1⟩ ⟨List.mem_cons_of_mem _ List.mem_cons_self, hE.2⟩ (by decide +kernel) (by decide +kernel) at_AckBook_47 t_385 t_384 t_16 t_452 hl.1 d_AckBook_send_19 d_AckBook_send_22 d_AckBook_send_23 d_AckBook_send_25 d_AckBook_send_28 (by rw [hRt.1]; decide) (by rw [hRt.2]; first | exact Nat.le_of_ble_eq_true rfl | simp [z_rfc, z_ci, z_cj])
def f_AckBookLaw_send (F X : Nat) (pR1 : Option Nat) (pI2 : Int32) (pI3 : Int32) (pI4 : Int32) (pI5 : Int32) (pR6 : Option Nat) (w : zW) : zR :=
  z_this w 0 pR1 <|
  z_tI (f_AckBook_send F X pR1 pI2 pI3 pI4 pI5 w) (fun v2 w =>
    z_stL w pR6 (0 : Int32) v2.toInt64 fun w =>
    some (.inl (some (.int (0 : Int32))), w))
    (fun ci w => if ci = 11 then (some (.inl (some (.int (1 : Int32))), w)) else if ci = 12 then (some (.inl (some (.int (2 : Int32))), w)) else none)
set_option maxHeartbeats 4000000 in
set_option maxRecDepth 100000 in
theorem k_AckBookLaw_send {b0 : Nat} {H0 : Heap} {D : va_G} {vu vs : Value} {X M : Nat} {l : Launch} (hT : z_TB (zGG b0 H0 D vu vs X M)) (hfl : l.flags = pinnedFlags ++ [noTraceFlag]) (hE : vu.isRef = true ∧ vs.isRef = true) {pR1 : Option Nat} {pI2 : Int32} {pI3 : Int32} {pI4 : Int32} {pI5 : Int32} {pR6 : Option Nat} (F : Nat) {w : zW} (res : zO × zW) (h : f_AckBookLaw_send F X pR1 pI2 pI3 pI4 pI5 pR6 w = some res) : z_Ct (zGG b0 H0 D vu vs X M) l y_AckBookLaw_send (.codeWith y_AckBookLaw_send c_AckBookLaw_send 7 (some FieldType.int) [(0, 14, 17, 13), (0, 14, 21, 15)]) 9 238 [va_rf pR1, .int pI2, .int pI3, .int pI4, .int pI5, va_rf pR6] w res := by
  refine z_ctW hT hfl (by decide) (by simp only [z_sl_i, z_sl_j, z_sl_r, z_sl_n]; decide) ?_
  intro p e R s m args below meth c hC hr hRc hRs hRt hnm hFr H ls hZ hl
  simp only [z_la_i, z_la_j, z_la_r, z_la_n] at hl
  have hl : lv_has ls 7 [(0, va_rf pR1), (1, .int pI2), (2, .int pI3), (3, .int pI4), (4, .int pI5), (5, va_rf pR6)] := hl
  unfold f_AckBookLaw_send at h
  refine x_aload hC d_AckBookLaw_send_0 (lv_at hl 5 rfl) ?_
  refine lv_iconst (v := (0 : Int32)) hC.1 hC.2.1 d_AckBookLaw_send_2 (by decide) ?_
  refine x_aload_n hC d_AckBookLaw_send_3 rfl (lv_at hl 0 rfl) ?_
  refine lv_iload_n hC.1 hC.2.1 d_AckBookLaw_send_4 rfl (lv_at hl 1 rfl) ?_
  refine lv_iload_n hC.1 hC.2.1 d_AckBookLaw_send_5 rfl (lv_at hl 2 rfl) ?_
  refine lv_iload_n hC.1 hC.2.1 d_AckBookLaw_send_6 rfl (lv_at hl 3 rfl) ?_
  refine lv_iload hC.1 hC.2.1 d_AckBookLaw_send_7 (lv_at hl 4 rfl) ?_
  obtain ⟨a_, fs_, eo_, h⟩ := z_this_spec h
  obtain ⟨w1_, o1_, hF_, ha_⟩ := z_tI_spec h
  refine x_goesT hC hFr ha_ (z_goV (As := [.int pI2, .int pI3, .int pI4, .int pI5]) hC hZ zc0 eo_ (k_AckBook_send hT hfl hE _ _ hF_) t_376 t_377 t_378 t_1 t_379 ⟨by decide, by decide, (by decide +kernel : (parseMethodDescriptor y_AckBook_send.desc).map (fun d => d.parameters.length) = some 4)⟩ (by rw [hRt.1]; decide) (by rw [hRt.2]; decide) hl.1 rfl (by first | exact Nat.le_of_ble_eq_true rfl | simp [z_rfc, z_ci, z_cj]) d_AckBookLaw_send_9) (fun v_ hv H locs cells slots hZ => ?_) (fun ci_ h => ?_)
  · obtain ⟨v2, rfl, h⟩ := hv
    generalize w1_ = w at h hZ
    refine lv_i2l hC.1 hC.2.1 d_AckBookLaw_send_12 rfl ?_
    refine x_stL hC hZ h d_AckBookLaw_send_13 (fun w H locs hZ h => ?_)
    refine lv_goto (tgt := 25) hC.1 hC.2.1 d_AckBookLaw_send_14 (by decide) ?_
    refine lv_iconst (v := (0 : Int32)) hC.1 hC.2.1 d_AckBookLaw_send_25 (by decide) ?_
    exact x_iret hC hRc hRs hZ hr rfl h d_AckBookLaw_send_26
  · by_cases hq0 : ci_ = 11
    · have h := z_ifp hq0 h
      subst hq0
      refine ⟨_, _, _, 17, rfl, ⟨⟨by decide, by decide⟩, by decide, _, t_374, Or.inl ⟨t_386, rfl⟩⟩, fun x_ H locs cells slots hZ => ?_⟩
      generalize w1_ = w at h hZ
      refine x_astore (i := 6) (lv' := [(6, va_rf (some x_)), (0, va_rf pR1), (1, .int pI2), (2, .int pI3), (3, .int pI4), (4, .int pI5), (5, va_rf pR6)]) hC d_AckBookLaw_send_17 hl (by decide) (by first | rfl | simp [z_rfc, z_ci, z_cj]) (fun ls hl => ?_)
      refine lv_iconst (v := (1 : Int32)) hC.1 hC.2.1 d_AckBookLaw_send_19 (by decide) ?_
      exact x_iret hC hRc hRs hZ hr rfl h d_AckBookLaw_send_20
    have h := z_ifn hq0 h
    by_cases hq1 : ci_ = 12
    · have h := z_ifp hq1 h
      subst hq1
      refine ⟨_, _, _, 21, rfl, ⟨⟨by decide, by decide⟩, by decide, _, t_374, Or.inr ⟨tn_0, ⟨⟨by decide, by decide⟩, by decide, _, t_375, Or.inl ⟨t_459, rfl⟩⟩⟩⟩, fun x_ H locs cells slots hZ => ?_⟩
      generalize w1_ = w at h hZ
      refine x_astore (i := 6) (lv' := [(6, va_rf (some x_)), (0, va_rf pR1), (1, .int pI2), (2, .int pI3), (3, .int pI4), (4, .int pI5), (5, va_rf pR6)]) hC d_AckBookLaw_send_21 hl (by decide) (by first | rfl | simp [z_rfc, z_ci, z_cj]) (fun ls hl => ?_)
      refine lv_iconst (v := (2 : Int32)) hC.1 hC.2.1 d_AckBookLaw_send_23 (by decide) ?_
      exact x_iret hC hRc hRs hZ hr rfl h d_AckBookLaw_send_24
    have h := z_ifn hq1 h
    cases h
def f_AckBook_Claim_isBelow (F X : Nat) (a0 : Option Nat) (pJ1 : Int64) (w : zW) : zR :=
  z_getI w 6 2 a0 fun v1 =>
  if v1 ≤ 0 then (
    some (.inl (some (.int (1 : Int32))), w))
  else (
    z_getI w 6 2 a0 fun v2 =>
    if v2 ≤ (64 : Int32) then (
      z_getR w 6 0 a0 fun r3 =>
      z_getI w 6 2 a0 fun v4 =>
      z_ldL w r3 (v4 - (1 : Int32)) fun v5 =>
      if 0 ≤ (lg_cmp pJ1 (v5 - (1 : Int64))) then (
        some (.inl (some (.int (0 : Int32))), w))
      else (
        some (.inl (some (.int (1 : Int32))), w)))
    else (
      some (.inl (some (.int (1 : Int32))), w)))
set_option maxHeartbeats 4000000 in
set_option maxRecDepth 100000 in
theorem k_AckBook_Claim_isBelow {b0 : Nat} {H0 : Heap} {D : va_G} {vu vs : Value} {X M : Nat} {l : Launch} (hT : z_TB (zGG b0 H0 D vu vs X M)) (hfl : l.flags = pinnedFlags ++ [noTraceFlag]) (hE : vu.isRef = true ∧ vs.isRef = true) {a0 : Option Nat} {pJ1 : Int64} (F : Nat) {w : zW} (res : zO × zW) (h : f_AckBook_Claim_isBelow F X a0 pJ1 w = some res) : z_Ct (zGG b0 H0 D vu vs X M) l y_AckBook_Claim_isBelow (.code y_AckBook_Claim_isBelow c_AckBook_Claim_isBelow 3 (some FieldType.boolean)) 0 0 [va_rf a0, .long pJ1] w res := by
  refine z_ct hT hfl (by decide) (by simp only [z_sl_i, z_sl_j, z_sl_r, z_sl_n]; decide) ?_
  intro p e R s m args below meth c hC hr hRc hRs hRt hnm hFr H ls hZ hl
  simp only [z_la_i, z_la_j, z_la_r, z_la_n] at hl
  have hl : lv_has ls 3 [(0, va_rf a0), (1, .long pJ1)] := hl
  unfold f_AckBook_Claim_isBelow at h
  refine x_aload_n hC d_AckBook_Claim_isBelow_0 rfl (lv_at hl 0 rfl) ?_
  refine x_getI hC hZ zc6 h (by decide) t_179 (fun _ h9 => h9) d_AckBook_Claim_isBelow_1 (fun v1 h => ?_)
  refine lv_if_le (tgt := 16) hC.1 hC.2.1 d_AckBook_Claim_isBelow_4 (by decide) (fun hc => ?_) (fun hc => ?_)
  · have h := z_ifp hc h
    refine lv_iconst (v := (1 : Int32)) hC.1 hC.2.1 d_AckBook_Claim_isBelow_16 (by decide) ?_
    exact x_iret hC hRc hRs hZ hr rfl h d_AckBook_Claim_isBelow_17
  · have h := z_ifn hc h
    refine x_aload_n hC d_AckBook_Claim_isBelow_7 rfl (lv_at hl 0 rfl) ?_
    refine x_getI hC hZ zc6 h (by decide) t_179 (fun _ h9 => h9) d_AckBook_Claim_isBelow_8 (fun v2 h => ?_)
    refine lv_bipush (v := (64 : Int32)) hC.1 hC.2.1 d_AckBook_Claim_isBelow_11 (by decide) ?_
    refine lv_icmp_le (tgt := 18) hC.1 hC.2.1 d_AckBook_Claim_isBelow_13 (by decide) (fun hc => ?_) (fun hc => ?_)
    · have h := z_ifp hc h
      refine lv_lload_n hC.1 hC.2.1 d_AckBook_Claim_isBelow_18 rfl (lv_at hl 1 rfl) ?_
      refine x_aload_n hC d_AckBook_Claim_isBelow_19 rfl (lv_at hl 0 rfl) ?_
      refine x_getR hC hZ zc6 h (by decide) t_177 (fun _ h9 => h9) d_AckBook_Claim_isBelow_20 (fun r3 h => ?_)
      refine x_aload_n hC d_AckBook_Claim_isBelow_23 rfl (lv_at hl 0 rfl) ?_
      refine x_getI hC hZ zc6 h (by decide) t_179 (fun _ h9 => h9) d_AckBook_Claim_isBelow_24 (fun v4 h => ?_)
      refine lv_iconst (v := (1 : Int32)) hC.1 hC.2.1 d_AckBook_Claim_isBelow_27 (by decide) ?_
      refine lv_isub hC.1 hC.2.1 d_AckBook_Claim_isBelow_28 ?_
      refine x_ldL hC hZ h d_AckBook_Claim_isBelow_29 (fun v5 h => ?_)
      refine lv_lconst (v := (1 : Int64)) hC.1 hC.2.1 d_AckBook_Claim_isBelow_30 (by decide) ?_
      refine lv_lsub hC.1 hC.2.1 d_AckBook_Claim_isBelow_31 ?_
      refine W.lcmp hC.1 hC.2.1 d_AckBook_Claim_isBelow_32 ?_
      refine lv_if_ge (tgt := 40) hC.1 hC.2.1 d_AckBook_Claim_isBelow_33 (by decide) (fun hc => ?_) (fun hc => ?_)
      · have h := z_ifp hc h
        refine lv_iconst (v := (0 : Int32)) hC.1 hC.2.1 d_AckBook_Claim_isBelow_40 (by decide) ?_
        exact x_iret hC hRc hRs hZ hr rfl h d_AckBook_Claim_isBelow_41
      · have h := z_ifn hc h
        refine lv_iconst (v := (1 : Int32)) hC.1 hC.2.1 d_AckBook_Claim_isBelow_36 (by decide) ?_
        refine lv_goto (tgt := 41) hC.1 hC.2.1 d_AckBook_Claim_isBelow_37 (by decide) ?_
        exact x_iret hC hRc hRs hZ hr rfl h d_AckBook_Claim_isBelow_41
    · have h := z_ifn hc h
      refine lv_iconst (v := (1 : Int32)) hC.1 hC.2.1 d_AckBook_Claim_isBelow_16 (by decide) ?_
      exact x_iret hC hRc hRs hZ hr rfl h d_AckBook_Claim_isBelow_17
def f_AckBook_Claim_isFull (F X : Nat) (a0 : Option Nat) (w : zW) : zR :=
  z_getI w 6 2 a0 fun v1 =>
  if v1 < (64 : Int32) then (
    some (.inl (some (.int (0 : Int32))), w))
  else (
    some (.inl (some (.int (1 : Int32))), w))
set_option maxHeartbeats 4000000 in
set_option maxRecDepth 100000 in
theorem k_AckBook_Claim_isFull {b0 : Nat} {H0 : Heap} {D : va_G} {vu vs : Value} {X M : Nat} {l : Launch} (hT : z_TB (zGG b0 H0 D vu vs X M)) (hfl : l.flags = pinnedFlags ++ [noTraceFlag]) (hE : vu.isRef = true ∧ vs.isRef = true) {a0 : Option Nat} (F : Nat) {w : zW} (res : zO × zW) (h : f_AckBook_Claim_isFull F X a0 w = some res) : z_Ct (zGG b0 H0 D vu vs X M) l y_AckBook_Claim_isFull (.code y_AckBook_Claim_isFull c_AckBook_Claim_isFull 1 (some FieldType.boolean)) 0 0 [va_rf a0] w res := by
  refine z_ct hT hfl (by decide) (by simp only [z_sl_i, z_sl_j, z_sl_r, z_sl_n]; decide) ?_
  intro p e R s m args below meth c hC hr hRc hRs hRt hnm hFr H ls hZ hl
  simp only [z_la_i, z_la_j, z_la_r, z_la_n] at hl
  have hl : lv_has ls 1 [(0, va_rf a0)] := hl
  unfold f_AckBook_Claim_isFull at h
  refine x_aload_n hC d_AckBook_Claim_isFull_0 rfl (lv_at hl 0 rfl) ?_
  refine x_getI hC hZ zc6 h (by decide) t_179 (fun _ h9 => h9) d_AckBook_Claim_isFull_1 (fun v1 h => ?_)
  refine lv_bipush (v := (64 : Int32)) hC.1 hC.2.1 d_AckBook_Claim_isFull_4 (by decide) ?_
  refine lv_icmp_lt (tgt := 13) hC.1 hC.2.1 d_AckBook_Claim_isFull_6 (by decide) (fun hc => ?_) (fun hc => ?_)
  · have h := z_ifp hc h
    refine lv_iconst (v := (0 : Int32)) hC.1 hC.2.1 d_AckBook_Claim_isFull_13 (by decide) ?_
    exact x_iret hC hRc hRs hZ hr rfl h d_AckBook_Claim_isFull_14
  · have h := z_ifn hc h
    refine lv_iconst (v := (1 : Int32)) hC.1 hC.2.1 d_AckBook_Claim_isFull_9 (by decide) ?_
    refine lv_goto (tgt := 14) hC.1 hC.2.1 d_AckBook_Claim_isFull_10 (by decide) ?_
    exact x_iret hC hRc hRs hZ hr rfl h d_AckBook_Claim_isFull_14
def f_AckBook_Claim_add (F X : Nat) (a0 : Option Nat) (pJ1 : Int64) (pJ2 : Int64) (w : zW) : zR :=
  z_getI w 6 2 a0 fun v1 =>
  if v1 < 0 then (
    z_getI w 6 2 a0 fun v2 =>
    some (.inl (some (.int v2)), w))
  else (
    z_getI w 6 2 a0 fun v3 =>
    if (64 : Int32) ≤ v3 then (
      z_getI w 6 2 a0 fun v4 =>
      some (.inl (some (.int v4)), w))
    else (
      z_getR w 6 0 a0 fun r5 =>
      z_getI w 6 2 a0 fun v6 =>
      z_stL w r5 v6 pJ1 fun w =>
      z_getR w 6 1 a0 fun r7 =>
      z_getI w 6 2 a0 fun v8 =>
      z_stL w r7 v8 pJ2 fun w =>
      z_getI w 6 2 a0 fun v9 =>
      z_put w 6 2 a0 (.int (v9 + (1 : Int32))) fun w =>
      z_getI w 6 2 a0 fun v10 =>
      some (.inl (some (.int v10)), w)))
set_option maxHeartbeats 4000000 in
set_option maxRecDepth 100000 in
theorem k_AckBook_Claim_add {b0 : Nat} {H0 : Heap} {D : va_G} {vu vs : Value} {X M : Nat} {l : Launch} (hT : z_TB (zGG b0 H0 D vu vs X M)) (hfl : l.flags = pinnedFlags ++ [noTraceFlag]) (hE : vu.isRef = true ∧ vs.isRef = true) {a0 : Option Nat} {pJ1 : Int64} {pJ2 : Int64} (F : Nat) {w : zW} (res : zO × zW) (h : f_AckBook_Claim_add F X a0 pJ1 pJ2 w = some res) : z_Ct (zGG b0 H0 D vu vs X M) l y_AckBook_Claim_add (.code y_AckBook_Claim_add c_AckBook_Claim_add 5 (some FieldType.int)) 0 0 [va_rf a0, .long pJ1, .long pJ2] w res := by
  refine z_ct hT hfl (by decide) (by simp only [z_sl_i, z_sl_j, z_sl_r, z_sl_n]; decide) ?_
  intro p e R s m args below meth c hC hr hRc hRs hRt hnm hFr H ls hZ hl
  simp only [z_la_i, z_la_j, z_la_r, z_la_n] at hl
  have hl : lv_has ls 5 [(0, va_rf a0), (1, .long pJ1), (3, .long pJ2)] := hl
  unfold f_AckBook_Claim_add at h
  refine x_aload_n hC d_AckBook_Claim_add_0 rfl (lv_at hl 0 rfl) ?_
  refine x_getI hC hZ zc6 h (by decide) t_179 (fun _ h9 => h9) d_AckBook_Claim_add_1 (fun v1 h => ?_)
  refine lv_if_lt (tgt := 46) hC.1 hC.2.1 d_AckBook_Claim_add_4 (by decide) (fun hc => ?_) (fun hc => ?_)
  · have h := z_ifp hc h
    refine x_aload_n hC d_AckBook_Claim_add_46 rfl (lv_at hl 0 rfl) ?_
    refine x_getI hC hZ zc6 h (by decide) t_179 (fun _ h9 => h9) d_AckBook_Claim_add_47 (fun v2 h => ?_)
    exact x_iret hC hRc hRs hZ hr rfl h d_AckBook_Claim_add_50
  · have h := z_ifn hc h
    refine x_aload_n hC d_AckBook_Claim_add_7 rfl (lv_at hl 0 rfl) ?_
    refine x_getI hC hZ zc6 h (by decide) t_179 (fun _ h9 => h9) d_AckBook_Claim_add_8 (fun v3 h => ?_)
    refine lv_bipush (v := (64 : Int32)) hC.1 hC.2.1 d_AckBook_Claim_add_11 (by decide) ?_
    refine lv_icmp_ge (tgt := 46) hC.1 hC.2.1 d_AckBook_Claim_add_13 (by decide) (fun hc => ?_) (fun hc => ?_)
    · have h := z_ifp hc h
      refine x_aload_n hC d_AckBook_Claim_add_46 rfl (lv_at hl 0 rfl) ?_
      refine x_getI hC hZ zc6 h (by decide) t_179 (fun _ h9 => h9) d_AckBook_Claim_add_47 (fun v4 h => ?_)
      exact x_iret hC hRc hRs hZ hr rfl h d_AckBook_Claim_add_50
    · have h := z_ifn hc h
      refine x_aload_n hC d_AckBook_Claim_add_16 rfl (lv_at hl 0 rfl) ?_
      refine x_getR hC hZ zc6 h (by decide) t_177 (fun _ h9 => h9) d_AckBook_Claim_add_17 (fun r5 h => ?_)
      refine x_aload_n hC d_AckBook_Claim_add_20 rfl (lv_at hl 0 rfl) ?_
      refine x_getI hC hZ zc6 h (by decide) t_179 (fun _ h9 => h9) d_AckBook_Claim_add_21 (fun v6 h => ?_)
      refine lv_lload_n hC.1 hC.2.1 d_AckBook_Claim_add_24 rfl (lv_at hl 1 rfl) ?_
      refine x_stL hC hZ h d_AckBook_Claim_add_25 (fun w H locs hZ h => ?_)
      refine x_aload_n hC d_AckBook_Claim_add_26 rfl (lv_at hl 0 rfl) ?_
      refine x_getR hC hZ zc6 h (by decide) t_178 (fun _ h9 => h9) d_AckBook_Claim_add_27 (fun r7 h => ?_)
      refine x_aload_n hC d_AckBook_Claim_add_30 rfl (lv_at hl 0 rfl) ?_
      refine x_getI hC hZ zc6 h (by decide) t_179 (fun _ h9 => h9) d_AckBook_Claim_add_31 (fun v8 h => ?_)
      refine lv_lload_n hC.1 hC.2.1 d_AckBook_Claim_add_34 rfl (lv_at hl 2 rfl) ?_
      refine x_stL hC hZ h d_AckBook_Claim_add_35 (fun w H locs hZ h => ?_)
      refine x_aload_n hC d_AckBook_Claim_add_36 rfl (lv_at hl 0 rfl) ?_
      refine lv_dup hC.1 hC.2.1 d_AckBook_Claim_add_37 (z_rfc _) ?_
      refine x_getI hC hZ zc6 h (by decide) t_179 (fun _ h9 => h9) d_AckBook_Claim_add_38 (fun v9 h => ?_)
      refine lv_iconst (v := (1 : Int32)) hC.1 hC.2.1 d_AckBook_Claim_add_41 (by decide) ?_
      refine lv_iadd hC.1 hC.2.1 d_AckBook_Claim_add_42 ?_
      refine x_put hC hZ zc6 h (by decide) t_179 (fun _ h9 => h9) rfl rfl rfl rfl d_AckBook_Claim_add_43 (fun w H locs hZ h => ?_)
      refine x_aload_n hC d_AckBook_Claim_add_46 rfl (lv_at hl 0 rfl) ?_
      refine x_getI hC hZ zc6 h (by decide) t_179 (fun _ h9 => h9) d_AckBook_Claim_add_47 (fun v10 h => ?_)
      exact x_iret hC hRc hRs hZ hr rfl h d_AckBook_Claim_add_50
def f_AckBook_span (F X : Nat) (a0 : Option Nat) (pJ1 : Int64) (pJ2 : Int64) (w : zW) : zR :=
  if (lg_cmp pJ1 (0 : Int64)) < 0 then (
    z_thr w 11)
  else (
    if 0 ≤ (lg_cmp pJ2 pJ1) then (
      z_getR w 0 1 a0 fun r1 =>
      z_this w 6 r1 <|
      z_cI (f_AckBook_Claim_isBelow F X r1 pJ2 w) fun v3 w =>
      if v3 = 0 then (
        z_thr w 11)
      else (
        z_getR w 0 1 a0 fun r4 =>
        z_this w 6 r4 <|
        z_cI (f_AckBook_Claim_isFull F X r4 w) fun v6 w =>
        if v6 = 0 then (
          z_getR w 0 1 a0 fun r7 =>
          z_this w 6 r7 <|
          z_cI (f_AckBook_Claim_add F X r7 pJ1 pJ2 w) fun v9 w =>
          some (.inl (some (.int v9)), w))
        else (
          z_thr w 12)))
    else (
      z_thr w 11))
set_option maxHeartbeats 4000000 in
set_option maxRecDepth 100000 in
theorem k_AckBook_span {b0 : Nat} {H0 : Heap} {D : va_G} {vu vs : Value} {X M : Nat} {l : Launch} (hT : z_TB (zGG b0 H0 D vu vs X M)) (hfl : l.flags = pinnedFlags ++ [noTraceFlag]) (hE : vu.isRef = true ∧ vs.isRef = true) {a0 : Option Nat} {pJ1 : Int64} {pJ2 : Int64} (F : Nat) {w : zW} (res : zO × zW) (h : f_AckBook_span F X a0 pJ1 pJ2 w = some res) : z_Ct (zGG b0 H0 D vu vs X M) l y_AckBook_span (.code y_AckBook_span c_AckBook_span 5 (some FieldType.int)) 6 100 [va_rf a0, .long pJ1, .long pJ2] w res := by
  refine z_ct hT hfl (by decide) (by simp only [z_sl_i, z_sl_j, z_sl_r, z_sl_n]; decide) ?_
  intro p e R s m args below meth c hC hr hRc hRs hRt hnm hFr H ls hZ hl
  simp only [z_la_i, z_la_j, z_la_r, z_la_n] at hl
  have hl : lv_has ls 5 [(0, va_rf a0), (1, .long pJ1), (3, .long pJ2)] := hl
  unfold f_AckBook_span at h
  refine lv_lload_n hC.1 hC.2.1 d_AckBook_span_0 rfl (lv_at hl 1 rfl) ?_
  refine lv_lconst (v := (0 : Int64)) hC.1 hC.2.1 d_AckBook_span_1 (by decide) ?_
  refine W.lcmp hC.1 hC.2.1 d_AckBook_span_2 ?_
  refine lv_if_lt (tgt := 12) hC.1 hC.2.1 d_AckBook_span_3 (by decide) (fun hc => ?_) (fun hc => ?_)
  · have h := z_ifp hc h
    exact x_thr (names := ["java/lang/RuntimeException", "java/lang/Exception"]) hC hRc hRs hFr hZ rfl h ⟨List.mem_cons_self, hE.1⟩ ⟨List.mem_cons_of_mem _ List.mem_cons_self, hE.2⟩ (by decide +kernel) (by decide +kernel) at_AckBook_47 t_385 t_384 t_16 t_596 hl.1 d_AckBook_span_12 d_AckBook_span_15 d_AckBook_span_16 d_AckBook_span_18 d_AckBook_span_21 (by rw [hRt.1]; decide) (by rw [hRt.2]; first | exact Nat.le_of_ble_eq_true rfl | simp [z_rfc, z_ci, z_cj])
  · have h := z_ifn hc h
    refine lv_lload_n hC.1 hC.2.1 d_AckBook_span_6 rfl (lv_at hl 2 rfl) ?_
    refine lv_lload_n hC.1 hC.2.1 d_AckBook_span_7 rfl (lv_at hl 1 rfl) ?_
    refine W.lcmp hC.1 hC.2.1 d_AckBook_span_8 ?_
    refine lv_if_ge (tgt := 22) hC.1 hC.2.1 d_AckBook_span_9 (by decide) (fun hc => ?_) (fun hc => ?_)
    · have h := z_ifp hc h
      refine x_aload_n hC d_AckBook_span_22 rfl (lv_at hl 0 rfl) ?_
      refine x_getR hC hZ zc0 h (by decide) t_242 (fun _ h9 => h9) d_AckBook_span_23 (fun r1 h => ?_)
      refine lv_lload_n hC.1 hC.2.1 d_AckBook_span_26 rfl (lv_at hl 2 rfl) ?_
      obtain ⟨a_, fs_, eo_, h⟩ := z_this_spec h
      obtain ⟨w1_, o1_, hF_, ha_⟩ := z_cI_spec h
      refine x_goes hC hRc hRs hFr ha_ (z_goV (As := [.long pJ2]) hC hZ zc6 eo_ (k_AckBook_Claim_isBelow hT hfl hE _ _ hF_) t_597 t_598 t_599 t_9 t_600 ⟨by decide, by decide, (by decide +kernel : (parseMethodDescriptor y_AckBook_Claim_isBelow.desc).map (fun d => d.parameters.length) = some 1)⟩ (by rw [hRt.1]; decide) (by rw [hRt.2]; decide) hl.1 rfl (by first | exact Nat.le_of_ble_eq_true rfl | simp [z_rfc, z_ci, z_cj]) d_AckBook_span_27) (fun v_ hv H locs cells slots hZ => ?_)
      obtain ⟨v3, rfl, h⟩ := hv
      generalize w1_ = w at h hZ
      refine lv_if_ne (tgt := 43) hC.1 hC.2.1 d_AckBook_span_30 (by decide) (fun hc => ?_) (fun hc => ?_)
      · have h := z_ifn hc h
        refine x_aload_n hC d_AckBook_span_43 rfl (lv_at hl 0 rfl) ?_
        refine x_getR hC hZ zc0 h (by decide) t_242 (fun _ h9 => h9) d_AckBook_span_44 (fun r4 h => ?_)
        obtain ⟨a_, fs_, eo_, h⟩ := z_this_spec h
        obtain ⟨w1_, o1_, hF_, ha_⟩ := z_cI_spec h
        refine x_goes hC hRc hRs hFr ha_ (z_goV (As := []) hC hZ zc6 eo_ (k_AckBook_Claim_isFull hT hfl hE _ _ hF_) t_602 t_603 t_604 t_9 t_605 ⟨by decide, by decide, (by decide +kernel : (parseMethodDescriptor y_AckBook_Claim_isFull.desc).map (fun d => d.parameters.length) = some 0)⟩ (by rw [hRt.1]; decide) (by rw [hRt.2]; decide) hl.1 rfl (by first | exact Nat.le_of_ble_eq_true rfl | simp [z_rfc, z_ci, z_cj]) d_AckBook_span_47) (fun v_ hv H locs cells slots hZ => ?_)
        obtain ⟨v6, rfl, h⟩ := hv
        generalize w1_ = w at h hZ
        refine lv_if_eq (tgt := 63) hC.1 hC.2.1 d_AckBook_span_50 (by decide) (fun hc => ?_) (fun hc => ?_)
        · have h := z_ifp hc h
          refine x_aload_n hC d_AckBook_span_63 rfl (lv_at hl 0 rfl) ?_
          refine x_getR hC hZ zc0 h (by decide) t_242 (fun _ h9 => h9) d_AckBook_span_64 (fun r7 h => ?_)
          refine lv_lload_n hC.1 hC.2.1 d_AckBook_span_67 rfl (lv_at hl 1 rfl) ?_
          refine lv_lload_n hC.1 hC.2.1 d_AckBook_span_68 rfl (lv_at hl 2 rfl) ?_
          obtain ⟨a_, fs_, eo_, h⟩ := z_this_spec h
          obtain ⟨w1_, o1_, hF_, ha_⟩ := z_cI_spec h
          refine x_goes hC hRc hRs hFr ha_ (z_goV (As := [.long pJ1, .long pJ2]) hC hZ zc6 eo_ (k_AckBook_Claim_add hT hfl hE _ _ hF_) t_607 t_608 t_609 t_9 t_610 ⟨by decide, by decide, (by decide +kernel : (parseMethodDescriptor y_AckBook_Claim_add.desc).map (fun d => d.parameters.length) = some 2)⟩ (by rw [hRt.1]; decide) (by rw [hRt.2]; decide) hl.1 rfl (by first | exact Nat.le_of_ble_eq_true rfl | simp [z_rfc, z_ci, z_cj]) d_AckBook_span_69) (fun v_ hv H locs cells slots hZ => ?_)
          obtain ⟨v9, rfl, h⟩ := hv
          generalize w1_ = w at h hZ
          exact x_iret hC hRc hRs hZ hr rfl h d_AckBook_span_72
        · have h := z_ifn hc h
          exact x_thr (names := ["java/lang/RuntimeException", "java/lang/Exception"]) hC hRc hRs hFr hZ rfl h ⟨List.mem_cons_self, hE.1⟩ ⟨List.mem_cons_of_mem _ List.mem_cons_self, hE.2⟩ (by decide +kernel) (by decide +kernel) at_AckBook_70 t_458 t_457 t_17 t_606 hl.1 d_AckBook_span_53 d_AckBook_span_56 d_AckBook_span_57 d_AckBook_span_59 d_AckBook_span_62 (by rw [hRt.1]; decide) (by rw [hRt.2]; first | exact Nat.le_of_ble_eq_true rfl | simp [z_rfc, z_ci, z_cj])
      · have h := z_ifp hc h
        exact x_thr (names := ["java/lang/RuntimeException", "java/lang/Exception"]) hC hRc hRs hFr hZ rfl h ⟨List.mem_cons_self, hE.1⟩ ⟨List.mem_cons_of_mem _ List.mem_cons_self, hE.2⟩ (by decide +kernel) (by decide +kernel) at_AckBook_47 t_385 t_384 t_16 t_601 hl.1 d_AckBook_span_33 d_AckBook_span_36 d_AckBook_span_37 d_AckBook_span_39 d_AckBook_span_42 (by rw [hRt.1]; decide) (by rw [hRt.2]; first | exact Nat.le_of_ble_eq_true rfl | simp [z_rfc, z_ci, z_cj])
    · have h := z_ifn hc h
      exact x_thr (names := ["java/lang/RuntimeException", "java/lang/Exception"]) hC hRc hRs hFr hZ rfl h ⟨List.mem_cons_self, hE.1⟩ ⟨List.mem_cons_of_mem _ List.mem_cons_self, hE.2⟩ (by decide +kernel) (by decide +kernel) at_AckBook_47 t_385 t_384 t_16 t_596 hl.1 d_AckBook_span_12 d_AckBook_span_15 d_AckBook_span_16 d_AckBook_span_18 d_AckBook_span_21 (by rw [hRt.1]; decide) (by rw [hRt.2]; first | exact Nat.le_of_ble_eq_true rfl | simp [z_rfc, z_ci, z_cj])
