def f_AckBook_Chain_clear (F X : Nat) (a0 : Option Nat) (w : zW) : zR :=
  z_put w 3 0 a0 (va_rf none) fun w =>
  some (.inl none, w)
set_option maxHeartbeats 4000000 in
set_option maxRecDepth 100000 in
theorem k_AckBook_Chain_clear {b0 : Nat} {H0 : Heap} {D : va_G} {vu vs : Value} {X : Nat} {l : Launch} (hT : z_TB (zGG b0 H0 D vu vs X)) (hfl : l.flags = pinnedFlags ++ [noTraceFlag]) (hE : vu.isRef = true ∧ vs.isRef = true) {a0 : Option Nat} (F : Nat) {w : zW} (res : zO × zW) (h : f_AckBook_Chain_clear F X a0 w = some res) : z_Ct (zGG b0 H0 D vu vs X) l y_AckBook_Chain_clear (.code y_AckBook_Chain_clear c_AckBook_Chain_clear 1 (none)) 0 0 [va_rf a0] w res := by
  refine z_ct hT hfl (by decide) (by simp only [z_sl_i, z_sl_j, z_sl_r, z_sl_n]; decide) ?_
  intro p e R s m args below meth c hC hr hRc hRs hRt hnm hFr H ls hZ hl
  simp only [z_la_i, z_la_j, z_la_r, z_la_n] at hl
  have hl : lv_has ls 1 [(0, va_rf a0)] := hl
  unfold f_AckBook_Chain_clear at h
  refine x_aload_n hC d_AckBook_Chain_clear_0 rfl (lv_at hl 0 rfl) ?_
  refine x_null hC d_AckBook_Chain_clear_1 ?_
  refine x_put hC hZ zc3 h (by decide) t_53 (fun _ h9 => h9) rfl rfl (z_rfn _ _) (z_rff _ _) d_AckBook_Chain_clear_2 (fun w H locs hZ h => ?_)
  exact x_vret hC hRc hRs hZ hr h d_AckBook_Chain_clear_5
def j_AckBook_Sent_forget (F X : Nat) : Nat → Option Nat → Option Nat → Int32 → zW → zR
  | 0, _, _, _, _ => none
  | N + 1, rL0, rL1, xL2, w =>
    z_getR w 2 2 rL0 fun r1 =>
    z_this w 4 r1 <|
    z_cI (f_ArrayList_size F X r1 w) fun v3 w =>
    if v3 ≤ xL2 then (
      z_put w 2 3 rL0 (.int (0 : Int32)) fun w =>
      z_put w 2 4 rL0 (.int (0 : Int32)) fun w =>
      z_put w 2 6 rL0 (.int (-1 : Int32)) fun w =>
      z_put w 2 7 rL0 (.int (-1 : Int32)) fun w =>
      z_getR w 2 0 rL0 fun r4 =>
      z_this w 3 r4 <|
      z_cV (f_AckBook_Chain_clear F X r4 w) fun w =>
      z_getR w 2 1 rL0 fun r6 =>
      z_this w 3 r6 <|
      z_cV (f_AckBook_Chain_clear F X r6 w) fun w =>
      some (.inl none, w))
    else (
      z_getR w 2 2 rL0 fun r8 =>
      z_this w 4 r8 <|
      z_cR (f_ArrayList_get F X r8 xL2 w) fun r10 w =>
      z_cast w 9 r10 <|
      z_getI w 9 6 r10 fun v11 =>
      if v11 = 0 then (
        z_this w 8 rL1 <|
        z_cV (f_AckBook_Flow_leave F X rL1 r10 w) fun w =>
        j_AckBook_Sent_forget F X N rL0 rL1 (xL2 + (1 : Int32)) w)
      else (
        j_AckBook_Sent_forget F X N rL0 rL1 (xL2 + (1 : Int32)) w))
def f_AckBook_Sent_forget (F X : Nat) (a0 : Option Nat) (pR1 : Option Nat) (w : zW) : zR :=
  j_AckBook_Sent_forget F X F a0 pR1 (0 : Int32) w
set_option maxHeartbeats 4000000 in
set_option maxRecDepth 100000 in
theorem kj_AckBook_Sent_forget {b0 : Nat} {H0 : Heap} {D : va_G} {vu vs : Value} {X : Nat} {l : Launch} (hT : z_TB (zGG b0 H0 D vu vs X)) (hfl : l.flags = pinnedFlags ++ [noTraceFlag]) (hE : vu.isRef = true ∧ vs.isRef = true) {p : Program} {e : Env} {R : Room} {s : State} {m : MethodId} {args : Array Value} {below : List Frame} {meth : Method} {c : Code} {w0 : zW} {F : Nat} (hC : z_C (zGG b0 H0 D vu vs X) p e s m meth c c_AckBook_Sent_forget 4 y_AckBook_Sent_forget.cls) (hr : meth.sig.returnType = (none)) (hRc : R.cells = w0.2.1) (hRs : R.slots = w0.2.2.1) (hFr : c.exceptionTable.toList = []) (hRt : R.frames = 3 ∧ R.locals = 64) (hnm : meth.name = y_AckBook_Sent_forget.name) : ∀ N : Nat, (∀ (rL0 : Option Nat) (rL1 : Option Nat) (xL2 : Int32) (w : zW) (res : zO × zW), j_AckBook_Sent_forget F X N rL0 rL1 xL2 w = some res → ∀ (H : Heap) (locs : List Loc) (cells slots : Nat) (ls : Array Slot), z_Z (zGG b0 H0 D vu vs X) R s w H locs cells slots → lv_has ls 4 [(0, va_rf rL0), (1, va_rf rL1), (2, .int xL2)] → W p l e R s m args below meth c H locs cells slots (z_Q (zGG b0 H0 D vu vs X) below s w0 res) (F0 m 2 ls [])) := by
  intro N
  induction N with
  | zero =>
    intro rL0 rL1 xL2 w res h
    rw [j_AckBook_Sent_forget] at h
    cases h
  | succ N ih =>
    intro rL0 rL1 xL2 w res h H locs cells slots ls hZ hl
    rw [j_AckBook_Sent_forget] at h
    refine lv_iload_n hC.1 hC.2.1 d_AckBook_Sent_forget_2 rfl (lv_at hl 2 rfl) ?_
    refine x_aload_n hC d_AckBook_Sent_forget_3 rfl (lv_at hl 0 rfl) ?_
    refine x_getR hC hZ zc2 h (by decide) t_90 (fun _ h9 => h9) d_AckBook_Sent_forget_4 (fun r1 h => ?_)
    obtain ⟨a_, fs_, eo_, h⟩ := z_this_spec h
    obtain ⟨w1_, o1_, hF_, ha_⟩ := z_cI_spec h
    refine x_goes hC hRc hRs hFr ha_ (z_goV (As := []) hC hZ zc4 eo_ (k_ArrayList_size hT hfl hE _ _ hF_) t_308 t_309 t_310 t_7 t_311 ⟨by decide, by decide, (by decide +kernel : (parseMethodDescriptor y_ArrayList_size.desc).map (fun d => d.parameters.length) = some 0)⟩ (by rw [hRt.1]; decide) (by rw [hRt.2]; decide) hl.1 rfl (by first | exact Nat.le_of_ble_eq_true rfl | simp [z_rfc, z_ci, z_cj]) d_AckBook_Sent_forget_7) (fun v_ hv H locs cells slots hZ => ?_)
    obtain ⟨v3, rfl, h⟩ := hv
    generalize w1_ = w at h hZ
    refine lv_icmp_ge (tgt := 43) hC.1 hC.2.1 d_AckBook_Sent_forget_10 (by decide) (fun hc => ?_) (fun hc => ?_)
    · have h := z_ifp hc h
      refine x_aload_n hC d_AckBook_Sent_forget_43 rfl (lv_at hl 0 rfl) ?_
      refine lv_iconst (v := (0 : Int32)) hC.1 hC.2.1 d_AckBook_Sent_forget_44 (by decide) ?_
      refine x_put hC hZ zc2 h (by decide) t_91 (fun _ h9 => h9) rfl rfl rfl rfl d_AckBook_Sent_forget_45 (fun w H locs hZ h => ?_)
      refine x_aload_n hC d_AckBook_Sent_forget_48 rfl (lv_at hl 0 rfl) ?_
      refine lv_iconst (v := (0 : Int32)) hC.1 hC.2.1 d_AckBook_Sent_forget_49 (by decide) ?_
      refine x_put hC hZ zc2 h (by decide) t_93 (fun _ h9 => h9) rfl rfl rfl rfl d_AckBook_Sent_forget_50 (fun w H locs hZ h => ?_)
      refine x_aload_n hC d_AckBook_Sent_forget_53 rfl (lv_at hl 0 rfl) ?_
      refine lv_iconst (v := (-1 : Int32)) hC.1 hC.2.1 d_AckBook_Sent_forget_54 (by decide) ?_
      refine x_put hC hZ zc2 h (by decide) t_97 (fun _ h9 => h9) rfl rfl rfl rfl d_AckBook_Sent_forget_55 (fun w H locs hZ h => ?_)
      refine x_aload_n hC d_AckBook_Sent_forget_58 rfl (lv_at hl 0 rfl) ?_
      refine lv_iconst (v := (-1 : Int32)) hC.1 hC.2.1 d_AckBook_Sent_forget_59 (by decide) ?_
      refine x_put hC hZ zc2 h (by decide) t_99 (fun _ h9 => h9) rfl rfl rfl rfl d_AckBook_Sent_forget_60 (fun w H locs hZ h => ?_)
      refine x_aload_n hC d_AckBook_Sent_forget_63 rfl (lv_at hl 0 rfl) ?_
      refine x_getR hC hZ zc2 h (by decide) t_86 (fun _ h9 => h9) d_AckBook_Sent_forget_64 (fun r4 h => ?_)
      obtain ⟨a_, fs_, eo_, h⟩ := z_this_spec h
      obtain ⟨w1_, o1_, hF_, ha_⟩ := z_cV_spec h
      refine x_goes hC hRc hRs hFr ha_ (z_goV (As := []) hC hZ zc3 eo_ (k_AckBook_Chain_clear hT hfl hE _ _ hF_) t_690 t_691 t_692 t_4 t_693 ⟨by decide, by decide, (by decide +kernel : (parseMethodDescriptor y_AckBook_Chain_clear.desc).map (fun d => d.parameters.length) = some 0)⟩ (by rw [hRt.1]; decide) (by rw [hRt.2]; decide) hl.1 rfl (by first | exact Nat.le_of_ble_eq_true rfl | simp [z_rfc, z_ci, z_cj]) d_AckBook_Sent_forget_67) (fun v_ hv H locs cells slots hZ => ?_)
      obtain ⟨rfl, h⟩ := hv
      generalize w1_ = w at h hZ
      refine x_aload_n hC d_AckBook_Sent_forget_70 rfl (lv_at hl 0 rfl) ?_
      refine x_getR hC hZ zc2 h (by decide) t_88 (fun _ h9 => h9) d_AckBook_Sent_forget_71 (fun r6 h => ?_)
      obtain ⟨a_, fs_, eo_, h⟩ := z_this_spec h
      obtain ⟨w1_, o1_, hF_, ha_⟩ := z_cV_spec h
      refine x_goes hC hRc hRs hFr ha_ (z_goV (As := []) hC hZ zc3 eo_ (k_AckBook_Chain_clear hT hfl hE _ _ hF_) t_690 t_691 t_692 t_4 t_693 ⟨by decide, by decide, (by decide +kernel : (parseMethodDescriptor y_AckBook_Chain_clear.desc).map (fun d => d.parameters.length) = some 0)⟩ (by rw [hRt.1]; decide) (by rw [hRt.2]; decide) hl.1 rfl (by first | exact Nat.le_of_ble_eq_true rfl | simp [z_rfc, z_ci, z_cj]) d_AckBook_Sent_forget_74) (fun v_ hv H locs cells slots hZ => ?_)
      obtain ⟨rfl, h⟩ := hv
      generalize w1_ = w at h hZ
      exact x_vret hC hRc hRs hZ hr h d_AckBook_Sent_forget_77
    · have h := z_ifn hc h
      refine x_aload_n hC d_AckBook_Sent_forget_13 rfl (lv_at hl 0 rfl) ?_
      refine x_getR hC hZ zc2 h (by decide) t_90 (fun _ h9 => h9) d_AckBook_Sent_forget_14 (fun r8 h => ?_)
      refine lv_iload_n hC.1 hC.2.1 d_AckBook_Sent_forget_17 rfl (lv_at hl 2 rfl) ?_
      obtain ⟨a_, fs_, eo_, h⟩ := z_this_spec h
      obtain ⟨w1_, o1_, hF_, ha_⟩ := z_cR_spec h
      refine x_goes hC hRc hRs hFr ha_ (z_goV (As := [.int xL2]) hC hZ zc4 eo_ (k_ArrayList_get hT hfl hE _ _ hF_) t_312 t_313 t_314 t_7 t_315 ⟨by decide, by decide, (by decide +kernel : (parseMethodDescriptor y_ArrayList_get.desc).map (fun d => d.parameters.length) = some 1)⟩ (by rw [hRt.1]; decide) (by rw [hRt.2]; decide) hl.1 rfl (by first | exact Nat.le_of_ble_eq_true rfl | simp [z_rfc, z_ci, z_cj]) d_AckBook_Sent_forget_18) (fun v_ hv H locs cells slots hZ => ?_)
      obtain ⟨r10, rfl, h⟩ := hv
      generalize w1_ = w at h hZ
      refine x_cast hC hZ zc9 h t_326 d_AckBook_Sent_forget_21 (fun h => ?_)
      refine x_astore_n (i := 3) (lv' := [(3, va_rf r10), (0, va_rf rL0), (1, va_rf rL1), (2, .int xL2)]) hC d_AckBook_Sent_forget_24 rfl hl (by decide) (by first | rfl | simp [z_rfc, z_ci, z_cj]) (fun ls hl => ?_)
      refine x_aload_n hC d_AckBook_Sent_forget_25 rfl (lv_at hl 0 rfl) ?_
      refine x_getI hC hZ zc9 h (by decide) t_501 (fun _ h9 => h9) d_AckBook_Sent_forget_26 (fun v11 h => ?_)
      refine lv_if_ne (tgt := 37) hC.1 hC.2.1 d_AckBook_Sent_forget_29 (by decide) (fun hc => ?_) (fun hc => ?_)
      · have h := z_ifn hc h
        refine lv_iinc (lv' := [(2, .int (xL2 + (1 : Int32))), (3, va_rf r10), (0, va_rf rL0), (1, va_rf rL1)]) hC.1 hC.2.1 d_AckBook_Sent_forget_37 hl (k := 3) rfl rfl (by decide) (by first | rfl | simp [z_rfc, z_ci, z_cj]) (fun ls hl => ?_)
        refine lv_goto (tgt := 2) hC.1 hC.2.1 d_AckBook_Sent_forget_40 (by decide) ?_
        exact ih _ _ _ _ _ h _ _ _ _ _ hZ (lv_sub hl [2, 3, 0] rfl)
      · have h := z_ifp hc h
        refine x_aload_n hC d_AckBook_Sent_forget_32 rfl (lv_at hl 2 rfl) ?_
        refine x_aload_n hC d_AckBook_Sent_forget_33 rfl (lv_at hl 0 rfl) ?_
        obtain ⟨a_, fs_, eo_, h⟩ := z_this_spec h
        obtain ⟨w1_, o1_, hF_, ha_⟩ := z_cV_spec h
        refine x_goes hC hRc hRs hFr ha_ (z_goV (As := [va_rf r10]) hC hZ zc8 eo_ (k_AckBook_Flow_leave hT hfl hE _ _ hF_) t_689 t_340 t_341 t_11 t_342 ⟨by decide, by decide, (by decide +kernel : (parseMethodDescriptor y_AckBook_Flow_leave.desc).map (fun d => d.parameters.length) = some 1)⟩ (by rw [hRt.1]; decide) (by rw [hRt.2]; decide) hl.1 rfl (by first | exact Nat.le_of_ble_eq_true rfl | simp [z_rfc, z_ci, z_cj]) d_AckBook_Sent_forget_34) (fun v_ hv H locs cells slots hZ => ?_)
        obtain ⟨rfl, h⟩ := hv
        generalize w1_ = w at h hZ
        refine lv_iinc (lv' := [(2, .int (xL2 + (1 : Int32))), (3, va_rf r10), (0, va_rf rL0), (1, va_rf rL1)]) hC.1 hC.2.1 d_AckBook_Sent_forget_37 hl (k := 3) rfl rfl (by decide) (by first | rfl | simp [z_rfc, z_ci, z_cj]) (fun ls hl => ?_)
        refine lv_goto (tgt := 2) hC.1 hC.2.1 d_AckBook_Sent_forget_40 (by decide) ?_
        exact ih _ _ _ _ _ h _ _ _ _ _ hZ (lv_sub hl [2, 3, 0] rfl)
set_option maxHeartbeats 4000000 in
set_option maxRecDepth 100000 in
theorem k_AckBook_Sent_forget {b0 : Nat} {H0 : Heap} {D : va_G} {vu vs : Value} {X : Nat} {l : Launch} (hT : z_TB (zGG b0 H0 D vu vs X)) (hfl : l.flags = pinnedFlags ++ [noTraceFlag]) (hE : vu.isRef = true ∧ vs.isRef = true) {a0 : Option Nat} {pR1 : Option Nat} (F : Nat) {w : zW} (res : zO × zW) (h : f_AckBook_Sent_forget F X a0 pR1 w = some res) : z_Ct (zGG b0 H0 D vu vs X) l y_AckBook_Sent_forget (.code y_AckBook_Sent_forget c_AckBook_Sent_forget 4 (none)) 3 64 [va_rf a0, va_rf pR1] w res := by
  refine z_ct hT hfl (by decide) (by simp only [z_sl_i, z_sl_j, z_sl_r, z_sl_n]; decide) ?_
  intro p e R s m args below meth c hC hr hRc hRs hRt hnm hFr H ls hZ hl
  simp only [z_la_i, z_la_j, z_la_r, z_la_n] at hl
  have hl : lv_has ls 4 [(0, va_rf a0), (1, va_rf pR1)] := hl
  unfold f_AckBook_Sent_forget at h
  refine lv_iconst (v := (0 : Int32)) hC.1 hC.2.1 d_AckBook_Sent_forget_0 (by decide) ?_
  refine lv_istore_n (i := 2) (lv' := [(2, .int (0 : Int32)), (0, va_rf a0), (1, va_rf pR1)]) hC.1 hC.2.1 d_AckBook_Sent_forget_1 rfl hl (by decide) (by first | rfl | simp [z_rfc, z_ci, z_cj]) (fun ls hl => ?_)
  exact (kj_AckBook_Sent_forget hT hfl hE hC hr hRc hRs hFr hRt hnm F) _ _ _ _ _ h _ _ _ _ _ hZ (lv_sub hl [1, 2, 0] rfl)
def f_AckBook_Arrivals_forget (F X : Nat) (a0 : Option Nat) (w : zW) : zR :=
  z_put w 5 2 a0 (.int (0 : Int32)) fun w =>
  z_put w 5 3 a0 (.long (0 : Int64)) fun w =>
  z_put w 5 4 a0 (.int (0 : Int32)) fun w =>
  z_putZ w 5 6 a0 (0 : Int32) fun w =>
  some (.inl none, w)
set_option maxHeartbeats 4000000 in
set_option maxRecDepth 100000 in
theorem k_AckBook_Arrivals_forget {b0 : Nat} {H0 : Heap} {D : va_G} {vu vs : Value} {X : Nat} {l : Launch} (hT : z_TB (zGG b0 H0 D vu vs X)) (hfl : l.flags = pinnedFlags ++ [noTraceFlag]) (hE : vu.isRef = true ∧ vs.isRef = true) {a0 : Option Nat} (F : Nat) {w : zW} (res : zO × zW) (h : f_AckBook_Arrivals_forget F X a0 w = some res) : z_Ct (zGG b0 H0 D vu vs X) l y_AckBook_Arrivals_forget (.code y_AckBook_Arrivals_forget c_AckBook_Arrivals_forget 1 (none)) 0 0 [va_rf a0] w res := by
  refine z_ct hT hfl (by decide) (by simp only [z_sl_i, z_sl_j, z_sl_r, z_sl_n]; decide) ?_
  intro p e R s m args below meth c hC hr hRc hRs hRt hnm hFr H ls hZ hl
  simp only [z_la_i, z_la_j, z_la_r, z_la_n] at hl
  have hl : lv_has ls 1 [(0, va_rf a0)] := hl
  unfold f_AckBook_Arrivals_forget at h
  refine x_aload_n hC d_AckBook_Arrivals_forget_0 rfl (lv_at hl 0 rfl) ?_
  refine lv_iconst (v := (0 : Int32)) hC.1 hC.2.1 d_AckBook_Arrivals_forget_1 (by decide) ?_
  refine x_put hC hZ zc5 h (by decide) t_128 (fun _ h9 => h9) rfl rfl rfl rfl d_AckBook_Arrivals_forget_2 (fun w H locs hZ h => ?_)
  refine x_aload_n hC d_AckBook_Arrivals_forget_5 rfl (lv_at hl 0 rfl) ?_
  refine lv_lconst (v := (0 : Int64)) hC.1 hC.2.1 d_AckBook_Arrivals_forget_6 (by decide) ?_
  refine x_put hC hZ zc5 h (by decide) t_130 (fun _ h9 => h9) rfl rfl rfl rfl d_AckBook_Arrivals_forget_7 (fun w H locs hZ h => ?_)
  refine x_aload_n hC d_AckBook_Arrivals_forget_10 rfl (lv_at hl 0 rfl) ?_
  refine lv_iconst (v := (0 : Int32)) hC.1 hC.2.1 d_AckBook_Arrivals_forget_11 (by decide) ?_
  refine x_put hC hZ zc5 h (by decide) t_132 (fun _ h9 => h9) rfl rfl rfl rfl d_AckBook_Arrivals_forget_12 (fun w H locs hZ h => ?_)
  refine x_aload_n hC d_AckBook_Arrivals_forget_15 rfl (lv_at hl 0 rfl) ?_
  refine lv_iconst (v := (0 : Int32)) hC.1 hC.2.1 d_AckBook_Arrivals_forget_16 (by decide) ?_
  refine x_putZ hC hZ zc5 h (by decide) t_135 (fun _ h9 => h9) rfl rfl d_AckBook_Arrivals_forget_17 (fun w H locs hZ h => ?_)
  exact x_vret hC hRc hRs hZ hr h d_AckBook_Arrivals_forget_20
def f_AckBook_discard (F X : Nat) (a0 : Option Nat) (pI1 : Int32) (w : zW) : zR :=
  z_this w 0 a0 <|
  z_cR (f_AckBook_known F X a0 pI1 w) fun r2 w =>
  z_cV (f_AckBook_refuseDiscarded F X r2 w) fun w =>
  z_putZ w 1 3 r2 (1 : Int32) fun w =>
  z_getR w 1 1 r2 fun r4 =>
  z_getR w 0 3 a0 fun r5 =>
  z_this w 2 r4 <|
  z_cV (f_AckBook_Sent_forget F X r4 r5 w) fun w =>
  z_getR w 1 2 r2 fun r7 =>
  z_this w 5 r7 <|
  z_cV (f_AckBook_Arrivals_forget F X r7 w) fun w =>
  z_put w 0 5 a0 (.int (0 : Int32)) fun w =>
  some (.inl none, w)
set_option maxHeartbeats 4000000 in
set_option maxRecDepth 100000 in
theorem k_AckBook_discard {b0 : Nat} {H0 : Heap} {D : va_G} {vu vs : Value} {X : Nat} {l : Launch} (hT : z_TB (zGG b0 H0 D vu vs X)) (hfl : l.flags = pinnedFlags ++ [noTraceFlag]) (hE : vu.isRef = true ∧ vs.isRef = true) {a0 : Option Nat} {pI1 : Int32} (F : Nat) {w : zW} (res : zO × zW) (h : f_AckBook_discard F X a0 pI1 w = some res) : z_Ct (zGG b0 H0 D vu vs X) l y_AckBook_discard (.code y_AckBook_discard c_AckBook_discard 3 (none)) 7 121 [va_rf a0, .int pI1] w res := by
  refine z_ct hT hfl (by decide) (by simp only [z_sl_i, z_sl_j, z_sl_r, z_sl_n]; decide) ?_
  intro p e R s m args below meth c hC hr hRc hRs hRt hnm hFr H ls hZ hl
  simp only [z_la_i, z_la_j, z_la_r, z_la_n] at hl
  have hl : lv_has ls 3 [(0, va_rf a0), (1, .int pI1)] := hl
  unfold f_AckBook_discard at h
  refine x_aload_n hC d_AckBook_discard_0 rfl (lv_at hl 0 rfl) ?_
  refine lv_iload_n hC.1 hC.2.1 d_AckBook_discard_1 rfl (lv_at hl 1 rfl) ?_
  obtain ⟨a_, fs_, eo_, h⟩ := z_this_spec h
  obtain ⟨w1_, o1_, hF_, ha_⟩ := z_cR_spec h
  refine x_goes hC hRc hRs hFr ha_ (z_goV (As := [.int pI1]) hC hZ zc0 eo_ (k_AckBook_known hT hfl hE _ _ hF_) t_380 t_382 ts_AckBook_known t_1 t_383 ⟨by decide, by decide, (by decide +kernel : (parseMethodDescriptor y_AckBook_known.desc).map (fun d => d.parameters.length) = some 1)⟩ (by rw [hRt.1]; decide) (by rw [hRt.2]; decide) hl.1 rfl (by first | exact Nat.le_of_ble_eq_true rfl | simp [z_rfc, z_ci, z_cj]) d_AckBook_discard_2) (fun v_ hv H locs cells slots hZ => ?_)
  obtain ⟨r2, rfl, h⟩ := hv
  generalize w1_ = w at h hZ
  refine x_astore_n (i := 2) (lv' := [(2, va_rf r2), (0, va_rf a0), (1, .int pI1)]) hC d_AckBook_discard_5 rfl hl (by decide) (by first | rfl | simp [z_rfc, z_ci, z_cj]) (fun ls hl => ?_)
  refine x_aload_n hC d_AckBook_discard_6 rfl (lv_at hl 0 rfl) ?_
  obtain ⟨w1_, o1_, hF_, ha_⟩ := z_cV_spec h
  refine x_goes hC hRc hRs hFr ha_ (z_goS (As := [va_rf r2]) hC hZ (k_AckBook_refuseDiscarded hT hfl hE _ _ hF_) t_454 t_455 t_1 t_456 ⟨by decide, by decide, (by decide +kernel : (parseMethodDescriptor y_AckBook_refuseDiscarded.desc).map (fun d => d.parameters.length) = some 1)⟩ (by rw [hRt.1]; decide) (by rw [hRt.2]; decide) hl.1 rfl (by first | exact Nat.le_of_ble_eq_true rfl | simp [z_rfc, z_ci, z_cj]) d_AckBook_discard_7) (fun v_ hv H locs cells slots hZ => ?_)
  obtain ⟨rfl, h⟩ := hv
  generalize w1_ = w at h hZ
  refine x_aload_n hC d_AckBook_discard_10 rfl (lv_at hl 0 rfl) ?_
  refine lv_iconst (v := (1 : Int32)) hC.1 hC.2.1 d_AckBook_discard_11 (by decide) ?_
  refine x_putZ hC hZ zc1 h (by decide) t_161 (fun _ h9 => h9) rfl rfl d_AckBook_discard_12 (fun w H locs hZ h => ?_)
  refine x_aload_n hC d_AckBook_discard_15 rfl (lv_at hl 0 rfl) ?_
  refine x_getR hC hZ zc1 h (by decide) t_158 (fun _ h9 => h9) d_AckBook_discard_16 (fun r4 h => ?_)
  refine x_aload_n hC d_AckBook_discard_19 rfl (lv_at hl 1 rfl) ?_
  refine x_getR hC hZ zc0 h (by decide) t_244 (fun _ h9 => h9) d_AckBook_discard_20 (fun r5 h => ?_)
  obtain ⟨a_, fs_, eo_, h⟩ := z_this_spec h
  obtain ⟨w1_, o1_, hF_, ha_⟩ := z_cV_spec h
  refine x_goes hC hRc hRs hFr ha_ (z_goV (As := [va_rf r5]) hC hZ zc2 eo_ (k_AckBook_Sent_forget hT hfl hE _ _ hF_) t_685 t_686 t_687 t_3 t_688 ⟨by decide, by decide, (by decide +kernel : (parseMethodDescriptor y_AckBook_Sent_forget.desc).map (fun d => d.parameters.length) = some 1)⟩ (by rw [hRt.1]; decide) (by rw [hRt.2]; decide) hl.1 rfl (by first | exact Nat.le_of_ble_eq_true rfl | simp [z_rfc, z_ci, z_cj]) d_AckBook_discard_23) (fun v_ hv H locs cells slots hZ => ?_)
  obtain ⟨rfl, h⟩ := hv
  generalize w1_ = w at h hZ
  refine x_aload_n hC d_AckBook_discard_26 rfl (lv_at hl 0 rfl) ?_
  refine x_getR hC hZ zc1 h (by decide) t_160 (fun _ h9 => h9) d_AckBook_discard_27 (fun r7 h => ?_)
  obtain ⟨a_, fs_, eo_, h⟩ := z_this_spec h
  obtain ⟨w1_, o1_, hF_, ha_⟩ := z_cV_spec h
  refine x_goes hC hRc hRs hFr ha_ (z_goV (As := []) hC hZ zc5 eo_ (k_AckBook_Arrivals_forget hT hfl hE _ _ hF_) t_694 t_695 t_696 t_8 t_697 ⟨by decide, by decide, (by decide +kernel : (parseMethodDescriptor y_AckBook_Arrivals_forget.desc).map (fun d => d.parameters.length) = some 0)⟩ (by rw [hRt.1]; decide) (by rw [hRt.2]; decide) hl.1 rfl (by first | exact Nat.le_of_ble_eq_true rfl | simp [z_rfc, z_ci, z_cj]) d_AckBook_discard_30) (fun v_ hv H locs cells slots hZ => ?_)
  obtain ⟨rfl, h⟩ := hv
  generalize w1_ = w at h hZ
  refine x_aload_n hC d_AckBook_discard_33 rfl (lv_at hl 1 rfl) ?_
  refine lv_iconst (v := (0 : Int32)) hC.1 hC.2.1 d_AckBook_discard_34 (by decide) ?_
  refine x_put hC hZ zc0 h (by decide) t_246 (fun _ h9 => h9) rfl rfl rfl rfl d_AckBook_discard_35 (fun w H locs hZ h => ?_)
  exact x_vret hC hRc hRs hZ hr h d_AckBook_discard_38
def f_AckBook_Chain_removeFirst (F X : Nat) (a0 : Option Nat) (w : zW) : zR :=
  z_getR w 3 0 a0 fun r1 =>
  if r1 = none then (
    some (.inl (some (.int (-1 : Int32))), w))
  else (
    z_getR w 3 0 a0 fun r2 =>
    z_getI w 9 0 r2 fun v3 =>
    z_getR w 3 0 a0 fun r4 =>
    z_getR w 9 7 r4 fun r5 =>
    z_put w 3 0 a0 (va_rf r5) fun w =>
    some (.inl (some (.int v3)), w))
set_option maxHeartbeats 4000000 in
set_option maxRecDepth 100000 in
theorem k_AckBook_Chain_removeFirst {b0 : Nat} {H0 : Heap} {D : va_G} {vu vs : Value} {X : Nat} {l : Launch} (hT : z_TB (zGG b0 H0 D vu vs X)) (hfl : l.flags = pinnedFlags ++ [noTraceFlag]) (hE : vu.isRef = true ∧ vs.isRef = true) {a0 : Option Nat} (F : Nat) {w : zW} (res : zO × zW) (h : f_AckBook_Chain_removeFirst F X a0 w = some res) : z_Ct (zGG b0 H0 D vu vs X) l y_AckBook_Chain_removeFirst (.code y_AckBook_Chain_removeFirst c_AckBook_Chain_removeFirst 2 (some FieldType.int)) 0 0 [va_rf a0] w res := by
  refine z_ct hT hfl (by decide) (by simp only [z_sl_i, z_sl_j, z_sl_r, z_sl_n]; decide) ?_
  intro p e R s m args below meth c hC hr hRc hRs hRt hnm hFr H ls hZ hl
  simp only [z_la_i, z_la_j, z_la_r, z_la_n] at hl
  have hl : lv_has ls 2 [(0, va_rf a0)] := hl
  unfold f_AckBook_Chain_removeFirst at h
  refine x_aload_n hC d_AckBook_Chain_removeFirst_0 rfl (lv_at hl 0 rfl) ?_
  refine x_getR hC hZ zc3 h (by decide) t_53 (fun _ h9 => h9) d_AckBook_Chain_removeFirst_1 (fun r1 h => ?_)
  refine x_ifnonnull (tgt := 9) hC d_AckBook_Chain_removeFirst_4 (by decide) (fun hc => ?_) (fun hc => ?_)
  · have h := z_ifn hc h
    refine x_aload_n hC d_AckBook_Chain_removeFirst_9 rfl (lv_at hl 0 rfl) ?_
    refine x_getR hC hZ zc3 h (by decide) t_53 (fun _ h9 => h9) d_AckBook_Chain_removeFirst_10 (fun r2 h => ?_)
    refine x_getI hC hZ zc9 h (by decide) t_486 (fun _ h9 => h9) d_AckBook_Chain_removeFirst_13 (fun v3 h => ?_)
    refine lv_istore_n (i := 1) (lv' := [(1, .int v3), (0, va_rf a0)]) hC.1 hC.2.1 d_AckBook_Chain_removeFirst_16 rfl hl (by decide) (by first | rfl | simp [z_rfc, z_ci, z_cj]) (fun ls hl => ?_)
    refine x_aload_n hC d_AckBook_Chain_removeFirst_17 rfl (lv_at hl 1 rfl) ?_
    refine x_aload_n hC d_AckBook_Chain_removeFirst_18 rfl (lv_at hl 1 rfl) ?_
    refine x_getR hC hZ zc3 h (by decide) t_53 (fun _ h9 => h9) d_AckBook_Chain_removeFirst_19 (fun r4 h => ?_)
    refine x_getR hC hZ zc9 h (by decide) t_503 (fun _ h9 => h9) d_AckBook_Chain_removeFirst_22 (fun r5 h => ?_)
    refine x_put hC hZ zc3 h (by decide) t_53 (fun _ h9 => h9) rfl rfl (z_rfn _ _) (z_rff _ _) d_AckBook_Chain_removeFirst_25 (fun w H locs hZ h => ?_)
    refine lv_iload_n hC.1 hC.2.1 d_AckBook_Chain_removeFirst_28 rfl (lv_at hl 0 rfl) ?_
    exact x_iret hC hRc hRs hZ hr rfl h d_AckBook_Chain_removeFirst_29
  · have h := z_ifp hc h
    refine lv_iconst (v := (-1 : Int32)) hC.1 hC.2.1 d_AckBook_Chain_removeFirst_7 (by decide) ?_
    exact x_iret hC hRc hRs hZ hr rfl h d_AckBook_Chain_removeFirst_8
def f_AckBook_next (F X : Nat) (a0 : Option Nat) (pI1 : Int32) (pI2 : Int32) (w : zW) : zR :=
  z_this w 0 a0 <|
  z_cR (f_AckBook_known F X a0 pI1 w) fun r2 w =>
  z_getR w 1 1 r2 fun r3 =>
  if pI2 = 0 then (
    z_getR w 2 0 r3 fun r4 =>
    z_this w 3 r4 <|
    z_cI (f_AckBook_Chain_removeFirst F X r4 w) fun v6 w =>
    some (.inl (some (.int v6)), w))
  else (
    z_getR w 2 1 r3 fun r7 =>
    z_this w 3 r7 <|
    z_cI (f_AckBook_Chain_removeFirst F X r7 w) fun v9 w =>
    some (.inl (some (.int v9)), w))
set_option maxHeartbeats 4000000 in
set_option maxRecDepth 100000 in
theorem k_AckBook_next {b0 : Nat} {H0 : Heap} {D : va_G} {vu vs : Value} {X : Nat} {l : Launch} (hT : z_TB (zGG b0 H0 D vu vs X)) (hfl : l.flags = pinnedFlags ++ [noTraceFlag]) (hE : vu.isRef = true ∧ vs.isRef = true) {a0 : Option Nat} {pI1 : Int32} {pI2 : Int32} (F : Nat) {w : zW} (res : zO × zW) (h : f_AckBook_next F X a0 pI1 pI2 w = some res) : z_Ct (zGG b0 H0 D vu vs X) l y_AckBook_next (.code y_AckBook_next c_AckBook_next 4 (some FieldType.int)) 7 121 [va_rf a0, .int pI1, .int pI2] w res := by
  refine z_ct hT hfl (by decide) (by simp only [z_sl_i, z_sl_j, z_sl_r, z_sl_n]; decide) ?_
  intro p e R s m args below meth c hC hr hRc hRs hRt hnm hFr H ls hZ hl
  simp only [z_la_i, z_la_j, z_la_r, z_la_n] at hl
  have hl : lv_has ls 4 [(0, va_rf a0), (1, .int pI1), (2, .int pI2)] := hl
  unfold f_AckBook_next at h
  refine x_aload_n hC d_AckBook_next_0 rfl (lv_at hl 0 rfl) ?_
  refine lv_iload_n hC.1 hC.2.1 d_AckBook_next_1 rfl (lv_at hl 1 rfl) ?_
  obtain ⟨a_, fs_, eo_, h⟩ := z_this_spec h
  obtain ⟨w1_, o1_, hF_, ha_⟩ := z_cR_spec h
  refine x_goes hC hRc hRs hFr ha_ (z_goV (As := [.int pI1]) hC hZ zc0 eo_ (k_AckBook_known hT hfl hE _ _ hF_) t_380 t_382 ts_AckBook_known t_1 t_383 ⟨by decide, by decide, (by decide +kernel : (parseMethodDescriptor y_AckBook_known.desc).map (fun d => d.parameters.length) = some 1)⟩ (by rw [hRt.1]; decide) (by rw [hRt.2]; decide) hl.1 rfl (by first | exact Nat.le_of_ble_eq_true rfl | simp [z_rfc, z_ci, z_cj]) d_AckBook_next_2) (fun v_ hv H locs cells slots hZ => ?_)
  obtain ⟨r2, rfl, h⟩ := hv
  generalize w1_ = w at h hZ
  refine x_getR hC hZ zc1 h (by decide) t_158 (fun _ h9 => h9) d_AckBook_next_5 (fun r3 h => ?_)
  refine x_astore_n (i := 3) (lv' := [(3, va_rf r3), (0, va_rf a0), (1, .int pI1), (2, .int pI2)]) hC d_AckBook_next_8 rfl hl (by decide) (by first | rfl | simp [z_rfc, z_ci, z_cj]) (fun ls hl => ?_)
  refine lv_iload_n hC.1 hC.2.1 d_AckBook_next_9 rfl (lv_at hl 3 rfl) ?_
  refine lv_if_eq (tgt := 23) hC.1 hC.2.1 d_AckBook_next_10 (by decide) (fun hc => ?_) (fun hc => ?_)
  · have h := z_ifp hc h
    refine x_aload_n hC d_AckBook_next_23 rfl (lv_at hl 0 rfl) ?_
    refine x_getR hC hZ zc2 h (by decide) t_87 (fun _ h9 => h9) d_AckBook_next_24 (fun r4 h => ?_)
    obtain ⟨a_, fs_, eo_, h⟩ := z_this_spec h
    obtain ⟨w1_, o1_, hF_, ha_⟩ := z_cI_spec h
    refine x_goes hC hRc hRs hFr ha_ (z_goV (As := []) hC hZ zc3 eo_ (k_AckBook_Chain_removeFirst hT hfl hE _ _ hF_) t_705 t_706 t_707 t_4 t_708 ⟨by decide, by decide, (by decide +kernel : (parseMethodDescriptor y_AckBook_Chain_removeFirst.desc).map (fun d => d.parameters.length) = some 0)⟩ (by rw [hRt.1]; decide) (by rw [hRt.2]; decide) hl.1 rfl (by first | exact Nat.le_of_ble_eq_true rfl | simp [z_rfc, z_ci, z_cj]) d_AckBook_next_27) (fun v_ hv H locs cells slots hZ => ?_)
    obtain ⟨v6, rfl, h⟩ := hv
    generalize w1_ = w at h hZ
    exact x_iret hC hRc hRs hZ hr rfl h d_AckBook_next_30
  · have h := z_ifn hc h
    refine x_aload_n hC d_AckBook_next_13 rfl (lv_at hl 0 rfl) ?_
    refine x_getR hC hZ zc2 h (by decide) t_89 (fun _ h9 => h9) d_AckBook_next_14 (fun r7 h => ?_)
    obtain ⟨a_, fs_, eo_, h⟩ := z_this_spec h
    obtain ⟨w1_, o1_, hF_, ha_⟩ := z_cI_spec h
    refine x_goes hC hRc hRs hFr ha_ (z_goV (As := []) hC hZ zc3 eo_ (k_AckBook_Chain_removeFirst hT hfl hE _ _ hF_) t_705 t_706 t_707 t_4 t_708 ⟨by decide, by decide, (by decide +kernel : (parseMethodDescriptor y_AckBook_Chain_removeFirst.desc).map (fun d => d.parameters.length) = some 0)⟩ (by rw [hRt.1]; decide) (by rw [hRt.2]; decide) hl.1 rfl (by first | exact Nat.le_of_ble_eq_true rfl | simp [z_rfc, z_ci, z_cj]) d_AckBook_next_17) (fun v_ hv H locs cells slots hZ => ?_)
    obtain ⟨v9, rfl, h⟩ := hv
    generalize w1_ = w at h hZ
    refine lv_goto (tgt := 30) hC.1 hC.2.1 d_AckBook_next_20 (by decide) ?_
    exact x_iret hC hRc hRs hZ hr rfl h d_AckBook_next_30
def f_AckBook_state (F X : Nat) (a0 : Option Nat) (pI1 : Int32) (pI2 : Int32) (w : zW) : zR :=
  z_this w 0 a0 <|
  z_cR (f_AckBook_known F X a0 pI1 w) fun r2 w =>
  z_getR w 1 1 r2 fun r3 =>
  z_this w 2 r3 <|
  z_cR (f_AckBook_Sent_packet F X r3 pI2.toInt64 w) fun r5 w =>
  if r5 = none then (
    some (.inl (some (.int (-1 : Int32))), w))
  else (
    z_getI w 1 3 r2 fun v6 =>
    if v6 = 0 then (
      z_getI w 9 6 r5 fun v7 =>
      some (.inl (some (.int v7)), w))
    else (
      some (.inl (some (.int (3 : Int32))), w)))
set_option maxHeartbeats 4000000 in
set_option maxRecDepth 100000 in
theorem k_AckBook_state {b0 : Nat} {H0 : Heap} {D : va_G} {vu vs : Value} {X : Nat} {l : Launch} (hT : z_TB (zGG b0 H0 D vu vs X)) (hfl : l.flags = pinnedFlags ++ [noTraceFlag]) (hE : vu.isRef = true ∧ vs.isRef = true) {a0 : Option Nat} {pI1 : Int32} {pI2 : Int32} (F : Nat) {w : zW} (res : zO × zW) (h : f_AckBook_state F X a0 pI1 pI2 w = some res) : z_Ct (zGG b0 H0 D vu vs X) l y_AckBook_state (.code y_AckBook_state c_AckBook_state 5 (some FieldType.int)) 7 121 [va_rf a0, .int pI1, .int pI2] w res := by
  refine z_ct hT hfl (by decide) (by simp only [z_sl_i, z_sl_j, z_sl_r, z_sl_n]; decide) ?_
  intro p e R s m args below meth c hC hr hRc hRs hRt hnm hFr H ls hZ hl
  simp only [z_la_i, z_la_j, z_la_r, z_la_n] at hl
  have hl : lv_has ls 5 [(0, va_rf a0), (1, .int pI1), (2, .int pI2)] := hl
  unfold f_AckBook_state at h
  refine x_aload_n hC d_AckBook_state_0 rfl (lv_at hl 0 rfl) ?_
  refine lv_iload_n hC.1 hC.2.1 d_AckBook_state_1 rfl (lv_at hl 1 rfl) ?_
  obtain ⟨a_, fs_, eo_, h⟩ := z_this_spec h
  obtain ⟨w1_, o1_, hF_, ha_⟩ := z_cR_spec h
  refine x_goes hC hRc hRs hFr ha_ (z_goV (As := [.int pI1]) hC hZ zc0 eo_ (k_AckBook_known hT hfl hE _ _ hF_) t_380 t_382 ts_AckBook_known t_1 t_383 ⟨by decide, by decide, (by decide +kernel : (parseMethodDescriptor y_AckBook_known.desc).map (fun d => d.parameters.length) = some 1)⟩ (by rw [hRt.1]; decide) (by rw [hRt.2]; decide) hl.1 rfl (by first | exact Nat.le_of_ble_eq_true rfl | simp [z_rfc, z_ci, z_cj]) d_AckBook_state_2) (fun v_ hv H locs cells slots hZ => ?_)
  obtain ⟨r2, rfl, h⟩ := hv
  generalize w1_ = w at h hZ
  refine x_astore_n (i := 3) (lv' := [(3, va_rf r2), (0, va_rf a0), (1, .int pI1), (2, .int pI2)]) hC d_AckBook_state_5 rfl hl (by decide) (by first | rfl | simp [z_rfc, z_ci, z_cj]) (fun ls hl => ?_)
  refine x_aload_n hC d_AckBook_state_6 rfl (lv_at hl 0 rfl) ?_
  refine x_getR hC hZ zc1 h (by decide) t_158 (fun _ h9 => h9) d_AckBook_state_7 (fun r3 h => ?_)
  refine lv_iload_n hC.1 hC.2.1 d_AckBook_state_10 rfl (lv_at hl 3 rfl) ?_
  refine lv_i2l hC.1 hC.2.1 d_AckBook_state_11 rfl ?_
  obtain ⟨a_, fs_, eo_, h⟩ := z_this_spec h
  obtain ⟨w1_, o1_, hF_, ha_⟩ := z_cR_spec h
  refine x_goes hC hRc hRs hFr ha_ (z_goV (As := [.long pI2.toInt64]) hC hZ zc2 eo_ (k_AckBook_Sent_packet hT hfl hE _ _ hF_) t_629 t_630 t_631 t_3 t_632 ⟨by decide, by decide, (by decide +kernel : (parseMethodDescriptor y_AckBook_Sent_packet.desc).map (fun d => d.parameters.length) = some 1)⟩ (by rw [hRt.1]; decide) (by rw [hRt.2]; decide) hl.1 rfl (by first | exact Nat.le_of_ble_eq_true rfl | simp [z_rfc, z_ci, z_cj]) d_AckBook_state_12) (fun v_ hv H locs cells slots hZ => ?_)
  obtain ⟨r5, rfl, h⟩ := hv
  generalize w1_ = w at h hZ
  refine x_astore (i := 4) (lv' := [(4, va_rf r5), (3, va_rf r2), (0, va_rf a0), (1, .int pI1), (2, .int pI2)]) hC d_AckBook_state_15 hl (by decide) (by first | rfl | simp [z_rfc, z_ci, z_cj]) (fun ls hl => ?_)
  refine x_aload hC d_AckBook_state_17 (lv_at hl 0 rfl) ?_
  refine x_ifnonnull (tgt := 24) hC d_AckBook_state_19 (by decide) (fun hc => ?_) (fun hc => ?_)
  · have h := z_ifn hc h
    refine x_aload_n hC d_AckBook_state_24 rfl (lv_at hl 1 rfl) ?_
    refine x_getI hC hZ zc1 h (by decide) t_161 (fun _ h9 => h9) d_AckBook_state_25 (fun v6 h => ?_)
    refine lv_if_eq (tgt := 35) hC.1 hC.2.1 d_AckBook_state_28 (by decide) (fun hc => ?_) (fun hc => ?_)
    · have h := z_ifp hc h
      refine x_aload hC d_AckBook_state_35 (lv_at hl 0 rfl) ?_
      refine x_getI hC hZ zc9 h (by decide) t_502 (fun _ h9 => h9) d_AckBook_state_37 (fun v7 h => ?_)
      exact x_iret hC hRc hRs hZ hr rfl h d_AckBook_state_40
    · have h := z_ifn hc h
      refine lv_iconst (v := (3 : Int32)) hC.1 hC.2.1 d_AckBook_state_31 (by decide) ?_
      refine lv_goto (tgt := 40) hC.1 hC.2.1 d_AckBook_state_32 (by decide) ?_
      exact x_iret hC hRc hRs hZ hr rfl h d_AckBook_state_40
  · have h := z_ifp hc h
    refine lv_iconst (v := (-1 : Int32)) hC.1 hC.2.1 d_AckBook_state_22 (by decide) ?_
    exact x_iret hC hRc hRs hZ hr rfl h d_AckBook_state_23
def j_AckBook_Arrivals_firstNotAbove (F X : Nat) : Nat → Option Nat → Int64 → Int32 → zW → zR
  | 0, _, _, _, _ => none
  | N + 1, rL0, yL1, xL3, w =>
    z_getI w 5 2 rL0 fun v1 =>
    if v1 ≤ xL3 then (
      z_getI w 5 2 rL0 fun v2 =>
      some (.inl (some (.int v2)), w))
    else (
      z_getR w 5 0 rL0 fun r3 =>
      z_len w r3 fun v4 =>
      if v4 ≤ xL3 then (
        z_getI w 5 2 rL0 fun v5 =>
        some (.inl (some (.int v5)), w))
      else (
        z_getR w 5 0 rL0 fun r6 =>
        z_ldL w r6 xL3 fun v7 =>
        if 0 < (lg_cmp v7 yL1) then (
          j_AckBook_Arrivals_firstNotAbove F X N rL0 yL1 (xL3 + (1 : Int32)) w)
        else (
          some (.inl (some (.int xL3)), w))))
def f_AckBook_Arrivals_firstNotAbove (F X : Nat) (a0 : Option Nat) (pJ1 : Int64) (w : zW) : zR :=
  j_AckBook_Arrivals_firstNotAbove F X F a0 pJ1 (0 : Int32) w
set_option maxHeartbeats 4000000 in
set_option maxRecDepth 100000 in
theorem kj_AckBook_Arrivals_firstNotAbove {b0 : Nat} {H0 : Heap} {D : va_G} {vu vs : Value} {X : Nat} {l : Launch} (hT : z_TB (zGG b0 H0 D vu vs X)) (hfl : l.flags = pinnedFlags ++ [noTraceFlag]) (hE : vu.isRef = true ∧ vs.isRef = true) {p : Program} {e : Env} {R : Room} {s : State} {m : MethodId} {args : Array Value} {below : List Frame} {meth : Method} {c : Code} {w0 : zW} {F : Nat} (hC : z_C (zGG b0 H0 D vu vs X) p e s m meth c c_AckBook_Arrivals_firstNotAbove 4 y_AckBook_Arrivals_firstNotAbove.cls) (hr : meth.sig.returnType = (some FieldType.int)) (hRc : R.cells = w0.2.1) (hRs : R.slots = w0.2.2.1) (hFr : c.exceptionTable.toList = []) (hRt : R.frames = 0 ∧ R.locals = 0) (hnm : meth.name = y_AckBook_Arrivals_firstNotAbove.name) : ∀ N : Nat, (∀ (rL0 : Option Nat) (yL1 : Int64) (xL3 : Int32) (w : zW) (res : zO × zW), j_AckBook_Arrivals_firstNotAbove F X N rL0 yL1 xL3 w = some res → ∀ (H : Heap) (locs : List Loc) (cells slots : Nat) (ls : Array Slot), z_Z (zGG b0 H0 D vu vs X) R s w H locs cells slots → lv_has ls 4 [(0, va_rf rL0), (1, .long yL1), (3, .int xL3)] → W p l e R s m args below meth c H locs cells slots (z_Q (zGG b0 H0 D vu vs X) below s w0 res) (F0 m 2 ls [])) := by
  intro N
  induction N with
  | zero =>
    intro rL0 yL1 xL3 w res h
    rw [j_AckBook_Arrivals_firstNotAbove] at h
    cases h
  | succ N ih =>
    intro rL0 yL1 xL3 w res h H locs cells slots ls hZ hl
    rw [j_AckBook_Arrivals_firstNotAbove] at h
    refine lv_iload_n hC.1 hC.2.1 d_AckBook_Arrivals_firstNotAbove_2 rfl (lv_at hl 2 rfl) ?_
    refine x_aload_n hC d_AckBook_Arrivals_firstNotAbove_3 rfl (lv_at hl 0 rfl) ?_
    refine x_getI hC hZ zc5 h (by decide) t_128 (fun _ h9 => h9) d_AckBook_Arrivals_firstNotAbove_4 (fun v1 h => ?_)
    refine lv_icmp_ge (tgt := 38) hC.1 hC.2.1 d_AckBook_Arrivals_firstNotAbove_7 (by decide) (fun hc => ?_) (fun hc => ?_)
    · have h := z_ifp hc h
      refine x_aload_n hC d_AckBook_Arrivals_firstNotAbove_38 rfl (lv_at hl 0 rfl) ?_
      refine x_getI hC hZ zc5 h (by decide) t_128 (fun _ h9 => h9) d_AckBook_Arrivals_firstNotAbove_39 (fun v2 h => ?_)
      exact x_iret hC hRc hRs hZ hr rfl h d_AckBook_Arrivals_firstNotAbove_42
    · have h := z_ifn hc h
      refine lv_iload_n hC.1 hC.2.1 d_AckBook_Arrivals_firstNotAbove_10 rfl (lv_at hl 2 rfl) ?_
      refine x_aload_n hC d_AckBook_Arrivals_firstNotAbove_11 rfl (lv_at hl 0 rfl) ?_
      refine x_getR hC hZ zc5 h (by decide) t_124 (fun _ h9 => h9) d_AckBook_Arrivals_firstNotAbove_12 (fun r3 h => ?_)
      refine x_len hC hZ h d_AckBook_Arrivals_firstNotAbove_15 (fun v4 h => ?_)
      refine lv_icmp_ge (tgt := 38) hC.1 hC.2.1 d_AckBook_Arrivals_firstNotAbove_16 (by decide) (fun hc => ?_) (fun hc => ?_)
      · have h := z_ifp hc h
        refine x_aload_n hC d_AckBook_Arrivals_firstNotAbove_38 rfl (lv_at hl 0 rfl) ?_
        refine x_getI hC hZ zc5 h (by decide) t_128 (fun _ h9 => h9) d_AckBook_Arrivals_firstNotAbove_39 (fun v5 h => ?_)
        exact x_iret hC hRc hRs hZ hr rfl h d_AckBook_Arrivals_firstNotAbove_42
      · have h := z_ifn hc h
        refine x_aload_n hC d_AckBook_Arrivals_firstNotAbove_19 rfl (lv_at hl 0 rfl) ?_
        refine x_getR hC hZ zc5 h (by decide) t_124 (fun _ h9 => h9) d_AckBook_Arrivals_firstNotAbove_20 (fun r6 h => ?_)
        refine lv_iload_n hC.1 hC.2.1 d_AckBook_Arrivals_firstNotAbove_23 rfl (lv_at hl 2 rfl) ?_
        refine x_ldL hC hZ h d_AckBook_Arrivals_firstNotAbove_24 (fun v7 h => ?_)
        refine lv_lload_n hC.1 hC.2.1 d_AckBook_Arrivals_firstNotAbove_25 rfl (lv_at hl 1 rfl) ?_
        refine W.lcmp hC.1 hC.2.1 d_AckBook_Arrivals_firstNotAbove_26 ?_
        refine lv_if_gt (tgt := 32) hC.1 hC.2.1 d_AckBook_Arrivals_firstNotAbove_27 (by decide) (fun hc => ?_) (fun hc => ?_)
        · have h := z_ifp hc h
          refine lv_iinc (lv' := [(3, .int (xL3 + (1 : Int32))), (0, va_rf rL0), (1, .long yL1)]) hC.1 hC.2.1 d_AckBook_Arrivals_firstNotAbove_32 hl (k := 2) rfl rfl (by decide) (by first | rfl | simp [z_rfc, z_ci, z_cj]) (fun ls hl => ?_)
          refine lv_goto (tgt := 2) hC.1 hC.2.1 d_AckBook_Arrivals_firstNotAbove_35 (by decide) ?_
          exact ih _ _ _ _ _ h _ _ _ _ _ hZ (lv_sub hl [1, 2, 0] rfl)
        · have h := z_ifn hc h
          refine lv_iload_n hC.1 hC.2.1 d_AckBook_Arrivals_firstNotAbove_30 rfl (lv_at hl 2 rfl) ?_
          exact x_iret hC hRc hRs hZ hr rfl h d_AckBook_Arrivals_firstNotAbove_31
set_option maxHeartbeats 4000000 in
set_option maxRecDepth 100000 in
theorem k_AckBook_Arrivals_firstNotAbove {b0 : Nat} {H0 : Heap} {D : va_G} {vu vs : Value} {X : Nat} {l : Launch} (hT : z_TB (zGG b0 H0 D vu vs X)) (hfl : l.flags = pinnedFlags ++ [noTraceFlag]) (hE : vu.isRef = true ∧ vs.isRef = true) {a0 : Option Nat} {pJ1 : Int64} (F : Nat) {w : zW} (res : zO × zW) (h : f_AckBook_Arrivals_firstNotAbove F X a0 pJ1 w = some res) : z_Ct (zGG b0 H0 D vu vs X) l y_AckBook_Arrivals_firstNotAbove (.code y_AckBook_Arrivals_firstNotAbove c_AckBook_Arrivals_firstNotAbove 4 (some FieldType.int)) 0 0 [va_rf a0, .long pJ1] w res := by
  refine z_ct hT hfl (by decide) (by simp only [z_sl_i, z_sl_j, z_sl_r, z_sl_n]; decide) ?_
  intro p e R s m args below meth c hC hr hRc hRs hRt hnm hFr H ls hZ hl
  simp only [z_la_i, z_la_j, z_la_r, z_la_n] at hl
  have hl : lv_has ls 4 [(0, va_rf a0), (1, .long pJ1)] := hl
  unfold f_AckBook_Arrivals_firstNotAbove at h
  refine lv_iconst (v := (0 : Int32)) hC.1 hC.2.1 d_AckBook_Arrivals_firstNotAbove_0 (by decide) ?_
  refine lv_istore_n (i := 3) (lv' := [(3, .int (0 : Int32)), (0, va_rf a0), (1, .long pJ1)]) hC.1 hC.2.1 d_AckBook_Arrivals_firstNotAbove_1 rfl hl (by decide) (by first | rfl | simp [z_rfc, z_ci, z_cj]) (fun ls hl => ?_)
  exact (kj_AckBook_Arrivals_firstNotAbove hT hfl hE hC hr hRc hRs hFr hRt hnm F) _ _ _ _ _ h _ _ _ _ _ hZ (lv_sub hl [1, 2, 0] rfl)
def j_AckBook_Arrivals_remove (F X : Nat) : Nat → Option Nat → Int32 → zW → zR
  | 0, _, _, _ => none
  | N + 1, rL0, xL2, w =>
    z_getI w 5 2 rL0 fun v1 =>
    if v1 ≤ xL2 then (
      some (.inl none, w))
    else (
      z_getR w 5 0 rL0 fun r2 =>
      z_getR w 5 0 rL0 fun r3 =>
      z_ldL w r3 (xL2 + (1 : Int32)) fun v4 =>
      z_stL w r2 xL2 v4 fun w =>
      z_getR w 5 1 rL0 fun r5 =>
      z_getR w 5 1 rL0 fun r6 =>
      z_ldL w r6 (xL2 + (1 : Int32)) fun v7 =>
      z_stL w r5 xL2 v7 fun w =>
      j_AckBook_Arrivals_remove F X N rL0 (xL2 + (1 : Int32)) w)
def f_AckBook_Arrivals_remove (F X : Nat) (a0 : Option Nat) (pI1 : Int32) (w : zW) : zR :=
  z_getI w 5 2 a0 fun v8 =>
  z_put w 5 2 a0 (.int (v8 - (1 : Int32))) fun w =>
  j_AckBook_Arrivals_remove F X F a0 pI1 w
set_option maxHeartbeats 4000000 in
set_option maxRecDepth 100000 in
theorem kj_AckBook_Arrivals_remove {b0 : Nat} {H0 : Heap} {D : va_G} {vu vs : Value} {X : Nat} {l : Launch} (hT : z_TB (zGG b0 H0 D vu vs X)) (hfl : l.flags = pinnedFlags ++ [noTraceFlag]) (hE : vu.isRef = true ∧ vs.isRef = true) {p : Program} {e : Env} {R : Room} {s : State} {m : MethodId} {args : Array Value} {below : List Frame} {meth : Method} {c : Code} {w0 : zW} {F : Nat} (hC : z_C (zGG b0 H0 D vu vs X) p e s m meth c c_AckBook_Arrivals_remove 3 y_AckBook_Arrivals_remove.cls) (hr : meth.sig.returnType = (none)) (hRc : R.cells = w0.2.1) (hRs : R.slots = w0.2.2.1) (hFr : c.exceptionTable.toList = []) (hRt : R.frames = 0 ∧ R.locals = 0) (hnm : meth.name = y_AckBook_Arrivals_remove.name) : ∀ N : Nat, (∀ (rL0 : Option Nat) (xL2 : Int32) (w : zW) (res : zO × zW), j_AckBook_Arrivals_remove F X N rL0 xL2 w = some res → ∀ (H : Heap) (locs : List Loc) (cells slots : Nat) (ls : Array Slot), z_Z (zGG b0 H0 D vu vs X) R s w H locs cells slots → lv_has ls 3 [(0, va_rf rL0), (2, .int xL2)] → W p l e R s m args below meth c H locs cells slots (z_Q (zGG b0 H0 D vu vs X) below s w0 res) (F0 m 12 ls [])) := by
  intro N
  induction N with
  | zero =>
    intro rL0 xL2 w res h
    rw [j_AckBook_Arrivals_remove] at h
    cases h
  | succ N ih =>
    intro rL0 xL2 w res h H locs cells slots ls hZ hl
    rw [j_AckBook_Arrivals_remove] at h
    refine lv_iload_n hC.1 hC.2.1 d_AckBook_Arrivals_remove_12 rfl (lv_at hl 1 rfl) ?_
    refine x_aload_n hC d_AckBook_Arrivals_remove_13 rfl (lv_at hl 0 rfl) ?_
    refine x_getI hC hZ zc5 h (by decide) t_128 (fun _ h9 => h9) d_AckBook_Arrivals_remove_14 (fun v1 h => ?_)
    refine lv_icmp_ge (tgt := 54) hC.1 hC.2.1 d_AckBook_Arrivals_remove_17 (by decide) (fun hc => ?_) (fun hc => ?_)
    · have h := z_ifp hc h
      exact x_vret hC hRc hRs hZ hr h d_AckBook_Arrivals_remove_54
    · have h := z_ifn hc h
      refine x_aload_n hC d_AckBook_Arrivals_remove_20 rfl (lv_at hl 0 rfl) ?_
      refine x_getR hC hZ zc5 h (by decide) t_124 (fun _ h9 => h9) d_AckBook_Arrivals_remove_21 (fun r2 h => ?_)
      refine lv_iload_n hC.1 hC.2.1 d_AckBook_Arrivals_remove_24 rfl (lv_at hl 1 rfl) ?_
      refine x_aload_n hC d_AckBook_Arrivals_remove_25 rfl (lv_at hl 0 rfl) ?_
      refine x_getR hC hZ zc5 h (by decide) t_124 (fun _ h9 => h9) d_AckBook_Arrivals_remove_26 (fun r3 h => ?_)
      refine lv_iload_n hC.1 hC.2.1 d_AckBook_Arrivals_remove_29 rfl (lv_at hl 1 rfl) ?_
      refine lv_iconst (v := (1 : Int32)) hC.1 hC.2.1 d_AckBook_Arrivals_remove_30 (by decide) ?_
      refine lv_iadd hC.1 hC.2.1 d_AckBook_Arrivals_remove_31 ?_
      refine x_ldL hC hZ h d_AckBook_Arrivals_remove_32 (fun v4 h => ?_)
      refine x_stL hC hZ h d_AckBook_Arrivals_remove_33 (fun w H locs hZ h => ?_)
      refine x_aload_n hC d_AckBook_Arrivals_remove_34 rfl (lv_at hl 0 rfl) ?_
      refine x_getR hC hZ zc5 h (by decide) t_126 (fun _ h9 => h9) d_AckBook_Arrivals_remove_35 (fun r5 h => ?_)
      refine lv_iload_n hC.1 hC.2.1 d_AckBook_Arrivals_remove_38 rfl (lv_at hl 1 rfl) ?_
      refine x_aload_n hC d_AckBook_Arrivals_remove_39 rfl (lv_at hl 0 rfl) ?_
      refine x_getR hC hZ zc5 h (by decide) t_126 (fun _ h9 => h9) d_AckBook_Arrivals_remove_40 (fun r6 h => ?_)
      refine lv_iload_n hC.1 hC.2.1 d_AckBook_Arrivals_remove_43 rfl (lv_at hl 1 rfl) ?_
      refine lv_iconst (v := (1 : Int32)) hC.1 hC.2.1 d_AckBook_Arrivals_remove_44 (by decide) ?_
      refine lv_iadd hC.1 hC.2.1 d_AckBook_Arrivals_remove_45 ?_
      refine x_ldL hC hZ h d_AckBook_Arrivals_remove_46 (fun v7 h => ?_)
      refine x_stL hC hZ h d_AckBook_Arrivals_remove_47 (fun w H locs hZ h => ?_)
      refine lv_iinc (lv' := [(2, .int (xL2 + (1 : Int32))), (0, va_rf rL0)]) hC.1 hC.2.1 d_AckBook_Arrivals_remove_48 hl (k := 1) rfl rfl (by decide) (by first | rfl | simp [z_rfc, z_ci, z_cj]) (fun ls hl => ?_)
      refine lv_goto (tgt := 12) hC.1 hC.2.1 d_AckBook_Arrivals_remove_51 (by decide) ?_
      exact ih _ _ _ _ h _ _ _ _ _ hZ (lv_sub hl [1, 0] rfl)
set_option maxHeartbeats 4000000 in
set_option maxRecDepth 100000 in
theorem k_AckBook_Arrivals_remove {b0 : Nat} {H0 : Heap} {D : va_G} {vu vs : Value} {X : Nat} {l : Launch} (hT : z_TB (zGG b0 H0 D vu vs X)) (hfl : l.flags = pinnedFlags ++ [noTraceFlag]) (hE : vu.isRef = true ∧ vs.isRef = true) {a0 : Option Nat} {pI1 : Int32} (F : Nat) {w : zW} (res : zO × zW) (h : f_AckBook_Arrivals_remove F X a0 pI1 w = some res) : z_Ct (zGG b0 H0 D vu vs X) l y_AckBook_Arrivals_remove (.code y_AckBook_Arrivals_remove c_AckBook_Arrivals_remove 3 (none)) 0 0 [va_rf a0, .int pI1] w res := by
  refine z_ct hT hfl (by decide) (by simp only [z_sl_i, z_sl_j, z_sl_r, z_sl_n]; decide) ?_
  intro p e R s m args below meth c hC hr hRc hRs hRt hnm hFr H ls hZ hl
  simp only [z_la_i, z_la_j, z_la_r, z_la_n] at hl
  have hl : lv_has ls 3 [(0, va_rf a0), (1, .int pI1)] := hl
  unfold f_AckBook_Arrivals_remove at h
  refine x_aload_n hC d_AckBook_Arrivals_remove_0 rfl (lv_at hl 0 rfl) ?_
  refine lv_dup hC.1 hC.2.1 d_AckBook_Arrivals_remove_1 (z_rfc _) ?_
  refine x_getI hC hZ zc5 h (by decide) t_128 (fun _ h9 => h9) d_AckBook_Arrivals_remove_2 (fun v8 h => ?_)
  refine lv_iconst (v := (1 : Int32)) hC.1 hC.2.1 d_AckBook_Arrivals_remove_5 (by decide) ?_
  refine lv_isub hC.1 hC.2.1 d_AckBook_Arrivals_remove_6 ?_
  refine x_put hC hZ zc5 h (by decide) t_128 (fun _ h9 => h9) rfl rfl rfl rfl d_AckBook_Arrivals_remove_7 (fun w H locs hZ h => ?_)
  refine lv_iload_n hC.1 hC.2.1 d_AckBook_Arrivals_remove_10 rfl (lv_at hl 1 rfl) ?_
  refine lv_istore_n (i := 2) (lv' := [(2, .int pI1), (0, va_rf a0), (1, .int pI1)]) hC.1 hC.2.1 d_AckBook_Arrivals_remove_11 rfl hl (by decide) (by first | rfl | simp [z_rfc, z_ci, z_cj]) (fun ls hl => ?_)
  exact (kj_AckBook_Arrivals_remove hT hfl hE hC hr hRc hRs hFr hRt hnm F) _ _ _ _ h _ _ _ _ _ hZ (lv_sub hl [1, 0] rfl)
def j_AckBook_Arrivals_insert (F X : Nat) : Nat → Option Nat → Int64 → Int32 → Int32 → zW → zR
  | 0, _, _, _, _, _ => none
  | N + 1, rL0, yL1, xL3, xL4, w =>
    if xL4 ≤ xL3 then (
      z_getR w 5 0 rL0 fun r1 =>
      z_stL w r1 xL3 yL1 fun w =>
      z_getR w 5 1 rL0 fun r2 =>
      z_stL w r2 xL3 yL1 fun w =>
      z_getI w 5 2 rL0 fun v3 =>
      z_put w 5 2 rL0 (.int (v3 + (1 : Int32))) fun w =>
      z_getI w 5 2 rL0 fun v4 =>
      if v4 ≤ (64 : Int32) then (
        some (.inl none, w))
      else (
        z_getI w 5 2 rL0 fun v5 =>
        z_put w 5 2 rL0 (.int (v5 - (1 : Int32))) fun w =>
        z_getR w 5 1 rL0 fun r6 =>
        z_getI w 5 2 rL0 fun v7 =>
        z_ldL w r6 v7 fun v8 =>
        z_put w 5 3 rL0 (.long (v8 + (1 : Int64))) fun w =>
        some (.inl none, w)))
    else (
      z_getR w 5 0 rL0 fun r9 =>
      z_getR w 5 0 rL0 fun r10 =>
      z_ldL w r10 (xL4 - (1 : Int32)) fun v11 =>
      z_stL w r9 xL4 v11 fun w =>
      z_getR w 5 1 rL0 fun r12 =>
      z_getR w 5 1 rL0 fun r13 =>
      z_ldL w r13 (xL4 - (1 : Int32)) fun v14 =>
      z_stL w r12 xL4 v14 fun w =>
      j_AckBook_Arrivals_insert F X N rL0 yL1 xL3 (xL4 + (-1 : Int32)) w)
def f_AckBook_Arrivals_insert (F X : Nat) (a0 : Option Nat) (pJ1 : Int64) (pI2 : Int32) (w : zW) : zR :=
  z_getI w 5 2 a0 fun v15 =>
  j_AckBook_Arrivals_insert F X F a0 pJ1 pI2 v15 w
set_option maxHeartbeats 4000000 in
set_option maxRecDepth 100000 in
theorem kj_AckBook_Arrivals_insert {b0 : Nat} {H0 : Heap} {D : va_G} {vu vs : Value} {X : Nat} {l : Launch} (hT : z_TB (zGG b0 H0 D vu vs X)) (hfl : l.flags = pinnedFlags ++ [noTraceFlag]) (hE : vu.isRef = true ∧ vs.isRef = true) {p : Program} {e : Env} {R : Room} {s : State} {m : MethodId} {args : Array Value} {below : List Frame} {meth : Method} {c : Code} {w0 : zW} {F : Nat} (hC : z_C (zGG b0 H0 D vu vs X) p e s m meth c c_AckBook_Arrivals_insert 5 y_AckBook_Arrivals_insert.cls) (hr : meth.sig.returnType = (none)) (hRc : R.cells = w0.2.1) (hRs : R.slots = w0.2.2.1) (hFr : c.exceptionTable.toList = []) (hRt : R.frames = 0 ∧ R.locals = 0) (hnm : meth.name = y_AckBook_Arrivals_insert.name) : ∀ N : Nat, (∀ (rL0 : Option Nat) (yL1 : Int64) (xL3 : Int32) (xL4 : Int32) (w : zW) (res : zO × zW), j_AckBook_Arrivals_insert F X N rL0 yL1 xL3 xL4 w = some res → ∀ (H : Heap) (locs : List Loc) (cells slots : Nat) (ls : Array Slot), z_Z (zGG b0 H0 D vu vs X) R s w H locs cells slots → lv_has ls 5 [(0, va_rf rL0), (1, .long yL1), (3, .int xL3), (4, .int xL4)] → W p l e R s m args below meth c H locs cells slots (z_Q (zGG b0 H0 D vu vs X) below s w0 res) (F0 m 6 ls [])) := by
  intro N
  induction N with
  | zero =>
    intro rL0 yL1 xL3 xL4 w res h
    rw [j_AckBook_Arrivals_insert] at h
    cases h
  | succ N ih =>
    intro rL0 yL1 xL3 xL4 w res h H locs cells slots ls hZ hl
    rw [j_AckBook_Arrivals_insert] at h
    refine lv_iload hC.1 hC.2.1 d_AckBook_Arrivals_insert_6 (lv_at hl 3 rfl) ?_
    refine lv_iload_n hC.1 hC.2.1 d_AckBook_Arrivals_insert_8 rfl (lv_at hl 2 rfl) ?_
    refine lv_icmp_le (tgt := 50) hC.1 hC.2.1 d_AckBook_Arrivals_insert_9 (by decide) (fun hc => ?_) (fun hc => ?_)
    · have h := z_ifp hc h
      refine x_aload_n hC d_AckBook_Arrivals_insert_50 rfl (lv_at hl 0 rfl) ?_
      refine x_getR hC hZ zc5 h (by decide) t_124 (fun _ h9 => h9) d_AckBook_Arrivals_insert_51 (fun r1 h => ?_)
      refine lv_iload_n hC.1 hC.2.1 d_AckBook_Arrivals_insert_54 rfl (lv_at hl 2 rfl) ?_
      refine lv_lload_n hC.1 hC.2.1 d_AckBook_Arrivals_insert_55 rfl (lv_at hl 1 rfl) ?_
      refine x_stL hC hZ h d_AckBook_Arrivals_insert_56 (fun w H locs hZ h => ?_)
      refine x_aload_n hC d_AckBook_Arrivals_insert_57 rfl (lv_at hl 0 rfl) ?_
      refine x_getR hC hZ zc5 h (by decide) t_126 (fun _ h9 => h9) d_AckBook_Arrivals_insert_58 (fun r2 h => ?_)
      refine lv_iload_n hC.1 hC.2.1 d_AckBook_Arrivals_insert_61 rfl (lv_at hl 2 rfl) ?_
      refine lv_lload_n hC.1 hC.2.1 d_AckBook_Arrivals_insert_62 rfl (lv_at hl 1 rfl) ?_
      refine x_stL hC hZ h d_AckBook_Arrivals_insert_63 (fun w H locs hZ h => ?_)
      refine x_aload_n hC d_AckBook_Arrivals_insert_64 rfl (lv_at hl 0 rfl) ?_
      refine lv_dup hC.1 hC.2.1 d_AckBook_Arrivals_insert_65 (z_rfc _) ?_
      refine x_getI hC hZ zc5 h (by decide) t_128 (fun _ h9 => h9) d_AckBook_Arrivals_insert_66 (fun v3 h => ?_)
      refine lv_iconst (v := (1 : Int32)) hC.1 hC.2.1 d_AckBook_Arrivals_insert_69 (by decide) ?_
      refine lv_iadd hC.1 hC.2.1 d_AckBook_Arrivals_insert_70 ?_
      refine x_put hC hZ zc5 h (by decide) t_128 (fun _ h9 => h9) rfl rfl rfl rfl d_AckBook_Arrivals_insert_71 (fun w H locs hZ h => ?_)
      refine x_aload_n hC d_AckBook_Arrivals_insert_74 rfl (lv_at hl 0 rfl) ?_
      refine x_getI hC hZ zc5 h (by decide) t_128 (fun _ h9 => h9) d_AckBook_Arrivals_insert_75 (fun v4 h => ?_)
      refine lv_bipush (v := (64 : Int32)) hC.1 hC.2.1 d_AckBook_Arrivals_insert_78 (by decide) ?_
      refine lv_icmp_le (tgt := 108) hC.1 hC.2.1 d_AckBook_Arrivals_insert_80 (by decide) (fun hc => ?_) (fun hc => ?_)
      · have h := z_ifp hc h
        exact x_vret hC hRc hRs hZ hr h d_AckBook_Arrivals_insert_108
      · have h := z_ifn hc h
        refine x_aload_n hC d_AckBook_Arrivals_insert_83 rfl (lv_at hl 0 rfl) ?_
        refine lv_dup hC.1 hC.2.1 d_AckBook_Arrivals_insert_84 (z_rfc _) ?_
        refine x_getI hC hZ zc5 h (by decide) t_128 (fun _ h9 => h9) d_AckBook_Arrivals_insert_85 (fun v5 h => ?_)
        refine lv_iconst (v := (1 : Int32)) hC.1 hC.2.1 d_AckBook_Arrivals_insert_88 (by decide) ?_
        refine lv_isub hC.1 hC.2.1 d_AckBook_Arrivals_insert_89 ?_
        refine x_put hC hZ zc5 h (by decide) t_128 (fun _ h9 => h9) rfl rfl rfl rfl d_AckBook_Arrivals_insert_90 (fun w H locs hZ h => ?_)
        refine x_aload_n hC d_AckBook_Arrivals_insert_93 rfl (lv_at hl 0 rfl) ?_
        refine x_aload_n hC d_AckBook_Arrivals_insert_94 rfl (lv_at hl 0 rfl) ?_
        refine x_getR hC hZ zc5 h (by decide) t_126 (fun _ h9 => h9) d_AckBook_Arrivals_insert_95 (fun r6 h => ?_)
        refine x_aload_n hC d_AckBook_Arrivals_insert_98 rfl (lv_at hl 0 rfl) ?_
        refine x_getI hC hZ zc5 h (by decide) t_128 (fun _ h9 => h9) d_AckBook_Arrivals_insert_99 (fun v7 h => ?_)
        refine x_ldL hC hZ h d_AckBook_Arrivals_insert_102 (fun v8 h => ?_)
        refine lv_lconst (v := (1 : Int64)) hC.1 hC.2.1 d_AckBook_Arrivals_insert_103 (by decide) ?_
        refine lv_ladd hC.1 hC.2.1 d_AckBook_Arrivals_insert_104 ?_
        refine x_put hC hZ zc5 h (by decide) t_130 (fun _ h9 => h9) rfl rfl rfl rfl d_AckBook_Arrivals_insert_105 (fun w H locs hZ h => ?_)
        exact x_vret hC hRc hRs hZ hr h d_AckBook_Arrivals_insert_108
    · have h := z_ifn hc h
      refine x_aload_n hC d_AckBook_Arrivals_insert_12 rfl (lv_at hl 0 rfl) ?_
      refine x_getR hC hZ zc5 h (by decide) t_124 (fun _ h9 => h9) d_AckBook_Arrivals_insert_13 (fun r9 h => ?_)
      refine lv_iload hC.1 hC.2.1 d_AckBook_Arrivals_insert_16 (lv_at hl 3 rfl) ?_
      refine x_aload_n hC d_AckBook_Arrivals_insert_18 rfl (lv_at hl 0 rfl) ?_
      refine x_getR hC hZ zc5 h (by decide) t_124 (fun _ h9 => h9) d_AckBook_Arrivals_insert_19 (fun r10 h => ?_)
      refine lv_iload hC.1 hC.2.1 d_AckBook_Arrivals_insert_22 (lv_at hl 3 rfl) ?_
      refine lv_iconst (v := (1 : Int32)) hC.1 hC.2.1 d_AckBook_Arrivals_insert_24 (by decide) ?_
      refine lv_isub hC.1 hC.2.1 d_AckBook_Arrivals_insert_25 ?_
      refine x_ldL hC hZ h d_AckBook_Arrivals_insert_26 (fun v11 h => ?_)
      refine x_stL hC hZ h d_AckBook_Arrivals_insert_27 (fun w H locs hZ h => ?_)
      refine x_aload_n hC d_AckBook_Arrivals_insert_28 rfl (lv_at hl 0 rfl) ?_
      refine x_getR hC hZ zc5 h (by decide) t_126 (fun _ h9 => h9) d_AckBook_Arrivals_insert_29 (fun r12 h => ?_)
      refine lv_iload hC.1 hC.2.1 d_AckBook_Arrivals_insert_32 (lv_at hl 3 rfl) ?_
      refine x_aload_n hC d_AckBook_Arrivals_insert_34 rfl (lv_at hl 0 rfl) ?_
      refine x_getR hC hZ zc5 h (by decide) t_126 (fun _ h9 => h9) d_AckBook_Arrivals_insert_35 (fun r13 h => ?_)
      refine lv_iload hC.1 hC.2.1 d_AckBook_Arrivals_insert_38 (lv_at hl 3 rfl) ?_
      refine lv_iconst (v := (1 : Int32)) hC.1 hC.2.1 d_AckBook_Arrivals_insert_40 (by decide) ?_
      refine lv_isub hC.1 hC.2.1 d_AckBook_Arrivals_insert_41 ?_
      refine x_ldL hC hZ h d_AckBook_Arrivals_insert_42 (fun v14 h => ?_)
      refine x_stL hC hZ h d_AckBook_Arrivals_insert_43 (fun w H locs hZ h => ?_)
      refine lv_iinc (lv' := [(4, .int (xL4 + (-1 : Int32))), (0, va_rf rL0), (1, .long yL1), (3, .int xL3)]) hC.1 hC.2.1 d_AckBook_Arrivals_insert_44 hl (k := 3) rfl rfl (by decide) (by first | rfl | simp [z_rfc, z_ci, z_cj]) (fun ls hl => ?_)
      refine lv_goto (tgt := 6) hC.1 hC.2.1 d_AckBook_Arrivals_insert_47 (by decide) ?_
      exact ih _ _ _ _ _ _ h _ _ _ _ _ hZ (lv_sub hl [1, 2, 3, 0] rfl)
set_option maxHeartbeats 4000000 in
set_option maxRecDepth 100000 in
theorem k_AckBook_Arrivals_insert {b0 : Nat} {H0 : Heap} {D : va_G} {vu vs : Value} {X : Nat} {l : Launch} (hT : z_TB (zGG b0 H0 D vu vs X)) (hfl : l.flags = pinnedFlags ++ [noTraceFlag]) (hE : vu.isRef = true ∧ vs.isRef = true) {a0 : Option Nat} {pJ1 : Int64} {pI2 : Int32} (F : Nat) {w : zW} (res : zO × zW) (h : f_AckBook_Arrivals_insert F X a0 pJ1 pI2 w = some res) : z_Ct (zGG b0 H0 D vu vs X) l y_AckBook_Arrivals_insert (.code y_AckBook_Arrivals_insert c_AckBook_Arrivals_insert 5 (none)) 0 0 [va_rf a0, .long pJ1, .int pI2] w res := by
  refine z_ct hT hfl (by decide) (by simp only [z_sl_i, z_sl_j, z_sl_r, z_sl_n]; decide) ?_
  intro p e R s m args below meth c hC hr hRc hRs hRt hnm hFr H ls hZ hl
  simp only [z_la_i, z_la_j, z_la_r, z_la_n] at hl
  have hl : lv_has ls 5 [(0, va_rf a0), (1, .long pJ1), (3, .int pI2)] := hl
  unfold f_AckBook_Arrivals_insert at h
  refine x_aload_n hC d_AckBook_Arrivals_insert_0 rfl (lv_at hl 0 rfl) ?_
  refine x_getI hC hZ zc5 h (by decide) t_128 (fun _ h9 => h9) d_AckBook_Arrivals_insert_1 (fun v15 h => ?_)
  refine lv_istore (i := 4) (lv' := [(4, .int v15), (0, va_rf a0), (1, .long pJ1), (3, .int pI2)]) hC.1 hC.2.1 d_AckBook_Arrivals_insert_4 hl (by decide) (by first | rfl | simp [z_rfc, z_ci, z_cj]) (fun ls hl => ?_)
  exact (kj_AckBook_Arrivals_insert hT hfl hE hC hr hRc hRs hFr hRt hnm F) _ _ _ _ _ _ h _ _ _ _ _ hZ (lv_sub hl [1, 2, 3, 0] rfl)
def f_AckBook_Arrivals_keep (F X : Nat) (a0 : Option Nat) (pJ1 : Int64) (pI2 : Int32) (w : zW) : zR :=
  if pI2 ≤ 0 then (
    z_getI w 5 2 a0 fun v1 =>
    if v1 ≤ pI2 then (
      z_this w 5 a0 <|
      z_cV (f_AckBook_Arrivals_insert F X a0 pJ1 pI2 w) fun w =>
      some (.inl none, w))
    else (
      z_getR w 5 1 a0 fun r3 =>
      z_ldL w r3 pI2 fun v4 =>
      if (lg_cmp v4 (pJ1 - (1 : Int64))) = 0 then (
        z_getR w 5 1 a0 fun r5 =>
        z_stL w r5 pI2 pJ1 fun w =>
        some (.inl none, w))
      else (
        z_this w 5 a0 <|
        z_cV (f_AckBook_Arrivals_insert F X a0 pJ1 pI2 w) fun w =>
        some (.inl none, w))))
  else (
    z_getR w 5 0 a0 fun r7 =>
    z_ldL w r7 (pI2 - (1 : Int32)) fun v8 =>
    if (lg_cmp v8 (pJ1 + (1 : Int64))) = 0 then (
      z_getI w 5 2 a0 fun v9 =>
      if v9 ≤ pI2 then (
        z_getR w 5 0 a0 fun r10 =>
        z_stL w r10 (pI2 - (1 : Int32)) pJ1 fun w =>
        some (.inl none, w))
      else (
        z_getR w 5 1 a0 fun r11 =>
        z_ldL w r11 pI2 fun v12 =>
        if (lg_cmp v12 (pJ1 - (1 : Int64))) = 0 then (
          z_getR w 5 0 a0 fun r13 =>
          z_getR w 5 0 a0 fun r14 =>
          z_ldL w r14 pI2 fun v15 =>
          z_stL w r13 (pI2 - (1 : Int32)) v15 fun w =>
          z_this w 5 a0 <|
          z_cV (f_AckBook_Arrivals_remove F X a0 pI2 w) fun w =>
          some (.inl none, w))
        else (
          z_getR w 5 0 a0 fun r17 =>
          z_stL w r17 (pI2 - (1 : Int32)) pJ1 fun w =>
          some (.inl none, w))))
    else (
      z_getI w 5 2 a0 fun v18 =>
      if v18 ≤ pI2 then (
        z_this w 5 a0 <|
        z_cV (f_AckBook_Arrivals_insert F X a0 pJ1 pI2 w) fun w =>
        some (.inl none, w))
      else (
        z_getR w 5 1 a0 fun r20 =>
        z_ldL w r20 pI2 fun v21 =>
        if (lg_cmp v21 (pJ1 - (1 : Int64))) = 0 then (
          z_getR w 5 1 a0 fun r22 =>
          z_stL w r22 pI2 pJ1 fun w =>
          some (.inl none, w))
        else (
          z_this w 5 a0 <|
          z_cV (f_AckBook_Arrivals_insert F X a0 pJ1 pI2 w) fun w =>
          some (.inl none, w)))))
set_option maxHeartbeats 4000000 in
set_option maxRecDepth 100000 in
theorem k_AckBook_Arrivals_keep {b0 : Nat} {H0 : Heap} {D : va_G} {vu vs : Value} {X : Nat} {l : Launch} (hT : z_TB (zGG b0 H0 D vu vs X)) (hfl : l.flags = pinnedFlags ++ [noTraceFlag]) (hE : vu.isRef = true ∧ vs.isRef = true) {a0 : Option Nat} {pJ1 : Int64} {pI2 : Int32} (F : Nat) {w : zW} (res : zO × zW) (h : f_AckBook_Arrivals_keep F X a0 pJ1 pI2 w = some res) : z_Ct (zGG b0 H0 D vu vs X) l y_AckBook_Arrivals_keep (.code y_AckBook_Arrivals_keep c_AckBook_Arrivals_keep 6 (none)) 1 24 [va_rf a0, .long pJ1, .int pI2] w res := by
  refine z_ct hT hfl (by decide) (by simp only [z_sl_i, z_sl_j, z_sl_r, z_sl_n]; decide) ?_
  intro p e R s m args below meth c hC hr hRc hRs hRt hnm hFr H ls hZ hl
  simp only [z_la_i, z_la_j, z_la_r, z_la_n] at hl
  have hl : lv_has ls 6 [(0, va_rf a0), (1, .long pJ1), (3, .int pI2)] := hl
  unfold f_AckBook_Arrivals_keep at h
  refine lv_iload_n hC.1 hC.2.1 d_AckBook_Arrivals_keep_0 rfl (lv_at hl 2 rfl) ?_
  refine lv_if_le (tgt := 23) hC.1 hC.2.1 d_AckBook_Arrivals_keep_1 (by decide) (fun hc => ?_) (fun hc => ?_)
  · have h := z_ifp hc h
    refine lv_iconst (v := (0 : Int32)) hC.1 hC.2.1 d_AckBook_Arrivals_keep_23 (by decide) ?_
    refine lv_istore (i := 4) (lv' := [(4, .int (0 : Int32)), (0, va_rf a0), (1, .long pJ1), (3, .int pI2)]) hC.1 hC.2.1 d_AckBook_Arrivals_keep_24 hl (by decide) (by first | rfl | simp [z_rfc, z_ci, z_cj]) (fun ls hl => ?_)
    refine lv_iload_n hC.1 hC.2.1 d_AckBook_Arrivals_keep_26 rfl (lv_at hl 3 rfl) ?_
    refine x_aload_n hC d_AckBook_Arrivals_keep_27 rfl (lv_at hl 1 rfl) ?_
    refine x_getI hC hZ zc5 h (by decide) t_128 (fun _ h9 => h9) d_AckBook_Arrivals_keep_28 (fun v1 h => ?_)
    refine lv_icmp_ge (tgt := 51) hC.1 hC.2.1 d_AckBook_Arrivals_keep_31 (by decide) (fun hc => ?_) (fun hc => ?_)
    · have h := z_ifp hc h
      refine lv_iconst (v := (0 : Int32)) hC.1 hC.2.1 d_AckBook_Arrivals_keep_51 (by decide) ?_
      refine lv_istore (i := 5) (lv' := [(5, .int (0 : Int32)), (4, .int (0 : Int32)), (0, va_rf a0), (1, .long pJ1), (3, .int pI2)]) hC.1 hC.2.1 d_AckBook_Arrivals_keep_52 hl (by decide) (by first | rfl | simp [z_rfc, z_ci, z_cj]) (fun ls hl => ?_)
      refine lv_iload hC.1 hC.2.1 d_AckBook_Arrivals_keep_54 (lv_at hl 1 rfl) ?_
      refine lv_if_eq (tgt := 86) hC.1 hC.2.1 d_AckBook_Arrivals_keep_56 (by decide) (fun _ => ?_) (fun hc => absurd hc (by decide))
      refine lv_iload hC.1 hC.2.1 d_AckBook_Arrivals_keep_86 (lv_at hl 1 rfl) ?_
      refine lv_if_eq (tgt := 103) hC.1 hC.2.1 d_AckBook_Arrivals_keep_88 (by decide) (fun _ => ?_) (fun hc => absurd hc (by decide))
      refine lv_iload hC.1 hC.2.1 d_AckBook_Arrivals_keep_103 (lv_at hl 0 rfl) ?_
      refine lv_if_eq (tgt := 118) hC.1 hC.2.1 d_AckBook_Arrivals_keep_105 (by decide) (fun _ => ?_) (fun hc => absurd hc (by decide))
      refine x_aload_n hC d_AckBook_Arrivals_keep_118 rfl (lv_at hl 2 rfl) ?_
      refine lv_lload_n hC.1 hC.2.1 d_AckBook_Arrivals_keep_119 rfl (lv_at hl 3 rfl) ?_
      refine lv_iload_n hC.1 hC.2.1 d_AckBook_Arrivals_keep_120 rfl (lv_at hl 4 rfl) ?_
      obtain ⟨a_, fs_, eo_, h⟩ := z_this_spec h
      obtain ⟨w1_, o1_, hF_, ha_⟩ := z_cV_spec h
      refine x_goes hC hRc hRs hFr ha_ (z_goV (As := [.long pJ1, .int pI2]) hC hZ zc5 eo_ (k_AckBook_Arrivals_insert hT hfl hE _ _ hF_) t_742 t_744 ts_AckBook_Arrivals_insert t_8 t_745 ⟨by decide, by decide, (by decide +kernel : (parseMethodDescriptor y_AckBook_Arrivals_insert.desc).map (fun d => d.parameters.length) = some 2)⟩ (by rw [hRt.1]; decide) (by rw [hRt.2]; decide) hl.1 rfl (by first | exact Nat.le_of_ble_eq_true rfl | simp [z_rfc, z_ci, z_cj]) d_AckBook_Arrivals_keep_121) (fun v_ hv H locs cells slots hZ => ?_)
      obtain ⟨rfl, h⟩ := hv
      generalize w1_ = w at h hZ
      exact x_vret hC hRc hRs hZ hr h d_AckBook_Arrivals_keep_124
    · have h := z_ifn hc h
      refine x_aload_n hC d_AckBook_Arrivals_keep_34 rfl (lv_at hl 1 rfl) ?_
      refine x_getR hC hZ zc5 h (by decide) t_126 (fun _ h9 => h9) d_AckBook_Arrivals_keep_35 (fun r3 h => ?_)
      refine lv_iload_n hC.1 hC.2.1 d_AckBook_Arrivals_keep_38 rfl (lv_at hl 3 rfl) ?_
      refine x_ldL hC hZ h d_AckBook_Arrivals_keep_39 (fun v4 h => ?_)
      refine lv_lload_n hC.1 hC.2.1 d_AckBook_Arrivals_keep_40 rfl (lv_at hl 2 rfl) ?_
      refine lv_lconst (v := (1 : Int64)) hC.1 hC.2.1 d_AckBook_Arrivals_keep_41 (by decide) ?_
      refine lv_lsub hC.1 hC.2.1 d_AckBook_Arrivals_keep_42 ?_
      refine W.lcmp hC.1 hC.2.1 d_AckBook_Arrivals_keep_43 ?_
      refine lv_if_ne (tgt := 51) hC.1 hC.2.1 d_AckBook_Arrivals_keep_44 (by decide) (fun hc => ?_) (fun hc => ?_)
      · have h := z_ifn hc h
        refine lv_iconst (v := (0 : Int32)) hC.1 hC.2.1 d_AckBook_Arrivals_keep_51 (by decide) ?_
        refine lv_istore (i := 5) (lv' := [(5, .int (0 : Int32)), (4, .int (0 : Int32)), (0, va_rf a0), (1, .long pJ1), (3, .int pI2)]) hC.1 hC.2.1 d_AckBook_Arrivals_keep_52 hl (by decide) (by first | rfl | simp [z_rfc, z_ci, z_cj]) (fun ls hl => ?_)
        refine lv_iload hC.1 hC.2.1 d_AckBook_Arrivals_keep_54 (lv_at hl 1 rfl) ?_
        refine lv_if_eq (tgt := 86) hC.1 hC.2.1 d_AckBook_Arrivals_keep_56 (by decide) (fun _ => ?_) (fun hc => absurd hc (by decide))
        refine lv_iload hC.1 hC.2.1 d_AckBook_Arrivals_keep_86 (lv_at hl 1 rfl) ?_
        refine lv_if_eq (tgt := 103) hC.1 hC.2.1 d_AckBook_Arrivals_keep_88 (by decide) (fun _ => ?_) (fun hc => absurd hc (by decide))
        refine lv_iload hC.1 hC.2.1 d_AckBook_Arrivals_keep_103 (lv_at hl 0 rfl) ?_
        refine lv_if_eq (tgt := 118) hC.1 hC.2.1 d_AckBook_Arrivals_keep_105 (by decide) (fun _ => ?_) (fun hc => absurd hc (by decide))
        refine x_aload_n hC d_AckBook_Arrivals_keep_118 rfl (lv_at hl 2 rfl) ?_
        refine lv_lload_n hC.1 hC.2.1 d_AckBook_Arrivals_keep_119 rfl (lv_at hl 3 rfl) ?_
        refine lv_iload_n hC.1 hC.2.1 d_AckBook_Arrivals_keep_120 rfl (lv_at hl 4 rfl) ?_
        obtain ⟨a_, fs_, eo_, h⟩ := z_this_spec h
        obtain ⟨w1_, o1_, hF_, ha_⟩ := z_cV_spec h
        refine x_goes hC hRc hRs hFr ha_ (z_goV (As := [.long pJ1, .int pI2]) hC hZ zc5 eo_ (k_AckBook_Arrivals_insert hT hfl hE _ _ hF_) t_742 t_744 ts_AckBook_Arrivals_insert t_8 t_745 ⟨by decide, by decide, (by decide +kernel : (parseMethodDescriptor y_AckBook_Arrivals_insert.desc).map (fun d => d.parameters.length) = some 2)⟩ (by rw [hRt.1]; decide) (by rw [hRt.2]; decide) hl.1 rfl (by first | exact Nat.le_of_ble_eq_true rfl | simp [z_rfc, z_ci, z_cj]) d_AckBook_Arrivals_keep_121) (fun v_ hv H locs cells slots hZ => ?_)
        obtain ⟨rfl, h⟩ := hv
        generalize w1_ = w at h hZ
        exact x_vret hC hRc hRs hZ hr h d_AckBook_Arrivals_keep_124
      · have h := z_ifp hc h
        refine lv_iconst (v := (1 : Int32)) hC.1 hC.2.1 d_AckBook_Arrivals_keep_47 (by decide) ?_
        refine lv_goto (tgt := 52) hC.1 hC.2.1 d_AckBook_Arrivals_keep_48 (by decide) ?_
        refine lv_istore (i := 5) (lv' := [(5, .int (1 : Int32)), (4, .int (0 : Int32)), (0, va_rf a0), (1, .long pJ1), (3, .int pI2)]) hC.1 hC.2.1 d_AckBook_Arrivals_keep_52 hl (by decide) (by first | rfl | simp [z_rfc, z_ci, z_cj]) (fun ls hl => ?_)
        refine lv_iload hC.1 hC.2.1 d_AckBook_Arrivals_keep_54 (lv_at hl 1 rfl) ?_
        refine lv_if_eq (tgt := 86) hC.1 hC.2.1 d_AckBook_Arrivals_keep_56 (by decide) (fun _ => ?_) (fun hc => absurd hc (by decide))
        refine lv_iload hC.1 hC.2.1 d_AckBook_Arrivals_keep_86 (lv_at hl 1 rfl) ?_
        refine lv_if_eq (tgt := 103) hC.1 hC.2.1 d_AckBook_Arrivals_keep_88 (by decide) (fun _ => ?_) (fun hc => absurd hc (by decide))
        refine lv_iload hC.1 hC.2.1 d_AckBook_Arrivals_keep_103 (lv_at hl 0 rfl) ?_
        refine lv_if_eq (tgt := 118) hC.1 hC.2.1 d_AckBook_Arrivals_keep_105 (by decide) (fun hc => absurd hc (by decide)) (fun _ => ?_)
        refine x_aload_n hC d_AckBook_Arrivals_keep_108 rfl (lv_at hl 2 rfl) ?_
        refine x_getR hC hZ zc5 h (by decide) t_126 (fun _ h9 => h9) d_AckBook_Arrivals_keep_109 (fun r5 h => ?_)
        refine lv_iload_n hC.1 hC.2.1 d_AckBook_Arrivals_keep_112 rfl (lv_at hl 4 rfl) ?_
        refine lv_lload_n hC.1 hC.2.1 d_AckBook_Arrivals_keep_113 rfl (lv_at hl 3 rfl) ?_
        refine x_stL hC hZ h d_AckBook_Arrivals_keep_114 (fun w H locs hZ h => ?_)
        refine lv_goto (tgt := 124) hC.1 hC.2.1 d_AckBook_Arrivals_keep_115 (by decide) ?_
        exact x_vret hC hRc hRs hZ hr h d_AckBook_Arrivals_keep_124
  · have h := z_ifn hc h
    refine x_aload_n hC d_AckBook_Arrivals_keep_4 rfl (lv_at hl 0 rfl) ?_
    refine x_getR hC hZ zc5 h (by decide) t_124 (fun _ h9 => h9) d_AckBook_Arrivals_keep_5 (fun r7 h => ?_)
    refine lv_iload_n hC.1 hC.2.1 d_AckBook_Arrivals_keep_8 rfl (lv_at hl 2 rfl) ?_
    refine lv_iconst (v := (1 : Int32)) hC.1 hC.2.1 d_AckBook_Arrivals_keep_9 (by decide) ?_
    refine lv_isub hC.1 hC.2.1 d_AckBook_Arrivals_keep_10 ?_
    refine x_ldL hC hZ h d_AckBook_Arrivals_keep_11 (fun v8 h => ?_)
    refine lv_lload_n hC.1 hC.2.1 d_AckBook_Arrivals_keep_12 rfl (lv_at hl 1 rfl) ?_
    refine lv_lconst (v := (1 : Int64)) hC.1 hC.2.1 d_AckBook_Arrivals_keep_13 (by decide) ?_
    refine lv_ladd hC.1 hC.2.1 d_AckBook_Arrivals_keep_14 ?_
    refine W.lcmp hC.1 hC.2.1 d_AckBook_Arrivals_keep_15 ?_
    refine lv_if_ne (tgt := 23) hC.1 hC.2.1 d_AckBook_Arrivals_keep_16 (by decide) (fun hc => ?_) (fun hc => ?_)
    · have h := z_ifn hc h
      refine lv_iconst (v := (0 : Int32)) hC.1 hC.2.1 d_AckBook_Arrivals_keep_23 (by decide) ?_
      refine lv_istore (i := 4) (lv' := [(4, .int (0 : Int32)), (0, va_rf a0), (1, .long pJ1), (3, .int pI2)]) hC.1 hC.2.1 d_AckBook_Arrivals_keep_24 hl (by decide) (by first | rfl | simp [z_rfc, z_ci, z_cj]) (fun ls hl => ?_)
      refine lv_iload_n hC.1 hC.2.1 d_AckBook_Arrivals_keep_26 rfl (lv_at hl 3 rfl) ?_
      refine x_aload_n hC d_AckBook_Arrivals_keep_27 rfl (lv_at hl 1 rfl) ?_
      refine x_getI hC hZ zc5 h (by decide) t_128 (fun _ h9 => h9) d_AckBook_Arrivals_keep_28 (fun v18 h => ?_)
      refine lv_icmp_ge (tgt := 51) hC.1 hC.2.1 d_AckBook_Arrivals_keep_31 (by decide) (fun hc => ?_) (fun hc => ?_)
      · have h := z_ifp hc h
        refine lv_iconst (v := (0 : Int32)) hC.1 hC.2.1 d_AckBook_Arrivals_keep_51 (by decide) ?_
        refine lv_istore (i := 5) (lv' := [(5, .int (0 : Int32)), (4, .int (0 : Int32)), (0, va_rf a0), (1, .long pJ1), (3, .int pI2)]) hC.1 hC.2.1 d_AckBook_Arrivals_keep_52 hl (by decide) (by first | rfl | simp [z_rfc, z_ci, z_cj]) (fun ls hl => ?_)
        refine lv_iload hC.1 hC.2.1 d_AckBook_Arrivals_keep_54 (lv_at hl 1 rfl) ?_
        refine lv_if_eq (tgt := 86) hC.1 hC.2.1 d_AckBook_Arrivals_keep_56 (by decide) (fun _ => ?_) (fun hc => absurd hc (by decide))
        refine lv_iload hC.1 hC.2.1 d_AckBook_Arrivals_keep_86 (lv_at hl 1 rfl) ?_
        refine lv_if_eq (tgt := 103) hC.1 hC.2.1 d_AckBook_Arrivals_keep_88 (by decide) (fun _ => ?_) (fun hc => absurd hc (by decide))
        refine lv_iload hC.1 hC.2.1 d_AckBook_Arrivals_keep_103 (lv_at hl 0 rfl) ?_
        refine lv_if_eq (tgt := 118) hC.1 hC.2.1 d_AckBook_Arrivals_keep_105 (by decide) (fun _ => ?_) (fun hc => absurd hc (by decide))
        refine x_aload_n hC d_AckBook_Arrivals_keep_118 rfl (lv_at hl 2 rfl) ?_
        refine lv_lload_n hC.1 hC.2.1 d_AckBook_Arrivals_keep_119 rfl (lv_at hl 3 rfl) ?_
        refine lv_iload_n hC.1 hC.2.1 d_AckBook_Arrivals_keep_120 rfl (lv_at hl 4 rfl) ?_
        obtain ⟨a_, fs_, eo_, h⟩ := z_this_spec h
        obtain ⟨w1_, o1_, hF_, ha_⟩ := z_cV_spec h
        refine x_goes hC hRc hRs hFr ha_ (z_goV (As := [.long pJ1, .int pI2]) hC hZ zc5 eo_ (k_AckBook_Arrivals_insert hT hfl hE _ _ hF_) t_742 t_744 ts_AckBook_Arrivals_insert t_8 t_745 ⟨by decide, by decide, (by decide +kernel : (parseMethodDescriptor y_AckBook_Arrivals_insert.desc).map (fun d => d.parameters.length) = some 2)⟩ (by rw [hRt.1]; decide) (by rw [hRt.2]; decide) hl.1 rfl (by first | exact Nat.le_of_ble_eq_true rfl | simp [z_rfc, z_ci, z_cj]) d_AckBook_Arrivals_keep_121) (fun v_ hv H locs cells slots hZ => ?_)
        obtain ⟨rfl, h⟩ := hv
        generalize w1_ = w at h hZ
        exact x_vret hC hRc hRs hZ hr h d_AckBook_Arrivals_keep_124
      · have h := z_ifn hc h
        refine x_aload_n hC d_AckBook_Arrivals_keep_34 rfl (lv_at hl 1 rfl) ?_
        refine x_getR hC hZ zc5 h (by decide) t_126 (fun _ h9 => h9) d_AckBook_Arrivals_keep_35 (fun r20 h => ?_)
        refine lv_iload_n hC.1 hC.2.1 d_AckBook_Arrivals_keep_38 rfl (lv_at hl 3 rfl) ?_
        refine x_ldL hC hZ h d_AckBook_Arrivals_keep_39 (fun v21 h => ?_)
        refine lv_lload_n hC.1 hC.2.1 d_AckBook_Arrivals_keep_40 rfl (lv_at hl 2 rfl) ?_
        refine lv_lconst (v := (1 : Int64)) hC.1 hC.2.1 d_AckBook_Arrivals_keep_41 (by decide) ?_
        refine lv_lsub hC.1 hC.2.1 d_AckBook_Arrivals_keep_42 ?_
        refine W.lcmp hC.1 hC.2.1 d_AckBook_Arrivals_keep_43 ?_
        refine lv_if_ne (tgt := 51) hC.1 hC.2.1 d_AckBook_Arrivals_keep_44 (by decide) (fun hc => ?_) (fun hc => ?_)
        · have h := z_ifn hc h
          refine lv_iconst (v := (0 : Int32)) hC.1 hC.2.1 d_AckBook_Arrivals_keep_51 (by decide) ?_
          refine lv_istore (i := 5) (lv' := [(5, .int (0 : Int32)), (4, .int (0 : Int32)), (0, va_rf a0), (1, .long pJ1), (3, .int pI2)]) hC.1 hC.2.1 d_AckBook_Arrivals_keep_52 hl (by decide) (by first | rfl | simp [z_rfc, z_ci, z_cj]) (fun ls hl => ?_)
          refine lv_iload hC.1 hC.2.1 d_AckBook_Arrivals_keep_54 (lv_at hl 1 rfl) ?_
          refine lv_if_eq (tgt := 86) hC.1 hC.2.1 d_AckBook_Arrivals_keep_56 (by decide) (fun _ => ?_) (fun hc => absurd hc (by decide))
          refine lv_iload hC.1 hC.2.1 d_AckBook_Arrivals_keep_86 (lv_at hl 1 rfl) ?_
          refine lv_if_eq (tgt := 103) hC.1 hC.2.1 d_AckBook_Arrivals_keep_88 (by decide) (fun _ => ?_) (fun hc => absurd hc (by decide))
          refine lv_iload hC.1 hC.2.1 d_AckBook_Arrivals_keep_103 (lv_at hl 0 rfl) ?_
          refine lv_if_eq (tgt := 118) hC.1 hC.2.1 d_AckBook_Arrivals_keep_105 (by decide) (fun _ => ?_) (fun hc => absurd hc (by decide))
          refine x_aload_n hC d_AckBook_Arrivals_keep_118 rfl (lv_at hl 2 rfl) ?_
          refine lv_lload_n hC.1 hC.2.1 d_AckBook_Arrivals_keep_119 rfl (lv_at hl 3 rfl) ?_
          refine lv_iload_n hC.1 hC.2.1 d_AckBook_Arrivals_keep_120 rfl (lv_at hl 4 rfl) ?_
          obtain ⟨a_, fs_, eo_, h⟩ := z_this_spec h
          obtain ⟨w1_, o1_, hF_, ha_⟩ := z_cV_spec h
          refine x_goes hC hRc hRs hFr ha_ (z_goV (As := [.long pJ1, .int pI2]) hC hZ zc5 eo_ (k_AckBook_Arrivals_insert hT hfl hE _ _ hF_) t_742 t_744 ts_AckBook_Arrivals_insert t_8 t_745 ⟨by decide, by decide, (by decide +kernel : (parseMethodDescriptor y_AckBook_Arrivals_insert.desc).map (fun d => d.parameters.length) = some 2)⟩ (by rw [hRt.1]; decide) (by rw [hRt.2]; decide) hl.1 rfl (by first | exact Nat.le_of_ble_eq_true rfl | simp [z_rfc, z_ci, z_cj]) d_AckBook_Arrivals_keep_121) (fun v_ hv H locs cells slots hZ => ?_)
          obtain ⟨rfl, h⟩ := hv
          generalize w1_ = w at h hZ
          exact x_vret hC hRc hRs hZ hr h d_AckBook_Arrivals_keep_124
        · have h := z_ifp hc h
          refine lv_iconst (v := (1 : Int32)) hC.1 hC.2.1 d_AckBook_Arrivals_keep_47 (by decide) ?_
          refine lv_goto (tgt := 52) hC.1 hC.2.1 d_AckBook_Arrivals_keep_48 (by decide) ?_
          refine lv_istore (i := 5) (lv' := [(5, .int (1 : Int32)), (4, .int (0 : Int32)), (0, va_rf a0), (1, .long pJ1), (3, .int pI2)]) hC.1 hC.2.1 d_AckBook_Arrivals_keep_52 hl (by decide) (by first | rfl | simp [z_rfc, z_ci, z_cj]) (fun ls hl => ?_)
          refine lv_iload hC.1 hC.2.1 d_AckBook_Arrivals_keep_54 (lv_at hl 1 rfl) ?_
          refine lv_if_eq (tgt := 86) hC.1 hC.2.1 d_AckBook_Arrivals_keep_56 (by decide) (fun _ => ?_) (fun hc => absurd hc (by decide))
          refine lv_iload hC.1 hC.2.1 d_AckBook_Arrivals_keep_86 (lv_at hl 1 rfl) ?_
          refine lv_if_eq (tgt := 103) hC.1 hC.2.1 d_AckBook_Arrivals_keep_88 (by decide) (fun _ => ?_) (fun hc => absurd hc (by decide))
          refine lv_iload hC.1 hC.2.1 d_AckBook_Arrivals_keep_103 (lv_at hl 0 rfl) ?_
          refine lv_if_eq (tgt := 118) hC.1 hC.2.1 d_AckBook_Arrivals_keep_105 (by decide) (fun hc => absurd hc (by decide)) (fun _ => ?_)
          refine x_aload_n hC d_AckBook_Arrivals_keep_108 rfl (lv_at hl 2 rfl) ?_
          refine x_getR hC hZ zc5 h (by decide) t_126 (fun _ h9 => h9) d_AckBook_Arrivals_keep_109 (fun r22 h => ?_)
          refine lv_iload_n hC.1 hC.2.1 d_AckBook_Arrivals_keep_112 rfl (lv_at hl 4 rfl) ?_
          refine lv_lload_n hC.1 hC.2.1 d_AckBook_Arrivals_keep_113 rfl (lv_at hl 3 rfl) ?_
          refine x_stL hC hZ h d_AckBook_Arrivals_keep_114 (fun w H locs hZ h => ?_)
          refine lv_goto (tgt := 124) hC.1 hC.2.1 d_AckBook_Arrivals_keep_115 (by decide) ?_
          exact x_vret hC hRc hRs hZ hr h d_AckBook_Arrivals_keep_124
    · have h := z_ifp hc h
      refine lv_iconst (v := (1 : Int32)) hC.1 hC.2.1 d_AckBook_Arrivals_keep_19 (by decide) ?_
      refine lv_goto (tgt := 24) hC.1 hC.2.1 d_AckBook_Arrivals_keep_20 (by decide) ?_
      refine lv_istore (i := 4) (lv' := [(4, .int (1 : Int32)), (0, va_rf a0), (1, .long pJ1), (3, .int pI2)]) hC.1 hC.2.1 d_AckBook_Arrivals_keep_24 hl (by decide) (by first | rfl | simp [z_rfc, z_ci, z_cj]) (fun ls hl => ?_)
      refine lv_iload_n hC.1 hC.2.1 d_AckBook_Arrivals_keep_26 rfl (lv_at hl 3 rfl) ?_
      refine x_aload_n hC d_AckBook_Arrivals_keep_27 rfl (lv_at hl 1 rfl) ?_
      refine x_getI hC hZ zc5 h (by decide) t_128 (fun _ h9 => h9) d_AckBook_Arrivals_keep_28 (fun v9 h => ?_)
      refine lv_icmp_ge (tgt := 51) hC.1 hC.2.1 d_AckBook_Arrivals_keep_31 (by decide) (fun hc => ?_) (fun hc => ?_)
      · have h := z_ifp hc h
        refine lv_iconst (v := (0 : Int32)) hC.1 hC.2.1 d_AckBook_Arrivals_keep_51 (by decide) ?_
        refine lv_istore (i := 5) (lv' := [(5, .int (0 : Int32)), (4, .int (1 : Int32)), (0, va_rf a0), (1, .long pJ1), (3, .int pI2)]) hC.1 hC.2.1 d_AckBook_Arrivals_keep_52 hl (by decide) (by first | rfl | simp [z_rfc, z_ci, z_cj]) (fun ls hl => ?_)
        refine lv_iload hC.1 hC.2.1 d_AckBook_Arrivals_keep_54 (lv_at hl 1 rfl) ?_
        refine lv_if_eq (tgt := 86) hC.1 hC.2.1 d_AckBook_Arrivals_keep_56 (by decide) (fun hc => absurd hc (by decide)) (fun _ => ?_)
        refine lv_iload hC.1 hC.2.1 d_AckBook_Arrivals_keep_59 (lv_at hl 0 rfl) ?_
        refine lv_if_eq (tgt := 86) hC.1 hC.2.1 d_AckBook_Arrivals_keep_61 (by decide) (fun _ => ?_) (fun hc => absurd hc (by decide))
        refine lv_iload hC.1 hC.2.1 d_AckBook_Arrivals_keep_86 (lv_at hl 1 rfl) ?_
        refine lv_if_eq (tgt := 103) hC.1 hC.2.1 d_AckBook_Arrivals_keep_88 (by decide) (fun hc => absurd hc (by decide)) (fun _ => ?_)
        refine x_aload_n hC d_AckBook_Arrivals_keep_91 rfl (lv_at hl 2 rfl) ?_
        refine x_getR hC hZ zc5 h (by decide) t_124 (fun _ h9 => h9) d_AckBook_Arrivals_keep_92 (fun r10 h => ?_)
        refine lv_iload_n hC.1 hC.2.1 d_AckBook_Arrivals_keep_95 rfl (lv_at hl 4 rfl) ?_
        refine lv_iconst (v := (1 : Int32)) hC.1 hC.2.1 d_AckBook_Arrivals_keep_96 (by decide) ?_
        refine lv_isub hC.1 hC.2.1 d_AckBook_Arrivals_keep_97 ?_
        refine lv_lload_n hC.1 hC.2.1 d_AckBook_Arrivals_keep_98 rfl (lv_at hl 3 rfl) ?_
        refine x_stL hC hZ h d_AckBook_Arrivals_keep_99 (fun w H locs hZ h => ?_)
        refine lv_goto (tgt := 124) hC.1 hC.2.1 d_AckBook_Arrivals_keep_100 (by decide) ?_
        exact x_vret hC hRc hRs hZ hr h d_AckBook_Arrivals_keep_124
      · have h := z_ifn hc h
        refine x_aload_n hC d_AckBook_Arrivals_keep_34 rfl (lv_at hl 1 rfl) ?_
        refine x_getR hC hZ zc5 h (by decide) t_126 (fun _ h9 => h9) d_AckBook_Arrivals_keep_35 (fun r11 h => ?_)
        refine lv_iload_n hC.1 hC.2.1 d_AckBook_Arrivals_keep_38 rfl (lv_at hl 3 rfl) ?_
        refine x_ldL hC hZ h d_AckBook_Arrivals_keep_39 (fun v12 h => ?_)
        refine lv_lload_n hC.1 hC.2.1 d_AckBook_Arrivals_keep_40 rfl (lv_at hl 2 rfl) ?_
        refine lv_lconst (v := (1 : Int64)) hC.1 hC.2.1 d_AckBook_Arrivals_keep_41 (by decide) ?_
        refine lv_lsub hC.1 hC.2.1 d_AckBook_Arrivals_keep_42 ?_
        refine W.lcmp hC.1 hC.2.1 d_AckBook_Arrivals_keep_43 ?_
        refine lv_if_ne (tgt := 51) hC.1 hC.2.1 d_AckBook_Arrivals_keep_44 (by decide) (fun hc => ?_) (fun hc => ?_)
        · have h := z_ifn hc h
          refine lv_iconst (v := (0 : Int32)) hC.1 hC.2.1 d_AckBook_Arrivals_keep_51 (by decide) ?_
          refine lv_istore (i := 5) (lv' := [(5, .int (0 : Int32)), (4, .int (1 : Int32)), (0, va_rf a0), (1, .long pJ1), (3, .int pI2)]) hC.1 hC.2.1 d_AckBook_Arrivals_keep_52 hl (by decide) (by first | rfl | simp [z_rfc, z_ci, z_cj]) (fun ls hl => ?_)
          refine lv_iload hC.1 hC.2.1 d_AckBook_Arrivals_keep_54 (lv_at hl 1 rfl) ?_
          refine lv_if_eq (tgt := 86) hC.1 hC.2.1 d_AckBook_Arrivals_keep_56 (by decide) (fun hc => absurd hc (by decide)) (fun _ => ?_)
          refine lv_iload hC.1 hC.2.1 d_AckBook_Arrivals_keep_59 (lv_at hl 0 rfl) ?_
          refine lv_if_eq (tgt := 86) hC.1 hC.2.1 d_AckBook_Arrivals_keep_61 (by decide) (fun _ => ?_) (fun hc => absurd hc (by decide))
          refine lv_iload hC.1 hC.2.1 d_AckBook_Arrivals_keep_86 (lv_at hl 1 rfl) ?_
          refine lv_if_eq (tgt := 103) hC.1 hC.2.1 d_AckBook_Arrivals_keep_88 (by decide) (fun hc => absurd hc (by decide)) (fun _ => ?_)
          refine x_aload_n hC d_AckBook_Arrivals_keep_91 rfl (lv_at hl 2 rfl) ?_
          refine x_getR hC hZ zc5 h (by decide) t_124 (fun _ h9 => h9) d_AckBook_Arrivals_keep_92 (fun r17 h => ?_)
          refine lv_iload_n hC.1 hC.2.1 d_AckBook_Arrivals_keep_95 rfl (lv_at hl 4 rfl) ?_
          refine lv_iconst (v := (1 : Int32)) hC.1 hC.2.1 d_AckBook_Arrivals_keep_96 (by decide) ?_
          refine lv_isub hC.1 hC.2.1 d_AckBook_Arrivals_keep_97 ?_
          refine lv_lload_n hC.1 hC.2.1 d_AckBook_Arrivals_keep_98 rfl (lv_at hl 3 rfl) ?_
          refine x_stL hC hZ h d_AckBook_Arrivals_keep_99 (fun w H locs hZ h => ?_)
          refine lv_goto (tgt := 124) hC.1 hC.2.1 d_AckBook_Arrivals_keep_100 (by decide) ?_
          exact x_vret hC hRc hRs hZ hr h d_AckBook_Arrivals_keep_124
        · have h := z_ifp hc h
          refine lv_iconst (v := (1 : Int32)) hC.1 hC.2.1 d_AckBook_Arrivals_keep_47 (by decide) ?_
          refine lv_goto (tgt := 52) hC.1 hC.2.1 d_AckBook_Arrivals_keep_48 (by decide) ?_
          refine lv_istore (i := 5) (lv' := [(5, .int (1 : Int32)), (4, .int (1 : Int32)), (0, va_rf a0), (1, .long pJ1), (3, .int pI2)]) hC.1 hC.2.1 d_AckBook_Arrivals_keep_52 hl (by decide) (by first | rfl | simp [z_rfc, z_ci, z_cj]) (fun ls hl => ?_)
          refine lv_iload hC.1 hC.2.1 d_AckBook_Arrivals_keep_54 (lv_at hl 1 rfl) ?_
          refine lv_if_eq (tgt := 86) hC.1 hC.2.1 d_AckBook_Arrivals_keep_56 (by decide) (fun hc => absurd hc (by decide)) (fun _ => ?_)
          refine lv_iload hC.1 hC.2.1 d_AckBook_Arrivals_keep_59 (lv_at hl 0 rfl) ?_
          refine lv_if_eq (tgt := 86) hC.1 hC.2.1 d_AckBook_Arrivals_keep_61 (by decide) (fun hc => absurd hc (by decide)) (fun _ => ?_)
          refine x_aload_n hC d_AckBook_Arrivals_keep_64 rfl (lv_at hl 2 rfl) ?_
          refine x_getR hC hZ zc5 h (by decide) t_124 (fun _ h9 => h9) d_AckBook_Arrivals_keep_65 (fun r13 h => ?_)
          refine lv_iload_n hC.1 hC.2.1 d_AckBook_Arrivals_keep_68 rfl (lv_at hl 4 rfl) ?_
          refine lv_iconst (v := (1 : Int32)) hC.1 hC.2.1 d_AckBook_Arrivals_keep_69 (by decide) ?_
          refine lv_isub hC.1 hC.2.1 d_AckBook_Arrivals_keep_70 ?_
          refine x_aload_n hC d_AckBook_Arrivals_keep_71 rfl (lv_at hl 2 rfl) ?_
          refine x_getR hC hZ zc5 h (by decide) t_124 (fun _ h9 => h9) d_AckBook_Arrivals_keep_72 (fun r14 h => ?_)
          refine lv_iload_n hC.1 hC.2.1 d_AckBook_Arrivals_keep_75 rfl (lv_at hl 4 rfl) ?_
          refine x_ldL hC hZ h d_AckBook_Arrivals_keep_76 (fun v15 h => ?_)
          refine x_stL hC hZ h d_AckBook_Arrivals_keep_77 (fun w H locs hZ h => ?_)
          refine x_aload_n hC d_AckBook_Arrivals_keep_78 rfl (lv_at hl 2 rfl) ?_
          refine lv_iload_n hC.1 hC.2.1 d_AckBook_Arrivals_keep_79 rfl (lv_at hl 4 rfl) ?_
          obtain ⟨a_, fs_, eo_, h⟩ := z_this_spec h
          obtain ⟨w1_, o1_, hF_, ha_⟩ := z_cV_spec h
          refine x_goes hC hRc hRs hFr ha_ (z_goV (As := [.int pI2]) hC hZ zc5 eo_ (k_AckBook_Arrivals_remove hT hfl hE _ _ hF_) t_738 t_740 ts_AckBook_Arrivals_remove t_8 t_741 ⟨by decide, by decide, (by decide +kernel : (parseMethodDescriptor y_AckBook_Arrivals_remove.desc).map (fun d => d.parameters.length) = some 1)⟩ (by rw [hRt.1]; decide) (by rw [hRt.2]; decide) hl.1 rfl (by first | exact Nat.le_of_ble_eq_true rfl | simp [z_rfc, z_ci, z_cj]) d_AckBook_Arrivals_keep_80) (fun v_ hv H locs cells slots hZ => ?_)
          obtain ⟨rfl, h⟩ := hv
          generalize w1_ = w at h hZ
          refine lv_goto (tgt := 124) hC.1 hC.2.1 d_AckBook_Arrivals_keep_83 (by decide) ?_
          exact x_vret hC hRc hRs hZ hr h d_AckBook_Arrivals_keep_124
def f_AckBook_Arrivals_hold (F X : Nat) (a0 : Option Nat) (pI1 : Int32) (pI2 : Int32) (w : zW) : zR :=
  z_getI w 5 4 a0 fun v1 =>
  if v1 = 0 then (
    z_put w 5 5 a0 (.int pI2) fun w =>
    z_getI w 5 4 a0 fun v2 =>
    z_put w 5 4 a0 (.int (v2 + (1 : Int32))) fun w =>
    z_getI w 5 6 a0 fun v3 =>
    if v3 = 0 then (
      if pI1 = 0 then (
        z_putZ w 5 6 a0 (0 : Int32) fun w =>
        some (.inl none, w))
      else (
        z_putZ w 5 6 a0 (1 : Int32) fun w =>
        some (.inl none, w)))
    else (
      z_putZ w 5 6 a0 (1 : Int32) fun w =>
      some (.inl none, w)))
  else (
    z_getI w 5 4 a0 fun v4 =>
    z_put w 5 4 a0 (.int (v4 + (1 : Int32))) fun w =>
    z_getI w 5 6 a0 fun v5 =>
    if v5 = 0 then (
      if pI1 = 0 then (
        z_putZ w 5 6 a0 (0 : Int32) fun w =>
        some (.inl none, w))
      else (
        z_putZ w 5 6 a0 (1 : Int32) fun w =>
        some (.inl none, w)))
    else (
      z_putZ w 5 6 a0 (1 : Int32) fun w =>
      some (.inl none, w)))
set_option maxHeartbeats 4000000 in
set_option maxRecDepth 100000 in
theorem k_AckBook_Arrivals_hold {b0 : Nat} {H0 : Heap} {D : va_G} {vu vs : Value} {X : Nat} {l : Launch} (hT : z_TB (zGG b0 H0 D vu vs X)) (hfl : l.flags = pinnedFlags ++ [noTraceFlag]) (hE : vu.isRef = true ∧ vs.isRef = true) {a0 : Option Nat} {pI1 : Int32} {pI2 : Int32} (F : Nat) {w : zW} (res : zO × zW) (h : f_AckBook_Arrivals_hold F X a0 pI1 pI2 w = some res) : z_Ct (zGG b0 H0 D vu vs X) l y_AckBook_Arrivals_hold (.code y_AckBook_Arrivals_hold c_AckBook_Arrivals_hold 3 (none)) 0 0 [va_rf a0, .int pI1, .int pI2] w res := by
  refine z_ct hT hfl (by decide) (by simp only [z_sl_i, z_sl_j, z_sl_r, z_sl_n]; decide) ?_
  intro p e R s m args below meth c hC hr hRc hRs hRt hnm hFr H ls hZ hl
  simp only [z_la_i, z_la_j, z_la_r, z_la_n] at hl
  have hl : lv_has ls 3 [(0, va_rf a0), (1, .int pI1), (2, .int pI2)] := hl
  unfold f_AckBook_Arrivals_hold at h
  refine x_aload_n hC d_AckBook_Arrivals_hold_0 rfl (lv_at hl 0 rfl) ?_
  refine x_getI hC hZ zc5 h (by decide) t_132 (fun _ h9 => h9) d_AckBook_Arrivals_hold_1 (fun v1 h => ?_)
  refine lv_if_ne (tgt := 12) hC.1 hC.2.1 d_AckBook_Arrivals_hold_4 (by decide) (fun hc => ?_) (fun hc => ?_)
  · have h := z_ifn hc h
    refine x_aload_n hC d_AckBook_Arrivals_hold_12 rfl (lv_at hl 0 rfl) ?_
    refine lv_dup hC.1 hC.2.1 d_AckBook_Arrivals_hold_13 (z_rfc _) ?_
    refine x_getI hC hZ zc5 h (by decide) t_132 (fun _ h9 => h9) d_AckBook_Arrivals_hold_14 (fun v4 h => ?_)
    refine lv_iconst (v := (1 : Int32)) hC.1 hC.2.1 d_AckBook_Arrivals_hold_17 (by decide) ?_
    refine lv_iadd hC.1 hC.2.1 d_AckBook_Arrivals_hold_18 ?_
    refine x_put hC hZ zc5 h (by decide) t_132 (fun _ h9 => h9) rfl rfl rfl rfl d_AckBook_Arrivals_hold_19 (fun w H locs hZ h => ?_)
    refine x_aload_n hC d_AckBook_Arrivals_hold_22 rfl (lv_at hl 0 rfl) ?_
    refine x_aload_n hC d_AckBook_Arrivals_hold_23 rfl (lv_at hl 0 rfl) ?_
    refine x_getI hC hZ zc5 h (by decide) t_135 (fun _ h9 => h9) d_AckBook_Arrivals_hold_24 (fun v5 h => ?_)
    refine lv_if_ne (tgt := 34) hC.1 hC.2.1 d_AckBook_Arrivals_hold_27 (by decide) (fun hc => ?_) (fun hc => ?_)
    · have h := z_ifn hc h
      refine lv_iconst (v := (1 : Int32)) hC.1 hC.2.1 d_AckBook_Arrivals_hold_34 (by decide) ?_
      refine lv_goto (tgt := 39) hC.1 hC.2.1 d_AckBook_Arrivals_hold_35 (by decide) ?_
      refine x_putZ hC hZ zc5 h (by decide) t_135 (fun _ h9 => h9) rfl rfl d_AckBook_Arrivals_hold_39 (fun w H locs hZ h => ?_)
      exact x_vret hC hRc hRs hZ hr h d_AckBook_Arrivals_hold_42
    · have h := z_ifp hc h
      refine lv_iload_n hC.1 hC.2.1 d_AckBook_Arrivals_hold_30 rfl (lv_at hl 1 rfl) ?_
      refine lv_if_eq (tgt := 38) hC.1 hC.2.1 d_AckBook_Arrivals_hold_31 (by decide) (fun hc => ?_) (fun hc => ?_)
      · have h := z_ifp hc h
        refine lv_iconst (v := (0 : Int32)) hC.1 hC.2.1 d_AckBook_Arrivals_hold_38 (by decide) ?_
        refine x_putZ hC hZ zc5 h (by decide) t_135 (fun _ h9 => h9) rfl rfl d_AckBook_Arrivals_hold_39 (fun w H locs hZ h => ?_)
        exact x_vret hC hRc hRs hZ hr h d_AckBook_Arrivals_hold_42
      · have h := z_ifn hc h
        refine lv_iconst (v := (1 : Int32)) hC.1 hC.2.1 d_AckBook_Arrivals_hold_34 (by decide) ?_
        refine lv_goto (tgt := 39) hC.1 hC.2.1 d_AckBook_Arrivals_hold_35 (by decide) ?_
        refine x_putZ hC hZ zc5 h (by decide) t_135 (fun _ h9 => h9) rfl rfl d_AckBook_Arrivals_hold_39 (fun w H locs hZ h => ?_)
        exact x_vret hC hRc hRs hZ hr h d_AckBook_Arrivals_hold_42
  · have h := z_ifp hc h
    refine x_aload_n hC d_AckBook_Arrivals_hold_7 rfl (lv_at hl 0 rfl) ?_
    refine lv_iload_n hC.1 hC.2.1 d_AckBook_Arrivals_hold_8 rfl (lv_at hl 2 rfl) ?_
    refine x_put hC hZ zc5 h (by decide) t_134 (fun _ h9 => h9) rfl rfl rfl rfl d_AckBook_Arrivals_hold_9 (fun w H locs hZ h => ?_)
    refine x_aload_n hC d_AckBook_Arrivals_hold_12 rfl (lv_at hl 0 rfl) ?_
    refine lv_dup hC.1 hC.2.1 d_AckBook_Arrivals_hold_13 (z_rfc _) ?_
    refine x_getI hC hZ zc5 h (by decide) t_132 (fun _ h9 => h9) d_AckBook_Arrivals_hold_14 (fun v2 h => ?_)
    refine lv_iconst (v := (1 : Int32)) hC.1 hC.2.1 d_AckBook_Arrivals_hold_17 (by decide) ?_
    refine lv_iadd hC.1 hC.2.1 d_AckBook_Arrivals_hold_18 ?_
    refine x_put hC hZ zc5 h (by decide) t_132 (fun _ h9 => h9) rfl rfl rfl rfl d_AckBook_Arrivals_hold_19 (fun w H locs hZ h => ?_)
    refine x_aload_n hC d_AckBook_Arrivals_hold_22 rfl (lv_at hl 0 rfl) ?_
    refine x_aload_n hC d_AckBook_Arrivals_hold_23 rfl (lv_at hl 0 rfl) ?_
    refine x_getI hC hZ zc5 h (by decide) t_135 (fun _ h9 => h9) d_AckBook_Arrivals_hold_24 (fun v3 h => ?_)
    refine lv_if_ne (tgt := 34) hC.1 hC.2.1 d_AckBook_Arrivals_hold_27 (by decide) (fun hc => ?_) (fun hc => ?_)
    · have h := z_ifn hc h
      refine lv_iconst (v := (1 : Int32)) hC.1 hC.2.1 d_AckBook_Arrivals_hold_34 (by decide) ?_
      refine lv_goto (tgt := 39) hC.1 hC.2.1 d_AckBook_Arrivals_hold_35 (by decide) ?_
      refine x_putZ hC hZ zc5 h (by decide) t_135 (fun _ h9 => h9) rfl rfl d_AckBook_Arrivals_hold_39 (fun w H locs hZ h => ?_)
      exact x_vret hC hRc hRs hZ hr h d_AckBook_Arrivals_hold_42
    · have h := z_ifp hc h
      refine lv_iload_n hC.1 hC.2.1 d_AckBook_Arrivals_hold_30 rfl (lv_at hl 1 rfl) ?_
      refine lv_if_eq (tgt := 38) hC.1 hC.2.1 d_AckBook_Arrivals_hold_31 (by decide) (fun hc => ?_) (fun hc => ?_)
      · have h := z_ifp hc h
        refine lv_iconst (v := (0 : Int32)) hC.1 hC.2.1 d_AckBook_Arrivals_hold_38 (by decide) ?_
        refine x_putZ hC hZ zc5 h (by decide) t_135 (fun _ h9 => h9) rfl rfl d_AckBook_Arrivals_hold_39 (fun w H locs hZ h => ?_)
        exact x_vret hC hRc hRs hZ hr h d_AckBook_Arrivals_hold_42
      · have h := z_ifn hc h
        refine lv_iconst (v := (1 : Int32)) hC.1 hC.2.1 d_AckBook_Arrivals_hold_34 (by decide) ?_
        refine lv_goto (tgt := 39) hC.1 hC.2.1 d_AckBook_Arrivals_hold_35 (by decide) ?_
        refine x_putZ hC hZ zc5 h (by decide) t_135 (fun _ h9 => h9) rfl rfl d_AckBook_Arrivals_hold_39 (fun w H locs hZ h => ?_)
        exact x_vret hC hRc hRs hZ hr h d_AckBook_Arrivals_hold_42
def f_AckBook_Arrivals_enter (F X : Nat) (a0 : Option Nat) (pJ1 : Int64) (pI2 : Int32) (pI3 : Int32) (w : zW) : zR :=
  z_this w 5 a0 <|
  z_cI (f_AckBook_Arrivals_firstNotAbove F X a0 pJ1 w) fun v2 w =>
  z_getL w 5 3 a0 fun v3 =>
  if (lg_cmp pJ1 v3) < 0 then (
    some (.inl (some (.int (0 : Int32))), w))
  else (
    z_getI w 5 2 a0 fun v4 =>
    if v4 ≤ v2 then (
      z_getI w 5 2 a0 fun v5 =>
      if v5 = 0 then (
        z_this w 5 a0 <|
        z_cV (f_AckBook_Arrivals_keep F X a0 pJ1 v2 w) fun w =>
        if pI2 = 0 then (
          if (lg_cmp pJ1 (-1 : Int64)) ≤ 0 then (
            some (.inl (some (.int (1 : Int32))), w))
          else (
            z_put w 5 7 a0 (.int pI3) fun w =>
            some (.inl (some (.int (1 : Int32))), w)))
        else (
          if (lg_cmp pJ1 ((-1 : Int64) + (1 : Int64))) = 0 then (
            z_this w 5 a0 <|
            z_cV (f_AckBook_Arrivals_hold F X a0 (0 : Int32) pI3 w) fun w =>
            if (lg_cmp pJ1 (-1 : Int64)) ≤ 0 then (
              some (.inl (some (.int (1 : Int32))), w))
            else (
              z_put w 5 7 a0 (.int pI3) fun w =>
              some (.inl (some (.int (1 : Int32))), w)))
          else (
            z_this w 5 a0 <|
            z_cV (f_AckBook_Arrivals_hold F X a0 (1 : Int32) pI3 w) fun w =>
            if (lg_cmp pJ1 (-1 : Int64)) ≤ 0 then (
              some (.inl (some (.int (1 : Int32))), w))
            else (
              z_put w 5 7 a0 (.int pI3) fun w =>
              some (.inl (some (.int (1 : Int32))), w)))))
      else (
        z_getR w 5 1 a0 fun r9 =>
        z_ldL w r9 (0 : Int32) fun v10 =>
        z_this w 5 a0 <|
        z_cV (f_AckBook_Arrivals_keep F X a0 pJ1 v2 w) fun w =>
        if pI2 = 0 then (
          if (lg_cmp pJ1 v10) ≤ 0 then (
            some (.inl (some (.int (1 : Int32))), w))
          else (
            z_put w 5 7 a0 (.int pI3) fun w =>
            some (.inl (some (.int (1 : Int32))), w)))
        else (
          if (lg_cmp pJ1 (v10 + (1 : Int64))) = 0 then (
            z_this w 5 a0 <|
            z_cV (f_AckBook_Arrivals_hold F X a0 (0 : Int32) pI3 w) fun w =>
            if (lg_cmp pJ1 v10) ≤ 0 then (
              some (.inl (some (.int (1 : Int32))), w))
            else (
              z_put w 5 7 a0 (.int pI3) fun w =>
              some (.inl (some (.int (1 : Int32))), w)))
          else (
            z_this w 5 a0 <|
            z_cV (f_AckBook_Arrivals_hold F X a0 (1 : Int32) pI3 w) fun w =>
            if (lg_cmp pJ1 v10) ≤ 0 then (
              some (.inl (some (.int (1 : Int32))), w))
            else (
              z_put w 5 7 a0 (.int pI3) fun w =>
              some (.inl (some (.int (1 : Int32))), w))))))
    else (
      z_getR w 5 1 a0 fun r14 =>
      z_ldL w r14 v2 fun v15 =>
      if 0 < (lg_cmp pJ1 v15) then (
        z_getI w 5 2 a0 fun v16 =>
        if v16 = 0 then (
          z_this w 5 a0 <|
          z_cV (f_AckBook_Arrivals_keep F X a0 pJ1 v2 w) fun w =>
          if pI2 = 0 then (
            if (lg_cmp pJ1 (-1 : Int64)) ≤ 0 then (
              some (.inl (some (.int (1 : Int32))), w))
            else (
              z_put w 5 7 a0 (.int pI3) fun w =>
              some (.inl (some (.int (1 : Int32))), w)))
          else (
            if (lg_cmp pJ1 ((-1 : Int64) + (1 : Int64))) = 0 then (
              z_this w 5 a0 <|
              z_cV (f_AckBook_Arrivals_hold F X a0 (0 : Int32) pI3 w) fun w =>
              if (lg_cmp pJ1 (-1 : Int64)) ≤ 0 then (
                some (.inl (some (.int (1 : Int32))), w))
              else (
                z_put w 5 7 a0 (.int pI3) fun w =>
                some (.inl (some (.int (1 : Int32))), w)))
            else (
              z_this w 5 a0 <|
              z_cV (f_AckBook_Arrivals_hold F X a0 (1 : Int32) pI3 w) fun w =>
              if (lg_cmp pJ1 (-1 : Int64)) ≤ 0 then (
                some (.inl (some (.int (1 : Int32))), w))
              else (
                z_put w 5 7 a0 (.int pI3) fun w =>
                some (.inl (some (.int (1 : Int32))), w)))))
        else (
          z_getR w 5 1 a0 fun r20 =>
          z_ldL w r20 (0 : Int32) fun v21 =>
          z_this w 5 a0 <|
          z_cV (f_AckBook_Arrivals_keep F X a0 pJ1 v2 w) fun w =>
          if pI2 = 0 then (
            if (lg_cmp pJ1 v21) ≤ 0 then (
              some (.inl (some (.int (1 : Int32))), w))
            else (
              z_put w 5 7 a0 (.int pI3) fun w =>
              some (.inl (some (.int (1 : Int32))), w)))
          else (
            if (lg_cmp pJ1 (v21 + (1 : Int64))) = 0 then (
              z_this w 5 a0 <|
              z_cV (f_AckBook_Arrivals_hold F X a0 (0 : Int32) pI3 w) fun w =>
              if (lg_cmp pJ1 v21) ≤ 0 then (
                some (.inl (some (.int (1 : Int32))), w))
              else (
                z_put w 5 7 a0 (.int pI3) fun w =>
                some (.inl (some (.int (1 : Int32))), w)))
            else (
              z_this w 5 a0 <|
              z_cV (f_AckBook_Arrivals_hold F X a0 (1 : Int32) pI3 w) fun w =>
              if (lg_cmp pJ1 v21) ≤ 0 then (
                some (.inl (some (.int (1 : Int32))), w))
              else (
                z_put w 5 7 a0 (.int pI3) fun w =>
                some (.inl (some (.int (1 : Int32))), w))))))
      else (
        some (.inl (some (.int (0 : Int32))), w))))
set_option maxHeartbeats 4000000 in
set_option maxRecDepth 100000 in
theorem k_AckBook_Arrivals_enter {b0 : Nat} {H0 : Heap} {D : va_G} {vu vs : Value} {X : Nat} {l : Launch} (hT : z_TB (zGG b0 H0 D vu vs X)) (hfl : l.flags = pinnedFlags ++ [noTraceFlag]) (hE : vu.isRef = true ∧ vs.isRef = true) {a0 : Option Nat} {pJ1 : Int64} {pI2 : Int32} {pI3 : Int32} (F : Nat) {w : zW} (res : zO × zW) (h : f_AckBook_Arrivals_enter F X a0 pJ1 pI2 pI3 w = some res) : z_Ct (zGG b0 H0 D vu vs X) l y_AckBook_Arrivals_enter (.code y_AckBook_Arrivals_enter c_AckBook_Arrivals_enter 8 (some FieldType.boolean)) 2 49 [va_rf a0, .long pJ1, .int pI2, .int pI3] w res := by
  refine z_ct hT hfl (by decide) (by simp only [z_sl_i, z_sl_j, z_sl_r, z_sl_n]; decide) ?_
  intro p e R s m args below meth c hC hr hRc hRs hRt hnm hFr H ls hZ hl
  simp only [z_la_i, z_la_j, z_la_r, z_la_n] at hl
  have hl : lv_has ls 8 [(0, va_rf a0), (1, .long pJ1), (3, .int pI2), (4, .int pI3)] := hl
  unfold f_AckBook_Arrivals_enter at h
  refine x_aload_n hC d_AckBook_Arrivals_enter_0 rfl (lv_at hl 0 rfl) ?_
  refine lv_lload_n hC.1 hC.2.1 d_AckBook_Arrivals_enter_1 rfl (lv_at hl 1 rfl) ?_
  obtain ⟨a_, fs_, eo_, h⟩ := z_this_spec h
  obtain ⟨w1_, o1_, hF_, ha_⟩ := z_cI_spec h
  refine x_goes hC hRc hRs hFr ha_ (z_goV (As := [.long pJ1]) hC hZ zc5 eo_ (k_AckBook_Arrivals_firstNotAbove hT hfl hE _ _ hF_) t_729 t_731 ts_AckBook_Arrivals_firstNotAbove t_8 t_732 ⟨by decide, by decide, (by decide +kernel : (parseMethodDescriptor y_AckBook_Arrivals_firstNotAbove.desc).map (fun d => d.parameters.length) = some 1)⟩ (by rw [hRt.1]; decide) (by rw [hRt.2]; decide) hl.1 rfl (by first | exact Nat.le_of_ble_eq_true rfl | simp [z_rfc, z_ci, z_cj]) d_AckBook_Arrivals_enter_2) (fun v_ hv H locs cells slots hZ => ?_)
  obtain ⟨v2, rfl, h⟩ := hv
  generalize w1_ = w at h hZ
  refine lv_istore (i := 5) (lv' := [(5, .int v2), (0, va_rf a0), (1, .long pJ1), (3, .int pI2), (4, .int pI3)]) hC.1 hC.2.1 d_AckBook_Arrivals_enter_5 hl (by decide) (by first | rfl | simp [z_rfc, z_ci, z_cj]) (fun ls hl => ?_)
  refine lv_lload_n hC.1 hC.2.1 d_AckBook_Arrivals_enter_7 rfl (lv_at hl 2 rfl) ?_
  refine x_aload_n hC d_AckBook_Arrivals_enter_8 rfl (lv_at hl 1 rfl) ?_
  refine x_getL hC hZ zc5 h (by decide) t_130 (fun _ h9 => h9) d_AckBook_Arrivals_enter_9 (fun v3 h => ?_)
  refine W.lcmp hC.1 hC.2.1 d_AckBook_Arrivals_enter_12 ?_
  refine lv_if_lt (tgt := 37) hC.1 hC.2.1 d_AckBook_Arrivals_enter_13 (by decide) (fun hc => ?_) (fun hc => ?_)
  · have h := z_ifp hc h
    refine lv_iconst (v := (0 : Int32)) hC.1 hC.2.1 d_AckBook_Arrivals_enter_37 (by decide) ?_
    exact x_iret hC hRc hRs hZ hr rfl h d_AckBook_Arrivals_enter_38
  · have h := z_ifn hc h
    refine lv_iload hC.1 hC.2.1 d_AckBook_Arrivals_enter_16 (lv_at hl 0 rfl) ?_
    refine x_aload_n hC d_AckBook_Arrivals_enter_18 rfl (lv_at hl 1 rfl) ?_
    refine x_getI hC hZ zc5 h (by decide) t_128 (fun _ h9 => h9) d_AckBook_Arrivals_enter_19 (fun v4 h => ?_)
    refine lv_icmp_ge (tgt := 39) hC.1 hC.2.1 d_AckBook_Arrivals_enter_22 (by decide) (fun hc => ?_) (fun hc => ?_)
    · have h := z_ifp hc h
      refine x_aload_n hC d_AckBook_Arrivals_enter_39 rfl (lv_at hl 1 rfl) ?_
      refine x_getI hC hZ zc5 h (by decide) t_128 (fun _ h9 => h9) d_AckBook_Arrivals_enter_40 (fun v5 h => ?_)
      refine lv_if_ne (tgt := 52) hC.1 hC.2.1 d_AckBook_Arrivals_enter_43 (by decide) (fun hc => ?_) (fun hc => ?_)
      · have h := z_ifn hc h
        refine x_aload_n hC d_AckBook_Arrivals_enter_52 rfl (lv_at hl 1 rfl) ?_
        refine x_getR hC hZ zc5 h (by decide) t_126 (fun _ h9 => h9) d_AckBook_Arrivals_enter_53 (fun r9 h => ?_)
        refine lv_iconst (v := (0 : Int32)) hC.1 hC.2.1 d_AckBook_Arrivals_enter_56 (by decide) ?_
        refine x_ldL hC hZ h d_AckBook_Arrivals_enter_57 (fun v10 h => ?_)
        refine lv_lstore (i := 6) (lv' := [(6, .long v10), (5, .int v2), (0, va_rf a0), (1, .long pJ1), (3, .int pI2), (4, .int pI3)]) hC.1 hC.2.1 d_AckBook_Arrivals_enter_58 hl (by decide) (by first | rfl | simp [z_rfc, z_ci, z_cj]) (fun ls hl => ?_)
        refine x_aload_n hC d_AckBook_Arrivals_enter_60 rfl (lv_at hl 2 rfl) ?_
        refine lv_lload_n hC.1 hC.2.1 d_AckBook_Arrivals_enter_61 rfl (lv_at hl 3 rfl) ?_
        refine lv_iload hC.1 hC.2.1 d_AckBook_Arrivals_enter_62 (lv_at hl 1 rfl) ?_
        obtain ⟨a_, fs_, eo_, h⟩ := z_this_spec h
        obtain ⟨w1_, o1_, hF_, ha_⟩ := z_cV_spec h
        refine x_goes hC hRc hRs hFr ha_ (z_goV (As := [.long pJ1, .int v2]) hC hZ zc5 eo_ (k_AckBook_Arrivals_keep hT hfl hE _ _ hF_) t_734 t_736 ts_AckBook_Arrivals_keep t_8 t_737 ⟨by decide, by decide, (by decide +kernel : (parseMethodDescriptor y_AckBook_Arrivals_keep.desc).map (fun d => d.parameters.length) = some 2)⟩ (by rw [hRt.1]; decide) (by rw [hRt.2]; decide) hl.1 rfl (by first | exact Nat.le_of_ble_eq_true rfl | simp [z_rfc, z_ci, z_cj]) d_AckBook_Arrivals_enter_64) (fun v_ hv H locs cells slots hZ => ?_)
        obtain ⟨rfl, h⟩ := hv
        generalize w1_ = w at h hZ
        refine lv_iload_n hC.1 hC.2.1 d_AckBook_Arrivals_enter_67 rfl (lv_at hl 4 rfl) ?_
        refine lv_if_eq (tgt := 91) hC.1 hC.2.1 d_AckBook_Arrivals_enter_68 (by decide) (fun hc => ?_) (fun hc => ?_)
        · have h := z_ifp hc h
          refine lv_lload_n hC.1 hC.2.1 d_AckBook_Arrivals_enter_91 rfl (lv_at hl 3 rfl) ?_
          refine lv_lload hC.1 hC.2.1 d_AckBook_Arrivals_enter_92 (lv_at hl 0 rfl) ?_
          refine W.lcmp hC.1 hC.2.1 d_AckBook_Arrivals_enter_94 ?_
          refine lv_if_le (tgt := 104) hC.1 hC.2.1 d_AckBook_Arrivals_enter_95 (by decide) (fun hc => ?_) (fun hc => ?_)
          · have h := z_ifp hc h
            refine lv_iconst (v := (1 : Int32)) hC.1 hC.2.1 d_AckBook_Arrivals_enter_104 (by decide) ?_
            exact x_iret hC hRc hRs hZ hr rfl h d_AckBook_Arrivals_enter_105
          · have h := z_ifn hc h
            refine x_aload_n hC d_AckBook_Arrivals_enter_98 rfl (lv_at hl 2 rfl) ?_
            refine lv_iload hC.1 hC.2.1 d_AckBook_Arrivals_enter_99 (lv_at hl 5 rfl) ?_
            refine x_put hC hZ zc5 h (by decide) t_136 (fun _ h9 => h9) rfl rfl rfl rfl d_AckBook_Arrivals_enter_101 (fun w H locs hZ h => ?_)
            refine lv_iconst (v := (1 : Int32)) hC.1 hC.2.1 d_AckBook_Arrivals_enter_104 (by decide) ?_
            exact x_iret hC hRc hRs hZ hr rfl h d_AckBook_Arrivals_enter_105
        · have h := z_ifn hc h
          refine x_aload_n hC d_AckBook_Arrivals_enter_71 rfl (lv_at hl 2 rfl) ?_
          refine lv_lload_n hC.1 hC.2.1 d_AckBook_Arrivals_enter_72 rfl (lv_at hl 3 rfl) ?_
          refine lv_lload hC.1 hC.2.1 d_AckBook_Arrivals_enter_73 (lv_at hl 0 rfl) ?_
          refine lv_lconst (v := (1 : Int64)) hC.1 hC.2.1 d_AckBook_Arrivals_enter_75 (by decide) ?_
          refine lv_ladd hC.1 hC.2.1 d_AckBook_Arrivals_enter_76 ?_
          refine W.lcmp hC.1 hC.2.1 d_AckBook_Arrivals_enter_77 ?_
          refine lv_if_eq (tgt := 85) hC.1 hC.2.1 d_AckBook_Arrivals_enter_78 (by decide) (fun hc => ?_) (fun hc => ?_)
          · have h := z_ifp hc h
            refine lv_iconst (v := (0 : Int32)) hC.1 hC.2.1 d_AckBook_Arrivals_enter_85 (by decide) ?_
            refine lv_iload hC.1 hC.2.1 d_AckBook_Arrivals_enter_86 (lv_at hl 5 rfl) ?_
            obtain ⟨a_, fs_, eo_, h⟩ := z_this_spec h
            obtain ⟨w1_, o1_, hF_, ha_⟩ := z_cV_spec h
            refine x_goes hC hRc hRs hFr ha_ (z_goV (As := [.int (0 : Int32), .int pI3]) hC hZ zc5 eo_ (k_AckBook_Arrivals_hold hT hfl hE _ _ hF_) t_746 t_748 ts_AckBook_Arrivals_hold t_8 t_749 ⟨by decide, by decide, (by decide +kernel : (parseMethodDescriptor y_AckBook_Arrivals_hold.desc).map (fun d => d.parameters.length) = some 2)⟩ (by rw [hRt.1]; decide) (by rw [hRt.2]; decide) hl.1 rfl (by first | exact Nat.le_of_ble_eq_true rfl | simp [z_rfc, z_ci, z_cj]) d_AckBook_Arrivals_enter_88) (fun v_ hv H locs cells slots hZ => ?_)
            obtain ⟨rfl, h⟩ := hv
            generalize w1_ = w at h hZ
            refine lv_lload_n hC.1 hC.2.1 d_AckBook_Arrivals_enter_91 rfl (lv_at hl 3 rfl) ?_
            refine lv_lload hC.1 hC.2.1 d_AckBook_Arrivals_enter_92 (lv_at hl 0 rfl) ?_
            refine W.lcmp hC.1 hC.2.1 d_AckBook_Arrivals_enter_94 ?_
            refine lv_if_le (tgt := 104) hC.1 hC.2.1 d_AckBook_Arrivals_enter_95 (by decide) (fun hc => ?_) (fun hc => ?_)
            · have h := z_ifp hc h
              refine lv_iconst (v := (1 : Int32)) hC.1 hC.2.1 d_AckBook_Arrivals_enter_104 (by decide) ?_
              exact x_iret hC hRc hRs hZ hr rfl h d_AckBook_Arrivals_enter_105
            · have h := z_ifn hc h
              refine x_aload_n hC d_AckBook_Arrivals_enter_98 rfl (lv_at hl 2 rfl) ?_
              refine lv_iload hC.1 hC.2.1 d_AckBook_Arrivals_enter_99 (lv_at hl 5 rfl) ?_
              refine x_put hC hZ zc5 h (by decide) t_136 (fun _ h9 => h9) rfl rfl rfl rfl d_AckBook_Arrivals_enter_101 (fun w H locs hZ h => ?_)
              refine lv_iconst (v := (1 : Int32)) hC.1 hC.2.1 d_AckBook_Arrivals_enter_104 (by decide) ?_
              exact x_iret hC hRc hRs hZ hr rfl h d_AckBook_Arrivals_enter_105
          · have h := z_ifn hc h
            refine lv_iconst (v := (1 : Int32)) hC.1 hC.2.1 d_AckBook_Arrivals_enter_81 (by decide) ?_
            refine lv_goto (tgt := 86) hC.1 hC.2.1 d_AckBook_Arrivals_enter_82 (by decide) ?_
            refine lv_iload hC.1 hC.2.1 d_AckBook_Arrivals_enter_86 (lv_at hl 5 rfl) ?_
            obtain ⟨a_, fs_, eo_, h⟩ := z_this_spec h
            obtain ⟨w1_, o1_, hF_, ha_⟩ := z_cV_spec h
            refine x_goes hC hRc hRs hFr ha_ (z_goV (As := [.int (1 : Int32), .int pI3]) hC hZ zc5 eo_ (k_AckBook_Arrivals_hold hT hfl hE _ _ hF_) t_746 t_748 ts_AckBook_Arrivals_hold t_8 t_749 ⟨by decide, by decide, (by decide +kernel : (parseMethodDescriptor y_AckBook_Arrivals_hold.desc).map (fun d => d.parameters.length) = some 2)⟩ (by rw [hRt.1]; decide) (by rw [hRt.2]; decide) hl.1 rfl (by first | exact Nat.le_of_ble_eq_true rfl | simp [z_rfc, z_ci, z_cj]) d_AckBook_Arrivals_enter_88) (fun v_ hv H locs cells slots hZ => ?_)
            obtain ⟨rfl, h⟩ := hv
            generalize w1_ = w at h hZ
            refine lv_lload_n hC.1 hC.2.1 d_AckBook_Arrivals_enter_91 rfl (lv_at hl 3 rfl) ?_
            refine lv_lload hC.1 hC.2.1 d_AckBook_Arrivals_enter_92 (lv_at hl 0 rfl) ?_
            refine W.lcmp hC.1 hC.2.1 d_AckBook_Arrivals_enter_94 ?_
            refine lv_if_le (tgt := 104) hC.1 hC.2.1 d_AckBook_Arrivals_enter_95 (by decide) (fun hc => ?_) (fun hc => ?_)
            · have h := z_ifp hc h
              refine lv_iconst (v := (1 : Int32)) hC.1 hC.2.1 d_AckBook_Arrivals_enter_104 (by decide) ?_
              exact x_iret hC hRc hRs hZ hr rfl h d_AckBook_Arrivals_enter_105
            · have h := z_ifn hc h
              refine x_aload_n hC d_AckBook_Arrivals_enter_98 rfl (lv_at hl 2 rfl) ?_
              refine lv_iload hC.1 hC.2.1 d_AckBook_Arrivals_enter_99 (lv_at hl 5 rfl) ?_
              refine x_put hC hZ zc5 h (by decide) t_136 (fun _ h9 => h9) rfl rfl rfl rfl d_AckBook_Arrivals_enter_101 (fun w H locs hZ h => ?_)
              refine lv_iconst (v := (1 : Int32)) hC.1 hC.2.1 d_AckBook_Arrivals_enter_104 (by decide) ?_
              exact x_iret hC hRc hRs hZ hr rfl h d_AckBook_Arrivals_enter_105
      · have h := z_ifp hc h
        refine lv_ldc2 (v := (-1 : Int64)) hC.1 hC.2.1 hC.2.2.2.1 ((hZ.1.tb hC.2.2.2.2.2.2 args) _ t_733) d_AckBook_Arrivals_enter_46 ?_
        refine lv_goto (tgt := 58) hC.1 hC.2.1 d_AckBook_Arrivals_enter_49 (by decide) ?_
        refine lv_lstore (i := 6) (lv' := [(6, .long (-1 : Int64)), (5, .int v2), (0, va_rf a0), (1, .long pJ1), (3, .int pI2), (4, .int pI3)]) hC.1 hC.2.1 d_AckBook_Arrivals_enter_58 hl (by decide) (by first | rfl | simp [z_rfc, z_ci, z_cj]) (fun ls hl => ?_)
        refine x_aload_n hC d_AckBook_Arrivals_enter_60 rfl (lv_at hl 2 rfl) ?_
        refine lv_lload_n hC.1 hC.2.1 d_AckBook_Arrivals_enter_61 rfl (lv_at hl 3 rfl) ?_
        refine lv_iload hC.1 hC.2.1 d_AckBook_Arrivals_enter_62 (lv_at hl 1 rfl) ?_
        obtain ⟨a_, fs_, eo_, h⟩ := z_this_spec h
        obtain ⟨w1_, o1_, hF_, ha_⟩ := z_cV_spec h
        refine x_goes hC hRc hRs hFr ha_ (z_goV (As := [.long pJ1, .int v2]) hC hZ zc5 eo_ (k_AckBook_Arrivals_keep hT hfl hE _ _ hF_) t_734 t_736 ts_AckBook_Arrivals_keep t_8 t_737 ⟨by decide, by decide, (by decide +kernel : (parseMethodDescriptor y_AckBook_Arrivals_keep.desc).map (fun d => d.parameters.length) = some 2)⟩ (by rw [hRt.1]; decide) (by rw [hRt.2]; decide) hl.1 rfl (by first | exact Nat.le_of_ble_eq_true rfl | simp [z_rfc, z_ci, z_cj]) d_AckBook_Arrivals_enter_64) (fun v_ hv H locs cells slots hZ => ?_)
        obtain ⟨rfl, h⟩ := hv
        generalize w1_ = w at h hZ
        refine lv_iload_n hC.1 hC.2.1 d_AckBook_Arrivals_enter_67 rfl (lv_at hl 4 rfl) ?_
        refine lv_if_eq (tgt := 91) hC.1 hC.2.1 d_AckBook_Arrivals_enter_68 (by decide) (fun hc => ?_) (fun hc => ?_)
        · have h := z_ifp hc h
          refine lv_lload_n hC.1 hC.2.1 d_AckBook_Arrivals_enter_91 rfl (lv_at hl 3 rfl) ?_
          refine lv_lload hC.1 hC.2.1 d_AckBook_Arrivals_enter_92 (lv_at hl 0 rfl) ?_
          refine W.lcmp hC.1 hC.2.1 d_AckBook_Arrivals_enter_94 ?_
          refine lv_if_le (tgt := 104) hC.1 hC.2.1 d_AckBook_Arrivals_enter_95 (by decide) (fun hc => ?_) (fun hc => ?_)
          · have h := z_ifp hc h
            refine lv_iconst (v := (1 : Int32)) hC.1 hC.2.1 d_AckBook_Arrivals_enter_104 (by decide) ?_
            exact x_iret hC hRc hRs hZ hr rfl h d_AckBook_Arrivals_enter_105
          · have h := z_ifn hc h
            refine x_aload_n hC d_AckBook_Arrivals_enter_98 rfl (lv_at hl 2 rfl) ?_
            refine lv_iload hC.1 hC.2.1 d_AckBook_Arrivals_enter_99 (lv_at hl 5 rfl) ?_
            refine x_put hC hZ zc5 h (by decide) t_136 (fun _ h9 => h9) rfl rfl rfl rfl d_AckBook_Arrivals_enter_101 (fun w H locs hZ h => ?_)
            refine lv_iconst (v := (1 : Int32)) hC.1 hC.2.1 d_AckBook_Arrivals_enter_104 (by decide) ?_
            exact x_iret hC hRc hRs hZ hr rfl h d_AckBook_Arrivals_enter_105
        · have h := z_ifn hc h
          refine x_aload_n hC d_AckBook_Arrivals_enter_71 rfl (lv_at hl 2 rfl) ?_
          refine lv_lload_n hC.1 hC.2.1 d_AckBook_Arrivals_enter_72 rfl (lv_at hl 3 rfl) ?_
          refine lv_lload hC.1 hC.2.1 d_AckBook_Arrivals_enter_73 (lv_at hl 0 rfl) ?_
          refine lv_lconst (v := (1 : Int64)) hC.1 hC.2.1 d_AckBook_Arrivals_enter_75 (by decide) ?_
          refine lv_ladd hC.1 hC.2.1 d_AckBook_Arrivals_enter_76 ?_
          refine W.lcmp hC.1 hC.2.1 d_AckBook_Arrivals_enter_77 ?_
          refine lv_if_eq (tgt := 85) hC.1 hC.2.1 d_AckBook_Arrivals_enter_78 (by decide) (fun hc => ?_) (fun hc => ?_)
          · have h := z_ifp hc h
            refine lv_iconst (v := (0 : Int32)) hC.1 hC.2.1 d_AckBook_Arrivals_enter_85 (by decide) ?_
            refine lv_iload hC.1 hC.2.1 d_AckBook_Arrivals_enter_86 (lv_at hl 5 rfl) ?_
            obtain ⟨a_, fs_, eo_, h⟩ := z_this_spec h
            obtain ⟨w1_, o1_, hF_, ha_⟩ := z_cV_spec h
            refine x_goes hC hRc hRs hFr ha_ (z_goV (As := [.int (0 : Int32), .int pI3]) hC hZ zc5 eo_ (k_AckBook_Arrivals_hold hT hfl hE _ _ hF_) t_746 t_748 ts_AckBook_Arrivals_hold t_8 t_749 ⟨by decide, by decide, (by decide +kernel : (parseMethodDescriptor y_AckBook_Arrivals_hold.desc).map (fun d => d.parameters.length) = some 2)⟩ (by rw [hRt.1]; decide) (by rw [hRt.2]; decide) hl.1 rfl (by first | exact Nat.le_of_ble_eq_true rfl | simp [z_rfc, z_ci, z_cj]) d_AckBook_Arrivals_enter_88) (fun v_ hv H locs cells slots hZ => ?_)
            obtain ⟨rfl, h⟩ := hv
            generalize w1_ = w at h hZ
            refine lv_lload_n hC.1 hC.2.1 d_AckBook_Arrivals_enter_91 rfl (lv_at hl 3 rfl) ?_
            refine lv_lload hC.1 hC.2.1 d_AckBook_Arrivals_enter_92 (lv_at hl 0 rfl) ?_
            refine W.lcmp hC.1 hC.2.1 d_AckBook_Arrivals_enter_94 ?_
            refine lv_if_le (tgt := 104) hC.1 hC.2.1 d_AckBook_Arrivals_enter_95 (by decide) (fun hc => ?_) (fun hc => ?_)
            · have h := z_ifp hc h
              refine lv_iconst (v := (1 : Int32)) hC.1 hC.2.1 d_AckBook_Arrivals_enter_104 (by decide) ?_
              exact x_iret hC hRc hRs hZ hr rfl h d_AckBook_Arrivals_enter_105
            · have h := z_ifn hc h
              refine x_aload_n hC d_AckBook_Arrivals_enter_98 rfl (lv_at hl 2 rfl) ?_
              refine lv_iload hC.1 hC.2.1 d_AckBook_Arrivals_enter_99 (lv_at hl 5 rfl) ?_
              refine x_put hC hZ zc5 h (by decide) t_136 (fun _ h9 => h9) rfl rfl rfl rfl d_AckBook_Arrivals_enter_101 (fun w H locs hZ h => ?_)
              refine lv_iconst (v := (1 : Int32)) hC.1 hC.2.1 d_AckBook_Arrivals_enter_104 (by decide) ?_
              exact x_iret hC hRc hRs hZ hr rfl h d_AckBook_Arrivals_enter_105
          · have h := z_ifn hc h
            refine lv_iconst (v := (1 : Int32)) hC.1 hC.2.1 d_AckBook_Arrivals_enter_81 (by decide) ?_
            refine lv_goto (tgt := 86) hC.1 hC.2.1 d_AckBook_Arrivals_enter_82 (by decide) ?_
            refine lv_iload hC.1 hC.2.1 d_AckBook_Arrivals_enter_86 (lv_at hl 5 rfl) ?_
            obtain ⟨a_, fs_, eo_, h⟩ := z_this_spec h
            obtain ⟨w1_, o1_, hF_, ha_⟩ := z_cV_spec h
            refine x_goes hC hRc hRs hFr ha_ (z_goV (As := [.int (1 : Int32), .int pI3]) hC hZ zc5 eo_ (k_AckBook_Arrivals_hold hT hfl hE _ _ hF_) t_746 t_748 ts_AckBook_Arrivals_hold t_8 t_749 ⟨by decide, by decide, (by decide +kernel : (parseMethodDescriptor y_AckBook_Arrivals_hold.desc).map (fun d => d.parameters.length) = some 2)⟩ (by rw [hRt.1]; decide) (by rw [hRt.2]; decide) hl.1 rfl (by first | exact Nat.le_of_ble_eq_true rfl | simp [z_rfc, z_ci, z_cj]) d_AckBook_Arrivals_enter_88) (fun v_ hv H locs cells slots hZ => ?_)
            obtain ⟨rfl, h⟩ := hv
            generalize w1_ = w at h hZ
            refine lv_lload_n hC.1 hC.2.1 d_AckBook_Arrivals_enter_91 rfl (lv_at hl 3 rfl) ?_
            refine lv_lload hC.1 hC.2.1 d_AckBook_Arrivals_enter_92 (lv_at hl 0 rfl) ?_
            refine W.lcmp hC.1 hC.2.1 d_AckBook_Arrivals_enter_94 ?_
            refine lv_if_le (tgt := 104) hC.1 hC.2.1 d_AckBook_Arrivals_enter_95 (by decide) (fun hc => ?_) (fun hc => ?_)
            · have h := z_ifp hc h
              refine lv_iconst (v := (1 : Int32)) hC.1 hC.2.1 d_AckBook_Arrivals_enter_104 (by decide) ?_
              exact x_iret hC hRc hRs hZ hr rfl h d_AckBook_Arrivals_enter_105
            · have h := z_ifn hc h
              refine x_aload_n hC d_AckBook_Arrivals_enter_98 rfl (lv_at hl 2 rfl) ?_
              refine lv_iload hC.1 hC.2.1 d_AckBook_Arrivals_enter_99 (lv_at hl 5 rfl) ?_
              refine x_put hC hZ zc5 h (by decide) t_136 (fun _ h9 => h9) rfl rfl rfl rfl d_AckBook_Arrivals_enter_101 (fun w H locs hZ h => ?_)
              refine lv_iconst (v := (1 : Int32)) hC.1 hC.2.1 d_AckBook_Arrivals_enter_104 (by decide) ?_
              exact x_iret hC hRc hRs hZ hr rfl h d_AckBook_Arrivals_enter_105
    · have h := z_ifn hc h
      refine lv_lload_n hC.1 hC.2.1 d_AckBook_Arrivals_enter_25 rfl (lv_at hl 2 rfl) ?_
      refine x_aload_n hC d_AckBook_Arrivals_enter_26 rfl (lv_at hl 1 rfl) ?_
      refine x_getR hC hZ zc5 h (by decide) t_126 (fun _ h9 => h9) d_AckBook_Arrivals_enter_27 (fun r14 h => ?_)
      refine lv_iload hC.1 hC.2.1 d_AckBook_Arrivals_enter_30 (lv_at hl 0 rfl) ?_
      refine x_ldL hC hZ h d_AckBook_Arrivals_enter_32 (fun v15 h => ?_)
      refine W.lcmp hC.1 hC.2.1 d_AckBook_Arrivals_enter_33 ?_
      refine lv_if_gt (tgt := 39) hC.1 hC.2.1 d_AckBook_Arrivals_enter_34 (by decide) (fun hc => ?_) (fun hc => ?_)
      · have h := z_ifp hc h
        refine x_aload_n hC d_AckBook_Arrivals_enter_39 rfl (lv_at hl 1 rfl) ?_
        refine x_getI hC hZ zc5 h (by decide) t_128 (fun _ h9 => h9) d_AckBook_Arrivals_enter_40 (fun v16 h => ?_)
        refine lv_if_ne (tgt := 52) hC.1 hC.2.1 d_AckBook_Arrivals_enter_43 (by decide) (fun hc => ?_) (fun hc => ?_)
        · have h := z_ifn hc h
          refine x_aload_n hC d_AckBook_Arrivals_enter_52 rfl (lv_at hl 1 rfl) ?_
          refine x_getR hC hZ zc5 h (by decide) t_126 (fun _ h9 => h9) d_AckBook_Arrivals_enter_53 (fun r20 h => ?_)
          refine lv_iconst (v := (0 : Int32)) hC.1 hC.2.1 d_AckBook_Arrivals_enter_56 (by decide) ?_
          refine x_ldL hC hZ h d_AckBook_Arrivals_enter_57 (fun v21 h => ?_)
          refine lv_lstore (i := 6) (lv' := [(6, .long v21), (5, .int v2), (0, va_rf a0), (1, .long pJ1), (3, .int pI2), (4, .int pI3)]) hC.1 hC.2.1 d_AckBook_Arrivals_enter_58 hl (by decide) (by first | rfl | simp [z_rfc, z_ci, z_cj]) (fun ls hl => ?_)
          refine x_aload_n hC d_AckBook_Arrivals_enter_60 rfl (lv_at hl 2 rfl) ?_
          refine lv_lload_n hC.1 hC.2.1 d_AckBook_Arrivals_enter_61 rfl (lv_at hl 3 rfl) ?_
          refine lv_iload hC.1 hC.2.1 d_AckBook_Arrivals_enter_62 (lv_at hl 1 rfl) ?_
          obtain ⟨a_, fs_, eo_, h⟩ := z_this_spec h
          obtain ⟨w1_, o1_, hF_, ha_⟩ := z_cV_spec h
          refine x_goes hC hRc hRs hFr ha_ (z_goV (As := [.long pJ1, .int v2]) hC hZ zc5 eo_ (k_AckBook_Arrivals_keep hT hfl hE _ _ hF_) t_734 t_736 ts_AckBook_Arrivals_keep t_8 t_737 ⟨by decide, by decide, (by decide +kernel : (parseMethodDescriptor y_AckBook_Arrivals_keep.desc).map (fun d => d.parameters.length) = some 2)⟩ (by rw [hRt.1]; decide) (by rw [hRt.2]; decide) hl.1 rfl (by first | exact Nat.le_of_ble_eq_true rfl | simp [z_rfc, z_ci, z_cj]) d_AckBook_Arrivals_enter_64) (fun v_ hv H locs cells slots hZ => ?_)
          obtain ⟨rfl, h⟩ := hv
          generalize w1_ = w at h hZ
          refine lv_iload_n hC.1 hC.2.1 d_AckBook_Arrivals_enter_67 rfl (lv_at hl 4 rfl) ?_
          refine lv_if_eq (tgt := 91) hC.1 hC.2.1 d_AckBook_Arrivals_enter_68 (by decide) (fun hc => ?_) (fun hc => ?_)
          · have h := z_ifp hc h
            refine lv_lload_n hC.1 hC.2.1 d_AckBook_Arrivals_enter_91 rfl (lv_at hl 3 rfl) ?_
            refine lv_lload hC.1 hC.2.1 d_AckBook_Arrivals_enter_92 (lv_at hl 0 rfl) ?_
            refine W.lcmp hC.1 hC.2.1 d_AckBook_Arrivals_enter_94 ?_
            refine lv_if_le (tgt := 104) hC.1 hC.2.1 d_AckBook_Arrivals_enter_95 (by decide) (fun hc => ?_) (fun hc => ?_)
            · have h := z_ifp hc h
              refine lv_iconst (v := (1 : Int32)) hC.1 hC.2.1 d_AckBook_Arrivals_enter_104 (by decide) ?_
              exact x_iret hC hRc hRs hZ hr rfl h d_AckBook_Arrivals_enter_105
            · have h := z_ifn hc h
              refine x_aload_n hC d_AckBook_Arrivals_enter_98 rfl (lv_at hl 2 rfl) ?_
              refine lv_iload hC.1 hC.2.1 d_AckBook_Arrivals_enter_99 (lv_at hl 5 rfl) ?_
              refine x_put hC hZ zc5 h (by decide) t_136 (fun _ h9 => h9) rfl rfl rfl rfl d_AckBook_Arrivals_enter_101 (fun w H locs hZ h => ?_)
              refine lv_iconst (v := (1 : Int32)) hC.1 hC.2.1 d_AckBook_Arrivals_enter_104 (by decide) ?_
              exact x_iret hC hRc hRs hZ hr rfl h d_AckBook_Arrivals_enter_105
          · have h := z_ifn hc h
            refine x_aload_n hC d_AckBook_Arrivals_enter_71 rfl (lv_at hl 2 rfl) ?_
            refine lv_lload_n hC.1 hC.2.1 d_AckBook_Arrivals_enter_72 rfl (lv_at hl 3 rfl) ?_
            refine lv_lload hC.1 hC.2.1 d_AckBook_Arrivals_enter_73 (lv_at hl 0 rfl) ?_
            refine lv_lconst (v := (1 : Int64)) hC.1 hC.2.1 d_AckBook_Arrivals_enter_75 (by decide) ?_
            refine lv_ladd hC.1 hC.2.1 d_AckBook_Arrivals_enter_76 ?_
            refine W.lcmp hC.1 hC.2.1 d_AckBook_Arrivals_enter_77 ?_
            refine lv_if_eq (tgt := 85) hC.1 hC.2.1 d_AckBook_Arrivals_enter_78 (by decide) (fun hc => ?_) (fun hc => ?_)
            · have h := z_ifp hc h
              refine lv_iconst (v := (0 : Int32)) hC.1 hC.2.1 d_AckBook_Arrivals_enter_85 (by decide) ?_
              refine lv_iload hC.1 hC.2.1 d_AckBook_Arrivals_enter_86 (lv_at hl 5 rfl) ?_
              obtain ⟨a_, fs_, eo_, h⟩ := z_this_spec h
              obtain ⟨w1_, o1_, hF_, ha_⟩ := z_cV_spec h
              refine x_goes hC hRc hRs hFr ha_ (z_goV (As := [.int (0 : Int32), .int pI3]) hC hZ zc5 eo_ (k_AckBook_Arrivals_hold hT hfl hE _ _ hF_) t_746 t_748 ts_AckBook_Arrivals_hold t_8 t_749 ⟨by decide, by decide, (by decide +kernel : (parseMethodDescriptor y_AckBook_Arrivals_hold.desc).map (fun d => d.parameters.length) = some 2)⟩ (by rw [hRt.1]; decide) (by rw [hRt.2]; decide) hl.1 rfl (by first | exact Nat.le_of_ble_eq_true rfl | simp [z_rfc, z_ci, z_cj]) d_AckBook_Arrivals_enter_88) (fun v_ hv H locs cells slots hZ => ?_)
              obtain ⟨rfl, h⟩ := hv
              generalize w1_ = w at h hZ
              refine lv_lload_n hC.1 hC.2.1 d_AckBook_Arrivals_enter_91 rfl (lv_at hl 3 rfl) ?_
              refine lv_lload hC.1 hC.2.1 d_AckBook_Arrivals_enter_92 (lv_at hl 0 rfl) ?_
              refine W.lcmp hC.1 hC.2.1 d_AckBook_Arrivals_enter_94 ?_
              refine lv_if_le (tgt := 104) hC.1 hC.2.1 d_AckBook_Arrivals_enter_95 (by decide) (fun hc => ?_) (fun hc => ?_)
              · have h := z_ifp hc h
                refine lv_iconst (v := (1 : Int32)) hC.1 hC.2.1 d_AckBook_Arrivals_enter_104 (by decide) ?_
                exact x_iret hC hRc hRs hZ hr rfl h d_AckBook_Arrivals_enter_105
              · have h := z_ifn hc h
                refine x_aload_n hC d_AckBook_Arrivals_enter_98 rfl (lv_at hl 2 rfl) ?_
                refine lv_iload hC.1 hC.2.1 d_AckBook_Arrivals_enter_99 (lv_at hl 5 rfl) ?_
                refine x_put hC hZ zc5 h (by decide) t_136 (fun _ h9 => h9) rfl rfl rfl rfl d_AckBook_Arrivals_enter_101 (fun w H locs hZ h => ?_)
                refine lv_iconst (v := (1 : Int32)) hC.1 hC.2.1 d_AckBook_Arrivals_enter_104 (by decide) ?_
                exact x_iret hC hRc hRs hZ hr rfl h d_AckBook_Arrivals_enter_105
            · have h := z_ifn hc h
              refine lv_iconst (v := (1 : Int32)) hC.1 hC.2.1 d_AckBook_Arrivals_enter_81 (by decide) ?_
              refine lv_goto (tgt := 86) hC.1 hC.2.1 d_AckBook_Arrivals_enter_82 (by decide) ?_
              refine lv_iload hC.1 hC.2.1 d_AckBook_Arrivals_enter_86 (lv_at hl 5 rfl) ?_
              obtain ⟨a_, fs_, eo_, h⟩ := z_this_spec h
              obtain ⟨w1_, o1_, hF_, ha_⟩ := z_cV_spec h
              refine x_goes hC hRc hRs hFr ha_ (z_goV (As := [.int (1 : Int32), .int pI3]) hC hZ zc5 eo_ (k_AckBook_Arrivals_hold hT hfl hE _ _ hF_) t_746 t_748 ts_AckBook_Arrivals_hold t_8 t_749 ⟨by decide, by decide, (by decide +kernel : (parseMethodDescriptor y_AckBook_Arrivals_hold.desc).map (fun d => d.parameters.length) = some 2)⟩ (by rw [hRt.1]; decide) (by rw [hRt.2]; decide) hl.1 rfl (by first | exact Nat.le_of_ble_eq_true rfl | simp [z_rfc, z_ci, z_cj]) d_AckBook_Arrivals_enter_88) (fun v_ hv H locs cells slots hZ => ?_)
              obtain ⟨rfl, h⟩ := hv
              generalize w1_ = w at h hZ
              refine lv_lload_n hC.1 hC.2.1 d_AckBook_Arrivals_enter_91 rfl (lv_at hl 3 rfl) ?_
              refine lv_lload hC.1 hC.2.1 d_AckBook_Arrivals_enter_92 (lv_at hl 0 rfl) ?_
              refine W.lcmp hC.1 hC.2.1 d_AckBook_Arrivals_enter_94 ?_
              refine lv_if_le (tgt := 104) hC.1 hC.2.1 d_AckBook_Arrivals_enter_95 (by decide) (fun hc => ?_) (fun hc => ?_)
              · have h := z_ifp hc h
                refine lv_iconst (v := (1 : Int32)) hC.1 hC.2.1 d_AckBook_Arrivals_enter_104 (by decide) ?_
                exact x_iret hC hRc hRs hZ hr rfl h d_AckBook_Arrivals_enter_105
              · have h := z_ifn hc h
                refine x_aload_n hC d_AckBook_Arrivals_enter_98 rfl (lv_at hl 2 rfl) ?_
                refine lv_iload hC.1 hC.2.1 d_AckBook_Arrivals_enter_99 (lv_at hl 5 rfl) ?_
                refine x_put hC hZ zc5 h (by decide) t_136 (fun _ h9 => h9) rfl rfl rfl rfl d_AckBook_Arrivals_enter_101 (fun w H locs hZ h => ?_)
                refine lv_iconst (v := (1 : Int32)) hC.1 hC.2.1 d_AckBook_Arrivals_enter_104 (by decide) ?_
                exact x_iret hC hRc hRs hZ hr rfl h d_AckBook_Arrivals_enter_105
        · have h := z_ifp hc h
          refine lv_ldc2 (v := (-1 : Int64)) hC.1 hC.2.1 hC.2.2.2.1 ((hZ.1.tb hC.2.2.2.2.2.2 args) _ t_733) d_AckBook_Arrivals_enter_46 ?_
          refine lv_goto (tgt := 58) hC.1 hC.2.1 d_AckBook_Arrivals_enter_49 (by decide) ?_
          refine lv_lstore (i := 6) (lv' := [(6, .long (-1 : Int64)), (5, .int v2), (0, va_rf a0), (1, .long pJ1), (3, .int pI2), (4, .int pI3)]) hC.1 hC.2.1 d_AckBook_Arrivals_enter_58 hl (by decide) (by first | rfl | simp [z_rfc, z_ci, z_cj]) (fun ls hl => ?_)
          refine x_aload_n hC d_AckBook_Arrivals_enter_60 rfl (lv_at hl 2 rfl) ?_
          refine lv_lload_n hC.1 hC.2.1 d_AckBook_Arrivals_enter_61 rfl (lv_at hl 3 rfl) ?_
          refine lv_iload hC.1 hC.2.1 d_AckBook_Arrivals_enter_62 (lv_at hl 1 rfl) ?_
          obtain ⟨a_, fs_, eo_, h⟩ := z_this_spec h
          obtain ⟨w1_, o1_, hF_, ha_⟩ := z_cV_spec h
          refine x_goes hC hRc hRs hFr ha_ (z_goV (As := [.long pJ1, .int v2]) hC hZ zc5 eo_ (k_AckBook_Arrivals_keep hT hfl hE _ _ hF_) t_734 t_736 ts_AckBook_Arrivals_keep t_8 t_737 ⟨by decide, by decide, (by decide +kernel : (parseMethodDescriptor y_AckBook_Arrivals_keep.desc).map (fun d => d.parameters.length) = some 2)⟩ (by rw [hRt.1]; decide) (by rw [hRt.2]; decide) hl.1 rfl (by first | exact Nat.le_of_ble_eq_true rfl | simp [z_rfc, z_ci, z_cj]) d_AckBook_Arrivals_enter_64) (fun v_ hv H locs cells slots hZ => ?_)
          obtain ⟨rfl, h⟩ := hv
          generalize w1_ = w at h hZ
          refine lv_iload_n hC.1 hC.2.1 d_AckBook_Arrivals_enter_67 rfl (lv_at hl 4 rfl) ?_
          refine lv_if_eq (tgt := 91) hC.1 hC.2.1 d_AckBook_Arrivals_enter_68 (by decide) (fun hc => ?_) (fun hc => ?_)
          · have h := z_ifp hc h
            refine lv_lload_n hC.1 hC.2.1 d_AckBook_Arrivals_enter_91 rfl (lv_at hl 3 rfl) ?_
            refine lv_lload hC.1 hC.2.1 d_AckBook_Arrivals_enter_92 (lv_at hl 0 rfl) ?_
            refine W.lcmp hC.1 hC.2.1 d_AckBook_Arrivals_enter_94 ?_
            refine lv_if_le (tgt := 104) hC.1 hC.2.1 d_AckBook_Arrivals_enter_95 (by decide) (fun hc => ?_) (fun hc => ?_)
            · have h := z_ifp hc h
              refine lv_iconst (v := (1 : Int32)) hC.1 hC.2.1 d_AckBook_Arrivals_enter_104 (by decide) ?_
              exact x_iret hC hRc hRs hZ hr rfl h d_AckBook_Arrivals_enter_105
            · have h := z_ifn hc h
              refine x_aload_n hC d_AckBook_Arrivals_enter_98 rfl (lv_at hl 2 rfl) ?_
              refine lv_iload hC.1 hC.2.1 d_AckBook_Arrivals_enter_99 (lv_at hl 5 rfl) ?_
              refine x_put hC hZ zc5 h (by decide) t_136 (fun _ h9 => h9) rfl rfl rfl rfl d_AckBook_Arrivals_enter_101 (fun w H locs hZ h => ?_)
              refine lv_iconst (v := (1 : Int32)) hC.1 hC.2.1 d_AckBook_Arrivals_enter_104 (by decide) ?_
              exact x_iret hC hRc hRs hZ hr rfl h d_AckBook_Arrivals_enter_105
          · have h := z_ifn hc h
            refine x_aload_n hC d_AckBook_Arrivals_enter_71 rfl (lv_at hl 2 rfl) ?_
            refine lv_lload_n hC.1 hC.2.1 d_AckBook_Arrivals_enter_72 rfl (lv_at hl 3 rfl) ?_
            refine lv_lload hC.1 hC.2.1 d_AckBook_Arrivals_enter_73 (lv_at hl 0 rfl) ?_
            refine lv_lconst (v := (1 : Int64)) hC.1 hC.2.1 d_AckBook_Arrivals_enter_75 (by decide) ?_
            refine lv_ladd hC.1 hC.2.1 d_AckBook_Arrivals_enter_76 ?_
            refine W.lcmp hC.1 hC.2.1 d_AckBook_Arrivals_enter_77 ?_
            refine lv_if_eq (tgt := 85) hC.1 hC.2.1 d_AckBook_Arrivals_enter_78 (by decide) (fun hc => ?_) (fun hc => ?_)
            · have h := z_ifp hc h
              refine lv_iconst (v := (0 : Int32)) hC.1 hC.2.1 d_AckBook_Arrivals_enter_85 (by decide) ?_
              refine lv_iload hC.1 hC.2.1 d_AckBook_Arrivals_enter_86 (lv_at hl 5 rfl) ?_
              obtain ⟨a_, fs_, eo_, h⟩ := z_this_spec h
              obtain ⟨w1_, o1_, hF_, ha_⟩ := z_cV_spec h
              refine x_goes hC hRc hRs hFr ha_ (z_goV (As := [.int (0 : Int32), .int pI3]) hC hZ zc5 eo_ (k_AckBook_Arrivals_hold hT hfl hE _ _ hF_) t_746 t_748 ts_AckBook_Arrivals_hold t_8 t_749 ⟨by decide, by decide, (by decide +kernel : (parseMethodDescriptor y_AckBook_Arrivals_hold.desc).map (fun d => d.parameters.length) = some 2)⟩ (by rw [hRt.1]; decide) (by rw [hRt.2]; decide) hl.1 rfl (by first | exact Nat.le_of_ble_eq_true rfl | simp [z_rfc, z_ci, z_cj]) d_AckBook_Arrivals_enter_88) (fun v_ hv H locs cells slots hZ => ?_)
              obtain ⟨rfl, h⟩ := hv
              generalize w1_ = w at h hZ
              refine lv_lload_n hC.1 hC.2.1 d_AckBook_Arrivals_enter_91 rfl (lv_at hl 3 rfl) ?_
              refine lv_lload hC.1 hC.2.1 d_AckBook_Arrivals_enter_92 (lv_at hl 0 rfl) ?_
              refine W.lcmp hC.1 hC.2.1 d_AckBook_Arrivals_enter_94 ?_
              refine lv_if_le (tgt := 104) hC.1 hC.2.1 d_AckBook_Arrivals_enter_95 (by decide) (fun hc => ?_) (fun hc => ?_)
              · have h := z_ifp hc h
                refine lv_iconst (v := (1 : Int32)) hC.1 hC.2.1 d_AckBook_Arrivals_enter_104 (by decide) ?_
                exact x_iret hC hRc hRs hZ hr rfl h d_AckBook_Arrivals_enter_105
              · have h := z_ifn hc h
                refine x_aload_n hC d_AckBook_Arrivals_enter_98 rfl (lv_at hl 2 rfl) ?_
                refine lv_iload hC.1 hC.2.1 d_AckBook_Arrivals_enter_99 (lv_at hl 5 rfl) ?_
                refine x_put hC hZ zc5 h (by decide) t_136 (fun _ h9 => h9) rfl rfl rfl rfl d_AckBook_Arrivals_enter_101 (fun w H locs hZ h => ?_)
                refine lv_iconst (v := (1 : Int32)) hC.1 hC.2.1 d_AckBook_Arrivals_enter_104 (by decide) ?_
                exact x_iret hC hRc hRs hZ hr rfl h d_AckBook_Arrivals_enter_105
            · have h := z_ifn hc h
              refine lv_iconst (v := (1 : Int32)) hC.1 hC.2.1 d_AckBook_Arrivals_enter_81 (by decide) ?_
              refine lv_goto (tgt := 86) hC.1 hC.2.1 d_AckBook_Arrivals_enter_82 (by decide) ?_
              refine lv_iload hC.1 hC.2.1 d_AckBook_Arrivals_enter_86 (lv_at hl 5 rfl) ?_
              obtain ⟨a_, fs_, eo_, h⟩ := z_this_spec h
              obtain ⟨w1_, o1_, hF_, ha_⟩ := z_cV_spec h
              refine x_goes hC hRc hRs hFr ha_ (z_goV (As := [.int (1 : Int32), .int pI3]) hC hZ zc5 eo_ (k_AckBook_Arrivals_hold hT hfl hE _ _ hF_) t_746 t_748 ts_AckBook_Arrivals_hold t_8 t_749 ⟨by decide, by decide, (by decide +kernel : (parseMethodDescriptor y_AckBook_Arrivals_hold.desc).map (fun d => d.parameters.length) = some 2)⟩ (by rw [hRt.1]; decide) (by rw [hRt.2]; decide) hl.1 rfl (by first | exact Nat.le_of_ble_eq_true rfl | simp [z_rfc, z_ci, z_cj]) d_AckBook_Arrivals_enter_88) (fun v_ hv H locs cells slots hZ => ?_)
              obtain ⟨rfl, h⟩ := hv
              generalize w1_ = w at h hZ
              refine lv_lload_n hC.1 hC.2.1 d_AckBook_Arrivals_enter_91 rfl (lv_at hl 3 rfl) ?_
              refine lv_lload hC.1 hC.2.1 d_AckBook_Arrivals_enter_92 (lv_at hl 0 rfl) ?_
              refine W.lcmp hC.1 hC.2.1 d_AckBook_Arrivals_enter_94 ?_
              refine lv_if_le (tgt := 104) hC.1 hC.2.1 d_AckBook_Arrivals_enter_95 (by decide) (fun hc => ?_) (fun hc => ?_)
              · have h := z_ifp hc h
                refine lv_iconst (v := (1 : Int32)) hC.1 hC.2.1 d_AckBook_Arrivals_enter_104 (by decide) ?_
                exact x_iret hC hRc hRs hZ hr rfl h d_AckBook_Arrivals_enter_105
              · have h := z_ifn hc h
                refine x_aload_n hC d_AckBook_Arrivals_enter_98 rfl (lv_at hl 2 rfl) ?_
                refine lv_iload hC.1 hC.2.1 d_AckBook_Arrivals_enter_99 (lv_at hl 5 rfl) ?_
                refine x_put hC hZ zc5 h (by decide) t_136 (fun _ h9 => h9) rfl rfl rfl rfl d_AckBook_Arrivals_enter_101 (fun w H locs hZ h => ?_)
                refine lv_iconst (v := (1 : Int32)) hC.1 hC.2.1 d_AckBook_Arrivals_enter_104 (by decide) ?_
                exact x_iret hC hRc hRs hZ hr rfl h d_AckBook_Arrivals_enter_105
      · have h := z_ifn hc h
        refine lv_iconst (v := (0 : Int32)) hC.1 hC.2.1 d_AckBook_Arrivals_enter_37 (by decide) ?_
        exact x_iret hC hRc hRs hZ hr rfl h d_AckBook_Arrivals_enter_38
