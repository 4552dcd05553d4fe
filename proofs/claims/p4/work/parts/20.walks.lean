def f_AckBook_Chain_init (F X : Nat) (a0 : Option Nat) (w : zW) : zR :=
  z_nn a0 <|
  some (.inl none, w)
set_option maxHeartbeats 4000000 in
set_option maxRecDepth 100000 in
theorem k_AckBook_Chain_init {b0 : Nat} {H0 : Heap} {D : va_G} {vu vs : Value} {X M : Nat} {l : Launch} (hT : z_TB (zGG b0 H0 D vu vs X M)) (hfl : l.flags = pinnedFlags ++ [noTraceFlag]) (hE : vu.isRef = true ∧ vs.isRef = true) {a0 : Option Nat} (F : Nat) {w : zW} (res : zO × zW) (h : f_AckBook_Chain_init F X a0 w = some res) : z_Ct (zGG b0 H0 D vu vs X M) l y_AckBook_Chain_init (.code y_AckBook_Chain_init c_AckBook_Chain_init 1 (none)) 1 28 [va_rf a0] w res := by
  refine z_ct hT hfl (by decide) (by simp only [z_sl_i, z_sl_j, z_sl_r, z_sl_n]; decide) ?_
  intro p e R s m args below meth c hC hr hRc hRs hRt hnm hFr H ls hZ hl
  simp only [z_la_i, z_la_j, z_la_r, z_la_n] at hl
  have hl : lv_has ls 1 [(0, va_rf a0)] := hl
  unfold f_AckBook_Chain_init at h
  refine x_aload_n hC d_AckBook_Chain_init_0 rfl (lv_at hl 0 rfl) ?_
  obtain ⟨_, e_, h⟩ := z_nn_spec h
  refine x_objInit hC hZ e_ t_52 ⟨t_32, t_33⟩ hl.1 d_AckBook_Chain_init_1 (by rw [hRt.1]; decide) (by rw [hRt.2]; first | exact Nat.le_of_ble_eq_true rfl | simp [z_rfc, z_ci, z_cj]) ?_
  exact x_vret hC hRc hRs hZ hr h d_AckBook_Chain_init_4
def f_AbstractCollection_init (F X : Nat) (a0 : Option Nat) (w : zW) : zR :=
  z_nn a0 <|
  some (.inl none, w)
set_option maxHeartbeats 4000000 in
set_option maxRecDepth 100000 in
theorem k_AbstractCollection_init {b0 : Nat} {H0 : Heap} {D : va_G} {vu vs : Value} {X M : Nat} {l : Launch} (hT : z_TB (zGG b0 H0 D vu vs X M)) (hfl : l.flags = pinnedFlags ++ [noTraceFlag]) (hE : vu.isRef = true ∧ vs.isRef = true) {a0 : Option Nat} (F : Nat) {w : zW} (res : zO × zW) (h : f_AbstractCollection_init F X a0 w = some res) : z_Ct (zGG b0 H0 D vu vs X M) l y_AbstractCollection_init (.code y_AbstractCollection_init c_AbstractCollection_init 1 (none)) 1 28 [va_rf a0] w res := by
  refine z_ct hT hfl (by decide) (by simp only [z_sl_i, z_sl_j, z_sl_r, z_sl_n]; decide) ?_
  intro p e R s m args below meth c hC hr hRc hRs hRt hnm hFr H ls hZ hl
  simp only [z_la_i, z_la_j, z_la_r, z_la_n] at hl
  have hl : lv_has ls 1 [(0, va_rf a0)] := hl
  unfold f_AbstractCollection_init at h
  refine x_aload_n hC d_AbstractCollection_init_0 rfl (lv_at hl 0 rfl) ?_
  obtain ⟨_, e_, h⟩ := z_nn_spec h
  refine x_objInit hC hZ e_ t_71 ⟨t_32, t_33⟩ hl.1 d_AbstractCollection_init_1 (by rw [hRt.1]; decide) (by rw [hRt.2]; first | exact Nat.le_of_ble_eq_true rfl | simp [z_rfc, z_ci, z_cj]) ?_
  exact x_vret hC hRc hRs hZ hr h d_AbstractCollection_init_4
def f_AbstractList_init (F X : Nat) (a0 : Option Nat) (w : zW) : zR :=
  z_nn a0 <|
  z_cV (f_AbstractCollection_init F X a0 w) fun w =>
  z_put w 4 2 a0 (.int (0 : Int32)) fun w =>
  some (.inl none, w)
set_option maxHeartbeats 4000000 in
set_option maxRecDepth 100000 in
theorem k_AbstractList_init {b0 : Nat} {H0 : Heap} {D : va_G} {vu vs : Value} {X M : Nat} {l : Launch} (hT : z_TB (zGG b0 H0 D vu vs X M)) (hfl : l.flags = pinnedFlags ++ [noTraceFlag]) (hE : vu.isRef = true ∧ vs.isRef = true) {a0 : Option Nat} (F : Nat) {w : zW} (res : zO × zW) (h : f_AbstractList_init F X a0 w = some res) : z_Ct (zGG b0 H0 D vu vs X M) l y_AbstractList_init (.code y_AbstractList_init c_AbstractList_init 1 (none)) 2 48 [va_rf a0] w res := by
  refine z_ct hT hfl (by decide) (by simp only [z_sl_i, z_sl_j, z_sl_r, z_sl_n]; decide) ?_
  intro p e R s m args below meth c hC hr hRc hRs hRt hnm hFr H ls hZ hl
  simp only [z_la_i, z_la_j, z_la_r, z_la_n] at hl
  have hl : lv_has ls 1 [(0, va_rf a0)] := hl
  unfold f_AbstractList_init at h
  refine x_aload_n hC d_AbstractList_init_0 rfl (lv_at hl 0 rfl) ?_
  obtain ⟨a_, eo_, h⟩ := z_nn_spec h
  obtain ⟨w1_, o1_, hF_, ha_⟩ := z_cV_spec h
  refine x_goes hC hRc hRs hFr ha_ (z_goI (As := []) hC hZ eo_ (k_AbstractCollection_init hT hfl hE _ _ hF_) t_68 t_69 t_5 t_70 rfl ⟨by decide, by decide, (by decide +kernel : (parseMethodDescriptor y_AbstractCollection_init.desc).map (fun d => d.parameters.length) = some 0)⟩ (by rw [hRt.1]; decide) (by rw [hRt.2]; decide) hl.1 rfl (by first | exact Nat.le_of_ble_eq_true rfl | simp [z_rfc, z_ci, z_cj]) d_AbstractList_init_1) (fun v_ hv H locs cells slots hZ => ?_)
  obtain ⟨rfl, h⟩ := hv
  generalize w1_ = w at h hZ
  refine x_aload_n hC d_AbstractList_init_4 rfl (lv_at hl 0 rfl) ?_
  refine lv_iconst (v := (0 : Int32)) hC.1 hC.2.1 d_AbstractList_init_5 (by decide) ?_
  refine x_put hC hZ zc4 h (by decide) t_76 (fun _ h9 => h9) rfl rfl rfl rfl d_AbstractList_init_6 (fun w H locs hZ h => ?_)
  exact x_vret hC hRc hRs hZ hr h d_AbstractList_init_9
def f_ArrayList_init (F X : Nat) (a0 : Option Nat) (w : zW) : zR :=
  z_nn a0 <|
  z_cV (f_AbstractList_init F X a0 w) fun w =>
  z_put w 4 0 a0 (va_rf (some X)) fun w =>
  some (.inl none, w)
set_option maxHeartbeats 4000000 in
set_option maxRecDepth 100000 in
theorem k_ArrayList_init {b0 : Nat} {H0 : Heap} {D : va_G} {vu vs : Value} {X M : Nat} {l : Launch} (hT : z_TB (zGG b0 H0 D vu vs X M)) (hfl : l.flags = pinnedFlags ++ [noTraceFlag]) (hE : vu.isRef = true ∧ vs.isRef = true) {a0 : Option Nat} (F : Nat) {w : zW} (res : zO × zW) (h : f_ArrayList_init F X a0 w = some res) : z_Ct (zGG b0 H0 D vu vs X M) l y_ArrayList_init (.code y_ArrayList_init c_ArrayList_init 1 (none)) 3 68 [va_rf a0] w res := by
  refine z_ct hT hfl (by decide) (by simp only [z_sl_i, z_sl_j, z_sl_r, z_sl_n]; decide) ?_
  intro p e R s m args below meth c hC hr hRc hRs hRt hnm hFr H ls hZ hl
  simp only [z_la_i, z_la_j, z_la_r, z_la_n] at hl
  have hl : lv_has ls 1 [(0, va_rf a0)] := hl
  unfold f_ArrayList_init at h
  refine x_aload_n hC d_ArrayList_init_0 rfl (lv_at hl 0 rfl) ?_
  obtain ⟨a_, eo_, h⟩ := z_nn_spec h
  obtain ⟨w1_, o1_, hF_, ha_⟩ := z_cV_spec h
  refine x_goes hC hRc hRs hFr ha_ (z_goI (As := []) hC hZ eo_ (k_AbstractList_init hT hfl hE _ _ hF_) t_65 t_66 t_6 t_67 rfl ⟨by decide, by decide, (by decide +kernel : (parseMethodDescriptor y_AbstractList_init.desc).map (fun d => d.parameters.length) = some 0)⟩ (by rw [hRt.1]; decide) (by rw [hRt.2]; decide) hl.1 rfl (by first | exact Nat.le_of_ble_eq_true rfl | simp [z_rfc, z_ci, z_cj]) d_ArrayList_init_1) (fun v_ hv H locs cells slots hZ => ?_)
  obtain ⟨rfl, h⟩ := hv
  generalize w1_ = w at h hZ
  refine x_aload_n hC d_ArrayList_init_4 rfl (lv_at hl 0 rfl) ?_
  refine x_getsR hC hZ (List.mem_cons_of_mem _ (List.mem_cons_of_mem _ List.mem_cons_self)) t_72 d_ArrayList_init_5 ?_
  refine x_put hC hZ zc4 h (by decide) t_74 (fun _ h9 => h9) rfl rfl (z_rfnA _ _) (z_rffA _ _) d_ArrayList_init_8 (fun w H locs hZ h => ?_)
  exact x_vret hC hRc hRs hZ hr h d_ArrayList_init_11
def f_AckBook_Sent_init (F X : Nat) (a0 : Option Nat) (w : zW) : zR :=
  z_nn a0 <|
  z_new w 3 2 [.null, .null] fun a1 w =>
  z_nn (some a1) <|
  z_cV (f_AckBook_Chain_init F X (some a1) w) fun w =>
  z_put w 2 0 a0 (va_rf (some a1)) fun w =>
  z_new w 3 2 [.null, .null] fun a3 w =>
  z_nn (some a3) <|
  z_cV (f_AckBook_Chain_init F X (some a3) w) fun w =>
  z_put w 2 1 a0 (va_rf (some a3)) fun w =>
  z_new w 4 3 [.null, .int 0, .int 0] fun a5 w =>
  z_nn (some a5) <|
  z_cV (f_ArrayList_init F X (some a5) w) fun w =>
  z_put w 2 2 a0 (va_rf (some a5)) fun w =>
  z_put w 2 6 a0 (.int (-1 : Int32)) fun w =>
  z_put w 2 7 a0 (.int (-1 : Int32)) fun w =>
  some (.inl none, w)
set_option maxHeartbeats 4000000 in
set_option maxRecDepth 100000 in
theorem k_AckBook_Sent_init {b0 : Nat} {H0 : Heap} {D : va_G} {vu vs : Value} {X M : Nat} {l : Launch} (hT : z_TB (zGG b0 H0 D vu vs X M)) (hfl : l.flags = pinnedFlags ++ [noTraceFlag]) (hE : vu.isRef = true ∧ vs.isRef = true) {a0 : Option Nat} (F : Nat) {w : zW} (res : zO × zW) (h : f_AckBook_Sent_init F X a0 w = some res) : z_Ct (zGG b0 H0 D vu vs X M) l y_AckBook_Sent_init (.code y_AckBook_Sent_init c_AckBook_Sent_init 1 (none)) 4 88 [va_rf a0] w res := by
  refine z_ct hT hfl (by decide) (by simp only [z_sl_i, z_sl_j, z_sl_r, z_sl_n]; decide) ?_
  intro p e R s m args below meth c hC hr hRc hRs hRt hnm hFr H ls hZ hl
  simp only [z_la_i, z_la_j, z_la_r, z_la_n] at hl
  have hl : lv_has ls 1 [(0, va_rf a0)] := hl
  unfold f_AckBook_Sent_init at h
  refine x_aload_n hC d_AckBook_Sent_init_0 rfl (lv_at hl 0 rfl) ?_
  obtain ⟨_, e_, h⟩ := z_nn_spec h
  refine x_objInit hC hZ e_ t_46 ⟨t_32, t_33⟩ hl.1 d_AckBook_Sent_init_1 (by rw [hRt.1]; decide) (by rw [hRt.2]; first | exact Nat.le_of_ble_eq_true rfl | simp [z_rfc, z_ci, z_cj]) ?_
  refine x_aload_n hC d_AckBook_Sent_init_4 rfl (lv_at hl 0 rfl) ?_
  refine x_new hC hZ zc3 h t_47 t_48 t_4 (fun j hj => match j, hj with | 0, _ => rfl | 1, _ => rfl | _ + 2, hj => absurd hj (by omega)) d_AckBook_Sent_init_5 (fun a1 w H cells slots hZ h => ?_)
  refine lv_dup hC.1 hC.2.1 d_AckBook_Sent_init_8 (z_rfc _) ?_
  obtain ⟨a_, eo_, h⟩ := z_nn_spec h
  obtain ⟨w1_, o1_, hF_, ha_⟩ := z_cV_spec h
  refine x_goes hC hRc hRs hFr ha_ (z_goIN (As := []) hC hZ eo_ (k_AckBook_Chain_init hT hfl hE _ _ hF_) t_49 t_50 t_4 t_51 rfl ⟨by decide, by decide, (by decide +kernel : (parseMethodDescriptor y_AckBook_Chain_init.desc).map (fun d => d.parameters.length) = some 0)⟩ (by rw [hRt.1]; decide) (by rw [hRt.2]; decide) hl.1 rfl (by first | exact Nat.le_of_ble_eq_true rfl | simp [z_rfc, z_ci, z_cj]) d_AckBook_Sent_init_9) (fun v_ hv H locs cells slots hZ => ?_)
  obtain ⟨rfl, h⟩ := hv
  generalize w1_ = w at h hZ
  refine x_putF hC hZ zc2 h (by decide) t_86 (fun _ h9 => h9) rfl hnm rfl rfl (z_rfn _ _) (z_rff _ _) d_AckBook_Sent_init_12 (fun w H locs hZ h => ?_)
  refine x_aload_n hC d_AckBook_Sent_init_15 rfl (lv_at hl 0 rfl) ?_
  refine x_new hC hZ zc3 h t_47 t_48 t_4 (fun j hj => match j, hj with | 0, _ => rfl | 1, _ => rfl | _ + 2, hj => absurd hj (by omega)) d_AckBook_Sent_init_16 (fun a3 w H cells slots hZ h => ?_)
  refine lv_dup hC.1 hC.2.1 d_AckBook_Sent_init_19 (z_rfc _) ?_
  obtain ⟨a_, eo_, h⟩ := z_nn_spec h
  obtain ⟨w1_, o1_, hF_, ha_⟩ := z_cV_spec h
  refine x_goes hC hRc hRs hFr ha_ (z_goIN (As := []) hC hZ eo_ (k_AckBook_Chain_init hT hfl hE _ _ hF_) t_49 t_50 t_4 t_51 rfl ⟨by decide, by decide, (by decide +kernel : (parseMethodDescriptor y_AckBook_Chain_init.desc).map (fun d => d.parameters.length) = some 0)⟩ (by rw [hRt.1]; decide) (by rw [hRt.2]; decide) hl.1 rfl (by first | exact Nat.le_of_ble_eq_true rfl | simp [z_rfc, z_ci, z_cj]) d_AckBook_Sent_init_20) (fun v_ hv H locs cells slots hZ => ?_)
  obtain ⟨rfl, h⟩ := hv
  generalize w1_ = w at h hZ
  refine x_putF hC hZ zc2 h (by decide) t_88 (fun _ h9 => h9) rfl hnm rfl rfl (z_rfn _ _) (z_rff _ _) d_AckBook_Sent_init_23 (fun w H locs hZ h => ?_)
  refine x_aload_n hC d_AckBook_Sent_init_26 rfl (lv_at hl 0 rfl) ?_
  refine x_new hC hZ zc4 h t_60 t_61 t_7 (fun j hj => match j, hj with | 0, _ => rfl | 1, _ => rfl | 2, _ => rfl | _ + 3, hj => absurd hj (by omega)) d_AckBook_Sent_init_27 (fun a5 w H cells slots hZ h => ?_)
  refine lv_dup hC.1 hC.2.1 d_AckBook_Sent_init_30 (z_rfc _) ?_
  obtain ⟨a_, eo_, h⟩ := z_nn_spec h
  obtain ⟨w1_, o1_, hF_, ha_⟩ := z_cV_spec h
  refine x_goes hC hRc hRs hFr ha_ (z_goI (As := []) hC hZ eo_ (k_ArrayList_init hT hfl hE _ _ hF_) t_62 t_63 t_7 t_64 rfl ⟨by decide, by decide, (by decide +kernel : (parseMethodDescriptor y_ArrayList_init.desc).map (fun d => d.parameters.length) = some 0)⟩ (by rw [hRt.1]; decide) (by rw [hRt.2]; decide) hl.1 rfl (by first | exact Nat.le_of_ble_eq_true rfl | simp [z_rfc, z_ci, z_cj]) d_AckBook_Sent_init_31) (fun v_ hv H locs cells slots hZ => ?_)
  obtain ⟨rfl, h⟩ := hv
  generalize w1_ = w at h hZ
  refine x_putF hC hZ zc2 h (by decide) t_90 (fun _ h9 => h9) rfl hnm rfl rfl (z_rfn _ _) (z_rff _ _) d_AckBook_Sent_init_34 (fun w H locs hZ h => ?_)
  refine x_aload_n hC d_AckBook_Sent_init_37 rfl (lv_at hl 0 rfl) ?_
  refine lv_iconst (v := (-1 : Int32)) hC.1 hC.2.1 d_AckBook_Sent_init_38 (by decide) ?_
  refine x_put hC hZ zc2 h (by decide) t_97 (fun _ h9 => h9) rfl rfl rfl rfl d_AckBook_Sent_init_39 (fun w H locs hZ h => ?_)
  refine x_aload_n hC d_AckBook_Sent_init_42 rfl (lv_at hl 0 rfl) ?_
  refine lv_iconst (v := (-1 : Int32)) hC.1 hC.2.1 d_AckBook_Sent_init_43 (by decide) ?_
  refine x_put hC hZ zc2 h (by decide) t_99 (fun _ h9 => h9) rfl rfl rfl rfl d_AckBook_Sent_init_44 (fun w H locs hZ h => ?_)
  exact x_vret hC hRc hRs hZ hr h d_AckBook_Sent_init_47
def f_AckBook_Arrivals_init (F X : Nat) (a0 : Option Nat) (w : zW) : zR :=
  z_nn a0 <|
  z_newa w .long (65 : Int32) (fun n => (n, .inr (.inl fun _ => 0))) fun a1 w =>
  z_put w 5 0 a0 (va_rf (some a1)) fun w =>
  z_newa w .long (65 : Int32) (fun n => (n, .inr (.inl fun _ => 0))) fun a2 w =>
  z_put w 5 1 a0 (va_rf (some a2)) fun w =>
  some (.inl none, w)
set_option maxHeartbeats 4000000 in
set_option maxRecDepth 100000 in
theorem k_AckBook_Arrivals_init {b0 : Nat} {H0 : Heap} {D : va_G} {vu vs : Value} {X M : Nat} {l : Launch} (hT : z_TB (zGG b0 H0 D vu vs X M)) (hfl : l.flags = pinnedFlags ++ [noTraceFlag]) (hE : vu.isRef = true ∧ vs.isRef = true) {a0 : Option Nat} (F : Nat) {w : zW} (res : zO × zW) (h : f_AckBook_Arrivals_init F X a0 w = some res) : z_Ct (zGG b0 H0 D vu vs X M) l y_AckBook_Arrivals_init (.code y_AckBook_Arrivals_init c_AckBook_Arrivals_init 1 (none)) 1 28 [va_rf a0] w res := by
  refine z_ct hT hfl (by decide) (by simp only [z_sl_i, z_sl_j, z_sl_r, z_sl_n]; decide) ?_
  intro p e R s m args below meth c hC hr hRc hRs hRt hnm hFr H ls hZ hl
  simp only [z_la_i, z_la_j, z_la_r, z_la_n] at hl
  have hl : lv_has ls 1 [(0, va_rf a0)] := hl
  unfold f_AckBook_Arrivals_init at h
  refine x_aload_n hC d_AckBook_Arrivals_init_0 rfl (lv_at hl 0 rfl) ?_
  obtain ⟨_, e_, h⟩ := z_nn_spec h
  refine x_objInit hC hZ e_ t_123 ⟨t_32, t_33⟩ hl.1 d_AckBook_Arrivals_init_1 (by rw [hRt.1]; decide) (by rw [hRt.2]; first | exact Nat.le_of_ble_eq_true rfl | simp [z_rfc, z_ci, z_cj]) ?_
  refine x_aload_n hC d_AckBook_Arrivals_init_4 rfl (lv_at hl 0 rfl) ?_
  refine lv_bipush (v := (65 : Int32)) hC.1 hC.2.1 d_AckBook_Arrivals_init_5 (by decide) ?_
  refine x_newaJ hC hZ h t_154 d_AckBook_Arrivals_init_7 (fun a1 w H cells slots hZ h => ?_)
  refine x_putF hC hZ zc5 h (by decide) t_124 (fun _ h9 => h9) rfl hnm rfl rfl (z_rfnA _ _) (z_rffA _ _) d_AckBook_Arrivals_init_9 (fun w H locs hZ h => ?_)
  refine x_aload_n hC d_AckBook_Arrivals_init_12 rfl (lv_at hl 0 rfl) ?_
  refine lv_bipush (v := (65 : Int32)) hC.1 hC.2.1 d_AckBook_Arrivals_init_13 (by decide) ?_
  refine x_newaJ hC hZ h t_154 d_AckBook_Arrivals_init_15 (fun a2 w H cells slots hZ h => ?_)
  refine x_putF hC hZ zc5 h (by decide) t_126 (fun _ h9 => h9) rfl hnm rfl rfl (z_rfnA _ _) (z_rffA _ _) d_AckBook_Arrivals_init_17 (fun w H locs hZ h => ?_)
  exact x_vret hC hRc hRs hZ hr h d_AckBook_Arrivals_init_20
def f_AckBook_Space_init (F X : Nat) (a0 : Option Nat) (pI1 : Int32) (w : zW) : zR :=
  z_nn a0 <|
  z_put w 1 0 a0 (.int pI1) fun w =>
  z_new w 2 8 [.null, .null, .null, .int 0, .int 0, .int 0, .int 0, .int 0] fun a1 w =>
  z_nn (some a1) <|
  z_cV (f_AckBook_Sent_init F X (some a1) w) fun w =>
  z_put w 1 1 a0 (va_rf (some a1)) fun w =>
  z_new w 5 8 [.null, .null, .int 0, .long 0, .int 0, .int 0, .int 0, .int 0] fun a3 w =>
  z_nn (some a3) <|
  z_cV (f_AckBook_Arrivals_init F X (some a3) w) fun w =>
  z_put w 1 2 a0 (va_rf (some a3)) fun w =>
  some (.inl none, w)
set_option maxHeartbeats 4000000 in
set_option maxRecDepth 100000 in
theorem k_AckBook_Space_init {b0 : Nat} {H0 : Heap} {D : va_G} {vu vs : Value} {X M : Nat} {l : Launch} (hT : z_TB (zGG b0 H0 D vu vs X M)) (hfl : l.flags = pinnedFlags ++ [noTraceFlag]) (hE : vu.isRef = true ∧ vs.isRef = true) {a0 : Option Nat} {pI1 : Int32} (F : Nat) {w : zW} (res : zO × zW) (h : f_AckBook_Space_init F X a0 pI1 w = some res) : z_Ct (zGG b0 H0 D vu vs X M) l y_AckBook_Space_init (.code y_AckBook_Space_init c_AckBook_Space_init 2 (none)) 5 108 [va_rf a0, .int pI1] w res := by
  refine z_ct hT hfl (by decide) (by simp only [z_sl_i, z_sl_j, z_sl_r, z_sl_n]; decide) ?_
  intro p e R s m args below meth c hC hr hRc hRs hRt hnm hFr H ls hZ hl
  simp only [z_la_i, z_la_j, z_la_r, z_la_n] at hl
  have hl : lv_has ls 2 [(0, va_rf a0), (1, .int pI1)] := hl
  unfold f_AckBook_Space_init at h
  refine x_aload_n hC d_AckBook_Space_init_0 rfl (lv_at hl 0 rfl) ?_
  obtain ⟨_, e_, h⟩ := z_nn_spec h
  refine x_objInit hC hZ e_ t_40 ⟨t_32, t_33⟩ hl.1 d_AckBook_Space_init_1 (by rw [hRt.1]; decide) (by rw [hRt.2]; first | exact Nat.le_of_ble_eq_true rfl | simp [z_rfc, z_ci, z_cj]) ?_
  refine x_aload_n hC d_AckBook_Space_init_4 rfl (lv_at hl 0 rfl) ?_
  refine lv_iload_n hC.1 hC.2.1 d_AckBook_Space_init_5 rfl (lv_at hl 1 rfl) ?_
  refine x_putF hC hZ zc1 h (by decide) t_155 (fun _ h9 => h9) rfl hnm rfl rfl rfl rfl d_AckBook_Space_init_6 (fun w H locs hZ h => ?_)
  refine x_aload_n hC d_AckBook_Space_init_9 rfl (lv_at hl 0 rfl) ?_
  refine x_new hC hZ zc2 h t_41 t_42 t_3 (fun j hj => match j, hj with | 0, _ => rfl | 1, _ => rfl | 2, _ => rfl | 3, _ => rfl | 4, _ => rfl | 5, _ => rfl | 6, _ => rfl | 7, _ => rfl | _ + 8, hj => absurd hj (by omega)) d_AckBook_Space_init_10 (fun a1 w H cells slots hZ h => ?_)
  refine lv_dup hC.1 hC.2.1 d_AckBook_Space_init_13 (z_rfc _) ?_
  obtain ⟨a_, eo_, h⟩ := z_nn_spec h
  obtain ⟨w1_, o1_, hF_, ha_⟩ := z_cV_spec h
  refine x_goes hC hRc hRs hFr ha_ (z_goI (As := []) hC hZ eo_ (k_AckBook_Sent_init hT hfl hE _ _ hF_) t_43 t_44 t_3 t_45 rfl ⟨by decide, by decide, (by decide +kernel : (parseMethodDescriptor y_AckBook_Sent_init.desc).map (fun d => d.parameters.length) = some 0)⟩ (by rw [hRt.1]; decide) (by rw [hRt.2]; decide) hl.1 rfl (by first | exact Nat.le_of_ble_eq_true rfl | simp [z_rfc, z_ci, z_cj]) d_AckBook_Space_init_14) (fun v_ hv H locs cells slots hZ => ?_)
  obtain ⟨rfl, h⟩ := hv
  generalize w1_ = w at h hZ
  refine x_putF hC hZ zc1 h (by decide) t_157 (fun _ h9 => h9) rfl hnm rfl rfl (z_rfn _ _) (z_rff _ _) d_AckBook_Space_init_17 (fun w H locs hZ h => ?_)
  refine x_aload_n hC d_AckBook_Space_init_20 rfl (lv_at hl 0 rfl) ?_
  refine x_new hC hZ zc5 h t_118 t_119 t_8 (fun j hj => match j, hj with | 0, _ => rfl | 1, _ => rfl | 2, _ => rfl | 3, _ => rfl | 4, _ => rfl | 5, _ => rfl | 6, _ => rfl | 7, _ => rfl | _ + 8, hj => absurd hj (by omega)) d_AckBook_Space_init_21 (fun a3 w H cells slots hZ h => ?_)
  refine lv_dup hC.1 hC.2.1 d_AckBook_Space_init_24 (z_rfc _) ?_
  obtain ⟨a_, eo_, h⟩ := z_nn_spec h
  obtain ⟨w1_, o1_, hF_, ha_⟩ := z_cV_spec h
  refine x_goes hC hRc hRs hFr ha_ (z_goI (As := []) hC hZ eo_ (k_AckBook_Arrivals_init hT hfl hE _ _ hF_) t_120 t_121 t_8 t_122 rfl ⟨by decide, by decide, (by decide +kernel : (parseMethodDescriptor y_AckBook_Arrivals_init.desc).map (fun d => d.parameters.length) = some 0)⟩ (by rw [hRt.1]; decide) (by rw [hRt.2]; decide) hl.1 rfl (by first | exact Nat.le_of_ble_eq_true rfl | simp [z_rfc, z_ci, z_cj]) d_AckBook_Space_init_25) (fun v_ hv H locs cells slots hZ => ?_)
  obtain ⟨rfl, h⟩ := hv
  generalize w1_ = w at h hZ
  refine x_putF hC hZ zc1 h (by decide) t_159 (fun _ h9 => h9) rfl hnm rfl rfl (z_rfn _ _) (z_rff _ _) d_AckBook_Space_init_28 (fun w H locs hZ h => ?_)
  exact x_vret hC hRc hRs hZ hr h d_AckBook_Space_init_31
def f_AckBook_Claim_init (F X : Nat) (a0 : Option Nat) (w : zW) : zR :=
  z_nn a0 <|
  z_newa w .long (64 : Int32) (fun n => (n, .inr (.inl fun _ => 0))) fun a1 w =>
  z_put w 6 0 a0 (va_rf (some a1)) fun w =>
  z_newa w .long (64 : Int32) (fun n => (n, .inr (.inl fun _ => 0))) fun a2 w =>
  z_put w 6 1 a0 (va_rf (some a2)) fun w =>
  some (.inl none, w)
set_option maxHeartbeats 4000000 in
set_option maxRecDepth 100000 in
theorem k_AckBook_Claim_init {b0 : Nat} {H0 : Heap} {D : va_G} {vu vs : Value} {X M : Nat} {l : Launch} (hT : z_TB (zGG b0 H0 D vu vs X M)) (hfl : l.flags = pinnedFlags ++ [noTraceFlag]) (hE : vu.isRef = true ∧ vs.isRef = true) {a0 : Option Nat} (F : Nat) {w : zW} (res : zO × zW) (h : f_AckBook_Claim_init F X a0 w = some res) : z_Ct (zGG b0 H0 D vu vs X M) l y_AckBook_Claim_init (.code y_AckBook_Claim_init c_AckBook_Claim_init 1 (none)) 1 28 [va_rf a0] w res := by
  refine z_ct hT hfl (by decide) (by simp only [z_sl_i, z_sl_j, z_sl_r, z_sl_n]; decide) ?_
  intro p e R s m args below meth c hC hr hRc hRs hRt hnm hFr H ls hZ hl
  simp only [z_la_i, z_la_j, z_la_r, z_la_n] at hl
  have hl : lv_has ls 1 [(0, va_rf a0)] := hl
  unfold f_AckBook_Claim_init at h
  refine x_aload_n hC d_AckBook_Claim_init_0 rfl (lv_at hl 0 rfl) ?_
  obtain ⟨_, e_, h⟩ := z_nn_spec h
  refine x_objInit hC hZ e_ t_176 ⟨t_32, t_33⟩ hl.1 d_AckBook_Claim_init_1 (by rw [hRt.1]; decide) (by rw [hRt.2]; first | exact Nat.le_of_ble_eq_true rfl | simp [z_rfc, z_ci, z_cj]) ?_
  refine x_aload_n hC d_AckBook_Claim_init_4 rfl (lv_at hl 0 rfl) ?_
  refine lv_bipush (v := (64 : Int32)) hC.1 hC.2.1 d_AckBook_Claim_init_5 (by decide) ?_
  refine x_newaJ hC hZ h t_154 d_AckBook_Claim_init_7 (fun a1 w H cells slots hZ h => ?_)
  refine x_putF hC hZ zc6 h (by decide) t_177 (fun _ h9 => h9) rfl hnm rfl rfl (z_rfnA _ _) (z_rffA _ _) d_AckBook_Claim_init_9 (fun w H locs hZ h => ?_)
  refine x_aload_n hC d_AckBook_Claim_init_12 rfl (lv_at hl 0 rfl) ?_
  refine lv_bipush (v := (64 : Int32)) hC.1 hC.2.1 d_AckBook_Claim_init_13 (by decide) ?_
  refine x_newaJ hC hZ h t_154 d_AckBook_Claim_init_15 (fun a2 w H cells slots hZ h => ?_)
  refine x_putF hC hZ zc6 h (by decide) t_178 (fun _ h9 => h9) rfl hnm rfl rfl (z_rfnA _ _) (z_rffA _ _) d_AckBook_Claim_init_17 (fun w H locs hZ h => ?_)
  exact x_vret hC hRc hRs hZ hr h d_AckBook_Claim_init_20
def f_AckBook_Way_init (F X : Nat) (a0 : Option Nat) (w : zW) : zR :=
  z_nn a0 <|
  z_put w 7 0 a0 (.int (800 : Int32)) fun w =>
  z_put w 7 1 a0 (.int (200 : Int32)) fun w =>
  z_put w 7 3 a0 (.int (-1 : Int32)) fun w =>
  z_put w 7 4 a0 (.int (-1 : Int32)) fun w =>
  some (.inl none, w)
set_option maxHeartbeats 4000000 in
set_option maxRecDepth 100000 in
theorem k_AckBook_Way_init {b0 : Nat} {H0 : Heap} {D : va_G} {vu vs : Value} {X M : Nat} {l : Launch} (hT : z_TB (zGG b0 H0 D vu vs X M)) (hfl : l.flags = pinnedFlags ++ [noTraceFlag]) (hE : vu.isRef = true ∧ vs.isRef = true) {a0 : Option Nat} (F : Nat) {w : zW} (res : zO × zW) (h : f_AckBook_Way_init F X a0 w = some res) : z_Ct (zGG b0 H0 D vu vs X M) l y_AckBook_Way_init (.code y_AckBook_Way_init c_AckBook_Way_init 1 (none)) 1 28 [va_rf a0] w res := by
  refine z_ct hT hfl (by decide) (by simp only [z_sl_i, z_sl_j, z_sl_r, z_sl_n]; decide) ?_
  intro p e R s m args below meth c hC hr hRc hRs hRt hnm hFr H ls hZ hl
  simp only [z_la_i, z_la_j, z_la_r, z_la_n] at hl
  have hl : lv_has ls 1 [(0, va_rf a0)] := hl
  unfold f_AckBook_Way_init at h
  refine x_aload_n hC d_AckBook_Way_init_0 rfl (lv_at hl 0 rfl) ?_
  obtain ⟨_, e_, h⟩ := z_nn_spec h
  refine x_objInit hC hZ e_ t_196 ⟨t_32, t_33⟩ hl.1 d_AckBook_Way_init_1 (by rw [hRt.1]; decide) (by rw [hRt.2]; first | exact Nat.le_of_ble_eq_true rfl | simp [z_rfc, z_ci, z_cj]) ?_
  refine x_aload_n hC d_AckBook_Way_init_4 rfl (lv_at hl 0 rfl) ?_
  refine lv_sipush (v := (800 : Int32)) hC.1 hC.2.1 d_AckBook_Way_init_5 (by decide) ?_
  refine x_put hC hZ zc7 h (by decide) t_197 (fun _ h9 => h9) rfl rfl rfl rfl d_AckBook_Way_init_8 (fun w H locs hZ h => ?_)
  refine x_aload_n hC d_AckBook_Way_init_11 rfl (lv_at hl 0 rfl) ?_
  refine lv_sipush (v := (200 : Int32)) hC.1 hC.2.1 d_AckBook_Way_init_12 (by decide) ?_
  refine x_put hC hZ zc7 h (by decide) t_199 (fun _ h9 => h9) rfl rfl rfl rfl d_AckBook_Way_init_15 (fun w H locs hZ h => ?_)
  refine x_aload_n hC d_AckBook_Way_init_18 rfl (lv_at hl 0 rfl) ?_
  refine lv_iconst (v := (-1 : Int32)) hC.1 hC.2.1 d_AckBook_Way_init_19 (by decide) ?_
  refine x_put hC hZ zc7 h (by decide) t_203 (fun _ h9 => h9) rfl rfl rfl rfl d_AckBook_Way_init_20 (fun w H locs hZ h => ?_)
  refine x_aload_n hC d_AckBook_Way_init_23 rfl (lv_at hl 0 rfl) ?_
  refine lv_iconst (v := (-1 : Int32)) hC.1 hC.2.1 d_AckBook_Way_init_24 (by decide) ?_
  refine x_put hC hZ zc7 h (by decide) t_205 (fun _ h9 => h9) rfl rfl rfl rfl d_AckBook_Way_init_25 (fun w H locs hZ h => ?_)
  exact x_vret hC hRc hRs hZ hr h d_AckBook_Way_init_28
def f_AckBook_Flow_init (F X : Nat) (a0 : Option Nat) (w : zW) : zR :=
  z_nn a0 <|
  z_put w 8 1 a0 (.int (12000 : Int32)) fun w =>
  z_put w 8 2 a0 (.int (-1 : Int32)) fun w =>
  z_put w 8 3 a0 (.int (-1 : Int32)) fun w =>
  some (.inl none, w)
set_option maxHeartbeats 4000000 in
set_option maxRecDepth 100000 in
theorem k_AckBook_Flow_init {b0 : Nat} {H0 : Heap} {D : va_G} {vu vs : Value} {X M : Nat} {l : Launch} (hT : z_TB (zGG b0 H0 D vu vs X M)) (hfl : l.flags = pinnedFlags ++ [noTraceFlag]) (hE : vu.isRef = true ∧ vs.isRef = true) {a0 : Option Nat} (F : Nat) {w : zW} (res : zO × zW) (h : f_AckBook_Flow_init F X a0 w = some res) : z_Ct (zGG b0 H0 D vu vs X M) l y_AckBook_Flow_init (.code y_AckBook_Flow_init c_AckBook_Flow_init 1 (none)) 1 28 [va_rf a0] w res := by
  refine z_ct hT hfl (by decide) (by simp only [z_sl_i, z_sl_j, z_sl_r, z_sl_n]; decide) ?_
  intro p e R s m args below meth c hC hr hRc hRs hRt hnm hFr H ls hZ hl
  simp only [z_la_i, z_la_j, z_la_r, z_la_n] at hl
  have hl : lv_has ls 1 [(0, va_rf a0)] := hl
  unfold f_AckBook_Flow_init at h
  refine x_aload_n hC d_AckBook_Flow_init_0 rfl (lv_at hl 0 rfl) ?_
  obtain ⟨_, e_, h⟩ := z_nn_spec h
  refine x_objInit hC hZ e_ t_223 ⟨t_32, t_33⟩ hl.1 d_AckBook_Flow_init_1 (by rw [hRt.1]; decide) (by rw [hRt.2]; first | exact Nat.le_of_ble_eq_true rfl | simp [z_rfc, z_ci, z_cj]) ?_
  refine x_aload_n hC d_AckBook_Flow_init_4 rfl (lv_at hl 0 rfl) ?_
  refine lv_sipush (v := (12000 : Int32)) hC.1 hC.2.1 d_AckBook_Flow_init_5 (by decide) ?_
  refine x_put hC hZ zc8 h (by decide) t_226 (fun _ h9 => h9) rfl rfl rfl rfl d_AckBook_Flow_init_8 (fun w H locs hZ h => ?_)
  refine x_aload_n hC d_AckBook_Flow_init_11 rfl (lv_at hl 0 rfl) ?_
  refine lv_iconst (v := (-1 : Int32)) hC.1 hC.2.1 d_AckBook_Flow_init_12 (by decide) ?_
  refine x_put hC hZ zc8 h (by decide) t_228 (fun _ h9 => h9) rfl rfl rfl rfl d_AckBook_Flow_init_13 (fun w H locs hZ h => ?_)
  refine x_aload_n hC d_AckBook_Flow_init_16 rfl (lv_at hl 0 rfl) ?_
  refine lv_iconst (v := (-1 : Int32)) hC.1 hC.2.1 d_AckBook_Flow_init_17 (by decide) ?_
  refine x_put hC hZ zc8 h (by decide) t_230 (fun _ h9 => h9) rfl rfl rfl rfl d_AckBook_Flow_init_18 (fun w H locs hZ h => ?_)
  exact x_vret hC hRc hRs hZ hr h d_AckBook_Flow_init_21
def j_AckBook_init (F X : Nat) : Nat → Option Nat → Int32 → zW → zR
  | 0, _, _, _ => none
  | N + 1, rL0, xL1, w =>
    if (3 : Int32) ≤ xL1 then (
      z_new w 6 4 [.null, .null, .int 0, .int 0] fun a1 w =>
      z_nn (some a1) <|
      z_cV (f_AckBook_Claim_init F X (some a1) w) fun w =>
      z_put w 0 1 rL0 (va_rf (some a1)) fun w =>
      z_new w 7 5 [.int 0, .int 0, .int 0, .int 0, .int 0] fun a3 w =>
      z_nn (some a3) <|
      z_cV (f_AckBook_Way_init F X (some a3) w) fun w =>
      z_put w 0 2 rL0 (va_rf (some a3)) fun w =>
      z_new w 8 4 [.int 0, .int 0, .int 0, .int 0] fun a5 w =>
      z_nn (some a5) <|
      z_cV (f_AckBook_Flow_init F X (some a5) w) fun w =>
      z_put w 0 3 rL0 (va_rf (some a5)) fun w =>
      some (.inl none, w))
    else (
      z_getR w 0 0 rL0 fun r7 =>
      z_new w 1 4 [.int 0, .null, .null, .int 0] fun a8 w =>
      z_nn (some a8) <|
      z_cV (f_AckBook_Space_init F X (some a8) xL1 w) fun w =>
      z_stR w (.object "AckBook$Space") 1 r7 xL1 (some a8) fun w =>
      (j_AckBook_init F X N) rL0 (xL1 + (1 : Int32)) w)
set_option maxHeartbeats 4000000 in
set_option maxRecDepth 100000 in
theorem kj_AckBook_init {b0 : Nat} {H0 : Heap} {D : va_G} {vu vs : Value} {X M : Nat} {l : Launch} (hT : z_TB (zGG b0 H0 D vu vs X M)) (hfl : l.flags = pinnedFlags ++ [noTraceFlag]) (hE : vu.isRef = true ∧ vs.isRef = true) {p : Program} {e : Env} {R : Room} {s : State} {m : MethodId} {args : Array Value} {below : List Frame} {meth : Method} {c : Code} {w0 : zW} {F : Nat} (hC : z_C (zGG b0 H0 D vu vs X M) p e s m meth c c_AckBook_init 2 y_AckBook_init.cls) (hr : meth.sig.returnType = (none)) (hRc : R.cells = w0.2.1) (hRs : R.slots = w0.2.2.1) (hFr : c.exceptionTable.toList = []) (hRt : R.frames = 6 ∧ R.locals = 129) (hnm : meth.name = y_AckBook_init.name) : ∀ N : Nat, (∀ (rL0 : Option Nat) (xL1 : Int32) (w : zW) (res : zO × zW), j_AckBook_init F X N rL0 xL1 w = some res → ∀ (H : Heap) (locs : List Loc) (cells slots : Nat) (ls : Array Slot), z_Z (zGG b0 H0 D vu vs X M) R s w H locs cells slots → lv_has ls 2 [(0, va_rf rL0), (1, .int xL1)] → W p l e R s m args below meth c H locs cells slots (z_Q (zGG b0 H0 D vu vs X M) below s w0 res) (F0 m 14 ls [])) := by
  intro N
  induction N with
  | zero =>
    intro rL0 xL1 w res h
    rw [j_AckBook_init] at h
    cases h
  | succ N ih =>
    intro rL0 xL1 w res h H locs cells slots ls hZ hl
    rw [j_AckBook_init] at h
    refine lv_iload_n hC.1 hC.2.1 d_AckBook_init_14 rfl (lv_at hl 1 rfl) ?_
    refine lv_iconst (v := (3 : Int32)) hC.1 hC.2.1 d_AckBook_init_15 (by decide) ?_
    refine lv_icmp_ge (tgt := 39) hC.1 hC.2.1 d_AckBook_init_16 (by decide) (fun hc => ?_) (fun hc => ?_)
    · have h := z_ifp hc h
      refine x_aload_n hC d_AckBook_init_39 rfl (lv_at hl 0 rfl) ?_
      refine x_new hC hZ zc6 h t_171 t_172 t_9 (fun j hj => match j, hj with | 0, _ => rfl | 1, _ => rfl | 2, _ => rfl | 3, _ => rfl | _ + 4, hj => absurd hj (by omega)) d_AckBook_init_40 (fun a1 w H cells slots hZ h => ?_)
      refine lv_dup hC.1 hC.2.1 d_AckBook_init_43 (z_rfc _) ?_
      obtain ⟨a_, eo_, h⟩ := z_nn_spec h
      obtain ⟨w1_, o1_, hF_, ha_⟩ := z_cV_spec h
      refine x_goes hC hRc hRs hFr ha_ (z_goI (As := []) hC hZ eo_ (k_AckBook_Claim_init hT hfl hE _ _ hF_) t_173 t_174 t_9 t_175 rfl ⟨by decide, by decide, (by decide +kernel : (parseMethodDescriptor y_AckBook_Claim_init.desc).map (fun d => d.parameters.length) = some 0)⟩ (by rw [hRt.1]; decide) (by rw [hRt.2]; decide) hl.1 rfl (by first | exact Nat.le_of_ble_eq_true rfl | simp [z_rfc, z_ci, z_cj]) d_AckBook_init_44) (fun v_ hv H locs cells slots hZ => ?_)
      obtain ⟨rfl, h⟩ := hv
      generalize w1_ = w at h hZ
      refine x_putF hC hZ zc0 h (by decide) t_242 (fun _ h9 => h9) rfl hnm rfl rfl (z_rfn _ _) (z_rff _ _) d_AckBook_init_47 (fun w H locs hZ h => ?_)
      refine x_aload_n hC d_AckBook_init_50 rfl (lv_at hl 0 rfl) ?_
      refine x_new hC hZ zc7 h t_191 t_192 t_10 (fun j hj => match j, hj with | 0, _ => rfl | 1, _ => rfl | 2, _ => rfl | 3, _ => rfl | 4, _ => rfl | _ + 5, hj => absurd hj (by omega)) d_AckBook_init_51 (fun a3 w H cells slots hZ h => ?_)
      refine lv_dup hC.1 hC.2.1 d_AckBook_init_54 (z_rfc _) ?_
      obtain ⟨a_, eo_, h⟩ := z_nn_spec h
      obtain ⟨w1_, o1_, hF_, ha_⟩ := z_cV_spec h
      refine x_goes hC hRc hRs hFr ha_ (z_goI (As := []) hC hZ eo_ (k_AckBook_Way_init hT hfl hE _ _ hF_) t_193 t_194 t_10 t_195 rfl ⟨by decide, by decide, (by decide +kernel : (parseMethodDescriptor y_AckBook_Way_init.desc).map (fun d => d.parameters.length) = some 0)⟩ (by rw [hRt.1]; decide) (by rw [hRt.2]; decide) hl.1 rfl (by first | exact Nat.le_of_ble_eq_true rfl | simp [z_rfc, z_ci, z_cj]) d_AckBook_init_55) (fun v_ hv H locs cells slots hZ => ?_)
      obtain ⟨rfl, h⟩ := hv
      generalize w1_ = w at h hZ
      refine x_putF hC hZ zc0 h (by decide) t_243 (fun _ h9 => h9) rfl hnm rfl rfl (z_rfn _ _) (z_rff _ _) d_AckBook_init_58 (fun w H locs hZ h => ?_)
      refine x_aload_n hC d_AckBook_init_61 rfl (lv_at hl 0 rfl) ?_
      refine x_new hC hZ zc8 h t_218 t_219 t_11 (fun j hj => match j, hj with | 0, _ => rfl | 1, _ => rfl | 2, _ => rfl | 3, _ => rfl | _ + 4, hj => absurd hj (by omega)) d_AckBook_init_62 (fun a5 w H cells slots hZ h => ?_)
      refine lv_dup hC.1 hC.2.1 d_AckBook_init_65 (z_rfc _) ?_
      obtain ⟨a_, eo_, h⟩ := z_nn_spec h
      obtain ⟨w1_, o1_, hF_, ha_⟩ := z_cV_spec h
      refine x_goes hC hRc hRs hFr ha_ (z_goI (As := []) hC hZ eo_ (k_AckBook_Flow_init hT hfl hE _ _ hF_) t_220 t_221 t_11 t_222 rfl ⟨by decide, by decide, (by decide +kernel : (parseMethodDescriptor y_AckBook_Flow_init.desc).map (fun d => d.parameters.length) = some 0)⟩ (by rw [hRt.1]; decide) (by rw [hRt.2]; decide) hl.1 rfl (by first | exact Nat.le_of_ble_eq_true rfl | simp [z_rfc, z_ci, z_cj]) d_AckBook_init_66) (fun v_ hv H locs cells slots hZ => ?_)
      obtain ⟨rfl, h⟩ := hv
      generalize w1_ = w at h hZ
      refine x_putF hC hZ zc0 h (by decide) t_244 (fun _ h9 => h9) rfl hnm rfl rfl (z_rfn _ _) (z_rff _ _) d_AckBook_init_69 (fun w H locs hZ h => ?_)
      exact x_vret hC hRc hRs hZ hr h d_AckBook_init_72
    · have h := z_ifn hc h
      refine x_aload_n hC d_AckBook_init_19 rfl (lv_at hl 0 rfl) ?_
      refine x_getR hC hZ zc0 h (by decide) t_241 (fun _ h9 => h9) d_AckBook_init_20 (fun r7 h => ?_)
      refine lv_iload_n hC.1 hC.2.1 d_AckBook_init_23 rfl (lv_at hl 1 rfl) ?_
      refine x_new hC hZ zc1 h t_34 t_36 t_2 (fun j hj => match j, hj with | 0, _ => rfl | 1, _ => rfl | 2, _ => rfl | 3, _ => rfl | _ + 4, hj => absurd hj (by omega)) d_AckBook_init_24 (fun a8 w H cells slots hZ h => ?_)
      refine lv_dup hC.1 hC.2.1 d_AckBook_init_27 (z_rfc _) ?_
      refine lv_iload_n hC.1 hC.2.1 d_AckBook_init_28 rfl (lv_at hl 1 rfl) ?_
      obtain ⟨a_, eo_, h⟩ := z_nn_spec h
      obtain ⟨w1_, o1_, hF_, ha_⟩ := z_cV_spec h
      refine x_goes hC hRc hRs hFr ha_ (z_goI (As := [.int xL1]) hC hZ eo_ (k_AckBook_Space_init hT hfl hE _ _ hF_) t_37 t_38 t_2 t_39 rfl ⟨by decide, by decide, (by decide +kernel : (parseMethodDescriptor y_AckBook_Space_init.desc).map (fun d => d.parameters.length) = some 1)⟩ (by rw [hRt.1]; decide) (by rw [hRt.2]; decide) hl.1 rfl (by first | exact Nat.le_of_ble_eq_true rfl | simp [z_rfc, z_ci, z_cj]) d_AckBook_init_29) (fun v_ hv H locs cells slots hZ => ?_)
      obtain ⟨rfl, h⟩ := hv
      generalize w1_ = w at h hZ
      refine x_stR hC hZ zc1 h (Or.inr rfl) d_AckBook_init_32 (fun w H locs hZ h => ?_)
      refine lv_iinc (lv' := [(1, .int (xL1 + (1 : Int32))), (0, va_rf rL0)]) hC.1 hC.2.1 d_AckBook_init_33 hl (k := 1) rfl rfl (by decide) (by first | rfl | simp [z_rfc, z_ci, z_cj]) (fun ls hl => ?_)
      refine lv_goto (tgt := 14) hC.1 hC.2.1 d_AckBook_init_36 (by decide) ?_
      exact ih _ _ _ _ h _ _ _ _ _ hZ (lv_sub hl [1, 0] rfl)
def f_AckBook_init (F X : Nat) (a0 : Option Nat) (w : zW) : zR :=
  z_nn a0 <|
  z_newa w (.object "AckBook$Space") (3 : Int32) (fun n => (n, .inr (.inr (.inr (.inr fun _ => none))))) fun a10 w =>
  z_put w 0 0 a0 (va_rf (some a10)) fun w =>
  (j_AckBook_init F X F) a0 (0 : Int32) w
set_option maxHeartbeats 4000000 in
set_option maxRecDepth 100000 in
theorem k_AckBook_init {b0 : Nat} {H0 : Heap} {D : va_G} {vu vs : Value} {X M : Nat} {l : Launch} (hT : z_TB (zGG b0 H0 D vu vs X M)) (hfl : l.flags = pinnedFlags ++ [noTraceFlag]) (hE : vu.isRef = true ∧ vs.isRef = true) {a0 : Option Nat} (F : Nat) {w : zW} (res : zO × zW) (h : f_AckBook_init F X a0 w = some res) : z_Ct (zGG b0 H0 D vu vs X M) l y_AckBook_init (.code y_AckBook_init c_AckBook_init 2 (none)) 6 129 [va_rf a0] w res := by
  refine z_ct hT hfl (by decide) (by simp only [z_sl_i, z_sl_j, z_sl_r, z_sl_n]; decide) ?_
  intro p e R s m args below meth c hC hr hRc hRs hRt hnm hFr H ls hZ hl
  simp only [z_la_i, z_la_j, z_la_r, z_la_n] at hl
  have hl : lv_has ls 2 [(0, va_rf a0)] := hl
  unfold f_AckBook_init at h
  refine x_aload_n hC d_AckBook_init_0 rfl (lv_at hl 0 rfl) ?_
  obtain ⟨_, e_, h⟩ := z_nn_spec h
  refine x_objInit hC hZ e_ t_31 ⟨t_32, t_33⟩ hl.1 d_AckBook_init_1 (by rw [hRt.1]; decide) (by rw [hRt.2]; first | exact Nat.le_of_ble_eq_true rfl | simp [z_rfc, z_ci, z_cj]) ?_
  refine x_aload_n hC d_AckBook_init_4 rfl (lv_at hl 0 rfl) ?_
  refine lv_iconst (v := (3 : Int32)) hC.1 hC.2.1 d_AckBook_init_5 (by decide) ?_
  refine x_anew hC hZ h t_34 t_35 d_AckBook_init_6 (fun a10 w H cells slots hZ h => ?_)
  refine x_putF hC hZ zc0 h (by decide) t_241 (fun _ h9 => h9) rfl hnm rfl rfl (z_rfnA _ _) (z_rffA _ _) d_AckBook_init_9 (fun w H locs hZ h => ?_)
  refine lv_iconst (v := (0 : Int32)) hC.1 hC.2.1 d_AckBook_init_12 (by decide) ?_
  refine lv_istore_n (i := 1) (lv' := [(1, .int (0 : Int32)), (0, va_rf a0)]) hC.1 hC.2.1 d_AckBook_init_13 rfl hl (by decide) (by first | rfl | simp [z_rfc, z_ci, z_cj]) (fun ls hl => ?_)
  exact (kj_AckBook_init hT hfl hE hC hr hRc hRs hFr hRt hnm F) _ _ _ _ h _ _ _ _ _ hZ (lv_sub hl [1, 0] rfl)
def f_AckBook_Way_patience (F X : Nat) (a0 : Option Nat) (w : zW) : zR :=
  z_getI w 7 0 a0 fun v1 =>
  z_getI w 7 1 a0 fun v2 =>
  some (.inl (some (.int ((v1 / (8 : Int32)) + (if v2 < (1 : Int32) then (1 : Int32) else v2)))), w)
set_option maxHeartbeats 4000000 in
set_option maxRecDepth 100000 in
theorem k_AckBook_Way_patience {b0 : Nat} {H0 : Heap} {D : va_G} {vu vs : Value} {X M : Nat} {l : Launch} (hT : z_TB (zGG b0 H0 D vu vs X M)) (hfl : l.flags = pinnedFlags ++ [noTraceFlag]) (hE : vu.isRef = true ∧ vs.isRef = true) {a0 : Option Nat} (F : Nat) {w : zW} (res : zO × zW) (h : f_AckBook_Way_patience F X a0 w = some res) : z_Ct (zGG b0 H0 D vu vs X M) l y_AckBook_Way_patience (.code y_AckBook_Way_patience c_AckBook_Way_patience 1 (some FieldType.int)) 1 28 [va_rf a0] w res := by
  refine z_ct hT hfl (by decide) (by simp only [z_sl_i, z_sl_j, z_sl_r, z_sl_n]; decide) ?_
  intro p e R s m args below meth c hC hr hRc hRs hRt hnm hFr H ls hZ hl
  simp only [z_la_i, z_la_j, z_la_r, z_la_n] at hl
  have hl : lv_has ls 1 [(0, va_rf a0)] := hl
  unfold f_AckBook_Way_patience at h
  refine x_aload_n hC d_AckBook_Way_patience_0 rfl (lv_at hl 0 rfl) ?_
  refine x_getI hC hZ zc7 h (by decide) t_197 (fun _ h9 => h9) d_AckBook_Way_patience_1 (fun v1 h => ?_)
  refine lv_bipush (v := (8 : Int32)) hC.1 hC.2.1 d_AckBook_Way_patience_4 (by decide) ?_
  refine lv_idiv hC.1 hC.2.1 d_AckBook_Way_patience_6 (by decide) ?_
  refine x_aload_n hC d_AckBook_Way_patience_7 rfl (lv_at hl 0 rfl) ?_
  refine x_getI hC hZ zc7 h (by decide) t_199 (fun _ h9 => h9) d_AckBook_Way_patience_8 (fun v2 h => ?_)
  refine lv_iconst (v := (1 : Int32)) hC.1 hC.2.1 d_AckBook_Way_patience_11 (by decide) ?_
  refine va_mmax hC.1 hC.2.1 (hC.2.2.1.trans hl.1.symm) hC.2.2.2.1 ((hZ.1.tb hC.2.2.2.2.2.2 args) _ t_289) ((hZ.1.tb hC.2.2.2.2.2.2 args) _ t_290) ((hZ.1.tb hC.2.2.2.2.2.2 args) _ t_20) ((hZ.1.tb hC.2.2.2.2.2.2 args) _ t_291) (by rw [hRt.1]; decide) (by rw [hRt.2]; first | exact Nat.le_of_ble_eq_true rfl | simp [z_rfc, z_ci, z_cj]) (hZ.2.2.1 ▸ Nat.le_add_right _ _) (hZ.2.2.2 ▸ Nat.le_add_right _ _) d_AckBook_Way_patience_12 ?_
  refine lv_iadd hC.1 hC.2.1 d_AckBook_Way_patience_15 ?_
  exact x_iret hC hRc hRs hZ hr rfl h d_AckBook_Way_patience_16
def q_AckBook_patience_20 (F X : Nat) (rL0 : Option Nat) (xS0 : Int32) (w : zW) : zR :=
  z_getR w 0 2 rL0 fun r1 =>
  z_this w 7 r1 <|
  z_cI (f_AckBook_Way_patience F X r1 w) fun v3 w =>
  if xS0 = 0 then (
    some (.inl (some (.int (v3 + (0 : Int32)))), w))
  else (
    some (.inl (some (.int (v3 + (25 : Int32)))), w))
set_option maxHeartbeats 4000000 in
set_option maxRecDepth 100000 in
theorem kq_AckBook_patience_20 {b0 : Nat} {H0 : Heap} {D : va_G} {vu vs : Value} {X M : Nat} {l : Launch} (hT : z_TB (zGG b0 H0 D vu vs X M)) (hfl : l.flags = pinnedFlags ++ [noTraceFlag]) (hE : vu.isRef = true ∧ vs.isRef = true) {p : Program} {e : Env} {R : Room} {s : State} {m : MethodId} {args : Array Value} {below : List Frame} {meth : Method} {c : Code} {w0 : zW} {F : Nat} (hC : z_C (zGG b0 H0 D vu vs X M) p e s m meth c c_AckBook_patience 3 y_AckBook_patience.cls) (hr : meth.sig.returnType = (some FieldType.int)) (hRc : R.cells = w0.2.1) (hRs : R.slots = w0.2.2.1) (hFr : c.exceptionTable.toList = []) (hRt : R.frames = 2 ∧ R.locals = 48) (hnm : meth.name = y_AckBook_patience.name) (rL0 : Option Nat) (xS0 : Int32) (w : zW) (res : zO × zW) (h : q_AckBook_patience_20 F X rL0 xS0 w = some res) (H : Heap) (locs : List Loc) (cells slots : Nat) (ls : Array Slot) (hZ : z_Z (zGG b0 H0 D vu vs X M) R s w H locs cells slots) (hl : lv_has ls 3 [(0, va_rf rL0)]) : W p l e R s m args below meth c H locs cells slots (z_Q (zGG b0 H0 D vu vs X M) below s w0 res) (F0 m 20 ls [.int xS0]) := by
  unfold q_AckBook_patience_20 at h
  refine lv_istore_n (i := 2) (lv' := [(2, .int xS0), (0, va_rf rL0)]) hC.1 hC.2.1 d_AckBook_patience_20 rfl hl (by decide) (by first | rfl | simp [z_rfc, z_ci, z_cj]) (fun ls hl => ?_)
  refine x_aload_n hC d_AckBook_patience_21 rfl (lv_at hl 1 rfl) ?_
  refine x_getR hC hZ zc0 h (by decide) t_243 (fun _ h9 => h9) d_AckBook_patience_22 (fun r1 h => ?_)
  obtain ⟨a_, fs_, eo_, h⟩ := z_this_spec h
  obtain ⟨w1_, o1_, hF_, ha_⟩ := z_cI_spec h
  refine x_goes hC hRc hRs hFr ha_ (z_goV (As := []) hC hZ zc7 eo_ (k_AckBook_Way_patience hT hfl hE _ _ hF_) t_285 t_286 t_287 t_10 t_288 ⟨by decide, by decide, (by decide +kernel : (parseMethodDescriptor y_AckBook_Way_patience.desc).map (fun d => d.parameters.length) = some 0)⟩ (by rw [hRt.1]; decide) (by rw [hRt.2]; decide) hl.1 rfl (by first | exact Nat.le_of_ble_eq_true rfl | simp [z_rfc, z_ci, z_cj]) d_AckBook_patience_25) (fun v_ hv H locs cells slots hZ => ?_)
  obtain ⟨v3, rfl, h⟩ := hv
  generalize w1_ = w at h hZ
  refine lv_iload_n hC.1 hC.2.1 d_AckBook_patience_28 rfl (lv_at hl 0 rfl) ?_
  refine lv_if_eq (tgt := 37) hC.1 hC.2.1 d_AckBook_patience_29 (by decide) (fun hc => ?_) (fun hc => ?_)
  · have h := z_ifp hc h
    refine lv_iconst (v := (0 : Int32)) hC.1 hC.2.1 d_AckBook_patience_37 (by decide) ?_
    refine lv_iadd hC.1 hC.2.1 d_AckBook_patience_38 ?_
    exact x_iret hC hRc hRs hZ hr rfl h d_AckBook_patience_39
  · have h := z_ifn hc h
    refine lv_bipush (v := (25 : Int32)) hC.1 hC.2.1 d_AckBook_patience_32 (by decide) ?_
    refine lv_goto (tgt := 38) hC.1 hC.2.1 d_AckBook_patience_34 (by decide) ?_
    refine lv_iadd hC.1 hC.2.1 d_AckBook_patience_38 ?_
    exact x_iret hC hRc hRs hZ hr rfl h d_AckBook_patience_39
def q_AckBook_patience_19 (F X : Nat) (rL0 : Option Nat) (w : zW) : zR :=
  q_AckBook_patience_20 F X rL0 (0 : Int32) w
set_option maxHeartbeats 4000000 in
set_option maxRecDepth 100000 in
theorem kq_AckBook_patience_19 {b0 : Nat} {H0 : Heap} {D : va_G} {vu vs : Value} {X M : Nat} {l : Launch} (hT : z_TB (zGG b0 H0 D vu vs X M)) (hfl : l.flags = pinnedFlags ++ [noTraceFlag]) (hE : vu.isRef = true ∧ vs.isRef = true) {p : Program} {e : Env} {R : Room} {s : State} {m : MethodId} {args : Array Value} {below : List Frame} {meth : Method} {c : Code} {w0 : zW} {F : Nat} (hC : z_C (zGG b0 H0 D vu vs X M) p e s m meth c c_AckBook_patience 3 y_AckBook_patience.cls) (hr : meth.sig.returnType = (some FieldType.int)) (hRc : R.cells = w0.2.1) (hRs : R.slots = w0.2.2.1) (hFr : c.exceptionTable.toList = []) (hRt : R.frames = 2 ∧ R.locals = 48) (hnm : meth.name = y_AckBook_patience.name) (rL0 : Option Nat) (w : zW) (res : zO × zW) (h : q_AckBook_patience_19 F X rL0 w = some res) (H : Heap) (locs : List Loc) (cells slots : Nat) (ls : Array Slot) (hZ : z_Z (zGG b0 H0 D vu vs X M) R s w H locs cells slots) (hl : lv_has ls 3 [(0, va_rf rL0)]) : W p l e R s m args below meth c H locs cells slots (z_Q (zGG b0 H0 D vu vs X M) below s w0 res) (F0 m 19 ls []) := by
  unfold q_AckBook_patience_19 at h
  refine lv_iconst (v := (0 : Int32)) hC.1 hC.2.1 d_AckBook_patience_19 (by decide) ?_
  exact kq_AckBook_patience_20 hT hfl hE hC hr hRc hRs hFr hRt hnm _ _ _ _ h _ _ _ _ _ hZ (lv_sub hl [0] rfl)
def f_AckBook_patience (F X : Nat) (a0 : Option Nat) (pR1 : Option Nat) (w : zW) : zR :=
  z_getI w 1 0 pR1 fun v4 =>
  if v4 = (2 : Int32) then (
    z_getI w 0 7 a0 fun v5 =>
    if v5 = 0 then (
      q_AckBook_patience_19 F X a0 w)
    else (
      q_AckBook_patience_20 F X a0 (1 : Int32) w))
  else (
    q_AckBook_patience_19 F X a0 w)
set_option maxHeartbeats 4000000 in
set_option maxRecDepth 100000 in
theorem k_AckBook_patience {b0 : Nat} {H0 : Heap} {D : va_G} {vu vs : Value} {X M : Nat} {l : Launch} (hT : z_TB (zGG b0 H0 D vu vs X M)) (hfl : l.flags = pinnedFlags ++ [noTraceFlag]) (hE : vu.isRef = true ∧ vs.isRef = true) {a0 : Option Nat} {pR1 : Option Nat} (F : Nat) {w : zW} (res : zO × zW) (h : f_AckBook_patience F X a0 pR1 w = some res) : z_Ct (zGG b0 H0 D vu vs X M) l y_AckBook_patience (.code y_AckBook_patience c_AckBook_patience 3 (some FieldType.int)) 2 48 [va_rf a0, va_rf pR1] w res := by
  refine z_ct hT hfl (by decide) (by simp only [z_sl_i, z_sl_j, z_sl_r, z_sl_n]; decide) ?_
  intro p e R s m args below meth c hC hr hRc hRs hRt hnm hFr H ls hZ hl
  simp only [z_la_i, z_la_j, z_la_r, z_la_n] at hl
  have hl : lv_has ls 3 [(0, va_rf a0), (1, va_rf pR1)] := hl
  unfold f_AckBook_patience at h
  refine x_aload_n hC d_AckBook_patience_0 rfl (lv_at hl 1 rfl) ?_
  refine x_getI hC hZ zc1 h (by decide) t_156 (fun _ h9 => h9) d_AckBook_patience_1 (fun v4 h => ?_)
  refine lv_iconst (v := (2 : Int32)) hC.1 hC.2.1 d_AckBook_patience_4 (by decide) ?_
  refine lv_icmp_ne (tgt := 19) hC.1 hC.2.1 d_AckBook_patience_5 (by decide) (fun hc => ?_) (fun hc => ?_)
  · have h := z_ifn hc h
    exact kq_AckBook_patience_19 hT hfl hE hC hr hRc hRs hFr hRt hnm _ _ _ h _ _ _ _ _ hZ (lv_sub hl [0] rfl)
  · have h := z_ifp hc h
    refine x_aload_n hC d_AckBook_patience_8 rfl (lv_at hl 0 rfl) ?_
    refine x_getI hC hZ zc0 h (by decide) t_248 (fun _ h9 => h9) d_AckBook_patience_9 (fun v5 h => ?_)
    refine lv_if_eq (tgt := 19) hC.1 hC.2.1 d_AckBook_patience_12 (by decide) (fun hc => ?_) (fun hc => ?_)
    · have h := z_ifp hc h
      exact kq_AckBook_patience_19 hT hfl hE hC hr hRc hRs hFr hRt hnm _ _ _ h _ _ _ _ _ hZ (lv_sub hl [0] rfl)
    · have h := z_ifn hc h
      refine lv_iconst (v := (1 : Int32)) hC.1 hC.2.1 d_AckBook_patience_15 (by decide) ?_
      refine lv_goto (tgt := 20) hC.1 hC.2.1 d_AckBook_patience_16 (by decide) ?_
      exact kq_AckBook_patience_20 hT hfl hE hC hr hRc hRs hFr hRt hnm _ _ _ _ h _ _ _ _ _ hZ (lv_sub hl [0] rfl)
def j_AckBook_probesWithoutCause (F X : Nat) : Nat → Option Nat → Option Nat → Int32 → Int32 → zW → zR
  | 0, _, _, _, _, _ => none
  | N + 1, rL0, rL1, xL2, xL3, w =>
    z_getR w 0 0 rL0 fun r1 =>
    z_len w r1 fun v2 =>
    if v2 ≤ xL3 then (
      z_retZ xL2 w)
    else (
      z_getR w 0 0 rL0 fun r3 =>
      z_ldR w (.object "AckBook$Space") r3 xL3 fun r4 =>
      z_getR w 1 1 r4 fun r5 =>
      z_getI w 2 4 r5 fun v6 =>
      if v6 ≤ 0 then (
        z_getI w 1 0 rL1 fun v7 =>
        if v7 ≤ xL3 then (
          (j_AckBook_probesWithoutCause F X N) rL0 rL1 xL2 (xL3 + (1 : Int32)) w)
        else (
          z_getR w 0 0 rL0 fun r8 =>
          z_ldR w (.object "AckBook$Space") r8 xL3 fun r9 =>
          z_getI w 1 3 r9 fun v10 =>
          if v10 = 0 then (
            (j_AckBook_probesWithoutCause F X N) rL0 rL1 (0 : Int32) (xL3 + (1 : Int32)) w)
          else (
            (j_AckBook_probesWithoutCause F X N) rL0 rL1 xL2 (xL3 + (1 : Int32)) w)))
      else (
        some (.inl (some (.int (0 : Int32))), w)))
set_option maxHeartbeats 4000000 in
set_option maxRecDepth 100000 in
theorem kj_AckBook_probesWithoutCause {b0 : Nat} {H0 : Heap} {D : va_G} {vu vs : Value} {X M : Nat} {l : Launch} (hT : z_TB (zGG b0 H0 D vu vs X M)) (hfl : l.flags = pinnedFlags ++ [noTraceFlag]) (hE : vu.isRef = true ∧ vs.isRef = true) {p : Program} {e : Env} {R : Room} {s : State} {m : MethodId} {args : Array Value} {below : List Frame} {meth : Method} {c : Code} {w0 : zW} {F : Nat} (hC : z_C (zGG b0 H0 D vu vs X M) p e s m meth c c_AckBook_probesWithoutCause 4 y_AckBook_probesWithoutCause.cls) (hr : meth.sig.returnType = (some FieldType.boolean)) (hRc : R.cells = w0.2.1) (hRs : R.slots = w0.2.2.1) (hFr : c.exceptionTable.toList = []) (hRt : R.frames = 0 ∧ R.locals = 0) (hnm : meth.name = y_AckBook_probesWithoutCause.name) : ∀ N : Nat, (∀ (rL0 : Option Nat) (rL1 : Option Nat) (xL2 : Int32) (xL3 : Int32) (w : zW) (res : zO × zW), j_AckBook_probesWithoutCause F X N rL0 rL1 xL2 xL3 w = some res → ∀ (H : Heap) (locs : List Loc) (cells slots : Nat) (ls : Array Slot), z_Z (zGG b0 H0 D vu vs X M) R s w H locs cells slots → lv_has ls 4 [(0, va_rf rL0), (1, va_rf rL1), (2, .int xL2), (3, .int xL3)] → W p l e R s m args below meth c H locs cells slots (z_Q (zGG b0 H0 D vu vs X M) below s w0 res) (F0 m 13 ls [])) := by
  intro N
  induction N with
  | zero =>
    intro rL0 rL1 xL2 xL3 w res h
    rw [j_AckBook_probesWithoutCause] at h
    cases h
  | succ N ih =>
    intro rL0 rL1 xL2 xL3 w res h H locs cells slots ls hZ hl
    rw [j_AckBook_probesWithoutCause] at h
    refine lv_iload_n hC.1 hC.2.1 d_AckBook_probesWithoutCause_13 rfl (lv_at hl 3 rfl) ?_
    refine x_aload_n hC d_AckBook_probesWithoutCause_14 rfl (lv_at hl 0 rfl) ?_
    refine x_getR hC hZ zc0 h (by decide) t_241 (fun _ h9 => h9) d_AckBook_probesWithoutCause_15 (fun r1 h => ?_)
    refine x_len hC hZ h d_AckBook_probesWithoutCause_18 (fun v2 h => ?_)
    refine lv_icmp_ge (tgt := 67) hC.1 hC.2.1 d_AckBook_probesWithoutCause_19 (by decide) (fun hc => ?_) (fun hc => ?_)
    · have h := z_ifp hc h
      refine lv_iload_n hC.1 hC.2.1 d_AckBook_probesWithoutCause_67 rfl (lv_at hl 2 rfl) ?_
      exact x_zret hC hRc hRs hZ hr h d_AckBook_probesWithoutCause_68
    · have h := z_ifn hc h
      refine x_aload_n hC d_AckBook_probesWithoutCause_22 rfl (lv_at hl 0 rfl) ?_
      refine x_getR hC hZ zc0 h (by decide) t_241 (fun _ h9 => h9) d_AckBook_probesWithoutCause_23 (fun r3 h => ?_)
      refine lv_iload_n hC.1 hC.2.1 d_AckBook_probesWithoutCause_26 rfl (lv_at hl 3 rfl) ?_
      refine x_ldR hC hZ h rfl d_AckBook_probesWithoutCause_27 (fun r4 h => ?_)
      refine x_getR hC hZ zc1 h (by decide) t_158 (fun _ h9 => h9) d_AckBook_probesWithoutCause_28 (fun r5 h => ?_)
      refine x_getI hC hZ zc2 h (by decide) t_94 (fun _ h9 => h9) d_AckBook_probesWithoutCause_31 (fun v6 h => ?_)
      refine lv_if_le (tgt := 39) hC.1 hC.2.1 d_AckBook_probesWithoutCause_34 (by decide) (fun hc => ?_) (fun hc => ?_)
      · have h := z_ifp hc h
        refine lv_iload_n hC.1 hC.2.1 d_AckBook_probesWithoutCause_39 rfl (lv_at hl 3 rfl) ?_
        refine x_aload_n hC d_AckBook_probesWithoutCause_40 rfl (lv_at hl 1 rfl) ?_
        refine x_getI hC hZ zc1 h (by decide) t_156 (fun _ h9 => h9) d_AckBook_probesWithoutCause_41 (fun v7 h => ?_)
        refine lv_icmp_ge (tgt := 61) hC.1 hC.2.1 d_AckBook_probesWithoutCause_44 (by decide) (fun hc => ?_) (fun hc => ?_)
        · have h := z_ifp hc h
          refine lv_iinc (lv' := [(3, .int (xL3 + (1 : Int32))), (0, va_rf rL0), (1, va_rf rL1), (2, .int xL2)]) hC.1 hC.2.1 d_AckBook_probesWithoutCause_61 hl (k := 3) rfl rfl (by decide) (by first | rfl | simp [z_rfc, z_ci, z_cj]) (fun ls hl => ?_)
          refine lv_goto (tgt := 13) hC.1 hC.2.1 d_AckBook_probesWithoutCause_64 (by decide) ?_
          exact ih _ _ _ _ _ _ h _ _ _ _ _ hZ (lv_sub hl [1, 2, 3, 0] rfl)
        · have h := z_ifn hc h
          refine x_aload_n hC d_AckBook_probesWithoutCause_47 rfl (lv_at hl 0 rfl) ?_
          refine x_getR hC hZ zc0 h (by decide) t_241 (fun _ h9 => h9) d_AckBook_probesWithoutCause_48 (fun r8 h => ?_)
          refine lv_iload_n hC.1 hC.2.1 d_AckBook_probesWithoutCause_51 rfl (lv_at hl 3 rfl) ?_
          refine x_ldR hC hZ h rfl d_AckBook_probesWithoutCause_52 (fun r9 h => ?_)
          refine x_getI hC hZ zc1 h (by decide) t_161 (fun _ h9 => h9) d_AckBook_probesWithoutCause_53 (fun v10 h => ?_)
          refine lv_if_ne (tgt := 61) hC.1 hC.2.1 d_AckBook_probesWithoutCause_56 (by decide) (fun hc => ?_) (fun hc => ?_)
          · have h := z_ifn hc h
            refine lv_iinc (lv' := [(3, .int (xL3 + (1 : Int32))), (0, va_rf rL0), (1, va_rf rL1), (2, .int xL2)]) hC.1 hC.2.1 d_AckBook_probesWithoutCause_61 hl (k := 3) rfl rfl (by decide) (by first | rfl | simp [z_rfc, z_ci, z_cj]) (fun ls hl => ?_)
            refine lv_goto (tgt := 13) hC.1 hC.2.1 d_AckBook_probesWithoutCause_64 (by decide) ?_
            exact ih _ _ _ _ _ _ h _ _ _ _ _ hZ (lv_sub hl [1, 2, 3, 0] rfl)
          · have h := z_ifp hc h
            refine lv_iconst (v := (0 : Int32)) hC.1 hC.2.1 d_AckBook_probesWithoutCause_59 (by decide) ?_
            refine lv_istore_n (i := 2) (lv' := [(2, .int (0 : Int32)), (0, va_rf rL0), (1, va_rf rL1), (3, .int xL3)]) hC.1 hC.2.1 d_AckBook_probesWithoutCause_60 rfl hl (by decide) (by first | rfl | simp [z_rfc, z_ci, z_cj]) (fun ls hl => ?_)
            refine lv_iinc (lv' := [(3, .int (xL3 + (1 : Int32))), (2, .int (0 : Int32)), (0, va_rf rL0), (1, va_rf rL1)]) hC.1 hC.2.1 d_AckBook_probesWithoutCause_61 hl (k := 3) rfl rfl (by decide) (by first | rfl | simp [z_rfc, z_ci, z_cj]) (fun ls hl => ?_)
            refine lv_goto (tgt := 13) hC.1 hC.2.1 d_AckBook_probesWithoutCause_64 (by decide) ?_
            exact ih _ _ _ _ _ _ h _ _ _ _ _ hZ (lv_sub hl [2, 3, 1, 0] rfl)
      · have h := z_ifn hc h
        refine lv_iconst (v := (0 : Int32)) hC.1 hC.2.1 d_AckBook_probesWithoutCause_37 (by decide) ?_
        exact x_iret hC hRc hRs hZ hr rfl h d_AckBook_probesWithoutCause_38
def f_AckBook_probesWithoutCause (F X : Nat) (a0 : Option Nat) (pR1 : Option Nat) (w : zW) : zR :=
  z_getI w 0 8 a0 fun v11 =>
  if v11 = 0 then (
    some (.inl (some (.int (0 : Int32))), w))
  else (
    (j_AckBook_probesWithoutCause F X F) a0 pR1 (1 : Int32) (0 : Int32) w)
set_option maxHeartbeats 4000000 in
set_option maxRecDepth 100000 in
theorem k_AckBook_probesWithoutCause {b0 : Nat} {H0 : Heap} {D : va_G} {vu vs : Value} {X M : Nat} {l : Launch} (hT : z_TB (zGG b0 H0 D vu vs X M)) (hfl : l.flags = pinnedFlags ++ [noTraceFlag]) (hE : vu.isRef = true ∧ vs.isRef = true) {a0 : Option Nat} {pR1 : Option Nat} (F : Nat) {w : zW} (res : zO × zW) (h : f_AckBook_probesWithoutCause F X a0 pR1 w = some res) : z_Ct (zGG b0 H0 D vu vs X M) l y_AckBook_probesWithoutCause (.code y_AckBook_probesWithoutCause c_AckBook_probesWithoutCause 4 (some FieldType.boolean)) 0 0 [va_rf a0, va_rf pR1] w res := by
  refine z_ct hT hfl (by decide) (by simp only [z_sl_i, z_sl_j, z_sl_r, z_sl_n]; decide) ?_
  intro p e R s m args below meth c hC hr hRc hRs hRt hnm hFr H ls hZ hl
  simp only [z_la_i, z_la_j, z_la_r, z_la_n] at hl
  have hl : lv_has ls 4 [(0, va_rf a0), (1, va_rf pR1)] := hl
  unfold f_AckBook_probesWithoutCause at h
  refine x_aload_n hC d_AckBook_probesWithoutCause_0 rfl (lv_at hl 0 rfl) ?_
  refine x_getI hC hZ zc0 h (by decide) t_249 (fun _ h9 => h9) d_AckBook_probesWithoutCause_1 (fun v11 h => ?_)
  refine lv_if_ne (tgt := 9) hC.1 hC.2.1 d_AckBook_probesWithoutCause_4 (by decide) (fun hc => ?_) (fun hc => ?_)
  · have h := z_ifn hc h
    refine lv_iconst (v := (1 : Int32)) hC.1 hC.2.1 d_AckBook_probesWithoutCause_9 (by decide) ?_
    refine lv_istore_n (i := 2) (lv' := [(2, .int (1 : Int32)), (0, va_rf a0), (1, va_rf pR1)]) hC.1 hC.2.1 d_AckBook_probesWithoutCause_10 rfl hl (by decide) (by first | rfl | simp [z_rfc, z_ci, z_cj]) (fun ls hl => ?_)
    refine lv_iconst (v := (0 : Int32)) hC.1 hC.2.1 d_AckBook_probesWithoutCause_11 (by decide) ?_
    refine lv_istore_n (i := 3) (lv' := [(3, .int (0 : Int32)), (2, .int (1 : Int32)), (0, va_rf a0), (1, va_rf pR1)]) hC.1 hC.2.1 d_AckBook_probesWithoutCause_12 rfl hl (by decide) (by first | rfl | simp [z_rfc, z_ci, z_cj]) (fun ls hl => ?_)
    exact (kj_AckBook_probesWithoutCause hT hfl hE hC hr hRc hRs hFr hRt hnm F) _ _ _ _ _ _ h _ _ _ _ _ hZ (lv_sub hl [2, 3, 1, 0] rfl)
  · have h := z_ifp hc h
    refine lv_iconst (v := (0 : Int32)) hC.1 hC.2.1 d_AckBook_probesWithoutCause_7 (by decide) ?_
    exact x_iret hC hRc hRs hZ hr rfl h d_AckBook_probesWithoutCause_8
def q_AckBook_probeTime_24 (F X : Nat) (rL0 : Option Nat) (rL1 : Option Nat) (w : zW) : zR :=
  z_this w 0 rL0 <|
  z_cI (f_AckBook_patience F X rL0 rL1 w) fun v2 w =>
  z_getI w 0 5 rL0 fun v3 =>
  z_getR w 1 1 rL1 fun r4 =>
  z_getI w 2 4 r4 fun v5 =>
  if v5 ≤ 0 then (
    z_this w 0 rL0 <|
    z_cI (f_AckBook_probesWithoutCause F X rL0 rL1 w) fun v7 w =>
    if v7 = 0 then (
      some (.inl (some (.int (-1 : Int32))), w))
    else (
      z_getI w 0 6 rL0 fun v8 =>
      some (.inl (some (.int (v8 + (v2 <<< (v3 &&& 31))))), w)))
  else (
    z_getR w 1 1 rL1 fun r9 =>
    z_getI w 2 5 r9 fun v10 =>
    some (.inl (some (.int (v10 + (v2 <<< (v3 &&& 31))))), w))
set_option maxHeartbeats 4000000 in
set_option maxRecDepth 100000 in
theorem kq_AckBook_probeTime_24 {b0 : Nat} {H0 : Heap} {D : va_G} {vu vs : Value} {X M : Nat} {l : Launch} (hT : z_TB (zGG b0 H0 D vu vs X M)) (hfl : l.flags = pinnedFlags ++ [noTraceFlag]) (hE : vu.isRef = true ∧ vs.isRef = true) {p : Program} {e : Env} {R : Room} {s : State} {m : MethodId} {args : Array Value} {below : List Frame} {meth : Method} {c : Code} {w0 : zW} {F : Nat} (hC : z_C (zGG b0 H0 D vu vs X M) p e s m meth c c_AckBook_probeTime 3 y_AckBook_probeTime.cls) (hr : meth.sig.returnType = (some FieldType.int)) (hRc : R.cells = w0.2.1) (hRs : R.slots = w0.2.2.1) (hFr : c.exceptionTable.toList = []) (hRt : R.frames = 3 ∧ R.locals = 70) (hnm : meth.name = y_AckBook_probeTime.name) (rL0 : Option Nat) (rL1 : Option Nat) (w : zW) (res : zO × zW) (h : q_AckBook_probeTime_24 F X rL0 rL1 w = some res) (H : Heap) (locs : List Loc) (cells slots : Nat) (ls : Array Slot) (hZ : z_Z (zGG b0 H0 D vu vs X M) R s w H locs cells slots) (hl : lv_has ls 3 [(0, va_rf rL0), (1, va_rf rL1)]) : W p l e R s m args below meth c H locs cells slots (z_Q (zGG b0 H0 D vu vs X M) below s w0 res) (F0 m 24 ls []) := by
  unfold q_AckBook_probeTime_24 at h
  refine x_aload_n hC d_AckBook_probeTime_24 rfl (lv_at hl 0 rfl) ?_
  refine x_aload_n hC d_AckBook_probeTime_25 rfl (lv_at hl 1 rfl) ?_
  obtain ⟨a_, fs_, eo_, h⟩ := z_this_spec h
  obtain ⟨w1_, o1_, hF_, ha_⟩ := z_cI_spec h
  refine x_goes hC hRc hRs hFr ha_ (z_goV (As := [va_rf rL1]) hC hZ zc0 eo_ (k_AckBook_patience hT hfl hE _ _ hF_) t_281 t_283 ts_AckBook_patience t_1 t_284 ⟨by decide, by decide, (by decide +kernel : (parseMethodDescriptor y_AckBook_patience.desc).map (fun d => d.parameters.length) = some 1)⟩ (by rw [hRt.1]; decide) (by rw [hRt.2]; decide) hl.1 rfl (by first | exact Nat.le_of_ble_eq_true rfl | simp [z_rfc, z_ci, z_cj]) d_AckBook_probeTime_26) (fun v_ hv H locs cells slots hZ => ?_)
  obtain ⟨v2, rfl, h⟩ := hv
  generalize w1_ = w at h hZ
  refine x_aload_n hC d_AckBook_probeTime_29 rfl (lv_at hl 0 rfl) ?_
  refine x_getI hC hZ zc0 h (by decide) t_246 (fun _ h9 => h9) d_AckBook_probeTime_30 (fun v3 h => ?_)
  refine lv_ishl hC.1 hC.2.1 d_AckBook_probeTime_33 ?_
  refine lv_istore_n (i := 2) (lv' := [(2, .int (v2 <<< (v3 &&& 31))), (0, va_rf rL0), (1, va_rf rL1)]) hC.1 hC.2.1 d_AckBook_probeTime_34 rfl hl (by decide) (by first | rfl | simp [z_rfc, z_ci, z_cj]) (fun ls hl => ?_)
  refine x_aload_n hC d_AckBook_probeTime_35 rfl (lv_at hl 2 rfl) ?_
  refine x_getR hC hZ zc1 h (by decide) t_158 (fun _ h9 => h9) d_AckBook_probeTime_36 (fun r4 h => ?_)
  refine x_getI hC hZ zc2 h (by decide) t_94 (fun _ h9 => h9) d_AckBook_probeTime_39 (fun v5 h => ?_)
  refine lv_if_le (tgt := 55) hC.1 hC.2.1 d_AckBook_probeTime_42 (by decide) (fun hc => ?_) (fun hc => ?_)
  · have h := z_ifp hc h
    refine x_aload_n hC d_AckBook_probeTime_55 rfl (lv_at hl 1 rfl) ?_
    refine x_aload_n hC d_AckBook_probeTime_56 rfl (lv_at hl 2 rfl) ?_
    obtain ⟨a_, fs_, eo_, h⟩ := z_this_spec h
    obtain ⟨w1_, o1_, hF_, ha_⟩ := z_cI_spec h
    refine x_goes hC hRc hRs hFr ha_ (z_goV (As := [va_rf rL1]) hC hZ zc0 eo_ (k_AckBook_probesWithoutCause hT hfl hE _ _ hF_) t_292 t_294 ts_AckBook_probesWithoutCause t_1 t_295 ⟨by decide, by decide, (by decide +kernel : (parseMethodDescriptor y_AckBook_probesWithoutCause.desc).map (fun d => d.parameters.length) = some 1)⟩ (by rw [hRt.1]; decide) (by rw [hRt.2]; decide) hl.1 rfl (by first | exact Nat.le_of_ble_eq_true rfl | simp [z_rfc, z_ci, z_cj]) d_AckBook_probeTime_57) (fun v_ hv H locs cells slots hZ => ?_)
    obtain ⟨v7, rfl, h⟩ := hv
    generalize w1_ = w at h hZ
    refine lv_if_eq (tgt := 72) hC.1 hC.2.1 d_AckBook_probeTime_60 (by decide) (fun hc => ?_) (fun hc => ?_)
    · have h := z_ifp hc h
      refine lv_iconst (v := (-1 : Int32)) hC.1 hC.2.1 d_AckBook_probeTime_72 (by decide) ?_
      exact x_iret hC hRc hRs hZ hr rfl h d_AckBook_probeTime_73
    · have h := z_ifn hc h
      refine x_aload_n hC d_AckBook_probeTime_63 rfl (lv_at hl 1 rfl) ?_
      refine x_getI hC hZ zc0 h (by decide) t_247 (fun _ h9 => h9) d_AckBook_probeTime_64 (fun v8 h => ?_)
      refine lv_iload_n hC.1 hC.2.1 d_AckBook_probeTime_67 rfl (lv_at hl 0 rfl) ?_
      refine lv_iadd hC.1 hC.2.1 d_AckBook_probeTime_68 ?_
      refine lv_goto (tgt := 73) hC.1 hC.2.1 d_AckBook_probeTime_69 (by decide) ?_
      exact x_iret hC hRc hRs hZ hr rfl h d_AckBook_probeTime_73
  · have h := z_ifn hc h
    refine x_aload_n hC d_AckBook_probeTime_45 rfl (lv_at hl 2 rfl) ?_
    refine x_getR hC hZ zc1 h (by decide) t_158 (fun _ h9 => h9) d_AckBook_probeTime_46 (fun r9 h => ?_)
    refine x_getI hC hZ zc2 h (by decide) t_96 (fun _ h9 => h9) d_AckBook_probeTime_49 (fun v10 h => ?_)
    refine lv_iload_n hC.1 hC.2.1 d_AckBook_probeTime_52 rfl (lv_at hl 0 rfl) ?_
    refine lv_iadd hC.1 hC.2.1 d_AckBook_probeTime_53 ?_
    exact x_iret hC hRc hRs hZ hr rfl h d_AckBook_probeTime_54
def f_AckBook_probeTime (F X : Nat) (a0 : Option Nat) (pR1 : Option Nat) (w : zW) : zR :=
  z_getI w 1 3 pR1 fun v11 =>
  if v11 = 0 then (
    z_getI w 1 0 pR1 fun v12 =>
    if v12 = (2 : Int32) then (
      z_getI w 0 7 a0 fun v13 =>
      if v13 = 0 then (
        some (.inl (some (.int (-1 : Int32))), w))
      else (
        q_AckBook_probeTime_24 F X a0 pR1 w))
    else (
      q_AckBook_probeTime_24 F X a0 pR1 w))
  else (
    some (.inl (some (.int (-1 : Int32))), w))
set_option maxHeartbeats 4000000 in
set_option maxRecDepth 100000 in
theorem k_AckBook_probeTime {b0 : Nat} {H0 : Heap} {D : va_G} {vu vs : Value} {X M : Nat} {l : Launch} (hT : z_TB (zGG b0 H0 D vu vs X M)) (hfl : l.flags = pinnedFlags ++ [noTraceFlag]) (hE : vu.isRef = true ∧ vs.isRef = true) {a0 : Option Nat} {pR1 : Option Nat} (F : Nat) {w : zW} (res : zO × zW) (h : f_AckBook_probeTime F X a0 pR1 w = some res) : z_Ct (zGG b0 H0 D vu vs X M) l y_AckBook_probeTime (.code y_AckBook_probeTime c_AckBook_probeTime 3 (some FieldType.int)) 3 70 [va_rf a0, va_rf pR1] w res := by
  refine z_ct hT hfl (by decide) (by simp only [z_sl_i, z_sl_j, z_sl_r, z_sl_n]; decide) ?_
  intro p e R s m args below meth c hC hr hRc hRs hRt hnm hFr H ls hZ hl
  simp only [z_la_i, z_la_j, z_la_r, z_la_n] at hl
  have hl : lv_has ls 3 [(0, va_rf a0), (1, va_rf pR1)] := hl
  unfold f_AckBook_probeTime at h
  refine x_aload_n hC d_AckBook_probeTime_0 rfl (lv_at hl 1 rfl) ?_
  refine x_getI hC hZ zc1 h (by decide) t_161 (fun _ h9 => h9) d_AckBook_probeTime_1 (fun v11 h => ?_)
  refine lv_if_ne (tgt := 22) hC.1 hC.2.1 d_AckBook_probeTime_4 (by decide) (fun hc => ?_) (fun hc => ?_)
  · have h := z_ifn hc h
    refine lv_iconst (v := (-1 : Int32)) hC.1 hC.2.1 d_AckBook_probeTime_22 (by decide) ?_
    exact x_iret hC hRc hRs hZ hr rfl h d_AckBook_probeTime_23
  · have h := z_ifp hc h
    refine x_aload_n hC d_AckBook_probeTime_7 rfl (lv_at hl 1 rfl) ?_
    refine x_getI hC hZ zc1 h (by decide) t_156 (fun _ h9 => h9) d_AckBook_probeTime_8 (fun v12 h => ?_)
    refine lv_iconst (v := (2 : Int32)) hC.1 hC.2.1 d_AckBook_probeTime_11 (by decide) ?_
    refine lv_icmp_ne (tgt := 24) hC.1 hC.2.1 d_AckBook_probeTime_12 (by decide) (fun hc => ?_) (fun hc => ?_)
    · have h := z_ifn hc h
      exact kq_AckBook_probeTime_24 hT hfl hE hC hr hRc hRs hFr hRt hnm _ _ _ _ h _ _ _ _ _ hZ (lv_sub hl [0, 1] rfl)
    · have h := z_ifp hc h
      refine x_aload_n hC d_AckBook_probeTime_15 rfl (lv_at hl 0 rfl) ?_
      refine x_getI hC hZ zc0 h (by decide) t_248 (fun _ h9 => h9) d_AckBook_probeTime_16 (fun v13 h => ?_)
      refine lv_if_ne (tgt := 24) hC.1 hC.2.1 d_AckBook_probeTime_19 (by decide) (fun hc => ?_) (fun hc => ?_)
      · have h := z_ifn hc h
        exact kq_AckBook_probeTime_24 hT hfl hE hC hr hRc hRs hFr hRt hnm _ _ _ _ h _ _ _ _ _ hZ (lv_sub hl [0, 1] rfl)
      · have h := z_ifp hc h
        refine lv_iconst (v := (-1 : Int32)) hC.1 hC.2.1 d_AckBook_probeTime_22 (by decide) ?_
        exact x_iret hC hRc hRs hZ hr rfl h d_AckBook_probeTime_23
def q_AckBook_earliest_89 (F X : Nat) (J : Option Nat → Int32 → Option Nat → Int32 → Int32 → zW → zR) (rL0 : Option Nat) (xL1 : Int32) (xL4 : Int32) (rL5 : Option Nat) (xL6 : Int32) (w : zW) : zR :=
  J rL0 xL1 rL5 xL6 (xL4 + (1 : Int32)) w
set_option maxHeartbeats 4000000 in
set_option maxRecDepth 100000 in
theorem kq_AckBook_earliest_89 {b0 : Nat} {H0 : Heap} {D : va_G} {vu vs : Value} {X M : Nat} {l : Launch} (hT : z_TB (zGG b0 H0 D vu vs X M)) (hfl : l.flags = pinnedFlags ++ [noTraceFlag]) (hE : vu.isRef = true ∧ vs.isRef = true) {p : Program} {e : Env} {R : Room} {s : State} {m : MethodId} {args : Array Value} {below : List Frame} {meth : Method} {c : Code} {w0 : zW} {F : Nat} (hC : z_C (zGG b0 H0 D vu vs X M) p e s m meth c c_AckBook_earliest 8 y_AckBook_earliest.cls) (hr : meth.sig.returnType = (some (FieldType.object "AckBook$Space"))) (hRc : R.cells = w0.2.1) (hRs : R.slots = w0.2.2.1) (hFr : c.exceptionTable.toList = []) (hRt : R.frames = 4 ∧ R.locals = 92) (hnm : meth.name = y_AckBook_earliest.name) {J : Option Nat → Int32 → Option Nat → Int32 → Int32 → zW → zR} (hJ : (∀ (rL0 : Option Nat) (xL1 : Int32) (rL2 : Option Nat) (xL3 : Int32) (xL4 : Int32) (w : zW) (res : zO × zW), J rL0 xL1 rL2 xL3 xL4 w = some res → ∀ (H : Heap) (locs : List Loc) (cells slots : Nat) (ls : Array Slot), z_Z (zGG b0 H0 D vu vs X M) R s w H locs cells slots → lv_has ls 8 [(0, va_rf rL0), (1, .int xL1), (2, va_rf rL2), (3, .int xL3), (4, .int xL4)] → W p l e R s m args below meth c H locs cells slots (z_Q (zGG b0 H0 D vu vs X M) below s w0 res) (F0 m 10 ls []))) (rL0 : Option Nat) (xL1 : Int32) (xL4 : Int32) (rL5 : Option Nat) (xL6 : Int32) (w : zW) (res : zO × zW) (h : q_AckBook_earliest_89 F X J rL0 xL1 xL4 rL5 xL6 w = some res) (H : Heap) (locs : List Loc) (cells slots : Nat) (ls : Array Slot) (hZ : z_Z (zGG b0 H0 D vu vs X M) R s w H locs cells slots) (hl : lv_has ls 8 [(0, va_rf rL0), (1, .int xL1), (4, .int xL4), (5, va_rf rL5), (6, .int xL6)]) : W p l e R s m args below meth c H locs cells slots (z_Q (zGG b0 H0 D vu vs X M) below s w0 res) (F0 m 89 ls []) := by
  unfold q_AckBook_earliest_89 at h
  refine x_aload hC d_AckBook_earliest_89 (lv_at hl 3 rfl) ?_
  refine x_astore_n (i := 2) (lv' := [(2, va_rf rL5), (0, va_rf rL0), (1, .int xL1), (4, .int xL4), (5, va_rf rL5), (6, .int xL6)]) hC d_AckBook_earliest_91 rfl hl (by decide) (by first | rfl | simp [z_rfc, z_ci, z_cj]) (fun ls hl => ?_)
  refine lv_iload hC.1 hC.2.1 d_AckBook_earliest_92 (lv_at hl 5 rfl) ?_
  refine lv_istore_n (i := 3) (lv' := [(3, .int xL6), (2, va_rf rL5), (0, va_rf rL0), (1, .int xL1), (4, .int xL4), (5, va_rf rL5), (6, .int xL6)]) hC.1 hC.2.1 d_AckBook_earliest_94 rfl hl (by decide) (by first | rfl | simp [z_rfc, z_ci, z_cj]) (fun ls hl => ?_)
  refine lv_iinc (lv' := [(4, .int (xL4 + (1 : Int32))), (3, .int xL6), (2, va_rf rL5), (0, va_rf rL0), (1, .int xL1), (5, va_rf rL5), (6, .int xL6)]) hC.1 hC.2.1 d_AckBook_earliest_95 hl (k := 4) rfl rfl (by decide) (by first | rfl | simp [z_rfc, z_ci, z_cj]) (fun ls hl => ?_)
  refine lv_goto (tgt := 10) hC.1 hC.2.1 d_AckBook_earliest_98 (by decide) ?_
  exact hJ _ _ _ _ _ _ _ h _ _ _ _ _ hZ (lv_sub hl [3, 4, 2, 1, 0] rfl)
def q_AckBook_earliest_72 (F X : Nat) (J : Option Nat → Int32 → Option Nat → Int32 → Int32 → zW → zR) (rL0 : Option Nat) (xL1 : Int32) (rL2 : Option Nat) (xL3 : Int32) (xL4 : Int32) (rL5 : Option Nat) (xL6 : Int32) (xS0 : Int32) (w : zW) : zR :=
  if xS0 = 0 then (
    J rL0 xL1 rL2 xL3 (xL4 + (1 : Int32)) w)
  else (
    if rL2 = none then (
      q_AckBook_earliest_89 F X J rL0 xL1 xL4 rL5 xL6 w)
    else (
      if xL3 ≤ xL6 then (
        J rL0 xL1 rL2 xL3 (xL4 + (1 : Int32)) w)
      else (
        q_AckBook_earliest_89 F X J rL0 xL1 xL4 rL5 xL6 w)))
set_option maxHeartbeats 4000000 in
set_option maxRecDepth 100000 in
theorem kq_AckBook_earliest_72 {b0 : Nat} {H0 : Heap} {D : va_G} {vu vs : Value} {X M : Nat} {l : Launch} (hT : z_TB (zGG b0 H0 D vu vs X M)) (hfl : l.flags = pinnedFlags ++ [noTraceFlag]) (hE : vu.isRef = true ∧ vs.isRef = true) {p : Program} {e : Env} {R : Room} {s : State} {m : MethodId} {args : Array Value} {below : List Frame} {meth : Method} {c : Code} {w0 : zW} {F : Nat} (hC : z_C (zGG b0 H0 D vu vs X M) p e s m meth c c_AckBook_earliest 8 y_AckBook_earliest.cls) (hr : meth.sig.returnType = (some (FieldType.object "AckBook$Space"))) (hRc : R.cells = w0.2.1) (hRs : R.slots = w0.2.2.1) (hFr : c.exceptionTable.toList = []) (hRt : R.frames = 4 ∧ R.locals = 92) (hnm : meth.name = y_AckBook_earliest.name) {J : Option Nat → Int32 → Option Nat → Int32 → Int32 → zW → zR} (hJ : (∀ (rL0 : Option Nat) (xL1 : Int32) (rL2 : Option Nat) (xL3 : Int32) (xL4 : Int32) (w : zW) (res : zO × zW), J rL0 xL1 rL2 xL3 xL4 w = some res → ∀ (H : Heap) (locs : List Loc) (cells slots : Nat) (ls : Array Slot), z_Z (zGG b0 H0 D vu vs X M) R s w H locs cells slots → lv_has ls 8 [(0, va_rf rL0), (1, .int xL1), (2, va_rf rL2), (3, .int xL3), (4, .int xL4)] → W p l e R s m args below meth c H locs cells slots (z_Q (zGG b0 H0 D vu vs X M) below s w0 res) (F0 m 10 ls []))) (rL0 : Option Nat) (xL1 : Int32) (rL2 : Option Nat) (xL3 : Int32) (xL4 : Int32) (rL5 : Option Nat) (xL6 : Int32) (xS0 : Int32) (w : zW) (res : zO × zW) (h : q_AckBook_earliest_72 F X J rL0 xL1 rL2 xL3 xL4 rL5 xL6 xS0 w = some res) (H : Heap) (locs : List Loc) (cells slots : Nat) (ls : Array Slot) (hZ : z_Z (zGG b0 H0 D vu vs X M) R s w H locs cells slots) (hl : lv_has ls 8 [(0, va_rf rL0), (1, .int xL1), (2, va_rf rL2), (3, .int xL3), (4, .int xL4), (5, va_rf rL5), (6, .int xL6)]) : W p l e R s m args below meth c H locs cells slots (z_Q (zGG b0 H0 D vu vs X M) below s w0 res) (F0 m 72 ls [.int xS0]) := by
  unfold q_AckBook_earliest_72 at h
  refine lv_istore (i := 7) (lv' := [(7, .int xS0), (0, va_rf rL0), (1, .int xL1), (2, va_rf rL2), (3, .int xL3), (4, .int xL4), (5, va_rf rL5), (6, .int xL6)]) hC.1 hC.2.1 d_AckBook_earliest_72 hl (by decide) (by first | rfl | simp [z_rfc, z_ci, z_cj]) (fun ls hl => ?_)
  refine lv_iload hC.1 hC.2.1 d_AckBook_earliest_74 (lv_at hl 0 rfl) ?_
  refine lv_if_eq (tgt := 95) hC.1 hC.2.1 d_AckBook_earliest_76 (by decide) (fun hc => ?_) (fun hc => ?_)
  · have h := z_ifp hc h
    refine lv_iinc (lv' := [(4, .int (xL4 + (1 : Int32))), (7, .int xS0), (0, va_rf rL0), (1, .int xL1), (2, va_rf rL2), (3, .int xL3), (5, va_rf rL5), (6, .int xL6)]) hC.1 hC.2.1 d_AckBook_earliest_95 hl (k := 5) rfl rfl (by decide) (by first | rfl | simp [z_rfc, z_ci, z_cj]) (fun ls hl => ?_)
    refine lv_goto (tgt := 10) hC.1 hC.2.1 d_AckBook_earliest_98 (by decide) ?_
    exact hJ _ _ _ _ _ _ _ h _ _ _ _ _ hZ (lv_sub hl [2, 3, 4, 5, 0] rfl)
  · have h := z_ifn hc h
    refine x_aload_n hC d_AckBook_earliest_79 rfl (lv_at hl 3 rfl) ?_
    refine x_ifnull (tgt := 89) hC d_AckBook_earliest_80 (by decide) (fun hc => ?_) (fun hc => ?_)
    · have h := z_ifp hc h
      exact kq_AckBook_earliest_89 hT hfl hE hC hr hRc hRs hFr hRt hnm hJ _ _ _ _ _ _ _ h _ _ _ _ _ hZ (lv_sub hl [1, 2, 5, 6, 7] rfl)
    · have h := z_ifn hc h
      refine lv_iload hC.1 hC.2.1 d_AckBook_earliest_83 (lv_at hl 7 rfl) ?_
      refine lv_iload_n hC.1 hC.2.1 d_AckBook_earliest_85 rfl (lv_at hl 4 rfl) ?_
      refine lv_icmp_ge (tgt := 95) hC.1 hC.2.1 d_AckBook_earliest_86 (by decide) (fun hc => ?_) (fun hc => ?_)
      · have h := z_ifp hc h
        refine lv_iinc (lv' := [(4, .int (xL4 + (1 : Int32))), (7, .int xS0), (0, va_rf rL0), (1, .int xL1), (2, va_rf rL2), (3, .int xL3), (5, va_rf rL5), (6, .int xL6)]) hC.1 hC.2.1 d_AckBook_earliest_95 hl (k := 5) rfl rfl (by decide) (by first | rfl | simp [z_rfc, z_ci, z_cj]) (fun ls hl => ?_)
        refine lv_goto (tgt := 10) hC.1 hC.2.1 d_AckBook_earliest_98 (by decide) ?_
        exact hJ _ _ _ _ _ _ _ h _ _ _ _ _ hZ (lv_sub hl [2, 3, 4, 5, 0] rfl)
      · have h := z_ifn hc h
        exact kq_AckBook_earliest_89 hT hfl hE hC hr hRc hRs hFr hRt hnm hJ _ _ _ _ _ _ _ h _ _ _ _ _ hZ (lv_sub hl [1, 2, 5, 6, 7] rfl)
def q_AckBook_earliest_71 (F X : Nat) (J : Option Nat → Int32 → Option Nat → Int32 → Int32 → zW → zR) (rL0 : Option Nat) (xL1 : Int32) (rL2 : Option Nat) (xL3 : Int32) (xL4 : Int32) (rL5 : Option Nat) (xL6 : Int32) (w : zW) : zR :=
  q_AckBook_earliest_72 F X J rL0 xL1 rL2 xL3 xL4 rL5 xL6 (0 : Int32) w
set_option maxHeartbeats 4000000 in
set_option maxRecDepth 100000 in
theorem kq_AckBook_earliest_71 {b0 : Nat} {H0 : Heap} {D : va_G} {vu vs : Value} {X M : Nat} {l : Launch} (hT : z_TB (zGG b0 H0 D vu vs X M)) (hfl : l.flags = pinnedFlags ++ [noTraceFlag]) (hE : vu.isRef = true ∧ vs.isRef = true) {p : Program} {e : Env} {R : Room} {s : State} {m : MethodId} {args : Array Value} {below : List Frame} {meth : Method} {c : Code} {w0 : zW} {F : Nat} (hC : z_C (zGG b0 H0 D vu vs X M) p e s m meth c c_AckBook_earliest 8 y_AckBook_earliest.cls) (hr : meth.sig.returnType = (some (FieldType.object "AckBook$Space"))) (hRc : R.cells = w0.2.1) (hRs : R.slots = w0.2.2.1) (hFr : c.exceptionTable.toList = []) (hRt : R.frames = 4 ∧ R.locals = 92) (hnm : meth.name = y_AckBook_earliest.name) {J : Option Nat → Int32 → Option Nat → Int32 → Int32 → zW → zR} (hJ : (∀ (rL0 : Option Nat) (xL1 : Int32) (rL2 : Option Nat) (xL3 : Int32) (xL4 : Int32) (w : zW) (res : zO × zW), J rL0 xL1 rL2 xL3 xL4 w = some res → ∀ (H : Heap) (locs : List Loc) (cells slots : Nat) (ls : Array Slot), z_Z (zGG b0 H0 D vu vs X M) R s w H locs cells slots → lv_has ls 8 [(0, va_rf rL0), (1, .int xL1), (2, va_rf rL2), (3, .int xL3), (4, .int xL4)] → W p l e R s m args below meth c H locs cells slots (z_Q (zGG b0 H0 D vu vs X M) below s w0 res) (F0 m 10 ls []))) (rL0 : Option Nat) (xL1 : Int32) (rL2 : Option Nat) (xL3 : Int32) (xL4 : Int32) (rL5 : Option Nat) (xL6 : Int32) (w : zW) (res : zO × zW) (h : q_AckBook_earliest_71 F X J rL0 xL1 rL2 xL3 xL4 rL5 xL6 w = some res) (H : Heap) (locs : List Loc) (cells slots : Nat) (ls : Array Slot) (hZ : z_Z (zGG b0 H0 D vu vs X M) R s w H locs cells slots) (hl : lv_has ls 8 [(0, va_rf rL0), (1, .int xL1), (2, va_rf rL2), (3, .int xL3), (4, .int xL4), (5, va_rf rL5), (6, .int xL6)]) : W p l e R s m args below meth c H locs cells slots (z_Q (zGG b0 H0 D vu vs X M) below s w0 res) (F0 m 71 ls []) := by
  unfold q_AckBook_earliest_71 at h
  refine lv_iconst (v := (0 : Int32)) hC.1 hC.2.1 d_AckBook_earliest_71 (by decide) ?_
  exact kq_AckBook_earliest_72 hT hfl hE hC hr hRc hRs hFr hRt hnm hJ _ _ _ _ _ _ _ _ _ _ h _ _ _ _ _ hZ (lv_sub hl [0, 1, 2, 3, 4, 5, 6] rfl)
def q_AckBook_earliest_50 (F X : Nat) (J : Option Nat → Int32 → Option Nat → Int32 → Int32 → zW → zR) (rL0 : Option Nat) (xL1 : Int32) (rL2 : Option Nat) (xL3 : Int32) (xL4 : Int32) (rL5 : Option Nat) (xS0 : Int32) (w : zW) : zR :=
  if xS0 = (-1 : Int32) then (
    q_AckBook_earliest_71 F X J rL0 xL1 rL2 xL3 xL4 rL5 xS0 w)
  else (
    z_getI w 0 4 rL0 fun v1 =>
    if v1 < xS0 then (
      q_AckBook_earliest_71 F X J rL0 xL1 rL2 xL3 xL4 rL5 xS0 w)
    else (
      q_AckBook_earliest_72 F X J rL0 xL1 rL2 xL3 xL4 rL5 xS0 (1 : Int32) w))
set_option maxHeartbeats 4000000 in
set_option maxRecDepth 100000 in
theorem kq_AckBook_earliest_50 {b0 : Nat} {H0 : Heap} {D : va_G} {vu vs : Value} {X M : Nat} {l : Launch} (hT : z_TB (zGG b0 H0 D vu vs X M)) (hfl : l.flags = pinnedFlags ++ [noTraceFlag]) (hE : vu.isRef = true ∧ vs.isRef = true) {p : Program} {e : Env} {R : Room} {s : State} {m : MethodId} {args : Array Value} {below : List Frame} {meth : Method} {c : Code} {w0 : zW} {F : Nat} (hC : z_C (zGG b0 H0 D vu vs X M) p e s m meth c c_AckBook_earliest 8 y_AckBook_earliest.cls) (hr : meth.sig.returnType = (some (FieldType.object "AckBook$Space"))) (hRc : R.cells = w0.2.1) (hRs : R.slots = w0.2.2.1) (hFr : c.exceptionTable.toList = []) (hRt : R.frames = 4 ∧ R.locals = 92) (hnm : meth.name = y_AckBook_earliest.name) {J : Option Nat → Int32 → Option Nat → Int32 → Int32 → zW → zR} (hJ : (∀ (rL0 : Option Nat) (xL1 : Int32) (rL2 : Option Nat) (xL3 : Int32) (xL4 : Int32) (w : zW) (res : zO × zW), J rL0 xL1 rL2 xL3 xL4 w = some res → ∀ (H : Heap) (locs : List Loc) (cells slots : Nat) (ls : Array Slot), z_Z (zGG b0 H0 D vu vs X M) R s w H locs cells slots → lv_has ls 8 [(0, va_rf rL0), (1, .int xL1), (2, va_rf rL2), (3, .int xL3), (4, .int xL4)] → W p l e R s m args below meth c H locs cells slots (z_Q (zGG b0 H0 D vu vs X M) below s w0 res) (F0 m 10 ls []))) (rL0 : Option Nat) (xL1 : Int32) (rL2 : Option Nat) (xL3 : Int32) (xL4 : Int32) (rL5 : Option Nat) (xS0 : Int32) (w : zW) (res : zO × zW) (h : q_AckBook_earliest_50 F X J rL0 xL1 rL2 xL3 xL4 rL5 xS0 w = some res) (H : Heap) (locs : List Loc) (cells slots : Nat) (ls : Array Slot) (hZ : z_Z (zGG b0 H0 D vu vs X M) R s w H locs cells slots) (hl : lv_has ls 8 [(0, va_rf rL0), (1, .int xL1), (2, va_rf rL2), (3, .int xL3), (4, .int xL4), (5, va_rf rL5)]) : W p l e R s m args below meth c H locs cells slots (z_Q (zGG b0 H0 D vu vs X M) below s w0 res) (F0 m 50 ls [.int xS0]) := by
  unfold q_AckBook_earliest_50 at h
  refine lv_istore (i := 6) (lv' := [(6, .int xS0), (0, va_rf rL0), (1, .int xL1), (2, va_rf rL2), (3, .int xL3), (4, .int xL4), (5, va_rf rL5)]) hC.1 hC.2.1 d_AckBook_earliest_50 hl (by decide) (by first | rfl | simp [z_rfc, z_ci, z_cj]) (fun ls hl => ?_)
  refine lv_iload hC.1 hC.2.1 d_AckBook_earliest_52 (lv_at hl 0 rfl) ?_
  refine lv_iconst (v := (-1 : Int32)) hC.1 hC.2.1 d_AckBook_earliest_54 (by decide) ?_
  refine lv_icmp_eq (tgt := 71) hC.1 hC.2.1 d_AckBook_earliest_55 (by decide) (fun hc => ?_) (fun hc => ?_)
  · have h := z_ifp hc h
    exact kq_AckBook_earliest_71 hT hfl hE hC hr hRc hRs hFr hRt hnm hJ _ _ _ _ _ _ _ _ _ h _ _ _ _ _ hZ (lv_sub hl [1, 2, 3, 4, 5, 6, 0] rfl)
  · have h := z_ifn hc h
    refine lv_iload hC.1 hC.2.1 d_AckBook_earliest_58 (lv_at hl 0 rfl) ?_
    refine x_aload_n hC d_AckBook_earliest_60 rfl (lv_at hl 1 rfl) ?_
    refine x_getI hC hZ zc0 h (by decide) t_245 (fun _ h9 => h9) d_AckBook_earliest_61 (fun v1 h => ?_)
    refine lv_icmp_gt (tgt := 71) hC.1 hC.2.1 d_AckBook_earliest_64 (by decide) (fun hc => ?_) (fun hc => ?_)
    · have h := z_ifp hc h
      exact kq_AckBook_earliest_71 hT hfl hE hC hr hRc hRs hFr hRt hnm hJ _ _ _ _ _ _ _ _ _ h _ _ _ _ _ hZ (lv_sub hl [1, 2, 3, 4, 5, 6, 0] rfl)
    · have h := z_ifn hc h
      refine lv_iconst (v := (1 : Int32)) hC.1 hC.2.1 d_AckBook_earliest_67 (by decide) ?_
      refine lv_goto (tgt := 72) hC.1 hC.2.1 d_AckBook_earliest_68 (by decide) ?_
      exact kq_AckBook_earliest_72 hT hfl hE hC hr hRc hRs hFr hRt hnm hJ _ _ _ _ _ _ _ _ _ _ h _ _ _ _ _ hZ (lv_sub hl [1, 2, 3, 4, 5, 6, 0] rfl)
def j_AckBook_earliest (F X : Nat) : Nat → Option Nat → Int32 → Option Nat → Int32 → Int32 → zW → zR
  | 0, _, _, _, _, _, _ => none
  | N + 1, rL0, xL1, rL2, xL3, xL4, w =>
    z_getR w 0 0 rL0 fun r2 =>
    z_len w r2 fun v3 =>
    if v3 ≤ xL4 then (
      some (.inl (some (va_rf rL2)), w))
    else (
      z_getR w 0 0 rL0 fun r4 =>
      z_ldR w (.object "AckBook$Space") r4 xL4 fun r5 =>
      if xL1 = 0 then (
        z_getR w 1 1 r5 fun r6 =>
        z_getI w 2 7 r6 fun v7 =>
        q_AckBook_earliest_50 F X (j_AckBook_earliest F X N) rL0 xL1 rL2 xL3 xL4 r5 v7 w)
      else (
        z_this w 0 rL0 <|
        z_cI (f_AckBook_probeTime F X rL0 r5 w) fun v9 w =>
        q_AckBook_earliest_50 F X (j_AckBook_earliest F X N) rL0 xL1 rL2 xL3 xL4 r5 v9 w))
set_option maxHeartbeats 4000000 in
set_option maxRecDepth 100000 in
theorem kj_AckBook_earliest {b0 : Nat} {H0 : Heap} {D : va_G} {vu vs : Value} {X M : Nat} {l : Launch} (hT : z_TB (zGG b0 H0 D vu vs X M)) (hfl : l.flags = pinnedFlags ++ [noTraceFlag]) (hE : vu.isRef = true ∧ vs.isRef = true) {p : Program} {e : Env} {R : Room} {s : State} {m : MethodId} {args : Array Value} {below : List Frame} {meth : Method} {c : Code} {w0 : zW} {F : Nat} (hC : z_C (zGG b0 H0 D vu vs X M) p e s m meth c c_AckBook_earliest 8 y_AckBook_earliest.cls) (hr : meth.sig.returnType = (some (FieldType.object "AckBook$Space"))) (hRc : R.cells = w0.2.1) (hRs : R.slots = w0.2.2.1) (hFr : c.exceptionTable.toList = []) (hRt : R.frames = 4 ∧ R.locals = 92) (hnm : meth.name = y_AckBook_earliest.name) : ∀ N : Nat, (∀ (rL0 : Option Nat) (xL1 : Int32) (rL2 : Option Nat) (xL3 : Int32) (xL4 : Int32) (w : zW) (res : zO × zW), j_AckBook_earliest F X N rL0 xL1 rL2 xL3 xL4 w = some res → ∀ (H : Heap) (locs : List Loc) (cells slots : Nat) (ls : Array Slot), z_Z (zGG b0 H0 D vu vs X M) R s w H locs cells slots → lv_has ls 8 [(0, va_rf rL0), (1, .int xL1), (2, va_rf rL2), (3, .int xL3), (4, .int xL4)] → W p l e R s m args below meth c H locs cells slots (z_Q (zGG b0 H0 D vu vs X M) below s w0 res) (F0 m 10 ls [])) := by
  intro N
  induction N with
  | zero =>
    intro rL0 xL1 rL2 xL3 xL4 w res h
    rw [j_AckBook_earliest] at h
    cases h
  | succ N ih =>
    intro rL0 xL1 rL2 xL3 xL4 w res h H locs cells slots ls hZ hl
    rw [j_AckBook_earliest] at h
    refine lv_iload hC.1 hC.2.1 d_AckBook_earliest_10 (lv_at hl 4 rfl) ?_
    refine x_aload_n hC d_AckBook_earliest_12 rfl (lv_at hl 0 rfl) ?_
    refine x_getR hC hZ zc0 h (by decide) t_241 (fun _ h9 => h9) d_AckBook_earliest_13 (fun r2 h => ?_)
    refine x_len hC hZ h d_AckBook_earliest_16 (fun v3 h => ?_)
    refine lv_icmp_ge (tgt := 101) hC.1 hC.2.1 d_AckBook_earliest_17 (by decide) (fun hc => ?_) (fun hc => ?_)
    · have h := z_ifp hc h
      refine x_aload_n hC d_AckBook_earliest_101 rfl (lv_at hl 2 rfl) ?_
      exact x_aret hC hRc hRs hZ hr (Or.inl ⟨_, rfl⟩) h d_AckBook_earliest_102
    · have h := z_ifn hc h
      refine x_aload_n hC d_AckBook_earliest_20 rfl (lv_at hl 0 rfl) ?_
      refine x_getR hC hZ zc0 h (by decide) t_241 (fun _ h9 => h9) d_AckBook_earliest_21 (fun r4 h => ?_)
      refine lv_iload hC.1 hC.2.1 d_AckBook_earliest_24 (lv_at hl 4 rfl) ?_
      refine x_ldR hC hZ h rfl d_AckBook_earliest_26 (fun r5 h => ?_)
      refine x_astore (i := 5) (lv' := [(5, va_rf r5), (0, va_rf rL0), (1, .int xL1), (2, va_rf rL2), (3, .int xL3), (4, .int xL4)]) hC d_AckBook_earliest_27 hl (by decide) (by first | rfl | simp [z_rfc, z_ci, z_cj]) (fun ls hl => ?_)
      refine lv_iload_n hC.1 hC.2.1 d_AckBook_earliest_29 rfl (lv_at hl 2 rfl) ?_
      refine lv_if_eq (tgt := 42) hC.1 hC.2.1 d_AckBook_earliest_30 (by decide) (fun hc => ?_) (fun hc => ?_)
      · have h := z_ifp hc h
        refine x_aload hC d_AckBook_earliest_42 (lv_at hl 0 rfl) ?_
        refine x_getR hC hZ zc1 h (by decide) t_158 (fun _ h9 => h9) d_AckBook_earliest_44 (fun r6 h => ?_)
        refine x_getI hC hZ zc2 h (by decide) t_100 (fun _ h9 => h9) d_AckBook_earliest_47 (fun v7 h => ?_)
        exact kq_AckBook_earliest_50 hT hfl hE hC hr hRc hRs hFr hRt hnm ih _ _ _ _ _ _ _ _ _ h _ _ _ _ _ hZ (lv_sub hl [1, 2, 3, 4, 5, 0] rfl)
      · have h := z_ifn hc h
        refine x_aload_n hC d_AckBook_earliest_33 rfl (lv_at hl 1 rfl) ?_
        refine x_aload hC d_AckBook_earliest_34 (lv_at hl 0 rfl) ?_
        obtain ⟨a_, fs_, eo_, h⟩ := z_this_spec h
        obtain ⟨w1_, o1_, hF_, ha_⟩ := z_cI_spec h
        refine x_goes hC hRc hRs hFr ha_ (z_goV (As := [va_rf r5]) hC hZ zc0 eo_ (k_AckBook_probeTime hT hfl hE _ _ hF_) t_277 t_279 ts_AckBook_probeTime t_1 t_280 ⟨by decide, by decide, (by decide +kernel : (parseMethodDescriptor y_AckBook_probeTime.desc).map (fun d => d.parameters.length) = some 1)⟩ (by rw [hRt.1]; decide) (by rw [hRt.2]; decide) hl.1 rfl (by first | exact Nat.le_of_ble_eq_true rfl | simp [z_rfc, z_ci, z_cj]) d_AckBook_earliest_36) (fun v_ hv H locs cells slots hZ => ?_)
        obtain ⟨v9, rfl, h⟩ := hv
        generalize w1_ = w at h hZ
        refine lv_goto (tgt := 50) hC.1 hC.2.1 d_AckBook_earliest_39 (by decide) ?_
        exact kq_AckBook_earliest_50 hT hfl hE hC hr hRc hRs hFr hRt hnm ih _ _ _ _ _ _ _ _ _ h _ _ _ _ _ hZ (lv_sub hl [1, 2, 3, 4, 5, 0] rfl)
def f_AckBook_earliest (F X : Nat) (a0 : Option Nat) (pI1 : Int32) (w : zW) : zR :=
  z_getI w 0 4 a0 fun v10 =>
  (j_AckBook_earliest F X F) a0 pI1 none v10 (0 : Int32) w
set_option maxHeartbeats 4000000 in
set_option maxRecDepth 100000 in
theorem k_AckBook_earliest {b0 : Nat} {H0 : Heap} {D : va_G} {vu vs : Value} {X M : Nat} {l : Launch} (hT : z_TB (zGG b0 H0 D vu vs X M)) (hfl : l.flags = pinnedFlags ++ [noTraceFlag]) (hE : vu.isRef = true ∧ vs.isRef = true) {a0 : Option Nat} {pI1 : Int32} (F : Nat) {w : zW} (res : zO × zW) (h : f_AckBook_earliest F X a0 pI1 w = some res) : z_Ct (zGG b0 H0 D vu vs X M) l y_AckBook_earliest (.code y_AckBook_earliest c_AckBook_earliest 8 (some (FieldType.object "AckBook$Space"))) 4 92 [va_rf a0, .int pI1] w res := by
  refine z_ct hT hfl (by decide) (by simp only [z_sl_i, z_sl_j, z_sl_r, z_sl_n]; decide) ?_
  intro p e R s m args below meth c hC hr hRc hRs hRt hnm hFr H ls hZ hl
  simp only [z_la_i, z_la_j, z_la_r, z_la_n] at hl
  have hl : lv_has ls 8 [(0, va_rf a0), (1, .int pI1)] := hl
  unfold f_AckBook_earliest at h
  refine x_null hC d_AckBook_earliest_0 ?_
  refine x_astore_n (i := 2) (lv' := [(2, va_rf none), (0, va_rf a0), (1, .int pI1)]) hC d_AckBook_earliest_1 rfl hl (by decide) (by first | rfl | simp [z_rfc, z_ci, z_cj]) (fun ls hl => ?_)
  refine x_aload_n hC d_AckBook_earliest_2 rfl (lv_at hl 1 rfl) ?_
  refine x_getI hC hZ zc0 h (by decide) t_245 (fun _ h9 => h9) d_AckBook_earliest_3 (fun v10 h => ?_)
  refine lv_istore_n (i := 3) (lv' := [(3, .int v10), (2, va_rf none), (0, va_rf a0), (1, .int pI1)]) hC.1 hC.2.1 d_AckBook_earliest_6 rfl hl (by decide) (by first | rfl | simp [z_rfc, z_ci, z_cj]) (fun ls hl => ?_)
  refine lv_iconst (v := (0 : Int32)) hC.1 hC.2.1 d_AckBook_earliest_7 (by decide) ?_
  refine lv_istore (i := 4) (lv' := [(4, .int (0 : Int32)), (3, .int v10), (2, va_rf none), (0, va_rf a0), (1, .int pI1)]) hC.1 hC.2.1 d_AckBook_earliest_8 hl (by decide) (by first | rfl | simp [z_rfc, z_ci, z_cj]) (fun ls hl => ?_)
  exact (kj_AckBook_earliest hT hfl hE hC hr hRc hRs hFr hRt hnm F) _ _ _ _ _ _ _ h _ _ _ _ _ hZ (lv_sub hl [3, 4, 2, 1, 0] rfl)
def f_AckBook_Way_limit (F X : Nat) (a0 : Option Nat) (w : zW) : zR :=
  z_getI w 7 0 a0 fun v1 =>
  z_getI w 7 2 a0 fun v2 =>
  some (.inl (some (.int (if (((9 : Int32) * (if (v1 / (8 : Int32)) < v2 then v2 else (v1 / (8 : Int32)))) / (8 : Int32)) < (1 : Int32) then (1 : Int32) else (((9 : Int32) * (if (v1 / (8 : Int32)) < v2 then v2 else (v1 / (8 : Int32)))) / (8 : Int32))))), w)
set_option maxHeartbeats 4000000 in
set_option maxRecDepth 100000 in
theorem k_AckBook_Way_limit {b0 : Nat} {H0 : Heap} {D : va_G} {vu vs : Value} {X M : Nat} {l : Launch} (hT : z_TB (zGG b0 H0 D vu vs X M)) (hfl : l.flags = pinnedFlags ++ [noTraceFlag]) (hE : vu.isRef = true ∧ vs.isRef = true) {a0 : Option Nat} (F : Nat) {w : zW} (res : zO × zW) (h : f_AckBook_Way_limit F X a0 w = some res) : z_Ct (zGG b0 H0 D vu vs X M) l y_AckBook_Way_limit (.code y_AckBook_Way_limit c_AckBook_Way_limit 1 (some FieldType.int)) 1 28 [va_rf a0] w res := by
  refine z_ct hT hfl (by decide) (by simp only [z_sl_i, z_sl_j, z_sl_r, z_sl_n]; decide) ?_
  intro p e R s m args below meth c hC hr hRc hRs hRt hnm hFr H ls hZ hl
  simp only [z_la_i, z_la_j, z_la_r, z_la_n] at hl
  have hl : lv_has ls 1 [(0, va_rf a0)] := hl
  unfold f_AckBook_Way_limit at h
  refine lv_bipush (v := (9 : Int32)) hC.1 hC.2.1 d_AckBook_Way_limit_0 (by decide) ?_
  refine x_aload_n hC d_AckBook_Way_limit_2 rfl (lv_at hl 0 rfl) ?_
  refine x_getI hC hZ zc7 h (by decide) t_197 (fun _ h9 => h9) d_AckBook_Way_limit_3 (fun v1 h => ?_)
  refine lv_bipush (v := (8 : Int32)) hC.1 hC.2.1 d_AckBook_Way_limit_6 (by decide) ?_
  refine lv_idiv hC.1 hC.2.1 d_AckBook_Way_limit_8 (by decide) ?_
  refine x_aload_n hC d_AckBook_Way_limit_9 rfl (lv_at hl 0 rfl) ?_
  refine x_getI hC hZ zc7 h (by decide) t_201 (fun _ h9 => h9) d_AckBook_Way_limit_10 (fun v2 h => ?_)
  refine va_mmax hC.1 hC.2.1 (hC.2.2.1.trans hl.1.symm) hC.2.2.2.1 ((hZ.1.tb hC.2.2.2.2.2.2 args) _ t_289) ((hZ.1.tb hC.2.2.2.2.2.2 args) _ t_290) ((hZ.1.tb hC.2.2.2.2.2.2 args) _ t_20) ((hZ.1.tb hC.2.2.2.2.2.2 args) _ t_291) (by rw [hRt.1]; decide) (by rw [hRt.2]; first | exact Nat.le_of_ble_eq_true rfl | simp [z_rfc, z_ci, z_cj]) (hZ.2.2.1 ▸ Nat.le_add_right _ _) (hZ.2.2.2 ▸ Nat.le_add_right _ _) d_AckBook_Way_limit_13 ?_
  refine lv_imul hC.1 hC.2.1 d_AckBook_Way_limit_16 ?_
  refine lv_bipush (v := (8 : Int32)) hC.1 hC.2.1 d_AckBook_Way_limit_17 (by decide) ?_
  refine lv_idiv hC.1 hC.2.1 d_AckBook_Way_limit_19 (by decide) ?_
  refine lv_iconst (v := (1 : Int32)) hC.1 hC.2.1 d_AckBook_Way_limit_20 (by decide) ?_
  refine va_mmax hC.1 hC.2.1 (hC.2.2.1.trans hl.1.symm) hC.2.2.2.1 ((hZ.1.tb hC.2.2.2.2.2.2 args) _ t_289) ((hZ.1.tb hC.2.2.2.2.2.2 args) _ t_290) ((hZ.1.tb hC.2.2.2.2.2.2 args) _ t_20) ((hZ.1.tb hC.2.2.2.2.2.2 args) _ t_291) (by rw [hRt.1]; decide) (by rw [hRt.2]; first | exact Nat.le_of_ble_eq_true rfl | simp [z_rfc, z_ci, z_cj]) (hZ.2.2.1 ▸ Nat.le_add_right _ _) (hZ.2.2.2 ▸ Nat.le_add_right _ _) d_AckBook_Way_limit_21 ?_
  exact x_iret hC hRc hRs hZ hr rfl h d_AckBook_Way_limit_24
def f_ArrayList_size (F X : Nat) (a0 : Option Nat) (w : zW) : zR :=
  z_getI w 4 1 a0 fun v1 =>
  some (.inl (some (.int v1)), w)
set_option maxHeartbeats 4000000 in
set_option maxRecDepth 100000 in
theorem k_ArrayList_size {b0 : Nat} {H0 : Heap} {D : va_G} {vu vs : Value} {X M : Nat} {l : Launch} (hT : z_TB (zGG b0 H0 D vu vs X M)) (hfl : l.flags = pinnedFlags ++ [noTraceFlag]) (hE : vu.isRef = true ∧ vs.isRef = true) {a0 : Option Nat} (F : Nat) {w : zW} (res : zO × zW) (h : f_ArrayList_size F X a0 w = some res) : z_Ct (zGG b0 H0 D vu vs X M) l y_ArrayList_size (.code y_ArrayList_size c_ArrayList_size 1 (some FieldType.int)) 0 0 [va_rf a0] w res := by
  refine z_ct hT hfl (by decide) (by simp only [z_sl_i, z_sl_j, z_sl_r, z_sl_n]; decide) ?_
  intro p e R s m args below meth c hC hr hRc hRs hRt hnm hFr H ls hZ hl
  simp only [z_la_i, z_la_j, z_la_r, z_la_n] at hl
  have hl : lv_has ls 1 [(0, va_rf a0)] := hl
  unfold f_ArrayList_size at h
  refine x_aload_n hC d_ArrayList_size_0 rfl (lv_at hl 0 rfl) ?_
  refine x_getI hC hZ zc4 h (by decide) t_75 (fun _ h9 => h9) d_ArrayList_size_1 (fun v1 h => ?_)
  exact x_iret hC hRc hRs hZ hr rfl h d_ArrayList_size_4
def f_Preconditions_checkIndex (F X : Nat) (pI1 : Int32) (pI2 : Int32) (pR3 : Option Nat) (w : zW) : zR :=
  if pI1 < 0 then (
    none)
  else (
    if pI1 < pI2 then (
      some (.inl (some (.int pI1)), w))
    else (
      none))
set_option maxHeartbeats 4000000 in
set_option maxRecDepth 100000 in
theorem k_Preconditions_checkIndex {b0 : Nat} {H0 : Heap} {D : va_G} {vu vs : Value} {X M : Nat} {l : Launch} (hT : z_TB (zGG b0 H0 D vu vs X M)) (hfl : l.flags = pinnedFlags ++ [noTraceFlag]) (hE : vu.isRef = true ∧ vs.isRef = true) {pI1 : Int32} {pI2 : Int32} {pR3 : Option Nat} (F : Nat) {w : zW} (res : zO × zW) (h : f_Preconditions_checkIndex F X pI1 pI2 pR3 w = some res) : z_Ct (zGG b0 H0 D vu vs X M) l y_Preconditions_checkIndex (.code y_Preconditions_checkIndex c_Preconditions_checkIndex 3 (some FieldType.int)) 0 0 [.int pI1, .int pI2, va_rf pR3] w res := by
  refine z_ct hT hfl (by decide) (by simp only [z_sl_i, z_sl_j, z_sl_r, z_sl_n]; decide) ?_
  intro p e R s m args below meth c hC hr hRc hRs hRt hnm hFr H ls hZ hl
  simp only [z_la_i, z_la_j, z_la_r, z_la_n] at hl
  have hl : lv_has ls 3 [(0, .int pI1), (1, .int pI2), (2, va_rf pR3)] := hl
  unfold f_Preconditions_checkIndex at h
  refine lv_iload_n hC.1 hC.2.1 d_Preconditions_checkIndex_0 rfl (lv_at hl 0 rfl) ?_
  refine lv_if_lt (tgt := 9) hC.1 hC.2.1 d_Preconditions_checkIndex_1 (by decide) (fun hc => ?_) (fun hc => ?_)
  · have h := z_ifp hc h
    cases h
  · have h := z_ifn hc h
    refine lv_iload_n hC.1 hC.2.1 d_Preconditions_checkIndex_4 rfl (lv_at hl 0 rfl) ?_
    refine lv_iload_n hC.1 hC.2.1 d_Preconditions_checkIndex_5 rfl (lv_at hl 1 rfl) ?_
    refine lv_icmp_lt (tgt := 16) hC.1 hC.2.1 d_Preconditions_checkIndex_6 (by decide) (fun hc => ?_) (fun hc => ?_)
    · have h := z_ifp hc h
      refine lv_iload_n hC.1 hC.2.1 d_Preconditions_checkIndex_16 rfl (lv_at hl 0 rfl) ?_
      exact x_iret hC hRc hRs hZ hr rfl h d_Preconditions_checkIndex_17
    · have h := z_ifn hc h
      cases h
def f_Objects_checkIndex (F X : Nat) (pI1 : Int32) (pI2 : Int32) (w : zW) : zR :=
  z_cI (f_Preconditions_checkIndex F X pI1 pI2 none w) fun v2 w =>
  some (.inl (some (.int v2)), w)
set_option maxHeartbeats 4000000 in
set_option maxRecDepth 100000 in
theorem k_Objects_checkIndex {b0 : Nat} {H0 : Heap} {D : va_G} {vu vs : Value} {X M : Nat} {l : Launch} (hT : z_TB (zGG b0 H0 D vu vs X M)) (hfl : l.flags = pinnedFlags ++ [noTraceFlag]) (hE : vu.isRef = true ∧ vs.isRef = true) {pI1 : Int32} {pI2 : Int32} (F : Nat) {w : zW} (res : zO × zW) (h : f_Objects_checkIndex F X pI1 pI2 w = some res) : z_Ct (zGG b0 H0 D vu vs X M) l y_Objects_checkIndex (.code y_Objects_checkIndex c_Objects_checkIndex 2 (some FieldType.int)) 1 22 [.int pI1, .int pI2] w res := by
  refine z_ct hT hfl (by decide) (by simp only [z_sl_i, z_sl_j, z_sl_r, z_sl_n]; decide) ?_
  intro p e R s m args below meth c hC hr hRc hRs hRt hnm hFr H ls hZ hl
  simp only [z_la_i, z_la_j, z_la_r, z_la_n] at hl
  have hl : lv_has ls 2 [(0, .int pI1), (1, .int pI2)] := hl
  unfold f_Objects_checkIndex at h
  refine lv_iload_n hC.1 hC.2.1 d_Objects_checkIndex_0 rfl (lv_at hl 0 rfl) ?_
  refine lv_iload_n hC.1 hC.2.1 d_Objects_checkIndex_1 rfl (lv_at hl 1 rfl) ?_
  refine x_null hC d_Objects_checkIndex_2 ?_
  obtain ⟨w1_, o1_, hF_, ha_⟩ := z_cI_spec h
  refine x_goes hC hRc hRs hFr ha_ (z_goS (As := [.int pI1, .int pI2, va_rf none]) hC hZ (k_Preconditions_checkIndex hT hfl hE _ _ hF_) t_319 t_320 t_24 t_321 ⟨by decide, by decide, (by decide +kernel : (parseMethodDescriptor y_Preconditions_checkIndex.desc).map (fun d => d.parameters.length) = some 3)⟩ (by rw [hRt.1]; decide) (by rw [hRt.2]; decide) hl.1 rfl (by first | exact Nat.le_of_ble_eq_true rfl | simp [z_rfc, z_ci, z_cj]) d_Objects_checkIndex_3) (fun v_ hv H locs cells slots hZ => ?_)
  obtain ⟨v2, rfl, h⟩ := hv
  generalize w1_ = w at h hZ
  exact x_iret hC hRc hRs hZ hr rfl h d_Objects_checkIndex_6
def f_ArrayList_elementData (F X : Nat) (a0 : Option Nat) (pI1 : Int32) (w : zW) : zR :=
  z_getR w 4 0 a0 fun r1 =>
  z_ldR w (.object "java/lang/Object") r1 pI1 fun r2 =>
  some (.inl (some (va_rf r2)), w)
set_option maxHeartbeats 4000000 in
set_option maxRecDepth 100000 in
theorem k_ArrayList_elementData {b0 : Nat} {H0 : Heap} {D : va_G} {vu vs : Value} {X M : Nat} {l : Launch} (hT : z_TB (zGG b0 H0 D vu vs X M)) (hfl : l.flags = pinnedFlags ++ [noTraceFlag]) (hE : vu.isRef = true ∧ vs.isRef = true) {a0 : Option Nat} {pI1 : Int32} (F : Nat) {w : zW} (res : zO × zW) (h : f_ArrayList_elementData F X a0 pI1 w = some res) : z_Ct (zGG b0 H0 D vu vs X M) l y_ArrayList_elementData (.code y_ArrayList_elementData c_ArrayList_elementData 2 (some (FieldType.object "java/lang/Object"))) 0 0 [va_rf a0, .int pI1] w res := by
  refine z_ct hT hfl (by decide) (by simp only [z_sl_i, z_sl_j, z_sl_r, z_sl_n]; decide) ?_
  intro p e R s m args below meth c hC hr hRc hRs hRt hnm hFr H ls hZ hl
  simp only [z_la_i, z_la_j, z_la_r, z_la_n] at hl
  have hl : lv_has ls 2 [(0, va_rf a0), (1, .int pI1)] := hl
  unfold f_ArrayList_elementData at h
  refine x_aload_n hC d_ArrayList_elementData_0 rfl (lv_at hl 0 rfl) ?_
  refine x_getR hC hZ zc4 h (by decide) t_74 (fun _ h9 => h9) d_ArrayList_elementData_1 (fun r1 h => ?_)
  refine lv_iload_n hC.1 hC.2.1 d_ArrayList_elementData_4 rfl (lv_at hl 1 rfl) ?_
  refine x_ldR hC hZ h rfl d_ArrayList_elementData_5 (fun r2 h => ?_)
  exact x_aret hC hRc hRs hZ hr (Or.inl ⟨_, rfl⟩) h d_ArrayList_elementData_6
def f_ArrayList_get (F X : Nat) (a0 : Option Nat) (pI1 : Int32) (w : zW) : zR :=
  z_getI w 4 1 a0 fun v1 =>
  z_cI (f_Objects_checkIndex F X pI1 v1 w) fun v3 w =>
  z_this w 4 a0 <|
  z_cR (f_ArrayList_elementData F X a0 pI1 w) fun r5 w =>
  some (.inl (some (va_rf r5)), w)
set_option maxHeartbeats 4000000 in
set_option maxRecDepth 100000 in
theorem k_ArrayList_get {b0 : Nat} {H0 : Heap} {D : va_G} {vu vs : Value} {X M : Nat} {l : Launch} (hT : z_TB (zGG b0 H0 D vu vs X M)) (hfl : l.flags = pinnedFlags ++ [noTraceFlag]) (hE : vu.isRef = true ∧ vs.isRef = true) {a0 : Option Nat} {pI1 : Int32} (F : Nat) {w : zW} (res : zO × zW) (h : f_ArrayList_get F X a0 pI1 w = some res) : z_Ct (zGG b0 H0 D vu vs X M) l y_ArrayList_get (.code y_ArrayList_get c_ArrayList_get 2 (some (FieldType.object "java/lang/Object"))) 2 43 [va_rf a0, .int pI1] w res := by
  refine z_ct hT hfl (by decide) (by simp only [z_sl_i, z_sl_j, z_sl_r, z_sl_n]; decide) ?_
  intro p e R s m args below meth c hC hr hRc hRs hRt hnm hFr H ls hZ hl
  simp only [z_la_i, z_la_j, z_la_r, z_la_n] at hl
  have hl : lv_has ls 2 [(0, va_rf a0), (1, .int pI1)] := hl
  unfold f_ArrayList_get at h
  refine lv_iload_n hC.1 hC.2.1 d_ArrayList_get_0 rfl (lv_at hl 1 rfl) ?_
  refine x_aload_n hC d_ArrayList_get_1 rfl (lv_at hl 0 rfl) ?_
  refine x_getI hC hZ zc4 h (by decide) t_75 (fun _ h9 => h9) d_ArrayList_get_2 (fun v1 h => ?_)
  obtain ⟨w1_, o1_, hF_, ha_⟩ := z_cI_spec h
  refine x_goes hC hRc hRs hFr ha_ (z_goS (As := [.int pI1, .int v1]) hC hZ (k_Objects_checkIndex hT hfl hE _ _ hF_) t_316 t_317 t_23 t_318 ⟨by decide, by decide, (by decide +kernel : (parseMethodDescriptor y_Objects_checkIndex.desc).map (fun d => d.parameters.length) = some 2)⟩ (by rw [hRt.1]; decide) (by rw [hRt.2]; decide) hl.1 rfl (by first | exact Nat.le_of_ble_eq_true rfl | simp [z_rfc, z_ci, z_cj]) d_ArrayList_get_5) (fun v_ hv H locs cells slots hZ => ?_)
  obtain ⟨v3, rfl, h⟩ := hv
  generalize w1_ = w at h hZ
  refine lv_pop hC.1 hC.2.1 d_ArrayList_get_8 rfl ?_
  refine x_aload_n hC d_ArrayList_get_9 rfl (lv_at hl 0 rfl) ?_
  refine lv_iload_n hC.1 hC.2.1 d_ArrayList_get_10 rfl (lv_at hl 1 rfl) ?_
  obtain ⟨a_, fs_, eo_, h⟩ := z_this_spec h
  obtain ⟨w1_, o1_, hF_, ha_⟩ := z_cR_spec h
  refine x_goes hC hRc hRs hFr ha_ (z_goV (As := [.int pI1]) hC hZ zc4 eo_ (k_ArrayList_elementData hT hfl hE _ _ hF_) t_322 t_323 t_324 t_7 t_325 ⟨by decide, by decide, (by decide +kernel : (parseMethodDescriptor y_ArrayList_elementData.desc).map (fun d => d.parameters.length) = some 1)⟩ (by rw [hRt.1]; decide) (by rw [hRt.2]; decide) hl.1 rfl (by first | exact Nat.le_of_ble_eq_true rfl | simp [z_rfc, z_ci, z_cj]) d_ArrayList_get_11) (fun v_ hv H locs cells slots hZ => ?_)
  obtain ⟨r5, rfl, h⟩ := hv
  generalize w1_ = w at h hZ
  exact x_aret hC hRc hRs hZ hr (Or.inl ⟨_, rfl⟩) h d_ArrayList_get_14
def q_AckBook_Chain_append_14 (F X : Nat) (rL0 : Option Nat) (rL1 : Option Nat) (w : zW) : zR :=
  z_put w 3 0 rL0 (va_rf rL1) fun w =>
  z_put w 3 1 rL0 (va_rf rL1) fun w =>
  some (.inl none, w)
set_option maxHeartbeats 4000000 in
set_option maxRecDepth 100000 in
theorem kq_AckBook_Chain_append_14 {b0 : Nat} {H0 : Heap} {D : va_G} {vu vs : Value} {X M : Nat} {l : Launch} (hT : z_TB (zGG b0 H0 D vu vs X M)) (hfl : l.flags = pinnedFlags ++ [noTraceFlag]) (hE : vu.isRef = true ∧ vs.isRef = true) {p : Program} {e : Env} {R : Room} {s : State} {m : MethodId} {args : Array Value} {below : List Frame} {meth : Method} {c : Code} {w0 : zW} {F : Nat} (hC : z_C (zGG b0 H0 D vu vs X M) p e s m meth c c_AckBook_Chain_append 2 y_AckBook_Chain_append.cls) (hr : meth.sig.returnType = (none)) (hRc : R.cells = w0.2.1) (hRs : R.slots = w0.2.2.1) (hFr : c.exceptionTable.toList = []) (hRt : R.frames = 0 ∧ R.locals = 0) (hnm : meth.name = y_AckBook_Chain_append.name) (rL0 : Option Nat) (rL1 : Option Nat) (w : zW) (res : zO × zW) (h : q_AckBook_Chain_append_14 F X rL0 rL1 w = some res) (H : Heap) (locs : List Loc) (cells slots : Nat) (ls : Array Slot) (hZ : z_Z (zGG b0 H0 D vu vs X M) R s w H locs cells slots) (hl : lv_has ls 2 [(0, va_rf rL0), (1, va_rf rL1)]) : W p l e R s m args below meth c H locs cells slots (z_Q (zGG b0 H0 D vu vs X M) below s w0 res) (F0 m 14 ls []) := by
  unfold q_AckBook_Chain_append_14 at h
  refine x_aload_n hC d_AckBook_Chain_append_14 rfl (lv_at hl 0 rfl) ?_
  refine x_aload_n hC d_AckBook_Chain_append_15 rfl (lv_at hl 1 rfl) ?_
  refine x_put hC hZ zc3 h (by decide) t_53 (fun _ h9 => h9) rfl rfl (z_rfn _ _) (z_rff _ _) d_AckBook_Chain_append_16 (fun w H locs hZ h => ?_)
  refine lv_goto (tgt := 30) hC.1 hC.2.1 d_AckBook_Chain_append_19 (by decide) ?_
  refine x_aload_n hC d_AckBook_Chain_append_30 rfl (lv_at hl 0 rfl) ?_
  refine x_aload_n hC d_AckBook_Chain_append_31 rfl (lv_at hl 1 rfl) ?_
  refine x_put hC hZ zc3 h (by decide) t_54 (fun _ h9 => h9) rfl rfl (z_rfn _ _) (z_rff _ _) d_AckBook_Chain_append_32 (fun w H locs hZ h => ?_)
  exact x_vret hC hRc hRs hZ hr h d_AckBook_Chain_append_35
def f_AckBook_Chain_append (F X : Nat) (a0 : Option Nat) (pR1 : Option Nat) (w : zW) : zR :=
  z_getR w 3 0 a0 fun r1 =>
  if r1 = none then (
    q_AckBook_Chain_append_14 F X a0 pR1 w)
  else (
    z_getR w 3 1 a0 fun r2 =>
    if r2 = none then (
      q_AckBook_Chain_append_14 F X a0 pR1 w)
    else (
      z_getR w 3 1 a0 fun r3 =>
      z_put w 9 7 r3 (va_rf pR1) fun w =>
      z_put w 3 1 a0 (va_rf pR1) fun w =>
      some (.inl none, w)))
set_option maxHeartbeats 4000000 in
set_option maxRecDepth 100000 in
theorem k_AckBook_Chain_append {b0 : Nat} {H0 : Heap} {D : va_G} {vu vs : Value} {X M : Nat} {l : Launch} (hT : z_TB (zGG b0 H0 D vu vs X M)) (hfl : l.flags = pinnedFlags ++ [noTraceFlag]) (hE : vu.isRef = true ∧ vs.isRef = true) {a0 : Option Nat} {pR1 : Option Nat} (F : Nat) {w : zW} (res : zO × zW) (h : f_AckBook_Chain_append F X a0 pR1 w = some res) : z_Ct (zGG b0 H0 D vu vs X M) l y_AckBook_Chain_append (.code y_AckBook_Chain_append c_AckBook_Chain_append 2 (none)) 0 0 [va_rf a0, va_rf pR1] w res := by
  refine z_ct hT hfl (by decide) (by simp only [z_sl_i, z_sl_j, z_sl_r, z_sl_n]; decide) ?_
  intro p e R s m args below meth c hC hr hRc hRs hRt hnm hFr H ls hZ hl
  simp only [z_la_i, z_la_j, z_la_r, z_la_n] at hl
  have hl : lv_has ls 2 [(0, va_rf a0), (1, va_rf pR1)] := hl
  unfold f_AckBook_Chain_append at h
  refine x_aload_n hC d_AckBook_Chain_append_0 rfl (lv_at hl 0 rfl) ?_
  refine x_getR hC hZ zc3 h (by decide) t_53 (fun _ h9 => h9) d_AckBook_Chain_append_1 (fun r1 h => ?_)
  refine x_ifnull (tgt := 14) hC d_AckBook_Chain_append_4 (by decide) (fun hc => ?_) (fun hc => ?_)
  · have h := z_ifp hc h
    exact kq_AckBook_Chain_append_14 hT hfl hE hC hr hRc hRs hFr hRt hnm _ _ _ _ h _ _ _ _ _ hZ (lv_sub hl [0, 1] rfl)
  · have h := z_ifn hc h
    refine x_aload_n hC d_AckBook_Chain_append_7 rfl (lv_at hl 0 rfl) ?_
    refine x_getR hC hZ zc3 h (by decide) t_54 (fun _ h9 => h9) d_AckBook_Chain_append_8 (fun r2 h => ?_)
    refine x_ifnonnull (tgt := 22) hC d_AckBook_Chain_append_11 (by decide) (fun hc => ?_) (fun hc => ?_)
    · have h := z_ifn hc h
      refine x_aload_n hC d_AckBook_Chain_append_22 rfl (lv_at hl 0 rfl) ?_
      refine x_getR hC hZ zc3 h (by decide) t_54 (fun _ h9 => h9) d_AckBook_Chain_append_23 (fun r3 h => ?_)
      refine x_aload_n hC d_AckBook_Chain_append_26 rfl (lv_at hl 1 rfl) ?_
      refine x_put hC hZ zc9 h (by decide) t_503 (fun _ h9 => h9) rfl rfl (z_rfn _ _) (z_rff _ _) d_AckBook_Chain_append_27 (fun w H locs hZ h => ?_)
      refine x_aload_n hC d_AckBook_Chain_append_30 rfl (lv_at hl 0 rfl) ?_
      refine x_aload_n hC d_AckBook_Chain_append_31 rfl (lv_at hl 1 rfl) ?_
      refine x_put hC hZ zc3 h (by decide) t_54 (fun _ h9 => h9) rfl rfl (z_rfn _ _) (z_rff _ _) d_AckBook_Chain_append_32 (fun w H locs hZ h => ?_)
      exact x_vret hC hRc hRs hZ hr h d_AckBook_Chain_append_35
    · have h := z_ifp hc h
      exact kq_AckBook_Chain_append_14 hT hfl hE hC hr hRc hRs hFr hRt hnm _ _ _ _ h _ _ _ _ _ hZ (lv_sub hl [0, 1] rfl)
def f_AckBook_Sent_end (F X : Nat) (a0 : Option Nat) (pR1 : Option Nat) (pI2 : Int32) (pR3 : Option Nat) (w : zW) : zR :=
  z_put w 9 6 pR1 (.int pI2) fun w =>
  z_this w 3 pR3 <|
  z_cV (f_AckBook_Chain_append F X pR3 pR1 w) fun w =>
  z_getI w 2 3 a0 fun v2 =>
  z_put w 2 3 a0 (.int (v2 - (1 : Int32))) fun w =>
  z_getI w 9 3 pR1 fun v3 =>
  if v3 = 0 then (
    some (.inl none, w))
  else (
    z_getI w 2 4 a0 fun v4 =>
    z_put w 2 4 a0 (.int (v4 - (1 : Int32))) fun w =>
    some (.inl none, w))
set_option maxHeartbeats 4000000 in
set_option maxRecDepth 100000 in
theorem k_AckBook_Sent_end {b0 : Nat} {H0 : Heap} {D : va_G} {vu vs : Value} {X M : Nat} {l : Launch} (hT : z_TB (zGG b0 H0 D vu vs X M)) (hfl : l.flags = pinnedFlags ++ [noTraceFlag]) (hE : vu.isRef = true ∧ vs.isRef = true) {a0 : Option Nat} {pR1 : Option Nat} {pI2 : Int32} {pR3 : Option Nat} (F : Nat) {w : zW} (res : zO × zW) (h : f_AckBook_Sent_end F X a0 pR1 pI2 pR3 w = some res) : z_Ct (zGG b0 H0 D vu vs X M) l y_AckBook_Sent_end (.code y_AckBook_Sent_end c_AckBook_Sent_end 4 (none)) 1 21 [va_rf a0, va_rf pR1, .int pI2, va_rf pR3] w res := by
  refine z_ct hT hfl (by decide) (by simp only [z_sl_i, z_sl_j, z_sl_r, z_sl_n]; decide) ?_
  intro p e R s m args below meth c hC hr hRc hRs hRt hnm hFr H ls hZ hl
  simp only [z_la_i, z_la_j, z_la_r, z_la_n] at hl
  have hl : lv_has ls 4 [(0, va_rf a0), (1, va_rf pR1), (2, .int pI2), (3, va_rf pR3)] := hl
  unfold f_AckBook_Sent_end at h
  refine x_aload_n hC d_AckBook_Sent_end_0 rfl (lv_at hl 1 rfl) ?_
  refine lv_iload_n hC.1 hC.2.1 d_AckBook_Sent_end_1 rfl (lv_at hl 2 rfl) ?_
  refine x_put hC hZ zc9 h (by decide) t_501 (fun _ h9 => h9) rfl rfl rfl rfl d_AckBook_Sent_end_2 (fun w H locs hZ h => ?_)
  refine x_aload_n hC d_AckBook_Sent_end_5 rfl (lv_at hl 3 rfl) ?_
  refine x_aload_n hC d_AckBook_Sent_end_6 rfl (lv_at hl 1 rfl) ?_
  obtain ⟨a_, fs_, eo_, h⟩ := z_this_spec h
  obtain ⟨w1_, o1_, hF_, ha_⟩ := z_cV_spec h
  refine x_goes hC hRc hRs hFr ha_ (z_goV (As := [va_rf pR1]) hC hZ zc3 eo_ (k_AckBook_Chain_append hT hfl hE _ _ hF_) t_331 t_332 t_333 t_4 t_334 ⟨by decide, by decide, (by decide +kernel : (parseMethodDescriptor y_AckBook_Chain_append.desc).map (fun d => d.parameters.length) = some 1)⟩ (by rw [hRt.1]; decide) (by rw [hRt.2]; decide) hl.1 rfl (by first | exact Nat.le_of_ble_eq_true rfl | simp [z_rfc, z_ci, z_cj]) d_AckBook_Sent_end_7) (fun v_ hv H locs cells slots hZ => ?_)
  obtain ⟨rfl, h⟩ := hv
  generalize w1_ = w at h hZ
  refine x_aload_n hC d_AckBook_Sent_end_10 rfl (lv_at hl 0 rfl) ?_
  refine lv_dup hC.1 hC.2.1 d_AckBook_Sent_end_11 (z_rfc _) ?_
  refine x_getI hC hZ zc2 h (by decide) t_91 (fun _ h9 => h9) d_AckBook_Sent_end_12 (fun v2 h => ?_)
  refine lv_iconst (v := (1 : Int32)) hC.1 hC.2.1 d_AckBook_Sent_end_15 (by decide) ?_
  refine lv_isub hC.1 hC.2.1 d_AckBook_Sent_end_16 ?_
  refine x_put hC hZ zc2 h (by decide) t_91 (fun _ h9 => h9) rfl rfl rfl rfl d_AckBook_Sent_end_17 (fun w H locs hZ h => ?_)
  refine x_aload_n hC d_AckBook_Sent_end_20 rfl (lv_at hl 1 rfl) ?_
  refine x_getI hC hZ zc9 h (by decide) t_495 (fun _ h9 => h9) d_AckBook_Sent_end_21 (fun v3 h => ?_)
  refine lv_if_eq (tgt := 37) hC.1 hC.2.1 d_AckBook_Sent_end_24 (by decide) (fun hc => ?_) (fun hc => ?_)
  · have h := z_ifp hc h
    exact x_vret hC hRc hRs hZ hr h d_AckBook_Sent_end_37
  · have h := z_ifn hc h
    refine x_aload_n hC d_AckBook_Sent_end_27 rfl (lv_at hl 0 rfl) ?_
    refine lv_dup hC.1 hC.2.1 d_AckBook_Sent_end_28 (z_rfc _) ?_
    refine x_getI hC hZ zc2 h (by decide) t_93 (fun _ h9 => h9) d_AckBook_Sent_end_29 (fun v4 h => ?_)
    refine lv_iconst (v := (1 : Int32)) hC.1 hC.2.1 d_AckBook_Sent_end_32 (by decide) ?_
    refine lv_isub hC.1 hC.2.1 d_AckBook_Sent_end_33 ?_
    refine x_put hC hZ zc2 h (by decide) t_93 (fun _ h9 => h9) rfl rfl rfl rfl d_AckBook_Sent_end_34 (fun w H locs hZ h => ?_)
    exact x_vret hC hRc hRs hZ hr h d_AckBook_Sent_end_37
def q_AckBook_Sent_markLost_78 (F X : Nat) (J : Option Nat → Int32 → Int32 → Option Nat → Int32 → zW → zR) (rL0 : Option Nat) (xL1 : Int32) (xL2 : Int32) (rL3 : Option Nat) (xL4 : Int32) (rL5 : Option Nat) (w : zW) : zR :=
  z_getR w 2 1 rL0 fun r1 =>
  z_this w 2 rL0 <|
  z_cV (f_AckBook_Sent_end F X rL0 rL5 (2 : Int32) r1 w) fun w =>
  if rL3 = none then (
    J rL0 xL1 xL2 rL5 (xL4 + (1 : Int32)) w)
  else (
    J rL0 xL1 xL2 rL3 (xL4 + (1 : Int32)) w)
set_option maxHeartbeats 4000000 in
set_option maxRecDepth 100000 in
theorem kq_AckBook_Sent_markLost_78 {b0 : Nat} {H0 : Heap} {D : va_G} {vu vs : Value} {X M : Nat} {l : Launch} (hT : z_TB (zGG b0 H0 D vu vs X M)) (hfl : l.flags = pinnedFlags ++ [noTraceFlag]) (hE : vu.isRef = true ∧ vs.isRef = true) {p : Program} {e : Env} {R : Room} {s : State} {m : MethodId} {args : Array Value} {below : List Frame} {meth : Method} {c : Code} {w0 : zW} {F : Nat} (hC : z_C (zGG b0 H0 D vu vs X M) p e s m meth c c_AckBook_Sent_markLost 6 y_AckBook_Sent_markLost.cls) (hr : meth.sig.returnType = (some (FieldType.object "AckBook$Packet"))) (hRc : R.cells = w0.2.1) (hRs : R.slots = w0.2.2.1) (hFr : c.exceptionTable.toList = []) (hRt : R.frames = 3 ∧ R.locals = 64) (hnm : meth.name = y_AckBook_Sent_markLost.name) {J : Option Nat → Int32 → Int32 → Option Nat → Int32 → zW → zR} (hJ : (∀ (rL0 : Option Nat) (xL1 : Int32) (xL2 : Int32) (rL3 : Option Nat) (xL4 : Int32) (w : zW) (res : zO × zW), J rL0 xL1 xL2 rL3 xL4 w = some res → ∀ (H : Heap) (locs : List Loc) (cells slots : Nat) (ls : Array Slot), z_Z (zGG b0 H0 D vu vs X M) R s w H locs cells slots → lv_has ls 6 [(0, va_rf rL0), (1, .int xL1), (2, .int xL2), (3, va_rf rL3), (4, .int xL4)] → W p l e R s m args below meth c H locs cells slots (z_Q (zGG b0 H0 D vu vs X M) below s w0 res) (F0 m 10 ls []))) (rL0 : Option Nat) (xL1 : Int32) (xL2 : Int32) (rL3 : Option Nat) (xL4 : Int32) (rL5 : Option Nat) (w : zW) (res : zO × zW) (h : q_AckBook_Sent_markLost_78 F X J rL0 xL1 xL2 rL3 xL4 rL5 w = some res) (H : Heap) (locs : List Loc) (cells slots : Nat) (ls : Array Slot) (hZ : z_Z (zGG b0 H0 D vu vs X M) R s w H locs cells slots) (hl : lv_has ls 6 [(0, va_rf rL0), (1, .int xL1), (2, .int xL2), (3, va_rf rL3), (4, .int xL4), (5, va_rf rL5)]) : W p l e R s m args below meth c H locs cells slots (z_Q (zGG b0 H0 D vu vs X M) below s w0 res) (F0 m 78 ls []) := by
  unfold q_AckBook_Sent_markLost_78 at h
  refine x_aload_n hC d_AckBook_Sent_markLost_78 rfl (lv_at hl 0 rfl) ?_
  refine x_aload hC d_AckBook_Sent_markLost_79 (lv_at hl 5 rfl) ?_
  refine lv_iconst (v := (2 : Int32)) hC.1 hC.2.1 d_AckBook_Sent_markLost_81 (by decide) ?_
  refine x_aload_n hC d_AckBook_Sent_markLost_82 rfl (lv_at hl 0 rfl) ?_
  refine x_getR hC hZ zc2 h (by decide) t_88 (fun _ h9 => h9) d_AckBook_Sent_markLost_83 (fun r1 h => ?_)
  obtain ⟨a_, fs_, eo_, h⟩ := z_this_spec h
  obtain ⟨w1_, o1_, hF_, ha_⟩ := z_cV_spec h
  refine x_goes hC hRc hRs hFr ha_ (z_goV (As := [va_rf rL5, .int (2 : Int32), va_rf r1]) hC hZ zc2 eo_ (k_AckBook_Sent_end hT hfl hE _ _ hF_) t_327 t_329 ts_AckBook_Sent_end t_3 t_330 ⟨by decide, by decide, (by decide +kernel : (parseMethodDescriptor y_AckBook_Sent_end.desc).map (fun d => d.parameters.length) = some 3)⟩ (by rw [hRt.1]; decide) (by rw [hRt.2]; decide) hl.1 rfl (by first | exact Nat.le_of_ble_eq_true rfl | simp [z_rfc, z_ci, z_cj]) d_AckBook_Sent_markLost_86) (fun v_ hv H locs cells slots hZ => ?_)
  obtain ⟨rfl, h⟩ := hv
  generalize w1_ = w at h hZ
  refine x_aload_n hC d_AckBook_Sent_markLost_89 rfl (lv_at hl 3 rfl) ?_
  refine x_ifnonnull (tgt := 98) hC d_AckBook_Sent_markLost_90 (by decide) (fun hc => ?_) (fun hc => ?_)
  · have h := z_ifn hc h
    refine x_aload_n hC d_AckBook_Sent_markLost_98 rfl (lv_at hl 3 rfl) ?_
    refine x_astore_n (i := 3) (lv' := [(3, va_rf rL3), (0, va_rf rL0), (1, .int xL1), (2, .int xL2), (4, .int xL4), (5, va_rf rL5)]) hC d_AckBook_Sent_markLost_99 rfl hl (by decide) (by first | rfl | simp [z_rfc, z_ci, z_cj]) (fun ls hl => ?_)
    refine lv_goto (tgt := 122) hC.1 hC.2.1 d_AckBook_Sent_markLost_100 (by decide) ?_
    refine lv_iinc (lv' := [(4, .int (xL4 + (1 : Int32))), (3, va_rf rL3), (0, va_rf rL0), (1, .int xL1), (2, .int xL2), (5, va_rf rL5)]) hC.1 hC.2.1 d_AckBook_Sent_markLost_122 hl (k := 4) rfl rfl (by decide) (by first | rfl | simp [z_rfc, z_ci, z_cj]) (fun ls hl => ?_)
    refine lv_goto (tgt := 10) hC.1 hC.2.1 d_AckBook_Sent_markLost_125 (by decide) ?_
    exact hJ _ _ _ _ _ _ _ h _ _ _ _ _ hZ (lv_sub hl [2, 3, 4, 1, 0] rfl)
  · have h := z_ifp hc h
    refine x_aload hC d_AckBook_Sent_markLost_93 (lv_at hl 5 rfl) ?_
    refine lv_goto (tgt := 99) hC.1 hC.2.1 d_AckBook_Sent_markLost_95 (by decide) ?_
    refine x_astore_n (i := 3) (lv' := [(3, va_rf rL5), (0, va_rf rL0), (1, .int xL1), (2, .int xL2), (4, .int xL4), (5, va_rf rL5)]) hC d_AckBook_Sent_markLost_99 rfl hl (by decide) (by first | rfl | simp [z_rfc, z_ci, z_cj]) (fun ls hl => ?_)
    refine lv_goto (tgt := 122) hC.1 hC.2.1 d_AckBook_Sent_markLost_100 (by decide) ?_
    refine lv_iinc (lv' := [(4, .int (xL4 + (1 : Int32))), (3, va_rf rL5), (0, va_rf rL0), (1, .int xL1), (2, .int xL2), (5, va_rf rL5)]) hC.1 hC.2.1 d_AckBook_Sent_markLost_122 hl (k := 4) rfl rfl (by decide) (by first | rfl | simp [z_rfc, z_ci, z_cj]) (fun ls hl => ?_)
    refine lv_goto (tgt := 10) hC.1 hC.2.1 d_AckBook_Sent_markLost_125 (by decide) ?_
    exact hJ _ _ _ _ _ _ _ h _ _ _ _ _ hZ (lv_sub hl [2, 3, 4, 1, 0] rfl)
def j_AckBook_Sent_markLost (F X : Nat) : Nat → Option Nat → Int32 → Int32 → Option Nat → Int32 → zW → zR
  | 0, _, _, _, _, _, _ => none
  | N + 1, rL0, xL1, xL2, rL3, xL4, w =>
    z_getR w 2 2 rL0 fun r3 =>
    z_this w 4 r3 <|
    z_cI (f_ArrayList_size F X r3 w) fun v5 w =>
    if v5 ≤ xL4 then (
      some (.inl (some (va_rf rL3)), w))
    else (
      z_getI w 2 6 rL0 fun v6 =>
      if v6 ≤ xL4 then (
        some (.inl (some (va_rf rL3)), w))
      else (
        z_getR w 2 2 rL0 fun r7 =>
        z_this w 4 r7 <|
        z_cR (f_ArrayList_get F X r7 xL4 w) fun r9 w =>
        z_cast w 9 r9 <|
        z_getI w 9 6 r9 fun v10 =>
        if v10 = 0 then (
          z_getI w 2 6 rL0 fun v11 =>
          if xL4 ≤ (v11 - (3 : Int32)) then (
            q_AckBook_Sent_markLost_78 F X (j_AckBook_Sent_markLost F X N) rL0 xL1 xL2 rL3 xL4 r9 w)
          else (
            z_getI w 9 2 r9 fun v12 =>
            if (xL1 - xL2) < v12 then (
              z_getI w 2 7 rL0 fun v13 =>
              if v13 = (-1 : Int32) then (
                z_getI w 9 2 r9 fun v14 =>
                z_put w 2 7 rL0 (.int (v14 + xL2)) fun w =>
                (j_AckBook_Sent_markLost F X N) rL0 xL1 xL2 rL3 (xL4 + (1 : Int32)) w)
              else (
                (j_AckBook_Sent_markLost F X N) rL0 xL1 xL2 rL3 (xL4 + (1 : Int32)) w))
            else (
              q_AckBook_Sent_markLost_78 F X (j_AckBook_Sent_markLost F X N) rL0 xL1 xL2 rL3 xL4 r9 w)))
        else (
          (j_AckBook_Sent_markLost F X N) rL0 xL1 xL2 rL3 (xL4 + (1 : Int32)) w)))
set_option maxHeartbeats 4000000 in
set_option maxRecDepth 100000 in
theorem kj_AckBook_Sent_markLost {b0 : Nat} {H0 : Heap} {D : va_G} {vu vs : Value} {X M : Nat} {l : Launch} (hT : z_TB (zGG b0 H0 D vu vs X M)) (hfl : l.flags = pinnedFlags ++ [noTraceFlag]) (hE : vu.isRef = true ∧ vs.isRef = true) {p : Program} {e : Env} {R : Room} {s : State} {m : MethodId} {args : Array Value} {below : List Frame} {meth : Method} {c : Code} {w0 : zW} {F : Nat} (hC : z_C (zGG b0 H0 D vu vs X M) p e s m meth c c_AckBook_Sent_markLost 6 y_AckBook_Sent_markLost.cls) (hr : meth.sig.returnType = (some (FieldType.object "AckBook$Packet"))) (hRc : R.cells = w0.2.1) (hRs : R.slots = w0.2.2.1) (hFr : c.exceptionTable.toList = []) (hRt : R.frames = 3 ∧ R.locals = 64) (hnm : meth.name = y_AckBook_Sent_markLost.name) : ∀ N : Nat, (∀ (rL0 : Option Nat) (xL1 : Int32) (xL2 : Int32) (rL3 : Option Nat) (xL4 : Int32) (w : zW) (res : zO × zW), j_AckBook_Sent_markLost F X N rL0 xL1 xL2 rL3 xL4 w = some res → ∀ (H : Heap) (locs : List Loc) (cells slots : Nat) (ls : Array Slot), z_Z (zGG b0 H0 D vu vs X M) R s w H locs cells slots → lv_has ls 6 [(0, va_rf rL0), (1, .int xL1), (2, .int xL2), (3, va_rf rL3), (4, .int xL4)] → W p l e R s m args below meth c H locs cells slots (z_Q (zGG b0 H0 D vu vs X M) below s w0 res) (F0 m 10 ls [])) := by
  intro N
  induction N with
  | zero =>
    intro rL0 xL1 xL2 rL3 xL4 w res h
    rw [j_AckBook_Sent_markLost] at h
    cases h
  | succ N ih =>
    intro rL0 xL1 xL2 rL3 xL4 w res h H locs cells slots ls hZ hl
    rw [j_AckBook_Sent_markLost] at h
    refine lv_iload hC.1 hC.2.1 d_AckBook_Sent_markLost_10 (lv_at hl 4 rfl) ?_
    refine x_aload_n hC d_AckBook_Sent_markLost_12 rfl (lv_at hl 0 rfl) ?_
    refine x_getR hC hZ zc2 h (by decide) t_90 (fun _ h9 => h9) d_AckBook_Sent_markLost_13 (fun r3 h => ?_)
    obtain ⟨a_, fs_, eo_, h⟩ := z_this_spec h
    obtain ⟨w1_, o1_, hF_, ha_⟩ := z_cI_spec h
    refine x_goes hC hRc hRs hFr ha_ (z_goV (As := []) hC hZ zc4 eo_ (k_ArrayList_size hT hfl hE _ _ hF_) t_308 t_309 t_310 t_7 t_311 ⟨by decide, by decide, (by decide +kernel : (parseMethodDescriptor y_ArrayList_size.desc).map (fun d => d.parameters.length) = some 0)⟩ (by rw [hRt.1]; decide) (by rw [hRt.2]; decide) hl.1 rfl (by first | exact Nat.le_of_ble_eq_true rfl | simp [z_rfc, z_ci, z_cj]) d_AckBook_Sent_markLost_16) (fun v_ hv H locs cells slots hZ => ?_)
    obtain ⟨v5, rfl, h⟩ := hv
    generalize w1_ = w at h hZ
    refine lv_icmp_ge (tgt := 128) hC.1 hC.2.1 d_AckBook_Sent_markLost_19 (by decide) (fun hc => ?_) (fun hc => ?_)
    · have h := z_ifp hc h
      refine x_aload_n hC d_AckBook_Sent_markLost_128 rfl (lv_at hl 3 rfl) ?_
      exact x_aret hC hRc hRs hZ hr (Or.inl ⟨_, rfl⟩) h d_AckBook_Sent_markLost_129
    · have h := z_ifn hc h
      refine lv_iload hC.1 hC.2.1 d_AckBook_Sent_markLost_22 (lv_at hl 4 rfl) ?_
      refine x_aload_n hC d_AckBook_Sent_markLost_24 rfl (lv_at hl 0 rfl) ?_
      refine x_getI hC hZ zc2 h (by decide) t_97 (fun _ h9 => h9) d_AckBook_Sent_markLost_25 (fun v6 h => ?_)
      refine lv_icmp_ge (tgt := 128) hC.1 hC.2.1 d_AckBook_Sent_markLost_28 (by decide) (fun hc => ?_) (fun hc => ?_)
      · have h := z_ifp hc h
        refine x_aload_n hC d_AckBook_Sent_markLost_128 rfl (lv_at hl 3 rfl) ?_
        exact x_aret hC hRc hRs hZ hr (Or.inl ⟨_, rfl⟩) h d_AckBook_Sent_markLost_129
      · have h := z_ifn hc h
        refine x_aload_n hC d_AckBook_Sent_markLost_31 rfl (lv_at hl 0 rfl) ?_
        refine x_getR hC hZ zc2 h (by decide) t_90 (fun _ h9 => h9) d_AckBook_Sent_markLost_32 (fun r7 h => ?_)
        refine lv_iload hC.1 hC.2.1 d_AckBook_Sent_markLost_35 (lv_at hl 4 rfl) ?_
        obtain ⟨a_, fs_, eo_, h⟩ := z_this_spec h
        obtain ⟨w1_, o1_, hF_, ha_⟩ := z_cR_spec h
        refine x_goes hC hRc hRs hFr ha_ (z_goV (As := [.int xL4]) hC hZ zc4 eo_ (k_ArrayList_get hT hfl hE _ _ hF_) t_312 t_313 t_314 t_7 t_315 ⟨by decide, by decide, (by decide +kernel : (parseMethodDescriptor y_ArrayList_get.desc).map (fun d => d.parameters.length) = some 1)⟩ (by rw [hRt.1]; decide) (by rw [hRt.2]; decide) hl.1 rfl (by first | exact Nat.le_of_ble_eq_true rfl | simp [z_rfc, z_ci, z_cj]) d_AckBook_Sent_markLost_37) (fun v_ hv H locs cells slots hZ => ?_)
        obtain ⟨r9, rfl, h⟩ := hv
        generalize w1_ = w at h hZ
        refine x_cast hC hZ zc9 h t_326 d_AckBook_Sent_markLost_40 (fun h => ?_)
        refine x_astore (i := 5) (lv' := [(5, va_rf r9), (0, va_rf rL0), (1, .int xL1), (2, .int xL2), (3, va_rf rL3), (4, .int xL4)]) hC d_AckBook_Sent_markLost_43 hl (by decide) (by first | rfl | simp [z_rfc, z_ci, z_cj]) (fun ls hl => ?_)
        refine x_aload hC d_AckBook_Sent_markLost_45 (lv_at hl 0 rfl) ?_
        refine x_getI hC hZ zc9 h (by decide) t_501 (fun _ h9 => h9) d_AckBook_Sent_markLost_47 (fun v10 h => ?_)
        refine lv_if_eq (tgt := 56) hC.1 hC.2.1 d_AckBook_Sent_markLost_50 (by decide) (fun hc => ?_) (fun hc => ?_)
        · have h := z_ifp hc h
          refine lv_iload hC.1 hC.2.1 d_AckBook_Sent_markLost_56 (lv_at hl 5 rfl) ?_
          refine x_aload_n hC d_AckBook_Sent_markLost_58 rfl (lv_at hl 1 rfl) ?_
          refine x_getI hC hZ zc2 h (by decide) t_97 (fun _ h9 => h9) d_AckBook_Sent_markLost_59 (fun v11 h => ?_)
          refine lv_iconst (v := (3 : Int32)) hC.1 hC.2.1 d_AckBook_Sent_markLost_62 (by decide) ?_
          refine lv_isub hC.1 hC.2.1 d_AckBook_Sent_markLost_63 ?_
          refine lv_icmp_le (tgt := 78) hC.1 hC.2.1 d_AckBook_Sent_markLost_64 (by decide) (fun hc => ?_) (fun hc => ?_)
          · have h := z_ifp hc h
            exact kq_AckBook_Sent_markLost_78 hT hfl hE hC hr hRc hRs hFr hRt hnm ih _ _ _ _ _ _ _ _ h _ _ _ _ _ hZ (lv_sub hl [1, 2, 3, 4, 5, 0] rfl)
          · have h := z_ifn hc h
            refine x_aload hC d_AckBook_Sent_markLost_67 (lv_at hl 0 rfl) ?_
            refine x_getI hC hZ zc9 h (by decide) t_491 (fun _ h9 => h9) d_AckBook_Sent_markLost_69 (fun v12 h => ?_)
            refine lv_iload_n hC.1 hC.2.1 d_AckBook_Sent_markLost_72 rfl (lv_at hl 2 rfl) ?_
            refine lv_iload_n hC.1 hC.2.1 d_AckBook_Sent_markLost_73 rfl (lv_at hl 3 rfl) ?_
            refine lv_isub hC.1 hC.2.1 d_AckBook_Sent_markLost_74 ?_
            refine lv_icmp_gt (tgt := 103) hC.1 hC.2.1 d_AckBook_Sent_markLost_75 (by decide) (fun hc => ?_) (fun hc => ?_)
            · have h := z_ifp hc h
              refine x_aload_n hC d_AckBook_Sent_markLost_103 rfl (lv_at hl 1 rfl) ?_
              refine x_getI hC hZ zc2 h (by decide) t_99 (fun _ h9 => h9) d_AckBook_Sent_markLost_104 (fun v13 h => ?_)
              refine lv_iconst (v := (-1 : Int32)) hC.1 hC.2.1 d_AckBook_Sent_markLost_107 (by decide) ?_
              refine lv_icmp_ne (tgt := 122) hC.1 hC.2.1 d_AckBook_Sent_markLost_108 (by decide) (fun hc => ?_) (fun hc => ?_)
              · have h := z_ifn hc h
                refine lv_iinc (lv' := [(4, .int (xL4 + (1 : Int32))), (5, va_rf r9), (0, va_rf rL0), (1, .int xL1), (2, .int xL2), (3, va_rf rL3)]) hC.1 hC.2.1 d_AckBook_Sent_markLost_122 hl (k := 5) rfl rfl (by decide) (by first | rfl | simp [z_rfc, z_ci, z_cj]) (fun ls hl => ?_)
                refine lv_goto (tgt := 10) hC.1 hC.2.1 d_AckBook_Sent_markLost_125 (by decide) ?_
                exact ih _ _ _ _ _ _ _ h _ _ _ _ _ hZ (lv_sub hl [2, 3, 4, 5, 0] rfl)
              · have h := z_ifp hc h
                refine x_aload_n hC d_AckBook_Sent_markLost_111 rfl (lv_at hl 1 rfl) ?_
                refine x_aload hC d_AckBook_Sent_markLost_112 (lv_at hl 0 rfl) ?_
                refine x_getI hC hZ zc9 h (by decide) t_491 (fun _ h9 => h9) d_AckBook_Sent_markLost_114 (fun v14 h => ?_)
                refine lv_iload_n hC.1 hC.2.1 d_AckBook_Sent_markLost_117 rfl (lv_at hl 3 rfl) ?_
                refine lv_iadd hC.1 hC.2.1 d_AckBook_Sent_markLost_118 ?_
                refine x_put hC hZ zc2 h (by decide) t_99 (fun _ h9 => h9) rfl rfl rfl rfl d_AckBook_Sent_markLost_119 (fun w H locs hZ h => ?_)
                refine lv_iinc (lv' := [(4, .int (xL4 + (1 : Int32))), (5, va_rf r9), (0, va_rf rL0), (1, .int xL1), (2, .int xL2), (3, va_rf rL3)]) hC.1 hC.2.1 d_AckBook_Sent_markLost_122 hl (k := 5) rfl rfl (by decide) (by first | rfl | simp [z_rfc, z_ci, z_cj]) (fun ls hl => ?_)
                refine lv_goto (tgt := 10) hC.1 hC.2.1 d_AckBook_Sent_markLost_125 (by decide) ?_
                exact ih _ _ _ _ _ _ _ h _ _ _ _ _ hZ (lv_sub hl [2, 3, 4, 5, 0] rfl)
            · have h := z_ifn hc h
              exact kq_AckBook_Sent_markLost_78 hT hfl hE hC hr hRc hRs hFr hRt hnm ih _ _ _ _ _ _ _ _ h _ _ _ _ _ hZ (lv_sub hl [1, 2, 3, 4, 5, 0] rfl)
        · have h := z_ifn hc h
          refine lv_goto (tgt := 122) hC.1 hC.2.1 d_AckBook_Sent_markLost_53 (by decide) ?_
          refine lv_iinc (lv' := [(4, .int (xL4 + (1 : Int32))), (5, va_rf r9), (0, va_rf rL0), (1, .int xL1), (2, .int xL2), (3, va_rf rL3)]) hC.1 hC.2.1 d_AckBook_Sent_markLost_122 hl (k := 5) rfl rfl (by decide) (by first | rfl | simp [z_rfc, z_ci, z_cj]) (fun ls hl => ?_)
          refine lv_goto (tgt := 10) hC.1 hC.2.1 d_AckBook_Sent_markLost_125 (by decide) ?_
          exact ih _ _ _ _ _ _ _ h _ _ _ _ _ hZ (lv_sub hl [2, 3, 4, 5, 0] rfl)
def f_AckBook_Sent_markLost (F X : Nat) (a0 : Option Nat) (pI1 : Int32) (pI2 : Int32) (w : zW) : zR :=
  z_put w 2 7 a0 (.int (-1 : Int32)) fun w =>
  (j_AckBook_Sent_markLost F X F) a0 pI1 pI2 none (0 : Int32) w
set_option maxHeartbeats 4000000 in
set_option maxRecDepth 100000 in
theorem k_AckBook_Sent_markLost {b0 : Nat} {H0 : Heap} {D : va_G} {vu vs : Value} {X M : Nat} {l : Launch} (hT : z_TB (zGG b0 H0 D vu vs X M)) (hfl : l.flags = pinnedFlags ++ [noTraceFlag]) (hE : vu.isRef = true ∧ vs.isRef = true) {a0 : Option Nat} {pI1 : Int32} {pI2 : Int32} (F : Nat) {w : zW} (res : zO × zW) (h : f_AckBook_Sent_markLost F X a0 pI1 pI2 w = some res) : z_Ct (zGG b0 H0 D vu vs X M) l y_AckBook_Sent_markLost (.code y_AckBook_Sent_markLost c_AckBook_Sent_markLost 6 (some (FieldType.object "AckBook$Packet"))) 3 64 [va_rf a0, .int pI1, .int pI2] w res := by
  refine z_ct hT hfl (by decide) (by simp only [z_sl_i, z_sl_j, z_sl_r, z_sl_n]; decide) ?_
  intro p e R s m args below meth c hC hr hRc hRs hRt hnm hFr H ls hZ hl
  simp only [z_la_i, z_la_j, z_la_r, z_la_n] at hl
  have hl : lv_has ls 6 [(0, va_rf a0), (1, .int pI1), (2, .int pI2)] := hl
  unfold f_AckBook_Sent_markLost at h
  refine x_null hC d_AckBook_Sent_markLost_0 ?_
  refine x_astore_n (i := 3) (lv' := [(3, va_rf none), (0, va_rf a0), (1, .int pI1), (2, .int pI2)]) hC d_AckBook_Sent_markLost_1 rfl hl (by decide) (by first | rfl | simp [z_rfc, z_ci, z_cj]) (fun ls hl => ?_)
  refine x_aload_n hC d_AckBook_Sent_markLost_2 rfl (lv_at hl 1 rfl) ?_
  refine lv_iconst (v := (-1 : Int32)) hC.1 hC.2.1 d_AckBook_Sent_markLost_3 (by decide) ?_
  refine x_put hC hZ zc2 h (by decide) t_99 (fun _ h9 => h9) rfl rfl rfl rfl d_AckBook_Sent_markLost_4 (fun w H locs hZ h => ?_)
  refine lv_iconst (v := (0 : Int32)) hC.1 hC.2.1 d_AckBook_Sent_markLost_7 (by decide) ?_
  refine lv_istore (i := 4) (lv' := [(4, .int (0 : Int32)), (3, va_rf none), (0, va_rf a0), (1, .int pI1), (2, .int pI2)]) hC.1 hC.2.1 d_AckBook_Sent_markLost_8 hl (by decide) (by first | rfl | simp [z_rfc, z_ci, z_cj]) (fun ls hl => ?_)
  exact (kj_AckBook_Sent_markLost hT hfl hE hC hr hRc hRs hFr hRt hnm F) _ _ _ _ _ _ _ h _ _ _ _ _ hZ (lv_sub hl [2, 3, 4, 1, 0] rfl)
def f_AckBook_Flow_leave (F X : Nat) (a0 : Option Nat) (pR1 : Option Nat) (w : zW) : zR :=
  z_getI w 9 4 pR1 fun v1 =>
  if v1 = 0 then (
    some (.inl none, w))
  else (
    z_getI w 8 0 a0 fun v2 =>
    z_getI w 9 1 pR1 fun v3 =>
    z_put w 8 0 a0 (.int (v2 - v3)) fun w =>
    some (.inl none, w))
set_option maxHeartbeats 4000000 in
set_option maxRecDepth 100000 in
theorem k_AckBook_Flow_leave {b0 : Nat} {H0 : Heap} {D : va_G} {vu vs : Value} {X M : Nat} {l : Launch} (hT : z_TB (zGG b0 H0 D vu vs X M)) (hfl : l.flags = pinnedFlags ++ [noTraceFlag]) (hE : vu.isRef = true ∧ vs.isRef = true) {a0 : Option Nat} {pR1 : Option Nat} (F : Nat) {w : zW} (res : zO × zW) (h : f_AckBook_Flow_leave F X a0 pR1 w = some res) : z_Ct (zGG b0 H0 D vu vs X M) l y_AckBook_Flow_leave (.code y_AckBook_Flow_leave c_AckBook_Flow_leave 2 (none)) 0 0 [va_rf a0, va_rf pR1] w res := by
  refine z_ct hT hfl (by decide) (by simp only [z_sl_i, z_sl_j, z_sl_r, z_sl_n]; decide) ?_
  intro p e R s m args below meth c hC hr hRc hRs hRt hnm hFr H ls hZ hl
  simp only [z_la_i, z_la_j, z_la_r, z_la_n] at hl
  have hl : lv_has ls 2 [(0, va_rf a0), (1, va_rf pR1)] := hl
  unfold f_AckBook_Flow_leave at h
  refine x_aload_n hC d_AckBook_Flow_leave_0 rfl (lv_at hl 1 rfl) ?_
  refine x_getI hC hZ zc9 h (by decide) t_498 (fun _ h9 => h9) d_AckBook_Flow_leave_1 (fun v1 h => ?_)
  refine lv_if_eq (tgt := 20) hC.1 hC.2.1 d_AckBook_Flow_leave_4 (by decide) (fun hc => ?_) (fun hc => ?_)
  · have h := z_ifp hc h
    exact x_vret hC hRc hRs hZ hr h d_AckBook_Flow_leave_20
  · have h := z_ifn hc h
    refine x_aload_n hC d_AckBook_Flow_leave_7 rfl (lv_at hl 0 rfl) ?_
    refine lv_dup hC.1 hC.2.1 d_AckBook_Flow_leave_8 (z_rfc _) ?_
    refine x_getI hC hZ zc8 h (by decide) t_224 (fun _ h9 => h9) d_AckBook_Flow_leave_9 (fun v2 h => ?_)
    refine x_aload_n hC d_AckBook_Flow_leave_12 rfl (lv_at hl 1 rfl) ?_
    refine x_getI hC hZ zc9 h (by decide) t_489 (fun _ h9 => h9) d_AckBook_Flow_leave_13 (fun v3 h => ?_)
    refine lv_isub hC.1 hC.2.1 d_AckBook_Flow_leave_16 ?_
    refine x_put hC hZ zc8 h (by decide) t_224 (fun _ h9 => h9) rfl rfl rfl rfl d_AckBook_Flow_leave_17 (fun w H locs hZ h => ?_)
    exact x_vret hC hRc hRs hZ hr h d_AckBook_Flow_leave_20
def f_AckBook_Flow_isAfterRecovery (F X : Nat) (a0 : Option Nat) (pR1 : Option Nat) (w : zW) : zR :=
  z_getI w 8 3 a0 fun v1 =>
  if v1 = (-1 : Int32) then (
    some (.inl (some (.int (1 : Int32))), w))
  else (
    z_getI w 9 2 pR1 fun v2 =>
    z_getI w 8 3 a0 fun v3 =>
    if v2 ≤ v3 then (
      some (.inl (some (.int (0 : Int32))), w))
    else (
      some (.inl (some (.int (1 : Int32))), w)))
set_option maxHeartbeats 4000000 in
set_option maxRecDepth 100000 in
theorem k_AckBook_Flow_isAfterRecovery {b0 : Nat} {H0 : Heap} {D : va_G} {vu vs : Value} {X M : Nat} {l : Launch} (hT : z_TB (zGG b0 H0 D vu vs X M)) (hfl : l.flags = pinnedFlags ++ [noTraceFlag]) (hE : vu.isRef = true ∧ vs.isRef = true) {a0 : Option Nat} {pR1 : Option Nat} (F : Nat) {w : zW} (res : zO × zW) (h : f_AckBook_Flow_isAfterRecovery F X a0 pR1 w = some res) : z_Ct (zGG b0 H0 D vu vs X M) l y_AckBook_Flow_isAfterRecovery (.code y_AckBook_Flow_isAfterRecovery c_AckBook_Flow_isAfterRecovery 2 (some FieldType.boolean)) 0 0 [va_rf a0, va_rf pR1] w res := by
  refine z_ct hT hfl (by decide) (by simp only [z_sl_i, z_sl_j, z_sl_r, z_sl_n]; decide) ?_
  intro p e R s m args below meth c hC hr hRc hRs hRt hnm hFr H ls hZ hl
  simp only [z_la_i, z_la_j, z_la_r, z_la_n] at hl
  have hl : lv_has ls 2 [(0, va_rf a0), (1, va_rf pR1)] := hl
  unfold f_AckBook_Flow_isAfterRecovery at h
  refine x_aload_n hC d_AckBook_Flow_isAfterRecovery_0 rfl (lv_at hl 0 rfl) ?_
  refine x_getI hC hZ zc8 h (by decide) t_230 (fun _ h9 => h9) d_AckBook_Flow_isAfterRecovery_1 (fun v1 h => ?_)
  refine lv_iconst (v := (-1 : Int32)) hC.1 hC.2.1 d_AckBook_Flow_isAfterRecovery_4 (by decide) ?_
  refine lv_icmp_eq (tgt := 19) hC.1 hC.2.1 d_AckBook_Flow_isAfterRecovery_5 (by decide) (fun hc => ?_) (fun hc => ?_)
  · have h := z_ifp hc h
    refine lv_iconst (v := (1 : Int32)) hC.1 hC.2.1 d_AckBook_Flow_isAfterRecovery_19 (by decide) ?_
    refine lv_goto (tgt := 24) hC.1 hC.2.1 d_AckBook_Flow_isAfterRecovery_20 (by decide) ?_
    exact x_iret hC hRc hRs hZ hr rfl h d_AckBook_Flow_isAfterRecovery_24
  · have h := z_ifn hc h
    refine x_aload_n hC d_AckBook_Flow_isAfterRecovery_8 rfl (lv_at hl 1 rfl) ?_
    refine x_getI hC hZ zc9 h (by decide) t_492 (fun _ h9 => h9) d_AckBook_Flow_isAfterRecovery_9 (fun v2 h => ?_)
    refine x_aload_n hC d_AckBook_Flow_isAfterRecovery_12 rfl (lv_at hl 0 rfl) ?_
    refine x_getI hC hZ zc8 h (by decide) t_230 (fun _ h9 => h9) d_AckBook_Flow_isAfterRecovery_13 (fun v3 h => ?_)
    refine lv_icmp_le (tgt := 23) hC.1 hC.2.1 d_AckBook_Flow_isAfterRecovery_16 (by decide) (fun hc => ?_) (fun hc => ?_)
    · have h := z_ifp hc h
      refine lv_iconst (v := (0 : Int32)) hC.1 hC.2.1 d_AckBook_Flow_isAfterRecovery_23 (by decide) ?_
      exact x_iret hC hRc hRs hZ hr rfl h d_AckBook_Flow_isAfterRecovery_24
    · have h := z_ifn hc h
      refine lv_iconst (v := (1 : Int32)) hC.1 hC.2.1 d_AckBook_Flow_isAfterRecovery_19 (by decide) ?_
      refine lv_goto (tgt := 24) hC.1 hC.2.1 d_AckBook_Flow_isAfterRecovery_20 (by decide) ?_
      exact x_iret hC hRc hRs hZ hr rfl h d_AckBook_Flow_isAfterRecovery_24
def q_AckBook_Flow_leaveLost_41 (F X : Nat) (J : Option Nat → Int32 → Int32 → Option Nat → zW → zR) (rL0 : Option Nat) (xL2 : Int32) (rL4 : Option Nat) (w : zW) : zR :=
  z_getR w 9 7 rL4 fun r1 =>
  J rL0 xL2 (0 : Int32) r1 w
set_option maxHeartbeats 4000000 in
set_option maxRecDepth 100000 in
theorem kq_AckBook_Flow_leaveLost_41 {b0 : Nat} {H0 : Heap} {D : va_G} {vu vs : Value} {X M : Nat} {l : Launch} (hT : z_TB (zGG b0 H0 D vu vs X M)) (hfl : l.flags = pinnedFlags ++ [noTraceFlag]) (hE : vu.isRef = true ∧ vs.isRef = true) {p : Program} {e : Env} {R : Room} {s : State} {m : MethodId} {args : Array Value} {below : List Frame} {meth : Method} {c : Code} {w0 : zW} {F : Nat} (hC : z_C (zGG b0 H0 D vu vs X M) p e s m meth c c_AckBook_Flow_leaveLost 5 y_AckBook_Flow_leaveLost.cls) (hr : meth.sig.returnType = (none)) (hRc : R.cells = w0.2.1) (hRs : R.slots = w0.2.2.1) (hFr : c.exceptionTable.toList = []) (hRt : R.frames = 1 ∧ R.locals = 28) (hnm : meth.name = y_AckBook_Flow_leaveLost.name) {J : Option Nat → Int32 → Int32 → Option Nat → zW → zR} (hJ : (∀ (rL0 : Option Nat) (xL2 : Int32) (xL3 : Int32) (rL4 : Option Nat) (w : zW) (res : zO × zW), J rL0 xL2 xL3 rL4 w = some res → ∀ (H : Heap) (locs : List Loc) (cells slots : Nat) (ls : Array Slot), z_Z (zGG b0 H0 D vu vs X M) R s w H locs cells slots → lv_has ls 5 [(0, va_rf rL0), (2, .int xL2), (3, .int xL3), (4, va_rf rL4)] → W p l e R s m args below meth c H locs cells slots (z_Q (zGG b0 H0 D vu vs X M) below s w0 res) (F0 m 5 ls []))) (rL0 : Option Nat) (xL2 : Int32) (rL4 : Option Nat) (w : zW) (res : zO × zW) (h : q_AckBook_Flow_leaveLost_41 F X J rL0 xL2 rL4 w = some res) (H : Heap) (locs : List Loc) (cells slots : Nat) (ls : Array Slot) (hZ : z_Z (zGG b0 H0 D vu vs X M) R s w H locs cells slots) (hl : lv_has ls 5 [(0, va_rf rL0), (2, .int xL2), (4, va_rf rL4)]) : W p l e R s m args below meth c H locs cells slots (z_Q (zGG b0 H0 D vu vs X M) below s w0 res) (F0 m 41 ls []) := by
  unfold q_AckBook_Flow_leaveLost_41 at h
  refine lv_iconst (v := (0 : Int32)) hC.1 hC.2.1 d_AckBook_Flow_leaveLost_41 (by decide) ?_
  refine lv_istore_n (i := 3) (lv' := [(3, .int (0 : Int32)), (0, va_rf rL0), (2, .int xL2), (4, va_rf rL4)]) hC.1 hC.2.1 d_AckBook_Flow_leaveLost_42 rfl hl (by decide) (by first | rfl | simp [z_rfc, z_ci, z_cj]) (fun ls hl => ?_)
  refine x_aload hC d_AckBook_Flow_leaveLost_43 (lv_at hl 3 rfl) ?_
  refine x_getR hC hZ zc9 h (by decide) t_504 (fun _ h9 => h9) d_AckBook_Flow_leaveLost_45 (fun r1 h => ?_)
  refine x_astore (i := 4) (lv' := [(4, va_rf r1), (3, .int (0 : Int32)), (0, va_rf rL0), (2, .int xL2)]) hC d_AckBook_Flow_leaveLost_48 hl (by decide) (by first | rfl | simp [z_rfc, z_ci, z_cj]) (fun ls hl => ?_)
  refine lv_goto (tgt := 5) hC.1 hC.2.1 d_AckBook_Flow_leaveLost_50 (by decide) ?_
  exact hJ _ _ _ _ _ _ h _ _ _ _ _ hZ (lv_sub hl [2, 3, 1, 0] rfl)
def q_AckBook_Flow_leaveLost_37 (F X : Nat) (J : Option Nat → Int32 → Int32 → Option Nat → zW → zR) (rL0 : Option Nat) (xL2 : Int32) (rL4 : Option Nat) (w : zW) : zR :=
  z_getR w 9 7 rL4 fun r2 =>
  J rL0 xL2 (1 : Int32) r2 w
set_option maxHeartbeats 4000000 in
set_option maxRecDepth 100000 in
theorem kq_AckBook_Flow_leaveLost_37 {b0 : Nat} {H0 : Heap} {D : va_G} {vu vs : Value} {X M : Nat} {l : Launch} (hT : z_TB (zGG b0 H0 D vu vs X M)) (hfl : l.flags = pinnedFlags ++ [noTraceFlag]) (hE : vu.isRef = true ∧ vs.isRef = true) {p : Program} {e : Env} {R : Room} {s : State} {m : MethodId} {args : Array Value} {below : List Frame} {meth : Method} {c : Code} {w0 : zW} {F : Nat} (hC : z_C (zGG b0 H0 D vu vs X M) p e s m meth c c_AckBook_Flow_leaveLost 5 y_AckBook_Flow_leaveLost.cls) (hr : meth.sig.returnType = (none)) (hRc : R.cells = w0.2.1) (hRs : R.slots = w0.2.2.1) (hFr : c.exceptionTable.toList = []) (hRt : R.frames = 1 ∧ R.locals = 28) (hnm : meth.name = y_AckBook_Flow_leaveLost.name) {J : Option Nat → Int32 → Int32 → Option Nat → zW → zR} (hJ : (∀ (rL0 : Option Nat) (xL2 : Int32) (xL3 : Int32) (rL4 : Option Nat) (w : zW) (res : zO × zW), J rL0 xL2 xL3 rL4 w = some res → ∀ (H : Heap) (locs : List Loc) (cells slots : Nat) (ls : Array Slot), z_Z (zGG b0 H0 D vu vs X M) R s w H locs cells slots → lv_has ls 5 [(0, va_rf rL0), (2, .int xL2), (3, .int xL3), (4, va_rf rL4)] → W p l e R s m args below meth c H locs cells slots (z_Q (zGG b0 H0 D vu vs X M) below s w0 res) (F0 m 5 ls []))) (rL0 : Option Nat) (xL2 : Int32) (rL4 : Option Nat) (w : zW) (res : zO × zW) (h : q_AckBook_Flow_leaveLost_37 F X J rL0 xL2 rL4 w = some res) (H : Heap) (locs : List Loc) (cells slots : Nat) (ls : Array Slot) (hZ : z_Z (zGG b0 H0 D vu vs X M) R s w H locs cells slots) (hl : lv_has ls 5 [(0, va_rf rL0), (2, .int xL2), (4, va_rf rL4)]) : W p l e R s m args below meth c H locs cells slots (z_Q (zGG b0 H0 D vu vs X M) below s w0 res) (F0 m 37 ls []) := by
  unfold q_AckBook_Flow_leaveLost_37 at h
  refine lv_iconst (v := (1 : Int32)) hC.1 hC.2.1 d_AckBook_Flow_leaveLost_37 (by decide) ?_
  refine lv_goto (tgt := 42) hC.1 hC.2.1 d_AckBook_Flow_leaveLost_38 (by decide) ?_
  refine lv_istore_n (i := 3) (lv' := [(3, .int (1 : Int32)), (0, va_rf rL0), (2, .int xL2), (4, va_rf rL4)]) hC.1 hC.2.1 d_AckBook_Flow_leaveLost_42 rfl hl (by decide) (by first | rfl | simp [z_rfc, z_ci, z_cj]) (fun ls hl => ?_)
  refine x_aload hC d_AckBook_Flow_leaveLost_43 (lv_at hl 3 rfl) ?_
  refine x_getR hC hZ zc9 h (by decide) t_504 (fun _ h9 => h9) d_AckBook_Flow_leaveLost_45 (fun r2 h => ?_)
  refine x_astore (i := 4) (lv' := [(4, va_rf r2), (3, .int (1 : Int32)), (0, va_rf rL0), (2, .int xL2)]) hC d_AckBook_Flow_leaveLost_48 hl (by decide) (by first | rfl | simp [z_rfc, z_ci, z_cj]) (fun ls hl => ?_)
  refine lv_goto (tgt := 5) hC.1 hC.2.1 d_AckBook_Flow_leaveLost_50 (by decide) ?_
  exact hJ _ _ _ _ _ _ h _ _ _ _ _ hZ (lv_sub hl [2, 3, 1, 0] rfl)
def j_AckBook_Flow_leaveLost (F X : Nat) : Nat → Option Nat → Int32 → Int32 → Option Nat → zW → zR
  | 0, _, _, _, _, _ => none
  | N + 1, rL0, xL2, xL3, rL4, w =>
    if rL4 = none then (
      if xL3 = 0 then (
        some (.inl none, w))
      else (
        z_put w 8 3 rL0 (.int xL2) fun w =>
        z_getI w 8 1 rL0 fun v3 =>
        z_put w 8 2 rL0 (.int (v3 / (2 : Int32))) fun w =>
        z_getI w 8 2 rL0 fun v4 =>
        z_put w 8 1 rL0 (.int (if v4 < (2400 : Int32) then (2400 : Int32) else v4)) fun w =>
        some (.inl none, w)))
    else (
      z_this w 8 rL0 <|
      z_cV (f_AckBook_Flow_leave F X rL0 rL4 w) fun w =>
      if xL3 = 0 then (
        z_getI w 9 4 rL4 fun v6 =>
        if v6 = 0 then (
          q_AckBook_Flow_leaveLost_41 F X (j_AckBook_Flow_leaveLost F X N) rL0 xL2 rL4 w)
        else (
          z_this w 8 rL0 <|
          z_cI (f_AckBook_Flow_isAfterRecovery F X rL0 rL4 w) fun v8 w =>
          if v8 = 0 then (
            q_AckBook_Flow_leaveLost_41 F X (j_AckBook_Flow_leaveLost F X N) rL0 xL2 rL4 w)
          else (
            q_AckBook_Flow_leaveLost_37 F X (j_AckBook_Flow_leaveLost F X N) rL0 xL2 rL4 w)))
      else (
        q_AckBook_Flow_leaveLost_37 F X (j_AckBook_Flow_leaveLost F X N) rL0 xL2 rL4 w))
set_option maxHeartbeats 4000000 in
set_option maxRecDepth 100000 in
theorem kj_AckBook_Flow_leaveLost {b0 : Nat} {H0 : Heap} {D : va_G} {vu vs : Value} {X M : Nat} {l : Launch} (hT : z_TB (zGG b0 H0 D vu vs X M)) (hfl : l.flags = pinnedFlags ++ [noTraceFlag]) (hE : vu.isRef = true ∧ vs.isRef = true) {p : Program} {e : Env} {R : Room} {s : State} {m : MethodId} {args : Array Value} {below : List Frame} {meth : Method} {c : Code} {w0 : zW} {F : Nat} (hC : z_C (zGG b0 H0 D vu vs X M) p e s m meth c c_AckBook_Flow_leaveLost 5 y_AckBook_Flow_leaveLost.cls) (hr : meth.sig.returnType = (none)) (hRc : R.cells = w0.2.1) (hRs : R.slots = w0.2.2.1) (hFr : c.exceptionTable.toList = []) (hRt : R.frames = 1 ∧ R.locals = 28) (hnm : meth.name = y_AckBook_Flow_leaveLost.name) : ∀ N : Nat, (∀ (rL0 : Option Nat) (xL2 : Int32) (xL3 : Int32) (rL4 : Option Nat) (w : zW) (res : zO × zW), j_AckBook_Flow_leaveLost F X N rL0 xL2 xL3 rL4 w = some res → ∀ (H : Heap) (locs : List Loc) (cells slots : Nat) (ls : Array Slot), z_Z (zGG b0 H0 D vu vs X M) R s w H locs cells slots → lv_has ls 5 [(0, va_rf rL0), (2, .int xL2), (3, .int xL3), (4, va_rf rL4)] → W p l e R s m args below meth c H locs cells slots (z_Q (zGG b0 H0 D vu vs X M) below s w0 res) (F0 m 5 ls [])) := by
  intro N
  induction N with
  | zero =>
    intro rL0 xL2 xL3 rL4 w res h
    rw [j_AckBook_Flow_leaveLost] at h
    cases h
  | succ N ih =>
    intro rL0 xL2 xL3 rL4 w res h H locs cells slots ls hZ hl
    rw [j_AckBook_Flow_leaveLost] at h
    refine x_aload hC d_AckBook_Flow_leaveLost_5 (lv_at hl 3 rfl) ?_
    refine x_ifnull (tgt := 53) hC d_AckBook_Flow_leaveLost_7 (by decide) (fun hc => ?_) (fun hc => ?_)
    · have h := z_ifp hc h
      refine lv_iload_n hC.1 hC.2.1 d_AckBook_Flow_leaveLost_53 rfl (lv_at hl 2 rfl) ?_
      refine lv_if_eq (tgt := 86) hC.1 hC.2.1 d_AckBook_Flow_leaveLost_54 (by decide) (fun hc => ?_) (fun hc => ?_)
      · have h := z_ifp hc h
        exact x_vret hC hRc hRs hZ hr h d_AckBook_Flow_leaveLost_86
      · have h := z_ifn hc h
        refine x_aload_n hC d_AckBook_Flow_leaveLost_57 rfl (lv_at hl 0 rfl) ?_
        refine lv_iload_n hC.1 hC.2.1 d_AckBook_Flow_leaveLost_58 rfl (lv_at hl 1 rfl) ?_
        refine x_put hC hZ zc8 h (by decide) t_230 (fun _ h9 => h9) rfl rfl rfl rfl d_AckBook_Flow_leaveLost_59 (fun w H locs hZ h => ?_)
        refine x_aload_n hC d_AckBook_Flow_leaveLost_62 rfl (lv_at hl 0 rfl) ?_
        refine x_aload_n hC d_AckBook_Flow_leaveLost_63 rfl (lv_at hl 0 rfl) ?_
        refine x_getI hC hZ zc8 h (by decide) t_226 (fun _ h9 => h9) d_AckBook_Flow_leaveLost_64 (fun v3 h => ?_)
        refine lv_iconst (v := (2 : Int32)) hC.1 hC.2.1 d_AckBook_Flow_leaveLost_67 (by decide) ?_
        refine lv_idiv hC.1 hC.2.1 d_AckBook_Flow_leaveLost_68 (by decide) ?_
        refine x_put hC hZ zc8 h (by decide) t_228 (fun _ h9 => h9) rfl rfl rfl rfl d_AckBook_Flow_leaveLost_69 (fun w H locs hZ h => ?_)
        refine x_aload_n hC d_AckBook_Flow_leaveLost_72 rfl (lv_at hl 0 rfl) ?_
        refine x_aload_n hC d_AckBook_Flow_leaveLost_73 rfl (lv_at hl 0 rfl) ?_
        refine x_getI hC hZ zc8 h (by decide) t_228 (fun _ h9 => h9) d_AckBook_Flow_leaveLost_74 (fun v4 h => ?_)
        refine lv_sipush (v := (2400 : Int32)) hC.1 hC.2.1 d_AckBook_Flow_leaveLost_77 (by decide) ?_
        refine va_mmax hC.1 hC.2.1 (hC.2.2.1.trans hl.1.symm) hC.2.2.2.1 ((hZ.1.tb hC.2.2.2.2.2.2 args) _ t_347) ((hZ.1.tb hC.2.2.2.2.2.2 args) _ t_290) ((hZ.1.tb hC.2.2.2.2.2.2 args) _ t_20) ((hZ.1.tb hC.2.2.2.2.2.2 args) _ t_291) (by rw [hRt.1]; decide) (by rw [hRt.2]; first | exact Nat.le_of_ble_eq_true rfl | simp [z_rfc, z_ci, z_cj]) (hZ.2.2.1 ▸ Nat.le_add_right _ _) (hZ.2.2.2 ▸ Nat.le_add_right _ _) d_AckBook_Flow_leaveLost_80 ?_
        refine x_put hC hZ zc8 h (by decide) t_226 (fun _ h9 => h9) rfl rfl rfl rfl d_AckBook_Flow_leaveLost_83 (fun w H locs hZ h => ?_)
        exact x_vret hC hRc hRs hZ hr h d_AckBook_Flow_leaveLost_86
    · have h := z_ifn hc h
      refine x_aload_n hC d_AckBook_Flow_leaveLost_10 rfl (lv_at hl 0 rfl) ?_
      refine x_aload hC d_AckBook_Flow_leaveLost_11 (lv_at hl 3 rfl) ?_
      obtain ⟨a_, fs_, eo_, h⟩ := z_this_spec h
      obtain ⟨w1_, o1_, hF_, ha_⟩ := z_cV_spec h
      refine x_goes hC hRc hRs hFr ha_ (z_goV (As := [va_rf rL4]) hC hZ zc8 eo_ (k_AckBook_Flow_leave hT hfl hE _ _ hF_) t_339 t_340 t_341 t_11 t_342 ⟨by decide, by decide, (by decide +kernel : (parseMethodDescriptor y_AckBook_Flow_leave.desc).map (fun d => d.parameters.length) = some 1)⟩ (by rw [hRt.1]; decide) (by rw [hRt.2]; decide) hl.1 rfl (by first | exact Nat.le_of_ble_eq_true rfl | simp [z_rfc, z_ci, z_cj]) d_AckBook_Flow_leaveLost_13) (fun v_ hv H locs cells slots hZ => ?_)
      obtain ⟨rfl, h⟩ := hv
      generalize w1_ = w at h hZ
      refine lv_iload_n hC.1 hC.2.1 d_AckBook_Flow_leaveLost_16 rfl (lv_at hl 2 rfl) ?_
      refine lv_if_ne (tgt := 37) hC.1 hC.2.1 d_AckBook_Flow_leaveLost_17 (by decide) (fun hc => ?_) (fun hc => ?_)
      · have h := z_ifn hc h
        exact kq_AckBook_Flow_leaveLost_37 hT hfl hE hC hr hRc hRs hFr hRt hnm ih _ _ _ _ _ h _ _ _ _ _ hZ (lv_sub hl [0, 1, 3] rfl)
      · have h := z_ifp hc h
        refine x_aload hC d_AckBook_Flow_leaveLost_20 (lv_at hl 3 rfl) ?_
        refine x_getI hC hZ zc9 h (by decide) t_498 (fun _ h9 => h9) d_AckBook_Flow_leaveLost_22 (fun v6 h => ?_)
        refine lv_if_eq (tgt := 41) hC.1 hC.2.1 d_AckBook_Flow_leaveLost_25 (by decide) (fun hc => ?_) (fun hc => ?_)
        · have h := z_ifp hc h
          exact kq_AckBook_Flow_leaveLost_41 hT hfl hE hC hr hRc hRs hFr hRt hnm ih _ _ _ _ _ h _ _ _ _ _ hZ (lv_sub hl [0, 1, 3] rfl)
        · have h := z_ifn hc h
          refine x_aload_n hC d_AckBook_Flow_leaveLost_28 rfl (lv_at hl 0 rfl) ?_
          refine x_aload hC d_AckBook_Flow_leaveLost_29 (lv_at hl 3 rfl) ?_
          obtain ⟨a_, fs_, eo_, h⟩ := z_this_spec h
          obtain ⟨w1_, o1_, hF_, ha_⟩ := z_cI_spec h
          refine x_goes hC hRc hRs hFr ha_ (z_goV (As := [va_rf rL4]) hC hZ zc8 eo_ (k_AckBook_Flow_isAfterRecovery hT hfl hE _ _ hF_) t_343 t_345 ts_AckBook_Flow_isAfterRecovery t_11 t_346 ⟨by decide, by decide, (by decide +kernel : (parseMethodDescriptor y_AckBook_Flow_isAfterRecovery.desc).map (fun d => d.parameters.length) = some 1)⟩ (by rw [hRt.1]; decide) (by rw [hRt.2]; decide) hl.1 rfl (by first | exact Nat.le_of_ble_eq_true rfl | simp [z_rfc, z_ci, z_cj]) d_AckBook_Flow_leaveLost_31) (fun v_ hv H locs cells slots hZ => ?_)
          obtain ⟨v8, rfl, h⟩ := hv
          generalize w1_ = w at h hZ
          refine lv_if_eq (tgt := 41) hC.1 hC.2.1 d_AckBook_Flow_leaveLost_34 (by decide) (fun hc => ?_) (fun hc => ?_)
          · have h := z_ifp hc h
            exact kq_AckBook_Flow_leaveLost_41 hT hfl hE hC hr hRc hRs hFr hRt hnm ih _ _ _ _ _ h _ _ _ _ _ hZ (lv_sub hl [0, 1, 3] rfl)
          · have h := z_ifn hc h
            exact kq_AckBook_Flow_leaveLost_37 hT hfl hE hC hr hRc hRs hFr hRt hnm ih _ _ _ _ _ h _ _ _ _ _ hZ (lv_sub hl [0, 1, 3] rfl)
def f_AckBook_Flow_leaveLost (F X : Nat) (a0 : Option Nat) (pR1 : Option Nat) (pI2 : Int32) (w : zW) : zR :=
  (j_AckBook_Flow_leaveLost F X F) a0 pI2 (0 : Int32) pR1 w
set_option maxHeartbeats 4000000 in
set_option maxRecDepth 100000 in
theorem k_AckBook_Flow_leaveLost {b0 : Nat} {H0 : Heap} {D : va_G} {vu vs : Value} {X M : Nat} {l : Launch} (hT : z_TB (zGG b0 H0 D vu vs X M)) (hfl : l.flags = pinnedFlags ++ [noTraceFlag]) (hE : vu.isRef = true ∧ vs.isRef = true) {a0 : Option Nat} {pR1 : Option Nat} {pI2 : Int32} (F : Nat) {w : zW} (res : zO × zW) (h : f_AckBook_Flow_leaveLost F X a0 pR1 pI2 w = some res) : z_Ct (zGG b0 H0 D vu vs X M) l y_AckBook_Flow_leaveLost (.code y_AckBook_Flow_leaveLost c_AckBook_Flow_leaveLost 5 (none)) 1 28 [va_rf a0, va_rf pR1, .int pI2] w res := by
  refine z_ct hT hfl (by decide) (by simp only [z_sl_i, z_sl_j, z_sl_r, z_sl_n]; decide) ?_
  intro p e R s m args below meth c hC hr hRc hRs hRt hnm hFr H ls hZ hl
  simp only [z_la_i, z_la_j, z_la_r, z_la_n] at hl
  have hl : lv_has ls 5 [(0, va_rf a0), (1, va_rf pR1), (2, .int pI2)] := hl
  unfold f_AckBook_Flow_leaveLost at h
  refine lv_iconst (v := (0 : Int32)) hC.1 hC.2.1 d_AckBook_Flow_leaveLost_0 (by decide) ?_
  refine lv_istore_n (i := 3) (lv' := [(3, .int (0 : Int32)), (0, va_rf a0), (1, va_rf pR1), (2, .int pI2)]) hC.1 hC.2.1 d_AckBook_Flow_leaveLost_1 rfl hl (by decide) (by first | rfl | simp [z_rfc, z_ci, z_cj]) (fun ls hl => ?_)
  refine x_aload_n hC d_AckBook_Flow_leaveLost_2 rfl (lv_at hl 2 rfl) ?_
  refine x_astore (i := 4) (lv' := [(4, va_rf pR1), (3, .int (0 : Int32)), (0, va_rf a0), (1, va_rf pR1), (2, .int pI2)]) hC d_AckBook_Flow_leaveLost_3 hl (by decide) (by first | rfl | simp [z_rfc, z_ci, z_cj]) (fun ls hl => ?_)
  exact (kj_AckBook_Flow_leaveLost hT hfl hE hC hr hRc hRs hFr hRt hnm F) _ _ _ _ _ _ h _ _ _ _ _ hZ (lv_sub hl [2, 4, 1, 0] rfl)
