def f_AckBook_Chain_init (F : Nat) (a0 : Option Nat) (w : zW) : zR :=
  z_nn a0 <|
  some (.inl none, w)
set_option maxHeartbeats 4000000 in
set_option maxRecDepth 100000 in
theorem k_AckBook_Chain_init {b0 : Nat} {H0 : Heap} {D : va_G} {ZS : List (String × String × String × Value)} {l : Launch} (hT : z_TB (zGG b0 H0 D ZS)) (hfl : l.flags = pinnedFlags ++ [noTraceFlag]) {a0 : Option Nat} (F : Nat) {w : zW} (res : zO × zW) (h : f_AckBook_Chain_init F a0 w = some res) : z_Ct (zGG b0 H0 D ZS) l y_AckBook_Chain_init (.code y_AckBook_Chain_init c_AckBook_Chain_init 1 (none)) 1 24 [va_rf a0] w res := by
  refine z_ct hT hfl (by decide) (by simp only [z_sl_i, z_sl_j, z_sl_r, z_sl_n]; decide) ?_
  intro p e R s m args below meth c hC hr hRc hRs hRt hnm hFr H ls hZ hl
  simp only [z_la_i, z_la_j, z_la_r, z_la_n] at hl
  have hl : lv_has ls 1 [(0, va_rf a0)] := hl
  unfold f_AckBook_Chain_init at h
  refine x_aload_n hC d_AckBook_Chain_init_0 rfl (lv_at hl 0 rfl) ?_
  obtain ⟨_, e_, h⟩ := z_nn_spec h
  refine x_objInit hC hZ e_ t_52 ⟨t_32, t_33⟩ hl.1 d_AckBook_Chain_init_1 (by rw [hRt.1]; decide) (by rw [hRt.2]; first | exact Nat.le_of_ble_eq_true rfl | simp [z_rfc, z_ci, z_cj]) ?_
  exact x_vret hC hRc hRs hZ hr h d_AckBook_Chain_init_4
def f_AckBook_Arrivals_init (F : Nat) (a0 : Option Nat) (w : zW) : zR :=
  z_nn a0 <|
  z_newa w .long (65 : Int32) (fun n => (n, .inr (.inl fun _ => 0))) fun a1 w =>
  z_put w 5 0 a0 (va_rf (some a1)) fun w =>
  z_newa w .long (65 : Int32) (fun n => (n, .inr (.inl fun _ => 0))) fun a2 w =>
  z_put w 5 1 a0 (va_rf (some a2)) fun w =>
  some (.inl none, w)
set_option maxHeartbeats 4000000 in
set_option maxRecDepth 100000 in
theorem k_AckBook_Arrivals_init {b0 : Nat} {H0 : Heap} {D : va_G} {ZS : List (String × String × String × Value)} {l : Launch} (hT : z_TB (zGG b0 H0 D ZS)) (hfl : l.flags = pinnedFlags ++ [noTraceFlag]) {a0 : Option Nat} (F : Nat) {w : zW} (res : zO × zW) (h : f_AckBook_Arrivals_init F a0 w = some res) : z_Ct (zGG b0 H0 D ZS) l y_AckBook_Arrivals_init (.code y_AckBook_Arrivals_init c_AckBook_Arrivals_init 1 (none)) 1 24 [va_rf a0] w res := by
  refine z_ct hT hfl (by decide) (by simp only [z_sl_i, z_sl_j, z_sl_r, z_sl_n]; decide) ?_
  intro p e R s m args below meth c hC hr hRc hRs hRt hnm hFr H ls hZ hl
  simp only [z_la_i, z_la_j, z_la_r, z_la_n] at hl
  have hl : lv_has ls 1 [(0, va_rf a0)] := hl
  unfold f_AckBook_Arrivals_init at h
  refine x_aload_n hC d_AckBook_Arrivals_init_0 rfl (lv_at hl 0 rfl) ?_
  obtain ⟨_, e_, h⟩ := z_nn_spec h
  refine x_objInit hC hZ e_ t_123 ⟨t_32, t_33⟩ hl.1 d_AckBook_Arrivals_init_1 (by rw [hRt.1]; decide) (by rw [hRt.2]; first | exact Nat.le_of_ble_eq_true rfl | simp [z_rfc, z_ci, z_cj]) ?_
  refine x_aload_n hC d_AckBook_Arrivals_init_4 rfl (lv_at hl 0 rfl) ?_
  refine lv_bipush (v := (65 : Int32)) hC.1 hC.2.1 d_AckBook_Arrivals_init_5 (by decide) ?_
  refine x_newaJ hC hZ h t_154 d_AckBook_Arrivals_init_7 (fun a1 w H cells slots hZ h => ?_)
  refine x_putF hC hZ zc5 h (by decide) t_124 (fun _ h9 => h9) rfl hnm rfl rfl (z_rfnA _ _) (z_rffA _ _) d_AckBook_Arrivals_init_9 (fun w H locs hZ h => ?_)
  refine x_aload_n hC d_AckBook_Arrivals_init_12 rfl (lv_at hl 0 rfl) ?_
  refine lv_bipush (v := (65 : Int32)) hC.1 hC.2.1 d_AckBook_Arrivals_init_13 (by decide) ?_
  refine x_newaJ hC hZ h t_154 d_AckBook_Arrivals_init_15 (fun a2 w H cells slots hZ h => ?_)
  refine x_putF hC hZ zc5 h (by decide) t_126 (fun _ h9 => h9) rfl hnm rfl rfl (z_rfnA _ _) (z_rffA _ _) d_AckBook_Arrivals_init_17 (fun w H locs hZ h => ?_)
  exact x_vret hC hRc hRs hZ hr h d_AckBook_Arrivals_init_20
def f_AckBook_Claim_init (F : Nat) (a0 : Option Nat) (w : zW) : zR :=
  z_nn a0 <|
  z_newa w .long (64 : Int32) (fun n => (n, .inr (.inl fun _ => 0))) fun a1 w =>
  z_put w 6 0 a0 (va_rf (some a1)) fun w =>
  z_newa w .long (64 : Int32) (fun n => (n, .inr (.inl fun _ => 0))) fun a2 w =>
  z_put w 6 1 a0 (va_rf (some a2)) fun w =>
  some (.inl none, w)
set_option maxHeartbeats 4000000 in
set_option maxRecDepth 100000 in
theorem k_AckBook_Claim_init {b0 : Nat} {H0 : Heap} {D : va_G} {ZS : List (String × String × String × Value)} {l : Launch} (hT : z_TB (zGG b0 H0 D ZS)) (hfl : l.flags = pinnedFlags ++ [noTraceFlag]) {a0 : Option Nat} (F : Nat) {w : zW} (res : zO × zW) (h : f_AckBook_Claim_init F a0 w = some res) : z_Ct (zGG b0 H0 D ZS) l y_AckBook_Claim_init (.code y_AckBook_Claim_init c_AckBook_Claim_init 1 (none)) 1 24 [va_rf a0] w res := by
  refine z_ct hT hfl (by decide) (by simp only [z_sl_i, z_sl_j, z_sl_r, z_sl_n]; decide) ?_
  intro p e R s m args below meth c hC hr hRc hRs hRt hnm hFr H ls hZ hl
  simp only [z_la_i, z_la_j, z_la_r, z_la_n] at hl
  have hl : lv_has ls 1 [(0, va_rf a0)] := hl
  unfold f_AckBook_Claim_init at h
  refine x_aload_n hC d_AckBook_Claim_init_0 rfl (lv_at hl 0 rfl) ?_
  obtain ⟨_, e_, h⟩ := z_nn_spec h
  refine x_objInit hC hZ e_ t_176 ⟨t_32, t_33⟩ hl.1 d_AckBook_Claim_init_1 (by rw [hRt.1]; decide) (by rw [hRt.2]; first | exact Nat.le_of_ble_eq_true rfl | simp [z_rfc, z_ci, z_cj]) ?_
  refine x_aload_n hC d_AckBook_Claim_init_4 rfl (lv_at hl 0 rfl) ?_
  refine lv_bipush (v := (64 : Int32)) hC.1 hC.2.1 d_AckBook_Claim_init_5 (by decide) ?_
  refine x_newaJ hC hZ h t_154 d_AckBook_Claim_init_7 (fun a1 w H cells slots hZ h => ?_)
  refine x_putF hC hZ zc6 h (by decide) t_177 (fun _ h9 => h9) rfl hnm rfl rfl (z_rfnA _ _) (z_rffA _ _) d_AckBook_Claim_init_9 (fun w H locs hZ h => ?_)
  refine x_aload_n hC d_AckBook_Claim_init_12 rfl (lv_at hl 0 rfl) ?_
  refine lv_bipush (v := (64 : Int32)) hC.1 hC.2.1 d_AckBook_Claim_init_13 (by decide) ?_
  refine x_newaJ hC hZ h t_154 d_AckBook_Claim_init_15 (fun a2 w H cells slots hZ h => ?_)
  refine x_putF hC hZ zc6 h (by decide) t_178 (fun _ h9 => h9) rfl hnm rfl rfl (z_rfnA _ _) (z_rffA _ _) d_AckBook_Claim_init_17 (fun w H locs hZ h => ?_)
  exact x_vret hC hRc hRs hZ hr h d_AckBook_Claim_init_20
def f_AckBook_Way_init (F : Nat) (a0 : Option Nat) (w : zW) : zR :=
  z_nn a0 <|
  z_put w 7 0 a0 (.int (800 : Int32)) fun w =>
  z_put w 7 1 a0 (.int (200 : Int32)) fun w =>
  z_put w 7 3 a0 (.int (-1 : Int32)) fun w =>
  z_put w 7 4 a0 (.int (-1 : Int32)) fun w =>
  some (.inl none, w)
set_option maxHeartbeats 4000000 in
set_option maxRecDepth 100000 in
theorem k_AckBook_Way_init {b0 : Nat} {H0 : Heap} {D : va_G} {ZS : List (String × String × String × Value)} {l : Launch} (hT : z_TB (zGG b0 H0 D ZS)) (hfl : l.flags = pinnedFlags ++ [noTraceFlag]) {a0 : Option Nat} (F : Nat) {w : zW} (res : zO × zW) (h : f_AckBook_Way_init F a0 w = some res) : z_Ct (zGG b0 H0 D ZS) l y_AckBook_Way_init (.code y_AckBook_Way_init c_AckBook_Way_init 1 (none)) 1 24 [va_rf a0] w res := by
  refine z_ct hT hfl (by decide) (by simp only [z_sl_i, z_sl_j, z_sl_r, z_sl_n]; decide) ?_
  intro p e R s m args below meth c hC hr hRc hRs hRt hnm hFr H ls hZ hl
  simp only [z_la_i, z_la_j, z_la_r, z_la_n] at hl
  have hl : lv_has ls 1 [(0, va_rf a0)] := hl
  unfold f_AckBook_Way_init at h
  refine x_aload_n hC d_AckBook_Way_init_0 rfl (lv_at hl 0 rfl) ?_
  obtain ⟨_, e_, h⟩ := z_nn_spec h
  refine x_objInit hC hZ e_ t_196 ⟨t_32, t_33⟩ hl.1 d_AckBook_Way_init_1 (by rw [hRt.1]; decide) (by rw [hRt.2]; first | exact Nat.le_of_ble_eq_true rfl | simp [z_rfc, z_ci, z_cj]) ?_
  refine x_aload_n hC d_AckBook_Way_init_4 rfl (lv_at hl 0 rfl) ?_
  refine lv_sipush (v := (800 : Int32)) hC.1 hC.2.1 d_AckBook_Way_init_5 (by decide) ?_
  refine x_put hC hZ zc7 h (by decide) t_197 (fun _ h9 => h9) rfl rfl rfl rfl d_AckBook_Way_init_8 (fun w H locs hZ h => ?_)
  refine x_aload_n hC d_AckBook_Way_init_11 rfl (lv_at hl 0 rfl) ?_
  refine lv_sipush (v := (200 : Int32)) hC.1 hC.2.1 d_AckBook_Way_init_12 (by decide) ?_
  refine x_put hC hZ zc7 h (by decide) t_199 (fun _ h9 => h9) rfl rfl rfl rfl d_AckBook_Way_init_15 (fun w H locs hZ h => ?_)
  refine x_aload_n hC d_AckBook_Way_init_18 rfl (lv_at hl 0 rfl) ?_
  refine lv_iconst (v := (-1 : Int32)) hC.1 hC.2.1 d_AckBook_Way_init_19 (by decide) ?_
  refine x_put hC hZ zc7 h (by decide) t_203 (fun _ h9 => h9) rfl rfl rfl rfl d_AckBook_Way_init_20 (fun w H locs hZ h => ?_)
  refine x_aload_n hC d_AckBook_Way_init_23 rfl (lv_at hl 0 rfl) ?_
  refine lv_iconst (v := (-1 : Int32)) hC.1 hC.2.1 d_AckBook_Way_init_24 (by decide) ?_
  refine x_put hC hZ zc7 h (by decide) t_205 (fun _ h9 => h9) rfl rfl rfl rfl d_AckBook_Way_init_25 (fun w H locs hZ h => ?_)
  exact x_vret hC hRc hRs hZ hr h d_AckBook_Way_init_28
def f_AckBook_Flow_init (F : Nat) (a0 : Option Nat) (w : zW) : zR :=
  z_nn a0 <|
  z_put w 8 1 a0 (.int (12000 : Int32)) fun w =>
  z_put w 8 2 a0 (.int (-1 : Int32)) fun w =>
  z_put w 8 3 a0 (.int (-1 : Int32)) fun w =>
  some (.inl none, w)
set_option maxHeartbeats 4000000 in
set_option maxRecDepth 100000 in
theorem k_AckBook_Flow_init {b0 : Nat} {H0 : Heap} {D : va_G} {ZS : List (String × String × String × Value)} {l : Launch} (hT : z_TB (zGG b0 H0 D ZS)) (hfl : l.flags = pinnedFlags ++ [noTraceFlag]) {a0 : Option Nat} (F : Nat) {w : zW} (res : zO × zW) (h : f_AckBook_Flow_init F a0 w = some res) : z_Ct (zGG b0 H0 D ZS) l y_AckBook_Flow_init (.code y_AckBook_Flow_init c_AckBook_Flow_init 1 (none)) 1 24 [va_rf a0] w res := by
  refine z_ct hT hfl (by decide) (by simp only [z_sl_i, z_sl_j, z_sl_r, z_sl_n]; decide) ?_
  intro p e R s m args below meth c hC hr hRc hRs hRt hnm hFr H ls hZ hl
  simp only [z_la_i, z_la_j, z_la_r, z_la_n] at hl
  have hl : lv_has ls 1 [(0, va_rf a0)] := hl
  unfold f_AckBook_Flow_init at h
  refine x_aload_n hC d_AckBook_Flow_init_0 rfl (lv_at hl 0 rfl) ?_
  obtain ⟨_, e_, h⟩ := z_nn_spec h
  refine x_objInit hC hZ e_ t_223 ⟨t_32, t_33⟩ hl.1 d_AckBook_Flow_init_1 (by rw [hRt.1]; decide) (by rw [hRt.2]; first | exact Nat.le_of_ble_eq_true rfl | simp [z_rfc, z_ci, z_cj]) ?_
  refine x_aload_n hC d_AckBook_Flow_init_4 rfl (lv_at hl 0 rfl) ?_
  refine lv_sipush (v := (12000 : Int32)) hC.1 hC.2.1 d_AckBook_Flow_init_5 (by decide) ?_
  refine x_put hC hZ zc8 h (by decide) t_226 (fun _ h9 => h9) rfl rfl rfl rfl d_AckBook_Flow_init_8 (fun w H locs hZ h => ?_)
  refine x_aload_n hC d_AckBook_Flow_init_11 rfl (lv_at hl 0 rfl) ?_
  refine lv_iconst (v := (-1 : Int32)) hC.1 hC.2.1 d_AckBook_Flow_init_12 (by decide) ?_
  refine x_put hC hZ zc8 h (by decide) t_228 (fun _ h9 => h9) rfl rfl rfl rfl d_AckBook_Flow_init_13 (fun w H locs hZ h => ?_)
  refine x_aload_n hC d_AckBook_Flow_init_16 rfl (lv_at hl 0 rfl) ?_
  refine lv_iconst (v := (-1 : Int32)) hC.1 hC.2.1 d_AckBook_Flow_init_17 (by decide) ?_
  refine x_put hC hZ zc8 h (by decide) t_230 (fun _ h9 => h9) rfl rfl rfl rfl d_AckBook_Flow_init_18 (fun w H locs hZ h => ?_)
  exact x_vret hC hRc hRs hZ hr h d_AckBook_Flow_init_21
def f_AckBook_Way_patience (F : Nat) (a0 : Option Nat) (w : zW) : zR :=
  z_getI w 7 0 a0 fun v1 =>
  z_getI w 7 1 a0 fun v2 =>
  some (.inl (some (.int ((v1 / (8 : Int32)) + (if v2 < (1 : Int32) then (1 : Int32) else v2)))), w)
set_option maxHeartbeats 4000000 in
set_option maxRecDepth 100000 in
theorem k_AckBook_Way_patience {b0 : Nat} {H0 : Heap} {D : va_G} {ZS : List (String × String × String × Value)} {l : Launch} (hT : z_TB (zGG b0 H0 D ZS)) (hfl : l.flags = pinnedFlags ++ [noTraceFlag]) {a0 : Option Nat} (F : Nat) {w : zW} (res : zO × zW) (h : f_AckBook_Way_patience F a0 w = some res) : z_Ct (zGG b0 H0 D ZS) l y_AckBook_Way_patience (.code y_AckBook_Way_patience c_AckBook_Way_patience 1 (some FieldType.int)) 1 24 [va_rf a0] w res := by
  refine z_ct hT hfl (by decide) (by simp only [z_sl_i, z_sl_j, z_sl_r, z_sl_n]; decide) ?_
  intro p e R s m args below meth c hC hr hRc hRs hRt hnm hFr H ls hZ hl
  simp only [z_la_i, z_la_j, z_la_r, z_la_n] at hl
  have hl : lv_has ls 1 [(0, va_rf a0)] := hl
  unfold f_AckBook_Way_patience at h
  refine x_aload_n hC d_AckBook_Way_patience_0 rfl (lv_at hl 0 rfl) ?_
  refine x_getI hC hZ zc7 h (by decide) t_197 (fun _ h9 => h9) d_AckBook_Way_patience_1 (fun v1 h => ?_)
  refine lv_bipush (v := (8 : Int32)) hC.1 hC.2.1 d_AckBook_Way_patience_4 (by decide) ?_
  refine lv_idiv hC.1 hC.2.1 d_AckBook_Way_patience_6 (by decide) ?_
  refine x_aload_n hC d_AckBook_Way_patience_7 rfl (lv_at hl 0 rfl) ?_
  refine x_getI hC hZ zc7 h (by decide) t_199 (fun _ h9 => h9) d_AckBook_Way_patience_8 (fun v2 h => ?_)
  refine lv_iconst (v := (1 : Int32)) hC.1 hC.2.1 d_AckBook_Way_patience_11 (by decide) ?_
  refine va_mmax hC.1 hC.2.1 (hC.2.2.1.trans hl.1.symm) hC.2.2.2.1 ((hZ.1.tb hC.2.2.2.2.2.2 args) _ t_289) ((hZ.1.tb hC.2.2.2.2.2.2 args) _ t_290) ((hZ.1.tb hC.2.2.2.2.2.2 args) _ t_20) ((hZ.1.tb hC.2.2.2.2.2.2 args) _ t_291) (by rw [hRt.1]; decide) (by rw [hRt.2]; first | exact Nat.le_of_ble_eq_true rfl | simp [z_rfc, z_ci, z_cj]) (hZ.2.2.1 ▸ Nat.le_add_right _ _) (hZ.2.2.2 ▸ Nat.le_add_right _ _) d_AckBook_Way_patience_12 ?_
  refine lv_iadd hC.1 hC.2.1 d_AckBook_Way_patience_15 ?_
  exact x_iret hC hRc hRs hZ hr rfl h d_AckBook_Way_patience_16
def f_AckBook_Way_limit (F : Nat) (a0 : Option Nat) (w : zW) : zR :=
  z_getI w 7 0 a0 fun v1 =>
  z_getI w 7 2 a0 fun v2 =>
  some (.inl (some (.int (if (((9 : Int32) * (if (v1 / (8 : Int32)) < v2 then v2 else (v1 / (8 : Int32)))) / (8 : Int32)) < (1 : Int32) then (1 : Int32) else (((9 : Int32) * (if (v1 / (8 : Int32)) < v2 then v2 else (v1 / (8 : Int32)))) / (8 : Int32))))), w)
set_option maxHeartbeats 4000000 in
set_option maxRecDepth 100000 in
theorem k_AckBook_Way_limit {b0 : Nat} {H0 : Heap} {D : va_G} {ZS : List (String × String × String × Value)} {l : Launch} (hT : z_TB (zGG b0 H0 D ZS)) (hfl : l.flags = pinnedFlags ++ [noTraceFlag]) {a0 : Option Nat} (F : Nat) {w : zW} (res : zO × zW) (h : f_AckBook_Way_limit F a0 w = some res) : z_Ct (zGG b0 H0 D ZS) l y_AckBook_Way_limit (.code y_AckBook_Way_limit c_AckBook_Way_limit 1 (some FieldType.int)) 1 24 [va_rf a0] w res := by
  refine z_ct hT hfl (by decide) (by simp only [z_sl_i, z_sl_j, z_sl_r, z_sl_n]; decide) ?_
  intro p e R s m args below meth c hC hr hRc hRs hRt hnm hFr H ls hZ hl
  simp only [z_la_i, z_la_j, z_la_r, z_la_n] at hl
  have hl : lv_has ls 1 [(0, va_rf a0)] := hl
  unfold f_AckBook_Way_limit at h
  refine lv_bipush (v := (9 : Int32)) hC.1 hC.2.1 d_AckBook_Way_limit_0 (by decide) ?_
  refine x_aload_n hC d_AckBook_Way_limit_2 rfl (lv_at hl 0 rfl) ?_
  refine x_getI hC hZ zc7 h (by decide) t_197 (fun _ h9 => h9) d_AckBook_Way_limit_3 (fun v1 h => ?_)
  refine lv_bipush (v := (8 : Int32)) hC.1 hC.2.1 d_AckBook_Way_limit_6 (by decide) ?_
  refine lv_idiv hC.1 hC.2.1 d_AckBook_Way_limit_8 (by decide) ?_
  refine x_aload_n hC d_AckBook_Way_limit_9 rfl (lv_at hl 0 rfl) ?_
  refine x_getI hC hZ zc7 h (by decide) t_201 (fun _ h9 => h9) d_AckBook_Way_limit_10 (fun v2 h => ?_)
  refine va_mmax hC.1 hC.2.1 (hC.2.2.1.trans hl.1.symm) hC.2.2.2.1 ((hZ.1.tb hC.2.2.2.2.2.2 args) _ t_289) ((hZ.1.tb hC.2.2.2.2.2.2 args) _ t_290) ((hZ.1.tb hC.2.2.2.2.2.2 args) _ t_20) ((hZ.1.tb hC.2.2.2.2.2.2 args) _ t_291) (by rw [hRt.1]; decide) (by rw [hRt.2]; first | exact Nat.le_of_ble_eq_true rfl | simp [z_rfc, z_ci, z_cj]) (hZ.2.2.1 ▸ Nat.le_add_right _ _) (hZ.2.2.2 ▸ Nat.le_add_right _ _) d_AckBook_Way_limit_13 ?_
  refine lv_imul hC.1 hC.2.1 d_AckBook_Way_limit_16 ?_
  refine lv_bipush (v := (8 : Int32)) hC.1 hC.2.1 d_AckBook_Way_limit_17 (by decide) ?_
  refine lv_idiv hC.1 hC.2.1 d_AckBook_Way_limit_19 (by decide) ?_
  refine lv_iconst (v := (1 : Int32)) hC.1 hC.2.1 d_AckBook_Way_limit_20 (by decide) ?_
  refine va_mmax hC.1 hC.2.1 (hC.2.2.1.trans hl.1.symm) hC.2.2.2.1 ((hZ.1.tb hC.2.2.2.2.2.2 args) _ t_289) ((hZ.1.tb hC.2.2.2.2.2.2 args) _ t_290) ((hZ.1.tb hC.2.2.2.2.2.2 args) _ t_20) ((hZ.1.tb hC.2.2.2.2.2.2 args) _ t_291) (by rw [hRt.1]; decide) (by rw [hRt.2]; first | exact Nat.le_of_ble_eq_true rfl | simp [z_rfc, z_ci, z_cj]) (hZ.2.2.1 ▸ Nat.le_add_right _ _) (hZ.2.2.2 ▸ Nat.le_add_right _ _) d_AckBook_Way_limit_21 ?_
  exact x_iret hC hRc hRs hZ hr rfl h d_AckBook_Way_limit_24
def f_AckBook_Chain_append (F : Nat) (a0 : Option Nat) (pR1 : Option Nat) (w : zW) : zR :=
  z_getR w 3 0 a0 fun r1 =>
  if r1 = none then (
    z_put w 3 0 a0 (va_rf pR1) fun w =>
    z_put w 3 1 a0 (va_rf pR1) fun w =>
    some (.inl none, w))
  else (
    z_getR w 3 1 a0 fun r2 =>
    if r2 = none then (
      z_put w 3 0 a0 (va_rf pR1) fun w =>
      z_put w 3 1 a0 (va_rf pR1) fun w =>
      some (.inl none, w))
    else (
      z_getR w 3 1 a0 fun r3 =>
      z_put w 9 7 r3 (va_rf pR1) fun w =>
      z_put w 3 1 a0 (va_rf pR1) fun w =>
      some (.inl none, w)))
set_option maxHeartbeats 4000000 in
set_option maxRecDepth 100000 in
theorem k_AckBook_Chain_append {b0 : Nat} {H0 : Heap} {D : va_G} {ZS : List (String × String × String × Value)} {l : Launch} (hT : z_TB (zGG b0 H0 D ZS)) (hfl : l.flags = pinnedFlags ++ [noTraceFlag]) {a0 : Option Nat} {pR1 : Option Nat} (F : Nat) {w : zW} (res : zO × zW) (h : f_AckBook_Chain_append F a0 pR1 w = some res) : z_Ct (zGG b0 H0 D ZS) l y_AckBook_Chain_append (.code y_AckBook_Chain_append c_AckBook_Chain_append 2 (none)) 0 0 [va_rf a0, va_rf pR1] w res := by
  refine z_ct hT hfl (by decide) (by simp only [z_sl_i, z_sl_j, z_sl_r, z_sl_n]; decide) ?_
  intro p e R s m args below meth c hC hr hRc hRs hRt hnm hFr H ls hZ hl
  simp only [z_la_i, z_la_j, z_la_r, z_la_n] at hl
  have hl : lv_has ls 2 [(0, va_rf a0), (1, va_rf pR1)] := hl
  unfold f_AckBook_Chain_append at h
  refine x_aload_n hC d_AckBook_Chain_append_0 rfl (lv_at hl 0 rfl) ?_
  refine x_getR hC hZ zc3 h (by decide) t_53 (fun _ h9 => h9) d_AckBook_Chain_append_1 (fun r1 h => ?_)
  refine x_ifnull (tgt := 14) hC d_AckBook_Chain_append_4 (by decide) (fun hc => ?_) (fun hc => ?_)
  · have h := z_ifp hc h
    refine x_aload_n hC d_AckBook_Chain_append_14 rfl (lv_at hl 0 rfl) ?_
    refine x_aload_n hC d_AckBook_Chain_append_15 rfl (lv_at hl 1 rfl) ?_
    refine x_put hC hZ zc3 h (by decide) t_53 (fun _ h9 => h9) rfl rfl (z_rfn _ _) (z_rff _ _) d_AckBook_Chain_append_16 (fun w H locs hZ h => ?_)
    refine lv_goto (tgt := 30) hC.1 hC.2.1 d_AckBook_Chain_append_19 (by decide) ?_
    refine x_aload_n hC d_AckBook_Chain_append_30 rfl (lv_at hl 0 rfl) ?_
    refine x_aload_n hC d_AckBook_Chain_append_31 rfl (lv_at hl 1 rfl) ?_
    refine x_put hC hZ zc3 h (by decide) t_54 (fun _ h9 => h9) rfl rfl (z_rfn _ _) (z_rff _ _) d_AckBook_Chain_append_32 (fun w H locs hZ h => ?_)
    exact x_vret hC hRc hRs hZ hr h d_AckBook_Chain_append_35
  · have h := z_ifn hc h
    refine x_aload_n hC d_AckBook_Chain_append_7 rfl (lv_at hl 0 rfl) ?_
    refine x_getR hC hZ zc3 h (by decide) t_54 (fun _ h9 => h9) d_AckBook_Chain_append_8 (fun r2 h => ?_)
    refine x_ifnonnull (tgt := 22) hC d_AckBook_Chain_append_11 (by decide) (fun hc => ?_) (fun hc => ?_)
    · have h := z_ifn hc h
      refine x_aload_n hC d_AckBook_Chain_append_22 rfl (lv_at hl 0 rfl) ?_
      refine x_getR hC hZ zc3 h (by decide) t_54 (fun _ h9 => h9) d_AckBook_Chain_append_23 (fun r3 h => ?_)
      refine x_aload_n hC d_AckBook_Chain_append_26 rfl (lv_at hl 1 rfl) ?_
      refine x_put hC hZ zc9 h (by decide) t_503 (fun _ h9 => h9) rfl rfl (z_rfn _ _) (z_rff _ _) d_AckBook_Chain_append_27 (fun w H locs hZ h => ?_)
      refine x_aload_n hC d_AckBook_Chain_append_30 rfl (lv_at hl 0 rfl) ?_
      refine x_aload_n hC d_AckBook_Chain_append_31 rfl (lv_at hl 1 rfl) ?_
      refine x_put hC hZ zc3 h (by decide) t_54 (fun _ h9 => h9) rfl rfl (z_rfn _ _) (z_rff _ _) d_AckBook_Chain_append_32 (fun w H locs hZ h => ?_)
      exact x_vret hC hRc hRs hZ hr h d_AckBook_Chain_append_35
    · have h := z_ifp hc h
      refine x_aload_n hC d_AckBook_Chain_append_14 rfl (lv_at hl 0 rfl) ?_
      refine x_aload_n hC d_AckBook_Chain_append_15 rfl (lv_at hl 1 rfl) ?_
      refine x_put hC hZ zc3 h (by decide) t_53 (fun _ h9 => h9) rfl rfl (z_rfn _ _) (z_rff _ _) d_AckBook_Chain_append_16 (fun w H locs hZ h => ?_)
      refine lv_goto (tgt := 30) hC.1 hC.2.1 d_AckBook_Chain_append_19 (by decide) ?_
      refine x_aload_n hC d_AckBook_Chain_append_30 rfl (lv_at hl 0 rfl) ?_
      refine x_aload_n hC d_AckBook_Chain_append_31 rfl (lv_at hl 1 rfl) ?_
      refine x_put hC hZ zc3 h (by decide) t_54 (fun _ h9 => h9) rfl rfl (z_rfn _ _) (z_rff _ _) d_AckBook_Chain_append_32 (fun w H locs hZ h => ?_)
      exact x_vret hC hRc hRs hZ hr h d_AckBook_Chain_append_35
def f_AckBook_Flow_leave (F : Nat) (a0 : Option Nat) (pR1 : Option Nat) (w : zW) : zR :=
  z_getI w 9 4 pR1 fun v1 =>
  if v1 = 0 then (
    some (.inl none, w))
  else (
    z_getI w 8 0 a0 fun v2 =>
    z_getI w 9 1 pR1 fun v3 =>
    z_put w 8 0 a0 (.int (v2 - v3)) fun w =>
    some (.inl none, w))
set_option maxHeartbeats 4000000 in
set_option maxRecDepth 100000 in
theorem k_AckBook_Flow_leave {b0 : Nat} {H0 : Heap} {D : va_G} {ZS : List (String × String × String × Value)} {l : Launch} (hT : z_TB (zGG b0 H0 D ZS)) (hfl : l.flags = pinnedFlags ++ [noTraceFlag]) {a0 : Option Nat} {pR1 : Option Nat} (F : Nat) {w : zW} (res : zO × zW) (h : f_AckBook_Flow_leave F a0 pR1 w = some res) : z_Ct (zGG b0 H0 D ZS) l y_AckBook_Flow_leave (.code y_AckBook_Flow_leave c_AckBook_Flow_leave 2 (none)) 0 0 [va_rf a0, va_rf pR1] w res := by
  refine z_ct hT hfl (by decide) (by simp only [z_sl_i, z_sl_j, z_sl_r, z_sl_n]; decide) ?_
  intro p e R s m args below meth c hC hr hRc hRs hRt hnm hFr H ls hZ hl
  simp only [z_la_i, z_la_j, z_la_r, z_la_n] at hl
  have hl : lv_has ls 2 [(0, va_rf a0), (1, va_rf pR1)] := hl
  unfold f_AckBook_Flow_leave at h
  refine x_aload_n hC d_AckBook_Flow_leave_0 rfl (lv_at hl 1 rfl) ?_
  refine x_getI hC hZ zc9 h (by decide) t_498 (fun _ h9 => h9) d_AckBook_Flow_leave_1 (fun v1 h => ?_)
  refine lv_if_eq (tgt := 20) hC.1 hC.2.1 d_AckBook_Flow_leave_4 (by decide) (fun hc => ?_) (fun hc => ?_)
  · have h := z_ifp hc h
    exact x_vret hC hRc hRs hZ hr h d_AckBook_Flow_leave_20
  · have h := z_ifn hc h
    refine x_aload_n hC d_AckBook_Flow_leave_7 rfl (lv_at hl 0 rfl) ?_
    refine lv_dup hC.1 hC.2.1 d_AckBook_Flow_leave_8 (z_rfc _) ?_
    refine x_getI hC hZ zc8 h (by decide) t_224 (fun _ h9 => h9) d_AckBook_Flow_leave_9 (fun v2 h => ?_)
    refine x_aload_n hC d_AckBook_Flow_leave_12 rfl (lv_at hl 1 rfl) ?_
    refine x_getI hC hZ zc9 h (by decide) t_489 (fun _ h9 => h9) d_AckBook_Flow_leave_13 (fun v3 h => ?_)
    refine lv_isub hC.1 hC.2.1 d_AckBook_Flow_leave_16 ?_
    refine x_put hC hZ zc8 h (by decide) t_224 (fun _ h9 => h9) rfl rfl rfl rfl d_AckBook_Flow_leave_17 (fun w H locs hZ h => ?_)
    exact x_vret hC hRc hRs hZ hr h d_AckBook_Flow_leave_20
def f_AckBook_Flow_isAfterRecovery (F : Nat) (a0 : Option Nat) (pR1 : Option Nat) (w : zW) : zR :=
  z_getI w 8 3 a0 fun v1 =>
  if v1 = (-1 : Int32) then (
    some (.inl (some (.int (1 : Int32))), w))
  else (
    z_getI w 9 2 pR1 fun v2 =>
    z_getI w 8 3 a0 fun v3 =>
    if v2 ≤ v3 then (
      some (.inl (some (.int (0 : Int32))), w))
    else (
      some (.inl (some (.int (1 : Int32))), w)))
set_option maxHeartbeats 4000000 in
set_option maxRecDepth 100000 in
theorem k_AckBook_Flow_isAfterRecovery {b0 : Nat} {H0 : Heap} {D : va_G} {ZS : List (String × String × String × Value)} {l : Launch} (hT : z_TB (zGG b0 H0 D ZS)) (hfl : l.flags = pinnedFlags ++ [noTraceFlag]) {a0 : Option Nat} {pR1 : Option Nat} (F : Nat) {w : zW} (res : zO × zW) (h : f_AckBook_Flow_isAfterRecovery F a0 pR1 w = some res) : z_Ct (zGG b0 H0 D ZS) l y_AckBook_Flow_isAfterRecovery (.code y_AckBook_Flow_isAfterRecovery c_AckBook_Flow_isAfterRecovery 2 (some FieldType.boolean)) 0 0 [va_rf a0, va_rf pR1] w res := by
  refine z_ct hT hfl (by decide) (by simp only [z_sl_i, z_sl_j, z_sl_r, z_sl_n]; decide) ?_
  intro p e R s m args below meth c hC hr hRc hRs hRt hnm hFr H ls hZ hl
  simp only [z_la_i, z_la_j, z_la_r, z_la_n] at hl
  have hl : lv_has ls 2 [(0, va_rf a0), (1, va_rf pR1)] := hl
  unfold f_AckBook_Flow_isAfterRecovery at h
  refine x_aload_n hC d_AckBook_Flow_isAfterRecovery_0 rfl (lv_at hl 0 rfl) ?_
  refine x_getI hC hZ zc8 h (by decide) t_230 (fun _ h9 => h9) d_AckBook_Flow_isAfterRecovery_1 (fun v1 h => ?_)
  refine lv_iconst (v := (-1 : Int32)) hC.1 hC.2.1 d_AckBook_Flow_isAfterRecovery_4 (by decide) ?_
  refine lv_icmp_eq (tgt := 19) hC.1 hC.2.1 d_AckBook_Flow_isAfterRecovery_5 (by decide) (fun hc => ?_) (fun hc => ?_)
  · have h := z_ifp hc h
    refine lv_iconst (v := (1 : Int32)) hC.1 hC.2.1 d_AckBook_Flow_isAfterRecovery_19 (by decide) ?_
    refine lv_goto (tgt := 24) hC.1 hC.2.1 d_AckBook_Flow_isAfterRecovery_20 (by decide) ?_
    exact x_iret hC hRc hRs hZ hr rfl h d_AckBook_Flow_isAfterRecovery_24
  · have h := z_ifn hc h
    refine x_aload_n hC d_AckBook_Flow_isAfterRecovery_8 rfl (lv_at hl 1 rfl) ?_
    refine x_getI hC hZ zc9 h (by decide) t_492 (fun _ h9 => h9) d_AckBook_Flow_isAfterRecovery_9 (fun v2 h => ?_)
    refine x_aload_n hC d_AckBook_Flow_isAfterRecovery_12 rfl (lv_at hl 0 rfl) ?_
    refine x_getI hC hZ zc8 h (by decide) t_230 (fun _ h9 => h9) d_AckBook_Flow_isAfterRecovery_13 (fun v3 h => ?_)
    refine lv_icmp_le (tgt := 23) hC.1 hC.2.1 d_AckBook_Flow_isAfterRecovery_16 (by decide) (fun hc => ?_) (fun hc => ?_)
    · have h := z_ifp hc h
      refine lv_iconst (v := (0 : Int32)) hC.1 hC.2.1 d_AckBook_Flow_isAfterRecovery_23 (by decide) ?_
      exact x_iret hC hRc hRs hZ hr rfl h d_AckBook_Flow_isAfterRecovery_24
    · have h := z_ifn hc h
      refine lv_iconst (v := (1 : Int32)) hC.1 hC.2.1 d_AckBook_Flow_isAfterRecovery_19 (by decide) ?_
      refine lv_goto (tgt := 24) hC.1 hC.2.1 d_AckBook_Flow_isAfterRecovery_20 (by decide) ?_
      exact x_iret hC hRc hRs hZ hr rfl h d_AckBook_Flow_isAfterRecovery_24
def j_AckBook_Flow_leaveLost (F : Nat) : Nat → Option Nat → Int32 → Int32 → Option Nat → zW → zR
  | 0, _, _, _, _, _ => none
  | N + 1, rL0, xL2, xL3, rL4, w =>
    if rL4 = none then (
      if xL3 = 0 then (
        some (.inl none, w))
      else (
        z_put w 8 3 rL0 (.int xL2) fun w =>
        z_getI w 8 1 rL0 fun v1 =>
        z_put w 8 2 rL0 (.int (v1 / (2 : Int32))) fun w =>
        z_getI w 8 2 rL0 fun v2 =>
        z_put w 8 1 rL0 (.int (if v2 < (2400 : Int32) then (2400 : Int32) else v2)) fun w =>
        some (.inl none, w)))
    else (
      z_this w 8 rL0 <|
      z_cV (f_AckBook_Flow_leave F rL0 rL4 w) fun w =>
      if xL3 = 0 then (
        z_getI w 9 4 rL4 fun v4 =>
        if v4 = 0 then (
          z_getR w 9 7 rL4 fun r5 =>
          j_AckBook_Flow_leaveLost F N rL0 xL2 (0 : Int32) r5 w)
        else (
          z_this w 8 rL0 <|
          z_cI (f_AckBook_Flow_isAfterRecovery F rL0 rL4 w) fun v7 w =>
          if v7 = 0 then (
            z_getR w 9 7 rL4 fun r8 =>
            j_AckBook_Flow_leaveLost F N rL0 xL2 (0 : Int32) r8 w)
          else (
            z_getR w 9 7 rL4 fun r9 =>
            j_AckBook_Flow_leaveLost F N rL0 xL2 (1 : Int32) r9 w)))
      else (
        z_getR w 9 7 rL4 fun r10 =>
        j_AckBook_Flow_leaveLost F N rL0 xL2 (1 : Int32) r10 w))
def f_AckBook_Flow_leaveLost (F : Nat) (a0 : Option Nat) (pR1 : Option Nat) (pI2 : Int32) (w : zW) : zR :=
  j_AckBook_Flow_leaveLost F F a0 pI2 (0 : Int32) pR1 w
set_option maxHeartbeats 4000000 in
set_option maxRecDepth 100000 in
theorem kj_AckBook_Flow_leaveLost {b0 : Nat} {H0 : Heap} {D : va_G} {ZS : List (String × String × String × Value)} {l : Launch} (hT : z_TB (zGG b0 H0 D ZS)) (hfl : l.flags = pinnedFlags ++ [noTraceFlag]) {p : Program} {e : Env} {R : Room} {s : State} {m : MethodId} {args : Array Value} {below : List Frame} {meth : Method} {c : Code} {w0 : zW} {F : Nat} (hC : z_C (zGG b0 H0 D ZS) p e s m meth c c_AckBook_Flow_leaveLost 5 y_AckBook_Flow_leaveLost.cls) (hr : meth.sig.returnType = (none)) (hRc : R.cells = w0.2.1) (hRs : R.slots = w0.2.2.1) (hFr : c.exceptionTable.toList = []) (hRt : R.frames = 1 ∧ R.locals = 24) (hnm : meth.name = y_AckBook_Flow_leaveLost.name) : ∀ N : Nat, (∀ (rL0 : Option Nat) (xL2 : Int32) (xL3 : Int32) (rL4 : Option Nat) (w : zW) (res : zO × zW), j_AckBook_Flow_leaveLost F N rL0 xL2 xL3 rL4 w = some res → ∀ (H : Heap) (locs : List Loc) (cells slots : Nat) (ls : Array Slot), z_Z (zGG b0 H0 D ZS) R s w H locs cells slots → lv_has ls 5 [(0, va_rf rL0), (2, .int xL2), (3, .int xL3), (4, va_rf rL4)] → W p l e R s m args below meth c H locs cells slots (z_Q (zGG b0 H0 D ZS) below s w0 res) (F0 m 5 ls [])) := by
  intro N
  induction N with
  | zero =>
    intro rL0 xL2 xL3 rL4 w res h
    rw [j_AckBook_Flow_leaveLost] at h
    cases h
  | succ N ih =>
    intro rL0 xL2 xL3 rL4 w res h H locs cells slots ls hZ hl
    rw [j_AckBook_Flow_leaveLost] at h
    refine x_aload hC d_AckBook_Flow_leaveLost_5 (lv_at hl 3 rfl) ?_
    refine x_ifnull (tgt := 53) hC d_AckBook_Flow_leaveLost_7 (by decide) (fun hc => ?_) (fun hc => ?_)
    · have h := z_ifp hc h
      refine lv_iload_n hC.1 hC.2.1 d_AckBook_Flow_leaveLost_53 rfl (lv_at hl 2 rfl) ?_
      refine lv_if_eq (tgt := 86) hC.1 hC.2.1 d_AckBook_Flow_leaveLost_54 (by decide) (fun hc => ?_) (fun hc => ?_)
      · have h := z_ifp hc h
        exact x_vret hC hRc hRs hZ hr h d_AckBook_Flow_leaveLost_86
      · have h := z_ifn hc h
        refine x_aload_n hC d_AckBook_Flow_leaveLost_57 rfl (lv_at hl 0 rfl) ?_
        refine lv_iload_n hC.1 hC.2.1 d_AckBook_Flow_leaveLost_58 rfl (lv_at hl 1 rfl) ?_
        refine x_put hC hZ zc8 h (by decide) t_230 (fun _ h9 => h9) rfl rfl rfl rfl d_AckBook_Flow_leaveLost_59 (fun w H locs hZ h => ?_)
        refine x_aload_n hC d_AckBook_Flow_leaveLost_62 rfl (lv_at hl 0 rfl) ?_
        refine x_aload_n hC d_AckBook_Flow_leaveLost_63 rfl (lv_at hl 0 rfl) ?_
        refine x_getI hC hZ zc8 h (by decide) t_226 (fun _ h9 => h9) d_AckBook_Flow_leaveLost_64 (fun v1 h => ?_)
        refine lv_iconst (v := (2 : Int32)) hC.1 hC.2.1 d_AckBook_Flow_leaveLost_67 (by decide) ?_
        refine lv_idiv hC.1 hC.2.1 d_AckBook_Flow_leaveLost_68 (by decide) ?_
        refine x_put hC hZ zc8 h (by decide) t_228 (fun _ h9 => h9) rfl rfl rfl rfl d_AckBook_Flow_leaveLost_69 (fun w H locs hZ h => ?_)
        refine x_aload_n hC d_AckBook_Flow_leaveLost_72 rfl (lv_at hl 0 rfl) ?_
        refine x_aload_n hC d_AckBook_Flow_leaveLost_73 rfl (lv_at hl 0 rfl) ?_
        refine x_getI hC hZ zc8 h (by decide) t_228 (fun _ h9 => h9) d_AckBook_Flow_leaveLost_74 (fun v2 h => ?_)
        refine lv_sipush (v := (2400 : Int32)) hC.1 hC.2.1 d_AckBook_Flow_leaveLost_77 (by decide) ?_
        refine va_mmax hC.1 hC.2.1 (hC.2.2.1.trans hl.1.symm) hC.2.2.2.1 ((hZ.1.tb hC.2.2.2.2.2.2 args) _ t_347) ((hZ.1.tb hC.2.2.2.2.2.2 args) _ t_290) ((hZ.1.tb hC.2.2.2.2.2.2 args) _ t_20) ((hZ.1.tb hC.2.2.2.2.2.2 args) _ t_291) (by rw [hRt.1]; decide) (by rw [hRt.2]; first | exact Nat.le_of_ble_eq_true rfl | simp [z_rfc, z_ci, z_cj]) (hZ.2.2.1 ▸ Nat.le_add_right _ _) (hZ.2.2.2 ▸ Nat.le_add_right _ _) d_AckBook_Flow_leaveLost_80 ?_
        refine x_put hC hZ zc8 h (by decide) t_226 (fun _ h9 => h9) rfl rfl rfl rfl d_AckBook_Flow_leaveLost_83 (fun w H locs hZ h => ?_)
        exact x_vret hC hRc hRs hZ hr h d_AckBook_Flow_leaveLost_86
    · have h := z_ifn hc h
      refine x_aload_n hC d_AckBook_Flow_leaveLost_10 rfl (lv_at hl 0 rfl) ?_
      refine x_aload hC d_AckBook_Flow_leaveLost_11 (lv_at hl 3 rfl) ?_
      obtain ⟨a_, fs_, eo_, h⟩ := z_this_spec h
      obtain ⟨w1_, o1_, hF_, ha_⟩ := z_cV_spec h
      refine x_goes hC hRc hRs hFr ha_ (z_goV (As := [va_rf rL4]) hC hZ zc8 eo_ (k_AckBook_Flow_leave hT hfl _ _ hF_) t_339 t_340 t_341 t_11 t_342 ⟨by decide, by decide, (by decide +kernel : (parseMethodDescriptor y_AckBook_Flow_leave.desc).map (fun d => d.parameters.length) = some 1)⟩ (by rw [hRt.1]; decide) (by rw [hRt.2]; decide) hl.1 rfl (by first | exact Nat.le_of_ble_eq_true rfl | simp [z_rfc, z_ci, z_cj]) d_AckBook_Flow_leaveLost_13) (fun v_ hv H locs cells slots hZ => ?_)
      obtain ⟨rfl, h⟩ := hv
      generalize w1_ = w at h hZ
      refine lv_iload_n hC.1 hC.2.1 d_AckBook_Flow_leaveLost_16 rfl (lv_at hl 2 rfl) ?_
      refine lv_if_ne (tgt := 37) hC.1 hC.2.1 d_AckBook_Flow_leaveLost_17 (by decide) (fun hc => ?_) (fun hc => ?_)
      · have h := z_ifn hc h
        refine lv_iconst (v := (1 : Int32)) hC.1 hC.2.1 d_AckBook_Flow_leaveLost_37 (by decide) ?_
        refine lv_goto (tgt := 42) hC.1 hC.2.1 d_AckBook_Flow_leaveLost_38 (by decide) ?_
        refine lv_istore_n (lv' := [(3, .int (1 : Int32)), (0, va_rf rL0), (2, .int xL2), (4, va_rf rL4)]) hC.1 hC.2.1 d_AckBook_Flow_leaveLost_42 rfl hl (by decide) (by first | rfl | simp [z_rfc, z_ci, z_cj]) (fun ls hl => ?_)
        refine x_aload hC d_AckBook_Flow_leaveLost_43 (lv_at hl 3 rfl) ?_
        refine x_getR hC hZ zc9 h (by decide) t_504 (fun _ h9 => h9) d_AckBook_Flow_leaveLost_45 (fun r10 h => ?_)
        refine x_astore (lv' := [(4, va_rf r10), (3, .int (1 : Int32)), (0, va_rf rL0), (2, .int xL2)]) hC d_AckBook_Flow_leaveLost_48 hl (by decide) (by first | rfl | simp [z_rfc, z_ci, z_cj]) (fun ls hl => ?_)
        refine lv_goto (tgt := 5) hC.1 hC.2.1 d_AckBook_Flow_leaveLost_50 (by decide) ?_
        exact ih _ _ _ _ _ _ h _ _ _ _ _ hZ (lv_sub hl [2, 3, 1, 0] rfl)
      · have h := z_ifp hc h
        refine x_aload hC d_AckBook_Flow_leaveLost_20 (lv_at hl 3 rfl) ?_
        refine x_getI hC hZ zc9 h (by decide) t_498 (fun _ h9 => h9) d_AckBook_Flow_leaveLost_22 (fun v4 h => ?_)
        refine lv_if_eq (tgt := 41) hC.1 hC.2.1 d_AckBook_Flow_leaveLost_25 (by decide) (fun hc => ?_) (fun hc => ?_)
        · have h := z_ifp hc h
          refine lv_iconst (v := (0 : Int32)) hC.1 hC.2.1 d_AckBook_Flow_leaveLost_41 (by decide) ?_
          refine lv_istore_n (lv' := [(3, .int (0 : Int32)), (0, va_rf rL0), (2, .int xL2), (4, va_rf rL4)]) hC.1 hC.2.1 d_AckBook_Flow_leaveLost_42 rfl hl (by decide) (by first | rfl | simp [z_rfc, z_ci, z_cj]) (fun ls hl => ?_)
          refine x_aload hC d_AckBook_Flow_leaveLost_43 (lv_at hl 3 rfl) ?_
          refine x_getR hC hZ zc9 h (by decide) t_504 (fun _ h9 => h9) d_AckBook_Flow_leaveLost_45 (fun r5 h => ?_)
          refine x_astore (lv' := [(4, va_rf r5), (3, .int (0 : Int32)), (0, va_rf rL0), (2, .int xL2)]) hC d_AckBook_Flow_leaveLost_48 hl (by decide) (by first | rfl | simp [z_rfc, z_ci, z_cj]) (fun ls hl => ?_)
          refine lv_goto (tgt := 5) hC.1 hC.2.1 d_AckBook_Flow_leaveLost_50 (by decide) ?_
          exact ih _ _ _ _ _ _ h _ _ _ _ _ hZ (lv_sub hl [2, 3, 1, 0] rfl)
        · have h := z_ifn hc h
          refine x_aload_n hC d_AckBook_Flow_leaveLost_28 rfl (lv_at hl 0 rfl) ?_
          refine x_aload hC d_AckBook_Flow_leaveLost_29 (lv_at hl 3 rfl) ?_
          obtain ⟨a_, fs_, eo_, h⟩ := z_this_spec h
          obtain ⟨w1_, o1_, hF_, ha_⟩ := z_cI_spec h
          refine x_goes hC hRc hRs hFr ha_ (z_goV (As := [va_rf rL4]) hC hZ zc8 eo_ (k_AckBook_Flow_isAfterRecovery hT hfl _ _ hF_) t_343 t_345 ts_AckBook_Flow_isAfterRecovery t_11 t_346 ⟨by decide, by decide, (by decide +kernel : (parseMethodDescriptor y_AckBook_Flow_isAfterRecovery.desc).map (fun d => d.parameters.length) = some 1)⟩ (by rw [hRt.1]; decide) (by rw [hRt.2]; decide) hl.1 rfl (by first | exact Nat.le_of_ble_eq_true rfl | simp [z_rfc, z_ci, z_cj]) d_AckBook_Flow_leaveLost_31) (fun v_ hv H locs cells slots hZ => ?_)
          obtain ⟨v7, rfl, h⟩ := hv
          generalize w1_ = w at h hZ
          refine lv_if_eq (tgt := 41) hC.1 hC.2.1 d_AckBook_Flow_leaveLost_34 (by decide) (fun hc => ?_) (fun hc => ?_)
          · have h := z_ifp hc h
            refine lv_iconst (v := (0 : Int32)) hC.1 hC.2.1 d_AckBook_Flow_leaveLost_41 (by decide) ?_
            refine lv_istore_n (lv' := [(3, .int (0 : Int32)), (0, va_rf rL0), (2, .int xL2), (4, va_rf rL4)]) hC.1 hC.2.1 d_AckBook_Flow_leaveLost_42 rfl hl (by decide) (by first | rfl | simp [z_rfc, z_ci, z_cj]) (fun ls hl => ?_)
            refine x_aload hC d_AckBook_Flow_leaveLost_43 (lv_at hl 3 rfl) ?_
            refine x_getR hC hZ zc9 h (by decide) t_504 (fun _ h9 => h9) d_AckBook_Flow_leaveLost_45 (fun r8 h => ?_)
            refine x_astore (lv' := [(4, va_rf r8), (3, .int (0 : Int32)), (0, va_rf rL0), (2, .int xL2)]) hC d_AckBook_Flow_leaveLost_48 hl (by decide) (by first | rfl | simp [z_rfc, z_ci, z_cj]) (fun ls hl => ?_)
            refine lv_goto (tgt := 5) hC.1 hC.2.1 d_AckBook_Flow_leaveLost_50 (by decide) ?_
            exact ih _ _ _ _ _ _ h _ _ _ _ _ hZ (lv_sub hl [2, 3, 1, 0] rfl)
          · have h := z_ifn hc h
            refine lv_iconst (v := (1 : Int32)) hC.1 hC.2.1 d_AckBook_Flow_leaveLost_37 (by decide) ?_
            refine lv_goto (tgt := 42) hC.1 hC.2.1 d_AckBook_Flow_leaveLost_38 (by decide) ?_
            refine lv_istore_n (lv' := [(3, .int (1 : Int32)), (0, va_rf rL0), (2, .int xL2), (4, va_rf rL4)]) hC.1 hC.2.1 d_AckBook_Flow_leaveLost_42 rfl hl (by decide) (by first | rfl | simp [z_rfc, z_ci, z_cj]) (fun ls hl => ?_)
            refine x_aload hC d_AckBook_Flow_leaveLost_43 (lv_at hl 3 rfl) ?_
            refine x_getR hC hZ zc9 h (by decide) t_504 (fun _ h9 => h9) d_AckBook_Flow_leaveLost_45 (fun r9 h => ?_)
            refine x_astore (lv' := [(4, va_rf r9), (3, .int (1 : Int32)), (0, va_rf rL0), (2, .int xL2)]) hC d_AckBook_Flow_leaveLost_48 hl (by decide) (by first | rfl | simp [z_rfc, z_ci, z_cj]) (fun ls hl => ?_)
            refine lv_goto (tgt := 5) hC.1 hC.2.1 d_AckBook_Flow_leaveLost_50 (by decide) ?_
            exact ih _ _ _ _ _ _ h _ _ _ _ _ hZ (lv_sub hl [2, 3, 1, 0] rfl)
set_option maxHeartbeats 4000000 in
set_option maxRecDepth 100000 in
theorem k_AckBook_Flow_leaveLost {b0 : Nat} {H0 : Heap} {D : va_G} {ZS : List (String × String × String × Value)} {l : Launch} (hT : z_TB (zGG b0 H0 D ZS)) (hfl : l.flags = pinnedFlags ++ [noTraceFlag]) {a0 : Option Nat} {pR1 : Option Nat} {pI2 : Int32} (F : Nat) {w : zW} (res : zO × zW) (h : f_AckBook_Flow_leaveLost F a0 pR1 pI2 w = some res) : z_Ct (zGG b0 H0 D ZS) l y_AckBook_Flow_leaveLost (.code y_AckBook_Flow_leaveLost c_AckBook_Flow_leaveLost 5 (none)) 1 24 [va_rf a0, va_rf pR1, .int pI2] w res := by
  refine z_ct hT hfl (by decide) (by simp only [z_sl_i, z_sl_j, z_sl_r, z_sl_n]; decide) ?_
  intro p e R s m args below meth c hC hr hRc hRs hRt hnm hFr H ls hZ hl
  simp only [z_la_i, z_la_j, z_la_r, z_la_n] at hl
  have hl : lv_has ls 5 [(0, va_rf a0), (1, va_rf pR1), (2, .int pI2)] := hl
  unfold f_AckBook_Flow_leaveLost at h
  refine lv_iconst (v := (0 : Int32)) hC.1 hC.2.1 d_AckBook_Flow_leaveLost_0 (by decide) ?_
  refine lv_istore_n (lv' := [(3, .int (0 : Int32)), (0, va_rf a0), (1, va_rf pR1), (2, .int pI2)]) hC.1 hC.2.1 d_AckBook_Flow_leaveLost_1 rfl hl (by decide) (by first | rfl | simp [z_rfc, z_ci, z_cj]) (fun ls hl => ?_)
  refine x_aload_n hC d_AckBook_Flow_leaveLost_2 rfl (lv_at hl 2 rfl) ?_
  refine x_astore (lv' := [(4, va_rf pR1), (3, .int (0 : Int32)), (0, va_rf a0), (1, va_rf pR1), (2, .int pI2)]) hC d_AckBook_Flow_leaveLost_3 hl (by decide) (by first | rfl | simp [z_rfc, z_ci, z_cj]) (fun ls hl => ?_)
  exact (kj_AckBook_Flow_leaveLost hT hfl hC hr hRc hRs hFr hRt hnm F) _ _ _ _ _ _ h _ _ _ _ _ hZ (lv_sub hl [2, 4, 1, 0] rfl)
def f_AckBook_Flow_collapse (F : Nat) (a0 : Option Nat) (w : zW) : zR :=
  z_put w 8 1 a0 (.int (2400 : Int32)) fun w =>
  z_put w 8 3 a0 (.int (-1 : Int32)) fun w =>
  some (.inl none, w)
set_option maxHeartbeats 4000000 in
set_option maxRecDepth 100000 in
theorem k_AckBook_Flow_collapse {b0 : Nat} {H0 : Heap} {D : va_G} {ZS : List (String × String × String × Value)} {l : Launch} (hT : z_TB (zGG b0 H0 D ZS)) (hfl : l.flags = pinnedFlags ++ [noTraceFlag]) {a0 : Option Nat} (F : Nat) {w : zW} (res : zO × zW) (h : f_AckBook_Flow_collapse F a0 w = some res) : z_Ct (zGG b0 H0 D ZS) l y_AckBook_Flow_collapse (.code y_AckBook_Flow_collapse c_AckBook_Flow_collapse 1 (none)) 0 0 [va_rf a0] w res := by
  refine z_ct hT hfl (by decide) (by simp only [z_sl_i, z_sl_j, z_sl_r, z_sl_n]; decide) ?_
  intro p e R s m args below meth c hC hr hRc hRs hRt hnm hFr H ls hZ hl
  simp only [z_la_i, z_la_j, z_la_r, z_la_n] at hl
  have hl : lv_has ls 1 [(0, va_rf a0)] := hl
  unfold f_AckBook_Flow_collapse at h
  refine x_aload_n hC d_AckBook_Flow_collapse_0 rfl (lv_at hl 0 rfl) ?_
  refine lv_sipush (v := (2400 : Int32)) hC.1 hC.2.1 d_AckBook_Flow_collapse_1 (by decide) ?_
  refine x_put hC hZ zc8 h (by decide) t_226 (fun _ h9 => h9) rfl rfl rfl rfl d_AckBook_Flow_collapse_4 (fun w H locs hZ h => ?_)
  refine x_aload_n hC d_AckBook_Flow_collapse_7 rfl (lv_at hl 0 rfl) ?_
  refine lv_iconst (v := (-1 : Int32)) hC.1 hC.2.1 d_AckBook_Flow_collapse_8 (by decide) ?_
  refine x_put hC hZ zc8 h (by decide) t_230 (fun _ h9 => h9) rfl rfl rfl rfl d_AckBook_Flow_collapse_9 (fun w H locs hZ h => ?_)
  exact x_vret hC hRc hRs hZ hr h d_AckBook_Flow_collapse_12
def f_AckBook_Packet_init (F : Nat) (a0 : Option Nat) (pI1 : Int32) (pI2 : Int32) (pI3 : Int32) (pI4 : Int32) (pI5 : Int32) (w : zW) : zR :=
  z_nn a0 <|
  z_put w 9 0 a0 (.int pI1) fun w =>
  z_put w 9 1 a0 (.int pI2) fun w =>
  z_put w 9 2 a0 (.int pI3) fun w =>
  z_putZ w 9 3 a0 pI4 fun w =>
  z_putZ w 9 4 a0 pI5 fun w =>
  z_put w 9 6 a0 (.int (0 : Int32)) fun w =>
  some (.inl none, w)
set_option maxHeartbeats 4000000 in
set_option maxRecDepth 100000 in
theorem k_AckBook_Packet_init {b0 : Nat} {H0 : Heap} {D : va_G} {ZS : List (String × String × String × Value)} {l : Launch} (hT : z_TB (zGG b0 H0 D ZS)) (hfl : l.flags = pinnedFlags ++ [noTraceFlag]) {a0 : Option Nat} {pI1 : Int32} {pI2 : Int32} {pI3 : Int32} {pI4 : Int32} {pI5 : Int32} (F : Nat) {w : zW} (res : zO × zW) (h : f_AckBook_Packet_init F a0 pI1 pI2 pI3 pI4 pI5 w = some res) : z_Ct (zGG b0 H0 D ZS) l y_AckBook_Packet_init (.code y_AckBook_Packet_init c_AckBook_Packet_init 6 (none)) 1 24 [va_rf a0, .int pI1, .int pI2, .int pI3, .int pI4, .int pI5] w res := by
  refine z_ct hT hfl (by decide) (by simp only [z_sl_i, z_sl_j, z_sl_r, z_sl_n]; decide) ?_
  intro p e R s m args below meth c hC hr hRc hRs hRt hnm hFr H ls hZ hl
  simp only [z_la_i, z_la_j, z_la_r, z_la_n] at hl
  have hl : lv_has ls 6 [(0, va_rf a0), (1, .int pI1), (2, .int pI2), (3, .int pI3), (4, .int pI4), (5, .int pI5)] := hl
  unfold f_AckBook_Packet_init at h
  refine x_aload_n hC d_AckBook_Packet_init_0 rfl (lv_at hl 0 rfl) ?_
  obtain ⟨_, e_, h⟩ := z_nn_spec h
  refine x_objInit hC hZ e_ t_483 ⟨t_32, t_33⟩ hl.1 d_AckBook_Packet_init_1 (by rw [hRt.1]; decide) (by rw [hRt.2]; first | exact Nat.le_of_ble_eq_true rfl | simp [z_rfc, z_ci, z_cj]) ?_
  refine x_aload_n hC d_AckBook_Packet_init_4 rfl (lv_at hl 0 rfl) ?_
  refine lv_iload_n hC.1 hC.2.1 d_AckBook_Packet_init_5 rfl (lv_at hl 1 rfl) ?_
  refine x_putF hC hZ zc9 h (by decide) t_484 (fun _ h9 => h9) rfl hnm rfl rfl rfl rfl d_AckBook_Packet_init_6 (fun w H locs hZ h => ?_)
  refine x_aload_n hC d_AckBook_Packet_init_9 rfl (lv_at hl 0 rfl) ?_
  refine lv_iload_n hC.1 hC.2.1 d_AckBook_Packet_init_10 rfl (lv_at hl 2 rfl) ?_
  refine x_putF hC hZ zc9 h (by decide) t_488 (fun _ h9 => h9) rfl hnm rfl rfl rfl rfl d_AckBook_Packet_init_11 (fun w H locs hZ h => ?_)
  refine x_aload_n hC d_AckBook_Packet_init_14 rfl (lv_at hl 0 rfl) ?_
  refine lv_iload_n hC.1 hC.2.1 d_AckBook_Packet_init_15 rfl (lv_at hl 3 rfl) ?_
  refine x_putF hC hZ zc9 h (by decide) t_490 (fun _ h9 => h9) rfl hnm rfl rfl rfl rfl d_AckBook_Packet_init_16 (fun w H locs hZ h => ?_)
  refine x_aload_n hC d_AckBook_Packet_init_19 rfl (lv_at hl 0 rfl) ?_
  refine lv_iload hC.1 hC.2.1 d_AckBook_Packet_init_20 (lv_at hl 4 rfl) ?_
  refine x_putZF hC hZ zc9 h (by decide) t_494 (fun _ h9 => h9) rfl hnm rfl rfl d_AckBook_Packet_init_22 (fun w H locs hZ h => ?_)
  refine x_aload_n hC d_AckBook_Packet_init_25 rfl (lv_at hl 0 rfl) ?_
  refine lv_iload hC.1 hC.2.1 d_AckBook_Packet_init_26 (lv_at hl 5 rfl) ?_
  refine x_putZF hC hZ zc9 h (by decide) t_497 (fun _ h9 => h9) rfl hnm rfl rfl d_AckBook_Packet_init_28 (fun w H locs hZ h => ?_)
  refine x_aload_n hC d_AckBook_Packet_init_31 rfl (lv_at hl 0 rfl) ?_
  refine lv_iconst (v := (0 : Int32)) hC.1 hC.2.1 d_AckBook_Packet_init_32 (by decide) ?_
  refine x_put hC hZ zc9 h (by decide) t_500 (fun _ h9 => h9) rfl rfl rfl rfl d_AckBook_Packet_init_33 (fun w H locs hZ h => ?_)
  exact x_vret hC hRc hRs hZ hr h d_AckBook_Packet_init_36
def f_AckBook_Flow_enter (F : Nat) (a0 : Option Nat) (pR1 : Option Nat) (w : zW) : zR :=
  z_getI w 9 4 pR1 fun v1 =>
  if v1 = 0 then (
    z_getI w 8 0 a0 fun v2 =>
    z_getI w 8 1 a0 fun v3 =>
    if v2 ≤ (v3 - (1200 : Int32)) then (
      z_putZ w 9 5 pR1 (0 : Int32) fun w =>
      some (.inl none, w))
    else (
      z_putZ w 9 5 pR1 (1 : Int32) fun w =>
      some (.inl none, w)))
  else (
    z_getI w 8 0 a0 fun v4 =>
    z_getI w 9 1 pR1 fun v5 =>
    z_put w 8 0 a0 (.int (v4 + v5)) fun w =>
    z_getI w 8 0 a0 fun v6 =>
    z_getI w 8 1 a0 fun v7 =>
    if v6 ≤ (v7 - (1200 : Int32)) then (
      z_putZ w 9 5 pR1 (0 : Int32) fun w =>
      some (.inl none, w))
    else (
      z_putZ w 9 5 pR1 (1 : Int32) fun w =>
      some (.inl none, w)))
set_option maxHeartbeats 4000000 in
set_option maxRecDepth 100000 in
theorem k_AckBook_Flow_enter {b0 : Nat} {H0 : Heap} {D : va_G} {ZS : List (String × String × String × Value)} {l : Launch} (hT : z_TB (zGG b0 H0 D ZS)) (hfl : l.flags = pinnedFlags ++ [noTraceFlag]) {a0 : Option Nat} {pR1 : Option Nat} (F : Nat) {w : zW} (res : zO × zW) (h : f_AckBook_Flow_enter F a0 pR1 w = some res) : z_Ct (zGG b0 H0 D ZS) l y_AckBook_Flow_enter (.code y_AckBook_Flow_enter c_AckBook_Flow_enter 2 (none)) 0 0 [va_rf a0, va_rf pR1] w res := by
  refine z_ct hT hfl (by decide) (by simp only [z_sl_i, z_sl_j, z_sl_r, z_sl_n]; decide) ?_
  intro p e R s m args below meth c hC hr hRc hRs hRt hnm hFr H ls hZ hl
  simp only [z_la_i, z_la_j, z_la_r, z_la_n] at hl
  have hl : lv_has ls 2 [(0, va_rf a0), (1, va_rf pR1)] := hl
  unfold f_AckBook_Flow_enter at h
  refine x_aload_n hC d_AckBook_Flow_enter_0 rfl (lv_at hl 1 rfl) ?_
  refine x_getI hC hZ zc9 h (by decide) t_498 (fun _ h9 => h9) d_AckBook_Flow_enter_1 (fun v1 h => ?_)
  refine lv_if_eq (tgt := 20) hC.1 hC.2.1 d_AckBook_Flow_enter_4 (by decide) (fun hc => ?_) (fun hc => ?_)
  · have h := z_ifp hc h
    refine x_aload_n hC d_AckBook_Flow_enter_20 rfl (lv_at hl 1 rfl) ?_
    refine x_aload_n hC d_AckBook_Flow_enter_21 rfl (lv_at hl 0 rfl) ?_
    refine x_getI hC hZ zc8 h (by decide) t_224 (fun _ h9 => h9) d_AckBook_Flow_enter_22 (fun v2 h => ?_)
    refine x_aload_n hC d_AckBook_Flow_enter_25 rfl (lv_at hl 0 rfl) ?_
    refine x_getI hC hZ zc8 h (by decide) t_226 (fun _ h9 => h9) d_AckBook_Flow_enter_26 (fun v3 h => ?_)
    refine lv_sipush (v := (1200 : Int32)) hC.1 hC.2.1 d_AckBook_Flow_enter_29 (by decide) ?_
    refine lv_isub hC.1 hC.2.1 d_AckBook_Flow_enter_32 ?_
    refine lv_icmp_le (tgt := 40) hC.1 hC.2.1 d_AckBook_Flow_enter_33 (by decide) (fun hc => ?_) (fun hc => ?_)
    · have h := z_ifp hc h
      refine lv_iconst (v := (0 : Int32)) hC.1 hC.2.1 d_AckBook_Flow_enter_40 (by decide) ?_
      refine x_putZ hC hZ zc9 h (by decide) t_499 (fun _ h9 => h9) rfl rfl d_AckBook_Flow_enter_41 (fun w H locs hZ h => ?_)
      exact x_vret hC hRc hRs hZ hr h d_AckBook_Flow_enter_44
    · have h := z_ifn hc h
      refine lv_iconst (v := (1 : Int32)) hC.1 hC.2.1 d_AckBook_Flow_enter_36 (by decide) ?_
      refine lv_goto (tgt := 41) hC.1 hC.2.1 d_AckBook_Flow_enter_37 (by decide) ?_
      refine x_putZ hC hZ zc9 h (by decide) t_499 (fun _ h9 => h9) rfl rfl d_AckBook_Flow_enter_41 (fun w H locs hZ h => ?_)
      exact x_vret hC hRc hRs hZ hr h d_AckBook_Flow_enter_44
  · have h := z_ifn hc h
    refine x_aload_n hC d_AckBook_Flow_enter_7 rfl (lv_at hl 0 rfl) ?_
    refine lv_dup hC.1 hC.2.1 d_AckBook_Flow_enter_8 (z_rfc _) ?_
    refine x_getI hC hZ zc8 h (by decide) t_224 (fun _ h9 => h9) d_AckBook_Flow_enter_9 (fun v4 h => ?_)
    refine x_aload_n hC d_AckBook_Flow_enter_12 rfl (lv_at hl 1 rfl) ?_
    refine x_getI hC hZ zc9 h (by decide) t_489 (fun _ h9 => h9) d_AckBook_Flow_enter_13 (fun v5 h => ?_)
    refine lv_iadd hC.1 hC.2.1 d_AckBook_Flow_enter_16 ?_
    refine x_put hC hZ zc8 h (by decide) t_224 (fun _ h9 => h9) rfl rfl rfl rfl d_AckBook_Flow_enter_17 (fun w H locs hZ h => ?_)
    refine x_aload_n hC d_AckBook_Flow_enter_20 rfl (lv_at hl 1 rfl) ?_
    refine x_aload_n hC d_AckBook_Flow_enter_21 rfl (lv_at hl 0 rfl) ?_
    refine x_getI hC hZ zc8 h (by decide) t_224 (fun _ h9 => h9) d_AckBook_Flow_enter_22 (fun v6 h => ?_)
    refine x_aload_n hC d_AckBook_Flow_enter_25 rfl (lv_at hl 0 rfl) ?_
    refine x_getI hC hZ zc8 h (by decide) t_226 (fun _ h9 => h9) d_AckBook_Flow_enter_26 (fun v7 h => ?_)
    refine lv_sipush (v := (1200 : Int32)) hC.1 hC.2.1 d_AckBook_Flow_enter_29 (by decide) ?_
    refine lv_isub hC.1 hC.2.1 d_AckBook_Flow_enter_32 ?_
    refine lv_icmp_le (tgt := 40) hC.1 hC.2.1 d_AckBook_Flow_enter_33 (by decide) (fun hc => ?_) (fun hc => ?_)
    · have h := z_ifp hc h
      refine lv_iconst (v := (0 : Int32)) hC.1 hC.2.1 d_AckBook_Flow_enter_40 (by decide) ?_
      refine x_putZ hC hZ zc9 h (by decide) t_499 (fun _ h9 => h9) rfl rfl d_AckBook_Flow_enter_41 (fun w H locs hZ h => ?_)
      exact x_vret hC hRc hRs hZ hr h d_AckBook_Flow_enter_44
    · have h := z_ifn hc h
      refine lv_iconst (v := (1 : Int32)) hC.1 hC.2.1 d_AckBook_Flow_enter_36 (by decide) ?_
      refine lv_goto (tgt := 41) hC.1 hC.2.1 d_AckBook_Flow_enter_37 (by decide) ?_
      refine x_putZ hC hZ zc9 h (by decide) t_499 (fun _ h9 => h9) rfl rfl d_AckBook_Flow_enter_41 (fun w H locs hZ h => ?_)
      exact x_vret hC hRc hRs hZ hr h d_AckBook_Flow_enter_44
def f_AckBook_Claim_isBelow (F : Nat) (a0 : Option Nat) (pJ1 : Int64) (w : zW) : zR :=
  z_getI w 6 2 a0 fun v1 =>
  if v1 ≤ 0 then (
    some (.inl (some (.int (1 : Int32))), w))
  else (
    z_getI w 6 2 a0 fun v2 =>
    if v2 ≤ (64 : Int32) then (
      z_getR w 6 0 a0 fun r3 =>
      z_getI w 6 2 a0 fun v4 =>
      z_ldL w r3 (v4 - (1 : Int32)) fun v5 =>
      if 0 ≤ (lg_cmp pJ1 (v5 - (1 : Int64))) then (
        some (.inl (some (.int (0 : Int32))), w))
      else (
        some (.inl (some (.int (1 : Int32))), w)))
    else (
      some (.inl (some (.int (1 : Int32))), w)))
set_option maxHeartbeats 4000000 in
set_option maxRecDepth 100000 in
theorem k_AckBook_Claim_isBelow {b0 : Nat} {H0 : Heap} {D : va_G} {ZS : List (String × String × String × Value)} {l : Launch} (hT : z_TB (zGG b0 H0 D ZS)) (hfl : l.flags = pinnedFlags ++ [noTraceFlag]) {a0 : Option Nat} {pJ1 : Int64} (F : Nat) {w : zW} (res : zO × zW) (h : f_AckBook_Claim_isBelow F a0 pJ1 w = some res) : z_Ct (zGG b0 H0 D ZS) l y_AckBook_Claim_isBelow (.code y_AckBook_Claim_isBelow c_AckBook_Claim_isBelow 3 (some FieldType.boolean)) 0 0 [va_rf a0, .long pJ1] w res := by
  refine z_ct hT hfl (by decide) (by simp only [z_sl_i, z_sl_j, z_sl_r, z_sl_n]; decide) ?_
  intro p e R s m args below meth c hC hr hRc hRs hRt hnm hFr H ls hZ hl
  simp only [z_la_i, z_la_j, z_la_r, z_la_n] at hl
  have hl : lv_has ls 3 [(0, va_rf a0), (1, .long pJ1)] := hl
  unfold f_AckBook_Claim_isBelow at h
  refine x_aload_n hC d_AckBook_Claim_isBelow_0 rfl (lv_at hl 0 rfl) ?_
  refine x_getI hC hZ zc6 h (by decide) t_179 (fun _ h9 => h9) d_AckBook_Claim_isBelow_1 (fun v1 h => ?_)
  refine lv_if_le (tgt := 16) hC.1 hC.2.1 d_AckBook_Claim_isBelow_4 (by decide) (fun hc => ?_) (fun hc => ?_)
  · have h := z_ifp hc h
    refine lv_iconst (v := (1 : Int32)) hC.1 hC.2.1 d_AckBook_Claim_isBelow_16 (by decide) ?_
    exact x_iret hC hRc hRs hZ hr rfl h d_AckBook_Claim_isBelow_17
  · have h := z_ifn hc h
    refine x_aload_n hC d_AckBook_Claim_isBelow_7 rfl (lv_at hl 0 rfl) ?_
    refine x_getI hC hZ zc6 h (by decide) t_179 (fun _ h9 => h9) d_AckBook_Claim_isBelow_8 (fun v2 h => ?_)
    refine lv_bipush (v := (64 : Int32)) hC.1 hC.2.1 d_AckBook_Claim_isBelow_11 (by decide) ?_
    refine lv_icmp_le (tgt := 18) hC.1 hC.2.1 d_AckBook_Claim_isBelow_13 (by decide) (fun hc => ?_) (fun hc => ?_)
    · have h := z_ifp hc h
      refine lv_lload_n hC.1 hC.2.1 d_AckBook_Claim_isBelow_18 rfl (lv_at hl 1 rfl) ?_
      refine x_aload_n hC d_AckBook_Claim_isBelow_19 rfl (lv_at hl 0 rfl) ?_
      refine x_getR hC hZ zc6 h (by decide) t_177 (fun _ h9 => h9) d_AckBook_Claim_isBelow_20 (fun r3 h => ?_)
      refine x_aload_n hC d_AckBook_Claim_isBelow_23 rfl (lv_at hl 0 rfl) ?_
      refine x_getI hC hZ zc6 h (by decide) t_179 (fun _ h9 => h9) d_AckBook_Claim_isBelow_24 (fun v4 h => ?_)
      refine lv_iconst (v := (1 : Int32)) hC.1 hC.2.1 d_AckBook_Claim_isBelow_27 (by decide) ?_
      refine lv_isub hC.1 hC.2.1 d_AckBook_Claim_isBelow_28 ?_
      refine x_ldL hC hZ h d_AckBook_Claim_isBelow_29 (fun v5 h => ?_)
      refine lv_lconst (v := (1 : Int64)) hC.1 hC.2.1 d_AckBook_Claim_isBelow_30 (by decide) ?_
      refine lv_lsub hC.1 hC.2.1 d_AckBook_Claim_isBelow_31 ?_
      refine W.lcmp hC.1 hC.2.1 d_AckBook_Claim_isBelow_32 ?_
      refine lv_if_ge (tgt := 40) hC.1 hC.2.1 d_AckBook_Claim_isBelow_33 (by decide) (fun hc => ?_) (fun hc => ?_)
      · have h := z_ifp hc h
        refine lv_iconst (v := (0 : Int32)) hC.1 hC.2.1 d_AckBook_Claim_isBelow_40 (by decide) ?_
        exact x_iret hC hRc hRs hZ hr rfl h d_AckBook_Claim_isBelow_41
      · have h := z_ifn hc h
        refine lv_iconst (v := (1 : Int32)) hC.1 hC.2.1 d_AckBook_Claim_isBelow_36 (by decide) ?_
        refine lv_goto (tgt := 41) hC.1 hC.2.1 d_AckBook_Claim_isBelow_37 (by decide) ?_
        exact x_iret hC hRc hRs hZ hr rfl h d_AckBook_Claim_isBelow_41
    · have h := z_ifn hc h
      refine lv_iconst (v := (1 : Int32)) hC.1 hC.2.1 d_AckBook_Claim_isBelow_16 (by decide) ?_
      exact x_iret hC hRc hRs hZ hr rfl h d_AckBook_Claim_isBelow_17
def f_AckBook_Claim_isFull (F : Nat) (a0 : Option Nat) (w : zW) : zR :=
  z_getI w 6 2 a0 fun v1 =>
  if v1 < (64 : Int32) then (
    some (.inl (some (.int (0 : Int32))), w))
  else (
    some (.inl (some (.int (1 : Int32))), w))
set_option maxHeartbeats 4000000 in
set_option maxRecDepth 100000 in
theorem k_AckBook_Claim_isFull {b0 : Nat} {H0 : Heap} {D : va_G} {ZS : List (String × String × String × Value)} {l : Launch} (hT : z_TB (zGG b0 H0 D ZS)) (hfl : l.flags = pinnedFlags ++ [noTraceFlag]) {a0 : Option Nat} (F : Nat) {w : zW} (res : zO × zW) (h : f_AckBook_Claim_isFull F a0 w = some res) : z_Ct (zGG b0 H0 D ZS) l y_AckBook_Claim_isFull (.code y_AckBook_Claim_isFull c_AckBook_Claim_isFull 1 (some FieldType.boolean)) 0 0 [va_rf a0] w res := by
  refine z_ct hT hfl (by decide) (by simp only [z_sl_i, z_sl_j, z_sl_r, z_sl_n]; decide) ?_
  intro p e R s m args below meth c hC hr hRc hRs hRt hnm hFr H ls hZ hl
  simp only [z_la_i, z_la_j, z_la_r, z_la_n] at hl
  have hl : lv_has ls 1 [(0, va_rf a0)] := hl
  unfold f_AckBook_Claim_isFull at h
  refine x_aload_n hC d_AckBook_Claim_isFull_0 rfl (lv_at hl 0 rfl) ?_
  refine x_getI hC hZ zc6 h (by decide) t_179 (fun _ h9 => h9) d_AckBook_Claim_isFull_1 (fun v1 h => ?_)
  refine lv_bipush (v := (64 : Int32)) hC.1 hC.2.1 d_AckBook_Claim_isFull_4 (by decide) ?_
  refine lv_icmp_lt (tgt := 13) hC.1 hC.2.1 d_AckBook_Claim_isFull_6 (by decide) (fun hc => ?_) (fun hc => ?_)
  · have h := z_ifp hc h
    refine lv_iconst (v := (0 : Int32)) hC.1 hC.2.1 d_AckBook_Claim_isFull_13 (by decide) ?_
    exact x_iret hC hRc hRs hZ hr rfl h d_AckBook_Claim_isFull_14
  · have h := z_ifn hc h
    refine lv_iconst (v := (1 : Int32)) hC.1 hC.2.1 d_AckBook_Claim_isFull_9 (by decide) ?_
    refine lv_goto (tgt := 14) hC.1 hC.2.1 d_AckBook_Claim_isFull_10 (by decide) ?_
    exact x_iret hC hRc hRs hZ hr rfl h d_AckBook_Claim_isFull_14
def f_AckBook_Claim_add (F : Nat) (a0 : Option Nat) (pJ1 : Int64) (pJ2 : Int64) (w : zW) : zR :=
  z_getI w 6 2 a0 fun v1 =>
  if v1 < 0 then (
    z_getI w 6 2 a0 fun v2 =>
    some (.inl (some (.int v2)), w))
  else (
    z_getI w 6 2 a0 fun v3 =>
    if (64 : Int32) ≤ v3 then (
      z_getI w 6 2 a0 fun v4 =>
      some (.inl (some (.int v4)), w))
    else (
      z_getR w 6 0 a0 fun r5 =>
      z_getI w 6 2 a0 fun v6 =>
      z_stL w r5 v6 pJ1 fun w =>
      z_getR w 6 1 a0 fun r7 =>
      z_getI w 6 2 a0 fun v8 =>
      z_stL w r7 v8 pJ2 fun w =>
      z_getI w 6 2 a0 fun v9 =>
      z_put w 6 2 a0 (.int (v9 + (1 : Int32))) fun w =>
      z_getI w 6 2 a0 fun v10 =>
      some (.inl (some (.int v10)), w)))
set_option maxHeartbeats 4000000 in
set_option maxRecDepth 100000 in
theorem k_AckBook_Claim_add {b0 : Nat} {H0 : Heap} {D : va_G} {ZS : List (String × String × String × Value)} {l : Launch} (hT : z_TB (zGG b0 H0 D ZS)) (hfl : l.flags = pinnedFlags ++ [noTraceFlag]) {a0 : Option Nat} {pJ1 : Int64} {pJ2 : Int64} (F : Nat) {w : zW} (res : zO × zW) (h : f_AckBook_Claim_add F a0 pJ1 pJ2 w = some res) : z_Ct (zGG b0 H0 D ZS) l y_AckBook_Claim_add (.code y_AckBook_Claim_add c_AckBook_Claim_add 5 (some FieldType.int)) 0 0 [va_rf a0, .long pJ1, .long pJ2] w res := by
  refine z_ct hT hfl (by decide) (by simp only [z_sl_i, z_sl_j, z_sl_r, z_sl_n]; decide) ?_
  intro p e R s m args below meth c hC hr hRc hRs hRt hnm hFr H ls hZ hl
  simp only [z_la_i, z_la_j, z_la_r, z_la_n] at hl
  have hl : lv_has ls 5 [(0, va_rf a0), (1, .long pJ1), (3, .long pJ2)] := hl
  unfold f_AckBook_Claim_add at h
  refine x_aload_n hC d_AckBook_Claim_add_0 rfl (lv_at hl 0 rfl) ?_
  refine x_getI hC hZ zc6 h (by decide) t_179 (fun _ h9 => h9) d_AckBook_Claim_add_1 (fun v1 h => ?_)
  refine lv_if_lt (tgt := 46) hC.1 hC.2.1 d_AckBook_Claim_add_4 (by decide) (fun hc => ?_) (fun hc => ?_)
  · have h := z_ifp hc h
    refine x_aload_n hC d_AckBook_Claim_add_46 rfl (lv_at hl 0 rfl) ?_
    refine x_getI hC hZ zc6 h (by decide) t_179 (fun _ h9 => h9) d_AckBook_Claim_add_47 (fun v2 h => ?_)
    exact x_iret hC hRc hRs hZ hr rfl h d_AckBook_Claim_add_50
  · have h := z_ifn hc h
    refine x_aload_n hC d_AckBook_Claim_add_7 rfl (lv_at hl 0 rfl) ?_
    refine x_getI hC hZ zc6 h (by decide) t_179 (fun _ h9 => h9) d_AckBook_Claim_add_8 (fun v3 h => ?_)
    refine lv_bipush (v := (64 : Int32)) hC.1 hC.2.1 d_AckBook_Claim_add_11 (by decide) ?_
    refine lv_icmp_ge (tgt := 46) hC.1 hC.2.1 d_AckBook_Claim_add_13 (by decide) (fun hc => ?_) (fun hc => ?_)
    · have h := z_ifp hc h
      refine x_aload_n hC d_AckBook_Claim_add_46 rfl (lv_at hl 0 rfl) ?_
      refine x_getI hC hZ zc6 h (by decide) t_179 (fun _ h9 => h9) d_AckBook_Claim_add_47 (fun v4 h => ?_)
      exact x_iret hC hRc hRs hZ hr rfl h d_AckBook_Claim_add_50
    · have h := z_ifn hc h
      refine x_aload_n hC d_AckBook_Claim_add_16 rfl (lv_at hl 0 rfl) ?_
      refine x_getR hC hZ zc6 h (by decide) t_177 (fun _ h9 => h9) d_AckBook_Claim_add_17 (fun r5 h => ?_)
      refine x_aload_n hC d_AckBook_Claim_add_20 rfl (lv_at hl 0 rfl) ?_
      refine x_getI hC hZ zc6 h (by decide) t_179 (fun _ h9 => h9) d_AckBook_Claim_add_21 (fun v6 h => ?_)
      refine lv_lload_n hC.1 hC.2.1 d_AckBook_Claim_add_24 rfl (lv_at hl 1 rfl) ?_
      refine x_stL hC hZ h d_AckBook_Claim_add_25 (fun w H locs hZ h => ?_)
      refine x_aload_n hC d_AckBook_Claim_add_26 rfl (lv_at hl 0 rfl) ?_
      refine x_getR hC hZ zc6 h (by decide) t_178 (fun _ h9 => h9) d_AckBook_Claim_add_27 (fun r7 h => ?_)
      refine x_aload_n hC d_AckBook_Claim_add_30 rfl (lv_at hl 0 rfl) ?_
      refine x_getI hC hZ zc6 h (by decide) t_179 (fun _ h9 => h9) d_AckBook_Claim_add_31 (fun v8 h => ?_)
      refine lv_lload_n hC.1 hC.2.1 d_AckBook_Claim_add_34 rfl (lv_at hl 2 rfl) ?_
      refine x_stL hC hZ h d_AckBook_Claim_add_35 (fun w H locs hZ h => ?_)
      refine x_aload_n hC d_AckBook_Claim_add_36 rfl (lv_at hl 0 rfl) ?_
      refine lv_dup hC.1 hC.2.1 d_AckBook_Claim_add_37 (z_rfc _) ?_
      refine x_getI hC hZ zc6 h (by decide) t_179 (fun _ h9 => h9) d_AckBook_Claim_add_38 (fun v9 h => ?_)
      refine lv_iconst (v := (1 : Int32)) hC.1 hC.2.1 d_AckBook_Claim_add_41 (by decide) ?_
      refine lv_iadd hC.1 hC.2.1 d_AckBook_Claim_add_42 ?_
      refine x_put hC hZ zc6 h (by decide) t_179 (fun _ h9 => h9) rfl rfl rfl rfl d_AckBook_Claim_add_43 (fun w H locs hZ h => ?_)
      refine x_aload_n hC d_AckBook_Claim_add_46 rfl (lv_at hl 0 rfl) ?_
      refine x_getI hC hZ zc6 h (by decide) t_179 (fun _ h9 => h9) d_AckBook_Claim_add_47 (fun v10 h => ?_)
      exact x_iret hC hRc hRs hZ hr rfl h d_AckBook_Claim_add_50
def f_AckBook_Claim_close (F : Nat) (a0 : Option Nat) (w : zW) : zR :=
  z_getI w 6 2 a0 fun v1 =>
  z_put w 6 3 a0 (.int v1) fun w =>
  z_put w 6 2 a0 (.int (0 : Int32)) fun w =>
  some (.inl none, w)
set_option maxHeartbeats 4000000 in
set_option maxRecDepth 100000 in
theorem k_AckBook_Claim_close {b0 : Nat} {H0 : Heap} {D : va_G} {ZS : List (String × String × String × Value)} {l : Launch} (hT : z_TB (zGG b0 H0 D ZS)) (hfl : l.flags = pinnedFlags ++ [noTraceFlag]) {a0 : Option Nat} (F : Nat) {w : zW} (res : zO × zW) (h : f_AckBook_Claim_close F a0 w = some res) : z_Ct (zGG b0 H0 D ZS) l y_AckBook_Claim_close (.code y_AckBook_Claim_close c_AckBook_Claim_close 1 (none)) 0 0 [va_rf a0] w res := by
  refine z_ct hT hfl (by decide) (by simp only [z_sl_i, z_sl_j, z_sl_r, z_sl_n]; decide) ?_
  intro p e R s m args below meth c hC hr hRc hRs hRt hnm hFr H ls hZ hl
  simp only [z_la_i, z_la_j, z_la_r, z_la_n] at hl
  have hl : lv_has ls 1 [(0, va_rf a0)] := hl
  unfold f_AckBook_Claim_close at h
  refine x_aload_n hC d_AckBook_Claim_close_0 rfl (lv_at hl 0 rfl) ?_
  refine x_aload_n hC d_AckBook_Claim_close_1 rfl (lv_at hl 0 rfl) ?_
  refine x_getI hC hZ zc6 h (by decide) t_179 (fun _ h9 => h9) d_AckBook_Claim_close_2 (fun v1 h => ?_)
  refine x_put hC hZ zc6 h (by decide) t_180 (fun _ h9 => h9) rfl rfl rfl rfl d_AckBook_Claim_close_5 (fun w H locs hZ h => ?_)
  refine x_aload_n hC d_AckBook_Claim_close_8 rfl (lv_at hl 0 rfl) ?_
  refine lv_iconst (v := (0 : Int32)) hC.1 hC.2.1 d_AckBook_Claim_close_9 (by decide) ?_
  refine x_put hC hZ zc6 h (by decide) t_179 (fun _ h9 => h9) rfl rfl rfl rfl d_AckBook_Claim_close_10 (fun w H locs hZ h => ?_)
  exact x_vret hC hRc hRs hZ hr h d_AckBook_Claim_close_13
def f_AckBook_Claim_greatest (F : Nat) (a0 : Option Nat) (w : zW) : zR :=
  z_getI w 6 3 a0 fun v1 =>
  if v1 = 0 then (
    some (.inl (some (.long (-1 : Int64))), w))
  else (
    z_getR w 6 1 a0 fun r2 =>
    z_ldL w r2 (0 : Int32) fun v3 =>
    some (.inl (some (.long v3)), w))
set_option maxHeartbeats 4000000 in
set_option maxRecDepth 100000 in
theorem k_AckBook_Claim_greatest {b0 : Nat} {H0 : Heap} {D : va_G} {ZS : List (String × String × String × Value)} {l : Launch} (hT : z_TB (zGG b0 H0 D ZS)) (hfl : l.flags = pinnedFlags ++ [noTraceFlag]) {a0 : Option Nat} (F : Nat) {w : zW} (res : zO × zW) (h : f_AckBook_Claim_greatest F a0 w = some res) : z_Ct (zGG b0 H0 D ZS) l y_AckBook_Claim_greatest (.code y_AckBook_Claim_greatest c_AckBook_Claim_greatest 1 (some FieldType.long)) 0 0 [va_rf a0] w res := by
  refine z_ct hT hfl (by decide) (by simp only [z_sl_i, z_sl_j, z_sl_r, z_sl_n]; decide) ?_
  intro p e R s m args below meth c hC hr hRc hRs hRt hnm hFr H ls hZ hl
  simp only [z_la_i, z_la_j, z_la_r, z_la_n] at hl
  have hl : lv_has ls 1 [(0, va_rf a0)] := hl
  unfold f_AckBook_Claim_greatest at h
  refine x_aload_n hC d_AckBook_Claim_greatest_0 rfl (lv_at hl 0 rfl) ?_
  refine x_getI hC hZ zc6 h (by decide) t_180 (fun _ h9 => h9) d_AckBook_Claim_greatest_1 (fun v1 h => ?_)
  refine lv_if_ne (tgt := 13) hC.1 hC.2.1 d_AckBook_Claim_greatest_4 (by decide) (fun hc => ?_) (fun hc => ?_)
  · have h := z_ifn hc h
    refine x_aload_n hC d_AckBook_Claim_greatest_13 rfl (lv_at hl 0 rfl) ?_
    refine x_getR hC hZ zc6 h (by decide) t_178 (fun _ h9 => h9) d_AckBook_Claim_greatest_14 (fun r2 h => ?_)
    refine lv_iconst (v := (0 : Int32)) hC.1 hC.2.1 d_AckBook_Claim_greatest_17 (by decide) ?_
    refine x_ldL hC hZ h d_AckBook_Claim_greatest_18 (fun v3 h => ?_)
    exact x_lret hC hRc hRs hZ hr h d_AckBook_Claim_greatest_19
  · have h := z_ifp hc h
    refine lv_ldc2 (v := (-1 : Int64)) hC.1 hC.2.1 hC.2.2.2.1 ((hZ.1.tb hC.2.2.2.2.2.2 args) _ t_628) d_AckBook_Claim_greatest_7 ?_
    refine lv_goto (tgt := 19) hC.1 hC.2.1 d_AckBook_Claim_greatest_10 (by decide) ?_
    exact x_lret hC hRc hRs hZ hr h d_AckBook_Claim_greatest_19
def f_AckBook_Claim_high (F : Nat) (a0 : Option Nat) (pI1 : Int32) (w : zW) : zR :=
  if pI1 < 0 then (
    some (.inl (some (.long (-1 : Int64))), w))
  else (
    if (64 : Int32) ≤ pI1 then (
      some (.inl (some (.long (-1 : Int64))), w))
    else (
      z_getR w 6 1 a0 fun r1 =>
      z_ldL w r1 pI1 fun v2 =>
      some (.inl (some (.long v2)), w)))
set_option maxHeartbeats 4000000 in
set_option maxRecDepth 100000 in
theorem k_AckBook_Claim_high {b0 : Nat} {H0 : Heap} {D : va_G} {ZS : List (String × String × String × Value)} {l : Launch} (hT : z_TB (zGG b0 H0 D ZS)) (hfl : l.flags = pinnedFlags ++ [noTraceFlag]) {a0 : Option Nat} {pI1 : Int32} (F : Nat) {w : zW} (res : zO × zW) (h : f_AckBook_Claim_high F a0 pI1 w = some res) : z_Ct (zGG b0 H0 D ZS) l y_AckBook_Claim_high (.code y_AckBook_Claim_high c_AckBook_Claim_high 2 (some FieldType.long)) 0 0 [va_rf a0, .int pI1] w res := by
  refine z_ct hT hfl (by decide) (by simp only [z_sl_i, z_sl_j, z_sl_r, z_sl_n]; decide) ?_
  intro p e R s m args below meth c hC hr hRc hRs hRt hnm hFr H ls hZ hl
  simp only [z_la_i, z_la_j, z_la_r, z_la_n] at hl
  have hl : lv_has ls 2 [(0, va_rf a0), (1, .int pI1)] := hl
  unfold f_AckBook_Claim_high at h
  refine lv_iload_n hC.1 hC.2.1 d_AckBook_Claim_high_0 rfl (lv_at hl 1 rfl) ?_
  refine lv_if_lt (tgt := 19) hC.1 hC.2.1 d_AckBook_Claim_high_1 (by decide) (fun hc => ?_) (fun hc => ?_)
  · have h := z_ifp hc h
    refine lv_ldc2 (v := (-1 : Int64)) hC.1 hC.2.1 hC.2.2.2.1 ((hZ.1.tb hC.2.2.2.2.2.2 args) _ t_628) d_AckBook_Claim_high_19 ?_
    exact x_lret hC hRc hRs hZ hr h d_AckBook_Claim_high_22
  · have h := z_ifn hc h
    refine lv_iload_n hC.1 hC.2.1 d_AckBook_Claim_high_4 rfl (lv_at hl 1 rfl) ?_
    refine lv_bipush (v := (64 : Int32)) hC.1 hC.2.1 d_AckBook_Claim_high_5 (by decide) ?_
    refine lv_icmp_ge (tgt := 19) hC.1 hC.2.1 d_AckBook_Claim_high_7 (by decide) (fun hc => ?_) (fun hc => ?_)
    · have h := z_ifp hc h
      refine lv_ldc2 (v := (-1 : Int64)) hC.1 hC.2.1 hC.2.2.2.1 ((hZ.1.tb hC.2.2.2.2.2.2 args) _ t_628) d_AckBook_Claim_high_19 ?_
      exact x_lret hC hRc hRs hZ hr h d_AckBook_Claim_high_22
    · have h := z_ifn hc h
      refine x_aload_n hC d_AckBook_Claim_high_10 rfl (lv_at hl 0 rfl) ?_
      refine x_getR hC hZ zc6 h (by decide) t_178 (fun _ h9 => h9) d_AckBook_Claim_high_11 (fun r1 h => ?_)
      refine lv_iload_n hC.1 hC.2.1 d_AckBook_Claim_high_14 rfl (lv_at hl 1 rfl) ?_
      refine x_ldL hC hZ h d_AckBook_Claim_high_15 (fun v2 h => ?_)
      refine lv_goto (tgt := 22) hC.1 hC.2.1 d_AckBook_Claim_high_16 (by decide) ?_
      exact x_lret hC hRc hRs hZ hr h d_AckBook_Claim_high_22
def f_AckBook_Claim_low (F : Nat) (a0 : Option Nat) (pI1 : Int32) (w : zW) : zR :=
  if pI1 < 0 then (
    some (.inl (some (.long (-1 : Int64))), w))
  else (
    if (64 : Int32) ≤ pI1 then (
      some (.inl (some (.long (-1 : Int64))), w))
    else (
      z_getR w 6 0 a0 fun r1 =>
      z_ldL w r1 pI1 fun v2 =>
      some (.inl (some (.long v2)), w)))
set_option maxHeartbeats 4000000 in
set_option maxRecDepth 100000 in
theorem k_AckBook_Claim_low {b0 : Nat} {H0 : Heap} {D : va_G} {ZS : List (String × String × String × Value)} {l : Launch} (hT : z_TB (zGG b0 H0 D ZS)) (hfl : l.flags = pinnedFlags ++ [noTraceFlag]) {a0 : Option Nat} {pI1 : Int32} (F : Nat) {w : zW} (res : zO × zW) (h : f_AckBook_Claim_low F a0 pI1 w = some res) : z_Ct (zGG b0 H0 D ZS) l y_AckBook_Claim_low (.code y_AckBook_Claim_low c_AckBook_Claim_low 2 (some FieldType.long)) 0 0 [va_rf a0, .int pI1] w res := by
  refine z_ct hT hfl (by decide) (by simp only [z_sl_i, z_sl_j, z_sl_r, z_sl_n]; decide) ?_
  intro p e R s m args below meth c hC hr hRc hRs hRt hnm hFr H ls hZ hl
  simp only [z_la_i, z_la_j, z_la_r, z_la_n] at hl
  have hl : lv_has ls 2 [(0, va_rf a0), (1, .int pI1)] := hl
  unfold f_AckBook_Claim_low at h
  refine lv_iload_n hC.1 hC.2.1 d_AckBook_Claim_low_0 rfl (lv_at hl 1 rfl) ?_
  refine lv_if_lt (tgt := 19) hC.1 hC.2.1 d_AckBook_Claim_low_1 (by decide) (fun hc => ?_) (fun hc => ?_)
  · have h := z_ifp hc h
    refine lv_ldc2 (v := (-1 : Int64)) hC.1 hC.2.1 hC.2.2.2.1 ((hZ.1.tb hC.2.2.2.2.2.2 args) _ t_628) d_AckBook_Claim_low_19 ?_
    exact x_lret hC hRc hRs hZ hr h d_AckBook_Claim_low_22
  · have h := z_ifn hc h
    refine lv_iload_n hC.1 hC.2.1 d_AckBook_Claim_low_4 rfl (lv_at hl 1 rfl) ?_
    refine lv_bipush (v := (64 : Int32)) hC.1 hC.2.1 d_AckBook_Claim_low_5 (by decide) ?_
    refine lv_icmp_ge (tgt := 19) hC.1 hC.2.1 d_AckBook_Claim_low_7 (by decide) (fun hc => ?_) (fun hc => ?_)
    · have h := z_ifp hc h
      refine lv_ldc2 (v := (-1 : Int64)) hC.1 hC.2.1 hC.2.2.2.1 ((hZ.1.tb hC.2.2.2.2.2.2 args) _ t_628) d_AckBook_Claim_low_19 ?_
      exact x_lret hC hRc hRs hZ hr h d_AckBook_Claim_low_22
    · have h := z_ifn hc h
      refine x_aload_n hC d_AckBook_Claim_low_10 rfl (lv_at hl 0 rfl) ?_
      refine x_getR hC hZ zc6 h (by decide) t_177 (fun _ h9 => h9) d_AckBook_Claim_low_11 (fun r1 h => ?_)
      refine lv_iload_n hC.1 hC.2.1 d_AckBook_Claim_low_14 rfl (lv_at hl 1 rfl) ?_
      refine x_ldL hC hZ h d_AckBook_Claim_low_15 (fun v2 h => ?_)
      refine lv_goto (tgt := 22) hC.1 hC.2.1 d_AckBook_Claim_low_16 (by decide) ?_
      exact x_lret hC hRc hRs hZ hr h d_AckBook_Claim_low_22
def f_AckBook_Way_take (F : Nat) (a0 : Option Nat) (pI1 : Int32) (pI2 : Int32) (pI3 : Int32) (w : zW) : zR :=
  z_put w 7 2 a0 (.int pI1) fun w =>
  z_getI w 7 3 a0 fun v1 =>
  if v1 = (-1 : Int32) then (
    z_put w 7 3 a0 (.int pI1) fun w =>
    z_getI w 7 4 a0 fun v2 =>
    if v2 = (-1 : Int32) then (
      z_put w 7 4 a0 (.int pI3) fun w =>
      z_put w 7 0 a0 (.int ((8 : Int32) * pI1)) fun w =>
      z_put w 7 1 a0 (.int ((2 : Int32) * pI1)) fun w =>
      some (.inl none, w))
    else (
      z_getI w 7 3 a0 fun v3 =>
      if pI1 < (v3 + pI2) then (
        z_getI w 7 0 a0 fun v4 =>
        z_getI w 7 1 a0 fun v5 =>
        z_getI w 7 1 a0 fun v6 =>
        z_put w 7 1 a0 (.int (v5 + ((if 0 ≤ ((v4 / (8 : Int32)) - pI1) then ((v4 / (8 : Int32)) - pI1) else 0 - ((v4 / (8 : Int32)) - pI1)) - (v6 / (4 : Int32))))) fun w =>
        z_getI w 7 0 a0 fun v7 =>
        z_getI w 7 0 a0 fun v8 =>
        z_put w 7 0 a0 (.int (v7 + (pI1 - (v8 / (8 : Int32))))) fun w =>
        some (.inl none, w))
      else (
        z_getI w 7 0 a0 fun v9 =>
        z_getI w 7 1 a0 fun v10 =>
        z_getI w 7 1 a0 fun v11 =>
        z_put w 7 1 a0 (.int (v10 + ((if 0 ≤ ((v9 / (8 : Int32)) - (pI1 - pI2)) then ((v9 / (8 : Int32)) - (pI1 - pI2)) else 0 - ((v9 / (8 : Int32)) - (pI1 - pI2))) - (v11 / (4 : Int32))))) fun w =>
        z_getI w 7 0 a0 fun v12 =>
        z_getI w 7 0 a0 fun v13 =>
        z_put w 7 0 a0 (.int (v12 + ((pI1 - pI2) - (v13 / (8 : Int32))))) fun w =>
        some (.inl none, w))))
  else (
    z_getI w 7 3 a0 fun v14 =>
    z_put w 7 3 a0 (.int (if pI1 < v14 then pI1 else v14)) fun w =>
    z_getI w 7 4 a0 fun v15 =>
    if v15 = (-1 : Int32) then (
      z_put w 7 4 a0 (.int pI3) fun w =>
      z_put w 7 0 a0 (.int ((8 : Int32) * pI1)) fun w =>
      z_put w 7 1 a0 (.int ((2 : Int32) * pI1)) fun w =>
      some (.inl none, w))
    else (
      z_getI w 7 3 a0 fun v16 =>
      if pI1 < (v16 + pI2) then (
        z_getI w 7 0 a0 fun v17 =>
        z_getI w 7 1 a0 fun v18 =>
        z_getI w 7 1 a0 fun v19 =>
        z_put w 7 1 a0 (.int (v18 + ((if 0 ≤ ((v17 / (8 : Int32)) - pI1) then ((v17 / (8 : Int32)) - pI1) else 0 - ((v17 / (8 : Int32)) - pI1)) - (v19 / (4 : Int32))))) fun w =>
        z_getI w 7 0 a0 fun v20 =>
        z_getI w 7 0 a0 fun v21 =>
        z_put w 7 0 a0 (.int (v20 + (pI1 - (v21 / (8 : Int32))))) fun w =>
        some (.inl none, w))
      else (
        z_getI w 7 0 a0 fun v22 =>
        z_getI w 7 1 a0 fun v23 =>
        z_getI w 7 1 a0 fun v24 =>
        z_put w 7 1 a0 (.int (v23 + ((if 0 ≤ ((v22 / (8 : Int32)) - (pI1 - pI2)) then ((v22 / (8 : Int32)) - (pI1 - pI2)) else 0 - ((v22 / (8 : Int32)) - (pI1 - pI2))) - (v24 / (4 : Int32))))) fun w =>
        z_getI w 7 0 a0 fun v25 =>
        z_getI w 7 0 a0 fun v26 =>
        z_put w 7 0 a0 (.int (v25 + ((pI1 - pI2) - (v26 / (8 : Int32))))) fun w =>
        some (.inl none, w))))
set_option maxHeartbeats 4000000 in
set_option maxRecDepth 100000 in
theorem k_AckBook_Way_take {b0 : Nat} {H0 : Heap} {D : va_G} {ZS : List (String × String × String × Value)} {l : Launch} (hT : z_TB (zGG b0 H0 D ZS)) (hfl : l.flags = pinnedFlags ++ [noTraceFlag]) {a0 : Option Nat} {pI1 : Int32} {pI2 : Int32} {pI3 : Int32} (F : Nat) {w : zW} (res : zO × zW) (h : f_AckBook_Way_take F a0 pI1 pI2 pI3 w = some res) : z_Ct (zGG b0 H0 D ZS) l y_AckBook_Way_take (.code y_AckBook_Way_take c_AckBook_Way_take 6 (none)) 1 24 [va_rf a0, .int pI1, .int pI2, .int pI3] w res := by
  refine z_ct hT hfl (by decide) (by simp only [z_sl_i, z_sl_j, z_sl_r, z_sl_n]; decide) ?_
  intro p e R s m args below meth c hC hr hRc hRs hRt hnm hFr H ls hZ hl
  simp only [z_la_i, z_la_j, z_la_r, z_la_n] at hl
  have hl : lv_has ls 6 [(0, va_rf a0), (1, .int pI1), (2, .int pI2), (3, .int pI3)] := hl
  unfold f_AckBook_Way_take at h
  refine x_aload_n hC d_AckBook_Way_take_0 rfl (lv_at hl 0 rfl) ?_
  refine lv_iload_n hC.1 hC.2.1 d_AckBook_Way_take_1 rfl (lv_at hl 1 rfl) ?_
  refine x_put hC hZ zc7 h (by decide) t_201 (fun _ h9 => h9) rfl rfl rfl rfl d_AckBook_Way_take_2 (fun w H locs hZ h => ?_)
  refine x_aload_n hC d_AckBook_Way_take_5 rfl (lv_at hl 0 rfl) ?_
  refine x_aload_n hC d_AckBook_Way_take_6 rfl (lv_at hl 0 rfl) ?_
  refine x_getI hC hZ zc7 h (by decide) t_203 (fun _ h9 => h9) d_AckBook_Way_take_7 (fun v1 h => ?_)
  refine lv_iconst (v := (-1 : Int32)) hC.1 hC.2.1 d_AckBook_Way_take_10 (by decide) ?_
  refine lv_icmp_ne (tgt := 18) hC.1 hC.2.1 d_AckBook_Way_take_11 (by decide) (fun hc => ?_) (fun hc => ?_)
  · have h := z_ifn hc h
    refine x_aload_n hC d_AckBook_Way_take_18 rfl (lv_at hl 0 rfl) ?_
    refine x_getI hC hZ zc7 h (by decide) t_203 (fun _ h9 => h9) d_AckBook_Way_take_19 (fun v14 h => ?_)
    refine lv_iload_n hC.1 hC.2.1 d_AckBook_Way_take_22 rfl (lv_at hl 1 rfl) ?_
    refine va_mmin hC.1 hC.2.1 (hC.2.2.1.trans hl.1.symm) hC.2.2.2.1 ((hZ.1.tb hC.2.2.2.2.2.2 args) _ t_666) ((hZ.1.tb hC.2.2.2.2.2.2 args) _ t_361) ((hZ.1.tb hC.2.2.2.2.2.2 args) _ t_20) ((hZ.1.tb hC.2.2.2.2.2.2 args) _ t_362) (by rw [hRt.1]; decide) (by rw [hRt.2]; first | exact Nat.le_of_ble_eq_true rfl | simp [z_rfc, z_ci, z_cj]) (hZ.2.2.1 ▸ Nat.le_add_right _ _) (hZ.2.2.2 ▸ Nat.le_add_right _ _) d_AckBook_Way_take_23 ?_
    refine x_put hC hZ zc7 h (by decide) t_203 (fun _ h9 => h9) rfl rfl rfl rfl d_AckBook_Way_take_26 (fun w H locs hZ h => ?_)
    refine x_aload_n hC d_AckBook_Way_take_29 rfl (lv_at hl 0 rfl) ?_
    refine x_getI hC hZ zc7 h (by decide) t_205 (fun _ h9 => h9) d_AckBook_Way_take_30 (fun v15 h => ?_)
    refine lv_iconst (v := (-1 : Int32)) hC.1 hC.2.1 d_AckBook_Way_take_33 (by decide) ?_
    refine lv_icmp_ne (tgt := 58) hC.1 hC.2.1 d_AckBook_Way_take_34 (by decide) (fun hc => ?_) (fun hc => ?_)
    · have h := z_ifn hc h
      refine lv_iload_n hC.1 hC.2.1 d_AckBook_Way_take_58 rfl (lv_at hl 1 rfl) ?_
      refine x_aload_n hC d_AckBook_Way_take_59 rfl (lv_at hl 0 rfl) ?_
      refine x_getI hC hZ zc7 h (by decide) t_203 (fun _ h9 => h9) d_AckBook_Way_take_60 (fun v16 h => ?_)
      refine lv_iload_n hC.1 hC.2.1 d_AckBook_Way_take_63 rfl (lv_at hl 2 rfl) ?_
      refine lv_iadd hC.1 hC.2.1 d_AckBook_Way_take_64 ?_
      refine lv_icmp_lt (tgt := 74) hC.1 hC.2.1 d_AckBook_Way_take_65 (by decide) (fun hc => ?_) (fun hc => ?_)
      · have h := z_ifp hc h
        refine lv_iload_n hC.1 hC.2.1 d_AckBook_Way_take_74 rfl (lv_at hl 1 rfl) ?_
        refine lv_istore (lv' := [(4, .int pI1), (0, va_rf a0), (1, .int pI1), (2, .int pI2), (3, .int pI3)]) hC.1 hC.2.1 d_AckBook_Way_take_75 hl (by decide) (by first | rfl | simp [z_rfc, z_ci, z_cj]) (fun ls hl => ?_)
        refine x_aload_n hC d_AckBook_Way_take_77 rfl (lv_at hl 1 rfl) ?_
        refine x_getI hC hZ zc7 h (by decide) t_197 (fun _ h9 => h9) d_AckBook_Way_take_78 (fun v17 h => ?_)
        refine lv_bipush (v := (8 : Int32)) hC.1 hC.2.1 d_AckBook_Way_take_81 (by decide) ?_
        refine lv_idiv hC.1 hC.2.1 d_AckBook_Way_take_83 (by decide) ?_
        refine lv_iload hC.1 hC.2.1 d_AckBook_Way_take_84 (lv_at hl 0 rfl) ?_
        refine lv_isub hC.1 hC.2.1 d_AckBook_Way_take_86 ?_
        refine va_mabs hC.1 hC.2.1 (hC.2.2.1.trans hl.1.symm) hC.2.2.2.1 ((hZ.1.tb hC.2.2.2.2.2.2 args) _ t_667) ((hZ.1.tb hC.2.2.2.2.2.2 args) _ t_668) ((hZ.1.tb hC.2.2.2.2.2.2 args) _ t_20) ((hZ.1.tb hC.2.2.2.2.2.2 args) _ t_669) (by rw [hRt.1]; decide) (by rw [hRt.2]; first | exact Nat.le_of_ble_eq_true rfl | simp [z_rfc, z_ci, z_cj]) (hZ.2.2.1 ▸ Nat.le_add_right _ _) (hZ.2.2.2 ▸ Nat.le_add_right _ _) d_AckBook_Way_take_87 ?_
        refine lv_istore (lv' := [(5, .int (if 0 ≤ ((v17 / (8 : Int32)) - pI1) then ((v17 / (8 : Int32)) - pI1) else 0 - ((v17 / (8 : Int32)) - pI1))), (4, .int pI1), (0, va_rf a0), (1, .int pI1), (2, .int pI2), (3, .int pI3)]) hC.1 hC.2.1 d_AckBook_Way_take_90 hl (by decide) (by first | rfl | simp [z_rfc, z_ci, z_cj]) (fun ls hl => ?_)
        refine x_aload_n hC d_AckBook_Way_take_92 rfl (lv_at hl 2 rfl) ?_
        refine lv_dup hC.1 hC.2.1 d_AckBook_Way_take_93 (z_rfc _) ?_
        refine x_getI hC hZ zc7 h (by decide) t_199 (fun _ h9 => h9) d_AckBook_Way_take_94 (fun v18 h => ?_)
        refine lv_iload hC.1 hC.2.1 d_AckBook_Way_take_97 (lv_at hl 0 rfl) ?_
        refine x_aload_n hC d_AckBook_Way_take_99 rfl (lv_at hl 2 rfl) ?_
        refine x_getI hC hZ zc7 h (by decide) t_199 (fun _ h9 => h9) d_AckBook_Way_take_100 (fun v19 h => ?_)
        refine lv_iconst (v := (4 : Int32)) hC.1 hC.2.1 d_AckBook_Way_take_103 (by decide) ?_
        refine lv_idiv hC.1 hC.2.1 d_AckBook_Way_take_104 (by decide) ?_
        refine lv_isub hC.1 hC.2.1 d_AckBook_Way_take_105 ?_
        refine lv_iadd hC.1 hC.2.1 d_AckBook_Way_take_106 ?_
        refine x_put hC hZ zc7 h (by decide) t_199 (fun _ h9 => h9) rfl rfl rfl rfl d_AckBook_Way_take_107 (fun w H locs hZ h => ?_)
        refine x_aload_n hC d_AckBook_Way_take_110 rfl (lv_at hl 2 rfl) ?_
        refine lv_dup hC.1 hC.2.1 d_AckBook_Way_take_111 (z_rfc _) ?_
        refine x_getI hC hZ zc7 h (by decide) t_197 (fun _ h9 => h9) d_AckBook_Way_take_112 (fun v20 h => ?_)
        refine lv_iload hC.1 hC.2.1 d_AckBook_Way_take_115 (lv_at hl 1 rfl) ?_
        refine x_aload_n hC d_AckBook_Way_take_117 rfl (lv_at hl 2 rfl) ?_
        refine x_getI hC hZ zc7 h (by decide) t_197 (fun _ h9 => h9) d_AckBook_Way_take_118 (fun v21 h => ?_)
        refine lv_bipush (v := (8 : Int32)) hC.1 hC.2.1 d_AckBook_Way_take_121 (by decide) ?_
        refine lv_idiv hC.1 hC.2.1 d_AckBook_Way_take_123 (by decide) ?_
        refine lv_isub hC.1 hC.2.1 d_AckBook_Way_take_124 ?_
        refine lv_iadd hC.1 hC.2.1 d_AckBook_Way_take_125 ?_
        refine x_put hC hZ zc7 h (by decide) t_197 (fun _ h9 => h9) rfl rfl rfl rfl d_AckBook_Way_take_126 (fun w H locs hZ h => ?_)
        exact x_vret hC hRc hRs hZ hr h d_AckBook_Way_take_129
      · have h := z_ifn hc h
        refine lv_iload_n hC.1 hC.2.1 d_AckBook_Way_take_68 rfl (lv_at hl 1 rfl) ?_
        refine lv_iload_n hC.1 hC.2.1 d_AckBook_Way_take_69 rfl (lv_at hl 2 rfl) ?_
        refine lv_isub hC.1 hC.2.1 d_AckBook_Way_take_70 ?_
        refine lv_goto (tgt := 75) hC.1 hC.2.1 d_AckBook_Way_take_71 (by decide) ?_
        refine lv_istore (lv' := [(4, .int (pI1 - pI2)), (0, va_rf a0), (1, .int pI1), (2, .int pI2), (3, .int pI3)]) hC.1 hC.2.1 d_AckBook_Way_take_75 hl (by decide) (by first | rfl | simp [z_rfc, z_ci, z_cj]) (fun ls hl => ?_)
        refine x_aload_n hC d_AckBook_Way_take_77 rfl (lv_at hl 1 rfl) ?_
        refine x_getI hC hZ zc7 h (by decide) t_197 (fun _ h9 => h9) d_AckBook_Way_take_78 (fun v22 h => ?_)
        refine lv_bipush (v := (8 : Int32)) hC.1 hC.2.1 d_AckBook_Way_take_81 (by decide) ?_
        refine lv_idiv hC.1 hC.2.1 d_AckBook_Way_take_83 (by decide) ?_
        refine lv_iload hC.1 hC.2.1 d_AckBook_Way_take_84 (lv_at hl 0 rfl) ?_
        refine lv_isub hC.1 hC.2.1 d_AckBook_Way_take_86 ?_
        refine va_mabs hC.1 hC.2.1 (hC.2.2.1.trans hl.1.symm) hC.2.2.2.1 ((hZ.1.tb hC.2.2.2.2.2.2 args) _ t_667) ((hZ.1.tb hC.2.2.2.2.2.2 args) _ t_668) ((hZ.1.tb hC.2.2.2.2.2.2 args) _ t_20) ((hZ.1.tb hC.2.2.2.2.2.2 args) _ t_669) (by rw [hRt.1]; decide) (by rw [hRt.2]; first | exact Nat.le_of_ble_eq_true rfl | simp [z_rfc, z_ci, z_cj]) (hZ.2.2.1 ▸ Nat.le_add_right _ _) (hZ.2.2.2 ▸ Nat.le_add_right _ _) d_AckBook_Way_take_87 ?_
        refine lv_istore (lv' := [(5, .int (if 0 ≤ ((v22 / (8 : Int32)) - (pI1 - pI2)) then ((v22 / (8 : Int32)) - (pI1 - pI2)) else 0 - ((v22 / (8 : Int32)) - (pI1 - pI2)))), (4, .int (pI1 - pI2)), (0, va_rf a0), (1, .int pI1), (2, .int pI2), (3, .int pI3)]) hC.1 hC.2.1 d_AckBook_Way_take_90 hl (by decide) (by first | rfl | simp [z_rfc, z_ci, z_cj]) (fun ls hl => ?_)
        refine x_aload_n hC d_AckBook_Way_take_92 rfl (lv_at hl 2 rfl) ?_
        refine lv_dup hC.1 hC.2.1 d_AckBook_Way_take_93 (z_rfc _) ?_
        refine x_getI hC hZ zc7 h (by decide) t_199 (fun _ h9 => h9) d_AckBook_Way_take_94 (fun v23 h => ?_)
        refine lv_iload hC.1 hC.2.1 d_AckBook_Way_take_97 (lv_at hl 0 rfl) ?_
        refine x_aload_n hC d_AckBook_Way_take_99 rfl (lv_at hl 2 rfl) ?_
        refine x_getI hC hZ zc7 h (by decide) t_199 (fun _ h9 => h9) d_AckBook_Way_take_100 (fun v24 h => ?_)
        refine lv_iconst (v := (4 : Int32)) hC.1 hC.2.1 d_AckBook_Way_take_103 (by decide) ?_
        refine lv_idiv hC.1 hC.2.1 d_AckBook_Way_take_104 (by decide) ?_
        refine lv_isub hC.1 hC.2.1 d_AckBook_Way_take_105 ?_
        refine lv_iadd hC.1 hC.2.1 d_AckBook_Way_take_106 ?_
        refine x_put hC hZ zc7 h (by decide) t_199 (fun _ h9 => h9) rfl rfl rfl rfl d_AckBook_Way_take_107 (fun w H locs hZ h => ?_)
        refine x_aload_n hC d_AckBook_Way_take_110 rfl (lv_at hl 2 rfl) ?_
        refine lv_dup hC.1 hC.2.1 d_AckBook_Way_take_111 (z_rfc _) ?_
        refine x_getI hC hZ zc7 h (by decide) t_197 (fun _ h9 => h9) d_AckBook_Way_take_112 (fun v25 h => ?_)
        refine lv_iload hC.1 hC.2.1 d_AckBook_Way_take_115 (lv_at hl 1 rfl) ?_
        refine x_aload_n hC d_AckBook_Way_take_117 rfl (lv_at hl 2 rfl) ?_
        refine x_getI hC hZ zc7 h (by decide) t_197 (fun _ h9 => h9) d_AckBook_Way_take_118 (fun v26 h => ?_)
        refine lv_bipush (v := (8 : Int32)) hC.1 hC.2.1 d_AckBook_Way_take_121 (by decide) ?_
        refine lv_idiv hC.1 hC.2.1 d_AckBook_Way_take_123 (by decide) ?_
        refine lv_isub hC.1 hC.2.1 d_AckBook_Way_take_124 ?_
        refine lv_iadd hC.1 hC.2.1 d_AckBook_Way_take_125 ?_
        refine x_put hC hZ zc7 h (by decide) t_197 (fun _ h9 => h9) rfl rfl rfl rfl d_AckBook_Way_take_126 (fun w H locs hZ h => ?_)
        exact x_vret hC hRc hRs hZ hr h d_AckBook_Way_take_129
    · have h := z_ifp hc h
      refine x_aload_n hC d_AckBook_Way_take_37 rfl (lv_at hl 0 rfl) ?_
      refine lv_iload_n hC.1 hC.2.1 d_AckBook_Way_take_38 rfl (lv_at hl 3 rfl) ?_
      refine x_put hC hZ zc7 h (by decide) t_205 (fun _ h9 => h9) rfl rfl rfl rfl d_AckBook_Way_take_39 (fun w H locs hZ h => ?_)
      refine x_aload_n hC d_AckBook_Way_take_42 rfl (lv_at hl 0 rfl) ?_
      refine lv_bipush (v := (8 : Int32)) hC.1 hC.2.1 d_AckBook_Way_take_43 (by decide) ?_
      refine lv_iload_n hC.1 hC.2.1 d_AckBook_Way_take_45 rfl (lv_at hl 1 rfl) ?_
      refine lv_imul hC.1 hC.2.1 d_AckBook_Way_take_46 ?_
      refine x_put hC hZ zc7 h (by decide) t_197 (fun _ h9 => h9) rfl rfl rfl rfl d_AckBook_Way_take_47 (fun w H locs hZ h => ?_)
      refine x_aload_n hC d_AckBook_Way_take_50 rfl (lv_at hl 0 rfl) ?_
      refine lv_iconst (v := (2 : Int32)) hC.1 hC.2.1 d_AckBook_Way_take_51 (by decide) ?_
      refine lv_iload_n hC.1 hC.2.1 d_AckBook_Way_take_52 rfl (lv_at hl 1 rfl) ?_
      refine lv_imul hC.1 hC.2.1 d_AckBook_Way_take_53 ?_
      refine x_put hC hZ zc7 h (by decide) t_199 (fun _ h9 => h9) rfl rfl rfl rfl d_AckBook_Way_take_54 (fun w H locs hZ h => ?_)
      exact x_vret hC hRc hRs hZ hr h d_AckBook_Way_take_57
  · have h := z_ifp hc h
    refine lv_iload_n hC.1 hC.2.1 d_AckBook_Way_take_14 rfl (lv_at hl 1 rfl) ?_
    refine lv_goto (tgt := 26) hC.1 hC.2.1 d_AckBook_Way_take_15 (by decide) ?_
    refine x_put hC hZ zc7 h (by decide) t_203 (fun _ h9 => h9) rfl rfl rfl rfl d_AckBook_Way_take_26 (fun w H locs hZ h => ?_)
    refine x_aload_n hC d_AckBook_Way_take_29 rfl (lv_at hl 0 rfl) ?_
    refine x_getI hC hZ zc7 h (by decide) t_205 (fun _ h9 => h9) d_AckBook_Way_take_30 (fun v2 h => ?_)
    refine lv_iconst (v := (-1 : Int32)) hC.1 hC.2.1 d_AckBook_Way_take_33 (by decide) ?_
    refine lv_icmp_ne (tgt := 58) hC.1 hC.2.1 d_AckBook_Way_take_34 (by decide) (fun hc => ?_) (fun hc => ?_)
    · have h := z_ifn hc h
      refine lv_iload_n hC.1 hC.2.1 d_AckBook_Way_take_58 rfl (lv_at hl 1 rfl) ?_
      refine x_aload_n hC d_AckBook_Way_take_59 rfl (lv_at hl 0 rfl) ?_
      refine x_getI hC hZ zc7 h (by decide) t_203 (fun _ h9 => h9) d_AckBook_Way_take_60 (fun v3 h => ?_)
      refine lv_iload_n hC.1 hC.2.1 d_AckBook_Way_take_63 rfl (lv_at hl 2 rfl) ?_
      refine lv_iadd hC.1 hC.2.1 d_AckBook_Way_take_64 ?_
      refine lv_icmp_lt (tgt := 74) hC.1 hC.2.1 d_AckBook_Way_take_65 (by decide) (fun hc => ?_) (fun hc => ?_)
      · have h := z_ifp hc h
        refine lv_iload_n hC.1 hC.2.1 d_AckBook_Way_take_74 rfl (lv_at hl 1 rfl) ?_
        refine lv_istore (lv' := [(4, .int pI1), (0, va_rf a0), (1, .int pI1), (2, .int pI2), (3, .int pI3)]) hC.1 hC.2.1 d_AckBook_Way_take_75 hl (by decide) (by first | rfl | simp [z_rfc, z_ci, z_cj]) (fun ls hl => ?_)
        refine x_aload_n hC d_AckBook_Way_take_77 rfl (lv_at hl 1 rfl) ?_
        refine x_getI hC hZ zc7 h (by decide) t_197 (fun _ h9 => h9) d_AckBook_Way_take_78 (fun v4 h => ?_)
        refine lv_bipush (v := (8 : Int32)) hC.1 hC.2.1 d_AckBook_Way_take_81 (by decide) ?_
        refine lv_idiv hC.1 hC.2.1 d_AckBook_Way_take_83 (by decide) ?_
        refine lv_iload hC.1 hC.2.1 d_AckBook_Way_take_84 (lv_at hl 0 rfl) ?_
        refine lv_isub hC.1 hC.2.1 d_AckBook_Way_take_86 ?_
        refine va_mabs hC.1 hC.2.1 (hC.2.2.1.trans hl.1.symm) hC.2.2.2.1 ((hZ.1.tb hC.2.2.2.2.2.2 args) _ t_667) ((hZ.1.tb hC.2.2.2.2.2.2 args) _ t_668) ((hZ.1.tb hC.2.2.2.2.2.2 args) _ t_20) ((hZ.1.tb hC.2.2.2.2.2.2 args) _ t_669) (by rw [hRt.1]; decide) (by rw [hRt.2]; first | exact Nat.le_of_ble_eq_true rfl | simp [z_rfc, z_ci, z_cj]) (hZ.2.2.1 ▸ Nat.le_add_right _ _) (hZ.2.2.2 ▸ Nat.le_add_right _ _) d_AckBook_Way_take_87 ?_
        refine lv_istore (lv' := [(5, .int (if 0 ≤ ((v4 / (8 : Int32)) - pI1) then ((v4 / (8 : Int32)) - pI1) else 0 - ((v4 / (8 : Int32)) - pI1))), (4, .int pI1), (0, va_rf a0), (1, .int pI1), (2, .int pI2), (3, .int pI3)]) hC.1 hC.2.1 d_AckBook_Way_take_90 hl (by decide) (by first | rfl | simp [z_rfc, z_ci, z_cj]) (fun ls hl => ?_)
        refine x_aload_n hC d_AckBook_Way_take_92 rfl (lv_at hl 2 rfl) ?_
        refine lv_dup hC.1 hC.2.1 d_AckBook_Way_take_93 (z_rfc _) ?_
        refine x_getI hC hZ zc7 h (by decide) t_199 (fun _ h9 => h9) d_AckBook_Way_take_94 (fun v5 h => ?_)
        refine lv_iload hC.1 hC.2.1 d_AckBook_Way_take_97 (lv_at hl 0 rfl) ?_
        refine x_aload_n hC d_AckBook_Way_take_99 rfl (lv_at hl 2 rfl) ?_
        refine x_getI hC hZ zc7 h (by decide) t_199 (fun _ h9 => h9) d_AckBook_Way_take_100 (fun v6 h => ?_)
        refine lv_iconst (v := (4 : Int32)) hC.1 hC.2.1 d_AckBook_Way_take_103 (by decide) ?_
        refine lv_idiv hC.1 hC.2.1 d_AckBook_Way_take_104 (by decide) ?_
        refine lv_isub hC.1 hC.2.1 d_AckBook_Way_take_105 ?_
        refine lv_iadd hC.1 hC.2.1 d_AckBook_Way_take_106 ?_
        refine x_put hC hZ zc7 h (by decide) t_199 (fun _ h9 => h9) rfl rfl rfl rfl d_AckBook_Way_take_107 (fun w H locs hZ h => ?_)
        refine x_aload_n hC d_AckBook_Way_take_110 rfl (lv_at hl 2 rfl) ?_
        refine lv_dup hC.1 hC.2.1 d_AckBook_Way_take_111 (z_rfc _) ?_
        refine x_getI hC hZ zc7 h (by decide) t_197 (fun _ h9 => h9) d_AckBook_Way_take_112 (fun v7 h => ?_)
        refine lv_iload hC.1 hC.2.1 d_AckBook_Way_take_115 (lv_at hl 1 rfl) ?_
        refine x_aload_n hC d_AckBook_Way_take_117 rfl (lv_at hl 2 rfl) ?_
        refine x_getI hC hZ zc7 h (by decide) t_197 (fun _ h9 => h9) d_AckBook_Way_take_118 (fun v8 h => ?_)
        refine lv_bipush (v := (8 : Int32)) hC.1 hC.2.1 d_AckBook_Way_take_121 (by decide) ?_
        refine lv_idiv hC.1 hC.2.1 d_AckBook_Way_take_123 (by decide) ?_
        refine lv_isub hC.1 hC.2.1 d_AckBook_Way_take_124 ?_
        refine lv_iadd hC.1 hC.2.1 d_AckBook_Way_take_125 ?_
        refine x_put hC hZ zc7 h (by decide) t_197 (fun _ h9 => h9) rfl rfl rfl rfl d_AckBook_Way_take_126 (fun w H locs hZ h => ?_)
        exact x_vret hC hRc hRs hZ hr h d_AckBook_Way_take_129
      · have h := z_ifn hc h
        refine lv_iload_n hC.1 hC.2.1 d_AckBook_Way_take_68 rfl (lv_at hl 1 rfl) ?_
        refine lv_iload_n hC.1 hC.2.1 d_AckBook_Way_take_69 rfl (lv_at hl 2 rfl) ?_
        refine lv_isub hC.1 hC.2.1 d_AckBook_Way_take_70 ?_
        refine lv_goto (tgt := 75) hC.1 hC.2.1 d_AckBook_Way_take_71 (by decide) ?_
        refine lv_istore (lv' := [(4, .int (pI1 - pI2)), (0, va_rf a0), (1, .int pI1), (2, .int pI2), (3, .int pI3)]) hC.1 hC.2.1 d_AckBook_Way_take_75 hl (by decide) (by first | rfl | simp [z_rfc, z_ci, z_cj]) (fun ls hl => ?_)
        refine x_aload_n hC d_AckBook_Way_take_77 rfl (lv_at hl 1 rfl) ?_
        refine x_getI hC hZ zc7 h (by decide) t_197 (fun _ h9 => h9) d_AckBook_Way_take_78 (fun v9 h => ?_)
        refine lv_bipush (v := (8 : Int32)) hC.1 hC.2.1 d_AckBook_Way_take_81 (by decide) ?_
        refine lv_idiv hC.1 hC.2.1 d_AckBook_Way_take_83 (by decide) ?_
        refine lv_iload hC.1 hC.2.1 d_AckBook_Way_take_84 (lv_at hl 0 rfl) ?_
        refine lv_isub hC.1 hC.2.1 d_AckBook_Way_take_86 ?_
        refine va_mabs hC.1 hC.2.1 (hC.2.2.1.trans hl.1.symm) hC.2.2.2.1 ((hZ.1.tb hC.2.2.2.2.2.2 args) _ t_667) ((hZ.1.tb hC.2.2.2.2.2.2 args) _ t_668) ((hZ.1.tb hC.2.2.2.2.2.2 args) _ t_20) ((hZ.1.tb hC.2.2.2.2.2.2 args) _ t_669) (by rw [hRt.1]; decide) (by rw [hRt.2]; first | exact Nat.le_of_ble_eq_true rfl | simp [z_rfc, z_ci, z_cj]) (hZ.2.2.1 ▸ Nat.le_add_right _ _) (hZ.2.2.2 ▸ Nat.le_add_right _ _) d_AckBook_Way_take_87 ?_
        refine lv_istore (lv' := [(5, .int (if 0 ≤ ((v9 / (8 : Int32)) - (pI1 - pI2)) then ((v9 / (8 : Int32)) - (pI1 - pI2)) else 0 - ((v9 / (8 : Int32)) - (pI1 - pI2)))), (4, .int (pI1 - pI2)), (0, va_rf a0), (1, .int pI1), (2, .int pI2), (3, .int pI3)]) hC.1 hC.2.1 d_AckBook_Way_take_90 hl (by decide) (by first | rfl | simp [z_rfc, z_ci, z_cj]) (fun ls hl => ?_)
        refine x_aload_n hC d_AckBook_Way_take_92 rfl (lv_at hl 2 rfl) ?_
        refine lv_dup hC.1 hC.2.1 d_AckBook_Way_take_93 (z_rfc _) ?_
        refine x_getI hC hZ zc7 h (by decide) t_199 (fun _ h9 => h9) d_AckBook_Way_take_94 (fun v10 h => ?_)
        refine lv_iload hC.1 hC.2.1 d_AckBook_Way_take_97 (lv_at hl 0 rfl) ?_
        refine x_aload_n hC d_AckBook_Way_take_99 rfl (lv_at hl 2 rfl) ?_
        refine x_getI hC hZ zc7 h (by decide) t_199 (fun _ h9 => h9) d_AckBook_Way_take_100 (fun v11 h => ?_)
        refine lv_iconst (v := (4 : Int32)) hC.1 hC.2.1 d_AckBook_Way_take_103 (by decide) ?_
        refine lv_idiv hC.1 hC.2.1 d_AckBook_Way_take_104 (by decide) ?_
        refine lv_isub hC.1 hC.2.1 d_AckBook_Way_take_105 ?_
        refine lv_iadd hC.1 hC.2.1 d_AckBook_Way_take_106 ?_
        refine x_put hC hZ zc7 h (by decide) t_199 (fun _ h9 => h9) rfl rfl rfl rfl d_AckBook_Way_take_107 (fun w H locs hZ h => ?_)
        refine x_aload_n hC d_AckBook_Way_take_110 rfl (lv_at hl 2 rfl) ?_
        refine lv_dup hC.1 hC.2.1 d_AckBook_Way_take_111 (z_rfc _) ?_
        refine x_getI hC hZ zc7 h (by decide) t_197 (fun _ h9 => h9) d_AckBook_Way_take_112 (fun v12 h => ?_)
        refine lv_iload hC.1 hC.2.1 d_AckBook_Way_take_115 (lv_at hl 1 rfl) ?_
        refine x_aload_n hC d_AckBook_Way_take_117 rfl (lv_at hl 2 rfl) ?_
        refine x_getI hC hZ zc7 h (by decide) t_197 (fun _ h9 => h9) d_AckBook_Way_take_118 (fun v13 h => ?_)
        refine lv_bipush (v := (8 : Int32)) hC.1 hC.2.1 d_AckBook_Way_take_121 (by decide) ?_
        refine lv_idiv hC.1 hC.2.1 d_AckBook_Way_take_123 (by decide) ?_
        refine lv_isub hC.1 hC.2.1 d_AckBook_Way_take_124 ?_
        refine lv_iadd hC.1 hC.2.1 d_AckBook_Way_take_125 ?_
        refine x_put hC hZ zc7 h (by decide) t_197 (fun _ h9 => h9) rfl rfl rfl rfl d_AckBook_Way_take_126 (fun w H locs hZ h => ?_)
        exact x_vret hC hRc hRs hZ hr h d_AckBook_Way_take_129
    · have h := z_ifp hc h
      refine x_aload_n hC d_AckBook_Way_take_37 rfl (lv_at hl 0 rfl) ?_
      refine lv_iload_n hC.1 hC.2.1 d_AckBook_Way_take_38 rfl (lv_at hl 3 rfl) ?_
      refine x_put hC hZ zc7 h (by decide) t_205 (fun _ h9 => h9) rfl rfl rfl rfl d_AckBook_Way_take_39 (fun w H locs hZ h => ?_)
      refine x_aload_n hC d_AckBook_Way_take_42 rfl (lv_at hl 0 rfl) ?_
      refine lv_bipush (v := (8 : Int32)) hC.1 hC.2.1 d_AckBook_Way_take_43 (by decide) ?_
      refine lv_iload_n hC.1 hC.2.1 d_AckBook_Way_take_45 rfl (lv_at hl 1 rfl) ?_
      refine lv_imul hC.1 hC.2.1 d_AckBook_Way_take_46 ?_
      refine x_put hC hZ zc7 h (by decide) t_197 (fun _ h9 => h9) rfl rfl rfl rfl d_AckBook_Way_take_47 (fun w H locs hZ h => ?_)
      refine x_aload_n hC d_AckBook_Way_take_50 rfl (lv_at hl 0 rfl) ?_
      refine lv_iconst (v := (2 : Int32)) hC.1 hC.2.1 d_AckBook_Way_take_51 (by decide) ?_
      refine lv_iload_n hC.1 hC.2.1 d_AckBook_Way_take_52 rfl (lv_at hl 1 rfl) ?_
      refine lv_imul hC.1 hC.2.1 d_AckBook_Way_take_53 ?_
      refine x_put hC hZ zc7 h (by decide) t_199 (fun _ h9 => h9) rfl rfl rfl rfl d_AckBook_Way_take_54 (fun w H locs hZ h => ?_)
      exact x_vret hC hRc hRs hZ hr h d_AckBook_Way_take_57
def f_AckBook_Flow_grow (F : Nat) (a0 : Option Nat) (pI1 : Int32) (w : zW) : zR :=
  z_getI w 8 2 a0 fun v1 =>
  if v1 = (-1 : Int32) then (
    z_getI w 8 1 a0 fun v2 =>
    z_put w 8 1 a0 (.int (v2 + pI1)) fun w =>
    some (.inl none, w))
  else (
    z_getI w 8 1 a0 fun v3 =>
    z_getI w 8 2 a0 fun v4 =>
    if v4 ≤ v3 then (
      z_getI w 8 1 a0 fun v5 =>
      if v5 ≤ 0 then (
        some (.inl none, w))
      else (
        z_getI w 8 1 a0 fun v6 =>
        z_getI w 8 1 a0 fun v7 =>
        z_nz (v7 = 0) <|
        z_put w 8 1 a0 (.int (v6 + (((1200 : Int32) * pI1) / v7))) fun w =>
        some (.inl none, w)))
    else (
      z_getI w 8 1 a0 fun v9 =>
      z_put w 8 1 a0 (.int (v9 + pI1)) fun w =>
      some (.inl none, w)))
set_option maxHeartbeats 4000000 in
set_option maxRecDepth 100000 in
theorem k_AckBook_Flow_grow {b0 : Nat} {H0 : Heap} {D : va_G} {ZS : List (String × String × String × Value)} {l : Launch} (hT : z_TB (zGG b0 H0 D ZS)) (hfl : l.flags = pinnedFlags ++ [noTraceFlag]) {a0 : Option Nat} {pI1 : Int32} (F : Nat) {w : zW} (res : zO × zW) (h : f_AckBook_Flow_grow F a0 pI1 w = some res) : z_Ct (zGG b0 H0 D ZS) l y_AckBook_Flow_grow (.code y_AckBook_Flow_grow c_AckBook_Flow_grow 2 (none)) 0 0 [va_rf a0, .int pI1] w res := by
  refine z_ct hT hfl (by decide) (by simp only [z_sl_i, z_sl_j, z_sl_r, z_sl_n]; decide) ?_
  intro p e R s m args below meth c hC hr hRc hRs hRt hnm hFr H ls hZ hl
  simp only [z_la_i, z_la_j, z_la_r, z_la_n] at hl
  have hl : lv_has ls 2 [(0, va_rf a0), (1, .int pI1)] := hl
  unfold f_AckBook_Flow_grow at h
  refine x_aload_n hC d_AckBook_Flow_grow_0 rfl (lv_at hl 0 rfl) ?_
  refine x_getI hC hZ zc8 h (by decide) t_228 (fun _ h9 => h9) d_AckBook_Flow_grow_1 (fun v1 h => ?_)
  refine lv_iconst (v := (-1 : Int32)) hC.1 hC.2.1 d_AckBook_Flow_grow_4 (by decide) ?_
  refine lv_icmp_eq (tgt := 19) hC.1 hC.2.1 d_AckBook_Flow_grow_5 (by decide) (fun hc => ?_) (fun hc => ?_)
  · have h := z_ifp hc h
    refine x_aload_n hC d_AckBook_Flow_grow_19 rfl (lv_at hl 0 rfl) ?_
    refine lv_dup hC.1 hC.2.1 d_AckBook_Flow_grow_20 (z_rfc _) ?_
    refine x_getI hC hZ zc8 h (by decide) t_226 (fun _ h9 => h9) d_AckBook_Flow_grow_21 (fun v2 h => ?_)
    refine lv_iload_n hC.1 hC.2.1 d_AckBook_Flow_grow_24 rfl (lv_at hl 1 rfl) ?_
    refine lv_iadd hC.1 hC.2.1 d_AckBook_Flow_grow_25 ?_
    refine x_put hC hZ zc8 h (by decide) t_226 (fun _ h9 => h9) rfl rfl rfl rfl d_AckBook_Flow_grow_26 (fun w H locs hZ h => ?_)
    refine lv_goto (tgt := 58) hC.1 hC.2.1 d_AckBook_Flow_grow_29 (by decide) ?_
    exact x_vret hC hRc hRs hZ hr h d_AckBook_Flow_grow_58
  · have h := z_ifn hc h
    refine x_aload_n hC d_AckBook_Flow_grow_8 rfl (lv_at hl 0 rfl) ?_
    refine x_getI hC hZ zc8 h (by decide) t_226 (fun _ h9 => h9) d_AckBook_Flow_grow_9 (fun v3 h => ?_)
    refine x_aload_n hC d_AckBook_Flow_grow_12 rfl (lv_at hl 0 rfl) ?_
    refine x_getI hC hZ zc8 h (by decide) t_228 (fun _ h9 => h9) d_AckBook_Flow_grow_13 (fun v4 h => ?_)
    refine lv_icmp_ge (tgt := 32) hC.1 hC.2.1 d_AckBook_Flow_grow_16 (by decide) (fun hc => ?_) (fun hc => ?_)
    · have h := z_ifp hc h
      refine x_aload_n hC d_AckBook_Flow_grow_32 rfl (lv_at hl 0 rfl) ?_
      refine x_getI hC hZ zc8 h (by decide) t_226 (fun _ h9 => h9) d_AckBook_Flow_grow_33 (fun v5 h => ?_)
      refine lv_if_le (tgt := 58) hC.1 hC.2.1 d_AckBook_Flow_grow_36 (by decide) (fun hc => ?_) (fun hc => ?_)
      · have h := z_ifp hc h
        exact x_vret hC hRc hRs hZ hr h d_AckBook_Flow_grow_58
      · have h := z_ifn hc h
        refine x_aload_n hC d_AckBook_Flow_grow_39 rfl (lv_at hl 0 rfl) ?_
        refine lv_dup hC.1 hC.2.1 d_AckBook_Flow_grow_40 (z_rfc _) ?_
        refine x_getI hC hZ zc8 h (by decide) t_226 (fun _ h9 => h9) d_AckBook_Flow_grow_41 (fun v6 h => ?_)
        refine lv_sipush (v := (1200 : Int32)) hC.1 hC.2.1 d_AckBook_Flow_grow_44 (by decide) ?_
        refine lv_iload_n hC.1 hC.2.1 d_AckBook_Flow_grow_47 rfl (lv_at hl 1 rfl) ?_
        refine lv_imul hC.1 hC.2.1 d_AckBook_Flow_grow_48 ?_
        refine x_aload_n hC d_AckBook_Flow_grow_49 rfl (lv_at hl 0 rfl) ?_
        refine x_getI hC hZ zc8 h (by decide) t_226 (fun _ h9 => h9) d_AckBook_Flow_grow_50 (fun v7 h => ?_)
        obtain ⟨hz8, h⟩ := z_nz_spec h
        refine lv_idiv hC.1 hC.2.1 d_AckBook_Flow_grow_53 hz8 ?_
        refine lv_iadd hC.1 hC.2.1 d_AckBook_Flow_grow_54 ?_
        refine x_put hC hZ zc8 h (by decide) t_226 (fun _ h9 => h9) rfl rfl rfl rfl d_AckBook_Flow_grow_55 (fun w H locs hZ h => ?_)
        exact x_vret hC hRc hRs hZ hr h d_AckBook_Flow_grow_58
    · have h := z_ifn hc h
      refine x_aload_n hC d_AckBook_Flow_grow_19 rfl (lv_at hl 0 rfl) ?_
      refine lv_dup hC.1 hC.2.1 d_AckBook_Flow_grow_20 (z_rfc _) ?_
      refine x_getI hC hZ zc8 h (by decide) t_226 (fun _ h9 => h9) d_AckBook_Flow_grow_21 (fun v9 h => ?_)
      refine lv_iload_n hC.1 hC.2.1 d_AckBook_Flow_grow_24 rfl (lv_at hl 1 rfl) ?_
      refine lv_iadd hC.1 hC.2.1 d_AckBook_Flow_grow_25 ?_
      refine x_put hC hZ zc8 h (by decide) t_226 (fun _ h9 => h9) rfl rfl rfl rfl d_AckBook_Flow_grow_26 (fun w H locs hZ h => ?_)
      refine lv_goto (tgt := 58) hC.1 hC.2.1 d_AckBook_Flow_grow_29 (by decide) ?_
      exact x_vret hC hRc hRs hZ hr h d_AckBook_Flow_grow_58
def j_AckBook_Flow_leaveAcknowledged (F : Nat) : Nat → Option Nat → Int32 → Option Nat → zW → zR
  | 0, _, _, _, _ => none
  | N + 1, rL0, xL2, rL3, w =>
    if rL3 = none then (
      some (.inl (some (.int xL2)), w))
    else (
      z_this w 8 rL0 <|
      z_cV (f_AckBook_Flow_leave F rL0 rL3 w) fun w =>
      z_getI w 9 4 rL3 fun v2 =>
      if v2 = 0 then (
        z_getR w 9 7 rL3 fun r3 =>
        j_AckBook_Flow_leaveAcknowledged F N rL0 (xL2 + (1 : Int32)) r3 w)
      else (
        z_getI w 9 5 rL3 fun v4 =>
        if v4 = 0 then (
          z_getR w 9 7 rL3 fun r5 =>
          j_AckBook_Flow_leaveAcknowledged F N rL0 (xL2 + (1 : Int32)) r5 w)
        else (
          z_this w 8 rL0 <|
          z_cI (f_AckBook_Flow_isAfterRecovery F rL0 rL3 w) fun v7 w =>
          if v7 = 0 then (
            z_getR w 9 7 rL3 fun r8 =>
            j_AckBook_Flow_leaveAcknowledged F N rL0 (xL2 + (1 : Int32)) r8 w)
          else (
            z_getI w 9 1 rL3 fun v9 =>
            z_this w 8 rL0 <|
            z_cV (f_AckBook_Flow_grow F rL0 v9 w) fun w =>
            z_getR w 9 7 rL3 fun r11 =>
            j_AckBook_Flow_leaveAcknowledged F N rL0 (xL2 + (1 : Int32)) r11 w))))
def f_AckBook_Flow_leaveAcknowledged (F : Nat) (a0 : Option Nat) (pR1 : Option Nat) (w : zW) : zR :=
  j_AckBook_Flow_leaveAcknowledged F F a0 (0 : Int32) pR1 w
set_option maxHeartbeats 4000000 in
set_option maxRecDepth 100000 in
theorem kj_AckBook_Flow_leaveAcknowledged {b0 : Nat} {H0 : Heap} {D : va_G} {ZS : List (String × String × String × Value)} {l : Launch} (hT : z_TB (zGG b0 H0 D ZS)) (hfl : l.flags = pinnedFlags ++ [noTraceFlag]) {p : Program} {e : Env} {R : Room} {s : State} {m : MethodId} {args : Array Value} {below : List Frame} {meth : Method} {c : Code} {w0 : zW} {F : Nat} (hC : z_C (zGG b0 H0 D ZS) p e s m meth c c_AckBook_Flow_leaveAcknowledged 4 y_AckBook_Flow_leaveAcknowledged.cls) (hr : meth.sig.returnType = (some FieldType.int)) (hRc : R.cells = w0.2.1) (hRs : R.slots = w0.2.2.1) (hFr : c.exceptionTable.toList = []) (hRt : R.frames = 1 ∧ R.locals = 21) (hnm : meth.name = y_AckBook_Flow_leaveAcknowledged.name) : ∀ N : Nat, (∀ (rL0 : Option Nat) (xL2 : Int32) (rL3 : Option Nat) (w : zW) (res : zO × zW), j_AckBook_Flow_leaveAcknowledged F N rL0 xL2 rL3 w = some res → ∀ (H : Heap) (locs : List Loc) (cells slots : Nat) (ls : Array Slot), z_Z (zGG b0 H0 D ZS) R s w H locs cells slots → lv_has ls 4 [(0, va_rf rL0), (2, .int xL2), (3, va_rf rL3)] → W p l e R s m args below meth c H locs cells slots (z_Q (zGG b0 H0 D ZS) below s w0 res) (F0 m 4 ls [])) := by
  intro N
  induction N with
  | zero =>
    intro rL0 xL2 rL3 w res h
    rw [j_AckBook_Flow_leaveAcknowledged] at h
    cases h
  | succ N ih =>
    intro rL0 xL2 rL3 w res h H locs cells slots ls hZ hl
    rw [j_AckBook_Flow_leaveAcknowledged] at h
    refine x_aload_n hC d_AckBook_Flow_leaveAcknowledged_4 rfl (lv_at hl 2 rfl) ?_
    refine x_ifnull (tgt := 54) hC d_AckBook_Flow_leaveAcknowledged_5 (by decide) (fun hc => ?_) (fun hc => ?_)
    · have h := z_ifp hc h
      refine lv_iload_n hC.1 hC.2.1 d_AckBook_Flow_leaveAcknowledged_54 rfl (lv_at hl 1 rfl) ?_
      exact x_iret hC hRc hRs hZ hr rfl h d_AckBook_Flow_leaveAcknowledged_55
    · have h := z_ifn hc h
      refine lv_iinc (lv' := [(2, .int (xL2 + (1 : Int32))), (0, va_rf rL0), (3, va_rf rL3)]) hC.1 hC.2.1 d_AckBook_Flow_leaveAcknowledged_8 hl (k := 1) rfl rfl (by decide) (by first | rfl | simp [z_rfc, z_ci, z_cj]) (fun ls hl => ?_)
      refine x_aload_n hC d_AckBook_Flow_leaveAcknowledged_11 rfl (lv_at hl 1 rfl) ?_
      refine x_aload_n hC d_AckBook_Flow_leaveAcknowledged_12 rfl (lv_at hl 2 rfl) ?_
      obtain ⟨a_, fs_, eo_, h⟩ := z_this_spec h
      obtain ⟨w1_, o1_, hF_, ha_⟩ := z_cV_spec h
      refine x_goes hC hRc hRs hFr ha_ (z_goV (As := [va_rf rL3]) hC hZ zc8 eo_ (k_AckBook_Flow_leave hT hfl _ _ hF_) t_339 t_340 t_341 t_11 t_342 ⟨by decide, by decide, (by decide +kernel : (parseMethodDescriptor y_AckBook_Flow_leave.desc).map (fun d => d.parameters.length) = some 1)⟩ (by rw [hRt.1]; decide) (by rw [hRt.2]; decide) hl.1 rfl (by first | exact Nat.le_of_ble_eq_true rfl | simp [z_rfc, z_ci, z_cj]) d_AckBook_Flow_leaveAcknowledged_13) (fun v_ hv H locs cells slots hZ => ?_)
      obtain ⟨rfl, h⟩ := hv
      generalize w1_ = w at h hZ
      refine x_aload_n hC d_AckBook_Flow_leaveAcknowledged_16 rfl (lv_at hl 2 rfl) ?_
      refine x_getI hC hZ zc9 h (by decide) t_498 (fun _ h9 => h9) d_AckBook_Flow_leaveAcknowledged_17 (fun v2 h => ?_)
      refine lv_if_eq (tgt := 46) hC.1 hC.2.1 d_AckBook_Flow_leaveAcknowledged_20 (by decide) (fun hc => ?_) (fun hc => ?_)
      · have h := z_ifp hc h
        refine x_aload_n hC d_AckBook_Flow_leaveAcknowledged_46 rfl (lv_at hl 2 rfl) ?_
        refine x_getR hC hZ zc9 h (by decide) t_504 (fun _ h9 => h9) d_AckBook_Flow_leaveAcknowledged_47 (fun r3 h => ?_)
        refine x_astore_n (lv' := [(3, va_rf r3), (2, .int (xL2 + (1 : Int32))), (0, va_rf rL0)]) hC d_AckBook_Flow_leaveAcknowledged_50 rfl hl (by decide) (by first | rfl | simp [z_rfc, z_ci, z_cj]) (fun ls hl => ?_)
        refine lv_goto (tgt := 4) hC.1 hC.2.1 d_AckBook_Flow_leaveAcknowledged_51 (by decide) ?_
        exact ih _ _ _ _ _ h _ _ _ _ _ hZ (lv_sub hl [2, 1, 0] rfl)
      · have h := z_ifn hc h
        refine x_aload_n hC d_AckBook_Flow_leaveAcknowledged_23 rfl (lv_at hl 2 rfl) ?_
        refine x_getI hC hZ zc9 h (by decide) t_499 (fun _ h9 => h9) d_AckBook_Flow_leaveAcknowledged_24 (fun v4 h => ?_)
        refine lv_if_eq (tgt := 46) hC.1 hC.2.1 d_AckBook_Flow_leaveAcknowledged_27 (by decide) (fun hc => ?_) (fun hc => ?_)
        · have h := z_ifp hc h
          refine x_aload_n hC d_AckBook_Flow_leaveAcknowledged_46 rfl (lv_at hl 2 rfl) ?_
          refine x_getR hC hZ zc9 h (by decide) t_504 (fun _ h9 => h9) d_AckBook_Flow_leaveAcknowledged_47 (fun r5 h => ?_)
          refine x_astore_n (lv' := [(3, va_rf r5), (2, .int (xL2 + (1 : Int32))), (0, va_rf rL0)]) hC d_AckBook_Flow_leaveAcknowledged_50 rfl hl (by decide) (by first | rfl | simp [z_rfc, z_ci, z_cj]) (fun ls hl => ?_)
          refine lv_goto (tgt := 4) hC.1 hC.2.1 d_AckBook_Flow_leaveAcknowledged_51 (by decide) ?_
          exact ih _ _ _ _ _ h _ _ _ _ _ hZ (lv_sub hl [2, 1, 0] rfl)
        · have h := z_ifn hc h
          refine x_aload_n hC d_AckBook_Flow_leaveAcknowledged_30 rfl (lv_at hl 1 rfl) ?_
          refine x_aload_n hC d_AckBook_Flow_leaveAcknowledged_31 rfl (lv_at hl 2 rfl) ?_
          obtain ⟨a_, fs_, eo_, h⟩ := z_this_spec h
          obtain ⟨w1_, o1_, hF_, ha_⟩ := z_cI_spec h
          refine x_goes hC hRc hRs hFr ha_ (z_goV (As := [va_rf rL3]) hC hZ zc8 eo_ (k_AckBook_Flow_isAfterRecovery hT hfl _ _ hF_) t_343 t_345 ts_AckBook_Flow_isAfterRecovery t_11 t_346 ⟨by decide, by decide, (by decide +kernel : (parseMethodDescriptor y_AckBook_Flow_isAfterRecovery.desc).map (fun d => d.parameters.length) = some 1)⟩ (by rw [hRt.1]; decide) (by rw [hRt.2]; decide) hl.1 rfl (by first | exact Nat.le_of_ble_eq_true rfl | simp [z_rfc, z_ci, z_cj]) d_AckBook_Flow_leaveAcknowledged_32) (fun v_ hv H locs cells slots hZ => ?_)
          obtain ⟨v7, rfl, h⟩ := hv
          generalize w1_ = w at h hZ
          refine lv_if_eq (tgt := 46) hC.1 hC.2.1 d_AckBook_Flow_leaveAcknowledged_35 (by decide) (fun hc => ?_) (fun hc => ?_)
          · have h := z_ifp hc h
            refine x_aload_n hC d_AckBook_Flow_leaveAcknowledged_46 rfl (lv_at hl 2 rfl) ?_
            refine x_getR hC hZ zc9 h (by decide) t_504 (fun _ h9 => h9) d_AckBook_Flow_leaveAcknowledged_47 (fun r8 h => ?_)
            refine x_astore_n (lv' := [(3, va_rf r8), (2, .int (xL2 + (1 : Int32))), (0, va_rf rL0)]) hC d_AckBook_Flow_leaveAcknowledged_50 rfl hl (by decide) (by first | rfl | simp [z_rfc, z_ci, z_cj]) (fun ls hl => ?_)
            refine lv_goto (tgt := 4) hC.1 hC.2.1 d_AckBook_Flow_leaveAcknowledged_51 (by decide) ?_
            exact ih _ _ _ _ _ h _ _ _ _ _ hZ (lv_sub hl [2, 1, 0] rfl)
          · have h := z_ifn hc h
            refine x_aload_n hC d_AckBook_Flow_leaveAcknowledged_38 rfl (lv_at hl 1 rfl) ?_
            refine x_aload_n hC d_AckBook_Flow_leaveAcknowledged_39 rfl (lv_at hl 2 rfl) ?_
            refine x_getI hC hZ zc9 h (by decide) t_489 (fun _ h9 => h9) d_AckBook_Flow_leaveAcknowledged_40 (fun v9 h => ?_)
            obtain ⟨a_, fs_, eo_, h⟩ := z_this_spec h
            obtain ⟨w1_, o1_, hF_, ha_⟩ := z_cV_spec h
            refine x_goes hC hRc hRs hFr ha_ (z_goV (As := [.int v9]) hC hZ zc8 eo_ (k_AckBook_Flow_grow hT hfl _ _ hF_) t_674 t_676 ts_AckBook_Flow_grow t_11 t_677 ⟨by decide, by decide, (by decide +kernel : (parseMethodDescriptor y_AckBook_Flow_grow.desc).map (fun d => d.parameters.length) = some 1)⟩ (by rw [hRt.1]; decide) (by rw [hRt.2]; decide) hl.1 rfl (by first | exact Nat.le_of_ble_eq_true rfl | simp [z_rfc, z_ci, z_cj]) d_AckBook_Flow_leaveAcknowledged_43) (fun v_ hv H locs cells slots hZ => ?_)
            obtain ⟨rfl, h⟩ := hv
            generalize w1_ = w at h hZ
            refine x_aload_n hC d_AckBook_Flow_leaveAcknowledged_46 rfl (lv_at hl 2 rfl) ?_
            refine x_getR hC hZ zc9 h (by decide) t_504 (fun _ h9 => h9) d_AckBook_Flow_leaveAcknowledged_47 (fun r11 h => ?_)
            refine x_astore_n (lv' := [(3, va_rf r11), (2, .int (xL2 + (1 : Int32))), (0, va_rf rL0)]) hC d_AckBook_Flow_leaveAcknowledged_50 rfl hl (by decide) (by first | rfl | simp [z_rfc, z_ci, z_cj]) (fun ls hl => ?_)
            refine lv_goto (tgt := 4) hC.1 hC.2.1 d_AckBook_Flow_leaveAcknowledged_51 (by decide) ?_
            exact ih _ _ _ _ _ h _ _ _ _ _ hZ (lv_sub hl [2, 1, 0] rfl)
set_option maxHeartbeats 4000000 in
set_option maxRecDepth 100000 in
theorem k_AckBook_Flow_leaveAcknowledged {b0 : Nat} {H0 : Heap} {D : va_G} {ZS : List (String × String × String × Value)} {l : Launch} (hT : z_TB (zGG b0 H0 D ZS)) (hfl : l.flags = pinnedFlags ++ [noTraceFlag]) {a0 : Option Nat} {pR1 : Option Nat} (F : Nat) {w : zW} (res : zO × zW) (h : f_AckBook_Flow_leaveAcknowledged F a0 pR1 w = some res) : z_Ct (zGG b0 H0 D ZS) l y_AckBook_Flow_leaveAcknowledged (.code y_AckBook_Flow_leaveAcknowledged c_AckBook_Flow_leaveAcknowledged 4 (some FieldType.int)) 1 21 [va_rf a0, va_rf pR1] w res := by
  refine z_ct hT hfl (by decide) (by simp only [z_sl_i, z_sl_j, z_sl_r, z_sl_n]; decide) ?_
  intro p e R s m args below meth c hC hr hRc hRs hRt hnm hFr H ls hZ hl
  simp only [z_la_i, z_la_j, z_la_r, z_la_n] at hl
  have hl : lv_has ls 4 [(0, va_rf a0), (1, va_rf pR1)] := hl
  unfold f_AckBook_Flow_leaveAcknowledged at h
  refine lv_iconst (v := (0 : Int32)) hC.1 hC.2.1 d_AckBook_Flow_leaveAcknowledged_0 (by decide) ?_
  refine lv_istore_n (lv' := [(2, .int (0 : Int32)), (0, va_rf a0), (1, va_rf pR1)]) hC.1 hC.2.1 d_AckBook_Flow_leaveAcknowledged_1 rfl hl (by decide) (by first | rfl | simp [z_rfc, z_ci, z_cj]) (fun ls hl => ?_)
  refine x_aload_n hC d_AckBook_Flow_leaveAcknowledged_2 rfl (lv_at hl 2 rfl) ?_
  refine x_astore_n (lv' := [(3, va_rf pR1), (2, .int (0 : Int32)), (0, va_rf a0), (1, va_rf pR1)]) hC d_AckBook_Flow_leaveAcknowledged_3 rfl hl (by decide) (by first | rfl | simp [z_rfc, z_ci, z_cj]) (fun ls hl => ?_)
  exact (kj_AckBook_Flow_leaveAcknowledged hT hfl hC hr hRc hRs hFr hRt hnm F) _ _ _ _ _ h _ _ _ _ _ hZ (lv_sub hl [2, 1, 0] rfl)
def f_AckBook_Chain_clear (F : Nat) (a0 : Option Nat) (w : zW) : zR :=
  z_put w 3 0 a0 (va_rf none) fun w =>
  some (.inl none, w)
set_option maxHeartbeats 4000000 in
set_option maxRecDepth 100000 in
theorem k_AckBook_Chain_clear {b0 : Nat} {H0 : Heap} {D : va_G} {ZS : List (String × String × String × Value)} {l : Launch} (hT : z_TB (zGG b0 H0 D ZS)) (hfl : l.flags = pinnedFlags ++ [noTraceFlag]) {a0 : Option Nat} (F : Nat) {w : zW} (res : zO × zW) (h : f_AckBook_Chain_clear F a0 w = some res) : z_Ct (zGG b0 H0 D ZS) l y_AckBook_Chain_clear (.code y_AckBook_Chain_clear c_AckBook_Chain_clear 1 (none)) 0 0 [va_rf a0] w res := by
  refine z_ct hT hfl (by decide) (by simp only [z_sl_i, z_sl_j, z_sl_r, z_sl_n]; decide) ?_
  intro p e R s m args below meth c hC hr hRc hRs hRt hnm hFr H ls hZ hl
  simp only [z_la_i, z_la_j, z_la_r, z_la_n] at hl
  have hl : lv_has ls 1 [(0, va_rf a0)] := hl
  unfold f_AckBook_Chain_clear at h
  refine x_aload_n hC d_AckBook_Chain_clear_0 rfl (lv_at hl 0 rfl) ?_
  refine x_null hC d_AckBook_Chain_clear_1 ?_
  refine x_put hC hZ zc3 h (by decide) t_53 (fun _ h9 => h9) rfl rfl (z_rfn _ _) (z_rff _ _) d_AckBook_Chain_clear_2 (fun w H locs hZ h => ?_)
  exact x_vret hC hRc hRs hZ hr h d_AckBook_Chain_clear_5
def f_AckBook_Arrivals_forget (F : Nat) (a0 : Option Nat) (w : zW) : zR :=
  z_put w 5 2 a0 (.int (0 : Int32)) fun w =>
  z_put w 5 3 a0 (.long (0 : Int64)) fun w =>
  z_put w 5 4 a0 (.int (0 : Int32)) fun w =>
  z_putZ w 5 6 a0 (0 : Int32) fun w =>
  some (.inl none, w)
set_option maxHeartbeats 4000000 in
set_option maxRecDepth 100000 in
theorem k_AckBook_Arrivals_forget {b0 : Nat} {H0 : Heap} {D : va_G} {ZS : List (String × String × String × Value)} {l : Launch} (hT : z_TB (zGG b0 H0 D ZS)) (hfl : l.flags = pinnedFlags ++ [noTraceFlag]) {a0 : Option Nat} (F : Nat) {w : zW} (res : zO × zW) (h : f_AckBook_Arrivals_forget F a0 w = some res) : z_Ct (zGG b0 H0 D ZS) l y_AckBook_Arrivals_forget (.code y_AckBook_Arrivals_forget c_AckBook_Arrivals_forget 1 (none)) 0 0 [va_rf a0] w res := by
  refine z_ct hT hfl (by decide) (by simp only [z_sl_i, z_sl_j, z_sl_r, z_sl_n]; decide) ?_
  intro p e R s m args below meth c hC hr hRc hRs hRt hnm hFr H ls hZ hl
  simp only [z_la_i, z_la_j, z_la_r, z_la_n] at hl
  have hl : lv_has ls 1 [(0, va_rf a0)] := hl
  unfold f_AckBook_Arrivals_forget at h
  refine x_aload_n hC d_AckBook_Arrivals_forget_0 rfl (lv_at hl 0 rfl) ?_
  refine lv_iconst (v := (0 : Int32)) hC.1 hC.2.1 d_AckBook_Arrivals_forget_1 (by decide) ?_
  refine x_put hC hZ zc5 h (by decide) t_128 (fun _ h9 => h9) rfl rfl rfl rfl d_AckBook_Arrivals_forget_2 (fun w H locs hZ h => ?_)
  refine x_aload_n hC d_AckBook_Arrivals_forget_5 rfl (lv_at hl 0 rfl) ?_
  refine lv_lconst (v := (0 : Int64)) hC.1 hC.2.1 d_AckBook_Arrivals_forget_6 (by decide) ?_
  refine x_put hC hZ zc5 h (by decide) t_130 (fun _ h9 => h9) rfl rfl rfl rfl d_AckBook_Arrivals_forget_7 (fun w H locs hZ h => ?_)
  refine x_aload_n hC d_AckBook_Arrivals_forget_10 rfl (lv_at hl 0 rfl) ?_
  refine lv_iconst (v := (0 : Int32)) hC.1 hC.2.1 d_AckBook_Arrivals_forget_11 (by decide) ?_
  refine x_put hC hZ zc5 h (by decide) t_132 (fun _ h9 => h9) rfl rfl rfl rfl d_AckBook_Arrivals_forget_12 (fun w H locs hZ h => ?_)
  refine x_aload_n hC d_AckBook_Arrivals_forget_15 rfl (lv_at hl 0 rfl) ?_
  refine lv_iconst (v := (0 : Int32)) hC.1 hC.2.1 d_AckBook_Arrivals_forget_16 (by decide) ?_
  refine x_putZ hC hZ zc5 h (by decide) t_135 (fun _ h9 => h9) rfl rfl d_AckBook_Arrivals_forget_17 (fun w H locs hZ h => ?_)
  exact x_vret hC hRc hRs hZ hr h d_AckBook_Arrivals_forget_20
def f_AckBook_Chain_removeFirst (F : Nat) (a0 : Option Nat) (w : zW) : zR :=
  z_getR w 3 0 a0 fun r1 =>
  if r1 = none then (
    some (.inl (some (.int (-1 : Int32))), w))
  else (
    z_getR w 3 0 a0 fun r2 =>
    z_getI w 9 0 r2 fun v3 =>
    z_getR w 3 0 a0 fun r4 =>
    z_getR w 9 7 r4 fun r5 =>
    z_put w 3 0 a0 (va_rf r5) fun w =>
    some (.inl (some (.int v3)), w))
set_option maxHeartbeats 4000000 in
set_option maxRecDepth 100000 in
theorem k_AckBook_Chain_removeFirst {b0 : Nat} {H0 : Heap} {D : va_G} {ZS : List (String × String × String × Value)} {l : Launch} (hT : z_TB (zGG b0 H0 D ZS)) (hfl : l.flags = pinnedFlags ++ [noTraceFlag]) {a0 : Option Nat} (F : Nat) {w : zW} (res : zO × zW) (h : f_AckBook_Chain_removeFirst F a0 w = some res) : z_Ct (zGG b0 H0 D ZS) l y_AckBook_Chain_removeFirst (.code y_AckBook_Chain_removeFirst c_AckBook_Chain_removeFirst 2 (some FieldType.int)) 0 0 [va_rf a0] w res := by
  refine z_ct hT hfl (by decide) (by simp only [z_sl_i, z_sl_j, z_sl_r, z_sl_n]; decide) ?_
  intro p e R s m args below meth c hC hr hRc hRs hRt hnm hFr H ls hZ hl
  simp only [z_la_i, z_la_j, z_la_r, z_la_n] at hl
  have hl : lv_has ls 2 [(0, va_rf a0)] := hl
  unfold f_AckBook_Chain_removeFirst at h
  refine x_aload_n hC d_AckBook_Chain_removeFirst_0 rfl (lv_at hl 0 rfl) ?_
  refine x_getR hC hZ zc3 h (by decide) t_53 (fun _ h9 => h9) d_AckBook_Chain_removeFirst_1 (fun r1 h => ?_)
  refine x_ifnonnull (tgt := 9) hC d_AckBook_Chain_removeFirst_4 (by decide) (fun hc => ?_) (fun hc => ?_)
  · have h := z_ifn hc h
    refine x_aload_n hC d_AckBook_Chain_removeFirst_9 rfl (lv_at hl 0 rfl) ?_
    refine x_getR hC hZ zc3 h (by decide) t_53 (fun _ h9 => h9) d_AckBook_Chain_removeFirst_10 (fun r2 h => ?_)
    refine x_getI hC hZ zc9 h (by decide) t_486 (fun _ h9 => h9) d_AckBook_Chain_removeFirst_13 (fun v3 h => ?_)
    refine lv_istore_n (lv' := [(1, .int v3), (0, va_rf a0)]) hC.1 hC.2.1 d_AckBook_Chain_removeFirst_16 rfl hl (by decide) (by first | rfl | simp [z_rfc, z_ci, z_cj]) (fun ls hl => ?_)
    refine x_aload_n hC d_AckBook_Chain_removeFirst_17 rfl (lv_at hl 1 rfl) ?_
    refine x_aload_n hC d_AckBook_Chain_removeFirst_18 rfl (lv_at hl 1 rfl) ?_
    refine x_getR hC hZ zc3 h (by decide) t_53 (fun _ h9 => h9) d_AckBook_Chain_removeFirst_19 (fun r4 h => ?_)
    refine x_getR hC hZ zc9 h (by decide) t_503 (fun _ h9 => h9) d_AckBook_Chain_removeFirst_22 (fun r5 h => ?_)
    refine x_put hC hZ zc3 h (by decide) t_53 (fun _ h9 => h9) rfl rfl (z_rfn _ _) (z_rff _ _) d_AckBook_Chain_removeFirst_25 (fun w H locs hZ h => ?_)
    refine lv_iload_n hC.1 hC.2.1 d_AckBook_Chain_removeFirst_28 rfl (lv_at hl 0 rfl) ?_
    exact x_iret hC hRc hRs hZ hr rfl h d_AckBook_Chain_removeFirst_29
  · have h := z_ifp hc h
    refine lv_iconst (v := (-1 : Int32)) hC.1 hC.2.1 d_AckBook_Chain_removeFirst_7 (by decide) ?_
    exact x_iret hC hRc hRs hZ hr rfl h d_AckBook_Chain_removeFirst_8
def j_AckBook_Arrivals_firstNotAbove (F : Nat) : Nat → Option Nat → Int64 → Int32 → zW → zR
  | 0, _, _, _, _ => none
  | N + 1, rL0, yL1, xL3, w =>
    z_getI w 5 2 rL0 fun v1 =>
    if v1 ≤ xL3 then (
      z_getI w 5 2 rL0 fun v2 =>
      some (.inl (some (.int v2)), w))
    else (
      z_getR w 5 0 rL0 fun r3 =>
      z_len w r3 fun v4 =>
      if v4 ≤ xL3 then (
        z_getI w 5 2 rL0 fun v5 =>
        some (.inl (some (.int v5)), w))
      else (
        z_getR w 5 0 rL0 fun r6 =>
        z_ldL w r6 xL3 fun v7 =>
        if 0 < (lg_cmp v7 yL1) then (
          j_AckBook_Arrivals_firstNotAbove F N rL0 yL1 (xL3 + (1 : Int32)) w)
        else (
          some (.inl (some (.int xL3)), w))))
def f_AckBook_Arrivals_firstNotAbove (F : Nat) (a0 : Option Nat) (pJ1 : Int64) (w : zW) : zR :=
  j_AckBook_Arrivals_firstNotAbove F F a0 pJ1 (0 : Int32) w
set_option maxHeartbeats 4000000 in
set_option maxRecDepth 100000 in
theorem kj_AckBook_Arrivals_firstNotAbove {b0 : Nat} {H0 : Heap} {D : va_G} {ZS : List (String × String × String × Value)} {l : Launch} (hT : z_TB (zGG b0 H0 D ZS)) (hfl : l.flags = pinnedFlags ++ [noTraceFlag]) {p : Program} {e : Env} {R : Room} {s : State} {m : MethodId} {args : Array Value} {below : List Frame} {meth : Method} {c : Code} {w0 : zW} {F : Nat} (hC : z_C (zGG b0 H0 D ZS) p e s m meth c c_AckBook_Arrivals_firstNotAbove 4 y_AckBook_Arrivals_firstNotAbove.cls) (hr : meth.sig.returnType = (some FieldType.int)) (hRc : R.cells = w0.2.1) (hRs : R.slots = w0.2.2.1) (hFr : c.exceptionTable.toList = []) (hRt : R.frames = 0 ∧ R.locals = 0) (hnm : meth.name = y_AckBook_Arrivals_firstNotAbove.name) : ∀ N : Nat, (∀ (rL0 : Option Nat) (yL1 : Int64) (xL3 : Int32) (w : zW) (res : zO × zW), j_AckBook_Arrivals_firstNotAbove F N rL0 yL1 xL3 w = some res → ∀ (H : Heap) (locs : List Loc) (cells slots : Nat) (ls : Array Slot), z_Z (zGG b0 H0 D ZS) R s w H locs cells slots → lv_has ls 4 [(0, va_rf rL0), (1, .long yL1), (3, .int xL3)] → W p l e R s m args below meth c H locs cells slots (z_Q (zGG b0 H0 D ZS) below s w0 res) (F0 m 2 ls [])) := by
  intro N
  induction N with
  | zero =>
    intro rL0 yL1 xL3 w res h
    rw [j_AckBook_Arrivals_firstNotAbove] at h
    cases h
  | succ N ih =>
    intro rL0 yL1 xL3 w res h H locs cells slots ls hZ hl
    rw [j_AckBook_Arrivals_firstNotAbove] at h
    refine lv_iload_n hC.1 hC.2.1 d_AckBook_Arrivals_firstNotAbove_2 rfl (lv_at hl 2 rfl) ?_
    refine x_aload_n hC d_AckBook_Arrivals_firstNotAbove_3 rfl (lv_at hl 0 rfl) ?_
    refine x_getI hC hZ zc5 h (by decide) t_128 (fun _ h9 => h9) d_AckBook_Arrivals_firstNotAbove_4 (fun v1 h => ?_)
    refine lv_icmp_ge (tgt := 38) hC.1 hC.2.1 d_AckBook_Arrivals_firstNotAbove_7 (by decide) (fun hc => ?_) (fun hc => ?_)
    · have h := z_ifp hc h
      refine x_aload_n hC d_AckBook_Arrivals_firstNotAbove_38 rfl (lv_at hl 0 rfl) ?_
      refine x_getI hC hZ zc5 h (by decide) t_128 (fun _ h9 => h9) d_AckBook_Arrivals_firstNotAbove_39 (fun v2 h => ?_)
      exact x_iret hC hRc hRs hZ hr rfl h d_AckBook_Arrivals_firstNotAbove_42
    · have h := z_ifn hc h
      refine lv_iload_n hC.1 hC.2.1 d_AckBook_Arrivals_firstNotAbove_10 rfl (lv_at hl 2 rfl) ?_
      refine x_aload_n hC d_AckBook_Arrivals_firstNotAbove_11 rfl (lv_at hl 0 rfl) ?_
      refine x_getR hC hZ zc5 h (by decide) t_124 (fun _ h9 => h9) d_AckBook_Arrivals_firstNotAbove_12 (fun r3 h => ?_)
      refine x_len hC hZ h d_AckBook_Arrivals_firstNotAbove_15 (fun v4 h => ?_)
      refine lv_icmp_ge (tgt := 38) hC.1 hC.2.1 d_AckBook_Arrivals_firstNotAbove_16 (by decide) (fun hc => ?_) (fun hc => ?_)
      · have h := z_ifp hc h
        refine x_aload_n hC d_AckBook_Arrivals_firstNotAbove_38 rfl (lv_at hl 0 rfl) ?_
        refine x_getI hC hZ zc5 h (by decide) t_128 (fun _ h9 => h9) d_AckBook_Arrivals_firstNotAbove_39 (fun v5 h => ?_)
        exact x_iret hC hRc hRs hZ hr rfl h d_AckBook_Arrivals_firstNotAbove_42
      · have h := z_ifn hc h
        refine x_aload_n hC d_AckBook_Arrivals_firstNotAbove_19 rfl (lv_at hl 0 rfl) ?_
        refine x_getR hC hZ zc5 h (by decide) t_124 (fun _ h9 => h9) d_AckBook_Arrivals_firstNotAbove_20 (fun r6 h => ?_)
        refine lv_iload_n hC.1 hC.2.1 d_AckBook_Arrivals_firstNotAbove_23 rfl (lv_at hl 2 rfl) ?_
        refine x_ldL hC hZ h d_AckBook_Arrivals_firstNotAbove_24 (fun v7 h => ?_)
        refine lv_lload_n hC.1 hC.2.1 d_AckBook_Arrivals_firstNotAbove_25 rfl (lv_at hl 1 rfl) ?_
        refine W.lcmp hC.1 hC.2.1 d_AckBook_Arrivals_firstNotAbove_26 ?_
        refine lv_if_gt (tgt := 32) hC.1 hC.2.1 d_AckBook_Arrivals_firstNotAbove_27 (by decide) (fun hc => ?_) (fun hc => ?_)
        · have h := z_ifp hc h
          refine lv_iinc (lv' := [(3, .int (xL3 + (1 : Int32))), (0, va_rf rL0), (1, .long yL1)]) hC.1 hC.2.1 d_AckBook_Arrivals_firstNotAbove_32 hl (k := 2) rfl rfl (by decide) (by first | rfl | simp [z_rfc, z_ci, z_cj]) (fun ls hl => ?_)
          refine lv_goto (tgt := 2) hC.1 hC.2.1 d_AckBook_Arrivals_firstNotAbove_35 (by decide) ?_
          exact ih _ _ _ _ _ h _ _ _ _ _ hZ (lv_sub hl [1, 2, 0] rfl)
        · have h := z_ifn hc h
          refine lv_iload_n hC.1 hC.2.1 d_AckBook_Arrivals_firstNotAbove_30 rfl (lv_at hl 2 rfl) ?_
          exact x_iret hC hRc hRs hZ hr rfl h d_AckBook_Arrivals_firstNotAbove_31
set_option maxHeartbeats 4000000 in
set_option maxRecDepth 100000 in
theorem k_AckBook_Arrivals_firstNotAbove {b0 : Nat} {H0 : Heap} {D : va_G} {ZS : List (String × String × String × Value)} {l : Launch} (hT : z_TB (zGG b0 H0 D ZS)) (hfl : l.flags = pinnedFlags ++ [noTraceFlag]) {a0 : Option Nat} {pJ1 : Int64} (F : Nat) {w : zW} (res : zO × zW) (h : f_AckBook_Arrivals_firstNotAbove F a0 pJ1 w = some res) : z_Ct (zGG b0 H0 D ZS) l y_AckBook_Arrivals_firstNotAbove (.code y_AckBook_Arrivals_firstNotAbove c_AckBook_Arrivals_firstNotAbove 4 (some FieldType.int)) 0 0 [va_rf a0, .long pJ1] w res := by
  refine z_ct hT hfl (by decide) (by simp only [z_sl_i, z_sl_j, z_sl_r, z_sl_n]; decide) ?_
  intro p e R s m args below meth c hC hr hRc hRs hRt hnm hFr H ls hZ hl
  simp only [z_la_i, z_la_j, z_la_r, z_la_n] at hl
  have hl : lv_has ls 4 [(0, va_rf a0), (1, .long pJ1)] := hl
  unfold f_AckBook_Arrivals_firstNotAbove at h
  refine lv_iconst (v := (0 : Int32)) hC.1 hC.2.1 d_AckBook_Arrivals_firstNotAbove_0 (by decide) ?_
  refine lv_istore_n (lv' := [(3, .int (0 : Int32)), (0, va_rf a0), (1, .long pJ1)]) hC.1 hC.2.1 d_AckBook_Arrivals_firstNotAbove_1 rfl hl (by decide) (by first | rfl | simp [z_rfc, z_ci, z_cj]) (fun ls hl => ?_)
  exact (kj_AckBook_Arrivals_firstNotAbove hT hfl hC hr hRc hRs hFr hRt hnm F) _ _ _ _ _ h _ _ _ _ _ hZ (lv_sub hl [1, 2, 0] rfl)
def j_AckBook_Arrivals_remove (F : Nat) : Nat → Option Nat → Int32 → zW → zR
  | 0, _, _, _ => none
  | N + 1, rL0, xL2, w =>
    z_getI w 5 2 rL0 fun v1 =>
    if v1 ≤ xL2 then (
      some (.inl none, w))
    else (
      z_getR w 5 0 rL0 fun r2 =>
      z_getR w 5 0 rL0 fun r3 =>
      z_ldL w r3 (xL2 + (1 : Int32)) fun v4 =>
      z_stL w r2 xL2 v4 fun w =>
      z_getR w 5 1 rL0 fun r5 =>
      z_getR w 5 1 rL0 fun r6 =>
      z_ldL w r6 (xL2 + (1 : Int32)) fun v7 =>
      z_stL w r5 xL2 v7 fun w =>
      j_AckBook_Arrivals_remove F N rL0 (xL2 + (1 : Int32)) w)
def f_AckBook_Arrivals_remove (F : Nat) (a0 : Option Nat) (pI1 : Int32) (w : zW) : zR :=
  z_getI w 5 2 a0 fun v8 =>
  z_put w 5 2 a0 (.int (v8 - (1 : Int32))) fun w =>
  j_AckBook_Arrivals_remove F F a0 pI1 w
set_option maxHeartbeats 4000000 in
set_option maxRecDepth 100000 in
theorem kj_AckBook_Arrivals_remove {b0 : Nat} {H0 : Heap} {D : va_G} {ZS : List (String × String × String × Value)} {l : Launch} (hT : z_TB (zGG b0 H0 D ZS)) (hfl : l.flags = pinnedFlags ++ [noTraceFlag]) {p : Program} {e : Env} {R : Room} {s : State} {m : MethodId} {args : Array Value} {below : List Frame} {meth : Method} {c : Code} {w0 : zW} {F : Nat} (hC : z_C (zGG b0 H0 D ZS) p e s m meth c c_AckBook_Arrivals_remove 3 y_AckBook_Arrivals_remove.cls) (hr : meth.sig.returnType = (none)) (hRc : R.cells = w0.2.1) (hRs : R.slots = w0.2.2.1) (hFr : c.exceptionTable.toList = []) (hRt : R.frames = 0 ∧ R.locals = 0) (hnm : meth.name = y_AckBook_Arrivals_remove.name) : ∀ N : Nat, (∀ (rL0 : Option Nat) (xL2 : Int32) (w : zW) (res : zO × zW), j_AckBook_Arrivals_remove F N rL0 xL2 w = some res → ∀ (H : Heap) (locs : List Loc) (cells slots : Nat) (ls : Array Slot), z_Z (zGG b0 H0 D ZS) R s w H locs cells slots → lv_has ls 3 [(0, va_rf rL0), (2, .int xL2)] → W p l e R s m args below meth c H locs cells slots (z_Q (zGG b0 H0 D ZS) below s w0 res) (F0 m 12 ls [])) := by
  intro N
  induction N with
  | zero =>
    intro rL0 xL2 w res h
    rw [j_AckBook_Arrivals_remove] at h
    cases h
  | succ N ih =>
    intro rL0 xL2 w res h H locs cells slots ls hZ hl
    rw [j_AckBook_Arrivals_remove] at h
    refine lv_iload_n hC.1 hC.2.1 d_AckBook_Arrivals_remove_12 rfl (lv_at hl 1 rfl) ?_
    refine x_aload_n hC d_AckBook_Arrivals_remove_13 rfl (lv_at hl 0 rfl) ?_
    refine x_getI hC hZ zc5 h (by decide) t_128 (fun _ h9 => h9) d_AckBook_Arrivals_remove_14 (fun v1 h => ?_)
    refine lv_icmp_ge (tgt := 54) hC.1 hC.2.1 d_AckBook_Arrivals_remove_17 (by decide) (fun hc => ?_) (fun hc => ?_)
    · have h := z_ifp hc h
      exact x_vret hC hRc hRs hZ hr h d_AckBook_Arrivals_remove_54
    · have h := z_ifn hc h
      refine x_aload_n hC d_AckBook_Arrivals_remove_20 rfl (lv_at hl 0 rfl) ?_
      refine x_getR hC hZ zc5 h (by decide) t_124 (fun _ h9 => h9) d_AckBook_Arrivals_remove_21 (fun r2 h => ?_)
      refine lv_iload_n hC.1 hC.2.1 d_AckBook_Arrivals_remove_24 rfl (lv_at hl 1 rfl) ?_
      refine x_aload_n hC d_AckBook_Arrivals_remove_25 rfl (lv_at hl 0 rfl) ?_
      refine x_getR hC hZ zc5 h (by decide) t_124 (fun _ h9 => h9) d_AckBook_Arrivals_remove_26 (fun r3 h => ?_)
      refine lv_iload_n hC.1 hC.2.1 d_AckBook_Arrivals_remove_29 rfl (lv_at hl 1 rfl) ?_
      refine lv_iconst (v := (1 : Int32)) hC.1 hC.2.1 d_AckBook_Arrivals_remove_30 (by decide) ?_
      refine lv_iadd hC.1 hC.2.1 d_AckBook_Arrivals_remove_31 ?_
      refine x_ldL hC hZ h d_AckBook_Arrivals_remove_32 (fun v4 h => ?_)
      refine x_stL hC hZ h d_AckBook_Arrivals_remove_33 (fun w H locs hZ h => ?_)
      refine x_aload_n hC d_AckBook_Arrivals_remove_34 rfl (lv_at hl 0 rfl) ?_
      refine x_getR hC hZ zc5 h (by decide) t_126 (fun _ h9 => h9) d_AckBook_Arrivals_remove_35 (fun r5 h => ?_)
      refine lv_iload_n hC.1 hC.2.1 d_AckBook_Arrivals_remove_38 rfl (lv_at hl 1 rfl) ?_
      refine x_aload_n hC d_AckBook_Arrivals_remove_39 rfl (lv_at hl 0 rfl) ?_
      refine x_getR hC hZ zc5 h (by decide) t_126 (fun _ h9 => h9) d_AckBook_Arrivals_remove_40 (fun r6 h => ?_)
      refine lv_iload_n hC.1 hC.2.1 d_AckBook_Arrivals_remove_43 rfl (lv_at hl 1 rfl) ?_
      refine lv_iconst (v := (1 : Int32)) hC.1 hC.2.1 d_AckBook_Arrivals_remove_44 (by decide) ?_
      refine lv_iadd hC.1 hC.2.1 d_AckBook_Arrivals_remove_45 ?_
      refine x_ldL hC hZ h d_AckBook_Arrivals_remove_46 (fun v7 h => ?_)
      refine x_stL hC hZ h d_AckBook_Arrivals_remove_47 (fun w H locs hZ h => ?_)
      refine lv_iinc (lv' := [(2, .int (xL2 + (1 : Int32))), (0, va_rf rL0)]) hC.1 hC.2.1 d_AckBook_Arrivals_remove_48 hl (k := 1) rfl rfl (by decide) (by first | rfl | simp [z_rfc, z_ci, z_cj]) (fun ls hl => ?_)
      refine lv_goto (tgt := 12) hC.1 hC.2.1 d_AckBook_Arrivals_remove_51 (by decide) ?_
      exact ih _ _ _ _ h _ _ _ _ _ hZ (lv_sub hl [1, 0] rfl)
set_option maxHeartbeats 4000000 in
set_option maxRecDepth 100000 in
theorem k_AckBook_Arrivals_remove {b0 : Nat} {H0 : Heap} {D : va_G} {ZS : List (String × String × String × Value)} {l : Launch} (hT : z_TB (zGG b0 H0 D ZS)) (hfl : l.flags = pinnedFlags ++ [noTraceFlag]) {a0 : Option Nat} {pI1 : Int32} (F : Nat) {w : zW} (res : zO × zW) (h : f_AckBook_Arrivals_remove F a0 pI1 w = some res) : z_Ct (zGG b0 H0 D ZS) l y_AckBook_Arrivals_remove (.code y_AckBook_Arrivals_remove c_AckBook_Arrivals_remove 3 (none)) 0 0 [va_rf a0, .int pI1] w res := by
  refine z_ct hT hfl (by decide) (by simp only [z_sl_i, z_sl_j, z_sl_r, z_sl_n]; decide) ?_
  intro p e R s m args below meth c hC hr hRc hRs hRt hnm hFr H ls hZ hl
  simp only [z_la_i, z_la_j, z_la_r, z_la_n] at hl
  have hl : lv_has ls 3 [(0, va_rf a0), (1, .int pI1)] := hl
  unfold f_AckBook_Arrivals_remove at h
  refine x_aload_n hC d_AckBook_Arrivals_remove_0 rfl (lv_at hl 0 rfl) ?_
  refine lv_dup hC.1 hC.2.1 d_AckBook_Arrivals_remove_1 (z_rfc _) ?_
  refine x_getI hC hZ zc5 h (by decide) t_128 (fun _ h9 => h9) d_AckBook_Arrivals_remove_2 (fun v8 h => ?_)
  refine lv_iconst (v := (1 : Int32)) hC.1 hC.2.1 d_AckBook_Arrivals_remove_5 (by decide) ?_
  refine lv_isub hC.1 hC.2.1 d_AckBook_Arrivals_remove_6 ?_
  refine x_put hC hZ zc5 h (by decide) t_128 (fun _ h9 => h9) rfl rfl rfl rfl d_AckBook_Arrivals_remove_7 (fun w H locs hZ h => ?_)
  refine lv_iload_n hC.1 hC.2.1 d_AckBook_Arrivals_remove_10 rfl (lv_at hl 1 rfl) ?_
  refine lv_istore_n (lv' := [(2, .int pI1), (0, va_rf a0), (1, .int pI1)]) hC.1 hC.2.1 d_AckBook_Arrivals_remove_11 rfl hl (by decide) (by first | rfl | simp [z_rfc, z_ci, z_cj]) (fun ls hl => ?_)
  exact (kj_AckBook_Arrivals_remove hT hfl hC hr hRc hRs hFr hRt hnm F) _ _ _ _ h _ _ _ _ _ hZ (lv_sub hl [1, 0] rfl)
def j_AckBook_Arrivals_insert (F : Nat) : Nat → Option Nat → Int64 → Int32 → Int32 → zW → zR
  | 0, _, _, _, _, _ => none
  | N + 1, rL0, yL1, xL3, xL4, w =>
    if xL4 ≤ xL3 then (
      z_getR w 5 0 rL0 fun r1 =>
      z_stL w r1 xL3 yL1 fun w =>
      z_getR w 5 1 rL0 fun r2 =>
      z_stL w r2 xL3 yL1 fun w =>
      z_getI w 5 2 rL0 fun v3 =>
      z_put w 5 2 rL0 (.int (v3 + (1 : Int32))) fun w =>
      z_getI w 5 2 rL0 fun v4 =>
      if v4 ≤ (64 : Int32) then (
        some (.inl none, w))
      else (
        z_getI w 5 2 rL0 fun v5 =>
        z_put w 5 2 rL0 (.int (v5 - (1 : Int32))) fun w =>
        z_getR w 5 1 rL0 fun r6 =>
        z_getI w 5 2 rL0 fun v7 =>
        z_ldL w r6 v7 fun v8 =>
        z_put w 5 3 rL0 (.long (v8 + (1 : Int64))) fun w =>
        some (.inl none, w)))
    else (
      z_getR w 5 0 rL0 fun r9 =>
      z_getR w 5 0 rL0 fun r10 =>
      z_ldL w r10 (xL4 - (1 : Int32)) fun v11 =>
      z_stL w r9 xL4 v11 fun w =>
      z_getR w 5 1 rL0 fun r12 =>
      z_getR w 5 1 rL0 fun r13 =>
      z_ldL w r13 (xL4 - (1 : Int32)) fun v14 =>
      z_stL w r12 xL4 v14 fun w =>
      j_AckBook_Arrivals_insert F N rL0 yL1 xL3 (xL4 + (-1 : Int32)) w)
def f_AckBook_Arrivals_insert (F : Nat) (a0 : Option Nat) (pJ1 : Int64) (pI2 : Int32) (w : zW) : zR :=
  z_getI w 5 2 a0 fun v15 =>
  j_AckBook_Arrivals_insert F F a0 pJ1 pI2 v15 w
set_option maxHeartbeats 4000000 in
set_option maxRecDepth 100000 in
theorem kj_AckBook_Arrivals_insert {b0 : Nat} {H0 : Heap} {D : va_G} {ZS : List (String × String × String × Value)} {l : Launch} (hT : z_TB (zGG b0 H0 D ZS)) (hfl : l.flags = pinnedFlags ++ [noTraceFlag]) {p : Program} {e : Env} {R : Room} {s : State} {m : MethodId} {args : Array Value} {below : List Frame} {meth : Method} {c : Code} {w0 : zW} {F : Nat} (hC : z_C (zGG b0 H0 D ZS) p e s m meth c c_AckBook_Arrivals_insert 5 y_AckBook_Arrivals_insert.cls) (hr : meth.sig.returnType = (none)) (hRc : R.cells = w0.2.1) (hRs : R.slots = w0.2.2.1) (hFr : c.exceptionTable.toList = []) (hRt : R.frames = 0 ∧ R.locals = 0) (hnm : meth.name = y_AckBook_Arrivals_insert.name) : ∀ N : Nat, (∀ (rL0 : Option Nat) (yL1 : Int64) (xL3 : Int32) (xL4 : Int32) (w : zW) (res : zO × zW), j_AckBook_Arrivals_insert F N rL0 yL1 xL3 xL4 w = some res → ∀ (H : Heap) (locs : List Loc) (cells slots : Nat) (ls : Array Slot), z_Z (zGG b0 H0 D ZS) R s w H locs cells slots → lv_has ls 5 [(0, va_rf rL0), (1, .long yL1), (3, .int xL3), (4, .int xL4)] → W p l e R s m args below meth c H locs cells slots (z_Q (zGG b0 H0 D ZS) below s w0 res) (F0 m 6 ls [])) := by
  intro N
  induction N with
  | zero =>
    intro rL0 yL1 xL3 xL4 w res h
    rw [j_AckBook_Arrivals_insert] at h
    cases h
  | succ N ih =>
    intro rL0 yL1 xL3 xL4 w res h H locs cells slots ls hZ hl
    rw [j_AckBook_Arrivals_insert] at h
    refine lv_iload hC.1 hC.2.1 d_AckBook_Arrivals_insert_6 (lv_at hl 3 rfl) ?_
    refine lv_iload_n hC.1 hC.2.1 d_AckBook_Arrivals_insert_8 rfl (lv_at hl 2 rfl) ?_
    refine lv_icmp_le (tgt := 50) hC.1 hC.2.1 d_AckBook_Arrivals_insert_9 (by decide) (fun hc => ?_) (fun hc => ?_)
    · have h := z_ifp hc h
      refine x_aload_n hC d_AckBook_Arrivals_insert_50 rfl (lv_at hl 0 rfl) ?_
      refine x_getR hC hZ zc5 h (by decide) t_124 (fun _ h9 => h9) d_AckBook_Arrivals_insert_51 (fun r1 h => ?_)
      refine lv_iload_n hC.1 hC.2.1 d_AckBook_Arrivals_insert_54 rfl (lv_at hl 2 rfl) ?_
      refine lv_lload_n hC.1 hC.2.1 d_AckBook_Arrivals_insert_55 rfl (lv_at hl 1 rfl) ?_
      refine x_stL hC hZ h d_AckBook_Arrivals_insert_56 (fun w H locs hZ h => ?_)
      refine x_aload_n hC d_AckBook_Arrivals_insert_57 rfl (lv_at hl 0 rfl) ?_
      refine x_getR hC hZ zc5 h (by decide) t_126 (fun _ h9 => h9) d_AckBook_Arrivals_insert_58 (fun r2 h => ?_)
      refine lv_iload_n hC.1 hC.2.1 d_AckBook_Arrivals_insert_61 rfl (lv_at hl 2 rfl) ?_
      refine lv_lload_n hC.1 hC.2.1 d_AckBook_Arrivals_insert_62 rfl (lv_at hl 1 rfl) ?_
      refine x_stL hC hZ h d_AckBook_Arrivals_insert_63 (fun w H locs hZ h => ?_)
      refine x_aload_n hC d_AckBook_Arrivals_insert_64 rfl (lv_at hl 0 rfl) ?_
      refine lv_dup hC.1 hC.2.1 d_AckBook_Arrivals_insert_65 (z_rfc _) ?_
      refine x_getI hC hZ zc5 h (by decide) t_128 (fun _ h9 => h9) d_AckBook_Arrivals_insert_66 (fun v3 h => ?_)
      refine lv_iconst (v := (1 : Int32)) hC.1 hC.2.1 d_AckBook_Arrivals_insert_69 (by decide) ?_
      refine lv_iadd hC.1 hC.2.1 d_AckBook_Arrivals_insert_70 ?_
      refine x_put hC hZ zc5 h (by decide) t_128 (fun _ h9 => h9) rfl rfl rfl rfl d_AckBook_Arrivals_insert_71 (fun w H locs hZ h => ?_)
      refine x_aload_n hC d_AckBook_Arrivals_insert_74 rfl (lv_at hl 0 rfl) ?_
      refine x_getI hC hZ zc5 h (by decide) t_128 (fun _ h9 => h9) d_AckBook_Arrivals_insert_75 (fun v4 h => ?_)
      refine lv_bipush (v := (64 : Int32)) hC.1 hC.2.1 d_AckBook_Arrivals_insert_78 (by decide) ?_
      refine lv_icmp_le (tgt := 108) hC.1 hC.2.1 d_AckBook_Arrivals_insert_80 (by decide) (fun hc => ?_) (fun hc => ?_)
      · have h := z_ifp hc h
        exact x_vret hC hRc hRs hZ hr h d_AckBook_Arrivals_insert_108
      · have h := z_ifn hc h
        refine x_aload_n hC d_AckBook_Arrivals_insert_83 rfl (lv_at hl 0 rfl) ?_
        refine lv_dup hC.1 hC.2.1 d_AckBook_Arrivals_insert_84 (z_rfc _) ?_
        refine x_getI hC hZ zc5 h (by decide) t_128 (fun _ h9 => h9) d_AckBook_Arrivals_insert_85 (fun v5 h => ?_)
        refine lv_iconst (v := (1 : Int32)) hC.1 hC.2.1 d_AckBook_Arrivals_insert_88 (by decide) ?_
        refine lv_isub hC.1 hC.2.1 d_AckBook_Arrivals_insert_89 ?_
        refine x_put hC hZ zc5 h (by decide) t_128 (fun _ h9 => h9) rfl rfl rfl rfl d_AckBook_Arrivals_insert_90 (fun w H locs hZ h => ?_)
        refine x_aload_n hC d_AckBook_Arrivals_insert_93 rfl (lv_at hl 0 rfl) ?_
        refine x_aload_n hC d_AckBook_Arrivals_insert_94 rfl (lv_at hl 0 rfl) ?_
        refine x_getR hC hZ zc5 h (by decide) t_126 (fun _ h9 => h9) d_AckBook_Arrivals_insert_95 (fun r6 h => ?_)
        refine x_aload_n hC d_AckBook_Arrivals_insert_98 rfl (lv_at hl 0 rfl) ?_
        refine x_getI hC hZ zc5 h (by decide) t_128 (fun _ h9 => h9) d_AckBook_Arrivals_insert_99 (fun v7 h => ?_)
        refine x_ldL hC hZ h d_AckBook_Arrivals_insert_102 (fun v8 h => ?_)
        refine lv_lconst (v := (1 : Int64)) hC.1 hC.2.1 d_AckBook_Arrivals_insert_103 (by decide) ?_
        refine lv_ladd hC.1 hC.2.1 d_AckBook_Arrivals_insert_104 ?_
        refine x_put hC hZ zc5 h (by decide) t_130 (fun _ h9 => h9) rfl rfl rfl rfl d_AckBook_Arrivals_insert_105 (fun w H locs hZ h => ?_)
        exact x_vret hC hRc hRs hZ hr h d_AckBook_Arrivals_insert_108
    · have h := z_ifn hc h
      refine x_aload_n hC d_AckBook_Arrivals_insert_12 rfl (lv_at hl 0 rfl) ?_
      refine x_getR hC hZ zc5 h (by decide) t_124 (fun _ h9 => h9) d_AckBook_Arrivals_insert_13 (fun r9 h => ?_)
      refine lv_iload hC.1 hC.2.1 d_AckBook_Arrivals_insert_16 (lv_at hl 3 rfl) ?_
      refine x_aload_n hC d_AckBook_Arrivals_insert_18 rfl (lv_at hl 0 rfl) ?_
      refine x_getR hC hZ zc5 h (by decide) t_124 (fun _ h9 => h9) d_AckBook_Arrivals_insert_19 (fun r10 h => ?_)
      refine lv_iload hC.1 hC.2.1 d_AckBook_Arrivals_insert_22 (lv_at hl 3 rfl) ?_
      refine lv_iconst (v := (1 : Int32)) hC.1 hC.2.1 d_AckBook_Arrivals_insert_24 (by decide) ?_
      refine lv_isub hC.1 hC.2.1 d_AckBook_Arrivals_insert_25 ?_
      refine x_ldL hC hZ h d_AckBook_Arrivals_insert_26 (fun v11 h => ?_)
      refine x_stL hC hZ h d_AckBook_Arrivals_insert_27 (fun w H locs hZ h => ?_)
      refine x_aload_n hC d_AckBook_Arrivals_insert_28 rfl (lv_at hl 0 rfl) ?_
      refine x_getR hC hZ zc5 h (by decide) t_126 (fun _ h9 => h9) d_AckBook_Arrivals_insert_29 (fun r12 h => ?_)
      refine lv_iload hC.1 hC.2.1 d_AckBook_Arrivals_insert_32 (lv_at hl 3 rfl) ?_
      refine x_aload_n hC d_AckBook_Arrivals_insert_34 rfl (lv_at hl 0 rfl) ?_
      refine x_getR hC hZ zc5 h (by decide) t_126 (fun _ h9 => h9) d_AckBook_Arrivals_insert_35 (fun r13 h => ?_)
      refine lv_iload hC.1 hC.2.1 d_AckBook_Arrivals_insert_38 (lv_at hl 3 rfl) ?_
      refine lv_iconst (v := (1 : Int32)) hC.1 hC.2.1 d_AckBook_Arrivals_insert_40 (by decide) ?_
      refine lv_isub hC.1 hC.2.1 d_AckBook_Arrivals_insert_41 ?_
      refine x_ldL hC hZ h d_AckBook_Arrivals_insert_42 (fun v14 h => ?_)
      refine x_stL hC hZ h d_AckBook_Arrivals_insert_43 (fun w H locs hZ h => ?_)
      refine lv_iinc (lv' := [(4, .int (xL4 + (-1 : Int32))), (0, va_rf rL0), (1, .long yL1), (3, .int xL3)]) hC.1 hC.2.1 d_AckBook_Arrivals_insert_44 hl (k := 3) rfl rfl (by decide) (by first | rfl | simp [z_rfc, z_ci, z_cj]) (fun ls hl => ?_)
      refine lv_goto (tgt := 6) hC.1 hC.2.1 d_AckBook_Arrivals_insert_47 (by decide) ?_
      exact ih _ _ _ _ _ _ h _ _ _ _ _ hZ (lv_sub hl [1, 2, 3, 0] rfl)
set_option maxHeartbeats 4000000 in
set_option maxRecDepth 100000 in
theorem k_AckBook_Arrivals_insert {b0 : Nat} {H0 : Heap} {D : va_G} {ZS : List (String × String × String × Value)} {l : Launch} (hT : z_TB (zGG b0 H0 D ZS)) (hfl : l.flags = pinnedFlags ++ [noTraceFlag]) {a0 : Option Nat} {pJ1 : Int64} {pI2 : Int32} (F : Nat) {w : zW} (res : zO × zW) (h : f_AckBook_Arrivals_insert F a0 pJ1 pI2 w = some res) : z_Ct (zGG b0 H0 D ZS) l y_AckBook_Arrivals_insert (.code y_AckBook_Arrivals_insert c_AckBook_Arrivals_insert 5 (none)) 0 0 [va_rf a0, .long pJ1, .int pI2] w res := by
  refine z_ct hT hfl (by decide) (by simp only [z_sl_i, z_sl_j, z_sl_r, z_sl_n]; decide) ?_
  intro p e R s m args below meth c hC hr hRc hRs hRt hnm hFr H ls hZ hl
  simp only [z_la_i, z_la_j, z_la_r, z_la_n] at hl
  have hl : lv_has ls 5 [(0, va_rf a0), (1, .long pJ1), (3, .int pI2)] := hl
  unfold f_AckBook_Arrivals_insert at h
  refine x_aload_n hC d_AckBook_Arrivals_insert_0 rfl (lv_at hl 0 rfl) ?_
  refine x_getI hC hZ zc5 h (by decide) t_128 (fun _ h9 => h9) d_AckBook_Arrivals_insert_1 (fun v15 h => ?_)
  refine lv_istore (lv' := [(4, .int v15), (0, va_rf a0), (1, .long pJ1), (3, .int pI2)]) hC.1 hC.2.1 d_AckBook_Arrivals_insert_4 hl (by decide) (by first | rfl | simp [z_rfc, z_ci, z_cj]) (fun ls hl => ?_)
  exact (kj_AckBook_Arrivals_insert hT hfl hC hr hRc hRs hFr hRt hnm F) _ _ _ _ _ _ h _ _ _ _ _ hZ (lv_sub hl [1, 2, 3, 0] rfl)
def f_AckBook_Arrivals_keep (F : Nat) (a0 : Option Nat) (pJ1 : Int64) (pI2 : Int32) (w : zW) : zR :=
  if pI2 ≤ 0 then (
    z_getI w 5 2 a0 fun v1 =>
    if v1 ≤ pI2 then (
      z_this w 5 a0 <|
      z_cV (f_AckBook_Arrivals_insert F a0 pJ1 pI2 w) fun w =>
      some (.inl none, w))
    else (
      z_getR w 5 1 a0 fun r3 =>
      z_ldL w r3 pI2 fun v4 =>
      if (lg_cmp v4 (pJ1 - (1 : Int64))) = 0 then (
        z_getR w 5 1 a0 fun r5 =>
        z_stL w r5 pI2 pJ1 fun w =>
        some (.inl none, w))
      else (
        z_this w 5 a0 <|
        z_cV (f_AckBook_Arrivals_insert F a0 pJ1 pI2 w) fun w =>
        some (.inl none, w))))
  else (
    z_getR w 5 0 a0 fun r7 =>
    z_ldL w r7 (pI2 - (1 : Int32)) fun v8 =>
    if (lg_cmp v8 (pJ1 + (1 : Int64))) = 0 then (
      z_getI w 5 2 a0 fun v9 =>
      if v9 ≤ pI2 then (
        z_getR w 5 0 a0 fun r10 =>
        z_stL w r10 (pI2 - (1 : Int32)) pJ1 fun w =>
        some (.inl none, w))
      else (
        z_getR w 5 1 a0 fun r11 =>
        z_ldL w r11 pI2 fun v12 =>
        if (lg_cmp v12 (pJ1 - (1 : Int64))) = 0 then (
          z_getR w 5 0 a0 fun r13 =>
          z_getR w 5 0 a0 fun r14 =>
          z_ldL w r14 pI2 fun v15 =>
          z_stL w r13 (pI2 - (1 : Int32)) v15 fun w =>
          z_this w 5 a0 <|
          z_cV (f_AckBook_Arrivals_remove F a0 pI2 w) fun w =>
          some (.inl none, w))
        else (
          z_getR w 5 0 a0 fun r17 =>
          z_stL w r17 (pI2 - (1 : Int32)) pJ1 fun w =>
          some (.inl none, w))))
    else (
      z_getI w 5 2 a0 fun v18 =>
      if v18 ≤ pI2 then (
        z_this w 5 a0 <|
        z_cV (f_AckBook_Arrivals_insert F a0 pJ1 pI2 w) fun w =>
        some (.inl none, w))
      else (
        z_getR w 5 1 a0 fun r20 =>
        z_ldL w r20 pI2 fun v21 =>
        if (lg_cmp v21 (pJ1 - (1 : Int64))) = 0 then (
          z_getR w 5 1 a0 fun r22 =>
          z_stL w r22 pI2 pJ1 fun w =>
          some (.inl none, w))
        else (
          z_this w 5 a0 <|
          z_cV (f_AckBook_Arrivals_insert F a0 pJ1 pI2 w) fun w =>
          some (.inl none, w)))))
set_option maxHeartbeats 4000000 in
set_option maxRecDepth 100000 in
theorem k_AckBook_Arrivals_keep {b0 : Nat} {H0 : Heap} {D : va_G} {ZS : List (String × String × String × Value)} {l : Launch} (hT : z_TB (zGG b0 H0 D ZS)) (hfl : l.flags = pinnedFlags ++ [noTraceFlag]) {a0 : Option Nat} {pJ1 : Int64} {pI2 : Int32} (F : Nat) {w : zW} (res : zO × zW) (h : f_AckBook_Arrivals_keep F a0 pJ1 pI2 w = some res) : z_Ct (zGG b0 H0 D ZS) l y_AckBook_Arrivals_keep (.code y_AckBook_Arrivals_keep c_AckBook_Arrivals_keep 6 (none)) 1 24 [va_rf a0, .long pJ1, .int pI2] w res := by
  refine z_ct hT hfl (by decide) (by simp only [z_sl_i, z_sl_j, z_sl_r, z_sl_n]; decide) ?_
  intro p e R s m args below meth c hC hr hRc hRs hRt hnm hFr H ls hZ hl
  simp only [z_la_i, z_la_j, z_la_r, z_la_n] at hl
  have hl : lv_has ls 6 [(0, va_rf a0), (1, .long pJ1), (3, .int pI2)] := hl
  unfold f_AckBook_Arrivals_keep at h
  refine lv_iload_n hC.1 hC.2.1 d_AckBook_Arrivals_keep_0 rfl (lv_at hl 2 rfl) ?_
  refine lv_if_le (tgt := 23) hC.1 hC.2.1 d_AckBook_Arrivals_keep_1 (by decide) (fun hc => ?_) (fun hc => ?_)
  · have h := z_ifp hc h
    refine lv_iconst (v := (0 : Int32)) hC.1 hC.2.1 d_AckBook_Arrivals_keep_23 (by decide) ?_
    refine lv_istore (lv' := [(4, .int (0 : Int32)), (0, va_rf a0), (1, .long pJ1), (3, .int pI2)]) hC.1 hC.2.1 d_AckBook_Arrivals_keep_24 hl (by decide) (by first | rfl | simp [z_rfc, z_ci, z_cj]) (fun ls hl => ?_)
    refine lv_iload_n hC.1 hC.2.1 d_AckBook_Arrivals_keep_26 rfl (lv_at hl 3 rfl) ?_
    refine x_aload_n hC d_AckBook_Arrivals_keep_27 rfl (lv_at hl 1 rfl) ?_
    refine x_getI hC hZ zc5 h (by decide) t_128 (fun _ h9 => h9) d_AckBook_Arrivals_keep_28 (fun v1 h => ?_)
    refine lv_icmp_ge (tgt := 51) hC.1 hC.2.1 d_AckBook_Arrivals_keep_31 (by decide) (fun hc => ?_) (fun hc => ?_)
    · have h := z_ifp hc h
      refine lv_iconst (v := (0 : Int32)) hC.1 hC.2.1 d_AckBook_Arrivals_keep_51 (by decide) ?_
      refine lv_istore (lv' := [(5, .int (0 : Int32)), (4, .int (0 : Int32)), (0, va_rf a0), (1, .long pJ1), (3, .int pI2)]) hC.1 hC.2.1 d_AckBook_Arrivals_keep_52 hl (by decide) (by first | rfl | simp [z_rfc, z_ci, z_cj]) (fun ls hl => ?_)
      refine lv_iload hC.1 hC.2.1 d_AckBook_Arrivals_keep_54 (lv_at hl 1 rfl) ?_
      refine lv_if_eq (tgt := 86) hC.1 hC.2.1 d_AckBook_Arrivals_keep_56 (by decide) (fun _ => ?_) (fun hc => absurd hc (by decide))
      refine lv_iload hC.1 hC.2.1 d_AckBook_Arrivals_keep_86 (lv_at hl 1 rfl) ?_
      refine lv_if_eq (tgt := 103) hC.1 hC.2.1 d_AckBook_Arrivals_keep_88 (by decide) (fun _ => ?_) (fun hc => absurd hc (by decide))
      refine lv_iload hC.1 hC.2.1 d_AckBook_Arrivals_keep_103 (lv_at hl 0 rfl) ?_
      refine lv_if_eq (tgt := 118) hC.1 hC.2.1 d_AckBook_Arrivals_keep_105 (by decide) (fun _ => ?_) (fun hc => absurd hc (by decide))
      refine x_aload_n hC d_AckBook_Arrivals_keep_118 rfl (lv_at hl 2 rfl) ?_
      refine lv_lload_n hC.1 hC.2.1 d_AckBook_Arrivals_keep_119 rfl (lv_at hl 3 rfl) ?_
      refine lv_iload_n hC.1 hC.2.1 d_AckBook_Arrivals_keep_120 rfl (lv_at hl 4 rfl) ?_
      obtain ⟨a_, fs_, eo_, h⟩ := z_this_spec h
      obtain ⟨w1_, o1_, hF_, ha_⟩ := z_cV_spec h
      refine x_goes hC hRc hRs hFr ha_ (z_goV (As := [.long pJ1, .int pI2]) hC hZ zc5 eo_ (k_AckBook_Arrivals_insert hT hfl _ _ hF_) t_742 t_744 ts_AckBook_Arrivals_insert t_8 t_745 ⟨by decide, by decide, (by decide +kernel : (parseMethodDescriptor y_AckBook_Arrivals_insert.desc).map (fun d => d.parameters.length) = some 2)⟩ (by rw [hRt.1]; decide) (by rw [hRt.2]; decide) hl.1 rfl (by first | exact Nat.le_of_ble_eq_true rfl | simp [z_rfc, z_ci, z_cj]) d_AckBook_Arrivals_keep_121) (fun v_ hv H locs cells slots hZ => ?_)
      obtain ⟨rfl, h⟩ := hv
      generalize w1_ = w at h hZ
      exact x_vret hC hRc hRs hZ hr h d_AckBook_Arrivals_keep_124
    · have h := z_ifn hc h
      refine x_aload_n hC d_AckBook_Arrivals_keep_34 rfl (lv_at hl 1 rfl) ?_
      refine x_getR hC hZ zc5 h (by decide) t_126 (fun _ h9 => h9) d_AckBook_Arrivals_keep_35 (fun r3 h => ?_)
      refine lv_iload_n hC.1 hC.2.1 d_AckBook_Arrivals_keep_38 rfl (lv_at hl 3 rfl) ?_
      refine x_ldL hC hZ h d_AckBook_Arrivals_keep_39 (fun v4 h => ?_)
      refine lv_lload_n hC.1 hC.2.1 d_AckBook_Arrivals_keep_40 rfl (lv_at hl 2 rfl) ?_
      refine lv_lconst (v := (1 : Int64)) hC.1 hC.2.1 d_AckBook_Arrivals_keep_41 (by decide) ?_
      refine lv_lsub hC.1 hC.2.1 d_AckBook_Arrivals_keep_42 ?_
      refine W.lcmp hC.1 hC.2.1 d_AckBook_Arrivals_keep_43 ?_
      refine lv_if_ne (tgt := 51) hC.1 hC.2.1 d_AckBook_Arrivals_keep_44 (by decide) (fun hc => ?_) (fun hc => ?_)
      · have h := z_ifn hc h
        refine lv_iconst (v := (0 : Int32)) hC.1 hC.2.1 d_AckBook_Arrivals_keep_51 (by decide) ?_
        refine lv_istore (lv' := [(5, .int (0 : Int32)), (4, .int (0 : Int32)), (0, va_rf a0), (1, .long pJ1), (3, .int pI2)]) hC.1 hC.2.1 d_AckBook_Arrivals_keep_52 hl (by decide) (by first | rfl | simp [z_rfc, z_ci, z_cj]) (fun ls hl => ?_)
        refine lv_iload hC.1 hC.2.1 d_AckBook_Arrivals_keep_54 (lv_at hl 1 rfl) ?_
        refine lv_if_eq (tgt := 86) hC.1 hC.2.1 d_AckBook_Arrivals_keep_56 (by decide) (fun _ => ?_) (fun hc => absurd hc (by decide))
        refine lv_iload hC.1 hC.2.1 d_AckBook_Arrivals_keep_86 (lv_at hl 1 rfl) ?_
        refine lv_if_eq (tgt := 103) hC.1 hC.2.1 d_AckBook_Arrivals_keep_88 (by decide) (fun _ => ?_) (fun hc => absurd hc (by decide))
        refine lv_iload hC.1 hC.2.1 d_AckBook_Arrivals_keep_103 (lv_at hl 0 rfl) ?_
        refine lv_if_eq (tgt := 118) hC.1 hC.2.1 d_AckBook_Arrivals_keep_105 (by decide) (fun _ => ?_) (fun hc => absurd hc (by decide))
        refine x_aload_n hC d_AckBook_Arrivals_keep_118 rfl (lv_at hl 2 rfl) ?_
        refine lv_lload_n hC.1 hC.2.1 d_AckBook_Arrivals_keep_119 rfl (lv_at hl 3 rfl) ?_
        refine lv_iload_n hC.1 hC.2.1 d_AckBook_Arrivals_keep_120 rfl (lv_at hl 4 rfl) ?_
        obtain ⟨a_, fs_, eo_, h⟩ := z_this_spec h
        obtain ⟨w1_, o1_, hF_, ha_⟩ := z_cV_spec h
        refine x_goes hC hRc hRs hFr ha_ (z_goV (As := [.long pJ1, .int pI2]) hC hZ zc5 eo_ (k_AckBook_Arrivals_insert hT hfl _ _ hF_) t_742 t_744 ts_AckBook_Arrivals_insert t_8 t_745 ⟨by decide, by decide, (by decide +kernel : (parseMethodDescriptor y_AckBook_Arrivals_insert.desc).map (fun d => d.parameters.length) = some 2)⟩ (by rw [hRt.1]; decide) (by rw [hRt.2]; decide) hl.1 rfl (by first | exact Nat.le_of_ble_eq_true rfl | simp [z_rfc, z_ci, z_cj]) d_AckBook_Arrivals_keep_121) (fun v_ hv H locs cells slots hZ => ?_)
        obtain ⟨rfl, h⟩ := hv
        generalize w1_ = w at h hZ
        exact x_vret hC hRc hRs hZ hr h d_AckBook_Arrivals_keep_124
      · have h := z_ifp hc h
        refine lv_iconst (v := (1 : Int32)) hC.1 hC.2.1 d_AckBook_Arrivals_keep_47 (by decide) ?_
        refine lv_goto (tgt := 52) hC.1 hC.2.1 d_AckBook_Arrivals_keep_48 (by decide) ?_
        refine lv_istore (lv' := [(5, .int (1 : Int32)), (4, .int (0 : Int32)), (0, va_rf a0), (1, .long pJ1), (3, .int pI2)]) hC.1 hC.2.1 d_AckBook_Arrivals_keep_52 hl (by decide) (by first | rfl | simp [z_rfc, z_ci, z_cj]) (fun ls hl => ?_)
        refine lv_iload hC.1 hC.2.1 d_AckBook_Arrivals_keep_54 (lv_at hl 1 rfl) ?_
        refine lv_if_eq (tgt := 86) hC.1 hC.2.1 d_AckBook_Arrivals_keep_56 (by decide) (fun _ => ?_) (fun hc => absurd hc (by decide))
        refine lv_iload hC.1 hC.2.1 d_AckBook_Arrivals_keep_86 (lv_at hl 1 rfl) ?_
        refine lv_if_eq (tgt := 103) hC.1 hC.2.1 d_AckBook_Arrivals_keep_88 (by decide) (fun _ => ?_) (fun hc => absurd hc (by decide))
        refine lv_iload hC.1 hC.2.1 d_AckBook_Arrivals_keep_103 (lv_at hl 0 rfl) ?_
        refine lv_if_eq (tgt := 118) hC.1 hC.2.1 d_AckBook_Arrivals_keep_105 (by decide) (fun hc => absurd hc (by decide)) (fun _ => ?_)
        refine x_aload_n hC d_AckBook_Arrivals_keep_108 rfl (lv_at hl 2 rfl) ?_
        refine x_getR hC hZ zc5 h (by decide) t_126 (fun _ h9 => h9) d_AckBook_Arrivals_keep_109 (fun r5 h => ?_)
        refine lv_iload_n hC.1 hC.2.1 d_AckBook_Arrivals_keep_112 rfl (lv_at hl 4 rfl) ?_
        refine lv_lload_n hC.1 hC.2.1 d_AckBook_Arrivals_keep_113 rfl (lv_at hl 3 rfl) ?_
        refine x_stL hC hZ h d_AckBook_Arrivals_keep_114 (fun w H locs hZ h => ?_)
        refine lv_goto (tgt := 124) hC.1 hC.2.1 d_AckBook_Arrivals_keep_115 (by decide) ?_
        exact x_vret hC hRc hRs hZ hr h d_AckBook_Arrivals_keep_124
  · have h := z_ifn hc h
    refine x_aload_n hC d_AckBook_Arrivals_keep_4 rfl (lv_at hl 0 rfl) ?_
    refine x_getR hC hZ zc5 h (by decide) t_124 (fun _ h9 => h9) d_AckBook_Arrivals_keep_5 (fun r7 h => ?_)
    refine lv_iload_n hC.1 hC.2.1 d_AckBook_Arrivals_keep_8 rfl (lv_at hl 2 rfl) ?_
    refine lv_iconst (v := (1 : Int32)) hC.1 hC.2.1 d_AckBook_Arrivals_keep_9 (by decide) ?_
    refine lv_isub hC.1 hC.2.1 d_AckBook_Arrivals_keep_10 ?_
    refine x_ldL hC hZ h d_AckBook_Arrivals_keep_11 (fun v8 h => ?_)
    refine lv_lload_n hC.1 hC.2.1 d_AckBook_Arrivals_keep_12 rfl (lv_at hl 1 rfl) ?_
    refine lv_lconst (v := (1 : Int64)) hC.1 hC.2.1 d_AckBook_Arrivals_keep_13 (by decide) ?_
    refine lv_ladd hC.1 hC.2.1 d_AckBook_Arrivals_keep_14 ?_
    refine W.lcmp hC.1 hC.2.1 d_AckBook_Arrivals_keep_15 ?_
    refine lv_if_ne (tgt := 23) hC.1 hC.2.1 d_AckBook_Arrivals_keep_16 (by decide) (fun hc => ?_) (fun hc => ?_)
    · have h := z_ifn hc h
      refine lv_iconst (v := (0 : Int32)) hC.1 hC.2.1 d_AckBook_Arrivals_keep_23 (by decide) ?_
      refine lv_istore (lv' := [(4, .int (0 : Int32)), (0, va_rf a0), (1, .long pJ1), (3, .int pI2)]) hC.1 hC.2.1 d_AckBook_Arrivals_keep_24 hl (by decide) (by first | rfl | simp [z_rfc, z_ci, z_cj]) (fun ls hl => ?_)
      refine lv_iload_n hC.1 hC.2.1 d_AckBook_Arrivals_keep_26 rfl (lv_at hl 3 rfl) ?_
      refine x_aload_n hC d_AckBook_Arrivals_keep_27 rfl (lv_at hl 1 rfl) ?_
      refine x_getI hC hZ zc5 h (by decide) t_128 (fun _ h9 => h9) d_AckBook_Arrivals_keep_28 (fun v18 h => ?_)
      refine lv_icmp_ge (tgt := 51) hC.1 hC.2.1 d_AckBook_Arrivals_keep_31 (by decide) (fun hc => ?_) (fun hc => ?_)
      · have h := z_ifp hc h
        refine lv_iconst (v := (0 : Int32)) hC.1 hC.2.1 d_AckBook_Arrivals_keep_51 (by decide) ?_
        refine lv_istore (lv' := [(5, .int (0 : Int32)), (4, .int (0 : Int32)), (0, va_rf a0), (1, .long pJ1), (3, .int pI2)]) hC.1 hC.2.1 d_AckBook_Arrivals_keep_52 hl (by decide) (by first | rfl | simp [z_rfc, z_ci, z_cj]) (fun ls hl => ?_)
        refine lv_iload hC.1 hC.2.1 d_AckBook_Arrivals_keep_54 (lv_at hl 1 rfl) ?_
        refine lv_if_eq (tgt := 86) hC.1 hC.2.1 d_AckBook_Arrivals_keep_56 (by decide) (fun _ => ?_) (fun hc => absurd hc (by decide))
        refine lv_iload hC.1 hC.2.1 d_AckBook_Arrivals_keep_86 (lv_at hl 1 rfl) ?_
        refine lv_if_eq (tgt := 103) hC.1 hC.2.1 d_AckBook_Arrivals_keep_88 (by decide) (fun _ => ?_) (fun hc => absurd hc (by decide))
        refine lv_iload hC.1 hC.2.1 d_AckBook_Arrivals_keep_103 (lv_at hl 0 rfl) ?_
        refine lv_if_eq (tgt := 118) hC.1 hC.2.1 d_AckBook_Arrivals_keep_105 (by decide) (fun _ => ?_) (fun hc => absurd hc (by decide))
        refine x_aload_n hC d_AckBook_Arrivals_keep_118 rfl (lv_at hl 2 rfl) ?_
        refine lv_lload_n hC.1 hC.2.1 d_AckBook_Arrivals_keep_119 rfl (lv_at hl 3 rfl) ?_
        refine lv_iload_n hC.1 hC.2.1 d_AckBook_Arrivals_keep_120 rfl (lv_at hl 4 rfl) ?_
        obtain ⟨a_, fs_, eo_, h⟩ := z_this_spec h
        obtain ⟨w1_, o1_, hF_, ha_⟩ := z_cV_spec h
        refine x_goes hC hRc hRs hFr ha_ (z_goV (As := [.long pJ1, .int pI2]) hC hZ zc5 eo_ (k_AckBook_Arrivals_insert hT hfl _ _ hF_) t_742 t_744 ts_AckBook_Arrivals_insert t_8 t_745 ⟨by decide, by decide, (by decide +kernel : (parseMethodDescriptor y_AckBook_Arrivals_insert.desc).map (fun d => d.parameters.length) = some 2)⟩ (by rw [hRt.1]; decide) (by rw [hRt.2]; decide) hl.1 rfl (by first | exact Nat.le_of_ble_eq_true rfl | simp [z_rfc, z_ci, z_cj]) d_AckBook_Arrivals_keep_121) (fun v_ hv H locs cells slots hZ => ?_)
        obtain ⟨rfl, h⟩ := hv
        generalize w1_ = w at h hZ
        exact x_vret hC hRc hRs hZ hr h d_AckBook_Arrivals_keep_124
      · have h := z_ifn hc h
        refine x_aload_n hC d_AckBook_Arrivals_keep_34 rfl (lv_at hl 1 rfl) ?_
        refine x_getR hC hZ zc5 h (by decide) t_126 (fun _ h9 => h9) d_AckBook_Arrivals_keep_35 (fun r20 h => ?_)
        refine lv_iload_n hC.1 hC.2.1 d_AckBook_Arrivals_keep_38 rfl (lv_at hl 3 rfl) ?_
        refine x_ldL hC hZ h d_AckBook_Arrivals_keep_39 (fun v21 h => ?_)
        refine lv_lload_n hC.1 hC.2.1 d_AckBook_Arrivals_keep_40 rfl (lv_at hl 2 rfl) ?_
        refine lv_lconst (v := (1 : Int64)) hC.1 hC.2.1 d_AckBook_Arrivals_keep_41 (by decide) ?_
        refine lv_lsub hC.1 hC.2.1 d_AckBook_Arrivals_keep_42 ?_
        refine W.lcmp hC.1 hC.2.1 d_AckBook_Arrivals_keep_43 ?_
        refine lv_if_ne (tgt := 51) hC.1 hC.2.1 d_AckBook_Arrivals_keep_44 (by decide) (fun hc => ?_) (fun hc => ?_)
        · have h := z_ifn hc h
          refine lv_iconst (v := (0 : Int32)) hC.1 hC.2.1 d_AckBook_Arrivals_keep_51 (by decide) ?_
          refine lv_istore (lv' := [(5, .int (0 : Int32)), (4, .int (0 : Int32)), (0, va_rf a0), (1, .long pJ1), (3, .int pI2)]) hC.1 hC.2.1 d_AckBook_Arrivals_keep_52 hl (by decide) (by first | rfl | simp [z_rfc, z_ci, z_cj]) (fun ls hl => ?_)
          refine lv_iload hC.1 hC.2.1 d_AckBook_Arrivals_keep_54 (lv_at hl 1 rfl) ?_
          refine lv_if_eq (tgt := 86) hC.1 hC.2.1 d_AckBook_Arrivals_keep_56 (by decide) (fun _ => ?_) (fun hc => absurd hc (by decide))
          refine lv_iload hC.1 hC.2.1 d_AckBook_Arrivals_keep_86 (lv_at hl 1 rfl) ?_
          refine lv_if_eq (tgt := 103) hC.1 hC.2.1 d_AckBook_Arrivals_keep_88 (by decide) (fun _ => ?_) (fun hc => absurd hc (by decide))
          refine lv_iload hC.1 hC.2.1 d_AckBook_Arrivals_keep_103 (lv_at hl 0 rfl) ?_
          refine lv_if_eq (tgt := 118) hC.1 hC.2.1 d_AckBook_Arrivals_keep_105 (by decide) (fun _ => ?_) (fun hc => absurd hc (by decide))
          refine x_aload_n hC d_AckBook_Arrivals_keep_118 rfl (lv_at hl 2 rfl) ?_
          refine lv_lload_n hC.1 hC.2.1 d_AckBook_Arrivals_keep_119 rfl (lv_at hl 3 rfl) ?_
          refine lv_iload_n hC.1 hC.2.1 d_AckBook_Arrivals_keep_120 rfl (lv_at hl 4 rfl) ?_
          obtain ⟨a_, fs_, eo_, h⟩ := z_this_spec h
          obtain ⟨w1_, o1_, hF_, ha_⟩ := z_cV_spec h
          refine x_goes hC hRc hRs hFr ha_ (z_goV (As := [.long pJ1, .int pI2]) hC hZ zc5 eo_ (k_AckBook_Arrivals_insert hT hfl _ _ hF_) t_742 t_744 ts_AckBook_Arrivals_insert t_8 t_745 ⟨by decide, by decide, (by decide +kernel : (parseMethodDescriptor y_AckBook_Arrivals_insert.desc).map (fun d => d.parameters.length) = some 2)⟩ (by rw [hRt.1]; decide) (by rw [hRt.2]; decide) hl.1 rfl (by first | exact Nat.le_of_ble_eq_true rfl | simp [z_rfc, z_ci, z_cj]) d_AckBook_Arrivals_keep_121) (fun v_ hv H locs cells slots hZ => ?_)
          obtain ⟨rfl, h⟩ := hv
          generalize w1_ = w at h hZ
          exact x_vret hC hRc hRs hZ hr h d_AckBook_Arrivals_keep_124
        · have h := z_ifp hc h
          refine lv_iconst (v := (1 : Int32)) hC.1 hC.2.1 d_AckBook_Arrivals_keep_47 (by decide) ?_
          refine lv_goto (tgt := 52) hC.1 hC.2.1 d_AckBook_Arrivals_keep_48 (by decide) ?_
          refine lv_istore (lv' := [(5, .int (1 : Int32)), (4, .int (0 : Int32)), (0, va_rf a0), (1, .long pJ1), (3, .int pI2)]) hC.1 hC.2.1 d_AckBook_Arrivals_keep_52 hl (by decide) (by first | rfl | simp [z_rfc, z_ci, z_cj]) (fun ls hl => ?_)
          refine lv_iload hC.1 hC.2.1 d_AckBook_Arrivals_keep_54 (lv_at hl 1 rfl) ?_
          refine lv_if_eq (tgt := 86) hC.1 hC.2.1 d_AckBook_Arrivals_keep_56 (by decide) (fun _ => ?_) (fun hc => absurd hc (by decide))
          refine lv_iload hC.1 hC.2.1 d_AckBook_Arrivals_keep_86 (lv_at hl 1 rfl) ?_
          refine lv_if_eq (tgt := 103) hC.1 hC.2.1 d_AckBook_Arrivals_keep_88 (by decide) (fun _ => ?_) (fun hc => absurd hc (by decide))
          refine lv_iload hC.1 hC.2.1 d_AckBook_Arrivals_keep_103 (lv_at hl 0 rfl) ?_
          refine lv_if_eq (tgt := 118) hC.1 hC.2.1 d_AckBook_Arrivals_keep_105 (by decide) (fun hc => absurd hc (by decide)) (fun _ => ?_)
          refine x_aload_n hC d_AckBook_Arrivals_keep_108 rfl (lv_at hl 2 rfl) ?_
          refine x_getR hC hZ zc5 h (by decide) t_126 (fun _ h9 => h9) d_AckBook_Arrivals_keep_109 (fun r22 h => ?_)
          refine lv_iload_n hC.1 hC.2.1 d_AckBook_Arrivals_keep_112 rfl (lv_at hl 4 rfl) ?_
          refine lv_lload_n hC.1 hC.2.1 d_AckBook_Arrivals_keep_113 rfl (lv_at hl 3 rfl) ?_
          refine x_stL hC hZ h d_AckBook_Arrivals_keep_114 (fun w H locs hZ h => ?_)
          refine lv_goto (tgt := 124) hC.1 hC.2.1 d_AckBook_Arrivals_keep_115 (by decide) ?_
          exact x_vret hC hRc hRs hZ hr h d_AckBook_Arrivals_keep_124
    · have h := z_ifp hc h
      refine lv_iconst (v := (1 : Int32)) hC.1 hC.2.1 d_AckBook_Arrivals_keep_19 (by decide) ?_
      refine lv_goto (tgt := 24) hC.1 hC.2.1 d_AckBook_Arrivals_keep_20 (by decide) ?_
      refine lv_istore (lv' := [(4, .int (1 : Int32)), (0, va_rf a0), (1, .long pJ1), (3, .int pI2)]) hC.1 hC.2.1 d_AckBook_Arrivals_keep_24 hl (by decide) (by first | rfl | simp [z_rfc, z_ci, z_cj]) (fun ls hl => ?_)
      refine lv_iload_n hC.1 hC.2.1 d_AckBook_Arrivals_keep_26 rfl (lv_at hl 3 rfl) ?_
      refine x_aload_n hC d_AckBook_Arrivals_keep_27 rfl (lv_at hl 1 rfl) ?_
      refine x_getI hC hZ zc5 h (by decide) t_128 (fun _ h9 => h9) d_AckBook_Arrivals_keep_28 (fun v9 h => ?_)
      refine lv_icmp_ge (tgt := 51) hC.1 hC.2.1 d_AckBook_Arrivals_keep_31 (by decide) (fun hc => ?_) (fun hc => ?_)
      · have h := z_ifp hc h
        refine lv_iconst (v := (0 : Int32)) hC.1 hC.2.1 d_AckBook_Arrivals_keep_51 (by decide) ?_
        refine lv_istore (lv' := [(5, .int (0 : Int32)), (4, .int (1 : Int32)), (0, va_rf a0), (1, .long pJ1), (3, .int pI2)]) hC.1 hC.2.1 d_AckBook_Arrivals_keep_52 hl (by decide) (by first | rfl | simp [z_rfc, z_ci, z_cj]) (fun ls hl => ?_)
        refine lv_iload hC.1 hC.2.1 d_AckBook_Arrivals_keep_54 (lv_at hl 1 rfl) ?_
        refine lv_if_eq (tgt := 86) hC.1 hC.2.1 d_AckBook_Arrivals_keep_56 (by decide) (fun hc => absurd hc (by decide)) (fun _ => ?_)
        refine lv_iload hC.1 hC.2.1 d_AckBook_Arrivals_keep_59 (lv_at hl 0 rfl) ?_
        refine lv_if_eq (tgt := 86) hC.1 hC.2.1 d_AckBook_Arrivals_keep_61 (by decide) (fun _ => ?_) (fun hc => absurd hc (by decide))
        refine lv_iload hC.1 hC.2.1 d_AckBook_Arrivals_keep_86 (lv_at hl 1 rfl) ?_
        refine lv_if_eq (tgt := 103) hC.1 hC.2.1 d_AckBook_Arrivals_keep_88 (by decide) (fun hc => absurd hc (by decide)) (fun _ => ?_)
        refine x_aload_n hC d_AckBook_Arrivals_keep_91 rfl (lv_at hl 2 rfl) ?_
        refine x_getR hC hZ zc5 h (by decide) t_124 (fun _ h9 => h9) d_AckBook_Arrivals_keep_92 (fun r10 h => ?_)
        refine lv_iload_n hC.1 hC.2.1 d_AckBook_Arrivals_keep_95 rfl (lv_at hl 4 rfl) ?_
        refine lv_iconst (v := (1 : Int32)) hC.1 hC.2.1 d_AckBook_Arrivals_keep_96 (by decide) ?_
        refine lv_isub hC.1 hC.2.1 d_AckBook_Arrivals_keep_97 ?_
        refine lv_lload_n hC.1 hC.2.1 d_AckBook_Arrivals_keep_98 rfl (lv_at hl 3 rfl) ?_
        refine x_stL hC hZ h d_AckBook_Arrivals_keep_99 (fun w H locs hZ h => ?_)
        refine lv_goto (tgt := 124) hC.1 hC.2.1 d_AckBook_Arrivals_keep_100 (by decide) ?_
        exact x_vret hC hRc hRs hZ hr h d_AckBook_Arrivals_keep_124
      · have h := z_ifn hc h
        refine x_aload_n hC d_AckBook_Arrivals_keep_34 rfl (lv_at hl 1 rfl) ?_
        refine x_getR hC hZ zc5 h (by decide) t_126 (fun _ h9 => h9) d_AckBook_Arrivals_keep_35 (fun r11 h => ?_)
        refine lv_iload_n hC.1 hC.2.1 d_AckBook_Arrivals_keep_38 rfl (lv_at hl 3 rfl) ?_
        refine x_ldL hC hZ h d_AckBook_Arrivals_keep_39 (fun v12 h => ?_)
        refine lv_lload_n hC.1 hC.2.1 d_AckBook_Arrivals_keep_40 rfl (lv_at hl 2 rfl) ?_
        refine lv_lconst (v := (1 : Int64)) hC.1 hC.2.1 d_AckBook_Arrivals_keep_41 (by decide) ?_
        refine lv_lsub hC.1 hC.2.1 d_AckBook_Arrivals_keep_42 ?_
        refine W.lcmp hC.1 hC.2.1 d_AckBook_Arrivals_keep_43 ?_
        refine lv_if_ne (tgt := 51) hC.1 hC.2.1 d_AckBook_Arrivals_keep_44 (by decide) (fun hc => ?_) (fun hc => ?_)
        · have h := z_ifn hc h
          refine lv_iconst (v := (0 : Int32)) hC.1 hC.2.1 d_AckBook_Arrivals_keep_51 (by decide) ?_
          refine lv_istore (lv' := [(5, .int (0 : Int32)), (4, .int (1 : Int32)), (0, va_rf a0), (1, .long pJ1), (3, .int pI2)]) hC.1 hC.2.1 d_AckBook_Arrivals_keep_52 hl (by decide) (by first | rfl | simp [z_rfc, z_ci, z_cj]) (fun ls hl => ?_)
          refine lv_iload hC.1 hC.2.1 d_AckBook_Arrivals_keep_54 (lv_at hl 1 rfl) ?_
          refine lv_if_eq (tgt := 86) hC.1 hC.2.1 d_AckBook_Arrivals_keep_56 (by decide) (fun hc => absurd hc (by decide)) (fun _ => ?_)
          refine lv_iload hC.1 hC.2.1 d_AckBook_Arrivals_keep_59 (lv_at hl 0 rfl) ?_
          refine lv_if_eq (tgt := 86) hC.1 hC.2.1 d_AckBook_Arrivals_keep_61 (by decide) (fun _ => ?_) (fun hc => absurd hc (by decide))
          refine lv_iload hC.1 hC.2.1 d_AckBook_Arrivals_keep_86 (lv_at hl 1 rfl) ?_
          refine lv_if_eq (tgt := 103) hC.1 hC.2.1 d_AckBook_Arrivals_keep_88 (by decide) (fun hc => absurd hc (by decide)) (fun _ => ?_)
          refine x_aload_n hC d_AckBook_Arrivals_keep_91 rfl (lv_at hl 2 rfl) ?_
          refine x_getR hC hZ zc5 h (by decide) t_124 (fun _ h9 => h9) d_AckBook_Arrivals_keep_92 (fun r17 h => ?_)
          refine lv_iload_n hC.1 hC.2.1 d_AckBook_Arrivals_keep_95 rfl (lv_at hl 4 rfl) ?_
          refine lv_iconst (v := (1 : Int32)) hC.1 hC.2.1 d_AckBook_Arrivals_keep_96 (by decide) ?_
          refine lv_isub hC.1 hC.2.1 d_AckBook_Arrivals_keep_97 ?_
          refine lv_lload_n hC.1 hC.2.1 d_AckBook_Arrivals_keep_98 rfl (lv_at hl 3 rfl) ?_
          refine x_stL hC hZ h d_AckBook_Arrivals_keep_99 (fun w H locs hZ h => ?_)
          refine lv_goto (tgt := 124) hC.1 hC.2.1 d_AckBook_Arrivals_keep_100 (by decide) ?_
          exact x_vret hC hRc hRs hZ hr h d_AckBook_Arrivals_keep_124
        · have h := z_ifp hc h
          refine lv_iconst (v := (1 : Int32)) hC.1 hC.2.1 d_AckBook_Arrivals_keep_47 (by decide) ?_
          refine lv_goto (tgt := 52) hC.1 hC.2.1 d_AckBook_Arrivals_keep_48 (by decide) ?_
          refine lv_istore (lv' := [(5, .int (1 : Int32)), (4, .int (1 : Int32)), (0, va_rf a0), (1, .long pJ1), (3, .int pI2)]) hC.1 hC.2.1 d_AckBook_Arrivals_keep_52 hl (by decide) (by first | rfl | simp [z_rfc, z_ci, z_cj]) (fun ls hl => ?_)
          refine lv_iload hC.1 hC.2.1 d_AckBook_Arrivals_keep_54 (lv_at hl 1 rfl) ?_
          refine lv_if_eq (tgt := 86) hC.1 hC.2.1 d_AckBook_Arrivals_keep_56 (by decide) (fun hc => absurd hc (by decide)) (fun _ => ?_)
          refine lv_iload hC.1 hC.2.1 d_AckBook_Arrivals_keep_59 (lv_at hl 0 rfl) ?_
          refine lv_if_eq (tgt := 86) hC.1 hC.2.1 d_AckBook_Arrivals_keep_61 (by decide) (fun hc => absurd hc (by decide)) (fun _ => ?_)
          refine x_aload_n hC d_AckBook_Arrivals_keep_64 rfl (lv_at hl 2 rfl) ?_
          refine x_getR hC hZ zc5 h (by decide) t_124 (fun _ h9 => h9) d_AckBook_Arrivals_keep_65 (fun r13 h => ?_)
          refine lv_iload_n hC.1 hC.2.1 d_AckBook_Arrivals_keep_68 rfl (lv_at hl 4 rfl) ?_
          refine lv_iconst (v := (1 : Int32)) hC.1 hC.2.1 d_AckBook_Arrivals_keep_69 (by decide) ?_
          refine lv_isub hC.1 hC.2.1 d_AckBook_Arrivals_keep_70 ?_
          refine x_aload_n hC d_AckBook_Arrivals_keep_71 rfl (lv_at hl 2 rfl) ?_
          refine x_getR hC hZ zc5 h (by decide) t_124 (fun _ h9 => h9) d_AckBook_Arrivals_keep_72 (fun r14 h => ?_)
          refine lv_iload_n hC.1 hC.2.1 d_AckBook_Arrivals_keep_75 rfl (lv_at hl 4 rfl) ?_
          refine x_ldL hC hZ h d_AckBook_Arrivals_keep_76 (fun v15 h => ?_)
          refine x_stL hC hZ h d_AckBook_Arrivals_keep_77 (fun w H locs hZ h => ?_)
          refine x_aload_n hC d_AckBook_Arrivals_keep_78 rfl (lv_at hl 2 rfl) ?_
          refine lv_iload_n hC.1 hC.2.1 d_AckBook_Arrivals_keep_79 rfl (lv_at hl 4 rfl) ?_
          obtain ⟨a_, fs_, eo_, h⟩ := z_this_spec h
          obtain ⟨w1_, o1_, hF_, ha_⟩ := z_cV_spec h
          refine x_goes hC hRc hRs hFr ha_ (z_goV (As := [.int pI2]) hC hZ zc5 eo_ (k_AckBook_Arrivals_remove hT hfl _ _ hF_) t_738 t_740 ts_AckBook_Arrivals_remove t_8 t_741 ⟨by decide, by decide, (by decide +kernel : (parseMethodDescriptor y_AckBook_Arrivals_remove.desc).map (fun d => d.parameters.length) = some 1)⟩ (by rw [hRt.1]; decide) (by rw [hRt.2]; decide) hl.1 rfl (by first | exact Nat.le_of_ble_eq_true rfl | simp [z_rfc, z_ci, z_cj]) d_AckBook_Arrivals_keep_80) (fun v_ hv H locs cells slots hZ => ?_)
          obtain ⟨rfl, h⟩ := hv
          generalize w1_ = w at h hZ
          refine lv_goto (tgt := 124) hC.1 hC.2.1 d_AckBook_Arrivals_keep_83 (by decide) ?_
          exact x_vret hC hRc hRs hZ hr h d_AckBook_Arrivals_keep_124
def f_AckBook_Arrivals_hold (F : Nat) (a0 : Option Nat) (pI1 : Int32) (pI2 : Int32) (w : zW) : zR :=
  z_getI w 5 4 a0 fun v1 =>
  if v1 = 0 then (
    z_put w 5 5 a0 (.int pI2) fun w =>
    z_getI w 5 4 a0 fun v2 =>
    z_put w 5 4 a0 (.int (v2 + (1 : Int32))) fun w =>
    z_getI w 5 6 a0 fun v3 =>
    if v3 = 0 then (
      if pI1 = 0 then (
        z_putZ w 5 6 a0 (0 : Int32) fun w =>
        some (.inl none, w))
      else (
        z_putZ w 5 6 a0 (1 : Int32) fun w =>
        some (.inl none, w)))
    else (
      z_putZ w 5 6 a0 (1 : Int32) fun w =>
      some (.inl none, w)))
  else (
    z_getI w 5 4 a0 fun v4 =>
    z_put w 5 4 a0 (.int (v4 + (1 : Int32))) fun w =>
    z_getI w 5 6 a0 fun v5 =>
    if v5 = 0 then (
      if pI1 = 0 then (
        z_putZ w 5 6 a0 (0 : Int32) fun w =>
        some (.inl none, w))
      else (
        z_putZ w 5 6 a0 (1 : Int32) fun w =>
        some (.inl none, w)))
    else (
      z_putZ w 5 6 a0 (1 : Int32) fun w =>
      some (.inl none, w)))
set_option maxHeartbeats 4000000 in
set_option maxRecDepth 100000 in
theorem k_AckBook_Arrivals_hold {b0 : Nat} {H0 : Heap} {D : va_G} {ZS : List (String × String × String × Value)} {l : Launch} (hT : z_TB (zGG b0 H0 D ZS)) (hfl : l.flags = pinnedFlags ++ [noTraceFlag]) {a0 : Option Nat} {pI1 : Int32} {pI2 : Int32} (F : Nat) {w : zW} (res : zO × zW) (h : f_AckBook_Arrivals_hold F a0 pI1 pI2 w = some res) : z_Ct (zGG b0 H0 D ZS) l y_AckBook_Arrivals_hold (.code y_AckBook_Arrivals_hold c_AckBook_Arrivals_hold 3 (none)) 0 0 [va_rf a0, .int pI1, .int pI2] w res := by
  refine z_ct hT hfl (by decide) (by simp only [z_sl_i, z_sl_j, z_sl_r, z_sl_n]; decide) ?_
  intro p e R s m args below meth c hC hr hRc hRs hRt hnm hFr H ls hZ hl
  simp only [z_la_i, z_la_j, z_la_r, z_la_n] at hl
  have hl : lv_has ls 3 [(0, va_rf a0), (1, .int pI1), (2, .int pI2)] := hl
  unfold f_AckBook_Arrivals_hold at h
  refine x_aload_n hC d_AckBook_Arrivals_hold_0 rfl (lv_at hl 0 rfl) ?_
  refine x_getI hC hZ zc5 h (by decide) t_132 (fun _ h9 => h9) d_AckBook_Arrivals_hold_1 (fun v1 h => ?_)
  refine lv_if_ne (tgt := 12) hC.1 hC.2.1 d_AckBook_Arrivals_hold_4 (by decide) (fun hc => ?_) (fun hc => ?_)
  · have h := z_ifn hc h
    refine x_aload_n hC d_AckBook_Arrivals_hold_12 rfl (lv_at hl 0 rfl) ?_
    refine lv_dup hC.1 hC.2.1 d_AckBook_Arrivals_hold_13 (z_rfc _) ?_
    refine x_getI hC hZ zc5 h (by decide) t_132 (fun _ h9 => h9) d_AckBook_Arrivals_hold_14 (fun v4 h => ?_)
    refine lv_iconst (v := (1 : Int32)) hC.1 hC.2.1 d_AckBook_Arrivals_hold_17 (by decide) ?_
    refine lv_iadd hC.1 hC.2.1 d_AckBook_Arrivals_hold_18 ?_
    refine x_put hC hZ zc5 h (by decide) t_132 (fun _ h9 => h9) rfl rfl rfl rfl d_AckBook_Arrivals_hold_19 (fun w H locs hZ h => ?_)
    refine x_aload_n hC d_AckBook_Arrivals_hold_22 rfl (lv_at hl 0 rfl) ?_
    refine x_aload_n hC d_AckBook_Arrivals_hold_23 rfl (lv_at hl 0 rfl) ?_
    refine x_getI hC hZ zc5 h (by decide) t_135 (fun _ h9 => h9) d_AckBook_Arrivals_hold_24 (fun v5 h => ?_)
    refine lv_if_ne (tgt := 34) hC.1 hC.2.1 d_AckBook_Arrivals_hold_27 (by decide) (fun hc => ?_) (fun hc => ?_)
    · have h := z_ifn hc h
      refine lv_iconst (v := (1 : Int32)) hC.1 hC.2.1 d_AckBook_Arrivals_hold_34 (by decide) ?_
      refine lv_goto (tgt := 39) hC.1 hC.2.1 d_AckBook_Arrivals_hold_35 (by decide) ?_
      refine x_putZ hC hZ zc5 h (by decide) t_135 (fun _ h9 => h9) rfl rfl d_AckBook_Arrivals_hold_39 (fun w H locs hZ h => ?_)
      exact x_vret hC hRc hRs hZ hr h d_AckBook_Arrivals_hold_42
    · have h := z_ifp hc h
      refine lv_iload_n hC.1 hC.2.1 d_AckBook_Arrivals_hold_30 rfl (lv_at hl 1 rfl) ?_
      refine lv_if_eq (tgt := 38) hC.1 hC.2.1 d_AckBook_Arrivals_hold_31 (by decide) (fun hc => ?_) (fun hc => ?_)
      · have h := z_ifp hc h
        refine lv_iconst (v := (0 : Int32)) hC.1 hC.2.1 d_AckBook_Arrivals_hold_38 (by decide) ?_
        refine x_putZ hC hZ zc5 h (by decide) t_135 (fun _ h9 => h9) rfl rfl d_AckBook_Arrivals_hold_39 (fun w H locs hZ h => ?_)
        exact x_vret hC hRc hRs hZ hr h d_AckBook_Arrivals_hold_42
      · have h := z_ifn hc h
        refine lv_iconst (v := (1 : Int32)) hC.1 hC.2.1 d_AckBook_Arrivals_hold_34 (by decide) ?_
        refine lv_goto (tgt := 39) hC.1 hC.2.1 d_AckBook_Arrivals_hold_35 (by decide) ?_
        refine x_putZ hC hZ zc5 h (by decide) t_135 (fun _ h9 => h9) rfl rfl d_AckBook_Arrivals_hold_39 (fun w H locs hZ h => ?_)
        exact x_vret hC hRc hRs hZ hr h d_AckBook_Arrivals_hold_42
  · have h := z_ifp hc h
    refine x_aload_n hC d_AckBook_Arrivals_hold_7 rfl (lv_at hl 0 rfl) ?_
    refine lv_iload_n hC.1 hC.2.1 d_AckBook_Arrivals_hold_8 rfl (lv_at hl 2 rfl) ?_
    refine x_put hC hZ zc5 h (by decide) t_134 (fun _ h9 => h9) rfl rfl rfl rfl d_AckBook_Arrivals_hold_9 (fun w H locs hZ h => ?_)
    refine x_aload_n hC d_AckBook_Arrivals_hold_12 rfl (lv_at hl 0 rfl) ?_
    refine lv_dup hC.1 hC.2.1 d_AckBook_Arrivals_hold_13 (z_rfc _) ?_
    refine x_getI hC hZ zc5 h (by decide) t_132 (fun _ h9 => h9) d_AckBook_Arrivals_hold_14 (fun v2 h => ?_)
    refine lv_iconst (v := (1 : Int32)) hC.1 hC.2.1 d_AckBook_Arrivals_hold_17 (by decide) ?_
    refine lv_iadd hC.1 hC.2.1 d_AckBook_Arrivals_hold_18 ?_
    refine x_put hC hZ zc5 h (by decide) t_132 (fun _ h9 => h9) rfl rfl rfl rfl d_AckBook_Arrivals_hold_19 (fun w H locs hZ h => ?_)
    refine x_aload_n hC d_AckBook_Arrivals_hold_22 rfl (lv_at hl 0 rfl) ?_
    refine x_aload_n hC d_AckBook_Arrivals_hold_23 rfl (lv_at hl 0 rfl) ?_
    refine x_getI hC hZ zc5 h (by decide) t_135 (fun _ h9 => h9) d_AckBook_Arrivals_hold_24 (fun v3 h => ?_)
    refine lv_if_ne (tgt := 34) hC.1 hC.2.1 d_AckBook_Arrivals_hold_27 (by decide) (fun hc => ?_) (fun hc => ?_)
    · have h := z_ifn hc h
      refine lv_iconst (v := (1 : Int32)) hC.1 hC.2.1 d_AckBook_Arrivals_hold_34 (by decide) ?_
      refine lv_goto (tgt := 39) hC.1 hC.2.1 d_AckBook_Arrivals_hold_35 (by decide) ?_
      refine x_putZ hC hZ zc5 h (by decide) t_135 (fun _ h9 => h9) rfl rfl d_AckBook_Arrivals_hold_39 (fun w H locs hZ h => ?_)
      exact x_vret hC hRc hRs hZ hr h d_AckBook_Arrivals_hold_42
    · have h := z_ifp hc h
      refine lv_iload_n hC.1 hC.2.1 d_AckBook_Arrivals_hold_30 rfl (lv_at hl 1 rfl) ?_
      refine lv_if_eq (tgt := 38) hC.1 hC.2.1 d_AckBook_Arrivals_hold_31 (by decide) (fun hc => ?_) (fun hc => ?_)
      · have h := z_ifp hc h
        refine lv_iconst (v := (0 : Int32)) hC.1 hC.2.1 d_AckBook_Arrivals_hold_38 (by decide) ?_
        refine x_putZ hC hZ zc5 h (by decide) t_135 (fun _ h9 => h9) rfl rfl d_AckBook_Arrivals_hold_39 (fun w H locs hZ h => ?_)
        exact x_vret hC hRc hRs hZ hr h d_AckBook_Arrivals_hold_42
      · have h := z_ifn hc h
        refine lv_iconst (v := (1 : Int32)) hC.1 hC.2.1 d_AckBook_Arrivals_hold_34 (by decide) ?_
        refine lv_goto (tgt := 39) hC.1 hC.2.1 d_AckBook_Arrivals_hold_35 (by decide) ?_
        refine x_putZ hC hZ zc5 h (by decide) t_135 (fun _ h9 => h9) rfl rfl d_AckBook_Arrivals_hold_39 (fun w H locs hZ h => ?_)
        exact x_vret hC hRc hRs hZ hr h d_AckBook_Arrivals_hold_42
def f_AckBook_Arrivals_enter (F : Nat) (a0 : Option Nat) (pJ1 : Int64) (pI2 : Int32) (pI3 : Int32) (w : zW) : zR :=
  z_this w 5 a0 <|
  z_cI (f_AckBook_Arrivals_firstNotAbove F a0 pJ1 w) fun v2 w =>
  z_getL w 5 3 a0 fun v3 =>
  if (lg_cmp pJ1 v3) < 0 then (
    some (.inl (some (.int (0 : Int32))), w))
  else (
    z_getI w 5 2 a0 fun v4 =>
    if v4 ≤ v2 then (
      z_getI w 5 2 a0 fun v5 =>
      if v5 = 0 then (
        z_this w 5 a0 <|
        z_cV (f_AckBook_Arrivals_keep F a0 pJ1 v2 w) fun w =>
        if pI2 = 0 then (
          if (lg_cmp pJ1 (-1 : Int64)) ≤ 0 then (
            some (.inl (some (.int (1 : Int32))), w))
          else (
            z_put w 5 7 a0 (.int pI3) fun w =>
            some (.inl (some (.int (1 : Int32))), w)))
        else (
          if (lg_cmp pJ1 ((-1 : Int64) + (1 : Int64))) = 0 then (
            z_this w 5 a0 <|
            z_cV (f_AckBook_Arrivals_hold F a0 (0 : Int32) pI3 w) fun w =>
            if (lg_cmp pJ1 (-1 : Int64)) ≤ 0 then (
              some (.inl (some (.int (1 : Int32))), w))
            else (
              z_put w 5 7 a0 (.int pI3) fun w =>
              some (.inl (some (.int (1 : Int32))), w)))
          else (
            z_this w 5 a0 <|
            z_cV (f_AckBook_Arrivals_hold F a0 (1 : Int32) pI3 w) fun w =>
            if (lg_cmp pJ1 (-1 : Int64)) ≤ 0 then (
              some (.inl (some (.int (1 : Int32))), w))
            else (
              z_put w 5 7 a0 (.int pI3) fun w =>
              some (.inl (some (.int (1 : Int32))), w)))))
      else (
        z_getR w 5 1 a0 fun r9 =>
        z_ldL w r9 (0 : Int32) fun v10 =>
        z_this w 5 a0 <|
        z_cV (f_AckBook_Arrivals_keep F a0 pJ1 v2 w) fun w =>
        if pI2 = 0 then (
          if (lg_cmp pJ1 v10) ≤ 0 then (
            some (.inl (some (.int (1 : Int32))), w))
          else (
            z_put w 5 7 a0 (.int pI3) fun w =>
            some (.inl (some (.int (1 : Int32))), w)))
        else (
          if (lg_cmp pJ1 (v10 + (1 : Int64))) = 0 then (
            z_this w 5 a0 <|
            z_cV (f_AckBook_Arrivals_hold F a0 (0 : Int32) pI3 w) fun w =>
            if (lg_cmp pJ1 v10) ≤ 0 then (
              some (.inl (some (.int (1 : Int32))), w))
            else (
              z_put w 5 7 a0 (.int pI3) fun w =>
              some (.inl (some (.int (1 : Int32))), w)))
          else (
            z_this w 5 a0 <|
            z_cV (f_AckBook_Arrivals_hold F a0 (1 : Int32) pI3 w) fun w =>
            if (lg_cmp pJ1 v10) ≤ 0 then (
              some (.inl (some (.int (1 : Int32))), w))
            else (
              z_put w 5 7 a0 (.int pI3) fun w =>
              some (.inl (some (.int (1 : Int32))), w))))))
    else (
      z_getR w 5 1 a0 fun r14 =>
      z_ldL w r14 v2 fun v15 =>
      if 0 < (lg_cmp pJ1 v15) then (
        z_getI w 5 2 a0 fun v16 =>
        if v16 = 0 then (
          z_this w 5 a0 <|
          z_cV (f_AckBook_Arrivals_keep F a0 pJ1 v2 w) fun w =>
          if pI2 = 0 then (
            if (lg_cmp pJ1 (-1 : Int64)) ≤ 0 then (
              some (.inl (some (.int (1 : Int32))), w))
            else (
              z_put w 5 7 a0 (.int pI3) fun w =>
              some (.inl (some (.int (1 : Int32))), w)))
          else (
            if (lg_cmp pJ1 ((-1 : Int64) + (1 : Int64))) = 0 then (
              z_this w 5 a0 <|
              z_cV (f_AckBook_Arrivals_hold F a0 (0 : Int32) pI3 w) fun w =>
              if (lg_cmp pJ1 (-1 : Int64)) ≤ 0 then (
                some (.inl (some (.int (1 : Int32))), w))
              else (
                z_put w 5 7 a0 (.int pI3) fun w =>
                some (.inl (some (.int (1 : Int32))), w)))
            else (
              z_this w 5 a0 <|
              z_cV (f_AckBook_Arrivals_hold F a0 (1 : Int32) pI3 w) fun w =>
              if (lg_cmp pJ1 (-1 : Int64)) ≤ 0 then (
                some (.inl (some (.int (1 : Int32))), w))
              else (
                z_put w 5 7 a0 (.int pI3) fun w =>
                some (.inl (some (.int (1 : Int32))), w)))))
        else (
          z_getR w 5 1 a0 fun r20 =>
          z_ldL w r20 (0 : Int32) fun v21 =>
          z_this w 5 a0 <|
          z_cV (f_AckBook_Arrivals_keep F a0 pJ1 v2 w) fun w =>
          if pI2 = 0 then (
            if (lg_cmp pJ1 v21) ≤ 0 then (
              some (.inl (some (.int (1 : Int32))), w))
            else (
              z_put w 5 7 a0 (.int pI3) fun w =>
              some (.inl (some (.int (1 : Int32))), w)))
          else (
            if (lg_cmp pJ1 (v21 + (1 : Int64))) = 0 then (
              z_this w 5 a0 <|
              z_cV (f_AckBook_Arrivals_hold F a0 (0 : Int32) pI3 w) fun w =>
              if (lg_cmp pJ1 v21) ≤ 0 then (
                some (.inl (some (.int (1 : Int32))), w))
              else (
                z_put w 5 7 a0 (.int pI3) fun w =>
                some (.inl (some (.int (1 : Int32))), w)))
            else (
              z_this w 5 a0 <|
              z_cV (f_AckBook_Arrivals_hold F a0 (1 : Int32) pI3 w) fun w =>
              if (lg_cmp pJ1 v21) ≤ 0 then (
                some (.inl (some (.int (1 : Int32))), w))
              else (
                z_put w 5 7 a0 (.int pI3) fun w =>
                some (.inl (some (.int (1 : Int32))), w))))))
      else (
        some (.inl (some (.int (0 : Int32))), w))))
set_option maxHeartbeats 4000000 in
set_option maxRecDepth 100000 in
theorem k_AckBook_Arrivals_enter {b0 : Nat} {H0 : Heap} {D : va_G} {ZS : List (String × String × String × Value)} {l : Launch} (hT : z_TB (zGG b0 H0 D ZS)) (hfl : l.flags = pinnedFlags ++ [noTraceFlag]) {a0 : Option Nat} {pJ1 : Int64} {pI2 : Int32} {pI3 : Int32} (F : Nat) {w : zW} (res : zO × zW) (h : f_AckBook_Arrivals_enter F a0 pJ1 pI2 pI3 w = some res) : z_Ct (zGG b0 H0 D ZS) l y_AckBook_Arrivals_enter (.code y_AckBook_Arrivals_enter c_AckBook_Arrivals_enter 8 (some FieldType.boolean)) 2 49 [va_rf a0, .long pJ1, .int pI2, .int pI3] w res := by
  refine z_ct hT hfl (by decide) (by simp only [z_sl_i, z_sl_j, z_sl_r, z_sl_n]; decide) ?_
  intro p e R s m args below meth c hC hr hRc hRs hRt hnm hFr H ls hZ hl
  simp only [z_la_i, z_la_j, z_la_r, z_la_n] at hl
  have hl : lv_has ls 8 [(0, va_rf a0), (1, .long pJ1), (3, .int pI2), (4, .int pI3)] := hl
  unfold f_AckBook_Arrivals_enter at h
  refine x_aload_n hC d_AckBook_Arrivals_enter_0 rfl (lv_at hl 0 rfl) ?_
  refine lv_lload_n hC.1 hC.2.1 d_AckBook_Arrivals_enter_1 rfl (lv_at hl 1 rfl) ?_
  obtain ⟨a_, fs_, eo_, h⟩ := z_this_spec h
  obtain ⟨w1_, o1_, hF_, ha_⟩ := z_cI_spec h
  refine x_goes hC hRc hRs hFr ha_ (z_goV (As := [.long pJ1]) hC hZ zc5 eo_ (k_AckBook_Arrivals_firstNotAbove hT hfl _ _ hF_) t_729 t_731 ts_AckBook_Arrivals_firstNotAbove t_8 t_732 ⟨by decide, by decide, (by decide +kernel : (parseMethodDescriptor y_AckBook_Arrivals_firstNotAbove.desc).map (fun d => d.parameters.length) = some 1)⟩ (by rw [hRt.1]; decide) (by rw [hRt.2]; decide) hl.1 rfl (by first | exact Nat.le_of_ble_eq_true rfl | simp [z_rfc, z_ci, z_cj]) d_AckBook_Arrivals_enter_2) (fun v_ hv H locs cells slots hZ => ?_)
  obtain ⟨v2, rfl, h⟩ := hv
  generalize w1_ = w at h hZ
  refine lv_istore (lv' := [(5, .int v2), (0, va_rf a0), (1, .long pJ1), (3, .int pI2), (4, .int pI3)]) hC.1 hC.2.1 d_AckBook_Arrivals_enter_5 hl (by decide) (by first | rfl | simp [z_rfc, z_ci, z_cj]) (fun ls hl => ?_)
  refine lv_lload_n hC.1 hC.2.1 d_AckBook_Arrivals_enter_7 rfl (lv_at hl 2 rfl) ?_
  refine x_aload_n hC d_AckBook_Arrivals_enter_8 rfl (lv_at hl 1 rfl) ?_
  refine x_getL hC hZ zc5 h (by decide) t_130 (fun _ h9 => h9) d_AckBook_Arrivals_enter_9 (fun v3 h => ?_)
  refine W.lcmp hC.1 hC.2.1 d_AckBook_Arrivals_enter_12 ?_
  refine lv_if_lt (tgt := 37) hC.1 hC.2.1 d_AckBook_Arrivals_enter_13 (by decide) (fun hc => ?_) (fun hc => ?_)
  · have h := z_ifp hc h
    refine lv_iconst (v := (0 : Int32)) hC.1 hC.2.1 d_AckBook_Arrivals_enter_37 (by decide) ?_
    exact x_iret hC hRc hRs hZ hr rfl h d_AckBook_Arrivals_enter_38
  · have h := z_ifn hc h
    refine lv_iload hC.1 hC.2.1 d_AckBook_Arrivals_enter_16 (lv_at hl 0 rfl) ?_
    refine x_aload_n hC d_AckBook_Arrivals_enter_18 rfl (lv_at hl 1 rfl) ?_
    refine x_getI hC hZ zc5 h (by decide) t_128 (fun _ h9 => h9) d_AckBook_Arrivals_enter_19 (fun v4 h => ?_)
    refine lv_icmp_ge (tgt := 39) hC.1 hC.2.1 d_AckBook_Arrivals_enter_22 (by decide) (fun hc => ?_) (fun hc => ?_)
    · have h := z_ifp hc h
      refine x_aload_n hC d_AckBook_Arrivals_enter_39 rfl (lv_at hl 1 rfl) ?_
      refine x_getI hC hZ zc5 h (by decide) t_128 (fun _ h9 => h9) d_AckBook_Arrivals_enter_40 (fun v5 h => ?_)
      refine lv_if_ne (tgt := 52) hC.1 hC.2.1 d_AckBook_Arrivals_enter_43 (by decide) (fun hc => ?_) (fun hc => ?_)
      · have h := z_ifn hc h
        refine x_aload_n hC d_AckBook_Arrivals_enter_52 rfl (lv_at hl 1 rfl) ?_
        refine x_getR hC hZ zc5 h (by decide) t_126 (fun _ h9 => h9) d_AckBook_Arrivals_enter_53 (fun r9 h => ?_)
        refine lv_iconst (v := (0 : Int32)) hC.1 hC.2.1 d_AckBook_Arrivals_enter_56 (by decide) ?_
        refine x_ldL hC hZ h d_AckBook_Arrivals_enter_57 (fun v10 h => ?_)
        refine lv_lstore (lv' := [(6, .long v10), (5, .int v2), (0, va_rf a0), (1, .long pJ1), (3, .int pI2), (4, .int pI3)]) hC.1 hC.2.1 d_AckBook_Arrivals_enter_58 hl (by decide) (by first | rfl | simp [z_rfc, z_ci, z_cj]) (fun ls hl => ?_)
        refine x_aload_n hC d_AckBook_Arrivals_enter_60 rfl (lv_at hl 2 rfl) ?_
        refine lv_lload_n hC.1 hC.2.1 d_AckBook_Arrivals_enter_61 rfl (lv_at hl 3 rfl) ?_
        refine lv_iload hC.1 hC.2.1 d_AckBook_Arrivals_enter_62 (lv_at hl 1 rfl) ?_
        obtain ⟨a_, fs_, eo_, h⟩ := z_this_spec h
        obtain ⟨w1_, o1_, hF_, ha_⟩ := z_cV_spec h
        refine x_goes hC hRc hRs hFr ha_ (z_goV (As := [.long pJ1, .int v2]) hC hZ zc5 eo_ (k_AckBook_Arrivals_keep hT hfl _ _ hF_) t_734 t_736 ts_AckBook_Arrivals_keep t_8 t_737 ⟨by decide, by decide, (by decide +kernel : (parseMethodDescriptor y_AckBook_Arrivals_keep.desc).map (fun d => d.parameters.length) = some 2)⟩ (by rw [hRt.1]; decide) (by rw [hRt.2]; decide) hl.1 rfl (by first | exact Nat.le_of_ble_eq_true rfl | simp [z_rfc, z_ci, z_cj]) d_AckBook_Arrivals_enter_64) (fun v_ hv H locs cells slots hZ => ?_)
        obtain ⟨rfl, h⟩ := hv
        generalize w1_ = w at h hZ
        refine lv_iload_n hC.1 hC.2.1 d_AckBook_Arrivals_enter_67 rfl (lv_at hl 4 rfl) ?_
        refine lv_if_eq (tgt := 91) hC.1 hC.2.1 d_AckBook_Arrivals_enter_68 (by decide) (fun hc => ?_) (fun hc => ?_)
        · have h := z_ifp hc h
          refine lv_lload_n hC.1 hC.2.1 d_AckBook_Arrivals_enter_91 rfl (lv_at hl 3 rfl) ?_
          refine lv_lload hC.1 hC.2.1 d_AckBook_Arrivals_enter_92 (lv_at hl 0 rfl) ?_
          refine W.lcmp hC.1 hC.2.1 d_AckBook_Arrivals_enter_94 ?_
          refine lv_if_le (tgt := 104) hC.1 hC.2.1 d_AckBook_Arrivals_enter_95 (by decide) (fun hc => ?_) (fun hc => ?_)
          · have h := z_ifp hc h
            refine lv_iconst (v := (1 : Int32)) hC.1 hC.2.1 d_AckBook_Arrivals_enter_104 (by decide) ?_
            exact x_iret hC hRc hRs hZ hr rfl h d_AckBook_Arrivals_enter_105
          · have h := z_ifn hc h
            refine x_aload_n hC d_AckBook_Arrivals_enter_98 rfl (lv_at hl 2 rfl) ?_
            refine lv_iload hC.1 hC.2.1 d_AckBook_Arrivals_enter_99 (lv_at hl 5 rfl) ?_
            refine x_put hC hZ zc5 h (by decide) t_136 (fun _ h9 => h9) rfl rfl rfl rfl d_AckBook_Arrivals_enter_101 (fun w H locs hZ h => ?_)
            refine lv_iconst (v := (1 : Int32)) hC.1 hC.2.1 d_AckBook_Arrivals_enter_104 (by decide) ?_
            exact x_iret hC hRc hRs hZ hr rfl h d_AckBook_Arrivals_enter_105
        · have h := z_ifn hc h
          refine x_aload_n hC d_AckBook_Arrivals_enter_71 rfl (lv_at hl 2 rfl) ?_
          refine lv_lload_n hC.1 hC.2.1 d_AckBook_Arrivals_enter_72 rfl (lv_at hl 3 rfl) ?_
          refine lv_lload hC.1 hC.2.1 d_AckBook_Arrivals_enter_73 (lv_at hl 0 rfl) ?_
          refine lv_lconst (v := (1 : Int64)) hC.1 hC.2.1 d_AckBook_Arrivals_enter_75 (by decide) ?_
          refine lv_ladd hC.1 hC.2.1 d_AckBook_Arrivals_enter_76 ?_
          refine W.lcmp hC.1 hC.2.1 d_AckBook_Arrivals_enter_77 ?_
          refine lv_if_eq (tgt := 85) hC.1 hC.2.1 d_AckBook_Arrivals_enter_78 (by decide) (fun hc => ?_) (fun hc => ?_)
          · have h := z_ifp hc h
            refine lv_iconst (v := (0 : Int32)) hC.1 hC.2.1 d_AckBook_Arrivals_enter_85 (by decide) ?_
            refine lv_iload hC.1 hC.2.1 d_AckBook_Arrivals_enter_86 (lv_at hl 5 rfl) ?_
            obtain ⟨a_, fs_, eo_, h⟩ := z_this_spec h
            obtain ⟨w1_, o1_, hF_, ha_⟩ := z_cV_spec h
            refine x_goes hC hRc hRs hFr ha_ (z_goV (As := [.int (0 : Int32), .int pI3]) hC hZ zc5 eo_ (k_AckBook_Arrivals_hold hT hfl _ _ hF_) t_746 t_748 ts_AckBook_Arrivals_hold t_8 t_749 ⟨by decide, by decide, (by decide +kernel : (parseMethodDescriptor y_AckBook_Arrivals_hold.desc).map (fun d => d.parameters.length) = some 2)⟩ (by rw [hRt.1]; decide) (by rw [hRt.2]; decide) hl.1 rfl (by first | exact Nat.le_of_ble_eq_true rfl | simp [z_rfc, z_ci, z_cj]) d_AckBook_Arrivals_enter_88) (fun v_ hv H locs cells slots hZ => ?_)
            obtain ⟨rfl, h⟩ := hv
            generalize w1_ = w at h hZ
            refine lv_lload_n hC.1 hC.2.1 d_AckBook_Arrivals_enter_91 rfl (lv_at hl 3 rfl) ?_
            refine lv_lload hC.1 hC.2.1 d_AckBook_Arrivals_enter_92 (lv_at hl 0 rfl) ?_
            refine W.lcmp hC.1 hC.2.1 d_AckBook_Arrivals_enter_94 ?_
            refine lv_if_le (tgt := 104) hC.1 hC.2.1 d_AckBook_Arrivals_enter_95 (by decide) (fun hc => ?_) (fun hc => ?_)
            · have h := z_ifp hc h
              refine lv_iconst (v := (1 : Int32)) hC.1 hC.2.1 d_AckBook_Arrivals_enter_104 (by decide) ?_
              exact x_iret hC hRc hRs hZ hr rfl h d_AckBook_Arrivals_enter_105
            · have h := z_ifn hc h
              refine x_aload_n hC d_AckBook_Arrivals_enter_98 rfl (lv_at hl 2 rfl) ?_
              refine lv_iload hC.1 hC.2.1 d_AckBook_Arrivals_enter_99 (lv_at hl 5 rfl) ?_
              refine x_put hC hZ zc5 h (by decide) t_136 (fun _ h9 => h9) rfl rfl rfl rfl d_AckBook_Arrivals_enter_101 (fun w H locs hZ h => ?_)
              refine lv_iconst (v := (1 : Int32)) hC.1 hC.2.1 d_AckBook_Arrivals_enter_104 (by decide) ?_
              exact x_iret hC hRc hRs hZ hr rfl h d_AckBook_Arrivals_enter_105
          · have h := z_ifn hc h
            refine lv_iconst (v := (1 : Int32)) hC.1 hC.2.1 d_AckBook_Arrivals_enter_81 (by decide) ?_
            refine lv_goto (tgt := 86) hC.1 hC.2.1 d_AckBook_Arrivals_enter_82 (by decide) ?_
            refine lv_iload hC.1 hC.2.1 d_AckBook_Arrivals_enter_86 (lv_at hl 5 rfl) ?_
            obtain ⟨a_, fs_, eo_, h⟩ := z_this_spec h
            obtain ⟨w1_, o1_, hF_, ha_⟩ := z_cV_spec h
            refine x_goes hC hRc hRs hFr ha_ (z_goV (As := [.int (1 : Int32), .int pI3]) hC hZ zc5 eo_ (k_AckBook_Arrivals_hold hT hfl _ _ hF_) t_746 t_748 ts_AckBook_Arrivals_hold t_8 t_749 ⟨by decide, by decide, (by decide +kernel : (parseMethodDescriptor y_AckBook_Arrivals_hold.desc).map (fun d => d.parameters.length) = some 2)⟩ (by rw [hRt.1]; decide) (by rw [hRt.2]; decide) hl.1 rfl (by first | exact Nat.le_of_ble_eq_true rfl | simp [z_rfc, z_ci, z_cj]) d_AckBook_Arrivals_enter_88) (fun v_ hv H locs cells slots hZ => ?_)
            obtain ⟨rfl, h⟩ := hv
            generalize w1_ = w at h hZ
            refine lv_lload_n hC.1 hC.2.1 d_AckBook_Arrivals_enter_91 rfl (lv_at hl 3 rfl) ?_
            refine lv_lload hC.1 hC.2.1 d_AckBook_Arrivals_enter_92 (lv_at hl 0 rfl) ?_
            refine W.lcmp hC.1 hC.2.1 d_AckBook_Arrivals_enter_94 ?_
            refine lv_if_le (tgt := 104) hC.1 hC.2.1 d_AckBook_Arrivals_enter_95 (by decide) (fun hc => ?_) (fun hc => ?_)
            · have h := z_ifp hc h
              refine lv_iconst (v := (1 : Int32)) hC.1 hC.2.1 d_AckBook_Arrivals_enter_104 (by decide) ?_
              exact x_iret hC hRc hRs hZ hr rfl h d_AckBook_Arrivals_enter_105
            · have h := z_ifn hc h
              refine x_aload_n hC d_AckBook_Arrivals_enter_98 rfl (lv_at hl 2 rfl) ?_
              refine lv_iload hC.1 hC.2.1 d_AckBook_Arrivals_enter_99 (lv_at hl 5 rfl) ?_
              refine x_put hC hZ zc5 h (by decide) t_136 (fun _ h9 => h9) rfl rfl rfl rfl d_AckBook_Arrivals_enter_101 (fun w H locs hZ h => ?_)
              refine lv_iconst (v := (1 : Int32)) hC.1 hC.2.1 d_AckBook_Arrivals_enter_104 (by decide) ?_
              exact x_iret hC hRc hRs hZ hr rfl h d_AckBook_Arrivals_enter_105
      · have h := z_ifp hc h
        refine lv_ldc2 (v := (-1 : Int64)) hC.1 hC.2.1 hC.2.2.2.1 ((hZ.1.tb hC.2.2.2.2.2.2 args) _ t_733) d_AckBook_Arrivals_enter_46 ?_
        refine lv_goto (tgt := 58) hC.1 hC.2.1 d_AckBook_Arrivals_enter_49 (by decide) ?_
        refine lv_lstore (lv' := [(6, .long (-1 : Int64)), (5, .int v2), (0, va_rf a0), (1, .long pJ1), (3, .int pI2), (4, .int pI3)]) hC.1 hC.2.1 d_AckBook_Arrivals_enter_58 hl (by decide) (by first | rfl | simp [z_rfc, z_ci, z_cj]) (fun ls hl => ?_)
        refine x_aload_n hC d_AckBook_Arrivals_enter_60 rfl (lv_at hl 2 rfl) ?_
        refine lv_lload_n hC.1 hC.2.1 d_AckBook_Arrivals_enter_61 rfl (lv_at hl 3 rfl) ?_
        refine lv_iload hC.1 hC.2.1 d_AckBook_Arrivals_enter_62 (lv_at hl 1 rfl) ?_
        obtain ⟨a_, fs_, eo_, h⟩ := z_this_spec h
        obtain ⟨w1_, o1_, hF_, ha_⟩ := z_cV_spec h
        refine x_goes hC hRc hRs hFr ha_ (z_goV (As := [.long pJ1, .int v2]) hC hZ zc5 eo_ (k_AckBook_Arrivals_keep hT hfl _ _ hF_) t_734 t_736 ts_AckBook_Arrivals_keep t_8 t_737 ⟨by decide, by decide, (by decide +kernel : (parseMethodDescriptor y_AckBook_Arrivals_keep.desc).map (fun d => d.parameters.length) = some 2)⟩ (by rw [hRt.1]; decide) (by rw [hRt.2]; decide) hl.1 rfl (by first | exact Nat.le_of_ble_eq_true rfl | simp [z_rfc, z_ci, z_cj]) d_AckBook_Arrivals_enter_64) (fun v_ hv H locs cells slots hZ => ?_)
        obtain ⟨rfl, h⟩ := hv
        generalize w1_ = w at h hZ
        refine lv_iload_n hC.1 hC.2.1 d_AckBook_Arrivals_enter_67 rfl (lv_at hl 4 rfl) ?_
        refine lv_if_eq (tgt := 91) hC.1 hC.2.1 d_AckBook_Arrivals_enter_68 (by decide) (fun hc => ?_) (fun hc => ?_)
        · have h := z_ifp hc h
          refine lv_lload_n hC.1 hC.2.1 d_AckBook_Arrivals_enter_91 rfl (lv_at hl 3 rfl) ?_
          refine lv_lload hC.1 hC.2.1 d_AckBook_Arrivals_enter_92 (lv_at hl 0 rfl) ?_
          refine W.lcmp hC.1 hC.2.1 d_AckBook_Arrivals_enter_94 ?_
          refine lv_if_le (tgt := 104) hC.1 hC.2.1 d_AckBook_Arrivals_enter_95 (by decide) (fun hc => ?_) (fun hc => ?_)
          · have h := z_ifp hc h
            refine lv_iconst (v := (1 : Int32)) hC.1 hC.2.1 d_AckBook_Arrivals_enter_104 (by decide) ?_
            exact x_iret hC hRc hRs hZ hr rfl h d_AckBook_Arrivals_enter_105
          · have h := z_ifn hc h
            refine x_aload_n hC d_AckBook_Arrivals_enter_98 rfl (lv_at hl 2 rfl) ?_
            refine lv_iload hC.1 hC.2.1 d_AckBook_Arrivals_enter_99 (lv_at hl 5 rfl) ?_
            refine x_put hC hZ zc5 h (by decide) t_136 (fun _ h9 => h9) rfl rfl rfl rfl d_AckBook_Arrivals_enter_101 (fun w H locs hZ h => ?_)
            refine lv_iconst (v := (1 : Int32)) hC.1 hC.2.1 d_AckBook_Arrivals_enter_104 (by decide) ?_
            exact x_iret hC hRc hRs hZ hr rfl h d_AckBook_Arrivals_enter_105
        · have h := z_ifn hc h
          refine x_aload_n hC d_AckBook_Arrivals_enter_71 rfl (lv_at hl 2 rfl) ?_
          refine lv_lload_n hC.1 hC.2.1 d_AckBook_Arrivals_enter_72 rfl (lv_at hl 3 rfl) ?_
          refine lv_lload hC.1 hC.2.1 d_AckBook_Arrivals_enter_73 (lv_at hl 0 rfl) ?_
          refine lv_lconst (v := (1 : Int64)) hC.1 hC.2.1 d_AckBook_Arrivals_enter_75 (by decide) ?_
          refine lv_ladd hC.1 hC.2.1 d_AckBook_Arrivals_enter_76 ?_
          refine W.lcmp hC.1 hC.2.1 d_AckBook_Arrivals_enter_77 ?_
          refine lv_if_eq (tgt := 85) hC.1 hC.2.1 d_AckBook_Arrivals_enter_78 (by decide) (fun hc => ?_) (fun hc => ?_)
          · have h := z_ifp hc h
            refine lv_iconst (v := (0 : Int32)) hC.1 hC.2.1 d_AckBook_Arrivals_enter_85 (by decide) ?_
            refine lv_iload hC.1 hC.2.1 d_AckBook_Arrivals_enter_86 (lv_at hl 5 rfl) ?_
            obtain ⟨a_, fs_, eo_, h⟩ := z_this_spec h
            obtain ⟨w1_, o1_, hF_, ha_⟩ := z_cV_spec h
            refine x_goes hC hRc hRs hFr ha_ (z_goV (As := [.int (0 : Int32), .int pI3]) hC hZ zc5 eo_ (k_AckBook_Arrivals_hold hT hfl _ _ hF_) t_746 t_748 ts_AckBook_Arrivals_hold t_8 t_749 ⟨by decide, by decide, (by decide +kernel : (parseMethodDescriptor y_AckBook_Arrivals_hold.desc).map (fun d => d.parameters.length) = some 2)⟩ (by rw [hRt.1]; decide) (by rw [hRt.2]; decide) hl.1 rfl (by first | exact Nat.le_of_ble_eq_true rfl | simp [z_rfc, z_ci, z_cj]) d_AckBook_Arrivals_enter_88) (fun v_ hv H locs cells slots hZ => ?_)
            obtain ⟨rfl, h⟩ := hv
            generalize w1_ = w at h hZ
            refine lv_lload_n hC.1 hC.2.1 d_AckBook_Arrivals_enter_91 rfl (lv_at hl 3 rfl) ?_
            refine lv_lload hC.1 hC.2.1 d_AckBook_Arrivals_enter_92 (lv_at hl 0 rfl) ?_
            refine W.lcmp hC.1 hC.2.1 d_AckBook_Arrivals_enter_94 ?_
            refine lv_if_le (tgt := 104) hC.1 hC.2.1 d_AckBook_Arrivals_enter_95 (by decide) (fun hc => ?_) (fun hc => ?_)
            · have h := z_ifp hc h
              refine lv_iconst (v := (1 : Int32)) hC.1 hC.2.1 d_AckBook_Arrivals_enter_104 (by decide) ?_
              exact x_iret hC hRc hRs hZ hr rfl h d_AckBook_Arrivals_enter_105
            · have h := z_ifn hc h
              refine x_aload_n hC d_AckBook_Arrivals_enter_98 rfl (lv_at hl 2 rfl) ?_
              refine lv_iload hC.1 hC.2.1 d_AckBook_Arrivals_enter_99 (lv_at hl 5 rfl) ?_
              refine x_put hC hZ zc5 h (by decide) t_136 (fun _ h9 => h9) rfl rfl rfl rfl d_AckBook_Arrivals_enter_101 (fun w H locs hZ h => ?_)
              refine lv_iconst (v := (1 : Int32)) hC.1 hC.2.1 d_AckBook_Arrivals_enter_104 (by decide) ?_
              exact x_iret hC hRc hRs hZ hr rfl h d_AckBook_Arrivals_enter_105
          · have h := z_ifn hc h
            refine lv_iconst (v := (1 : Int32)) hC.1 hC.2.1 d_AckBook_Arrivals_enter_81 (by decide) ?_
            refine lv_goto (tgt := 86) hC.1 hC.2.1 d_AckBook_Arrivals_enter_82 (by decide) ?_
            refine lv_iload hC.1 hC.2.1 d_AckBook_Arrivals_enter_86 (lv_at hl 5 rfl) ?_
            obtain ⟨a_, fs_, eo_, h⟩ := z_this_spec h
            obtain ⟨w1_, o1_, hF_, ha_⟩ := z_cV_spec h
            refine x_goes hC hRc hRs hFr ha_ (z_goV (As := [.int (1 : Int32), .int pI3]) hC hZ zc5 eo_ (k_AckBook_Arrivals_hold hT hfl _ _ hF_) t_746 t_748 ts_AckBook_Arrivals_hold t_8 t_749 ⟨by decide, by decide, (by decide +kernel : (parseMethodDescriptor y_AckBook_Arrivals_hold.desc).map (fun d => d.parameters.length) = some 2)⟩ (by rw [hRt.1]; decide) (by rw [hRt.2]; decide) hl.1 rfl (by first | exact Nat.le_of_ble_eq_true rfl | simp [z_rfc, z_ci, z_cj]) d_AckBook_Arrivals_enter_88) (fun v_ hv H locs cells slots hZ => ?_)
            obtain ⟨rfl, h⟩ := hv
            generalize w1_ = w at h hZ
            refine lv_lload_n hC.1 hC.2.1 d_AckBook_Arrivals_enter_91 rfl (lv_at hl 3 rfl) ?_
            refine lv_lload hC.1 hC.2.1 d_AckBook_Arrivals_enter_92 (lv_at hl 0 rfl) ?_
            refine W.lcmp hC.1 hC.2.1 d_AckBook_Arrivals_enter_94 ?_
            refine lv_if_le (tgt := 104) hC.1 hC.2.1 d_AckBook_Arrivals_enter_95 (by decide) (fun hc => ?_) (fun hc => ?_)
            · have h := z_ifp hc h
              refine lv_iconst (v := (1 : Int32)) hC.1 hC.2.1 d_AckBook_Arrivals_enter_104 (by decide) ?_
              exact x_iret hC hRc hRs hZ hr rfl h d_AckBook_Arrivals_enter_105
            · have h := z_ifn hc h
              refine x_aload_n hC d_AckBook_Arrivals_enter_98 rfl (lv_at hl 2 rfl) ?_
              refine lv_iload hC.1 hC.2.1 d_AckBook_Arrivals_enter_99 (lv_at hl 5 rfl) ?_
              refine x_put hC hZ zc5 h (by decide) t_136 (fun _ h9 => h9) rfl rfl rfl rfl d_AckBook_Arrivals_enter_101 (fun w H locs hZ h => ?_)
              refine lv_iconst (v := (1 : Int32)) hC.1 hC.2.1 d_AckBook_Arrivals_enter_104 (by decide) ?_
              exact x_iret hC hRc hRs hZ hr rfl h d_AckBook_Arrivals_enter_105
    · have h := z_ifn hc h
      refine lv_lload_n hC.1 hC.2.1 d_AckBook_Arrivals_enter_25 rfl (lv_at hl 2 rfl) ?_
      refine x_aload_n hC d_AckBook_Arrivals_enter_26 rfl (lv_at hl 1 rfl) ?_
      refine x_getR hC hZ zc5 h (by decide) t_126 (fun _ h9 => h9) d_AckBook_Arrivals_enter_27 (fun r14 h => ?_)
      refine lv_iload hC.1 hC.2.1 d_AckBook_Arrivals_enter_30 (lv_at hl 0 rfl) ?_
      refine x_ldL hC hZ h d_AckBook_Arrivals_enter_32 (fun v15 h => ?_)
      refine W.lcmp hC.1 hC.2.1 d_AckBook_Arrivals_enter_33 ?_
      refine lv_if_gt (tgt := 39) hC.1 hC.2.1 d_AckBook_Arrivals_enter_34 (by decide) (fun hc => ?_) (fun hc => ?_)
      · have h := z_ifp hc h
        refine x_aload_n hC d_AckBook_Arrivals_enter_39 rfl (lv_at hl 1 rfl) ?_
        refine x_getI hC hZ zc5 h (by decide) t_128 (fun _ h9 => h9) d_AckBook_Arrivals_enter_40 (fun v16 h => ?_)
        refine lv_if_ne (tgt := 52) hC.1 hC.2.1 d_AckBook_Arrivals_enter_43 (by decide) (fun hc => ?_) (fun hc => ?_)
        · have h := z_ifn hc h
          refine x_aload_n hC d_AckBook_Arrivals_enter_52 rfl (lv_at hl 1 rfl) ?_
          refine x_getR hC hZ zc5 h (by decide) t_126 (fun _ h9 => h9) d_AckBook_Arrivals_enter_53 (fun r20 h => ?_)
          refine lv_iconst (v := (0 : Int32)) hC.1 hC.2.1 d_AckBook_Arrivals_enter_56 (by decide) ?_
          refine x_ldL hC hZ h d_AckBook_Arrivals_enter_57 (fun v21 h => ?_)
          refine lv_lstore (lv' := [(6, .long v21), (5, .int v2), (0, va_rf a0), (1, .long pJ1), (3, .int pI2), (4, .int pI3)]) hC.1 hC.2.1 d_AckBook_Arrivals_enter_58 hl (by decide) (by first | rfl | simp [z_rfc, z_ci, z_cj]) (fun ls hl => ?_)
          refine x_aload_n hC d_AckBook_Arrivals_enter_60 rfl (lv_at hl 2 rfl) ?_
          refine lv_lload_n hC.1 hC.2.1 d_AckBook_Arrivals_enter_61 rfl (lv_at hl 3 rfl) ?_
          refine lv_iload hC.1 hC.2.1 d_AckBook_Arrivals_enter_62 (lv_at hl 1 rfl) ?_
          obtain ⟨a_, fs_, eo_, h⟩ := z_this_spec h
          obtain ⟨w1_, o1_, hF_, ha_⟩ := z_cV_spec h
          refine x_goes hC hRc hRs hFr ha_ (z_goV (As := [.long pJ1, .int v2]) hC hZ zc5 eo_ (k_AckBook_Arrivals_keep hT hfl _ _ hF_) t_734 t_736 ts_AckBook_Arrivals_keep t_8 t_737 ⟨by decide, by decide, (by decide +kernel : (parseMethodDescriptor y_AckBook_Arrivals_keep.desc).map (fun d => d.parameters.length) = some 2)⟩ (by rw [hRt.1]; decide) (by rw [hRt.2]; decide) hl.1 rfl (by first | exact Nat.le_of_ble_eq_true rfl | simp [z_rfc, z_ci, z_cj]) d_AckBook_Arrivals_enter_64) (fun v_ hv H locs cells slots hZ => ?_)
          obtain ⟨rfl, h⟩ := hv
          generalize w1_ = w at h hZ
          refine lv_iload_n hC.1 hC.2.1 d_AckBook_Arrivals_enter_67 rfl (lv_at hl 4 rfl) ?_
          refine lv_if_eq (tgt := 91) hC.1 hC.2.1 d_AckBook_Arrivals_enter_68 (by decide) (fun hc => ?_) (fun hc => ?_)
          · have h := z_ifp hc h
            refine lv_lload_n hC.1 hC.2.1 d_AckBook_Arrivals_enter_91 rfl (lv_at hl 3 rfl) ?_
            refine lv_lload hC.1 hC.2.1 d_AckBook_Arrivals_enter_92 (lv_at hl 0 rfl) ?_
            refine W.lcmp hC.1 hC.2.1 d_AckBook_Arrivals_enter_94 ?_
            refine lv_if_le (tgt := 104) hC.1 hC.2.1 d_AckBook_Arrivals_enter_95 (by decide) (fun hc => ?_) (fun hc => ?_)
            · have h := z_ifp hc h
              refine lv_iconst (v := (1 : Int32)) hC.1 hC.2.1 d_AckBook_Arrivals_enter_104 (by decide) ?_
              exact x_iret hC hRc hRs hZ hr rfl h d_AckBook_Arrivals_enter_105
            · have h := z_ifn hc h
              refine x_aload_n hC d_AckBook_Arrivals_enter_98 rfl (lv_at hl 2 rfl) ?_
              refine lv_iload hC.1 hC.2.1 d_AckBook_Arrivals_enter_99 (lv_at hl 5 rfl) ?_
              refine x_put hC hZ zc5 h (by decide) t_136 (fun _ h9 => h9) rfl rfl rfl rfl d_AckBook_Arrivals_enter_101 (fun w H locs hZ h => ?_)
              refine lv_iconst (v := (1 : Int32)) hC.1 hC.2.1 d_AckBook_Arrivals_enter_104 (by decide) ?_
              exact x_iret hC hRc hRs hZ hr rfl h d_AckBook_Arrivals_enter_105
          · have h := z_ifn hc h
            refine x_aload_n hC d_AckBook_Arrivals_enter_71 rfl (lv_at hl 2 rfl) ?_
            refine lv_lload_n hC.1 hC.2.1 d_AckBook_Arrivals_enter_72 rfl (lv_at hl 3 rfl) ?_
            refine lv_lload hC.1 hC.2.1 d_AckBook_Arrivals_enter_73 (lv_at hl 0 rfl) ?_
            refine lv_lconst (v := (1 : Int64)) hC.1 hC.2.1 d_AckBook_Arrivals_enter_75 (by decide) ?_
            refine lv_ladd hC.1 hC.2.1 d_AckBook_Arrivals_enter_76 ?_
            refine W.lcmp hC.1 hC.2.1 d_AckBook_Arrivals_enter_77 ?_
            refine lv_if_eq (tgt := 85) hC.1 hC.2.1 d_AckBook_Arrivals_enter_78 (by decide) (fun hc => ?_) (fun hc => ?_)
            · have h := z_ifp hc h
              refine lv_iconst (v := (0 : Int32)) hC.1 hC.2.1 d_AckBook_Arrivals_enter_85 (by decide) ?_
              refine lv_iload hC.1 hC.2.1 d_AckBook_Arrivals_enter_86 (lv_at hl 5 rfl) ?_
              obtain ⟨a_, fs_, eo_, h⟩ := z_this_spec h
              obtain ⟨w1_, o1_, hF_, ha_⟩ := z_cV_spec h
              refine x_goes hC hRc hRs hFr ha_ (z_goV (As := [.int (0 : Int32), .int pI3]) hC hZ zc5 eo_ (k_AckBook_Arrivals_hold hT hfl _ _ hF_) t_746 t_748 ts_AckBook_Arrivals_hold t_8 t_749 ⟨by decide, by decide, (by decide +kernel : (parseMethodDescriptor y_AckBook_Arrivals_hold.desc).map (fun d => d.parameters.length) = some 2)⟩ (by rw [hRt.1]; decide) (by rw [hRt.2]; decide) hl.1 rfl (by first | exact Nat.le_of_ble_eq_true rfl | simp [z_rfc, z_ci, z_cj]) d_AckBook_Arrivals_enter_88) (fun v_ hv H locs cells slots hZ => ?_)
              obtain ⟨rfl, h⟩ := hv
              generalize w1_ = w at h hZ
              refine lv_lload_n hC.1 hC.2.1 d_AckBook_Arrivals_enter_91 rfl (lv_at hl 3 rfl) ?_
              refine lv_lload hC.1 hC.2.1 d_AckBook_Arrivals_enter_92 (lv_at hl 0 rfl) ?_
              refine W.lcmp hC.1 hC.2.1 d_AckBook_Arrivals_enter_94 ?_
              refine lv_if_le (tgt := 104) hC.1 hC.2.1 d_AckBook_Arrivals_enter_95 (by decide) (fun hc => ?_) (fun hc => ?_)
              · have h := z_ifp hc h
                refine lv_iconst (v := (1 : Int32)) hC.1 hC.2.1 d_AckBook_Arrivals_enter_104 (by decide) ?_
                exact x_iret hC hRc hRs hZ hr rfl h d_AckBook_Arrivals_enter_105
              · have h := z_ifn hc h
                refine x_aload_n hC d_AckBook_Arrivals_enter_98 rfl (lv_at hl 2 rfl) ?_
                refine lv_iload hC.1 hC.2.1 d_AckBook_Arrivals_enter_99 (lv_at hl 5 rfl) ?_
                refine x_put hC hZ zc5 h (by decide) t_136 (fun _ h9 => h9) rfl rfl rfl rfl d_AckBook_Arrivals_enter_101 (fun w H locs hZ h => ?_)
                refine lv_iconst (v := (1 : Int32)) hC.1 hC.2.1 d_AckBook_Arrivals_enter_104 (by decide) ?_
                exact x_iret hC hRc hRs hZ hr rfl h d_AckBook_Arrivals_enter_105
            · have h := z_ifn hc h
              refine lv_iconst (v := (1 : Int32)) hC.1 hC.2.1 d_AckBook_Arrivals_enter_81 (by decide) ?_
              refine lv_goto (tgt := 86) hC.1 hC.2.1 d_AckBook_Arrivals_enter_82 (by decide) ?_
              refine lv_iload hC.1 hC.2.1 d_AckBook_Arrivals_enter_86 (lv_at hl 5 rfl) ?_
              obtain ⟨a_, fs_, eo_, h⟩ := z_this_spec h
              obtain ⟨w1_, o1_, hF_, ha_⟩ := z_cV_spec h
              refine x_goes hC hRc hRs hFr ha_ (z_goV (As := [.int (1 : Int32), .int pI3]) hC hZ zc5 eo_ (k_AckBook_Arrivals_hold hT hfl _ _ hF_) t_746 t_748 ts_AckBook_Arrivals_hold t_8 t_749 ⟨by decide, by decide, (by decide +kernel : (parseMethodDescriptor y_AckBook_Arrivals_hold.desc).map (fun d => d.parameters.length) = some 2)⟩ (by rw [hRt.1]; decide) (by rw [hRt.2]; decide) hl.1 rfl (by first | exact Nat.le_of_ble_eq_true rfl | simp [z_rfc, z_ci, z_cj]) d_AckBook_Arrivals_enter_88) (fun v_ hv H locs cells slots hZ => ?_)
              obtain ⟨rfl, h⟩ := hv
              generalize w1_ = w at h hZ
              refine lv_lload_n hC.1 hC.2.1 d_AckBook_Arrivals_enter_91 rfl (lv_at hl 3 rfl) ?_
              refine lv_lload hC.1 hC.2.1 d_AckBook_Arrivals_enter_92 (lv_at hl 0 rfl) ?_
              refine W.lcmp hC.1 hC.2.1 d_AckBook_Arrivals_enter_94 ?_
              refine lv_if_le (tgt := 104) hC.1 hC.2.1 d_AckBook_Arrivals_enter_95 (by decide) (fun hc => ?_) (fun hc => ?_)
              · have h := z_ifp hc h
                refine lv_iconst (v := (1 : Int32)) hC.1 hC.2.1 d_AckBook_Arrivals_enter_104 (by decide) ?_
                exact x_iret hC hRc hRs hZ hr rfl h d_AckBook_Arrivals_enter_105
              · have h := z_ifn hc h
                refine x_aload_n hC d_AckBook_Arrivals_enter_98 rfl (lv_at hl 2 rfl) ?_
                refine lv_iload hC.1 hC.2.1 d_AckBook_Arrivals_enter_99 (lv_at hl 5 rfl) ?_
                refine x_put hC hZ zc5 h (by decide) t_136 (fun _ h9 => h9) rfl rfl rfl rfl d_AckBook_Arrivals_enter_101 (fun w H locs hZ h => ?_)
                refine lv_iconst (v := (1 : Int32)) hC.1 hC.2.1 d_AckBook_Arrivals_enter_104 (by decide) ?_
                exact x_iret hC hRc hRs hZ hr rfl h d_AckBook_Arrivals_enter_105
        · have h := z_ifp hc h
          refine lv_ldc2 (v := (-1 : Int64)) hC.1 hC.2.1 hC.2.2.2.1 ((hZ.1.tb hC.2.2.2.2.2.2 args) _ t_733) d_AckBook_Arrivals_enter_46 ?_
          refine lv_goto (tgt := 58) hC.1 hC.2.1 d_AckBook_Arrivals_enter_49 (by decide) ?_
          refine lv_lstore (lv' := [(6, .long (-1 : Int64)), (5, .int v2), (0, va_rf a0), (1, .long pJ1), (3, .int pI2), (4, .int pI3)]) hC.1 hC.2.1 d_AckBook_Arrivals_enter_58 hl (by decide) (by first | rfl | simp [z_rfc, z_ci, z_cj]) (fun ls hl => ?_)
          refine x_aload_n hC d_AckBook_Arrivals_enter_60 rfl (lv_at hl 2 rfl) ?_
          refine lv_lload_n hC.1 hC.2.1 d_AckBook_Arrivals_enter_61 rfl (lv_at hl 3 rfl) ?_
          refine lv_iload hC.1 hC.2.1 d_AckBook_Arrivals_enter_62 (lv_at hl 1 rfl) ?_
          obtain ⟨a_, fs_, eo_, h⟩ := z_this_spec h
          obtain ⟨w1_, o1_, hF_, ha_⟩ := z_cV_spec h
          refine x_goes hC hRc hRs hFr ha_ (z_goV (As := [.long pJ1, .int v2]) hC hZ zc5 eo_ (k_AckBook_Arrivals_keep hT hfl _ _ hF_) t_734 t_736 ts_AckBook_Arrivals_keep t_8 t_737 ⟨by decide, by decide, (by decide +kernel : (parseMethodDescriptor y_AckBook_Arrivals_keep.desc).map (fun d => d.parameters.length) = some 2)⟩ (by rw [hRt.1]; decide) (by rw [hRt.2]; decide) hl.1 rfl (by first | exact Nat.le_of_ble_eq_true rfl | simp [z_rfc, z_ci, z_cj]) d_AckBook_Arrivals_enter_64) (fun v_ hv H locs cells slots hZ => ?_)
          obtain ⟨rfl, h⟩ := hv
          generalize w1_ = w at h hZ
          refine lv_iload_n hC.1 hC.2.1 d_AckBook_Arrivals_enter_67 rfl (lv_at hl 4 rfl) ?_
          refine lv_if_eq (tgt := 91) hC.1 hC.2.1 d_AckBook_Arrivals_enter_68 (by decide) (fun hc => ?_) (fun hc => ?_)
          · have h := z_ifp hc h
            refine lv_lload_n hC.1 hC.2.1 d_AckBook_Arrivals_enter_91 rfl (lv_at hl 3 rfl) ?_
            refine lv_lload hC.1 hC.2.1 d_AckBook_Arrivals_enter_92 (lv_at hl 0 rfl) ?_
            refine W.lcmp hC.1 hC.2.1 d_AckBook_Arrivals_enter_94 ?_
            refine lv_if_le (tgt := 104) hC.1 hC.2.1 d_AckBook_Arrivals_enter_95 (by decide) (fun hc => ?_) (fun hc => ?_)
            · have h := z_ifp hc h
              refine lv_iconst (v := (1 : Int32)) hC.1 hC.2.1 d_AckBook_Arrivals_enter_104 (by decide) ?_
              exact x_iret hC hRc hRs hZ hr rfl h d_AckBook_Arrivals_enter_105
            · have h := z_ifn hc h
              refine x_aload_n hC d_AckBook_Arrivals_enter_98 rfl (lv_at hl 2 rfl) ?_
              refine lv_iload hC.1 hC.2.1 d_AckBook_Arrivals_enter_99 (lv_at hl 5 rfl) ?_
              refine x_put hC hZ zc5 h (by decide) t_136 (fun _ h9 => h9) rfl rfl rfl rfl d_AckBook_Arrivals_enter_101 (fun w H locs hZ h => ?_)
              refine lv_iconst (v := (1 : Int32)) hC.1 hC.2.1 d_AckBook_Arrivals_enter_104 (by decide) ?_
              exact x_iret hC hRc hRs hZ hr rfl h d_AckBook_Arrivals_enter_105
          · have h := z_ifn hc h
            refine x_aload_n hC d_AckBook_Arrivals_enter_71 rfl (lv_at hl 2 rfl) ?_
            refine lv_lload_n hC.1 hC.2.1 d_AckBook_Arrivals_enter_72 rfl (lv_at hl 3 rfl) ?_
            refine lv_lload hC.1 hC.2.1 d_AckBook_Arrivals_enter_73 (lv_at hl 0 rfl) ?_
            refine lv_lconst (v := (1 : Int64)) hC.1 hC.2.1 d_AckBook_Arrivals_enter_75 (by decide) ?_
            refine lv_ladd hC.1 hC.2.1 d_AckBook_Arrivals_enter_76 ?_
            refine W.lcmp hC.1 hC.2.1 d_AckBook_Arrivals_enter_77 ?_
            refine lv_if_eq (tgt := 85) hC.1 hC.2.1 d_AckBook_Arrivals_enter_78 (by decide) (fun hc => ?_) (fun hc => ?_)
            · have h := z_ifp hc h
              refine lv_iconst (v := (0 : Int32)) hC.1 hC.2.1 d_AckBook_Arrivals_enter_85 (by decide) ?_
              refine lv_iload hC.1 hC.2.1 d_AckBook_Arrivals_enter_86 (lv_at hl 5 rfl) ?_
              obtain ⟨a_, fs_, eo_, h⟩ := z_this_spec h
              obtain ⟨w1_, o1_, hF_, ha_⟩ := z_cV_spec h
              refine x_goes hC hRc hRs hFr ha_ (z_goV (As := [.int (0 : Int32), .int pI3]) hC hZ zc5 eo_ (k_AckBook_Arrivals_hold hT hfl _ _ hF_) t_746 t_748 ts_AckBook_Arrivals_hold t_8 t_749 ⟨by decide, by decide, (by decide +kernel : (parseMethodDescriptor y_AckBook_Arrivals_hold.desc).map (fun d => d.parameters.length) = some 2)⟩ (by rw [hRt.1]; decide) (by rw [hRt.2]; decide) hl.1 rfl (by first | exact Nat.le_of_ble_eq_true rfl | simp [z_rfc, z_ci, z_cj]) d_AckBook_Arrivals_enter_88) (fun v_ hv H locs cells slots hZ => ?_)
              obtain ⟨rfl, h⟩ := hv
              generalize w1_ = w at h hZ
              refine lv_lload_n hC.1 hC.2.1 d_AckBook_Arrivals_enter_91 rfl (lv_at hl 3 rfl) ?_
              refine lv_lload hC.1 hC.2.1 d_AckBook_Arrivals_enter_92 (lv_at hl 0 rfl) ?_
              refine W.lcmp hC.1 hC.2.1 d_AckBook_Arrivals_enter_94 ?_
              refine lv_if_le (tgt := 104) hC.1 hC.2.1 d_AckBook_Arrivals_enter_95 (by decide) (fun hc => ?_) (fun hc => ?_)
              · have h := z_ifp hc h
                refine lv_iconst (v := (1 : Int32)) hC.1 hC.2.1 d_AckBook_Arrivals_enter_104 (by decide) ?_
                exact x_iret hC hRc hRs hZ hr rfl h d_AckBook_Arrivals_enter_105
              · have h := z_ifn hc h
                refine x_aload_n hC d_AckBook_Arrivals_enter_98 rfl (lv_at hl 2 rfl) ?_
                refine lv_iload hC.1 hC.2.1 d_AckBook_Arrivals_enter_99 (lv_at hl 5 rfl) ?_
                refine x_put hC hZ zc5 h (by decide) t_136 (fun _ h9 => h9) rfl rfl rfl rfl d_AckBook_Arrivals_enter_101 (fun w H locs hZ h => ?_)
                refine lv_iconst (v := (1 : Int32)) hC.1 hC.2.1 d_AckBook_Arrivals_enter_104 (by decide) ?_
                exact x_iret hC hRc hRs hZ hr rfl h d_AckBook_Arrivals_enter_105
            · have h := z_ifn hc h
              refine lv_iconst (v := (1 : Int32)) hC.1 hC.2.1 d_AckBook_Arrivals_enter_81 (by decide) ?_
              refine lv_goto (tgt := 86) hC.1 hC.2.1 d_AckBook_Arrivals_enter_82 (by decide) ?_
              refine lv_iload hC.1 hC.2.1 d_AckBook_Arrivals_enter_86 (lv_at hl 5 rfl) ?_
              obtain ⟨a_, fs_, eo_, h⟩ := z_this_spec h
              obtain ⟨w1_, o1_, hF_, ha_⟩ := z_cV_spec h
              refine x_goes hC hRc hRs hFr ha_ (z_goV (As := [.int (1 : Int32), .int pI3]) hC hZ zc5 eo_ (k_AckBook_Arrivals_hold hT hfl _ _ hF_) t_746 t_748 ts_AckBook_Arrivals_hold t_8 t_749 ⟨by decide, by decide, (by decide +kernel : (parseMethodDescriptor y_AckBook_Arrivals_hold.desc).map (fun d => d.parameters.length) = some 2)⟩ (by rw [hRt.1]; decide) (by rw [hRt.2]; decide) hl.1 rfl (by first | exact Nat.le_of_ble_eq_true rfl | simp [z_rfc, z_ci, z_cj]) d_AckBook_Arrivals_enter_88) (fun v_ hv H locs cells slots hZ => ?_)
              obtain ⟨rfl, h⟩ := hv
              generalize w1_ = w at h hZ
              refine lv_lload_n hC.1 hC.2.1 d_AckBook_Arrivals_enter_91 rfl (lv_at hl 3 rfl) ?_
              refine lv_lload hC.1 hC.2.1 d_AckBook_Arrivals_enter_92 (lv_at hl 0 rfl) ?_
              refine W.lcmp hC.1 hC.2.1 d_AckBook_Arrivals_enter_94 ?_
              refine lv_if_le (tgt := 104) hC.1 hC.2.1 d_AckBook_Arrivals_enter_95 (by decide) (fun hc => ?_) (fun hc => ?_)
              · have h := z_ifp hc h
                refine lv_iconst (v := (1 : Int32)) hC.1 hC.2.1 d_AckBook_Arrivals_enter_104 (by decide) ?_
                exact x_iret hC hRc hRs hZ hr rfl h d_AckBook_Arrivals_enter_105
              · have h := z_ifn hc h
                refine x_aload_n hC d_AckBook_Arrivals_enter_98 rfl (lv_at hl 2 rfl) ?_
                refine lv_iload hC.1 hC.2.1 d_AckBook_Arrivals_enter_99 (lv_at hl 5 rfl) ?_
                refine x_put hC hZ zc5 h (by decide) t_136 (fun _ h9 => h9) rfl rfl rfl rfl d_AckBook_Arrivals_enter_101 (fun w H locs hZ h => ?_)
                refine lv_iconst (v := (1 : Int32)) hC.1 hC.2.1 d_AckBook_Arrivals_enter_104 (by decide) ?_
                exact x_iret hC hRc hRs hZ hr rfl h d_AckBook_Arrivals_enter_105
      · have h := z_ifn hc h
        refine lv_iconst (v := (0 : Int32)) hC.1 hC.2.1 d_AckBook_Arrivals_enter_37 (by decide) ?_
        exact x_iret hC hRc hRs hZ hr rfl h d_AckBook_Arrivals_enter_38
def f_AckBook_Arrivals_isPressing (F : Nat) (a0 : Option Nat) (pI1 : Int32) (w : zW) : zR :=
  z_getI w 5 4 a0 fun v1 =>
  if v1 = 0 then (
    some (.inl (some (.int (0 : Int32))), w))
  else (
    z_getI w 5 4 a0 fun v2 =>
    if (2 : Int32) ≤ v2 then (
      some (.inl (some (.int (1 : Int32))), w))
    else (
      z_getI w 5 6 a0 fun v3 =>
      if v3 = 0 then (
        z_getI w 5 5 a0 fun v4 =>
        if (pI1 - v4) < (25 : Int32) then (
          some (.inl (some (.int (0 : Int32))), w))
        else (
          some (.inl (some (.int (1 : Int32))), w)))
      else (
        some (.inl (some (.int (1 : Int32))), w))))
set_option maxHeartbeats 4000000 in
set_option maxRecDepth 100000 in
theorem k_AckBook_Arrivals_isPressing {b0 : Nat} {H0 : Heap} {D : va_G} {ZS : List (String × String × String × Value)} {l : Launch} (hT : z_TB (zGG b0 H0 D ZS)) (hfl : l.flags = pinnedFlags ++ [noTraceFlag]) {a0 : Option Nat} {pI1 : Int32} (F : Nat) {w : zW} (res : zO × zW) (h : f_AckBook_Arrivals_isPressing F a0 pI1 w = some res) : z_Ct (zGG b0 H0 D ZS) l y_AckBook_Arrivals_isPressing (.code y_AckBook_Arrivals_isPressing c_AckBook_Arrivals_isPressing 2 (some FieldType.boolean)) 0 0 [va_rf a0, .int pI1] w res := by
  refine z_ct hT hfl (by decide) (by simp only [z_sl_i, z_sl_j, z_sl_r, z_sl_n]; decide) ?_
  intro p e R s m args below meth c hC hr hRc hRs hRt hnm hFr H ls hZ hl
  simp only [z_la_i, z_la_j, z_la_r, z_la_n] at hl
  have hl : lv_has ls 2 [(0, va_rf a0), (1, .int pI1)] := hl
  unfold f_AckBook_Arrivals_isPressing at h
  refine x_aload_n hC d_AckBook_Arrivals_isPressing_0 rfl (lv_at hl 0 rfl) ?_
  refine x_getI hC hZ zc5 h (by decide) t_132 (fun _ h9 => h9) d_AckBook_Arrivals_isPressing_1 (fun v1 h => ?_)
  refine lv_if_ne (tgt := 9) hC.1 hC.2.1 d_AckBook_Arrivals_isPressing_4 (by decide) (fun hc => ?_) (fun hc => ?_)
  · have h := z_ifn hc h
    refine x_aload_n hC d_AckBook_Arrivals_isPressing_9 rfl (lv_at hl 0 rfl) ?_
    refine x_getI hC hZ zc5 h (by decide) t_132 (fun _ h9 => h9) d_AckBook_Arrivals_isPressing_10 (fun v2 h => ?_)
    refine lv_iconst (v := (2 : Int32)) hC.1 hC.2.1 d_AckBook_Arrivals_isPressing_13 (by decide) ?_
    refine lv_icmp_ge (tgt := 35) hC.1 hC.2.1 d_AckBook_Arrivals_isPressing_14 (by decide) (fun hc => ?_) (fun hc => ?_)
    · have h := z_ifp hc h
      refine lv_iconst (v := (1 : Int32)) hC.1 hC.2.1 d_AckBook_Arrivals_isPressing_35 (by decide) ?_
      refine lv_goto (tgt := 40) hC.1 hC.2.1 d_AckBook_Arrivals_isPressing_36 (by decide) ?_
      exact x_iret hC hRc hRs hZ hr rfl h d_AckBook_Arrivals_isPressing_40
    · have h := z_ifn hc h
      refine x_aload_n hC d_AckBook_Arrivals_isPressing_17 rfl (lv_at hl 0 rfl) ?_
      refine x_getI hC hZ zc5 h (by decide) t_135 (fun _ h9 => h9) d_AckBook_Arrivals_isPressing_18 (fun v3 h => ?_)
      refine lv_if_ne (tgt := 35) hC.1 hC.2.1 d_AckBook_Arrivals_isPressing_21 (by decide) (fun hc => ?_) (fun hc => ?_)
      · have h := z_ifn hc h
        refine lv_iconst (v := (1 : Int32)) hC.1 hC.2.1 d_AckBook_Arrivals_isPressing_35 (by decide) ?_
        refine lv_goto (tgt := 40) hC.1 hC.2.1 d_AckBook_Arrivals_isPressing_36 (by decide) ?_
        exact x_iret hC hRc hRs hZ hr rfl h d_AckBook_Arrivals_isPressing_40
      · have h := z_ifp hc h
        refine lv_iload_n hC.1 hC.2.1 d_AckBook_Arrivals_isPressing_24 rfl (lv_at hl 1 rfl) ?_
        refine x_aload_n hC d_AckBook_Arrivals_isPressing_25 rfl (lv_at hl 0 rfl) ?_
        refine x_getI hC hZ zc5 h (by decide) t_134 (fun _ h9 => h9) d_AckBook_Arrivals_isPressing_26 (fun v4 h => ?_)
        refine lv_isub hC.1 hC.2.1 d_AckBook_Arrivals_isPressing_29 ?_
        refine lv_bipush (v := (25 : Int32)) hC.1 hC.2.1 d_AckBook_Arrivals_isPressing_30 (by decide) ?_
        refine lv_icmp_lt (tgt := 39) hC.1 hC.2.1 d_AckBook_Arrivals_isPressing_32 (by decide) (fun hc => ?_) (fun hc => ?_)
        · have h := z_ifp hc h
          refine lv_iconst (v := (0 : Int32)) hC.1 hC.2.1 d_AckBook_Arrivals_isPressing_39 (by decide) ?_
          exact x_iret hC hRc hRs hZ hr rfl h d_AckBook_Arrivals_isPressing_40
        · have h := z_ifn hc h
          refine lv_iconst (v := (1 : Int32)) hC.1 hC.2.1 d_AckBook_Arrivals_isPressing_35 (by decide) ?_
          refine lv_goto (tgt := 40) hC.1 hC.2.1 d_AckBook_Arrivals_isPressing_36 (by decide) ?_
          exact x_iret hC hRc hRs hZ hr rfl h d_AckBook_Arrivals_isPressing_40
  · have h := z_ifp hc h
    refine lv_iconst (v := (0 : Int32)) hC.1 hC.2.1 d_AckBook_Arrivals_isPressing_7 (by decide) ?_
    exact x_iret hC hRc hRs hZ hr rfl h d_AckBook_Arrivals_isPressing_8
def f_AckBook_Arrivals_settle (F : Nat) (a0 : Option Nat) (pI1 : Int32) (w : zW) : zR :=
  z_put w 5 4 a0 (.int (0 : Int32)) fun w =>
  z_putZ w 5 6 a0 (0 : Int32) fun w =>
  z_getI w 5 7 a0 fun v1 =>
  some (.inl (some (.int (pI1 - v1))), w)
set_option maxHeartbeats 4000000 in
set_option maxRecDepth 100000 in
theorem k_AckBook_Arrivals_settle {b0 : Nat} {H0 : Heap} {D : va_G} {ZS : List (String × String × String × Value)} {l : Launch} (hT : z_TB (zGG b0 H0 D ZS)) (hfl : l.flags = pinnedFlags ++ [noTraceFlag]) {a0 : Option Nat} {pI1 : Int32} (F : Nat) {w : zW} (res : zO × zW) (h : f_AckBook_Arrivals_settle F a0 pI1 w = some res) : z_Ct (zGG b0 H0 D ZS) l y_AckBook_Arrivals_settle (.code y_AckBook_Arrivals_settle c_AckBook_Arrivals_settle 2 (some FieldType.int)) 0 0 [va_rf a0, .int pI1] w res := by
  refine z_ct hT hfl (by decide) (by simp only [z_sl_i, z_sl_j, z_sl_r, z_sl_n]; decide) ?_
  intro p e R s m args below meth c hC hr hRc hRs hRt hnm hFr H ls hZ hl
  simp only [z_la_i, z_la_j, z_la_r, z_la_n] at hl
  have hl : lv_has ls 2 [(0, va_rf a0), (1, .int pI1)] := hl
  unfold f_AckBook_Arrivals_settle at h
  refine x_aload_n hC d_AckBook_Arrivals_settle_0 rfl (lv_at hl 0 rfl) ?_
  refine lv_iconst (v := (0 : Int32)) hC.1 hC.2.1 d_AckBook_Arrivals_settle_1 (by decide) ?_
  refine x_put hC hZ zc5 h (by decide) t_132 (fun _ h9 => h9) rfl rfl rfl rfl d_AckBook_Arrivals_settle_2 (fun w H locs hZ h => ?_)
  refine x_aload_n hC d_AckBook_Arrivals_settle_5 rfl (lv_at hl 0 rfl) ?_
  refine lv_iconst (v := (0 : Int32)) hC.1 hC.2.1 d_AckBook_Arrivals_settle_6 (by decide) ?_
  refine x_putZ hC hZ zc5 h (by decide) t_135 (fun _ h9 => h9) rfl rfl d_AckBook_Arrivals_settle_7 (fun w H locs hZ h => ?_)
  refine lv_iload_n hC.1 hC.2.1 d_AckBook_Arrivals_settle_10 rfl (lv_at hl 1 rfl) ?_
  refine x_aload_n hC d_AckBook_Arrivals_settle_11 rfl (lv_at hl 0 rfl) ?_
  refine x_getI hC hZ zc5 h (by decide) t_136 (fun _ h9 => h9) d_AckBook_Arrivals_settle_12 (fun v1 h => ?_)
  refine lv_isub hC.1 hC.2.1 d_AckBook_Arrivals_settle_15 ?_
  exact x_iret hC hRc hRs hZ hr rfl h d_AckBook_Arrivals_settle_16
