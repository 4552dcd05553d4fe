theorem z_ifp {α : Type} {c : Prop} [Decidable c] {a b x : α} (hc : c) (h : (if c then a else b) = x) : a = x := by rw [if_pos hc] at h; exact h
theorem z_ifn {α : Type} {c : Prop} [Decidable c] {a b x : α} (hc : ¬ c) (h : (if c then a else b) = x) : b = x := by rw [if_neg hc] at h; exact h
def z_nz (c : Prop) [Decidable c] (K : zR) : zR := if c then none else K
theorem z_nz_spec {c : Prop} [Decidable c] {K : zR} {res : zO × zW} (h : z_nz c K = some res) : ¬ c ∧ K = some res := by
  unfold z_nz at h
  split at h
  · cases h
  · exact ⟨by assumption, h⟩
def z_nn (r : Option Nat) (K : zR) : zR := match r with
  | some _ => K
  | none => none
theorem z_nn_spec {r : Option Nat} {K : zR} {res : zO × zW} (h : z_nn r K = some res) : ∃ a, r = some a ∧ K = some res := by
  cases r with
  | none => cases h
  | some a => exact ⟨a, rfl, h⟩
theorem z_this_spec {w : zW} {ci : Nat} {r : Option Nat} {K : zR} {res : zO × zW} (h : z_this w ci r K = some res) : ∃ a fs, z_obj w ci r = some (a, fs) ∧ K = some res := by
  unfold z_this at h
  split at h
  · rename_i q hq
    exact ⟨q.1, q.2, hq, h⟩
  · cases h
def z_retZ (v : Int32) (w : zW) : zR := if v = 0 ∨ v = 1 then some (.inl (some (.int v)), w) else none
/-- what comes behind a call: an answer that P takes, or what was thrown goes on -/
def z_ans (r1 : zO × zW) (res : zO × zW) (P : Option Value → Prop) : Prop := (∃ v, r1.1 = .inl v ∧ P v) ∨ ∃ x, r1.1 = .inr x ∧ res = (.inr x, r1.2)
theorem z_cI_spec {x : zR} {K : Int32 → zW → zR} {res : zO × zW} (h : z_cI x K = some res) : ∃ (w1 : zW) (o1 : zO), x = some (o1, w1) ∧ z_ans (o1, w1) res (fun v => ∃ y : Int32, v = some (.int y) ∧ K y w1 = some res) := by
  unfold z_cI at h
  split at h
  · exact ⟨_, _, rfl, Or.inl ⟨_, rfl, _, rfl, h⟩⟩
  · cases h
    exact ⟨_, _, rfl, Or.inr ⟨_, rfl, rfl⟩⟩
  · cases h
theorem z_cL_spec {x : zR} {K : Int64 → zW → zR} {res : zO × zW} (h : z_cL x K = some res) : ∃ (w1 : zW) (o1 : zO), x = some (o1, w1) ∧ z_ans (o1, w1) res (fun v => ∃ y : Int64, v = some (.long y) ∧ K y w1 = some res) := by
  unfold z_cL at h
  split at h
  · exact ⟨_, _, rfl, Or.inl ⟨_, rfl, _, rfl, h⟩⟩
  · cases h
    exact ⟨_, _, rfl, Or.inr ⟨_, rfl, rfl⟩⟩
  · cases h
theorem z_cR_spec {x : zR} {K : Option Nat → zW → zR} {res : zO × zW} (h : z_cR x K = some res) : ∃ (w1 : zW) (o1 : zO), x = some (o1, w1) ∧ z_ans (o1, w1) res (fun v => ∃ y : Option Nat, v = some (va_rf y) ∧ K y w1 = some res) := by
  unfold z_cR at h
  split at h
  · exact ⟨_, _, rfl, Or.inl ⟨_, rfl, none, rfl, h⟩⟩
  · exact ⟨_, _, rfl, Or.inl ⟨_, rfl, some _, rfl, h⟩⟩
  · cases h
    exact ⟨_, _, rfl, Or.inr ⟨_, rfl, rfl⟩⟩
  · cases h
theorem z_cV_spec {x : zR} {K : zW → zR} {res : zO × zW} (h : z_cV x K = some res) : ∃ (w1 : zW) (o1 : zO), x = some (o1, w1) ∧ z_ans (o1, w1) res (fun v => v = none ∧ K w1 = some res) := by
  unfold z_cV at h
  split at h
  · exact ⟨_, _, rfl, Or.inl ⟨_, rfl, rfl, h⟩⟩
  · cases h
    exact ⟨_, _, rfl, Or.inr ⟨_, rfl, rfl⟩⟩
  · cases h
theorem z_rfc (r : Option Nat) : (va_rf r).category = 1 := by cases r <;> rfl
theorem z_rfn (n : String) (r : Option Nat) : narrow (.object n) (va_rf r) = va_rf r := by cases r <;> rfl
theorem z_rff (n : String) (r : Option Nat) : fits (.object n) (va_rf r) = true := by cases r <;> rfl
theorem z_rfnA (t : FieldType) (r : Option Nat) : narrow (.array t) (va_rf r) = va_rf r := by cases r <;> rfl
theorem z_rffA (t : FieldType) (r : Option Nat) : fits (.array t) (va_rf r) = true := by cases r <;> rfl
theorem z_tab {x : Int32} (n : Nat) (h : ∀ k : Nat, k ≤ n → ¬ x = nI k) : x.toInt < 0 ∨ (n : Int) < x.toInt := by
  rcases Int.lt_or_le x.toInt 0 with q | q
  · exact Or.inl q
  · right
    have hx : x = nI x.toInt.toNat := by
      apply Int32.toInt_inj.mp
      have hb := Int32.toInt_lt x
      rw [nI_toInt (by omega)]
      omega
    rcases Int.lt_or_le (n : Int) x.toInt with z | z
    · exact z
    · exact absurd hx (h _ (by omega))
section ZR3
variable {p : Program} {l : Launch} {e : Env} {R : Room} {s : State} {m : MethodId} {args : Array Value} {below : List Frame} {meth : Method} {c : Code} {H : Heap} {locs : List Loc} {cells slots : Nat} {Q : State → Prop} {cc : ByteArray} {pc nL : Nat} {ls : Array Slot} {rest : List Value} {G : zG} {w : zW} {own : String} {res : zO × zW}
theorem x_zret (hC : z_C G p e s m meth c cc nL own) {w0 : zW} (hc : R.cells = w0.2.1) (hs : R.slots = w0.2.2.1) (hZ : z_Z G R s w H locs cells slots) {v : Int32} (hr : meth.sig.returnType = some .boolean) (h : z_retZ v w = some res) (hd : decode cc pc = .ok (.ireturn, 1)) : W p l e R s m args below meth c H locs cells slots (z_Q G below s w0 res) (F0 m pc ls [.int v]) := by
  unfold z_retZ at h
  split at h
  · rename_i hv
    exact x_iret hC hc hs hZ hr (by rcases hv with rfl | rfl <;> rfl) h hd
  · cases h
theorem x_objInit (hC : z_C G p e s m meth c cc nL own) (hZ : z_Z G R s w H locs cells slots) {r : Option Nat} {a : Nat} (hr : r = some a) {idx : Nat} (hlink : Cond.methodLink own idx Lib.objectInit ∈ G.2.2.2.2.1) (ho : Cond.instanceMethod Lib.objectInit ∈ G.2.2.2.2.1 ∧ Cond.code Lib.objectInit ⟨#[0xb1]⟩ 1 none ∈ G.2.2.2.2.1) (hsz : ls.size = nL) (hd : decode cc pc = .ok (.invokespecial idx, 3)) (hframes : 1 ≤ R.frames) (hlocals : (rest.map fun v => v.category).sum + 12 ≤ R.locals)
    (kk : W p l e R s m args below meth c H locs cells slots Q (F0 m (pc + 3) ls rest)) : W p l e R s m args below meth c H locs cells slots Q (F0 m pc ls (va_rf r :: rest)) := by
  subst hr
  have hts := hZ.1.tb hC.2.2.2.2.2.2 args
  exact W.objInit hC.1 hC.2.1 hC.2.2.2.1 (hts _ hlink) (hts _ ho.1) (hts _ ho.2) rfl (by rw [hC.2.2.1]; exact hsz) rfl hd hframes (by show 2 * 0 + _ + _ ≤ _; omega) kk
theorem z_isA {U : State} {cell : Cell} {kA : Class} {comp : ClassId} {ty : FieldType} (h2 : ∀ k, cell.vm ≠ .statics k) (h4 : U.vm.classes[cell.cls]? = some kA) (h5 : kA.kind = .array comp ty) : U.isArrayOf cell ty := ⟨h2, kA, h4, comp, h5⟩
theorem x_len (hC : z_C G p e s m meth c cc nL own) (hZ : z_Z G R s w H locs cells slots) {r : Option Nat} {K : Int32 → zR} (h : z_len w r K = some res) (hd : decode cc pc = .ok (.arraylength, 1)) (kk : ∀ x : Int32, K x = some res → W p l e R s m args below meth c H locs cells slots Q (F0 m (pc + 1) ls (.int x :: rest))) : W p l e R s m args below meth c H locs cells slots Q (F0 m pc ls (va_rf r :: rest)) := by
  unfold z_len at h
  split at h
  · rename_i a
    split at h
    · rename_i t x hw
      obtain ⟨cell, kA, comp, h1, h2, h3, h4, h5, h6, h7, h8⟩ := (hZ.1.c a _ hw).2
      exact W.alen hC.1 hC.2.1 h1 (z_isA h2 h4 h5) (n := Int32.ofNat x.1) (by rw [h7]) rfl rfl hd (kk _ h)
    · cases h
  · cases h
theorem x_ldI (hC : z_C G p e s m meth c cc nL own) (hZ : z_Z G R s w H locs cells slots) {r : Option Nat} {i : Int32} {K : Int32 → zR} (h : z_ldI w .int r i K = some res) (hd : decode cc pc = .ok (.iaload, 1)) (kk : ∀ x : Int32, K x = some res → W p l e R s m args below meth c H locs cells slots Q (F0 m (pc + 1) ls (.int x :: rest))) : W p l e R s m args below meth c H locs cells slots Q (F0 m pc ls (.int i :: va_rf r :: rest)) := by
  unfold z_ldI at h
  split at h
  · rename_i a n f ho
    split at h
    · rename_i hi
      obtain ⟨rfl, hw⟩ := z_arr_spec ho
      obtain ⟨cell, kA, comp, h1, h2, h3, h4, h5, h6, h7, h8⟩ := (hZ.1.c a _ hw).2
      exact W.iald hC.1 hC.2.1 h1 (z_isA h2 h4 h5) h3 (by rw [h7]; exact hi) (h8 _ (Nat.not_le.mp fun q => hi (Or.inr q))) rfl rfl hd (kk _ h)
    · cases h
  · cases h
theorem x_ldZ (hC : z_C G p e s m meth c cc nL own) (hZ : z_Z G R s w H locs cells slots) {r : Option Nat} {i : Int32} {K : Int32 → zR} (h : z_ldI w .boolean r i K = some res) (hd : decode cc pc = .ok (.baload, 1)) (kk : ∀ x : Int32, K x = some res → W p l e R s m args below meth c H locs cells slots Q (F0 m (pc + 1) ls (.int x :: rest))) : W p l e R s m args below meth c H locs cells slots Q (F0 m pc ls (.int i :: va_rf r :: rest)) := by
  unfold z_ldI at h
  split at h
  · rename_i a n f ho
    split at h
    · rename_i hi
      obtain ⟨rfl, hw⟩ := z_arr_spec ho
      obtain ⟨cell, kA, comp, h1, h2, h3, h4, h5, h6, h7, h8⟩ := (hZ.1.c a _ hw).2
      exact W.zald hC.1 hC.2.1 h1 (z_isA h2 h4 h5) h3 (by rw [h7]; exact hi) (h8 _ (Nat.not_le.mp fun q => hi (Or.inr q))) rfl rfl hd (kk _ h)
    · cases h
  · cases h
theorem x_ldL (hC : z_C G p e s m meth c cc nL own) (hZ : z_Z G R s w H locs cells slots) {r : Option Nat} {i : Int32} {K : Int64 → zR} (h : z_ldL w r i K = some res) (hd : decode cc pc = .ok (.laload, 1)) (kk : ∀ x : Int64, K x = some res → W p l e R s m args below meth c H locs cells slots Q (F0 m (pc + 1) ls (.long x :: rest))) : W p l e R s m args below meth c H locs cells slots Q (F0 m pc ls (.int i :: va_rf r :: rest)) := by
  unfold z_ldL at h
  split at h
  · rename_i a n f ho
    split at h
    · rename_i hi
      obtain ⟨rfl, hw⟩ := z_arr_spec ho
      obtain ⟨cell, kA, comp, h1, h2, h3, h4, h5, h6, h7, h8⟩ := (hZ.1.c a _ hw).2
      exact W.lald hC.1 hC.2.1 h1 (z_isA h2 h4 h5) h3 (by rw [h7]; exact hi) (h8 _ (Nat.not_le.mp fun q => hi (Or.inr q))) rfl rfl hd (kk _ h)
    · cases h
  · cases h
theorem x_ldR (hC : z_C G p e s m meth c cc nL own) (hZ : z_Z G R s w H locs cells slots) {ty : FieldType} {r : Option Nat} {i : Int32} {K : Option Nat → zR} (h : z_ldR w ty r i K = some res) (hty : ty.isReference = true) (hd : decode cc pc = .ok (.aaload, 1)) (kk : ∀ x : Option Nat, K x = some res → W p l e R s m args below meth c H locs cells slots Q (F0 m (pc + 1) ls (va_rf x :: rest))) : W p l e R s m args below meth c H locs cells slots Q (F0 m pc ls (.int i :: va_rf r :: rest)) := by
  unfold z_ldR at h
  split at h
  · rename_i a n f ho
    split at h
    · rename_i hi
      obtain ⟨rfl, hw⟩ := z_arr_spec ho
      obtain ⟨cell, kA, comp, h1, h2, h3, h4, h5, h6, h7, h8⟩ := (hZ.1.c a _ hw).2
      exact W.aald hC.1 hC.2.1 h1 (z_isA h2 h4 h5) hty h3 (by rw [h7]; exact hi) (h8 _ (Nat.not_le.mp fun q => hi (Or.inr q))) rfl rfl hd (kk _ h)
    · cases h
  · cases h
/-- an array's cell behind a store -/
theorem z_oA.store {U : State} {H1 : Heap} {a : Nat} {ty : FieldType} {x x1 : vp_A} {j : Nat} {v : Value} {cell : Cell} {kA : Class} {comp : ClassId} (h2 : ∀ k, cell.vm ≠ .statics k) (h3 : cell.vm ≠ .unknown) (h4 : U.vm.classes[cell.cls]? = some kA) (h5 : kA.kind = .array comp ty) (h6 : z_cmp U ty comp cell.cls) (h7 : cell.slots.size = x.1) (h8 : ∀ j, j < x.1 → cell.slots[j]? = some (z_xV x j)) (e1 : H1[a]? = some (cell.setSlot j v)) (hn : x1.1 = x.1) (hj : j < x.1) (hv : ∀ i, i < x.1 → z_xV x1 i = if i = j then v else z_xV x i) : z_oA U H1 a ty x1 := by
  refine ⟨_, kA, comp, e1, h2, h3, h4, h5, h6, ?_, fun i hi => ?_⟩
  · rw [hn, ← h7]; simp [Cell.setSlot]
  · rw [hn] at hi
    rw [hv i hi]
    by_cases hij : i = j
    · subst hij
      rw [if_pos rfl]
      simp [Cell.setSlot, h7, hj]
    · rw [if_neg hij, ← h8 i hi]
      simp [Cell.setSlot, Array.getElem?_setIfInBounds, Ne.symm hij]
theorem z_base {a : Nat} {ty : FieldType} {x : vp_A} (hZ : z_Z G R s w H locs cells slots) (hw : w.2.2.2 a = some (.inl (ty, x))) {j : Nat} (hj : j < x.1) : G.1 ≤ a := by
  rcases (hZ.1.c a _ hw).1 with q | ⟨t, y, q, q2⟩
  · exact q
  · cases q
    omega
theorem z_Z.st {a j : Nat} {ty : FieldType} {x x1 : vp_A} {v : Value} {cell : Cell} {kA : Class} {comp : ClassId} {H1 : Heap} (hZ : z_Z G R s w H locs cells slots) (hw : w.2.2.2 a = some (.inl (ty, x))) (h2 : ∀ k, cell.vm ≠ .statics k) (h3 : cell.vm ≠ .unknown) (h4 : s.vm.classes[cell.cls]? = some kA) (h5 : kA.kind = .array comp ty) (h6 : z_cmp s ty comp cell.cls) (h7 : cell.slots.size = x.1) (h8 : ∀ j, j < x.1 → cell.slots[j]? = some (z_xV x j)) (e1 : H1[a]? = some (cell.setSlot j v)) (e2 : H1.size = H.size) (e3 : ∀ q, q ≠ a → H1[q]? = H[q]?) (hn : x1.1 = x.1) (hj : j < x.1) (hv : ∀ i, i < x.1 → z_xV x1 i = if i = j then v else z_xV x i) : z_Z G R s (z_set w a (.inl (ty, x1))) H1 (locs ++ [⟨a, j⟩]) cells slots := by
  have hb := z_base hZ hw hj
  refine ⟨hZ.1.set hw hb (e := .inl (ty, x1)) (z_oA.store h2 h3 h4 h5 h6 h7 h8 e1 hn hj hv) e2 e3, fun q hq => ?_, hZ.2.2⟩
  rcases List.mem_append.mp hq with q1 | q1
  · exact hZ.2.1 _ q1
  · rw [List.mem_singleton.mp q1]; exact hb
theorem x_stI (hC : z_C G p e s m meth c cc nL own) (hZ : z_Z G R s w H locs cells slots) {r : Option Nat} {i x : Int32} {K : zW → zR} (h : z_stI w r i x K = some res) (hd : decode cc pc = .ok (.iastore, 1)) (kk : ∀ (w : zW) (H : Heap) (locs : List Loc), z_Z G R s w H locs cells slots → K w = some res → W p l e R s m args below meth c H locs cells slots Q (F0 m (pc + 1) ls rest)) : W p l e R s m args below meth c H locs cells slots Q (F0 m pc ls (.int x :: .int i :: va_rf r :: rest)) := by
  unfold z_stI at h
  split at h
  · rename_i a n f ho
    split at h
    · rename_i hi
      obtain ⟨rfl, hw⟩ := z_arr_spec ho
      obtain ⟨cell, kA, comp, h1, h2, h3, h4, h5, h6, h7, h8⟩ := (hZ.1.c a _ hw).2
      have hlt : i.toNatClampNeg < n := Nat.not_le.mp fun q => hi (Or.inr q)
      refine W.iast hC.1 hC.2.1 h1 (z_isA h2 h4 h5) h3 (by rw [h7]; exact hi) rfl rfl hd fun H1 e1 e2 e3 => ?_
      refine kk _ _ _ (hZ.st (x1 := (n, .inl (upd f i.toNatClampNeg x))) hw h2 h3 h4 h5 h6 h7 h8 e1 e2 e3 rfl hlt (fun q _ => ?_)) h
      simp only [z_xV, upd]
      split <;> rfl
    · cases h
  · cases h
theorem x_stZ (hC : z_C G p e s m meth c cc nL own) (hZ : z_Z G R s w H locs cells slots) {r : Option Nat} {i x : Int32} {K : zW → zR} (h : z_stZ w r i x K = some res) (hd : decode cc pc = .ok (.bastore, 1)) (kk : ∀ (w : zW) (H : Heap) (locs : List Loc), z_Z G R s w H locs cells slots → K w = some res → W p l e R s m args below meth c H locs cells slots Q (F0 m (pc + 1) ls rest)) : W p l e R s m args below meth c H locs cells slots Q (F0 m pc ls (.int x :: .int i :: va_rf r :: rest)) := by
  unfold z_stZ at h
  split at h
  · rename_i a n f ho
    split at h
    · rename_i hi
      obtain ⟨hi, hx⟩ := hi
      obtain ⟨rfl, hw⟩ := z_arr_spec ho
      obtain ⟨cell, kA, comp, h1, h2, h3, h4, h5, h6, h7, h8⟩ := (hZ.1.c a _ hw).2
      have hlt : i.toNatClampNeg < n := Nat.not_le.mp fun q => hi (Or.inr q)
      refine W.zast hC.1 hC.2.1 h1 (z_isA h2 h4 h5) h3 (by rw [h7]; exact hi) rfl rfl hd fun H1 e1 e2 e3 => ?_
      have hnx : narrow .boolean (.int x) = .int x := by rcases hx with rfl | rfl <;> rfl
      rw [hnx] at e1
      refine kk _ _ _ (hZ.st (x1 := (n, .inl (upd f i.toNatClampNeg x))) hw h2 h3 h4 h5 h6 h7 h8 e1 e2 e3 rfl hlt (fun q _ => ?_)) h
      simp only [z_xV, upd]
      split <;> rfl
    · cases h
  · cases h
theorem x_stL (hC : z_C G p e s m meth c cc nL own) (hZ : z_Z G R s w H locs cells slots) {r : Option Nat} {i : Int32} {x : Int64} {K : zW → zR} (h : z_stL w r i x K = some res) (hd : decode cc pc = .ok (.lastore, 1)) (kk : ∀ (w : zW) (H : Heap) (locs : List Loc), z_Z G R s w H locs cells slots → K w = some res → W p l e R s m args below meth c H locs cells slots Q (F0 m (pc + 1) ls rest)) : W p l e R s m args below meth c H locs cells slots Q (F0 m pc ls (.long x :: .int i :: va_rf r :: rest)) := by
  unfold z_stL at h
  split at h
  · rename_i a n f ho
    split at h
    · rename_i hi
      obtain ⟨rfl, hw⟩ := z_arr_spec ho
      obtain ⟨cell, kA, comp, h1, h2, h3, h4, h5, h6, h7, h8⟩ := (hZ.1.c a _ hw).2
      have hlt : i.toNatClampNeg < n := Nat.not_le.mp fun q => hi (Or.inr q)
      refine W.last hC.1 hC.2.1 h1 (z_isA h2 h4 h5) h3 (by rw [h7]; exact hi) rfl rfl hd fun H1 e1 e2 e3 => ?_
      refine kk _ _ _ (hZ.st (x1 := (n, .inr (.inl (vp_updL f i.toNatClampNeg x)))) hw h2 h3 h4 h5 h6 h7 h8 e1 e2 e3 rfl hlt (fun q _ => ?_)) h
      simp only [z_xV, vp_updL]
      split <;> rfl
    · cases h
  · cases h
end ZR3
