/-- what a method's rows stand on -/
def z_C (G : zG) (p : Program) (e : Env) (s : State) (m : MethodId) (meth : Method) (c : Code) (cc : ByteArray) (nL : Nat) (own : String) : Prop :=
  p.tables.exec = Jvm.exec ∧ c.code = cc ∧ c.maxLocals = nL ∧ s.vm.findClass own = some m.cls ∧ meth.locks = false ∧ e.platform.stackTraces = false ∧ z_TB G
def z_Z (G : zG) (R : Room) (s : State) (w : zW) (H : Heap) (locs : List Loc) (cells slots : Nat) : Prop :=
  z_P G s w H ∧ (∀ q ∈ locs, G.1 ≤ q.base) ∧ cells + w.2.1 = R.cells ∧ slots + w.2.2.1 = R.slots
/-- a class of the list: its fields' words, types, names -/
def z_cls (G : zG) (ci : Nat) (C : String) (T : u_T) (N : Nat) (ty : Nat → FieldType) : Prop :=
  G.2.2.2.1[ci]? = some (C, T, N) ∧ (∀ x ∈ u_ws C T N, x ∈ G.2.2.2.2.1) ∧ (∀ k, k < N → parseFieldDescriptor (T k).2.2.1 = some (ty k)) ∧ ∀ a, a < N → ∀ b, b < N → a ≠ b → (T a).2.1 ≠ (T b).2.1
def z_oi (o : zO) (oc : Outcome) : Prop := match o with
  | .inl v => oc = .returned v
  | .inr a => oc = .threw a
def z_E (G : zG) (st : State) (w : zW) (o : zO) (w' : zW) (oc : Outcome) (t : State) : Prop :=
  z_oi o oc ∧ z_P G t w' t.heap ∧ st.WarmedH t.vm ∧ ∃ (L : List Loc) (k n : Nat), st.sameButNew ({ t with vm := st.vm } : State) L k n ∧ k + w'.2.1 = w.2.1 ∧ n + w'.2.2.1 = w.2.2.1 ∧ ∀ q ∈ L, G.1 ≤ q.base
def z_Q (G : zG) (below : List Frame) (s : State) (w : zW) (res : zO × zW) : State → Prop := fun t => ∃ oc, t.status = .running ∧ Ended t below oc ∧ z_E G s w res.1 res.2 oc t
/-- the contract: from the world w, with these arguments, the method ends with o in the world w' -/
def z_Ct (G : zG) (l : Launch) (y : MethodName) (hw : Cond) (fr lo : Nat) (av : List Value) (w : zW) (res : zO × zW) : Prop :=
  MetFree l y (headSpec [hw] { frames := fr, cells := w.2.1, slots := w.2.2.1, locals := lo }) (fun a U => a = av.toArray ∧ z_P G U w U.heap) (fun _ _ _ _ _ => True) (fun _ st oc t => z_E G st w res.1 res.2 oc t)
theorem z_obj_spec {w : zW} {ci : Nat} {r : Option Nat} {a : Nat} {fs : List Value} (h : z_obj w ci r = some (a, fs)) : r = some a ∧ w.2.2.2 a = some (.inr (ci, fs)) := by
  unfold z_obj at h
  split at h
  · split at h
    · split at h
      · rename_i hc
        cases h
        subst hc
        exact ⟨rfl, by assumption⟩
      · cases h
    · cases h
  · cases h
theorem z_arr_spec {w : zW} {ty : FieldType} {r : Option Nat} {a : Nat} {x : vp_A} (h : z_arr w ty r = some (a, x)) : r = some a ∧ w.2.2.2 a = some (.inl (ty, x)) := by
  unfold z_arr at h
  split at h
  · split at h
    · split at h
      · rename_i hc
        cases h
        subst hc
        exact ⟨rfl, by assumption⟩
      · cases h
    · cases h
  · cases h
theorem z_P.set {G : zG} {U : State} {w : zW} {H H1 : Heap} {a : Nat} {e0 e : zOb} (h : z_P G U w H) (ha : w.2.2.2 a = some e0) (hb : G.1 ≤ a) (he : z_at G U H1 a e) (hz : H1.size = H.size) (oq : ∀ q, q ≠ a → H1[q]? = H[q]?) : z_P G U (z_set w a e) H1 := by
  obtain ⟨h1, h2, h0, h3, h4, h5, h6⟩ := h
  refine ⟨h1, h2, h0, hz.trans h3, h4, fun q hq => (oq q (by omega)).trans (h5 q hq), fun b e' hb' => ?_⟩
  simp only [z_set] at hb'
  split at hb'
  · rename_i hba
    subst hba
    cases hb'
    exact ⟨Or.inl hb, he⟩
  · rename_i hba
    exact ⟨(h6 b e' hb').1, (h6 b e' hb').2.kept (oq b hba)⟩
theorem z_P.push {G : zG} {U : State} {w : zW} {H H1 : Heap} {n : Nat} {e : zOb} (h : z_P G U w H) (he : z_at G U H1 w.1 e) (hz : H1.size = H.size + 1) (oq : ∀ q, q < H.size → H1[q]? = H[q]?) : z_P G U (z_push w n e) H1 := by
  obtain ⟨h1, h2, h0, h3, h4, h5, h6⟩ := h
  refine ⟨h1, h2, h0, by rw [hz, h3]; rfl, Nat.le_succ_of_le h4, fun q hq => (oq q (by omega)).trans (h5 q hq), fun b e' hb' => ?_⟩
  simp only [z_push] at hb'
  split at hb'
  · rename_i hba
    subst hba
    cases hb'
    exact ⟨Or.inl h4, he⟩
  · exact ⟨(h6 b e' hb').1, (h6 b e' hb').2.kept (oq b (h6 b e' hb').2.lt)⟩
section ZR
variable {p : Program} {l : Launch} {e : Env} {R : Room} {s : State} {m : MethodId} {args : Array Value} {below : List Frame} {meth : Method} {c : Code} {H : Heap} {locs : List Loc} {cells slots : Nat} {Q : State → Prop} {cc : ByteArray} {pc nL : Nat} {ls : Array Slot} {rest : List Value} {G : zG} {w : zW} {own : String} {res : zO × zW}
theorem W.mono {Q' : State → Prop} {g : JFrame} (h : ∀ t, Q t → Q' t) (k : W p l e R s m args below meth c H locs cells slots Q g) : W p l e R s m args below meth c H locs cells slots Q' g := fun T hT X => by
  obtain ⟨t, a, b⟩ := k T hT X
  exact ⟨t, a, h t b⟩
/-! references as Option Nat -/
theorem x_aload_n (hC : z_C G p e s m meth c cc nL own) {k : Fin 4} {i : Nat} {r : Option Nat} (hd : decode cc pc = .ok (.aload_n k, 1)) (hi : (k : Nat) = i) (hl : ls[i]? = some (.val (va_rf r))) (kk : W p l e R s m args below meth c H locs cells slots Q (F0 m (pc + 1) ls (va_rf r :: rest))) : W p l e R s m args below meth c H locs cells slots Q (F0 m pc ls rest) := by
  cases r with
  | none => exact lv_aload_nN hC.1 hC.2.1 hd hi hl kk
  | some x => exact lv_aload_n hC.1 hC.2.1 hd hi hl kk
theorem x_aload (hC : z_C G p e s m meth c cc nL own) {i : Nat} {r : Option Nat} (hd : decode cc pc = .ok (.aload i, 2)) (hl : ls[i]? = some (.val (va_rf r))) (kk : W p l e R s m args below meth c H locs cells slots Q (F0 m (pc + 2) ls (va_rf r :: rest))) : W p l e R s m args below meth c H locs cells slots Q (F0 m pc ls rest) := by
  cases r with
  | none => exact lv_aloadN hC.1 hC.2.1 hd hl kk
  | some x => exact lv_aload hC.1 hC.2.1 hd hl kk
theorem x_astore_n (hC : z_C G p e s m meth c cc nL own) {k : Fin 4} {i : Nat} {r : Option Nat} {lv lv' : List (Nat × Value)} (hd : decode cc pc = .ok (.astore_n k, 1)) (hi : (k : Nat) = i) (h : lv_has ls nL lv) (hn : i < nL) (hl : (i, va_rf r) :: lv.filter (fun q => !(q.1 == i) && !(q.1 + 1 == i && q.2.category == 2)) = lv')
    (kk : ∀ ls' : Array Slot, lv_has ls' nL lv' → W p l e R s m args below meth c H locs cells slots Q (F0 m (pc + 1) ls' rest)) : W p l e R s m args below meth c H locs cells slots Q (F0 m pc ls (va_rf r :: rest)) := by
  cases r with
  | none => exact lv_astore_nN hC.1 hC.2.1 hd hi h hn hl kk
  | some x => exact lv_astore_n hC.1 hC.2.1 hd hi h hn hl kk
theorem x_astore (hC : z_C G p e s m meth c cc nL own) {i : Nat} {r : Option Nat} {lv lv' : List (Nat × Value)} (hd : decode cc pc = .ok (.astore i, 2)) (h : lv_has ls nL lv) (hn : i < nL) (hl : (i, va_rf r) :: lv.filter (fun q => !(q.1 == i) && !(q.1 + 1 == i && q.2.category == 2)) = lv')
    (kk : ∀ ls' : Array Slot, lv_has ls' nL lv' → W p l e R s m args below meth c H locs cells slots Q (F0 m (pc + 2) ls' rest)) : W p l e R s m args below meth c H locs cells slots Q (F0 m pc ls (va_rf r :: rest)) := by
  cases r with
  | none => exact lv_astoreN hC.1 hC.2.1 hd h hn hl kk
  | some x => exact lv_astore hC.1 hC.2.1 hd h hn hl kk
theorem x_ifnull (hC : z_C G p e s m meth c cc nL own) {r : Option Nat} {off : Int} {tgt : Nat} (hd : decode cc pc = .ok (.ifnull off, 3)) (ht : (pc : Int) + off = (tgt : Int)) (kt : r = none → W p l e R s m args below meth c H locs cells slots Q (F0 m tgt ls rest)) (kf : ¬ r = none → W p l e R s m args below meth c H locs cells slots Q (F0 m (pc + 3) ls rest)) : W p l e R s m args below meth c H locs cells slots Q (F0 m pc ls (va_rf r :: rest)) := by
  cases r with
  | none => exact lv_ifnullN hC.1 hC.2.1 hd ht (kt rfl)
  | some x => exact lv_ifnull hC.1 hC.2.1 hd (kf (by simp))
theorem x_ifnonnull (hC : z_C G p e s m meth c cc nL own) {r : Option Nat} {off : Int} {tgt : Nat} (hd : decode cc pc = .ok (.ifnonnull off, 3)) (ht : (pc : Int) + off = (tgt : Int)) (kt : ¬ r = none → W p l e R s m args below meth c H locs cells slots Q (F0 m tgt ls rest)) (kf : r = none → W p l e R s m args below meth c H locs cells slots Q (F0 m (pc + 3) ls rest)) : W p l e R s m args below meth c H locs cells slots Q (F0 m pc ls (va_rf r :: rest)) := by
  cases r with
  | none => exact lv_ifnonnullN hC.1 hC.2.1 hd (kf rfl)
  | some x => exact lv_ifnonnull hC.1 hC.2.1 hd ht (kt (by simp))
/-! fields -/
theorem z_one {o : Nat × List Value} {a : Nat} (h : z_P G s w H) (hw : w.2.2.2 a = some (.inr o)) : va_P G.2.2.1 G.2.2.2.1 [(a, .inr o)] H := by
  intro k q hk
  cases k with
  | zero =>
    cases hk
    exact (h.c a _ hw).2
  | succ k => simp at hk
theorem x_get (hC : z_C G p e s m meth c cc nL own) (hZ : z_Z G R s w H locs cells slots) {ci : Nat} {C : String} {T : u_T} {N : Nat} {ty : Nat → FieldType} (hc : z_cls G ci C T N ty) {r : Option Nat} {a : Nat} {fs : List Value} (h : z_obj w ci r = some (a, fs)) (k : Nat) (hk : k < N) {index : Nat} {ref : String} (hlink : Cond.fieldLink own index ref (T k).2.1 (T k).2.2.1 ∈ G.2.2.2.2.1) (hsame : ∀ x, s.fieldFound? (T k).1 (T k).2.1 (T k).2.2.1 = some x → s.fieldFound? ref (T k).2.1 (T k).2.2.1 = some x) {v : Value} (hv : fs[k]? = some v) (hd : decode cc pc = .ok (.getfield index, 3)) (kk : W p l e R s m args below meth c H locs cells slots Q (F0 m (pc + 3) ls (v :: rest))) : W p l e R s m args below meth c H locs cells slots Q (F0 m pc ls (va_rf r :: rest)) := by
  obtain ⟨rfl, hw⟩ := z_obj_spec h
  have hts := hZ.1.tb hC.2.2.2.2.2.2 args
  exact va_get (D := G.2.2.1) (cl := G.2.2.2.1) (tys := []) (ws := [(a, .inr (ci, fs))]) hC.1 hC.2.1 hts hc.2.1 hC.2.2.2.1 hZ.1.k (z_one hZ.1 hw) 0 rfl hc.1 k hk (hts _ hlink) hsame hv hd kk
theorem x_getI (hC : z_C G p e s m meth c cc nL own) (hZ : z_Z G R s w H locs cells slots) {ci : Nat} {C : String} {T : u_T} {N : Nat} {ty : Nat → FieldType} (hc : z_cls G ci C T N ty) {r : Option Nat} {k : Nat} {K : Int32 → zR} (h : z_getI w ci k r K = some res) (hk : k < N) {index : Nat} {ref : String} (hlink : Cond.fieldLink own index ref (T k).2.1 (T k).2.2.1 ∈ G.2.2.2.2.1) (hsame : ∀ x, s.fieldFound? (T k).1 (T k).2.1 (T k).2.2.1 = some x → s.fieldFound? ref (T k).2.1 (T k).2.2.1 = some x) (hd : decode cc pc = .ok (.getfield index, 3)) (kk : ∀ x : Int32, K x = some res → W p l e R s m args below meth c H locs cells slots Q (F0 m (pc + 3) ls (.int x :: rest))) : W p l e R s m args below meth c H locs cells slots Q (F0 m pc ls (va_rf r :: rest)) := by
  unfold z_getI at h
  split at h
  · rename_i a fs ho
    split at h
    · rename_i x hx
      exact x_get hC hZ hc ho k hk hlink hsame hx hd (kk x h)
    · cases h
  · cases h
theorem x_getL (hC : z_C G p e s m meth c cc nL own) (hZ : z_Z G R s w H locs cells slots) {ci : Nat} {C : String} {T : u_T} {N : Nat} {ty : Nat → FieldType} (hc : z_cls G ci C T N ty) {r : Option Nat} {k : Nat} {K : Int64 → zR} (h : z_getL w ci k r K = some res) (hk : k < N) {index : Nat} {ref : String} (hlink : Cond.fieldLink own index ref (T k).2.1 (T k).2.2.1 ∈ G.2.2.2.2.1) (hsame : ∀ x, s.fieldFound? (T k).1 (T k).2.1 (T k).2.2.1 = some x → s.fieldFound? ref (T k).2.1 (T k).2.2.1 = some x) (hd : decode cc pc = .ok (.getfield index, 3)) (kk : ∀ x : Int64, K x = some res → W p l e R s m args below meth c H locs cells slots Q (F0 m (pc + 3) ls (.long x :: rest))) : W p l e R s m args below meth c H locs cells slots Q (F0 m pc ls (va_rf r :: rest)) := by
  unfold z_getL at h
  split at h
  · rename_i a fs ho
    split at h
    · rename_i x hx
      exact x_get hC hZ hc ho k hk hlink hsame hx hd (kk x h)
    · cases h
  · cases h
theorem x_getR (hC : z_C G p e s m meth c cc nL own) (hZ : z_Z G R s w H locs cells slots) {ci : Nat} {C : String} {T : u_T} {N : Nat} {ty : Nat → FieldType} (hc : z_cls G ci C T N ty) {r : Option Nat} {k : Nat} {K : Option Nat → zR} (h : z_getR w ci k r K = some res) (hk : k < N) {index : Nat} {ref : String} (hlink : Cond.fieldLink own index ref (T k).2.1 (T k).2.2.1 ∈ G.2.2.2.2.1) (hsame : ∀ x, s.fieldFound? (T k).1 (T k).2.1 (T k).2.2.1 = some x → s.fieldFound? ref (T k).2.1 (T k).2.2.1 = some x) (hd : decode cc pc = .ok (.getfield index, 3)) (kk : ∀ x : Option Nat, K x = some res → W p l e R s m args below meth c H locs cells slots Q (F0 m (pc + 3) ls (va_rf x :: rest))) : W p l e R s m args below meth c H locs cells slots Q (F0 m pc ls (va_rf r :: rest)) := by
  unfold z_getR at h
  split at h
  · rename_i a fs ho
    split at h
    · rename_i hx
      exact x_get hC hZ hc ho k hk hlink hsame hx hd (kk none h)
    · rename_i x hx
      exact x_get hC hZ hc ho k hk hlink hsame hx hd (kk (some x) h)
    · cases h
  · cases h
theorem x_put (hC : z_C G p e s m meth c cc nL own) (hZ : z_Z G R s w H locs cells slots) {ci : Nat} {C : String} {T : u_T} {N : Nat} {ty : Nat → FieldType} (hc : z_cls G ci C T N ty) {r : Option Nat} {k : Nat} {v : Value} {K : zW → zR} (h : z_put w ci k r v K = some res) (hk : k < N) {index : Nat} {ref : String} (hlink : Cond.fieldLink own index ref (T k).2.1 (T k).2.2.1 ∈ G.2.2.2.2.1) (hsame : ∀ x, s.fieldFound? (T k).1 (T k).2.1 (T k).2.2.1 = some x → s.fieldFound? ref (T k).2.1 (T k).2.2.1 = some x) (hfin : (T k).2.2.2 = false) {t : FieldType} (ht : ty k = t) (hn : narrow t v = v) (hfit : fits t v = true) (hd : decode cc pc = .ok (.putfield index, 3))
    (kk : ∀ (w : zW) (H : Heap) (locs : List Loc), z_Z G R s w H locs cells slots → K w = some res → W p l e R s m args below meth c H locs cells slots Q (F0 m (pc + 3) ls rest)) : W p l e R s m args below meth c H locs cells slots Q (F0 m pc ls (v :: va_rf r :: rest)) := by
  unfold z_put at h
  split at h
  · rename_i a fs ho
    split at h
    · rename_i hl
      obtain ⟨rfl, hw⟩ := z_obj_spec ho
      have hts := hZ.1.tb hC.2.2.2.2.2.2 args
      have hb : G.1 ≤ a := by
        rcases (hZ.1.c a _ hw).1 with q | ⟨_, _, q, _⟩
        · exact q
        · cases q
      have hap := va_apart (own := own) hts hc.2.1 ty hc.2.2.1 hc.2.2.2 hZ.1.k hc.1
      obtain ⟨r', h1, cell, q1, q2, q3, q4⟩ := (hZ.1.c a _ hw).2
      have hr : r' = (C, T, N) := Option.some.inj (h1.symm.trans hc.1)
      subst hr
      obtain ⟨hS, hfc, kC, hkC, hkind⟩ := hZ.1.k.1 ci _ hc.1
      obtain ⟨cf, kf, fi, f, hi, hsl⟩ := hS k hk
      have hlay := hts _ (hc.2.1 _ (u_in_lay hk))
      unfold u_lay at hlay
      rw [if_neg (by rw [hfin]; decide)] at hlay
      have hst := (u_facts hfc hkC (u_lays hts hc.2.1 hk) hi).1
      have h6 := u_store hfc hkC hkind hlay hi (by rw [hc.2.2.1 k hk, ht]) hn hfit
      refine W.putK hC.1 hC.2.1 (f := f) ⟨hC.2.2.2.1, hts _ hlink, ⟨_, _, _, hsame _ hi⟩, hst⟩ (by rw [q2]; exact h6) q1 q3 (by rw [hsl]; exact k2_hasslot (q4 k hk)) rfl rfl hd fun H' e1 e2 e3 => ?_
      rw [hsl] at e1 ⊢
      refine kk _ H' _ ⟨hZ.1.set hw hb (e := .inr (ci, fs.set k v)) ⟨_, hc.1, t_OB.to (V := updV (vp_V fs) k v) ⟨_, e1, q2, q3, t_set q4 hap hk v⟩ (fun j _ => vp_updV_set hl v j)⟩ e2 e3, fun q hq => ?_, hZ.2.2⟩ h
      rcases List.mem_append.mp hq with q | q
      · exact hZ.2.1 _ q
      · rw [List.mem_singleton.mp q]; exact hb
    · cases h
  · cases h
theorem x_putZ (hC : z_C G p e s m meth c cc nL own) (hZ : z_Z G R s w H locs cells slots) {ci : Nat} {C : String} {T : u_T} {N : Nat} {ty : Nat → FieldType} (hc : z_cls G ci C T N ty) {r : Option Nat} {k : Nat} {v : Int32} {K : zW → zR} (h : z_putZ w ci k r v K = some res) (hk : k < N) {index : Nat} {ref : String} (hlink : Cond.fieldLink own index ref (T k).2.1 (T k).2.2.1 ∈ G.2.2.2.2.1) (hsame : ∀ x, s.fieldFound? (T k).1 (T k).2.1 (T k).2.2.1 = some x → s.fieldFound? ref (T k).2.1 (T k).2.2.1 = some x) (hfin : (T k).2.2.2 = false) (ht : ty k = .boolean) (hd : decode cc pc = .ok (.putfield index, 3))
    (kk : ∀ (w : zW) (H : Heap) (locs : List Loc), z_Z G R s w H locs cells slots → K w = some res → W p l e R s m args below meth c H locs cells slots Q (F0 m (pc + 3) ls rest)) : W p l e R s m args below meth c H locs cells slots Q (F0 m pc ls (.int v :: va_rf r :: rest)) := by
  unfold z_putZ at h
  split at h
  · rename_i hv
    refine x_put hC hZ hc h hk hlink hsame hfin ht ?_ ?_ hd kk
    · rcases hv with rfl | rfl <;> rfl
    · rcases hv with rfl | rfl <;> rfl
  · cases h
end ZR
