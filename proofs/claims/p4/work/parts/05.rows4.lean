section ZR4
variable {p : Program} {l : Launch} {e : Env} {R : Room} {s : State} {m : MethodId} {args : Array Value} {below : List Frame} {meth : Method} {c : Code} {H : Heap} {locs : List Loc} {cells slots : Nat} {Q : State → Prop} {cc : ByteArray} {pc nL : Nat} {ls : Array Slot} {rest : List Value} {G : zG} {w : zW} {own : String} {res : zO × zW}
/-- from the invoking instruction on, when its linking is done: what the callee's contract gives -/
def z_Goes (G : zG) (p : Program) (l : Launch) (e : Env) (R : Room) (s : State) (m : MethodId) (args : Array Value) (below : List Frame) (meth : Method) (c : Code) (g : JFrame) (rest : List Value) (r1 : zO × zW) (T : State) : Prop :=
  ∃ (T' : State) (locs' : List Loc) (cells' slots' : Nat), Stand p l e R s m args below meth c T' locs' cells' slots' ∧ z_Z G R s r1.2 T'.heap locs' cells' slots' ∧
    (∀ v, r1.1 = .inl v → ∀ target, Steps p.tables e below (T'.setTop { g with pc := g.pc + 3, stack := v.toList ++ rest }) target → Steps p.tables e below (T.setTop g) target) ∧
    (∀ x, r1.1 = .inr x → ∀ target, Steps p.tables e below ((T'.setTop { g with stack := rest }).pushFrame (.throwing x)) target → Steps p.tables e below (T.setTop g) target)
/-- a method that has no handlers: an answer goes on behind the call, an exception leaves it too -/
theorem x_goes {w0 : zW} {r1 : zO × zW} {P : Option Value → Prop} {st0 : List Value} (hC : z_C G p e s m meth c cc nL own) (hc : R.cells = w0.2.1) (hs : R.slots = w0.2.2.1) (hx : c.exceptionTable.toList = []) (ha : z_ans r1 res P)
    (hg : ∀ T : State, T.heap = H → Stand p l e R s m args below meth c T locs cells slots → z_Goes G p l e R s m args below meth c (F0 m pc ls st0) rest r1 T)
    (kk : ∀ (v : Option Value), P v → ∀ (H : Heap) (locs : List Loc) (cells slots : Nat), z_Z G R s r1.2 H locs cells slots → W p l e R s m args below meth c H locs cells slots (z_Q G below s w0 res) (F0 m (pc + 3) ls (v.toList ++ rest))) : W p l e R s m args below meth c H locs cells slots (z_Q G below s w0 res) (F0 m pc ls st0) := by
  intro T hT X
  obtain ⟨T', locs', cells', slots', X', hZ', k1, k2⟩ := hg T hT X
  rcases ha with ⟨v, hv, hP⟩ | ⟨x, hx1, hres⟩
  · obtain ⟨t, a1, b1⟩ := kk v hP _ _ _ _ hZ' T' rfl X'
    exact ⟨t, k1 v hv t a1, b1⟩
  · subst hres
    obtain ⟨hwalk, hrun, hend, hW, hsm⟩ := X'.leaveThrown x (g := { F0 m pc ls st0 with stack := rest }) rfl rfl rfl (by rw [hx]; intro y hy; cases hy) hC.2.2.2.2.1
    refine ⟨_, k2 x hx1 _ hwalk, .threw x, hrun, hend, rfl, ?_, hW, locs', cells', slots', hsm, by rw [← hc]; exact hZ'.2.2.1, by rw [← hs]; exact hZ'.2.2.2, hZ'.2.1⟩
    exact hZ'.1.moved hC.2.2.2.2.2.2 hW
theorem z_goV (hC : z_C G p e s m meth c cc nL own) (hZ : z_Z G R s w H locs cells slots) {y : MethodName} {bytes : ByteArray} {ret : Option FieldType} {fr lo maxL ci : Nat} {r : Option Nat} {a : Nat} {fs : List Value} {As : List Value} {r1 : zO × zW} {T0 : u_T} {N0 : Nat} {ty0 : Nat → FieldType} (hcl : z_cls G ci y.cls T0 N0 ty0) (ho : z_obj w ci r = some (a, fs)) (hM : z_Ct G l y (.code y bytes maxL ret) fr lo (va_rf r :: As) w r1) {index : Nat} (hlink : Cond.methodLink own index y ∈ G.2.2.2.2.1) (hinst : Cond.instanceMethod y ∈ G.2.2.2.2.1) (hsel : Cond.selects y.cls y y ∈ G.2.2.2.2.1) (hini : Cond.initialized y.cls ∈ G.2.2.2.2.1) (hcode : Cond.code y bytes maxL ret ∈ G.2.2.2.2.1) (hy : y.cls ≠ "java/lang/invoke/MethodHandle" ∧ y.cls ≠ "java/lang/invoke/VarHandle" ∧ (parseMethodDescriptor y.desc).map (fun d => d.parameters.length) = some As.length)
    (hfr : fr + 1 ≤ R.frames) (hlo : 8 + (maxL + 11) + lo ≤ R.locals) (hsz : ls.size = nL) {st0 : List Value} (hst : st0 = As.reverse ++ va_rf r :: rest) (hW : (rest.map fun v => v.category).sum ≤ 8) (hd : decode cc pc = .ok (.invokevirtual index, 3)) :
    ∀ T : State, T.heap = H → Stand p l e R s m args below meth c T locs cells slots → z_Goes G p l e R s m args below meth c (F0 m pc ls st0) rest r1 T := by
  intro T hT X
  subst hT
  obtain ⟨rfl, hw⟩ := z_obj_spec ho
  have hts := hZ.1.tb hC.2.2.2.2.2.2 args
  obtain ⟨q, h1, cellB, q1, q2, q3, -⟩ := (hZ.1.c a _ hw).2
  have hq : q = (y.cls, T0, N0) := Option.some.inj (h1.symm.trans hcl.1)
  subst hq
  have hcls : s.vm.findClass y.cls = some cellB.cls := by rw [q2]; exact (hZ.1.k.1 ci _ hcl.1).2.1
  obtain ⟨mk, methM, hnamed, hmethM, hstM, habM⟩ := Cond.instanceMethod_spec (hts _ hinst)
  obtain ⟨methM', cM, hmethM', -, -, -, -, -, -, hsigM⟩ := Cond.code_spec hnamed (hts _ hcode)
  cases hmethM.symm.trans hmethM'
  obtain ⟨c2, r2, m2, p1, p2, p3, p4, kP, hkP, hkPi⟩ := Cond.selects_spec (hts _ hsel)
  cases hcls.symm.trans p1
  cases (State.methodFound?_of_named hnamed ⟨hy.1, hy.2.1⟩).symm.trans p2
  cases hnamed.symm.trans p3
  have hselP : selectMethod e.platform s.vm cellB.cls mk = .method mk := by rw [Launch.admits_selectMethod X.admits]; exact p4
  have hlen : As.length = methM.sig.parameters.length := by
    have h2 := hy.2.2
    rw [hsigM] at h2
    exact (Option.some.inj h2).symm
  obtain ⟨vm₁, X₁, hstep₁⟩ := X.invokevirtual hC.1 hC.2.2.2.1 (hts _ hlink) hnamed hmethM hstM hkP hkPi ⟨hy.1, hy.2.1⟩ (a := a) (cell := cellB) q1
    (fun z h => by rw [q3] at h; cases h) hselP hmethM habM hkP hkPi (g := F0 m pc ls st0) rfl (argsL := As) (rest := rest) hlen hst (by rw [hC.2.1]; exact hd)
  obtain ⟨T', locs', cells', slots', X', hZ', k1, k2⟩ := z_go hC.2.2.2.2.2.2 X₁ (w := w) (T := T.setVm vm₁) hZ hM z_hw_code hnamed hcode hini hfr hlo (g := { F0 m pc ls st0 with stack := rest }) rfl (by rw [hC.2.2.1]; exact hsz) (ig := .invokevirtual index) (by rw [hC.2.1]; exact hd) (by show 2 * 0 + (rest.map fun v => v.category).sum ≤ 8; omega)
  exact ⟨T', locs', cells', slots', X', hZ', fun v hv target h => hstep₁ _ fun acts => by rw [doInvoke_state]; exact (k1 v hv).trans h, fun x hx target h => hstep₁ _ fun acts => by rw [doInvoke_state]; exact (k2 x hx).trans h⟩
theorem z_goS (hC : z_C G p e s m meth c cc nL own) (hZ : z_Z G R s w H locs cells slots) {y : MethodName} {bytes : ByteArray} {ret : Option FieldType} {fr lo maxL : Nat} {As : List Value} {r1 : zO × zW} (hM : z_Ct G l y (.code y bytes maxL ret) fr lo As w r1) {index : Nat} (hlink : Cond.methodLink own index y ∈ G.2.2.2.2.1) (hstat : Cond.static y ∈ G.2.2.2.2.1) (hini : Cond.initialized y.cls ∈ G.2.2.2.2.1) (hcode : Cond.code y bytes maxL ret ∈ G.2.2.2.2.1) (hy : y.cls ≠ "java/lang/invoke/MethodHandle" ∧ y.cls ≠ "java/lang/invoke/VarHandle" ∧ (parseMethodDescriptor y.desc).map (fun d => d.parameters.length) = some As.length)
    (hfr : fr + 1 ≤ R.frames) (hlo : 8 + (maxL + 11) + lo ≤ R.locals) (hsz : ls.size = nL) {st0 : List Value} (hst : st0 = As.reverse ++ rest) (hW : (rest.map fun v => v.category).sum ≤ 8) (hd : decode cc pc = .ok (.invokestatic index, 3)) :
    ∀ T : State, T.heap = H → Stand p l e R s m args below meth c T locs cells slots → z_Goes G p l e R s m args below meth c (F0 m pc ls st0) rest r1 T := by
  intro T hT X
  subst hT
  have hts := hZ.1.tb hC.2.2.2.2.2.2 args
  obtain ⟨mk, hnamed⟩ := Cond.code_named (hts _ hcode)
  obtain ⟨methM, cM, hmethM, -, -, -, -, -, -, hsigM⟩ := Cond.code_spec hnamed (hts _ hcode)
  have hstatic : methM.isStatic = true := Cond.static_spec hnamed hmethM (hts _ hstat)
  obtain ⟨kP, hkP, -⟩ := className_of_methodNamed hnamed
  have hinitP : kP.init = .initialized := Cond.initialized_spec (findClass_of_methodNamed hnamed) hkP (hts _ hini)
  have hlen : As.length = methM.sig.parameters.length := by
    have h2 := hy.2.2
    rw [hsigM] at h2
    exact (Option.some.inj h2).symm
  obtain ⟨vm₁, X₁, hstep₁⟩ := X.invokestatic hC.1 hC.2.2.2.1 (hts _ hlink) hnamed hmethM hstatic hkP hinitP ⟨hy.1, hy.2.1⟩ (g := F0 m pc ls st0) rfl (argsL := As) (rest := rest) hlen hst (by rw [hC.2.1]; exact hd)
  obtain ⟨T', locs', cells', slots', X', hZ', k1, k2⟩ := z_go hC.2.2.2.2.2.2 X₁ (w := w) (T := T.setVm vm₁) hZ hM z_hw_code hnamed hcode hini hfr hlo (g := { F0 m pc ls st0 with stack := rest }) rfl (by rw [hC.2.2.1]; exact hsz) (ig := .invokestatic index) (by rw [hC.2.1]; exact hd) (by show 2 * 0 + (rest.map fun v => v.category).sum ≤ 8; omega)
  exact ⟨T', locs', cells', slots', X', hZ', fun v hv target h => hstep₁ _ fun acts => by rw [doInvoke_state]; exact (k1 v hv).trans h, fun x hx target h => hstep₁ _ fun acts => by rw [doInvoke_state]; exact (k2 x hx).trans h⟩
theorem z_goI (hC : z_C G p e s m meth c cc nL own) (hZ : z_Z G R s w H locs cells slots) {y : MethodName} {bytes : ByteArray} {fr lo maxL : Nat} {r : Option Nat} {a : Nat} (ho : r = some a) {As : List Value} {r1 : zO × zW} (hM : z_Ct G l y (.code y bytes maxL none) fr lo (va_rf r :: As) w r1) {index : Nat} (hlink : Cond.methodLink own index y ∈ G.2.2.2.2.1) (hinst : Cond.instanceMethod y ∈ G.2.2.2.2.1) (hini : Cond.initialized y.cls ∈ G.2.2.2.2.1) (hcode : Cond.code y bytes maxL none ∈ G.2.2.2.2.1) (hy1 : y.name = "<init>") (hy : y.cls ≠ "java/lang/invoke/MethodHandle" ∧ y.cls ≠ "java/lang/invoke/VarHandle" ∧ (parseMethodDescriptor y.desc).map (fun d => d.parameters.length) = some As.length)
    (hfr : fr + 1 ≤ R.frames) (hlo : 8 + (maxL + 11) + lo ≤ R.locals) (hsz : ls.size = nL) {st0 : List Value} (hst : st0 = As.reverse ++ va_rf r :: rest) (hW : (rest.map fun v => v.category).sum ≤ 8) (hd : decode cc pc = .ok (.invokespecial index, 3)) :
    ∀ T : State, T.heap = H → Stand p l e R s m args below meth c T locs cells slots → z_Goes G p l e R s m args below meth c (F0 m pc ls st0) rest r1 T := by
  intro T hT X
  subst hT
  subst ho
  have hts := hZ.1.tb hC.2.2.2.2.2.2 args
  have hpl : e.platform.magicAccessors = ({} : Platform).magicAccessors := by rw [X.admits.platform]
  have hlen : ∀ sig, parseMethodDescriptor y.desc = some sig → As.length = sig.parameters.length := fun sig h => by
    have h2 := hy.2.2
    rw [h] at h2
    exact (Option.some.inj h2).symm
  obtain ⟨mk, methM, cM, kP, vm₁, hnamed, hmethM, hcodeM, -, hlocalsM, -, hkP, -, hW₁, hstep₁⟩ := Steps.initColdArgs (e := e) X.here hC.1 X.warmed hpl hC.2.2.2.1 hy1 ⟨hy.1, hy.2.1⟩ (hts _ hlink) (hts _ hinst) (hts _ hcode) (f := F0 m pc ls st0) rfl hlen hst (by rw [hC.2.1]; exact hd)
  have X₁ := X.noted hW₁
  obtain ⟨T', locs', cells', slots', X', hZ', k1, k2⟩ := z_go hC.2.2.2.2.2.2 X₁ (w := w) (T := T.setVm vm₁) hZ hM z_hw_code hnamed hcode hini hfr hlo (g := { F0 m pc ls st0 with stack := rest }) rfl (by rw [hC.2.2.1]; exact hsz) (ig := .invokespecial index) (by rw [hC.2.1]; exact hd) (by show 2 * 0 + (rest.map fun v => v.category).sum ≤ 8; omega)
  exact ⟨T', locs', cells', slots', X', hZ', fun v hv target h => hstep₁ _ fun acts => by rw [doInvoke_state]; exact (k1 v hv).trans h, fun x hx target h => hstep₁ _ fun acts => by rw [doInvoke_state]; exact (k2 x hx).trans h⟩
end ZR4
/-- a contract out of the walk of a body -/
theorem z_ct {G : zG} {l : Launch} {y : MethodName} {cc : ByteArray} {nL : Nat} {ret : Option FieldType} {fr lo : Nat} {av : List Value} {w : zW} {res : zO × zW} (hT : z_TB G) (hfl : l.flags = pinnedFlags ++ [noTraceFlag]) (hy : plainName y.cls = true) (hsz : (lg_sl av).length ≤ nL)
    (body : ∀ (p : Program) (e : Env) (R : Room) (s : State) (m : MethodId) (args : Array Value) (below : List Frame) (meth : Method) (c : Code), z_C G p e s m meth c cc nL y.cls → meth.sig.returnType = ret → R.cells = w.2.1 → R.slots = w.2.2.1 → R.frames = fr ∧ R.locals = lo → meth.name = y.name → c.exceptionTable.toList = [] → ∀ (H : Heap) (ls : Array Slot), z_Z G R s w H [] 0 0 → lv_has ls nL (lv_args 0 av) → W p l e R s m args below meth c H [] 0 0 (z_Q G below s w res) (F0 m 0 ls [])) : z_Ct G l y (.code y cc nL ret) fr lo av w res := by
  unfold z_Ct
  refine MetFree.of_bodyS (code := cc) (maxLocals := nL) (ret := ret) hy ?_ ?_
  · intro args s m h hn
    obtain ⟨meth, c, h1, h2, h3, h4, h5, h6, -, -⟩ := Cond.code_spec hn (atoms_spec (ws := [.code y cc nL ret]) h _ (List.mem_singleton.mpr rfl))
    exact ⟨meth, c, h1, h2, h3, h4, h5, h6⟩
  · intro p e s m args below meth c s₁ B hml hP _
    obtain ⟨rfl, hP⟩ := hP
    have hh0 : s₁.heap = s.heap := by rw [B.state]; rfl
    have hl := lv_entry av hsz
    obtain ⟨meth', c', h1, h2, -, -, -, -, hemp, -⟩ := Cond.code_spec B.named (atoms_spec (ws := [.code y cc nL ret]) B.pre _ (List.mem_singleton.mpr rfl))
    have X := Stand.of_body B
    have hcc : c' = c := by
      have e1 := h1.symm.trans X.method
      cases e1
      exact Option.some.inj (h2.symm.trans X.code)
    subst hcc
    have hem : c'.exceptionTable.toList = [] := by
      have h0 : c'.exceptionTable.size = 0 := by simpa [Array.isEmpty] using hemp
      exact List.eq_nil_of_length_eq_zero (by simpa using h0)
    have key := body p e { frames := fr, cells := w.2.1, slots := w.2.2.1, locals := lo } s m av.toArray below meth c' ⟨B.exec, B.bytes, hml, findClass_of_methodNamed B.named, B.notSynchronized, Launch.traces_off hfl B.admits, hT⟩ B.returns rfl rfl ⟨rfl, rfl⟩ (name_of_methodNamed B.named B.method).1 hem s.heap _ ⟨hP, fun q h => (by cases h), Nat.zero_add _, Nat.zero_add _⟩ hl
    obtain ⟨t, a1, oc, b1, b2, b3⟩ := key s₁ hh0 X
    refine ⟨t, oc, ?_, b1, b2, b3⟩
    rw [lg_entry_eq]
    exact a1
