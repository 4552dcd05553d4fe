theorem z_ok_nca {C T : String} : z_ok (.not (.castable C T)) := fun a a' s U hW hb => by
  rw [← hb]
  simp [Cond.before, Cond.holds, Cond.value, hW.alike.findClass, hW.alike.assignable]
theorem z_ok_mir {C : String} : z_ok (.isRef (.mirror C)) := fun a a' s U hW hb => by
  obtain ⟨mi, h⟩ := va_Mi.of hb
  obtain ⟨c, k, h1, h2, h3⟩ := va_Mi.moved hW.alike h
  simp [Cond.before, Cond.holds, Cond.value, Term.eval, h1, h2, h3]
theorem z_nca {args : Array Value} {s : State} {C D : String} {c d : ClassId} (h : (Cond.not (.castable C D)).before args s = true) (h1 : s.vm.findClass C = some c) (h2 : s.vm.findClass D = some d) : s.vm.assignable c d = false := by
  cases hq : s.vm.assignable c d with
  | false => rfl
  | true => simp [Cond.before, Cond.holds, Cond.value, h1, h2, hq] at h
/-- a call whose exceptions are caught: the handler by the class of what was thrown -/
def z_tI (x : zR) (K : Int32 → zW → zR) (E : Nat → zW → zR) : zR := match x with
  | some (.inl (some (.int v)), w) => K v w
  | some (.inr a, w) => match w.2.2.2 a with
    | some (.inr (ci, _)) => E ci w
    | _ => none
  | _ => none
def z_tL (x : zR) (K : Int64 → zW → zR) (E : Nat → zW → zR) : zR := match x with
  | some (.inl (some (.long v)), w) => K v w
  | some (.inr a, w) => match w.2.2.2 a with
    | some (.inr (ci, _)) => E ci w
    | _ => none
  | _ => none
def z_tV (x : zR) (K : zW → zR) (E : Nat → zW → zR) : zR := match x with
  | some (.inl none, w) => K w
  | some (.inr a, w) => match w.2.2.2 a with
    | some (.inr (ci, _)) => E ci w
    | _ => none
  | _ => none
def z_anT (r1 : zO × zW) (res : zO × zW) (P : Option Value → Prop) (E : Nat → zW → zR) : Prop := (∃ v, r1.1 = .inl v ∧ P v) ∨ ∃ (x ci : Nat) (fs : List Value), r1.1 = .inr x ∧ r1.2.2.2.2 x = some (.inr (ci, fs)) ∧ E ci r1.2 = some res
theorem z_tI_spec {x : zR} {K : Int32 → zW → zR} {E : Nat → zW → zR} {res : zO × zW} (h : z_tI x K E = some res) : ∃ (w1 : zW) (o1 : zO), x = some (o1, w1) ∧ z_anT (o1, w1) res (fun v => ∃ y : Int32, v = some (.int y) ∧ K y w1 = some res) E := by
  unfold z_tI at h
  split at h
  · exact ⟨_, _, rfl, Or.inl ⟨_, rfl, _, rfl, h⟩⟩
  · split at h
    · rename_i hw
      exact ⟨_, _, rfl, Or.inr ⟨_, _, _, rfl, hw, h⟩⟩
    · cases h
  · cases h
theorem z_tL_spec {x : zR} {K : Int64 → zW → zR} {E : Nat → zW → zR} {res : zO × zW} (h : z_tL x K E = some res) : ∃ (w1 : zW) (o1 : zO), x = some (o1, w1) ∧ z_anT (o1, w1) res (fun v => ∃ y : Int64, v = some (.long y) ∧ K y w1 = some res) E := by
  unfold z_tL at h
  split at h
  · exact ⟨_, _, rfl, Or.inl ⟨_, rfl, _, rfl, h⟩⟩
  · split at h
    · rename_i hw
      exact ⟨_, _, rfl, Or.inr ⟨_, _, _, rfl, hw, h⟩⟩
    · cases h
  · cases h
theorem z_tV_spec {x : zR} {K : zW → zR} {E : Nat → zW → zR} {res : zO × zW} (h : z_tV x K E = some res) : ∃ (w1 : zW) (o1 : zO), x = some (o1, w1) ∧ z_anT (o1, w1) res (fun v => v = none ∧ K w1 = some res) E := by
  unfold z_tV at h
  split at h
  · exact ⟨_, _, rfl, Or.inl ⟨_, rfl, rfl, h⟩⟩
  · split at h
    · rename_i hw
      exact ⟨_, _, rfl, Or.inr ⟨_, _, _, rfl, hw, h⟩⟩
    · cases h
  · cases h
/-- which handler of a table takes an exception of the class C, all entries covering the place -/
def z_srch (Wd : List Cond) (own C : String) (pc : Nat) : List (Nat × Nat × Nat × Nat) → Nat → Prop
  | [], _ => False
  | q :: t, h => (q.1 ≤ pc ∧ pc < q.2.1) ∧ q.2.2.2 ≠ 0 ∧ ∃ D, Cond.classLink own q.2.2.2 D ∈ Wd ∧ ((Cond.castable C D ∈ Wd ∧ h = q.2.2.1) ∨ (Cond.not (.castable C D) ∈ Wd ∧ z_srch Wd own C pc t h))
theorem z_fgo {Q : Handler → Pre} {E : CtlPost} {e : Env} {d : Bool} {acts : List Action} {S : State} {f : JFrame} {a : Addr} {x : ExceptionTableEntry} {t : List ExceptionTableEntry} {c : ClassId} {cell : Cell} (hx : covers x f.pc = true) (h0 : x.catchType ≠ 0) (hl : S.vm.ClassLinks e.platform f.method.cls x.catchType c) (hcell : S.heap[a]? = some cell) (hobj : ∀ k, cell.vm ≠ .statics k) (hk : ∃ k, S.vm.classes[cell.cls]? = some k) (hc : ∃ k, S.vm.classes[c]? = some k) :
    wp (findHandler.go f a (x :: t)) Q E e d acts S ↔ if S.vm.assignable cell.cls c = true then Q (.found x.handlerPc) d acts (S.setVm (S.vm.noted f.method.cls x.catchType (.cls c))) else wp (findHandler.go f a t) Q E e d acts (S.setVm (S.vm.noted f.method.cls x.catchType (.cls c))) := by
  simp only [covers] at hx
  obtain ⟨ha, ht⟩ := (resolveClass_links e.toSetting hl).op (op := VmOp.resolveClass f.method.cls x.catchType) rfl
  have hal : S.vm.Alike (S.vm.noted f.method.cls x.catchType (.cls c)) := (Vm.Alike.refl S.vm).noted _ _ _
  obtain ⟨k1, hk1⟩ := hk
  obtain ⟨k2, hk2⟩ := hc
  obtain ⟨j1, hj1, -⟩ := hal.2.2 _ _ hk1
  obtain ⟨j2, hj2, -⟩ := hal.2.2 _ _ hk2
  have has := hal.assignable cell.cls c
  cases hq : S.vm.assignable cell.cls c with
  | true =>
    rw [hq] at has
    simp [findHandler.go, hx, h0, ha, ht, hcell, hobj, hj1, hj2, has, VmOp.dirties, VmOp.acts]
  | false =>
    rw [hq] at has
    simp [findHandler.go, hx, h0, ha, ht, hcell, hobj, hj1, hj2, has, VmOp.dirties, VmOp.acts]
theorem z_find {e : Env} {s : State} {args : Array Value} {f : JFrame} {a : Addr} {Wd : List Cond} {own C : String} {h : Nat} {cell : Cell} (hpl : e.platform.magicAccessors = ({} : Platform).magicAccessors) (hown : s.vm.findClass own = some f.method.cls) (hts : ∀ x ∈ Wd, x.before args s = true) (hCc : s.vm.findClass C = some cell.cls) (hobj : ∀ k, cell.vm ≠ .statics k) :
    ∀ (xs : List ExceptionTableEntry), z_srch Wd own C f.pc (xs.map fun h => (h.startPc, h.endPc, h.handlerPc, h.catchType)) h → ∀ S : State, s.WarmedH S.vm → S.heap[a]? = some cell → ∃ vm', s.WarmedH vm' ∧ ∀ (Q : Handler → Pre) (E : CtlPost) (d : Bool) (acts : List Action), wp (findHandler.go f a xs) Q E e d acts S ↔ Q (.found h) d acts (S.setVm vm') := by
  intro xs
  induction xs with
  | nil =>
    intro hs
    exact absurd hs (fun q => q)
  | cons x t ih =>
    intro hs S hW hcell
    obtain ⟨⟨p1, p2⟩, h0, D, hl, hr⟩ := hs
    obtain ⟨c, hD, hln⟩ := Cond.classLink_spec hown (hts _ hl) e.platform hpl
    obtain ⟨-, hWn, -⟩ := State.classEntry (e := e) hW hln
    have hal := hW.alike
    obtain ⟨k1, hk1, -⟩ := Vm.findClass_spec hCc
    obtain ⟨k2, hk2, -⟩ := Vm.findClass_spec hD
    obtain ⟨j1, hj1, -⟩ := hal.2.2 _ _ hk1
    obtain ⟨j2, hj2, -⟩ := hal.2.2 _ _ hk2
    have hx : covers x f.pc = true := by
      have p1 : x.startPc ≤ f.pc := p1
      have p2 : f.pc < x.endPc := p2
      simp [covers, p1, p2]
    rcases hr with ⟨hca, rfl⟩ | ⟨hnc, hr⟩
    · obtain ⟨c1, t1, f1, f2, f3⟩ := Cond.castable_spec (hts _ hca)
      cases f1.symm.trans hCc
      cases f2.symm.trans hD
      refine ⟨_, hWn, fun Q E d acts => ?_⟩
      rw [z_fgo hx h0 (hW.classLinks hln) hcell hobj ⟨j1, hj1⟩ ⟨j2, hj2⟩, if_pos (by rw [hal.assignable]; exact f3)]
    · have hna := z_nca (hts _ hnc) hCc hD
      obtain ⟨vm', hW', hq⟩ := ih hr (S.setVm (S.vm.noted f.method.cls x.catchType (.cls c))) hWn hcell
      refine ⟨vm', hW', fun Q E d acts => ?_⟩
      rw [z_fgo hx h0 (hW.classLinks hln) hcell hobj ⟨j1, hj1⟩ ⟨j2, hj2⟩, if_neg (by rw [hal.assignable, hna]; decide)]
      exact hq Q E d acts
theorem z_caught {tb : Tables} {e : Env} {T target : State} {g : JFrame} {c : Code} {below : List Frame} {a : Addr} (h : At T g.method c below) {pc : Nat} {vm' : Vm}
    (hfind : ∀ (Q : Handler → Pre) (E : CtlPost) (d : Bool) (acts : List Action), wp (findHandler g a) Q E e d acts ((T.setTop g).pushFrame (.throwing a)) ↔ Q (.found pc) d acts (((T.setTop g).pushFrame (.throwing a)).setVm vm')) (hrest : Steps tb e below ((T.setVm vm').setTop { g with pc := pc, stack := [.ref a] }) target) : Steps tb e below ((T.setTop g).pushFrame (.throwing a)) target := by
  have hst : ∀ r : List Frame, (stepThrowing e ((T.setTop g).pushFrame (.throwing a)) a (.java g :: r)).Is ((((T.setTop g).pushFrame (.throwing a)).setVm vm').setFrames (.java { g with pc := pc, stack := [.ref a] } :: r)) [] := by
    intro r
    simp only [stepThrowing, searchFrame, vmDo]
    generalize hr : Sem.go _ e false [] ((T.setTop g).pushFrame (.throwing a)) = rr
    obtain ⟨as, rfl, ha⟩ := Sem.eq_ok_of hr (a := Handler.found pc) (s' := ((T.setTop g).pushFrame (.throwing a)).setVm vm') (acts' := []) (by simp [hfind])
    exact ⟨rfl, ha⟩
  obtain ⟨hgo, hw⟩ := h.throwing a
  refine Steps.head hgo hw ?_
  rw [stepThread_throwing (frames_entered h.top _), (hst _).1]
  obtain ⟨g0, hg0⟩ := Option.isSome_iff_exists.mp h.top
  obtain ⟨r, hr⟩ := State.topJava?_eq_some.mp hg0
  have hr1 : (T.setVm vm').frames = .java g0 :: r := hr
  have hcom : ∀ (u : State) (F F' : List Frame), ((u.setFrames F).setVm vm').setFrames F' = (u.setVm vm').setFrames F' := fun u F F' => by
    show ((u.setVm vm').setFrames F).setFrames F' = _
    rw [State.setFrames_setFrames]
  rw [State.setTop_of_frames _ hr1] at hrest
  rw [hr, List.tail_cons, State.pushFrame, hcom, State.setTop_of_frames _ hr, hcom]
  exact hrest
section ZR11
variable {p : Program} {l : Launch} {e : Env} {R : Room} {s : State} {m : MethodId} {args : Array Value} {below : List Frame} {meth : Method} {c : Code} {H : Heap} {locs : List Loc} {cells slots : Nat} {Q : State → Prop} {cc : ByteArray} {pc nL : Nat} {ls : Array Slot} {rest : List Value} {G : zG} {w : zW} {own : String} {res : zO × zW}
/-- a call in a method whose handlers cover it: an answer goes on behind the call, an exception in its handler -/
theorem x_goesT {r1 : zO × zW} {P : Option Value → Prop} {E : Nat → zW → zR} {st0 : List Value} {hh : List (Nat × Nat × Nat × Nat)} (hC : z_C G p e s m meth c cc nL own) (hx : c.exceptionTable.toList.map (fun h => (h.startPc, h.endPc, h.handlerPc, h.catchType)) = hh) (ha : z_anT r1 res P E)
    (hg : ∀ T : State, T.heap = H → Stand p l e R s m args below meth c T locs cells slots → z_Goes G p l e R s m args below meth c (F0 m pc ls st0) rest r1 T)
    (kk : ∀ (v : Option Value), P v → ∀ (H : Heap) (locs : List Loc) (cells slots : Nat), z_Z G R s r1.2 H locs cells slots → W p l e R s m args below meth c H locs cells slots Q (F0 m (pc + 3) ls (v.toList ++ rest)))
    (ke : ∀ (ci : Nat), E ci r1.2 = some res → ∃ (C : String) (T0 : u_T) (N hpc : Nat), G.2.2.2.1[ci]? = some (C, T0, N) ∧ z_srch G.2.2.2.2.1 own C pc hh hpc ∧ ∀ (x : Nat) (H : Heap) (locs : List Loc) (cells slots : Nat), z_Z G R s r1.2 H locs cells slots → W p l e R s m args below meth c H locs cells slots Q (F0 m hpc ls [va_rf (some x)])) : W p l e R s m args below meth c H locs cells slots Q (F0 m pc ls st0) := by
  intro T hT X
  obtain ⟨T', locs', cells', slots', X', hZ', k1, k2⟩ := hg T hT X
  rcases ha with ⟨v, hv, hP⟩ | ⟨x, ci, fs, hx1, hw1, hE⟩
  · obtain ⟨t, a1, b1⟩ := kk v hP _ _ _ _ hZ' T' rfl X'
    exact ⟨t, k1 v hv t a1, b1⟩
  · obtain ⟨C, T0, N, hpc, hcl, hsr, kW⟩ := ke ci hE
    obtain ⟨q, h1, cell, q1, q2, q3, -⟩ := (hZ'.1.c x _ hw1).2
    have hq : q = (C, T0, N) := Option.some.inj (h1.symm.trans hcl)
    subst hq
    have hts := hZ'.1.tb hC.2.2.2.2.2.2 args
    have hCc : s.vm.findClass C = some cell.cls := by rw [q2]; exact (hZ'.1.k.1 ci _ hcl).2.1
    have hpl : e.platform.magicAccessors = ({} : Platform).magicAccessors := by rw [X'.admits.platform]
    subst hx
    obtain ⟨vm', hW', hfind⟩ := z_find (e := e) (f := { F0 m pc ls st0 with stack := rest }) (a := x) hpl hC.2.2.2.1 hts hCc (fun k hk => by rw [q3] at hk; cases hk) c.exceptionTable.toList hsr ((T'.setTop { F0 m pc ls st0 with stack := rest }).pushFrame (.throwing x)) (by rw [Stand.throwing_vm]; exact X'.warmed) (by rw [Stand.throwing_heap]; exact q1)
    have hmc : ((T'.setTop { F0 m pc ls st0 with stack := rest }).pushFrame (.throwing x)).vm.method? m = some meth := by rw [Stand.throwing_vm]; exact X'.method'
    obtain ⟨t, a1, b1⟩ := kW x _ _ _ _ (show z_Z G R s r1.2 (T'.setVm vm').heap locs' cells' slots' from hZ') (T'.setVm vm') rfl (X'.noted hW')
    refine ⟨t, k2 x hx1 t (z_caught (c := c) X'.here (fun Q E d acts => ?_) a1), b1⟩
    rw [W.findHandler_eq hmc X'.code]
    exact hfind Q E d acts
end ZR11
theorem z_hw_codeW {y : MethodName} {bytes : ByteArray} {maxL : Nat} {ret : Option FieldType} {hh : List (Nat × Nat × Nat × Nat)} : z_hw (.codeWith y bytes maxL ret hh) y maxL := fun _ _ _ hn h => by
  obtain ⟨m9, meth, c, hn9, h1, h2, -, h4, -, -, -, h5⟩ := Cond.codeWith_spec h
  cases hn.symm.trans hn9
  exact ⟨meth, c, h1, h2, h4, h5⟩
/-- a contract out of the walk of a body with handlers -/
theorem z_ctW {G : zG} {l : Launch} {y : MethodName} {cc : ByteArray} {nL : Nat} {ret : Option FieldType} {hh : List (Nat × Nat × Nat × Nat)} {fr lo : Nat} {av : List Value} {w : zW} {res : zO × zW} (hT : z_TB G) (hfl : l.flags = pinnedFlags ++ [noTraceFlag]) (hy : plainName y.cls = true) (hsz : (lg_sl av).length ≤ nL)
    (body : ∀ (p : Program) (e : Env) (R : Room) (s : State) (m : MethodId) (args : Array Value) (below : List Frame) (meth : Method) (c : Code), z_C G p e s m meth c cc nL y.cls → meth.sig.returnType = ret → R.cells = w.2.1 → R.slots = w.2.2.1 → R.frames = fr ∧ R.locals = lo → meth.name = y.name → c.exceptionTable.toList.map (fun h => (h.startPc, h.endPc, h.handlerPc, h.catchType)) = hh → ∀ (H : Heap) (ls : Array Slot), z_Z G R s w H [] 0 0 → lv_has ls nL (lv_args 0 av) → W p l e R s m args below meth c H [] 0 0 (z_Q G below s w res) (F0 m 0 ls [])) : z_Ct G l y (.codeWith y cc nL ret hh) fr lo av w res := by
  unfold z_Ct
  refine MetFree.of_bodyS (code := cc) (maxLocals := nL) (ret := ret) hy ?_ ?_
  · intro args s m h hn
    obtain ⟨m9, meth, c, hn9, h1, h2, h3, h4, -, h5, h6, -⟩ := Cond.codeWith_spec (atoms_spec (ws := [.codeWith y cc nL ret hh]) h _ (List.mem_singleton.mpr rfl))
    cases hn.symm.trans hn9
    exact ⟨meth, c, h1, h2, h3, h4, h5, h6⟩
  · intro p e s m args below meth c s₁ B hml hP _
    obtain ⟨rfl, hP⟩ := hP
    have hh0 : s₁.heap = s.heap := by rw [B.state]; rfl
    have hl := lv_entry av hsz
    obtain ⟨m9, meth', c', hn9, h1, h2, -, -, htab, -⟩ := Cond.codeWith_spec (atoms_spec (ws := [.codeWith y cc nL ret hh]) B.pre _ (List.mem_singleton.mpr rfl))
    cases B.named.symm.trans hn9
    have X := Stand.of_body B
    have hcc : c' = c := by
      have e1 := h1.symm.trans X.method
      cases e1
      exact Option.some.inj (h2.symm.trans X.code)
    subst hcc
    have key := body p e { frames := fr, cells := w.2.1, slots := w.2.2.1, locals := lo } s m av.toArray below meth c' ⟨B.exec, B.bytes, hml, findClass_of_methodNamed B.named, B.notSynchronized, Launch.traces_off hfl B.admits, hT⟩ B.returns rfl rfl ⟨rfl, rfl⟩ (name_of_methodNamed B.named B.method).1 htab s.heap _ ⟨hP, fun q h => (by cases h), Nat.zero_add _, Nat.zero_add _⟩ hl
    obtain ⟨t, a1, oc, b1, b2, b3⟩ := key s₁ hh0 X
    refine ⟨t, oc, ?_, b1, b2, b3⟩
    rw [lg_entry_eq]
    exact a1
