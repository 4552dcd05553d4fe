/-- what a throw of an exception asks whose constructor hands its text to that of Y by pool entry i0 -/
def z_xAt (own : String) (ic : Nat) (X : String) (i0 : Nat) (b0 : ByteArray) (Y : String) (names : List String) : List Cond :=
  Bundle.throwableAtoms ++ (Bundle.throwableSAtoms ++ (Bundle.passSAtoms X Y i0 b0 ++ (Bundle.chainSAtoms Y names ++
  [.methodLink own ic (Bundle.initS X), .instantiable X 6, .selects X Bundle.tFill0 Bundle.tFill0, .selects X Bundle.tFill Bundle.tFill,
   .lays X Bundle.tN "cause" "Ljava/lang/Throwable;", .lays X Bundle.tN "stackTrace" Bundle.steD, .lays X Bundle.tN "suppressedExceptions" Bundle.listD, .lays X Bundle.tN "detailMessage" "Ljava/lang/String;", .lays X Bundle.tN "backtrace" "Ljava/lang/Object;",
   .isRef (.static Bundle.tN "UNASSIGNED_STACK" Bundle.steD), .isRef (.static Bundle.tN "SUPPRESSED_SENTINEL" Bundle.listD),
   .fieldLink Bundle.tN 198 Bundle.tN "backtrace" "Ljava/lang/Object;", .lays Bundle.tN Bundle.tN "backtrace" "Ljava/lang/Object;"])))
section ZXT
variable {p : Program} {l : Launch} {e : Env} {R : Room} {s : State} {m : MethodId} {args : Array Value} {below : List Frame} {meth : Method} {c : Code} {T1 : State} {locs : List Loc} {cells slots : Nat}
set_option maxHeartbeats 1000000 in
/-- the constructor's call and the throw behind it, in a method without handlers there -/
theorem z_ctorT (X : Stand p l e R s m args below meth c T1 locs cells slots) (hexec : p.tables.exec = Jvm.exec) (htr : e.platform.stackTraces = false) {own cls Y : String} {names : List String} {ic i0 : Nat} {b0 : ByteArray} (hown : s.vm.findClass own = some m.cls) (hcls : Bundle.fit cls = true) (hY : Bundle.fit Y = true) (hnames : ∀ n ∈ names, Bundle.fit n = true)
    (e0 : decode b0 0 = .ok (.aload_n 0, 1)) (e1 : decode b0 1 = .ok (.aload_n 1, 1)) (e2 : decode b0 2 = .ok (.invokespecial i0, 3)) (e5 : decode b0 5 = .ok (.return_, 1)) (h : ∀ x ∈ z_xAt own ic cls i0 b0 Y names, x.before args s = true) (hlocs : locs = [])
    {a : Addr} {cX : ClassId} {kX : Class} (hfX : s.vm.findClass cls = some cX) (hkX : s.vm.classes[cX]? = some kX) (hcell : T1.heap[a]? = some (freshCell cX kX)) (hnew : s.heap.size ≤ a) {msg : Value} (hmsg : msg.isRef = true)
    {g : JFrame} (hg : g.method = m) (hsize : g.locals.size = c.maxLocals) (hlocked : g.locked = none) (hentered : g.entered = []) {rest : List Value} (hstack : g.stack = msg :: .ref a :: .ref a :: rest) (hd6 : decode c.code g.pc = .ok (.invokespecial ic, 3)) (hd9 : decode c.code (g.pc + 3) = .ok (.athrow, 1)) (hout : ∀ x ∈ c.exceptionTable.toList, covers x (g.pc + 3) = false)
    (hfr : names.length + 4 < R.frames) (hlo : 2 * g.monitorRoom + (1 + (rest.map fun v => v.category).sum) + (13 * (names.length + 2) + 42) ≤ R.locals) (hlocks : meth.locks = false) :
    ∃ U : State, Steps p.tables e below (T1.setTop g) U ∧ U.status = .running ∧ Ended U below (.threw a) ∧ s.WarmedH U.vm ∧ s.sameButNew ({ U with vm := s.vm } : State) [] cells slots ∧ ∃ ce, U.heap[a]? = some ce ∧ ce.cls = cX ∧ ce.vm = .none := by
  subst hlocs
  have hpl : e.platform.magicAccessors = ({} : Platform).magicAccessors := by rw [X.admits.platform]
  have hin1 : ∀ x ∈ Bundle.throwableAtoms, x ∈ z_xAt own ic cls i0 b0 Y names := fun x hx => List.mem_append_left _ hx
  have hin2 : ∀ x ∈ Bundle.throwableSAtoms, x ∈ z_xAt own ic cls i0 b0 Y names := fun x hx => List.mem_append_right _ (List.mem_append_left _ hx)
  have hin3 : ∀ x ∈ Bundle.passSAtoms cls Y i0 b0, x ∈ z_xAt own ic cls i0 b0 Y names := fun x hx => List.mem_append_right _ (List.mem_append_right _ (List.mem_append_left _ hx))
  have hin4 : ∀ x ∈ Bundle.chainSAtoms Y names, x ∈ z_xAt own ic cls i0 b0 Y names := fun x hx => List.mem_append_right _ (List.mem_append_right _ (List.mem_append_right _ (List.mem_append_left _ hx)))
  have hin5 := fun x hx => h x (List.mem_append_right _ (List.mem_append_right _ (List.mem_append_right _ (List.mem_append_right _ hx))))
  obtain ⟨T, _, L, -, Y0⟩ := ThrowableC.of_atoms (args := args) (by rw [X.admits.platform]) (by rw [X.admits.platform]) hpl (fun x hx => h x (hin1 x hx))
  obtain ⟨Z, M, LZ, LM, hnZ⟩ := Init0T.ofS_atoms (args := args) hpl L Y0 (fun x hx => h x (hin2 x hx))
  obtain ⟨P0, LP0, n1, n2⟩ := PassC.ofS_atoms (args := args) hpl (Bundle.fit_spec hcls).1 (Bundle.fit_spec hY).2 e0 e1 e2 e5 (fun x hx => h x (hin3 x hx))
  obtain ⟨P1, Ps, hlen, LP1, LPs, n3, k1, k2⟩ := Bundle.chainS (args := args) hpl hnZ names Y hY hnames (fun x hx => h x (hin4 x hx))
  have ePs : P0.sup = P1.m := Option.some.inj (n2.symm.trans n3)
  have hc0 : s.vm.findClass cls = some P0.m.cls := findClass_of_methodNamed n1
  have eX : cX = P0.m.cls := Option.some.inj (hfX.symm.trans hc0)
  subst eX
  obtain ⟨q0, kq, hq0, hkq, hord, -, -, hn6⟩ := Cond.instantiable_spec (hin5 (.instantiable cls 6) (by simp))
  cases hq0.symm.trans hc0
  cases hkX.symm.trans hkq
  have hsel : ∀ (t : MethodName) (tm : MethodId), t.cls ≠ "java/lang/invoke/MethodHandle" ∧ t.cls ≠ "java/lang/invoke/VarHandle" → s.methodNamed? t = some tm → (Cond.selects cls t t).before args s = true → selectMethod e.platform s.vm P0.m.cls tm = .method tm := by
    intro t tm ht hn hs
    obtain ⟨r0, r1, r2, q1, q2, q3, q4, -⟩ := Cond.selects_spec hs
    cases q1.symm.trans hc0
    cases q2.symm.trans (State.methodFound?_of_named hn ht)
    cases q3.symm.trans hn
    rw [Launch.admits_selectMethod X.admits]; exact q4
  have hsel0 := hsel _ _ (by decide) Y0.fill0 (hin5 (.selects cls Bundle.tFill0 Bundle.tFill0) (by simp))
  have hselF := hsel _ _ (by decide) Y0.fill (hin5 (.selects cls Bundle.tFill Bundle.tFill) (by simp))
  obtain ⟨cS0, hcS0, hiss⟩ := Y0.statics
  obtain ⟨u0, hu0⟩ := Cond.staticRefV Y0.unassigned L.unassignedStatic L.statics hcS0 hiss (hin5 (.isRef (.static Bundle.tN "UNASSIGNED_STACK" Bundle.steD)) (by simp))
  obtain ⟨sen, hsen⟩ := Cond.staticRefV Y0.sentinel L.sentinelStatic L.statics hcS0 hiss (hin5 (.isRef (.static Bundle.tN "SUPPRESSED_SENTINEL" Bundle.listD)) (by simp))
  obtain ⟨ci8, i8, fB, w1, w2, w3, w4, -, w5, w6, w7⟩ := Cond.ownField (t := .object "java/lang/Object") Y0.found L.cls (by decide +kernel) (hin5 (.fieldLink Bundle.tN 198 Bundle.tN "backtrace" "Ljava/lang/Object;") (by simp)) (hin5 (.lays Bundle.tN Bundle.tN "backtrace" "Ljava/lang/Object;") (by simp)) e.platform hpl
  obtain ⟨cS, hcS, heS, -, hkeep⟩ := X.same.2.2.2.2.2 T.aS cS0 hcS0
  have hcS : T1.heap[T.aS]? = some cS := hcS
  have hkS : cS.vm ≠ .unknown := fun hu => by
    rw [heS] at hu
    have hu : cS0.vm = .unknown := hu
    rw [hu] at hiss
    cases hiss
  have hne : T.aS ≠ a := Nat.ne_of_lt (Nat.lt_of_lt_of_le (Array.getElem?_eq_some_iff.mp hcS0).1 hnew)
  obtain ⟨iM, hM⟩ := Y0.msg
  obtain ⟨tyC, dC, gC, gnC⟩ := Cond.laysAt hc0 hkX Y0.cause (hin5 (.lays cls Bundle.tN "cause" "Ljava/lang/Throwable;") (by simp))
  obtain ⟨tyS, dS, gS, gnS⟩ := Cond.laysAt hc0 hkX Y0.stack (hin5 (.lays cls Bundle.tN "stackTrace" Bundle.steD) (by simp))
  obtain ⟨tyP, dP, gP, gnP⟩ := Cond.laysAt hc0 hkX Y0.supp (hin5 (.lays cls Bundle.tN "suppressedExceptions" Bundle.listD) (by simp))
  obtain ⟨tyM, dM, gM, gnM⟩ := Cond.laysAt hc0 hkX hM (hin5 (.lays cls Bundle.tN "detailMessage" "Ljava/lang/String;") (by simp))
  obtain ⟨tyB, dB, gB, gnB⟩ := Cond.laysAt hc0 hkX w7 (hin5 (.lays cls Bundle.tN "backtrace" "Ljava/lang/Object;") (by simp))
  have bC := Cond.laysApart gB gC gnB gnC (by rw [w5, Y0.causeName]; decide)
  have bS := Cond.laysApart gB gS gnB gnS (by rw [w5, Y0.stackName]; decide)
  have bP := Cond.laysApart gB gP gnB gnP (by rw [w5, Y0.suppName]; decide)
  have hskip : SkipFacts T e.platform s (fun u => u) u0 ((preparedCellV T.toThrowableT (freshCell P0.m.cls kX) a u0 sen).withEntry T1.cur) := by
    refine ⟨{ ci198 := ci8, i198 := i8, fBack := fB }, ⟨w1, w2, w3, w4⟩, ?_, fun _ _ => rfl⟩
    have hd := fresh_default (c := P0.m.cls) tyB
    rw [w6] at hd
    simpa [preparedCellV, Cell.setSlot, Cell.withEntry, Array.getElem?_setIfInBounds, bC, bS, bP, bC.symm, bS.symm, bP.symm, defaultValue] using hd
  obtain ⟨tm, _, _, _, vm1, hn0, -, -, -, -, -, -, -, hW1, st1⟩ := Steps.initColdS (tb := p.tables) (e := e) (below := below) (s := s) (U := T1) X.here hexec X.warmed hpl hown (t := Bundle.initS cls) rfl rfl (Bundle.fit_spec hcls).2
    (hin5 (.methodLink own ic (Bundle.initS cls)) (by simp)) (h _ (hin3 (.instanceMethod (Bundle.initS cls)) (by simp [Bundle.passSAtoms]))) (bytes := b0) (maxL := 2) (h _ (hin3 (.code (Bundle.initS cls) b0 2 none) (by simp [Bundle.passSAtoms]))) (f := g) hg (a := a) (msg := msg) (rest := .ref a :: rest) hstack hd6
  cases hn0.symm.trans n1
  obtain ⟨vm2, X2, st2⟩ := (X.noted hW1).ctorMessageOffV hexec (g := { g with stack := .ref a :: rest }) hg hsize T L Z LZ M LM (P0 :: P1 :: Ps) (fun P hP => by
      rcases List.mem_cons.mp hP with rfl | hP
      · exact LP0
      · rcases List.mem_cons.mp hP with rfl | hP
        · exact LP1
        · exact LPs P hP) ⟨ePs, k1, k2⟩ (u0 := u0) (sen := sen) (self := a) hmsg (cell := freshCell P0.m.cls kX) (cellS := cS) hcell (fun _ => by simp) (by simp) rfl rfl hsel0 hselF hcS hne hkS (by rw [hkeep _ (by simp)]; exact hu0) (by rw [hkeep _ (by simp)]; exact hsen)
    (Takes.of_laid hkX hord tyC (by rw [Y0.causeType]; rfl)) (Takes.of_laid hkX hord tyS (by rw [Y0.stackType]; exact fits_refV_array _ u0)) (Takes.of_laid hkX hord tyP (by rw [Y0.suppType]; exact fits_refV_object _ sen)) (Takes.of_laid hkX hord tyM (by rw [Y0.msgType]; exact fits_refV_object _ ⟨msg, hmsg⟩)) Y0.objLocals hskip htr [] hd6
    (by simp only [List.length_cons, hlen]; omega) (by simp only [List.length_cons, hlen]; show 2 * g.monitorRoom + (1 + (rest.map fun v => v.category).sum) + _ ≤ _; omega)
  obtain ⟨hwalk, hrun, hended, hWU, hsame⟩ := X2.athrowLeaves hexec (g := { g with stack := .ref a :: rest, pc := g.pc + 3 }) hg hlocked hentered hout (a := a) (rest := rest) rfl hd9
  have hlt : a < ((T1.setVm vm1).setVm vm2).heap.size := (Array.getElem?_eq_some_iff.mp hcell).1
  refine ⟨_, st1 _ (fun acts => ?_), hrun, hended, hWU, hsame.weaken (fun y hy hlt' => ?_) (Nat.le_refl _) (Nat.le_refl _), _, heapAt_setCell_self (s := (T1.setVm vm1).setVm vm2) (plainBareV T.toThrowableT (freshCell P0.m.cls kX) a u0 sen msg) hlt, rfl, rfl⟩
  · rw [doInvoke_state]
    exact st2 _ hwalk
  · exfalso
    have hb : y.base = a := by
      simp only [List.nil_append, List.mem_cons, List.not_mem_nil, or_false] at hy
      rcases hy with rfl | rfl | rfl | rfl | rfl <;> rfl
    rw [hb] at hlt'
    exact Nat.not_lt.mpr hnew hlt'
end ZXT
section ZR10
variable {p : Program} {l : Launch} {e : Env} {R : Room} {s : State} {m : MethodId} {args : Array Value} {below : List Frame} {meth : Method} {c : Code} {H : Heap} {locs : List Loc} {cells slots : Nat} {Q : State → Prop} {cc : ByteArray} {pc nL : Nat} {ls : Array Slot} {rest : List Value} {G : zG} {w : zW} {own : String} {res : zO × zW}
set_option maxHeartbeats 1000000 in
/-- a new exception is made with a constant text, and thrown; the method has no handlers -/
theorem x_thrN {w0 : zW} (hC : z_C G p e s m meth c cc nL own) (hRc : R.cells = w0.2.1) (hRs : R.slots = w0.2.2.1) (hx : c.exceptionTable.toList = []) (hZ : z_Z G R s w H locs cells slots) {ci : Nat} {C : String} {T0 : u_T} (hcl : G.2.2.2.1[ci]? = some (C, T0, 0)) (h : z_thr w ci = some res) {ia ib ic i0 : Nat} {b0 : ByteArray} {Y : String} {tx : String} {names : List String} {vu vs : Value} (hu : (Bundle.tN, "UNASSIGNED_STACK", Bundle.steD, vu) ∈ G.2.2.2.2.2.1 ∧ vu.isRef = true) (hse : (Bundle.tN, "SUPPRESSED_SENTINEL", Bundle.listD, vs) ∈ G.2.2.2.2.2.1 ∧ vs.isRef = true) (hfit : Bundle.fit C = true) (hY : Bundle.fit Y = true) (b_0 : decode b0 0 = .ok (.aload_n 0, 1)) (b_1 : decode b0 1 = .ok (.aload_n 1, 1)) (b_2 : decode b0 2 = .ok (.invokespecial i0, 3)) (b_5 : decode b0 5 = .ok (.return_, 1)) (hnames : ∀ n ∈ names, Bundle.fit n = true)
    (hat : ∀ x ∈ z_xAt own ic C i0 b0 Y names, x ∈ G.2.2.2.2.1 ∨ x = .isRef (.static Bundle.tN "UNASSIGNED_STACK" Bundle.steD) ∨ x = .isRef (.static Bundle.tN "SUPPRESSED_SENTINEL" Bundle.listD) ∨ x = .laysStatic Bundle.tN "UNASSIGNED_STACK" Bundle.steD ∨ x = .laysStatic Bundle.tN "SUPPRESSED_SENTINEL" Bundle.listD) (hin : Cond.instantiable C 6 ∈ G.2.2.2.2.1) (hlk : Cond.classLink own ia C ∈ G.2.2.2.2.1) (hini : Cond.initialized C ∈ G.2.2.2.2.1) (hstr : Cond.stringRef own ib tx ∈ G.2.2.2.2.1) (hsz : ls.size = nL)
    (hd0 : decode cc pc = .ok (.new ia, 3)) (hd3 : decode cc (pc + 3) = .ok (.dup, 1)) (hd4 : decode cc (pc + 4) = .ok (.ldc ib, 2)) (hd6 : decode cc (pc + 6) = .ok (.invokespecial ic, 3)) (hd9 : decode cc (pc + 9) = .ok (.athrow, 1)) (hfr : names.length + 4 < R.frames) (hlo : (rest.map fun v => v.category).sum + (13 * (names.length + 2) + 44) ≤ R.locals) : W p l e R s m args below meth c H locs cells slots (z_Q G below s w0 res) (F0 m pc ls rest) := by
  unfold z_thr at h
  split at h
  · rename_i hr
    cases h
    intro T hT X
    subst hT
    have e1 := hZ.2.2.1
    have e2 := hZ.2.2.2
    have X0 := z_rebase X (by omega) (by omega)
    generalize hs0 : T.setFrames (.invoking m args :: below) = s0 at X0
    have hvm0 : s0.vm = T.vm := by rw [← hs0]; rfl
    have hhp0 : s0.heap = T.heap := by rw [← hs0]; rfl
    have hW0 : s.WarmedH s0.vm := by rw [hvm0]; exact X.warmed
    have hP0 : z_P G s0 w T.heap := hZ.1.moved hC.2.2.2.2.2.2 hW0
    have hts := hP0.tb hC.2.2.2.2.2.2 args
    have hown : s0.vm.findClass own = some m.cls := by rw [hW0.alike.findClass]; exact hC.2.2.2.1
    have hq0 : ∀ q, ¬ (G.1 ≤ q) → s0.heap[q]? = G.2.1[q]? := fun q hq => by rw [hhp0]; exact hP0.o q (Nat.not_le.mp hq)
    have hatoms : ∀ x ∈ z_xAt own ic C i0 b0 Y names, x.before args s0 = true := fun x hx => by
      rcases hat x hx with h1 | h1 | h1 | h1 | h1
      · exact hts _ h1
      · rw [h1]; exact z_isref (hP0.z _ hu.1).1 hu.2 hq0
      · rw [h1]; exact z_isref (hP0.z _ hse.1).1 hse.2 hq0
      · rw [h1]; exact z_isls (hP0.z _ hu.1).2 hq0
      · rw [h1]; exact z_isls (hP0.z _ hse.1).2 hq0
    obtain ⟨_, _, _, sa, _, _, _, -, _, hev⟩ := Cond.stringRef_spec hown (hts _ hstr)
    obtain ⟨vm₁, cX, kX, hfX, hkX, -, -, X₁, st1⟩ := X0.newCold hC.1 (own := own) (C := C) (index := ia) (n := 6) hown (hts _ hlk) (hts _ hin) (hts _ hini)
      (g := F0 m pc ls rest) rfl (by rw [hC.2.1]; exact hd0) (by show 0 + 1 ≤ R.cells - cells; omega) (by show 0 + 6 ≤ R.slots - slots; omega)
    generalize hT1 : (T.setVm vm₁).pushCell { cls := cX, slots := kX.instanceTypes.map defaultValue, vm := .none } = T1 at X₁ st1
    have hcellA : T1.heap[T.heap.size]? = some (freshCell cX kX) := by rw [← hT1]; exact State.heap_pushCell_size _ _
    obtain ⟨U, hsteps, hrun, hend, hW, hsame, ce, hce, K1, K2⟩ := z_ctorT X₁ hC.1 hC.2.2.2.2.2.1 (own := own) (cls := C) (names := names) (ic := ic) hown hfit hY hnames b_0 b_1 b_2 b_5 hatoms rfl hfX hkX hcellA (by rw [hhp0]; exact Nat.le_refl _) (msg := .ref sa) rfl
      (g := F0 m (pc + 6) ls (.ref sa :: .ref T.heap.size :: .ref T.heap.size :: rest)) rfl (by rw [hC.2.2.1]; exact hsz) rfl rfl (rest := rest) rfl (by rw [hC.2.1]; exact hd6) (by rw [hC.2.1]; exact hd9) (by rw [hx]; intro y hy; cases hy) hfr (by show 2 * 0 + ((1 : Nat) + (rest.map fun v => v.category).sum) + _ ≤ R.locals; omega) hC.2.2.2.2.1
    refine ⟨U, ?_, .threw T.heap.size, hrun, hend, by rw [hZ.1.n]; rfl, ?_, State.WarmedH.trans hW0 hW, ?_⟩
    · refine st1 _ ?_
      show Steps p.tables e below (T1.setTop (F0 m (pc + 3) ls (.ref T.heap.size :: rest))) _
      jvm_step X₁.here [X₁.here.top, hC.1, hC.2.1, hd3, Value.category]
      exact X₁.ldcString hC.1 (own := own) (text := tx) (index := ib) (a := sa) hown (hts _ hstr) hev (g := F0 m (pc + 4) ls (.ref T.heap.size :: .ref T.heap.size :: rest)) rfl (by rw [hC.2.1]; exact hd4) _ hsteps
    · obtain ⟨-, hs1, hs2, -, -, hs6⟩ := hsame
      have hold : ∀ q, q < T.heap.size → U.heap[q]? = T.heap[q]? := fun q hq => by
        obtain ⟨cell, hcell⟩ : ∃ cell, T.heap[q]? = some cell := ⟨_, Array.getElem?_eq_getElem hq⟩
        obtain ⟨c', g1, g2, g3, g4⟩ := hs6 q cell (by rw [hhp0]; exact hcell)
        have g1 : U.heap[q]? = some c' := g1
        rw [g1, hcell, g2]
        congr 1
        have : c'.slots = cell.slots := Array.ext_getElem? fun i => g4 i (by simp)
        rw [this]
      have hsz1 : U.heap.size = T.heap.size + 1 := by
        have a1 : T.heap.size < U.heap.size := (Array.getElem?_eq_some_iff.mp hce).1
        have a2 : U.heap.size ≤ s0.heap.size + (0 + 1) := hs2
        rw [hhp0] at a2
        omega
      refine (hP0.moved hC.2.2.2.2.2.2 hW).push (n := 6) (e := .inr (ci, [])) ⟨_, hcl, ce, ?_, ?_, K2, fun k hk => absurd hk (Nat.not_lt_zero k)⟩ hsz1 hold
      · rw [← hZ.1.n]; exact hce
      · rw [K1]; exact Option.some.inj (hfX.symm.trans (hP0.k.1 ci _ hcl).2.1)
    · have hsm := X.same.trans ((show T.sameButNew ({ U with vm := T.vm } : State) [] 1 6 from by
        subst hs0
        obtain ⟨q1, q2⟩ := hsame
        rw [State.setFrames_setFrames] at q1
        exact ⟨q1, q2⟩).setVm s.vm)
      refine ⟨_, _, _, hsm, ?_, ?_, ?_⟩
      · show cells + 1 + (w.2.1 - 1) = w0.2.1
        omega
      · show slots + 6 + (w.2.2.1 - 6) = w0.2.2.1
        omega
      · rw [List.append_nil]; exact hZ.2.1
  · cases h
set_option maxHeartbeats 1000000 in
/-- a new exception is made with a constant text, and thrown; the method has no handlers -/
theorem x_thrNW {w0 : zW} (hC : z_C G p e s m meth c cc nL own) (hRc : R.cells = w0.2.1) (hRs : R.slots = w0.2.2.1) (hx : c.exceptionTable.toList = []) (hZ : z_Z G R s w H locs cells slots) {ci : Nat} {C : String} {T0 : u_T} (hcl : G.2.2.2.1[ci]? = some (C, T0, 0)) (h : z_thr w ci = some res) {ia ib ic i0 : Nat} {b0 : ByteArray} {Y : String} {tx : String} {names : List String} {vu vs : Value} (hu : (Bundle.tN, "UNASSIGNED_STACK", Bundle.steD, vu) ∈ G.2.2.2.2.2.1 ∧ vu.isRef = true) (hse : (Bundle.tN, "SUPPRESSED_SENTINEL", Bundle.listD, vs) ∈ G.2.2.2.2.2.1 ∧ vs.isRef = true) (hfit : Bundle.fit C = true) (hY : Bundle.fit Y = true) (b_0 : decode b0 0 = .ok (.aload_n 0, 1)) (b_1 : decode b0 1 = .ok (.aload_n 1, 1)) (b_2 : decode b0 2 = .ok (.invokespecial i0, 3)) (b_5 : decode b0 5 = .ok (.return_, 1)) (hnames : ∀ n ∈ names, Bundle.fit n = true)
    (hat : ∀ x ∈ z_xAt own ic C i0 b0 Y names, x ∈ G.2.2.2.2.1 ∨ x = .isRef (.static Bundle.tN "UNASSIGNED_STACK" Bundle.steD) ∨ x = .isRef (.static Bundle.tN "SUPPRESSED_SENTINEL" Bundle.listD) ∨ x = .laysStatic Bundle.tN "UNASSIGNED_STACK" Bundle.steD ∨ x = .laysStatic Bundle.tN "SUPPRESSED_SENTINEL" Bundle.listD) (hin : Cond.instantiable C 6 ∈ G.2.2.2.2.1) (hlk : Cond.classLink own ia C ∈ G.2.2.2.2.1) (hini : Cond.initialized C ∈ G.2.2.2.2.1) (hstr : Cond.stringRef own ib tx ∈ G.2.2.2.2.1) (hsz : ls.size = nL)
    (hd0 : decode cc pc = .ok (.new ia, 3)) (hd3 : decode cc (pc + 3) = .ok (.dup, 1)) (hd4 : decode cc (pc + 4) = .ok (.ldc_w ib, 3)) (hd6 : decode cc (pc + 7) = .ok (.invokespecial ic, 3)) (hd9 : decode cc (pc + 10) = .ok (.athrow, 1)) (hfr : names.length + 4 < R.frames) (hlo : (rest.map fun v => v.category).sum + (13 * (names.length + 2) + 44) ≤ R.locals) : W p l e R s m args below meth c H locs cells slots (z_Q G below s w0 res) (F0 m pc ls rest) := by
  unfold z_thr at h
  split at h
  · rename_i hr
    cases h
    intro T hT X
    subst hT
    have e1 := hZ.2.2.1
    have e2 := hZ.2.2.2
    have X0 := z_rebase X (by omega) (by omega)
    generalize hs0 : T.setFrames (.invoking m args :: below) = s0 at X0
    have hvm0 : s0.vm = T.vm := by rw [← hs0]; rfl
    have hhp0 : s0.heap = T.heap := by rw [← hs0]; rfl
    have hW0 : s.WarmedH s0.vm := by rw [hvm0]; exact X.warmed
    have hP0 : z_P G s0 w T.heap := hZ.1.moved hC.2.2.2.2.2.2 hW0
    have hts := hP0.tb hC.2.2.2.2.2.2 args
    have hown : s0.vm.findClass own = some m.cls := by rw [hW0.alike.findClass]; exact hC.2.2.2.1
    have hq0 : ∀ q, ¬ (G.1 ≤ q) → s0.heap[q]? = G.2.1[q]? := fun q hq => by rw [hhp0]; exact hP0.o q (Nat.not_le.mp hq)
    have hatoms : ∀ x ∈ z_xAt own ic C i0 b0 Y names, x.before args s0 = true := fun x hx => by
      rcases hat x hx with h1 | h1 | h1 | h1 | h1
      · exact hts _ h1
      · rw [h1]; exact z_isref (hP0.z _ hu.1).1 hu.2 hq0
      · rw [h1]; exact z_isref (hP0.z _ hse.1).1 hse.2 hq0
      · rw [h1]; exact z_isls (hP0.z _ hu.1).2 hq0
      · rw [h1]; exact z_isls (hP0.z _ hse.1).2 hq0
    obtain ⟨_, _, _, sa, _, _, _, -, _, hev⟩ := Cond.stringRef_spec hown (hts _ hstr)
    obtain ⟨vm₁, cX, kX, hfX, hkX, -, -, X₁, st1⟩ := X0.newCold hC.1 (own := own) (C := C) (index := ia) (n := 6) hown (hts _ hlk) (hts _ hin) (hts _ hini)
      (g := F0 m pc ls rest) rfl (by rw [hC.2.1]; exact hd0) (by show 0 + 1 ≤ R.cells - cells; omega) (by show 0 + 6 ≤ R.slots - slots; omega)
    generalize hT1 : (T.setVm vm₁).pushCell { cls := cX, slots := kX.instanceTypes.map defaultValue, vm := .none } = T1 at X₁ st1
    have hcellA : T1.heap[T.heap.size]? = some (freshCell cX kX) := by rw [← hT1]; exact State.heap_pushCell_size _ _
    obtain ⟨U, hsteps, hrun, hend, hW, hsame, ce, hce, K1, K2⟩ := z_ctorT X₁ hC.1 hC.2.2.2.2.2.1 (own := own) (cls := C) (names := names) (ic := ic) hown hfit hY hnames b_0 b_1 b_2 b_5 hatoms rfl hfX hkX hcellA (by rw [hhp0]; exact Nat.le_refl _) (msg := .ref sa) rfl
      (g := F0 m (pc + 7) ls (.ref sa :: .ref T.heap.size :: .ref T.heap.size :: rest)) rfl (by rw [hC.2.2.1]; exact hsz) rfl rfl (rest := rest) rfl (by rw [hC.2.1]; exact hd6) (by rw [hC.2.1]; exact hd9) (by rw [hx]; intro y hy; cases hy) hfr (by show 2 * 0 + ((1 : Nat) + (rest.map fun v => v.category).sum) + _ ≤ R.locals; omega) hC.2.2.2.2.1
    refine ⟨U, ?_, .threw T.heap.size, hrun, hend, by rw [hZ.1.n]; rfl, ?_, State.WarmedH.trans hW0 hW, ?_⟩
    · refine st1 _ ?_
      show Steps p.tables e below (T1.setTop (F0 m (pc + 3) ls (.ref T.heap.size :: rest))) _
      jvm_step X₁.here [X₁.here.top, hC.1, hC.2.1, hd3, Value.category]
      exact z_ldcW X₁ hC.1 (own := own) (text := tx) (index := ib) (a := sa) hown (hts _ hstr) hev (g := F0 m (pc + 4) ls (.ref T.heap.size :: .ref T.heap.size :: rest)) rfl (by rw [hC.2.1]; exact hd4) _ hsteps
    · obtain ⟨-, hs1, hs2, -, -, hs6⟩ := hsame
      have hold : ∀ q, q < T.heap.size → U.heap[q]? = T.heap[q]? := fun q hq => by
        obtain ⟨cell, hcell⟩ : ∃ cell, T.heap[q]? = some cell := ⟨_, Array.getElem?_eq_getElem hq⟩
        obtain ⟨c', g1, g2, g3, g4⟩ := hs6 q cell (by rw [hhp0]; exact hcell)
        have g1 : U.heap[q]? = some c' := g1
        rw [g1, hcell, g2]
        congr 1
        have : c'.slots = cell.slots := Array.ext_getElem? fun i => g4 i (by simp)
        rw [this]
      have hsz1 : U.heap.size = T.heap.size + 1 := by
        have a1 : T.heap.size < U.heap.size := (Array.getElem?_eq_some_iff.mp hce).1
        have a2 : U.heap.size ≤ s0.heap.size + (0 + 1) := hs2
        rw [hhp0] at a2
        omega
      refine (hP0.moved hC.2.2.2.2.2.2 hW).push (n := 6) (e := .inr (ci, [])) ⟨_, hcl, ce, ?_, ?_, K2, fun k hk => absurd hk (Nat.not_lt_zero k)⟩ hsz1 hold
      · rw [← hZ.1.n]; exact hce
      · rw [K1]; exact Option.some.inj (hfX.symm.trans (hP0.k.1 ci _ hcl).2.1)
    · have hsm := X.same.trans ((show T.sameButNew ({ U with vm := T.vm } : State) [] 1 6 from by
        subst hs0
        obtain ⟨q1, q2⟩ := hsame
        rw [State.setFrames_setFrames] at q1
        exact ⟨q1, q2⟩).setVm s.vm)
      refine ⟨_, _, _, hsm, ?_, ?_, ?_⟩
      · show cells + 1 + (w.2.1 - 1) = w0.2.1
        omega
      · show slots + 6 + (w.2.2.1 - 6) = w0.2.2.1
        omega
      · rw [List.append_nil]; exact hZ.2.1
  · cases h
end ZR10
