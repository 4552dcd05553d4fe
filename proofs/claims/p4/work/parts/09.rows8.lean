theorem z_ok_ao {C : String} : z_ok (.arrayOver (.object C)) := fun _ _ _ _ hW hb => va_AO.use (va_AO.moved hW.alike (va_AO.of hb))
theorem z_ok_str {o : String} {k : Nat} {t : String} : z_ok (.stringRef o k t) := fun a a' s U hW hb => by
  have h1 : (Cond.stringRef o k t).before a (s.setVm U.vm) = true := Cond.stringRef_warmed hW hb
  have hv : (s.setVm U.vm).vm = U.vm := rfl
  first
    | exact va_tabs rfl hv h1
    | (simp only [Cond.before, Cond.holds, Cond.value, State.names, State.poolOf?, State.resolvedAt?, hv] at h1 ⊢; exact h1)
theorem z_ok_dec {x : MethodName} : z_ok (.declares x) := fun a a' s U hW hb => by
  have h1 : (Cond.declares x).before a (s.setVm U.vm) = true := by rw [Cond.declares_setVm hW.alike]; exact hb
  exact va_tabs rfl (rfl : (s.setVm U.vm).vm = U.vm) h1
theorem z_isls {args : Array Value} {C n d : String} {b : Nat} {U : State} {H0 : Heap} (h : z_LS C n d b U H0) (hq : ∀ q, ¬ b ≤ q → U.heap[q]? = H0[q]?) : (Cond.laysStatic C n d).before args U = true := by
  obtain ⟨c, k, i, f, a, cell, h1, h2, h3, h4, h5, h6, h7, h8, h9, h10⟩ := h
  exact Cond.laysStatic_of h1 h2 h3 h4 ((hq a (Nat.not_le.mpr h10)).trans h5) h6 h7 h8 h9
theorem z_isref {args : Array Value} {C n d : String} {v : Value} {A : Nat → Prop} {U : State} {H0 : Heap} (h : va_Z C n d v A U H0) (hv : v.isRef = true) (hq : ∀ q, ¬ A q → U.heap[q]? = H0[q]?) : (Cond.isRef (.static C n d)).before args U = true := by
  obtain ⟨cf, kf, fi, f, a, cell, h1, h2, h3, h4, h5, h6, h7, h8⟩ := h
  have h5' : U.heap[a]? = some cell := (hq a h8).trans h5
  cases v <;> simp [Value.isRef] at hv <;> simp [Cond.before, Cond.holds, Cond.value, Term.eval, State.fieldNamed?, h1, h2, h4, h5', h6, h7]
section ZLW
variable {p : Program} {l : Launch} {e : Env} {R : Room} {s : State} {m : MethodId} {args : Array Value} {below : List Frame} {meth : Method} {c : Code} {T : State} {locs : List Loc} {cells slots : Nat}
/-- a String constant by its wide instruction, resolved already -/
theorem z_ldcW (X : Stand p l e R s m args below meth c T locs cells slots) (hexec : p.tables.exec = Jvm.exec) {own text : String} {index : Nat} {a : Addr} (hown : s.vm.findClass own = some m.cls) (hconst : (Cond.stringRef own index text).before args s = true) (hev : (Term.string own index).eval args s none [] s = some (.ref a)) {g : JFrame} (hg : g.method = m) (hdg : decode c.code g.pc = .ok (.ldc_w index, 3)) :
    ∀ target, Steps p.tables e below (T.setTop { g with pc := g.pc + 3, stack := .ref a :: g.stack }) target → Steps p.tables e below (T.setTop g) target := by
  obtain ⟨k, cf, i, a', hk, hcf, hcp, -, hr, hev'⟩ := Cond.stringRef_spec hown hconst
  cases hev.symm.trans hev'
  obtain ⟨k', hk', he⟩ := X.warmed.alike.2.2 _ _ hk
  have hr' : k'.resolved[index]? = some (some (.string a)) := by
    rcases X.warmed.entry hk hk' index with h | ⟨h, -⟩
    · rw [h]; exact hr
    · rw [hr] at h; cases h
  intro target hrest
  subst hg
  jvm_step X.here [hexec, hdg, ldc_w.wp_string (e := e) (s := T) (f := g) X.here.top hk' (by rw [he]; exact hcf) hcp hr']
  exact hrest
end ZLW
section ZR8
variable {p : Program} {l : Launch} {e : Env} {R : Room} {s : State} {m : MethodId} {args : Array Value} {below : List Frame} {meth : Method} {c : Code} {H : Heap} {locs : List Loc} {cells slots : Nat} {Q : State → Prop} {cc : ByteArray} {pc nL : Nat} {ls : Array Slot} {rest : List Value} {G : zG} {w : zW} {own : String} {res : zO × zW}
set_option maxHeartbeats 1000000 in
/-- a new exception is made with a constant text, and thrown; the method has no handlers -/
theorem x_thr {w0 : zW} (hC : z_C G p e s m meth c cc nL own) (hRc : R.cells = w0.2.1) (hRs : R.slots = w0.2.2.1) (hx : c.exceptionTable.toList = []) (hZ : z_Z G R s w H locs cells slots) {ci : Nat} {C : String} {T0 : u_T} (hcl : G.2.2.2.1[ci]? = some (C, T0, 0)) (h : z_thr w ci = some res) {ia ib ic : Nat} {tx : String} {names : List String} {vu vs : Value} (hu : (Bundle.tN, "UNASSIGNED_STACK", Bundle.steD, vu) ∈ G.2.2.2.2.2.1 ∧ vu.isRef = true) (hse : (Bundle.tN, "SUPPRESSED_SENTINEL", Bundle.listD, vs) ∈ G.2.2.2.2.2.1 ∧ vs.isRef = true) (hfit : Bundle.fit C = true) (hnames : ∀ n ∈ names, Bundle.fit n = true)
    (hat : ∀ x ∈ Bundle.ownAtoms own ic C names, x ∈ G.2.2.2.2.1 ∨ x = .isRef (.static Bundle.tN "UNASSIGNED_STACK" Bundle.steD) ∨ x = .isRef (.static Bundle.tN "SUPPRESSED_SENTINEL" Bundle.listD) ∨ x = .laysStatic Bundle.tN "UNASSIGNED_STACK" Bundle.steD ∨ x = .laysStatic Bundle.tN "SUPPRESSED_SENTINEL" Bundle.listD) (hin : Cond.instantiable C 6 ∈ G.2.2.2.2.1) (hlk : Cond.classLink own ia C ∈ G.2.2.2.2.1) (hini : Cond.initialized C ∈ G.2.2.2.2.1) (hstr : Cond.stringRef own ib tx ∈ G.2.2.2.2.1) (hsz : ls.size = nL)
    (hd0 : decode cc pc = .ok (.new ia, 3)) (hd3 : decode cc (pc + 3) = .ok (.dup, 1)) (hd4 : decode cc (pc + 4) = .ok (.ldc ib, 2)) (hd6 : decode cc (pc + 6) = .ok (.invokespecial ic, 3)) (hd9 : decode cc (pc + 9) = .ok (.athrow, 1)) (hfr : names.length + 3 < R.frames) (hlo : (rest.map fun v => v.category).sum + (13 * (names.length + 1) + 44) ≤ R.locals) : W p l e R s m args below meth c H locs cells slots (z_Q G below s w0 res) (F0 m pc ls rest) := by
  unfold z_thr at h
  split at h
  · rename_i hr
    cases h
    intro T hT X
    subst hT
    have e1 := hZ.2.2.1
    have e2 := hZ.2.2.2
    have X0 := z_rebase X (by omega) (by omega)
    generalize hs0 : T.setFrames (.invoking m args :: below) = s0 at X0
    have hvm0 : s0.vm = T.vm := by rw [← hs0]; rfl
    have hhp0 : s0.heap = T.heap := by rw [← hs0]; rfl
    have hW0 : s.WarmedH s0.vm := by rw [hvm0]; exact X.warmed
    have hP0 : z_P G s0 w T.heap := hZ.1.moved hC.2.2.2.2.2.2 hW0
    have hts := hP0.tb hC.2.2.2.2.2.2 args
    have hown : s0.vm.findClass own = some m.cls := by rw [hW0.alike.findClass]; exact hC.2.2.2.1
    have hq0 : ∀ q, ¬ (G.1 ≤ q) → s0.heap[q]? = G.2.1[q]? := fun q hq => by rw [hhp0]; exact hP0.o q (Nat.not_le.mp hq)
    have hatoms : ∀ x ∈ Bundle.ownAtoms own ic C names, x.before args s0 = true := fun x hx => by
      rcases hat x hx with h1 | h1 | h1 | h1 | h1
      · exact hts _ h1
      · rw [h1]; exact z_isref (hP0.z _ hu.1).1 hu.2 hq0
      · rw [h1]; exact z_isref (hP0.z _ hse.1).1 hse.2 hq0
      · rw [h1]; exact z_isls (hP0.z _ hu.1).2 hq0
      · rw [h1]; exact z_isls (hP0.z _ hse.1).2 hq0
    obtain ⟨_, _, _, sa, _, _, _, -, _, hev⟩ := Cond.stringRef_spec hown (hts _ hstr)
    obtain ⟨vm₁, cX, kX, hfX, hkX, -, -, X₁, st1⟩ := X0.newCold hC.1 (own := own) (C := C) (index := ia) (n := 6) hown (hts _ hlk) (hts _ hin) (hts _ hini)
      (g := F0 m pc ls rest) rfl (by rw [hC.2.1]; exact hd0) (by show 0 + 1 ≤ R.cells - cells; omega) (by show 0 + 6 ≤ R.slots - slots; omega)
    generalize hT1 : (T.setVm vm₁).pushCell { cls := cX, slots := kX.instanceTypes.map defaultValue, vm := .none } = T1 at X₁ st1
    have hcellA : T1.heap[T.heap.size]? = some (freshCell cX kX) := by rw [← hT1]; exact State.heap_pushCell_size _ _
    obtain ⟨U, hsteps, hrun, hend, hW, hsame, ce, hce, K⟩ := X₁.ctorThrowS hC.1 hC.2.2.2.2.2.1 (own := own) (cls := C) (names := names) (ic := ic) hown hfit hnames hatoms (fun y hy => by cases hy) hfX hkX hcellA (by rw [hhp0]; exact Nat.le_refl _) (msg := .ref sa) rfl
      (g := F0 m (pc + 6) ls (.ref sa :: .ref T.heap.size :: .ref T.heap.size :: rest)) rfl (by rw [hC.2.2.1]; exact hsz) rfl rfl (rest := rest) rfl (by rw [hC.2.1]; exact hd6) (by rw [hC.2.1]; exact hd9) (by rw [hx]; intro y hy; cases hy) hfr (by show 2 * 0 + ((1 : Nat) + (rest.map fun v => v.category).sum) + _ ≤ R.locals; omega) hC.2.2.2.2.1
    refine ⟨U, ?_, .threw T.heap.size, hrun, hend, by rw [hZ.1.n]; rfl, ?_, State.WarmedH.trans hW0 hW, ?_⟩
    · refine st1 _ ?_
      show Steps p.tables e below (T1.setTop (F0 m (pc + 3) ls (.ref T.heap.size :: rest))) _
      jvm_step X₁.here [X₁.here.top, hC.1, hC.2.1, hd3, Value.category]
      exact X₁.ldcString hC.1 (own := own) (text := tx) (index := ib) (a := sa) hown (hts _ hstr) hev (g := F0 m (pc + 4) ls (.ref T.heap.size :: .ref T.heap.size :: rest)) rfl (by rw [hC.2.1]; exact hd4) _ hsteps
    · obtain ⟨-, hs1, hs2, -, -, hs6⟩ := hsame
      have hold : ∀ q, q < T.heap.size → U.heap[q]? = T.heap[q]? := fun q hq => by
        obtain ⟨cell, hcell⟩ : ∃ cell, T.heap[q]? = some cell := ⟨_, Array.getElem?_eq_getElem hq⟩
        obtain ⟨c', g1, g2, g3, g4⟩ := hs6 q cell (by rw [hhp0]; exact hcell)
        have g1 : U.heap[q]? = some c' := g1
        rw [g1, hcell, g2]
        congr 1
        have : c'.slots = cell.slots := Array.ext_getElem? fun i => g4 i (by simp)
        rw [this]
      have hsz1 : U.heap.size = T.heap.size + 1 := by
        have a1 : T.heap.size < U.heap.size := (Array.getElem?_eq_some_iff.mp hce).1
        have a2 : U.heap.size ≤ s0.heap.size + (0 + 1) := hs2
        rw [hhp0] at a2
        omega
      refine (hP0.moved hC.2.2.2.2.2.2 hW).push (n := 6) (e := .inr (ci, [])) ⟨_, hcl, ce, ?_, ?_, K.vm, fun k hk => absurd hk (Nat.not_lt_zero k)⟩ hsz1 hold
      · rw [← hZ.1.n]; exact hce
      · exact Option.some.inj (K.cls.symm.trans (hP0.k.1 ci _ hcl).2.1)
    · have hsm := X.same.trans ((show T.sameButNew ({ U with vm := T.vm } : State) [] 1 6 from by
        subst hs0
        obtain ⟨q1, q2⟩ := hsame
        rw [State.setFrames_setFrames] at q1
        exact ⟨q1, q2⟩).setVm s.vm)
      refine ⟨_, _, _, hsm, ?_, ?_, ?_⟩
      · show cells + 1 + (w.2.1 - 1) = w0.2.1
        omega
      · show slots + 6 + (w.2.2.1 - 6) = w0.2.2.1
        omega
      · rw [List.append_nil]; exact hZ.2.1
  · cases h
set_option maxHeartbeats 1000000 in
/-- a new exception is made with a constant text, and thrown; the method has no handlers -/
theorem x_thrW {w0 : zW} (hC : z_C G p e s m meth c cc nL own) (hRc : R.cells = w0.2.1) (hRs : R.slots = w0.2.2.1) (hx : c.exceptionTable.toList = []) (hZ : z_Z G R s w H locs cells slots) {ci : Nat} {C : String} {T0 : u_T} (hcl : G.2.2.2.1[ci]? = some (C, T0, 0)) (h : z_thr w ci = some res) {ia ib ic : Nat} {tx : String} {names : List String} {vu vs : Value} (hu : (Bundle.tN, "UNASSIGNED_STACK", Bundle.steD, vu) ∈ G.2.2.2.2.2.1 ∧ vu.isRef = true) (hse : (Bundle.tN, "SUPPRESSED_SENTINEL", Bundle.listD, vs) ∈ G.2.2.2.2.2.1 ∧ vs.isRef = true) (hfit : Bundle.fit C = true) (hnames : ∀ n ∈ names, Bundle.fit n = true)
    (hat : ∀ x ∈ Bundle.ownAtoms own ic C names, x ∈ G.2.2.2.2.1 ∨ x = .isRef (.static Bundle.tN "UNASSIGNED_STACK" Bundle.steD) ∨ x = .isRef (.static Bundle.tN "SUPPRESSED_SENTINEL" Bundle.listD) ∨ x = .laysStatic Bundle.tN "UNASSIGNED_STACK" Bundle.steD ∨ x = .laysStatic Bundle.tN "SUPPRESSED_SENTINEL" Bundle.listD) (hin : Cond.instantiable C 6 ∈ G.2.2.2.2.1) (hlk : Cond.classLink own ia C ∈ G.2.2.2.2.1) (hini : Cond.initialized C ∈ G.2.2.2.2.1) (hstr : Cond.stringRef own ib tx ∈ G.2.2.2.2.1) (hsz : ls.size = nL)
    (hd0 : decode cc pc = .ok (.new ia, 3)) (hd3 : decode cc (pc + 3) = .ok (.dup, 1)) (hd4 : decode cc (pc + 4) = .ok (.ldc_w ib, 3)) (hd6 : decode cc (pc + 7) = .ok (.invokespecial ic, 3)) (hd9 : decode cc (pc + 10) = .ok (.athrow, 1)) (hfr : names.length + 3 < R.frames) (hlo : (rest.map fun v => v.category).sum + (13 * (names.length + 1) + 44) ≤ R.locals) : W p l e R s m args below meth c H locs cells slots (z_Q G below s w0 res) (F0 m pc ls rest) := by
  unfold z_thr at h
  split at h
  · rename_i hr
    cases h
    intro T hT X
    subst hT
    have e1 := hZ.2.2.1
    have e2 := hZ.2.2.2
    have X0 := z_rebase X (by omega) (by omega)
    generalize hs0 : T.setFrames (.invoking m args :: below) = s0 at X0
    have hvm0 : s0.vm = T.vm := by rw [← hs0]; rfl
    have hhp0 : s0.heap = T.heap := by rw [← hs0]; rfl
    have hW0 : s.WarmedH s0.vm := by rw [hvm0]; exact X.warmed
    have hP0 : z_P G s0 w T.heap := hZ.1.moved hC.2.2.2.2.2.2 hW0
    have hts := hP0.tb hC.2.2.2.2.2.2 args
    have hown : s0.vm.findClass own = some m.cls := by rw [hW0.alike.findClass]; exact hC.2.2.2.1
    have hq0 : ∀ q, ¬ (G.1 ≤ q) → s0.heap[q]? = G.2.1[q]? := fun q hq => by rw [hhp0]; exact hP0.o q (Nat.not_le.mp hq)
    have hatoms : ∀ x ∈ Bundle.ownAtoms own ic C names, x.before args s0 = true := fun x hx => by
      rcases hat x hx with h1 | h1 | h1 | h1 | h1
      · exact hts _ h1
      · rw [h1]; exact z_isref (hP0.z _ hu.1).1 hu.2 hq0
      · rw [h1]; exact z_isref (hP0.z _ hse.1).1 hse.2 hq0
      · rw [h1]; exact z_isls (hP0.z _ hu.1).2 hq0
      · rw [h1]; exact z_isls (hP0.z _ hse.1).2 hq0
    obtain ⟨_, _, _, sa, _, _, _, -, _, hev⟩ := Cond.stringRef_spec hown (hts _ hstr)
    obtain ⟨vm₁, cX, kX, hfX, hkX, -, -, X₁, st1⟩ := X0.newCold hC.1 (own := own) (C := C) (index := ia) (n := 6) hown (hts _ hlk) (hts _ hin) (hts _ hini)
      (g := F0 m pc ls rest) rfl (by rw [hC.2.1]; exact hd0) (by show 0 + 1 ≤ R.cells - cells; omega) (by show 0 + 6 ≤ R.slots - slots; omega)
    generalize hT1 : (T.setVm vm₁).pushCell { cls := cX, slots := kX.instanceTypes.map defaultValue, vm := .none } = T1 at X₁ st1
    have hcellA : T1.heap[T.heap.size]? = some (freshCell cX kX) := by rw [← hT1]; exact State.heap_pushCell_size _ _
    obtain ⟨U, hsteps, hrun, hend, hW, hsame, ce, hce, K⟩ := X₁.ctorThrowS hC.1 hC.2.2.2.2.2.1 (own := own) (cls := C) (names := names) (ic := ic) hown hfit hnames hatoms (fun y hy => by cases hy) hfX hkX hcellA (by rw [hhp0]; exact Nat.le_refl _) (msg := .ref sa) rfl
      (g := F0 m (pc + 7) ls (.ref sa :: .ref T.heap.size :: .ref T.heap.size :: rest)) rfl (by rw [hC.2.2.1]; exact hsz) rfl rfl (rest := rest) rfl (by rw [hC.2.1]; exact hd6) (by rw [hC.2.1]; exact hd9) (by rw [hx]; intro y hy; cases hy) hfr (by show 2 * 0 + ((1 : Nat) + (rest.map fun v => v.category).sum) + _ ≤ R.locals; omega) hC.2.2.2.2.1
    refine ⟨U, ?_, .threw T.heap.size, hrun, hend, by rw [hZ.1.n]; rfl, ?_, State.WarmedH.trans hW0 hW, ?_⟩
    · refine st1 _ ?_
      show Steps p.tables e below (T1.setTop (F0 m (pc + 3) ls (.ref T.heap.size :: rest))) _
      jvm_step X₁.here [X₁.here.top, hC.1, hC.2.1, hd3, Value.category]
      exact z_ldcW X₁ hC.1 (own := own) (text := tx) (index := ib) (a := sa) hown (hts _ hstr) hev (g := F0 m (pc + 4) ls (.ref T.heap.size :: .ref T.heap.size :: rest)) rfl (by rw [hC.2.1]; exact hd4) _ hsteps
    · obtain ⟨-, hs1, hs2, -, -, hs6⟩ := hsame
      have hold : ∀ q, q < T.heap.size → U.heap[q]? = T.heap[q]? := fun q hq => by
        obtain ⟨cell, hcell⟩ : ∃ cell, T.heap[q]? = some cell := ⟨_, Array.getElem?_eq_getElem hq⟩
        obtain ⟨c', g1, g2, g3, g4⟩ := hs6 q cell (by rw [hhp0]; exact hcell)
        have g1 : U.heap[q]? = some c' := g1
        rw [g1, hcell, g2]
        congr 1
        have : c'.slots = cell.slots := Array.ext_getElem? fun i => g4 i (by simp)
        rw [this]
      have hsz1 : U.heap.size = T.heap.size + 1 := by
        have a1 : T.heap.size < U.heap.size := (Array.getElem?_eq_some_iff.mp hce).1
        have a2 : U.heap.size ≤ s0.heap.size + (0 + 1) := hs2
        rw [hhp0] at a2
        omega
      refine (hP0.moved hC.2.2.2.2.2.2 hW).push (n := 6) (e := .inr (ci, [])) ⟨_, hcl, ce, ?_, ?_, K.vm, fun k hk => absurd hk (Nat.not_lt_zero k)⟩ hsz1 hold
      · rw [← hZ.1.n]; exact hce
      · exact Option.some.inj (K.cls.symm.trans (hP0.k.1 ci _ hcl).2.1)
    · have hsm := X.same.trans ((show T.sameButNew ({ U with vm := T.vm } : State) [] 1 6 from by
        subst hs0
        obtain ⟨q1, q2⟩ := hsame
        rw [State.setFrames_setFrames] at q1
        exact ⟨q1, q2⟩).setVm s.vm)
      refine ⟨_, _, _, hsm, ?_, ?_, ?_⟩
      · show cells + 1 + (w.2.1 - 1) = w0.2.1
        omega
      · show slots + 6 + (w.2.2.1 - 6) = w0.2.2.1
        omega
      · rw [List.append_nil]; exact hZ.2.1
  · cases h
end ZR8
