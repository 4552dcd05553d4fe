theorem z_P.back {G : zG} {s U : State} {w0 w : zW} {H0 H : Heap} (h0 : z_P G s w0 H0) (hvm : U.vm.Alike s.vm) (h : z_P G U w H) : z_P G s w H := by
  obtain ⟨-, -, -, h3, h4, h5, h6⟩ := h
  exact ⟨h0.k, h0.t, ⟨h0.z, h0.mi⟩, h3, h4, h5, fun a e he => ⟨(h6 a e he).1, (h6 a e he).2.moved hvm⟩⟩
section ZR2
variable {p : Program} {l : Launch} {e : Env} {R : Room} {s : State} {m : MethodId} {args : Array Value} {below : List Frame} {meth : Method} {c : Code} {H : Heap} {locs : List Loc} {cells slots : Nat} {Q : State → Prop} {cc : ByteArray} {pc nL : Nat} {ls : Array Slot} {rest : List Value} {G : zG} {w : zW} {own : String} {res : zO × zW}
theorem x_putF (hC : z_C G p e s m meth c cc nL own) (hZ : z_Z G R s w H locs cells slots) {ci : Nat} {C : String} {T : u_T} {N : Nat} {ty : Nat → FieldType} (hc : z_cls G ci C T N ty) {r : Option Nat} {k : Nat} {v : Value} {K : zW → zR} (h : z_put w ci k r v K = some res) (hk : k < N) {index : Nat} {ref : String} (hlink : Cond.fieldLink own index ref (T k).2.1 (T k).2.2.1 ∈ G.2.2.2.2.1) (hsame : ∀ x, s.fieldFound? (T k).1 (T k).2.1 (T k).2.2.1 = some x → s.fieldFound? ref (T k).2.1 (T k).2.2.1 = some x) (hfin : (T k).2.2.2 = true) (hnm : meth.name = "<init>") (hdecl : (T k).1 = own) {t : FieldType} (ht : ty k = t) (hn : narrow t v = v) (hfit : fits t v = true) (hd : decode cc pc = .ok (.putfield index, 3))
    (kk : ∀ (w : zW) (H : Heap) (locs : List Loc), z_Z G R s w H locs cells slots → K w = some res → W p l e R s m args below meth c H locs cells slots Q (F0 m (pc + 3) ls rest)) : W p l e R s m args below meth c H locs cells slots Q (F0 m pc ls (v :: va_rf r :: rest)) := by
  unfold z_put at h
  split at h
  · rename_i a fs ho
    split at h
    · rename_i hl
      obtain ⟨rfl, hw⟩ := z_obj_spec ho
      have hts := hZ.1.tb hC.2.2.2.2.2.2 args
      have hb : G.1 ≤ a := by
        rcases (hZ.1.c a _ hw).1 with q | ⟨_, _, q, _⟩
        · exact q
        · cases q
      have hap := va_apart (own := own) hts hc.2.1 ty hc.2.2.1 hc.2.2.2 hZ.1.k hc.1
      obtain ⟨r', h1, cell, q1, q2, q3, q4⟩ := (hZ.1.c a _ hw).2
      have hr : r' = (C, T, N) := Option.some.inj (h1.symm.trans hc.1)
      subst hr
      obtain ⟨hS, hfc, kC, hkC, hkind⟩ := hZ.1.k.1 ci _ hc.1
      obtain ⟨cf, kf, fi, f, hi, hsl⟩ := hS k hk
      have hlay := hts _ (hc.2.1 _ (u_in_lay hk))
      unfold u_lay at hlay
      rw [if_pos hfin] at hlay
      have hst := (u_facts hfc hkC (u_lays hts hc.2.1 hk) hi).1
      have hcf : m.cls = cf := by
        obtain ⟨_, _, c', _, _, _, -, -, hf', -, -, -, hown2, -⟩ := Cond.laysFinal_spec hlay
        have e1 : c' = cf := by have := hi.symm.trans hf'; simp at this; exact this.1.symm
        rw [hdecl] at hown2
        rw [← e1]; exact Option.some.inj (hC.2.2.2.1.symm.trans hown2)
      have h6 := u_fits hfc hkC hkind (Or.inr hlay) hi (by rw [hc.2.2.1 k hk, ht]) hn hfit
      refine W.putFinK hC.1 hC.2.1 hC.2.2.2.1 (hts _ hlink) (hsame _ hi) hst hcf hnm (by rw [q2]; exact h6) q1 q3 (by rw [hsl]; exact k2_hasslot (q4 k hk)) rfl rfl hd fun H' e1 e2 e3 => ?_
      rw [hsl] at e1 ⊢
      refine kk _ H' _ ⟨hZ.1.set hw hb (e := .inr (ci, fs.set k v)) ⟨_, hc.1, t_OB.to (V := updV (vp_V fs) k v) ⟨_, e1, q2, q3, t_set q4 hap hk v⟩ (fun j _ => vp_updV_set hl v j)⟩ e2 e3, fun q hq => ?_, hZ.2.2⟩ h
      rcases List.mem_append.mp hq with q | q
      · exact hZ.2.1 _ q
      · rw [List.mem_singleton.mp q]; exact hb
    · cases h
  · cases h
theorem x_putZF (hC : z_C G p e s m meth c cc nL own) (hZ : z_Z G R s w H locs cells slots) {ci : Nat} {C : String} {T : u_T} {N : Nat} {ty : Nat → FieldType} (hc : z_cls G ci C T N ty) {r : Option Nat} {k : Nat} {v : Int32} {K : zW → zR} (h : z_putZ w ci k r v K = some res) (hk : k < N) {index : Nat} {ref : String} (hlink : Cond.fieldLink own index ref (T k).2.1 (T k).2.2.1 ∈ G.2.2.2.2.1) (hsame : ∀ x, s.fieldFound? (T k).1 (T k).2.1 (T k).2.2.1 = some x → s.fieldFound? ref (T k).2.1 (T k).2.2.1 = some x) (hfin : (T k).2.2.2 = true) (hnm : meth.name = "<init>") (hdecl : (T k).1 = own) (ht : ty k = .boolean) (hd : decode cc pc = .ok (.putfield index, 3))
    (kk : ∀ (w : zW) (H : Heap) (locs : List Loc), z_Z G R s w H locs cells slots → K w = some res → W p l e R s m args below meth c H locs cells slots Q (F0 m (pc + 3) ls rest)) : W p l e R s m args below meth c H locs cells slots Q (F0 m pc ls (.int v :: va_rf r :: rest)) := by
  unfold z_putZ at h
  split at h
  · rename_i hv
    refine x_putF hC hZ hc h hk hlink hsame hfin hnm hdecl ht ?_ ?_ hd kk
    · rcases hv with rfl | rfl <;> rfl
    · rcases hv with rfl | rfl <;> rfl
  · cases h
theorem x_new (hC : z_C G p e s m meth c cc nL own) (hZ : z_Z G R s w H locs cells slots) {ci : Nat} {C : String} {T : u_T} {N : Nat} {ty : Nat → FieldType} (hc : z_cls G ci C T N ty) {fs : List Value} {K : Nat → zW → zR} (h : z_new w ci N fs K = some res) {index : Nat} (hcl : Cond.classLink own index C ∈ G.2.2.2.2.1) (hinst : Cond.instantiable C N ∈ G.2.2.2.2.1) (hini : Cond.initialized C ∈ G.2.2.2.2.1) (hfs : ∀ j, j < N → defaultValue (ty j) = vp_V fs j) (hd : decode cc pc = .ok (.new index, 3))
    (kk : ∀ (a : Nat) (w : zW) (H : Heap) (cells slots : Nat), z_Z G R s w H locs cells slots → K a w = some res → W p l e R s m args below meth c H locs cells slots Q (F0 m (pc + 3) ls (va_rf (some a) :: rest))) : W p l e R s m args below meth c H locs cells slots Q (F0 m pc ls rest) := by
  unfold z_new at h
  split at h
  · rename_i hr
    have hts := hZ.1.tb hC.2.2.2.2.2.2 args
    have hKn := hZ.1.k.1 ci _ hc.1
    have h3 := hZ.2.2.1
    have h4 := hZ.2.2.2
    refine W.newcK hC.1 hC.2.1 hC.2.2.2.1 (hts _ hcl) (hts _ hinst) (hts _ hini) rfl hd (by omega) (by omega) hKn.2.1 hZ.1.n fun H1 kC hkC e1 z1 o1 => ?_
    refine kk w.1 _ H1 _ _ ⟨hZ.1.push (n := N) (e := .inr (ci, fs)) ⟨_, hc.1, (u_born ty hts hc.2.1 hKn hkC e1 hc.2.2.1).to hfs⟩ (by rw [z1, hZ.1.n]) (fun q hq => o1 q (by rw [← hZ.1.n]; exact hq)), hZ.2.1, ?_, ?_⟩ h
    · show cells + 1 + (w.2.1 - 1) = R.cells
      omega
    · show slots + N + (w.2.2.1 - N) = R.slots
      omega
  · cases h
/-! the end of a method -/
theorem z_end {w0 : zW} {v : Option Value} {w : zW} {t : State} {oc : Outcome} {L : List Loc} (hT : z_TB G) (hc : R.cells = w0.2.1) (hs : R.slots = w0.2.2.1) (hZ : z_Z G R s w H locs cells slots) (ho : oc = .returned v) (hh : t.heap = H) (hF : FrameEnd s oc t L cells slots) (hL : ∀ q ∈ L, G.1 ≤ q.base) : z_E G s w0 (.inl v) w oc t := by
  obtain ⟨-, hW, hsm⟩ := hF
  exact ⟨ho, by rw [hh]; exact hZ.1.moved hT hW, hW, L, cells, slots, hsm, by rw [← hc]; exact hZ.2.2.1, by rw [← hs]; exact hZ.2.2.2, hL⟩
theorem x_iret (hC : z_C G p e s m meth c cc nL own) {w0 : zW} (hc : R.cells = w0.2.1) (hs : R.slots = w0.2.2.1) (hZ : z_Z G R s w H locs cells slots) {v : Int32} {ty : FieldType} (hr : meth.sig.returnType = some ty) (hn : narrow ty (.int v) = .int v) (h : (some (.inl (some (.int v)), w) : zR) = some res) (hd : decode cc pc = .ok (.ireturn, 1)) : W p l e R s m args below meth c H locs cells slots (z_Q G below s w0 res) (F0 m pc ls [.int v]) := by
  cases h
  refine W.mono ?_ (W.zret (Qc := fun _ _ oc t => oc = .returned (some (.int v)) ∧ t.heap = H) (free := fun q => G.1 ≤ q) hC.1 hC.2.1 hr hn (fun t ht _ => ⟨rfl, ht⟩) hZ.2.1 hd hC.2.2.2.2.1)
  rintro t ⟨oc, h1, h2, ⟨h3, h4⟩, L, h5, h6⟩
  exact ⟨oc, h1, h2, z_end hC.2.2.2.2.2.2 hc hs hZ h3 h4 h5 h6⟩
theorem x_lret (hC : z_C G p e s m meth c cc nL own) {w0 : zW} (hc : R.cells = w0.2.1) (hs : R.slots = w0.2.2.1) (hZ : z_Z G R s w H locs cells slots) {v : Int64} (hr : meth.sig.returnType = some .long) (h : (some (.inl (some (.long v)), w) : zR) = some res) (hd : decode cc pc = .ok (.lreturn, 1)) : W p l e R s m args below meth c H locs cells slots (z_Q G below s w0 res) (F0 m pc ls [.long v]) := by
  cases h
  refine W.mono ?_ (W.lret (Qc := fun _ _ oc t => oc = .returned (some (.long v)) ∧ t.heap = H) (free := fun q => G.1 ≤ q) hC.1 hC.2.1 hr (fun t ht _ => ⟨rfl, ht⟩) hZ.2.1 hd hC.2.2.2.2.1)
  rintro t ⟨oc, h1, h2, ⟨h3, h4⟩, L, h5, h6⟩
  exact ⟨oc, h1, h2, z_end hC.2.2.2.2.2.2 hc hs hZ h3 h4 h5 h6⟩
theorem x_aret (hC : z_C G p e s m meth c cc nL own) {w0 : zW} (hc : R.cells = w0.2.1) (hs : R.slots = w0.2.2.1) (hZ : z_Z G R s w H locs cells slots) {r : Option Nat} {rt : FieldType} (hr : meth.sig.returnType = some rt) (hrt : (∃ n, rt = .object n) ∨ ∃ t, rt = .array t) (h : (some (.inl (some (va_rf r)), w) : zR) = some res) (hd : decode cc pc = .ok (.areturn, 1)) : W p l e R s m args below meth c H locs cells slots (z_Q G below s w0 res) (F0 m pc ls [va_rf r]) := by
  cases h
  refine W.mono ?_ (W.aret (Qc := fun _ _ oc t => oc = .returned (some (va_rf r)) ∧ t.heap = H) (free := fun q => G.1 ≤ q) hC.1 hC.2.1 hr hrt (va_rf_or r) (fun t ht _ => ⟨rfl, ht⟩) hZ.2.1 hd hC.2.2.2.2.1)
  rintro t ⟨oc, h1, h2, ⟨h3, h4⟩, L, h5, h6⟩
  exact ⟨oc, h1, h2, z_end hC.2.2.2.2.2.2 hc hs hZ h3 h4 h5 h6⟩
theorem x_vret (hC : z_C G p e s m meth c cc nL own) {w0 : zW} (hc : R.cells = w0.2.1) (hs : R.slots = w0.2.2.1) (hZ : z_Z G R s w H locs cells slots) (hr : meth.sig.returnType = none) (h : (some (.inl none, w) : zR) = some res) (hd : decode cc pc = .ok (.return_, 1)) : W p l e R s m args below meth c H locs cells slots (z_Q G below s w0 res) (F0 m pc ls []) := by
  cases h
  refine W.mono ?_ (W.vret (Qc := fun _ _ oc t => oc = .returned none ∧ t.heap = H) (free := fun q => G.1 ≤ q) hC.1 hC.2.1 hr (fun t ht _ => ⟨rfl, ht⟩) hZ.2.1 hd hC.2.2.2.2.1)
  rintro t ⟨oc, h1, h2, ⟨h3, h4⟩, L, h5, h6⟩
  exact ⟨oc, h1, h2, z_end hC.2.2.2.2.2.2 hc hs hZ h3 h4 h5 h6⟩
/-! calls -/
def z_hw (hw : Cond) (y : MethodName) (maxL : Nat) : Prop := ∀ (a : Array Value) (U : State) (mk : MethodId), U.methodNamed? y = some mk → hw.before a U = true → ∃ (methY : Method) (cY : Code), U.vm.method? mk = some methY ∧ methY.code = some cY ∧ cY.maxLocals = maxL ∧ parseMethodDescriptor y.desc = some methY.sig
theorem z_hw_code {y : MethodName} {bytes : ByteArray} {maxL : Nat} {ret : Option FieldType} : z_hw (.code y bytes maxL ret) y maxL := fun _ _ _ hn h => by
  obtain ⟨methY, cY, hmY, hcY, -, hlY, -, -, -, hsg⟩ := Cond.code_spec hn h
  exact ⟨methY, cY, hmY, hcY, hlY, hsg⟩
theorem z_go (hT : z_TB G) {T : State} (X : Stand p l e R s m args below meth c T locs cells slots) (hZ : z_Z G R s w T.heap locs cells slots) {y : MethodName} {hw : Cond} {fr lo maxL : Nat} {av : List Value} {r1 : zO × zW} (hM : z_Ct G l y hw fr lo av w r1) (hh : z_hw hw y maxL) {mk : MethodId} (hn : s.methodNamed? y = some mk) (hwt : hw ∈ G.2.2.2.2.1) (hini : Cond.initialized y.cls ∈ G.2.2.2.2.1) (hfr : fr + 1 ≤ R.frames) (hlo : 8 + (maxL + 11) + lo ≤ R.locals) {g : JFrame} (hg : g.method = m) (hsize : g.locals.size = c.maxLocals) {ig : Instr} (hdg : decode c.code g.pc = .ok (ig, 3)) (hW : 2 * g.monitorRoom + (g.stack.map fun v => v.category).sum ≤ 8) :
    ∃ (T' : State) (locs' : List Loc) (cells' slots' : Nat), Stand p l e R s m args below meth c T' locs' cells' slots' ∧ z_Z G R s r1.2 T'.heap locs' cells' slots' ∧
      (∀ v, r1.1 = .inl v → Steps p.tables e below (doInvoke e (T.setTop g) [] mk av.toArray).1 (T'.setTop { g with pc := g.pc + 3, stack := v.toList ++ g.stack })) ∧
      (∀ x, r1.1 = .inr x → Steps p.tables e below (doInvoke e (T.setTop g) [] mk av.toArray).1 ((T'.setTop g).pushFrame (.throwing x))) := by
  have hPT : z_P G T w T.heap := hZ.1.moved hT X.warmed
  have htT := hPT.tb hT av.toArray
  have hnT : T.methodNamed? y = some mk := X.named hn
  obtain ⟨methY, cY, hmY, hcY, hlY, -⟩ := hh _ T mk hnT (htT _ hwt)
  obtain ⟨kY, hkY, -⟩ := className_of_methodNamed hnT
  have hinitY : kY.init = .initialized := Cond.initialized_spec (findClass_of_methodNamed hnT) hkY (htT _ hini)
  have h : At T g.method c below := by rw [hg]; exact X.here
  have happ : (headSpec [hw] { frames := fr, cells := w.2.1, slots := w.2.2.1, locals := lo }).appliesLoose y e.platform (T.calling g mk av.toArray) = true :=
    Spec.appliesLoose_calling (g := g) h hdg hnT hkY hinitY
      (X.room_calling (g := g) (R' := { frames := fr, cells := w.2.1, slots := w.2.2.1, locals := lo }) hsize hmY hcY hfr (by rw [hlY]; show _ + lo ≤ _; omega) (by show cells + w.2.1 ≤ _; rw [hZ.2.2.1]; exact Nat.le_refl _) (by show slots + w.2.2.1 ≤ _; rw [hZ.2.2.2]; exact Nat.le_refl _))
      (atoms_intro fun x hx => by rw [List.mem_singleton.mp hx]; exact htT _ hwt)
  obtain ⟨mid, hmid⟩ := h.above
  have hfr2 : (T.setTop g).frames = (.java g :: mid) ++ below := by rw [State.frames_setTop' g h.top, hmid]; rfl
  have hPc : z_P G (T.calling g mk av.toArray) w T.heap := hPT.moved hT (State.WarmedH.refl T)
  obtain ⟨o, s₂, hsteps, -, hend, hq⟩ := Steps.callFree hM p X.admits X.cas X.clock (acts := []) hfr2 happ ⟨rfl, hPc⟩ trivial
  rw [State.frames_setTop' g h.top, X.tail] at hend
  obtain ⟨hoi, hP2, hW2, L, k, n, hsm, hk, hn2, hL⟩ := hq
  have hlocs : ∀ q ∈ locs ++ L, G.1 ≤ q.base := fun q hq => by
    rcases List.mem_append.mp hq with q1 | q1
    · exact hZ.2.1 _ q1
    · exact hL _ q1
  have e1 := hZ.2.2.1
  have e2 := hZ.2.2.2
  obtain ⟨o1, w1⟩ := r1
  dsimp only at hoi hP2 hk hn2 ⊢
  cases o1 with
  | inl v =>
    have hoi : o = .returned v := hoi
    subst hoi
    obtain ⟨T', X', hWT, hsT, rfl⟩ := X.outOf hg hdg hend hW2 hsm
    have hvT : (T'.setTop { g with pc := g.pc + 3, stack := v.toList ++ g.stack }).vm = T'.vm := by simp [State.setTop, State.modifyTopJava]
    have hhT : (T'.setTop { g with pc := g.pc + 3, stack := v.toList ++ g.stack }).heap = T'.heap := by simp [State.setTop, State.modifyTopJava]
    refine ⟨T', _, _, _, X', ⟨?_, hlocs, by omega, by omega⟩, fun v' hv => ?_, fun x hx => (by cases hx)⟩
    · rw [hhT] at hP2
      exact hZ.1.back (by rw [hvT]; exact X'.warmed.alike.symm) hP2
    · cases hv
      exact hsteps
  | inr x =>
    have hoi : o = .threw x := hoi
    subst hoi
    obtain ⟨T', X', hWT, hsT, rfl⟩ := X.outOfThrown hg hend hW2 hsm
    rw [Stand.throwing_heap] at hP2
    refine ⟨T', _, _, _, X', ⟨?_, hlocs, by omega, by omega⟩, fun v' hv => (by cases hv), fun x' hx => ?_⟩
    · exact hZ.1.back (by rw [Stand.throwing_vm]; exact X'.warmed.alike.symm) hP2
    · cases hx
      exact hsteps
end ZR2
