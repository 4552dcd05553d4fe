/-- a cast to the class cj: null, or an object of it -/
def z_cast (w : zW) (cj : Nat) (r : Option Nat) (K : zR) : zR := if r = none ∨ (z_obj w cj r).isSome = true then K else none
section ZR7
variable {p : Program} {l : Launch} {e : Env} {R : Room} {s : State} {m : MethodId} {args : Array Value} {below : List Frame} {meth : Method} {c : Code} {H : Heap} {locs : List Loc} {cells slots : Nat} {Q : State → Prop} {cc : ByteArray} {pc nL : Nat} {ls : Array Slot} {rest : List Value} {G : zG} {w : zW} {own : String} {res : zO × zW}
theorem z_isO {cj a : Nat} (h : (z_obj w cj (some a)).isSome = true) : ∃ fs, w.2.2.2 a = some (.inr (cj, fs)) := by
  obtain ⟨q, hq⟩ := Option.isSome_iff_exists.mp h
  obtain ⟨e0, hw⟩ := z_obj_spec (a := q.1) (fs := q.2) hq
  cases e0
  exact ⟨q.2, hw⟩
theorem z_recv {cj a : Nat} {fs : List Value} {C : String} {T : u_T} {N : Nat} (hZ : z_Z G R s w H locs cells slots) (hc : G.2.2.2.1[cj]? = some (C, T, N)) (hw : w.2.2.2 a = some (.inr (cj, fs))) : ∃ cell : Cell, H[a]? = some cell ∧ cell.vm = .none ∧ s.vm.findClass C = some cell.cls := by
  obtain ⟨q, h1, cell, q1, q2, q3, -⟩ := (hZ.1.c a _ hw).2
  exact ⟨cell, q1, q3, by rw [q2]; exact (hZ.1.k.1 cj _ hc).2.1⟩
theorem x_cast (hC : z_C G p e s m meth c cc nL own) (hZ : z_Z G R s w H locs cells slots) {cj : Nat} {C : String} {T : u_T} {N : Nat} {ty : Nat → FieldType} (hc : z_cls G cj C T N ty) {r : Option Nat} {K : zR} (h : z_cast w cj r K = some res) {index : Nat} (hlink : Cond.classLink own index C ∈ G.2.2.2.2.1) (hd : decode cc pc = .ok (.checkcast index, 3))
    (kk : K = some res → W p l e R s m args below meth c H locs cells slots Q (F0 m (pc + 3) ls (va_rf r :: rest))) : W p l e R s m args below meth c H locs cells slots Q (F0 m pc ls (va_rf r :: rest)) := by
  unfold z_cast at h
  split at h
  · rename_i hr
    have hts := hZ.1.tb hC.2.2.2.2.2.2 args
    cases r with
    | none => exact lv_castN hC.1 hC.2.1 hd (kk h)
    | some a =>
      rcases hr with hr | hr
      · cases hr
      · obtain ⟨fs, hw⟩ := z_isO hr
        obtain ⟨cell, g1, g2, g3⟩ := z_recv hZ hc.1 hw
        exact va_castS hC.1 hC.2.1 hC.2.2.2.1 (hts _ hlink) (hZ.1.k.1 cj _ hc.1).2 ⟨cell, g1, by rw [g2]; rfl, g3⟩ hd (kk h)
  · cases h
/-- a reference into an array whose components take the class C -/
theorem x_stR (hC : z_C G p e s m meth c cc nL own) (hZ : z_Z G R s w H locs cells slots) {E : String} {cj : Nat} {C : String} {T : u_T} {N : Nat} {ty : Nat → FieldType} (hc : z_cls G cj C T N ty) {r : Option Nat} {i : Int32} {v : Option Nat} {K : zW → zR} (h : z_stR w (.object E) cj r i v K = some res) (hca : Cond.castable C E ∈ G.2.2.2.2.1 ∨ C = E) (hd : decode cc pc = .ok (.aastore, 1))
    (kk : ∀ (w : zW) (H : Heap) (locs : List Loc), z_Z G R s w H locs cells slots → K w = some res → W p l e R s m args below meth c H locs cells slots Q (F0 m (pc + 1) ls rest)) : W p l e R s m args below meth c H locs cells slots Q (F0 m pc ls (va_rf v :: .int i :: va_rf r :: rest)) := by
  unfold z_stR at h
  split at h
  · rename_i a n f ho
    split at h
    · rename_i hi
      obtain ⟨hi, hv⟩ := hi
      obtain ⟨rfl, hw⟩ := z_arr_spec ho
      have hts := hZ.1.tb hC.2.2.2.2.2.2 args
      obtain ⟨cell, kA, comp, h1, h2, h3, h4, h5, h6, h7, h8⟩ := (hZ.1.c a _ hw).2
      have hlt : i.toNatClampNeg < n := Nat.not_le.mp fun q => hi (Or.inr q)
      have h60 := h6
      have h6 : s.vm.findClass E = some comp := h60.1
      cases v with
      | none =>
        refine va_WaastN (C := E) hC.1 hC.2.1 h1 (z_isA h2 h4 h5) h3 (by rw [h7]; exact hi) rfl rfl hd fun H1 e1 e2 e3 => ?_
        refine kk _ _ _ (hZ.st (x1 := (n, .inr (.inr (.inr (.inr (va_up f i.toNatClampNeg none)))))) hw h2 h3 h4 h5 h60 h7 h8 e1 e2 e3 rfl hlt (fun q _ => ?_)) h
        simp only [z_xV, va_up]
        split <;> rfl
      | some b =>
        rcases hv with hv | hv
        · cases hv
        · obtain ⟨fs, hwb⟩ := z_isO hv
          obtain ⟨cv, g1, g2, g3⟩ := z_recv hZ hc.1 hwb
          obtain ⟨kE, hkE, -⟩ := Vm.findClass_spec h6
          obtain ⟨kC, hkC, -⟩ := Vm.findClass_spec g3
          have has : s.vm.assignable cv.cls comp = true := by
            rcases hca with hca | hca
            · obtain ⟨c0, t1, f1, f2, f3⟩ := Cond.castable_spec (hts _ hca)
              cases g3.symm.trans f1
              cases h6.symm.trans f2
              exact f3
            · subst hca
              cases g3.symm.trans h6
              exact va_asg _ _
          refine W.aast hC.1 hC.2.1 h1 h2 h3 h4 h5 rfl hkE ⟨fun q => hi (Or.inl q), by rw [h7]; exact hlt⟩ g1 (fun q hq => by rw [g2] at hq; cases hq) hkC has rfl rfl hd fun H1 e1 e2 e3 => ?_
          refine kk _ _ _ (hZ.st (x1 := (n, .inr (.inr (.inr (.inr (va_up f i.toNatClampNeg (some b))))))) hw h2 h3 h4 h5 h60 h7 h8 e1 e2 e3 rfl hlt (fun q _ => ?_)) h
          simp only [z_xV, va_up]
          split <;> rfl
    · cases h
  · cases h
/-- a static field that nobody writes -/
theorem x_gets (hC : z_C G p e s m meth c cc nL own) (hZ : z_Z G R s w H locs cells slots) {C n d : String} {v : Value} (hin : (C, n, d, v) ∈ G.2.2.2.2.2.1) {index : Nat} (hlink : Cond.fieldLink own index C n d ∈ G.2.2.2.2.1) (hd : decode cc pc = .ok (.getstatic index, 3)) (kk : W p l e R s m args below meth c H locs cells slots Q (F0 m (pc + 3) ls (v :: rest))) : W p l e R s m args below meth c H locs cells slots Q (F0 m pc ls rest) := by
  have hts := hZ.1.tb hC.2.2.2.2.2.2 args
  obtain ⟨cf, kf, fi, f, a, cell, h1, h2, h3, h4, h5, h6, h7, h8⟩ := (hZ.1.z _ hin).1
  exact W.gets hC.1 hC.2.1 hC.2.2.2.1 (hts _ hlink) h1 h2 h3 h4 (by rw [hZ.1.o a (Nat.not_le.mp h8)]; exact h5) (fun e0 => by rw [e0] at h6; cases h6) h7 rfl hd kk
theorem x_getsR (hC : z_C G p e s m meth c cc nL own) (hZ : z_Z G R s w H locs cells slots) {C n d : String} {X : Nat} (hin : (C, n, d, Value.ref X) ∈ G.2.2.2.2.2.1) {index : Nat} (hlink : Cond.fieldLink own index C n d ∈ G.2.2.2.2.1) (hd : decode cc pc = .ok (.getstatic index, 3)) (kk : W p l e R s m args below meth c H locs cells slots Q (F0 m (pc + 3) ls (va_rf (some X) :: rest))) : W p l e R s m args below meth c H locs cells slots Q (F0 m pc ls rest) := x_gets hC hZ hin hlink hd kk
/-- a constructor that is private to a nest mate -/
theorem z_goIN (hC : z_C G p e s m meth c cc nL own) (hZ : z_Z G R s w H locs cells slots) {y : MethodName} {bytes : ByteArray} {fr lo maxL : Nat} {r : Option Nat} {a : Nat} (ho : r = some a) {As : List Value} {r1 : zO × zW} (hM : z_Ct G l y (.code y bytes maxL none) fr lo (va_rf r :: As) w r1) {index : Nat} {host : String} (hlink : Cond.methodLinkNest own index y host ∈ G.2.2.2.2.1) (hinst : Cond.instanceMethod y ∈ G.2.2.2.2.1) (hini : Cond.initialized y.cls ∈ G.2.2.2.2.1) (hcode : Cond.code y bytes maxL none ∈ G.2.2.2.2.1) (hy1 : y.name = "<init>") (hy : y.cls ≠ "java/lang/invoke/MethodHandle" ∧ y.cls ≠ "java/lang/invoke/VarHandle" ∧ (parseMethodDescriptor y.desc).map (fun d => d.parameters.length) = some As.length)
    (hfr : fr + 1 ≤ R.frames) (hlo : 8 + (maxL + 11) + lo ≤ R.locals) (hsz : ls.size = nL) {st0 : List Value} (hst : st0 = As.reverse ++ va_rf r :: rest) (hW : (rest.map fun v => v.category).sum ≤ 8) (hd : decode cc pc = .ok (.invokespecial index, 3)) :
    ∀ T : State, T.heap = H → Stand p l e R s m args below meth c T locs cells slots → z_Goes G p l e R s m args below meth c (F0 m pc ls st0) rest r1 T := by
  intro T hT X
  subst hT
  subst ho
  have hts := hZ.1.tb hC.2.2.2.2.2.2 args
  have hpl : e.platform.magicAccessors = ({} : Platform).magicAccessors := by rw [X.admits.platform]
  have hlen : ∀ sig, parseMethodDescriptor y.desc = some sig → As.length = sig.parameters.length := fun sig h => by
    have h2 := hy.2.2
    rw [h] at h2
    exact (Option.some.inj h2).symm
  obtain ⟨mk, methM, cM, kP, vm₁, hnamed, hmethM, hcodeM, -, hlocalsM, -, hkP, -, hW₁, hstep₁⟩ := Steps.initColdArgsNest (e := e) X.here hC.1 X.warmed hpl hC.2.2.2.1 hy1 ⟨hy.1, hy.2.1⟩ (hts _ hlink) (hts _ hinst) (hts _ hcode) (f := F0 m pc ls st0) rfl hlen hst (by rw [hC.2.1]; exact hd)
  have X₁ := X.noted hW₁
  obtain ⟨T', locs', cells', slots', X', hZ', k1, k2⟩ := z_go hC.2.2.2.2.2.2 X₁ (w := w) (T := T.setVm vm₁) hZ hM z_hw_code hnamed hcode hini hfr hlo (g := { F0 m pc ls st0 with stack := rest }) rfl (by rw [hC.2.2.1]; exact hsz) (ig := .invokespecial index) (by rw [hC.2.1]; exact hd) (by show 2 * 0 + (rest.map fun v => v.category).sum ≤ 8; omega)
  exact ⟨T', locs', cells', slots', X', hZ', fun v hv target h => hstep₁ _ fun acts => by rw [doInvoke_state]; exact (k1 v hv).trans h, fun x hx target h => hstep₁ _ fun acts => by rw [doInvoke_state]; exact (k2 x hx).trans h⟩
end ZR7
