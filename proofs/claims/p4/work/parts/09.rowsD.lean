/-- the script: a cell of the old heap that nobody writes -/
def z_scr (xs : Nat → Int32) (L : Nat) (i : Int32) (K : Int32 → zR) : zR := if ¬ (i < 0 ∨ L ≤ i.toNatClampNeg) then K (xs i.toNatClampNeg) else none
def z_scl (L : Nat) (K : Int32 → zR) : zR := K (Int32.ofNat L)
theorem z_no0 {w w' : zW} (h : (some ((.inl (some (.int (0 : Int32))) : zO), w) : zR) = some (.inl (some (.int (1 : Int32))), w')) : False := by
  injection h with h
  injection h with h _
  injection h with h
  injection h with h
  injection h with h
  exact absurd h (by decide)
section ZR12
variable {p : Program} {l : Launch} {e : Env} {R : Room} {s : State} {m : MethodId} {args : Array Value} {below : List Frame} {meth : Method} {c : Code} {H : Heap} {locs : List Loc} {cells slots : Nat} {Q : State → Prop} {cc : ByteArray} {pc nL : Nat} {ls : Array Slot} {rest : List Value} {G : zG} {w : zW} {own : String} {res : zO × zW}
/-- a call out of which no exception may come, by what is known of the end -/
theorem x_goesN {r1 : zO × zW} {P : Option Value → Prop} {st0 : List Value} {v1 : Option Value} {wE : zW} (ha : z_ans r1 (.inl v1, wE) P)
    (hg : ∀ T : State, T.heap = H → Stand p l e R s m args below meth c T locs cells slots → z_Goes G p l e R s m args below meth c (F0 m pc ls st0) rest r1 T)
    (kk : ∀ (v : Option Value), P v → ∀ (H : Heap) (locs : List Loc) (cells slots : Nat), z_Z G R s r1.2 H locs cells slots → W p l e R s m args below meth c H locs cells slots Q (F0 m (pc + 3) ls (v.toList ++ rest))) : W p l e R s m args below meth c H locs cells slots Q (F0 m pc ls st0) := by
  intro T hT X
  obtain ⟨T', locs', cells', slots', X', hZ', k1, k2⟩ := hg T hT X
  rcases ha with ⟨v, hv, hP⟩ | ⟨x, hx1, hres⟩
  · obtain ⟨t, a1, b1⟩ := kk v hP _ _ _ _ hZ' T' rfl X'
    exact ⟨t, k1 v hv t a1, b1⟩
  · cases hres
theorem z_goSW (hC : z_C G p e s m meth c cc nL own) (hZ : z_Z G R s w H locs cells slots) {y : MethodName} {bytes : ByteArray} {ret : Option FieldType} {hh : List (Nat × Nat × Nat × Nat)} {fr lo maxL : Nat} {As : List Value} {r1 : zO × zW} (hM : z_Ct G l y (.codeWith y bytes maxL ret hh) fr lo As w r1) {index : Nat} (hlink : Cond.methodLink own index y ∈ G.2.2.2.2.1) (hstat : Cond.static y ∈ G.2.2.2.2.1) (hini : Cond.initialized y.cls ∈ G.2.2.2.2.1) (hcode : Cond.codeWith y bytes maxL ret hh ∈ G.2.2.2.2.1) (hy : y.cls ≠ "java/lang/invoke/MethodHandle" ∧ y.cls ≠ "java/lang/invoke/VarHandle" ∧ (parseMethodDescriptor y.desc).map (fun d => d.parameters.length) = some As.length)
    (hfr : fr + 1 ≤ R.frames) (hlo : 8 + (maxL + 11) + lo ≤ R.locals) (hsz : ls.size = nL) {st0 : List Value} (hst : st0 = As.reverse ++ rest) (hW : (rest.map fun v => v.category).sum ≤ 8) (hd : decode cc pc = .ok (.invokestatic index, 3)) :
    ∀ T : State, T.heap = H → Stand p l e R s m args below meth c T locs cells slots → z_Goes G p l e R s m args below meth c (F0 m pc ls st0) rest r1 T := by
  intro T hT X
  subst hT
  have hts := hZ.1.tb hC.2.2.2.2.2.2 args
  obtain ⟨mk, methM, cM, hnamed, hmethM, -, -, -, -, -, -, hsigM⟩ := Cond.codeWith_spec (hts _ hcode)
  have hstatic : methM.isStatic = true := Cond.static_spec hnamed hmethM (hts _ hstat)
  obtain ⟨kP, hkP, -⟩ := className_of_methodNamed hnamed
  have hinitP : kP.init = .initialized := Cond.initialized_spec (findClass_of_methodNamed hnamed) hkP (hts _ hini)
  have hlen : As.length = methM.sig.parameters.length := by
    have h2 := hy.2.2
    rw [hsigM] at h2
    exact (Option.some.inj h2).symm
  obtain ⟨vm₁, X₁, hstep₁⟩ := X.invokestatic hC.1 hC.2.2.2.1 (hts _ hlink) hnamed hmethM hstatic hkP hinitP ⟨hy.1, hy.2.1⟩ (g := F0 m pc ls st0) rfl (argsL := As) (rest := rest) hlen hst (by rw [hC.2.1]; exact hd)
  obtain ⟨T', locs', cells', slots', X', hZ', k1, k2⟩ := z_go hC.2.2.2.2.2.2 X₁ (w := w) (T := T.setVm vm₁) hZ hM z_hw_codeW hnamed hcode hini hfr hlo (g := { F0 m pc ls st0 with stack := rest }) rfl (by rw [hC.2.2.1]; exact hsz) (ig := .invokestatic index) (by rw [hC.2.1]; exact hd) (by show 2 * 0 + (rest.map fun v => v.category).sum ≤ 8; omega)
  exact ⟨T', locs', cells', slots', X', hZ', fun v hv target h => hstep₁ _ fun acts => by rw [doInvoke_state]; exact (k1 v hv).trans h, fun x hx target h => hstep₁ _ fun acts => by rw [doInvoke_state]; exact (k2 x hx).trans h⟩
theorem x_scr (hC : z_C G p e s m meth c cc nL own) (hZ : z_Z G R s w H locs cells slots) {bS L : Nat} {xs : Nat → Int32} (hX : va_X bS L xs s G.2.1 ∧ bS < G.1) {i : Int32} {K : Int32 → zR} (h : z_scr xs L i K = some res) (hd : decode cc pc = .ok (.iaload, 1)) (kk : ∀ x : Int32, K x = some res → W p l e R s m args below meth c H locs cells slots Q (F0 m (pc + 1) ls (.int x :: rest))) : W p l e R s m args below meth c H locs cells slots Q (F0 m pc ls (.int i :: va_rf (some bS) :: rest)) := by
  unfold z_scr at h
  split at h
  · rename_i hi
    obtain ⟨⟨scr, h1, h2, h3, h4, h5⟩, hb⟩ := hX
    have h1 : H[bS]? = some scr := (hZ.1.o bS hb).trans h1
    exact W.iald hC.1 hC.2.1 h1 h2 h3 (by rw [h4]; exact hi) (h5 _ (Nat.not_le.mp fun q => hi (Or.inr q))) rfl rfl hd (kk _ h)
  · cases h
theorem x_scl (hC : z_C G p e s m meth c cc nL own) (hZ : z_Z G R s w H locs cells slots) {bS L : Nat} {xs : Nat → Int32} (hX : va_X bS L xs s G.2.1 ∧ bS < G.1) {K : Int32 → zR} (h : z_scl L K = some res) (hd : decode cc pc = .ok (.arraylength, 1)) (kk : ∀ x : Int32, K x = some res → W p l e R s m args below meth c H locs cells slots Q (F0 m (pc + 1) ls (.int x :: rest))) : W p l e R s m args below meth c H locs cells slots Q (F0 m pc ls (va_rf (some bS) :: rest)) := by
  obtain ⟨⟨scr, h1, h2, h3, h4, h5⟩, hb⟩ := hX
  have h1 : H[bS]? = some scr := (hZ.1.o bS hb).trans h1
  exact W.alen hC.1 hC.2.1 h1 h2 (n := Int32.ofNat L) (by rw [h4]) rfl rfl hd (kk _ h)
end ZR12
