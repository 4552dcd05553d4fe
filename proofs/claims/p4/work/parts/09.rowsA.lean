/-- an array of references of that class -/
def z_isAr (w : zW) (ty : FieldType) (r : Option Nat) (K : zR) : zR := match z_arr w ty r with
  | some _ => K
  | none => none
/-- arraycopy between two arrays of references to that class; what is copied is null or an object of the class cj -/
def z_acp (w : zW) (E : String) (cj : Nat) (rs : Option Nat) (sp : Int32) (rd : Option Nat) (dp n : Int32) (K : zW → zR) : zR := match z_arr w (.object E) rs with
  | some (_, n0, .inr (.inr (.inr (.inr f)))) => match z_arr w (.object E) rd with
    | some (a, n1, .inr (.inr (.inr (.inr g)))) => if (¬ sp < 0 ∧ ¬ dp < 0 ∧ ¬ n < 0) ∧ sp.toNatClampNeg + n.toNatClampNeg ≤ n0 ∧ dp.toNatClampNeg + n.toNatClampNeg ≤ n1 ∧ 0 < n1 ∧ ∀ i, i < n.toNatClampNeg → f (sp.toNatClampNeg + i) = none ∨ (z_obj w cj (f (sp.toNatClampNeg + i))).isSome = true then K (z_set w a (.inl (.object E, n1, .inr (.inr (.inr (.inr (va_cpy f g sp.toNatClampNeg dp.toNatClampNeg n.toNatClampNeg))))))) else none
    | _ => none
  | _ => none
section ZR9
variable {p : Program} {l : Launch} {e : Env} {R : Room} {s : State} {m : MethodId} {args : Array Value} {below : List Frame} {meth : Method} {c : Code} {H : Heap} {locs : List Loc} {cells slots : Nat} {Q : State → Prop} {cc : ByteArray} {pc nL : Nat} {ls : Array Slot} {rest : List Value} {G : zG} {w : zW} {own : String} {res : zO × zW}
theorem x_ldcM (hC : z_C G p e s m meth c cc nL own) (hZ : z_Z G R s w H locs cells slots) {C : String} {M : Nat} (hm : (C, M) ∈ G.2.2.2.2.2.2) {index : Nat} (hlink : Cond.classLink own index C ∈ G.2.2.2.2.1) (hd : decode cc pc = .ok (.ldc index, 2)) (kk : W p l e R s m args below meth c H locs cells slots Q (F0 m (pc + 2) ls (va_rf (some M) :: rest))) : W p l e R s m args below meth c H locs cells slots Q (F0 m pc ls rest) :=
  va_ldcM hC.1 hC.2.1 hC.2.2.2.1 (hZ.1.tb hC.2.2.2.2.2.2 args _ hlink) (hZ.1.mi _ hm) hd kk
theorem x_getC (hC : z_C G p e s m meth c cc nL own) (hZ : z_Z G R s w H locs cells slots) {M : Nat} (hm : ("[Ljava/lang/Object;", M) ∈ G.2.2.2.2.2.2) {r : Option Nat} {K : zR} (h : z_isAr w (.object "java/lang/Object") r K = some res) {index : Nat} (hlink : Cond.methodLink own index ⟨"java/lang/Object", "getClass", "()Ljava/lang/Class;"⟩ ∈ G.2.2.2.2.1) (hdecl : Cond.declares ⟨"java/lang/Object", "getClass", "()Ljava/lang/Class;"⟩ ∈ G.2.2.2.2.1) (hsel : Cond.selects "[Ljava/lang/Object;" ⟨"java/lang/Object", "getClass", "()Ljava/lang/Class;"⟩ ⟨"java/lang/Object", "getClass", "()Ljava/lang/Class;"⟩ ∈ G.2.2.2.2.1) (hinst : Cond.instanceMethod ⟨"java/lang/Object", "getClass", "()Ljava/lang/Class;"⟩ ∈ G.2.2.2.2.1) (hnat : Cond.native ⟨"java/lang/Object", "getClass", "()Ljava/lang/Class;"⟩ ∈ G.2.2.2.2.1) (hsz : ls.size = nL) (hfr : 1 ≤ R.frames) (hlo : (rest.map fun v => v.category).sum + 14 ≤ R.locals) (hd : decode cc pc = .ok (.invokevirtual index, 3)) (kk : K = some res → W p l e R s m args below meth c H locs cells slots Q (F0 m (pc + 3) ls (va_rf (some M) :: rest))) : W p l e R s m args below meth c H locs cells slots Q (F0 m pc ls (va_rf r :: rest)) := by
  unfold z_isAr at h
  split at h
  · rename_i q hq
    obtain ⟨rfl, hw⟩ := z_arr_spec (a := q.1) (x := q.2) hq
    have hts := hZ.1.tb hC.2.2.2.2.2.2 args
    obtain ⟨cell, kA, comp, h1, h2, h3, h4, h5, h6, h7, h8⟩ := (hZ.1.c q.1 _ hw).2
    exact va_getC hC.1 hC.2.1 (hC.2.2.1.trans hsz.symm) hC.2.2.2.1 (hts _ hlink) (hts _ hdecl) (hts _ hsel) (hts _ hinst) (hts _ hnat) (hZ.1.mi _ hm) ⟨cell, h1, by cases hv : cell.vm with | statics k => exact absurd hv (h2 k) | _ => rfl, h6.2⟩ hfr hlo hd (kk h)
  · cases h
theorem x_acp (hC : z_C G p e s m meth c cc nL own) (hZ : z_Z G R s w H locs cells slots) {E : String} {cj : Nat} {C : String} {T : u_T} {N : Nat} {ty : Nat → FieldType} (hc : z_cls G cj C T N ty) {rs rd : Option Nat} {sp dp n : Int32} {K : zW → zR} (h : z_acp w E cj rs sp rd dp n K = some res) (hca : Cond.castable C E ∈ G.2.2.2.2.1 ∨ C = E) {index : Nat} (hlink : Cond.methodLink own index arraycopyName ∈ G.2.2.2.2.1) (hnat : Cond.native arraycopyName ∈ G.2.2.2.2.1) (hstat : Cond.static arraycopyName ∈ G.2.2.2.2.1) (hini : Cond.initialized "java/lang/System" ∈ G.2.2.2.2.1) (hsz : ls.size = nL) (hfr : 1 ≤ R.frames) (hlo : (rest.map fun v => v.category).sum + (nativeFrameWords "java/lang/System" "arraycopy" 5 + 11) ≤ R.locals) (hd : decode cc pc = .ok (.invokestatic index, 3))
    (kk : ∀ (w : zW) (H : Heap) (locs : List Loc), z_Z G R s w H locs cells slots → K w = some res → W p l e R s m args below meth c H locs cells slots Q (F0 m (pc + 3) ls rest)) : W p l e R s m args below meth c H locs cells slots Q (F0 m pc ls (.int n :: .int dp :: va_rf rd :: .int sp :: va_rf rs :: rest)) := by
  unfold z_acp at h
  split at h
  · rename_i a0 n0 f ho0
    split at h
    · rename_i a n1 g ho
      split at h
      · rename_i hi
        obtain ⟨⟨h1, h2, h3⟩, h4, h5, hn1, hel⟩ := hi
        obtain ⟨rfl, hw0⟩ := z_arr_spec ho0
        obtain ⟨rfl, hw⟩ := z_arr_spec ho
        have hts := hZ.1.tb hC.2.2.2.2.2.2 args
        obtain ⟨cs, k0, cm0, s1, s2, s3, s4, s5, s6, s7, s8⟩ := (hZ.1.c a0 _ hw0).2
        obtain ⟨cd, k1, cm1, d1, d2, d3, d4, d5, d6, d7, d8⟩ := (hZ.1.c a _ hw).2
        have s7 : cs.slots.size = n0 := s7
        have d7 : cd.slots.size = n1 := d7
        have d6 : s.vm.findClass E = some cm1 ∧ _ := d6
        have hb := z_base hZ hw (j := 0) hn1
        have nn : ∀ z : Int32, ¬ z < 0 → z.toInt = (z.toNatClampNeg : Int) := by
          intro z hz
          have hz0 : (0 : Int) ≤ z.toInt := by
            have := Int32.not_lt.mp hz
            simpa using Int32.le_iff_toInt_le.mp this
          show z.toInt = ((z.toInt.toNat : Nat) : Int)
          omega
        have hget : ∀ i, i < n.toNatClampNeg → cs.slots.getD (sp.toNatClampNeg + i) .null = va_rf (f (sp.toNatClampNeg + i)) := fun i hi => by
          rw [Array.getD_eq_getD_getElem?, s8 _ (by show _ < n0; omega)]
          rfl
        intro T hT X
        subst hT
        obtain ⟨vm1, X1, step⟩ := X.arraycopy hC.1 hC.2.2.2.1 (hts _ hlink) (hts _ hnat) (hts _ hstat) (hts _ hini) (src := a0) (dst := a) (cs := cs) (cd := cd) (srcPos := sp) (destPos := dp) (n := n) s1 d1 s2 d2 s3 d3 s4 d4 s5 d5 rfl h1 h2 h3
          (by rw [nn sp h1, nn n h3, s7]; omega) (by rw [nn dp h2, nn n h3, d7]; omega)
          (fun vm1 hal i hi => by
            rw [hget i hi]
            rcases hel i hi with hy | hy
            · rw [hy]; exact ⟨rfl, trivial⟩
            · cases hf : f (sp.toNatClampNeg + i) with
              | none => exact ⟨rfl, trivial⟩
              | some y =>
                rw [hf] at hy
                obtain ⟨fs, hwb⟩ := z_isO hy
                obtain ⟨cv, g1, g2, g3⟩ := z_recv hZ hc.1 hwb
                obtain ⟨kE, hkE, -⟩ := Vm.findClass_spec d6.1
                obtain ⟨kC, hkC, -⟩ := Vm.findClass_spec g3
                obtain ⟨kE', hkE', -⟩ := hal.2.2 _ _ hkE
                obtain ⟨kC', hkC', -⟩ := hal.2.2 _ _ hkC
                have has : s.vm.assignable cv.cls cm1 = true := by
                  rcases hca with hca | hca
                  · obtain ⟨c0, t1, f1, f2, f3⟩ := Cond.castable_spec (hts _ hca)
                    cases g3.symm.trans f1
                    cases d6.1.symm.trans f2
                    exact f3
                  · subst hca
                    cases g3.symm.trans d6.1
                    exact va_asg _ _
                exact ⟨rfl, cv, g1, (fun q hq => by rw [g2] at hq; cases hq), ⟨kC', hkC'⟩, ⟨kE', hkE'⟩, by show vm1.assignable _ _ = true; rw [hal.assignable]; exact has⟩)
          (g := F0 m pc ls (.int n :: .int dp :: va_rf (some a) :: .int sp :: va_rf (some a0) :: rest)) rfl (by rw [hC.2.2.1]; exact hsz) (rest := rest) rfl (by rw [hC.2.1]; exact hd) hfr (by show 2 * 0 + _ + _ ≤ _; omega)
        have hlt : a < T.heap.size := (Array.getElem?_eq_some_iff.mp d1).1
        have hcp : copied cs cd sp dp n = cd.storeRun dp.toNatClampNeg (cs.stretch sp.toNatClampNeg n.toNatClampNeg) := rfl
        obtain ⟨f1, f2, f3, -, -⟩ := Cell.storeRun_facts cd dp.toNatClampNeg (cs.stretch sp.toNatClampNeg n.toNatClampNeg)
        rw [← hcp] at f1 f2 f3
        have hZ1 : z_Z G R s (z_set w a (.inl (.object E, n1, .inr (.inr (.inr (.inr (va_cpy f g sp.toNatClampNeg dp.toNatClampNeg n.toNatClampNeg))))))) ((T.setVm vm1).setCell a (copied cs cd sp dp n)).heap (locs ++ ((cs.stretch sp.toNatClampNeg n.toNatClampNeg).zipIdx.map fun q => (⟨a, dp.toNatClampNeg + q.2⟩ : Loc))) cells slots := by
          refine ⟨hZ.1.set hw hb ⟨copied cs cd sp dp n, k1, cm1, State.heap_setCell_self (s := T.setVm vm1) d1, by rw [f2]; exact d2, by rw [f2]; exact d3, by rw [f1]; exact d4, d5, by rw [f1]; exact d6, by rw [f3]; exact d7, fun j hj => ?_⟩ ?_ ?_, fun q hq => ?_, hZ.2.2⟩
          · have hj : j < n1 := hj
            rw [hcp, Cell.storeRun_get _ _ _ _ (by rw [Cell.stretch_length, d7]; exact h5), Cell.stretch_length]
            simp only [z_xV, va_cpy]
            by_cases hq : dp.toNatClampNeg ≤ j ∧ j < dp.toNatClampNeg + n.toNatClampNeg
            · rw [if_pos hq, if_pos hq]
              have e1 := hget (j - dp.toNatClampNeg) (by omega)
              rw [Array.getD_eq_getD_getElem?] at e1
              simp [Cell.stretch, show j - dp.toNatClampNeg < n.toNatClampNeg from by omega, e1]
            · rw [if_neg hq, if_neg hq]
              exact d8 j hj
          · show (T.heap.setIfInBounds a _).size = _
            simp
          · intro q hq
            show (T.heap.setIfInBounds a _)[q]? = _
            simp [Array.getElem?_setIfInBounds, Ne.symm hq]
          · rcases List.mem_append.mp hq with q1 | q1
            · exact hZ.2.1 _ q1
            · obtain ⟨z, -, hz⟩ := List.mem_map.mp q1
              rw [← hz]; exact hb
        obtain ⟨t, a1, b1⟩ := kk _ _ _ hZ1 h _ rfl X1
        exact ⟨t, step t a1, b1⟩
      · cases h
    · cases h
  · cases h
end ZR9
