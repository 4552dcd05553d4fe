section ZR6
variable {p : Program} {l : Launch} {e : Env} {R : Room} {s : State} {m : MethodId} {args : Array Value} {below : List Frame} {meth : Method} {c : Code} {H : Heap} {locs : List Loc} {cells slots : Nat} {Q : State → Prop} {cc : ByteArray} {pc nL : Nat} {ls : Array Slot} {rest : List Value} {G : zG} {w : zW} {own : String} {res : zO × zW}
theorem z_Z.newa {ty : FieldType} {x : vp_A} {cA : ClassId} {kA : Class} {comp : ClassId} {H1 : Heap} {v : Value} (hZ : z_Z G R s w H locs cells slots) (h1 : 1 ≤ w.2.1) (h2 : x.1 ≤ w.2.2.1) (e1 : H1[w.1]? = some { cls := cA, slots := Array.replicate x.1 v, vm := .none }) (hz : H1.size = H.size + 1) (o1 : ∀ q, q < H.size → H1[q]? = H[q]?) (f2 : s.vm.classes[cA]? = some kA) (f3 : kA.kind = .array comp ty) (f4 : z_cmp s ty comp cA) (hv : ∀ j, j < x.1 → z_xV x j = v) : z_Z G R s (z_push w x.1 (.inl (ty, x))) H1 locs (cells + 1) (slots + x.1) := by
  have h3 := hZ.2.2.1
  have h4 := hZ.2.2.2
  refine ⟨hZ.1.push (n := x.1) (e := .inl (ty, x)) ⟨_, kA, comp, e1, fun k h => (by cases h), fun h => (by cases h), f2, f3, f4, by simp, fun j hj => ?_⟩ hz o1, hZ.2.1, ?_, ?_⟩
  · rw [hv j hj]
    simp [hj]
  · show cells + 1 + (w.2.1 - 1) = R.cells
    omega
  · show slots + x.1 + (w.2.2.1 - x.1) = R.slots
    omega
theorem x_newaX {ty : FieldType} {atype : ArrayType} (hty : newarray.typeOf atype = ty) (hcmp : ∀ comp cA, z_cmp s ty comp cA) (hC : z_C G p e s m meth c cc nL own) (hZ : z_Z G R s w H locs cells slots) {n : Int32} {x : Nat → vp_A} (hx : ∀ k, (x k).1 = k ∧ ∀ j, z_xV (x k) j = defaultValue ty) (hby : ∀ k, k ≤ 65536 → k * componentBytes ty ≤ 536870912) {K : Nat → zW → zR} (h : z_newa w ty n x K = some res) (harr : Cond.arrayClass ty ∈ G.2.2.2.2.1) (hd : decode cc pc = .ok (.newarray atype, 2))
    (kk : ∀ (a : Nat) (w : zW) (H : Heap) (cells slots : Nat), z_Z G R s w H locs cells slots → K a w = some res → W p l e R s m args below meth c H locs cells slots Q (F0 m (pc + 2) ls (va_rf (some a) :: rest))) : W p l e R s m args below meth c H locs cells slots Q (F0 m pc ls (.int n :: rest)) := by
  subst hty
  unfold z_newa at h
  split at h
  · rename_i hr
    have hts := hZ.1.tb hC.2.2.2.2.2.2 args
    have h3 := hZ.2.2.1
    have h4 := hZ.2.2.2
    have hn := (hx n.toNatClampNeg).1
    refine W.newa hC.1 hC.2.1 (hts _ harr) rfl hd rfl hr.1 (hby _ hr.2.1) (by omega) (by omega) fun cA kA comp f1 f2 f3 => ?_
    rw [hZ.1.n]
    have key := hZ.newa (ty := newarray.typeOf atype) (x := x n.toNatClampNeg) (cA := cA) (v := defaultValue (newarray.typeOf atype)) (H1 := H.push { cls := cA, slots := Array.replicate n.toNatClampNeg (defaultValue (newarray.typeOf atype)), vm := .none }) hr.2.2.1 (by rw [hn]; exact hr.2.2.2) (by rw [← hZ.1.n, hn, Array.getElem?_push_size]) (by simp) (fun q hq => by rw [Array.getElem?_push, if_neg (Nat.ne_of_lt hq)]) f2 f3 (hcmp comp _) (fun j _ => (hx n.toNatClampNeg).2 j)
    rw [hn] at key
    exact kk w.1 _ _ _ _ key h
  · cases h
theorem x_newaI (hC : z_C G p e s m meth c cc nL own) (hZ : z_Z G R s w H locs cells slots) {n : Int32} {K : Nat → zW → zR} (h : z_newa w .int n (fun n => (n, .inl fun _ => 0)) K = some res) (harr : Cond.arrayClass .int ∈ G.2.2.2.2.1) (hd : decode cc pc = .ok (.newarray .int, 2))
    (kk : ∀ (a : Nat) (w : zW) (H : Heap) (cells slots : Nat), z_Z G R s w H locs cells slots → K a w = some res → W p l e R s m args below meth c H locs cells slots Q (F0 m (pc + 2) ls (va_rf (some a) :: rest))) : W p l e R s m args below meth c H locs cells slots Q (F0 m pc ls (.int n :: rest)) :=
  x_newaX (ty := .int) (atype := .int) (x := fun n => (n, .inl fun _ => 0)) rfl (fun _ _ => trivial) hC hZ (fun _ => ⟨rfl, fun _ => rfl⟩) (fun k hk => by show k * 4 ≤ _; omega) h harr hd kk
theorem x_newaZ (hC : z_C G p e s m meth c cc nL own) (hZ : z_Z G R s w H locs cells slots) {n : Int32} {K : Nat → zW → zR} (h : z_newa w .boolean n (fun n => (n, .inl fun _ => 0)) K = some res) (harr : Cond.arrayClass .boolean ∈ G.2.2.2.2.1) (hd : decode cc pc = .ok (.newarray .boolean, 2))
    (kk : ∀ (a : Nat) (w : zW) (H : Heap) (cells slots : Nat), z_Z G R s w H locs cells slots → K a w = some res → W p l e R s m args below meth c H locs cells slots Q (F0 m (pc + 2) ls (va_rf (some a) :: rest))) : W p l e R s m args below meth c H locs cells slots Q (F0 m pc ls (.int n :: rest)) :=
  x_newaX (ty := .boolean) (atype := .boolean) (x := fun n => (n, .inl fun _ => 0)) rfl (fun _ _ => trivial) hC hZ (fun _ => ⟨rfl, fun _ => rfl⟩) (fun k hk => by show k * 1 ≤ _; omega) h harr hd kk
theorem x_newaJ (hC : z_C G p e s m meth c cc nL own) (hZ : z_Z G R s w H locs cells slots) {n : Int32} {K : Nat → zW → zR} (h : z_newa w .long n (fun n => (n, .inr (.inl fun _ => 0))) K = some res) (harr : Cond.arrayClass .long ∈ G.2.2.2.2.1) (hd : decode cc pc = .ok (.newarray .long, 2))
    (kk : ∀ (a : Nat) (w : zW) (H : Heap) (cells slots : Nat), z_Z G R s w H locs cells slots → K a w = some res → W p l e R s m args below meth c H locs cells slots Q (F0 m (pc + 2) ls (va_rf (some a) :: rest))) : W p l e R s m args below meth c H locs cells slots Q (F0 m pc ls (.int n :: rest)) :=
  x_newaX (ty := .long) (atype := .long) (x := fun n => (n, .inr (.inl fun _ => 0))) rfl (fun _ _ => trivial) hC hZ (fun _ => ⟨rfl, fun _ => rfl⟩) (fun k hk => by show k * 8 ≤ _; omega) h harr hd kk
theorem x_anew (hC : z_C G p e s m meth c cc nL own) (hZ : z_Z G R s w H locs cells slots) {C : String} {n : Int32} {K : Nat → zW → zR} (h : z_newa w (.object C) n (fun n => (n, .inr (.inr (.inr (.inr fun _ => none))))) K = some res) {index : Nat} (hcl : Cond.classLink own index C ∈ G.2.2.2.2.1) (hov : Cond.arrayOver (.object C) ∈ G.2.2.2.2.1) (hd : decode cc pc = .ok (.anewarray index, 3))
    (kk : ∀ (a : Nat) (w : zW) (H : Heap) (cells slots : Nat), z_Z G R s w H locs cells slots → K a w = some res → W p l e R s m args below meth c H locs cells slots Q (F0 m (pc + 3) ls (va_rf (some a) :: rest))) : W p l e R s m args below meth c H locs cells slots Q (F0 m pc ls (.int n :: rest)) := by
  unfold z_newa at h
  split at h
  · rename_i hr
    have hts := hZ.1.tb hC.2.2.2.2.2.2 args
    have h3 := hZ.2.2.1
    have h4 := hZ.2.2.2
    refine W.anew hC.1 hC.2.1 hC.2.2.2.1 (hts _ hcl) (hts _ hov) rfl hd rfl hr.1 (by omega) (by omega) (by omega) fun cA kA comp f1 f2 f3 f4 => ?_
    rw [hZ.1.n]
    exact kk w.1 _ _ _ _ (hZ.newa (ty := .object C) (x := (n.toNatClampNeg, .inr (.inr (.inr (.inr fun _ => none))))) (cA := cA) (v := .null) (H1 := H.push { cls := cA, slots := Array.replicate n.toNatClampNeg .null, vm := .none }) hr.2.2.1 hr.2.2.2 (by rw [← hZ.1.n, Array.getElem?_push_size]) (by simp) (fun q hq => by rw [Array.getElem?_push, if_neg (Nat.ne_of_lt hq)]) f2 f3 ⟨f4, f1⟩ (fun _ _ => rfl)) h
  · cases h
theorem x_null (hC : z_C G p e s m meth c cc nL own) (hd : decode cc pc = .ok (.aconst_null, 1)) (kk : W p l e R s m args below meth c H locs cells slots Q (F0 m (pc + 1) ls (va_rf none :: rest))) : W p l e R s m args below meth c H locs cells slots Q (F0 m pc ls rest) := lv_null hC.1 hC.2.1 hd kk
end ZR6
