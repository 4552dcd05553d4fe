section
/-! My layer. A WORLD: the heap's size, the cells and slots that may still be made, and a partial picture of the heap by addresses. Programs over worlds: a value of zR. -/
abbrev zOb : Type := (FieldType × vp_A) ⊕ (Nat × List Value)
abbrev zW : Type := Nat × Nat × Nat × (Nat → Option zOb)
abbrev zO : Type := Option Value ⊕ Nat
abbrev zR : Type := Option (zO × zW)
abbrev zG : Type := Nat × Heap × va_G × List vw_C × List Cond × List (String × String × String × Value)
def z_xV (x : vp_A) (j : Nat) : Value := match x.2 with
  | .inl f => .int (f j)
  | .inr (.inl f) => .long (f j)
  | .inr (.inr (.inl f)) => .float (f j)
  | .inr (.inr (.inr (.inl f))) => .double (f j)
  | .inr (.inr (.inr (.inr f))) => va_rf (f j)
/-- the class of an array's components, where they are references -/
def z_cmp (U : State) (ty : FieldType) (comp : ClassId) : Prop := match ty with
  | .object C => U.vm.findClass C = some comp
  | .array t => U.vm.findClass (FieldType.array t).toString = some comp
  | _ => True
def z_oA (U : State) (H : Heap) (a : Nat) (ty : FieldType) (x : vp_A) : Prop :=
  ∃ (cell : Cell) (kA : Class) (comp : ClassId), H[a]? = some cell ∧ (∀ k, cell.vm ≠ .statics k) ∧ cell.vm ≠ .unknown ∧ U.vm.classes[cell.cls]? = some kA ∧ kA.kind = .array comp ty ∧ z_cmp U ty comp ∧ cell.slots.size = x.1 ∧ ∀ j, j < x.1 → cell.slots[j]? = some (z_xV x j)
def z_oO (D : va_G) (cl : List vw_C) (H : Heap) (a : Nat) (o : Nat × List Value) : Prop :=
  ∃ r : vw_C, cl[o.1]? = some r ∧ t_OB a (D.1 o.1) r.2.2 (D.2 o.1) H (vp_V o.2)
def z_at (G : zG) (U : State) (H : Heap) (a : Nat) (e : zOb) : Prop := match e with
  | .inl q => z_oA U H a q.1 q.2
  | .inr o => z_oO G.2.2.1 G.2.2.2.1 H a o
/-- what 'laysStatic' says, of a cell below b -/
def z_LS (C n d : String) (b : Nat) (U : State) (H0 : Heap) : Prop := ∃ (c : ClassId) (k : Class) (i : Nat) (f : Field) (a : Nat) (cell : Cell), U.vm.findClass C = some c ∧ U.fieldFound? C n d = some (c, k, i, f) ∧ f.isStatic = true ∧ k.statics = some a ∧ H0[a]? = some cell ∧ cell.vm.isStatics = true ∧ cell.cls = c ∧ f.slot < cell.slots.size ∧ k.staticTypes[f.slot]? = some f.type ∧ a < b
theorem z_LS.moved {C n d : String} {b : Nat} {u U : State} {H0 : Heap} (hvm : u.vm.Alike U.vm) (h : z_LS C n d b u H0) : z_LS C n d b U H0 := by
  obtain ⟨c, k, i, f, a, cell, h1, h2, h3, h4, h5, h6, h7, h8, h9, h10⟩ := h
  obtain ⟨k', hi', hek⟩ := State.fieldFound?_setVm hvm h2
  exact ⟨c, k', i, f, a, cell, by rw [hvm.findClass]; exact h1, hi', h3, by rw [hek]; exact h4, h5, h6, h7, h8, by rw [hek]; exact h9, h10⟩
def z_P (G : zG) (U : State) (w : zW) (H : Heap) : Prop :=
  va_K G.2.2.1 G.2.2.2.1 [] U ∧ (∀ x ∈ G.2.2.2.2.1, x.before #[] U = true) ∧ (∀ z ∈ G.2.2.2.2.2, va_Z z.1 z.2.1 z.2.2.1 z.2.2.2 (fun q => G.1 ≤ q) U G.2.1 ∧ z_LS z.1 z.2.1 z.2.2.1 G.1 U G.2.1) ∧ H.size = w.1 ∧ G.1 ≤ w.1 ∧ (∀ q : Nat, q < G.1 → H[q]? = G.2.1[q]?) ∧
    ∀ (a : Nat) (e : zOb), w.2.2.2 a = some e → (G.1 ≤ a ∨ ∃ (ty : FieldType) (x : vp_A), e = .inl (ty, x) ∧ x.1 = 0) ∧ z_at G U H a e
theorem z_P.k {G : zG} {U : State} {w : zW} {H : Heap} (h : z_P G U w H) : va_K G.2.2.1 G.2.2.2.1 [] U := h.1
theorem z_P.t {G : zG} {U : State} {w : zW} {H : Heap} (h : z_P G U w H) : ∀ x ∈ G.2.2.2.2.1, x.before #[] U = true := h.2.1
theorem z_P.z {G : zG} {U : State} {w : zW} {H : Heap} (h : z_P G U w H) : ∀ z ∈ G.2.2.2.2.2, va_Z z.1 z.2.1 z.2.2.1 z.2.2.2 (fun q => G.1 ≤ q) U G.2.1 ∧ z_LS z.1 z.2.1 z.2.2.1 G.1 U G.2.1 := h.2.2.1
theorem z_P.n {G : zG} {U : State} {w : zW} {H : Heap} (h : z_P G U w H) : H.size = w.1 := h.2.2.2.1
theorem z_P.b {G : zG} {U : State} {w : zW} {H : Heap} (h : z_P G U w H) : G.1 ≤ w.1 := h.2.2.2.2.1
theorem z_P.o {G : zG} {U : State} {w : zW} {H : Heap} (h : z_P G U w H) : ∀ q : Nat, q < G.1 → H[q]? = G.2.1[q]? := h.2.2.2.2.2.1
theorem z_P.c {G : zG} {U : State} {w : zW} {H : Heap} (h : z_P G U w H) : ∀ (a : Nat) (e : zOb), w.2.2.2 a = some e → (G.1 ≤ a ∨ ∃ (ty : FieldType) (x : vp_A), e = .inl (ty, x) ∧ x.1 = 0) ∧ z_at G U H a e := h.2.2.2.2.2.2
/-- a word that holds of warmer tables too, whatever the arguments -/
def z_ok (x : Cond) : Prop := ∀ (a a' : Array Value) (s U : State), s.WarmedH U.vm → x.before a s = true → x.before a' U = true
def z_TB (G : zG) : Prop := ∀ x ∈ G.2.2.2.2.1, z_ok x
theorem z_ok_good {x : Cond} (h : goodWord x = true) : z_ok x := fun _ _ _ _ hW hb => word_at hW (good_of_word h) hb
theorem z_ok_cast {C T : String} : z_ok (.castable C T) := fun _ _ _ _ hW hb => va_Nw.use rfl (va_Nw.warmC hW (va_Nw.of rfl hb))
theorem z_ok_fln {a : String} {i : Nat} {b n d h : String} : z_ok (.fieldLinkNest a i b n d h) := fun _ _ _ _ hW hb => va_Nw.use rfl (va_Nw.warmF hW (va_Nw.of rfl hb))
theorem z_ok_mln {a : String} {i : Nat} {x : MethodName} {h : String} : z_ok (.methodLinkNest a i x h) := fun _ _ _ _ hW hb => va_Nw.use rfl (va_Nw.warmM hW (va_Nw.of rfl hb))
theorem z_cmp.moved {u U : State} (hvm : u.vm.Alike U.vm) {ty : FieldType} {comp : ClassId} (h : z_cmp u ty comp) : z_cmp U ty comp := by
  cases ty <;> first | exact trivial | (show U.vm.findClass _ = some comp; rw [hvm.findClass]; exact h)
theorem z_oA.moved {u U : State} (hvm : u.vm.Alike U.vm) {H : Heap} {a : Nat} {ty : FieldType} {x : vp_A} (h : z_oA u H a ty x) : z_oA U H a ty x := by
  obtain ⟨cell, kA, comp, h1, h2, h3, h4, h5, h6, h7, h8⟩ := h
  obtain ⟨k', hk', he⟩ := hvm.2.2 _ _ h4
  exact ⟨cell, k', comp, h1, h2, h3, hk', by rw [he]; exact h5, h6.moved hvm, h7, h8⟩
theorem z_at.moved {G : zG} {u U : State} (hvm : u.vm.Alike U.vm) {H : Heap} {a : Nat} {e : zOb} (h : z_at G u H a e) : z_at G U H a e := by
  cases e with
  | inl q => exact z_oA.moved hvm h
  | inr o => exact h
theorem z_P.moved {G : zG} (hT : z_TB G) {u U : State} {w : zW} {H : Heap} (hW : u.WarmedH U.vm) (h : z_P G u w H) : z_P G U w H := by
  obtain ⟨h1, h2, h0, h3, h4, h5, h6⟩ := h
  exact ⟨va_K.moved hW.alike h1, fun x hx => hT x hx _ _ _ _ hW (h2 x hx), fun z hz => ⟨va_Z.moved hW.alike (h0 z hz).1, (h0 z hz).2.moved hW.alike⟩, h3, h4, h5, fun a e he => ⟨(h6 a e he).1, (h6 a e he).2.moved hW.alike⟩⟩
theorem z_P.tb {G : zG} (hT : z_TB G) {U : State} {w : zW} {H : Heap} (h : z_P G U w H) (args : Array Value) : ∀ x ∈ G.2.2.2.2.1, x.before args U = true := fun x hx => hT x hx _ _ _ _ (State.WarmedH.refl U) (h.t x hx)
theorem z_oA.kept {U : State} {H H1 : Heap} {a : Nat} {ty : FieldType} {x : vp_A} (h : z_oA U H a ty x) (hq : H1[a]? = H[a]?) : z_oA U H1 a ty x := by
  obtain ⟨cell, kA, comp, h1, h2⟩ := h
  exact ⟨cell, kA, comp, hq.trans h1, h2⟩
theorem z_at.kept {G : zG} {U : State} {H H1 : Heap} {a : Nat} {e : zOb} (h : z_at G U H a e) (hq : H1[a]? = H[a]?) : z_at G U H1 a e := by
  cases e with
  | inl q => exact z_oA.kept h hq
  | inr o =>
    obtain ⟨r, h1, h2⟩ := h
    exact ⟨r, h1, h2.kept hq⟩
theorem z_at.lt {G : zG} {U : State} {H : Heap} {a : Nat} {e : zOb} (h : z_at G U H a e) : a < H.size := by
  cases e with
  | inl q =>
    obtain ⟨cell, _, _, h1, -⟩ := h
    exact (Array.getElem?_eq_some_iff.mp h1).1
  | inr o =>
    obtain ⟨r, h1, cell, h2, -⟩ := h
    exact (Array.getElem?_eq_some_iff.mp h2).1
/-! the programs' words -/
def z_set (w : zW) (a : Nat) (e : zOb) : zW := (w.1, w.2.1, w.2.2.1, fun b => if b = a then some e else w.2.2.2 b)
def z_push (w : zW) (n : Nat) (e : zOb) : zW := (w.1 + 1, w.2.1 - 1, w.2.2.1 - n, fun b => if b = w.1 then some e else w.2.2.2 b)
def z_obj (w : zW) (ci : Nat) (r : Option Nat) : Option (Nat × List Value) := match r with
  | some a => match w.2.2.2 a with
    | some (.inr (c, fs)) => if c = ci then some (a, fs) else none
    | _ => none
  | none => none
def z_arr (w : zW) (ty : FieldType) (r : Option Nat) : Option (Nat × vp_A) := match r with
  | some a => match w.2.2.2 a with
    | some (.inl (t, x)) => if t = ty then some (a, x) else none
    | _ => none
  | none => none
def z_getI (w : zW) (ci k : Nat) (r : Option Nat) (K : Int32 → zR) : zR := match z_obj w ci r with
  | some (_, fs) => match fs[k]? with
    | some (.int x) => K x
    | _ => none
  | none => none
def z_getL (w : zW) (ci k : Nat) (r : Option Nat) (K : Int64 → zR) : zR := match z_obj w ci r with
  | some (_, fs) => match fs[k]? with
    | some (.long x) => K x
    | _ => none
  | none => none
def z_getR (w : zW) (ci k : Nat) (r : Option Nat) (K : Option Nat → zR) : zR := match z_obj w ci r with
  | some (_, fs) => match fs[k]? with
    | some .null => K none
    | some (.ref a) => K (some a)
    | _ => none
  | none => none
def z_put (w : zW) (ci k : Nat) (r : Option Nat) (v : Value) (K : zW → zR) : zR := match z_obj w ci r with
  | some (a, fs) => if k < fs.length then K (z_set w a (.inr (ci, fs.set k v))) else none
  | none => none
def z_putZ (w : zW) (ci k : Nat) (r : Option Nat) (x : Int32) (K : zW → zR) : zR := if x = 0 ∨ x = 1 then z_put w ci k r (.int x) K else none
def z_new (w : zW) (ci N : Nat) (fs : List Value) (K : Nat → zW → zR) : zR := if 1 ≤ w.2.1 ∧ N ≤ w.2.2.1 then K w.1 (z_push w N (.inr (ci, fs))) else none
def z_newa (w : zW) (ty : FieldType) (n : Int32) (x : Nat → vp_A) (K : Nat → zW → zR) : zR :=
  if ¬ n < 0 ∧ n.toNatClampNeg ≤ 65536 ∧ 1 ≤ w.2.1 ∧ n.toNatClampNeg ≤ w.2.2.1 then K w.1 (z_push w n.toNatClampNeg (.inl (ty, x n.toNatClampNeg))) else none
def z_len (w : zW) (r : Option Nat) (K : Int32 → zR) : zR := match r with
  | some a => match w.2.2.2 a with
    | some (.inl (_, x)) => K (Int32.ofNat x.1)
    | _ => none
  | none => none
def z_ldI (w : zW) (ty : FieldType) (r : Option Nat) (i : Int32) (K : Int32 → zR) : zR := match z_arr w ty r with
  | some (_, n, .inl f) => if ¬ (i < 0 ∨ n ≤ i.toNatClampNeg) then K (f i.toNatClampNeg) else none
  | _ => none
def z_ldL (w : zW) (r : Option Nat) (i : Int32) (K : Int64 → zR) : zR := match z_arr w .long r with
  | some (_, n, .inr (.inl f)) => if ¬ (i < 0 ∨ n ≤ i.toNatClampNeg) then K (f i.toNatClampNeg) else none
  | _ => none
def z_ldR (w : zW) (ty : FieldType) (r : Option Nat) (i : Int32) (K : Option Nat → zR) : zR := match z_arr w ty r with
  | some (_, n, .inr (.inr (.inr (.inr f)))) => if ¬ (i < 0 ∨ n ≤ i.toNatClampNeg) then K (f i.toNatClampNeg) else none
  | _ => none
def z_stI (w : zW) (r : Option Nat) (i x : Int32) (K : zW → zR) : zR := match z_arr w .int r with
  | some (a, n, .inl f) => if ¬ (i < 0 ∨ n ≤ i.toNatClampNeg) then K (z_set w a (.inl (.int, n, .inl (upd f i.toNatClampNeg x)))) else none
  | _ => none
def z_stZ (w : zW) (r : Option Nat) (i x : Int32) (K : zW → zR) : zR := match z_arr w .boolean r with
  | some (a, n, .inl f) => if ¬ (i < 0 ∨ n ≤ i.toNatClampNeg) ∧ (x = 0 ∨ x = 1) then K (z_set w a (.inl (.boolean, n, .inl (upd f i.toNatClampNeg x)))) else none
  | _ => none
def z_stL (w : zW) (r : Option Nat) (i : Int32) (x : Int64) (K : zW → zR) : zR := match z_arr w .long r with
  | some (a, n, .inr (.inl f)) => if ¬ (i < 0 ∨ n ≤ i.toNatClampNeg) then K (z_set w a (.inl (.long, n, .inr (.inl (vp_updL f i.toNatClampNeg x))))) else none
  | _ => none
/-- a reference into an array: null, or an object of the class cj, which the array takes -/
def z_stR (w : zW) (ty : FieldType) (cj : Nat) (r : Option Nat) (i : Int32) (v : Option Nat) (K : zW → zR) : zR := match z_arr w ty r with
  | some (a, n, .inr (.inr (.inr (.inr f)))) => if ¬ (i < 0 ∨ n ≤ i.toNatClampNeg) ∧ (v = none ∨ (z_obj w cj v).isSome = true) then K (z_set w a (.inl (ty, n, .inr (.inr (.inr (.inr (va_up f i.toNatClampNeg v))))))) else none
  | _ => none
/-- a receiver: an object of that class -/
def z_this (w : zW) (ci : Nat) (r : Option Nat) (K : zR) : zR := match z_obj w ci r with
  | some _ => K
  | none => none
/-- what a call answered; what it threw goes on -/
def z_cI (x : zR) (K : Int32 → zW → zR) : zR := match x with
  | some (.inl (some (.int v)), w) => K v w
  | some (.inr a, w) => some (.inr a, w)
  | _ => none
def z_cL (x : zR) (K : Int64 → zW → zR) : zR := match x with
  | some (.inl (some (.long v)), w) => K v w
  | some (.inr a, w) => some (.inr a, w)
  | _ => none
def z_cR (x : zR) (K : Option Nat → zW → zR) : zR := match x with
  | some (.inl (some .null), w) => K none w
  | some (.inl (some (.ref a)), w) => K (some a) w
  | some (.inr a, w) => some (.inr a, w)
  | _ => none
def z_cV (x : zR) (K : zW → zR) : zR := match x with
  | some (.inl none, w) => K w
  | some (.inr a, w) => some (.inr a, w)
  | _ => none
/-- a new exception of the class ci is thrown -/
def z_thr (w : zW) (ci : Nat) : zR := if 1 ≤ w.2.1 ∧ 6 ≤ w.2.2.1 then some (.inr w.1, z_push w 6 (.inr (ci, []))) else none
end
section
/-- what a method's rows stand on -/
def z_C (G : zG) (p : Program) (e : Env) (s : State) (m : MethodId) (meth : Method) (c : Code) (cc : ByteArray) (nL : Nat) (own : String) : Prop :=
  p.tables.exec = Jvm.exec ∧ c.code = cc ∧ c.maxLocals = nL ∧ s.vm.findClass own = some m.cls ∧ meth.locks = false ∧ e.platform.stackTraces = false ∧ z_TB G
def z_Z (G : zG) (R : Room) (s : State) (w : zW) (H : Heap) (locs : List Loc) (cells slots : Nat) : Prop :=
  z_P G s w H ∧ (∀ q ∈ locs, G.1 ≤ q.base) ∧ cells + w.2.1 = R.cells ∧ slots + w.2.2.1 = R.slots
/-- a class of the list: its fields' words, types, names -/
def z_cls (G : zG) (ci : Nat) (C : String) (T : u_T) (N : Nat) (ty : Nat → FieldType) : Prop :=
  G.2.2.2.1[ci]? = some (C, T, N) ∧ (∀ x ∈ u_ws C T N, x ∈ G.2.2.2.2.1) ∧ (∀ k, k < N → parseFieldDescriptor (T k).2.2.1 = some (ty k)) ∧ ∀ a, a < N → ∀ b, b < N → a ≠ b → (T a).2.1 ≠ (T b).2.1
def z_oi (o : zO) (oc : Outcome) : Prop := match o with
  | .inl v => oc = .returned v
  | .inr a => oc = .threw a
def z_E (G : zG) (st : State) (w : zW) (o : zO) (w' : zW) (oc : Outcome) (t : State) : Prop :=
  z_oi o oc ∧ z_P G t w' t.heap ∧ st.WarmedH t.vm ∧ ∃ (L : List Loc) (k n : Nat), st.sameButNew ({ t with vm := st.vm } : State) L k n ∧ k + w'.2.1 = w.2.1 ∧ n + w'.2.2.1 = w.2.2.1 ∧ ∀ q ∈ L, G.1 ≤ q.base
def z_Q (G : zG) (below : List Frame) (s : State) (w : zW) (res : zO × zW) : State → Prop := fun t => ∃ oc, t.status = .running ∧ Ended t below oc ∧ z_E G s w res.1 res.2 oc t
/-- the contract: from the world w, with these arguments, the method ends with o in the world w' -/
def z_Ct (G : zG) (l : Launch) (y : MethodName) (hw : Cond) (fr lo : Nat) (av : List Value) (w : zW) (res : zO × zW) : Prop :=
  MetFree l y (headSpec [hw] { frames := fr, cells := w.2.1, slots := w.2.2.1, locals := lo }) (fun a U => a = av.toArray ∧ z_P G U w U.heap) (fun _ _ _ _ _ => True) (fun _ st oc t => z_E G st w res.1 res.2 oc t)
theorem z_obj_spec {w : zW} {ci : Nat} {r : Option Nat} {a : Nat} {fs : List Value} (h : z_obj w ci r = some (a, fs)) : r = some a ∧ w.2.2.2 a = some (.inr (ci, fs)) := by
  unfold z_obj at h
  split at h
  · split at h
    · split at h
      · rename_i hc
        cases h
        subst hc
        exact ⟨rfl, by assumption⟩
      · cases h
    · cases h
  · cases h
theorem z_arr_spec {w : zW} {ty : FieldType} {r : Option Nat} {a : Nat} {x : vp_A} (h : z_arr w ty r = some (a, x)) : r = some a ∧ w.2.2.2 a = some (.inl (ty, x)) := by
  unfold z_arr at h
  split at h
  · split at h
    · split at h
      · rename_i hc
        cases h
        subst hc
        exact ⟨rfl, by assumption⟩
      · cases h
    · cases h
  · cases h
theorem z_P.set {G : zG} {U : State} {w : zW} {H H1 : Heap} {a : Nat} {e0 e : zOb} (h : z_P G U w H) (ha : w.2.2.2 a = some e0) (hb : G.1 ≤ a) (he : z_at G U H1 a e) (hz : H1.size = H.size) (oq : ∀ q, q ≠ a → H1[q]? = H[q]?) : z_P G U (z_set w a e) H1 := by
  obtain ⟨h1, h2, h0, h3, h4, h5, h6⟩ := h
  refine ⟨h1, h2, h0, hz.trans h3, h4, fun q hq => (oq q (by omega)).trans (h5 q hq), fun b e' hb' => ?_⟩
  simp only [z_set] at hb'
  split at hb'
  · rename_i hba
    subst hba
    cases hb'
    exact ⟨Or.inl hb, he⟩
  · rename_i hba
    exact ⟨(h6 b e' hb').1, (h6 b e' hb').2.kept (oq b hba)⟩
theorem z_P.push {G : zG} {U : State} {w : zW} {H H1 : Heap} {n : Nat} {e : zOb} (h : z_P G U w H) (he : z_at G U H1 w.1 e) (hz : H1.size = H.size + 1) (oq : ∀ q, q < H.size → H1[q]? = H[q]?) : z_P G U (z_push w n e) H1 := by
  obtain ⟨h1, h2, h0, h3, h4, h5, h6⟩ := h
  refine ⟨h1, h2, h0, by rw [hz, h3]; rfl, Nat.le_succ_of_le h4, fun q hq => (oq q (by omega)).trans (h5 q hq), fun b e' hb' => ?_⟩
  simp only [z_push] at hb'
  split at hb'
  · rename_i hba
    subst hba
    cases hb'
    exact ⟨Or.inl h4, he⟩
  · exact ⟨(h6 b e' hb').1, (h6 b e' hb').2.kept (oq b (h6 b e' hb').2.lt)⟩
section ZR
variable {p : Program} {l : Launch} {e : Env} {R : Room} {s : State} {m : MethodId} {args : Array Value} {below : List Frame} {meth : Method} {c : Code} {H : Heap} {locs : List Loc} {cells slots : Nat} {Q : State → Prop} {cc : ByteArray} {pc nL : Nat} {ls : Array Slot} {rest : List Value} {G : zG} {w : zW} {own : String} {res : zO × zW}
theorem W.mono {Q' : State → Prop} {g : JFrame} (h : ∀ t, Q t → Q' t) (k : W p l e R s m args below meth c H locs cells slots Q g) : W p l e R s m args below meth c H locs cells slots Q' g := fun T hT X => by
  obtain ⟨t, a, b⟩ := k T hT X
  exact ⟨t, a, h t b⟩
/-! references as Option Nat -/
theorem x_aload_n (hC : z_C G p e s m meth c cc nL own) {k : Fin 4} {i : Nat} {r : Option Nat} (hd : decode cc pc = .ok (.aload_n k, 1)) (hi : (k : Nat) = i) (hl : ls[i]? = some (.val (va_rf r))) (kk : W p l e R s m args below meth c H locs cells slots Q (F0 m (pc + 1) ls (va_rf r :: rest))) : W p l e R s m args below meth c H locs cells slots Q (F0 m pc ls rest) := by
  cases r with
  | none => exact lv_aload_nN hC.1 hC.2.1 hd hi hl kk
  | some x => exact lv_aload_n hC.1 hC.2.1 hd hi hl kk
theorem x_aload (hC : z_C G p e s m meth c cc nL own) {i : Nat} {r : Option Nat} (hd : decode cc pc = .ok (.aload i, 2)) (hl : ls[i]? = some (.val (va_rf r))) (kk : W p l e R s m args below meth c H locs cells slots Q (F0 m (pc + 2) ls (va_rf r :: rest))) : W p l e R s m args below meth c H locs cells slots Q (F0 m pc ls rest) := by
  cases r with
  | none => exact lv_aloadN hC.1 hC.2.1 hd hl kk
  | some x => exact lv_aload hC.1 hC.2.1 hd hl kk
theorem x_astore_n (hC : z_C G p e s m meth c cc nL own) {k : Fin 4} {i : Nat} {r : Option Nat} {lv lv' : List (Nat × Value)} (hd : decode cc pc = .ok (.astore_n k, 1)) (hi : (k : Nat) = i) (h : lv_has ls nL lv) (hn : i < nL) (hl : (i, va_rf r) :: lv.filter (fun q => !(q.1 == i) && !(q.1 + 1 == i && q.2.category == 2)) = lv')
    (kk : ∀ ls' : Array Slot, lv_has ls' nL lv' → W p l e R s m args below meth c H locs cells slots Q (F0 m (pc + 1) ls' rest)) : W p l e R s m args below meth c H locs cells slots Q (F0 m pc ls (va_rf r :: rest)) := by
  cases r with
  | none => exact lv_astore_nN hC.1 hC.2.1 hd hi h hn hl kk
  | some x => exact lv_astore_n hC.1 hC.2.1 hd hi h hn hl kk
theorem x_astore (hC : z_C G p e s m meth c cc nL own) {i : Nat} {r : Option Nat} {lv lv' : List (Nat × Value)} (hd : decode cc pc = .ok (.astore i, 2)) (h : lv_has ls nL lv) (hn : i < nL) (hl : (i, va_rf r) :: lv.filter (fun q => !(q.1 == i) && !(q.1 + 1 == i && q.2.category == 2)) = lv')
    (kk : ∀ ls' : Array Slot, lv_has ls' nL lv' → W p l e R s m args below meth c H locs cells slots Q (F0 m (pc + 2) ls' rest)) : W p l e R s m args below meth c H locs cells slots Q (F0 m pc ls (va_rf r :: rest)) := by
  cases r with
  | none => exact lv_astoreN hC.1 hC.2.1 hd h hn hl kk
  | some x => exact lv_astore hC.1 hC.2.1 hd h hn hl kk
theorem x_ifnull (hC : z_C G p e s m meth c cc nL own) {r : Option Nat} {off : Int} {tgt : Nat} (hd : decode cc pc = .ok (.ifnull off, 3)) (ht : (pc : Int) + off = (tgt : Int)) (kt : r = none → W p l e R s m args below meth c H locs cells slots Q (F0 m tgt ls rest)) (kf : ¬ r = none → W p l e R s m args below meth c H locs cells slots Q (F0 m (pc + 3) ls rest)) : W p l e R s m args below meth c H locs cells slots Q (F0 m pc ls (va_rf r :: rest)) := by
  cases r with
  | none => exact lv_ifnullN hC.1 hC.2.1 hd ht (kt rfl)
  | some x => exact lv_ifnull hC.1 hC.2.1 hd (kf (by simp))
theorem x_ifnonnull (hC : z_C G p e s m meth c cc nL own) {r : Option Nat} {off : Int} {tgt : Nat} (hd : decode cc pc = .ok (.ifnonnull off, 3)) (ht : (pc : Int) + off = (tgt : Int)) (kt : ¬ r = none → W p l e R s m args below meth c H locs cells slots Q (F0 m tgt ls rest)) (kf : r = none → W p l e R s m args below meth c H locs cells slots Q (F0 m (pc + 3) ls rest)) : W p l e R s m args below meth c H locs cells slots Q (F0 m pc ls (va_rf r :: rest)) := by
  cases r with
  | none => exact lv_ifnonnullN hC.1 hC.2.1 hd (kf rfl)
  | some x => exact lv_ifnonnull hC.1 hC.2.1 hd ht (kt (by simp))
/-! fields -/
theorem z_one {o : Nat × List Value} {a : Nat} (h : z_P G s w H) (hw : w.2.2.2 a = some (.inr o)) : va_P G.2.2.1 G.2.2.2.1 [(a, .inr o)] H := by
  intro k q hk
  cases k with
  | zero =>
    cases hk
    exact (h.c a _ hw).2
  | succ k => simp at hk
theorem x_get (hC : z_C G p e s m meth c cc nL own) (hZ : z_Z G R s w H locs cells slots) {ci : Nat} {C : String} {T : u_T} {N : Nat} {ty : Nat → FieldType} (hc : z_cls G ci C T N ty) {r : Option Nat} {a : Nat} {fs : List Value} (h : z_obj w ci r = some (a, fs)) (k : Nat) (hk : k < N) {index : Nat} {ref : String} (hlink : Cond.fieldLink own index ref (T k).2.1 (T k).2.2.1 ∈ G.2.2.2.2.1) (hsame : ∀ x, s.fieldFound? (T k).1 (T k).2.1 (T k).2.2.1 = some x → s.fieldFound? ref (T k).2.1 (T k).2.2.1 = some x) {v : Value} (hv : fs[k]? = some v) (hd : decode cc pc = .ok (.getfield index, 3)) (kk : W p l e R s m args below meth c H locs cells slots Q (F0 m (pc + 3) ls (v :: rest))) : W p l e R s m args below meth c H locs cells slots Q (F0 m pc ls (va_rf r :: rest)) := by
  obtain ⟨rfl, hw⟩ := z_obj_spec h
  have hts := hZ.1.tb hC.2.2.2.2.2.2 args
  exact va_get (D := G.2.2.1) (cl := G.2.2.2.1) (tys := []) (ws := [(a, .inr (ci, fs))]) hC.1 hC.2.1 hts hc.2.1 hC.2.2.2.1 hZ.1.k (z_one hZ.1 hw) 0 rfl hc.1 k hk (hts _ hlink) hsame hv hd kk
theorem x_getI (hC : z_C G p e s m meth c cc nL own) (hZ : z_Z G R s w H locs cells slots) {ci : Nat} {C : String} {T : u_T} {N : Nat} {ty : Nat → FieldType} (hc : z_cls G ci C T N ty) {r : Option Nat} {k : Nat} {K : Int32 → zR} (h : z_getI w ci k r K = some res) (hk : k < N) {index : Nat} {ref : String} (hlink : Cond.fieldLink own index ref (T k).2.1 (T k).2.2.1 ∈ G.2.2.2.2.1) (hsame : ∀ x, s.fieldFound? (T k).1 (T k).2.1 (T k).2.2.1 = some x → s.fieldFound? ref (T k).2.1 (T k).2.2.1 = some x) (hd : decode cc pc = .ok (.getfield index, 3)) (kk : ∀ x : Int32, K x = some res → W p l e R s m args below meth c H locs cells slots Q (F0 m (pc + 3) ls (.int x :: rest))) : W p l e R s m args below meth c H locs cells slots Q (F0 m pc ls (va_rf r :: rest)) := by
  unfold z_getI at h
  split at h
  · rename_i a fs ho
    split at h
    · rename_i x hx
      exact x_get hC hZ hc ho k hk hlink hsame hx hd (kk x h)
    · cases h
  · cases h
theorem x_getL (hC : z_C G p e s m meth c cc nL own) (hZ : z_Z G R s w H locs cells slots) {ci : Nat} {C : String} {T : u_T} {N : Nat} {ty : Nat → FieldType} (hc : z_cls G ci C T N ty) {r : Option Nat} {k : Nat} {K : Int64 → zR} (h : z_getL w ci k r K = some res) (hk : k < N) {index : Nat} {ref : String} (hlink : Cond.fieldLink own index ref (T k).2.1 (T k).2.2.1 ∈ G.2.2.2.2.1) (hsame : ∀ x, s.fieldFound? (T k).1 (T k).2.1 (T k).2.2.1 = some x → s.fieldFound? ref (T k).2.1 (T k).2.2.1 = some x) (hd : decode cc pc = .ok (.getfield index, 3)) (kk : ∀ x : Int64, K x = some res → W p l e R s m args below meth c H locs cells slots Q (F0 m (pc + 3) ls (.long x :: rest))) : W p l e R s m args below meth c H locs cells slots Q (F0 m pc ls (va_rf r :: rest)) := by
  unfold z_getL at h
  split at h
  · rename_i a fs ho
    split at h
    · rename_i x hx
      exact x_get hC hZ hc ho k hk hlink hsame hx hd (kk x h)
    · cases h
  · cases h
theorem x_getR (hC : z_C G p e s m meth c cc nL own) (hZ : z_Z G R s w H locs cells slots) {ci : Nat} {C : String} {T : u_T} {N : Nat} {ty : Nat → FieldType} (hc : z_cls G ci C T N ty) {r : Option Nat} {k : Nat} {K : Option Nat → zR} (h : z_getR w ci k r K = some res) (hk : k < N) {index : Nat} {ref : String} (hlink : Cond.fieldLink own index ref (T k).2.1 (T k).2.2.1 ∈ G.2.2.2.2.1) (hsame : ∀ x, s.fieldFound? (T k).1 (T k).2.1 (T k).2.2.1 = some x → s.fieldFound? ref (T k).2.1 (T k).2.2.1 = some x) (hd : decode cc pc = .ok (.getfield index, 3)) (kk : ∀ x : Option Nat, K x = some res → W p l e R s m args below meth c H locs cells slots Q (F0 m (pc + 3) ls (va_rf x :: rest))) : W p l e R s m args below meth c H locs cells slots Q (F0 m pc ls (va_rf r :: rest)) := by
  unfold z_getR at h
  split at h
  · rename_i a fs ho
    split at h
    · rename_i hx
      exact x_get hC hZ hc ho k hk hlink hsame hx hd (kk none h)
    · rename_i x hx
      exact x_get hC hZ hc ho k hk hlink hsame hx hd (kk (some x) h)
    · cases h
  · cases h
theorem x_put (hC : z_C G p e s m meth c cc nL own) (hZ : z_Z G R s w H locs cells slots) {ci : Nat} {C : String} {T : u_T} {N : Nat} {ty : Nat → FieldType} (hc : z_cls G ci C T N ty) {r : Option Nat} {k : Nat} {v : Value} {K : zW → zR} (h : z_put w ci k r v K = some res) (hk : k < N) {index : Nat} {ref : String} (hlink : Cond.fieldLink own index ref (T k).2.1 (T k).2.2.1 ∈ G.2.2.2.2.1) (hsame : ∀ x, s.fieldFound? (T k).1 (T k).2.1 (T k).2.2.1 = some x → s.fieldFound? ref (T k).2.1 (T k).2.2.1 = some x) (hfin : (T k).2.2.2 = false) {t : FieldType} (ht : ty k = t) (hn : narrow t v = v) (hfit : fits t v = true) (hd : decode cc pc = .ok (.putfield index, 3))
    (kk : ∀ (w : zW) (H : Heap) (locs : List Loc), z_Z G R s w H locs cells slots → K w = some res → W p l e R s m args below meth c H locs cells slots Q (F0 m (pc + 3) ls rest)) : W p l e R s m args below meth c H locs cells slots Q (F0 m pc ls (v :: va_rf r :: rest)) := by
  unfold z_put at h
  split at h
  · rename_i a fs ho
    split at h
    · rename_i hl
      obtain ⟨rfl, hw⟩ := z_obj_spec ho
      have hts := hZ.1.tb hC.2.2.2.2.2.2 args
      have hb : G.1 ≤ a := by
        rcases (hZ.1.c a _ hw).1 with q | ⟨_, _, q, _⟩
        · exact q
        · cases q
      have hap := va_apart (own := own) hts hc.2.1 ty hc.2.2.1 hc.2.2.2 hZ.1.k hc.1
      obtain ⟨r', h1, cell, q1, q2, q3, q4⟩ := (hZ.1.c a _ hw).2
      have hr : r' = (C, T, N) := Option.some.inj (h1.symm.trans hc.1)
      subst hr
      obtain ⟨hS, hfc, kC, hkC, hkind⟩ := hZ.1.k.1 ci _ hc.1
      obtain ⟨cf, kf, fi, f, hi, hsl⟩ := hS k hk
      have hlay := hts _ (hc.2.1 _ (u_in_lay hk))
      unfold u_lay at hlay
      rw [if_neg (by rw [hfin]; decide)] at hlay
      have hst := (u_facts hfc hkC (u_lays hts hc.2.1 hk) hi).1
      have h6 := u_store hfc hkC hkind hlay hi (by rw [hc.2.2.1 k hk, ht]) hn hfit
      refine W.putK hC.1 hC.2.1 (f := f) ⟨hC.2.2.2.1, hts _ hlink, ⟨_, _, _, hsame _ hi⟩, hst⟩ (by rw [q2]; exact h6) q1 q3 (by rw [hsl]; exact k2_hasslot (q4 k hk)) rfl rfl hd fun H' e1 e2 e3 => ?_
      rw [hsl] at e1 ⊢
      refine kk _ H' _ ⟨hZ.1.set hw hb (e := .inr (ci, fs.set k v)) ⟨_, hc.1, t_OB.to (V := updV (vp_V fs) k v) ⟨_, e1, q2, q3, t_set q4 hap hk v⟩ (fun j _ => vp_updV_set hl v j)⟩ e2 e3, fun q hq => ?_, hZ.2.2⟩ h
      rcases List.mem_append.mp hq with q | q
      · exact hZ.2.1 _ q
      · rw [List.mem_singleton.mp q]; exact hb
    · cases h
  · cases h
theorem x_putZ (hC : z_C G p e s m meth c cc nL own) (hZ : z_Z G R s w H locs cells slots) {ci : Nat} {C : String} {T : u_T} {N : Nat} {ty : Nat → FieldType} (hc : z_cls G ci C T N ty) {r : Option Nat} {k : Nat} {v : Int32} {K : zW → zR} (h : z_putZ w ci k r v K = some res) (hk : k < N) {index : Nat} {ref : String} (hlink : Cond.fieldLink own index ref (T k).2.1 (T k).2.2.1 ∈ G.2.2.2.2.1) (hsame : ∀ x, s.fieldFound? (T k).1 (T k).2.1 (T k).2.2.1 = some x → s.fieldFound? ref (T k).2.1 (T k).2.2.1 = some x) (hfin : (T k).2.2.2 = false) (ht : ty k = .boolean) (hd : decode cc pc = .ok (.putfield index, 3))
    (kk : ∀ (w : zW) (H : Heap) (locs : List Loc), z_Z G R s w H locs cells slots → K w = some res → W p l e R s m args below meth c H locs cells slots Q (F0 m (pc + 3) ls rest)) : W p l e R s m args below meth c H locs cells slots Q (F0 m pc ls (.int v :: va_rf r :: rest)) := by
  unfold z_putZ at h
  split at h
  · rename_i hv
    refine x_put hC hZ hc h hk hlink hsame hfin ht ?_ ?_ hd kk
    · rcases hv with rfl | rfl <;> rfl
    · rcases hv with rfl | rfl <;> rfl
  · cases h
end ZR
end
section
theorem z_P.back {G : zG} {s U : State} {w0 w : zW} {H0 H : Heap} (h0 : z_P G s w0 H0) (hvm : U.vm.Alike s.vm) (h : z_P G U w H) : z_P G s w H := by
  obtain ⟨-, -, -, h3, h4, h5, h6⟩ := h
  exact ⟨h0.k, h0.t, h0.z, h3, h4, h5, fun a e he => ⟨(h6 a e he).1, (h6 a e he).2.moved hvm⟩⟩
section ZR2
variable {p : Program} {l : Launch} {e : Env} {R : Room} {s : State} {m : MethodId} {args : Array Value} {below : List Frame} {meth : Method} {c : Code} {H : Heap} {locs : List Loc} {cells slots : Nat} {Q : State → Prop} {cc : ByteArray} {pc nL : Nat} {ls : Array Slot} {rest : List Value} {G : zG} {w : zW} {own : String} {res : zO × zW}
theorem x_putF (hC : z_C G p e s m meth c cc nL own) (hZ : z_Z G R s w H locs cells slots) {ci : Nat} {C : String} {T : u_T} {N : Nat} {ty : Nat → FieldType} (hc : z_cls G ci C T N ty) {r : Option Nat} {k : Nat} {v : Value} {K : zW → zR} (h : z_put w ci k r v K = some res) (hk : k < N) {index : Nat} {ref : String} (hlink : Cond.fieldLink own index ref (T k).2.1 (T k).2.2.1 ∈ G.2.2.2.2.1) (hsame : ∀ x, s.fieldFound? (T k).1 (T k).2.1 (T k).2.2.1 = some x → s.fieldFound? ref (T k).2.1 (T k).2.2.1 = some x) (hfin : (T k).2.2.2 = true) (hnm : meth.name = "<init>") (hdecl : (T k).1 = own) {t : FieldType} (ht : ty k = t) (hn : narrow t v = v) (hfit : fits t v = true) (hd : decode cc pc = .ok (.putfield index, 3))
    (kk : ∀ (w : zW) (H : Heap) (locs : List Loc), z_Z G R s w H locs cells slots → K w = some res → W p l e R s m args below meth c H locs cells slots Q (F0 m (pc + 3) ls rest)) : W p l e R s m args below meth c H locs cells slots Q (F0 m pc ls (v :: va_rf r :: rest)) := by
  unfold z_put at h
  split at h
  · rename_i a fs ho
    split at h
    · rename_i hl
      obtain ⟨rfl, hw⟩ := z_obj_spec ho
      have hts := hZ.1.tb hC.2.2.2.2.2.2 args
      have hb : G.1 ≤ a := by
        rcases (hZ.1.c a _ hw).1 with q | ⟨_, _, q, _⟩
        · exact q
        · cases q
      have hap := va_apart (own := own) hts hc.2.1 ty hc.2.2.1 hc.2.2.2 hZ.1.k hc.1
      obtain ⟨r', h1, cell, q1, q2, q3, q4⟩ := (hZ.1.c a _ hw).2
      have hr : r' = (C, T, N) := Option.some.inj (h1.symm.trans hc.1)
      subst hr
      obtain ⟨hS, hfc, kC, hkC, hkind⟩ := hZ.1.k.1 ci _ hc.1
      obtain ⟨cf, kf, fi, f, hi, hsl⟩ := hS k hk
      have hlay := hts _ (hc.2.1 _ (u_in_lay hk))
      unfold u_lay at hlay
      rw [if_pos hfin] at hlay
      have hst := (u_facts hfc hkC (u_lays hts hc.2.1 hk) hi).1
      have hcf : m.cls = cf := by
        obtain ⟨_, _, c', _, _, _, -, -, hf', -, -, -, hown2, -⟩ := Cond.laysFinal_spec hlay
        have e1 : c' = cf := by have := hi.symm.trans hf'; simp at this; exact this.1.symm
        rw [hdecl] at hown2
        rw [← e1]; exact Option.some.inj (hC.2.2.2.1.symm.trans hown2)
      have h6 := u_fits hfc hkC hkind (Or.inr hlay) hi (by rw [hc.2.2.1 k hk, ht]) hn hfit
      refine W.putFinK hC.1 hC.2.1 hC.2.2.2.1 (hts _ hlink) (hsame _ hi) hst hcf hnm (by rw [q2]; exact h6) q1 q3 (by rw [hsl]; exact k2_hasslot (q4 k hk)) rfl rfl hd fun H' e1 e2 e3 => ?_
      rw [hsl] at e1 ⊢
      refine kk _ H' _ ⟨hZ.1.set hw hb (e := .inr (ci, fs.set k v)) ⟨_, hc.1, t_OB.to (V := updV (vp_V fs) k v) ⟨_, e1, q2, q3, t_set q4 hap hk v⟩ (fun j _ => vp_updV_set hl v j)⟩ e2 e3, fun q hq => ?_, hZ.2.2⟩ h
      rcases List.mem_append.mp hq with q | q
      · exact hZ.2.1 _ q
      · rw [List.mem_singleton.mp q]; exact hb
    · cases h
  · cases h
theorem x_putZF (hC : z_C G p e s m meth c cc nL own) (hZ : z_Z G R s w H locs cells slots) {ci : Nat} {C : String} {T : u_T} {N : Nat} {ty : Nat → FieldType} (hc : z_cls G ci C T N ty) {r : Option Nat} {k : Nat} {v : Int32} {K : zW → zR} (h : z_putZ w ci k r v K = some res) (hk : k < N) {index : Nat} {ref : String} (hlink : Cond.fieldLink own index ref (T k).2.1 (T k).2.2.1 ∈ G.2.2.2.2.1) (hsame : ∀ x, s.fieldFound? (T k).1 (T k).2.1 (T k).2.2.1 = some x → s.fieldFound? ref (T k).2.1 (T k).2.2.1 = some x) (hfin : (T k).2.2.2 = true) (hnm : meth.name = "<init>") (hdecl : (T k).1 = own) (ht : ty k = .boolean) (hd : decode cc pc = .ok (.putfield index, 3))
    (kk : ∀ (w : zW) (H : Heap) (locs : List Loc), z_Z G R s w H locs cells slots → K w = some res → W p l e R s m args below meth c H locs cells slots Q (F0 m (pc + 3) ls rest)) : W p l e R s m args below meth c H locs cells slots Q (F0 m pc ls (.int v :: va_rf r :: rest)) := by
  unfold z_putZ at h
  split at h
  · rename_i hv
    refine x_putF hC hZ hc h hk hlink hsame hfin hnm hdecl ht ?_ ?_ hd kk
    · rcases hv with rfl | rfl <;> rfl
    · rcases hv with rfl | rfl <;> rfl
  · cases h
theorem x_new (hC : z_C G p e s m meth c cc nL own) (hZ : z_Z G R s w H locs cells slots) {ci : Nat} {C : String} {T : u_T} {N : Nat} {ty : Nat → FieldType} (hc : z_cls G ci C T N ty) {fs : List Value} {K : Nat → zW → zR} (h : z_new w ci N fs K = some res) {index : Nat} (hcl : Cond.classLink own index C ∈ G.2.2.2.2.1) (hinst : Cond.instantiable C N ∈ G.2.2.2.2.1) (hini : Cond.initialized C ∈ G.2.2.2.2.1) (hfs : ∀ j, j < N → defaultValue (ty j) = vp_V fs j) (hd : decode cc pc = .ok (.new index, 3))
    (kk : ∀ (a : Nat) (w : zW) (H : Heap) (cells slots : Nat), z_Z G R s w H locs cells slots → K a w = some res → W p l e R s m args below meth c H locs cells slots Q (F0 m (pc + 3) ls (va_rf (some a) :: rest))) : W p l e R s m args below meth c H locs cells slots Q (F0 m pc ls rest) := by
  unfold z_new at h
  split at h
  · rename_i hr
    have hts := hZ.1.tb hC.2.2.2.2.2.2 args
    have hKn := hZ.1.k.1 ci _ hc.1
    have h3 := hZ.2.2.1
    have h4 := hZ.2.2.2
    refine W.newcK hC.1 hC.2.1 hC.2.2.2.1 (hts _ hcl) (hts _ hinst) (hts _ hini) rfl hd (by omega) (by omega) hKn.2.1 hZ.1.n fun H1 kC hkC e1 z1 o1 => ?_
    refine kk w.1 _ H1 _ _ ⟨hZ.1.push (n := N) (e := .inr (ci, fs)) ⟨_, hc.1, (u_born ty hts hc.2.1 hKn hkC e1 hc.2.2.1).to hfs⟩ (by rw [z1, hZ.1.n]) (fun q hq => o1 q (by rw [← hZ.1.n]; exact hq)), hZ.2.1, ?_, ?_⟩ h
    · show cells + 1 + (w.2.1 - 1) = R.cells
      omega
    · show slots + N + (w.2.2.1 - N) = R.slots
      omega
  · cases h
/-! the end of a method -/
theorem z_end {w0 : zW} {v : Option Value} {w : zW} {t : State} {oc : Outcome} {L : List Loc} (hT : z_TB G) (hc : R.cells = w0.2.1) (hs : R.slots = w0.2.2.1) (hZ : z_Z G R s w H locs cells slots) (ho : oc = .returned v) (hh : t.heap = H) (hF : FrameEnd s oc t L cells slots) (hL : ∀ q ∈ L, G.1 ≤ q.base) : z_E G s w0 (.inl v) w oc t := by
  obtain ⟨-, hW, hsm⟩ := hF
  exact ⟨ho, by rw [hh]; exact hZ.1.moved hT hW, hW, L, cells, slots, hsm, by rw [← hc]; exact hZ.2.2.1, by rw [← hs]; exact hZ.2.2.2, hL⟩
theorem x_iret (hC : z_C G p e s m meth c cc nL own) {w0 : zW} (hc : R.cells = w0.2.1) (hs : R.slots = w0.2.2.1) (hZ : z_Z G R s w H locs cells slots) {v : Int32} {ty : FieldType} (hr : meth.sig.returnType = some ty) (hn : narrow ty (.int v) = .int v) (h : (some (.inl (some (.int v)), w) : zR) = some res) (hd : decode cc pc = .ok (.ireturn, 1)) : W p l e R s m args below meth c H locs cells slots (z_Q G below s w0 res) (F0 m pc ls [.int v]) := by
  cases h
  refine W.mono ?_ (W.zret (Qc := fun _ _ oc t => oc = .returned (some (.int v)) ∧ t.heap = H) (free := fun q => G.1 ≤ q) hC.1 hC.2.1 hr hn (fun t ht _ => ⟨rfl, ht⟩) hZ.2.1 hd hC.2.2.2.2.1)
  rintro t ⟨oc, h1, h2, ⟨h3, h4⟩, L, h5, h6⟩
  exact ⟨oc, h1, h2, z_end hC.2.2.2.2.2.2 hc hs hZ h3 h4 h5 h6⟩
theorem x_lret (hC : z_C G p e s m meth c cc nL own) {w0 : zW} (hc : R.cells = w0.2.1) (hs : R.slots = w0.2.2.1) (hZ : z_Z G R s w H locs cells slots) {v : Int64} (hr : meth.sig.returnType = some .long) (h : (some (.inl (some (.long v)), w) : zR) = some res) (hd : decode cc pc = .ok (.lreturn, 1)) : W p l e R s m args below meth c H locs cells slots (z_Q G below s w0 res) (F0 m pc ls [.long v]) := by
  cases h
  refine W.mono ?_ (W.lret (Qc := fun _ _ oc t => oc = .returned (some (.long v)) ∧ t.heap = H) (free := fun q => G.1 ≤ q) hC.1 hC.2.1 hr (fun t ht _ => ⟨rfl, ht⟩) hZ.2.1 hd hC.2.2.2.2.1)
  rintro t ⟨oc, h1, h2, ⟨h3, h4⟩, L, h5, h6⟩
  exact ⟨oc, h1, h2, z_end hC.2.2.2.2.2.2 hc hs hZ h3 h4 h5 h6⟩
theorem x_aret (hC : z_C G p e s m meth c cc nL own) {w0 : zW} (hc : R.cells = w0.2.1) (hs : R.slots = w0.2.2.1) (hZ : z_Z G R s w H locs cells slots) {r : Option Nat} {rt : FieldType} (hr : meth.sig.returnType = some rt) (hrt : (∃ n, rt = .object n) ∨ ∃ t, rt = .array t) (h : (some (.inl (some (va_rf r)), w) : zR) = some res) (hd : decode cc pc = .ok (.areturn, 1)) : W p l e R s m args below meth c H locs cells slots (z_Q G below s w0 res) (F0 m pc ls [va_rf r]) := by
  cases h
  refine W.mono ?_ (W.aret (Qc := fun _ _ oc t => oc = .returned (some (va_rf r)) ∧ t.heap = H) (free := fun q => G.1 ≤ q) hC.1 hC.2.1 hr hrt (va_rf_or r) (fun t ht _ => ⟨rfl, ht⟩) hZ.2.1 hd hC.2.2.2.2.1)
  rintro t ⟨oc, h1, h2, ⟨h3, h4⟩, L, h5, h6⟩
  exact ⟨oc, h1, h2, z_end hC.2.2.2.2.2.2 hc hs hZ h3 h4 h5 h6⟩
theorem x_vret (hC : z_C G p e s m meth c cc nL own) {w0 : zW} (hc : R.cells = w0.2.1) (hs : R.slots = w0.2.2.1) (hZ : z_Z G R s w H locs cells slots) (hr : meth.sig.returnType = none) (h : (some (.inl none, w) : zR) = some res) (hd : decode cc pc = .ok (.return_, 1)) : W p l e R s m args below meth c H locs cells slots (z_Q G below s w0 res) (F0 m pc ls []) := by
  cases h
  refine W.mono ?_ (W.vret (Qc := fun _ _ oc t => oc = .returned none ∧ t.heap = H) (free := fun q => G.1 ≤ q) hC.1 hC.2.1 hr (fun t ht _ => ⟨rfl, ht⟩) hZ.2.1 hd hC.2.2.2.2.1)
  rintro t ⟨oc, h1, h2, ⟨h3, h4⟩, L, h5, h6⟩
  exact ⟨oc, h1, h2, z_end hC.2.2.2.2.2.2 hc hs hZ h3 h4 h5 h6⟩
/-! calls -/
def z_hw (hw : Cond) (y : MethodName) (maxL : Nat) : Prop := ∀ (a : Array Value) (U : State) (mk : MethodId), U.methodNamed? y = some mk → hw.before a U = true → ∃ (methY : Method) (cY : Code), U.vm.method? mk = some methY ∧ methY.code = some cY ∧ cY.maxLocals = maxL ∧ parseMethodDescriptor y.desc = some methY.sig
theorem z_hw_code {y : MethodName} {bytes : ByteArray} {maxL : Nat} {ret : Option FieldType} : z_hw (.code y bytes maxL ret) y maxL := fun _ _ _ hn h => by
  obtain ⟨methY, cY, hmY, hcY, -, hlY, -, -, -, hsg⟩ := Cond.code_spec hn h
  exact ⟨methY, cY, hmY, hcY, hlY, hsg⟩
theorem z_go (hT : z_TB G) {T : State} (X : Stand p l e R s m args below meth c T locs cells slots) (hZ : z_Z G R s w T.heap locs cells slots) {y : MethodName} {hw : Cond} {fr lo maxL : Nat} {av : List Value} {r1 : zO × zW} (hM : z_Ct G l y hw fr lo av w r1) (hh : z_hw hw y maxL) {mk : MethodId} (hn : s.methodNamed? y = some mk) (hwt : hw ∈ G.2.2.2.2.1) (hini : Cond.initialized y.cls ∈ G.2.2.2.2.1) (hfr : fr + 1 ≤ R.frames) (hlo : 8 + (maxL + 11) + lo ≤ R.locals) {g : JFrame} (hg : g.method = m) (hsize : g.locals.size = c.maxLocals) {ig : Instr} (hdg : decode c.code g.pc = .ok (ig, 3)) (hW : 2 * g.monitorRoom + (g.stack.map fun v => v.category).sum ≤ 8) :
    ∃ (T' : State) (locs' : List Loc) (cells' slots' : Nat), Stand p l e R s m args below meth c T' locs' cells' slots' ∧ z_Z G R s r1.2 T'.heap locs' cells' slots' ∧
      (∀ v, r1.1 = .inl v → Steps p.tables e below (doInvoke e (T.setTop g) [] mk av.toArray).1 (T'.setTop { g with pc := g.pc + 3, stack := v.toList ++ g.stack })) ∧
      (∀ x, r1.1 = .inr x → Steps p.tables e below (doInvoke e (T.setTop g) [] mk av.toArray).1 ((T'.setTop g).pushFrame (.throwing x))) := by
  have hPT : z_P G T w T.heap := hZ.1.moved hT X.warmed
  have htT := hPT.tb hT av.toArray
  have hnT : T.methodNamed? y = some mk := X.named hn
  obtain ⟨methY, cY, hmY, hcY, hlY, -⟩ := hh _ T mk hnT (htT _ hwt)
  obtain ⟨kY, hkY, -⟩ := className_of_methodNamed hnT
  have hinitY : kY.init = .initialized := Cond.initialized_spec (findClass_of_methodNamed hnT) hkY (htT _ hini)
  have h : At T g.method c below := by rw [hg]; exact X.here
  have happ : (headSpec [hw] { frames := fr, cells := w.2.1, slots := w.2.2.1, locals := lo }).appliesLoose y e.platform (T.calling g mk av.toArray) = true :=
    Spec.appliesLoose_calling (g := g) h hdg hnT hkY hinitY
      (X.room_calling (g := g) (R' := { frames := fr, cells := w.2.1, slots := w.2.2.1, locals := lo }) hsize hmY hcY hfr (by rw [hlY]; show _ + lo ≤ _; omega) (by show cells + w.2.1 ≤ _; rw [hZ.2.2.1]; exact Nat.le_refl _) (by show slots + w.2.2.1 ≤ _; rw [hZ.2.2.2]; exact Nat.le_refl _))
      (atoms_intro fun x hx => by rw [List.mem_singleton.mp hx]; exact htT _ hwt)
  obtain ⟨mid, hmid⟩ := h.above
  have hfr2 : (T.setTop g).frames = (.java g :: mid) ++ below := by rw [State.frames_setTop' g h.top, hmid]; rfl
  have hPc : z_P G (T.calling g mk av.toArray) w T.heap := hPT.moved hT (State.WarmedH.refl T)
  obtain ⟨o, s₂, hsteps, -, hend, hq⟩ := Steps.callFree hM p X.admits X.cas X.clock (acts := []) hfr2 happ ⟨rfl, hPc⟩ trivial
  rw [State.frames_setTop' g h.top, X.tail] at hend
  obtain ⟨hoi, hP2, hW2, L, k, n, hsm, hk, hn2, hL⟩ := hq
  have hlocs : ∀ q ∈ locs ++ L, G.1 ≤ q.base := fun q hq => by
    rcases List.mem_append.mp hq with q1 | q1
    · exact hZ.2.1 _ q1
    · exact hL _ q1
  have e1 := hZ.2.2.1
  have e2 := hZ.2.2.2
  obtain ⟨o1, w1⟩ := r1
  dsimp only at hoi hP2 hk hn2 ⊢
  cases o1 with
  | inl v =>
    have hoi : o = .returned v := hoi
    subst hoi
    obtain ⟨T', X', hWT, hsT, rfl⟩ := X.outOf hg hdg hend hW2 hsm
    have hvT : (T'.setTop { g with pc := g.pc + 3, stack := v.toList ++ g.stack }).vm = T'.vm := by simp [State.setTop, State.modifyTopJava]
    have hhT : (T'.setTop { g with pc := g.pc + 3, stack := v.toList ++ g.stack }).heap = T'.heap := by simp [State.setTop, State.modifyTopJava]
    refine ⟨T', _, _, _, X', ⟨?_, hlocs, by omega, by omega⟩, fun v' hv => ?_, fun x hx => (by cases hx)⟩
    · rw [hhT] at hP2
      exact hZ.1.back (by rw [hvT]; exact X'.warmed.alike.symm) hP2
    · cases hv
      exact hsteps
  | inr x =>
    have hoi : o = .threw x := hoi
    subst hoi
    obtain ⟨T', X', hWT, hsT, rfl⟩ := X.outOfThrown hg hend hW2 hsm
    rw [Stand.throwing_heap] at hP2
    refine ⟨T', _, _, _, X', ⟨?_, hlocs, by omega, by omega⟩, fun v' hv => (by cases hv), fun x' hx => ?_⟩
    · exact hZ.1.back (by rw [Stand.throwing_vm]; exact X'.warmed.alike.symm) hP2
    · cases hx
      exact hsteps
end ZR2
end
section
theorem z_ifp {α : Type} {c : Prop} [Decidable c] {a b x : α} (hc : c) (h : (if c then a else b) = x) : a = x := by rw [if_pos hc] at h; exact h
theorem z_ifn {α : Type} {c : Prop} [Decidable c] {a b x : α} (hc : ¬ c) (h : (if c then a else b) = x) : b = x := by rw [if_neg hc] at h; exact h
def z_nz (c : Prop) [Decidable c] (K : zR) : zR := if c then none else K
theorem z_nz_spec {c : Prop} [Decidable c] {K : zR} {res : zO × zW} (h : z_nz c K = some res) : ¬ c ∧ K = some res := by
  unfold z_nz at h
  split at h
  · cases h
  · exact ⟨by assumption, h⟩
def z_nn (r : Option Nat) (K : zR) : zR := match r with
  | some _ => K
  | none => none
theorem z_nn_spec {r : Option Nat} {K : zR} {res : zO × zW} (h : z_nn r K = some res) : ∃ a, r = some a ∧ K = some res := by
  cases r with
  | none => cases h
  | some a => exact ⟨a, rfl, h⟩
theorem z_this_spec {w : zW} {ci : Nat} {r : Option Nat} {K : zR} {res : zO × zW} (h : z_this w ci r K = some res) : ∃ a fs, z_obj w ci r = some (a, fs) ∧ K = some res := by
  unfold z_this at h
  split at h
  · rename_i q hq
    exact ⟨q.1, q.2, hq, h⟩
  · cases h
def z_retZ (v : Int32) (w : zW) : zR := if v = 0 ∨ v = 1 then some (.inl (some (.int v)), w) else none
/-- what comes behind a call: an answer that P takes, or what was thrown goes on -/
def z_ans (r1 : zO × zW) (res : zO × zW) (P : Option Value → Prop) : Prop := (∃ v, r1.1 = .inl v ∧ P v) ∨ ∃ x, r1.1 = .inr x ∧ res = (.inr x, r1.2)
theorem z_cI_spec {x : zR} {K : Int32 → zW → zR} {res : zO × zW} (h : z_cI x K = some res) : ∃ (w1 : zW) (o1 : zO), x = some (o1, w1) ∧ z_ans (o1, w1) res (fun v => ∃ y : Int32, v = some (.int y) ∧ K y w1 = some res) := by
  unfold z_cI at h
  split at h
  · exact ⟨_, _, rfl, Or.inl ⟨_, rfl, _, rfl, h⟩⟩
  · cases h
    exact ⟨_, _, rfl, Or.inr ⟨_, rfl, rfl⟩⟩
  · cases h
theorem z_cL_spec {x : zR} {K : Int64 → zW → zR} {res : zO × zW} (h : z_cL x K = some res) : ∃ (w1 : zW) (o1 : zO), x = some (o1, w1) ∧ z_ans (o1, w1) res (fun v => ∃ y : Int64, v = some (.long y) ∧ K y w1 = some res) := by
  unfold z_cL at h
  split at h
  · exact ⟨_, _, rfl, Or.inl ⟨_, rfl, _, rfl, h⟩⟩
  · cases h
    exact ⟨_, _, rfl, Or.inr ⟨_, rfl, rfl⟩⟩
  · cases h
theorem z_cR_spec {x : zR} {K : Option Nat → zW → zR} {res : zO × zW} (h : z_cR x K = some res) : ∃ (w1 : zW) (o1 : zO), x = some (o1, w1) ∧ z_ans (o1, w1) res (fun v => ∃ y : Option Nat, v = some (va_rf y) ∧ K y w1 = some res) := by
  unfold z_cR at h
  split at h
  · exact ⟨_, _, rfl, Or.inl ⟨_, rfl, none, rfl, h⟩⟩
  · exact ⟨_, _, rfl, Or.inl ⟨_, rfl, some _, rfl, h⟩⟩
  · cases h
    exact ⟨_, _, rfl, Or.inr ⟨_, rfl, rfl⟩⟩
  · cases h
theorem z_cV_spec {x : zR} {K : zW → zR} {res : zO × zW} (h : z_cV x K = some res) : ∃ (w1 : zW) (o1 : zO), x = some (o1, w1) ∧ z_ans (o1, w1) res (fun v => v = none ∧ K w1 = some res) := by
  unfold z_cV at h
  split at h
  · exact ⟨_, _, rfl, Or.inl ⟨_, rfl, rfl, h⟩⟩
  · cases h
    exact ⟨_, _, rfl, Or.inr ⟨_, rfl, rfl⟩⟩
  · cases h
theorem z_rfc (r : Option Nat) : (va_rf r).category = 1 := by cases r <;> rfl
theorem z_rfn (n : String) (r : Option Nat) : narrow (.object n) (va_rf r) = va_rf r := by cases r <;> rfl
theorem z_rff (n : String) (r : Option Nat) : fits (.object n) (va_rf r) = true := by cases r <;> rfl
theorem z_rfnA (t : FieldType) (r : Option Nat) : narrow (.array t) (va_rf r) = va_rf r := by cases r <;> rfl
theorem z_rffA (t : FieldType) (r : Option Nat) : fits (.array t) (va_rf r) = true := by cases r <;> rfl
theorem z_tab {x : Int32} (n : Nat) (h : ∀ k : Nat, k ≤ n → ¬ x = nI k) : x.toInt < 0 ∨ (n : Int) < x.toInt := by
  rcases Int.lt_or_le x.toInt 0 with q | q
  · exact Or.inl q
  · right
    have hx : x = nI x.toInt.toNat := by
      apply Int32.toInt_inj.mp
      have hb := Int32.toInt_lt x
      rw [nI_toInt (by omega)]
      omega
    rcases Int.lt_or_le (n : Int) x.toInt with z | z
    · exact z
    · exact absurd hx (h _ (by omega))
section ZR3
variable {p : Program} {l : Launch} {e : Env} {R : Room} {s : State} {m : MethodId} {args : Array Value} {below : List Frame} {meth : Method} {c : Code} {H : Heap} {locs : List Loc} {cells slots : Nat} {Q : State → Prop} {cc : ByteArray} {pc nL : Nat} {ls : Array Slot} {rest : List Value} {G : zG} {w : zW} {own : String} {res : zO × zW}
theorem x_zret (hC : z_C G p e s m meth c cc nL own) {w0 : zW} (hc : R.cells = w0.2.1) (hs : R.slots = w0.2.2.1) (hZ : z_Z G R s w H locs cells slots) {v : Int32} (hr : meth.sig.returnType = some .boolean) (h : z_retZ v w = some res) (hd : decode cc pc = .ok (.ireturn, 1)) : W p l e R s m args below meth c H locs cells slots (z_Q G below s w0 res) (F0 m pc ls [.int v]) := by
  unfold z_retZ at h
  split at h
  · rename_i hv
    exact x_iret hC hc hs hZ hr (by rcases hv with rfl | rfl <;> rfl) h hd
  · cases h
theorem x_objInit (hC : z_C G p e s m meth c cc nL own) (hZ : z_Z G R s w H locs cells slots) {r : Option Nat} {a : Nat} (hr : r = some a) {idx : Nat} (hlink : Cond.methodLink own idx Lib.objectInit ∈ G.2.2.2.2.1) (ho : Cond.instanceMethod Lib.objectInit ∈ G.2.2.2.2.1 ∧ Cond.code Lib.objectInit ⟨#[0xb1]⟩ 1 none ∈ G.2.2.2.2.1) (hsz : ls.size = nL) (hd : decode cc pc = .ok (.invokespecial idx, 3)) (hframes : 1 ≤ R.frames) (hlocals : (rest.map fun v => v.category).sum + 12 ≤ R.locals)
    (kk : W p l e R s m args below meth c H locs cells slots Q (F0 m (pc + 3) ls rest)) : W p l e R s m args below meth c H locs cells slots Q (F0 m pc ls (va_rf r :: rest)) := by
  subst hr
  have hts := hZ.1.tb hC.2.2.2.2.2.2 args
  exact W.objInit hC.1 hC.2.1 hC.2.2.2.1 (hts _ hlink) (hts _ ho.1) (hts _ ho.2) rfl (by rw [hC.2.2.1]; exact hsz) rfl hd hframes (by show 2 * 0 + _ + _ ≤ _; omega) kk
theorem z_isA {U : State} {cell : Cell} {kA : Class} {comp : ClassId} {ty : FieldType} (h2 : ∀ k, cell.vm ≠ .statics k) (h4 : U.vm.classes[cell.cls]? = some kA) (h5 : kA.kind = .array comp ty) : U.isArrayOf cell ty := ⟨h2, kA, h4, comp, h5⟩
theorem x_len (hC : z_C G p e s m meth c cc nL own) (hZ : z_Z G R s w H locs cells slots) {r : Option Nat} {K : Int32 → zR} (h : z_len w r K = some res) (hd : decode cc pc = .ok (.arraylength, 1)) (kk : ∀ x : Int32, K x = some res → W p l e R s m args below meth c H locs cells slots Q (F0 m (pc + 1) ls (.int x :: rest))) : W p l e R s m args below meth c H locs cells slots Q (F0 m pc ls (va_rf r :: rest)) := by
  unfold z_len at h
  split at h
  · rename_i a
    split at h
    · rename_i t x hw
      obtain ⟨cell, kA, comp, h1, h2, h3, h4, h5, h6, h7, h8⟩ := (hZ.1.c a _ hw).2
      exact W.alen hC.1 hC.2.1 h1 (z_isA h2 h4 h5) (n := Int32.ofNat x.1) (by rw [h7]) rfl rfl hd (kk _ h)
    · cases h
  · cases h
theorem x_ldI (hC : z_C G p e s m meth c cc nL own) (hZ : z_Z G R s w H locs cells slots) {r : Option Nat} {i : Int32} {K : Int32 → zR} (h : z_ldI w .int r i K = some res) (hd : decode cc pc = .ok (.iaload, 1)) (kk : ∀ x : Int32, K x = some res → W p l e R s m args below meth c H locs cells slots Q (F0 m (pc + 1) ls (.int x :: rest))) : W p l e R s m args below meth c H locs cells slots Q (F0 m pc ls (.int i :: va_rf r :: rest)) := by
  unfold z_ldI at h
  split at h
  · rename_i a n f ho
    split at h
    · rename_i hi
      obtain ⟨rfl, hw⟩ := z_arr_spec ho
      obtain ⟨cell, kA, comp, h1, h2, h3, h4, h5, h6, h7, h8⟩ := (hZ.1.c a _ hw).2
      exact W.iald hC.1 hC.2.1 h1 (z_isA h2 h4 h5) h3 (by rw [h7]; exact hi) (h8 _ (Nat.not_le.mp fun q => hi (Or.inr q))) rfl rfl hd (kk _ h)
    · cases h
  · cases h
theorem x_ldZ (hC : z_C G p e s m meth c cc nL own) (hZ : z_Z G R s w H locs cells slots) {r : Option Nat} {i : Int32} {K : Int32 → zR} (h : z_ldI w .boolean r i K = some res) (hd : decode cc pc = .ok (.baload, 1)) (kk : ∀ x : Int32, K x = some res → W p l e R s m args below meth c H locs cells slots Q (F0 m (pc + 1) ls (.int x :: rest))) : W p l e R s m args below meth c H locs cells slots Q (F0 m pc ls (.int i :: va_rf r :: rest)) := by
  unfold z_ldI at h
  split at h
  · rename_i a n f ho
    split at h
    · rename_i hi
      obtain ⟨rfl, hw⟩ := z_arr_spec ho
      obtain ⟨cell, kA, comp, h1, h2, h3, h4, h5, h6, h7, h8⟩ := (hZ.1.c a _ hw).2
      exact W.zald hC.1 hC.2.1 h1 (z_isA h2 h4 h5) h3 (by rw [h7]; exact hi) (h8 _ (Nat.not_le.mp fun q => hi (Or.inr q))) rfl rfl hd (kk _ h)
    · cases h
  · cases h
theorem x_ldL (hC : z_C G p e s m meth c cc nL own) (hZ : z_Z G R s w H locs cells slots) {r : Option Nat} {i : Int32} {K : Int64 → zR} (h : z_ldL w r i K = some res) (hd : decode cc pc = .ok (.laload, 1)) (kk : ∀ x : Int64, K x = some res → W p l e R s m args below meth c H locs cells slots Q (F0 m (pc + 1) ls (.long x :: rest))) : W p l e R s m args below meth c H locs cells slots Q (F0 m pc ls (.int i :: va_rf r :: rest)) := by
  unfold z_ldL at h
  split at h
  · rename_i a n f ho
    split at h
    · rename_i hi
      obtain ⟨rfl, hw⟩ := z_arr_spec ho
      obtain ⟨cell, kA, comp, h1, h2, h3, h4, h5, h6, h7, h8⟩ := (hZ.1.c a _ hw).2
      exact W.lald hC.1 hC.2.1 h1 (z_isA h2 h4 h5) h3 (by rw [h7]; exact hi) (h8 _ (Nat.not_le.mp fun q => hi (Or.inr q))) rfl rfl hd (kk _ h)
    · cases h
  · cases h
theorem x_ldR (hC : z_C G p e s m meth c cc nL own) (hZ : z_Z G R s w H locs cells slots) {ty : FieldType} {r : Option Nat} {i : Int32} {K : Option Nat → zR} (h : z_ldR w ty r i K = some res) (hty : ty.isReference = true) (hd : decode cc pc = .ok (.aaload, 1)) (kk : ∀ x : Option Nat, K x = some res → W p l e R s m args below meth c H locs cells slots Q (F0 m (pc + 1) ls (va_rf x :: rest))) : W p l e R s m args below meth c H locs cells slots Q (F0 m pc ls (.int i :: va_rf r :: rest)) := by
  unfold z_ldR at h
  split at h
  · rename_i a n f ho
    split at h
    · rename_i hi
      obtain ⟨rfl, hw⟩ := z_arr_spec ho
      obtain ⟨cell, kA, comp, h1, h2, h3, h4, h5, h6, h7, h8⟩ := (hZ.1.c a _ hw).2
      exact W.aald hC.1 hC.2.1 h1 (z_isA h2 h4 h5) hty h3 (by rw [h7]; exact hi) (h8 _ (Nat.not_le.mp fun q => hi (Or.inr q))) rfl rfl hd (kk _ h)
    · cases h
  · cases h
/-- an array's cell behind a store -/
theorem z_oA.store {U : State} {H1 : Heap} {a : Nat} {ty : FieldType} {x x1 : vp_A} {j : Nat} {v : Value} {cell : Cell} {kA : Class} {comp : ClassId} (h2 : ∀ k, cell.vm ≠ .statics k) (h3 : cell.vm ≠ .unknown) (h4 : U.vm.classes[cell.cls]? = some kA) (h5 : kA.kind = .array comp ty) (h6 : z_cmp U ty comp) (h7 : cell.slots.size = x.1) (h8 : ∀ j, j < x.1 → cell.slots[j]? = some (z_xV x j)) (e1 : H1[a]? = some (cell.setSlot j v)) (hn : x1.1 = x.1) (hj : j < x.1) (hv : ∀ i, i < x.1 → z_xV x1 i = if i = j then v else z_xV x i) : z_oA U H1 a ty x1 := by
  refine ⟨_, kA, comp, e1, h2, h3, h4, h5, h6, ?_, fun i hi => ?_⟩
  · rw [hn, ← h7]; simp [Cell.setSlot]
  · rw [hn] at hi
    rw [hv i hi]
    by_cases hij : i = j
    · subst hij
      rw [if_pos rfl]
      simp [Cell.setSlot, h7, hj]
    · rw [if_neg hij, ← h8 i hi]
      simp [Cell.setSlot, Array.getElem?_setIfInBounds, Ne.symm hij]
theorem z_base {a : Nat} {ty : FieldType} {x : vp_A} (hZ : z_Z G R s w H locs cells slots) (hw : w.2.2.2 a = some (.inl (ty, x))) {j : Nat} (hj : j < x.1) : G.1 ≤ a := by
  rcases (hZ.1.c a _ hw).1 with q | ⟨t, y, q, q2⟩
  · exact q
  · cases q
    omega
theorem z_Z.st {a j : Nat} {ty : FieldType} {x x1 : vp_A} {v : Value} {cell : Cell} {kA : Class} {comp : ClassId} {H1 : Heap} (hZ : z_Z G R s w H locs cells slots) (hw : w.2.2.2 a = some (.inl (ty, x))) (h2 : ∀ k, cell.vm ≠ .statics k) (h3 : cell.vm ≠ .unknown) (h4 : s.vm.classes[cell.cls]? = some kA) (h5 : kA.kind = .array comp ty) (h6 : z_cmp s ty comp) (h7 : cell.slots.size = x.1) (h8 : ∀ j, j < x.1 → cell.slots[j]? = some (z_xV x j)) (e1 : H1[a]? = some (cell.setSlot j v)) (e2 : H1.size = H.size) (e3 : ∀ q, q ≠ a → H1[q]? = H[q]?) (hn : x1.1 = x.1) (hj : j < x.1) (hv : ∀ i, i < x.1 → z_xV x1 i = if i = j then v else z_xV x i) : z_Z G R s (z_set w a (.inl (ty, x1))) H1 (locs ++ [⟨a, j⟩]) cells slots := by
  have hb := z_base hZ hw hj
  refine ⟨hZ.1.set hw hb (e := .inl (ty, x1)) (z_oA.store h2 h3 h4 h5 h6 h7 h8 e1 hn hj hv) e2 e3, fun q hq => ?_, hZ.2.2⟩
  rcases List.mem_append.mp hq with q1 | q1
  · exact hZ.2.1 _ q1
  · rw [List.mem_singleton.mp q1]; exact hb
theorem x_stI (hC : z_C G p e s m meth c cc nL own) (hZ : z_Z G R s w H locs cells slots) {r : Option Nat} {i x : Int32} {K : zW → zR} (h : z_stI w r i x K = some res) (hd : decode cc pc = .ok (.iastore, 1)) (kk : ∀ (w : zW) (H : Heap) (locs : List Loc), z_Z G R s w H locs cells slots → K w = some res → W p l e R s m args below meth c H locs cells slots Q (F0 m (pc + 1) ls rest)) : W p l e R s m args below meth c H locs cells slots Q (F0 m pc ls (.int x :: .int i :: va_rf r :: rest)) := by
  unfold z_stI at h
  split at h
  · rename_i a n f ho
    split at h
    · rename_i hi
      obtain ⟨rfl, hw⟩ := z_arr_spec ho
      obtain ⟨cell, kA, comp, h1, h2, h3, h4, h5, h6, h7, h8⟩ := (hZ.1.c a _ hw).2
      have hlt : i.toNatClampNeg < n := Nat.not_le.mp fun q => hi (Or.inr q)
      refine W.iast hC.1 hC.2.1 h1 (z_isA h2 h4 h5) h3 (by rw [h7]; exact hi) rfl rfl hd fun H1 e1 e2 e3 => ?_
      refine kk _ _ _ (hZ.st (x1 := (n, .inl (upd f i.toNatClampNeg x))) hw h2 h3 h4 h5 h6 h7 h8 e1 e2 e3 rfl hlt (fun q _ => ?_)) h
      simp only [z_xV, upd]
      split <;> rfl
    · cases h
  · cases h
theorem x_stZ (hC : z_C G p e s m meth c cc nL own) (hZ : z_Z G R s w H locs cells slots) {r : Option Nat} {i x : Int32} {K : zW → zR} (h : z_stZ w r i x K = some res) (hd : decode cc pc = .ok (.bastore, 1)) (kk : ∀ (w : zW) (H : Heap) (locs : List Loc), z_Z G R s w H locs cells slots → K w = some res → W p l e R s m args below meth c H locs cells slots Q (F0 m (pc + 1) ls rest)) : W p l e R s m args below meth c H locs cells slots Q (F0 m pc ls (.int x :: .int i :: va_rf r :: rest)) := by
  unfold z_stZ at h
  split at h
  · rename_i a n f ho
    split at h
    · rename_i hi
      obtain ⟨hi, hx⟩ := hi
      obtain ⟨rfl, hw⟩ := z_arr_spec ho
      obtain ⟨cell, kA, comp, h1, h2, h3, h4, h5, h6, h7, h8⟩ := (hZ.1.c a _ hw).2
      have hlt : i.toNatClampNeg < n := Nat.not_le.mp fun q => hi (Or.inr q)
      refine W.zast hC.1 hC.2.1 h1 (z_isA h2 h4 h5) h3 (by rw [h7]; exact hi) rfl rfl hd fun H1 e1 e2 e3 => ?_
      have hnx : narrow .boolean (.int x) = .int x := by rcases hx with rfl | rfl <;> rfl
      rw [hnx] at e1
      refine kk _ _ _ (hZ.st (x1 := (n, .inl (upd f i.toNatClampNeg x))) hw h2 h3 h4 h5 h6 h7 h8 e1 e2 e3 rfl hlt (fun q _ => ?_)) h
      simp only [z_xV, upd]
      split <;> rfl
    · cases h
  · cases h
theorem x_stL (hC : z_C G p e s m meth c cc nL own) (hZ : z_Z G R s w H locs cells slots) {r : Option Nat} {i : Int32} {x : Int64} {K : zW → zR} (h : z_stL w r i x K = some res) (hd : decode cc pc = .ok (.lastore, 1)) (kk : ∀ (w : zW) (H : Heap) (locs : List Loc), z_Z G R s w H locs cells slots → K w = some res → W p l e R s m args below meth c H locs cells slots Q (F0 m (pc + 1) ls rest)) : W p l e R s m args below meth c H locs cells slots Q (F0 m pc ls (.long x :: .int i :: va_rf r :: rest)) := by
  unfold z_stL at h
  split at h
  · rename_i a n f ho
    split at h
    · rename_i hi
      obtain ⟨rfl, hw⟩ := z_arr_spec ho
      obtain ⟨cell, kA, comp, h1, h2, h3, h4, h5, h6, h7, h8⟩ := (hZ.1.c a _ hw).2
      have hlt : i.toNatClampNeg < n := Nat.not_le.mp fun q => hi (Or.inr q)
      refine W.last hC.1 hC.2.1 h1 (z_isA h2 h4 h5) h3 (by rw [h7]; exact hi) rfl rfl hd fun H1 e1 e2 e3 => ?_
      refine kk _ _ _ (hZ.st (x1 := (n, .inr (.inl (vp_updL f i.toNatClampNeg x)))) hw h2 h3 h4 h5 h6 h7 h8 e1 e2 e3 rfl hlt (fun q _ => ?_)) h
      simp only [z_xV, vp_updL]
      split <;> rfl
    · cases h
  · cases h
end ZR3
end
section
section ZR4
variable {p : Program} {l : Launch} {e : Env} {R : Room} {s : State} {m : MethodId} {args : Array Value} {below : List Frame} {meth : Method} {c : Code} {H : Heap} {locs : List Loc} {cells slots : Nat} {Q : State → Prop} {cc : ByteArray} {pc nL : Nat} {ls : Array Slot} {rest : List Value} {G : zG} {w : zW} {own : String} {res : zO × zW}
/-- from the invoking instruction on, when its linking is done: what the callee's contract gives -/
def z_Goes (G : zG) (p : Program) (l : Launch) (e : Env) (R : Room) (s : State) (m : MethodId) (args : Array Value) (below : List Frame) (meth : Method) (c : Code) (g : JFrame) (rest : List Value) (r1 : zO × zW) (T : State) : Prop :=
  ∃ (T' : State) (locs' : List Loc) (cells' slots' : Nat), Stand p l e R s m args below meth c T' locs' cells' slots' ∧ z_Z G R s r1.2 T'.heap locs' cells' slots' ∧
    (∀ v, r1.1 = .inl v → ∀ target, Steps p.tables e below (T'.setTop { g with pc := g.pc + 3, stack := v.toList ++ rest }) target → Steps p.tables e below (T.setTop g) target) ∧
    (∀ x, r1.1 = .inr x → ∀ target, Steps p.tables e below ((T'.setTop { g with stack := rest }).pushFrame (.throwing x)) target → Steps p.tables e below (T.setTop g) target)
/-- a method that has no handlers: an answer goes on behind the call, an exception leaves it too -/
theorem x_goes {w0 : zW} {r1 : zO × zW} {P : Option Value → Prop} {st0 : List Value} (hC : z_C G p e s m meth c cc nL own) (hc : R.cells = w0.2.1) (hs : R.slots = w0.2.2.1) (hx : c.exceptionTable.toList = []) (ha : z_ans r1 res P)
    (hg : ∀ T : State, T.heap = H → Stand p l e R s m args below meth c T locs cells slots → z_Goes G p l e R s m args below meth c (F0 m pc ls st0) rest r1 T)
    (kk : ∀ (v : Option Value), P v → ∀ (H : Heap) (locs : List Loc) (cells slots : Nat), z_Z G R s r1.2 H locs cells slots → W p l e R s m args below meth c H locs cells slots (z_Q G below s w0 res) (F0 m (pc + 3) ls (v.toList ++ rest))) : W p l e R s m args below meth c H locs cells slots (z_Q G below s w0 res) (F0 m pc ls st0) := by
  intro T hT X
  obtain ⟨T', locs', cells', slots', X', hZ', k1, k2⟩ := hg T hT X
  rcases ha with ⟨v, hv, hP⟩ | ⟨x, hx1, hres⟩
  · obtain ⟨t, a1, b1⟩ := kk v hP _ _ _ _ hZ' T' rfl X'
    exact ⟨t, k1 v hv t a1, b1⟩
  · subst hres
    obtain ⟨hwalk, hrun, hend, hW, hsm⟩ := X'.leaveThrown x (g := { F0 m pc ls st0 with stack := rest }) rfl rfl rfl (by rw [hx]; intro y hy; cases hy) hC.2.2.2.2.1
    refine ⟨_, k2 x hx1 _ hwalk, .threw x, hrun, hend, rfl, ?_, hW, locs', cells', slots', hsm, by rw [← hc]; exact hZ'.2.2.1, by rw [← hs]; exact hZ'.2.2.2, hZ'.2.1⟩
    exact hZ'.1.moved hC.2.2.2.2.2.2 hW
theorem z_goV (hC : z_C G p e s m meth c cc nL own) (hZ : z_Z G R s w H locs cells slots) {y : MethodName} {bytes : ByteArray} {ret : Option FieldType} {fr lo maxL ci : Nat} {r : Option Nat} {a : Nat} {fs : List Value} {As : List Value} {r1 : zO × zW} {T0 : u_T} {N0 : Nat} {ty0 : Nat → FieldType} (hcl : z_cls G ci y.cls T0 N0 ty0) (ho : z_obj w ci r = some (a, fs)) (hM : z_Ct G l y (.code y bytes maxL ret) fr lo (va_rf r :: As) w r1) {index : Nat} (hlink : Cond.methodLink own index y ∈ G.2.2.2.2.1) (hinst : Cond.instanceMethod y ∈ G.2.2.2.2.1) (hsel : Cond.selects y.cls y y ∈ G.2.2.2.2.1) (hini : Cond.initialized y.cls ∈ G.2.2.2.2.1) (hcode : Cond.code y bytes maxL ret ∈ G.2.2.2.2.1) (hy : y.cls ≠ "java/lang/invoke/MethodHandle" ∧ y.cls ≠ "java/lang/invoke/VarHandle" ∧ (parseMethodDescriptor y.desc).map (fun d => d.parameters.length) = some As.length)
    (hfr : fr + 1 ≤ R.frames) (hlo : 8 + (maxL + 11) + lo ≤ R.locals) (hsz : ls.size = nL) {st0 : List Value} (hst : st0 = As.reverse ++ va_rf r :: rest) (hW : (rest.map fun v => v.category).sum ≤ 8) (hd : decode cc pc = .ok (.invokevirtual index, 3)) :
    ∀ T : State, T.heap = H → Stand p l e R s m args below meth c T locs cells slots → z_Goes G p l e R s m args below meth c (F0 m pc ls st0) rest r1 T := by
  intro T hT X
  subst hT
  obtain ⟨rfl, hw⟩ := z_obj_spec ho
  have hts := hZ.1.tb hC.2.2.2.2.2.2 args
  obtain ⟨q, h1, cellB, q1, q2, q3, -⟩ := (hZ.1.c a _ hw).2
  have hq : q = (y.cls, T0, N0) := Option.some.inj (h1.symm.trans hcl.1)
  subst hq
  have hcls : s.vm.findClass y.cls = some cellB.cls := by rw [q2]; exact (hZ.1.k.1 ci _ hcl.1).2.1
  obtain ⟨mk, methM, hnamed, hmethM, hstM, habM⟩ := Cond.instanceMethod_spec (hts _ hinst)
  obtain ⟨methM', cM, hmethM', -, -, -, -, -, -, hsigM⟩ := Cond.code_spec hnamed (hts _ hcode)
  cases hmethM.symm.trans hmethM'
  obtain ⟨c2, r2, m2, p1, p2, p3, p4, kP, hkP, hkPi⟩ := Cond.selects_spec (hts _ hsel)
  cases hcls.symm.trans p1
  cases (State.methodFound?_of_named hnamed ⟨hy.1, hy.2.1⟩).symm.trans p2
  cases hnamed.symm.trans p3
  have hselP : selectMethod e.platform s.vm cellB.cls mk = .method mk := by rw [Launch.admits_selectMethod X.admits]; exact p4
  have hlen : As.length = methM.sig.parameters.length := by
    have h2 := hy.2.2
    rw [hsigM] at h2
    exact (Option.some.inj h2).symm
  obtain ⟨vm₁, X₁, hstep₁⟩ := X.invokevirtual hC.1 hC.2.2.2.1 (hts _ hlink) hnamed hmethM hstM hkP hkPi ⟨hy.1, hy.2.1⟩ (a := a) (cell := cellB) q1
    (fun z h => by rw [q3] at h; cases h) hselP hmethM habM hkP hkPi (g := F0 m pc ls st0) rfl (argsL := As) (rest := rest) hlen hst (by rw [hC.2.1]; exact hd)
  obtain ⟨T', locs', cells', slots', X', hZ', k1, k2⟩ := z_go hC.2.2.2.2.2.2 X₁ (w := w) (T := T.setVm vm₁) hZ hM z_hw_code hnamed hcode hini hfr hlo (g := { F0 m pc ls st0 with stack := rest }) rfl (by rw [hC.2.2.1]; exact hsz) (ig := .invokevirtual index) (by rw [hC.2.1]; exact hd) (by show 2 * 0 + (rest.map fun v => v.category).sum ≤ 8; omega)
  exact ⟨T', locs', cells', slots', X', hZ', fun v hv target h => hstep₁ _ fun acts => by rw [doInvoke_state]; exact (k1 v hv).trans h, fun x hx target h => hstep₁ _ fun acts => by rw [doInvoke_state]; exact (k2 x hx).trans h⟩
theorem z_goS (hC : z_C G p e s m meth c cc nL own) (hZ : z_Z G R s w H locs cells slots) {y : MethodName} {bytes : ByteArray} {ret : Option FieldType} {fr lo maxL : Nat} {As : List Value} {r1 : zO × zW} (hM : z_Ct G l y (.code y bytes maxL ret) fr lo As w r1) {index : Nat} (hlink : Cond.methodLink own index y ∈ G.2.2.2.2.1) (hstat : Cond.static y ∈ G.2.2.2.2.1) (hini : Cond.initialized y.cls ∈ G.2.2.2.2.1) (hcode : Cond.code y bytes maxL ret ∈ G.2.2.2.2.1) (hy : y.cls ≠ "java/lang/invoke/MethodHandle" ∧ y.cls ≠ "java/lang/invoke/VarHandle" ∧ (parseMethodDescriptor y.desc).map (fun d => d.parameters.length) = some As.length)
    (hfr : fr + 1 ≤ R.frames) (hlo : 8 + (maxL + 11) + lo ≤ R.locals) (hsz : ls.size = nL) {st0 : List Value} (hst : st0 = As.reverse ++ rest) (hW : (rest.map fun v => v.category).sum ≤ 8) (hd : decode cc pc = .ok (.invokestatic index, 3)) :
    ∀ T : State, T.heap = H → Stand p l e R s m args below meth c T locs cells slots → z_Goes G p l e R s m args below meth c (F0 m pc ls st0) rest r1 T := by
  intro T hT X
  subst hT
  have hts := hZ.1.tb hC.2.2.2.2.2.2 args
  obtain ⟨mk, hnamed⟩ := Cond.code_named (hts _ hcode)
  obtain ⟨methM, cM, hmethM, -, -, -, -, -, -, hsigM⟩ := Cond.code_spec hnamed (hts _ hcode)
  have hstatic : methM.isStatic = true := Cond.static_spec hnamed hmethM (hts _ hstat)
  obtain ⟨kP, hkP, -⟩ := className_of_methodNamed hnamed
  have hinitP : kP.init = .initialized := Cond.initialized_spec (findClass_of_methodNamed hnamed) hkP (hts _ hini)
  have hlen : As.length = methM.sig.parameters.length := by
    have h2 := hy.2.2
    rw [hsigM] at h2
    exact (Option.some.inj h2).symm
  obtain ⟨vm₁, X₁, hstep₁⟩ := X.invokestatic hC.1 hC.2.2.2.1 (hts _ hlink) hnamed hmethM hstatic hkP hinitP ⟨hy.1, hy.2.1⟩ (g := F0 m pc ls st0) rfl (argsL := As) (rest := rest) hlen hst (by rw [hC.2.1]; exact hd)
  obtain ⟨T', locs', cells', slots', X', hZ', k1, k2⟩ := z_go hC.2.2.2.2.2.2 X₁ (w := w) (T := T.setVm vm₁) hZ hM z_hw_code hnamed hcode hini hfr hlo (g := { F0 m pc ls st0 with stack := rest }) rfl (by rw [hC.2.2.1]; exact hsz) (ig := .invokestatic index) (by rw [hC.2.1]; exact hd) (by show 2 * 0 + (rest.map fun v => v.category).sum ≤ 8; omega)
  exact ⟨T', locs', cells', slots', X', hZ', fun v hv target h => hstep₁ _ fun acts => by rw [doInvoke_state]; exact (k1 v hv).trans h, fun x hx target h => hstep₁ _ fun acts => by rw [doInvoke_state]; exact (k2 x hx).trans h⟩
theorem z_goI (hC : z_C G p e s m meth c cc nL own) (hZ : z_Z G R s w H locs cells slots) {y : MethodName} {bytes : ByteArray} {fr lo maxL : Nat} {r : Option Nat} {a : Nat} (ho : r = some a) {As : List Value} {r1 : zO × zW} (hM : z_Ct G l y (.code y bytes maxL none) fr lo (va_rf r :: As) w r1) {index : Nat} (hlink : Cond.methodLink own index y ∈ G.2.2.2.2.1) (hinst : Cond.instanceMethod y ∈ G.2.2.2.2.1) (hini : Cond.initialized y.cls ∈ G.2.2.2.2.1) (hcode : Cond.code y bytes maxL none ∈ G.2.2.2.2.1) (hy1 : y.name = "<init>") (hy : y.cls ≠ "java/lang/invoke/MethodHandle" ∧ y.cls ≠ "java/lang/invoke/VarHandle" ∧ (parseMethodDescriptor y.desc).map (fun d => d.parameters.length) = some As.length)
    (hfr : fr + 1 ≤ R.frames) (hlo : 8 + (maxL + 11) + lo ≤ R.locals) (hsz : ls.size = nL) {st0 : List Value} (hst : st0 = As.reverse ++ va_rf r :: rest) (hW : (rest.map fun v => v.category).sum ≤ 8) (hd : decode cc pc = .ok (.invokespecial index, 3)) :
    ∀ T : State, T.heap = H → Stand p l e R s m args below meth c T locs cells slots → z_Goes G p l e R s m args below meth c (F0 m pc ls st0) rest r1 T := by
  intro T hT X
  subst hT
  subst ho
  have hts := hZ.1.tb hC.2.2.2.2.2.2 args
  have hpl : e.platform.magicAccessors = ({} : Platform).magicAccessors := by rw [X.admits.platform]
  have hlen : ∀ sig, parseMethodDescriptor y.desc = some sig → As.length = sig.parameters.length := fun sig h => by
    have h2 := hy.2.2
    rw [h] at h2
    exact (Option.some.inj h2).symm
  obtain ⟨mk, methM, cM, kP, vm₁, hnamed, hmethM, hcodeM, -, hlocalsM, -, hkP, -, hW₁, hstep₁⟩ := Steps.initColdArgs (e := e) X.here hC.1 X.warmed hpl hC.2.2.2.1 hy1 ⟨hy.1, hy.2.1⟩ (hts _ hlink) (hts _ hinst) (hts _ hcode) (f := F0 m pc ls st0) rfl hlen hst (by rw [hC.2.1]; exact hd)
  have X₁ := X.noted hW₁
  obtain ⟨T', locs', cells', slots', X', hZ', k1, k2⟩ := z_go hC.2.2.2.2.2.2 X₁ (w := w) (T := T.setVm vm₁) hZ hM z_hw_code hnamed hcode hini hfr hlo (g := { F0 m pc ls st0 with stack := rest }) rfl (by rw [hC.2.2.1]; exact hsz) (ig := .invokespecial index) (by rw [hC.2.1]; exact hd) (by show 2 * 0 + (rest.map fun v => v.category).sum ≤ 8; omega)
  exact ⟨T', locs', cells', slots', X', hZ', fun v hv target h => hstep₁ _ fun acts => by rw [doInvoke_state]; exact (k1 v hv).trans h, fun x hx target h => hstep₁ _ fun acts => by rw [doInvoke_state]; exact (k2 x hx).trans h⟩
end ZR4
/-- a contract out of the walk of a body -/
theorem z_ct {G : zG} {l : Launch} {y : MethodName} {cc : ByteArray} {nL : Nat} {ret : Option FieldType} {fr lo : Nat} {av : List Value} {w : zW} {res : zO × zW} (hT : z_TB G) (hfl : l.flags = pinnedFlags ++ [noTraceFlag]) (hy : plainName y.cls = true) (hsz : (lg_sl av).length ≤ nL)
    (body : ∀ (p : Program) (e : Env) (R : Room) (s : State) (m : MethodId) (args : Array Value) (below : List Frame) (meth : Method) (c : Code), z_C G p e s m meth c cc nL y.cls → meth.sig.returnType = ret → R.cells = w.2.1 → R.slots = w.2.2.1 → R.frames = fr ∧ R.locals = lo → meth.name = y.name → c.exceptionTable.toList = [] → ∀ (H : Heap) (ls : Array Slot), z_Z G R s w H [] 0 0 → lv_has ls nL (lv_args 0 av) → W p l e R s m args below meth c H [] 0 0 (z_Q G below s w res) (F0 m 0 ls [])) : z_Ct G l y (.code y cc nL ret) fr lo av w res := by
  unfold z_Ct
  refine MetFree.of_bodyS (code := cc) (maxLocals := nL) (ret := ret) hy ?_ ?_
  · intro args s m h hn
    obtain ⟨meth, c, h1, h2, h3, h4, h5, h6, -, -⟩ := Cond.code_spec hn (atoms_spec (ws := [.code y cc nL ret]) h _ (List.mem_singleton.mpr rfl))
    exact ⟨meth, c, h1, h2, h3, h4, h5, h6⟩
  · intro p e s m args below meth c s₁ B hml hP _
    obtain ⟨rfl, hP⟩ := hP
    have hh0 : s₁.heap = s.heap := by rw [B.state]; rfl
    have hl := lv_entry av hsz
    obtain ⟨meth', c', h1, h2, -, -, -, -, hemp, -⟩ := Cond.code_spec B.named (atoms_spec (ws := [.code y cc nL ret]) B.pre _ (List.mem_singleton.mpr rfl))
    have X := Stand.of_body B
    have hcc : c' = c := by
      have e1 := h1.symm.trans X.method
      cases e1
      exact Option.some.inj (h2.symm.trans X.code)
    subst hcc
    have hem : c'.exceptionTable.toList = [] := by
      have h0 : c'.exceptionTable.size = 0 := by simpa [Array.isEmpty] using hemp
      exact List.eq_nil_of_length_eq_zero (by simpa using h0)
    have key := body p e { frames := fr, cells := w.2.1, slots := w.2.2.1, locals := lo } s m av.toArray below meth c' ⟨B.exec, B.bytes, hml, findClass_of_methodNamed B.named, B.notSynchronized, Launch.traces_off hfl B.admits, hT⟩ B.returns rfl rfl ⟨rfl, rfl⟩ (name_of_methodNamed B.named B.method).1 hem s.heap _ ⟨hP, fun q h => (by cases h), Nat.zero_add _, Nat.zero_add _⟩ hl
    obtain ⟨t, a1, oc, b1, b2, b3⟩ := key s₁ hh0 X
    refine ⟨t, oc, ?_, b1, b2, b3⟩
    rw [lg_entry_eq]
    exact a1
end
section
section ZT
variable {p : Program} {l : Launch} {e : Env} {R : Room} {s : State} {m : MethodId} {args : Array Value} {below : List Frame} {meth : Method} {c : Code} {H : Heap} {locs : List Loc} {cells slots : Nat} {Q : State → Prop} {cc : ByteArray} {pc nL : Nat} {ls : Array Slot} {rest : List Value} {G : zG} {w : zW} {own : String} {res : zO × zW}
/-- the walk as if the invocation were made now -/
theorem z_rebase {T : State} (X : Stand p l e R s m args below meth c T locs cells slots) (hcl : cells ≤ R.cells) (hsl : slots ≤ R.slots) : Stand p l e { frames := R.frames, cells := R.cells - cells, slots := R.slots - slots, locals := R.locals } (T.setFrames (.invoking m args :: below)) m args below meth c T [] 0 0 := by
  obtain ⟨g₀, hfr⟩ := X.frames_eq
  have hcur : T.cur < T.threads.size := State.cur_lt_of_frames hfr
  have hf : (T.setFrames (.invoking m args :: below)).frames = .invoking m args :: below := State.frames_setFrames _ hcur
  obtain ⟨th, hth, -⟩ := State.frames_cons hfr
  have hr := X.room
  have hheap := X.heapSize
  have hused := X.used
  have hbook := X.book
  refine ⟨X.admits, X.cas, X.clock, hf, ?_, ?_, X.method', X.code, X.here, X.tail, State.WarmedH.refl _, by rw [State.stackLimits_setFrames], by rw [State.stackBytes_setFrames], ?_⟩
  · have h1 : (T.setFrames (.invoking m args :: below)).localsInUse = s.localsInUse := by
      rw [State.localsInUse_invoking X.frames X.method X.code, State.localsInUse_invoking hf (show (T.setFrames (.invoking m args :: below)).vm.method? m = some meth from X.method') X.code]
    have h2 : (T.setFrames (.invoking m args :: below)).frames.length = s.frames.length := by rw [hf, X.frames]
    have h3 : e.platform.stackLimits (T.setFrames (.invoking m args :: below)).me = e.platform.stackLimits s.me := by rw [State.stackLimits_setFrames]; exact X.limits
    have h4 : (T.setFrames (.invoking m args :: below)).me.stackBytes = s.me.stackBytes := by rw [State.stackBytes_setFrames]; exact X.bytes
    simp only [State.hasRoom, Bool.and_eq_true, decide_eq_true_eq] at hr ⊢
    rw [h1, h2, h3, h4]
    refine ⟨⟨⟨hr.1.1.1, ?_⟩, ?_⟩, hbook⟩
    · show T.heap.size + (R.cells - cells) ≤ _
      have := hr.1.1.2
      omega
    · show T.slotsUsed + (R.slots - slots) ≤ _
      have := hr.1.2
      omega
  · have hh := X.hears
    have hm : ∀ q, T.vm.method? q = s.vm.method? q := X.warmed.alike.method?
    cases below with
    | nil =>
      simp only [State.hears] at hh ⊢
      rw [show (T.setFrames [.invoking m args]).vm.method? m = s.vm.method? m from hm m]
      exact hh
    | cons f r =>
      cases f <;> simp only [State.hears, State.code?_eq] at hh ⊢ <;> first | (rw [show ∀ x, (T.setFrames x).vm.method? _ = s.vm.method? _ from fun _ => hm _]; exact hh) | exact hh
  · have h := (State.sameButNew.refl T hth)
    have h2 : (T.setFrames (.invoking m args :: below)).sameButNew T [] 0 0 := by
      obtain ⟨e1, e2, e3, e4, e5, e6⟩ := h
      refine ⟨?_, e2, e3, e4, e5, e6⟩
      rw [State.setFrames_setFrames, State.setFrames_self hth]
    exact h2
end ZT
end
section
section ZR6
variable {p : Program} {l : Launch} {e : Env} {R : Room} {s : State} {m : MethodId} {args : Array Value} {below : List Frame} {meth : Method} {c : Code} {H : Heap} {locs : List Loc} {cells slots : Nat} {Q : State → Prop} {cc : ByteArray} {pc nL : Nat} {ls : Array Slot} {rest : List Value} {G : zG} {w : zW} {own : String} {res : zO × zW}
theorem z_Z.newa {ty : FieldType} {x : vp_A} {cA : ClassId} {kA : Class} {comp : ClassId} {H1 : Heap} {v : Value} (hZ : z_Z G R s w H locs cells slots) (h1 : 1 ≤ w.2.1) (h2 : x.1 ≤ w.2.2.1) (e1 : H1[w.1]? = some { cls := cA, slots := Array.replicate x.1 v, vm := .none }) (hz : H1.size = H.size + 1) (o1 : ∀ q, q < H.size → H1[q]? = H[q]?) (f2 : s.vm.classes[cA]? = some kA) (f3 : kA.kind = .array comp ty) (f4 : z_cmp s ty comp) (hv : ∀ j, j < x.1 → z_xV x j = v) : z_Z G R s (z_push w x.1 (.inl (ty, x))) H1 locs (cells + 1) (slots + x.1) := by
  have h3 := hZ.2.2.1
  have h4 := hZ.2.2.2
  refine ⟨hZ.1.push (n := x.1) (e := .inl (ty, x)) ⟨_, kA, comp, e1, fun k h => (by cases h), fun h => (by cases h), f2, f3, f4, by simp, fun j hj => ?_⟩ hz o1, hZ.2.1, ?_, ?_⟩
  · rw [hv j hj]
    simp [hj]
  · show cells + 1 + (w.2.1 - 1) = R.cells
    omega
  · show slots + x.1 + (w.2.2.1 - x.1) = R.slots
    omega
theorem x_newaX {ty : FieldType} {atype : ArrayType} (hty : newarray.typeOf atype = ty) (hcmp : ∀ comp, z_cmp s ty comp) (hC : z_C G p e s m meth c cc nL own) (hZ : z_Z G R s w H locs cells slots) {n : Int32} {x : Nat → vp_A} (hx : ∀ k, (x k).1 = k ∧ ∀ j, z_xV (x k) j = defaultValue ty) (hby : ∀ k, k ≤ 65536 → k * componentBytes ty ≤ 536870912) {K : Nat → zW → zR} (h : z_newa w ty n x K = some res) (harr : Cond.arrayClass ty ∈ G.2.2.2.2.1) (hd : decode cc pc = .ok (.newarray atype, 2))
    (kk : ∀ (a : Nat) (w : zW) (H : Heap) (cells slots : Nat), z_Z G R s w H locs cells slots → K a w = some res → W p l e R s m args below meth c H locs cells slots Q (F0 m (pc + 2) ls (va_rf (some a) :: rest))) : W p l e R s m args below meth c H locs cells slots Q (F0 m pc ls (.int n :: rest)) := by
  subst hty
  unfold z_newa at h
  split at h
  · rename_i hr
    have hts := hZ.1.tb hC.2.2.2.2.2.2 args
    have h3 := hZ.2.2.1
    have h4 := hZ.2.2.2
    have hn := (hx n.toNatClampNeg).1
    refine W.newa hC.1 hC.2.1 (hts _ harr) rfl hd rfl hr.1 (hby _ hr.2.1) (by omega) (by omega) fun cA kA comp f1 f2 f3 => ?_
    rw [hZ.1.n]
    have key := hZ.newa (ty := newarray.typeOf atype) (x := x n.toNatClampNeg) (cA := cA) (v := defaultValue (newarray.typeOf atype)) (H1 := H.push { cls := cA, slots := Array.replicate n.toNatClampNeg (defaultValue (newarray.typeOf atype)), vm := .none }) hr.2.2.1 (by rw [hn]; exact hr.2.2.2) (by rw [← hZ.1.n, hn, Array.getElem?_push_size]) (by simp) (fun q hq => by rw [Array.getElem?_push, if_neg (Nat.ne_of_lt hq)]) f2 f3 (hcmp comp) (fun j _ => (hx n.toNatClampNeg).2 j)
    rw [hn] at key
    exact kk w.1 _ _ _ _ key h
  · cases h
theorem x_newaI (hC : z_C G p e s m meth c cc nL own) (hZ : z_Z G R s w H locs cells slots) {n : Int32} {K : Nat → zW → zR} (h : z_newa w .int n (fun n => (n, .inl fun _ => 0)) K = some res) (harr : Cond.arrayClass .int ∈ G.2.2.2.2.1) (hd : decode cc pc = .ok (.newarray .int, 2))
    (kk : ∀ (a : Nat) (w : zW) (H : Heap) (cells slots : Nat), z_Z G R s w H locs cells slots → K a w = some res → W p l e R s m args below meth c H locs cells slots Q (F0 m (pc + 2) ls (va_rf (some a) :: rest))) : W p l e R s m args below meth c H locs cells slots Q (F0 m pc ls (.int n :: rest)) :=
  x_newaX (ty := .int) (atype := .int) (x := fun n => (n, .inl fun _ => 0)) rfl (fun _ => trivial) hC hZ (fun _ => ⟨rfl, fun _ => rfl⟩) (fun k hk => by show k * 4 ≤ _; omega) h harr hd kk
theorem x_newaZ (hC : z_C G p e s m meth c cc nL own) (hZ : z_Z G R s w H locs cells slots) {n : Int32} {K : Nat → zW → zR} (h : z_newa w .boolean n (fun n => (n, .inl fun _ => 0)) K = some res) (harr : Cond.arrayClass .boolean ∈ G.2.2.2.2.1) (hd : decode cc pc = .ok (.newarray .boolean, 2))
    (kk : ∀ (a : Nat) (w : zW) (H : Heap) (cells slots : Nat), z_Z G R s w H locs cells slots → K a w = some res → W p l e R s m args below meth c H locs cells slots Q (F0 m (pc + 2) ls (va_rf (some a) :: rest))) : W p l e R s m args below meth c H locs cells slots Q (F0 m pc ls (.int n :: rest)) :=
  x_newaX (ty := .boolean) (atype := .boolean) (x := fun n => (n, .inl fun _ => 0)) rfl (fun _ => trivial) hC hZ (fun _ => ⟨rfl, fun _ => rfl⟩) (fun k hk => by show k * 1 ≤ _; omega) h harr hd kk
theorem x_newaJ (hC : z_C G p e s m meth c cc nL own) (hZ : z_Z G R s w H locs cells slots) {n : Int32} {K : Nat → zW → zR} (h : z_newa w .long n (fun n => (n, .inr (.inl fun _ => 0))) K = some res) (harr : Cond.arrayClass .long ∈ G.2.2.2.2.1) (hd : decode cc pc = .ok (.newarray .long, 2))
    (kk : ∀ (a : Nat) (w : zW) (H : Heap) (cells slots : Nat), z_Z G R s w H locs cells slots → K a w = some res → W p l e R s m args below meth c H locs cells slots Q (F0 m (pc + 2) ls (va_rf (some a) :: rest))) : W p l e R s m args below meth c H locs cells slots Q (F0 m pc ls (.int n :: rest)) :=
  x_newaX (ty := .long) (atype := .long) (x := fun n => (n, .inr (.inl fun _ => 0))) rfl (fun _ => trivial) hC hZ (fun _ => ⟨rfl, fun _ => rfl⟩) (fun k hk => by show k * 8 ≤ _; omega) h harr hd kk
theorem x_anew (hC : z_C G p e s m meth c cc nL own) (hZ : z_Z G R s w H locs cells slots) {C : String} {n : Int32} {K : Nat → zW → zR} (h : z_newa w (.object C) n (fun n => (n, .inr (.inr (.inr (.inr fun _ => none))))) K = some res) {index : Nat} (hcl : Cond.classLink own index C ∈ G.2.2.2.2.1) (hov : Cond.arrayOver (.object C) ∈ G.2.2.2.2.1) (hd : decode cc pc = .ok (.anewarray index, 3))
    (kk : ∀ (a : Nat) (w : zW) (H : Heap) (cells slots : Nat), z_Z G R s w H locs cells slots → K a w = some res → W p l e R s m args below meth c H locs cells slots Q (F0 m (pc + 3) ls (va_rf (some a) :: rest))) : W p l e R s m args below meth c H locs cells slots Q (F0 m pc ls (.int n :: rest)) := by
  unfold z_newa at h
  split at h
  · rename_i hr
    have hts := hZ.1.tb hC.2.2.2.2.2.2 args
    have h3 := hZ.2.2.1
    have h4 := hZ.2.2.2
    refine W.anew hC.1 hC.2.1 hC.2.2.2.1 (hts _ hcl) (hts _ hov) rfl hd rfl hr.1 (by omega) (by omega) (by omega) fun cA kA comp f1 f2 f3 f4 => ?_
    rw [hZ.1.n]
    exact kk w.1 _ _ _ _ (hZ.newa (ty := .object C) (x := (n.toNatClampNeg, .inr (.inr (.inr (.inr fun _ => none))))) (cA := cA) (v := .null) (H1 := H.push { cls := cA, slots := Array.replicate n.toNatClampNeg .null, vm := .none }) hr.2.2.1 hr.2.2.2 (by rw [← hZ.1.n, Array.getElem?_push_size]) (by simp) (fun q hq => by rw [Array.getElem?_push, if_neg (Nat.ne_of_lt hq)]) f2 f3 f4 (fun _ _ => rfl)) h
  · cases h
theorem x_null (hC : z_C G p e s m meth c cc nL own) (hd : decode cc pc = .ok (.aconst_null, 1)) (kk : W p l e R s m args below meth c H locs cells slots Q (F0 m (pc + 1) ls (va_rf none :: rest))) : W p l e R s m args below meth c H locs cells slots Q (F0 m pc ls rest) := lv_null hC.1 hC.2.1 hd kk
end ZR6
end
section
/-- a cast to the class cj: null, or an object of it -/
def z_cast (w : zW) (cj : Nat) (r : Option Nat) (K : zR) : zR := if r = none ∨ (z_obj w cj r).isSome = true then K else none
section ZR7
variable {p : Program} {l : Launch} {e : Env} {R : Room} {s : State} {m : MethodId} {args : Array Value} {below : List Frame} {meth : Method} {c : Code} {H : Heap} {locs : List Loc} {cells slots : Nat} {Q : State → Prop} {cc : ByteArray} {pc nL : Nat} {ls : Array Slot} {rest : List Value} {G : zG} {w : zW} {own : String} {res : zO × zW}
theorem z_isO {cj a : Nat} (h : (z_obj w cj (some a)).isSome = true) : ∃ fs, w.2.2.2 a = some (.inr (cj, fs)) := by
  obtain ⟨q, hq⟩ := Option.isSome_iff_exists.mp h
  obtain ⟨e0, hw⟩ := z_obj_spec (a := q.1) (fs := q.2) hq
  cases e0
  exact ⟨q.2, hw⟩
theorem z_recv {cj a : Nat} {fs : List Value} {C : String} {T : u_T} {N : Nat} (hZ : z_Z G R s w H locs cells slots) (hc : G.2.2.2.1[cj]? = some (C, T, N)) (hw : w.2.2.2 a = some (.inr (cj, fs))) : ∃ cell : Cell, H[a]? = some cell ∧ cell.vm = .none ∧ s.vm.findClass C = some cell.cls := by
  obtain ⟨q, h1, cell, q1, q2, q3, -⟩ := (hZ.1.c a _ hw).2
  exact ⟨cell, q1, q3, by rw [q2]; exact (hZ.1.k.1 cj _ hc).2.1⟩
theorem x_cast (hC : z_C G p e s m meth c cc nL own) (hZ : z_Z G R s w H locs cells slots) {cj : Nat} {C : String} {T : u_T} {N : Nat} {ty : Nat → FieldType} (hc : z_cls G cj C T N ty) {r : Option Nat} {K : zR} (h : z_cast w cj r K = some res) {index : Nat} (hlink : Cond.classLink own index C ∈ G.2.2.2.2.1) (hd : decode cc pc = .ok (.checkcast index, 3))
    (kk : K = some res → W p l e R s m args below meth c H locs cells slots Q (F0 m (pc + 3) ls (va_rf r :: rest))) : W p l e R s m args below meth c H locs cells slots Q (F0 m pc ls (va_rf r :: rest)) := by
  unfold z_cast at h
  split at h
  · rename_i hr
    have hts := hZ.1.tb hC.2.2.2.2.2.2 args
    cases r with
    | none => exact lv_castN hC.1 hC.2.1 hd (kk h)
    | some a =>
      rcases hr with hr | hr
      · cases hr
      · obtain ⟨fs, hw⟩ := z_isO hr
        obtain ⟨cell, g1, g2, g3⟩ := z_recv hZ hc.1 hw
        exact va_castS hC.1 hC.2.1 hC.2.2.2.1 (hts _ hlink) (hZ.1.k.1 cj _ hc.1).2 ⟨cell, g1, by rw [g2]; rfl, g3⟩ hd (kk h)
  · cases h
/-- a reference into an array whose components take the class C -/
theorem x_stR (hC : z_C G p e s m meth c cc nL own) (hZ : z_Z G R s w H locs cells slots) {E : String} {cj : Nat} {C : String} {T : u_T} {N : Nat} {ty : Nat → FieldType} (hc : z_cls G cj C T N ty) {r : Option Nat} {i : Int32} {v : Option Nat} {K : zW → zR} (h : z_stR w (.object E) cj r i v K = some res) (hca : Cond.castable C E ∈ G.2.2.2.2.1 ∨ C = E) (hd : decode cc pc = .ok (.aastore, 1))
    (kk : ∀ (w : zW) (H : Heap) (locs : List Loc), z_Z G R s w H locs cells slots → K w = some res → W p l e R s m args below meth c H locs cells slots Q (F0 m (pc + 1) ls rest)) : W p l e R s m args below meth c H locs cells slots Q (F0 m pc ls (va_rf v :: .int i :: va_rf r :: rest)) := by
  unfold z_stR at h
  split at h
  · rename_i a n f ho
    split at h
    · rename_i hi
      obtain ⟨hi, hv⟩ := hi
      obtain ⟨rfl, hw⟩ := z_arr_spec ho
      have hts := hZ.1.tb hC.2.2.2.2.2.2 args
      obtain ⟨cell, kA, comp, h1, h2, h3, h4, h5, h6, h7, h8⟩ := (hZ.1.c a _ hw).2
      have hlt : i.toNatClampNeg < n := Nat.not_le.mp fun q => hi (Or.inr q)
      have h6 : s.vm.findClass E = some comp := h6
      cases v with
      | none =>
        refine va_WaastN (C := E) hC.1 hC.2.1 h1 (z_isA h2 h4 h5) h3 (by rw [h7]; exact hi) rfl rfl hd fun H1 e1 e2 e3 => ?_
        refine kk _ _ _ (hZ.st (x1 := (n, .inr (.inr (.inr (.inr (va_up f i.toNatClampNeg none)))))) hw h2 h3 h4 h5 h6 h7 h8 e1 e2 e3 rfl hlt (fun q _ => ?_)) h
        simp only [z_xV, va_up]
        split <;> rfl
      | some b =>
        rcases hv with hv | hv
        · cases hv
        · obtain ⟨fs, hwb⟩ := z_isO hv
          obtain ⟨cv, g1, g2, g3⟩ := z_recv hZ hc.1 hwb
          obtain ⟨kE, hkE, -⟩ := Vm.findClass_spec h6
          obtain ⟨kC, hkC, -⟩ := Vm.findClass_spec g3
          have has : s.vm.assignable cv.cls comp = true := by
            rcases hca with hca | hca
            · obtain ⟨c0, t1, f1, f2, f3⟩ := Cond.castable_spec (hts _ hca)
              cases g3.symm.trans f1
              cases h6.symm.trans f2
              exact f3
            · subst hca
              cases g3.symm.trans h6
              exact va_asg _ _
          refine W.aast hC.1 hC.2.1 h1 h2 h3 h4 h5 rfl hkE ⟨fun q => hi (Or.inl q), by rw [h7]; exact hlt⟩ g1 (fun q hq => by rw [g2] at hq; cases hq) hkC has rfl rfl hd fun H1 e1 e2 e3 => ?_
          refine kk _ _ _ (hZ.st (x1 := (n, .inr (.inr (.inr (.inr (va_up f i.toNatClampNeg (some b))))))) hw h2 h3 h4 h5 h6 h7 h8 e1 e2 e3 rfl hlt (fun q _ => ?_)) h
          simp only [z_xV, va_up]
          split <;> rfl
    · cases h
  · cases h
/-- a static field that nobody writes -/
theorem x_gets (hC : z_C G p e s m meth c cc nL own) (hZ : z_Z G R s w H locs cells slots) {C n d : String} {v : Value} (hin : (C, n, d, v) ∈ G.2.2.2.2.2) {index : Nat} (hlink : Cond.fieldLink own index C n d ∈ G.2.2.2.2.1) (hd : decode cc pc = .ok (.getstatic index, 3)) (kk : W p l e R s m args below meth c H locs cells slots Q (F0 m (pc + 3) ls (v :: rest))) : W p l e R s m args below meth c H locs cells slots Q (F0 m pc ls rest) := by
  have hts := hZ.1.tb hC.2.2.2.2.2.2 args
  obtain ⟨cf, kf, fi, f, a, cell, h1, h2, h3, h4, h5, h6, h7, h8⟩ := (hZ.1.z _ hin).1
  exact W.gets hC.1 hC.2.1 hC.2.2.2.1 (hts _ hlink) h1 h2 h3 h4 (by rw [hZ.1.o a (Nat.not_le.mp h8)]; exact h5) (fun e0 => by rw [e0] at h6; cases h6) h7 rfl hd kk
theorem x_getsR (hC : z_C G p e s m meth c cc nL own) (hZ : z_Z G R s w H locs cells slots) {C n d : String} {X : Nat} (hin : (C, n, d, Value.ref X) ∈ G.2.2.2.2.2) {index : Nat} (hlink : Cond.fieldLink own index C n d ∈ G.2.2.2.2.1) (hd : decode cc pc = .ok (.getstatic index, 3)) (kk : W p l e R s m args below meth c H locs cells slots Q (F0 m (pc + 3) ls (va_rf (some X) :: rest))) : W p l e R s m args below meth c H locs cells slots Q (F0 m pc ls rest) := x_gets hC hZ hin hlink hd kk
/-- a constructor that is private to a nest mate -/
theorem z_goIN (hC : z_C G p e s m meth c cc nL own) (hZ : z_Z G R s w H locs cells slots) {y : MethodName} {bytes : ByteArray} {fr lo maxL : Nat} {r : Option Nat} {a : Nat} (ho : r = some a) {As : List Value} {r1 : zO × zW} (hM : z_Ct G l y (.code y bytes maxL none) fr lo (va_rf r :: As) w r1) {index : Nat} {host : String} (hlink : Cond.methodLinkNest own index y host ∈ G.2.2.2.2.1) (hinst : Cond.instanceMethod y ∈ G.2.2.2.2.1) (hini : Cond.initialized y.cls ∈ G.2.2.2.2.1) (hcode : Cond.code y bytes maxL none ∈ G.2.2.2.2.1) (hy1 : y.name = "<init>") (hy : y.cls ≠ "java/lang/invoke/MethodHandle" ∧ y.cls ≠ "java/lang/invoke/VarHandle" ∧ (parseMethodDescriptor y.desc).map (fun d => d.parameters.length) = some As.length)
    (hfr : fr + 1 ≤ R.frames) (hlo : 8 + (maxL + 11) + lo ≤ R.locals) (hsz : ls.size = nL) {st0 : List Value} (hst : st0 = As.reverse ++ va_rf r :: rest) (hW : (rest.map fun v => v.category).sum ≤ 8) (hd : decode cc pc = .ok (.invokespecial index, 3)) :
    ∀ T : State, T.heap = H → Stand p l e R s m args below meth c T locs cells slots → z_Goes G p l e R s m args below meth c (F0 m pc ls st0) rest r1 T := by
  intro T hT X
  subst hT
  subst ho
  have hts := hZ.1.tb hC.2.2.2.2.2.2 args
  have hpl : e.platform.magicAccessors = ({} : Platform).magicAccessors := by rw [X.admits.platform]
  have hlen : ∀ sig, parseMethodDescriptor y.desc = some sig → As.length = sig.parameters.length := fun sig h => by
    have h2 := hy.2.2
    rw [h] at h2
    exact (Option.some.inj h2).symm
  obtain ⟨mk, methM, cM, kP, vm₁, hnamed, hmethM, hcodeM, -, hlocalsM, -, hkP, -, hW₁, hstep₁⟩ := Steps.initColdArgsNest (e := e) X.here hC.1 X.warmed hpl hC.2.2.2.1 hy1 ⟨hy.1, hy.2.1⟩ (hts _ hlink) (hts _ hinst) (hts _ hcode) (f := F0 m pc ls st0) rfl hlen hst (by rw [hC.2.1]; exact hd)
  have X₁ := X.noted hW₁
  obtain ⟨T', locs', cells', slots', X', hZ', k1, k2⟩ := z_go hC.2.2.2.2.2.2 X₁ (w := w) (T := T.setVm vm₁) hZ hM z_hw_code hnamed hcode hini hfr hlo (g := { F0 m pc ls st0 with stack := rest }) rfl (by rw [hC.2.2.1]; exact hsz) (ig := .invokespecial index) (by rw [hC.2.1]; exact hd) (by show 2 * 0 + (rest.map fun v => v.category).sum ≤ 8; omega)
  exact ⟨T', locs', cells', slots', X', hZ', fun v hv target h => hstep₁ _ fun acts => by rw [doInvoke_state]; exact (k1 v hv).trans h, fun x hx target h => hstep₁ _ fun acts => by rw [doInvoke_state]; exact (k2 x hx).trans h⟩
end ZR7
end
section
theorem z_ok_ao {C : String} : z_ok (.arrayOver (.object C)) := fun _ _ _ _ hW hb => va_AO.use (va_AO.moved hW.alike (va_AO.of hb))
theorem z_ok_str {o : String} {k : Nat} {t : String} : z_ok (.stringRef o k t) := fun a a' s U hW hb => by
  have h1 : (Cond.stringRef o k t).before a (s.setVm U.vm) = true := Cond.stringRef_warmed hW hb
  have hv : (s.setVm U.vm).vm = U.vm := rfl
  first
    | exact va_tabs rfl hv h1
    | (simp only [Cond.before, Cond.holds, Cond.value, State.names, State.poolOf?, State.resolvedAt?, hv] at h1 ⊢; exact h1)
theorem z_ok_dec {x : MethodName} : z_ok (.declares x) := fun a a' s U hW hb => by
  have h1 : (Cond.declares x).before a (s.setVm U.vm) = true := by rw [Cond.declares_setVm hW.alike]; exact hb
  exact va_tabs rfl (rfl : (s.setVm U.vm).vm = U.vm) h1
theorem z_isls {args : Array Value} {C n d : String} {b : Nat} {U : State} {H0 : Heap} (h : z_LS C n d b U H0) (hq : ∀ q, ¬ b ≤ q → U.heap[q]? = H0[q]?) : (Cond.laysStatic C n d).before args U = true := by
  obtain ⟨c, k, i, f, a, cell, h1, h2, h3, h4, h5, h6, h7, h8, h9, h10⟩ := h
  exact Cond.laysStatic_of h1 h2 h3 h4 ((hq a (Nat.not_le.mpr h10)).trans h5) h6 h7 h8 h9
theorem z_isref {args : Array Value} {C n d : String} {v : Value} {A : Nat → Prop} {U : State} {H0 : Heap} (h : va_Z C n d v A U H0) (hv : v.isRef = true) (hq : ∀ q, ¬ A q → U.heap[q]? = H0[q]?) : (Cond.isRef (.static C n d)).before args U = true := by
  obtain ⟨cf, kf, fi, f, a, cell, h1, h2, h3, h4, h5, h6, h7, h8⟩ := h
  have h5' : U.heap[a]? = some cell := (hq a h8).trans h5
  cases v <;> simp [Value.isRef] at hv <;> simp [Cond.before, Cond.holds, Cond.value, Term.eval, State.fieldNamed?, h1, h2, h4, h5', h6, h7]
section ZLW
variable {p : Program} {l : Launch} {e : Env} {R : Room} {s : State} {m : MethodId} {args : Array Value} {below : List Frame} {meth : Method} {c : Code} {T : State} {locs : List Loc} {cells slots : Nat}
/-- a String constant by its wide instruction, resolved already -/
theorem z_ldcW (X : Stand p l e R s m args below meth c T locs cells slots) (hexec : p.tables.exec = Jvm.exec) {own text : String} {index : Nat} {a : Addr} (hown : s.vm.findClass own = some m.cls) (hconst : (Cond.stringRef own index text).before args s = true) (hev : (Term.string own index).eval args s none [] s = some (.ref a)) {g : JFrame} (hg : g.method = m) (hdg : decode c.code g.pc = .ok (.ldc_w index, 3)) :
    ∀ target, Steps p.tables e below (T.setTop { g with pc := g.pc + 3, stack := .ref a :: g.stack }) target → Steps p.tables e below (T.setTop g) target := by
  obtain ⟨k, cf, i, a', hk, hcf, hcp, -, hr, hev'⟩ := Cond.stringRef_spec hown hconst
  cases hev.symm.trans hev'
  obtain ⟨k', hk', he⟩ := X.warmed.alike.2.2 _ _ hk
  have hr' : k'.resolved[index]? = some (some (.string a)) := by
    rcases X.warmed.entry hk hk' index with h | ⟨h, -⟩
    · rw [h]; exact hr
    · rw [hr] at h; cases h
  intro target hrest
  subst hg
  jvm_step X.here [hexec, hdg, ldc_w.wp_string (e := e) (s := T) (f := g) X.here.top hk' (by rw [he]; exact hcf) hcp hr']
  exact hrest
end ZLW
section ZR8
variable {p : Program} {l : Launch} {e : Env} {R : Room} {s : State} {m : MethodId} {args : Array Value} {below : List Frame} {meth : Method} {c : Code} {H : Heap} {locs : List Loc} {cells slots : Nat} {Q : State → Prop} {cc : ByteArray} {pc nL : Nat} {ls : Array Slot} {rest : List Value} {G : zG} {w : zW} {own : String} {res : zO × zW}
set_option maxHeartbeats 1000000 in
/-- a new exception is made with a constant text, and thrown; the method has no handlers -/
theorem x_thr {w0 : zW} (hC : z_C G p e s m meth c cc nL own) (hRc : R.cells = w0.2.1) (hRs : R.slots = w0.2.2.1) (hx : c.exceptionTable.toList = []) (hZ : z_Z G R s w H locs cells slots) {ci : Nat} {C : String} {T0 : u_T} (hcl : G.2.2.2.1[ci]? = some (C, T0, 0)) (h : z_thr w ci = some res) {ia ib ic : Nat} {tx : String} {names : List String} {vu vs : Value} (hu : (Bundle.tN, "UNASSIGNED_STACK", Bundle.steD, vu) ∈ G.2.2.2.2.2 ∧ vu.isRef = true) (hse : (Bundle.tN, "SUPPRESSED_SENTINEL", Bundle.listD, vs) ∈ G.2.2.2.2.2 ∧ vs.isRef = true) (hfit : Bundle.fit C = true) (hnames : ∀ n ∈ names, Bundle.fit n = true)
    (hat : ∀ x ∈ Bundle.ownAtoms own ic C names, x ∈ G.2.2.2.2.1 ∨ x = .isRef (.static Bundle.tN "UNASSIGNED_STACK" Bundle.steD) ∨ x = .isRef (.static Bundle.tN "SUPPRESSED_SENTINEL" Bundle.listD) ∨ x = .laysStatic Bundle.tN "UNASSIGNED_STACK" Bundle.steD ∨ x = .laysStatic Bundle.tN "SUPPRESSED_SENTINEL" Bundle.listD) (hin : Cond.instantiable C 6 ∈ G.2.2.2.2.1) (hlk : Cond.classLink own ia C ∈ G.2.2.2.2.1) (hini : Cond.initialized C ∈ G.2.2.2.2.1) (hstr : Cond.stringRef own ib tx ∈ G.2.2.2.2.1) (hsz : ls.size = nL)
    (hd0 : decode cc pc = .ok (.new ia, 3)) (hd3 : decode cc (pc + 3) = .ok (.dup, 1)) (hd4 : decode cc (pc + 4) = .ok (.ldc ib, 2)) (hd6 : decode cc (pc + 6) = .ok (.invokespecial ic, 3)) (hd9 : decode cc (pc + 9) = .ok (.athrow, 1)) (hfr : names.length + 3 < R.frames) (hlo : (rest.map fun v => v.category).sum + (13 * (names.length + 1) + 44) ≤ R.locals) : W p l e R s m args below meth c H locs cells slots (z_Q G below s w0 res) (F0 m pc ls rest) := by
  unfold z_thr at h
  split at h
  · rename_i hr
    cases h
    intro T hT X
    subst hT
    have e1 := hZ.2.2.1
    have e2 := hZ.2.2.2
    have X0 := z_rebase X (by omega) (by omega)
    generalize hs0 : T.setFrames (.invoking m args :: below) = s0 at X0
    have hvm0 : s0.vm = T.vm := by rw [← hs0]; rfl
    have hhp0 : s0.heap = T.heap := by rw [← hs0]; rfl
    have hW0 : s.WarmedH s0.vm := by rw [hvm0]; exact X.warmed
    have hP0 : z_P G s0 w T.heap := hZ.1.moved hC.2.2.2.2.2.2 hW0
    have hts := hP0.tb hC.2.2.2.2.2.2 args
    have hown : s0.vm.findClass own = some m.cls := by rw [hW0.alike.findClass]; exact hC.2.2.2.1
    have hq0 : ∀ q, ¬ (G.1 ≤ q) → s0.heap[q]? = G.2.1[q]? := fun q hq => by rw [hhp0]; exact hP0.o q (Nat.not_le.mp hq)
    have hatoms : ∀ x ∈ Bundle.ownAtoms own ic C names, x.before args s0 = true := fun x hx => by
      rcases hat x hx with h1 | h1 | h1 | h1 | h1
      · exact hts _ h1
      · rw [h1]; exact z_isref (hP0.z _ hu.1).1 hu.2 hq0
      · rw [h1]; exact z_isref (hP0.z _ hse.1).1 hse.2 hq0
      · rw [h1]; exact z_isls (hP0.z _ hu.1).2 hq0
      · rw [h1]; exact z_isls (hP0.z _ hse.1).2 hq0
    obtain ⟨_, _, _, sa, _, _, _, -, _, hev⟩ := Cond.stringRef_spec hown (hts _ hstr)
    obtain ⟨vm₁, cX, kX, hfX, hkX, -, -, X₁, st1⟩ := X0.newCold hC.1 (own := own) (C := C) (index := ia) (n := 6) hown (hts _ hlk) (hts _ hin) (hts _ hini)
      (g := F0 m pc ls rest) rfl (by rw [hC.2.1]; exact hd0) (by show 0 + 1 ≤ R.cells - cells; omega) (by show 0 + 6 ≤ R.slots - slots; omega)
    generalize hT1 : (T.setVm vm₁).pushCell { cls := cX, slots := kX.instanceTypes.map defaultValue, vm := .none } = T1 at X₁ st1
    have hcellA : T1.heap[T.heap.size]? = some (freshCell cX kX) := by rw [← hT1]; exact State.heap_pushCell_size _ _
    obtain ⟨U, hsteps, hrun, hend, hW, hsame, ce, hce, K⟩ := X₁.ctorThrowS hC.1 hC.2.2.2.2.2.1 (own := own) (cls := C) (names := names) (ic := ic) hown hfit hnames hatoms (fun y hy => by cases hy) hfX hkX hcellA (by rw [hhp0]; exact Nat.le_refl _) (msg := .ref sa) rfl
      (g := F0 m (pc + 6) ls (.ref sa :: .ref T.heap.size :: .ref T.heap.size :: rest)) rfl (by rw [hC.2.2.1]; exact hsz) rfl rfl (rest := rest) rfl (by rw [hC.2.1]; exact hd6) (by rw [hC.2.1]; exact hd9) (by rw [hx]; intro y hy; cases hy) hfr (by show 2 * 0 + ((1 : Nat) + (rest.map fun v => v.category).sum) + _ ≤ R.locals; omega) hC.2.2.2.2.1
    refine ⟨U, ?_, .threw T.heap.size, hrun, hend, by rw [hZ.1.n]; rfl, ?_, State.WarmedH.trans hW0 hW, ?_⟩
    · refine st1 _ ?_
      show Steps p.tables e below (T1.setTop (F0 m (pc + 3) ls (.ref T.heap.size :: rest))) _
      jvm_step X₁.here [X₁.here.top, hC.1, hC.2.1, hd3, Value.category]
      exact X₁.ldcString hC.1 (own := own) (text := tx) (index := ib) (a := sa) hown (hts _ hstr) hev (g := F0 m (pc + 4) ls (.ref T.heap.size :: .ref T.heap.size :: rest)) rfl (by rw [hC.2.1]; exact hd4) _ hsteps
    · obtain ⟨-, hs1, hs2, -, -, hs6⟩ := hsame
      have hold : ∀ q, q < T.heap.size → U.heap[q]? = T.heap[q]? := fun q hq => by
        obtain ⟨cell, hcell⟩ : ∃ cell, T.heap[q]? = some cell := ⟨_, Array.getElem?_eq_getElem hq⟩
        obtain ⟨c', g1, g2, g3, g4⟩ := hs6 q cell (by rw [hhp0]; exact hcell)
        have g1 : U.heap[q]? = some c' := g1
        rw [g1, hcell, g2]
        congr 1
        have : c'.slots = cell.slots := Array.ext_getElem? fun i => g4 i (by simp)
        rw [this]
      have hsz1 : U.heap.size = T.heap.size + 1 := by
        have a1 : T.heap.size < U.heap.size := (Array.getElem?_eq_some_iff.mp hce).1
        have a2 : U.heap.size ≤ s0.heap.size + (0 + 1) := hs2
        rw [hhp0] at a2
        omega
      refine (hP0.moved hC.2.2.2.2.2.2 hW).push (n := 6) (e := .inr (ci, [])) ⟨_, hcl, ce, ?_, ?_, K.vm, fun k hk => absurd hk (Nat.not_lt_zero k)⟩ hsz1 hold
      · rw [← hZ.1.n]; exact hce
      · exact Option.some.inj (K.cls.symm.trans (hP0.k.1 ci _ hcl).2.1)
    · have hsm := X.same.trans ((show T.sameButNew ({ U with vm := T.vm } : State) [] 1 6 from by
        subst hs0
        obtain ⟨q1, q2⟩ := hsame
        rw [State.setFrames_setFrames] at q1
        exact ⟨q1, q2⟩).setVm s.vm)
      refine ⟨_, _, _, hsm, ?_, ?_, ?_⟩
      · show cells + 1 + (w.2.1 - 1) = w0.2.1
        omega
      · show slots + 6 + (w.2.2.1 - 6) = w0.2.2.1
        omega
      · rw [List.append_nil]; exact hZ.2.1
  · cases h
set_option maxHeartbeats 1000000 in
/-- a new exception is made with a constant text, and thrown; the method has no handlers -/
theorem x_thrW {w0 : zW} (hC : z_C G p e s m meth c cc nL own) (hRc : R.cells = w0.2.1) (hRs : R.slots = w0.2.2.1) (hx : c.exceptionTable.toList = []) (hZ : z_Z G R s w H locs cells slots) {ci : Nat} {C : String} {T0 : u_T} (hcl : G.2.2.2.1[ci]? = some (C, T0, 0)) (h : z_thr w ci = some res) {ia ib ic : Nat} {tx : String} {names : List String} {vu vs : Value} (hu : (Bundle.tN, "UNASSIGNED_STACK", Bundle.steD, vu) ∈ G.2.2.2.2.2 ∧ vu.isRef = true) (hse : (Bundle.tN, "SUPPRESSED_SENTINEL", Bundle.listD, vs) ∈ G.2.2.2.2.2 ∧ vs.isRef = true) (hfit : Bundle.fit C = true) (hnames : ∀ n ∈ names, Bundle.fit n = true)
    (hat : ∀ x ∈ Bundle.ownAtoms own ic C names, x ∈ G.2.2.2.2.1 ∨ x = .isRef (.static Bundle.tN "UNASSIGNED_STACK" Bundle.steD) ∨ x = .isRef (.static Bundle.tN "SUPPRESSED_SENTINEL" Bundle.listD) ∨ x = .laysStatic Bundle.tN "UNASSIGNED_STACK" Bundle.steD ∨ x = .laysStatic Bundle.tN "SUPPRESSED_SENTINEL" Bundle.listD) (hin : Cond.instantiable C 6 ∈ G.2.2.2.2.1) (hlk : Cond.classLink own ia C ∈ G.2.2.2.2.1) (hini : Cond.initialized C ∈ G.2.2.2.2.1) (hstr : Cond.stringRef own ib tx ∈ G.2.2.2.2.1) (hsz : ls.size = nL)
    (hd0 : decode cc pc = .ok (.new ia, 3)) (hd3 : decode cc (pc + 3) = .ok (.dup, 1)) (hd4 : decode cc (pc + 4) = .ok (.ldc_w ib, 3)) (hd6 : decode cc (pc + 7) = .ok (.invokespecial ic, 3)) (hd9 : decode cc (pc + 10) = .ok (.athrow, 1)) (hfr : names.length + 3 < R.frames) (hlo : (rest.map fun v => v.category).sum + (13 * (names.length + 1) + 44) ≤ R.locals) : W p l e R s m args below meth c H locs cells slots (z_Q G below s w0 res) (F0 m pc ls rest) := by
  unfold z_thr at h
  split at h
  · rename_i hr
    cases h
    intro T hT X
    subst hT
    have e1 := hZ.2.2.1
    have e2 := hZ.2.2.2
    have X0 := z_rebase X (by omega) (by omega)
    generalize hs0 : T.setFrames (.invoking m args :: below) = s0 at X0
    have hvm0 : s0.vm = T.vm := by rw [← hs0]; rfl
    have hhp0 : s0.heap = T.heap := by rw [← hs0]; rfl
    have hW0 : s.WarmedH s0.vm := by rw [hvm0]; exact X.warmed
    have hP0 : z_P G s0 w T.heap := hZ.1.moved hC.2.2.2.2.2.2 hW0
    have hts := hP0.tb hC.2.2.2.2.2.2 args
    have hown : s0.vm.findClass own = some m.cls := by rw [hW0.alike.findClass]; exact hC.2.2.2.1
    have hq0 : ∀ q, ¬ (G.1 ≤ q) → s0.heap[q]? = G.2.1[q]? := fun q hq => by rw [hhp0]; exact hP0.o q (Nat.not_le.mp hq)
    have hatoms : ∀ x ∈ Bundle.ownAtoms own ic C names, x.before args s0 = true := fun x hx => by
      rcases hat x hx with h1 | h1 | h1 | h1 | h1
      · exact hts _ h1
      · rw [h1]; exact z_isref (hP0.z _ hu.1).1 hu.2 hq0
      · rw [h1]; exact z_isref (hP0.z _ hse.1).1 hse.2 hq0
      · rw [h1]; exact z_isls (hP0.z _ hu.1).2 hq0
      · rw [h1]; exact z_isls (hP0.z _ hse.1).2 hq0
    obtain ⟨_, _, _, sa, _, _, _, -, _, hev⟩ := Cond.stringRef_spec hown (hts _ hstr)
    obtain ⟨vm₁, cX, kX, hfX, hkX, -, -, X₁, st1⟩ := X0.newCold hC.1 (own := own) (C := C) (index := ia) (n := 6) hown (hts _ hlk) (hts _ hin) (hts _ hini)
      (g := F0 m pc ls rest) rfl (by rw [hC.2.1]; exact hd0) (by show 0 + 1 ≤ R.cells - cells; omega) (by show 0 + 6 ≤ R.slots - slots; omega)
    generalize hT1 : (T.setVm vm₁).pushCell { cls := cX, slots := kX.instanceTypes.map defaultValue, vm := .none } = T1 at X₁ st1
    have hcellA : T1.heap[T.heap.size]? = some (freshCell cX kX) := by rw [← hT1]; exact State.heap_pushCell_size _ _
    obtain ⟨U, hsteps, hrun, hend, hW, hsame, ce, hce, K⟩ := X₁.ctorThrowS hC.1 hC.2.2.2.2.2.1 (own := own) (cls := C) (names := names) (ic := ic) hown hfit hnames hatoms (fun y hy => by cases hy) hfX hkX hcellA (by rw [hhp0]; exact Nat.le_refl _) (msg := .ref sa) rfl
      (g := F0 m (pc + 7) ls (.ref sa :: .ref T.heap.size :: .ref T.heap.size :: rest)) rfl (by rw [hC.2.2.1]; exact hsz) rfl rfl (rest := rest) rfl (by rw [hC.2.1]; exact hd6) (by rw [hC.2.1]; exact hd9) (by rw [hx]; intro y hy; cases hy) hfr (by show 2 * 0 + ((1 : Nat) + (rest.map fun v => v.category).sum) + _ ≤ R.locals; omega) hC.2.2.2.2.1
    refine ⟨U, ?_, .threw T.heap.size, hrun, hend, by rw [hZ.1.n]; rfl, ?_, State.WarmedH.trans hW0 hW, ?_⟩
    · refine st1 _ ?_
      show Steps p.tables e below (T1.setTop (F0 m (pc + 3) ls (.ref T.heap.size :: rest))) _
      jvm_step X₁.here [X₁.here.top, hC.1, hC.2.1, hd3, Value.category]
      exact z_ldcW X₁ hC.1 (own := own) (text := tx) (index := ib) (a := sa) hown (hts _ hstr) hev (g := F0 m (pc + 4) ls (.ref T.heap.size :: .ref T.heap.size :: rest)) rfl (by rw [hC.2.1]; exact hd4) _ hsteps
    · obtain ⟨-, hs1, hs2, -, -, hs6⟩ := hsame
      have hold : ∀ q, q < T.heap.size → U.heap[q]? = T.heap[q]? := fun q hq => by
        obtain ⟨cell, hcell⟩ : ∃ cell, T.heap[q]? = some cell := ⟨_, Array.getElem?_eq_getElem hq⟩
        obtain ⟨c', g1, g2, g3, g4⟩ := hs6 q cell (by rw [hhp0]; exact hcell)
        have g1 : U.heap[q]? = some c' := g1
        rw [g1, hcell, g2]
        congr 1
        have : c'.slots = cell.slots := Array.ext_getElem? fun i => g4 i (by simp)
        rw [this]
      have hsz1 : U.heap.size = T.heap.size + 1 := by
        have a1 : T.heap.size < U.heap.size := (Array.getElem?_eq_some_iff.mp hce).1
        have a2 : U.heap.size ≤ s0.heap.size + (0 + 1) := hs2
        rw [hhp0] at a2
        omega
      refine (hP0.moved hC.2.2.2.2.2.2 hW).push (n := 6) (e := .inr (ci, [])) ⟨_, hcl, ce, ?_, ?_, K.vm, fun k hk => absurd hk (Nat.not_lt_zero k)⟩ hsz1 hold
      · rw [← hZ.1.n]; exact hce
      · exact Option.some.inj (K.cls.symm.trans (hP0.k.1 ci _ hcl).2.1)
    · have hsm := X.same.trans ((show T.sameButNew ({ U with vm := T.vm } : State) [] 1 6 from by
        subst hs0
        obtain ⟨q1, q2⟩ := hsame
        rw [State.setFrames_setFrames] at q1
        exact ⟨q1, q2⟩).setVm s.vm)
      refine ⟨_, _, _, hsm, ?_, ?_, ?_⟩
      · show cells + 1 + (w.2.1 - 1) = w0.2.1
        omega
      · show slots + 6 + (w.2.2.1 - 6) = w0.2.2.1
        omega
      · rw [List.append_nil]; exact hZ.2.1
  · cases h
end ZR8
end
