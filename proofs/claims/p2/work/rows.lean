section
/-! My layer. A WORLD: the heap's size, the cells and slots that may still be made, and a partial picture of the heap by addresses. Programs over worlds: a value of zR. -/
abbrev zOb : Type := (FieldType × vp_A) ⊕ (Nat × List Value)
abbrev zW : Type := Nat × Nat × Nat × (Nat → Option zOb)
abbrev zO : Type := Option Value ⊕ Nat
abbrev zR : Type := Option (zO × zW)
abbrev zG : Type := Nat × Heap × va_G × List vw_C × List Cond × List (String × String × String × Value)
def z_xV (x : vp_A) (j : Nat) : Value := match x.2 with
  | .inl f => .int (f j)
  | .inr (.inl f) => .long (f j)
  | .inr (.inr (.inl f)) => .float (f j)
  | .inr (.inr (.inr (.inl f))) => .double (f j)
  | .inr (.inr (.inr (.inr f))) => va_rf (f j)
/-- the class of an array's components, where they are references -/
def z_cmp (U : State) (ty : FieldType) (comp : ClassId) : Prop := match ty with
  | .object C => U.vm.findClass C = some comp
  | .array t => U.vm.findClass (FieldType.array t).toString = some comp
  | _ => True
def z_oA (U : State) (H : Heap) (a : Nat) (ty : FieldType) (x : vp_A) : Prop :=
  ∃ (cell : Cell) (kA : Class) (comp : ClassId), H[a]? = some cell ∧ (∀ k, cell.vm ≠ .statics k) ∧ cell.vm ≠ .unknown ∧ U.vm.classes[cell.cls]? = some kA ∧ kA.kind = .array comp ty ∧ z_cmp U ty comp ∧ cell.slots.size = x.1 ∧ ∀ j, j < x.1 → cell.slots[j]? = some (z_xV x j)
def z_oO (D : va_G) (cl : List vw_C) (H : Heap) (a : Nat) (o : Nat × List Value) : Prop :=
  ∃ r : vw_C, cl[o.1]? = some r ∧ t_OB a (D.1 o.1) r.2.2 (D.2 o.1) H (vp_V o.2)
def z_at (G : zG) (U : State) (H : Heap) (a : Nat) (e : zOb) : Prop := match e with
  | .inl q => z_oA U H a q.1 q.2
  | .inr o => z_oO G.2.2.1 G.2.2.2.1 H a o
def z_P (G : zG) (U : State) (w : zW) (H : Heap) : Prop :=
  va_K G.2.2.1 G.2.2.2.1 [] U ∧ (∀ x ∈ G.2.2.2.2.1, x.before #[] U = true) ∧ (∀ z ∈ G.2.2.2.2.2, va_Z z.1 z.2.1 z.2.2.1 z.2.2.2 (fun q => G.1 ≤ q) U G.2.1) ∧ H.size = w.1 ∧ G.1 ≤ w.1 ∧ (∀ q : Nat, q < G.1 → H[q]? = G.2.1[q]?) ∧
    ∀ (a : Nat) (e : zOb), w.2.2.2 a = some e → (G.1 ≤ a ∨ ∃ (ty : FieldType) (x : vp_A), e = .inl (ty, x) ∧ x.1 = 0) ∧ z_at G U H a e
theorem z_P.k {G : zG} {U : State} {w : zW} {H : Heap} (h : z_P G U w H) : va_K G.2.2.1 G.2.2.2.1 [] U := h.1
theorem z_P.t {G : zG} {U : State} {w : zW} {H : Heap} (h : z_P G U w H) : ∀ x ∈ G.2.2.2.2.1, x.before #[] U = true := h.2.1
theorem z_P.z {G : zG} {U : State} {w : zW} {H : Heap} (h : z_P G U w H) : ∀ z ∈ G.2.2.2.2.2, va_Z z.1 z.2.1 z.2.2.1 z.2.2.2 (fun q => G.1 ≤ q) U G.2.1 := h.2.2.1
theorem z_P.n {G : zG} {U : State} {w : zW} {H : Heap} (h : z_P G U w H) : H.size = w.1 := h.2.2.2.1
theorem z_P.b {G : zG} {U : State} {w : zW} {H : Heap} (h : z_P G U w H) : G.1 ≤ w.1 := h.2.2.2.2.1
theorem z_P.o {G : zG} {U : State} {w : zW} {H : Heap} (h : z_P G U w H) : ∀ q : Nat, q < G.1 → H[q]? = G.2.1[q]? := h.2.2.2.2.2.1
theorem z_P.c {G : zG} {U : State} {w : zW} {H : Heap} (h : z_P G U w H) : ∀ (a : Nat) (e : zOb), w.2.2.2 a = some e → (G.1 ≤ a ∨ ∃ (ty : FieldType) (x : vp_A), e = .inl (ty, x) ∧ x.1 = 0) ∧ z_at G U H a e := h.2.2.2.2.2.2
/-- a word that holds of warmer tables too, whatever the arguments -/
def z_ok (x : Cond) : Prop := ∀ (a a' : Array Value) (s U : State), s.WarmedH U.vm → x.before a s = true → x.before a' U = true
def z_TB (G : zG) : Prop := ∀ x ∈ G.2.2.2.2.1, z_ok x
theorem z_ok_good {x : Cond} (h : goodWord x = true) : z_ok x := fun _ _ _ _ hW hb => word_at hW (good_of_word h) hb
theorem z_ok_cast {C T : String} : z_ok (.castable C T) := fun _ _ _ _ hW hb => va_Nw.use rfl (va_Nw.warmC hW (va_Nw.of rfl hb))
theorem z_ok_fln {a : String} {i : Nat} {b n d h : String} : z_ok (.fieldLinkNest a i b n d h) := fun _ _ _ _ hW hb => va_Nw.use rfl (va_Nw.warmF hW (va_Nw.of rfl hb))
theorem z_ok_mln {a : String} {i : Nat} {x : MethodName} {h : String} : z_ok (.methodLinkNest a i x h) := fun _ _ _ _ hW hb => va_Nw.use rfl (va_Nw.warmM hW (va_Nw.of rfl hb))
theorem z_cmp.moved {u U : State} (hvm : u.vm.Alike U.vm) {ty : FieldType} {comp : ClassId} (h : z_cmp u ty comp) : z_cmp U ty comp := by
  cases ty <;> first | exact trivial | (show U.vm.findClass _ = some comp; rw [hvm.findClass]; exact h)
theorem z_oA.moved {u U : State} (hvm : u.vm.Alike U.vm) {H : Heap} {a : Nat} {ty : FieldType} {x : vp_A} (h : z_oA u H a ty x) : z_oA U H a ty x := by
  obtain ⟨cell, kA, comp, h1, h2, h3, h4, h5, h6, h7, h8⟩ := h
  obtain ⟨k', hk', he⟩ := hvm.2.2 _ _ h4
  exact ⟨cell, k', comp, h1, h2, h3, hk', by rw [he]; exact h5, h6.moved hvm, h7, h8⟩
theorem z_at.moved {G : zG} {u U : State} (hvm : u.vm.Alike U.vm) {H : Heap} {a : Nat} {e : zOb} (h : z_at G u H a e) : z_at G U H a e := by
  cases e with
  | inl q => exact z_oA.moved hvm h
  | inr o => exact h
theorem z_P.moved {G : zG} (hT : z_TB G) {u U : State} {w : zW} {H : Heap} (hW : u.WarmedH U.vm) (h : z_P G u w H) : z_P G U w H := by
  obtain ⟨h1, h2, h0, h3, h4, h5, h6⟩ := h
  exact ⟨va_K.moved hW.alike h1, fun x hx => hT x hx _ _ _ _ hW (h2 x hx), fun z hz => va_Z.moved hW.alike (h0 z hz), h3, h4, h5, fun a e he => ⟨(h6 a e he).1, (h6 a e he).2.moved hW.alike⟩⟩
theorem z_P.tb {G : zG} (hT : z_TB G) {U : State} {w : zW} {H : Heap} (h : z_P G U w H) (args : Array Value) : ∀ x ∈ G.2.2.2.2.1, x.before args U = true := fun x hx => hT x hx _ _ _ _ (State.WarmedH.refl U) (h.t x hx)
theorem z_oA.kept {U : State} {H H1 : Heap} {a : Nat} {ty : FieldType} {x : vp_A} (h : z_oA U H a ty x) (hq : H1[a]? = H[a]?) : z_oA U H1 a ty x := by
  obtain ⟨cell, kA, comp, h1, h2⟩ := h
  exact ⟨cell, kA, comp, hq.trans h1, h2⟩
theorem z_at.kept {G : zG} {U : State} {H H1 : Heap} {a : Nat} {e : zOb} (h : z_at G U H a e) (hq : H1[a]? = H[a]?) : z_at G U H1 a e := by
  cases e with
  | inl q => exact z_oA.kept h hq
  | inr o =>
    obtain ⟨r, h1, h2⟩ := h
    exact ⟨r, h1, h2.kept hq⟩
theorem z_at.lt {G : zG} {U : State} {H : Heap} {a : Nat} {e : zOb} (h : z_at G U H a e) : a < H.size := by
  cases e with
  | inl q =>
    obtain ⟨cell, _, _, h1, -⟩ := h
    exact (Array.getElem?_eq_some_iff.mp h1).1
  | inr o =>
    obtain ⟨r, h1, cell, h2, -⟩ := h
    exact (Array.getElem?_eq_some_iff.mp h2).1
/-! the programs' words -/
def z_set (w : zW) (a : Nat) (e : zOb) : zW := (w.1, w.2.1, w.2.2.1, fun b => if b = a then some e else w.2.2.2 b)
def z_push (w : zW) (n : Nat) (e : zOb) : zW := (w.1 + 1, w.2.1 - 1, w.2.2.1 - n, fun b => if b = w.1 then some e else w.2.2.2 b)
def z_obj (w : zW) (ci : Nat) (r : Option Nat) : Option (Nat × List Value) := match r with
  | some a => match w.2.2.2 a with
    | some (.inr (c, fs)) => if c = ci then some (a, fs) else none
    | _ => none
  | none => none
def z_arr (w : zW) (ty : FieldType) (r : Option Nat) : Option (Nat × vp_A) := match r with
  | some a => match w.2.2.2 a with
    | some (.inl (t, x)) => if t = ty then some (a, x) else none
    | _ => none
  | none => none
def z_getI (w : zW) (ci k : Nat) (r : Option Nat) (K : Int32 → zR) : zR := match z_obj w ci r with
  | some (_, fs) => match fs[k]? with
    | some (.int x) => K x
    | _ => none
  | none => none
def z_getL (w : zW) (ci k : Nat) (r : Option Nat) (K : Int64 → zR) : zR := match z_obj w ci r with
  | some (_, fs) => match fs[k]? with
    | some (.long x) => K x
    | _ => none
  | none => none
def z_getR (w : zW) (ci k : Nat) (r : Option Nat) (K : Option Nat → zR) : zR := match z_obj w ci r with
  | some (_, fs) => match fs[k]? with
    | some .null => K none
    | some (.ref a) => K (some a)
    | _ => none
  | none => none
def z_put (w : zW) (ci k : Nat) (r : Option Nat) (v : Value) (K : zW → zR) : zR := match z_obj w ci r with
  | some (a, fs) => if k < fs.length then K (z_set w a (.inr (ci, fs.set k v))) else none
  | none => none
def z_putZ (w : zW) (ci k : Nat) (r : Option Nat) (x : Int32) (K : zW → zR) : zR := if x = 0 ∨ x = 1 then z_put w ci k r (.int x) K else none
def z_new (w : zW) (ci N : Nat) (fs : List Value) (K : Nat → zW → zR) : zR := if 1 ≤ w.2.1 ∧ N ≤ w.2.2.1 then K w.1 (z_push w N (.inr (ci, fs))) else none
def z_newa (w : zW) (ty : FieldType) (n : Int32) (x : Nat → vp_A) (K : Nat → zW → zR) : zR :=
  if ¬ n < 0 ∧ n.toNatClampNeg ≤ 65536 ∧ 1 ≤ w.2.1 ∧ n.toNatClampNeg ≤ w.2.2.1 then K w.1 (z_push w n.toNatClampNeg (.inl (ty, x n.toNatClampNeg))) else none
def z_len (w : zW) (r : Option Nat) (K : Int32 → zR) : zR := match r with
  | some a => match w.2.2.2 a with
    | some (.inl (_, x)) => K (Int32.ofNat x.1)
    | _ => none
  | none => none
def z_ldI (w : zW) (ty : FieldType) (r : Option Nat) (i : Int32) (K : Int32 → zR) : zR := match z_arr w ty r with
  | some (_, n, .inl f) => if ¬ (i < 0 ∨ n ≤ i.toNatClampNeg) then K (f i.toNatClampNeg) else none
  | _ => none
def z_ldL (w : zW) (r : Option Nat) (i : Int32) (K : Int64 → zR) : zR := match z_arr w .long r with
  | some (_, n, .inr (.inl f)) => if ¬ (i < 0 ∨ n ≤ i.toNatClampNeg) then K (f i.toNatClampNeg) else none
  | _ => none
def z_ldR (w : zW) (ty : FieldType) (r : Option Nat) (i : Int32) (K : Option Nat → zR) : zR := match z_arr w ty r with
  | some (_, n, .inr (.inr (.inr (.inr f)))) => if ¬ (i < 0 ∨ n ≤ i.toNatClampNeg) then K (f i.toNatClampNeg) else none
  | _ => none
def z_stI (w : zW) (r : Option Nat) (i x : Int32) (K : zW → zR) : zR := match z_arr w .int r with
  | some (a, n, .inl f) => if ¬ (i < 0 ∨ n ≤ i.toNatClampNeg) then K (z_set w a (.inl (.int, n, .inl (upd f i.toNatClampNeg x)))) else none
  | _ => none
def z_stZ (w : zW) (r : Option Nat) (i x : Int32) (K : zW → zR) : zR := match z_arr w .boolean r with
  | some (a, n, .inl f) => if ¬ (i < 0 ∨ n ≤ i.toNatClampNeg) ∧ (x = 0 ∨ x = 1) then K (z_set w a (.inl (.boolean, n, .inl (upd f i.toNatClampNeg x)))) else none
  | _ => none
def z_stL (w : zW) (r : Option Nat) (i : Int32) (x : Int64) (K : zW → zR) : zR := match z_arr w .long r with
  | some (a, n, .inr (.inl f)) => if ¬ (i < 0 ∨ n ≤ i.toNatClampNeg) then K (z_set w a (.inl (.long, n, .inr (.inl (vp_updL f i.toNatClampNeg x))))) else none
  | _ => none
/-- a reference into an array: null, or an object of the class cj, which the array takes -/
def z_stR (w : zW) (ty : FieldType) (cj : Nat) (r : Option Nat) (i : Int32) (v : Option Nat) (K : zW → zR) : zR := match z_arr w ty r with
  | some (a, n, .inr (.inr (.inr (.inr f)))) => if ¬ (i < 0 ∨ n ≤ i.toNatClampNeg) ∧ (v = none ∨ (z_obj w cj v).isSome = true) then K (z_set w a (.inl (ty, n, .inr (.inr (.inr (.inr (va_up f i.toNatClampNeg v))))))) else none
  | _ => none
/-- a receiver: an object of that class -/
def z_this (w : zW) (ci : Nat) (r : Option Nat) (K : zR) : zR := match z_obj w ci r with
  | some _ => K
  | none => none
/-- what a call answered; what it threw goes on -/
def z_cI (x : zR) (K : Int32 → zW → zR) : zR := match x with
  | some (.inl (some (.int v)), w) => K v w
  | some (.inr a, w) => some (.inr a, w)
  | _ => none
def z_cL (x : zR) (K : Int64 → zW → zR) : zR := match x with
  | some (.inl (some (.long v)), w) => K v w
  | some (.inr a, w) => some (.inr a, w)
  | _ => none
def z_cR (x : zR) (K : Option Nat → zW → zR) : zR := match x with
  | some (.inl (some .null), w) => K none w
  | some (.inl (some (.ref a)), w) => K (some a) w
  | some (.inr a, w) => some (.inr a, w)
  | _ => none
def z_cV (x : zR) (K : zW → zR) : zR := match x with
  | some (.inl none, w) => K w
  | some (.inr a, w) => some (.inr a, w)
  | _ => none
/-- a new exception of the class ci is thrown -/
def z_thr (w : zW) (ci : Nat) : zR := if 1 ≤ w.2.1 ∧ 6 ≤ w.2.2.1 then some (.inr w.1, z_push w 6 (.inr (ci, []))) else none
end
section
/-- what a method's rows stand on -/
def z_C (G : zG) (p : Program) (e : Env) (s : State) (m : MethodId) (meth : Method) (c : Code) (cc : ByteArray) (nL : Nat) (own : String) : Prop :=
  p.tables.exec = Jvm.exec ∧ c.code = cc ∧ c.maxLocals = nL ∧ s.vm.findClass own = some m.cls ∧ meth.locks = false ∧ e.platform.stackTraces = false ∧ z_TB G
def z_Z (G : zG) (R : Room) (s : State) (w : zW) (H : Heap) (locs : List Loc) (cells slots : Nat) : Prop :=
  z_P G s w H ∧ (∀ q ∈ locs, G.1 ≤ q.base) ∧ cells + w.2.1 = R.cells ∧ slots + w.2.2.1 = R.slots
/-- a class of the list: its fields' words, types, names -/
def z_cls (G : zG) (ci : Nat) (C : String) (T : u_T) (N : Nat) (ty : Nat → FieldType) : Prop :=
  G.2.2.2.1[ci]? = some (C, T, N) ∧ (∀ x ∈ u_ws C T N, x ∈ G.2.2.2.2.1) ∧ (∀ k, k < N → parseFieldDescriptor (T k).2.2.1 = some (ty k)) ∧ ∀ a, a < N → ∀ b, b < N → a ≠ b → (T a).2.1 ≠ (T b).2.1
def z_oi (o : zO) (oc : Outcome) : Prop := match o with
  | .inl v => oc = .returned v
  | .inr a => oc = .threw a
def z_E (G : zG) (st : State) (w : zW) (o : zO) (w' : zW) (oc : Outcome) (t : State) : Prop :=
  z_oi o oc ∧ z_P G t w' t.heap ∧ st.WarmedH t.vm ∧ ∃ (L : List Loc) (k n : Nat), st.sameButNew ({ t with vm := st.vm } : State) L k n ∧ k + w'.2.1 = w.2.1 ∧ n + w'.2.2.1 = w.2.2.1 ∧ ∀ q ∈ L, G.1 ≤ q.base
def z_Q (G : zG) (below : List Frame) (s : State) (w : zW) (res : zO × zW) : State → Prop := fun t => ∃ oc, t.status = .running ∧ Ended t below oc ∧ z_E G s w res.1 res.2 oc t
/-- the contract: from the world w, with these arguments, the method ends with o in the world w' -/
def z_Ct (G : zG) (l : Launch) (y : MethodName) (hw : Cond) (fr lo : Nat) (av : List Value) (w : zW) (res : zO × zW) : Prop :=
  MetFree l y (headSpec [hw] { frames := fr, cells := w.2.1, slots := w.2.2.1, locals := lo }) (fun a U => a = av.toArray ∧ z_P G U w U.heap) (fun _ _ _ _ _ => True) (fun _ st oc t => z_E G st w res.1 res.2 oc t)
theorem z_obj_spec {w : zW} {ci : Nat} {r : Option Nat} {a : Nat} {fs : List Value} (h : z_obj w ci r = some (a, fs)) : r = some a ∧ w.2.2.2 a = some (.inr (ci, fs)) := by
  unfold z_obj at h
  split at h
  · split at h
    · split at h
      · rename_i hc
        cases h
        subst hc
        exact ⟨rfl, by assumption⟩
      · cases h
    · cases h
  · cases h
theorem z_arr_spec {w : zW} {ty : FieldType} {r : Option Nat} {a : Nat} {x : vp_A} (h : z_arr w ty r = some (a, x)) : r = some a ∧ w.2.2.2 a = some (.inl (ty, x)) := by
  unfold z_arr at h
  split at h
  · split at h
    · split at h
      · rename_i hc
        cases h
        subst hc
        exact ⟨rfl, by assumption⟩
      · cases h
    · cases h
  · cases h
theorem z_P.set {G : zG} {U : State} {w : zW} {H H1 : Heap} {a : Nat} {e0 e : zOb} (h : z_P G U w H) (ha : w.2.2.2 a = some e0) (hb : G.1 ≤ a) (he : z_at G U H1 a e) (hz : H1.size = H.size) (oq : ∀ q, q ≠ a → H1[q]? = H[q]?) : z_P G U (z_set w a e) H1 := by
  obtain ⟨h1, h2, h0, h3, h4, h5, h6⟩ := h
  refine ⟨h1, h2, h0, hz.trans h3, h4, fun q hq => (oq q (by omega)).trans (h5 q hq), fun b e' hb' => ?_⟩
  simp only [z_set] at hb'
  split at hb'
  · rename_i hba
    subst hba
    cases hb'
    exact ⟨Or.inl hb, he⟩
  · rename_i hba
    exact ⟨(h6 b e' hb').1, (h6 b e' hb').2.kept (oq b hba)⟩
theorem z_P.push {G : zG} {U : State} {w : zW} {H H1 : Heap} {n : Nat} {e : zOb} (h : z_P G U w H) (he : z_at G U H1 w.1 e) (hz : H1.size = H.size + 1) (oq : ∀ q, q < H.size → H1[q]? = H[q]?) : z_P G U (z_push w n e) H1 := by
  obtain ⟨h1, h2, h0, h3, h4, h5, h6⟩ := h
  refine ⟨h1, h2, h0, by rw [hz, h3]; rfl, Nat.le_succ_of_le h4, fun q hq => (oq q (by omega)).trans (h5 q hq), fun b e' hb' => ?_⟩
  simp only [z_push] at hb'
  split at hb'
  · rename_i hba
    subst hba
    cases hb'
    exact ⟨Or.inl h4, he⟩
  · exact ⟨(h6 b e' hb').1, (h6 b e' hb').2.kept (oq b (h6 b e' hb').2.lt)⟩
section ZR
variable {p : Program} {l : Launch} {e : Env} {R : Room} {s : State} {m : MethodId} {args : Array Value} {below : List Frame} {meth : Method} {c : Code} {H : Heap} {locs : List Loc} {cells slots : Nat} {Q : State → Prop} {cc : ByteArray} {pc nL : Nat} {ls : Array Slot} {rest : List Value} {G : zG} {w : zW} {own : String} {res : zO × zW}
theorem W.mono {Q' : State → Prop} {g : JFrame} (h : ∀ t, Q t → Q' t) (k : W p l e R s m args below meth c H locs cells slots Q g) : W p l e R s m args below meth c H locs cells slots Q' g := fun T hT X => by
  obtain ⟨t, a, b⟩ := k T hT X
  exact ⟨t, a, h t b⟩
/-! references as Option Nat -/
theorem x_aload_n (hC : z_C G p e s m meth c cc nL own) {k : Fin 4} {i : Nat} {r : Option Nat} (hd : decode cc pc = .ok (.aload_n k, 1)) (hi : (k : Nat) = i) (hl : ls[i]? = some (.val (va_rf r))) (kk : W p l e R s m args below meth c H locs cells slots Q (F0 m (pc + 1) ls (va_rf r :: rest))) : W p l e R s m args below meth c H locs cells slots Q (F0 m pc ls rest) := by
  cases r with
  | none => exact lv_aload_nN hC.1 hC.2.1 hd hi hl kk
  | some x => exact lv_aload_n hC.1 hC.2.1 hd hi hl kk
theorem x_aload (hC : z_C G p e s m meth c cc nL own) {i : Nat} {r : Option Nat} (hd : decode cc pc = .ok (.aload i, 2)) (hl : ls[i]? = some (.val (va_rf r))) (kk : W p l e R s m args below meth c H locs cells slots Q (F0 m (pc + 2) ls (va_rf r :: rest))) : W p l e R s m args below meth c H locs cells slots Q (F0 m pc ls rest) := by
  cases r with
  | none => exact lv_aloadN hC.1 hC.2.1 hd hl kk
  | some x => exact lv_aload hC.1 hC.2.1 hd hl kk
theorem x_astore_n (hC : z_C G p e s m meth c cc nL own) {k : Fin 4} {i : Nat} {r : Option Nat} {lv lv' : List (Nat × Value)} (hd : decode cc pc = .ok (.astore_n k, 1)) (hi : (k : Nat) = i) (h : lv_has ls nL lv) (hn : i < nL) (hl : (i, va_rf r) :: lv.filter (fun q => !(q.1 == i) && !(q.1 + 1 == i && q.2.category == 2)) = lv')
    (kk : ∀ ls' : Array Slot, lv_has ls' nL lv' → W p l e R s m args below meth c H locs cells slots Q (F0 m (pc + 1) ls' rest)) : W p l e R s m args below meth c H locs cells slots Q (F0 m pc ls (va_rf r :: rest)) := by
  cases r with
  | none => exact lv_astore_nN hC.1 hC.2.1 hd hi h hn hl kk
  | some x => exact lv_astore_n hC.1 hC.2.1 hd hi h hn hl kk
theorem x_astore (hC : z_C G p e s m meth c cc nL own) {i : Nat} {r : Option Nat} {lv lv' : List (Nat × Value)} (hd : decode cc pc = .ok (.astore i, 2)) (h : lv_has ls nL lv) (hn : i < nL) (hl : (i, va_rf r) :: lv.filter (fun q => !(q.1 == i) && !(q.1 + 1 == i && q.2.category == 2)) = lv')
    (kk : ∀ ls' : Array Slot, lv_has ls' nL lv' → W p l e R s m args below meth c H locs cells slots Q (F0 m (pc + 2) ls' rest)) : W p l e R s m args below meth c H locs cells slots Q (F0 m pc ls (va_rf r :: rest)) := by
  cases r with
  | none => exact lv_astoreN hC.1 hC.2.1 hd h hn hl kk
  | some x => exact lv_astore hC.1 hC.2.1 hd h hn hl kk
theorem x_ifnull (hC : z_C G p e s m meth c cc nL own) {r : Option Nat} {off : Int} {tgt : Nat} (hd : decode cc pc = .ok (.ifnull off, 3)) (ht : (pc : Int) + off = (tgt : Int)) (kt : r = none → W p l e R s m args below meth c H locs cells slots Q (F0 m tgt ls rest)) (kf : ¬ r = none → W p l e R s m args below meth c H locs cells slots Q (F0 m (pc + 3) ls rest)) : W p l e R s m args below meth c H locs cells slots Q (F0 m pc ls (va_rf r :: rest)) := by
  cases r with
  | none => exact lv_ifnullN hC.1 hC.2.1 hd ht (kt rfl)
  | some x => exact lv_ifnull hC.1 hC.2.1 hd (kf (by simp))
theorem x_ifnonnull (hC : z_C G p e s m meth c cc nL own) {r : Option Nat} {off : Int} {tgt : Nat} (hd : decode cc pc = .ok (.ifnonnull off, 3)) (ht : (pc : Int) + off = (tgt : Int)) (kt : ¬ r = none → W p l e R s m args below meth c H locs cells slots Q (F0 m tgt ls rest)) (kf : r = none → W p l e R s m args below meth c H locs cells slots Q (F0 m (pc + 3) ls rest)) : W p l e R s m args below meth c H locs cells slots Q (F0 m pc ls (va_rf r :: rest)) := by
  cases r with
  | none => exact lv_ifnonnullN hC.1 hC.2.1 hd (kf rfl)
  | some x => exact lv_ifnonnull hC.1 hC.2.1 hd ht (kt (by simp))
/-! fields -/
theorem z_one {o : Nat × List Value} {a : Nat} (h : z_P G s w H) (hw : w.2.2.2 a = some (.inr o)) : va_P G.2.2.1 G.2.2.2.1 [(a, .inr o)] H := by
  intro k q hk
  cases k with
  | zero =>
    cases hk
    exact (h.c a _ hw).2
  | succ k => simp at hk
theorem x_get (hC : z_C G p e s m meth c cc nL own) (hZ : z_Z G R s w H locs cells slots) {ci : Nat} {C : String} {T : u_T} {N : Nat} {ty : Nat → FieldType} (hc : z_cls G ci C T N ty) {r : Option Nat} {a : Nat} {fs : List Value} (h : z_obj w ci r = some (a, fs)) (k : Nat) (hk : k < N) {index : Nat} {ref : String} (hlink : Cond.fieldLink own index ref (T k).2.1 (T k).2.2.1 ∈ G.2.2.2.2.1) (hsame : ∀ x, s.fieldFound? (T k).1 (T k).2.1 (T k).2.2.1 = some x → s.fieldFound? ref (T k).2.1 (T k).2.2.1 = some x) {v : Value} (hv : fs[k]? = some v) (hd : decode cc pc = .ok (.getfield index, 3)) (kk : W p l e R s m args below meth c H locs cells slots Q (F0 m (pc + 3) ls (v :: rest))) : W p l e R s m args below meth c H locs cells slots Q (F0 m pc ls (va_rf r :: rest)) := by
  obtain ⟨rfl, hw⟩ := z_obj_spec h
  have hts := hZ.1.tb hC.2.2.2.2.2.2 args
  exact va_get (D := G.2.2.1) (cl := G.2.2.2.1) (tys := []) (ws := [(a, .inr (ci, fs))]) hC.1 hC.2.1 hts hc.2.1 hC.2.2.2.1 hZ.1.k (z_one hZ.1 hw) 0 rfl hc.1 k hk (hts _ hlink) hsame hv hd kk
theorem x_getI (hC : z_C G p e s m meth c cc nL own) (hZ : z_Z G R s w H locs cells slots) {ci : Nat} {C : String} {T : u_T} {N : Nat} {ty : Nat → FieldType} (hc : z_cls G ci C T N ty) {r : Option Nat} {k : Nat} {K : Int32 → zR} (h : z_getI w ci k r K = some res) (hk : k < N) {index : Nat} {ref : String} (hlink : Cond.fieldLink own index ref (T k).2.1 (T k).2.2.1 ∈ G.2.2.2.2.1) (hsame : ∀ x, s.fieldFound? (T k).1 (T k).2.1 (T k).2.2.1 = some x → s.fieldFound? ref (T k).2.1 (T k).2.2.1 = some x) (hd : decode cc pc = .ok (.getfield index, 3)) (kk : ∀ x : Int32, K x = some res → W p l e R s m args below meth c H locs cells slots Q (F0 m (pc + 3) ls (.int x :: rest))) : W p l e R s m args below meth c H locs cells slots Q (F0 m pc ls (va_rf r :: rest)) := by
  unfold z_getI at h
  split at h
  · rename_i a fs ho
    split at h
    · rename_i x hx
      exact x_get hC hZ hc ho k hk hlink hsame hx hd (kk x h)
    · cases h
  · cases h
theorem x_getL (hC : z_C G p e s m meth c cc nL own) (hZ : z_Z G R s w H locs cells slots) {ci : Nat} {C : String} {T : u_T} {N : Nat} {ty : Nat → FieldType} (hc : z_cls G ci C T N ty) {r : Option Nat} {k : Nat} {K : Int64 → zR} (h : z_getL w ci k r K = some res) (hk : k < N) {index : Nat} {ref : String} (hlink : Cond.fieldLink own index ref (T k).2.1 (T k).2.2.1 ∈ G.2.2.2.2.1) (hsame : ∀ x, s.fieldFound? (T k).1 (T k).2.1 (T k).2.2.1 = some x → s.fieldFound? ref (T k).2.1 (T k).2.2.1 = some x) (hd : decode cc pc = .ok (.getfield index, 3)) (kk : ∀ x : Int64, K x = some res → W p l e R s m args below meth c H locs cells slots Q (F0 m (pc + 3) ls (.long x :: rest))) : W p l e R s m args below meth c H locs cells slots Q (F0 m pc ls (va_rf r :: rest)) := by
  unfold z_getL at h
  split at h
  · rename_i a fs ho
    split at h
    · rename_i x hx
      exact x_get hC hZ hc ho k hk hlink hsame hx hd (kk x h)
    · cases h
  · cases h
theorem x_getR (hC : z_C G p e s m meth c cc nL own) (hZ : z_Z G R s w H locs cells slots) {ci : Nat} {C : String} {T : u_T} {N : Nat} {ty : Nat → FieldType} (hc : z_cls G ci C T N ty) {r : Option Nat} {k : Nat} {K : Option Nat → zR} (h : z_getR w ci k r K = some res) (hk : k < N) {index : Nat} {ref : String} (hlink : Cond.fieldLink own index ref (T k).2.1 (T k).2.2.1 ∈ G.2.2.2.2.1) (hsame : ∀ x, s.fieldFound? (T k).1 (T k).2.1 (T k).2.2.1 = some x → s.fieldFound? ref (T k).2.1 (T k).2.2.1 = some x) (hd : decode cc pc = .ok (.getfield index, 3)) (kk : ∀ x : Option Nat, K x = some res → W p l e R s m args below meth c H locs cells slots Q (F0 m (pc + 3) ls (va_rf x :: rest))) : W p l e R s m args below meth c H locs cells slots Q (F0 m pc ls (va_rf r :: rest)) := by
  unfold z_getR at h
  split at h
  · rename_i a fs ho
    split at h
    · rename_i hx
      exact x_get hC hZ hc ho k hk hlink hsame hx hd (kk none h)
    · rename_i x hx
      exact x_get hC hZ hc ho k hk hlink hsame hx hd (kk (some x) h)
    · cases h
  · cases h
theorem x_put (hC : z_C G p e s m meth c cc nL own) (hZ : z_Z G R s w H locs cells slots) {ci : Nat} {C : String} {T : u_T} {N : Nat} {ty : Nat → FieldType} (hc : z_cls G ci C T N ty) {r : Option Nat} {k : Nat} {v : Value} {K : zW → zR} (h : z_put w ci k r v K = some res) (hk : k < N) {index : Nat} {ref : String} (hlink : Cond.fieldLink own index ref (T k).2.1 (T k).2.2.1 ∈ G.2.2.2.2.1) (hsame : ∀ x, s.fieldFound? (T k).1 (T k).2.1 (T k).2.2.1 = some x → s.fieldFound? ref (T k).2.1 (T k).2.2.1 = some x) (hfin : (T k).2.2.2 = false) {t : FieldType} (ht : ty k = t) (hn : narrow t v = v) (hfit : fits t v = true) (hd : decode cc pc = .ok (.putfield index, 3))
    (kk : ∀ (w : zW) (H : Heap) (locs : List Loc), z_Z G R s w H locs cells slots → K w = some res → W p l e R s m args below meth c H locs cells slots Q (F0 m (pc + 3) ls rest)) : W p l e R s m args below meth c H locs cells slots Q (F0 m pc ls (v :: va_rf r :: rest)) := by
  unfold z_put at h
  split at h
  · rename_i a fs ho
    split at h
    · rename_i hl
      obtain ⟨rfl, hw⟩ := z_obj_spec ho
      have hts := hZ.1.tb hC.2.2.2.2.2.2 args
      have hb : G.1 ≤ a := by
        rcases (hZ.1.c a _ hw).1 with q | ⟨_, _, q, _⟩
        · exact q
        · cases q
      have hap := va_apart (own := own) hts hc.2.1 ty hc.2.2.1 hc.2.2.2 hZ.1.k hc.1
      obtain ⟨r', h1, cell, q1, q2, q3, q4⟩ := (hZ.1.c a _ hw).2
      have hr : r' = (C, T, N) := Option.some.inj (h1.symm.trans hc.1)
      subst hr
      obtain ⟨hS, hfc, kC, hkC, hkind⟩ := hZ.1.k.1 ci _ hc.1
      obtain ⟨cf, kf, fi, f, hi, hsl⟩ := hS k hk
      have hlay := hts _ (hc.2.1 _ (u_in_lay hk))
      unfold u_lay at hlay
      rw [if_neg (by rw [hfin]; decide)] at hlay
      have hst := (u_facts hfc hkC (u_lays hts hc.2.1 hk) hi).1
      have h6 := u_store hfc hkC hkind hlay hi (by rw [hc.2.2.1 k hk, ht]) hn hfit
      refine W.putK hC.1 hC.2.1 (f := f) ⟨hC.2.2.2.1, hts _ hlink, ⟨_, _, _, hsame _ hi⟩, hst⟩ (by rw [q2]; exact h6) q1 q3 (by rw [hsl]; exact k2_hasslot (q4 k hk)) rfl rfl hd fun H' e1 e2 e3 => ?_
      rw [hsl] at e1 ⊢
      refine kk _ H' _ ⟨hZ.1.set hw hb (e := .inr (ci, fs.set k v)) ⟨_, hc.1, t_OB.to (V := updV (vp_V fs) k v) ⟨_, e1, q2, q3, t_set q4 hap hk v⟩ (fun j _ => vp_updV_set hl v j)⟩ e2 e3, fun q hq => ?_, hZ.2.2⟩ h
      rcases List.mem_append.mp hq with q | q
      · exact hZ.2.1 _ q
      · rw [List.mem_singleton.mp q]; exact hb
    · cases h
  · cases h
theorem x_putZ (hC : z_C G p e s m meth c cc nL own) (hZ : z_Z G R s w H locs cells slots) {ci : Nat} {C : String} {T : u_T} {N : Nat} {ty : Nat → FieldType} (hc : z_cls G ci C T N ty) {r : Option Nat} {k : Nat} {v : Int32} {K : zW → zR} (h : z_putZ w ci k r v K = some res) (hk : k < N) {index : Nat} {ref : String} (hlink : Cond.fieldLink own index ref (T k).2.1 (T k).2.2.1 ∈ G.2.2.2.2.1) (hsame : ∀ x, s.fieldFound? (T k).1 (T k).2.1 (T k).2.2.1 = some x → s.fieldFound? ref (T k).2.1 (T k).2.2.1 = some x) (hfin : (T k).2.2.2 = false) (ht : ty k = .boolean) (hd : decode cc pc = .ok (.putfield index, 3))
    (kk : ∀ (w : zW) (H : Heap) (locs : List Loc), z_Z G R s w H locs cells slots → K w = some res → W p l e R s m args below meth c H locs cells slots Q (F0 m (pc + 3) ls rest)) : W p l e R s m args below meth c H locs cells slots Q (F0 m pc ls (.int v :: va_rf r :: rest)) := by
  unfold z_putZ at h
  split at h
  · rename_i hv
    refine x_put hC hZ hc h hk hlink hsame hfin ht ?_ ?_ hd kk
    · rcases hv with rfl | rfl <;> rfl
    · rcases hv with rfl | rfl <;> rfl
  · cases h
end ZR
end
section
theorem z_P.back {G : zG} {s U : State} {w0 w : zW} {H0 H : Heap} (h0 : z_P G s w0 H0) (hvm : U.vm.Alike s.vm) (h : z_P G U w H) : z_P G s w H := by
  obtain ⟨-, -, -, h3, h4, h5, h6⟩ := h
  exact ⟨h0.k, h0.t, h0.z, h3, h4, h5, fun a e he => ⟨(h6 a e he).1, (h6 a e he).2.moved hvm⟩⟩
section ZR2
variable {p : Program} {l : Launch} {e : Env} {R : Room} {s : State} {m : MethodId} {args : Array Value} {below : List Frame} {meth : Method} {c : Code} {H : Heap} {locs : List Loc} {cells slots : Nat} {Q : State → Prop} {cc : ByteArray} {pc nL : Nat} {ls : Array Slot} {rest : List Value} {G : zG} {w : zW} {own : String} {res : zO × zW}
theorem x_putF (hC : z_C G p e s m meth c cc nL own) (hZ : z_Z G R s w H locs cells slots) {ci : Nat} {C : String} {T : u_T} {N : Nat} {ty : Nat → FieldType} (hc : z_cls G ci C T N ty) {r : Option Nat} {k : Nat} {v : Value} {K : zW → zR} (h : z_put w ci k r v K = some res) (hk : k < N) {index : Nat} {ref : String} (hlink : Cond.fieldLink own index ref (T k).2.1 (T k).2.2.1 ∈ G.2.2.2.2.1) (hsame : ∀ x, s.fieldFound? (T k).1 (T k).2.1 (T k).2.2.1 = some x → s.fieldFound? ref (T k).2.1 (T k).2.2.1 = some x) (hfin : (T k).2.2.2 = true) (hnm : meth.name = "<init>") (hdecl : (T k).1 = own) {t : FieldType} (ht : ty k = t) (hn : narrow t v = v) (hfit : fits t v = true) (hd : decode cc pc = .ok (.putfield index, 3))
    (kk : ∀ (w : zW) (H : Heap) (locs : List Loc), z_Z G R s w H locs cells slots → K w = some res → W p l e R s m args below meth c H locs cells slots Q (F0 m (pc + 3) ls rest)) : W p l e R s m args below meth c H locs cells slots Q (F0 m pc ls (v :: va_rf r :: rest)) := by
  unfold z_put at h
  split at h
  · rename_i a fs ho
    split at h
    · rename_i hl
      obtain ⟨rfl, hw⟩ := z_obj_spec ho
      have hts := hZ.1.tb hC.2.2.2.2.2.2 args
      have hb : G.1 ≤ a := by
        rcases (hZ.1.c a _ hw).1 with q | ⟨_, _, q, _⟩
        · exact q
        · cases q
      have hap := va_apart (own := own) hts hc.2.1 ty hc.2.2.1 hc.2.2.2 hZ.1.k hc.1
      obtain ⟨r', h1, cell, q1, q2, q3, q4⟩ := (hZ.1.c a _ hw).2
      have hr : r' = (C, T, N) := Option.some.inj (h1.symm.trans hc.1)
      subst hr
      obtain ⟨hS, hfc, kC, hkC, hkind⟩ := hZ.1.k.1 ci _ hc.1
      obtain ⟨cf, kf, fi, f, hi, hsl⟩ := hS k hk
      have hlay := hts _ (hc.2.1 _ (u_in_lay hk))
      unfold u_lay at hlay
      rw [if_pos hfin] at hlay
      have hst := (u_facts hfc hkC (u_lays hts hc.2.1 hk) hi).1
      have hcf : m.cls = cf := by
        obtain ⟨_, _, c', _, _, _, -, -, hf', -, -, -, hown2, -⟩ := Cond.laysFinal_spec hlay
        have e1 : c' = cf := by have := hi.symm.trans hf'; simp at this; exact this.1.symm
        rw [hdecl] at hown2
        rw [← e1]; exact Option.some.inj (hC.2.2.2.1.symm.trans hown2)
      have h6 := u_fits hfc hkC hkind (Or.inr hlay) hi (by rw [hc.2.2.1 k hk, ht]) hn hfit
      refine W.putFinK hC.1 hC.2.1 hC.2.2.2.1 (hts _ hlink) (hsame _ hi) hst hcf hnm (by rw [q2]; exact h6) q1 q3 (by rw [hsl]; exact k2_hasslot (q4 k hk)) rfl rfl hd fun H' e1 e2 e3 => ?_
      rw [hsl] at e1 ⊢
      refine kk _ H' _ ⟨hZ.1.set hw hb (e := .inr (ci, fs.set k v)) ⟨_, hc.1, t_OB.to (V := updV (vp_V fs) k v) ⟨_, e1, q2, q3, t_set q4 hap hk v⟩ (fun j _ => vp_updV_set hl v j)⟩ e2 e3, fun q hq => ?_, hZ.2.2⟩ h
      rcases List.mem_append.mp hq with q | q
      · exact hZ.2.1 _ q
      · rw [List.mem_singleton.mp q]; exact hb
    · cases h
  · cases h
theorem x_putZF (hC : z_C G p e s m meth c cc nL own) (hZ : z_Z G R s w H locs cells slots) {ci : Nat} {C : String} {T : u_T} {N : Nat} {ty : Nat → FieldType} (hc : z_cls G ci C T N ty) {r : Option Nat} {k : Nat} {v : Int32} {K : zW → zR} (h : z_putZ w ci k r v K = some res) (hk : k < N) {index : Nat} {ref : String} (hlink : Cond.fieldLink own index ref (T k).2.1 (T k).2.2.1 ∈ G.2.2.2.2.1) (hsame : ∀ x, s.fieldFound? (T k).1 (T k).2.1 (T k).2.2.1 = some x → s.fieldFound? ref (T k).2.1 (T k).2.2.1 = some x) (hfin : (T k).2.2.2 = true) (hnm : meth.name = "<init>") (hdecl : (T k).1 = own) (ht : ty k = .boolean) (hd : decode cc pc = .ok (.putfield index, 3))
    (kk : ∀ (w : zW) (H : Heap) (locs : List Loc), z_Z G R s w H locs cells slots → K w = some res → W p l e R s m args below meth c H locs cells slots Q (F0 m (pc + 3) ls rest)) : W p l e R s m args below meth c H locs cells slots Q (F0 m pc ls (.int v :: va_rf r :: rest)) := by
  unfold z_putZ at h
  split at h
  · rename_i hv
    refine x_putF hC hZ hc h hk hlink hsame hfin hnm hdecl ht ?_ ?_ hd kk
    · rcases hv with rfl | rfl <;> rfl
    · rcases hv with rfl | rfl <;> rfl
  · cases h
theorem x_new (hC : z_C G p e s m meth c cc nL own) (hZ : z_Z G R s w H locs cells slots) {ci : Nat} {C : String} {T : u_T} {N : Nat} {ty : Nat → FieldType} (hc : z_cls G ci C T N ty) {fs : List Value} {K : Nat → zW → zR} (h : z_new w ci N fs K = some res) {index : Nat} (hcl : Cond.classLink own index C ∈ G.2.2.2.2.1) (hinst : Cond.instantiable C N ∈ G.2.2.2.2.1) (hini : Cond.initialized C ∈ G.2.2.2.2.1) (hfs : ∀ j, j < N → defaultValue (ty j) = vp_V fs j) (hd : decode cc pc = .ok (.new index, 3))
    (kk : ∀ (a : Nat) (w : zW) (H : Heap) (cells slots : Nat), z_Z G R s w H locs cells slots → K a w = some res → W p l e R s m args below meth c H locs cells slots Q (F0 m (pc + 3) ls (va_rf (some a) :: rest))) : W p l e R s m args below meth c H locs cells slots Q (F0 m pc ls rest) := by
  unfold z_new at h
  split at h
  · rename_i hr
    have hts := hZ.1.tb hC.2.2.2.2.2.2 args
    have hKn := hZ.1.k.1 ci _ hc.1
    have h3 := hZ.2.2.1
    have h4 := hZ.2.2.2
    refine W.newcK hC.1 hC.2.1 hC.2.2.2.1 (hts _ hcl) (hts _ hinst) (hts _ hini) rfl hd (by omega) (by omega) hKn.2.1 hZ.1.n fun H1 kC hkC e1 z1 o1 => ?_
    refine kk w.1 _ H1 _ _ ⟨hZ.1.push (n := N) (e := .inr (ci, fs)) ⟨_, hc.1, (u_born ty hts hc.2.1 hKn hkC e1 hc.2.2.1).to hfs⟩ (by rw [z1, hZ.1.n]) (fun q hq => o1 q (by rw [← hZ.1.n]; exact hq)), hZ.2.1, ?_, ?_⟩ h
    · show cells + 1 + (w.2.1 - 1) = R.cells
      omega
    · show slots + N + (w.2.2.1 - N) = R.slots
      omega
  · cases h
/-! the end of a method -/
theorem z_end {w0 : zW} {v : Option Value} {w : zW} {t : State} {oc : Outcome} {L : List Loc} (hT : z_TB G) (hc : R.cells = w0.2.1) (hs : R.slots = w0.2.2.1) (hZ : z_Z G R s w H locs cells slots) (ho : oc = .returned v) (hh : t.heap = H) (hF : FrameEnd s oc t L cells slots) (hL : ∀ q ∈ L, G.1 ≤ q.base) : z_E G s w0 (.inl v) w oc t := by
  obtain ⟨-, hW, hsm⟩ := hF
  exact ⟨ho, by rw [hh]; exact hZ.1.moved hT hW, hW, L, cells, slots, hsm, by rw [← hc]; exact hZ.2.2.1, by rw [← hs]; exact hZ.2.2.2, hL⟩
theorem x_iret (hC : z_C G p e s m meth c cc nL own) {w0 : zW} (hc : R.cells = w0.2.1) (hs : R.slots = w0.2.2.1) (hZ : z_Z G R s w H locs cells slots) {v : Int32} {ty : FieldType} (hr : meth.sig.returnType = some ty) (hn : narrow ty (.int v) = .int v) (h : (some (.inl (some (.int v)), w) : zR) = some res) (hd : decode cc pc = .ok (.ireturn, 1)) : W p l e R s m args below meth c H locs cells slots (z_Q G below s w0 res) (F0 m pc ls [.int v]) := by
  cases h
  refine W.mono ?_ (W.zret (Qc := fun _ _ oc t => oc = .returned (some (.int v)) ∧ t.heap = H) (free := fun q => G.1 ≤ q) hC.1 hC.2.1 hr hn (fun t ht _ => ⟨rfl, ht⟩) hZ.2.1 hd hC.2.2.2.2.1)
  rintro t ⟨oc, h1, h2, ⟨h3, h4⟩, L, h5, h6⟩
  exact ⟨oc, h1, h2, z_end hC.2.2.2.2.2.2 hc hs hZ h3 h4 h5 h6⟩
theorem x_lret (hC : z_C G p e s m meth c cc nL own) {w0 : zW} (hc : R.cells = w0.2.1) (hs : R.slots = w0.2.2.1) (hZ : z_Z G R s w H locs cells slots) {v : Int64} (hr : meth.sig.returnType = some .long) (h : (some (.inl (some (.long v)), w) : zR) = some res) (hd : decode cc pc = .ok (.lreturn, 1)) : W p l e R s m args below meth c H locs cells slots (z_Q G below s w0 res) (F0 m pc ls [.long v]) := by
  cases h
  refine W.mono ?_ (W.lret (Qc := fun _ _ oc t => oc = .returned (some (.long v)) ∧ t.heap = H) (free := fun q => G.1 ≤ q) hC.1 hC.2.1 hr (fun t ht _ => ⟨rfl, ht⟩) hZ.2.1 hd hC.2.2.2.2.1)
  rintro t ⟨oc, h1, h2, ⟨h3, h4⟩, L, h5, h6⟩
  exact ⟨oc, h1, h2, z_end hC.2.2.2.2.2.2 hc hs hZ h3 h4 h5 h6⟩
theorem x_aret (hC : z_C G p e s m meth c cc nL own) {w0 : zW} (hc : R.cells = w0.2.1) (hs : R.slots = w0.2.2.1) (hZ : z_Z G R s w H locs cells slots) {r : Option Nat} {rt : FieldType} (hr : meth.sig.returnType = some rt) (hrt : (∃ n, rt = .object n) ∨ ∃ t, rt = .array t) (h : (some (.inl (some (va_rf r)), w) : zR) = some res) (hd : decode cc pc = .ok (.areturn, 1)) : W p l e R s m args below meth c H locs cells slots (z_Q G below s w0 res) (F0 m pc ls [va_rf r]) := by
  cases h
  refine W.mono ?_ (W.aret (Qc := fun _ _ oc t => oc = .returned (some (va_rf r)) ∧ t.heap = H) (free := fun q => G.1 ≤ q) hC.1 hC.2.1 hr hrt (va_rf_or r) (fun t ht _ => ⟨rfl, ht⟩) hZ.2.1 hd hC.2.2.2.2.1)
  rintro t ⟨oc, h1, h2, ⟨h3, h4⟩, L, h5, h6⟩
  exact ⟨oc, h1, h2, z_end hC.2.2.2.2.2.2 hc hs hZ h3 h4 h5 h6⟩
theorem x_vret (hC : z_C G p e s m meth c cc nL own) {w0 : zW} (hc : R.cells = w0.2.1) (hs : R.slots = w0.2.2.1) (hZ : z_Z G R s w H locs cells slots) (hr : meth.sig.returnType = none) (h : (some (.inl none, w) : zR) = some res) (hd : decode cc pc = .ok (.return_, 1)) : W p l e R s m args below meth c H locs cells slots (z_Q G below s w0 res) (F0 m pc ls []) := by
  cases h
  refine W.mono ?_ (W.vret (Qc := fun _ _ oc t => oc = .returned none ∧ t.heap = H) (free := fun q => G.1 ≤ q) hC.1 hC.2.1 hr (fun t ht _ => ⟨rfl, ht⟩) hZ.2.1 hd hC.2.2.2.2.1)
  rintro t ⟨oc, h1, h2, ⟨h3, h4⟩, L, h5, h6⟩
  exact ⟨oc, h1, h2, z_end hC.2.2.2.2.2.2 hc hs hZ h3 h4 h5 h6⟩
/-! calls -/
def z_hw (hw : Cond) (y : MethodName) (maxL : Nat) : Prop := ∀ (a : Array Value) (U : State) (mk : MethodId), U.methodNamed? y = some mk → hw.before a U = true → ∃ (methY : Method) (cY : Code), U.vm.method? mk = some methY ∧ methY.code = some cY ∧ cY.maxLocals = maxL ∧ parseMethodDescriptor y.desc = some methY.sig
theorem z_hw_code {y : MethodName} {bytes : ByteArray} {maxL : Nat} {ret : Option FieldType} : z_hw (.code y bytes maxL ret) y maxL := fun _ _ _ hn h => by
  obtain ⟨methY, cY, hmY, hcY, -, hlY, -, -, -, hsg⟩ := Cond.code_spec hn h
  exact ⟨methY, cY, hmY, hcY, hlY, hsg⟩
theorem z_go (hT : z_TB G) {T : State} (X : Stand p l e R s m args below meth c T locs cells slots) (hZ : z_Z G R s w T.heap locs cells slots) {y : MethodName} {hw : Cond} {fr lo maxL : Nat} {av : List Value} {r1 : zO × zW} (hM : z_Ct G l y hw fr lo av w r1) (hh : z_hw hw y maxL) {mk : MethodId} (hn : s.methodNamed? y = some mk) (hwt : hw ∈ G.2.2.2.2.1) (hini : Cond.initialized y.cls ∈ G.2.2.2.2.1) (hfr : fr + 1 ≤ R.frames) (hlo : 8 + (maxL + 11) + lo ≤ R.locals) {g : JFrame} (hg : g.method = m) (hsize : g.locals.size = c.maxLocals) {ig : Instr} (hdg : decode c.code g.pc = .ok (ig, 3)) (hW : 2 * g.monitorRoom + (g.stack.map fun v => v.category).sum ≤ 8) :
    ∃ (T' : State) (locs' : List Loc) (cells' slots' : Nat), Stand p l e R s m args below meth c T' locs' cells' slots' ∧ z_Z G R s r1.2 T'.heap locs' cells' slots' ∧
      (∀ v, r1.1 = .inl v → Steps p.tables e below (doInvoke e (T.setTop g) [] mk av.toArray).1 (T'.setTop { g with pc := g.pc + 3, stack := v.toList ++ g.stack })) ∧
      (∀ x, r1.1 = .inr x → Steps p.tables e below (doInvoke e (T.setTop g) [] mk av.toArray).1 ((T'.setTop g).pushFrame (.throwing x))) := by
  have hPT : z_P G T w T.heap := hZ.1.moved hT X.warmed
  have htT := hPT.tb hT av.toArray
  have hnT : T.methodNamed? y = some mk := X.named hn
  obtain ⟨methY, cY, hmY, hcY, hlY, -⟩ := hh _ T mk hnT (htT _ hwt)
  obtain ⟨kY, hkY, -⟩ := className_of_methodNamed hnT
  have hinitY : kY.init = .initialized := Cond.initialized_spec (findClass_of_methodNamed hnT) hkY (htT _ hini)
  have h : At T g.method c below := by rw [hg]; exact X.here
  have happ : (headSpec [hw] { frames := fr, cells := w.2.1, slots := w.2.2.1, locals := lo }).appliesLoose y e.platform (T.calling g mk av.toArray) = true :=
    Spec.appliesLoose_calling (g := g) h hdg hnT hkY hinitY
      (X.room_calling (g := g) (R' := { frames := fr, cells := w.2.1, slots := w.2.2.1, locals := lo }) hsize hmY hcY hfr (by rw [hlY]; show _ + lo ≤ _; omega) (by show cells + w.2.1 ≤ _; rw [hZ.2.2.1]; exact Nat.le_refl _) (by show slots + w.2.2.1 ≤ _; rw [hZ.2.2.2]; exact Nat.le_refl _))
      (atoms_intro fun x hx => by rw [List.mem_singleton.mp hx]; exact htT _ hwt)
  obtain ⟨mid, hmid⟩ := h.above
  have hfr2 : (T.setTop g).frames = (.java g :: mid) ++ below := by rw [State.frames_setTop' g h.top, hmid]; rfl
  have hPc : z_P G (T.calling g mk av.toArray) w T.heap := hPT.moved hT (State.WarmedH.refl T)
  obtain ⟨o, s₂, hsteps, -, hend, hq⟩ := Steps.callFree hM p X.admits X.cas X.clock (acts := []) hfr2 happ ⟨rfl, hPc⟩ trivial
  rw [State.frames_setTop' g h.top, X.tail] at hend
  obtain ⟨hoi, hP2, hW2, L, k, n, hsm, hk, hn2, hL⟩ := hq
  have hlocs : ∀ q ∈ locs ++ L, G.1 ≤ q.base := fun q hq => by
    rcases List.mem_append.mp hq with q1 | q1
    · exact hZ.2.1 _ q1
    · exact hL _ q1
  have e1 := hZ.2.2.1
  have e2 := hZ.2.2.2
  obtain ⟨o1, w1⟩ := r1
  dsimp only at hoi hP2 hk hn2 ⊢
  cases o1 with
  | inl v =>
    have hoi : o = .returned v := hoi
    subst hoi
    obtain ⟨T', X', hWT, hsT, rfl⟩ := X.outOf hg hdg hend hW2 hsm
    have hvT : (T'.setTop { g with pc := g.pc + 3, stack := v.toList ++ g.stack }).vm = T'.vm := by simp [State.setTop, State.modifyTopJava]
    have hhT : (T'.setTop { g with pc := g.pc + 3, stack := v.toList ++ g.stack }).heap = T'.heap := by simp [State.setTop, State.modifyTopJava]
    refine ⟨T', _, _, _, X', ⟨?_, hlocs, by omega, by omega⟩, fun v' hv => ?_, fun x hx => (by cases hx)⟩
    · rw [hhT] at hP2
      exact hZ.1.back (by rw [hvT]; exact X'.warmed.alike.symm) hP2
    · cases hv
      exact hsteps
  | inr x =>
    have hoi : o = .threw x := hoi
    subst hoi
    obtain ⟨T', X', hWT, hsT, rfl⟩ := X.outOfThrown hg hend hW2 hsm
    rw [Stand.throwing_heap] at hP2
    refine ⟨T', _, _, _, X', ⟨?_, hlocs, by omega, by omega⟩, fun v' hv => (by cases hv), fun x' hx => ?_⟩
    · exact hZ.1.back (by rw [Stand.throwing_vm]; exact X'.warmed.alike.symm) hP2
    · cases hx
      exact hsteps
end ZR2
end
section
theorem z_ifp {α : Type} {c : Prop} [Decidable c] {a b x : α} (hc : c) (h : (if c then a else b) = x) : a = x := by rw [if_pos hc] at h; exact h
theorem z_ifn {α : Type} {c : Prop} [Decidable c] {a b x : α} (hc : ¬ c) (h : (if c then a else b) = x) : b = x := by rw [if_neg hc] at h; exact h
def z_nz (c : Prop) [Decidable c] (K : zR) : zR := if c then none else K
theorem z_nz_spec {c : Prop} [Decidable c] {K : zR} {res : zO × zW} (h : z_nz c K = some res) : ¬ c ∧ K = some res := by
  unfold z_nz at h
  split at h
  · cases h
  · exact ⟨by assumption, h⟩
def z_nn (r : Option Nat) (K : zR) : zR := match r with
  | some _ => K
  | none => none
theorem z_nn_spec {r : Option Nat} {K : zR} {res : zO × zW} (h : z_nn r K = some res) : ∃ a, r = some a ∧ K = some res := by
  cases r with
  | none => cases h
  | some a => exact ⟨a, rfl, h⟩
theorem z_this_spec {w : zW} {ci : Nat} {r : Option Nat} {K : zR} {res : zO × zW} (h : z_this w ci r K = some res) : ∃ a fs, z_obj w ci r = some (a, fs) ∧ K = some res := by
  unfold z_this at h
  split at h
  · rename_i q hq
    exact ⟨q.1, q.2, hq, h⟩
  · cases h
def z_retZ (v : Int32) (w : zW) : zR := if v = 0 ∨ v = 1 then some (.inl (some (.int v)), w) else none
/-- what comes behind a call: an answer that P takes, or what was thrown goes on -/
def z_ans (r1 : zO × zW) (res : zO × zW) (P : Option Value → Prop) : Prop := (∃ v, r1.1 = .inl v ∧ P v) ∨ ∃ x, r1.1 = .inr x ∧ res = (.inr x, r1.2)
theorem z_cI_spec {x : zR} {K : Int32 → zW → zR} {res : zO × zW} (h : z_cI x K = some res) : ∃ (w1 : zW) (o1 : zO), x = some (o1, w1) ∧ z_ans (o1, w1) res (fun v => ∃ y : Int32, v = some (.int y) ∧ K y w1 = some res) := by
  unfold z_cI at h
  split at h
  · exact ⟨_, _, rfl, Or.inl ⟨_, rfl, _, rfl, h⟩⟩
  · cases h
    exact ⟨_, _, rfl, Or.inr ⟨_, rfl, rfl⟩⟩
  · cases h
theorem z_cL_spec {x : zR} {K : Int64 → zW → zR} {res : zO × zW} (h : z_cL x K = some res) : ∃ (w1 : zW) (o1 : zO), x = some (o1, w1) ∧ z_ans (o1, w1) res (fun v => ∃ y : Int64, v = some (.long y) ∧ K y w1 = some res) := by
  unfold z_cL at h
  split at h
  · exact ⟨_, _, rfl, Or.inl ⟨_, rfl, _, rfl, h⟩⟩
  · cases h
    exact ⟨_, _, rfl, Or.inr ⟨_, rfl, rfl⟩⟩
  · cases h
theorem z_cR_spec {x : zR} {K : Option Nat → zW → zR} {res : zO × zW} (h : z_cR x K = some res) : ∃ (w1 : zW) (o1 : zO), x = some (o1, w1) ∧ z_ans (o1, w1) res (fun v => ∃ y : Option Nat, v = some (va_rf y) ∧ K y w1 = some res) := by
  unfold z_cR at h
  split at h
  · exact ⟨_, _, rfl, Or.inl ⟨_, rfl, none, rfl, h⟩⟩
  · exact ⟨_, _, rfl, Or.inl ⟨_, rfl, some _, rfl, h⟩⟩
  · cases h
    exact ⟨_, _, rfl, Or.inr ⟨_, rfl, rfl⟩⟩
  · cases h
theorem z_cV_spec {x : zR} {K : zW → zR} {res : zO × zW} (h : z_cV x K = some res) : ∃ (w1 : zW) (o1 : zO), x = some (o1, w1) ∧ z_ans (o1, w1) res (fun v => v = none ∧ K w1 = some res) := by
  unfold z_cV at h
  split at h
  · exact ⟨_, _, rfl, Or.inl ⟨_, rfl, rfl, h⟩⟩
  · cases h
    exact ⟨_, _, rfl, Or.inr ⟨_, rfl, rfl⟩⟩
  · cases h
theorem z_rfc (r : Option Nat) : (va_rf r).category = 1 := by cases r <;> rfl
theorem z_rfn (n : String) (r : Option Nat) : narrow (.object n) (va_rf r) = va_rf r := by cases r <;> rfl
theorem z_rff (n : String) (r : Option Nat) : fits (.object n) (va_rf r) = true := by cases r <;> rfl
theorem z_rfnA (t : FieldType) (r : Option Nat) : narrow (.array t) (va_rf r) = va_rf r := by cases r <;> rfl
theorem z_rffA (t : FieldType) (r : Option Nat) : fits (.array t) (va_rf r) = true := by cases r <;> rfl
theorem z_tab {x : Int32} (n : Nat) (h : ∀ k : Nat, k ≤ n → ¬ x = nI k) : x.toInt < 0 ∨ (n : Int) < x.toInt := by
  rcases Int.lt_or_le x.toInt 0 with q | q
  · exact Or.inl q
  · right
    have hx : x = nI x.toInt.toNat := by
      apply Int32.toInt_inj.mp
      have hb := Int32.toInt_lt x
      rw [nI_toInt (by omega)]
      omega
    rcases Int.lt_or_le (n : Int) x.toInt with z | z
    · exact z
    · exact absurd hx (h _ (by omega))
section ZR3
variable {p : Program} {l : Launch} {e : Env} {R : Room} {s : State} {m : MethodId} {args : Array Value} {below : List Frame} {meth : Method} {c : Code} {H : Heap} {locs : List Loc} {cells slots : Nat} {Q : State → Prop} {cc : ByteArray} {pc nL : Nat} {ls : Array Slot} {rest : List Value} {G : zG} {w : zW} {own : String} {res : zO × zW}
theorem x_zret (hC : z_C G p e s m meth c cc nL own) {w0 : zW} (hc : R.cells = w0.2.1) (hs : R.slots = w0.2.2.1) (hZ : z_Z G R s w H locs cells slots) {v : Int32} (hr : meth.sig.returnType = some .boolean) (h : z_retZ v w = some res) (hd : decode cc pc = .ok (.ireturn, 1)) : W p l e R s m args below meth c H locs cells slots (z_Q G below s w0 res) (F0 m pc ls [.int v]) := by
  unfold z_retZ at h
  split at h
  · rename_i hv
    exact x_iret hC hc hs hZ hr (by rcases hv with rfl | rfl <;> rfl) h hd
  · cases h
theorem x_objInit (hC : z_C G p e s m meth c cc nL own) (hZ : z_Z G R s w H locs cells slots) {r : Option Nat} {a : Nat} (hr : r = some a) {idx : Nat} (hlink : Cond.methodLink own idx Lib.objectInit ∈ G.2.2.2.2.1) (ho : Cond.instanceMethod Lib.objectInit ∈ G.2.2.2.2.1 ∧ Cond.code Lib.objectInit ⟨#[0xb1]⟩ 1 none ∈ G.2.2.2.2.1) (hsz : ls.size = nL) (hd : decode cc pc = .ok (.invokespecial idx, 3)) (hframes : 1 ≤ R.frames) (hlocals : (rest.map fun v => v.category).sum + 12 ≤ R.locals)
    (kk : W p l e R s m args below meth c H locs cells slots Q (F0 m (pc + 3) ls rest)) : W p l e R s m args below meth c H locs cells slots Q (F0 m pc ls (va_rf r :: rest)) := by
  subst hr
  have hts := hZ.1.tb hC.2.2.2.2.2.2 args
  exact W.objInit hC.1 hC.2.1 hC.2.2.2.1 (hts _ hlink) (hts _ ho.1) (hts _ ho.2) rfl (by rw [hC.2.2.1]; exact hsz) rfl hd hframes (by show 2 * 0 + _ + _ ≤ _; omega) kk
theorem z_isA {U : State} {cell : Cell} {kA : Class} {comp : ClassId} {ty : FieldType} (h2 : ∀ k, cell.vm ≠ .statics k) (h4 : U.vm.classes[cell.cls]? = some kA) (h5 : kA.kind = .array comp ty) : U.isArrayOf cell ty := ⟨h2, kA, h4, comp, h5⟩
theorem x_len (hC : z_C G p e s m meth c cc nL own) (hZ : z_Z G R s w H locs cells slots) {r : Option Nat} {K : Int32 → zR} (h : z_len w r K = some res) (hd : decode cc pc = .ok (.arraylength, 1)) (kk : ∀ x : Int32, K x = some res → W p l e R s m args below meth c H locs cells slots Q (F0 m (pc + 1) ls (.int x :: rest))) : W p l e R s m args below meth c H locs cells slots Q (F0 m pc ls (va_rf r :: rest)) := by
  unfold z_len at h
  split at h
  · rename_i a
    split at h
    · rename_i t x hw
      obtain ⟨cell, kA, comp, h1, h2, h3, h4, h5, h6, h7, h8⟩ := (hZ.1.c a _ hw).2
      exact W.alen hC.1 hC.2.1 h1 (z_isA h2 h4 h5) (n := Int32.ofNat x.1) (by rw [h7]) rfl rfl hd (kk _ h)
    · cases h
  · cases h
theorem x_ldI (hC : z_C G p e s m meth c cc nL own) (hZ : z_Z G R s w H locs cells slots) {r : Option Nat} {i : Int32} {K : Int32 → zR} (h : z_ldI w .int r i K = some res) (hd : decode cc pc = .ok (.iaload, 1)) (kk : ∀ x : Int32, K x = some res → W p l e R s m args below meth c H locs cells slots Q (F0 m (pc + 1) ls (.int x :: rest))) : W p l e R s m args below meth c H locs cells slots Q (F0 m pc ls (.int i :: va_rf r :: rest)) := by
  unfold z_ldI at h
  split at h
  · rename_i a n f ho
    split at h
    · rename_i hi
      obtain ⟨rfl, hw⟩ := z_arr_spec ho
      obtain ⟨cell, kA, comp, h1, h2, h3, h4, h5, h6, h7, h8⟩ := (hZ.1.c a _ hw).2
      exact W.iald hC.1 hC.2.1 h1 (z_isA h2 h4 h5) h3 (by rw [h7]; exact hi) (h8 _ (Nat.not_le.mp fun q => hi (Or.inr q))) rfl rfl hd (kk _ h)
    · cases h
  · cases h
theorem x_ldZ (hC : z_C G p e s m meth c cc nL own) (hZ : z_Z G R s w H locs cells slots) {r : Option Nat} {i : Int32} {K : Int32 → zR} (h : z_ldI w .boolean r i K = some res) (hd : decode cc pc = .ok (.baload, 1)) (kk : ∀ x : Int32, K x = some res → W p l e R s m args below meth c H locs cells slots Q (F0 m (pc + 1) ls (.int x :: rest))) : W p l e R s m args below meth c H locs cells slots Q (F0 m pc ls (.int i :: va_rf r :: rest)) := by
  unfold z_ldI at h
  split at h
  · rename_i a n f ho
    split at h
    · rename_i hi
      obtain ⟨rfl, hw⟩ := z_arr_spec ho
      obtain ⟨cell, kA, comp, h1, h2, h3, h4, h5, h6, h7, h8⟩ := (hZ.1.c a _ hw).2
      exact W.zald hC.1 hC.2.1 h1 (z_isA h2 h4 h5) h3 (by rw [h7]; exact hi) (h8 _ (Nat.not_le.mp fun q => hi (Or.inr q))) rfl rfl hd (kk _ h)
    · cases h
  · cases h
theorem x_ldL (hC : z_C G p e s m meth c cc nL own) (hZ : z_Z G R s w H locs cells slots) {r : Option Nat} {i : Int32} {K : Int64 → zR} (h : z_ldL w r i K = some res) (hd : decode cc pc = .ok (.laload, 1)) (kk : ∀ x : Int64, K x = some res → W p l e R s m args below meth c H locs cells slots Q (F0 m (pc + 1) ls (.long x :: rest))) : W p l e R s m args below meth c H locs cells slots Q (F0 m pc ls (.int i :: va_rf r :: rest)) := by
  unfold z_ldL at h
  split at h
  · rename_i a n f ho
    split at h
    · rename_i hi
      obtain ⟨rfl, hw⟩ := z_arr_spec ho
      obtain ⟨cell, kA, comp, h1, h2, h3, h4, h5, h6, h7, h8⟩ := (hZ.1.c a _ hw).2
      exact W.lald hC.1 hC.2.1 h1 (z_isA h2 h4 h5) h3 (by rw [h7]; exact hi) (h8 _ (Nat.not_le.mp fun q => hi (Or.inr q))) rfl rfl hd (kk _ h)
    · cases h
  · cases h
theorem x_ldR (hC : z_C G p e s m meth c cc nL own) (hZ : z_Z G R s w H locs cells slots) {ty : FieldType} {r : Option Nat} {i : Int32} {K : Option Nat → zR} (h : z_ldR w ty r i K = some res) (hty : ty.isReference = true) (hd : decode cc pc = .ok (.aaload, 1)) (kk : ∀ x : Option Nat, K x = some res → W p l e R s m args below meth c H locs cells slots Q (F0 m (pc + 1) ls (va_rf x :: rest))) : W p l e R s m args below meth c H locs cells slots Q (F0 m pc ls (.int i :: va_rf r :: rest)) := by
  unfold z_ldR at h
  split at h
  · rename_i a n f ho
    split at h
    · rename_i hi
      obtain ⟨rfl, hw⟩ := z_arr_spec ho
      obtain ⟨cell, kA, comp, h1, h2, h3, h4, h5, h6, h7, h8⟩ := (hZ.1.c a _ hw).2
      exact W.aald hC.1 hC.2.1 h1 (z_isA h2 h4 h5) hty h3 (by rw [h7]; exact hi) (h8 _ (Nat.not_le.mp fun q => hi (Or.inr q))) rfl rfl hd (kk _ h)
    · cases h
  · cases h
/-- an array's cell behind a store -/
theorem z_oA.store {U : State} {H1 : Heap} {a : Nat} {ty : FieldType} {x x1 : vp_A} {j : Nat} {v : Value} {cell : Cell} {kA : Class} {comp : ClassId} (h2 : ∀ k, cell.vm ≠ .statics k) (h3 : cell.vm ≠ .unknown) (h4 : U.vm.classes[cell.cls]? = some kA) (h5 : kA.kind = .array comp ty) (h6 : z_cmp U ty comp) (h7 : cell.slots.size = x.1) (h8 : ∀ j, j < x.1 → cell.slots[j]? = some (z_xV x j)) (e1 : H1[a]? = some (cell.setSlot j v)) (hn : x1.1 = x.1) (hj : j < x.1) (hv : ∀ i, i < x.1 → z_xV x1 i = if i = j then v else z_xV x i) : z_oA U H1 a ty x1 := by
  refine ⟨_, kA, comp, e1, h2, h3, h4, h5, h6, ?_, fun i hi => ?_⟩
  · rw [hn, ← h7]; simp [Cell.setSlot]
  · rw [hn] at hi
    rw [hv i hi]
    by_cases hij : i = j
    · subst hij
      rw [if_pos rfl]
      simp [Cell.setSlot, h7, hj]
    · rw [if_neg hij, ← h8 i hi]
      simp [Cell.setSlot, Array.getElem?_setIfInBounds, Ne.symm hij]
theorem z_base {a : Nat} {ty : FieldType} {x : vp_A} (hZ : z_Z G R s w H locs cells slots) (hw : w.2.2.2 a = some (.inl (ty, x))) {j : Nat} (hj : j < x.1) : G.1 ≤ a := by
  rcases (hZ.1.c a _ hw).1 with q | ⟨t, y, q, q2⟩
  · exact q
  · cases q
    omega
theorem z_Z.st {a j : Nat} {ty : FieldType} {x x1 : vp_A} {v : Value} {cell : Cell} {kA : Class} {comp : ClassId} {H1 : Heap} (hZ : z_Z G R s w H locs cells slots) (hw : w.2.2.2 a = some (.inl (ty, x))) (h2 : ∀ k, cell.vm ≠ .statics k) (h3 : cell.vm ≠ .unknown) (h4 : s.vm.classes[cell.cls]? = some kA) (h5 : kA.kind = .array comp ty) (h6 : z_cmp s ty comp) (h7 : cell.slots.size = x.1) (h8 : ∀ j, j < x.1 → cell.slots[j]? = some (z_xV x j)) (e1 : H1[a]? = some (cell.setSlot j v)) (e2 : H1.size = H.size) (e3 : ∀ q, q ≠ a → H1[q]? = H[q]?) (hn : x1.1 = x.1) (hj : j < x.1) (hv : ∀ i, i < x.1 → z_xV x1 i = if i = j then v else z_xV x i) : z_Z G R s (z_set w a (.inl (ty, x1))) H1 (locs ++ [⟨a, j⟩]) cells slots := by
  have hb := z_base hZ hw hj
  refine ⟨hZ.1.set hw hb (e := .inl (ty, x1)) (z_oA.store h2 h3 h4 h5 h6 h7 h8 e1 hn hj hv) e2 e3, fun q hq => ?_, hZ.2.2⟩
  rcases List.mem_append.mp hq with q1 | q1
  · exact hZ.2.1 _ q1
  · rw [List.mem_singleton.mp q1]; exact hb
theorem x_stI (hC : z_C G p e s m meth c cc nL own) (hZ : z_Z G R s w H locs cells slots) {r : Option Nat} {i x : Int32} {K : zW → zR} (h : z_stI w r i x K = some res) (hd : decode cc pc = .ok (.iastore, 1)) (kk : ∀ (w : zW) (H : Heap) (locs : List Loc), z_Z G R s w H locs cells slots → K w = some res → W p l e R s m args below meth c H locs cells slots Q (F0 m (pc + 1) ls rest)) : W p l e R s m args below meth c H locs cells slots Q (F0 m pc ls (.int x :: .int i :: va_rf r :: rest)) := by
  unfold z_stI at h
  split at h
  · rename_i a n f ho
    split at h
    · rename_i hi
      obtain ⟨rfl, hw⟩ := z_arr_spec ho
      obtain ⟨cell, kA, comp, h1, h2, h3, h4, h5, h6, h7, h8⟩ := (hZ.1.c a _ hw).2
      have hlt : i.toNatClampNeg < n := Nat.not_le.mp fun q => hi (Or.inr q)
      refine W.iast hC.1 hC.2.1 h1 (z_isA h2 h4 h5) h3 (by rw [h7]; exact hi) rfl rfl hd fun H1 e1 e2 e3 => ?_
      refine kk _ _ _ (hZ.st (x1 := (n, .inl (upd f i.toNatClampNeg x))) hw h2 h3 h4 h5 h6 h7 h8 e1 e2 e3 rfl hlt (fun q _ => ?_)) h
      simp only [z_xV, upd]
      split <;> rfl
    · cases h
  · cases h
theorem x_stZ (hC : z_C G p e s m meth c cc nL own) (hZ : z_Z G R s w H locs cells slots) {r : Option Nat} {i x : Int32} {K : zW → zR} (h : z_stZ w r i x K = some res) (hd : decode cc pc = .ok (.bastore, 1)) (kk : ∀ (w : zW) (H : Heap) (locs : List Loc), z_Z G R s w H locs cells slots → K w = some res → W p l e R s m args below meth c H locs cells slots Q (F0 m (pc + 1) ls rest)) : W p l e R s m args below meth c H locs cells slots Q (F0 m pc ls (.int x :: .int i :: va_rf r :: rest)) := by
  unfold z_stZ at h
  split at h
  · rename_i a n f ho
    split at h
    · rename_i hi
      obtain ⟨hi, hx⟩ := hi
      obtain ⟨rfl, hw⟩ := z_arr_spec ho
      obtain ⟨cell, kA, comp, h1, h2, h3, h4, h5, h6, h7, h8⟩ := (hZ.1.c a _ hw).2
      have hlt : i.toNatClampNeg < n := Nat.not_le.mp fun q => hi (Or.inr q)
      refine W.zast hC.1 hC.2.1 h1 (z_isA h2 h4 h5) h3 (by rw [h7]; exact hi) rfl rfl hd fun H1 e1 e2 e3 => ?_
      have hnx : narrow .boolean (.int x) = .int x := by rcases hx with rfl | rfl <;> rfl
      rw [hnx] at e1
      refine kk _ _ _ (hZ.st (x1 := (n, .inl (upd f i.toNatClampNeg x))) hw h2 h3 h4 h5 h6 h7 h8 e1 e2 e3 rfl hlt (fun q _ => ?_)) h
      simp only [z_xV, upd]
      split <;> rfl
    · cases h
  · cases h
theorem x_stL (hC : z_C G p e s m meth c cc nL own) (hZ : z_Z G R s w H locs cells slots) {r : Option Nat} {i : Int32} {x : Int64} {K : zW → zR} (h : z_stL w r i x K = some res) (hd : decode cc pc = .ok (.lastore, 1)) (kk : ∀ (w : zW) (H : Heap) (locs : List Loc), z_Z G R s w H locs cells slots → K w = some res → W p l e R s m args below meth c H locs cells slots Q (F0 m (pc + 1) ls rest)) : W p l e R s m args below meth c H locs cells slots Q (F0 m pc ls (.long x :: .int i :: va_rf r :: rest)) := by
  unfold z_stL at h
  split at h
  · rename_i a n f ho
    split at h
    · rename_i hi
      obtain ⟨rfl, hw⟩ := z_arr_spec ho
      obtain ⟨cell, kA, comp, h1, h2, h3, h4, h5, h6, h7, h8⟩ := (hZ.1.c a _ hw).2
      have hlt : i.toNatClampNeg < n := Nat.not_le.mp fun q => hi (Or.inr q)
      refine W.last hC.1 hC.2.1 h1 (z_isA h2 h4 h5) h3 (by rw [h7]; exact hi) rfl rfl hd fun H1 e1 e2 e3 => ?_
      refine kk _ _ _ (hZ.st (x1 := (n, .inr (.inl (vp_updL f i.toNatClampNeg x)))) hw h2 h3 h4 h5 h6 h7 h8 e1 e2 e3 rfl hlt (fun q _ => ?_)) h
      simp only [z_xV, vp_updL]
      split <;> rfl
    · cases h
  · cases h
end ZR3
end
section
section ZR4
variable {p : Program} {l : Launch} {e : Env} {R : Room} {s : State} {m : MethodId} {args : Array Value} {below : List Frame} {meth : Method} {c : Code} {H : Heap} {locs : List Loc} {cells slots : Nat} {Q : State → Prop} {cc : ByteArray} {pc nL : Nat} {ls : Array Slot} {rest : List Value} {G : zG} {w : zW} {own : String} {res : zO × zW}
/-- from the invoking instruction on, when its linking is done: what the callee's contract gives -/
def z_Goes (G : zG) (p : Program) (l : Launch) (e : Env) (R : Room) (s : State) (m : MethodId) (args : Array Value) (below : List Frame) (meth : Method) (c : Code) (g : JFrame) (rest : List Value) (r1 : zO × zW) (T : State) : Prop :=
  ∃ (T' : State) (locs' : List Loc) (cells' slots' : Nat), Stand p l e R s m args below meth c T' locs' cells' slots' ∧ z_Z G R s r1.2 T'.heap locs' cells' slots' ∧
    (∀ v, r1.1 = .inl v → ∀ target, Steps p.tables e below (T'.setTop { g with pc := g.pc + 3, stack := v.toList ++ rest }) target → Steps p.tables e below (T.setTop g) target) ∧
    (∀ x, r1.1 = .inr x → ∀ target, Steps p.tables e below ((T'.setTop { g with stack := rest }).pushFrame (.throwing x)) target → Steps p.tables e below (T.setTop g) target)
/-- a method that has no handlers: an answer goes on behind the call, an exception leaves it too -/
theorem x_goes {w0 : zW} {r1 : zO × zW} {P : Option Value → Prop} {st0 : List Value} (hC : z_C G p e s m meth c cc nL own) (hc : R.cells = w0.2.1) (hs : R.slots = w0.2.2.1) (hx : c.exceptionTable.toList = []) (ha : z_ans r1 res P)
    (hg : ∀ T : State, T.heap = H → Stand p l e R s m args below meth c T locs cells slots → z_Goes G p l e R s m args below meth c (F0 m pc ls st0) rest r1 T)
    (kk : ∀ (v : Option Value), P v → ∀ (H : Heap) (locs : List Loc) (cells slots : Nat), z_Z G R s r1.2 H locs cells slots → W p l e R s m args below meth c H locs cells slots (z_Q G below s w0 res) (F0 m (pc + 3) ls (v.toList ++ rest))) : W p l e R s m args below meth c H locs cells slots (z_Q G below s w0 res) (F0 m pc ls st0) := by
  intro T hT X
  obtain ⟨T', locs', cells', slots', X', hZ', k1, k2⟩ := hg T hT X
  rcases ha with ⟨v, hv, hP⟩ | ⟨x, hx1, hres⟩
  · obtain ⟨t, a1, b1⟩ := kk v hP _ _ _ _ hZ' T' rfl X'
    exact ⟨t, k1 v hv t a1, b1⟩
  · subst hres
    obtain ⟨hwalk, hrun, hend, hW, hsm⟩ := X'.leaveThrown x (g := { F0 m pc ls st0 with stack := rest }) rfl rfl rfl (by rw [hx]; intro y hy; cases hy) hC.2.2.2.2.1
    refine ⟨_, k2 x hx1 _ hwalk, .threw x, hrun, hend, rfl, ?_, hW, locs', cells', slots', hsm, by rw [← hc]; exact hZ'.2.2.1, by rw [← hs]; exact hZ'.2.2.2, hZ'.2.1⟩
    exact hZ'.1.moved hC.2.2.2.2.2.2 hW
theorem z_goV (hC : z_C G p e s m meth c cc nL own) (hZ : z_Z G R s w H locs cells slots) {y : MethodName} {bytes : ByteArray} {ret : Option FieldType} {fr lo maxL ci : Nat} {r : Option Nat} {a : Nat} {fs : List Value} {As : List Value} {r1 : zO × zW} {T0 : u_T} {N0 : Nat} {ty0 : Nat → FieldType} (hcl : z_cls G ci y.cls T0 N0 ty0) (ho : z_obj w ci r = some (a, fs)) (hM : z_Ct G l y (.code y bytes maxL ret) fr lo (va_rf r :: As) w r1) {index : Nat} (hlink : Cond.methodLink own index y ∈ G.2.2.2.2.1) (hinst : Cond.instanceMethod y ∈ G.2.2.2.2.1) (hsel : Cond.selects y.cls y y ∈ G.2.2.2.2.1) (hini : Cond.initialized y.cls ∈ G.2.2.2.2.1) (hcode : Cond.code y bytes maxL ret ∈ G.2.2.2.2.1) (hy : y.cls ≠ "java/lang/invoke/MethodHandle" ∧ y.cls ≠ "java/lang/invoke/VarHandle" ∧ (parseMethodDescriptor y.desc).map (fun d => d.parameters.length) = some As.length)
    (hfr : fr + 1 ≤ R.frames) (hlo : 8 + (maxL + 11) + lo ≤ R.locals) (hsz : ls.size = nL) {st0 : List Value} (hst : st0 = As.reverse ++ va_rf r :: rest) (hW : (rest.map fun v => v.category).sum ≤ 8) (hd : decode cc pc = .ok (.invokevirtual index, 3)) :
    ∀ T : State, T.heap = H → Stand p l e R s m args below meth c T locs cells slots → z_Goes G p l e R s m args below meth c (F0 m pc ls st0) rest r1 T := by
  intro T hT X
  subst hT
  obtain ⟨rfl, hw⟩ := z_obj_spec ho
  have hts := hZ.1.tb hC.2.2.2.2.2.2 args
  obtain ⟨q, h1, cellB, q1, q2, q3, -⟩ := (hZ.1.c a _ hw).2
  have hq : q = (y.cls, T0, N0) := Option.some.inj (h1.symm.trans hcl.1)
  subst hq
  have hcls : s.vm.findClass y.cls = some cellB.cls := by rw [q2]; exact (hZ.1.k.1 ci _ hcl.1).2.1
  obtain ⟨mk, methM, hnamed, hmethM, hstM, habM⟩ := Cond.instanceMethod_spec (hts _ hinst)
  obtain ⟨methM', cM, hmethM', -, -, -, -, -, -, hsigM⟩ := Cond.code_spec hnamed (hts _ hcode)
  cases hmethM.symm.trans hmethM'
  obtain ⟨c2, r2, m2, p1, p2, p3, p4, kP, hkP, hkPi⟩ := Cond.selects_spec (hts _ hsel)
  cases hcls.symm.trans p1
  cases (State.methodFound?_of_named hnamed ⟨hy.1, hy.2.1⟩).symm.trans p2
  cases hnamed.symm.trans p3
  have hselP : selectMethod e.platform s.vm cellB.cls mk = .method mk := by rw [Launch.admits_selectMethod X.admits]; exact p4
  have hlen : As.length = methM.sig.parameters.length := by
    have h2 := hy.2.2
    rw [hsigM] at h2
    exact (Option.some.inj h2).symm
  obtain ⟨vm₁, X₁, hstep₁⟩ := X.invokevirtual hC.1 hC.2.2.2.1 (hts _ hlink) hnamed hmethM hstM hkP hkPi ⟨hy.1, hy.2.1⟩ (a := a) (cell := cellB) q1
    (fun z h => by rw [q3] at h; cases h) hselP hmethM habM hkP hkPi (g := F0 m pc ls st0) rfl (argsL := As) (rest := rest) hlen hst (by rw [hC.2.1]; exact hd)
  obtain ⟨T', locs', cells', slots', X', hZ', k1, k2⟩ := z_go hC.2.2.2.2.2.2 X₁ (w := w) (T := T.setVm vm₁) hZ hM z_hw_code hnamed hcode hini hfr hlo (g := { F0 m pc ls st0 with stack := rest }) rfl (by rw [hC.2.2.1]; exact hsz) (ig := .invokevirtual index) (by rw [hC.2.1]; exact hd) (by show 2 * 0 + (rest.map fun v => v.category).sum ≤ 8; omega)
  exact ⟨T', locs', cells', slots', X', hZ', fun v hv target h => hstep₁ _ fun acts => by rw [doInvoke_state]; exact (k1 v hv).trans h, fun x hx target h => hstep₁ _ fun acts => by rw [doInvoke_state]; exact (k2 x hx).trans h⟩
theorem z_goS (hC : z_C G p e s m meth c cc nL own) (hZ : z_Z G R s w H locs cells slots) {y : MethodName} {bytes : ByteArray} {ret : Option FieldType} {fr lo maxL : Nat} {As : List Value} {r1 : zO × zW} (hM : z_Ct G l y (.code y bytes maxL ret) fr lo As w r1) {index : Nat} (hlink : Cond.methodLink own index y ∈ G.2.2.2.2.1) (hstat : Cond.static y ∈ G.2.2.2.2.1) (hini : Cond.initialized y.cls ∈ G.2.2.2.2.1) (hcode : Cond.code y bytes maxL ret ∈ G.2.2.2.2.1) (hy : y.cls ≠ "java/lang/invoke/MethodHandle" ∧ y.cls ≠ "java/lang/invoke/VarHandle" ∧ (parseMethodDescriptor y.desc).map (fun d => d.parameters.length) = some As.length)
    (hfr : fr + 1 ≤ R.frames) (hlo : 8 + (maxL + 11) + lo ≤ R.locals) (hsz : ls.size = nL) {st0 : List Value} (hst : st0 = As.reverse ++ rest) (hW : (rest.map fun v => v.category).sum ≤ 8) (hd : decode cc pc = .ok (.invokestatic index, 3)) :
    ∀ T : State, T.heap = H → Stand p l e R s m args below meth c T locs cells slots → z_Goes G p l e R s m args below meth c (F0 m pc ls st0) rest r1 T := by
  intro T hT X
  subst hT
  have hts := hZ.1.tb hC.2.2.2.2.2.2 args
  obtain ⟨mk, hnamed⟩ := Cond.code_named (hts _ hcode)
  obtain ⟨methM, cM, hmethM, -, -, -, -, -, -, hsigM⟩ := Cond.code_spec hnamed (hts _ hcode)
  have hstatic : methM.isStatic = true := Cond.static_spec hnamed hmethM (hts _ hstat)
  obtain ⟨kP, hkP, -⟩ := className_of_methodNamed hnamed
  have hinitP : kP.init = .initialized := Cond.initialized_spec (findClass_of_methodNamed hnamed) hkP (hts _ hini)
  have hlen : As.length = methM.sig.parameters.length := by
    have h2 := hy.2.2
    rw [hsigM] at h2
    exact (Option.some.inj h2).symm
  obtain ⟨vm₁, X₁, hstep₁⟩ := X.invokestatic hC.1 hC.2.2.2.1 (hts _ hlink) hnamed hmethM hstatic hkP hinitP ⟨hy.1, hy.2.1⟩ (g := F0 m pc ls st0) rfl (argsL := As) (rest := rest) hlen hst (by rw [hC.2.1]; exact hd)
  obtain ⟨T', locs', cells', slots', X', hZ', k1, k2⟩ := z_go hC.2.2.2.2.2.2 X₁ (w := w) (T := T.setVm vm₁) hZ hM z_hw_code hnamed hcode hini hfr hlo (g := { F0 m pc ls st0 with stack := rest }) rfl (by rw [hC.2.2.1]; exact hsz) (ig := .invokestatic index) (by rw [hC.2.1]; exact hd) (by show 2 * 0 + (rest.map fun v => v.category).sum ≤ 8; omega)
  exact ⟨T', locs', cells', slots', X', hZ', fun v hv target h => hstep₁ _ fun acts => by rw [doInvoke_state]; exact (k1 v hv).trans h, fun x hx target h => hstep₁ _ fun acts => by rw [doInvoke_state]; exact (k2 x hx).trans h⟩
theorem z_goI (hC : z_C G p e s m meth c cc nL own) (hZ : z_Z G R s w H locs cells slots) {y : MethodName} {bytes : ByteArray} {fr lo maxL : Nat} {r : Option Nat} {a : Nat} (ho : r = some a) {As : List Value} {r1 : zO × zW} (hM : z_Ct G l y (.code y bytes maxL none) fr lo (va_rf r :: As) w r1) {index : Nat} (hlink : Cond.methodLink own index y ∈ G.2.2.2.2.1) (hinst : Cond.instanceMethod y ∈ G.2.2.2.2.1) (hini : Cond.initialized y.cls ∈ G.2.2.2.2.1) (hcode : Cond.code y bytes maxL none ∈ G.2.2.2.2.1) (hy1 : y.name = "<init>") (hy : y.cls ≠ "java/lang/invoke/MethodHandle" ∧ y.cls ≠ "java/lang/invoke/VarHandle" ∧ (parseMethodDescriptor y.desc).map (fun d => d.parameters.length) = some As.length)
    (hfr : fr + 1 ≤ R.frames) (hlo : 8 + (maxL + 11) + lo ≤ R.locals) (hsz : ls.size = nL) {st0 : List Value} (hst : st0 = As.reverse ++ va_rf r :: rest) (hW : (rest.map fun v => v.category).sum ≤ 8) (hd : decode cc pc = .ok (.invokespecial index, 3)) :
    ∀ T : State, T.heap = H → Stand p l e R s m args below meth c T locs cells slots → z_Goes G p l e R s m args below meth c (F0 m pc ls st0) rest r1 T := by
  intro T hT X
  subst hT
  subst ho
  have hts := hZ.1.tb hC.2.2.2.2.2.2 args
  have hpl : e.platform.magicAccessors = ({} : Platform).magicAccessors := by rw [X.admits.platform]
  have hlen : ∀ sig, parseMethodDescriptor y.desc = some sig → As.length = sig.parameters.length := fun sig h => by
    have h2 := hy.2.2
    rw [h] at h2
    exact (Option.some.inj h2).symm
  obtain ⟨mk, methM, cM, kP, vm₁, hnamed, hmethM, hcodeM, -, hlocalsM, -, hkP, -, hW₁, hstep₁⟩ := Steps.initColdArgs (e := e) X.here hC.1 X.warmed hpl hC.2.2.2.1 hy1 ⟨hy.1, hy.2.1⟩ (hts _ hlink) (hts _ hinst) (hts _ hcode) (f := F0 m pc ls st0) rfl hlen hst (by rw [hC.2.1]; exact hd)
  have X₁ := X.noted hW₁
  obtain ⟨T', locs', cells', slots', X', hZ', k1, k2⟩ := z_go hC.2.2.2.2.2.2 X₁ (w := w) (T := T.setVm vm₁) hZ hM z_hw_code hnamed hcode hini hfr hlo (g := { F0 m pc ls st0 with stack := rest }) rfl (by rw [hC.2.2.1]; exact hsz) (ig := .invokespecial index) (by rw [hC.2.1]; exact hd) (by show 2 * 0 + (rest.map fun v => v.category).sum ≤ 8; omega)
  exact ⟨T', locs', cells', slots', X', hZ', fun v hv target h => hstep₁ _ fun acts => by rw [doInvoke_state]; exact (k1 v hv).trans h, fun x hx target h => hstep₁ _ fun acts => by rw [doInvoke_state]; exact (k2 x hx).trans h⟩
end ZR4
/-- a contract out of the walk of a body -/
theorem z_ct {G : zG} {l : Launch} {y : MethodName} {cc : ByteArray} {nL : Nat} {ret : Option FieldType} {fr lo : Nat} {av : List Value} {w : zW} {res : zO × zW} (hT : z_TB G) (hfl : l.flags = pinnedFlags ++ [noTraceFlag]) (hy : plainName y.cls = true) (hsz : (lg_sl av).length ≤ nL)
    (body : ∀ (p : Program) (e : Env) (R : Room) (s : State) (m : MethodId) (args : Array Value) (below : List Frame) (meth : Method) (c : Code), z_C G p e s m meth c cc nL y.cls → meth.sig.returnType = ret → R.cells = w.2.1 → R.slots = w.2.2.1 → R.frames = fr ∧ R.locals = lo → meth.name = y.name → c.exceptionTable.toList = [] → ∀ (H : Heap) (ls : Array Slot), z_Z G R s w H [] 0 0 → lv_has ls nL (lv_args 0 av) → W p l e R s m args below meth c H [] 0 0 (z_Q G below s w res) (F0 m 0 ls [])) : z_Ct G l y (.code y cc nL ret) fr lo av w res := by
  unfold z_Ct
  refine MetFree.of_bodyS (code := cc) (maxLocals := nL) (ret := ret) hy ?_ ?_
  · intro args s m h hn
    obtain ⟨meth, c, h1, h2, h3, h4, h5, h6, -, -⟩ := Cond.code_spec hn (atoms_spec (ws := [.code y cc nL ret]) h _ (List.mem_singleton.mpr rfl))
    exact ⟨meth, c, h1, h2, h3, h4, h5, h6⟩
  · intro p e s m args below meth c s₁ B hml hP _
    obtain ⟨rfl, hP⟩ := hP
    have hh0 : s₁.heap = s.heap := by rw [B.state]; rfl
    have hl := lv_entry av hsz
    obtain ⟨meth', c', h1, h2, -, -, -, -, hemp, -⟩ := Cond.code_spec B.named (atoms_spec (ws := [.code y cc nL ret]) B.pre _ (List.mem_singleton.mpr rfl))
    have X := Stand.of_body B
    have hcc : c' = c := by
      have e1 := h1.symm.trans X.method
      cases e1
      exact Option.some.inj (h2.symm.trans X.code)
    subst hcc
    have hem : c'.exceptionTable.toList = [] := by
      have h0 : c'.exceptionTable.size = 0 := by simpa [Array.isEmpty] using hemp
      exact List.eq_nil_of_length_eq_zero (by simpa using h0)
    have key := body p e { frames := fr, cells := w.2.1, slots := w.2.2.1, locals := lo } s m av.toArray below meth c' ⟨B.exec, B.bytes, hml, findClass_of_methodNamed B.named, B.notSynchronized, Launch.traces_off hfl B.admits, hT⟩ B.returns rfl rfl ⟨rfl, rfl⟩ (name_of_methodNamed B.named B.method).1 hem s.heap _ ⟨hP, fun q h => (by cases h), Nat.zero_add _, Nat.zero_add _⟩ hl
    obtain ⟨t, a1, oc, b1, b2, b3⟩ := key s₁ hh0 X
    refine ⟨t, oc, ?_, b1, b2, b3⟩
    rw [lg_entry_eq]
    exact a1
end
section
section ZT
variable {p : Program} {l : Launch} {e : Env} {R : Room} {s : State} {m : MethodId} {args : Array Value} {below : List Frame} {meth : Method} {c : Code} {H : Heap} {locs : List Loc} {cells slots : Nat} {Q : State → Prop} {cc : ByteArray} {pc nL : Nat} {ls : Array Slot} {rest : List Value} {G : zG} {w : zW} {own : String} {res : zO × zW}
/-- the walk as if the invocation were made now -/
theorem z_rebase {T : State} (X : Stand p l e R s m args below meth c T locs cells slots) (hcl : cells ≤ R.cells) (hsl : slots ≤ R.slots) : Stand p l e { frames := R.frames, cells := R.cells - cells, slots := R.slots - slots, locals := R.locals } (T.setFrames (.invoking m args :: below)) m args below meth c T [] 0 0 := by
  obtain ⟨g₀, hfr⟩ := X.frames_eq
  have hcur : T.cur < T.threads.size := State.cur_lt_of_frames hfr
  have hf : (T.setFrames (.invoking m args :: below)).frames = .invoking m args :: below := State.frames_setFrames _ hcur
  obtain ⟨th, hth, -⟩ := State.frames_cons hfr
  have hr := X.room
  have hheap := X.heapSize
  have hused := X.used
  have hbook := X.book
  refine ⟨X.admits, X.cas, X.clock, hf, ?_, ?_, X.method', X.code, X.here, X.tail, State.WarmedH.refl _, by rw [State.stackLimits_setFrames], by rw [State.stackBytes_setFrames], ?_⟩
  · have h1 : (T.setFrames (.invoking m args :: below)).localsInUse = s.localsInUse := by
      rw [State.localsInUse_invoking X.frames X.method X.code, State.localsInUse_invoking hf (show (T.setFrames (.invoking m args :: below)).vm.method? m = some meth from X.method') X.code]
    have h2 : (T.setFrames (.invoking m args :: below)).frames.length = s.frames.length := by rw [hf, X.frames]
    have h3 : e.platform.stackLimits (T.setFrames (.invoking m args :: below)).me = e.platform.stackLimits s.me := by rw [State.stackLimits_setFrames]; exact X.limits
    have h4 : (T.setFrames (.invoking m args :: below)).me.stackBytes = s.me.stackBytes := by rw [State.stackBytes_setFrames]; exact X.bytes
    simp only [State.hasRoom, Bool.and_eq_true, decide_eq_true_eq] at hr ⊢
    rw [h1, h2, h3, h4]
    refine ⟨⟨⟨hr.1.1.1, ?_⟩, ?_⟩, hbook⟩
    · show T.heap.size + (R.cells - cells) ≤ _
      have := hr.1.1.2
      omega
    · show T.slotsUsed + (R.slots - slots) ≤ _
      have := hr.1.2
      omega
  · have hh := X.hears
    have hm : ∀ q, T.vm.method? q = s.vm.method? q := X.warmed.alike.method?
    cases below with
    | nil =>
      simp only [State.hears] at hh ⊢
      rw [show (T.setFrames [.invoking m args]).vm.method? m = s.vm.method? m from hm m]
      exact hh
    | cons f r =>
      cases f <;> simp only [State.hears, State.code?_eq] at hh ⊢ <;> first | (rw [show ∀ x, (T.setFrames x).vm.method? _ = s.vm.method? _ from fun _ => hm _]; exact hh) | exact hh
  · have h := (State.sameButNew.refl T hth)
    have h2 : (T.setFrames (.invoking m args :: below)).sameButNew T [] 0 0 := by
      obtain ⟨e1, e2, e3, e4, e5, e6⟩ := h
      refine ⟨?_, e2, e3, e4, e5, e6⟩
      rw [State.setFrames_setFrames, State.setFrames_self hth]
    exact h2
end ZT
end
section
section ZR6
variable {p : Program} {l : Launch} {e : Env} {R : Room} {s : State} {m : MethodId} {args : Array Value} {below : List Frame} {meth : Method} {c : Code} {H : Heap} {locs : List Loc} {cells slots : Nat} {Q : State → Prop} {cc : ByteArray} {pc nL : Nat} {ls : Array Slot} {rest : List Value} {G : zG} {w : zW} {own : String} {res : zO × zW}
theorem z_Z.newa {ty : FieldType} {x : vp_A} {cA : ClassId} {kA : Class} {comp : ClassId} {H1 : Heap} {v : Value} (hZ : z_Z G R s w H locs cells slots) (h1 : 1 ≤ w.2.1) (h2 : x.1 ≤ w.2.2.1) (e1 : H1[w.1]? = some { cls := cA, slots := Array.replicate x.1 v, vm := .none }) (hz : H1.size = H.size + 1) (o1 : ∀ q, q < H.size → H1[q]? = H[q]?) (f2 : s.vm.classes[cA]? = some kA) (f3 : kA.kind = .array comp ty) (f4 : z_cmp s ty comp) (hv : ∀ j, j < x.1 → z_xV x j = v) : z_Z G R s (z_push w x.1 (.inl (ty, x))) H1 locs (cells + 1) (slots + x.1) := by
  have h3 := hZ.2.2.1
  have h4 := hZ.2.2.2
  refine ⟨hZ.1.push (n := x.1) (e := .inl (ty, x)) ⟨_, kA, comp, e1, fun k h => (by cases h), fun h => (by cases h), f2, f3, f4, by simp, fun j hj => ?_⟩ hz o1, hZ.2.1, ?_, ?_⟩
  · rw [hv j hj]
    simp [hj]
  · show cells + 1 + (w.2.1 - 1) = R.cells
    omega
  · show slots + x.1 + (w.2.2.1 - x.1) = R.slots
    omega
theorem x_newaX {ty : FieldType} {atype : ArrayType} (hty : newarray.typeOf atype = ty) (hcmp : ∀ comp, z_cmp s ty comp) (hC : z_C G p e s m meth c cc nL own) (hZ : z_Z G R s w H locs cells slots) {n : Int32} {x : Nat → vp_A} (hx : ∀ k, (x k).1 = k ∧ ∀ j, z_xV (x k) j = defaultValue ty) (hby : ∀ k, k ≤ 65536 → k * componentBytes ty ≤ 536870912) {K : Nat → zW → zR} (h : z_newa w ty n x K = some res) (harr : Cond.arrayClass ty ∈ G.2.2.2.2.1) (hd : decode cc pc = .ok (.newarray atype, 2))
    (kk : ∀ (a : Nat) (w : zW) (H : Heap) (cells slots : Nat), z_Z G R s w H locs cells slots → K a w = some res → W p l e R s m args below meth c H locs cells slots Q (F0 m (pc + 2) ls (va_rf (some a) :: rest))) : W p l e R s m args below meth c H locs cells slots Q (F0 m pc ls (.int n :: rest)) := by
  subst hty
  unfold z_newa at h
  split at h
  · rename_i hr
    have hts := hZ.1.tb hC.2.2.2.2.2.2 args
    have h3 := hZ.2.2.1
    have h4 := hZ.2.2.2
    have hn := (hx n.toNatClampNeg).1
    refine W.newa hC.1 hC.2.1 (hts _ harr) rfl hd rfl hr.1 (hby _ hr.2.1) (by omega) (by omega) fun cA kA comp f1 f2 f3 => ?_
    rw [hZ.1.n]
    have key := hZ.newa (ty := newarray.typeOf atype) (x := x n.toNatClampNeg) (cA := cA) (v := defaultValue (newarray.typeOf atype)) (H1 := H.push { cls := cA, slots := Array.replicate n.toNatClampNeg (defaultValue (newarray.typeOf atype)), vm := .none }) hr.2.2.1 (by rw [hn]; exact hr.2.2.2) (by rw [← hZ.1.n, hn, Array.getElem?_push_size]) (by simp) (fun q hq => by rw [Array.getElem?_push, if_neg (Nat.ne_of_lt hq)]) f2 f3 (hcmp comp) (fun j _ => (hx n.toNatClampNeg).2 j)
    rw [hn] at key
    exact kk w.1 _ _ _ _ key h
  · cases h
theorem x_newaI (hC : z_C G p e s m meth c cc nL own) (hZ : z_Z G R s w H locs cells slots) {n : Int32} {K : Nat → zW → zR} (h : z_newa w .int n (fun n => (n, .inl fun _ => 0)) K = some res) (harr : Cond.arrayClass .int ∈ G.2.2.2.2.1) (hd : decode cc pc = .ok (.newarray .int, 2))
    (kk : ∀ (a : Nat) (w : zW) (H : Heap) (cells slots : Nat), z_Z G R s w H locs cells slots → K a w = some res → W p l e R s m args below meth c H locs cells slots Q (F0 m (pc + 2) ls (va_rf (some a) :: rest))) : W p l e R s m args below meth c H locs cells slots Q (F0 m pc ls (.int n :: rest)) :=
  x_newaX (ty := .int) (atype := .int) (x := fun n => (n, .inl fun _ => 0)) rfl (fun _ => trivial) hC hZ (fun _ => ⟨rfl, fun _ => rfl⟩) (fun k hk => by show k * 4 ≤ _; omega) h harr hd kk
theorem x_newaZ (hC : z_C G p e s m meth c cc nL own) (hZ : z_Z G R s w H locs cells slots) {n : Int32} {K : Nat → zW → zR} (h : z_newa w .boolean n (fun n => (n, .inl fun _ => 0)) K = some res) (harr : Cond.arrayClass .boolean ∈ G.2.2.2.2.1) (hd : decode cc pc = .ok (.newarray .boolean, 2))
    (kk : ∀ (a : Nat) (w : zW) (H : Heap) (cells slots : Nat), z_Z G R s w H locs cells slots → K a w = some res → W p l e R s m args below meth c H locs cells slots Q (F0 m (pc + 2) ls (va_rf (some a) :: rest))) : W p l e R s m args below meth c H locs cells slots Q (F0 m pc ls (.int n :: rest)) :=
  x_newaX (ty := .boolean) (atype := .boolean) (x := fun n => (n, .inl fun _ => 0)) rfl (fun _ => trivial) hC hZ (fun _ => ⟨rfl, fun _ => rfl⟩) (fun k hk => by show k * 1 ≤ _; omega) h harr hd kk
theorem x_newaJ (hC : z_C G p e s m meth c cc nL own) (hZ : z_Z G R s w H locs cells slots) {n : Int32} {K : Nat → zW → zR} (h : z_newa w .long n (fun n => (n, .inr (.inl fun _ => 0))) K = some res) (harr : Cond.arrayClass .long ∈ G.2.2.2.2.1) (hd : decode cc pc = .ok (.newarray .long, 2))
    (kk : ∀ (a : Nat) (w : zW) (H : Heap) (cells slots : Nat), z_Z G R s w H locs cells slots → K a w = some res → W p l e R s m args below meth c H locs cells slots Q (F0 m (pc + 2) ls (va_rf (some a) :: rest))) : W p l e R s m args below meth c H locs cells slots Q (F0 m pc ls (.int n :: rest)) :=
  x_newaX (ty := .long) (atype := .long) (x := fun n => (n, .inr (.inl fun _ => 0))) rfl (fun _ => trivial) hC hZ (fun _ => ⟨rfl, fun _ => rfl⟩) (fun k hk => by show k * 8 ≤ _; omega) h harr hd kk
theorem x_anew (hC : z_C G p e s m meth c cc nL own) (hZ : z_Z G R s w H locs cells slots) {C : String} {n : Int32} {K : Nat → zW → zR} (h : z_newa w (.object C) n (fun n => (n, .inr (.inr (.inr (.inr fun _ => none))))) K = some res) {index : Nat} (hcl : Cond.classLink own index C ∈ G.2.2.2.2.1) (hov : Cond.arrayOver (.object C) ∈ G.2.2.2.2.1) (hd : decode cc pc = .ok (.anewarray index, 3))
    (kk : ∀ (a : Nat) (w : zW) (H : Heap) (cells slots : Nat), z_Z G R s w H locs cells slots → K a w = some res → W p l e R s m args below meth c H locs cells slots Q (F0 m (pc + 3) ls (va_rf (some a) :: rest))) : W p l e R s m args below meth c H locs cells slots Q (F0 m pc ls (.int n :: rest)) := by
  unfold z_newa at h
  split at h
  · rename_i hr
    have hts := hZ.1.tb hC.2.2.2.2.2.2 args
    have h3 := hZ.2.2.1
    have h4 := hZ.2.2.2
    refine W.anew hC.1 hC.2.1 hC.2.2.2.1 (hts _ hcl) (hts _ hov) rfl hd rfl hr.1 (by omega) (by omega) (by omega) fun cA kA comp f1 f2 f3 f4 => ?_
    rw [hZ.1.n]
    exact kk w.1 _ _ _ _ (hZ.newa (ty := .object C) (x := (n.toNatClampNeg, .inr (.inr (.inr (.inr fun _ => none))))) (cA := cA) (v := .null) (H1 := H.push { cls := cA, slots := Array.replicate n.toNatClampNeg .null, vm := .none }) hr.2.2.1 hr.2.2.2 (by rw [← hZ.1.n, Array.getElem?_push_size]) (by simp) (fun q hq => by rw [Array.getElem?_push, if_neg (Nat.ne_of_lt hq)]) f2 f3 f4 (fun _ _ => rfl)) h
  · cases h
theorem x_null (hC : z_C G p e s m meth c cc nL own) (hd : decode cc pc = .ok (.aconst_null, 1)) (kk : W p l e R s m args below meth c H locs cells slots Q (F0 m (pc + 1) ls (va_rf none :: rest))) : W p l e R s m args below meth c H locs cells slots Q (F0 m pc ls rest) := lv_null hC.1 hC.2.1 hd kk
end ZR6
end
section
-- ===== PART A: goes FIRST, ahead of the names: the tables' words, and 'selects' of the private methods out of them =====
/-- a private method of a class that the tables say can be made, by its rows of tables_1 -/
def lw_okq (q : MethodName × Nat) : Prop := (q.1.cls ≠ "java/lang/invoke/MethodHandle" ∧ q.1.cls ≠ "java/lang/invoke/VarHandle") ∧ Cond.instantiable q.1.cls q.2 ∈ tables_1 ∧ Cond.privateMethod q.1 ∈ tables_1 ∧ Cond.instanceMethod q.1 ∈ tables_1
theorem lw_p0 : lw_okq (⟨"AckBook", "earliest", "(Z)LAckBook$Space;"⟩, 9) := ⟨⟨by decide +kernel, by decide +kernel⟩, List.mem_of_getElem? (i := 27) (by decide +kernel), List.mem_of_getElem? (i := 274) (by decide +kernel), List.mem_of_getElem? (i := 275) (by decide +kernel)⟩
theorem lw_p1 : lw_okq (⟨"AckBook", "probeTime", "(LAckBook$Space;)I"⟩, 9) := ⟨⟨by decide +kernel, by decide +kernel⟩, List.mem_of_getElem? (i := 27) (by decide +kernel), List.mem_of_getElem? (i := 278) (by decide +kernel), List.mem_of_getElem? (i := 279) (by decide +kernel)⟩
theorem lw_p2 : lw_okq (⟨"AckBook", "patience", "(LAckBook$Space;)I"⟩, 9) := ⟨⟨by decide +kernel, by decide +kernel⟩, List.mem_of_getElem? (i := 27) (by decide +kernel), List.mem_of_getElem? (i := 282) (by decide +kernel), List.mem_of_getElem? (i := 283) (by decide +kernel)⟩
theorem lw_p3 : lw_okq (⟨"AckBook", "probesWithoutCause", "(LAckBook$Space;)Z"⟩, 9) := ⟨⟨by decide +kernel, by decide +kernel⟩, List.mem_of_getElem? (i := 27) (by decide +kernel), List.mem_of_getElem? (i := 293) (by decide +kernel), List.mem_of_getElem? (i := 294) (by decide +kernel)⟩
theorem lw_p4 : lw_okq (⟨"AckBook", "lookForLosses", "(LAckBook$Sent;)V"⟩, 9) := ⟨⟨by decide +kernel, by decide +kernel⟩, List.mem_of_getElem? (i := 27) (by decide +kernel), List.mem_of_getElem? (i := 297) (by decide +kernel), List.mem_of_getElem? (i := 298) (by decide +kernel)⟩
theorem lw_p5 : lw_okq (⟨"AckBook$Sent", "end", "(LAckBook$Packet;ILAckBook$Chain;)V"⟩, 8) := ⟨⟨by decide +kernel, by decide +kernel⟩, List.mem_of_getElem? (i := 42) (by decide +kernel), List.mem_of_getElem? (i := 328) (by decide +kernel), List.mem_of_getElem? (i := 329) (by decide +kernel)⟩
theorem lw_p6 : lw_okq (⟨"AckBook$Flow", "isAfterRecovery", "(LAckBook$Packet;)Z"⟩, 4) := ⟨⟨by decide +kernel, by decide +kernel⟩, List.mem_of_getElem? (i := 219) (by decide +kernel), List.mem_of_getElem? (i := 344) (by decide +kernel), List.mem_of_getElem? (i := 345) (by decide +kernel)⟩
theorem lw_p7 : lw_okq (⟨"AckBook$Sent", "hasAcknowledged", "(II)Z"⟩, 8) := ⟨⟨by decide +kernel, by decide +kernel⟩, List.mem_of_getElem? (i := 42) (by decide +kernel), List.mem_of_getElem? (i := 353) (by decide +kernel), List.mem_of_getElem? (i := 354) (by decide +kernel)⟩
theorem lw_p8 : lw_okq (⟨"AckBook", "known", "(I)LAckBook$Space;"⟩, 9) := ⟨⟨by decide +kernel, by decide +kernel⟩, List.mem_of_getElem? (i := 27) (by decide +kernel), List.mem_of_getElem? (i := 381) (by decide +kernel), List.mem_of_getElem? (i := 382) (by decide +kernel)⟩
theorem lw_p9 : lw_okq (⟨"java/lang/Throwable", "fillInStackTrace", "(I)Ljava/lang/Throwable;"⟩, 6) := ⟨⟨by decide +kernel, by decide +kernel⟩, List.mem_of_getElem? (i := 423) (by decide +kernel), List.mem_of_getElem? (i := 421) (by decide +kernel), List.mem_of_getElem? (i := 422) (by decide +kernel)⟩
theorem lw_p10 : lw_okq (⟨"java/util/ArrayList", "add", "(Ljava/lang/Object;[Ljava/lang/Object;I)V"⟩, 3) := ⟨⟨by decide +kernel, by decide +kernel⟩, List.mem_of_getElem? (i := 61) (by decide +kernel), List.mem_of_getElem? (i := 533) (by decide +kernel), List.mem_of_getElem? (i := 534) (by decide +kernel)⟩
theorem lw_p11 : lw_okq (⟨"java/util/ArrayList", "grow", "()[Ljava/lang/Object;"⟩, 3) := ⟨⟨by decide +kernel, by decide +kernel⟩, List.mem_of_getElem? (i := 61) (by decide +kernel), List.mem_of_getElem? (i := 537) (by decide +kernel), List.mem_of_getElem? (i := 538) (by decide +kernel)⟩
theorem lw_p12 : lw_okq (⟨"java/util/ArrayList", "grow", "(I)[Ljava/lang/Object;"⟩, 3) := ⟨⟨by decide +kernel, by decide +kernel⟩, List.mem_of_getElem? (i := 61) (by decide +kernel), List.mem_of_getElem? (i := 541) (by decide +kernel), List.mem_of_getElem? (i := 542) (by decide +kernel)⟩
theorem lw_p13 : lw_okq (⟨"AckBook", "settle", "(LAckBook$Space;LAckBook$Packet;I)I"⟩, 9) := ⟨⟨by decide +kernel, by decide +kernel⟩, List.mem_of_getElem? (i := 27) (by decide +kernel), List.mem_of_getElem? (i := 635) (by decide +kernel), List.mem_of_getElem? (i := 636) (by decide +kernel)⟩
theorem lw_p14 : lw_okq (⟨"AckBook$Flow", "grow", "(I)V"⟩, 4) := ⟨⟨by decide +kernel, by decide +kernel⟩, List.mem_of_getElem? (i := 219) (by decide +kernel), List.mem_of_getElem? (i := 675) (by decide +kernel), List.mem_of_getElem? (i := 676) (by decide +kernel)⟩
theorem lw_p15 : lw_okq (⟨"AckBook$Arrivals", "firstNotAbove", "(J)I"⟩, 8) := ⟨⟨by decide +kernel, by decide +kernel⟩, List.mem_of_getElem? (i := 119) (by decide +kernel), List.mem_of_getElem? (i := 730) (by decide +kernel), List.mem_of_getElem? (i := 731) (by decide +kernel)⟩
def lw_privs_1 : List (MethodName × Nat) := [(⟨"AckBook", "earliest", "(Z)LAckBook$Space;"⟩, 9), (⟨"AckBook", "probeTime", "(LAckBook$Space;)I"⟩, 9), (⟨"AckBook", "patience", "(LAckBook$Space;)I"⟩, 9), (⟨"AckBook", "probesWithoutCause", "(LAckBook$Space;)Z"⟩, 9), (⟨"AckBook", "lookForLosses", "(LAckBook$Sent;)V"⟩, 9), (⟨"AckBook$Sent", "end", "(LAckBook$Packet;ILAckBook$Chain;)V"⟩, 8), (⟨"AckBook$Flow", "isAfterRecovery", "(LAckBook$Packet;)Z"⟩, 4), (⟨"AckBook$Sent", "hasAcknowledged", "(II)Z"⟩, 8), (⟨"AckBook", "known", "(I)LAckBook$Space;"⟩, 9), (⟨"java/lang/Throwable", "fillInStackTrace", "(I)Ljava/lang/Throwable;"⟩, 6), (⟨"java/util/ArrayList", "add", "(Ljava/lang/Object;[Ljava/lang/Object;I)V"⟩, 3), (⟨"java/util/ArrayList", "grow", "()[Ljava/lang/Object;"⟩, 3), (⟨"java/util/ArrayList", "grow", "(I)[Ljava/lang/Object;"⟩, 3), (⟨"AckBook", "settle", "(LAckBook$Space;LAckBook$Packet;I)I"⟩, 9), (⟨"AckBook$Flow", "grow", "(I)V"⟩, 4), (⟨"AckBook$Arrivals", "firstNotAbove", "(J)I"⟩, 8)]
theorem lw_r1 : ∀ q ∈ lw_privs_1, lw_okq q := List.forall_mem_cons.mpr ⟨lw_p0, List.forall_mem_cons.mpr ⟨lw_p1, List.forall_mem_cons.mpr ⟨lw_p2, List.forall_mem_cons.mpr ⟨lw_p3, List.forall_mem_cons.mpr ⟨lw_p4, List.forall_mem_cons.mpr ⟨lw_p5, List.forall_mem_cons.mpr ⟨lw_p6, List.forall_mem_cons.mpr ⟨lw_p7, List.forall_mem_cons.mpr ⟨lw_p8, List.forall_mem_cons.mpr ⟨lw_p9, List.forall_mem_cons.mpr ⟨lw_p10, List.forall_mem_cons.mpr ⟨lw_p11, List.forall_mem_cons.mpr ⟨lw_p12, List.forall_mem_cons.mpr ⟨lw_p13, List.forall_mem_cons.mpr ⟨lw_p14, List.forall_mem_cons.mpr ⟨lw_p15, fun _ h => absurd h List.not_mem_nil⟩⟩⟩⟩⟩⟩⟩⟩⟩⟩⟩⟩⟩⟩⟩⟩
theorem lw_p16 : lw_okq (⟨"AckBook$Arrivals", "keep", "(JI)V"⟩, 8) := ⟨⟨by decide +kernel, by decide +kernel⟩, List.mem_of_getElem? (i := 119) (by decide +kernel), List.mem_of_getElem? (i := 735) (by decide +kernel), List.mem_of_getElem? (i := 736) (by decide +kernel)⟩
theorem lw_p17 : lw_okq (⟨"AckBook$Arrivals", "remove", "(I)V"⟩, 8) := ⟨⟨by decide +kernel, by decide +kernel⟩, List.mem_of_getElem? (i := 119) (by decide +kernel), List.mem_of_getElem? (i := 739) (by decide +kernel), List.mem_of_getElem? (i := 740) (by decide +kernel)⟩
theorem lw_p18 : lw_okq (⟨"AckBook$Arrivals", "insert", "(JI)V"⟩, 8) := ⟨⟨by decide +kernel, by decide +kernel⟩, List.mem_of_getElem? (i := 119) (by decide +kernel), List.mem_of_getElem? (i := 743) (by decide +kernel), List.mem_of_getElem? (i := 744) (by decide +kernel)⟩
theorem lw_p19 : lw_okq (⟨"AckBook$Arrivals", "hold", "(ZI)V"⟩, 8) := ⟨⟨by decide +kernel, by decide +kernel⟩, List.mem_of_getElem? (i := 119) (by decide +kernel), List.mem_of_getElem? (i := 747) (by decide +kernel), List.mem_of_getElem? (i := 748) (by decide +kernel)⟩
theorem lw_p20 : lw_okq (⟨"AckBookModel", "fails", "(ZI)Z"⟩, 38) := ⟨⟨by decide +kernel, by decide +kernel⟩, List.mem_of_getElem? (i := 814) (by decide +kernel), List.mem_of_getElem? (i := 948) (by decide +kernel), List.mem_of_getElem? (i := 949) (by decide +kernel)⟩
theorem lw_p21 : lw_okq (⟨"AckBookModel", "flight", "()I"⟩, 38) := ⟨⟨by decide +kernel, by decide +kernel⟩, List.mem_of_getElem? (i := 814) (by decide +kernel), List.mem_of_getElem? (i := 952) (by decide +kernel), List.mem_of_getElem? (i := 953) (by decide +kernel)⟩
theorem lw_p22 : lw_okq (⟨"AckBookModel", "isOut", "(II)Z"⟩, 38) := ⟨⟨by decide +kernel, by decide +kernel⟩, List.mem_of_getElem? (i := 814) (by decide +kernel), List.mem_of_getElem? (i := 956) (by decide +kernel), List.mem_of_getElem? (i := 957) (by decide +kernel)⟩
theorem lw_p23 : lw_okq (⟨"AckBookModel", "takes", "(II)I"⟩, 38) := ⟨⟨by decide +kernel, by decide +kernel⟩, List.mem_of_getElem? (i := 814) (by decide +kernel), List.mem_of_getElem? (i := 970) (by decide +kernel), List.mem_of_getElem? (i := 971) (by decide +kernel)⟩
theorem lw_p24 : lw_okq (⟨"AckBookModel", "isNew", "(II)Z"⟩, 38) := ⟨⟨by decide +kernel, by decide +kernel⟩, List.mem_of_getElem? (i := 814) (by decide +kernel), List.mem_of_getElem? (i := 977) (by decide +kernel), List.mem_of_getElem? (i := 978) (by decide +kernel)⟩
theorem lw_p25 : lw_okq (⟨"AckBookModel", "sample", "(II)V"⟩, 38) := ⟨⟨by decide +kernel, by decide +kernel⟩, List.mem_of_getElem? (i := 814) (by decide +kernel), List.mem_of_getElem? (i := 981) (by decide +kernel), List.mem_of_getElem? (i := 982) (by decide +kernel)⟩
theorem lw_p26 : lw_okq (⟨"AckBookModel", "find", "(III)V"⟩, 38) := ⟨⟨by decide +kernel, by decide +kernel⟩, List.mem_of_getElem? (i := 814) (by decide +kernel), List.mem_of_getElem? (i := 985) (by decide +kernel), List.mem_of_getElem? (i := 986) (by decide +kernel)⟩
theorem lw_p27 : lw_okq (⟨"AckBookModel", "grow", "(I)V"⟩, 38) := ⟨⟨by decide +kernel, by decide +kernel⟩, List.mem_of_getElem? (i := 814) (by decide +kernel), List.mem_of_getElem? (i := 989) (by decide +kernel), List.mem_of_getElem? (i := 990) (by decide +kernel)⟩
theorem lw_p28 : lw_okq (⟨"AckBookModel", "isBehindRecovery", "(I)Z"⟩, 38) := ⟨⟨by decide +kernel, by decide +kernel⟩, List.mem_of_getElem? (i := 814) (by decide +kernel), List.mem_of_getElem? (i := 993) (by decide +kernel), List.mem_of_getElem? (i := 994) (by decide +kernel)⟩
theorem lw_p29 : lw_okq (⟨"AckBookModel", "losses", "(I)V"⟩, 38) := ⟨⟨by decide +kernel, by decide +kernel⟩, List.mem_of_getElem? (i := 814) (by decide +kernel), List.mem_of_getElem? (i := 997) (by decide +kernel), List.mem_of_getElem? (i := 998) (by decide +kernel)⟩
theorem lw_p30 : lw_okq (⟨"AckBookModel", "limit", "()I"⟩, 38) := ⟨⟨by decide +kernel, by decide +kernel⟩, List.mem_of_getElem? (i := 814) (by decide +kernel), List.mem_of_getElem? (i := 1001) (by decide +kernel), List.mem_of_getElem? (i := 1002) (by decide +kernel)⟩
theorem lw_p31 : lw_okq (⟨"AckBookModel", "persists", "(II)V"⟩, 38) := ⟨⟨by decide +kernel, by decide +kernel⟩, List.mem_of_getElem? (i := 814) (by decide +kernel), List.mem_of_getElem? (i := 1005) (by decide +kernel), List.mem_of_getElem? (i := 1006) (by decide +kernel)⟩
def lw_privs_2 : List (MethodName × Nat) := [(⟨"AckBook$Arrivals", "keep", "(JI)V"⟩, 8), (⟨"AckBook$Arrivals", "remove", "(I)V"⟩, 8), (⟨"AckBook$Arrivals", "insert", "(JI)V"⟩, 8), (⟨"AckBook$Arrivals", "hold", "(ZI)V"⟩, 8), (⟨"AckBookModel", "fails", "(ZI)Z"⟩, 38), (⟨"AckBookModel", "flight", "()I"⟩, 38), (⟨"AckBookModel", "isOut", "(II)Z"⟩, 38), (⟨"AckBookModel", "takes", "(II)I"⟩, 38), (⟨"AckBookModel", "isNew", "(II)Z"⟩, 38), (⟨"AckBookModel", "sample", "(II)V"⟩, 38), (⟨"AckBookModel", "find", "(III)V"⟩, 38), (⟨"AckBookModel", "grow", "(I)V"⟩, 38), (⟨"AckBookModel", "isBehindRecovery", "(I)Z"⟩, 38), (⟨"AckBookModel", "losses", "(I)V"⟩, 38), (⟨"AckBookModel", "limit", "()I"⟩, 38), (⟨"AckBookModel", "persists", "(II)V"⟩, 38)]
theorem lw_r2 : ∀ q ∈ lw_privs_2, lw_okq q := List.forall_mem_cons.mpr ⟨lw_p16, List.forall_mem_cons.mpr ⟨lw_p17, List.forall_mem_cons.mpr ⟨lw_p18, List.forall_mem_cons.mpr ⟨lw_p19, List.forall_mem_cons.mpr ⟨lw_p20, List.forall_mem_cons.mpr ⟨lw_p21, List.forall_mem_cons.mpr ⟨lw_p22, List.forall_mem_cons.mpr ⟨lw_p23, List.forall_mem_cons.mpr ⟨lw_p24, List.forall_mem_cons.mpr ⟨lw_p25, List.forall_mem_cons.mpr ⟨lw_p26, List.forall_mem_cons.mpr ⟨lw_p27, List.forall_mem_cons.mpr ⟨lw_p28, List.forall_mem_cons.mpr ⟨lw_p29, List.forall_mem_cons.mpr ⟨lw_p30, List.forall_mem_cons.mpr ⟨lw_p31, fun _ h => absurd h List.not_mem_nil⟩⟩⟩⟩⟩⟩⟩⟩⟩⟩⟩⟩⟩⟩⟩⟩
theorem lw_p32 : lw_okq (⟨"AckBookModel", "probeTime", "(I)I"⟩, 38) := ⟨⟨by decide +kernel, by decide +kernel⟩, List.mem_of_getElem? (i := 814) (by decide +kernel), List.mem_of_getElem? (i := 1013) (by decide +kernel), List.mem_of_getElem? (i := 1014) (by decide +kernel)⟩
theorem lw_p33 : lw_okq (⟨"AckBookModel", "outs", "(IZ)I"⟩, 38) := ⟨⟨by decide +kernel, by decide +kernel⟩, List.mem_of_getElem? (i := 814) (by decide +kernel), List.mem_of_getElem? (i := 1017) (by decide +kernel), List.mem_of_getElem? (i := 1018) (by decide +kernel)⟩
theorem lw_p34 : lw_okq (⟨"AckBookModel", "patience", "(I)I"⟩, 38) := ⟨⟨by decide +kernel, by decide +kernel⟩, List.mem_of_getElem? (i := 814) (by decide +kernel), List.mem_of_getElem? (i := 1021) (by decide +kernel), List.mem_of_getElem? (i := 1022) (by decide +kernel)⟩
theorem lw_p35 : lw_okq (⟨"AckBookModel", "firstSpace", "()I"⟩, 38) := ⟨⟨by decide +kernel, by decide +kernel⟩, List.mem_of_getElem? (i := 814) (by decide +kernel), List.mem_of_getElem? (i := 1025) (by decide +kernel), List.mem_of_getElem? (i := 1026) (by decide +kernel)⟩
theorem lw_p36 : lw_okq (⟨"AckBookModel", "isOld", "(IJ)Z"⟩, 38) := ⟨⟨by decide +kernel, by decide +kernel⟩, List.mem_of_getElem? (i := 814) (by decide +kernel), List.mem_of_getElem? (i := 1054) (by decide +kernel), List.mem_of_getElem? (i := 1055) (by decide +kernel)⟩
theorem lw_p37 : lw_okq (⟨"AckBookModel", "greatest", "(I)J"⟩, 38) := ⟨⟨by decide +kernel, by decide +kernel⟩, List.mem_of_getElem? (i := 814) (by decide +kernel), List.mem_of_getElem? (i := 1058) (by decide +kernel), List.mem_of_getElem? (i := 1059) (by decide +kernel)⟩
theorem lw_p38 : lw_okq (⟨"AckBookModel", "comeIn", "(IJ)V"⟩, 38) := ⟨⟨by decide +kernel, by decide +kernel⟩, List.mem_of_getElem? (i := 814) (by decide +kernel), List.mem_of_getElem? (i := 1063) (by decide +kernel), List.mem_of_getElem? (i := 1064) (by decide +kernel)⟩
theorem lw_p39 : lw_okq (⟨"AckBookModel", "takeOut", "(II)V"⟩, 38) := ⟨⟨by decide +kernel, by decide +kernel⟩, List.mem_of_getElem? (i := 814) (by decide +kernel), List.mem_of_getElem? (i := 1067) (by decide +kernel), List.mem_of_getElem? (i := 1068) (by decide +kernel)⟩
def lw_privs_3 : List (MethodName × Nat) := [(⟨"AckBookModel", "probeTime", "(I)I"⟩, 38), (⟨"AckBookModel", "outs", "(IZ)I"⟩, 38), (⟨"AckBookModel", "patience", "(I)I"⟩, 38), (⟨"AckBookModel", "firstSpace", "()I"⟩, 38), (⟨"AckBookModel", "isOld", "(IJ)Z"⟩, 38), (⟨"AckBookModel", "greatest", "(I)J"⟩, 38), (⟨"AckBookModel", "comeIn", "(IJ)V"⟩, 38), (⟨"AckBookModel", "takeOut", "(II)V"⟩, 38)]
theorem lw_r3 : ∀ q ∈ lw_privs_3, lw_okq q := List.forall_mem_cons.mpr ⟨lw_p32, List.forall_mem_cons.mpr ⟨lw_p33, List.forall_mem_cons.mpr ⟨lw_p34, List.forall_mem_cons.mpr ⟨lw_p35, List.forall_mem_cons.mpr ⟨lw_p36, List.forall_mem_cons.mpr ⟨lw_p37, List.forall_mem_cons.mpr ⟨lw_p38, List.forall_mem_cons.mpr ⟨lw_p39, fun _ h => absurd h List.not_mem_nil⟩⟩⟩⟩⟩⟩⟩⟩
def lw_privs : List (MethodName × Nat) := lw_privs_1 ++ (lw_privs_2 ++ (lw_privs_3))
def lw_tbl : List Cond := k2_sels lw_privs ++ tables_1
theorem lw_privs_ok : ∀ q ∈ lw_privs, lw_okq q := by
  show ∀ q ∈ lw_privs_1 ++ (lw_privs_2 ++ (lw_privs_3)), lw_okq q
  exact List.forall_mem_append.mpr ⟨lw_r1, List.forall_mem_append.mpr ⟨lw_r2, lw_r3⟩⟩

def zR0 : String := "AckBook"
def zT0 : u_T := fun k => match k with
  | 0 => ("AckBook", "spaces", "[LAckBook$Space;", true)
  | 1 => ("AckBook", "claim", "LAckBook$Claim;", true)
  | 2 => ("AckBook", "way", "LAckBook$Way;", true)
  | 3 => ("AckBook", "flow", "LAckBook$Flow;", true)
  | 4 => ("AckBook", "time", "I", false)
  | 5 => ("AckBook", "backoff", "I", false)
  | 6 => ("AckBook", "latestSending", "I", false)
  | 7 => ("AckBook", "isConfirmed", "Z", false)
  | _ => ("AckBook", "isAnxious", "Z", false)
def zY0 : Nat → FieldType := fun k => match k with
  | 0 => (.array (.object "AckBook$Space"))
  | 1 => (.object "AckBook$Claim")
  | 2 => (.object "AckBook$Way")
  | 3 => (.object "AckBook$Flow")
  | 4 => .int
  | 5 => .int
  | 6 => .int
  | 7 => .boolean
  | _ => .boolean
def zR1 : String := "AckBook$Space"
def zT1 : u_T := fun k => match k with
  | 0 => ("AckBook$Space", "index", "I", true)
  | 1 => ("AckBook$Space", "sent", "LAckBook$Sent;", true)
  | 2 => ("AckBook$Space", "arrivals", "LAckBook$Arrivals;", true)
  | _ => ("AckBook$Space", "isDiscarded", "Z", false)
def zY1 : Nat → FieldType := fun k => match k with
  | 0 => .int
  | 1 => (.object "AckBook$Sent")
  | 2 => (.object "AckBook$Arrivals")
  | _ => .boolean
def zR2 : String := "AckBook$Sent"
def zT2 : u_T := fun k => match k with
  | 0 => ("AckBook$Sent", "acknowledged", "LAckBook$Chain;", true)
  | 1 => ("AckBook$Sent", "lost", "LAckBook$Chain;", true)
  | 2 => ("AckBook$Sent", "packets", "Ljava/util/ArrayList;", true)
  | 3 => ("AckBook$Sent", "out", "I", false)
  | 4 => ("AckBook$Sent", "elicitingOut", "I", false)
  | 5 => ("AckBook$Sent", "latestEliciting", "I", false)
  | 6 => ("AckBook$Sent", "greatestAcknowledged", "I", false)
  | _ => ("AckBook$Sent", "lossTime", "I", false)
def zY2 : Nat → FieldType := fun k => match k with
  | 0 => (.object "AckBook$Chain")
  | 1 => (.object "AckBook$Chain")
  | 2 => (.object "java/util/ArrayList")
  | 3 => .int
  | 4 => .int
  | 5 => .int
  | 6 => .int
  | _ => .int
def zR3 : String := "AckBook$Chain"
def zT3 : u_T := fun k => match k with
  | 0 => ("AckBook$Chain", "first", "LAckBook$Packet;", false)
  | _ => ("AckBook$Chain", "last", "LAckBook$Packet;", false)
def zY3 : Nat → FieldType := fun k => match k with
  | 0 => (.object "AckBook$Packet")
  | _ => (.object "AckBook$Packet")
def zR4 : String := "java/util/ArrayList"
def zT4 : u_T := fun k => match k with
  | 0 => ("java/util/ArrayList", "elementData", "[Ljava/lang/Object;", false)
  | 1 => ("java/util/ArrayList", "size", "I", false)
  | _ => ("java/util/AbstractList", "modCount", "I", false)
def zY4 : Nat → FieldType := fun k => match k with
  | 0 => (.array (.object "java/lang/Object"))
  | 1 => .int
  | _ => .int
def zR5 : String := "AckBook$Arrivals"
def zT5 : u_T := fun k => match k with
  | 0 => ("AckBook$Arrivals", "lows", "[J", true)
  | 1 => ("AckBook$Arrivals", "highs", "[J", true)
  | 2 => ("AckBook$Arrivals", "count", "I", false)
  | 3 => ("AckBook$Arrivals", "floor", "J", false)
  | 4 => ("AckBook$Arrivals", "pending", "I", false)
  | 5 => ("AckBook$Arrivals", "firstPendingAt", "I", false)
  | 6 => ("AckBook$Arrivals", "isOutOfOrder", "Z", false)
  | _ => ("AckBook$Arrivals", "greatestAt", "I", false)
def zY5 : Nat → FieldType := fun k => match k with
  | 0 => (.array .long)
  | 1 => (.array .long)
  | 2 => .int
  | 3 => .long
  | 4 => .int
  | 5 => .int
  | 6 => .boolean
  | _ => .int
def zR6 : String := "AckBook$Claim"
def zT6 : u_T := fun k => match k with
  | 0 => ("AckBook$Claim", "lows", "[J", true)
  | 1 => ("AckBook$Claim", "highs", "[J", true)
  | 2 => ("AckBook$Claim", "open", "I", false)
  | _ => ("AckBook$Claim", "closed", "I", false)
def zY6 : Nat → FieldType := fun k => match k with
  | 0 => (.array .long)
  | 1 => (.array .long)
  | 2 => .int
  | _ => .int
def zR7 : String := "AckBook$Way"
def zT7 : u_T := fun k => match k with
  | 0 => ("AckBook$Way", "smooth", "I", false)
  | 1 => ("AckBook$Way", "vary", "I", false)
  | 2 => ("AckBook$Way", "latest", "I", false)
  | 3 => ("AckBook$Way", "least", "I", false)
  | _ => ("AckBook$Way", "firstSampleAt", "I", false)
def zY7 : Nat → FieldType := fun k => match k with
  | 0 => .int
  | 1 => .int
  | 2 => .int
  | 3 => .int
  | _ => .int
def zR8 : String := "AckBook$Flow"
def zT8 : u_T := fun k => match k with
  | 0 => ("AckBook$Flow", "inFlight", "I", false)
  | 1 => ("AckBook$Flow", "window", "I", false)
  | 2 => ("AckBook$Flow", "threshold", "I", false)
  | _ => ("AckBook$Flow", "recovery", "I", false)
def zY8 : Nat → FieldType := fun k => match k with
  | 0 => .int
  | 1 => .int
  | 2 => .int
  | _ => .int
def zR9 : String := "AckBook$Packet"
def zT9 : u_T := fun k => match k with
  | 0 => ("AckBook$Packet", "number", "I", true)
  | 1 => ("AckBook$Packet", "size", "I", true)
  | 2 => ("AckBook$Packet", "sentAt", "I", true)
  | 3 => ("AckBook$Packet", "isEliciting", "Z", true)
  | 4 => ("AckBook$Packet", "isCounted", "Z", true)
  | 5 => ("AckBook$Packet", "isFilling", "Z", false)
  | 6 => ("AckBook$Packet", "fate", "I", false)
  | _ => ("AckBook$Packet", "follower", "LAckBook$Packet;", false)
def zY9 : Nat → FieldType := fun k => match k with
  | 0 => .int
  | 1 => .int
  | 2 => .int
  | 3 => .boolean
  | 4 => .boolean
  | 5 => .boolean
  | 6 => .int
  | _ => (.object "AckBook$Packet")
def zR10 : String := "AckBookModel"
def zT10 : u_T := fun k => match k with
  | 0 => ("AckBookModel", "thrown", "I", false)
  | 1 => ("AckBookModel", "time", "I", false)
  | 2 => ("AckBookModel", "confirmed", "Z", false)
  | 3 => ("AckBookModel", "anxious", "Z", false)
  | 4 => ("AckBookModel", "sent", "[I", true)
  | 5 => ("AckBookModel", "size", "[I", true)
  | 6 => ("AckBookModel", "when", "[I", true)
  | 7 => ("AckBookModel", "state", "[I", true)
  | 8 => ("AckBookModel", "eliciting", "[Z", true)
  | 9 => ("AckBookModel", "counted", "[Z", true)
  | 10 => ("AckBookModel", "filling", "[Z", true)
  | 11 => ("AckBookModel", "discarded", "[Z", true)
  | 12 => ("AckBookModel", "top", "[I", true)
  | 13 => ("AckBookModel", "lossTime", "[I", true)
  | 14 => ("AckBookModel", "latestSent", "I", false)
  | 15 => ("AckBookModel", "found", "[I", true)
  | 16 => ("AckBookModel", "founds", "[I", true)
  | 17 => ("AckBookModel", "told", "[I", true)
  | 18 => ("AckBookModel", "smooth", "I", false)
  | 19 => ("AckBookModel", "vary", "I", false)
  | 20 => ("AckBookModel", "latest", "I", false)
  | 21 => ("AckBookModel", "least", "I", false)
  | 22 => ("AckBookModel", "firstSample", "I", false)
  | 23 => ("AckBookModel", "backoff", "I", false)
  | 24 => ("AckBookModel", "window", "I", false)
  | 25 => ("AckBookModel", "threshold", "I", false)
  | 26 => ("AckBookModel", "recovery", "I", false)
  | 27 => ("AckBookModel", "spans", "I", false)
  | 28 => ("AckBookModel", "spanLow", "[J", true)
  | 29 => ("AckBookModel", "spanHigh", "[J", true)
  | 30 => ("AckBookModel", "ranges", "[I", true)
  | 31 => ("AckBookModel", "low", "[J", true)
  | 32 => ("AckBookModel", "high", "[J", true)
  | 33 => ("AckBookModel", "floor", "[J", true)
  | 34 => ("AckBookModel", "greatestAt", "[I", true)
  | 35 => ("AckBookModel", "pending", "[I", true)
  | 36 => ("AckBookModel", "pendingFrom", "[I", true)
  | _ => ("AckBookModel", "odd", "[Z", true)
def zY10 : Nat → FieldType := fun k => match k with
  | 0 => .int
  | 1 => .int
  | 2 => .boolean
  | 3 => .boolean
  | 4 => (.array .int)
  | 5 => (.array .int)
  | 6 => (.array .int)
  | 7 => (.array .int)
  | 8 => (.array .boolean)
  | 9 => (.array .boolean)
  | 10 => (.array .boolean)
  | 11 => (.array .boolean)
  | 12 => (.array .int)
  | 13 => (.array .int)
  | 14 => .int
  | 15 => (.array .int)
  | 16 => (.array .int)
  | 17 => (.array .int)
  | 18 => .int
  | 19 => .int
  | 20 => .int
  | 21 => .int
  | 22 => .int
  | 23 => .int
  | 24 => .int
  | 25 => .int
  | 26 => .int
  | 27 => .int
  | 28 => (.array .long)
  | 29 => (.array .long)
  | 30 => (.array .int)
  | 31 => (.array .long)
  | 32 => (.array .long)
  | 33 => (.array .long)
  | 34 => (.array .int)
  | 35 => (.array .int)
  | 36 => (.array .int)
  | _ => (.array .boolean)
def zR11 : String := "java/lang/IllegalArgumentException"
def zT11 : u_T := fun k => match k with
  | _ => ("", "", "", false)
def zY11 : Nat → FieldType := fun k => match k with
  | _ => .int
def zR12 : String := "java/lang/IllegalStateException"
def zT12 : u_T := fun k => match k with
  | _ => ("", "", "", false)
def zY12 : Nat → FieldType := fun k => match k with
  | _ => .int
def zR13 : String := "java/util/NoSuchElementException"
def zT13 : u_T := fun k => match k with
  | _ => ("", "", "", false)
def zY13 : Nat → FieldType := fun k => match k with
  | _ => .int
abbrev zcl : List vw_C := [(zR0, zT0, 9), (zR1, zT1, 4), (zR2, zT2, 8), (zR3, zT3, 2), (zR4, zT4, 3), (zR5, zT5, 8), (zR6, zT6, 4), (zR7, zT7, 5), (zR8, zT8, 4), (zR9, zT9, 8), (zR10, zT10, 38), (zR11, zT11, 0), (zR12, zT12, 0), (zR13, zT13, 0)]
def z_okb (x : Cond) : Bool := goodWord x || (match x with
  | .castable _ _ => true
  | .fieldLinkNest _ _ _ _ _ _ => true
  | .methodLinkNest _ _ _ _ => true
  | _ => false)
def zTB : List Cond := lw_tbl.filter z_okb
theorem z_okb_ok {x : Cond} (h : z_okb x = true) : z_ok x := by
  unfold z_okb at h
  rcases Bool.or_eq_true _ _ ▸ h with h | h
  · exact z_ok_good h
  · split at h
    · exact z_ok_cast
    · exact z_ok_fln
    · exact z_ok_mln
    · cases h
theorem zTB_ok (b0 : Nat) (H0 : Heap) (D : va_G) (ZS : List (String × String × String × Value)) : z_TB (b0, H0, D, zcl, zTB, ZS) := fun x hx => z_okb_ok (List.mem_filter.mp hx).2
theorem z_inT {x : Cond} (i : Nat) (h : tables_1[i]? = some x) (hb : z_okb x = true) : x ∈ zTB := List.mem_filter.mpr ⟨List.mem_append_right _ (List.mem_of_getElem? h), hb⟩
abbrev zGG (b0 : Nat) (H0 : Heap) (D : va_G) (ZS : List (String × String × String × Value)) : zG := (b0, H0, D, zcl, zTB, ZS)
theorem z_la_i (i : Nat) (x : Int32) (l : List Value) : lv_args i (.int x :: l) = (i, .int x) :: lv_args (i + 1) l := rfl
theorem z_la_j (i : Nat) (x : Int64) (l : List Value) : lv_args i (.long x :: l) = (i, .long x) :: lv_args (i + 2) l := rfl
theorem z_la_r (i : Nat) (r : Option Nat) (l : List Value) : lv_args i (va_rf r :: l) = (i, va_rf r) :: lv_args (i + 1) l := by cases r <;> rfl
theorem z_la_n (i : Nat) : lv_args i [] = [] := rfl
theorem z_sl_i (x : Int32) (l : List Value) : (lg_sl (.int x :: l)).length = (lg_sl l).length + 1 := rfl
theorem z_sl_j (x : Int64) (l : List Value) : (lg_sl (.long x :: l)).length = (lg_sl l).length + 2 := rfl
theorem z_sl_r (r : Option Nat) (l : List Value) : (lg_sl (va_rf r :: l)).length = (lg_sl l).length + 1 := by cases r <;> rfl
theorem z_sl_n : (lg_sl ([] : List Value)).length = 0 := rfl
theorem z_ci (x : Int32) : (Value.int x).category = 1 := rfl
theorem z_cj (x : Int64) : (Value.long x).category = 2 := rfl
end
section
theorem t_8 : (Cond.initialized "AckBook$Arrivals") ∈ zTB := z_inT 8 (by decide +kernel) (by decide +kernel)
theorem t_11 : (Cond.initialized "AckBook$Flow") ∈ zTB := z_inT 11 (by decide +kernel) (by decide +kernel)
theorem t_20 : (Cond.initialized "java/lang/Math") ∈ zTB := z_inT 20 (by decide +kernel) (by decide +kernel)
theorem t_32 : (Cond.instanceMethod ({ cls := "java/lang/Object", name := "<init>", desc := "()V" } : MethodName)) ∈ zTB := z_inT 32 (by decide +kernel) (by decide +kernel)
theorem t_33 : (Cond.code ({ cls := "java/lang/Object", name := "<init>", desc := "()V" } : MethodName) object_method_1_code (1 : Nat) (Option.none : Option FieldType)) ∈ zTB := z_inT 33 (by decide +kernel) (by decide +kernel)
theorem t_52 : (Cond.methodLink "AckBook$Chain" (3 : Nat) ({ cls := "java/lang/Object", name := "<init>", desc := "()V" } : MethodName)) ∈ zTB := z_inT 52 (by decide +kernel) (by decide +kernel)
theorem t_53 : (Cond.fieldLink "AckBook$Chain" (9 : Nat) "AckBook$Chain" "first" "LAckBook$Packet;") ∈ zTB := z_inT 53 (by decide +kernel) (by decide +kernel)
theorem t_54 : (Cond.fieldLink "AckBook$Chain" (15 : Nat) "AckBook$Chain" "last" "LAckBook$Packet;") ∈ zTB := z_inT 54 (by decide +kernel) (by decide +kernel)
theorem t_55 : (Cond.lays "AckBook$Chain" "AckBook$Chain" "first" "LAckBook$Packet;") ∈ zTB := z_inT 55 (by decide +kernel) (by decide +kernel)
theorem t_57 : (Cond.lays "AckBook$Chain" "AckBook$Chain" "last" "LAckBook$Packet;") ∈ zTB := z_inT 57 (by decide +kernel) (by decide +kernel)
theorem t_79 : (Cond.lays "java/util/ArrayList" "java/util/ArrayList" "elementData" "[Ljava/lang/Object;") ∈ zTB := z_inT 79 (by decide +kernel) (by decide +kernel)
theorem t_81 : (Cond.lays "java/util/ArrayList" "java/util/ArrayList" "size" "I") ∈ zTB := z_inT 81 (by decide +kernel) (by decide +kernel)
theorem t_83 : (Cond.lays "java/util/ArrayList" "java/util/AbstractList" "modCount" "I") ∈ zTB := z_inT 83 (by decide +kernel) (by decide +kernel)
theorem t_101 : (Cond.laysFinal "AckBook$Sent" "AckBook$Sent" "acknowledged" "LAckBook$Chain;") ∈ zTB := z_inT 101 (by decide +kernel) (by decide +kernel)
theorem t_103 : (Cond.laysFinal "AckBook$Sent" "AckBook$Sent" "lost" "LAckBook$Chain;") ∈ zTB := z_inT 103 (by decide +kernel) (by decide +kernel)
theorem t_105 : (Cond.laysFinal "AckBook$Sent" "AckBook$Sent" "packets" "Ljava/util/ArrayList;") ∈ zTB := z_inT 105 (by decide +kernel) (by decide +kernel)
theorem t_107 : (Cond.lays "AckBook$Sent" "AckBook$Sent" "out" "I") ∈ zTB := z_inT 107 (by decide +kernel) (by decide +kernel)
theorem t_109 : (Cond.lays "AckBook$Sent" "AckBook$Sent" "elicitingOut" "I") ∈ zTB := z_inT 109 (by decide +kernel) (by decide +kernel)
theorem t_111 : (Cond.lays "AckBook$Sent" "AckBook$Sent" "latestEliciting" "I") ∈ zTB := z_inT 111 (by decide +kernel) (by decide +kernel)
theorem t_113 : (Cond.lays "AckBook$Sent" "AckBook$Sent" "greatestAcknowledged" "I") ∈ zTB := z_inT 113 (by decide +kernel) (by decide +kernel)
theorem t_115 : (Cond.lays "AckBook$Sent" "AckBook$Sent" "lossTime" "I") ∈ zTB := z_inT 115 (by decide +kernel) (by decide +kernel)
theorem t_123 : (Cond.methodLink "AckBook$Arrivals" (3 : Nat) ({ cls := "java/lang/Object", name := "<init>", desc := "()V" } : MethodName)) ∈ zTB := z_inT 123 (by decide +kernel) (by decide +kernel)
theorem t_124 : (Cond.fieldLink "AckBook$Arrivals" (9 : Nat) "AckBook$Arrivals" "lows" "[J") ∈ zTB := z_inT 124 (by decide +kernel) (by decide +kernel)
theorem t_126 : (Cond.fieldLink "AckBook$Arrivals" (15 : Nat) "AckBook$Arrivals" "highs" "[J") ∈ zTB := z_inT 126 (by decide +kernel) (by decide +kernel)
theorem t_128 : (Cond.fieldLink "AckBook$Arrivals" (26 : Nat) "AckBook$Arrivals" "count" "I") ∈ zTB := z_inT 128 (by decide +kernel) (by decide +kernel)
theorem t_130 : (Cond.fieldLink "AckBook$Arrivals" (22 : Nat) "AckBook$Arrivals" "floor" "J") ∈ zTB := z_inT 130 (by decide +kernel) (by decide +kernel)
theorem t_132 : (Cond.fieldLink "AckBook$Arrivals" (50 : Nat) "AckBook$Arrivals" "pending" "I") ∈ zTB := z_inT 132 (by decide +kernel) (by decide +kernel)
theorem t_134 : (Cond.fieldLink "AckBook$Arrivals" (53 : Nat) "AckBook$Arrivals" "firstPendingAt" "I") ∈ zTB := z_inT 134 (by decide +kernel) (by decide +kernel)
theorem t_135 : (Cond.fieldLink "AckBook$Arrivals" (56 : Nat) "AckBook$Arrivals" "isOutOfOrder" "Z") ∈ zTB := z_inT 135 (by decide +kernel) (by decide +kernel)
theorem t_136 : (Cond.fieldLink "AckBook$Arrivals" (40 : Nat) "AckBook$Arrivals" "greatestAt" "I") ∈ zTB := z_inT 136 (by decide +kernel) (by decide +kernel)
theorem t_137 : (Cond.laysFinal "AckBook$Arrivals" "AckBook$Arrivals" "lows" "[J") ∈ zTB := z_inT 137 (by decide +kernel) (by decide +kernel)
theorem t_139 : (Cond.laysFinal "AckBook$Arrivals" "AckBook$Arrivals" "highs" "[J") ∈ zTB := z_inT 139 (by decide +kernel) (by decide +kernel)
theorem t_141 : (Cond.lays "AckBook$Arrivals" "AckBook$Arrivals" "count" "I") ∈ zTB := z_inT 141 (by decide +kernel) (by decide +kernel)
theorem t_143 : (Cond.lays "AckBook$Arrivals" "AckBook$Arrivals" "floor" "J") ∈ zTB := z_inT 143 (by decide +kernel) (by decide +kernel)
theorem t_145 : (Cond.lays "AckBook$Arrivals" "AckBook$Arrivals" "pending" "I") ∈ zTB := z_inT 145 (by decide +kernel) (by decide +kernel)
theorem t_147 : (Cond.lays "AckBook$Arrivals" "AckBook$Arrivals" "firstPendingAt" "I") ∈ zTB := z_inT 147 (by decide +kernel) (by decide +kernel)
theorem t_149 : (Cond.lays "AckBook$Arrivals" "AckBook$Arrivals" "isOutOfOrder" "Z") ∈ zTB := z_inT 149 (by decide +kernel) (by decide +kernel)
theorem t_151 : (Cond.lays "AckBook$Arrivals" "AckBook$Arrivals" "greatestAt" "I") ∈ zTB := z_inT 151 (by decide +kernel) (by decide +kernel)
theorem t_154 : (Cond.arrayClass FieldType.long) ∈ zTB := z_inT 154 (by decide +kernel) (by decide +kernel)
theorem t_162 : (Cond.laysFinal "AckBook$Space" "AckBook$Space" "index" "I") ∈ zTB := z_inT 162 (by decide +kernel) (by decide +kernel)
theorem t_164 : (Cond.laysFinal "AckBook$Space" "AckBook$Space" "sent" "LAckBook$Sent;") ∈ zTB := z_inT 164 (by decide +kernel) (by decide +kernel)
theorem t_166 : (Cond.laysFinal "AckBook$Space" "AckBook$Space" "arrivals" "LAckBook$Arrivals;") ∈ zTB := z_inT 166 (by decide +kernel) (by decide +kernel)
theorem t_168 : (Cond.lays "AckBook$Space" "AckBook$Space" "isDiscarded" "Z") ∈ zTB := z_inT 168 (by decide +kernel) (by decide +kernel)
theorem t_176 : (Cond.methodLink "AckBook$Claim" (3 : Nat) ({ cls := "java/lang/Object", name := "<init>", desc := "()V" } : MethodName)) ∈ zTB := z_inT 176 (by decide +kernel) (by decide +kernel)
theorem t_177 : (Cond.fieldLink "AckBook$Claim" (9 : Nat) "AckBook$Claim" "lows" "[J") ∈ zTB := z_inT 177 (by decide +kernel) (by decide +kernel)
theorem t_178 : (Cond.fieldLink "AckBook$Claim" (15 : Nat) "AckBook$Claim" "highs" "[J") ∈ zTB := z_inT 178 (by decide +kernel) (by decide +kernel)
theorem t_179 : (Cond.fieldLink "AckBook$Claim" (18 : Nat) "AckBook$Claim" "open" "I") ∈ zTB := z_inT 179 (by decide +kernel) (by decide +kernel)
theorem t_180 : (Cond.fieldLink "AckBook$Claim" (22 : Nat) "AckBook$Claim" "closed" "I") ∈ zTB := z_inT 180 (by decide +kernel) (by decide +kernel)
theorem t_182 : (Cond.laysFinal "AckBook$Claim" "AckBook$Claim" "lows" "[J") ∈ zTB := z_inT 182 (by decide +kernel) (by decide +kernel)
theorem t_184 : (Cond.laysFinal "AckBook$Claim" "AckBook$Claim" "highs" "[J") ∈ zTB := z_inT 184 (by decide +kernel) (by decide +kernel)
theorem t_186 : (Cond.lays "AckBook$Claim" "AckBook$Claim" "open" "I") ∈ zTB := z_inT 186 (by decide +kernel) (by decide +kernel)
theorem t_188 : (Cond.lays "AckBook$Claim" "AckBook$Claim" "closed" "I") ∈ zTB := z_inT 188 (by decide +kernel) (by decide +kernel)
theorem t_196 : (Cond.methodLink "AckBook$Way" (3 : Nat) ({ cls := "java/lang/Object", name := "<init>", desc := "()V" } : MethodName)) ∈ zTB := z_inT 196 (by decide +kernel) (by decide +kernel)
theorem t_197 : (Cond.fieldLink "AckBook$Way" (9 : Nat) "AckBook$Way" "smooth" "I") ∈ zTB := z_inT 197 (by decide +kernel) (by decide +kernel)
theorem t_199 : (Cond.fieldLink "AckBook$Way" (15 : Nat) "AckBook$Way" "vary" "I") ∈ zTB := z_inT 199 (by decide +kernel) (by decide +kernel)
theorem t_201 : (Cond.fieldLink "AckBook$Way" (24 : Nat) "AckBook$Way" "latest" "I") ∈ zTB := z_inT 201 (by decide +kernel) (by decide +kernel)
theorem t_203 : (Cond.fieldLink "AckBook$Way" (18 : Nat) "AckBook$Way" "least" "I") ∈ zTB := z_inT 203 (by decide +kernel) (by decide +kernel)
theorem t_205 : (Cond.fieldLink "AckBook$Way" (21 : Nat) "AckBook$Way" "firstSampleAt" "I") ∈ zTB := z_inT 205 (by decide +kernel) (by decide +kernel)
theorem t_207 : (Cond.lays "AckBook$Way" "AckBook$Way" "smooth" "I") ∈ zTB := z_inT 207 (by decide +kernel) (by decide +kernel)
theorem t_209 : (Cond.lays "AckBook$Way" "AckBook$Way" "vary" "I") ∈ zTB := z_inT 209 (by decide +kernel) (by decide +kernel)
theorem t_211 : (Cond.lays "AckBook$Way" "AckBook$Way" "latest" "I") ∈ zTB := z_inT 211 (by decide +kernel) (by decide +kernel)
theorem t_213 : (Cond.lays "AckBook$Way" "AckBook$Way" "least" "I") ∈ zTB := z_inT 213 (by decide +kernel) (by decide +kernel)
theorem t_215 : (Cond.lays "AckBook$Way" "AckBook$Way" "firstSampleAt" "I") ∈ zTB := z_inT 215 (by decide +kernel) (by decide +kernel)
theorem t_223 : (Cond.methodLink "AckBook$Flow" (3 : Nat) ({ cls := "java/lang/Object", name := "<init>", desc := "()V" } : MethodName)) ∈ zTB := z_inT 223 (by decide +kernel) (by decide +kernel)
theorem t_224 : (Cond.fieldLink "AckBook$Flow" (27 : Nat) "AckBook$Flow" "inFlight" "I") ∈ zTB := z_inT 224 (by decide +kernel) (by decide +kernel)
theorem t_226 : (Cond.fieldLink "AckBook$Flow" (9 : Nat) "AckBook$Flow" "window" "I") ∈ zTB := z_inT 226 (by decide +kernel) (by decide +kernel)
theorem t_228 : (Cond.fieldLink "AckBook$Flow" (15 : Nat) "AckBook$Flow" "threshold" "I") ∈ zTB := z_inT 228 (by decide +kernel) (by decide +kernel)
theorem t_230 : (Cond.fieldLink "AckBook$Flow" (18 : Nat) "AckBook$Flow" "recovery" "I") ∈ zTB := z_inT 230 (by decide +kernel) (by decide +kernel)
theorem t_232 : (Cond.lays "AckBook$Flow" "AckBook$Flow" "inFlight" "I") ∈ zTB := z_inT 232 (by decide +kernel) (by decide +kernel)
theorem t_234 : (Cond.lays "AckBook$Flow" "AckBook$Flow" "window" "I") ∈ zTB := z_inT 234 (by decide +kernel) (by decide +kernel)
theorem t_236 : (Cond.lays "AckBook$Flow" "AckBook$Flow" "threshold" "I") ∈ zTB := z_inT 236 (by decide +kernel) (by decide +kernel)
theorem t_238 : (Cond.lays "AckBook$Flow" "AckBook$Flow" "recovery" "I") ∈ zTB := z_inT 238 (by decide +kernel) (by decide +kernel)
theorem t_250 : (Cond.laysFinal "AckBook" "AckBook" "spaces" "[LAckBook$Space;") ∈ zTB := z_inT 250 (by decide +kernel) (by decide +kernel)
theorem t_252 : (Cond.laysFinal "AckBook" "AckBook" "claim" "LAckBook$Claim;") ∈ zTB := z_inT 252 (by decide +kernel) (by decide +kernel)
theorem t_254 : (Cond.laysFinal "AckBook" "AckBook" "way" "LAckBook$Way;") ∈ zTB := z_inT 254 (by decide +kernel) (by decide +kernel)
theorem t_256 : (Cond.laysFinal "AckBook" "AckBook" "flow" "LAckBook$Flow;") ∈ zTB := z_inT 256 (by decide +kernel) (by decide +kernel)
theorem t_258 : (Cond.lays "AckBook" "AckBook" "time" "I") ∈ zTB := z_inT 258 (by decide +kernel) (by decide +kernel)
theorem t_260 : (Cond.lays "AckBook" "AckBook" "backoff" "I") ∈ zTB := z_inT 260 (by decide +kernel) (by decide +kernel)
theorem t_262 : (Cond.lays "AckBook" "AckBook" "latestSending" "I") ∈ zTB := z_inT 262 (by decide +kernel) (by decide +kernel)
theorem t_264 : (Cond.lays "AckBook" "AckBook" "isConfirmed" "Z") ∈ zTB := z_inT 264 (by decide +kernel) (by decide +kernel)
theorem t_266 : (Cond.lays "AckBook" "AckBook" "isAnxious" "Z") ∈ zTB := z_inT 266 (by decide +kernel) (by decide +kernel)
theorem t_289 : (Cond.methodLink "AckBook$Way" (37 : Nat) ({ cls := "java/lang/Math", name := "max", desc := "(II)I" } : MethodName)) ∈ zTB := z_inT 289 (by decide +kernel) (by decide +kernel)
theorem t_290 : (Cond.static ({ cls := "java/lang/Math", name := "max", desc := "(II)I" } : MethodName)) ∈ zTB := z_inT 290 (by decide +kernel) (by decide +kernel)
theorem t_291 : (Cond.code ({ cls := "java/lang/Math", name := "max", desc := "(II)I" } : MethodName) prog_18_method_65_code (2 : Nat) (Option.some FieldType.int)) ∈ zTB := z_inT 291 (by decide +kernel) (by decide +kernel)
theorem t_339 : (Cond.methodLink "AckBook$Flow" (36 : Nat) ({ cls := "AckBook$Flow", name := "leave", desc := "(LAckBook$Packet;)V" } : MethodName)) ∈ zTB := z_inT 339 (by decide +kernel) (by decide +kernel)
theorem t_340 : (Cond.instanceMethod ({ cls := "AckBook$Flow", name := "leave", desc := "(LAckBook$Packet;)V" } : MethodName)) ∈ zTB := z_inT 340 (by decide +kernel) (by decide +kernel)
theorem t_341 : (Cond.selects "AckBook$Flow" ({ cls := "AckBook$Flow", name := "leave", desc := "(LAckBook$Packet;)V" } : MethodName) ({ cls := "AckBook$Flow", name := "leave", desc := "(LAckBook$Packet;)V" } : MethodName)) ∈ zTB := z_inT 341 (by decide +kernel) (by decide +kernel)
theorem t_342 : (Cond.code ({ cls := "AckBook$Flow", name := "leave", desc := "(LAckBook$Packet;)V" } : MethodName) prog_5_method_3_code (2 : Nat) (Option.none : Option FieldType)) ∈ zTB := z_inT 342 (by decide +kernel) (by decide +kernel)
theorem t_343 : (Cond.methodLink "AckBook$Flow" (40 : Nat) ({ cls := "AckBook$Flow", name := "isAfterRecovery", desc := "(LAckBook$Packet;)Z" } : MethodName)) ∈ zTB := z_inT 343 (by decide +kernel) (by decide +kernel)
theorem t_345 : (Cond.instanceMethod ({ cls := "AckBook$Flow", name := "isAfterRecovery", desc := "(LAckBook$Packet;)Z" } : MethodName)) ∈ zTB := z_inT 345 (by decide +kernel) (by decide +kernel)
theorem t_346 : (Cond.code ({ cls := "AckBook$Flow", name := "isAfterRecovery", desc := "(LAckBook$Packet;)Z" } : MethodName) prog_5_method_8_code (2 : Nat) (Option.some FieldType.boolean)) ∈ zTB := z_inT 346 (by decide +kernel) (by decide +kernel)
theorem t_347 : (Cond.methodLink "AckBook$Flow" (52 : Nat) ({ cls := "java/lang/Math", name := "max", desc := "(II)I" } : MethodName)) ∈ zTB := z_inT 347 (by decide +kernel) (by decide +kernel)
theorem t_361 : (Cond.static ({ cls := "java/lang/Math", name := "min", desc := "(II)I" } : MethodName)) ∈ zTB := z_inT 361 (by decide +kernel) (by decide +kernel)
theorem t_362 : (Cond.code ({ cls := "java/lang/Math", name := "min", desc := "(II)I" } : MethodName) prog_18_method_69_code (2 : Nat) (Option.some FieldType.int)) ∈ zTB := z_inT 362 (by decide +kernel) (by decide +kernel)
theorem t_483 : (Cond.methodLink "AckBook$Packet" (3 : Nat) ({ cls := "java/lang/Object", name := "<init>", desc := "()V" } : MethodName)) ∈ zTB := z_inT 483 (by decide +kernel) (by decide +kernel)
theorem t_484 : (Cond.fieldLink "AckBook$Packet" (9 : Nat) "AckBook$Packet" "number" "I") ∈ zTB := z_inT 484 (by decide +kernel) (by decide +kernel)
theorem t_486 : (Cond.fieldLink "AckBook$Chain" (23 : Nat) "AckBook$Packet" "number" "I") ∈ zTB := z_inT 486 (by decide +kernel) (by decide +kernel)
theorem t_488 : (Cond.fieldLink "AckBook$Packet" (15 : Nat) "AckBook$Packet" "size" "I") ∈ zTB := z_inT 488 (by decide +kernel) (by decide +kernel)
theorem t_489 : (Cond.fieldLink "AckBook$Flow" (30 : Nat) "AckBook$Packet" "size" "I") ∈ zTB := z_inT 489 (by decide +kernel) (by decide +kernel)
theorem t_490 : (Cond.fieldLink "AckBook$Packet" (18 : Nat) "AckBook$Packet" "sentAt" "I") ∈ zTB := z_inT 490 (by decide +kernel) (by decide +kernel)
theorem t_492 : (Cond.fieldLink "AckBook$Flow" (58 : Nat) "AckBook$Packet" "sentAt" "I") ∈ zTB := z_inT 492 (by decide +kernel) (by decide +kernel)
theorem t_494 : (Cond.fieldLink "AckBook$Packet" (21 : Nat) "AckBook$Packet" "isEliciting" "Z") ∈ zTB := z_inT 494 (by decide +kernel) (by decide +kernel)
theorem t_497 : (Cond.fieldLink "AckBook$Packet" (25 : Nat) "AckBook$Packet" "isCounted" "Z") ∈ zTB := z_inT 497 (by decide +kernel) (by decide +kernel)
theorem t_498 : (Cond.fieldLink "AckBook$Flow" (21 : Nat) "AckBook$Packet" "isCounted" "Z") ∈ zTB := z_inT 498 (by decide +kernel) (by decide +kernel)
theorem t_499 : (Cond.fieldLink "AckBook$Flow" (33 : Nat) "AckBook$Packet" "isFilling" "Z") ∈ zTB := z_inT 499 (by decide +kernel) (by decide +kernel)
theorem t_500 : (Cond.fieldLink "AckBook$Packet" (28 : Nat) "AckBook$Packet" "fate" "I") ∈ zTB := z_inT 500 (by decide +kernel) (by decide +kernel)
theorem t_503 : (Cond.fieldLink "AckBook$Chain" (18 : Nat) "AckBook$Packet" "follower" "LAckBook$Packet;") ∈ zTB := z_inT 503 (by decide +kernel) (by decide +kernel)
theorem t_504 : (Cond.fieldLink "AckBook$Flow" (48 : Nat) "AckBook$Packet" "follower" "LAckBook$Packet;") ∈ zTB := z_inT 504 (by decide +kernel) (by decide +kernel)
theorem t_507 : (Cond.laysFinal "AckBook$Packet" "AckBook$Packet" "number" "I") ∈ zTB := z_inT 507 (by decide +kernel) (by decide +kernel)
theorem t_509 : (Cond.laysFinal "AckBook$Packet" "AckBook$Packet" "size" "I") ∈ zTB := z_inT 509 (by decide +kernel) (by decide +kernel)
theorem t_511 : (Cond.laysFinal "AckBook$Packet" "AckBook$Packet" "sentAt" "I") ∈ zTB := z_inT 511 (by decide +kernel) (by decide +kernel)
theorem t_513 : (Cond.laysFinal "AckBook$Packet" "AckBook$Packet" "isEliciting" "Z") ∈ zTB := z_inT 513 (by decide +kernel) (by decide +kernel)
theorem t_515 : (Cond.laysFinal "AckBook$Packet" "AckBook$Packet" "isCounted" "Z") ∈ zTB := z_inT 515 (by decide +kernel) (by decide +kernel)
theorem t_517 : (Cond.lays "AckBook$Packet" "AckBook$Packet" "isFilling" "Z") ∈ zTB := z_inT 517 (by decide +kernel) (by decide +kernel)
theorem t_519 : (Cond.lays "AckBook$Packet" "AckBook$Packet" "fate" "I") ∈ zTB := z_inT 519 (by decide +kernel) (by decide +kernel)
theorem t_521 : (Cond.lays "AckBook$Packet" "AckBook$Packet" "follower" "LAckBook$Packet;") ∈ zTB := z_inT 521 (by decide +kernel) (by decide +kernel)
theorem t_628 : (Cond.constantLong "AckBook$Claim" (25 : Nat) (-1 : Int64)) ∈ zTB := z_inT 628 (by decide +kernel) (by decide +kernel)
theorem t_666 : (Cond.methodLink "AckBook$Way" (27 : Nat) ({ cls := "java/lang/Math", name := "min", desc := "(II)I" } : MethodName)) ∈ zTB := z_inT 666 (by decide +kernel) (by decide +kernel)
theorem t_667 : (Cond.methodLink "AckBook$Way" (33 : Nat) ({ cls := "java/lang/Math", name := "abs", desc := "(I)I" } : MethodName)) ∈ zTB := z_inT 667 (by decide +kernel) (by decide +kernel)
theorem t_668 : (Cond.static ({ cls := "java/lang/Math", name := "abs", desc := "(I)I" } : MethodName)) ∈ zTB := z_inT 668 (by decide +kernel) (by decide +kernel)
theorem t_669 : (Cond.code ({ cls := "java/lang/Math", name := "abs", desc := "(I)I" } : MethodName) prog_18_method_59_code (1 : Nat) (Option.some FieldType.int)) ∈ zTB := z_inT 669 (by decide +kernel) (by decide +kernel)
theorem t_674 : (Cond.methodLink "AckBook$Flow" (44 : Nat) ({ cls := "AckBook$Flow", name := "grow", desc := "(I)V" } : MethodName)) ∈ zTB := z_inT 674 (by decide +kernel) (by decide +kernel)
theorem t_676 : (Cond.instanceMethod ({ cls := "AckBook$Flow", name := "grow", desc := "(I)V" } : MethodName)) ∈ zTB := z_inT 676 (by decide +kernel) (by decide +kernel)
theorem t_677 : (Cond.code ({ cls := "AckBook$Flow", name := "grow", desc := "(I)V" } : MethodName) prog_5_method_5_code (2 : Nat) (Option.none : Option FieldType)) ∈ zTB := z_inT 677 (by decide +kernel) (by decide +kernel)
theorem t_729 : (Cond.methodLink "AckBook$Arrivals" (18 : Nat) ({ cls := "AckBook$Arrivals", name := "firstNotAbove", desc := "(J)I" } : MethodName)) ∈ zTB := z_inT 729 (by decide +kernel) (by decide +kernel)
theorem t_731 : (Cond.instanceMethod ({ cls := "AckBook$Arrivals", name := "firstNotAbove", desc := "(J)I" } : MethodName)) ∈ zTB := z_inT 731 (by decide +kernel) (by decide +kernel)
theorem t_732 : (Cond.code ({ cls := "AckBook$Arrivals", name := "firstNotAbove", desc := "(J)I" } : MethodName) prog_2_method_3_code (4 : Nat) (Option.some FieldType.int)) ∈ zTB := z_inT 732 (by decide +kernel) (by decide +kernel)
theorem t_733 : (Cond.constantLong "AckBook$Arrivals" (30 : Nat) (-1 : Int64)) ∈ zTB := z_inT 733 (by decide +kernel) (by decide +kernel)
theorem t_734 : (Cond.methodLink "AckBook$Arrivals" (32 : Nat) ({ cls := "AckBook$Arrivals", name := "keep", desc := "(JI)V" } : MethodName)) ∈ zTB := z_inT 734 (by decide +kernel) (by decide +kernel)
theorem t_736 : (Cond.instanceMethod ({ cls := "AckBook$Arrivals", name := "keep", desc := "(JI)V" } : MethodName)) ∈ zTB := z_inT 736 (by decide +kernel) (by decide +kernel)
theorem t_737 : (Cond.code ({ cls := "AckBook$Arrivals", name := "keep", desc := "(JI)V" } : MethodName) prog_2_method_4_code (6 : Nat) (Option.none : Option FieldType)) ∈ zTB := z_inT 737 (by decide +kernel) (by decide +kernel)
theorem t_738 : (Cond.methodLink "AckBook$Arrivals" (43 : Nat) ({ cls := "AckBook$Arrivals", name := "remove", desc := "(I)V" } : MethodName)) ∈ zTB := z_inT 738 (by decide +kernel) (by decide +kernel)
theorem t_740 : (Cond.instanceMethod ({ cls := "AckBook$Arrivals", name := "remove", desc := "(I)V" } : MethodName)) ∈ zTB := z_inT 740 (by decide +kernel) (by decide +kernel)
theorem t_741 : (Cond.code ({ cls := "AckBook$Arrivals", name := "remove", desc := "(I)V" } : MethodName) prog_2_method_5_code (3 : Nat) (Option.none : Option FieldType)) ∈ zTB := z_inT 741 (by decide +kernel) (by decide +kernel)
theorem t_742 : (Cond.methodLink "AckBook$Arrivals" (47 : Nat) ({ cls := "AckBook$Arrivals", name := "insert", desc := "(JI)V" } : MethodName)) ∈ zTB := z_inT 742 (by decide +kernel) (by decide +kernel)
theorem t_744 : (Cond.instanceMethod ({ cls := "AckBook$Arrivals", name := "insert", desc := "(JI)V" } : MethodName)) ∈ zTB := z_inT 744 (by decide +kernel) (by decide +kernel)
theorem t_745 : (Cond.code ({ cls := "AckBook$Arrivals", name := "insert", desc := "(JI)V" } : MethodName) prog_2_method_6_code (5 : Nat) (Option.none : Option FieldType)) ∈ zTB := z_inT 745 (by decide +kernel) (by decide +kernel)
theorem t_746 : (Cond.methodLink "AckBook$Arrivals" (36 : Nat) ({ cls := "AckBook$Arrivals", name := "hold", desc := "(ZI)V" } : MethodName)) ∈ zTB := z_inT 746 (by decide +kernel) (by decide +kernel)
theorem t_748 : (Cond.instanceMethod ({ cls := "AckBook$Arrivals", name := "hold", desc := "(ZI)V" } : MethodName)) ∈ zTB := z_inT 748 (by decide +kernel) (by decide +kernel)
theorem t_749 : (Cond.code ({ cls := "AckBook$Arrivals", name := "hold", desc := "(ZI)V" } : MethodName) prog_2_method_7_code (3 : Nat) (Option.none : Option FieldType)) ∈ zTB := z_inT 749 (by decide +kernel) (by decide +kernel)
theorem t_857 : (Cond.lays "AckBookModel" "AckBookModel" "thrown" "I") ∈ zTB := z_inT 857 (by decide +kernel) (by decide +kernel)
theorem t_859 : (Cond.lays "AckBookModel" "AckBookModel" "time" "I") ∈ zTB := z_inT 859 (by decide +kernel) (by decide +kernel)
theorem t_861 : (Cond.lays "AckBookModel" "AckBookModel" "confirmed" "Z") ∈ zTB := z_inT 861 (by decide +kernel) (by decide +kernel)
theorem t_863 : (Cond.lays "AckBookModel" "AckBookModel" "anxious" "Z") ∈ zTB := z_inT 863 (by decide +kernel) (by decide +kernel)
theorem t_865 : (Cond.laysFinal "AckBookModel" "AckBookModel" "sent" "[I") ∈ zTB := z_inT 865 (by decide +kernel) (by decide +kernel)
theorem t_867 : (Cond.laysFinal "AckBookModel" "AckBookModel" "size" "[I") ∈ zTB := z_inT 867 (by decide +kernel) (by decide +kernel)
theorem t_869 : (Cond.laysFinal "AckBookModel" "AckBookModel" "when" "[I") ∈ zTB := z_inT 869 (by decide +kernel) (by decide +kernel)
theorem t_871 : (Cond.laysFinal "AckBookModel" "AckBookModel" "state" "[I") ∈ zTB := z_inT 871 (by decide +kernel) (by decide +kernel)
theorem t_873 : (Cond.laysFinal "AckBookModel" "AckBookModel" "eliciting" "[Z") ∈ zTB := z_inT 873 (by decide +kernel) (by decide +kernel)
theorem t_875 : (Cond.laysFinal "AckBookModel" "AckBookModel" "counted" "[Z") ∈ zTB := z_inT 875 (by decide +kernel) (by decide +kernel)
end
section
theorem t_877 : (Cond.laysFinal "AckBookModel" "AckBookModel" "filling" "[Z") ∈ zTB := z_inT 877 (by decide +kernel) (by decide +kernel)
theorem t_879 : (Cond.laysFinal "AckBookModel" "AckBookModel" "discarded" "[Z") ∈ zTB := z_inT 879 (by decide +kernel) (by decide +kernel)
theorem t_881 : (Cond.laysFinal "AckBookModel" "AckBookModel" "top" "[I") ∈ zTB := z_inT 881 (by decide +kernel) (by decide +kernel)
theorem t_883 : (Cond.laysFinal "AckBookModel" "AckBookModel" "lossTime" "[I") ∈ zTB := z_inT 883 (by decide +kernel) (by decide +kernel)
theorem t_885 : (Cond.lays "AckBookModel" "AckBookModel" "latestSent" "I") ∈ zTB := z_inT 885 (by decide +kernel) (by decide +kernel)
theorem t_887 : (Cond.laysFinal "AckBookModel" "AckBookModel" "found" "[I") ∈ zTB := z_inT 887 (by decide +kernel) (by decide +kernel)
theorem t_889 : (Cond.laysFinal "AckBookModel" "AckBookModel" "founds" "[I") ∈ zTB := z_inT 889 (by decide +kernel) (by decide +kernel)
theorem t_891 : (Cond.laysFinal "AckBookModel" "AckBookModel" "told" "[I") ∈ zTB := z_inT 891 (by decide +kernel) (by decide +kernel)
theorem t_893 : (Cond.lays "AckBookModel" "AckBookModel" "smooth" "I") ∈ zTB := z_inT 893 (by decide +kernel) (by decide +kernel)
theorem t_895 : (Cond.lays "AckBookModel" "AckBookModel" "vary" "I") ∈ zTB := z_inT 895 (by decide +kernel) (by decide +kernel)
theorem t_897 : (Cond.lays "AckBookModel" "AckBookModel" "latest" "I") ∈ zTB := z_inT 897 (by decide +kernel) (by decide +kernel)
theorem t_899 : (Cond.lays "AckBookModel" "AckBookModel" "least" "I") ∈ zTB := z_inT 899 (by decide +kernel) (by decide +kernel)
theorem t_901 : (Cond.lays "AckBookModel" "AckBookModel" "firstSample" "I") ∈ zTB := z_inT 901 (by decide +kernel) (by decide +kernel)
theorem t_903 : (Cond.lays "AckBookModel" "AckBookModel" "backoff" "I") ∈ zTB := z_inT 903 (by decide +kernel) (by decide +kernel)
theorem t_905 : (Cond.lays "AckBookModel" "AckBookModel" "window" "I") ∈ zTB := z_inT 905 (by decide +kernel) (by decide +kernel)
theorem t_907 : (Cond.lays "AckBookModel" "AckBookModel" "threshold" "I") ∈ zTB := z_inT 907 (by decide +kernel) (by decide +kernel)
theorem t_909 : (Cond.lays "AckBookModel" "AckBookModel" "recovery" "I") ∈ zTB := z_inT 909 (by decide +kernel) (by decide +kernel)
theorem t_911 : (Cond.lays "AckBookModel" "AckBookModel" "spans" "I") ∈ zTB := z_inT 911 (by decide +kernel) (by decide +kernel)
theorem t_913 : (Cond.laysFinal "AckBookModel" "AckBookModel" "spanLow" "[J") ∈ zTB := z_inT 913 (by decide +kernel) (by decide +kernel)
theorem t_915 : (Cond.laysFinal "AckBookModel" "AckBookModel" "spanHigh" "[J") ∈ zTB := z_inT 915 (by decide +kernel) (by decide +kernel)
theorem t_917 : (Cond.laysFinal "AckBookModel" "AckBookModel" "ranges" "[I") ∈ zTB := z_inT 917 (by decide +kernel) (by decide +kernel)
theorem t_919 : (Cond.laysFinal "AckBookModel" "AckBookModel" "low" "[J") ∈ zTB := z_inT 919 (by decide +kernel) (by decide +kernel)
theorem t_921 : (Cond.laysFinal "AckBookModel" "AckBookModel" "high" "[J") ∈ zTB := z_inT 921 (by decide +kernel) (by decide +kernel)
theorem t_923 : (Cond.laysFinal "AckBookModel" "AckBookModel" "floor" "[J") ∈ zTB := z_inT 923 (by decide +kernel) (by decide +kernel)
theorem t_925 : (Cond.laysFinal "AckBookModel" "AckBookModel" "greatestAt" "[I") ∈ zTB := z_inT 925 (by decide +kernel) (by decide +kernel)
theorem t_927 : (Cond.laysFinal "AckBookModel" "AckBookModel" "pending" "[I") ∈ zTB := z_inT 927 (by decide +kernel) (by decide +kernel)
theorem t_929 : (Cond.laysFinal "AckBookModel" "AckBookModel" "pendingFrom" "[I") ∈ zTB := z_inT 929 (by decide +kernel) (by decide +kernel)
theorem t_931 : (Cond.laysFinal "AckBookModel" "AckBookModel" "odd" "[Z") ∈ zTB := z_inT 931 (by decide +kernel) (by decide +kernel)
end
section
theorem zc0 {b0 : Nat} {H0 : Heap} {D : va_G} {ZS : List (String × String × String × Value)} : z_cls (zGG b0 H0 D ZS) 0 zR0 zT0 9 zY0 := by
  refine ⟨rfl, fun x hx => ?_, by decide +kernel, by decide +kernel⟩
  obtain ⟨k, hk, rfl⟩ := List.mem_map.mp hx
  have hk := List.mem_range.mp hk
  match k, hk with
  | 0, _ => exact t_250
  | 1, _ => exact t_252
  | 2, _ => exact t_254
  | 3, _ => exact t_256
  | 4, _ => exact t_258
  | 5, _ => exact t_260
  | 6, _ => exact t_262
  | 7, _ => exact t_264
  | 8, _ => exact t_266
  | _ + 9, hk => exact absurd hk (by omega)
theorem zc1 {b0 : Nat} {H0 : Heap} {D : va_G} {ZS : List (String × String × String × Value)} : z_cls (zGG b0 H0 D ZS) 1 zR1 zT1 4 zY1 := by
  refine ⟨rfl, fun x hx => ?_, by decide +kernel, by decide +kernel⟩
  obtain ⟨k, hk, rfl⟩ := List.mem_map.mp hx
  have hk := List.mem_range.mp hk
  match k, hk with
  | 0, _ => exact t_162
  | 1, _ => exact t_164
  | 2, _ => exact t_166
  | 3, _ => exact t_168
  | _ + 4, hk => exact absurd hk (by omega)
theorem zc2 {b0 : Nat} {H0 : Heap} {D : va_G} {ZS : List (String × String × String × Value)} : z_cls (zGG b0 H0 D ZS) 2 zR2 zT2 8 zY2 := by
  refine ⟨rfl, fun x hx => ?_, by decide +kernel, by decide +kernel⟩
  obtain ⟨k, hk, rfl⟩ := List.mem_map.mp hx
  have hk := List.mem_range.mp hk
  match k, hk with
  | 0, _ => exact t_101
  | 1, _ => exact t_103
  | 2, _ => exact t_105
  | 3, _ => exact t_107
  | 4, _ => exact t_109
  | 5, _ => exact t_111
  | 6, _ => exact t_113
  | 7, _ => exact t_115
  | _ + 8, hk => exact absurd hk (by omega)
theorem zc3 {b0 : Nat} {H0 : Heap} {D : va_G} {ZS : List (String × String × String × Value)} : z_cls (zGG b0 H0 D ZS) 3 zR3 zT3 2 zY3 := by
  refine ⟨rfl, fun x hx => ?_, by decide +kernel, by decide +kernel⟩
  obtain ⟨k, hk, rfl⟩ := List.mem_map.mp hx
  have hk := List.mem_range.mp hk
  match k, hk with
  | 0, _ => exact t_55
  | 1, _ => exact t_57
  | _ + 2, hk => exact absurd hk (by omega)
theorem zc4 {b0 : Nat} {H0 : Heap} {D : va_G} {ZS : List (String × String × String × Value)} : z_cls (zGG b0 H0 D ZS) 4 zR4 zT4 3 zY4 := by
  refine ⟨rfl, fun x hx => ?_, by decide +kernel, by decide +kernel⟩
  obtain ⟨k, hk, rfl⟩ := List.mem_map.mp hx
  have hk := List.mem_range.mp hk
  match k, hk with
  | 0, _ => exact t_79
  | 1, _ => exact t_81
  | 2, _ => exact t_83
  | _ + 3, hk => exact absurd hk (by omega)
theorem zc5 {b0 : Nat} {H0 : Heap} {D : va_G} {ZS : List (String × String × String × Value)} : z_cls (zGG b0 H0 D ZS) 5 zR5 zT5 8 zY5 := by
  refine ⟨rfl, fun x hx => ?_, by decide +kernel, by decide +kernel⟩
  obtain ⟨k, hk, rfl⟩ := List.mem_map.mp hx
  have hk := List.mem_range.mp hk
  match k, hk with
  | 0, _ => exact t_137
  | 1, _ => exact t_139
  | 2, _ => exact t_141
  | 3, _ => exact t_143
  | 4, _ => exact t_145
  | 5, _ => exact t_147
  | 6, _ => exact t_149
  | 7, _ => exact t_151
  | _ + 8, hk => exact absurd hk (by omega)
theorem zc6 {b0 : Nat} {H0 : Heap} {D : va_G} {ZS : List (String × String × String × Value)} : z_cls (zGG b0 H0 D ZS) 6 zR6 zT6 4 zY6 := by
  refine ⟨rfl, fun x hx => ?_, by decide +kernel, by decide +kernel⟩
  obtain ⟨k, hk, rfl⟩ := List.mem_map.mp hx
  have hk := List.mem_range.mp hk
  match k, hk with
  | 0, _ => exact t_182
  | 1, _ => exact t_184
  | 2, _ => exact t_186
  | 3, _ => exact t_188
  | _ + 4, hk => exact absurd hk (by omega)
theorem zc7 {b0 : Nat} {H0 : Heap} {D : va_G} {ZS : List (String × String × String × Value)} : z_cls (zGG b0 H0 D ZS) 7 zR7 zT7 5 zY7 := by
  refine ⟨rfl, fun x hx => ?_, by decide +kernel, by decide +kernel⟩
  obtain ⟨k, hk, rfl⟩ := List.mem_map.mp hx
  have hk := List.mem_range.mp hk
  match k, hk with
  | 0, _ => exact t_207
  | 1, _ => exact t_209
  | 2, _ => exact t_211
  | 3, _ => exact t_213
  | 4, _ => exact t_215
  | _ + 5, hk => exact absurd hk (by omega)
theorem zc8 {b0 : Nat} {H0 : Heap} {D : va_G} {ZS : List (String × String × String × Value)} : z_cls (zGG b0 H0 D ZS) 8 zR8 zT8 4 zY8 := by
  refine ⟨rfl, fun x hx => ?_, by decide +kernel, by decide +kernel⟩
  obtain ⟨k, hk, rfl⟩ := List.mem_map.mp hx
  have hk := List.mem_range.mp hk
  match k, hk with
  | 0, _ => exact t_232
  | 1, _ => exact t_234
  | 2, _ => exact t_236
  | 3, _ => exact t_238
  | _ + 4, hk => exact absurd hk (by omega)
theorem zc9 {b0 : Nat} {H0 : Heap} {D : va_G} {ZS : List (String × String × String × Value)} : z_cls (zGG b0 H0 D ZS) 9 zR9 zT9 8 zY9 := by
  refine ⟨rfl, fun x hx => ?_, by decide +kernel, by decide +kernel⟩
  obtain ⟨k, hk, rfl⟩ := List.mem_map.mp hx
  have hk := List.mem_range.mp hk
  match k, hk with
  | 0, _ => exact t_507
  | 1, _ => exact t_509
  | 2, _ => exact t_511
  | 3, _ => exact t_513
  | 4, _ => exact t_515
  | 5, _ => exact t_517
  | 6, _ => exact t_519
  | 7, _ => exact t_521
  | _ + 8, hk => exact absurd hk (by omega)
theorem zc10 {b0 : Nat} {H0 : Heap} {D : va_G} {ZS : List (String × String × String × Value)} : z_cls (zGG b0 H0 D ZS) 10 zR10 zT10 38 zY10 := by
  refine ⟨rfl, fun x hx => ?_, by decide +kernel, by decide +kernel⟩
  obtain ⟨k, hk, rfl⟩ := List.mem_map.mp hx
  have hk := List.mem_range.mp hk
  match k, hk with
  | 0, _ => exact t_857
  | 1, _ => exact t_859
  | 2, _ => exact t_861
  | 3, _ => exact t_863
  | 4, _ => exact t_865
  | 5, _ => exact t_867
  | 6, _ => exact t_869
  | 7, _ => exact t_871
  | 8, _ => exact t_873
  | 9, _ => exact t_875
  | 10, _ => exact t_877
  | 11, _ => exact t_879
  | 12, _ => exact t_881
  | 13, _ => exact t_883
  | 14, _ => exact t_885
  | 15, _ => exact t_887
  | 16, _ => exact t_889
  | 17, _ => exact t_891
  | 18, _ => exact t_893
  | 19, _ => exact t_895
  | 20, _ => exact t_897
  | 21, _ => exact t_899
  | 22, _ => exact t_901
  | 23, _ => exact t_903
  | 24, _ => exact t_905
  | 25, _ => exact t_907
  | 26, _ => exact t_909
  | 27, _ => exact t_911
  | 28, _ => exact t_913
  | 29, _ => exact t_915
  | 30, _ => exact t_917
  | 31, _ => exact t_919
  | 32, _ => exact t_921
  | 33, _ => exact t_923
  | 34, _ => exact t_925
  | 35, _ => exact t_927
  | 36, _ => exact t_929
  | 37, _ => exact t_931
  | _ + 38, hk => exact absurd hk (by omega)
theorem ts_AckBook_Flow_isAfterRecovery : Cond.selects "AckBook$Flow" ({ cls := "AckBook$Flow", name := "isAfterRecovery", desc := "(LAckBook$Packet;)Z" } : MethodName) ({ cls := "AckBook$Flow", name := "isAfterRecovery", desc := "(LAckBook$Packet;)Z" } : MethodName) ∈ zTB := List.mem_filter.mpr ⟨List.mem_append_left _ (by decide +kernel), by decide +kernel⟩
theorem ts_AckBook_Flow_grow : Cond.selects "AckBook$Flow" ({ cls := "AckBook$Flow", name := "grow", desc := "(I)V" } : MethodName) ({ cls := "AckBook$Flow", name := "grow", desc := "(I)V" } : MethodName) ∈ zTB := List.mem_filter.mpr ⟨List.mem_append_left _ (by decide +kernel), by decide +kernel⟩
theorem ts_AckBook_Arrivals_insert : Cond.selects "AckBook$Arrivals" ({ cls := "AckBook$Arrivals", name := "insert", desc := "(JI)V" } : MethodName) ({ cls := "AckBook$Arrivals", name := "insert", desc := "(JI)V" } : MethodName) ∈ zTB := List.mem_filter.mpr ⟨List.mem_append_left _ (by decide +kernel), by decide +kernel⟩
theorem ts_AckBook_Arrivals_remove : Cond.selects "AckBook$Arrivals" ({ cls := "AckBook$Arrivals", name := "remove", desc := "(I)V" } : MethodName) ({ cls := "AckBook$Arrivals", name := "remove", desc := "(I)V" } : MethodName) ∈ zTB := List.mem_filter.mpr ⟨List.mem_append_left _ (by decide +kernel), by decide +kernel⟩
theorem ts_AckBook_Arrivals_firstNotAbove : Cond.selects "AckBook$Arrivals" ({ cls := "AckBook$Arrivals", name := "firstNotAbove", desc := "(J)I" } : MethodName) ({ cls := "AckBook$Arrivals", name := "firstNotAbove", desc := "(J)I" } : MethodName) ∈ zTB := List.mem_filter.mpr ⟨List.mem_append_left _ (by decide +kernel), by decide +kernel⟩
theorem ts_AckBook_Arrivals_keep : Cond.selects "AckBook$Arrivals" ({ cls := "AckBook$Arrivals", name := "keep", desc := "(JI)V" } : MethodName) ({ cls := "AckBook$Arrivals", name := "keep", desc := "(JI)V" } : MethodName) ∈ zTB := List.mem_filter.mpr ⟨List.mem_append_left _ (by decide +kernel), by decide +kernel⟩
theorem ts_AckBook_Arrivals_hold : Cond.selects "AckBook$Arrivals" ({ cls := "AckBook$Arrivals", name := "hold", desc := "(ZI)V" } : MethodName) ({ cls := "AckBook$Arrivals", name := "hold", desc := "(ZI)V" } : MethodName) ∈ zTB := List.mem_filter.mpr ⟨List.mem_append_left _ (by decide +kernel), by decide +kernel⟩
end
section
def y_AckBook_Chain_init : MethodName := { cls := "AckBook$Chain", name := "<init>", desc := "()V" }
abbrev c_AckBook_Chain_init : ByteArray := prog_3_method_1_code
def y_AckBook_Arrivals_init : MethodName := { cls := "AckBook$Arrivals", name := "<init>", desc := "()V" }
abbrev c_AckBook_Arrivals_init : ByteArray := prog_2_method_1_code
def y_AckBook_Claim_init : MethodName := { cls := "AckBook$Claim", name := "<init>", desc := "()V" }
abbrev c_AckBook_Claim_init : ByteArray := prog_4_method_1_code
def y_AckBook_Way_init : MethodName := { cls := "AckBook$Way", name := "<init>", desc := "()V" }
abbrev c_AckBook_Way_init : ByteArray := prog_9_method_1_code
def y_AckBook_Flow_init : MethodName := { cls := "AckBook$Flow", name := "<init>", desc := "()V" }
abbrev c_AckBook_Flow_init : ByteArray := prog_5_method_1_code
def y_AckBook_Way_patience : MethodName := { cls := "AckBook$Way", name := "patience", desc := "()I" }
abbrev c_AckBook_Way_patience : ByteArray := prog_9_method_3_code
def y_AckBook_Way_limit : MethodName := { cls := "AckBook$Way", name := "limit", desc := "()I" }
abbrev c_AckBook_Way_limit : ByteArray := prog_9_method_4_code
def y_AckBook_Chain_append : MethodName := { cls := "AckBook$Chain", name := "append", desc := "(LAckBook$Packet;)V" }
abbrev c_AckBook_Chain_append : ByteArray := prog_3_method_2_code
def y_AckBook_Flow_leave : MethodName := { cls := "AckBook$Flow", name := "leave", desc := "(LAckBook$Packet;)V" }
abbrev c_AckBook_Flow_leave : ByteArray := prog_5_method_3_code
def y_AckBook_Flow_isAfterRecovery : MethodName := { cls := "AckBook$Flow", name := "isAfterRecovery", desc := "(LAckBook$Packet;)Z" }
abbrev c_AckBook_Flow_isAfterRecovery : ByteArray := prog_5_method_8_code
def y_AckBook_Flow_leaveLost : MethodName := { cls := "AckBook$Flow", name := "leaveLost", desc := "(LAckBook$Packet;I)V" }
abbrev c_AckBook_Flow_leaveLost : ByteArray := prog_5_method_6_code
def y_AckBook_Flow_collapse : MethodName := { cls := "AckBook$Flow", name := "collapse", desc := "()V" }
abbrev c_AckBook_Flow_collapse : ByteArray := prog_5_method_7_code
def y_AckBook_Packet_init : MethodName := { cls := "AckBook$Packet", name := "<init>", desc := "(IIIZZ)V" }
abbrev c_AckBook_Packet_init : ByteArray := prog_6_method_1_code
def y_AckBook_Flow_enter : MethodName := { cls := "AckBook$Flow", name := "enter", desc := "(LAckBook$Packet;)V" }
abbrev c_AckBook_Flow_enter : ByteArray := prog_5_method_2_code
def y_AckBook_Claim_isBelow : MethodName := { cls := "AckBook$Claim", name := "isBelow", desc := "(J)Z" }
abbrev c_AckBook_Claim_isBelow : ByteArray := prog_4_method_3_code
def y_AckBook_Claim_isFull : MethodName := { cls := "AckBook$Claim", name := "isFull", desc := "()Z" }
abbrev c_AckBook_Claim_isFull : ByteArray := prog_4_method_2_code
def y_AckBook_Claim_add : MethodName := { cls := "AckBook$Claim", name := "add", desc := "(JJ)I" }
abbrev c_AckBook_Claim_add : ByteArray := prog_4_method_4_code
def y_AckBook_Claim_close : MethodName := { cls := "AckBook$Claim", name := "close", desc := "()V" }
abbrev c_AckBook_Claim_close : ByteArray := prog_4_method_5_code
def y_AckBook_Claim_greatest : MethodName := { cls := "AckBook$Claim", name := "greatest", desc := "()J" }
abbrev c_AckBook_Claim_greatest : ByteArray := prog_4_method_6_code
def y_AckBook_Claim_high : MethodName := { cls := "AckBook$Claim", name := "high", desc := "(I)J" }
abbrev c_AckBook_Claim_high : ByteArray := prog_4_method_8_code
def y_AckBook_Claim_low : MethodName := { cls := "AckBook$Claim", name := "low", desc := "(I)J" }
abbrev c_AckBook_Claim_low : ByteArray := prog_4_method_7_code
def y_AckBook_Way_take : MethodName := { cls := "AckBook$Way", name := "take", desc := "(III)V" }
abbrev c_AckBook_Way_take : ByteArray := prog_9_method_2_code
def y_AckBook_Flow_grow : MethodName := { cls := "AckBook$Flow", name := "grow", desc := "(I)V" }
abbrev c_AckBook_Flow_grow : ByteArray := prog_5_method_5_code
def y_AckBook_Flow_leaveAcknowledged : MethodName := { cls := "AckBook$Flow", name := "leaveAcknowledged", desc := "(LAckBook$Packet;)I" }
abbrev c_AckBook_Flow_leaveAcknowledged : ByteArray := prog_5_method_4_code
def y_AckBook_Chain_clear : MethodName := { cls := "AckBook$Chain", name := "clear", desc := "()V" }
abbrev c_AckBook_Chain_clear : ByteArray := prog_3_method_4_code
def y_AckBook_Arrivals_forget : MethodName := { cls := "AckBook$Arrivals", name := "forget", desc := "()V" }
abbrev c_AckBook_Arrivals_forget : ByteArray := prog_2_method_10_code
def y_AckBook_Chain_removeFirst : MethodName := { cls := "AckBook$Chain", name := "removeFirst", desc := "()I" }
abbrev c_AckBook_Chain_removeFirst : ByteArray := prog_3_method_3_code
def y_AckBook_Arrivals_firstNotAbove : MethodName := { cls := "AckBook$Arrivals", name := "firstNotAbove", desc := "(J)I" }
abbrev c_AckBook_Arrivals_firstNotAbove : ByteArray := prog_2_method_3_code
def y_AckBook_Arrivals_remove : MethodName := { cls := "AckBook$Arrivals", name := "remove", desc := "(I)V" }
abbrev c_AckBook_Arrivals_remove : ByteArray := prog_2_method_5_code
def y_AckBook_Arrivals_insert : MethodName := { cls := "AckBook$Arrivals", name := "insert", desc := "(JI)V" }
abbrev c_AckBook_Arrivals_insert : ByteArray := prog_2_method_6_code
def y_AckBook_Arrivals_keep : MethodName := { cls := "AckBook$Arrivals", name := "keep", desc := "(JI)V" }
abbrev c_AckBook_Arrivals_keep : ByteArray := prog_2_method_4_code
def y_AckBook_Arrivals_hold : MethodName := { cls := "AckBook$Arrivals", name := "hold", desc := "(ZI)V" }
abbrev c_AckBook_Arrivals_hold : ByteArray := prog_2_method_7_code
def y_AckBook_Arrivals_enter : MethodName := { cls := "AckBook$Arrivals", name := "enter", desc := "(JZI)Z" }
abbrev c_AckBook_Arrivals_enter : ByteArray := prog_2_method_2_code
def y_AckBook_Arrivals_isPressing : MethodName := { cls := "AckBook$Arrivals", name := "isPressing", desc := "(I)Z" }
abbrev c_AckBook_Arrivals_isPressing : ByteArray := prog_2_method_8_code
def y_AckBook_Arrivals_settle : MethodName := { cls := "AckBook$Arrivals", name := "settle", desc := "(I)I" }
abbrev c_AckBook_Arrivals_settle : ByteArray := prog_2_method_9_code
end
section
theorem d_AckBook_Chain_init_0 : decode c_AckBook_Chain_init 0 = .ok (.aload_n 0, 1) := by decide +kernel
theorem d_AckBook_Chain_init_1 : decode c_AckBook_Chain_init 1 = .ok (.invokespecial 3, 3) := by decide +kernel
theorem d_AckBook_Chain_init_4 : decode c_AckBook_Chain_init 4 = .ok (.return_, 1) := by decide +kernel
theorem d_AckBook_Arrivals_init_0 : decode c_AckBook_Arrivals_init 0 = .ok (.aload_n 0, 1) := by decide +kernel
theorem d_AckBook_Arrivals_init_1 : decode c_AckBook_Arrivals_init 1 = .ok (.invokespecial 3, 3) := by decide +kernel
theorem d_AckBook_Arrivals_init_4 : decode c_AckBook_Arrivals_init 4 = .ok (.aload_n 0, 1) := by decide +kernel
theorem d_AckBook_Arrivals_init_5 : decode c_AckBook_Arrivals_init 5 = .ok (.bipush (65), 2) := by decide +kernel
theorem d_AckBook_Arrivals_init_7 : decode c_AckBook_Arrivals_init 7 = .ok (.newarray .long, 2) := by decide +kernel
theorem d_AckBook_Arrivals_init_9 : decode c_AckBook_Arrivals_init 9 = .ok (.putfield 9, 3) := by decide +kernel
theorem d_AckBook_Arrivals_init_12 : decode c_AckBook_Arrivals_init 12 = .ok (.aload_n 0, 1) := by decide +kernel
theorem d_AckBook_Arrivals_init_13 : decode c_AckBook_Arrivals_init 13 = .ok (.bipush (65), 2) := by decide +kernel
theorem d_AckBook_Arrivals_init_15 : decode c_AckBook_Arrivals_init 15 = .ok (.newarray .long, 2) := by decide +kernel
theorem d_AckBook_Arrivals_init_17 : decode c_AckBook_Arrivals_init 17 = .ok (.putfield 15, 3) := by decide +kernel
theorem d_AckBook_Arrivals_init_20 : decode c_AckBook_Arrivals_init 20 = .ok (.return_, 1) := by decide +kernel
theorem d_AckBook_Claim_init_0 : decode c_AckBook_Claim_init 0 = .ok (.aload_n 0, 1) := by decide +kernel
theorem d_AckBook_Claim_init_1 : decode c_AckBook_Claim_init 1 = .ok (.invokespecial 3, 3) := by decide +kernel
theorem d_AckBook_Claim_init_4 : decode c_AckBook_Claim_init 4 = .ok (.aload_n 0, 1) := by decide +kernel
theorem d_AckBook_Claim_init_5 : decode c_AckBook_Claim_init 5 = .ok (.bipush (64), 2) := by decide +kernel
theorem d_AckBook_Claim_init_7 : decode c_AckBook_Claim_init 7 = .ok (.newarray .long, 2) := by decide +kernel
theorem d_AckBook_Claim_init_9 : decode c_AckBook_Claim_init 9 = .ok (.putfield 9, 3) := by decide +kernel
theorem d_AckBook_Claim_init_12 : decode c_AckBook_Claim_init 12 = .ok (.aload_n 0, 1) := by decide +kernel
theorem d_AckBook_Claim_init_13 : decode c_AckBook_Claim_init 13 = .ok (.bipush (64), 2) := by decide +kernel
theorem d_AckBook_Claim_init_15 : decode c_AckBook_Claim_init 15 = .ok (.newarray .long, 2) := by decide +kernel
theorem d_AckBook_Claim_init_17 : decode c_AckBook_Claim_init 17 = .ok (.putfield 15, 3) := by decide +kernel
theorem d_AckBook_Claim_init_20 : decode c_AckBook_Claim_init 20 = .ok (.return_, 1) := by decide +kernel
theorem d_AckBook_Way_init_0 : decode c_AckBook_Way_init 0 = .ok (.aload_n 0, 1) := by decide +kernel
theorem d_AckBook_Way_init_1 : decode c_AckBook_Way_init 1 = .ok (.invokespecial 3, 3) := by decide +kernel
theorem d_AckBook_Way_init_4 : decode c_AckBook_Way_init 4 = .ok (.aload_n 0, 1) := by decide +kernel
theorem d_AckBook_Way_init_5 : decode c_AckBook_Way_init 5 = .ok (.sipush (800), 3) := by decide +kernel
theorem d_AckBook_Way_init_8 : decode c_AckBook_Way_init 8 = .ok (.putfield 9, 3) := by decide +kernel
theorem d_AckBook_Way_init_11 : decode c_AckBook_Way_init 11 = .ok (.aload_n 0, 1) := by decide +kernel
theorem d_AckBook_Way_init_12 : decode c_AckBook_Way_init 12 = .ok (.sipush (200), 3) := by decide +kernel
theorem d_AckBook_Way_init_15 : decode c_AckBook_Way_init 15 = .ok (.putfield 15, 3) := by decide +kernel
theorem d_AckBook_Way_init_18 : decode c_AckBook_Way_init 18 = .ok (.aload_n 0, 1) := by decide +kernel
theorem d_AckBook_Way_init_19 : decode c_AckBook_Way_init 19 = .ok (.iconst (-1), 1) := by decide +kernel
theorem d_AckBook_Way_init_20 : decode c_AckBook_Way_init 20 = .ok (.putfield 18, 3) := by decide +kernel
theorem d_AckBook_Way_init_23 : decode c_AckBook_Way_init 23 = .ok (.aload_n 0, 1) := by decide +kernel
theorem d_AckBook_Way_init_24 : decode c_AckBook_Way_init 24 = .ok (.iconst (-1), 1) := by decide +kernel
theorem d_AckBook_Way_init_25 : decode c_AckBook_Way_init 25 = .ok (.putfield 21, 3) := by decide +kernel
theorem d_AckBook_Way_init_28 : decode c_AckBook_Way_init 28 = .ok (.return_, 1) := by decide +kernel
theorem d_AckBook_Flow_init_0 : decode c_AckBook_Flow_init 0 = .ok (.aload_n 0, 1) := by decide +kernel
theorem d_AckBook_Flow_init_1 : decode c_AckBook_Flow_init 1 = .ok (.invokespecial 3, 3) := by decide +kernel
theorem d_AckBook_Flow_init_4 : decode c_AckBook_Flow_init 4 = .ok (.aload_n 0, 1) := by decide +kernel
theorem d_AckBook_Flow_init_5 : decode c_AckBook_Flow_init 5 = .ok (.sipush (12000), 3) := by decide +kernel
theorem d_AckBook_Flow_init_8 : decode c_AckBook_Flow_init 8 = .ok (.putfield 9, 3) := by decide +kernel
theorem d_AckBook_Flow_init_11 : decode c_AckBook_Flow_init 11 = .ok (.aload_n 0, 1) := by decide +kernel
theorem d_AckBook_Flow_init_12 : decode c_AckBook_Flow_init 12 = .ok (.iconst (-1), 1) := by decide +kernel
theorem d_AckBook_Flow_init_13 : decode c_AckBook_Flow_init 13 = .ok (.putfield 15, 3) := by decide +kernel
theorem d_AckBook_Flow_init_16 : decode c_AckBook_Flow_init 16 = .ok (.aload_n 0, 1) := by decide +kernel
theorem d_AckBook_Flow_init_17 : decode c_AckBook_Flow_init 17 = .ok (.iconst (-1), 1) := by decide +kernel
theorem d_AckBook_Flow_init_18 : decode c_AckBook_Flow_init 18 = .ok (.putfield 18, 3) := by decide +kernel
theorem d_AckBook_Flow_init_21 : decode c_AckBook_Flow_init 21 = .ok (.return_, 1) := by decide +kernel
theorem d_AckBook_Way_patience_0 : decode c_AckBook_Way_patience 0 = .ok (.aload_n 0, 1) := by decide +kernel
theorem d_AckBook_Way_patience_1 : decode c_AckBook_Way_patience 1 = .ok (.getfield 9, 3) := by decide +kernel
theorem d_AckBook_Way_patience_4 : decode c_AckBook_Way_patience 4 = .ok (.bipush (8), 2) := by decide +kernel
theorem d_AckBook_Way_patience_6 : decode c_AckBook_Way_patience 6 = .ok (.idiv, 1) := by decide +kernel
theorem d_AckBook_Way_patience_7 : decode c_AckBook_Way_patience 7 = .ok (.aload_n 0, 1) := by decide +kernel
theorem d_AckBook_Way_patience_8 : decode c_AckBook_Way_patience 8 = .ok (.getfield 15, 3) := by decide +kernel
theorem d_AckBook_Way_patience_11 : decode c_AckBook_Way_patience 11 = .ok (.iconst (1), 1) := by decide +kernel
theorem d_AckBook_Way_patience_12 : decode c_AckBook_Way_patience 12 = .ok (.invokestatic 37, 3) := by decide +kernel
theorem d_AckBook_Way_patience_15 : decode c_AckBook_Way_patience 15 = .ok (.iadd, 1) := by decide +kernel
theorem d_AckBook_Way_patience_16 : decode c_AckBook_Way_patience 16 = .ok (.ireturn, 1) := by decide +kernel
theorem d_AckBook_Way_limit_0 : decode c_AckBook_Way_limit 0 = .ok (.bipush (9), 2) := by decide +kernel
theorem d_AckBook_Way_limit_2 : decode c_AckBook_Way_limit 2 = .ok (.aload_n 0, 1) := by decide +kernel
theorem d_AckBook_Way_limit_3 : decode c_AckBook_Way_limit 3 = .ok (.getfield 9, 3) := by decide +kernel
theorem d_AckBook_Way_limit_6 : decode c_AckBook_Way_limit 6 = .ok (.bipush (8), 2) := by decide +kernel
theorem d_AckBook_Way_limit_8 : decode c_AckBook_Way_limit 8 = .ok (.idiv, 1) := by decide +kernel
theorem d_AckBook_Way_limit_9 : decode c_AckBook_Way_limit 9 = .ok (.aload_n 0, 1) := by decide +kernel
theorem d_AckBook_Way_limit_10 : decode c_AckBook_Way_limit 10 = .ok (.getfield 24, 3) := by decide +kernel
theorem d_AckBook_Way_limit_13 : decode c_AckBook_Way_limit 13 = .ok (.invokestatic 37, 3) := by decide +kernel
theorem d_AckBook_Way_limit_16 : decode c_AckBook_Way_limit 16 = .ok (.imul, 1) := by decide +kernel
theorem d_AckBook_Way_limit_17 : decode c_AckBook_Way_limit 17 = .ok (.bipush (8), 2) := by decide +kernel
theorem d_AckBook_Way_limit_19 : decode c_AckBook_Way_limit 19 = .ok (.idiv, 1) := by decide +kernel
theorem d_AckBook_Way_limit_20 : decode c_AckBook_Way_limit 20 = .ok (.iconst (1), 1) := by decide +kernel
theorem d_AckBook_Way_limit_21 : decode c_AckBook_Way_limit 21 = .ok (.invokestatic 37, 3) := by decide +kernel
theorem d_AckBook_Way_limit_24 : decode c_AckBook_Way_limit 24 = .ok (.ireturn, 1) := by decide +kernel
theorem d_AckBook_Chain_append_0 : decode c_AckBook_Chain_append 0 = .ok (.aload_n 0, 1) := by decide +kernel
theorem d_AckBook_Chain_append_1 : decode c_AckBook_Chain_append 1 = .ok (.getfield 9, 3) := by decide +kernel
theorem d_AckBook_Chain_append_4 : decode c_AckBook_Chain_append 4 = .ok (.ifnull (10), 3) := by decide +kernel
theorem d_AckBook_Chain_append_14 : decode c_AckBook_Chain_append 14 = .ok (.aload_n 0, 1) := by decide +kernel
theorem d_AckBook_Chain_append_15 : decode c_AckBook_Chain_append 15 = .ok (.aload_n 1, 1) := by decide +kernel
theorem d_AckBook_Chain_append_16 : decode c_AckBook_Chain_append 16 = .ok (.putfield 9, 3) := by decide +kernel
theorem d_AckBook_Chain_append_19 : decode c_AckBook_Chain_append 19 = .ok (.goto (11), 3) := by decide +kernel
theorem d_AckBook_Chain_append_30 : decode c_AckBook_Chain_append 30 = .ok (.aload_n 0, 1) := by decide +kernel
theorem d_AckBook_Chain_append_31 : decode c_AckBook_Chain_append 31 = .ok (.aload_n 1, 1) := by decide +kernel
theorem d_AckBook_Chain_append_32 : decode c_AckBook_Chain_append 32 = .ok (.putfield 15, 3) := by decide +kernel
theorem d_AckBook_Chain_append_35 : decode c_AckBook_Chain_append 35 = .ok (.return_, 1) := by decide +kernel
theorem d_AckBook_Chain_append_7 : decode c_AckBook_Chain_append 7 = .ok (.aload_n 0, 1) := by decide +kernel
theorem d_AckBook_Chain_append_8 : decode c_AckBook_Chain_append 8 = .ok (.getfield 15, 3) := by decide +kernel
theorem d_AckBook_Chain_append_11 : decode c_AckBook_Chain_append 11 = .ok (.ifnonnull (11), 3) := by decide +kernel
theorem d_AckBook_Chain_append_22 : decode c_AckBook_Chain_append 22 = .ok (.aload_n 0, 1) := by decide +kernel
theorem d_AckBook_Chain_append_23 : decode c_AckBook_Chain_append 23 = .ok (.getfield 15, 3) := by decide +kernel
theorem d_AckBook_Chain_append_26 : decode c_AckBook_Chain_append 26 = .ok (.aload_n 1, 1) := by decide +kernel
theorem d_AckBook_Chain_append_27 : decode c_AckBook_Chain_append 27 = .ok (.putfield 18, 3) := by decide +kernel
theorem d_AckBook_Flow_leave_0 : decode c_AckBook_Flow_leave 0 = .ok (.aload_n 1, 1) := by decide +kernel
theorem d_AckBook_Flow_leave_1 : decode c_AckBook_Flow_leave 1 = .ok (.getfield 21, 3) := by decide +kernel
theorem d_AckBook_Flow_leave_4 : decode c_AckBook_Flow_leave 4 = .ok (.ifCond .eq (16), 3) := by decide +kernel
theorem d_AckBook_Flow_leave_20 : decode c_AckBook_Flow_leave 20 = .ok (.return_, 1) := by decide +kernel
theorem d_AckBook_Flow_leave_7 : decode c_AckBook_Flow_leave 7 = .ok (.aload_n 0, 1) := by decide +kernel
theorem d_AckBook_Flow_leave_8 : decode c_AckBook_Flow_leave 8 = .ok (.dup, 1) := by decide +kernel
theorem d_AckBook_Flow_leave_9 : decode c_AckBook_Flow_leave 9 = .ok (.getfield 27, 3) := by decide +kernel
theorem d_AckBook_Flow_leave_12 : decode c_AckBook_Flow_leave 12 = .ok (.aload_n 1, 1) := by decide +kernel
theorem d_AckBook_Flow_leave_13 : decode c_AckBook_Flow_leave 13 = .ok (.getfield 30, 3) := by decide +kernel
theorem d_AckBook_Flow_leave_16 : decode c_AckBook_Flow_leave 16 = .ok (.isub, 1) := by decide +kernel
theorem d_AckBook_Flow_leave_17 : decode c_AckBook_Flow_leave 17 = .ok (.putfield 27, 3) := by decide +kernel
theorem d_AckBook_Flow_isAfterRecovery_0 : decode c_AckBook_Flow_isAfterRecovery 0 = .ok (.aload_n 0, 1) := by decide +kernel
theorem d_AckBook_Flow_isAfterRecovery_1 : decode c_AckBook_Flow_isAfterRecovery 1 = .ok (.getfield 18, 3) := by decide +kernel
theorem d_AckBook_Flow_isAfterRecovery_4 : decode c_AckBook_Flow_isAfterRecovery 4 = .ok (.iconst (-1), 1) := by decide +kernel
theorem d_AckBook_Flow_isAfterRecovery_5 : decode c_AckBook_Flow_isAfterRecovery 5 = .ok (.if_icmp .eq (14), 3) := by decide +kernel
theorem d_AckBook_Flow_isAfterRecovery_19 : decode c_AckBook_Flow_isAfterRecovery 19 = .ok (.iconst (1), 1) := by decide +kernel
theorem d_AckBook_Flow_isAfterRecovery_20 : decode c_AckBook_Flow_isAfterRecovery 20 = .ok (.goto (4), 3) := by decide +kernel
theorem d_AckBook_Flow_isAfterRecovery_24 : decode c_AckBook_Flow_isAfterRecovery 24 = .ok (.ireturn, 1) := by decide +kernel
theorem d_AckBook_Flow_isAfterRecovery_8 : decode c_AckBook_Flow_isAfterRecovery 8 = .ok (.aload_n 1, 1) := by decide +kernel
theorem d_AckBook_Flow_isAfterRecovery_9 : decode c_AckBook_Flow_isAfterRecovery 9 = .ok (.getfield 58, 3) := by decide +kernel
theorem d_AckBook_Flow_isAfterRecovery_12 : decode c_AckBook_Flow_isAfterRecovery 12 = .ok (.aload_n 0, 1) := by decide +kernel
theorem d_AckBook_Flow_isAfterRecovery_13 : decode c_AckBook_Flow_isAfterRecovery 13 = .ok (.getfield 18, 3) := by decide +kernel
theorem d_AckBook_Flow_isAfterRecovery_16 : decode c_AckBook_Flow_isAfterRecovery 16 = .ok (.if_icmp .le (7), 3) := by decide +kernel
theorem d_AckBook_Flow_isAfterRecovery_23 : decode c_AckBook_Flow_isAfterRecovery 23 = .ok (.iconst (0), 1) := by decide +kernel
theorem d_AckBook_Flow_leaveLost_5 : decode c_AckBook_Flow_leaveLost 5 = .ok (.aload 4, 2) := by decide +kernel
theorem d_AckBook_Flow_leaveLost_7 : decode c_AckBook_Flow_leaveLost 7 = .ok (.ifnull (46), 3) := by decide +kernel
end
section
theorem d_AckBook_Flow_leaveLost_53 : decode c_AckBook_Flow_leaveLost 53 = .ok (.iload_n 3, 1) := by decide +kernel
theorem d_AckBook_Flow_leaveLost_54 : decode c_AckBook_Flow_leaveLost 54 = .ok (.ifCond .eq (32), 3) := by decide +kernel
theorem d_AckBook_Flow_leaveLost_86 : decode c_AckBook_Flow_leaveLost 86 = .ok (.return_, 1) := by decide +kernel
theorem d_AckBook_Flow_leaveLost_57 : decode c_AckBook_Flow_leaveLost 57 = .ok (.aload_n 0, 1) := by decide +kernel
theorem d_AckBook_Flow_leaveLost_58 : decode c_AckBook_Flow_leaveLost 58 = .ok (.iload_n 2, 1) := by decide +kernel
theorem d_AckBook_Flow_leaveLost_59 : decode c_AckBook_Flow_leaveLost 59 = .ok (.putfield 18, 3) := by decide +kernel
theorem d_AckBook_Flow_leaveLost_62 : decode c_AckBook_Flow_leaveLost 62 = .ok (.aload_n 0, 1) := by decide +kernel
theorem d_AckBook_Flow_leaveLost_63 : decode c_AckBook_Flow_leaveLost 63 = .ok (.aload_n 0, 1) := by decide +kernel
theorem d_AckBook_Flow_leaveLost_64 : decode c_AckBook_Flow_leaveLost 64 = .ok (.getfield 9, 3) := by decide +kernel
theorem d_AckBook_Flow_leaveLost_67 : decode c_AckBook_Flow_leaveLost 67 = .ok (.iconst (2), 1) := by decide +kernel
theorem d_AckBook_Flow_leaveLost_68 : decode c_AckBook_Flow_leaveLost 68 = .ok (.idiv, 1) := by decide +kernel
theorem d_AckBook_Flow_leaveLost_69 : decode c_AckBook_Flow_leaveLost 69 = .ok (.putfield 15, 3) := by decide +kernel
theorem d_AckBook_Flow_leaveLost_72 : decode c_AckBook_Flow_leaveLost 72 = .ok (.aload_n 0, 1) := by decide +kernel
theorem d_AckBook_Flow_leaveLost_73 : decode c_AckBook_Flow_leaveLost 73 = .ok (.aload_n 0, 1) := by decide +kernel
theorem d_AckBook_Flow_leaveLost_74 : decode c_AckBook_Flow_leaveLost 74 = .ok (.getfield 15, 3) := by decide +kernel
theorem d_AckBook_Flow_leaveLost_77 : decode c_AckBook_Flow_leaveLost 77 = .ok (.sipush (2400), 3) := by decide +kernel
theorem d_AckBook_Flow_leaveLost_80 : decode c_AckBook_Flow_leaveLost 80 = .ok (.invokestatic 52, 3) := by decide +kernel
theorem d_AckBook_Flow_leaveLost_83 : decode c_AckBook_Flow_leaveLost 83 = .ok (.putfield 9, 3) := by decide +kernel
theorem d_AckBook_Flow_leaveLost_10 : decode c_AckBook_Flow_leaveLost 10 = .ok (.aload_n 0, 1) := by decide +kernel
theorem d_AckBook_Flow_leaveLost_11 : decode c_AckBook_Flow_leaveLost 11 = .ok (.aload 4, 2) := by decide +kernel
theorem d_AckBook_Flow_leaveLost_13 : decode c_AckBook_Flow_leaveLost 13 = .ok (.invokevirtual 36, 3) := by decide +kernel
theorem d_AckBook_Flow_leaveLost_16 : decode c_AckBook_Flow_leaveLost 16 = .ok (.iload_n 3, 1) := by decide +kernel
theorem d_AckBook_Flow_leaveLost_17 : decode c_AckBook_Flow_leaveLost 17 = .ok (.ifCond .ne (20), 3) := by decide +kernel
theorem d_AckBook_Flow_leaveLost_20 : decode c_AckBook_Flow_leaveLost 20 = .ok (.aload 4, 2) := by decide +kernel
theorem d_AckBook_Flow_leaveLost_22 : decode c_AckBook_Flow_leaveLost 22 = .ok (.getfield 21, 3) := by decide +kernel
theorem d_AckBook_Flow_leaveLost_25 : decode c_AckBook_Flow_leaveLost 25 = .ok (.ifCond .eq (16), 3) := by decide +kernel
theorem d_AckBook_Flow_leaveLost_41 : decode c_AckBook_Flow_leaveLost 41 = .ok (.iconst (0), 1) := by decide +kernel
theorem d_AckBook_Flow_leaveLost_42 : decode c_AckBook_Flow_leaveLost 42 = .ok (.istore_n 3, 1) := by decide +kernel
theorem d_AckBook_Flow_leaveLost_43 : decode c_AckBook_Flow_leaveLost 43 = .ok (.aload 4, 2) := by decide +kernel
theorem d_AckBook_Flow_leaveLost_45 : decode c_AckBook_Flow_leaveLost 45 = .ok (.getfield 48, 3) := by decide +kernel
theorem d_AckBook_Flow_leaveLost_48 : decode c_AckBook_Flow_leaveLost 48 = .ok (.astore 4, 2) := by decide +kernel
theorem d_AckBook_Flow_leaveLost_50 : decode c_AckBook_Flow_leaveLost 50 = .ok (.goto (-45), 3) := by decide +kernel
theorem d_AckBook_Flow_leaveLost_28 : decode c_AckBook_Flow_leaveLost 28 = .ok (.aload_n 0, 1) := by decide +kernel
theorem d_AckBook_Flow_leaveLost_29 : decode c_AckBook_Flow_leaveLost 29 = .ok (.aload 4, 2) := by decide +kernel
theorem d_AckBook_Flow_leaveLost_31 : decode c_AckBook_Flow_leaveLost 31 = .ok (.invokevirtual 40, 3) := by decide +kernel
theorem d_AckBook_Flow_leaveLost_34 : decode c_AckBook_Flow_leaveLost 34 = .ok (.ifCond .eq (7), 3) := by decide +kernel
theorem d_AckBook_Flow_leaveLost_37 : decode c_AckBook_Flow_leaveLost 37 = .ok (.iconst (1), 1) := by decide +kernel
theorem d_AckBook_Flow_leaveLost_38 : decode c_AckBook_Flow_leaveLost 38 = .ok (.goto (4), 3) := by decide +kernel
theorem d_AckBook_Flow_leaveLost_0 : decode c_AckBook_Flow_leaveLost 0 = .ok (.iconst (0), 1) := by decide +kernel
theorem d_AckBook_Flow_leaveLost_1 : decode c_AckBook_Flow_leaveLost 1 = .ok (.istore_n 3, 1) := by decide +kernel
theorem d_AckBook_Flow_leaveLost_2 : decode c_AckBook_Flow_leaveLost 2 = .ok (.aload_n 1, 1) := by decide +kernel
theorem d_AckBook_Flow_leaveLost_3 : decode c_AckBook_Flow_leaveLost 3 = .ok (.astore 4, 2) := by decide +kernel
theorem d_AckBook_Flow_collapse_0 : decode c_AckBook_Flow_collapse 0 = .ok (.aload_n 0, 1) := by decide +kernel
theorem d_AckBook_Flow_collapse_1 : decode c_AckBook_Flow_collapse 1 = .ok (.sipush (2400), 3) := by decide +kernel
theorem d_AckBook_Flow_collapse_4 : decode c_AckBook_Flow_collapse 4 = .ok (.putfield 9, 3) := by decide +kernel
theorem d_AckBook_Flow_collapse_7 : decode c_AckBook_Flow_collapse 7 = .ok (.aload_n 0, 1) := by decide +kernel
theorem d_AckBook_Flow_collapse_8 : decode c_AckBook_Flow_collapse 8 = .ok (.iconst (-1), 1) := by decide +kernel
theorem d_AckBook_Flow_collapse_9 : decode c_AckBook_Flow_collapse 9 = .ok (.putfield 18, 3) := by decide +kernel
theorem d_AckBook_Flow_collapse_12 : decode c_AckBook_Flow_collapse 12 = .ok (.return_, 1) := by decide +kernel
theorem d_AckBook_Packet_init_0 : decode c_AckBook_Packet_init 0 = .ok (.aload_n 0, 1) := by decide +kernel
theorem d_AckBook_Packet_init_1 : decode c_AckBook_Packet_init 1 = .ok (.invokespecial 3, 3) := by decide +kernel
theorem d_AckBook_Packet_init_4 : decode c_AckBook_Packet_init 4 = .ok (.aload_n 0, 1) := by decide +kernel
theorem d_AckBook_Packet_init_5 : decode c_AckBook_Packet_init 5 = .ok (.iload_n 1, 1) := by decide +kernel
theorem d_AckBook_Packet_init_6 : decode c_AckBook_Packet_init 6 = .ok (.putfield 9, 3) := by decide +kernel
theorem d_AckBook_Packet_init_9 : decode c_AckBook_Packet_init 9 = .ok (.aload_n 0, 1) := by decide +kernel
theorem d_AckBook_Packet_init_10 : decode c_AckBook_Packet_init 10 = .ok (.iload_n 2, 1) := by decide +kernel
theorem d_AckBook_Packet_init_11 : decode c_AckBook_Packet_init 11 = .ok (.putfield 15, 3) := by decide +kernel
theorem d_AckBook_Packet_init_14 : decode c_AckBook_Packet_init 14 = .ok (.aload_n 0, 1) := by decide +kernel
theorem d_AckBook_Packet_init_15 : decode c_AckBook_Packet_init 15 = .ok (.iload_n 3, 1) := by decide +kernel
theorem d_AckBook_Packet_init_16 : decode c_AckBook_Packet_init 16 = .ok (.putfield 18, 3) := by decide +kernel
theorem d_AckBook_Packet_init_19 : decode c_AckBook_Packet_init 19 = .ok (.aload_n 0, 1) := by decide +kernel
theorem d_AckBook_Packet_init_20 : decode c_AckBook_Packet_init 20 = .ok (.iload 4, 2) := by decide +kernel
theorem d_AckBook_Packet_init_22 : decode c_AckBook_Packet_init 22 = .ok (.putfield 21, 3) := by decide +kernel
theorem d_AckBook_Packet_init_25 : decode c_AckBook_Packet_init 25 = .ok (.aload_n 0, 1) := by decide +kernel
theorem d_AckBook_Packet_init_26 : decode c_AckBook_Packet_init 26 = .ok (.iload 5, 2) := by decide +kernel
theorem d_AckBook_Packet_init_28 : decode c_AckBook_Packet_init 28 = .ok (.putfield 25, 3) := by decide +kernel
theorem d_AckBook_Packet_init_31 : decode c_AckBook_Packet_init 31 = .ok (.aload_n 0, 1) := by decide +kernel
theorem d_AckBook_Packet_init_32 : decode c_AckBook_Packet_init 32 = .ok (.iconst (0), 1) := by decide +kernel
theorem d_AckBook_Packet_init_33 : decode c_AckBook_Packet_init 33 = .ok (.putfield 28, 3) := by decide +kernel
theorem d_AckBook_Packet_init_36 : decode c_AckBook_Packet_init 36 = .ok (.return_, 1) := by decide +kernel
theorem d_AckBook_Flow_enter_0 : decode c_AckBook_Flow_enter 0 = .ok (.aload_n 1, 1) := by decide +kernel
theorem d_AckBook_Flow_enter_1 : decode c_AckBook_Flow_enter 1 = .ok (.getfield 21, 3) := by decide +kernel
theorem d_AckBook_Flow_enter_4 : decode c_AckBook_Flow_enter 4 = .ok (.ifCond .eq (16), 3) := by decide +kernel
theorem d_AckBook_Flow_enter_20 : decode c_AckBook_Flow_enter 20 = .ok (.aload_n 1, 1) := by decide +kernel
theorem d_AckBook_Flow_enter_21 : decode c_AckBook_Flow_enter 21 = .ok (.aload_n 0, 1) := by decide +kernel
theorem d_AckBook_Flow_enter_22 : decode c_AckBook_Flow_enter 22 = .ok (.getfield 27, 3) := by decide +kernel
theorem d_AckBook_Flow_enter_25 : decode c_AckBook_Flow_enter 25 = .ok (.aload_n 0, 1) := by decide +kernel
theorem d_AckBook_Flow_enter_26 : decode c_AckBook_Flow_enter 26 = .ok (.getfield 9, 3) := by decide +kernel
theorem d_AckBook_Flow_enter_29 : decode c_AckBook_Flow_enter 29 = .ok (.sipush (1200), 3) := by decide +kernel
theorem d_AckBook_Flow_enter_32 : decode c_AckBook_Flow_enter 32 = .ok (.isub, 1) := by decide +kernel
theorem d_AckBook_Flow_enter_33 : decode c_AckBook_Flow_enter 33 = .ok (.if_icmp .le (7), 3) := by decide +kernel
theorem d_AckBook_Flow_enter_40 : decode c_AckBook_Flow_enter 40 = .ok (.iconst (0), 1) := by decide +kernel
theorem d_AckBook_Flow_enter_41 : decode c_AckBook_Flow_enter 41 = .ok (.putfield 33, 3) := by decide +kernel
theorem d_AckBook_Flow_enter_44 : decode c_AckBook_Flow_enter 44 = .ok (.return_, 1) := by decide +kernel
theorem d_AckBook_Flow_enter_36 : decode c_AckBook_Flow_enter 36 = .ok (.iconst (1), 1) := by decide +kernel
theorem d_AckBook_Flow_enter_37 : decode c_AckBook_Flow_enter 37 = .ok (.goto (4), 3) := by decide +kernel
theorem d_AckBook_Flow_enter_7 : decode c_AckBook_Flow_enter 7 = .ok (.aload_n 0, 1) := by decide +kernel
theorem d_AckBook_Flow_enter_8 : decode c_AckBook_Flow_enter 8 = .ok (.dup, 1) := by decide +kernel
theorem d_AckBook_Flow_enter_9 : decode c_AckBook_Flow_enter 9 = .ok (.getfield 27, 3) := by decide +kernel
theorem d_AckBook_Flow_enter_12 : decode c_AckBook_Flow_enter 12 = .ok (.aload_n 1, 1) := by decide +kernel
theorem d_AckBook_Flow_enter_13 : decode c_AckBook_Flow_enter 13 = .ok (.getfield 30, 3) := by decide +kernel
theorem d_AckBook_Flow_enter_16 : decode c_AckBook_Flow_enter 16 = .ok (.iadd, 1) := by decide +kernel
theorem d_AckBook_Flow_enter_17 : decode c_AckBook_Flow_enter 17 = .ok (.putfield 27, 3) := by decide +kernel
theorem d_AckBook_Claim_isBelow_0 : decode c_AckBook_Claim_isBelow 0 = .ok (.aload_n 0, 1) := by decide +kernel
theorem d_AckBook_Claim_isBelow_1 : decode c_AckBook_Claim_isBelow 1 = .ok (.getfield 18, 3) := by decide +kernel
theorem d_AckBook_Claim_isBelow_4 : decode c_AckBook_Claim_isBelow 4 = .ok (.ifCond .le (12), 3) := by decide +kernel
theorem d_AckBook_Claim_isBelow_16 : decode c_AckBook_Claim_isBelow 16 = .ok (.iconst (1), 1) := by decide +kernel
theorem d_AckBook_Claim_isBelow_17 : decode c_AckBook_Claim_isBelow 17 = .ok (.ireturn, 1) := by decide +kernel
theorem d_AckBook_Claim_isBelow_7 : decode c_AckBook_Claim_isBelow 7 = .ok (.aload_n 0, 1) := by decide +kernel
theorem d_AckBook_Claim_isBelow_8 : decode c_AckBook_Claim_isBelow 8 = .ok (.getfield 18, 3) := by decide +kernel
theorem d_AckBook_Claim_isBelow_11 : decode c_AckBook_Claim_isBelow 11 = .ok (.bipush (64), 2) := by decide +kernel
theorem d_AckBook_Claim_isBelow_13 : decode c_AckBook_Claim_isBelow 13 = .ok (.if_icmp .le (5), 3) := by decide +kernel
theorem d_AckBook_Claim_isBelow_18 : decode c_AckBook_Claim_isBelow 18 = .ok (.lload_n 1, 1) := by decide +kernel
theorem d_AckBook_Claim_isBelow_19 : decode c_AckBook_Claim_isBelow 19 = .ok (.aload_n 0, 1) := by decide +kernel
theorem d_AckBook_Claim_isBelow_20 : decode c_AckBook_Claim_isBelow 20 = .ok (.getfield 9, 3) := by decide +kernel
theorem d_AckBook_Claim_isBelow_23 : decode c_AckBook_Claim_isBelow 23 = .ok (.aload_n 0, 1) := by decide +kernel
theorem d_AckBook_Claim_isBelow_24 : decode c_AckBook_Claim_isBelow 24 = .ok (.getfield 18, 3) := by decide +kernel
theorem d_AckBook_Claim_isBelow_27 : decode c_AckBook_Claim_isBelow 27 = .ok (.iconst (1), 1) := by decide +kernel
theorem d_AckBook_Claim_isBelow_28 : decode c_AckBook_Claim_isBelow 28 = .ok (.isub, 1) := by decide +kernel
theorem d_AckBook_Claim_isBelow_29 : decode c_AckBook_Claim_isBelow 29 = .ok (.laload, 1) := by decide +kernel
theorem d_AckBook_Claim_isBelow_30 : decode c_AckBook_Claim_isBelow 30 = .ok (.lconst 1, 1) := by decide +kernel
theorem d_AckBook_Claim_isBelow_31 : decode c_AckBook_Claim_isBelow 31 = .ok (.lsub, 1) := by decide +kernel
theorem d_AckBook_Claim_isBelow_32 : decode c_AckBook_Claim_isBelow 32 = .ok (.lcmp, 1) := by decide +kernel
theorem d_AckBook_Claim_isBelow_33 : decode c_AckBook_Claim_isBelow 33 = .ok (.ifCond .ge (7), 3) := by decide +kernel
theorem d_AckBook_Claim_isBelow_40 : decode c_AckBook_Claim_isBelow 40 = .ok (.iconst (0), 1) := by decide +kernel
theorem d_AckBook_Claim_isBelow_41 : decode c_AckBook_Claim_isBelow 41 = .ok (.ireturn, 1) := by decide +kernel
theorem d_AckBook_Claim_isBelow_36 : decode c_AckBook_Claim_isBelow 36 = .ok (.iconst (1), 1) := by decide +kernel
theorem d_AckBook_Claim_isBelow_37 : decode c_AckBook_Claim_isBelow 37 = .ok (.goto (4), 3) := by decide +kernel
theorem d_AckBook_Claim_isFull_0 : decode c_AckBook_Claim_isFull 0 = .ok (.aload_n 0, 1) := by decide +kernel
theorem d_AckBook_Claim_isFull_1 : decode c_AckBook_Claim_isFull 1 = .ok (.getfield 18, 3) := by decide +kernel
end
section
theorem d_AckBook_Claim_isFull_4 : decode c_AckBook_Claim_isFull 4 = .ok (.bipush (64), 2) := by decide +kernel
theorem d_AckBook_Claim_isFull_6 : decode c_AckBook_Claim_isFull 6 = .ok (.if_icmp .lt (7), 3) := by decide +kernel
theorem d_AckBook_Claim_isFull_13 : decode c_AckBook_Claim_isFull 13 = .ok (.iconst (0), 1) := by decide +kernel
theorem d_AckBook_Claim_isFull_14 : decode c_AckBook_Claim_isFull 14 = .ok (.ireturn, 1) := by decide +kernel
theorem d_AckBook_Claim_isFull_9 : decode c_AckBook_Claim_isFull 9 = .ok (.iconst (1), 1) := by decide +kernel
theorem d_AckBook_Claim_isFull_10 : decode c_AckBook_Claim_isFull 10 = .ok (.goto (4), 3) := by decide +kernel
theorem d_AckBook_Claim_add_0 : decode c_AckBook_Claim_add 0 = .ok (.aload_n 0, 1) := by decide +kernel
theorem d_AckBook_Claim_add_1 : decode c_AckBook_Claim_add 1 = .ok (.getfield 18, 3) := by decide +kernel
theorem d_AckBook_Claim_add_4 : decode c_AckBook_Claim_add 4 = .ok (.ifCond .lt (42), 3) := by decide +kernel
theorem d_AckBook_Claim_add_46 : decode c_AckBook_Claim_add 46 = .ok (.aload_n 0, 1) := by decide +kernel
theorem d_AckBook_Claim_add_47 : decode c_AckBook_Claim_add 47 = .ok (.getfield 18, 3) := by decide +kernel
theorem d_AckBook_Claim_add_50 : decode c_AckBook_Claim_add 50 = .ok (.ireturn, 1) := by decide +kernel
theorem d_AckBook_Claim_add_7 : decode c_AckBook_Claim_add 7 = .ok (.aload_n 0, 1) := by decide +kernel
theorem d_AckBook_Claim_add_8 : decode c_AckBook_Claim_add 8 = .ok (.getfield 18, 3) := by decide +kernel
theorem d_AckBook_Claim_add_11 : decode c_AckBook_Claim_add 11 = .ok (.bipush (64), 2) := by decide +kernel
theorem d_AckBook_Claim_add_13 : decode c_AckBook_Claim_add 13 = .ok (.if_icmp .ge (33), 3) := by decide +kernel
theorem d_AckBook_Claim_add_16 : decode c_AckBook_Claim_add 16 = .ok (.aload_n 0, 1) := by decide +kernel
theorem d_AckBook_Claim_add_17 : decode c_AckBook_Claim_add 17 = .ok (.getfield 9, 3) := by decide +kernel
theorem d_AckBook_Claim_add_20 : decode c_AckBook_Claim_add 20 = .ok (.aload_n 0, 1) := by decide +kernel
theorem d_AckBook_Claim_add_21 : decode c_AckBook_Claim_add 21 = .ok (.getfield 18, 3) := by decide +kernel
theorem d_AckBook_Claim_add_24 : decode c_AckBook_Claim_add 24 = .ok (.lload_n 1, 1) := by decide +kernel
theorem d_AckBook_Claim_add_25 : decode c_AckBook_Claim_add 25 = .ok (.lastore, 1) := by decide +kernel
theorem d_AckBook_Claim_add_26 : decode c_AckBook_Claim_add 26 = .ok (.aload_n 0, 1) := by decide +kernel
theorem d_AckBook_Claim_add_27 : decode c_AckBook_Claim_add 27 = .ok (.getfield 15, 3) := by decide +kernel
theorem d_AckBook_Claim_add_30 : decode c_AckBook_Claim_add 30 = .ok (.aload_n 0, 1) := by decide +kernel
theorem d_AckBook_Claim_add_31 : decode c_AckBook_Claim_add 31 = .ok (.getfield 18, 3) := by decide +kernel
theorem d_AckBook_Claim_add_34 : decode c_AckBook_Claim_add 34 = .ok (.lload_n 3, 1) := by decide +kernel
theorem d_AckBook_Claim_add_35 : decode c_AckBook_Claim_add 35 = .ok (.lastore, 1) := by decide +kernel
theorem d_AckBook_Claim_add_36 : decode c_AckBook_Claim_add 36 = .ok (.aload_n 0, 1) := by decide +kernel
theorem d_AckBook_Claim_add_37 : decode c_AckBook_Claim_add 37 = .ok (.dup, 1) := by decide +kernel
theorem d_AckBook_Claim_add_38 : decode c_AckBook_Claim_add 38 = .ok (.getfield 18, 3) := by decide +kernel
theorem d_AckBook_Claim_add_41 : decode c_AckBook_Claim_add 41 = .ok (.iconst (1), 1) := by decide +kernel
theorem d_AckBook_Claim_add_42 : decode c_AckBook_Claim_add 42 = .ok (.iadd, 1) := by decide +kernel
theorem d_AckBook_Claim_add_43 : decode c_AckBook_Claim_add 43 = .ok (.putfield 18, 3) := by decide +kernel
theorem d_AckBook_Claim_close_0 : decode c_AckBook_Claim_close 0 = .ok (.aload_n 0, 1) := by decide +kernel
theorem d_AckBook_Claim_close_1 : decode c_AckBook_Claim_close 1 = .ok (.aload_n 0, 1) := by decide +kernel
theorem d_AckBook_Claim_close_2 : decode c_AckBook_Claim_close 2 = .ok (.getfield 18, 3) := by decide +kernel
theorem d_AckBook_Claim_close_5 : decode c_AckBook_Claim_close 5 = .ok (.putfield 22, 3) := by decide +kernel
theorem d_AckBook_Claim_close_8 : decode c_AckBook_Claim_close 8 = .ok (.aload_n 0, 1) := by decide +kernel
theorem d_AckBook_Claim_close_9 : decode c_AckBook_Claim_close 9 = .ok (.iconst (0), 1) := by decide +kernel
theorem d_AckBook_Claim_close_10 : decode c_AckBook_Claim_close 10 = .ok (.putfield 18, 3) := by decide +kernel
theorem d_AckBook_Claim_close_13 : decode c_AckBook_Claim_close 13 = .ok (.return_, 1) := by decide +kernel
theorem d_AckBook_Claim_greatest_0 : decode c_AckBook_Claim_greatest 0 = .ok (.aload_n 0, 1) := by decide +kernel
theorem d_AckBook_Claim_greatest_1 : decode c_AckBook_Claim_greatest 1 = .ok (.getfield 22, 3) := by decide +kernel
theorem d_AckBook_Claim_greatest_4 : decode c_AckBook_Claim_greatest 4 = .ok (.ifCond .ne (9), 3) := by decide +kernel
theorem d_AckBook_Claim_greatest_7 : decode c_AckBook_Claim_greatest 7 = .ok (.ldc2_w 25, 3) := by decide +kernel
theorem d_AckBook_Claim_greatest_10 : decode c_AckBook_Claim_greatest 10 = .ok (.goto (9), 3) := by decide +kernel
theorem d_AckBook_Claim_greatest_19 : decode c_AckBook_Claim_greatest 19 = .ok (.lreturn, 1) := by decide +kernel
theorem d_AckBook_Claim_greatest_13 : decode c_AckBook_Claim_greatest 13 = .ok (.aload_n 0, 1) := by decide +kernel
theorem d_AckBook_Claim_greatest_14 : decode c_AckBook_Claim_greatest 14 = .ok (.getfield 15, 3) := by decide +kernel
theorem d_AckBook_Claim_greatest_17 : decode c_AckBook_Claim_greatest 17 = .ok (.iconst (0), 1) := by decide +kernel
theorem d_AckBook_Claim_greatest_18 : decode c_AckBook_Claim_greatest 18 = .ok (.laload, 1) := by decide +kernel
theorem d_AckBook_Claim_high_0 : decode c_AckBook_Claim_high 0 = .ok (.iload_n 1, 1) := by decide +kernel
theorem d_AckBook_Claim_high_1 : decode c_AckBook_Claim_high 1 = .ok (.ifCond .lt (18), 3) := by decide +kernel
theorem d_AckBook_Claim_high_19 : decode c_AckBook_Claim_high 19 = .ok (.ldc2_w 25, 3) := by decide +kernel
theorem d_AckBook_Claim_high_22 : decode c_AckBook_Claim_high 22 = .ok (.lreturn, 1) := by decide +kernel
theorem d_AckBook_Claim_high_4 : decode c_AckBook_Claim_high 4 = .ok (.iload_n 1, 1) := by decide +kernel
theorem d_AckBook_Claim_high_5 : decode c_AckBook_Claim_high 5 = .ok (.bipush (64), 2) := by decide +kernel
theorem d_AckBook_Claim_high_7 : decode c_AckBook_Claim_high 7 = .ok (.if_icmp .ge (12), 3) := by decide +kernel
theorem d_AckBook_Claim_high_10 : decode c_AckBook_Claim_high 10 = .ok (.aload_n 0, 1) := by decide +kernel
theorem d_AckBook_Claim_high_11 : decode c_AckBook_Claim_high 11 = .ok (.getfield 15, 3) := by decide +kernel
theorem d_AckBook_Claim_high_14 : decode c_AckBook_Claim_high 14 = .ok (.iload_n 1, 1) := by decide +kernel
theorem d_AckBook_Claim_high_15 : decode c_AckBook_Claim_high 15 = .ok (.laload, 1) := by decide +kernel
theorem d_AckBook_Claim_high_16 : decode c_AckBook_Claim_high 16 = .ok (.goto (6), 3) := by decide +kernel
theorem d_AckBook_Claim_low_0 : decode c_AckBook_Claim_low 0 = .ok (.iload_n 1, 1) := by decide +kernel
theorem d_AckBook_Claim_low_1 : decode c_AckBook_Claim_low 1 = .ok (.ifCond .lt (18), 3) := by decide +kernel
theorem d_AckBook_Claim_low_19 : decode c_AckBook_Claim_low 19 = .ok (.ldc2_w 25, 3) := by decide +kernel
theorem d_AckBook_Claim_low_22 : decode c_AckBook_Claim_low 22 = .ok (.lreturn, 1) := by decide +kernel
theorem d_AckBook_Claim_low_4 : decode c_AckBook_Claim_low 4 = .ok (.iload_n 1, 1) := by decide +kernel
theorem d_AckBook_Claim_low_5 : decode c_AckBook_Claim_low 5 = .ok (.bipush (64), 2) := by decide +kernel
theorem d_AckBook_Claim_low_7 : decode c_AckBook_Claim_low 7 = .ok (.if_icmp .ge (12), 3) := by decide +kernel
theorem d_AckBook_Claim_low_10 : decode c_AckBook_Claim_low 10 = .ok (.aload_n 0, 1) := by decide +kernel
theorem d_AckBook_Claim_low_11 : decode c_AckBook_Claim_low 11 = .ok (.getfield 9, 3) := by decide +kernel
theorem d_AckBook_Claim_low_14 : decode c_AckBook_Claim_low 14 = .ok (.iload_n 1, 1) := by decide +kernel
theorem d_AckBook_Claim_low_15 : decode c_AckBook_Claim_low 15 = .ok (.laload, 1) := by decide +kernel
theorem d_AckBook_Claim_low_16 : decode c_AckBook_Claim_low 16 = .ok (.goto (6), 3) := by decide +kernel
theorem d_AckBook_Way_take_0 : decode c_AckBook_Way_take 0 = .ok (.aload_n 0, 1) := by decide +kernel
theorem d_AckBook_Way_take_1 : decode c_AckBook_Way_take 1 = .ok (.iload_n 1, 1) := by decide +kernel
theorem d_AckBook_Way_take_2 : decode c_AckBook_Way_take 2 = .ok (.putfield 24, 3) := by decide +kernel
theorem d_AckBook_Way_take_5 : decode c_AckBook_Way_take 5 = .ok (.aload_n 0, 1) := by decide +kernel
theorem d_AckBook_Way_take_6 : decode c_AckBook_Way_take 6 = .ok (.aload_n 0, 1) := by decide +kernel
theorem d_AckBook_Way_take_7 : decode c_AckBook_Way_take 7 = .ok (.getfield 18, 3) := by decide +kernel
theorem d_AckBook_Way_take_10 : decode c_AckBook_Way_take 10 = .ok (.iconst (-1), 1) := by decide +kernel
theorem d_AckBook_Way_take_11 : decode c_AckBook_Way_take 11 = .ok (.if_icmp .ne (7), 3) := by decide +kernel
theorem d_AckBook_Way_take_14 : decode c_AckBook_Way_take 14 = .ok (.iload_n 1, 1) := by decide +kernel
theorem d_AckBook_Way_take_15 : decode c_AckBook_Way_take 15 = .ok (.goto (11), 3) := by decide +kernel
theorem d_AckBook_Way_take_26 : decode c_AckBook_Way_take 26 = .ok (.putfield 18, 3) := by decide +kernel
theorem d_AckBook_Way_take_29 : decode c_AckBook_Way_take 29 = .ok (.aload_n 0, 1) := by decide +kernel
theorem d_AckBook_Way_take_30 : decode c_AckBook_Way_take 30 = .ok (.getfield 21, 3) := by decide +kernel
theorem d_AckBook_Way_take_33 : decode c_AckBook_Way_take 33 = .ok (.iconst (-1), 1) := by decide +kernel
theorem d_AckBook_Way_take_34 : decode c_AckBook_Way_take 34 = .ok (.if_icmp .ne (24), 3) := by decide +kernel
theorem d_AckBook_Way_take_37 : decode c_AckBook_Way_take 37 = .ok (.aload_n 0, 1) := by decide +kernel
theorem d_AckBook_Way_take_38 : decode c_AckBook_Way_take 38 = .ok (.iload_n 3, 1) := by decide +kernel
theorem d_AckBook_Way_take_39 : decode c_AckBook_Way_take 39 = .ok (.putfield 21, 3) := by decide +kernel
theorem d_AckBook_Way_take_42 : decode c_AckBook_Way_take 42 = .ok (.aload_n 0, 1) := by decide +kernel
theorem d_AckBook_Way_take_43 : decode c_AckBook_Way_take 43 = .ok (.bipush (8), 2) := by decide +kernel
theorem d_AckBook_Way_take_45 : decode c_AckBook_Way_take 45 = .ok (.iload_n 1, 1) := by decide +kernel
theorem d_AckBook_Way_take_46 : decode c_AckBook_Way_take 46 = .ok (.imul, 1) := by decide +kernel
theorem d_AckBook_Way_take_47 : decode c_AckBook_Way_take 47 = .ok (.putfield 9, 3) := by decide +kernel
theorem d_AckBook_Way_take_50 : decode c_AckBook_Way_take 50 = .ok (.aload_n 0, 1) := by decide +kernel
theorem d_AckBook_Way_take_51 : decode c_AckBook_Way_take 51 = .ok (.iconst (2), 1) := by decide +kernel
theorem d_AckBook_Way_take_52 : decode c_AckBook_Way_take 52 = .ok (.iload_n 1, 1) := by decide +kernel
theorem d_AckBook_Way_take_53 : decode c_AckBook_Way_take 53 = .ok (.imul, 1) := by decide +kernel
theorem d_AckBook_Way_take_54 : decode c_AckBook_Way_take 54 = .ok (.putfield 15, 3) := by decide +kernel
theorem d_AckBook_Way_take_57 : decode c_AckBook_Way_take 57 = .ok (.return_, 1) := by decide +kernel
theorem d_AckBook_Way_take_58 : decode c_AckBook_Way_take 58 = .ok (.iload_n 1, 1) := by decide +kernel
theorem d_AckBook_Way_take_59 : decode c_AckBook_Way_take 59 = .ok (.aload_n 0, 1) := by decide +kernel
theorem d_AckBook_Way_take_60 : decode c_AckBook_Way_take 60 = .ok (.getfield 18, 3) := by decide +kernel
theorem d_AckBook_Way_take_63 : decode c_AckBook_Way_take 63 = .ok (.iload_n 2, 1) := by decide +kernel
theorem d_AckBook_Way_take_64 : decode c_AckBook_Way_take 64 = .ok (.iadd, 1) := by decide +kernel
theorem d_AckBook_Way_take_65 : decode c_AckBook_Way_take 65 = .ok (.if_icmp .lt (9), 3) := by decide +kernel
theorem d_AckBook_Way_take_74 : decode c_AckBook_Way_take 74 = .ok (.iload_n 1, 1) := by decide +kernel
theorem d_AckBook_Way_take_75 : decode c_AckBook_Way_take 75 = .ok (.istore 4, 2) := by decide +kernel
theorem d_AckBook_Way_take_77 : decode c_AckBook_Way_take 77 = .ok (.aload_n 0, 1) := by decide +kernel
theorem d_AckBook_Way_take_78 : decode c_AckBook_Way_take 78 = .ok (.getfield 9, 3) := by decide +kernel
theorem d_AckBook_Way_take_81 : decode c_AckBook_Way_take 81 = .ok (.bipush (8), 2) := by decide +kernel
theorem d_AckBook_Way_take_83 : decode c_AckBook_Way_take 83 = .ok (.idiv, 1) := by decide +kernel
theorem d_AckBook_Way_take_84 : decode c_AckBook_Way_take 84 = .ok (.iload 4, 2) := by decide +kernel
theorem d_AckBook_Way_take_86 : decode c_AckBook_Way_take 86 = .ok (.isub, 1) := by decide +kernel
theorem d_AckBook_Way_take_87 : decode c_AckBook_Way_take 87 = .ok (.invokestatic 33, 3) := by decide +kernel
end
section
theorem d_AckBook_Way_take_90 : decode c_AckBook_Way_take 90 = .ok (.istore 5, 2) := by decide +kernel
theorem d_AckBook_Way_take_92 : decode c_AckBook_Way_take 92 = .ok (.aload_n 0, 1) := by decide +kernel
theorem d_AckBook_Way_take_93 : decode c_AckBook_Way_take 93 = .ok (.dup, 1) := by decide +kernel
theorem d_AckBook_Way_take_94 : decode c_AckBook_Way_take 94 = .ok (.getfield 15, 3) := by decide +kernel
theorem d_AckBook_Way_take_97 : decode c_AckBook_Way_take 97 = .ok (.iload 5, 2) := by decide +kernel
theorem d_AckBook_Way_take_99 : decode c_AckBook_Way_take 99 = .ok (.aload_n 0, 1) := by decide +kernel
theorem d_AckBook_Way_take_100 : decode c_AckBook_Way_take 100 = .ok (.getfield 15, 3) := by decide +kernel
theorem d_AckBook_Way_take_103 : decode c_AckBook_Way_take 103 = .ok (.iconst (4), 1) := by decide +kernel
theorem d_AckBook_Way_take_104 : decode c_AckBook_Way_take 104 = .ok (.idiv, 1) := by decide +kernel
theorem d_AckBook_Way_take_105 : decode c_AckBook_Way_take 105 = .ok (.isub, 1) := by decide +kernel
theorem d_AckBook_Way_take_106 : decode c_AckBook_Way_take 106 = .ok (.iadd, 1) := by decide +kernel
theorem d_AckBook_Way_take_107 : decode c_AckBook_Way_take 107 = .ok (.putfield 15, 3) := by decide +kernel
theorem d_AckBook_Way_take_110 : decode c_AckBook_Way_take 110 = .ok (.aload_n 0, 1) := by decide +kernel
theorem d_AckBook_Way_take_111 : decode c_AckBook_Way_take 111 = .ok (.dup, 1) := by decide +kernel
theorem d_AckBook_Way_take_112 : decode c_AckBook_Way_take 112 = .ok (.getfield 9, 3) := by decide +kernel
theorem d_AckBook_Way_take_115 : decode c_AckBook_Way_take 115 = .ok (.iload 4, 2) := by decide +kernel
theorem d_AckBook_Way_take_117 : decode c_AckBook_Way_take 117 = .ok (.aload_n 0, 1) := by decide +kernel
theorem d_AckBook_Way_take_118 : decode c_AckBook_Way_take 118 = .ok (.getfield 9, 3) := by decide +kernel
theorem d_AckBook_Way_take_121 : decode c_AckBook_Way_take 121 = .ok (.bipush (8), 2) := by decide +kernel
theorem d_AckBook_Way_take_123 : decode c_AckBook_Way_take 123 = .ok (.idiv, 1) := by decide +kernel
theorem d_AckBook_Way_take_124 : decode c_AckBook_Way_take 124 = .ok (.isub, 1) := by decide +kernel
theorem d_AckBook_Way_take_125 : decode c_AckBook_Way_take 125 = .ok (.iadd, 1) := by decide +kernel
theorem d_AckBook_Way_take_126 : decode c_AckBook_Way_take 126 = .ok (.putfield 9, 3) := by decide +kernel
theorem d_AckBook_Way_take_129 : decode c_AckBook_Way_take 129 = .ok (.return_, 1) := by decide +kernel
theorem d_AckBook_Way_take_68 : decode c_AckBook_Way_take 68 = .ok (.iload_n 1, 1) := by decide +kernel
theorem d_AckBook_Way_take_69 : decode c_AckBook_Way_take 69 = .ok (.iload_n 2, 1) := by decide +kernel
theorem d_AckBook_Way_take_70 : decode c_AckBook_Way_take 70 = .ok (.isub, 1) := by decide +kernel
theorem d_AckBook_Way_take_71 : decode c_AckBook_Way_take 71 = .ok (.goto (4), 3) := by decide +kernel
theorem d_AckBook_Way_take_18 : decode c_AckBook_Way_take 18 = .ok (.aload_n 0, 1) := by decide +kernel
theorem d_AckBook_Way_take_19 : decode c_AckBook_Way_take 19 = .ok (.getfield 18, 3) := by decide +kernel
theorem d_AckBook_Way_take_22 : decode c_AckBook_Way_take 22 = .ok (.iload_n 1, 1) := by decide +kernel
theorem d_AckBook_Way_take_23 : decode c_AckBook_Way_take 23 = .ok (.invokestatic 27, 3) := by decide +kernel
theorem d_AckBook_Flow_grow_0 : decode c_AckBook_Flow_grow 0 = .ok (.aload_n 0, 1) := by decide +kernel
theorem d_AckBook_Flow_grow_1 : decode c_AckBook_Flow_grow 1 = .ok (.getfield 15, 3) := by decide +kernel
theorem d_AckBook_Flow_grow_4 : decode c_AckBook_Flow_grow 4 = .ok (.iconst (-1), 1) := by decide +kernel
theorem d_AckBook_Flow_grow_5 : decode c_AckBook_Flow_grow 5 = .ok (.if_icmp .eq (14), 3) := by decide +kernel
theorem d_AckBook_Flow_grow_19 : decode c_AckBook_Flow_grow 19 = .ok (.aload_n 0, 1) := by decide +kernel
theorem d_AckBook_Flow_grow_20 : decode c_AckBook_Flow_grow 20 = .ok (.dup, 1) := by decide +kernel
theorem d_AckBook_Flow_grow_21 : decode c_AckBook_Flow_grow 21 = .ok (.getfield 9, 3) := by decide +kernel
theorem d_AckBook_Flow_grow_24 : decode c_AckBook_Flow_grow 24 = .ok (.iload_n 1, 1) := by decide +kernel
theorem d_AckBook_Flow_grow_25 : decode c_AckBook_Flow_grow 25 = .ok (.iadd, 1) := by decide +kernel
theorem d_AckBook_Flow_grow_26 : decode c_AckBook_Flow_grow 26 = .ok (.putfield 9, 3) := by decide +kernel
theorem d_AckBook_Flow_grow_29 : decode c_AckBook_Flow_grow 29 = .ok (.goto (29), 3) := by decide +kernel
theorem d_AckBook_Flow_grow_58 : decode c_AckBook_Flow_grow 58 = .ok (.return_, 1) := by decide +kernel
theorem d_AckBook_Flow_grow_8 : decode c_AckBook_Flow_grow 8 = .ok (.aload_n 0, 1) := by decide +kernel
theorem d_AckBook_Flow_grow_9 : decode c_AckBook_Flow_grow 9 = .ok (.getfield 9, 3) := by decide +kernel
theorem d_AckBook_Flow_grow_12 : decode c_AckBook_Flow_grow 12 = .ok (.aload_n 0, 1) := by decide +kernel
theorem d_AckBook_Flow_grow_13 : decode c_AckBook_Flow_grow 13 = .ok (.getfield 15, 3) := by decide +kernel
theorem d_AckBook_Flow_grow_16 : decode c_AckBook_Flow_grow 16 = .ok (.if_icmp .ge (16), 3) := by decide +kernel
theorem d_AckBook_Flow_grow_32 : decode c_AckBook_Flow_grow 32 = .ok (.aload_n 0, 1) := by decide +kernel
theorem d_AckBook_Flow_grow_33 : decode c_AckBook_Flow_grow 33 = .ok (.getfield 9, 3) := by decide +kernel
theorem d_AckBook_Flow_grow_36 : decode c_AckBook_Flow_grow 36 = .ok (.ifCond .le (22), 3) := by decide +kernel
theorem d_AckBook_Flow_grow_39 : decode c_AckBook_Flow_grow 39 = .ok (.aload_n 0, 1) := by decide +kernel
theorem d_AckBook_Flow_grow_40 : decode c_AckBook_Flow_grow 40 = .ok (.dup, 1) := by decide +kernel
theorem d_AckBook_Flow_grow_41 : decode c_AckBook_Flow_grow 41 = .ok (.getfield 9, 3) := by decide +kernel
theorem d_AckBook_Flow_grow_44 : decode c_AckBook_Flow_grow 44 = .ok (.sipush (1200), 3) := by decide +kernel
theorem d_AckBook_Flow_grow_47 : decode c_AckBook_Flow_grow 47 = .ok (.iload_n 1, 1) := by decide +kernel
theorem d_AckBook_Flow_grow_48 : decode c_AckBook_Flow_grow 48 = .ok (.imul, 1) := by decide +kernel
theorem d_AckBook_Flow_grow_49 : decode c_AckBook_Flow_grow 49 = .ok (.aload_n 0, 1) := by decide +kernel
theorem d_AckBook_Flow_grow_50 : decode c_AckBook_Flow_grow 50 = .ok (.getfield 9, 3) := by decide +kernel
theorem d_AckBook_Flow_grow_53 : decode c_AckBook_Flow_grow 53 = .ok (.idiv, 1) := by decide +kernel
theorem d_AckBook_Flow_grow_54 : decode c_AckBook_Flow_grow 54 = .ok (.iadd, 1) := by decide +kernel
theorem d_AckBook_Flow_grow_55 : decode c_AckBook_Flow_grow 55 = .ok (.putfield 9, 3) := by decide +kernel
theorem d_AckBook_Flow_leaveAcknowledged_4 : decode c_AckBook_Flow_leaveAcknowledged 4 = .ok (.aload_n 3, 1) := by decide +kernel
theorem d_AckBook_Flow_leaveAcknowledged_5 : decode c_AckBook_Flow_leaveAcknowledged 5 = .ok (.ifnull (49), 3) := by decide +kernel
theorem d_AckBook_Flow_leaveAcknowledged_54 : decode c_AckBook_Flow_leaveAcknowledged 54 = .ok (.iload_n 2, 1) := by decide +kernel
theorem d_AckBook_Flow_leaveAcknowledged_55 : decode c_AckBook_Flow_leaveAcknowledged 55 = .ok (.ireturn, 1) := by decide +kernel
theorem d_AckBook_Flow_leaveAcknowledged_8 : decode c_AckBook_Flow_leaveAcknowledged 8 = .ok (.iinc 2 (1), 3) := by decide +kernel
theorem d_AckBook_Flow_leaveAcknowledged_11 : decode c_AckBook_Flow_leaveAcknowledged 11 = .ok (.aload_n 0, 1) := by decide +kernel
theorem d_AckBook_Flow_leaveAcknowledged_12 : decode c_AckBook_Flow_leaveAcknowledged 12 = .ok (.aload_n 3, 1) := by decide +kernel
theorem d_AckBook_Flow_leaveAcknowledged_13 : decode c_AckBook_Flow_leaveAcknowledged 13 = .ok (.invokevirtual 36, 3) := by decide +kernel
theorem d_AckBook_Flow_leaveAcknowledged_16 : decode c_AckBook_Flow_leaveAcknowledged 16 = .ok (.aload_n 3, 1) := by decide +kernel
theorem d_AckBook_Flow_leaveAcknowledged_17 : decode c_AckBook_Flow_leaveAcknowledged 17 = .ok (.getfield 21, 3) := by decide +kernel
theorem d_AckBook_Flow_leaveAcknowledged_20 : decode c_AckBook_Flow_leaveAcknowledged 20 = .ok (.ifCond .eq (26), 3) := by decide +kernel
theorem d_AckBook_Flow_leaveAcknowledged_46 : decode c_AckBook_Flow_leaveAcknowledged 46 = .ok (.aload_n 3, 1) := by decide +kernel
theorem d_AckBook_Flow_leaveAcknowledged_47 : decode c_AckBook_Flow_leaveAcknowledged 47 = .ok (.getfield 48, 3) := by decide +kernel
theorem d_AckBook_Flow_leaveAcknowledged_50 : decode c_AckBook_Flow_leaveAcknowledged 50 = .ok (.astore_n 3, 1) := by decide +kernel
theorem d_AckBook_Flow_leaveAcknowledged_51 : decode c_AckBook_Flow_leaveAcknowledged 51 = .ok (.goto (-47), 3) := by decide +kernel
theorem d_AckBook_Flow_leaveAcknowledged_23 : decode c_AckBook_Flow_leaveAcknowledged 23 = .ok (.aload_n 3, 1) := by decide +kernel
theorem d_AckBook_Flow_leaveAcknowledged_24 : decode c_AckBook_Flow_leaveAcknowledged 24 = .ok (.getfield 33, 3) := by decide +kernel
theorem d_AckBook_Flow_leaveAcknowledged_27 : decode c_AckBook_Flow_leaveAcknowledged 27 = .ok (.ifCond .eq (19), 3) := by decide +kernel
theorem d_AckBook_Flow_leaveAcknowledged_30 : decode c_AckBook_Flow_leaveAcknowledged 30 = .ok (.aload_n 0, 1) := by decide +kernel
theorem d_AckBook_Flow_leaveAcknowledged_31 : decode c_AckBook_Flow_leaveAcknowledged 31 = .ok (.aload_n 3, 1) := by decide +kernel
theorem d_AckBook_Flow_leaveAcknowledged_32 : decode c_AckBook_Flow_leaveAcknowledged 32 = .ok (.invokevirtual 40, 3) := by decide +kernel
theorem d_AckBook_Flow_leaveAcknowledged_35 : decode c_AckBook_Flow_leaveAcknowledged 35 = .ok (.ifCond .eq (11), 3) := by decide +kernel
theorem d_AckBook_Flow_leaveAcknowledged_38 : decode c_AckBook_Flow_leaveAcknowledged 38 = .ok (.aload_n 0, 1) := by decide +kernel
theorem d_AckBook_Flow_leaveAcknowledged_39 : decode c_AckBook_Flow_leaveAcknowledged 39 = .ok (.aload_n 3, 1) := by decide +kernel
theorem d_AckBook_Flow_leaveAcknowledged_40 : decode c_AckBook_Flow_leaveAcknowledged 40 = .ok (.getfield 30, 3) := by decide +kernel
theorem d_AckBook_Flow_leaveAcknowledged_43 : decode c_AckBook_Flow_leaveAcknowledged 43 = .ok (.invokevirtual 44, 3) := by decide +kernel
theorem d_AckBook_Flow_leaveAcknowledged_0 : decode c_AckBook_Flow_leaveAcknowledged 0 = .ok (.iconst (0), 1) := by decide +kernel
theorem d_AckBook_Flow_leaveAcknowledged_1 : decode c_AckBook_Flow_leaveAcknowledged 1 = .ok (.istore_n 2, 1) := by decide +kernel
theorem d_AckBook_Flow_leaveAcknowledged_2 : decode c_AckBook_Flow_leaveAcknowledged 2 = .ok (.aload_n 1, 1) := by decide +kernel
theorem d_AckBook_Flow_leaveAcknowledged_3 : decode c_AckBook_Flow_leaveAcknowledged 3 = .ok (.astore_n 3, 1) := by decide +kernel
theorem d_AckBook_Chain_clear_0 : decode c_AckBook_Chain_clear 0 = .ok (.aload_n 0, 1) := by decide +kernel
theorem d_AckBook_Chain_clear_1 : decode c_AckBook_Chain_clear 1 = .ok (.aconst_null, 1) := by decide +kernel
theorem d_AckBook_Chain_clear_2 : decode c_AckBook_Chain_clear 2 = .ok (.putfield 9, 3) := by decide +kernel
theorem d_AckBook_Chain_clear_5 : decode c_AckBook_Chain_clear 5 = .ok (.return_, 1) := by decide +kernel
theorem d_AckBook_Arrivals_forget_0 : decode c_AckBook_Arrivals_forget 0 = .ok (.aload_n 0, 1) := by decide +kernel
theorem d_AckBook_Arrivals_forget_1 : decode c_AckBook_Arrivals_forget 1 = .ok (.iconst (0), 1) := by decide +kernel
theorem d_AckBook_Arrivals_forget_2 : decode c_AckBook_Arrivals_forget 2 = .ok (.putfield 26, 3) := by decide +kernel
theorem d_AckBook_Arrivals_forget_5 : decode c_AckBook_Arrivals_forget 5 = .ok (.aload_n 0, 1) := by decide +kernel
theorem d_AckBook_Arrivals_forget_6 : decode c_AckBook_Arrivals_forget 6 = .ok (.lconst 0, 1) := by decide +kernel
theorem d_AckBook_Arrivals_forget_7 : decode c_AckBook_Arrivals_forget 7 = .ok (.putfield 22, 3) := by decide +kernel
theorem d_AckBook_Arrivals_forget_10 : decode c_AckBook_Arrivals_forget 10 = .ok (.aload_n 0, 1) := by decide +kernel
theorem d_AckBook_Arrivals_forget_11 : decode c_AckBook_Arrivals_forget 11 = .ok (.iconst (0), 1) := by decide +kernel
theorem d_AckBook_Arrivals_forget_12 : decode c_AckBook_Arrivals_forget 12 = .ok (.putfield 50, 3) := by decide +kernel
theorem d_AckBook_Arrivals_forget_15 : decode c_AckBook_Arrivals_forget 15 = .ok (.aload_n 0, 1) := by decide +kernel
theorem d_AckBook_Arrivals_forget_16 : decode c_AckBook_Arrivals_forget 16 = .ok (.iconst (0), 1) := by decide +kernel
theorem d_AckBook_Arrivals_forget_17 : decode c_AckBook_Arrivals_forget 17 = .ok (.putfield 56, 3) := by decide +kernel
theorem d_AckBook_Arrivals_forget_20 : decode c_AckBook_Arrivals_forget 20 = .ok (.return_, 1) := by decide +kernel
theorem d_AckBook_Chain_removeFirst_0 : decode c_AckBook_Chain_removeFirst 0 = .ok (.aload_n 0, 1) := by decide +kernel
theorem d_AckBook_Chain_removeFirst_1 : decode c_AckBook_Chain_removeFirst 1 = .ok (.getfield 9, 3) := by decide +kernel
theorem d_AckBook_Chain_removeFirst_4 : decode c_AckBook_Chain_removeFirst 4 = .ok (.ifnonnull (5), 3) := by decide +kernel
theorem d_AckBook_Chain_removeFirst_7 : decode c_AckBook_Chain_removeFirst 7 = .ok (.iconst (-1), 1) := by decide +kernel
theorem d_AckBook_Chain_removeFirst_8 : decode c_AckBook_Chain_removeFirst 8 = .ok (.ireturn, 1) := by decide +kernel
theorem d_AckBook_Chain_removeFirst_9 : decode c_AckBook_Chain_removeFirst 9 = .ok (.aload_n 0, 1) := by decide +kernel
theorem d_AckBook_Chain_removeFirst_10 : decode c_AckBook_Chain_removeFirst 10 = .ok (.getfield 9, 3) := by decide +kernel
theorem d_AckBook_Chain_removeFirst_13 : decode c_AckBook_Chain_removeFirst 13 = .ok (.getfield 23, 3) := by decide +kernel
theorem d_AckBook_Chain_removeFirst_16 : decode c_AckBook_Chain_removeFirst 16 = .ok (.istore_n 1, 1) := by decide +kernel
theorem d_AckBook_Chain_removeFirst_17 : decode c_AckBook_Chain_removeFirst 17 = .ok (.aload_n 0, 1) := by decide +kernel
end
section
theorem d_AckBook_Chain_removeFirst_18 : decode c_AckBook_Chain_removeFirst 18 = .ok (.aload_n 0, 1) := by decide +kernel
theorem d_AckBook_Chain_removeFirst_19 : decode c_AckBook_Chain_removeFirst 19 = .ok (.getfield 9, 3) := by decide +kernel
theorem d_AckBook_Chain_removeFirst_22 : decode c_AckBook_Chain_removeFirst 22 = .ok (.getfield 18, 3) := by decide +kernel
theorem d_AckBook_Chain_removeFirst_25 : decode c_AckBook_Chain_removeFirst 25 = .ok (.putfield 9, 3) := by decide +kernel
theorem d_AckBook_Chain_removeFirst_28 : decode c_AckBook_Chain_removeFirst 28 = .ok (.iload_n 1, 1) := by decide +kernel
theorem d_AckBook_Chain_removeFirst_29 : decode c_AckBook_Chain_removeFirst 29 = .ok (.ireturn, 1) := by decide +kernel
theorem d_AckBook_Arrivals_firstNotAbove_2 : decode c_AckBook_Arrivals_firstNotAbove 2 = .ok (.iload_n 3, 1) := by decide +kernel
theorem d_AckBook_Arrivals_firstNotAbove_3 : decode c_AckBook_Arrivals_firstNotAbove 3 = .ok (.aload_n 0, 1) := by decide +kernel
theorem d_AckBook_Arrivals_firstNotAbove_4 : decode c_AckBook_Arrivals_firstNotAbove 4 = .ok (.getfield 26, 3) := by decide +kernel
theorem d_AckBook_Arrivals_firstNotAbove_7 : decode c_AckBook_Arrivals_firstNotAbove 7 = .ok (.if_icmp .ge (31), 3) := by decide +kernel
theorem d_AckBook_Arrivals_firstNotAbove_38 : decode c_AckBook_Arrivals_firstNotAbove 38 = .ok (.aload_n 0, 1) := by decide +kernel
theorem d_AckBook_Arrivals_firstNotAbove_39 : decode c_AckBook_Arrivals_firstNotAbove 39 = .ok (.getfield 26, 3) := by decide +kernel
theorem d_AckBook_Arrivals_firstNotAbove_42 : decode c_AckBook_Arrivals_firstNotAbove 42 = .ok (.ireturn, 1) := by decide +kernel
theorem d_AckBook_Arrivals_firstNotAbove_10 : decode c_AckBook_Arrivals_firstNotAbove 10 = .ok (.iload_n 3, 1) := by decide +kernel
theorem d_AckBook_Arrivals_firstNotAbove_11 : decode c_AckBook_Arrivals_firstNotAbove 11 = .ok (.aload_n 0, 1) := by decide +kernel
theorem d_AckBook_Arrivals_firstNotAbove_12 : decode c_AckBook_Arrivals_firstNotAbove 12 = .ok (.getfield 9, 3) := by decide +kernel
theorem d_AckBook_Arrivals_firstNotAbove_15 : decode c_AckBook_Arrivals_firstNotAbove 15 = .ok (.arraylength, 1) := by decide +kernel
theorem d_AckBook_Arrivals_firstNotAbove_16 : decode c_AckBook_Arrivals_firstNotAbove 16 = .ok (.if_icmp .ge (22), 3) := by decide +kernel
theorem d_AckBook_Arrivals_firstNotAbove_19 : decode c_AckBook_Arrivals_firstNotAbove 19 = .ok (.aload_n 0, 1) := by decide +kernel
theorem d_AckBook_Arrivals_firstNotAbove_20 : decode c_AckBook_Arrivals_firstNotAbove 20 = .ok (.getfield 9, 3) := by decide +kernel
theorem d_AckBook_Arrivals_firstNotAbove_23 : decode c_AckBook_Arrivals_firstNotAbove 23 = .ok (.iload_n 3, 1) := by decide +kernel
theorem d_AckBook_Arrivals_firstNotAbove_24 : decode c_AckBook_Arrivals_firstNotAbove 24 = .ok (.laload, 1) := by decide +kernel
theorem d_AckBook_Arrivals_firstNotAbove_25 : decode c_AckBook_Arrivals_firstNotAbove 25 = .ok (.lload_n 1, 1) := by decide +kernel
theorem d_AckBook_Arrivals_firstNotAbove_26 : decode c_AckBook_Arrivals_firstNotAbove 26 = .ok (.lcmp, 1) := by decide +kernel
theorem d_AckBook_Arrivals_firstNotAbove_27 : decode c_AckBook_Arrivals_firstNotAbove 27 = .ok (.ifCond .gt (5), 3) := by decide +kernel
theorem d_AckBook_Arrivals_firstNotAbove_32 : decode c_AckBook_Arrivals_firstNotAbove 32 = .ok (.iinc 3 (1), 3) := by decide +kernel
theorem d_AckBook_Arrivals_firstNotAbove_35 : decode c_AckBook_Arrivals_firstNotAbove 35 = .ok (.goto (-33), 3) := by decide +kernel
theorem d_AckBook_Arrivals_firstNotAbove_30 : decode c_AckBook_Arrivals_firstNotAbove 30 = .ok (.iload_n 3, 1) := by decide +kernel
theorem d_AckBook_Arrivals_firstNotAbove_31 : decode c_AckBook_Arrivals_firstNotAbove 31 = .ok (.ireturn, 1) := by decide +kernel
theorem d_AckBook_Arrivals_firstNotAbove_0 : decode c_AckBook_Arrivals_firstNotAbove 0 = .ok (.iconst (0), 1) := by decide +kernel
theorem d_AckBook_Arrivals_firstNotAbove_1 : decode c_AckBook_Arrivals_firstNotAbove 1 = .ok (.istore_n 3, 1) := by decide +kernel
theorem d_AckBook_Arrivals_remove_12 : decode c_AckBook_Arrivals_remove 12 = .ok (.iload_n 2, 1) := by decide +kernel
theorem d_AckBook_Arrivals_remove_13 : decode c_AckBook_Arrivals_remove 13 = .ok (.aload_n 0, 1) := by decide +kernel
theorem d_AckBook_Arrivals_remove_14 : decode c_AckBook_Arrivals_remove 14 = .ok (.getfield 26, 3) := by decide +kernel
theorem d_AckBook_Arrivals_remove_17 : decode c_AckBook_Arrivals_remove 17 = .ok (.if_icmp .ge (37), 3) := by decide +kernel
theorem d_AckBook_Arrivals_remove_54 : decode c_AckBook_Arrivals_remove 54 = .ok (.return_, 1) := by decide +kernel
theorem d_AckBook_Arrivals_remove_20 : decode c_AckBook_Arrivals_remove 20 = .ok (.aload_n 0, 1) := by decide +kernel
theorem d_AckBook_Arrivals_remove_21 : decode c_AckBook_Arrivals_remove 21 = .ok (.getfield 9, 3) := by decide +kernel
theorem d_AckBook_Arrivals_remove_24 : decode c_AckBook_Arrivals_remove 24 = .ok (.iload_n 2, 1) := by decide +kernel
theorem d_AckBook_Arrivals_remove_25 : decode c_AckBook_Arrivals_remove 25 = .ok (.aload_n 0, 1) := by decide +kernel
theorem d_AckBook_Arrivals_remove_26 : decode c_AckBook_Arrivals_remove 26 = .ok (.getfield 9, 3) := by decide +kernel
theorem d_AckBook_Arrivals_remove_29 : decode c_AckBook_Arrivals_remove 29 = .ok (.iload_n 2, 1) := by decide +kernel
theorem d_AckBook_Arrivals_remove_30 : decode c_AckBook_Arrivals_remove 30 = .ok (.iconst (1), 1) := by decide +kernel
theorem d_AckBook_Arrivals_remove_31 : decode c_AckBook_Arrivals_remove 31 = .ok (.iadd, 1) := by decide +kernel
theorem d_AckBook_Arrivals_remove_32 : decode c_AckBook_Arrivals_remove 32 = .ok (.laload, 1) := by decide +kernel
theorem d_AckBook_Arrivals_remove_33 : decode c_AckBook_Arrivals_remove 33 = .ok (.lastore, 1) := by decide +kernel
theorem d_AckBook_Arrivals_remove_34 : decode c_AckBook_Arrivals_remove 34 = .ok (.aload_n 0, 1) := by decide +kernel
theorem d_AckBook_Arrivals_remove_35 : decode c_AckBook_Arrivals_remove 35 = .ok (.getfield 15, 3) := by decide +kernel
theorem d_AckBook_Arrivals_remove_38 : decode c_AckBook_Arrivals_remove 38 = .ok (.iload_n 2, 1) := by decide +kernel
theorem d_AckBook_Arrivals_remove_39 : decode c_AckBook_Arrivals_remove 39 = .ok (.aload_n 0, 1) := by decide +kernel
theorem d_AckBook_Arrivals_remove_40 : decode c_AckBook_Arrivals_remove 40 = .ok (.getfield 15, 3) := by decide +kernel
theorem d_AckBook_Arrivals_remove_43 : decode c_AckBook_Arrivals_remove 43 = .ok (.iload_n 2, 1) := by decide +kernel
theorem d_AckBook_Arrivals_remove_44 : decode c_AckBook_Arrivals_remove 44 = .ok (.iconst (1), 1) := by decide +kernel
theorem d_AckBook_Arrivals_remove_45 : decode c_AckBook_Arrivals_remove 45 = .ok (.iadd, 1) := by decide +kernel
theorem d_AckBook_Arrivals_remove_46 : decode c_AckBook_Arrivals_remove 46 = .ok (.laload, 1) := by decide +kernel
theorem d_AckBook_Arrivals_remove_47 : decode c_AckBook_Arrivals_remove 47 = .ok (.lastore, 1) := by decide +kernel
theorem d_AckBook_Arrivals_remove_48 : decode c_AckBook_Arrivals_remove 48 = .ok (.iinc 2 (1), 3) := by decide +kernel
theorem d_AckBook_Arrivals_remove_51 : decode c_AckBook_Arrivals_remove 51 = .ok (.goto (-39), 3) := by decide +kernel
theorem d_AckBook_Arrivals_remove_0 : decode c_AckBook_Arrivals_remove 0 = .ok (.aload_n 0, 1) := by decide +kernel
theorem d_AckBook_Arrivals_remove_1 : decode c_AckBook_Arrivals_remove 1 = .ok (.dup, 1) := by decide +kernel
theorem d_AckBook_Arrivals_remove_2 : decode c_AckBook_Arrivals_remove 2 = .ok (.getfield 26, 3) := by decide +kernel
theorem d_AckBook_Arrivals_remove_5 : decode c_AckBook_Arrivals_remove 5 = .ok (.iconst (1), 1) := by decide +kernel
theorem d_AckBook_Arrivals_remove_6 : decode c_AckBook_Arrivals_remove 6 = .ok (.isub, 1) := by decide +kernel
theorem d_AckBook_Arrivals_remove_7 : decode c_AckBook_Arrivals_remove 7 = .ok (.putfield 26, 3) := by decide +kernel
theorem d_AckBook_Arrivals_remove_10 : decode c_AckBook_Arrivals_remove 10 = .ok (.iload_n 1, 1) := by decide +kernel
theorem d_AckBook_Arrivals_remove_11 : decode c_AckBook_Arrivals_remove 11 = .ok (.istore_n 2, 1) := by decide +kernel
theorem d_AckBook_Arrivals_insert_6 : decode c_AckBook_Arrivals_insert 6 = .ok (.iload 4, 2) := by decide +kernel
theorem d_AckBook_Arrivals_insert_8 : decode c_AckBook_Arrivals_insert 8 = .ok (.iload_n 3, 1) := by decide +kernel
theorem d_AckBook_Arrivals_insert_9 : decode c_AckBook_Arrivals_insert 9 = .ok (.if_icmp .le (41), 3) := by decide +kernel
theorem d_AckBook_Arrivals_insert_50 : decode c_AckBook_Arrivals_insert 50 = .ok (.aload_n 0, 1) := by decide +kernel
theorem d_AckBook_Arrivals_insert_51 : decode c_AckBook_Arrivals_insert 51 = .ok (.getfield 9, 3) := by decide +kernel
theorem d_AckBook_Arrivals_insert_54 : decode c_AckBook_Arrivals_insert 54 = .ok (.iload_n 3, 1) := by decide +kernel
theorem d_AckBook_Arrivals_insert_55 : decode c_AckBook_Arrivals_insert 55 = .ok (.lload_n 1, 1) := by decide +kernel
theorem d_AckBook_Arrivals_insert_56 : decode c_AckBook_Arrivals_insert 56 = .ok (.lastore, 1) := by decide +kernel
theorem d_AckBook_Arrivals_insert_57 : decode c_AckBook_Arrivals_insert 57 = .ok (.aload_n 0, 1) := by decide +kernel
theorem d_AckBook_Arrivals_insert_58 : decode c_AckBook_Arrivals_insert 58 = .ok (.getfield 15, 3) := by decide +kernel
theorem d_AckBook_Arrivals_insert_61 : decode c_AckBook_Arrivals_insert 61 = .ok (.iload_n 3, 1) := by decide +kernel
theorem d_AckBook_Arrivals_insert_62 : decode c_AckBook_Arrivals_insert 62 = .ok (.lload_n 1, 1) := by decide +kernel
theorem d_AckBook_Arrivals_insert_63 : decode c_AckBook_Arrivals_insert 63 = .ok (.lastore, 1) := by decide +kernel
theorem d_AckBook_Arrivals_insert_64 : decode c_AckBook_Arrivals_insert 64 = .ok (.aload_n 0, 1) := by decide +kernel
theorem d_AckBook_Arrivals_insert_65 : decode c_AckBook_Arrivals_insert 65 = .ok (.dup, 1) := by decide +kernel
theorem d_AckBook_Arrivals_insert_66 : decode c_AckBook_Arrivals_insert 66 = .ok (.getfield 26, 3) := by decide +kernel
theorem d_AckBook_Arrivals_insert_69 : decode c_AckBook_Arrivals_insert 69 = .ok (.iconst (1), 1) := by decide +kernel
theorem d_AckBook_Arrivals_insert_70 : decode c_AckBook_Arrivals_insert 70 = .ok (.iadd, 1) := by decide +kernel
theorem d_AckBook_Arrivals_insert_71 : decode c_AckBook_Arrivals_insert 71 = .ok (.putfield 26, 3) := by decide +kernel
theorem d_AckBook_Arrivals_insert_74 : decode c_AckBook_Arrivals_insert 74 = .ok (.aload_n 0, 1) := by decide +kernel
theorem d_AckBook_Arrivals_insert_75 : decode c_AckBook_Arrivals_insert 75 = .ok (.getfield 26, 3) := by decide +kernel
theorem d_AckBook_Arrivals_insert_78 : decode c_AckBook_Arrivals_insert 78 = .ok (.bipush (64), 2) := by decide +kernel
theorem d_AckBook_Arrivals_insert_80 : decode c_AckBook_Arrivals_insert 80 = .ok (.if_icmp .le (28), 3) := by decide +kernel
theorem d_AckBook_Arrivals_insert_108 : decode c_AckBook_Arrivals_insert 108 = .ok (.return_, 1) := by decide +kernel
theorem d_AckBook_Arrivals_insert_83 : decode c_AckBook_Arrivals_insert 83 = .ok (.aload_n 0, 1) := by decide +kernel
theorem d_AckBook_Arrivals_insert_84 : decode c_AckBook_Arrivals_insert 84 = .ok (.dup, 1) := by decide +kernel
theorem d_AckBook_Arrivals_insert_85 : decode c_AckBook_Arrivals_insert 85 = .ok (.getfield 26, 3) := by decide +kernel
theorem d_AckBook_Arrivals_insert_88 : decode c_AckBook_Arrivals_insert 88 = .ok (.iconst (1), 1) := by decide +kernel
theorem d_AckBook_Arrivals_insert_89 : decode c_AckBook_Arrivals_insert 89 = .ok (.isub, 1) := by decide +kernel
theorem d_AckBook_Arrivals_insert_90 : decode c_AckBook_Arrivals_insert 90 = .ok (.putfield 26, 3) := by decide +kernel
theorem d_AckBook_Arrivals_insert_93 : decode c_AckBook_Arrivals_insert 93 = .ok (.aload_n 0, 1) := by decide +kernel
theorem d_AckBook_Arrivals_insert_94 : decode c_AckBook_Arrivals_insert 94 = .ok (.aload_n 0, 1) := by decide +kernel
theorem d_AckBook_Arrivals_insert_95 : decode c_AckBook_Arrivals_insert 95 = .ok (.getfield 15, 3) := by decide +kernel
theorem d_AckBook_Arrivals_insert_98 : decode c_AckBook_Arrivals_insert 98 = .ok (.aload_n 0, 1) := by decide +kernel
theorem d_AckBook_Arrivals_insert_99 : decode c_AckBook_Arrivals_insert 99 = .ok (.getfield 26, 3) := by decide +kernel
theorem d_AckBook_Arrivals_insert_102 : decode c_AckBook_Arrivals_insert 102 = .ok (.laload, 1) := by decide +kernel
theorem d_AckBook_Arrivals_insert_103 : decode c_AckBook_Arrivals_insert 103 = .ok (.lconst 1, 1) := by decide +kernel
theorem d_AckBook_Arrivals_insert_104 : decode c_AckBook_Arrivals_insert 104 = .ok (.ladd, 1) := by decide +kernel
theorem d_AckBook_Arrivals_insert_105 : decode c_AckBook_Arrivals_insert 105 = .ok (.putfield 22, 3) := by decide +kernel
theorem d_AckBook_Arrivals_insert_12 : decode c_AckBook_Arrivals_insert 12 = .ok (.aload_n 0, 1) := by decide +kernel
theorem d_AckBook_Arrivals_insert_13 : decode c_AckBook_Arrivals_insert 13 = .ok (.getfield 9, 3) := by decide +kernel
theorem d_AckBook_Arrivals_insert_16 : decode c_AckBook_Arrivals_insert 16 = .ok (.iload 4, 2) := by decide +kernel
theorem d_AckBook_Arrivals_insert_18 : decode c_AckBook_Arrivals_insert 18 = .ok (.aload_n 0, 1) := by decide +kernel
theorem d_AckBook_Arrivals_insert_19 : decode c_AckBook_Arrivals_insert 19 = .ok (.getfield 9, 3) := by decide +kernel
theorem d_AckBook_Arrivals_insert_22 : decode c_AckBook_Arrivals_insert 22 = .ok (.iload 4, 2) := by decide +kernel
theorem d_AckBook_Arrivals_insert_24 : decode c_AckBook_Arrivals_insert 24 = .ok (.iconst (1), 1) := by decide +kernel
theorem d_AckBook_Arrivals_insert_25 : decode c_AckBook_Arrivals_insert 25 = .ok (.isub, 1) := by decide +kernel
theorem d_AckBook_Arrivals_insert_26 : decode c_AckBook_Arrivals_insert 26 = .ok (.laload, 1) := by decide +kernel
theorem d_AckBook_Arrivals_insert_27 : decode c_AckBook_Arrivals_insert 27 = .ok (.lastore, 1) := by decide +kernel
theorem d_AckBook_Arrivals_insert_28 : decode c_AckBook_Arrivals_insert 28 = .ok (.aload_n 0, 1) := by decide +kernel
theorem d_AckBook_Arrivals_insert_29 : decode c_AckBook_Arrivals_insert 29 = .ok (.getfield 15, 3) := by decide +kernel
theorem d_AckBook_Arrivals_insert_32 : decode c_AckBook_Arrivals_insert 32 = .ok (.iload 4, 2) := by decide +kernel
theorem d_AckBook_Arrivals_insert_34 : decode c_AckBook_Arrivals_insert 34 = .ok (.aload_n 0, 1) := by decide +kernel
theorem d_AckBook_Arrivals_insert_35 : decode c_AckBook_Arrivals_insert 35 = .ok (.getfield 15, 3) := by decide +kernel
end
section
theorem d_AckBook_Arrivals_insert_38 : decode c_AckBook_Arrivals_insert 38 = .ok (.iload 4, 2) := by decide +kernel
theorem d_AckBook_Arrivals_insert_40 : decode c_AckBook_Arrivals_insert 40 = .ok (.iconst (1), 1) := by decide +kernel
theorem d_AckBook_Arrivals_insert_41 : decode c_AckBook_Arrivals_insert 41 = .ok (.isub, 1) := by decide +kernel
theorem d_AckBook_Arrivals_insert_42 : decode c_AckBook_Arrivals_insert 42 = .ok (.laload, 1) := by decide +kernel
theorem d_AckBook_Arrivals_insert_43 : decode c_AckBook_Arrivals_insert 43 = .ok (.lastore, 1) := by decide +kernel
theorem d_AckBook_Arrivals_insert_44 : decode c_AckBook_Arrivals_insert 44 = .ok (.iinc 4 (-1), 3) := by decide +kernel
theorem d_AckBook_Arrivals_insert_47 : decode c_AckBook_Arrivals_insert 47 = .ok (.goto (-41), 3) := by decide +kernel
theorem d_AckBook_Arrivals_insert_0 : decode c_AckBook_Arrivals_insert 0 = .ok (.aload_n 0, 1) := by decide +kernel
theorem d_AckBook_Arrivals_insert_1 : decode c_AckBook_Arrivals_insert 1 = .ok (.getfield 26, 3) := by decide +kernel
theorem d_AckBook_Arrivals_insert_4 : decode c_AckBook_Arrivals_insert 4 = .ok (.istore 4, 2) := by decide +kernel
theorem d_AckBook_Arrivals_keep_0 : decode c_AckBook_Arrivals_keep 0 = .ok (.iload_n 3, 1) := by decide +kernel
theorem d_AckBook_Arrivals_keep_1 : decode c_AckBook_Arrivals_keep 1 = .ok (.ifCond .le (22), 3) := by decide +kernel
theorem d_AckBook_Arrivals_keep_23 : decode c_AckBook_Arrivals_keep 23 = .ok (.iconst (0), 1) := by decide +kernel
theorem d_AckBook_Arrivals_keep_24 : decode c_AckBook_Arrivals_keep 24 = .ok (.istore 4, 2) := by decide +kernel
theorem d_AckBook_Arrivals_keep_26 : decode c_AckBook_Arrivals_keep 26 = .ok (.iload_n 3, 1) := by decide +kernel
theorem d_AckBook_Arrivals_keep_27 : decode c_AckBook_Arrivals_keep 27 = .ok (.aload_n 0, 1) := by decide +kernel
theorem d_AckBook_Arrivals_keep_28 : decode c_AckBook_Arrivals_keep 28 = .ok (.getfield 26, 3) := by decide +kernel
theorem d_AckBook_Arrivals_keep_31 : decode c_AckBook_Arrivals_keep 31 = .ok (.if_icmp .ge (20), 3) := by decide +kernel
theorem d_AckBook_Arrivals_keep_51 : decode c_AckBook_Arrivals_keep 51 = .ok (.iconst (0), 1) := by decide +kernel
theorem d_AckBook_Arrivals_keep_52 : decode c_AckBook_Arrivals_keep 52 = .ok (.istore 5, 2) := by decide +kernel
theorem d_AckBook_Arrivals_keep_54 : decode c_AckBook_Arrivals_keep 54 = .ok (.iload 4, 2) := by decide +kernel
theorem d_AckBook_Arrivals_keep_56 : decode c_AckBook_Arrivals_keep 56 = .ok (.ifCond .eq (30), 3) := by decide +kernel
theorem d_AckBook_Arrivals_keep_86 : decode c_AckBook_Arrivals_keep 86 = .ok (.iload 4, 2) := by decide +kernel
theorem d_AckBook_Arrivals_keep_88 : decode c_AckBook_Arrivals_keep 88 = .ok (.ifCond .eq (15), 3) := by decide +kernel
theorem d_AckBook_Arrivals_keep_103 : decode c_AckBook_Arrivals_keep 103 = .ok (.iload 5, 2) := by decide +kernel
theorem d_AckBook_Arrivals_keep_105 : decode c_AckBook_Arrivals_keep 105 = .ok (.ifCond .eq (13), 3) := by decide +kernel
theorem d_AckBook_Arrivals_keep_118 : decode c_AckBook_Arrivals_keep 118 = .ok (.aload_n 0, 1) := by decide +kernel
theorem d_AckBook_Arrivals_keep_119 : decode c_AckBook_Arrivals_keep 119 = .ok (.lload_n 1, 1) := by decide +kernel
theorem d_AckBook_Arrivals_keep_120 : decode c_AckBook_Arrivals_keep 120 = .ok (.iload_n 3, 1) := by decide +kernel
theorem d_AckBook_Arrivals_keep_121 : decode c_AckBook_Arrivals_keep 121 = .ok (.invokevirtual 47, 3) := by decide +kernel
theorem d_AckBook_Arrivals_keep_124 : decode c_AckBook_Arrivals_keep 124 = .ok (.return_, 1) := by decide +kernel
theorem d_AckBook_Arrivals_keep_34 : decode c_AckBook_Arrivals_keep 34 = .ok (.aload_n 0, 1) := by decide +kernel
theorem d_AckBook_Arrivals_keep_35 : decode c_AckBook_Arrivals_keep 35 = .ok (.getfield 15, 3) := by decide +kernel
theorem d_AckBook_Arrivals_keep_38 : decode c_AckBook_Arrivals_keep 38 = .ok (.iload_n 3, 1) := by decide +kernel
theorem d_AckBook_Arrivals_keep_39 : decode c_AckBook_Arrivals_keep 39 = .ok (.laload, 1) := by decide +kernel
theorem d_AckBook_Arrivals_keep_40 : decode c_AckBook_Arrivals_keep 40 = .ok (.lload_n 1, 1) := by decide +kernel
theorem d_AckBook_Arrivals_keep_41 : decode c_AckBook_Arrivals_keep 41 = .ok (.lconst 1, 1) := by decide +kernel
theorem d_AckBook_Arrivals_keep_42 : decode c_AckBook_Arrivals_keep 42 = .ok (.lsub, 1) := by decide +kernel
theorem d_AckBook_Arrivals_keep_43 : decode c_AckBook_Arrivals_keep 43 = .ok (.lcmp, 1) := by decide +kernel
theorem d_AckBook_Arrivals_keep_44 : decode c_AckBook_Arrivals_keep 44 = .ok (.ifCond .ne (7), 3) := by decide +kernel
theorem d_AckBook_Arrivals_keep_47 : decode c_AckBook_Arrivals_keep 47 = .ok (.iconst (1), 1) := by decide +kernel
theorem d_AckBook_Arrivals_keep_48 : decode c_AckBook_Arrivals_keep 48 = .ok (.goto (4), 3) := by decide +kernel
theorem d_AckBook_Arrivals_keep_108 : decode c_AckBook_Arrivals_keep 108 = .ok (.aload_n 0, 1) := by decide +kernel
theorem d_AckBook_Arrivals_keep_109 : decode c_AckBook_Arrivals_keep 109 = .ok (.getfield 15, 3) := by decide +kernel
theorem d_AckBook_Arrivals_keep_112 : decode c_AckBook_Arrivals_keep 112 = .ok (.iload_n 3, 1) := by decide +kernel
theorem d_AckBook_Arrivals_keep_113 : decode c_AckBook_Arrivals_keep 113 = .ok (.lload_n 1, 1) := by decide +kernel
theorem d_AckBook_Arrivals_keep_114 : decode c_AckBook_Arrivals_keep 114 = .ok (.lastore, 1) := by decide +kernel
theorem d_AckBook_Arrivals_keep_115 : decode c_AckBook_Arrivals_keep 115 = .ok (.goto (9), 3) := by decide +kernel
theorem d_AckBook_Arrivals_keep_4 : decode c_AckBook_Arrivals_keep 4 = .ok (.aload_n 0, 1) := by decide +kernel
theorem d_AckBook_Arrivals_keep_5 : decode c_AckBook_Arrivals_keep 5 = .ok (.getfield 9, 3) := by decide +kernel
theorem d_AckBook_Arrivals_keep_8 : decode c_AckBook_Arrivals_keep 8 = .ok (.iload_n 3, 1) := by decide +kernel
theorem d_AckBook_Arrivals_keep_9 : decode c_AckBook_Arrivals_keep 9 = .ok (.iconst (1), 1) := by decide +kernel
theorem d_AckBook_Arrivals_keep_10 : decode c_AckBook_Arrivals_keep 10 = .ok (.isub, 1) := by decide +kernel
theorem d_AckBook_Arrivals_keep_11 : decode c_AckBook_Arrivals_keep 11 = .ok (.laload, 1) := by decide +kernel
theorem d_AckBook_Arrivals_keep_12 : decode c_AckBook_Arrivals_keep 12 = .ok (.lload_n 1, 1) := by decide +kernel
theorem d_AckBook_Arrivals_keep_13 : decode c_AckBook_Arrivals_keep 13 = .ok (.lconst 1, 1) := by decide +kernel
theorem d_AckBook_Arrivals_keep_14 : decode c_AckBook_Arrivals_keep 14 = .ok (.ladd, 1) := by decide +kernel
theorem d_AckBook_Arrivals_keep_15 : decode c_AckBook_Arrivals_keep 15 = .ok (.lcmp, 1) := by decide +kernel
theorem d_AckBook_Arrivals_keep_16 : decode c_AckBook_Arrivals_keep 16 = .ok (.ifCond .ne (7), 3) := by decide +kernel
theorem d_AckBook_Arrivals_keep_19 : decode c_AckBook_Arrivals_keep 19 = .ok (.iconst (1), 1) := by decide +kernel
theorem d_AckBook_Arrivals_keep_20 : decode c_AckBook_Arrivals_keep 20 = .ok (.goto (4), 3) := by decide +kernel
theorem d_AckBook_Arrivals_keep_59 : decode c_AckBook_Arrivals_keep 59 = .ok (.iload 5, 2) := by decide +kernel
theorem d_AckBook_Arrivals_keep_61 : decode c_AckBook_Arrivals_keep 61 = .ok (.ifCond .eq (25), 3) := by decide +kernel
theorem d_AckBook_Arrivals_keep_91 : decode c_AckBook_Arrivals_keep 91 = .ok (.aload_n 0, 1) := by decide +kernel
theorem d_AckBook_Arrivals_keep_92 : decode c_AckBook_Arrivals_keep 92 = .ok (.getfield 9, 3) := by decide +kernel
theorem d_AckBook_Arrivals_keep_95 : decode c_AckBook_Arrivals_keep 95 = .ok (.iload_n 3, 1) := by decide +kernel
theorem d_AckBook_Arrivals_keep_96 : decode c_AckBook_Arrivals_keep 96 = .ok (.iconst (1), 1) := by decide +kernel
theorem d_AckBook_Arrivals_keep_97 : decode c_AckBook_Arrivals_keep 97 = .ok (.isub, 1) := by decide +kernel
theorem d_AckBook_Arrivals_keep_98 : decode c_AckBook_Arrivals_keep 98 = .ok (.lload_n 1, 1) := by decide +kernel
theorem d_AckBook_Arrivals_keep_99 : decode c_AckBook_Arrivals_keep 99 = .ok (.lastore, 1) := by decide +kernel
theorem d_AckBook_Arrivals_keep_100 : decode c_AckBook_Arrivals_keep 100 = .ok (.goto (24), 3) := by decide +kernel
theorem d_AckBook_Arrivals_keep_64 : decode c_AckBook_Arrivals_keep 64 = .ok (.aload_n 0, 1) := by decide +kernel
theorem d_AckBook_Arrivals_keep_65 : decode c_AckBook_Arrivals_keep 65 = .ok (.getfield 9, 3) := by decide +kernel
theorem d_AckBook_Arrivals_keep_68 : decode c_AckBook_Arrivals_keep 68 = .ok (.iload_n 3, 1) := by decide +kernel
theorem d_AckBook_Arrivals_keep_69 : decode c_AckBook_Arrivals_keep 69 = .ok (.iconst (1), 1) := by decide +kernel
theorem d_AckBook_Arrivals_keep_70 : decode c_AckBook_Arrivals_keep 70 = .ok (.isub, 1) := by decide +kernel
theorem d_AckBook_Arrivals_keep_71 : decode c_AckBook_Arrivals_keep 71 = .ok (.aload_n 0, 1) := by decide +kernel
theorem d_AckBook_Arrivals_keep_72 : decode c_AckBook_Arrivals_keep 72 = .ok (.getfield 9, 3) := by decide +kernel
theorem d_AckBook_Arrivals_keep_75 : decode c_AckBook_Arrivals_keep 75 = .ok (.iload_n 3, 1) := by decide +kernel
theorem d_AckBook_Arrivals_keep_76 : decode c_AckBook_Arrivals_keep 76 = .ok (.laload, 1) := by decide +kernel
theorem d_AckBook_Arrivals_keep_77 : decode c_AckBook_Arrivals_keep 77 = .ok (.lastore, 1) := by decide +kernel
theorem d_AckBook_Arrivals_keep_78 : decode c_AckBook_Arrivals_keep 78 = .ok (.aload_n 0, 1) := by decide +kernel
theorem d_AckBook_Arrivals_keep_79 : decode c_AckBook_Arrivals_keep 79 = .ok (.iload_n 3, 1) := by decide +kernel
theorem d_AckBook_Arrivals_keep_80 : decode c_AckBook_Arrivals_keep 80 = .ok (.invokevirtual 43, 3) := by decide +kernel
theorem d_AckBook_Arrivals_keep_83 : decode c_AckBook_Arrivals_keep 83 = .ok (.goto (41), 3) := by decide +kernel
theorem d_AckBook_Arrivals_hold_0 : decode c_AckBook_Arrivals_hold 0 = .ok (.aload_n 0, 1) := by decide +kernel
theorem d_AckBook_Arrivals_hold_1 : decode c_AckBook_Arrivals_hold 1 = .ok (.getfield 50, 3) := by decide +kernel
theorem d_AckBook_Arrivals_hold_4 : decode c_AckBook_Arrivals_hold 4 = .ok (.ifCond .ne (8), 3) := by decide +kernel
theorem d_AckBook_Arrivals_hold_7 : decode c_AckBook_Arrivals_hold 7 = .ok (.aload_n 0, 1) := by decide +kernel
theorem d_AckBook_Arrivals_hold_8 : decode c_AckBook_Arrivals_hold 8 = .ok (.iload_n 2, 1) := by decide +kernel
theorem d_AckBook_Arrivals_hold_9 : decode c_AckBook_Arrivals_hold 9 = .ok (.putfield 53, 3) := by decide +kernel
theorem d_AckBook_Arrivals_hold_12 : decode c_AckBook_Arrivals_hold 12 = .ok (.aload_n 0, 1) := by decide +kernel
theorem d_AckBook_Arrivals_hold_13 : decode c_AckBook_Arrivals_hold 13 = .ok (.dup, 1) := by decide +kernel
theorem d_AckBook_Arrivals_hold_14 : decode c_AckBook_Arrivals_hold 14 = .ok (.getfield 50, 3) := by decide +kernel
theorem d_AckBook_Arrivals_hold_17 : decode c_AckBook_Arrivals_hold 17 = .ok (.iconst (1), 1) := by decide +kernel
theorem d_AckBook_Arrivals_hold_18 : decode c_AckBook_Arrivals_hold 18 = .ok (.iadd, 1) := by decide +kernel
theorem d_AckBook_Arrivals_hold_19 : decode c_AckBook_Arrivals_hold 19 = .ok (.putfield 50, 3) := by decide +kernel
theorem d_AckBook_Arrivals_hold_22 : decode c_AckBook_Arrivals_hold 22 = .ok (.aload_n 0, 1) := by decide +kernel
theorem d_AckBook_Arrivals_hold_23 : decode c_AckBook_Arrivals_hold 23 = .ok (.aload_n 0, 1) := by decide +kernel
theorem d_AckBook_Arrivals_hold_24 : decode c_AckBook_Arrivals_hold 24 = .ok (.getfield 56, 3) := by decide +kernel
theorem d_AckBook_Arrivals_hold_27 : decode c_AckBook_Arrivals_hold 27 = .ok (.ifCond .ne (7), 3) := by decide +kernel
theorem d_AckBook_Arrivals_hold_30 : decode c_AckBook_Arrivals_hold 30 = .ok (.iload_n 1, 1) := by decide +kernel
theorem d_AckBook_Arrivals_hold_31 : decode c_AckBook_Arrivals_hold 31 = .ok (.ifCond .eq (7), 3) := by decide +kernel
theorem d_AckBook_Arrivals_hold_38 : decode c_AckBook_Arrivals_hold 38 = .ok (.iconst (0), 1) := by decide +kernel
theorem d_AckBook_Arrivals_hold_39 : decode c_AckBook_Arrivals_hold 39 = .ok (.putfield 56, 3) := by decide +kernel
theorem d_AckBook_Arrivals_hold_42 : decode c_AckBook_Arrivals_hold 42 = .ok (.return_, 1) := by decide +kernel
theorem d_AckBook_Arrivals_hold_34 : decode c_AckBook_Arrivals_hold 34 = .ok (.iconst (1), 1) := by decide +kernel
theorem d_AckBook_Arrivals_hold_35 : decode c_AckBook_Arrivals_hold 35 = .ok (.goto (4), 3) := by decide +kernel
theorem d_AckBook_Arrivals_enter_0 : decode c_AckBook_Arrivals_enter 0 = .ok (.aload_n 0, 1) := by decide +kernel
theorem d_AckBook_Arrivals_enter_1 : decode c_AckBook_Arrivals_enter 1 = .ok (.lload_n 1, 1) := by decide +kernel
theorem d_AckBook_Arrivals_enter_2 : decode c_AckBook_Arrivals_enter 2 = .ok (.invokevirtual 18, 3) := by decide +kernel
theorem d_AckBook_Arrivals_enter_5 : decode c_AckBook_Arrivals_enter 5 = .ok (.istore 5, 2) := by decide +kernel
theorem d_AckBook_Arrivals_enter_7 : decode c_AckBook_Arrivals_enter 7 = .ok (.lload_n 1, 1) := by decide +kernel
theorem d_AckBook_Arrivals_enter_8 : decode c_AckBook_Arrivals_enter 8 = .ok (.aload_n 0, 1) := by decide +kernel
theorem d_AckBook_Arrivals_enter_9 : decode c_AckBook_Arrivals_enter 9 = .ok (.getfield 22, 3) := by decide +kernel
theorem d_AckBook_Arrivals_enter_12 : decode c_AckBook_Arrivals_enter 12 = .ok (.lcmp, 1) := by decide +kernel
theorem d_AckBook_Arrivals_enter_13 : decode c_AckBook_Arrivals_enter 13 = .ok (.ifCond .lt (24), 3) := by decide +kernel
theorem d_AckBook_Arrivals_enter_37 : decode c_AckBook_Arrivals_enter 37 = .ok (.iconst (0), 1) := by decide +kernel
theorem d_AckBook_Arrivals_enter_38 : decode c_AckBook_Arrivals_enter 38 = .ok (.ireturn, 1) := by decide +kernel
theorem d_AckBook_Arrivals_enter_16 : decode c_AckBook_Arrivals_enter 16 = .ok (.iload 5, 2) := by decide +kernel
end
section
theorem d_AckBook_Arrivals_enter_18 : decode c_AckBook_Arrivals_enter 18 = .ok (.aload_n 0, 1) := by decide +kernel
theorem d_AckBook_Arrivals_enter_19 : decode c_AckBook_Arrivals_enter 19 = .ok (.getfield 26, 3) := by decide +kernel
theorem d_AckBook_Arrivals_enter_22 : decode c_AckBook_Arrivals_enter 22 = .ok (.if_icmp .ge (17), 3) := by decide +kernel
theorem d_AckBook_Arrivals_enter_39 : decode c_AckBook_Arrivals_enter 39 = .ok (.aload_n 0, 1) := by decide +kernel
theorem d_AckBook_Arrivals_enter_40 : decode c_AckBook_Arrivals_enter 40 = .ok (.getfield 26, 3) := by decide +kernel
theorem d_AckBook_Arrivals_enter_43 : decode c_AckBook_Arrivals_enter 43 = .ok (.ifCond .ne (9), 3) := by decide +kernel
theorem d_AckBook_Arrivals_enter_46 : decode c_AckBook_Arrivals_enter 46 = .ok (.ldc2_w 30, 3) := by decide +kernel
theorem d_AckBook_Arrivals_enter_49 : decode c_AckBook_Arrivals_enter 49 = .ok (.goto (9), 3) := by decide +kernel
theorem d_AckBook_Arrivals_enter_58 : decode c_AckBook_Arrivals_enter 58 = .ok (.lstore 6, 2) := by decide +kernel
theorem d_AckBook_Arrivals_enter_60 : decode c_AckBook_Arrivals_enter 60 = .ok (.aload_n 0, 1) := by decide +kernel
theorem d_AckBook_Arrivals_enter_61 : decode c_AckBook_Arrivals_enter 61 = .ok (.lload_n 1, 1) := by decide +kernel
theorem d_AckBook_Arrivals_enter_62 : decode c_AckBook_Arrivals_enter 62 = .ok (.iload 5, 2) := by decide +kernel
theorem d_AckBook_Arrivals_enter_64 : decode c_AckBook_Arrivals_enter 64 = .ok (.invokevirtual 32, 3) := by decide +kernel
theorem d_AckBook_Arrivals_enter_67 : decode c_AckBook_Arrivals_enter 67 = .ok (.iload_n 3, 1) := by decide +kernel
theorem d_AckBook_Arrivals_enter_68 : decode c_AckBook_Arrivals_enter 68 = .ok (.ifCond .eq (23), 3) := by decide +kernel
theorem d_AckBook_Arrivals_enter_91 : decode c_AckBook_Arrivals_enter 91 = .ok (.lload_n 1, 1) := by decide +kernel
theorem d_AckBook_Arrivals_enter_92 : decode c_AckBook_Arrivals_enter 92 = .ok (.lload 6, 2) := by decide +kernel
theorem d_AckBook_Arrivals_enter_94 : decode c_AckBook_Arrivals_enter 94 = .ok (.lcmp, 1) := by decide +kernel
theorem d_AckBook_Arrivals_enter_95 : decode c_AckBook_Arrivals_enter 95 = .ok (.ifCond .le (9), 3) := by decide +kernel
theorem d_AckBook_Arrivals_enter_104 : decode c_AckBook_Arrivals_enter 104 = .ok (.iconst (1), 1) := by decide +kernel
theorem d_AckBook_Arrivals_enter_105 : decode c_AckBook_Arrivals_enter 105 = .ok (.ireturn, 1) := by decide +kernel
theorem d_AckBook_Arrivals_enter_98 : decode c_AckBook_Arrivals_enter 98 = .ok (.aload_n 0, 1) := by decide +kernel
theorem d_AckBook_Arrivals_enter_99 : decode c_AckBook_Arrivals_enter 99 = .ok (.iload 4, 2) := by decide +kernel
theorem d_AckBook_Arrivals_enter_101 : decode c_AckBook_Arrivals_enter 101 = .ok (.putfield 40, 3) := by decide +kernel
theorem d_AckBook_Arrivals_enter_71 : decode c_AckBook_Arrivals_enter 71 = .ok (.aload_n 0, 1) := by decide +kernel
theorem d_AckBook_Arrivals_enter_72 : decode c_AckBook_Arrivals_enter 72 = .ok (.lload_n 1, 1) := by decide +kernel
theorem d_AckBook_Arrivals_enter_73 : decode c_AckBook_Arrivals_enter 73 = .ok (.lload 6, 2) := by decide +kernel
theorem d_AckBook_Arrivals_enter_75 : decode c_AckBook_Arrivals_enter 75 = .ok (.lconst 1, 1) := by decide +kernel
theorem d_AckBook_Arrivals_enter_76 : decode c_AckBook_Arrivals_enter 76 = .ok (.ladd, 1) := by decide +kernel
theorem d_AckBook_Arrivals_enter_77 : decode c_AckBook_Arrivals_enter 77 = .ok (.lcmp, 1) := by decide +kernel
theorem d_AckBook_Arrivals_enter_78 : decode c_AckBook_Arrivals_enter 78 = .ok (.ifCond .eq (7), 3) := by decide +kernel
theorem d_AckBook_Arrivals_enter_85 : decode c_AckBook_Arrivals_enter 85 = .ok (.iconst (0), 1) := by decide +kernel
theorem d_AckBook_Arrivals_enter_86 : decode c_AckBook_Arrivals_enter 86 = .ok (.iload 4, 2) := by decide +kernel
theorem d_AckBook_Arrivals_enter_88 : decode c_AckBook_Arrivals_enter 88 = .ok (.invokevirtual 36, 3) := by decide +kernel
theorem d_AckBook_Arrivals_enter_81 : decode c_AckBook_Arrivals_enter 81 = .ok (.iconst (1), 1) := by decide +kernel
theorem d_AckBook_Arrivals_enter_82 : decode c_AckBook_Arrivals_enter 82 = .ok (.goto (4), 3) := by decide +kernel
theorem d_AckBook_Arrivals_enter_52 : decode c_AckBook_Arrivals_enter 52 = .ok (.aload_n 0, 1) := by decide +kernel
theorem d_AckBook_Arrivals_enter_53 : decode c_AckBook_Arrivals_enter 53 = .ok (.getfield 15, 3) := by decide +kernel
theorem d_AckBook_Arrivals_enter_56 : decode c_AckBook_Arrivals_enter 56 = .ok (.iconst (0), 1) := by decide +kernel
theorem d_AckBook_Arrivals_enter_57 : decode c_AckBook_Arrivals_enter 57 = .ok (.laload, 1) := by decide +kernel
theorem d_AckBook_Arrivals_enter_25 : decode c_AckBook_Arrivals_enter 25 = .ok (.lload_n 1, 1) := by decide +kernel
theorem d_AckBook_Arrivals_enter_26 : decode c_AckBook_Arrivals_enter 26 = .ok (.aload_n 0, 1) := by decide +kernel
theorem d_AckBook_Arrivals_enter_27 : decode c_AckBook_Arrivals_enter 27 = .ok (.getfield 15, 3) := by decide +kernel
theorem d_AckBook_Arrivals_enter_30 : decode c_AckBook_Arrivals_enter 30 = .ok (.iload 5, 2) := by decide +kernel
theorem d_AckBook_Arrivals_enter_32 : decode c_AckBook_Arrivals_enter 32 = .ok (.laload, 1) := by decide +kernel
theorem d_AckBook_Arrivals_enter_33 : decode c_AckBook_Arrivals_enter 33 = .ok (.lcmp, 1) := by decide +kernel
theorem d_AckBook_Arrivals_enter_34 : decode c_AckBook_Arrivals_enter 34 = .ok (.ifCond .gt (5), 3) := by decide +kernel
theorem d_AckBook_Arrivals_isPressing_0 : decode c_AckBook_Arrivals_isPressing 0 = .ok (.aload_n 0, 1) := by decide +kernel
theorem d_AckBook_Arrivals_isPressing_1 : decode c_AckBook_Arrivals_isPressing 1 = .ok (.getfield 50, 3) := by decide +kernel
theorem d_AckBook_Arrivals_isPressing_4 : decode c_AckBook_Arrivals_isPressing 4 = .ok (.ifCond .ne (5), 3) := by decide +kernel
theorem d_AckBook_Arrivals_isPressing_7 : decode c_AckBook_Arrivals_isPressing 7 = .ok (.iconst (0), 1) := by decide +kernel
theorem d_AckBook_Arrivals_isPressing_8 : decode c_AckBook_Arrivals_isPressing 8 = .ok (.ireturn, 1) := by decide +kernel
theorem d_AckBook_Arrivals_isPressing_9 : decode c_AckBook_Arrivals_isPressing 9 = .ok (.aload_n 0, 1) := by decide +kernel
theorem d_AckBook_Arrivals_isPressing_10 : decode c_AckBook_Arrivals_isPressing 10 = .ok (.getfield 50, 3) := by decide +kernel
theorem d_AckBook_Arrivals_isPressing_13 : decode c_AckBook_Arrivals_isPressing 13 = .ok (.iconst (2), 1) := by decide +kernel
theorem d_AckBook_Arrivals_isPressing_14 : decode c_AckBook_Arrivals_isPressing 14 = .ok (.if_icmp .ge (21), 3) := by decide +kernel
theorem d_AckBook_Arrivals_isPressing_35 : decode c_AckBook_Arrivals_isPressing 35 = .ok (.iconst (1), 1) := by decide +kernel
theorem d_AckBook_Arrivals_isPressing_36 : decode c_AckBook_Arrivals_isPressing 36 = .ok (.goto (4), 3) := by decide +kernel
theorem d_AckBook_Arrivals_isPressing_40 : decode c_AckBook_Arrivals_isPressing 40 = .ok (.ireturn, 1) := by decide +kernel
theorem d_AckBook_Arrivals_isPressing_17 : decode c_AckBook_Arrivals_isPressing 17 = .ok (.aload_n 0, 1) := by decide +kernel
theorem d_AckBook_Arrivals_isPressing_18 : decode c_AckBook_Arrivals_isPressing 18 = .ok (.getfield 56, 3) := by decide +kernel
theorem d_AckBook_Arrivals_isPressing_21 : decode c_AckBook_Arrivals_isPressing 21 = .ok (.ifCond .ne (14), 3) := by decide +kernel
theorem d_AckBook_Arrivals_isPressing_24 : decode c_AckBook_Arrivals_isPressing 24 = .ok (.iload_n 1, 1) := by decide +kernel
theorem d_AckBook_Arrivals_isPressing_25 : decode c_AckBook_Arrivals_isPressing 25 = .ok (.aload_n 0, 1) := by decide +kernel
theorem d_AckBook_Arrivals_isPressing_26 : decode c_AckBook_Arrivals_isPressing 26 = .ok (.getfield 53, 3) := by decide +kernel
theorem d_AckBook_Arrivals_isPressing_29 : decode c_AckBook_Arrivals_isPressing 29 = .ok (.isub, 1) := by decide +kernel
theorem d_AckBook_Arrivals_isPressing_30 : decode c_AckBook_Arrivals_isPressing 30 = .ok (.bipush (25), 2) := by decide +kernel
theorem d_AckBook_Arrivals_isPressing_32 : decode c_AckBook_Arrivals_isPressing 32 = .ok (.if_icmp .lt (7), 3) := by decide +kernel
theorem d_AckBook_Arrivals_isPressing_39 : decode c_AckBook_Arrivals_isPressing 39 = .ok (.iconst (0), 1) := by decide +kernel
theorem d_AckBook_Arrivals_settle_0 : decode c_AckBook_Arrivals_settle 0 = .ok (.aload_n 0, 1) := by decide +kernel
theorem d_AckBook_Arrivals_settle_1 : decode c_AckBook_Arrivals_settle 1 = .ok (.iconst (0), 1) := by decide +kernel
theorem d_AckBook_Arrivals_settle_2 : decode c_AckBook_Arrivals_settle 2 = .ok (.putfield 50, 3) := by decide +kernel
theorem d_AckBook_Arrivals_settle_5 : decode c_AckBook_Arrivals_settle 5 = .ok (.aload_n 0, 1) := by decide +kernel
theorem d_AckBook_Arrivals_settle_6 : decode c_AckBook_Arrivals_settle 6 = .ok (.iconst (0), 1) := by decide +kernel
theorem d_AckBook_Arrivals_settle_7 : decode c_AckBook_Arrivals_settle 7 = .ok (.putfield 56, 3) := by decide +kernel
theorem d_AckBook_Arrivals_settle_10 : decode c_AckBook_Arrivals_settle 10 = .ok (.iload_n 1, 1) := by decide +kernel
theorem d_AckBook_Arrivals_settle_11 : decode c_AckBook_Arrivals_settle 11 = .ok (.aload_n 0, 1) := by decide +kernel
theorem d_AckBook_Arrivals_settle_12 : decode c_AckBook_Arrivals_settle 12 = .ok (.getfield 40, 3) := by decide +kernel
theorem d_AckBook_Arrivals_settle_15 : decode c_AckBook_Arrivals_settle 15 = .ok (.isub, 1) := by decide +kernel
theorem d_AckBook_Arrivals_settle_16 : decode c_AckBook_Arrivals_settle 16 = .ok (.ireturn, 1) := by decide +kernel
end
section
def f_AckBook_Chain_init (F : Nat) (a0 : Option Nat) (w : zW) : zR :=
  z_nn a0 <|
  some (.inl none, w)
set_option maxHeartbeats 4000000 in
set_option maxRecDepth 100000 in
theorem k_AckBook_Chain_init {b0 : Nat} {H0 : Heap} {D : va_G} {ZS : List (String × String × String × Value)} {l : Launch} (hT : z_TB (zGG b0 H0 D ZS)) (hfl : l.flags = pinnedFlags ++ [noTraceFlag]) {a0 : Option Nat} (F : Nat) {w : zW} (res : zO × zW) (h : f_AckBook_Chain_init F a0 w = some res) : z_Ct (zGG b0 H0 D ZS) l y_AckBook_Chain_init (.code y_AckBook_Chain_init c_AckBook_Chain_init 1 (none)) 1 24 [va_rf a0] w res := by
  refine z_ct hT hfl (by decide) (by simp only [z_sl_i, z_sl_j, z_sl_r, z_sl_n]; decide) ?_
  intro p e R s m args below meth c hC hr hRc hRs hRt hnm hFr H ls hZ hl
  simp only [z_la_i, z_la_j, z_la_r, z_la_n] at hl
  have hl : lv_has ls 1 [(0, va_rf a0)] := hl
  unfold f_AckBook_Chain_init at h
  refine x_aload_n hC d_AckBook_Chain_init_0 rfl (lv_at hl 0 rfl) ?_
  obtain ⟨_, e_, h⟩ := z_nn_spec h
  refine x_objInit hC hZ e_ t_52 ⟨t_32, t_33⟩ hl.1 d_AckBook_Chain_init_1 (by rw [hRt.1]; decide) (by rw [hRt.2]; first | exact Nat.le_of_ble_eq_true rfl | simp [z_rfc, z_ci, z_cj]) ?_
  exact x_vret hC hRc hRs hZ hr h d_AckBook_Chain_init_4
def f_AckBook_Arrivals_init (F : Nat) (a0 : Option Nat) (w : zW) : zR :=
  z_nn a0 <|
  z_newa w .long (65 : Int32) (fun n => (n, .inr (.inl fun _ => 0))) fun a1 w =>
  z_put w 5 0 a0 (va_rf (some a1)) fun w =>
  z_newa w .long (65 : Int32) (fun n => (n, .inr (.inl fun _ => 0))) fun a2 w =>
  z_put w 5 1 a0 (va_rf (some a2)) fun w =>
  some (.inl none, w)
set_option maxHeartbeats 4000000 in
set_option maxRecDepth 100000 in
theorem k_AckBook_Arrivals_init {b0 : Nat} {H0 : Heap} {D : va_G} {ZS : List (String × String × String × Value)} {l : Launch} (hT : z_TB (zGG b0 H0 D ZS)) (hfl : l.flags = pinnedFlags ++ [noTraceFlag]) {a0 : Option Nat} (F : Nat) {w : zW} (res : zO × zW) (h : f_AckBook_Arrivals_init F a0 w = some res) : z_Ct (zGG b0 H0 D ZS) l y_AckBook_Arrivals_init (.code y_AckBook_Arrivals_init c_AckBook_Arrivals_init 1 (none)) 1 24 [va_rf a0] w res := by
  refine z_ct hT hfl (by decide) (by simp only [z_sl_i, z_sl_j, z_sl_r, z_sl_n]; decide) ?_
  intro p e R s m args below meth c hC hr hRc hRs hRt hnm hFr H ls hZ hl
  simp only [z_la_i, z_la_j, z_la_r, z_la_n] at hl
  have hl : lv_has ls 1 [(0, va_rf a0)] := hl
  unfold f_AckBook_Arrivals_init at h
  refine x_aload_n hC d_AckBook_Arrivals_init_0 rfl (lv_at hl 0 rfl) ?_
  obtain ⟨_, e_, h⟩ := z_nn_spec h
  refine x_objInit hC hZ e_ t_123 ⟨t_32, t_33⟩ hl.1 d_AckBook_Arrivals_init_1 (by rw [hRt.1]; decide) (by rw [hRt.2]; first | exact Nat.le_of_ble_eq_true rfl | simp [z_rfc, z_ci, z_cj]) ?_
  refine x_aload_n hC d_AckBook_Arrivals_init_4 rfl (lv_at hl 0 rfl) ?_
  refine lv_bipush (v := (65 : Int32)) hC.1 hC.2.1 d_AckBook_Arrivals_init_5 (by decide) ?_
  refine x_newaJ hC hZ h t_154 d_AckBook_Arrivals_init_7 (fun a1 w H cells slots hZ h => ?_)
  refine x_putF hC hZ zc5 h (by decide) t_124 (fun _ h9 => h9) rfl hnm rfl rfl (z_rfnA _ _) (z_rffA _ _) d_AckBook_Arrivals_init_9 (fun w H locs hZ h => ?_)
  refine x_aload_n hC d_AckBook_Arrivals_init_12 rfl (lv_at hl 0 rfl) ?_
  refine lv_bipush (v := (65 : Int32)) hC.1 hC.2.1 d_AckBook_Arrivals_init_13 (by decide) ?_
  refine x_newaJ hC hZ h t_154 d_AckBook_Arrivals_init_15 (fun a2 w H cells slots hZ h => ?_)
  refine x_putF hC hZ zc5 h (by decide) t_126 (fun _ h9 => h9) rfl hnm rfl rfl (z_rfnA _ _) (z_rffA _ _) d_AckBook_Arrivals_init_17 (fun w H locs hZ h => ?_)
  exact x_vret hC hRc hRs hZ hr h d_AckBook_Arrivals_init_20
def f_AckBook_Claim_init (F : Nat) (a0 : Option Nat) (w : zW) : zR :=
  z_nn a0 <|
  z_newa w .long (64 : Int32) (fun n => (n, .inr (.inl fun _ => 0))) fun a1 w =>
  z_put w 6 0 a0 (va_rf (some a1)) fun w =>
  z_newa w .long (64 : Int32) (fun n => (n, .inr (.inl fun _ => 0))) fun a2 w =>
  z_put w 6 1 a0 (va_rf (some a2)) fun w =>
  some (.inl none, w)
set_option maxHeartbeats 4000000 in
set_option maxRecDepth 100000 in
theorem k_AckBook_Claim_init {b0 : Nat} {H0 : Heap} {D : va_G} {ZS : List (String × String × String × Value)} {l : Launch} (hT : z_TB (zGG b0 H0 D ZS)) (hfl : l.flags = pinnedFlags ++ [noTraceFlag]) {a0 : Option Nat} (F : Nat) {w : zW} (res : zO × zW) (h : f_AckBook_Claim_init F a0 w = some res) : z_Ct (zGG b0 H0 D ZS) l y_AckBook_Claim_init (.code y_AckBook_Claim_init c_AckBook_Claim_init 1 (none)) 1 24 [va_rf a0] w res := by
  refine z_ct hT hfl (by decide) (by simp only [z_sl_i, z_sl_j, z_sl_r, z_sl_n]; decide) ?_
  intro p e R s m args below meth c hC hr hRc hRs hRt hnm hFr H ls hZ hl
  simp only [z_la_i, z_la_j, z_la_r, z_la_n] at hl
  have hl : lv_has ls 1 [(0, va_rf a0)] := hl
  unfold f_AckBook_Claim_init at h
  refine x_aload_n hC d_AckBook_Claim_init_0 rfl (lv_at hl 0 rfl) ?_
  obtain ⟨_, e_, h⟩ := z_nn_spec h
  refine x_objInit hC hZ e_ t_176 ⟨t_32, t_33⟩ hl.1 d_AckBook_Claim_init_1 (by rw [hRt.1]; decide) (by rw [hRt.2]; first | exact Nat.le_of_ble_eq_true rfl | simp [z_rfc, z_ci, z_cj]) ?_
  refine x_aload_n hC d_AckBook_Claim_init_4 rfl (lv_at hl 0 rfl) ?_
  refine lv_bipush (v := (64 : Int32)) hC.1 hC.2.1 d_AckBook_Claim_init_5 (by decide) ?_
  refine x_newaJ hC hZ h t_154 d_AckBook_Claim_init_7 (fun a1 w H cells slots hZ h => ?_)
  refine x_putF hC hZ zc6 h (by decide) t_177 (fun _ h9 => h9) rfl hnm rfl rfl (z_rfnA _ _) (z_rffA _ _) d_AckBook_Claim_init_9 (fun w H locs hZ h => ?_)
  refine x_aload_n hC d_AckBook_Claim_init_12 rfl (lv_at hl 0 rfl) ?_
  refine lv_bipush (v := (64 : Int32)) hC.1 hC.2.1 d_AckBook_Claim_init_13 (by decide) ?_
  refine x_newaJ hC hZ h t_154 d_AckBook_Claim_init_15 (fun a2 w H cells slots hZ h => ?_)
  refine x_putF hC hZ zc6 h (by decide) t_178 (fun _ h9 => h9) rfl hnm rfl rfl (z_rfnA _ _) (z_rffA _ _) d_AckBook_Claim_init_17 (fun w H locs hZ h => ?_)
  exact x_vret hC hRc hRs hZ hr h d_AckBook_Claim_init_20
def f_AckBook_Way_init (F : Nat) (a0 : Option Nat) (w : zW) : zR :=
  z_nn a0 <|
  z_put w 7 0 a0 (.int (800 : Int32)) fun w =>
  z_put w 7 1 a0 (.int (200 : Int32)) fun w =>
  z_put w 7 3 a0 (.int (-1 : Int32)) fun w =>
  z_put w 7 4 a0 (.int (-1 : Int32)) fun w =>
  some (.inl none, w)
set_option maxHeartbeats 4000000 in
set_option maxRecDepth 100000 in
theorem k_AckBook_Way_init {b0 : Nat} {H0 : Heap} {D : va_G} {ZS : List (String × String × String × Value)} {l : Launch} (hT : z_TB (zGG b0 H0 D ZS)) (hfl : l.flags = pinnedFlags ++ [noTraceFlag]) {a0 : Option Nat} (F : Nat) {w : zW} (res : zO × zW) (h : f_AckBook_Way_init F a0 w = some res) : z_Ct (zGG b0 H0 D ZS) l y_AckBook_Way_init (.code y_AckBook_Way_init c_AckBook_Way_init 1 (none)) 1 24 [va_rf a0] w res := by
  refine z_ct hT hfl (by decide) (by simp only [z_sl_i, z_sl_j, z_sl_r, z_sl_n]; decide) ?_
  intro p e R s m args below meth c hC hr hRc hRs hRt hnm hFr H ls hZ hl
  simp only [z_la_i, z_la_j, z_la_r, z_la_n] at hl
  have hl : lv_has ls 1 [(0, va_rf a0)] := hl
  unfold f_AckBook_Way_init at h
  refine x_aload_n hC d_AckBook_Way_init_0 rfl (lv_at hl 0 rfl) ?_
  obtain ⟨_, e_, h⟩ := z_nn_spec h
  refine x_objInit hC hZ e_ t_196 ⟨t_32, t_33⟩ hl.1 d_AckBook_Way_init_1 (by rw [hRt.1]; decide) (by rw [hRt.2]; first | exact Nat.le_of_ble_eq_true rfl | simp [z_rfc, z_ci, z_cj]) ?_
  refine x_aload_n hC d_AckBook_Way_init_4 rfl (lv_at hl 0 rfl) ?_
  refine lv_sipush (v := (800 : Int32)) hC.1 hC.2.1 d_AckBook_Way_init_5 (by decide) ?_
  refine x_put hC hZ zc7 h (by decide) t_197 (fun _ h9 => h9) rfl rfl rfl rfl d_AckBook_Way_init_8 (fun w H locs hZ h => ?_)
  refine x_aload_n hC d_AckBook_Way_init_11 rfl (lv_at hl 0 rfl) ?_
  refine lv_sipush (v := (200 : Int32)) hC.1 hC.2.1 d_AckBook_Way_init_12 (by decide) ?_
  refine x_put hC hZ zc7 h (by decide) t_199 (fun _ h9 => h9) rfl rfl rfl rfl d_AckBook_Way_init_15 (fun w H locs hZ h => ?_)
  refine x_aload_n hC d_AckBook_Way_init_18 rfl (lv_at hl 0 rfl) ?_
  refine lv_iconst (v := (-1 : Int32)) hC.1 hC.2.1 d_AckBook_Way_init_19 (by decide) ?_
  refine x_put hC hZ zc7 h (by decide) t_203 (fun _ h9 => h9) rfl rfl rfl rfl d_AckBook_Way_init_20 (fun w H locs hZ h => ?_)
  refine x_aload_n hC d_AckBook_Way_init_23 rfl (lv_at hl 0 rfl) ?_
  refine lv_iconst (v := (-1 : Int32)) hC.1 hC.2.1 d_AckBook_Way_init_24 (by decide) ?_
  refine x_put hC hZ zc7 h (by decide) t_205 (fun _ h9 => h9) rfl rfl rfl rfl d_AckBook_Way_init_25 (fun w H locs hZ h => ?_)
  exact x_vret hC hRc hRs hZ hr h d_AckBook_Way_init_28
def f_AckBook_Flow_init (F : Nat) (a0 : Option Nat) (w : zW) : zR :=
  z_nn a0 <|
  z_put w 8 1 a0 (.int (12000 : Int32)) fun w =>
  z_put w 8 2 a0 (.int (-1 : Int32)) fun w =>
  z_put w 8 3 a0 (.int (-1 : Int32)) fun w =>
  some (.inl none, w)
set_option maxHeartbeats 4000000 in
set_option maxRecDepth 100000 in
theorem k_AckBook_Flow_init {b0 : Nat} {H0 : Heap} {D : va_G} {ZS : List (String × String × String × Value)} {l : Launch} (hT : z_TB (zGG b0 H0 D ZS)) (hfl : l.flags = pinnedFlags ++ [noTraceFlag]) {a0 : Option Nat} (F : Nat) {w : zW} (res : zO × zW) (h : f_AckBook_Flow_init F a0 w = some res) : z_Ct (zGG b0 H0 D ZS) l y_AckBook_Flow_init (.code y_AckBook_Flow_init c_AckBook_Flow_init 1 (none)) 1 24 [va_rf a0] w res := by
  refine z_ct hT hfl (by decide) (by simp only [z_sl_i, z_sl_j, z_sl_r, z_sl_n]; decide) ?_
  intro p e R s m args below meth c hC hr hRc hRs hRt hnm hFr H ls hZ hl
  simp only [z_la_i, z_la_j, z_la_r, z_la_n] at hl
  have hl : lv_has ls 1 [(0, va_rf a0)] := hl
  unfold f_AckBook_Flow_init at h
  refine x_aload_n hC d_AckBook_Flow_init_0 rfl (lv_at hl 0 rfl) ?_
  obtain ⟨_, e_, h⟩ := z_nn_spec h
  refine x_objInit hC hZ e_ t_223 ⟨t_32, t_33⟩ hl.1 d_AckBook_Flow_init_1 (by rw [hRt.1]; decide) (by rw [hRt.2]; first | exact Nat.le_of_ble_eq_true rfl | simp [z_rfc, z_ci, z_cj]) ?_
  refine x_aload_n hC d_AckBook_Flow_init_4 rfl (lv_at hl 0 rfl) ?_
  refine lv_sipush (v := (12000 : Int32)) hC.1 hC.2.1 d_AckBook_Flow_init_5 (by decide) ?_
  refine x_put hC hZ zc8 h (by decide) t_226 (fun _ h9 => h9) rfl rfl rfl rfl d_AckBook_Flow_init_8 (fun w H locs hZ h => ?_)
  refine x_aload_n hC d_AckBook_Flow_init_11 rfl (lv_at hl 0 rfl) ?_
  refine lv_iconst (v := (-1 : Int32)) hC.1 hC.2.1 d_AckBook_Flow_init_12 (by decide) ?_
  refine x_put hC hZ zc8 h (by decide) t_228 (fun _ h9 => h9) rfl rfl rfl rfl d_AckBook_Flow_init_13 (fun w H locs hZ h => ?_)
  refine x_aload_n hC d_AckBook_Flow_init_16 rfl (lv_at hl 0 rfl) ?_
  refine lv_iconst (v := (-1 : Int32)) hC.1 hC.2.1 d_AckBook_Flow_init_17 (by decide) ?_
  refine x_put hC hZ zc8 h (by decide) t_230 (fun _ h9 => h9) rfl rfl rfl rfl d_AckBook_Flow_init_18 (fun w H locs hZ h => ?_)
  exact x_vret hC hRc hRs hZ hr h d_AckBook_Flow_init_21
def f_AckBook_Way_patience (F : Nat) (a0 : Option Nat) (w : zW) : zR :=
  z_getI w 7 0 a0 fun v1 =>
  z_getI w 7 1 a0 fun v2 =>
  some (.inl (some (.int ((v1 / (8 : Int32)) + (if v2 < (1 : Int32) then (1 : Int32) else v2)))), w)
set_option maxHeartbeats 4000000 in
set_option maxRecDepth 100000 in
theorem k_AckBook_Way_patience {b0 : Nat} {H0 : Heap} {D : va_G} {ZS : List (String × String × String × Value)} {l : Launch} (hT : z_TB (zGG b0 H0 D ZS)) (hfl : l.flags = pinnedFlags ++ [noTraceFlag]) {a0 : Option Nat} (F : Nat) {w : zW} (res : zO × zW) (h : f_AckBook_Way_patience F a0 w = some res) : z_Ct (zGG b0 H0 D ZS) l y_AckBook_Way_patience (.code y_AckBook_Way_patience c_AckBook_Way_patience 1 (some FieldType.int)) 1 24 [va_rf a0] w res := by
  refine z_ct hT hfl (by decide) (by simp only [z_sl_i, z_sl_j, z_sl_r, z_sl_n]; decide) ?_
  intro p e R s m args below meth c hC hr hRc hRs hRt hnm hFr H ls hZ hl
  simp only [z_la_i, z_la_j, z_la_r, z_la_n] at hl
  have hl : lv_has ls 1 [(0, va_rf a0)] := hl
  unfold f_AckBook_Way_patience at h
  refine x_aload_n hC d_AckBook_Way_patience_0 rfl (lv_at hl 0 rfl) ?_
  refine x_getI hC hZ zc7 h (by decide) t_197 (fun _ h9 => h9) d_AckBook_Way_patience_1 (fun v1 h => ?_)
  refine lv_bipush (v := (8 : Int32)) hC.1 hC.2.1 d_AckBook_Way_patience_4 (by decide) ?_
  refine lv_idiv hC.1 hC.2.1 d_AckBook_Way_patience_6 (by decide) ?_
  refine x_aload_n hC d_AckBook_Way_patience_7 rfl (lv_at hl 0 rfl) ?_
  refine x_getI hC hZ zc7 h (by decide) t_199 (fun _ h9 => h9) d_AckBook_Way_patience_8 (fun v2 h => ?_)
  refine lv_iconst (v := (1 : Int32)) hC.1 hC.2.1 d_AckBook_Way_patience_11 (by decide) ?_
  refine va_mmax hC.1 hC.2.1 (hC.2.2.1.trans hl.1.symm) hC.2.2.2.1 ((hZ.1.tb hC.2.2.2.2.2.2 args) _ t_289) ((hZ.1.tb hC.2.2.2.2.2.2 args) _ t_290) ((hZ.1.tb hC.2.2.2.2.2.2 args) _ t_20) ((hZ.1.tb hC.2.2.2.2.2.2 args) _ t_291) (by rw [hRt.1]; decide) (by rw [hRt.2]; first | exact Nat.le_of_ble_eq_true rfl | simp [z_rfc, z_ci, z_cj]) (hZ.2.2.1 ▸ Nat.le_add_right _ _) (hZ.2.2.2 ▸ Nat.le_add_right _ _) d_AckBook_Way_patience_12 ?_
  refine lv_iadd hC.1 hC.2.1 d_AckBook_Way_patience_15 ?_
  exact x_iret hC hRc hRs hZ hr rfl h d_AckBook_Way_patience_16
def f_AckBook_Way_limit (F : Nat) (a0 : Option Nat) (w : zW) : zR :=
  z_getI w 7 0 a0 fun v1 =>
  z_getI w 7 2 a0 fun v2 =>
  some (.inl (some (.int (if (((9 : Int32) * (if (v1 / (8 : Int32)) < v2 then v2 else (v1 / (8 : Int32)))) / (8 : Int32)) < (1 : Int32) then (1 : Int32) else (((9 : Int32) * (if (v1 / (8 : Int32)) < v2 then v2 else (v1 / (8 : Int32)))) / (8 : Int32))))), w)
set_option maxHeartbeats 4000000 in
set_option maxRecDepth 100000 in
theorem k_AckBook_Way_limit {b0 : Nat} {H0 : Heap} {D : va_G} {ZS : List (String × String × String × Value)} {l : Launch} (hT : z_TB (zGG b0 H0 D ZS)) (hfl : l.flags = pinnedFlags ++ [noTraceFlag]) {a0 : Option Nat} (F : Nat) {w : zW} (res : zO × zW) (h : f_AckBook_Way_limit F a0 w = some res) : z_Ct (zGG b0 H0 D ZS) l y_AckBook_Way_limit (.code y_AckBook_Way_limit c_AckBook_Way_limit 1 (some FieldType.int)) 1 24 [va_rf a0] w res := by
  refine z_ct hT hfl (by decide) (by simp only [z_sl_i, z_sl_j, z_sl_r, z_sl_n]; decide) ?_
  intro p e R s m args below meth c hC hr hRc hRs hRt hnm hFr H ls hZ hl
  simp only [z_la_i, z_la_j, z_la_r, z_la_n] at hl
  have hl : lv_has ls 1 [(0, va_rf a0)] := hl
  unfold f_AckBook_Way_limit at h
  refine lv_bipush (v := (9 : Int32)) hC.1 hC.2.1 d_AckBook_Way_limit_0 (by decide) ?_
  refine x_aload_n hC d_AckBook_Way_limit_2 rfl (lv_at hl 0 rfl) ?_
  refine x_getI hC hZ zc7 h (by decide) t_197 (fun _ h9 => h9) d_AckBook_Way_limit_3 (fun v1 h => ?_)
  refine lv_bipush (v := (8 : Int32)) hC.1 hC.2.1 d_AckBook_Way_limit_6 (by decide) ?_
  refine lv_idiv hC.1 hC.2.1 d_AckBook_Way_limit_8 (by decide) ?_
  refine x_aload_n hC d_AckBook_Way_limit_9 rfl (lv_at hl 0 rfl) ?_
  refine x_getI hC hZ zc7 h (by decide) t_201 (fun _ h9 => h9) d_AckBook_Way_limit_10 (fun v2 h => ?_)
  refine va_mmax hC.1 hC.2.1 (hC.2.2.1.trans hl.1.symm) hC.2.2.2.1 ((hZ.1.tb hC.2.2.2.2.2.2 args) _ t_289) ((hZ.1.tb hC.2.2.2.2.2.2 args) _ t_290) ((hZ.1.tb hC.2.2.2.2.2.2 args) _ t_20) ((hZ.1.tb hC.2.2.2.2.2.2 args) _ t_291) (by rw [hRt.1]; decide) (by rw [hRt.2]; first | exact Nat.le_of_ble_eq_true rfl | simp [z_rfc, z_ci, z_cj]) (hZ.2.2.1 ▸ Nat.le_add_right _ _) (hZ.2.2.2 ▸ Nat.le_add_right _ _) d_AckBook_Way_limit_13 ?_
  refine lv_imul hC.1 hC.2.1 d_AckBook_Way_limit_16 ?_
  refine lv_bipush (v := (8 : Int32)) hC.1 hC.2.1 d_AckBook_Way_limit_17 (by decide) ?_
  refine lv_idiv hC.1 hC.2.1 d_AckBook_Way_limit_19 (by decide) ?_
  refine lv_iconst (v := (1 : Int32)) hC.1 hC.2.1 d_AckBook_Way_limit_20 (by decide) ?_
  refine va_mmax hC.1 hC.2.1 (hC.2.2.1.trans hl.1.symm) hC.2.2.2.1 ((hZ.1.tb hC.2.2.2.2.2.2 args) _ t_289) ((hZ.1.tb hC.2.2.2.2.2.2 args) _ t_290) ((hZ.1.tb hC.2.2.2.2.2.2 args) _ t_20) ((hZ.1.tb hC.2.2.2.2.2.2 args) _ t_291) (by rw [hRt.1]; decide) (by rw [hRt.2]; first | exact Nat.le_of_ble_eq_true rfl | simp [z_rfc, z_ci, z_cj]) (hZ.2.2.1 ▸ Nat.le_add_right _ _) (hZ.2.2.2 ▸ Nat.le_add_right _ _) d_AckBook_Way_limit_21 ?_
  exact x_iret hC hRc hRs hZ hr rfl h d_AckBook_Way_limit_24
def f_AckBook_Chain_append (F : Nat) (a0 : Option Nat) (pR1 : Option Nat) (w : zW) : zR :=
  z_getR w 3 0 a0 fun r1 =>
  if r1 = none then (
    z_put w 3 0 a0 (va_rf pR1) fun w =>
    z_put w 3 1 a0 (va_rf pR1) fun w =>
    some (.inl none, w))
  else (
    z_getR w 3 1 a0 fun r2 =>
    if r2 = none then (
      z_put w 3 0 a0 (va_rf pR1) fun w =>
      z_put w 3 1 a0 (va_rf pR1) fun w =>
      some (.inl none, w))
    else (
      z_getR w 3 1 a0 fun r3 =>
      z_put w 9 7 r3 (va_rf pR1) fun w =>
      z_put w 3 1 a0 (va_rf pR1) fun w =>
      some (.inl none, w)))
set_option maxHeartbeats 4000000 in
set_option maxRecDepth 100000 in
theorem k_AckBook_Chain_append {b0 : Nat} {H0 : Heap} {D : va_G} {ZS : List (String × String × String × Value)} {l : Launch} (hT : z_TB (zGG b0 H0 D ZS)) (hfl : l.flags = pinnedFlags ++ [noTraceFlag]) {a0 : Option Nat} {pR1 : Option Nat} (F : Nat) {w : zW} (res : zO × zW) (h : f_AckBook_Chain_append F a0 pR1 w = some res) : z_Ct (zGG b0 H0 D ZS) l y_AckBook_Chain_append (.code y_AckBook_Chain_append c_AckBook_Chain_append 2 (none)) 0 0 [va_rf a0, va_rf pR1] w res := by
  refine z_ct hT hfl (by decide) (by simp only [z_sl_i, z_sl_j, z_sl_r, z_sl_n]; decide) ?_
  intro p e R s m args below meth c hC hr hRc hRs hRt hnm hFr H ls hZ hl
  simp only [z_la_i, z_la_j, z_la_r, z_la_n] at hl
  have hl : lv_has ls 2 [(0, va_rf a0), (1, va_rf pR1)] := hl
  unfold f_AckBook_Chain_append at h
  refine x_aload_n hC d_AckBook_Chain_append_0 rfl (lv_at hl 0 rfl) ?_
  refine x_getR hC hZ zc3 h (by decide) t_53 (fun _ h9 => h9) d_AckBook_Chain_append_1 (fun r1 h => ?_)
  refine x_ifnull (tgt := 14) hC d_AckBook_Chain_append_4 (by decide) (fun hc => ?_) (fun hc => ?_)
  · have h := z_ifp hc h
    refine x_aload_n hC d_AckBook_Chain_append_14 rfl (lv_at hl 0 rfl) ?_
    refine x_aload_n hC d_AckBook_Chain_append_15 rfl (lv_at hl 1 rfl) ?_
    refine x_put hC hZ zc3 h (by decide) t_53 (fun _ h9 => h9) rfl rfl (z_rfn _ _) (z_rff _ _) d_AckBook_Chain_append_16 (fun w H locs hZ h => ?_)
    refine lv_goto (tgt := 30) hC.1 hC.2.1 d_AckBook_Chain_append_19 (by decide) ?_
    refine x_aload_n hC d_AckBook_Chain_append_30 rfl (lv_at hl 0 rfl) ?_
    refine x_aload_n hC d_AckBook_Chain_append_31 rfl (lv_at hl 1 rfl) ?_
    refine x_put hC hZ zc3 h (by decide) t_54 (fun _ h9 => h9) rfl rfl (z_rfn _ _) (z_rff _ _) d_AckBook_Chain_append_32 (fun w H locs hZ h => ?_)
    exact x_vret hC hRc hRs hZ hr h d_AckBook_Chain_append_35
  · have h := z_ifn hc h
    refine x_aload_n hC d_AckBook_Chain_append_7 rfl (lv_at hl 0 rfl) ?_
    refine x_getR hC hZ zc3 h (by decide) t_54 (fun _ h9 => h9) d_AckBook_Chain_append_8 (fun r2 h => ?_)
    refine x_ifnonnull (tgt := 22) hC d_AckBook_Chain_append_11 (by decide) (fun hc => ?_) (fun hc => ?_)
    · have h := z_ifn hc h
      refine x_aload_n hC d_AckBook_Chain_append_22 rfl (lv_at hl 0 rfl) ?_
      refine x_getR hC hZ zc3 h (by decide) t_54 (fun _ h9 => h9) d_AckBook_Chain_append_23 (fun r3 h => ?_)
      refine x_aload_n hC d_AckBook_Chain_append_26 rfl (lv_at hl 1 rfl) ?_
      refine x_put hC hZ zc9 h (by decide) t_503 (fun _ h9 => h9) rfl rfl (z_rfn _ _) (z_rff _ _) d_AckBook_Chain_append_27 (fun w H locs hZ h => ?_)
      refine x_aload_n hC d_AckBook_Chain_append_30 rfl (lv_at hl 0 rfl) ?_
      refine x_aload_n hC d_AckBook_Chain_append_31 rfl (lv_at hl 1 rfl) ?_
      refine x_put hC hZ zc3 h (by decide) t_54 (fun _ h9 => h9) rfl rfl (z_rfn _ _) (z_rff _ _) d_AckBook_Chain_append_32 (fun w H locs hZ h => ?_)
      exact x_vret hC hRc hRs hZ hr h d_AckBook_Chain_append_35
    · have h := z_ifp hc h
      refine x_aload_n hC d_AckBook_Chain_append_14 rfl (lv_at hl 0 rfl) ?_
      refine x_aload_n hC d_AckBook_Chain_append_15 rfl (lv_at hl 1 rfl) ?_
      refine x_put hC hZ zc3 h (by decide) t_53 (fun _ h9 => h9) rfl rfl (z_rfn _ _) (z_rff _ _) d_AckBook_Chain_append_16 (fun w H locs hZ h => ?_)
      refine lv_goto (tgt := 30) hC.1 hC.2.1 d_AckBook_Chain_append_19 (by decide) ?_
      refine x_aload_n hC d_AckBook_Chain_append_30 rfl (lv_at hl 0 rfl) ?_
      refine x_aload_n hC d_AckBook_Chain_append_31 rfl (lv_at hl 1 rfl) ?_
      refine x_put hC hZ zc3 h (by decide) t_54 (fun _ h9 => h9) rfl rfl (z_rfn _ _) (z_rff _ _) d_AckBook_Chain_append_32 (fun w H locs hZ h => ?_)
      exact x_vret hC hRc hRs hZ hr h d_AckBook_Chain_append_35
def f_AckBook_Flow_leave (F : Nat) (a0 : Option Nat) (pR1 : Option Nat) (w : zW) : zR :=
  z_getI w 9 4 pR1 fun v1 =>
  if v1 = 0 then (
    some (.inl none, w))
  else (
    z_getI w 8 0 a0 fun v2 =>
    z_getI w 9 1 pR1 fun v3 =>
    z_put w 8 0 a0 (.int (v2 - v3)) fun w =>
    some (.inl none, w))
set_option maxHeartbeats 4000000 in
set_option maxRecDepth 100000 in
theorem k_AckBook_Flow_leave {b0 : Nat} {H0 : Heap} {D : va_G} {ZS : List (String × String × String × Value)} {l : Launch} (hT : z_TB (zGG b0 H0 D ZS)) (hfl : l.flags = pinnedFlags ++ [noTraceFlag]) {a0 : Option Nat} {pR1 : Option Nat} (F : Nat) {w : zW} (res : zO × zW) (h : f_AckBook_Flow_leave F a0 pR1 w = some res) : z_Ct (zGG b0 H0 D ZS) l y_AckBook_Flow_leave (.code y_AckBook_Flow_leave c_AckBook_Flow_leave 2 (none)) 0 0 [va_rf a0, va_rf pR1] w res := by
  refine z_ct hT hfl (by decide) (by simp only [z_sl_i, z_sl_j, z_sl_r, z_sl_n]; decide) ?_
  intro p e R s m args below meth c hC hr hRc hRs hRt hnm hFr H ls hZ hl
  simp only [z_la_i, z_la_j, z_la_r, z_la_n] at hl
  have hl : lv_has ls 2 [(0, va_rf a0), (1, va_rf pR1)] := hl
  unfold f_AckBook_Flow_leave at h
  refine x_aload_n hC d_AckBook_Flow_leave_0 rfl (lv_at hl 1 rfl) ?_
  refine x_getI hC hZ zc9 h (by decide) t_498 (fun _ h9 => h9) d_AckBook_Flow_leave_1 (fun v1 h => ?_)
  refine lv_if_eq (tgt := 20) hC.1 hC.2.1 d_AckBook_Flow_leave_4 (by decide) (fun hc => ?_) (fun hc => ?_)
  · have h := z_ifp hc h
    exact x_vret hC hRc hRs hZ hr h d_AckBook_Flow_leave_20
  · have h := z_ifn hc h
    refine x_aload_n hC d_AckBook_Flow_leave_7 rfl (lv_at hl 0 rfl) ?_
    refine lv_dup hC.1 hC.2.1 d_AckBook_Flow_leave_8 (z_rfc _) ?_
    refine x_getI hC hZ zc8 h (by decide) t_224 (fun _ h9 => h9) d_AckBook_Flow_leave_9 (fun v2 h => ?_)
    refine x_aload_n hC d_AckBook_Flow_leave_12 rfl (lv_at hl 1 rfl) ?_
    refine x_getI hC hZ zc9 h (by decide) t_489 (fun _ h9 => h9) d_AckBook_Flow_leave_13 (fun v3 h => ?_)
    refine lv_isub hC.1 hC.2.1 d_AckBook_Flow_leave_16 ?_
    refine x_put hC hZ zc8 h (by decide) t_224 (fun _ h9 => h9) rfl rfl rfl rfl d_AckBook_Flow_leave_17 (fun w H locs hZ h => ?_)
    exact x_vret hC hRc hRs hZ hr h d_AckBook_Flow_leave_20
def f_AckBook_Flow_isAfterRecovery (F : Nat) (a0 : Option Nat) (pR1 : Option Nat) (w : zW) : zR :=
  z_getI w 8 3 a0 fun v1 =>
  if v1 = (-1 : Int32) then (
    some (.inl (some (.int (1 : Int32))), w))
  else (
    z_getI w 9 2 pR1 fun v2 =>
    z_getI w 8 3 a0 fun v3 =>
    if v2 ≤ v3 then (
      some (.inl (some (.int (0 : Int32))), w))
    else (
      some (.inl (some (.int (1 : Int32))), w)))
set_option maxHeartbeats 4000000 in
set_option maxRecDepth 100000 in
theorem k_AckBook_Flow_isAfterRecovery {b0 : Nat} {H0 : Heap} {D : va_G} {ZS : List (String × String × String × Value)} {l : Launch} (hT : z_TB (zGG b0 H0 D ZS)) (hfl : l.flags = pinnedFlags ++ [noTraceFlag]) {a0 : Option Nat} {pR1 : Option Nat} (F : Nat) {w : zW} (res : zO × zW) (h : f_AckBook_Flow_isAfterRecovery F a0 pR1 w = some res) : z_Ct (zGG b0 H0 D ZS) l y_AckBook_Flow_isAfterRecovery (.code y_AckBook_Flow_isAfterRecovery c_AckBook_Flow_isAfterRecovery 2 (some FieldType.boolean)) 0 0 [va_rf a0, va_rf pR1] w res := by
  refine z_ct hT hfl (by decide) (by simp only [z_sl_i, z_sl_j, z_sl_r, z_sl_n]; decide) ?_
  intro p e R s m args below meth c hC hr hRc hRs hRt hnm hFr H ls hZ hl
  simp only [z_la_i, z_la_j, z_la_r, z_la_n] at hl
  have hl : lv_has ls 2 [(0, va_rf a0), (1, va_rf pR1)] := hl
  unfold f_AckBook_Flow_isAfterRecovery at h
  refine x_aload_n hC d_AckBook_Flow_isAfterRecovery_0 rfl (lv_at hl 0 rfl) ?_
  refine x_getI hC hZ zc8 h (by decide) t_230 (fun _ h9 => h9) d_AckBook_Flow_isAfterRecovery_1 (fun v1 h => ?_)
  refine lv_iconst (v := (-1 : Int32)) hC.1 hC.2.1 d_AckBook_Flow_isAfterRecovery_4 (by decide) ?_
  refine lv_icmp_eq (tgt := 19) hC.1 hC.2.1 d_AckBook_Flow_isAfterRecovery_5 (by decide) (fun hc => ?_) (fun hc => ?_)
  · have h := z_ifp hc h
    refine lv_iconst (v := (1 : Int32)) hC.1 hC.2.1 d_AckBook_Flow_isAfterRecovery_19 (by decide) ?_
    refine lv_goto (tgt := 24) hC.1 hC.2.1 d_AckBook_Flow_isAfterRecovery_20 (by decide) ?_
    exact x_iret hC hRc hRs hZ hr rfl h d_AckBook_Flow_isAfterRecovery_24
  · have h := z_ifn hc h
    refine x_aload_n hC d_AckBook_Flow_isAfterRecovery_8 rfl (lv_at hl 1 rfl) ?_
    refine x_getI hC hZ zc9 h (by decide) t_492 (fun _ h9 => h9) d_AckBook_Flow_isAfterRecovery_9 (fun v2 h => ?_)
    refine x_aload_n hC d_AckBook_Flow_isAfterRecovery_12 rfl (lv_at hl 0 rfl) ?_
    refine x_getI hC hZ zc8 h (by decide) t_230 (fun _ h9 => h9) d_AckBook_Flow_isAfterRecovery_13 (fun v3 h => ?_)
    refine lv_icmp_le (tgt := 23) hC.1 hC.2.1 d_AckBook_Flow_isAfterRecovery_16 (by decide) (fun hc => ?_) (fun hc => ?_)
    · have h := z_ifp hc h
      refine lv_iconst (v := (0 : Int32)) hC.1 hC.2.1 d_AckBook_Flow_isAfterRecovery_23 (by decide) ?_
      exact x_iret hC hRc hRs hZ hr rfl h d_AckBook_Flow_isAfterRecovery_24
    · have h := z_ifn hc h
      refine lv_iconst (v := (1 : Int32)) hC.1 hC.2.1 d_AckBook_Flow_isAfterRecovery_19 (by decide) ?_
      refine lv_goto (tgt := 24) hC.1 hC.2.1 d_AckBook_Flow_isAfterRecovery_20 (by decide) ?_
      exact x_iret hC hRc hRs hZ hr rfl h d_AckBook_Flow_isAfterRecovery_24
def j_AckBook_Flow_leaveLost (F : Nat) : Nat → Option Nat → Int32 → Int32 → Option Nat → zW → zR
  | 0, _, _, _, _, _ => none
  | N + 1, rL0, xL2, xL3, rL4, w =>
    if rL4 = none then (
      if xL3 = 0 then (
        some (.inl none, w))
      else (
        z_put w 8 3 rL0 (.int xL2) fun w =>
        z_getI w 8 1 rL0 fun v1 =>
        z_put w 8 2 rL0 (.int (v1 / (2 : Int32))) fun w =>
        z_getI w 8 2 rL0 fun v2 =>
        z_put w 8 1 rL0 (.int (if v2 < (2400 : Int32) then (2400 : Int32) else v2)) fun w =>
        some (.inl none, w)))
    else (
      z_this w 8 rL0 <|
      z_cV (f_AckBook_Flow_leave F rL0 rL4 w) fun w =>
      if xL3 = 0 then (
        z_getI w 9 4 rL4 fun v4 =>
        if v4 = 0 then (
          z_getR w 9 7 rL4 fun r5 =>
          j_AckBook_Flow_leaveLost F N rL0 xL2 (0 : Int32) r5 w)
        else (
          z_this w 8 rL0 <|
          z_cI (f_AckBook_Flow_isAfterRecovery F rL0 rL4 w) fun v7 w =>
          if v7 = 0 then (
            z_getR w 9 7 rL4 fun r8 =>
            j_AckBook_Flow_leaveLost F N rL0 xL2 (0 : Int32) r8 w)
          else (
            z_getR w 9 7 rL4 fun r9 =>
            j_AckBook_Flow_leaveLost F N rL0 xL2 (1 : Int32) r9 w)))
      else (
        z_getR w 9 7 rL4 fun r10 =>
        j_AckBook_Flow_leaveLost F N rL0 xL2 (1 : Int32) r10 w))
def f_AckBook_Flow_leaveLost (F : Nat) (a0 : Option Nat) (pR1 : Option Nat) (pI2 : Int32) (w : zW) : zR :=
  j_AckBook_Flow_leaveLost F F a0 pI2 (0 : Int32) pR1 w
set_option maxHeartbeats 4000000 in
set_option maxRecDepth 100000 in
theorem kj_AckBook_Flow_leaveLost {b0 : Nat} {H0 : Heap} {D : va_G} {ZS : List (String × String × String × Value)} {l : Launch} (hT : z_TB (zGG b0 H0 D ZS)) (hfl : l.flags = pinnedFlags ++ [noTraceFlag]) {p : Program} {e : Env} {R : Room} {s : State} {m : MethodId} {args : Array Value} {below : List Frame} {meth : Method} {c : Code} {w0 : zW} {F : Nat} (hC : z_C (zGG b0 H0 D ZS) p e s m meth c c_AckBook_Flow_leaveLost 5 y_AckBook_Flow_leaveLost.cls) (hr : meth.sig.returnType = (none)) (hRc : R.cells = w0.2.1) (hRs : R.slots = w0.2.2.1) (hFr : c.exceptionTable.toList = []) (hRt : R.frames = 1 ∧ R.locals = 24) (hnm : meth.name = y_AckBook_Flow_leaveLost.name) : ∀ N : Nat, (∀ (rL0 : Option Nat) (xL2 : Int32) (xL3 : Int32) (rL4 : Option Nat) (w : zW) (res : zO × zW), j_AckBook_Flow_leaveLost F N rL0 xL2 xL3 rL4 w = some res → ∀ (H : Heap) (locs : List Loc) (cells slots : Nat) (ls : Array Slot), z_Z (zGG b0 H0 D ZS) R s w H locs cells slots → lv_has ls 5 [(0, va_rf rL0), (2, .int xL2), (3, .int xL3), (4, va_rf rL4)] → W p l e R s m args below meth c H locs cells slots (z_Q (zGG b0 H0 D ZS) below s w0 res) (F0 m 5 ls [])) := by
  intro N
  induction N with
  | zero =>
    intro rL0 xL2 xL3 rL4 w res h
    rw [j_AckBook_Flow_leaveLost] at h
    cases h
  | succ N ih =>
    intro rL0 xL2 xL3 rL4 w res h H locs cells slots ls hZ hl
    rw [j_AckBook_Flow_leaveLost] at h
    refine x_aload hC d_AckBook_Flow_leaveLost_5 (lv_at hl 3 rfl) ?_
    refine x_ifnull (tgt := 53) hC d_AckBook_Flow_leaveLost_7 (by decide) (fun hc => ?_) (fun hc => ?_)
    · have h := z_ifp hc h
      refine lv_iload_n hC.1 hC.2.1 d_AckBook_Flow_leaveLost_53 rfl (lv_at hl 2 rfl) ?_
      refine lv_if_eq (tgt := 86) hC.1 hC.2.1 d_AckBook_Flow_leaveLost_54 (by decide) (fun hc => ?_) (fun hc => ?_)
      · have h := z_ifp hc h
        exact x_vret hC hRc hRs hZ hr h d_AckBook_Flow_leaveLost_86
      · have h := z_ifn hc h
        refine x_aload_n hC d_AckBook_Flow_leaveLost_57 rfl (lv_at hl 0 rfl) ?_
        refine lv_iload_n hC.1 hC.2.1 d_AckBook_Flow_leaveLost_58 rfl (lv_at hl 1 rfl) ?_
        refine x_put hC hZ zc8 h (by decide) t_230 (fun _ h9 => h9) rfl rfl rfl rfl d_AckBook_Flow_leaveLost_59 (fun w H locs hZ h => ?_)
        refine x_aload_n hC d_AckBook_Flow_leaveLost_62 rfl (lv_at hl 0 rfl) ?_
        refine x_aload_n hC d_AckBook_Flow_leaveLost_63 rfl (lv_at hl 0 rfl) ?_
        refine x_getI hC hZ zc8 h (by decide) t_226 (fun _ h9 => h9) d_AckBook_Flow_leaveLost_64 (fun v1 h => ?_)
        refine lv_iconst (v := (2 : Int32)) hC.1 hC.2.1 d_AckBook_Flow_leaveLost_67 (by decide) ?_
        refine lv_idiv hC.1 hC.2.1 d_AckBook_Flow_leaveLost_68 (by decide) ?_
        refine x_put hC hZ zc8 h (by decide) t_228 (fun _ h9 => h9) rfl rfl rfl rfl d_AckBook_Flow_leaveLost_69 (fun w H locs hZ h => ?_)
        refine x_aload_n hC d_AckBook_Flow_leaveLost_72 rfl (lv_at hl 0 rfl) ?_
        refine x_aload_n hC d_AckBook_Flow_leaveLost_73 rfl (lv_at hl 0 rfl) ?_
        refine x_getI hC hZ zc8 h (by decide) t_228 (fun _ h9 => h9) d_AckBook_Flow_leaveLost_74 (fun v2 h => ?_)
        refine lv_sipush (v := (2400 : Int32)) hC.1 hC.2.1 d_AckBook_Flow_leaveLost_77 (by decide) ?_
        refine va_mmax hC.1 hC.2.1 (hC.2.2.1.trans hl.1.symm) hC.2.2.2.1 ((hZ.1.tb hC.2.2.2.2.2.2 args) _ t_347) ((hZ.1.tb hC.2.2.2.2.2.2 args) _ t_290) ((hZ.1.tb hC.2.2.2.2.2.2 args) _ t_20) ((hZ.1.tb hC.2.2.2.2.2.2 args) _ t_291) (by rw [hRt.1]; decide) (by rw [hRt.2]; first | exact Nat.le_of_ble_eq_true rfl | simp [z_rfc, z_ci, z_cj]) (hZ.2.2.1 ▸ Nat.le_add_right _ _) (hZ.2.2.2 ▸ Nat.le_add_right _ _) d_AckBook_Flow_leaveLost_80 ?_
        refine x_put hC hZ zc8 h (by decide) t_226 (fun _ h9 => h9) rfl rfl rfl rfl d_AckBook_Flow_leaveLost_83 (fun w H locs hZ h => ?_)
        exact x_vret hC hRc hRs hZ hr h d_AckBook_Flow_leaveLost_86
    · have h := z_ifn hc h
      refine x_aload_n hC d_AckBook_Flow_leaveLost_10 rfl (lv_at hl 0 rfl) ?_
      refine x_aload hC d_AckBook_Flow_leaveLost_11 (lv_at hl 3 rfl) ?_
      obtain ⟨a_, fs_, eo_, h⟩ := z_this_spec h
      obtain ⟨w1_, o1_, hF_, ha_⟩ := z_cV_spec h
      refine x_goes hC hRc hRs hFr ha_ (z_goV (As := [va_rf rL4]) hC hZ zc8 eo_ (k_AckBook_Flow_leave hT hfl _ _ hF_) t_339 t_340 t_341 t_11 t_342 ⟨by decide, by decide, (by decide +kernel : (parseMethodDescriptor y_AckBook_Flow_leave.desc).map (fun d => d.parameters.length) = some 1)⟩ (by rw [hRt.1]; decide) (by rw [hRt.2]; decide) hl.1 rfl (by first | exact Nat.le_of_ble_eq_true rfl | simp [z_rfc, z_ci, z_cj]) d_AckBook_Flow_leaveLost_13) (fun v_ hv H locs cells slots hZ => ?_)
      obtain ⟨rfl, h⟩ := hv
      generalize w1_ = w at h hZ
      refine lv_iload_n hC.1 hC.2.1 d_AckBook_Flow_leaveLost_16 rfl (lv_at hl 2 rfl) ?_
      refine lv_if_ne (tgt := 37) hC.1 hC.2.1 d_AckBook_Flow_leaveLost_17 (by decide) (fun hc => ?_) (fun hc => ?_)
      · have h := z_ifn hc h
        refine lv_iconst (v := (1 : Int32)) hC.1 hC.2.1 d_AckBook_Flow_leaveLost_37 (by decide) ?_
        refine lv_goto (tgt := 42) hC.1 hC.2.1 d_AckBook_Flow_leaveLost_38 (by decide) ?_
        refine lv_istore_n (lv' := [(3, .int (1 : Int32)), (0, va_rf rL0), (2, .int xL2), (4, va_rf rL4)]) hC.1 hC.2.1 d_AckBook_Flow_leaveLost_42 rfl hl (by decide) (by first | rfl | simp [z_rfc, z_ci, z_cj]) (fun ls hl => ?_)
        refine x_aload hC d_AckBook_Flow_leaveLost_43 (lv_at hl 3 rfl) ?_
        refine x_getR hC hZ zc9 h (by decide) t_504 (fun _ h9 => h9) d_AckBook_Flow_leaveLost_45 (fun r10 h => ?_)
        refine x_astore (lv' := [(4, va_rf r10), (3, .int (1 : Int32)), (0, va_rf rL0), (2, .int xL2)]) hC d_AckBook_Flow_leaveLost_48 hl (by decide) (by first | rfl | simp [z_rfc, z_ci, z_cj]) (fun ls hl => ?_)
        refine lv_goto (tgt := 5) hC.1 hC.2.1 d_AckBook_Flow_leaveLost_50 (by decide) ?_
        exact ih _ _ _ _ _ _ h _ _ _ _ _ hZ (lv_sub hl [2, 3, 1, 0] rfl)
      · have h := z_ifp hc h
        refine x_aload hC d_AckBook_Flow_leaveLost_20 (lv_at hl 3 rfl) ?_
        refine x_getI hC hZ zc9 h (by decide) t_498 (fun _ h9 => h9) d_AckBook_Flow_leaveLost_22 (fun v4 h => ?_)
        refine lv_if_eq (tgt := 41) hC.1 hC.2.1 d_AckBook_Flow_leaveLost_25 (by decide) (fun hc => ?_) (fun hc => ?_)
        · have h := z_ifp hc h
          refine lv_iconst (v := (0 : Int32)) hC.1 hC.2.1 d_AckBook_Flow_leaveLost_41 (by decide) ?_
          refine lv_istore_n (lv' := [(3, .int (0 : Int32)), (0, va_rf rL0), (2, .int xL2), (4, va_rf rL4)]) hC.1 hC.2.1 d_AckBook_Flow_leaveLost_42 rfl hl (by decide) (by first | rfl | simp [z_rfc, z_ci, z_cj]) (fun ls hl => ?_)
          refine x_aload hC d_AckBook_Flow_leaveLost_43 (lv_at hl 3 rfl) ?_
          refine x_getR hC hZ zc9 h (by decide) t_504 (fun _ h9 => h9) d_AckBook_Flow_leaveLost_45 (fun r5 h => ?_)
          refine x_astore (lv' := [(4, va_rf r5), (3, .int (0 : Int32)), (0, va_rf rL0), (2, .int xL2)]) hC d_AckBook_Flow_leaveLost_48 hl (by decide) (by first | rfl | simp [z_rfc, z_ci, z_cj]) (fun ls hl => ?_)
          refine lv_goto (tgt := 5) hC.1 hC.2.1 d_AckBook_Flow_leaveLost_50 (by decide) ?_
          exact ih _ _ _ _ _ _ h _ _ _ _ _ hZ (lv_sub hl [2, 3, 1, 0] rfl)
        · have h := z_ifn hc h
          refine x_aload_n hC d_AckBook_Flow_leaveLost_28 rfl (lv_at hl 0 rfl) ?_
          refine x_aload hC d_AckBook_Flow_leaveLost_29 (lv_at hl 3 rfl) ?_
          obtain ⟨a_, fs_, eo_, h⟩ := z_this_spec h
          obtain ⟨w1_, o1_, hF_, ha_⟩ := z_cI_spec h
          refine x_goes hC hRc hRs hFr ha_ (z_goV (As := [va_rf rL4]) hC hZ zc8 eo_ (k_AckBook_Flow_isAfterRecovery hT hfl _ _ hF_) t_343 t_345 ts_AckBook_Flow_isAfterRecovery t_11 t_346 ⟨by decide, by decide, (by decide +kernel : (parseMethodDescriptor y_AckBook_Flow_isAfterRecovery.desc).map (fun d => d.parameters.length) = some 1)⟩ (by rw [hRt.1]; decide) (by rw [hRt.2]; decide) hl.1 rfl (by first | exact Nat.le_of_ble_eq_true rfl | simp [z_rfc, z_ci, z_cj]) d_AckBook_Flow_leaveLost_31) (fun v_ hv H locs cells slots hZ => ?_)
          obtain ⟨v7, rfl, h⟩ := hv
          generalize w1_ = w at h hZ
          refine lv_if_eq (tgt := 41) hC.1 hC.2.1 d_AckBook_Flow_leaveLost_34 (by decide) (fun hc => ?_) (fun hc => ?_)
          · have h := z_ifp hc h
            refine lv_iconst (v := (0 : Int32)) hC.1 hC.2.1 d_AckBook_Flow_leaveLost_41 (by decide) ?_
            refine lv_istore_n (lv' := [(3, .int (0 : Int32)), (0, va_rf rL0), (2, .int xL2), (4, va_rf rL4)]) hC.1 hC.2.1 d_AckBook_Flow_leaveLost_42 rfl hl (by decide) (by first | rfl | simp [z_rfc, z_ci, z_cj]) (fun ls hl => ?_)
            refine x_aload hC d_AckBook_Flow_leaveLost_43 (lv_at hl 3 rfl) ?_
            refine x_getR hC hZ zc9 h (by decide) t_504 (fun _ h9 => h9) d_AckBook_Flow_leaveLost_45 (fun r8 h => ?_)
            refine x_astore (lv' := [(4, va_rf r8), (3, .int (0 : Int32)), (0, va_rf rL0), (2, .int xL2)]) hC d_AckBook_Flow_leaveLost_48 hl (by decide) (by first | rfl | simp [z_rfc, z_ci, z_cj]) (fun ls hl => ?_)
            refine lv_goto (tgt := 5) hC.1 hC.2.1 d_AckBook_Flow_leaveLost_50 (by decide) ?_
            exact ih _ _ _ _ _ _ h _ _ _ _ _ hZ (lv_sub hl [2, 3, 1, 0] rfl)
          · have h := z_ifn hc h
            refine lv_iconst (v := (1 : Int32)) hC.1 hC.2.1 d_AckBook_Flow_leaveLost_37 (by decide) ?_
            refine lv_goto (tgt := 42) hC.1 hC.2.1 d_AckBook_Flow_leaveLost_38 (by decide) ?_
            refine lv_istore_n (lv' := [(3, .int (1 : Int32)), (0, va_rf rL0), (2, .int xL2), (4, va_rf rL4)]) hC.1 hC.2.1 d_AckBook_Flow_leaveLost_42 rfl hl (by decide) (by first | rfl | simp [z_rfc, z_ci, z_cj]) (fun ls hl => ?_)
            refine x_aload hC d_AckBook_Flow_leaveLost_43 (lv_at hl 3 rfl) ?_
            refine x_getR hC hZ zc9 h (by decide) t_504 (fun _ h9 => h9) d_AckBook_Flow_leaveLost_45 (fun r9 h => ?_)
            refine x_astore (lv' := [(4, va_rf r9), (3, .int (1 : Int32)), (0, va_rf rL0), (2, .int xL2)]) hC d_AckBook_Flow_leaveLost_48 hl (by decide) (by first | rfl | simp [z_rfc, z_ci, z_cj]) (fun ls hl => ?_)
            refine lv_goto (tgt := 5) hC.1 hC.2.1 d_AckBook_Flow_leaveLost_50 (by decide) ?_
            exact ih _ _ _ _ _ _ h _ _ _ _ _ hZ (lv_sub hl [2, 3, 1, 0] rfl)
set_option maxHeartbeats 4000000 in
set_option maxRecDepth 100000 in
theorem k_AckBook_Flow_leaveLost {b0 : Nat} {H0 : Heap} {D : va_G} {ZS : List (String × String × String × Value)} {l : Launch} (hT : z_TB (zGG b0 H0 D ZS)) (hfl : l.flags = pinnedFlags ++ [noTraceFlag]) {a0 : Option Nat} {pR1 : Option Nat} {pI2 : Int32} (F : Nat) {w : zW} (res : zO × zW) (h : f_AckBook_Flow_leaveLost F a0 pR1 pI2 w = some res) : z_Ct (zGG b0 H0 D ZS) l y_AckBook_Flow_leaveLost (.code y_AckBook_Flow_leaveLost c_AckBook_Flow_leaveLost 5 (none)) 1 24 [va_rf a0, va_rf pR1, .int pI2] w res := by
  refine z_ct hT hfl (by decide) (by simp only [z_sl_i, z_sl_j, z_sl_r, z_sl_n]; decide) ?_
  intro p e R s m args below meth c hC hr hRc hRs hRt hnm hFr H ls hZ hl
  simp only [z_la_i, z_la_j, z_la_r, z_la_n] at hl
  have hl : lv_has ls 5 [(0, va_rf a0), (1, va_rf pR1), (2, .int pI2)] := hl
  unfold f_AckBook_Flow_leaveLost at h
  refine lv_iconst (v := (0 : Int32)) hC.1 hC.2.1 d_AckBook_Flow_leaveLost_0 (by decide) ?_
  refine lv_istore_n (lv' := [(3, .int (0 : Int32)), (0, va_rf a0), (1, va_rf pR1), (2, .int pI2)]) hC.1 hC.2.1 d_AckBook_Flow_leaveLost_1 rfl hl (by decide) (by first | rfl | simp [z_rfc, z_ci, z_cj]) (fun ls hl => ?_)
  refine x_aload_n hC d_AckBook_Flow_leaveLost_2 rfl (lv_at hl 2 rfl) ?_
  refine x_astore (lv' := [(4, va_rf pR1), (3, .int (0 : Int32)), (0, va_rf a0), (1, va_rf pR1), (2, .int pI2)]) hC d_AckBook_Flow_leaveLost_3 hl (by decide) (by first | rfl | simp [z_rfc, z_ci, z_cj]) (fun ls hl => ?_)
  exact (kj_AckBook_Flow_leaveLost hT hfl hC hr hRc hRs hFr hRt hnm F) _ _ _ _ _ _ h _ _ _ _ _ hZ (lv_sub hl [2, 4, 1, 0] rfl)
def f_AckBook_Flow_collapse (F : Nat) (a0 : Option Nat) (w : zW) : zR :=
  z_put w 8 1 a0 (.int (2400 : Int32)) fun w =>
  z_put w 8 3 a0 (.int (-1 : Int32)) fun w =>
  some (.inl none, w)
set_option maxHeartbeats 4000000 in
set_option maxRecDepth 100000 in
theorem k_AckBook_Flow_collapse {b0 : Nat} {H0 : Heap} {D : va_G} {ZS : List (String × String × String × Value)} {l : Launch} (hT : z_TB (zGG b0 H0 D ZS)) (hfl : l.flags = pinnedFlags ++ [noTraceFlag]) {a0 : Option Nat} (F : Nat) {w : zW} (res : zO × zW) (h : f_AckBook_Flow_collapse F a0 w = some res) : z_Ct (zGG b0 H0 D ZS) l y_AckBook_Flow_collapse (.code y_AckBook_Flow_collapse c_AckBook_Flow_collapse 1 (none)) 0 0 [va_rf a0] w res := by
  refine z_ct hT hfl (by decide) (by simp only [z_sl_i, z_sl_j, z_sl_r, z_sl_n]; decide) ?_
  intro p e R s m args below meth c hC hr hRc hRs hRt hnm hFr H ls hZ hl
  simp only [z_la_i, z_la_j, z_la_r, z_la_n] at hl
  have hl : lv_has ls 1 [(0, va_rf a0)] := hl
  unfold f_AckBook_Flow_collapse at h
  refine x_aload_n hC d_AckBook_Flow_collapse_0 rfl (lv_at hl 0 rfl) ?_
  refine lv_sipush (v := (2400 : Int32)) hC.1 hC.2.1 d_AckBook_Flow_collapse_1 (by decide) ?_
  refine x_put hC hZ zc8 h (by decide) t_226 (fun _ h9 => h9) rfl rfl rfl rfl d_AckBook_Flow_collapse_4 (fun w H locs hZ h => ?_)
  refine x_aload_n hC d_AckBook_Flow_collapse_7 rfl (lv_at hl 0 rfl) ?_
  refine lv_iconst (v := (-1 : Int32)) hC.1 hC.2.1 d_AckBook_Flow_collapse_8 (by decide) ?_
  refine x_put hC hZ zc8 h (by decide) t_230 (fun _ h9 => h9) rfl rfl rfl rfl d_AckBook_Flow_collapse_9 (fun w H locs hZ h => ?_)
  exact x_vret hC hRc hRs hZ hr h d_AckBook_Flow_collapse_12
def f_AckBook_Packet_init (F : Nat) (a0 : Option Nat) (pI1 : Int32) (pI2 : Int32) (pI3 : Int32) (pI4 : Int32) (pI5 : Int32) (w : zW) : zR :=
  z_nn a0 <|
  z_put w 9 0 a0 (.int pI1) fun w =>
  z_put w 9 1 a0 (.int pI2) fun w =>
  z_put w 9 2 a0 (.int pI3) fun w =>
  z_putZ w 9 3 a0 pI4 fun w =>
  z_putZ w 9 4 a0 pI5 fun w =>
  z_put w 9 6 a0 (.int (0 : Int32)) fun w =>
  some (.inl none, w)
set_option maxHeartbeats 4000000 in
set_option maxRecDepth 100000 in
theorem k_AckBook_Packet_init {b0 : Nat} {H0 : Heap} {D : va_G} {ZS : List (String × String × String × Value)} {l : Launch} (hT : z_TB (zGG b0 H0 D ZS)) (hfl : l.flags = pinnedFlags ++ [noTraceFlag]) {a0 : Option Nat} {pI1 : Int32} {pI2 : Int32} {pI3 : Int32} {pI4 : Int32} {pI5 : Int32} (F : Nat) {w : zW} (res : zO × zW) (h : f_AckBook_Packet_init F a0 pI1 pI2 pI3 pI4 pI5 w = some res) : z_Ct (zGG b0 H0 D ZS) l y_AckBook_Packet_init (.code y_AckBook_Packet_init c_AckBook_Packet_init 6 (none)) 1 24 [va_rf a0, .int pI1, .int pI2, .int pI3, .int pI4, .int pI5] w res := by
  refine z_ct hT hfl (by decide) (by simp only [z_sl_i, z_sl_j, z_sl_r, z_sl_n]; decide) ?_
  intro p e R s m args below meth c hC hr hRc hRs hRt hnm hFr H ls hZ hl
  simp only [z_la_i, z_la_j, z_la_r, z_la_n] at hl
  have hl : lv_has ls 6 [(0, va_rf a0), (1, .int pI1), (2, .int pI2), (3, .int pI3), (4, .int pI4), (5, .int pI5)] := hl
  unfold f_AckBook_Packet_init at h
  refine x_aload_n hC d_AckBook_Packet_init_0 rfl (lv_at hl 0 rfl) ?_
  obtain ⟨_, e_, h⟩ := z_nn_spec h
  refine x_objInit hC hZ e_ t_483 ⟨t_32, t_33⟩ hl.1 d_AckBook_Packet_init_1 (by rw [hRt.1]; decide) (by rw [hRt.2]; first | exact Nat.le_of_ble_eq_true rfl | simp [z_rfc, z_ci, z_cj]) ?_
  refine x_aload_n hC d_AckBook_Packet_init_4 rfl (lv_at hl 0 rfl) ?_
  refine lv_iload_n hC.1 hC.2.1 d_AckBook_Packet_init_5 rfl (lv_at hl 1 rfl) ?_
  refine x_putF hC hZ zc9 h (by decide) t_484 (fun _ h9 => h9) rfl hnm rfl rfl rfl rfl d_AckBook_Packet_init_6 (fun w H locs hZ h => ?_)
  refine x_aload_n hC d_AckBook_Packet_init_9 rfl (lv_at hl 0 rfl) ?_
  refine lv_iload_n hC.1 hC.2.1 d_AckBook_Packet_init_10 rfl (lv_at hl 2 rfl) ?_
  refine x_putF hC hZ zc9 h (by decide) t_488 (fun _ h9 => h9) rfl hnm rfl rfl rfl rfl d_AckBook_Packet_init_11 (fun w H locs hZ h => ?_)
  refine x_aload_n hC d_AckBook_Packet_init_14 rfl (lv_at hl 0 rfl) ?_
  refine lv_iload_n hC.1 hC.2.1 d_AckBook_Packet_init_15 rfl (lv_at hl 3 rfl) ?_
  refine x_putF hC hZ zc9 h (by decide) t_490 (fun _ h9 => h9) rfl hnm rfl rfl rfl rfl d_AckBook_Packet_init_16 (fun w H locs hZ h => ?_)
  refine x_aload_n hC d_AckBook_Packet_init_19 rfl (lv_at hl 0 rfl) ?_
  refine lv_iload hC.1 hC.2.1 d_AckBook_Packet_init_20 (lv_at hl 4 rfl) ?_
  refine x_putZF hC hZ zc9 h (by decide) t_494 (fun _ h9 => h9) rfl hnm rfl rfl d_AckBook_Packet_init_22 (fun w H locs hZ h => ?_)
  refine x_aload_n hC d_AckBook_Packet_init_25 rfl (lv_at hl 0 rfl) ?_
  refine lv_iload hC.1 hC.2.1 d_AckBook_Packet_init_26 (lv_at hl 5 rfl) ?_
  refine x_putZF hC hZ zc9 h (by decide) t_497 (fun _ h9 => h9) rfl hnm rfl rfl d_AckBook_Packet_init_28 (fun w H locs hZ h => ?_)
  refine x_aload_n hC d_AckBook_Packet_init_31 rfl (lv_at hl 0 rfl) ?_
  refine lv_iconst (v := (0 : Int32)) hC.1 hC.2.1 d_AckBook_Packet_init_32 (by decide) ?_
  refine x_put hC hZ zc9 h (by decide) t_500 (fun _ h9 => h9) rfl rfl rfl rfl d_AckBook_Packet_init_33 (fun w H locs hZ h => ?_)
  exact x_vret hC hRc hRs hZ hr h d_AckBook_Packet_init_36
def f_AckBook_Flow_enter (F : Nat) (a0 : Option Nat) (pR1 : Option Nat) (w : zW) : zR :=
  z_getI w 9 4 pR1 fun v1 =>
  if v1 = 0 then (
    z_getI w 8 0 a0 fun v2 =>
    z_getI w 8 1 a0 fun v3 =>
    if v2 ≤ (v3 - (1200 : Int32)) then (
      z_putZ w 9 5 pR1 (0 : Int32) fun w =>
      some (.inl none, w))
    else (
      z_putZ w 9 5 pR1 (1 : Int32) fun w =>
      some (.inl none, w)))
  else (
    z_getI w 8 0 a0 fun v4 =>
    z_getI w 9 1 pR1 fun v5 =>
    z_put w 8 0 a0 (.int (v4 + v5)) fun w =>
    z_getI w 8 0 a0 fun v6 =>
    z_getI w 8 1 a0 fun v7 =>
    if v6 ≤ (v7 - (1200 : Int32)) then (
      z_putZ w 9 5 pR1 (0 : Int32) fun w =>
      some (.inl none, w))
    else (
      z_putZ w 9 5 pR1 (1 : Int32) fun w =>
      some (.inl none, w)))
set_option maxHeartbeats 4000000 in
set_option maxRecDepth 100000 in
theorem k_AckBook_Flow_enter {b0 : Nat} {H0 : Heap} {D : va_G} {ZS : List (String × String × String × Value)} {l : Launch} (hT : z_TB (zGG b0 H0 D ZS)) (hfl : l.flags = pinnedFlags ++ [noTraceFlag]) {a0 : Option Nat} {pR1 : Option Nat} (F : Nat) {w : zW} (res : zO × zW) (h : f_AckBook_Flow_enter F a0 pR1 w = some res) : z_Ct (zGG b0 H0 D ZS) l y_AckBook_Flow_enter (.code y_AckBook_Flow_enter c_AckBook_Flow_enter 2 (none)) 0 0 [va_rf a0, va_rf pR1] w res := by
  refine z_ct hT hfl (by decide) (by simp only [z_sl_i, z_sl_j, z_sl_r, z_sl_n]; decide) ?_
  intro p e R s m args below meth c hC hr hRc hRs hRt hnm hFr H ls hZ hl
  simp only [z_la_i, z_la_j, z_la_r, z_la_n] at hl
  have hl : lv_has ls 2 [(0, va_rf a0), (1, va_rf pR1)] := hl
  unfold f_AckBook_Flow_enter at h
  refine x_aload_n hC d_AckBook_Flow_enter_0 rfl (lv_at hl 1 rfl) ?_
  refine x_getI hC hZ zc9 h (by decide) t_498 (fun _ h9 => h9) d_AckBook_Flow_enter_1 (fun v1 h => ?_)
  refine lv_if_eq (tgt := 20) hC.1 hC.2.1 d_AckBook_Flow_enter_4 (by decide) (fun hc => ?_) (fun hc => ?_)
  · have h := z_ifp hc h
    refine x_aload_n hC d_AckBook_Flow_enter_20 rfl (lv_at hl 1 rfl) ?_
    refine x_aload_n hC d_AckBook_Flow_enter_21 rfl (lv_at hl 0 rfl) ?_
    refine x_getI hC hZ zc8 h (by decide) t_224 (fun _ h9 => h9) d_AckBook_Flow_enter_22 (fun v2 h => ?_)
    refine x_aload_n hC d_AckBook_Flow_enter_25 rfl (lv_at hl 0 rfl) ?_
    refine x_getI hC hZ zc8 h (by decide) t_226 (fun _ h9 => h9) d_AckBook_Flow_enter_26 (fun v3 h => ?_)
    refine lv_sipush (v := (1200 : Int32)) hC.1 hC.2.1 d_AckBook_Flow_enter_29 (by decide) ?_
    refine lv_isub hC.1 hC.2.1 d_AckBook_Flow_enter_32 ?_
    refine lv_icmp_le (tgt := 40) hC.1 hC.2.1 d_AckBook_Flow_enter_33 (by decide) (fun hc => ?_) (fun hc => ?_)
    · have h := z_ifp hc h
      refine lv_iconst (v := (0 : Int32)) hC.1 hC.2.1 d_AckBook_Flow_enter_40 (by decide) ?_
      refine x_putZ hC hZ zc9 h (by decide) t_499 (fun _ h9 => h9) rfl rfl d_AckBook_Flow_enter_41 (fun w H locs hZ h => ?_)
      exact x_vret hC hRc hRs hZ hr h d_AckBook_Flow_enter_44
    · have h := z_ifn hc h
      refine lv_iconst (v := (1 : Int32)) hC.1 hC.2.1 d_AckBook_Flow_enter_36 (by decide) ?_
      refine lv_goto (tgt := 41) hC.1 hC.2.1 d_AckBook_Flow_enter_37 (by decide) ?_
      refine x_putZ hC hZ zc9 h (by decide) t_499 (fun _ h9 => h9) rfl rfl d_AckBook_Flow_enter_41 (fun w H locs hZ h => ?_)
      exact x_vret hC hRc hRs hZ hr h d_AckBook_Flow_enter_44
  · have h := z_ifn hc h
    refine x_aload_n hC d_AckBook_Flow_enter_7 rfl (lv_at hl 0 rfl) ?_
    refine lv_dup hC.1 hC.2.1 d_AckBook_Flow_enter_8 (z_rfc _) ?_
    refine x_getI hC hZ zc8 h (by decide) t_224 (fun _ h9 => h9) d_AckBook_Flow_enter_9 (fun v4 h => ?_)
    refine x_aload_n hC d_AckBook_Flow_enter_12 rfl (lv_at hl 1 rfl) ?_
    refine x_getI hC hZ zc9 h (by decide) t_489 (fun _ h9 => h9) d_AckBook_Flow_enter_13 (fun v5 h => ?_)
    refine lv_iadd hC.1 hC.2.1 d_AckBook_Flow_enter_16 ?_
    refine x_put hC hZ zc8 h (by decide) t_224 (fun _ h9 => h9) rfl rfl rfl rfl d_AckBook_Flow_enter_17 (fun w H locs hZ h => ?_)
    refine x_aload_n hC d_AckBook_Flow_enter_20 rfl (lv_at hl 1 rfl) ?_
    refine x_aload_n hC d_AckBook_Flow_enter_21 rfl (lv_at hl 0 rfl) ?_
    refine x_getI hC hZ zc8 h (by decide) t_224 (fun _ h9 => h9) d_AckBook_Flow_enter_22 (fun v6 h => ?_)
    refine x_aload_n hC d_AckBook_Flow_enter_25 rfl (lv_at hl 0 rfl) ?_
    refine x_getI hC hZ zc8 h (by decide) t_226 (fun _ h9 => h9) d_AckBook_Flow_enter_26 (fun v7 h => ?_)
    refine lv_sipush (v := (1200 : Int32)) hC.1 hC.2.1 d_AckBook_Flow_enter_29 (by decide) ?_
    refine lv_isub hC.1 hC.2.1 d_AckBook_Flow_enter_32 ?_
    refine lv_icmp_le (tgt := 40) hC.1 hC.2.1 d_AckBook_Flow_enter_33 (by decide) (fun hc => ?_) (fun hc => ?_)
    · have h := z_ifp hc h
      refine lv_iconst (v := (0 : Int32)) hC.1 hC.2.1 d_AckBook_Flow_enter_40 (by decide) ?_
      refine x_putZ hC hZ zc9 h (by decide) t_499 (fun _ h9 => h9) rfl rfl d_AckBook_Flow_enter_41 (fun w H locs hZ h => ?_)
      exact x_vret hC hRc hRs hZ hr h d_AckBook_Flow_enter_44
    · have h := z_ifn hc h
      refine lv_iconst (v := (1 : Int32)) hC.1 hC.2.1 d_AckBook_Flow_enter_36 (by decide) ?_
      refine lv_goto (tgt := 41) hC.1 hC.2.1 d_AckBook_Flow_enter_37 (by decide) ?_
      refine x_putZ hC hZ zc9 h (by decide) t_499 (fun _ h9 => h9) rfl rfl d_AckBook_Flow_enter_41 (fun w H locs hZ h => ?_)
      exact x_vret hC hRc hRs hZ hr h d_AckBook_Flow_enter_44
def f_AckBook_Claim_isBelow (F : Nat) (a0 : Option Nat) (pJ1 : Int64) (w : zW) : zR :=
  z_getI w 6 2 a0 fun v1 =>
  if v1 ≤ 0 then (
    some (.inl (some (.int (1 : Int32))), w))
  else (
    z_getI w 6 2 a0 fun v2 =>
    if v2 ≤ (64 : Int32) then (
      z_getR w 6 0 a0 fun r3 =>
      z_getI w 6 2 a0 fun v4 =>
      z_ldL w r3 (v4 - (1 : Int32)) fun v5 =>
      if 0 ≤ (lg_cmp pJ1 (v5 - (1 : Int64))) then (
        some (.inl (some (.int (0 : Int32))), w))
      else (
        some (.inl (some (.int (1 : Int32))), w)))
    else (
      some (.inl (some (.int (1 : Int32))), w)))
set_option maxHeartbeats 4000000 in
set_option maxRecDepth 100000 in
theorem k_AckBook_Claim_isBelow {b0 : Nat} {H0 : Heap} {D : va_G} {ZS : List (String × String × String × Value)} {l : Launch} (hT : z_TB (zGG b0 H0 D ZS)) (hfl : l.flags = pinnedFlags ++ [noTraceFlag]) {a0 : Option Nat} {pJ1 : Int64} (F : Nat) {w : zW} (res : zO × zW) (h : f_AckBook_Claim_isBelow F a0 pJ1 w = some res) : z_Ct (zGG b0 H0 D ZS) l y_AckBook_Claim_isBelow (.code y_AckBook_Claim_isBelow c_AckBook_Claim_isBelow 3 (some FieldType.boolean)) 0 0 [va_rf a0, .long pJ1] w res := by
  refine z_ct hT hfl (by decide) (by simp only [z_sl_i, z_sl_j, z_sl_r, z_sl_n]; decide) ?_
  intro p e R s m args below meth c hC hr hRc hRs hRt hnm hFr H ls hZ hl
  simp only [z_la_i, z_la_j, z_la_r, z_la_n] at hl
  have hl : lv_has ls 3 [(0, va_rf a0), (1, .long pJ1)] := hl
  unfold f_AckBook_Claim_isBelow at h
  refine x_aload_n hC d_AckBook_Claim_isBelow_0 rfl (lv_at hl 0 rfl) ?_
  refine x_getI hC hZ zc6 h (by decide) t_179 (fun _ h9 => h9) d_AckBook_Claim_isBelow_1 (fun v1 h => ?_)
  refine lv_if_le (tgt := 16) hC.1 hC.2.1 d_AckBook_Claim_isBelow_4 (by decide) (fun hc => ?_) (fun hc => ?_)
  · have h := z_ifp hc h
    refine lv_iconst (v := (1 : Int32)) hC.1 hC.2.1 d_AckBook_Claim_isBelow_16 (by decide) ?_
    exact x_iret hC hRc hRs hZ hr rfl h d_AckBook_Claim_isBelow_17
  · have h := z_ifn hc h
    refine x_aload_n hC d_AckBook_Claim_isBelow_7 rfl (lv_at hl 0 rfl) ?_
    refine x_getI hC hZ zc6 h (by decide) t_179 (fun _ h9 => h9) d_AckBook_Claim_isBelow_8 (fun v2 h => ?_)
    refine lv_bipush (v := (64 : Int32)) hC.1 hC.2.1 d_AckBook_Claim_isBelow_11 (by decide) ?_
    refine lv_icmp_le (tgt := 18) hC.1 hC.2.1 d_AckBook_Claim_isBelow_13 (by decide) (fun hc => ?_) (fun hc => ?_)
    · have h := z_ifp hc h
      refine lv_lload_n hC.1 hC.2.1 d_AckBook_Claim_isBelow_18 rfl (lv_at hl 1 rfl) ?_
      refine x_aload_n hC d_AckBook_Claim_isBelow_19 rfl (lv_at hl 0 rfl) ?_
      refine x_getR hC hZ zc6 h (by decide) t_177 (fun _ h9 => h9) d_AckBook_Claim_isBelow_20 (fun r3 h => ?_)
      refine x_aload_n hC d_AckBook_Claim_isBelow_23 rfl (lv_at hl 0 rfl) ?_
      refine x_getI hC hZ zc6 h (by decide) t_179 (fun _ h9 => h9) d_AckBook_Claim_isBelow_24 (fun v4 h => ?_)
      refine lv_iconst (v := (1 : Int32)) hC.1 hC.2.1 d_AckBook_Claim_isBelow_27 (by decide) ?_
      refine lv_isub hC.1 hC.2.1 d_AckBook_Claim_isBelow_28 ?_
      refine x_ldL hC hZ h d_AckBook_Claim_isBelow_29 (fun v5 h => ?_)
      refine lv_lconst (v := (1 : Int64)) hC.1 hC.2.1 d_AckBook_Claim_isBelow_30 (by decide) ?_
      refine lv_lsub hC.1 hC.2.1 d_AckBook_Claim_isBelow_31 ?_
      refine W.lcmp hC.1 hC.2.1 d_AckBook_Claim_isBelow_32 ?_
      refine lv_if_ge (tgt := 40) hC.1 hC.2.1 d_AckBook_Claim_isBelow_33 (by decide) (fun hc => ?_) (fun hc => ?_)
      · have h := z_ifp hc h
        refine lv_iconst (v := (0 : Int32)) hC.1 hC.2.1 d_AckBook_Claim_isBelow_40 (by decide) ?_
        exact x_iret hC hRc hRs hZ hr rfl h d_AckBook_Claim_isBelow_41
      · have h := z_ifn hc h
        refine lv_iconst (v := (1 : Int32)) hC.1 hC.2.1 d_AckBook_Claim_isBelow_36 (by decide) ?_
        refine lv_goto (tgt := 41) hC.1 hC.2.1 d_AckBook_Claim_isBelow_37 (by decide) ?_
        exact x_iret hC hRc hRs hZ hr rfl h d_AckBook_Claim_isBelow_41
    · have h := z_ifn hc h
      refine lv_iconst (v := (1 : Int32)) hC.1 hC.2.1 d_AckBook_Claim_isBelow_16 (by decide) ?_
      exact x_iret hC hRc hRs hZ hr rfl h d_AckBook_Claim_isBelow_17
def f_AckBook_Claim_isFull (F : Nat) (a0 : Option Nat) (w : zW) : zR :=
  z_getI w 6 2 a0 fun v1 =>
  if v1 < (64 : Int32) then (
    some (.inl (some (.int (0 : Int32))), w))
  else (
    some (.inl (some (.int (1 : Int32))), w))
set_option maxHeartbeats 4000000 in
set_option maxRecDepth 100000 in
theorem k_AckBook_Claim_isFull {b0 : Nat} {H0 : Heap} {D : va_G} {ZS : List (String × String × String × Value)} {l : Launch} (hT : z_TB (zGG b0 H0 D ZS)) (hfl : l.flags = pinnedFlags ++ [noTraceFlag]) {a0 : Option Nat} (F : Nat) {w : zW} (res : zO × zW) (h : f_AckBook_Claim_isFull F a0 w = some res) : z_Ct (zGG b0 H0 D ZS) l y_AckBook_Claim_isFull (.code y_AckBook_Claim_isFull c_AckBook_Claim_isFull 1 (some FieldType.boolean)) 0 0 [va_rf a0] w res := by
  refine z_ct hT hfl (by decide) (by simp only [z_sl_i, z_sl_j, z_sl_r, z_sl_n]; decide) ?_
  intro p e R s m args below meth c hC hr hRc hRs hRt hnm hFr H ls hZ hl
  simp only [z_la_i, z_la_j, z_la_r, z_la_n] at hl
  have hl : lv_has ls 1 [(0, va_rf a0)] := hl
  unfold f_AckBook_Claim_isFull at h
  refine x_aload_n hC d_AckBook_Claim_isFull_0 rfl (lv_at hl 0 rfl) ?_
  refine x_getI hC hZ zc6 h (by decide) t_179 (fun _ h9 => h9) d_AckBook_Claim_isFull_1 (fun v1 h => ?_)
  refine lv_bipush (v := (64 : Int32)) hC.1 hC.2.1 d_AckBook_Claim_isFull_4 (by decide) ?_
  refine lv_icmp_lt (tgt := 13) hC.1 hC.2.1 d_AckBook_Claim_isFull_6 (by decide) (fun hc => ?_) (fun hc => ?_)
  · have h := z_ifp hc h
    refine lv_iconst (v := (0 : Int32)) hC.1 hC.2.1 d_AckBook_Claim_isFull_13 (by decide) ?_
    exact x_iret hC hRc hRs hZ hr rfl h d_AckBook_Claim_isFull_14
  · have h := z_ifn hc h
    refine lv_iconst (v := (1 : Int32)) hC.1 hC.2.1 d_AckBook_Claim_isFull_9 (by decide) ?_
    refine lv_goto (tgt := 14) hC.1 hC.2.1 d_AckBook_Claim_isFull_10 (by decide) ?_
    exact x_iret hC hRc hRs hZ hr rfl h d_AckBook_Claim_isFull_14
def f_AckBook_Claim_add (F : Nat) (a0 : Option Nat) (pJ1 : Int64) (pJ2 : Int64) (w : zW) : zR :=
  z_getI w 6 2 a0 fun v1 =>
  if v1 < 0 then (
    z_getI w 6 2 a0 fun v2 =>
    some (.inl (some (.int v2)), w))
  else (
    z_getI w 6 2 a0 fun v3 =>
    if (64 : Int32) ≤ v3 then (
      z_getI w 6 2 a0 fun v4 =>
      some (.inl (some (.int v4)), w))
    else (
      z_getR w 6 0 a0 fun r5 =>
      z_getI w 6 2 a0 fun v6 =>
      z_stL w r5 v6 pJ1 fun w =>
      z_getR w 6 1 a0 fun r7 =>
      z_getI w 6 2 a0 fun v8 =>
      z_stL w r7 v8 pJ2 fun w =>
      z_getI w 6 2 a0 fun v9 =>
      z_put w 6 2 a0 (.int (v9 + (1 : Int32))) fun w =>
      z_getI w 6 2 a0 fun v10 =>
      some (.inl (some (.int v10)), w)))
set_option maxHeartbeats 4000000 in
set_option maxRecDepth 100000 in
theorem k_AckBook_Claim_add {b0 : Nat} {H0 : Heap} {D : va_G} {ZS : List (String × String × String × Value)} {l : Launch} (hT : z_TB (zGG b0 H0 D ZS)) (hfl : l.flags = pinnedFlags ++ [noTraceFlag]) {a0 : Option Nat} {pJ1 : Int64} {pJ2 : Int64} (F : Nat) {w : zW} (res : zO × zW) (h : f_AckBook_Claim_add F a0 pJ1 pJ2 w = some res) : z_Ct (zGG b0 H0 D ZS) l y_AckBook_Claim_add (.code y_AckBook_Claim_add c_AckBook_Claim_add 5 (some FieldType.int)) 0 0 [va_rf a0, .long pJ1, .long pJ2] w res := by
  refine z_ct hT hfl (by decide) (by simp only [z_sl_i, z_sl_j, z_sl_r, z_sl_n]; decide) ?_
  intro p e R s m args below meth c hC hr hRc hRs hRt hnm hFr H ls hZ hl
  simp only [z_la_i, z_la_j, z_la_r, z_la_n] at hl
  have hl : lv_has ls 5 [(0, va_rf a0), (1, .long pJ1), (3, .long pJ2)] := hl
  unfold f_AckBook_Claim_add at h
  refine x_aload_n hC d_AckBook_Claim_add_0 rfl (lv_at hl 0 rfl) ?_
  refine x_getI hC hZ zc6 h (by decide) t_179 (fun _ h9 => h9) d_AckBook_Claim_add_1 (fun v1 h => ?_)
  refine lv_if_lt (tgt := 46) hC.1 hC.2.1 d_AckBook_Claim_add_4 (by decide) (fun hc => ?_) (fun hc => ?_)
  · have h := z_ifp hc h
    refine x_aload_n hC d_AckBook_Claim_add_46 rfl (lv_at hl 0 rfl) ?_
    refine x_getI hC hZ zc6 h (by decide) t_179 (fun _ h9 => h9) d_AckBook_Claim_add_47 (fun v2 h => ?_)
    exact x_iret hC hRc hRs hZ hr rfl h d_AckBook_Claim_add_50
  · have h := z_ifn hc h
    refine x_aload_n hC d_AckBook_Claim_add_7 rfl (lv_at hl 0 rfl) ?_
    refine x_getI hC hZ zc6 h (by decide) t_179 (fun _ h9 => h9) d_AckBook_Claim_add_8 (fun v3 h => ?_)
    refine lv_bipush (v := (64 : Int32)) hC.1 hC.2.1 d_AckBook_Claim_add_11 (by decide) ?_
    refine lv_icmp_ge (tgt := 46) hC.1 hC.2.1 d_AckBook_Claim_add_13 (by decide) (fun hc => ?_) (fun hc => ?_)
    · have h := z_ifp hc h
      refine x_aload_n hC d_AckBook_Claim_add_46 rfl (lv_at hl 0 rfl) ?_
      refine x_getI hC hZ zc6 h (by decide) t_179 (fun _ h9 => h9) d_AckBook_Claim_add_47 (fun v4 h => ?_)
      exact x_iret hC hRc hRs hZ hr rfl h d_AckBook_Claim_add_50
    · have h := z_ifn hc h
      refine x_aload_n hC d_AckBook_Claim_add_16 rfl (lv_at hl 0 rfl) ?_
      refine x_getR hC hZ zc6 h (by decide) t_177 (fun _ h9 => h9) d_AckBook_Claim_add_17 (fun r5 h => ?_)
      refine x_aload_n hC d_AckBook_Claim_add_20 rfl (lv_at hl 0 rfl) ?_
      refine x_getI hC hZ zc6 h (by decide) t_179 (fun _ h9 => h9) d_AckBook_Claim_add_21 (fun v6 h => ?_)
      refine lv_lload_n hC.1 hC.2.1 d_AckBook_Claim_add_24 rfl (lv_at hl 1 rfl) ?_
      refine x_stL hC hZ h d_AckBook_Claim_add_25 (fun w H locs hZ h => ?_)
      refine x_aload_n hC d_AckBook_Claim_add_26 rfl (lv_at hl 0 rfl) ?_
      refine x_getR hC hZ zc6 h (by decide) t_178 (fun _ h9 => h9) d_AckBook_Claim_add_27 (fun r7 h => ?_)
      refine x_aload_n hC d_AckBook_Claim_add_30 rfl (lv_at hl 0 rfl) ?_
      refine x_getI hC hZ zc6 h (by decide) t_179 (fun _ h9 => h9) d_AckBook_Claim_add_31 (fun v8 h => ?_)
      refine lv_lload_n hC.1 hC.2.1 d_AckBook_Claim_add_34 rfl (lv_at hl 2 rfl) ?_
      refine x_stL hC hZ h d_AckBook_Claim_add_35 (fun w H locs hZ h => ?_)
      refine x_aload_n hC d_AckBook_Claim_add_36 rfl (lv_at hl 0 rfl) ?_
      refine lv_dup hC.1 hC.2.1 d_AckBook_Claim_add_37 (z_rfc _) ?_
      refine x_getI hC hZ zc6 h (by decide) t_179 (fun _ h9 => h9) d_AckBook_Claim_add_38 (fun v9 h => ?_)
      refine lv_iconst (v := (1 : Int32)) hC.1 hC.2.1 d_AckBook_Claim_add_41 (by decide) ?_
      refine lv_iadd hC.1 hC.2.1 d_AckBook_Claim_add_42 ?_
      refine x_put hC hZ zc6 h (by decide) t_179 (fun _ h9 => h9) rfl rfl rfl rfl d_AckBook_Claim_add_43 (fun w H locs hZ h => ?_)
      refine x_aload_n hC d_AckBook_Claim_add_46 rfl (lv_at hl 0 rfl) ?_
      refine x_getI hC hZ zc6 h (by decide) t_179 (fun _ h9 => h9) d_AckBook_Claim_add_47 (fun v10 h => ?_)
      exact x_iret hC hRc hRs hZ hr rfl h d_AckBook_Claim_add_50
def f_AckBook_Claim_close (F : Nat) (a0 : Option Nat) (w : zW) : zR :=
  z_getI w 6 2 a0 fun v1 =>
  z_put w 6 3 a0 (.int v1) fun w =>
  z_put w 6 2 a0 (.int (0 : Int32)) fun w =>
  some (.inl none, w)
set_option maxHeartbeats 4000000 in
set_option maxRecDepth 100000 in
theorem k_AckBook_Claim_close {b0 : Nat} {H0 : Heap} {D : va_G} {ZS : List (String × String × String × Value)} {l : Launch} (hT : z_TB (zGG b0 H0 D ZS)) (hfl : l.flags = pinnedFlags ++ [noTraceFlag]) {a0 : Option Nat} (F : Nat) {w : zW} (res : zO × zW) (h : f_AckBook_Claim_close F a0 w = some res) : z_Ct (zGG b0 H0 D ZS) l y_AckBook_Claim_close (.code y_AckBook_Claim_close c_AckBook_Claim_close 1 (none)) 0 0 [va_rf a0] w res := by
  refine z_ct hT hfl (by decide) (by simp only [z_sl_i, z_sl_j, z_sl_r, z_sl_n]; decide) ?_
  intro p e R s m args below meth c hC hr hRc hRs hRt hnm hFr H ls hZ hl
  simp only [z_la_i, z_la_j, z_la_r, z_la_n] at hl
  have hl : lv_has ls 1 [(0, va_rf a0)] := hl
  unfold f_AckBook_Claim_close at h
  refine x_aload_n hC d_AckBook_Claim_close_0 rfl (lv_at hl 0 rfl) ?_
  refine x_aload_n hC d_AckBook_Claim_close_1 rfl (lv_at hl 0 rfl) ?_
  refine x_getI hC hZ zc6 h (by decide) t_179 (fun _ h9 => h9) d_AckBook_Claim_close_2 (fun v1 h => ?_)
  refine x_put hC hZ zc6 h (by decide) t_180 (fun _ h9 => h9) rfl rfl rfl rfl d_AckBook_Claim_close_5 (fun w H locs hZ h => ?_)
  refine x_aload_n hC d_AckBook_Claim_close_8 rfl (lv_at hl 0 rfl) ?_
  refine lv_iconst (v := (0 : Int32)) hC.1 hC.2.1 d_AckBook_Claim_close_9 (by decide) ?_
  refine x_put hC hZ zc6 h (by decide) t_179 (fun _ h9 => h9) rfl rfl rfl rfl d_AckBook_Claim_close_10 (fun w H locs hZ h => ?_)
  exact x_vret hC hRc hRs hZ hr h d_AckBook_Claim_close_13
def f_AckBook_Claim_greatest (F : Nat) (a0 : Option Nat) (w : zW) : zR :=
  z_getI w 6 3 a0 fun v1 =>
  if v1 = 0 then (
    some (.inl (some (.long (-1 : Int64))), w))
  else (
    z_getR w 6 1 a0 fun r2 =>
    z_ldL w r2 (0 : Int32) fun v3 =>
    some (.inl (some (.long v3)), w))
set_option maxHeartbeats 4000000 in
set_option maxRecDepth 100000 in
theorem k_AckBook_Claim_greatest {b0 : Nat} {H0 : Heap} {D : va_G} {ZS : List (String × String × String × Value)} {l : Launch} (hT : z_TB (zGG b0 H0 D ZS)) (hfl : l.flags = pinnedFlags ++ [noTraceFlag]) {a0 : Option Nat} (F : Nat) {w : zW} (res : zO × zW) (h : f_AckBook_Claim_greatest F a0 w = some res) : z_Ct (zGG b0 H0 D ZS) l y_AckBook_Claim_greatest (.code y_AckBook_Claim_greatest c_AckBook_Claim_greatest 1 (some FieldType.long)) 0 0 [va_rf a0] w res := by
  refine z_ct hT hfl (by decide) (by simp only [z_sl_i, z_sl_j, z_sl_r, z_sl_n]; decide) ?_
  intro p e R s m args below meth c hC hr hRc hRs hRt hnm hFr H ls hZ hl
  simp only [z_la_i, z_la_j, z_la_r, z_la_n] at hl
  have hl : lv_has ls 1 [(0, va_rf a0)] := hl
  unfold f_AckBook_Claim_greatest at h
  refine x_aload_n hC d_AckBook_Claim_greatest_0 rfl (lv_at hl 0 rfl) ?_
  refine x_getI hC hZ zc6 h (by decide) t_180 (fun _ h9 => h9) d_AckBook_Claim_greatest_1 (fun v1 h => ?_)
  refine lv_if_ne (tgt := 13) hC.1 hC.2.1 d_AckBook_Claim_greatest_4 (by decide) (fun hc => ?_) (fun hc => ?_)
  · have h := z_ifn hc h
    refine x_aload_n hC d_AckBook_Claim_greatest_13 rfl (lv_at hl 0 rfl) ?_
    refine x_getR hC hZ zc6 h (by decide) t_178 (fun _ h9 => h9) d_AckBook_Claim_greatest_14 (fun r2 h => ?_)
    refine lv_iconst (v := (0 : Int32)) hC.1 hC.2.1 d_AckBook_Claim_greatest_17 (by decide) ?_
    refine x_ldL hC hZ h d_AckBook_Claim_greatest_18 (fun v3 h => ?_)
    exact x_lret hC hRc hRs hZ hr h d_AckBook_Claim_greatest_19
  · have h := z_ifp hc h
    refine lv_ldc2 (v := (-1 : Int64)) hC.1 hC.2.1 hC.2.2.2.1 ((hZ.1.tb hC.2.2.2.2.2.2 args) _ t_628) d_AckBook_Claim_greatest_7 ?_
    refine lv_goto (tgt := 19) hC.1 hC.2.1 d_AckBook_Claim_greatest_10 (by decide) ?_
    exact x_lret hC hRc hRs hZ hr h d_AckBook_Claim_greatest_19
def f_AckBook_Claim_high (F : Nat) (a0 : Option Nat) (pI1 : Int32) (w : zW) : zR :=
  if pI1 < 0 then (
    some (.inl (some (.long (-1 : Int64))), w))
  else (
    if (64 : Int32) ≤ pI1 then (
      some (.inl (some (.long (-1 : Int64))), w))
    else (
      z_getR w 6 1 a0 fun r1 =>
      z_ldL w r1 pI1 fun v2 =>
      some (.inl (some (.long v2)), w)))
set_option maxHeartbeats 4000000 in
set_option maxRecDepth 100000 in
theorem k_AckBook_Claim_high {b0 : Nat} {H0 : Heap} {D : va_G} {ZS : List (String × String × String × Value)} {l : Launch} (hT : z_TB (zGG b0 H0 D ZS)) (hfl : l.flags = pinnedFlags ++ [noTraceFlag]) {a0 : Option Nat} {pI1 : Int32} (F : Nat) {w : zW} (res : zO × zW) (h : f_AckBook_Claim_high F a0 pI1 w = some res) : z_Ct (zGG b0 H0 D ZS) l y_AckBook_Claim_high (.code y_AckBook_Claim_high c_AckBook_Claim_high 2 (some FieldType.long)) 0 0 [va_rf a0, .int pI1] w res := by
  refine z_ct hT hfl (by decide) (by simp only [z_sl_i, z_sl_j, z_sl_r, z_sl_n]; decide) ?_
  intro p e R s m args below meth c hC hr hRc hRs hRt hnm hFr H ls hZ hl
  simp only [z_la_i, z_la_j, z_la_r, z_la_n] at hl
  have hl : lv_has ls 2 [(0, va_rf a0), (1, .int pI1)] := hl
  unfold f_AckBook_Claim_high at h
  refine lv_iload_n hC.1 hC.2.1 d_AckBook_Claim_high_0 rfl (lv_at hl 1 rfl) ?_
  refine lv_if_lt (tgt := 19) hC.1 hC.2.1 d_AckBook_Claim_high_1 (by decide) (fun hc => ?_) (fun hc => ?_)
  · have h := z_ifp hc h
    refine lv_ldc2 (v := (-1 : Int64)) hC.1 hC.2.1 hC.2.2.2.1 ((hZ.1.tb hC.2.2.2.2.2.2 args) _ t_628) d_AckBook_Claim_high_19 ?_
    exact x_lret hC hRc hRs hZ hr h d_AckBook_Claim_high_22
  · have h := z_ifn hc h
    refine lv_iload_n hC.1 hC.2.1 d_AckBook_Claim_high_4 rfl (lv_at hl 1 rfl) ?_
    refine lv_bipush (v := (64 : Int32)) hC.1 hC.2.1 d_AckBook_Claim_high_5 (by decide) ?_
    refine lv_icmp_ge (tgt := 19) hC.1 hC.2.1 d_AckBook_Claim_high_7 (by decide) (fun hc => ?_) (fun hc => ?_)
    · have h := z_ifp hc h
      refine lv_ldc2 (v := (-1 : Int64)) hC.1 hC.2.1 hC.2.2.2.1 ((hZ.1.tb hC.2.2.2.2.2.2 args) _ t_628) d_AckBook_Claim_high_19 ?_
      exact x_lret hC hRc hRs hZ hr h d_AckBook_Claim_high_22
    · have h := z_ifn hc h
      refine x_aload_n hC d_AckBook_Claim_high_10 rfl (lv_at hl 0 rfl) ?_
      refine x_getR hC hZ zc6 h (by decide) t_178 (fun _ h9 => h9) d_AckBook_Claim_high_11 (fun r1 h => ?_)
      refine lv_iload_n hC.1 hC.2.1 d_AckBook_Claim_high_14 rfl (lv_at hl 1 rfl) ?_
      refine x_ldL hC hZ h d_AckBook_Claim_high_15 (fun v2 h => ?_)
      refine lv_goto (tgt := 22) hC.1 hC.2.1 d_AckBook_Claim_high_16 (by decide) ?_
      exact x_lret hC hRc hRs hZ hr h d_AckBook_Claim_high_22
def f_AckBook_Claim_low (F : Nat) (a0 : Option Nat) (pI1 : Int32) (w : zW) : zR :=
  if pI1 < 0 then (
    some (.inl (some (.long (-1 : Int64))), w))
  else (
    if (64 : Int32) ≤ pI1 then (
      some (.inl (some (.long (-1 : Int64))), w))
    else (
      z_getR w 6 0 a0 fun r1 =>
      z_ldL w r1 pI1 fun v2 =>
      some (.inl (some (.long v2)), w)))
set_option maxHeartbeats 4000000 in
set_option maxRecDepth 100000 in
theorem k_AckBook_Claim_low {b0 : Nat} {H0 : Heap} {D : va_G} {ZS : List (String × String × String × Value)} {l : Launch} (hT : z_TB (zGG b0 H0 D ZS)) (hfl : l.flags = pinnedFlags ++ [noTraceFlag]) {a0 : Option Nat} {pI1 : Int32} (F : Nat) {w : zW} (res : zO × zW) (h : f_AckBook_Claim_low F a0 pI1 w = some res) : z_Ct (zGG b0 H0 D ZS) l y_AckBook_Claim_low (.code y_AckBook_Claim_low c_AckBook_Claim_low 2 (some FieldType.long)) 0 0 [va_rf a0, .int pI1] w res := by
  refine z_ct hT hfl (by decide) (by simp only [z_sl_i, z_sl_j, z_sl_r, z_sl_n]; decide) ?_
  intro p e R s m args below meth c hC hr hRc hRs hRt hnm hFr H ls hZ hl
  simp only [z_la_i, z_la_j, z_la_r, z_la_n] at hl
  have hl : lv_has ls 2 [(0, va_rf a0), (1, .int pI1)] := hl
  unfold f_AckBook_Claim_low at h
  refine lv_iload_n hC.1 hC.2.1 d_AckBook_Claim_low_0 rfl (lv_at hl 1 rfl) ?_
  refine lv_if_lt (tgt := 19) hC.1 hC.2.1 d_AckBook_Claim_low_1 (by decide) (fun hc => ?_) (fun hc => ?_)
  · have h := z_ifp hc h
    refine lv_ldc2 (v := (-1 : Int64)) hC.1 hC.2.1 hC.2.2.2.1 ((hZ.1.tb hC.2.2.2.2.2.2 args) _ t_628) d_AckBook_Claim_low_19 ?_
    exact x_lret hC hRc hRs hZ hr h d_AckBook_Claim_low_22
  · have h := z_ifn hc h
    refine lv_iload_n hC.1 hC.2.1 d_AckBook_Claim_low_4 rfl (lv_at hl 1 rfl) ?_
    refine lv_bipush (v := (64 : Int32)) hC.1 hC.2.1 d_AckBook_Claim_low_5 (by decide) ?_
    refine lv_icmp_ge (tgt := 19) hC.1 hC.2.1 d_AckBook_Claim_low_7 (by decide) (fun hc => ?_) (fun hc => ?_)
    · have h := z_ifp hc h
      refine lv_ldc2 (v := (-1 : Int64)) hC.1 hC.2.1 hC.2.2.2.1 ((hZ.1.tb hC.2.2.2.2.2.2 args) _ t_628) d_AckBook_Claim_low_19 ?_
      exact x_lret hC hRc hRs hZ hr h d_AckBook_Claim_low_22
    · have h := z_ifn hc h
      refine x_aload_n hC d_AckBook_Claim_low_10 rfl (lv_at hl 0 rfl) ?_
      refine x_getR hC hZ zc6 h (by decide) t_177 (fun _ h9 => h9) d_AckBook_Claim_low_11 (fun r1 h => ?_)
      refine lv_iload_n hC.1 hC.2.1 d_AckBook_Claim_low_14 rfl (lv_at hl 1 rfl) ?_
      refine x_ldL hC hZ h d_AckBook_Claim_low_15 (fun v2 h => ?_)
      refine lv_goto (tgt := 22) hC.1 hC.2.1 d_AckBook_Claim_low_16 (by decide) ?_
      exact x_lret hC hRc hRs hZ hr h d_AckBook_Claim_low_22
def f_AckBook_Way_take (F : Nat) (a0 : Option Nat) (pI1 : Int32) (pI2 : Int32) (pI3 : Int32) (w : zW) : zR :=
  z_put w 7 2 a0 (.int pI1) fun w =>
  z_getI w 7 3 a0 fun v1 =>
  if v1 = (-1 : Int32) then (
    z_put w 7 3 a0 (.int pI1) fun w =>
    z_getI w 7 4 a0 fun v2 =>
    if v2 = (-1 : Int32) then (
      z_put w 7 4 a0 (.int pI3) fun w =>
      z_put w 7 0 a0 (.int ((8 : Int32) * pI1)) fun w =>
      z_put w 7 1 a0 (.int ((2 : Int32) * pI1)) fun w =>
      some (.inl none, w))
    else (
      z_getI w 7 3 a0 fun v3 =>
      if pI1 < (v3 + pI2) then (
        z_getI w 7 0 a0 fun v4 =>
        z_getI w 7 1 a0 fun v5 =>
        z_getI w 7 1 a0 fun v6 =>
        z_put w 7 1 a0 (.int (v5 + ((if 0 ≤ ((v4 / (8 : Int32)) - pI1) then ((v4 / (8 : Int32)) - pI1) else 0 - ((v4 / (8 : Int32)) - pI1)) - (v6 / (4 : Int32))))) fun w =>
        z_getI w 7 0 a0 fun v7 =>
        z_getI w 7 0 a0 fun v8 =>
        z_put w 7 0 a0 (.int (v7 + (pI1 - (v8 / (8 : Int32))))) fun w =>
        some (.inl none, w))
      else (
        z_getI w 7 0 a0 fun v9 =>
        z_getI w 7 1 a0 fun v10 =>
        z_getI w 7 1 a0 fun v11 =>
        z_put w 7 1 a0 (.int (v10 + ((if 0 ≤ ((v9 / (8 : Int32)) - (pI1 - pI2)) then ((v9 / (8 : Int32)) - (pI1 - pI2)) else 0 - ((v9 / (8 : Int32)) - (pI1 - pI2))) - (v11 / (4 : Int32))))) fun w =>
        z_getI w 7 0 a0 fun v12 =>
        z_getI w 7 0 a0 fun v13 =>
        z_put w 7 0 a0 (.int (v12 + ((pI1 - pI2) - (v13 / (8 : Int32))))) fun w =>
        some (.inl none, w))))
  else (
    z_getI w 7 3 a0 fun v14 =>
    z_put w 7 3 a0 (.int (if pI1 < v14 then pI1 else v14)) fun w =>
    z_getI w 7 4 a0 fun v15 =>
    if v15 = (-1 : Int32) then (
      z_put w 7 4 a0 (.int pI3) fun w =>
      z_put w 7 0 a0 (.int ((8 : Int32) * pI1)) fun w =>
      z_put w 7 1 a0 (.int ((2 : Int32) * pI1)) fun w =>
      some (.inl none, w))
    else (
      z_getI w 7 3 a0 fun v16 =>
      if pI1 < (v16 + pI2) then (
        z_getI w 7 0 a0 fun v17 =>
        z_getI w 7 1 a0 fun v18 =>
        z_getI w 7 1 a0 fun v19 =>
        z_put w 7 1 a0 (.int (v18 + ((if 0 ≤ ((v17 / (8 : Int32)) - pI1) then ((v17 / (8 : Int32)) - pI1) else 0 - ((v17 / (8 : Int32)) - pI1)) - (v19 / (4 : Int32))))) fun w =>
        z_getI w 7 0 a0 fun v20 =>
        z_getI w 7 0 a0 fun v21 =>
        z_put w 7 0 a0 (.int (v20 + (pI1 - (v21 / (8 : Int32))))) fun w =>
        some (.inl none, w))
      else (
        z_getI w 7 0 a0 fun v22 =>
        z_getI w 7 1 a0 fun v23 =>
        z_getI w 7 1 a0 fun v24 =>
        z_put w 7 1 a0 (.int (v23 + ((if 0 ≤ ((v22 / (8 : Int32)) - (pI1 - pI2)) then ((v22 / (8 : Int32)) - (pI1 - pI2)) else 0 - ((v22 / (8 : Int32)) - (pI1 - pI2))) - (v24 / (4 : Int32))))) fun w =>
        z_getI w 7 0 a0 fun v25 =>
        z_getI w 7 0 a0 fun v26 =>
        z_put w 7 0 a0 (.int (v25 + ((pI1 - pI2) - (v26 / (8 : Int32))))) fun w =>
        some (.inl none, w))))
set_option maxHeartbeats 4000000 in
set_option maxRecDepth 100000 in
theorem k_AckBook_Way_take {b0 : Nat} {H0 : Heap} {D : va_G} {ZS : List (String × String × String × Value)} {l : Launch} (hT : z_TB (zGG b0 H0 D ZS)) (hfl : l.flags = pinnedFlags ++ [noTraceFlag]) {a0 : Option Nat} {pI1 : Int32} {pI2 : Int32} {pI3 : Int32} (F : Nat) {w : zW} (res : zO × zW) (h : f_AckBook_Way_take F a0 pI1 pI2 pI3 w = some res) : z_Ct (zGG b0 H0 D ZS) l y_AckBook_Way_take (.code y_AckBook_Way_take c_AckBook_Way_take 6 (none)) 1 24 [va_rf a0, .int pI1, .int pI2, .int pI3] w res := by
  refine z_ct hT hfl (by decide) (by simp only [z_sl_i, z_sl_j, z_sl_r, z_sl_n]; decide) ?_
  intro p e R s m args below meth c hC hr hRc hRs hRt hnm hFr H ls hZ hl
  simp only [z_la_i, z_la_j, z_la_r, z_la_n] at hl
  have hl : lv_has ls 6 [(0, va_rf a0), (1, .int pI1), (2, .int pI2), (3, .int pI3)] := hl
  unfold f_AckBook_Way_take at h
  refine x_aload_n hC d_AckBook_Way_take_0 rfl (lv_at hl 0 rfl) ?_
  refine lv_iload_n hC.1 hC.2.1 d_AckBook_Way_take_1 rfl (lv_at hl 1 rfl) ?_
  refine x_put hC hZ zc7 h (by decide) t_201 (fun _ h9 => h9) rfl rfl rfl rfl d_AckBook_Way_take_2 (fun w H locs hZ h => ?_)
  refine x_aload_n hC d_AckBook_Way_take_5 rfl (lv_at hl 0 rfl) ?_
  refine x_aload_n hC d_AckBook_Way_take_6 rfl (lv_at hl 0 rfl) ?_
  refine x_getI hC hZ zc7 h (by decide) t_203 (fun _ h9 => h9) d_AckBook_Way_take_7 (fun v1 h => ?_)
  refine lv_iconst (v := (-1 : Int32)) hC.1 hC.2.1 d_AckBook_Way_take_10 (by decide) ?_
  refine lv_icmp_ne (tgt := 18) hC.1 hC.2.1 d_AckBook_Way_take_11 (by decide) (fun hc => ?_) (fun hc => ?_)
  · have h := z_ifn hc h
    refine x_aload_n hC d_AckBook_Way_take_18 rfl (lv_at hl 0 rfl) ?_
    refine x_getI hC hZ zc7 h (by decide) t_203 (fun _ h9 => h9) d_AckBook_Way_take_19 (fun v14 h => ?_)
    refine lv_iload_n hC.1 hC.2.1 d_AckBook_Way_take_22 rfl (lv_at hl 1 rfl) ?_
    refine va_mmin hC.1 hC.2.1 (hC.2.2.1.trans hl.1.symm) hC.2.2.2.1 ((hZ.1.tb hC.2.2.2.2.2.2 args) _ t_666) ((hZ.1.tb hC.2.2.2.2.2.2 args) _ t_361) ((hZ.1.tb hC.2.2.2.2.2.2 args) _ t_20) ((hZ.1.tb hC.2.2.2.2.2.2 args) _ t_362) (by rw [hRt.1]; decide) (by rw [hRt.2]; first | exact Nat.le_of_ble_eq_true rfl | simp [z_rfc, z_ci, z_cj]) (hZ.2.2.1 ▸ Nat.le_add_right _ _) (hZ.2.2.2 ▸ Nat.le_add_right _ _) d_AckBook_Way_take_23 ?_
    refine x_put hC hZ zc7 h (by decide) t_203 (fun _ h9 => h9) rfl rfl rfl rfl d_AckBook_Way_take_26 (fun w H locs hZ h => ?_)
    refine x_aload_n hC d_AckBook_Way_take_29 rfl (lv_at hl 0 rfl) ?_
    refine x_getI hC hZ zc7 h (by decide) t_205 (fun _ h9 => h9) d_AckBook_Way_take_30 (fun v15 h => ?_)
    refine lv_iconst (v := (-1 : Int32)) hC.1 hC.2.1 d_AckBook_Way_take_33 (by decide) ?_
    refine lv_icmp_ne (tgt := 58) hC.1 hC.2.1 d_AckBook_Way_take_34 (by decide) (fun hc => ?_) (fun hc => ?_)
    · have h := z_ifn hc h
      refine lv_iload_n hC.1 hC.2.1 d_AckBook_Way_take_58 rfl (lv_at hl 1 rfl) ?_
      refine x_aload_n hC d_AckBook_Way_take_59 rfl (lv_at hl 0 rfl) ?_
      refine x_getI hC hZ zc7 h (by decide) t_203 (fun _ h9 => h9) d_AckBook_Way_take_60 (fun v16 h => ?_)
      refine lv_iload_n hC.1 hC.2.1 d_AckBook_Way_take_63 rfl (lv_at hl 2 rfl) ?_
      refine lv_iadd hC.1 hC.2.1 d_AckBook_Way_take_64 ?_
      refine lv_icmp_lt (tgt := 74) hC.1 hC.2.1 d_AckBook_Way_take_65 (by decide) (fun hc => ?_) (fun hc => ?_)
      · have h := z_ifp hc h
        refine lv_iload_n hC.1 hC.2.1 d_AckBook_Way_take_74 rfl (lv_at hl 1 rfl) ?_
        refine lv_istore (lv' := [(4, .int pI1), (0, va_rf a0), (1, .int pI1), (2, .int pI2), (3, .int pI3)]) hC.1 hC.2.1 d_AckBook_Way_take_75 hl (by decide) (by first | rfl | simp [z_rfc, z_ci, z_cj]) (fun ls hl => ?_)
        refine x_aload_n hC d_AckBook_Way_take_77 rfl (lv_at hl 1 rfl) ?_
        refine x_getI hC hZ zc7 h (by decide) t_197 (fun _ h9 => h9) d_AckBook_Way_take_78 (fun v17 h => ?_)
        refine lv_bipush (v := (8 : Int32)) hC.1 hC.2.1 d_AckBook_Way_take_81 (by decide) ?_
        refine lv_idiv hC.1 hC.2.1 d_AckBook_Way_take_83 (by decide) ?_
        refine lv_iload hC.1 hC.2.1 d_AckBook_Way_take_84 (lv_at hl 0 rfl) ?_
        refine lv_isub hC.1 hC.2.1 d_AckBook_Way_take_86 ?_
        refine va_mabs hC.1 hC.2.1 (hC.2.2.1.trans hl.1.symm) hC.2.2.2.1 ((hZ.1.tb hC.2.2.2.2.2.2 args) _ t_667) ((hZ.1.tb hC.2.2.2.2.2.2 args) _ t_668) ((hZ.1.tb hC.2.2.2.2.2.2 args) _ t_20) ((hZ.1.tb hC.2.2.2.2.2.2 args) _ t_669) (by rw [hRt.1]; decide) (by rw [hRt.2]; first | exact Nat.le_of_ble_eq_true rfl | simp [z_rfc, z_ci, z_cj]) (hZ.2.2.1 ▸ Nat.le_add_right _ _) (hZ.2.2.2 ▸ Nat.le_add_right _ _) d_AckBook_Way_take_87 ?_
        refine lv_istore (lv' := [(5, .int (if 0 ≤ ((v17 / (8 : Int32)) - pI1) then ((v17 / (8 : Int32)) - pI1) else 0 - ((v17 / (8 : Int32)) - pI1))), (4, .int pI1), (0, va_rf a0), (1, .int pI1), (2, .int pI2), (3, .int pI3)]) hC.1 hC.2.1 d_AckBook_Way_take_90 hl (by decide) (by first | rfl | simp [z_rfc, z_ci, z_cj]) (fun ls hl => ?_)
        refine x_aload_n hC d_AckBook_Way_take_92 rfl (lv_at hl 2 rfl) ?_
        refine lv_dup hC.1 hC.2.1 d_AckBook_Way_take_93 (z_rfc _) ?_
        refine x_getI hC hZ zc7 h (by decide) t_199 (fun _ h9 => h9) d_AckBook_Way_take_94 (fun v18 h => ?_)
        refine lv_iload hC.1 hC.2.1 d_AckBook_Way_take_97 (lv_at hl 0 rfl) ?_
        refine x_aload_n hC d_AckBook_Way_take_99 rfl (lv_at hl 2 rfl) ?_
        refine x_getI hC hZ zc7 h (by decide) t_199 (fun _ h9 => h9) d_AckBook_Way_take_100 (fun v19 h => ?_)
        refine lv_iconst (v := (4 : Int32)) hC.1 hC.2.1 d_AckBook_Way_take_103 (by decide) ?_
        refine lv_idiv hC.1 hC.2.1 d_AckBook_Way_take_104 (by decide) ?_
        refine lv_isub hC.1 hC.2.1 d_AckBook_Way_take_105 ?_
        refine lv_iadd hC.1 hC.2.1 d_AckBook_Way_take_106 ?_
        refine x_put hC hZ zc7 h (by decide) t_199 (fun _ h9 => h9) rfl rfl rfl rfl d_AckBook_Way_take_107 (fun w H locs hZ h => ?_)
        refine x_aload_n hC d_AckBook_Way_take_110 rfl (lv_at hl 2 rfl) ?_
        refine lv_dup hC.1 hC.2.1 d_AckBook_Way_take_111 (z_rfc _) ?_
        refine x_getI hC hZ zc7 h (by decide) t_197 (fun _ h9 => h9) d_AckBook_Way_take_112 (fun v20 h => ?_)
        refine lv_iload hC.1 hC.2.1 d_AckBook_Way_take_115 (lv_at hl 1 rfl) ?_
        refine x_aload_n hC d_AckBook_Way_take_117 rfl (lv_at hl 2 rfl) ?_
        refine x_getI hC hZ zc7 h (by decide) t_197 (fun _ h9 => h9) d_AckBook_Way_take_118 (fun v21 h => ?_)
        refine lv_bipush (v := (8 : Int32)) hC.1 hC.2.1 d_AckBook_Way_take_121 (by decide) ?_
        refine lv_idiv hC.1 hC.2.1 d_AckBook_Way_take_123 (by decide) ?_
        refine lv_isub hC.1 hC.2.1 d_AckBook_Way_take_124 ?_
        refine lv_iadd hC.1 hC.2.1 d_AckBook_Way_take_125 ?_
        refine x_put hC hZ zc7 h (by decide) t_197 (fun _ h9 => h9) rfl rfl rfl rfl d_AckBook_Way_take_126 (fun w H locs hZ h => ?_)
        exact x_vret hC hRc hRs hZ hr h d_AckBook_Way_take_129
      · have h := z_ifn hc h
        refine lv_iload_n hC.1 hC.2.1 d_AckBook_Way_take_68 rfl (lv_at hl 1 rfl) ?_
        refine lv_iload_n hC.1 hC.2.1 d_AckBook_Way_take_69 rfl (lv_at hl 2 rfl) ?_
        refine lv_isub hC.1 hC.2.1 d_AckBook_Way_take_70 ?_
        refine lv_goto (tgt := 75) hC.1 hC.2.1 d_AckBook_Way_take_71 (by decide) ?_
        refine lv_istore (lv' := [(4, .int (pI1 - pI2)), (0, va_rf a0), (1, .int pI1), (2, .int pI2), (3, .int pI3)]) hC.1 hC.2.1 d_AckBook_Way_take_75 hl (by decide) (by first | rfl | simp [z_rfc, z_ci, z_cj]) (fun ls hl => ?_)
        refine x_aload_n hC d_AckBook_Way_take_77 rfl (lv_at hl 1 rfl) ?_
        refine x_getI hC hZ zc7 h (by decide) t_197 (fun _ h9 => h9) d_AckBook_Way_take_78 (fun v22 h => ?_)
        refine lv_bipush (v := (8 : Int32)) hC.1 hC.2.1 d_AckBook_Way_take_81 (by decide) ?_
        refine lv_idiv hC.1 hC.2.1 d_AckBook_Way_take_83 (by decide) ?_
        refine lv_iload hC.1 hC.2.1 d_AckBook_Way_take_84 (lv_at hl 0 rfl) ?_
        refine lv_isub hC.1 hC.2.1 d_AckBook_Way_take_86 ?_
        refine va_mabs hC.1 hC.2.1 (hC.2.2.1.trans hl.1.symm) hC.2.2.2.1 ((hZ.1.tb hC.2.2.2.2.2.2 args) _ t_667) ((hZ.1.tb hC.2.2.2.2.2.2 args) _ t_668) ((hZ.1.tb hC.2.2.2.2.2.2 args) _ t_20) ((hZ.1.tb hC.2.2.2.2.2.2 args) _ t_669) (by rw [hRt.1]; decide) (by rw [hRt.2]; first | exact Nat.le_of_ble_eq_true rfl | simp [z_rfc, z_ci, z_cj]) (hZ.2.2.1 ▸ Nat.le_add_right _ _) (hZ.2.2.2 ▸ Nat.le_add_right _ _) d_AckBook_Way_take_87 ?_
        refine lv_istore (lv' := [(5, .int (if 0 ≤ ((v22 / (8 : Int32)) - (pI1 - pI2)) then ((v22 / (8 : Int32)) - (pI1 - pI2)) else 0 - ((v22 / (8 : Int32)) - (pI1 - pI2)))), (4, .int (pI1 - pI2)), (0, va_rf a0), (1, .int pI1), (2, .int pI2), (3, .int pI3)]) hC.1 hC.2.1 d_AckBook_Way_take_90 hl (by decide) (by first | rfl | simp [z_rfc, z_ci, z_cj]) (fun ls hl => ?_)
        refine x_aload_n hC d_AckBook_Way_take_92 rfl (lv_at hl 2 rfl) ?_
        refine lv_dup hC.1 hC.2.1 d_AckBook_Way_take_93 (z_rfc _) ?_
        refine x_getI hC hZ zc7 h (by decide) t_199 (fun _ h9 => h9) d_AckBook_Way_take_94 (fun v23 h => ?_)
        refine lv_iload hC.1 hC.2.1 d_AckBook_Way_take_97 (lv_at hl 0 rfl) ?_
        refine x_aload_n hC d_AckBook_Way_take_99 rfl (lv_at hl 2 rfl) ?_
        refine x_getI hC hZ zc7 h (by decide) t_199 (fun _ h9 => h9) d_AckBook_Way_take_100 (fun v24 h => ?_)
        refine lv_iconst (v := (4 : Int32)) hC.1 hC.2.1 d_AckBook_Way_take_103 (by decide) ?_
        refine lv_idiv hC.1 hC.2.1 d_AckBook_Way_take_104 (by decide) ?_
        refine lv_isub hC.1 hC.2.1 d_AckBook_Way_take_105 ?_
        refine lv_iadd hC.1 hC.2.1 d_AckBook_Way_take_106 ?_
        refine x_put hC hZ zc7 h (by decide) t_199 (fun _ h9 => h9) rfl rfl rfl rfl d_AckBook_Way_take_107 (fun w H locs hZ h => ?_)
        refine x_aload_n hC d_AckBook_Way_take_110 rfl (lv_at hl 2 rfl) ?_
        refine lv_dup hC.1 hC.2.1 d_AckBook_Way_take_111 (z_rfc _) ?_
        refine x_getI hC hZ zc7 h (by decide) t_197 (fun _ h9 => h9) d_AckBook_Way_take_112 (fun v25 h => ?_)
        refine lv_iload hC.1 hC.2.1 d_AckBook_Way_take_115 (lv_at hl 1 rfl) ?_
        refine x_aload_n hC d_AckBook_Way_take_117 rfl (lv_at hl 2 rfl) ?_
        refine x_getI hC hZ zc7 h (by decide) t_197 (fun _ h9 => h9) d_AckBook_Way_take_118 (fun v26 h => ?_)
        refine lv_bipush (v := (8 : Int32)) hC.1 hC.2.1 d_AckBook_Way_take_121 (by decide) ?_
        refine lv_idiv hC.1 hC.2.1 d_AckBook_Way_take_123 (by decide) ?_
        refine lv_isub hC.1 hC.2.1 d_AckBook_Way_take_124 ?_
        refine lv_iadd hC.1 hC.2.1 d_AckBook_Way_take_125 ?_
        refine x_put hC hZ zc7 h (by decide) t_197 (fun _ h9 => h9) rfl rfl rfl rfl d_AckBook_Way_take_126 (fun w H locs hZ h => ?_)
        exact x_vret hC hRc hRs hZ hr h d_AckBook_Way_take_129
    · have h := z_ifp hc h
      refine x_aload_n hC d_AckBook_Way_take_37 rfl (lv_at hl 0 rfl) ?_
      refine lv_iload_n hC.1 hC.2.1 d_AckBook_Way_take_38 rfl (lv_at hl 3 rfl) ?_
      refine x_put hC hZ zc7 h (by decide) t_205 (fun _ h9 => h9) rfl rfl rfl rfl d_AckBook_Way_take_39 (fun w H locs hZ h => ?_)
      refine x_aload_n hC d_AckBook_Way_take_42 rfl (lv_at hl 0 rfl) ?_
      refine lv_bipush (v := (8 : Int32)) hC.1 hC.2.1 d_AckBook_Way_take_43 (by decide) ?_
      refine lv_iload_n hC.1 hC.2.1 d_AckBook_Way_take_45 rfl (lv_at hl 1 rfl) ?_
      refine lv_imul hC.1 hC.2.1 d_AckBook_Way_take_46 ?_
      refine x_put hC hZ zc7 h (by decide) t_197 (fun _ h9 => h9) rfl rfl rfl rfl d_AckBook_Way_take_47 (fun w H locs hZ h => ?_)
      refine x_aload_n hC d_AckBook_Way_take_50 rfl (lv_at hl 0 rfl) ?_
      refine lv_iconst (v := (2 : Int32)) hC.1 hC.2.1 d_AckBook_Way_take_51 (by decide) ?_
      refine lv_iload_n hC.1 hC.2.1 d_AckBook_Way_take_52 rfl (lv_at hl 1 rfl) ?_
      refine lv_imul hC.1 hC.2.1 d_AckBook_Way_take_53 ?_
      refine x_put hC hZ zc7 h (by decide) t_199 (fun _ h9 => h9) rfl rfl rfl rfl d_AckBook_Way_take_54 (fun w H locs hZ h => ?_)
      exact x_vret hC hRc hRs hZ hr h d_AckBook_Way_take_57
  · have h := z_ifp hc h
    refine lv_iload_n hC.1 hC.2.1 d_AckBook_Way_take_14 rfl (lv_at hl 1 rfl) ?_
    refine lv_goto (tgt := 26) hC.1 hC.2.1 d_AckBook_Way_take_15 (by decide) ?_
    refine x_put hC hZ zc7 h (by decide) t_203 (fun _ h9 => h9) rfl rfl rfl rfl d_AckBook_Way_take_26 (fun w H locs hZ h => ?_)
    refine x_aload_n hC d_AckBook_Way_take_29 rfl (lv_at hl 0 rfl) ?_
    refine x_getI hC hZ zc7 h (by decide) t_205 (fun _ h9 => h9) d_AckBook_Way_take_30 (fun v2 h => ?_)
    refine lv_iconst (v := (-1 : Int32)) hC.1 hC.2.1 d_AckBook_Way_take_33 (by decide) ?_
    refine lv_icmp_ne (tgt := 58) hC.1 hC.2.1 d_AckBook_Way_take_34 (by decide) (fun hc => ?_) (fun hc => ?_)
    · have h := z_ifn hc h
      refine lv_iload_n hC.1 hC.2.1 d_AckBook_Way_take_58 rfl (lv_at hl 1 rfl) ?_
      refine x_aload_n hC d_AckBook_Way_take_59 rfl (lv_at hl 0 rfl) ?_
      refine x_getI hC hZ zc7 h (by decide) t_203 (fun _ h9 => h9) d_AckBook_Way_take_60 (fun v3 h => ?_)
      refine lv_iload_n hC.1 hC.2.1 d_AckBook_Way_take_63 rfl (lv_at hl 2 rfl) ?_
      refine lv_iadd hC.1 hC.2.1 d_AckBook_Way_take_64 ?_
      refine lv_icmp_lt (tgt := 74) hC.1 hC.2.1 d_AckBook_Way_take_65 (by decide) (fun hc => ?_) (fun hc => ?_)
      · have h := z_ifp hc h
        refine lv_iload_n hC.1 hC.2.1 d_AckBook_Way_take_74 rfl (lv_at hl 1 rfl) ?_
        refine lv_istore (lv' := [(4, .int pI1), (0, va_rf a0), (1, .int pI1), (2, .int pI2), (3, .int pI3)]) hC.1 hC.2.1 d_AckBook_Way_take_75 hl (by decide) (by first | rfl | simp [z_rfc, z_ci, z_cj]) (fun ls hl => ?_)
        refine x_aload_n hC d_AckBook_Way_take_77 rfl (lv_at hl 1 rfl) ?_
        refine x_getI hC hZ zc7 h (by decide) t_197 (fun _ h9 => h9) d_AckBook_Way_take_78 (fun v4 h => ?_)
        refine lv_bipush (v := (8 : Int32)) hC.1 hC.2.1 d_AckBook_Way_take_81 (by decide) ?_
        refine lv_idiv hC.1 hC.2.1 d_AckBook_Way_take_83 (by decide) ?_
        refine lv_iload hC.1 hC.2.1 d_AckBook_Way_take_84 (lv_at hl 0 rfl) ?_
        refine lv_isub hC.1 hC.2.1 d_AckBook_Way_take_86 ?_
        refine va_mabs hC.1 hC.2.1 (hC.2.2.1.trans hl.1.symm) hC.2.2.2.1 ((hZ.1.tb hC.2.2.2.2.2.2 args) _ t_667) ((hZ.1.tb hC.2.2.2.2.2.2 args) _ t_668) ((hZ.1.tb hC.2.2.2.2.2.2 args) _ t_20) ((hZ.1.tb hC.2.2.2.2.2.2 args) _ t_669) (by rw [hRt.1]; decide) (by rw [hRt.2]; first | exact Nat.le_of_ble_eq_true rfl | simp [z_rfc, z_ci, z_cj]) (hZ.2.2.1 ▸ Nat.le_add_right _ _) (hZ.2.2.2 ▸ Nat.le_add_right _ _) d_AckBook_Way_take_87 ?_
        refine lv_istore (lv' := [(5, .int (if 0 ≤ ((v4 / (8 : Int32)) - pI1) then ((v4 / (8 : Int32)) - pI1) else 0 - ((v4 / (8 : Int32)) - pI1))), (4, .int pI1), (0, va_rf a0), (1, .int pI1), (2, .int pI2), (3, .int pI3)]) hC.1 hC.2.1 d_AckBook_Way_take_90 hl (by decide) (by first | rfl | simp [z_rfc, z_ci, z_cj]) (fun ls hl => ?_)
        refine x_aload_n hC d_AckBook_Way_take_92 rfl (lv_at hl 2 rfl) ?_
        refine lv_dup hC.1 hC.2.1 d_AckBook_Way_take_93 (z_rfc _) ?_
        refine x_getI hC hZ zc7 h (by decide) t_199 (fun _ h9 => h9) d_AckBook_Way_take_94 (fun v5 h => ?_)
        refine lv_iload hC.1 hC.2.1 d_AckBook_Way_take_97 (lv_at hl 0 rfl) ?_
        refine x_aload_n hC d_AckBook_Way_take_99 rfl (lv_at hl 2 rfl) ?_
        refine x_getI hC hZ zc7 h (by decide) t_199 (fun _ h9 => h9) d_AckBook_Way_take_100 (fun v6 h => ?_)
        refine lv_iconst (v := (4 : Int32)) hC.1 hC.2.1 d_AckBook_Way_take_103 (by decide) ?_
        refine lv_idiv hC.1 hC.2.1 d_AckBook_Way_take_104 (by decide) ?_
        refine lv_isub hC.1 hC.2.1 d_AckBook_Way_take_105 ?_
        refine lv_iadd hC.1 hC.2.1 d_AckBook_Way_take_106 ?_
        refine x_put hC hZ zc7 h (by decide) t_199 (fun _ h9 => h9) rfl rfl rfl rfl d_AckBook_Way_take_107 (fun w H locs hZ h => ?_)
        refine x_aload_n hC d_AckBook_Way_take_110 rfl (lv_at hl 2 rfl) ?_
        refine lv_dup hC.1 hC.2.1 d_AckBook_Way_take_111 (z_rfc _) ?_
        refine x_getI hC hZ zc7 h (by decide) t_197 (fun _ h9 => h9) d_AckBook_Way_take_112 (fun v7 h => ?_)
        refine lv_iload hC.1 hC.2.1 d_AckBook_Way_take_115 (lv_at hl 1 rfl) ?_
        refine x_aload_n hC d_AckBook_Way_take_117 rfl (lv_at hl 2 rfl) ?_
        refine x_getI hC hZ zc7 h (by decide) t_197 (fun _ h9 => h9) d_AckBook_Way_take_118 (fun v8 h => ?_)
        refine lv_bipush (v := (8 : Int32)) hC.1 hC.2.1 d_AckBook_Way_take_121 (by decide) ?_
        refine lv_idiv hC.1 hC.2.1 d_AckBook_Way_take_123 (by decide) ?_
        refine lv_isub hC.1 hC.2.1 d_AckBook_Way_take_124 ?_
        refine lv_iadd hC.1 hC.2.1 d_AckBook_Way_take_125 ?_
        refine x_put hC hZ zc7 h (by decide) t_197 (fun _ h9 => h9) rfl rfl rfl rfl d_AckBook_Way_take_126 (fun w H locs hZ h => ?_)
        exact x_vret hC hRc hRs hZ hr h d_AckBook_Way_take_129
      · have h := z_ifn hc h
        refine lv_iload_n hC.1 hC.2.1 d_AckBook_Way_take_68 rfl (lv_at hl 1 rfl) ?_
        refine lv_iload_n hC.1 hC.2.1 d_AckBook_Way_take_69 rfl (lv_at hl 2 rfl) ?_
        refine lv_isub hC.1 hC.2.1 d_AckBook_Way_take_70 ?_
        refine lv_goto (tgt := 75) hC.1 hC.2.1 d_AckBook_Way_take_71 (by decide) ?_
        refine lv_istore (lv' := [(4, .int (pI1 - pI2)), (0, va_rf a0), (1, .int pI1), (2, .int pI2), (3, .int pI3)]) hC.1 hC.2.1 d_AckBook_Way_take_75 hl (by decide) (by first | rfl | simp [z_rfc, z_ci, z_cj]) (fun ls hl => ?_)
        refine x_aload_n hC d_AckBook_Way_take_77 rfl (lv_at hl 1 rfl) ?_
        refine x_getI hC hZ zc7 h (by decide) t_197 (fun _ h9 => h9) d_AckBook_Way_take_78 (fun v9 h => ?_)
        refine lv_bipush (v := (8 : Int32)) hC.1 hC.2.1 d_AckBook_Way_take_81 (by decide) ?_
        refine lv_idiv hC.1 hC.2.1 d_AckBook_Way_take_83 (by decide) ?_
        refine lv_iload hC.1 hC.2.1 d_AckBook_Way_take_84 (lv_at hl 0 rfl) ?_
        refine lv_isub hC.1 hC.2.1 d_AckBook_Way_take_86 ?_
        refine va_mabs hC.1 hC.2.1 (hC.2.2.1.trans hl.1.symm) hC.2.2.2.1 ((hZ.1.tb hC.2.2.2.2.2.2 args) _ t_667) ((hZ.1.tb hC.2.2.2.2.2.2 args) _ t_668) ((hZ.1.tb hC.2.2.2.2.2.2 args) _ t_20) ((hZ.1.tb hC.2.2.2.2.2.2 args) _ t_669) (by rw [hRt.1]; decide) (by rw [hRt.2]; first | exact Nat.le_of_ble_eq_true rfl | simp [z_rfc, z_ci, z_cj]) (hZ.2.2.1 ▸ Nat.le_add_right _ _) (hZ.2.2.2 ▸ Nat.le_add_right _ _) d_AckBook_Way_take_87 ?_
        refine lv_istore (lv' := [(5, .int (if 0 ≤ ((v9 / (8 : Int32)) - (pI1 - pI2)) then ((v9 / (8 : Int32)) - (pI1 - pI2)) else 0 - ((v9 / (8 : Int32)) - (pI1 - pI2)))), (4, .int (pI1 - pI2)), (0, va_rf a0), (1, .int pI1), (2, .int pI2), (3, .int pI3)]) hC.1 hC.2.1 d_AckBook_Way_take_90 hl (by decide) (by first | rfl | simp [z_rfc, z_ci, z_cj]) (fun ls hl => ?_)
        refine x_aload_n hC d_AckBook_Way_take_92 rfl (lv_at hl 2 rfl) ?_
        refine lv_dup hC.1 hC.2.1 d_AckBook_Way_take_93 (z_rfc _) ?_
        refine x_getI hC hZ zc7 h (by decide) t_199 (fun _ h9 => h9) d_AckBook_Way_take_94 (fun v10 h => ?_)
        refine lv_iload hC.1 hC.2.1 d_AckBook_Way_take_97 (lv_at hl 0 rfl) ?_
        refine x_aload_n hC d_AckBook_Way_take_99 rfl (lv_at hl 2 rfl) ?_
        refine x_getI hC hZ zc7 h (by decide) t_199 (fun _ h9 => h9) d_AckBook_Way_take_100 (fun v11 h => ?_)
        refine lv_iconst (v := (4 : Int32)) hC.1 hC.2.1 d_AckBook_Way_take_103 (by decide) ?_
        refine lv_idiv hC.1 hC.2.1 d_AckBook_Way_take_104 (by decide) ?_
        refine lv_isub hC.1 hC.2.1 d_AckBook_Way_take_105 ?_
        refine lv_iadd hC.1 hC.2.1 d_AckBook_Way_take_106 ?_
        refine x_put hC hZ zc7 h (by decide) t_199 (fun _ h9 => h9) rfl rfl rfl rfl d_AckBook_Way_take_107 (fun w H locs hZ h => ?_)
        refine x_aload_n hC d_AckBook_Way_take_110 rfl (lv_at hl 2 rfl) ?_
        refine lv_dup hC.1 hC.2.1 d_AckBook_Way_take_111 (z_rfc _) ?_
        refine x_getI hC hZ zc7 h (by decide) t_197 (fun _ h9 => h9) d_AckBook_Way_take_112 (fun v12 h => ?_)
        refine lv_iload hC.1 hC.2.1 d_AckBook_Way_take_115 (lv_at hl 1 rfl) ?_
        refine x_aload_n hC d_AckBook_Way_take_117 rfl (lv_at hl 2 rfl) ?_
        refine x_getI hC hZ zc7 h (by decide) t_197 (fun _ h9 => h9) d_AckBook_Way_take_118 (fun v13 h => ?_)
        refine lv_bipush (v := (8 : Int32)) hC.1 hC.2.1 d_AckBook_Way_take_121 (by decide) ?_
        refine lv_idiv hC.1 hC.2.1 d_AckBook_Way_take_123 (by decide) ?_
        refine lv_isub hC.1 hC.2.1 d_AckBook_Way_take_124 ?_
        refine lv_iadd hC.1 hC.2.1 d_AckBook_Way_take_125 ?_
        refine x_put hC hZ zc7 h (by decide) t_197 (fun _ h9 => h9) rfl rfl rfl rfl d_AckBook_Way_take_126 (fun w H locs hZ h => ?_)
        exact x_vret hC hRc hRs hZ hr h d_AckBook_Way_take_129
    · have h := z_ifp hc h
      refine x_aload_n hC d_AckBook_Way_take_37 rfl (lv_at hl 0 rfl) ?_
      refine lv_iload_n hC.1 hC.2.1 d_AckBook_Way_take_38 rfl (lv_at hl 3 rfl) ?_
      refine x_put hC hZ zc7 h (by decide) t_205 (fun _ h9 => h9) rfl rfl rfl rfl d_AckBook_Way_take_39 (fun w H locs hZ h => ?_)
      refine x_aload_n hC d_AckBook_Way_take_42 rfl (lv_at hl 0 rfl) ?_
      refine lv_bipush (v := (8 : Int32)) hC.1 hC.2.1 d_AckBook_Way_take_43 (by decide) ?_
      refine lv_iload_n hC.1 hC.2.1 d_AckBook_Way_take_45 rfl (lv_at hl 1 rfl) ?_
      refine lv_imul hC.1 hC.2.1 d_AckBook_Way_take_46 ?_
      refine x_put hC hZ zc7 h (by decide) t_197 (fun _ h9 => h9) rfl rfl rfl rfl d_AckBook_Way_take_47 (fun w H locs hZ h => ?_)
      refine x_aload_n hC d_AckBook_Way_take_50 rfl (lv_at hl 0 rfl) ?_
      refine lv_iconst (v := (2 : Int32)) hC.1 hC.2.1 d_AckBook_Way_take_51 (by decide) ?_
      refine lv_iload_n hC.1 hC.2.1 d_AckBook_Way_take_52 rfl (lv_at hl 1 rfl) ?_
      refine lv_imul hC.1 hC.2.1 d_AckBook_Way_take_53 ?_
      refine x_put hC hZ zc7 h (by decide) t_199 (fun _ h9 => h9) rfl rfl rfl rfl d_AckBook_Way_take_54 (fun w H locs hZ h => ?_)
      exact x_vret hC hRc hRs hZ hr h d_AckBook_Way_take_57
def f_AckBook_Flow_grow (F : Nat) (a0 : Option Nat) (pI1 : Int32) (w : zW) : zR :=
  z_getI w 8 2 a0 fun v1 =>
  if v1 = (-1 : Int32) then (
    z_getI w 8 1 a0 fun v2 =>
    z_put w 8 1 a0 (.int (v2 + pI1)) fun w =>
    some (.inl none, w))
  else (
    z_getI w 8 1 a0 fun v3 =>
    z_getI w 8 2 a0 fun v4 =>
    if v4 ≤ v3 then (
      z_getI w 8 1 a0 fun v5 =>
      if v5 ≤ 0 then (
        some (.inl none, w))
      else (
        z_getI w 8 1 a0 fun v6 =>
        z_getI w 8 1 a0 fun v7 =>
        z_nz (v7 = 0) <|
        z_put w 8 1 a0 (.int (v6 + (((1200 : Int32) * pI1) / v7))) fun w =>
        some (.inl none, w)))
    else (
      z_getI w 8 1 a0 fun v9 =>
      z_put w 8 1 a0 (.int (v9 + pI1)) fun w =>
      some (.inl none, w)))
set_option maxHeartbeats 4000000 in
set_option maxRecDepth 100000 in
theorem k_AckBook_Flow_grow {b0 : Nat} {H0 : Heap} {D : va_G} {ZS : List (String × String × String × Value)} {l : Launch} (hT : z_TB (zGG b0 H0 D ZS)) (hfl : l.flags = pinnedFlags ++ [noTraceFlag]) {a0 : Option Nat} {pI1 : Int32} (F : Nat) {w : zW} (res : zO × zW) (h : f_AckBook_Flow_grow F a0 pI1 w = some res) : z_Ct (zGG b0 H0 D ZS) l y_AckBook_Flow_grow (.code y_AckBook_Flow_grow c_AckBook_Flow_grow 2 (none)) 0 0 [va_rf a0, .int pI1] w res := by
  refine z_ct hT hfl (by decide) (by simp only [z_sl_i, z_sl_j, z_sl_r, z_sl_n]; decide) ?_
  intro p e R s m args below meth c hC hr hRc hRs hRt hnm hFr H ls hZ hl
  simp only [z_la_i, z_la_j, z_la_r, z_la_n] at hl
  have hl : lv_has ls 2 [(0, va_rf a0), (1, .int pI1)] := hl
  unfold f_AckBook_Flow_grow at h
  refine x_aload_n hC d_AckBook_Flow_grow_0 rfl (lv_at hl 0 rfl) ?_
  refine x_getI hC hZ zc8 h (by decide) t_228 (fun _ h9 => h9) d_AckBook_Flow_grow_1 (fun v1 h => ?_)
  refine lv_iconst (v := (-1 : Int32)) hC.1 hC.2.1 d_AckBook_Flow_grow_4 (by decide) ?_
  refine lv_icmp_eq (tgt := 19) hC.1 hC.2.1 d_AckBook_Flow_grow_5 (by decide) (fun hc => ?_) (fun hc => ?_)
  · have h := z_ifp hc h
    refine x_aload_n hC d_AckBook_Flow_grow_19 rfl (lv_at hl 0 rfl) ?_
    refine lv_dup hC.1 hC.2.1 d_AckBook_Flow_grow_20 (z_rfc _) ?_
    refine x_getI hC hZ zc8 h (by decide) t_226 (fun _ h9 => h9) d_AckBook_Flow_grow_21 (fun v2 h => ?_)
    refine lv_iload_n hC.1 hC.2.1 d_AckBook_Flow_grow_24 rfl (lv_at hl 1 rfl) ?_
    refine lv_iadd hC.1 hC.2.1 d_AckBook_Flow_grow_25 ?_
    refine x_put hC hZ zc8 h (by decide) t_226 (fun _ h9 => h9) rfl rfl rfl rfl d_AckBook_Flow_grow_26 (fun w H locs hZ h => ?_)
    refine lv_goto (tgt := 58) hC.1 hC.2.1 d_AckBook_Flow_grow_29 (by decide) ?_
    exact x_vret hC hRc hRs hZ hr h d_AckBook_Flow_grow_58
  · have h := z_ifn hc h
    refine x_aload_n hC d_AckBook_Flow_grow_8 rfl (lv_at hl 0 rfl) ?_
    refine x_getI hC hZ zc8 h (by decide) t_226 (fun _ h9 => h9) d_AckBook_Flow_grow_9 (fun v3 h => ?_)
    refine x_aload_n hC d_AckBook_Flow_grow_12 rfl (lv_at hl 0 rfl) ?_
    refine x_getI hC hZ zc8 h (by decide) t_228 (fun _ h9 => h9) d_AckBook_Flow_grow_13 (fun v4 h => ?_)
    refine lv_icmp_ge (tgt := 32) hC.1 hC.2.1 d_AckBook_Flow_grow_16 (by decide) (fun hc => ?_) (fun hc => ?_)
    · have h := z_ifp hc h
      refine x_aload_n hC d_AckBook_Flow_grow_32 rfl (lv_at hl 0 rfl) ?_
      refine x_getI hC hZ zc8 h (by decide) t_226 (fun _ h9 => h9) d_AckBook_Flow_grow_33 (fun v5 h => ?_)
      refine lv_if_le (tgt := 58) hC.1 hC.2.1 d_AckBook_Flow_grow_36 (by decide) (fun hc => ?_) (fun hc => ?_)
      · have h := z_ifp hc h
        exact x_vret hC hRc hRs hZ hr h d_AckBook_Flow_grow_58
      · have h := z_ifn hc h
        refine x_aload_n hC d_AckBook_Flow_grow_39 rfl (lv_at hl 0 rfl) ?_
        refine lv_dup hC.1 hC.2.1 d_AckBook_Flow_grow_40 (z_rfc _) ?_
        refine x_getI hC hZ zc8 h (by decide) t_226 (fun _ h9 => h9) d_AckBook_Flow_grow_41 (fun v6 h => ?_)
        refine lv_sipush (v := (1200 : Int32)) hC.1 hC.2.1 d_AckBook_Flow_grow_44 (by decide) ?_
        refine lv_iload_n hC.1 hC.2.1 d_AckBook_Flow_grow_47 rfl (lv_at hl 1 rfl) ?_
        refine lv_imul hC.1 hC.2.1 d_AckBook_Flow_grow_48 ?_
        refine x_aload_n hC d_AckBook_Flow_grow_49 rfl (lv_at hl 0 rfl) ?_
        refine x_getI hC hZ zc8 h (by decide) t_226 (fun _ h9 => h9) d_AckBook_Flow_grow_50 (fun v7 h => ?_)
        obtain ⟨hz8, h⟩ := z_nz_spec h
        refine lv_idiv hC.1 hC.2.1 d_AckBook_Flow_grow_53 hz8 ?_
        refine lv_iadd hC.1 hC.2.1 d_AckBook_Flow_grow_54 ?_
        refine x_put hC hZ zc8 h (by decide) t_226 (fun _ h9 => h9) rfl rfl rfl rfl d_AckBook_Flow_grow_55 (fun w H locs hZ h => ?_)
        exact x_vret hC hRc hRs hZ hr h d_AckBook_Flow_grow_58
    · have h := z_ifn hc h
      refine x_aload_n hC d_AckBook_Flow_grow_19 rfl (lv_at hl 0 rfl) ?_
      refine lv_dup hC.1 hC.2.1 d_AckBook_Flow_grow_20 (z_rfc _) ?_
      refine x_getI hC hZ zc8 h (by decide) t_226 (fun _ h9 => h9) d_AckBook_Flow_grow_21 (fun v9 h => ?_)
      refine lv_iload_n hC.1 hC.2.1 d_AckBook_Flow_grow_24 rfl (lv_at hl 1 rfl) ?_
      refine lv_iadd hC.1 hC.2.1 d_AckBook_Flow_grow_25 ?_
      refine x_put hC hZ zc8 h (by decide) t_226 (fun _ h9 => h9) rfl rfl rfl rfl d_AckBook_Flow_grow_26 (fun w H locs hZ h => ?_)
      refine lv_goto (tgt := 58) hC.1 hC.2.1 d_AckBook_Flow_grow_29 (by decide) ?_
      exact x_vret hC hRc hRs hZ hr h d_AckBook_Flow_grow_58
def j_AckBook_Flow_leaveAcknowledged (F : Nat) : Nat → Option Nat → Int32 → Option Nat → zW → zR
  | 0, _, _, _, _ => none
  | N + 1, rL0, xL2, rL3, w =>
    if rL3 = none then (
      some (.inl (some (.int xL2)), w))
    else (
      z_this w 8 rL0 <|
      z_cV (f_AckBook_Flow_leave F rL0 rL3 w) fun w =>
      z_getI w 9 4 rL3 fun v2 =>
      if v2 = 0 then (
        z_getR w 9 7 rL3 fun r3 =>
        j_AckBook_Flow_leaveAcknowledged F N rL0 (xL2 + (1 : Int32)) r3 w)
      else (
        z_getI w 9 5 rL3 fun v4 =>
        if v4 = 0 then (
          z_getR w 9 7 rL3 fun r5 =>
          j_AckBook_Flow_leaveAcknowledged F N rL0 (xL2 + (1 : Int32)) r5 w)
        else (
          z_this w 8 rL0 <|
          z_cI (f_AckBook_Flow_isAfterRecovery F rL0 rL3 w) fun v7 w =>
          if v7 = 0 then (
            z_getR w 9 7 rL3 fun r8 =>
            j_AckBook_Flow_leaveAcknowledged F N rL0 (xL2 + (1 : Int32)) r8 w)
          else (
            z_getI w 9 1 rL3 fun v9 =>
            z_this w 8 rL0 <|
            z_cV (f_AckBook_Flow_grow F rL0 v9 w) fun w =>
            z_getR w 9 7 rL3 fun r11 =>
            j_AckBook_Flow_leaveAcknowledged F N rL0 (xL2 + (1 : Int32)) r11 w))))
def f_AckBook_Flow_leaveAcknowledged (F : Nat) (a0 : Option Nat) (pR1 : Option Nat) (w : zW) : zR :=
  j_AckBook_Flow_leaveAcknowledged F F a0 (0 : Int32) pR1 w
set_option maxHeartbeats 4000000 in
set_option maxRecDepth 100000 in
theorem kj_AckBook_Flow_leaveAcknowledged {b0 : Nat} {H0 : Heap} {D : va_G} {ZS : List (String × String × String × Value)} {l : Launch} (hT : z_TB (zGG b0 H0 D ZS)) (hfl : l.flags = pinnedFlags ++ [noTraceFlag]) {p : Program} {e : Env} {R : Room} {s : State} {m : MethodId} {args : Array Value} {below : List Frame} {meth : Method} {c : Code} {w0 : zW} {F : Nat} (hC : z_C (zGG b0 H0 D ZS) p e s m meth c c_AckBook_Flow_leaveAcknowledged 4 y_AckBook_Flow_leaveAcknowledged.cls) (hr : meth.sig.returnType = (some FieldType.int)) (hRc : R.cells = w0.2.1) (hRs : R.slots = w0.2.2.1) (hFr : c.exceptionTable.toList = []) (hRt : R.frames = 1 ∧ R.locals = 21) (hnm : meth.name = y_AckBook_Flow_leaveAcknowledged.name) : ∀ N : Nat, (∀ (rL0 : Option Nat) (xL2 : Int32) (rL3 : Option Nat) (w : zW) (res : zO × zW), j_AckBook_Flow_leaveAcknowledged F N rL0 xL2 rL3 w = some res → ∀ (H : Heap) (locs : List Loc) (cells slots : Nat) (ls : Array Slot), z_Z (zGG b0 H0 D ZS) R s w H locs cells slots → lv_has ls 4 [(0, va_rf rL0), (2, .int xL2), (3, va_rf rL3)] → W p l e R s m args below meth c H locs cells slots (z_Q (zGG b0 H0 D ZS) below s w0 res) (F0 m 4 ls [])) := by
  intro N
  induction N with
  | zero =>
    intro rL0 xL2 rL3 w res h
    rw [j_AckBook_Flow_leaveAcknowledged] at h
    cases h
  | succ N ih =>
    intro rL0 xL2 rL3 w res h H locs cells slots ls hZ hl
    rw [j_AckBook_Flow_leaveAcknowledged] at h
    refine x_aload_n hC d_AckBook_Flow_leaveAcknowledged_4 rfl (lv_at hl 2 rfl) ?_
    refine x_ifnull (tgt := 54) hC d_AckBook_Flow_leaveAcknowledged_5 (by decide) (fun hc => ?_) (fun hc => ?_)
    · have h := z_ifp hc h
      refine lv_iload_n hC.1 hC.2.1 d_AckBook_Flow_leaveAcknowledged_54 rfl (lv_at hl 1 rfl) ?_
      exact x_iret hC hRc hRs hZ hr rfl h d_AckBook_Flow_leaveAcknowledged_55
    · have h := z_ifn hc h
      refine lv_iinc (lv' := [(2, .int (xL2 + (1 : Int32))), (0, va_rf rL0), (3, va_rf rL3)]) hC.1 hC.2.1 d_AckBook_Flow_leaveAcknowledged_8 hl (k := 1) rfl rfl (by decide) (by first | rfl | simp [z_rfc, z_ci, z_cj]) (fun ls hl => ?_)
      refine x_aload_n hC d_AckBook_Flow_leaveAcknowledged_11 rfl (lv_at hl 1 rfl) ?_
      refine x_aload_n hC d_AckBook_Flow_leaveAcknowledged_12 rfl (lv_at hl 2 rfl) ?_
      obtain ⟨a_, fs_, eo_, h⟩ := z_this_spec h
      obtain ⟨w1_, o1_, hF_, ha_⟩ := z_cV_spec h
      refine x_goes hC hRc hRs hFr ha_ (z_goV (As := [va_rf rL3]) hC hZ zc8 eo_ (k_AckBook_Flow_leave hT hfl _ _ hF_) t_339 t_340 t_341 t_11 t_342 ⟨by decide, by decide, (by decide +kernel : (parseMethodDescriptor y_AckBook_Flow_leave.desc).map (fun d => d.parameters.length) = some 1)⟩ (by rw [hRt.1]; decide) (by rw [hRt.2]; decide) hl.1 rfl (by first | exact Nat.le_of_ble_eq_true rfl | simp [z_rfc, z_ci, z_cj]) d_AckBook_Flow_leaveAcknowledged_13) (fun v_ hv H locs cells slots hZ => ?_)
      obtain ⟨rfl, h⟩ := hv
      generalize w1_ = w at h hZ
      refine x_aload_n hC d_AckBook_Flow_leaveAcknowledged_16 rfl (lv_at hl 2 rfl) ?_
      refine x_getI hC hZ zc9 h (by decide) t_498 (fun _ h9 => h9) d_AckBook_Flow_leaveAcknowledged_17 (fun v2 h => ?_)
      refine lv_if_eq (tgt := 46) hC.1 hC.2.1 d_AckBook_Flow_leaveAcknowledged_20 (by decide) (fun hc => ?_) (fun hc => ?_)
      · have h := z_ifp hc h
        refine x_aload_n hC d_AckBook_Flow_leaveAcknowledged_46 rfl (lv_at hl 2 rfl) ?_
        refine x_getR hC hZ zc9 h (by decide) t_504 (fun _ h9 => h9) d_AckBook_Flow_leaveAcknowledged_47 (fun r3 h => ?_)
        refine x_astore_n (lv' := [(3, va_rf r3), (2, .int (xL2 + (1 : Int32))), (0, va_rf rL0)]) hC d_AckBook_Flow_leaveAcknowledged_50 rfl hl (by decide) (by first | rfl | simp [z_rfc, z_ci, z_cj]) (fun ls hl => ?_)
        refine lv_goto (tgt := 4) hC.1 hC.2.1 d_AckBook_Flow_leaveAcknowledged_51 (by decide) ?_
        exact ih _ _ _ _ _ h _ _ _ _ _ hZ (lv_sub hl [2, 1, 0] rfl)
      · have h := z_ifn hc h
        refine x_aload_n hC d_AckBook_Flow_leaveAcknowledged_23 rfl (lv_at hl 2 rfl) ?_
        refine x_getI hC hZ zc9 h (by decide) t_499 (fun _ h9 => h9) d_AckBook_Flow_leaveAcknowledged_24 (fun v4 h => ?_)
        refine lv_if_eq (tgt := 46) hC.1 hC.2.1 d_AckBook_Flow_leaveAcknowledged_27 (by decide) (fun hc => ?_) (fun hc => ?_)
        · have h := z_ifp hc h
          refine x_aload_n hC d_AckBook_Flow_leaveAcknowledged_46 rfl (lv_at hl 2 rfl) ?_
          refine x_getR hC hZ zc9 h (by decide) t_504 (fun _ h9 => h9) d_AckBook_Flow_leaveAcknowledged_47 (fun r5 h => ?_)
          refine x_astore_n (lv' := [(3, va_rf r5), (2, .int (xL2 + (1 : Int32))), (0, va_rf rL0)]) hC d_AckBook_Flow_leaveAcknowledged_50 rfl hl (by decide) (by first | rfl | simp [z_rfc, z_ci, z_cj]) (fun ls hl => ?_)
          refine lv_goto (tgt := 4) hC.1 hC.2.1 d_AckBook_Flow_leaveAcknowledged_51 (by decide) ?_
          exact ih _ _ _ _ _ h _ _ _ _ _ hZ (lv_sub hl [2, 1, 0] rfl)
        · have h := z_ifn hc h
          refine x_aload_n hC d_AckBook_Flow_leaveAcknowledged_30 rfl (lv_at hl 1 rfl) ?_
          refine x_aload_n hC d_AckBook_Flow_leaveAcknowledged_31 rfl (lv_at hl 2 rfl) ?_
          obtain ⟨a_, fs_, eo_, h⟩ := z_this_spec h
          obtain ⟨w1_, o1_, hF_, ha_⟩ := z_cI_spec h
          refine x_goes hC hRc hRs hFr ha_ (z_goV (As := [va_rf rL3]) hC hZ zc8 eo_ (k_AckBook_Flow_isAfterRecovery hT hfl _ _ hF_) t_343 t_345 ts_AckBook_Flow_isAfterRecovery t_11 t_346 ⟨by decide, by decide, (by decide +kernel : (parseMethodDescriptor y_AckBook_Flow_isAfterRecovery.desc).map (fun d => d.parameters.length) = some 1)⟩ (by rw [hRt.1]; decide) (by rw [hRt.2]; decide) hl.1 rfl (by first | exact Nat.le_of_ble_eq_true rfl | simp [z_rfc, z_ci, z_cj]) d_AckBook_Flow_leaveAcknowledged_32) (fun v_ hv H locs cells slots hZ => ?_)
          obtain ⟨v7, rfl, h⟩ := hv
          generalize w1_ = w at h hZ
          refine lv_if_eq (tgt := 46) hC.1 hC.2.1 d_AckBook_Flow_leaveAcknowledged_35 (by decide) (fun hc => ?_) (fun hc => ?_)
          · have h := z_ifp hc h
            refine x_aload_n hC d_AckBook_Flow_leaveAcknowledged_46 rfl (lv_at hl 2 rfl) ?_
            refine x_getR hC hZ zc9 h (by decide) t_504 (fun _ h9 => h9) d_AckBook_Flow_leaveAcknowledged_47 (fun r8 h => ?_)
            refine x_astore_n (lv' := [(3, va_rf r8), (2, .int (xL2 + (1 : Int32))), (0, va_rf rL0)]) hC d_AckBook_Flow_leaveAcknowledged_50 rfl hl (by decide) (by first | rfl | simp [z_rfc, z_ci, z_cj]) (fun ls hl => ?_)
            refine lv_goto (tgt := 4) hC.1 hC.2.1 d_AckBook_Flow_leaveAcknowledged_51 (by decide) ?_
            exact ih _ _ _ _ _ h _ _ _ _ _ hZ (lv_sub hl [2, 1, 0] rfl)
          · have h := z_ifn hc h
            refine x_aload_n hC d_AckBook_Flow_leaveAcknowledged_38 rfl (lv_at hl 1 rfl) ?_
            refine x_aload_n hC d_AckBook_Flow_leaveAcknowledged_39 rfl (lv_at hl 2 rfl) ?_
            refine x_getI hC hZ zc9 h (by decide) t_489 (fun _ h9 => h9) d_AckBook_Flow_leaveAcknowledged_40 (fun v9 h => ?_)
            obtain ⟨a_, fs_, eo_, h⟩ := z_this_spec h
            obtain ⟨w1_, o1_, hF_, ha_⟩ := z_cV_spec h
            refine x_goes hC hRc hRs hFr ha_ (z_goV (As := [.int v9]) hC hZ zc8 eo_ (k_AckBook_Flow_grow hT hfl _ _ hF_) t_674 t_676 ts_AckBook_Flow_grow t_11 t_677 ⟨by decide, by decide, (by decide +kernel : (parseMethodDescriptor y_AckBook_Flow_grow.desc).map (fun d => d.parameters.length) = some 1)⟩ (by rw [hRt.1]; decide) (by rw [hRt.2]; decide) hl.1 rfl (by first | exact Nat.le_of_ble_eq_true rfl | simp [z_rfc, z_ci, z_cj]) d_AckBook_Flow_leaveAcknowledged_43) (fun v_ hv H locs cells slots hZ => ?_)
            obtain ⟨rfl, h⟩ := hv
            generalize w1_ = w at h hZ
            refine x_aload_n hC d_AckBook_Flow_leaveAcknowledged_46 rfl (lv_at hl 2 rfl) ?_
            refine x_getR hC hZ zc9 h (by decide) t_504 (fun _ h9 => h9) d_AckBook_Flow_leaveAcknowledged_47 (fun r11 h => ?_)
            refine x_astore_n (lv' := [(3, va_rf r11), (2, .int (xL2 + (1 : Int32))), (0, va_rf rL0)]) hC d_AckBook_Flow_leaveAcknowledged_50 rfl hl (by decide) (by first | rfl | simp [z_rfc, z_ci, z_cj]) (fun ls hl => ?_)
            refine lv_goto (tgt := 4) hC.1 hC.2.1 d_AckBook_Flow_leaveAcknowledged_51 (by decide) ?_
            exact ih _ _ _ _ _ h _ _ _ _ _ hZ (lv_sub hl [2, 1, 0] rfl)
set_option maxHeartbeats 4000000 in
set_option maxRecDepth 100000 in
theorem k_AckBook_Flow_leaveAcknowledged {b0 : Nat} {H0 : Heap} {D : va_G} {ZS : List (String × String × String × Value)} {l : Launch} (hT : z_TB (zGG b0 H0 D ZS)) (hfl : l.flags = pinnedFlags ++ [noTraceFlag]) {a0 : Option Nat} {pR1 : Option Nat} (F : Nat) {w : zW} (res : zO × zW) (h : f_AckBook_Flow_leaveAcknowledged F a0 pR1 w = some res) : z_Ct (zGG b0 H0 D ZS) l y_AckBook_Flow_leaveAcknowledged (.code y_AckBook_Flow_leaveAcknowledged c_AckBook_Flow_leaveAcknowledged 4 (some FieldType.int)) 1 21 [va_rf a0, va_rf pR1] w res := by
  refine z_ct hT hfl (by decide) (by simp only [z_sl_i, z_sl_j, z_sl_r, z_sl_n]; decide) ?_
  intro p e R s m args below meth c hC hr hRc hRs hRt hnm hFr H ls hZ hl
  simp only [z_la_i, z_la_j, z_la_r, z_la_n] at hl
  have hl : lv_has ls 4 [(0, va_rf a0), (1, va_rf pR1)] := hl
  unfold f_AckBook_Flow_leaveAcknowledged at h
  refine lv_iconst (v := (0 : Int32)) hC.1 hC.2.1 d_AckBook_Flow_leaveAcknowledged_0 (by decide) ?_
  refine lv_istore_n (lv' := [(2, .int (0 : Int32)), (0, va_rf a0), (1, va_rf pR1)]) hC.1 hC.2.1 d_AckBook_Flow_leaveAcknowledged_1 rfl hl (by decide) (by first | rfl | simp [z_rfc, z_ci, z_cj]) (fun ls hl => ?_)
  refine x_aload_n hC d_AckBook_Flow_leaveAcknowledged_2 rfl (lv_at hl 2 rfl) ?_
  refine x_astore_n (lv' := [(3, va_rf pR1), (2, .int (0 : Int32)), (0, va_rf a0), (1, va_rf pR1)]) hC d_AckBook_Flow_leaveAcknowledged_3 rfl hl (by decide) (by first | rfl | simp [z_rfc, z_ci, z_cj]) (fun ls hl => ?_)
  exact (kj_AckBook_Flow_leaveAcknowledged hT hfl hC hr hRc hRs hFr hRt hnm F) _ _ _ _ _ h _ _ _ _ _ hZ (lv_sub hl [2, 1, 0] rfl)
def f_AckBook_Chain_clear (F : Nat) (a0 : Option Nat) (w : zW) : zR :=
  z_put w 3 0 a0 (va_rf none) fun w =>
  some (.inl none, w)
set_option maxHeartbeats 4000000 in
set_option maxRecDepth 100000 in
theorem k_AckBook_Chain_clear {b0 : Nat} {H0 : Heap} {D : va_G} {ZS : List (String × String × String × Value)} {l : Launch} (hT : z_TB (zGG b0 H0 D ZS)) (hfl : l.flags = pinnedFlags ++ [noTraceFlag]) {a0 : Option Nat} (F : Nat) {w : zW} (res : zO × zW) (h : f_AckBook_Chain_clear F a0 w = some res) : z_Ct (zGG b0 H0 D ZS) l y_AckBook_Chain_clear (.code y_AckBook_Chain_clear c_AckBook_Chain_clear 1 (none)) 0 0 [va_rf a0] w res := by
  refine z_ct hT hfl (by decide) (by simp only [z_sl_i, z_sl_j, z_sl_r, z_sl_n]; decide) ?_
  intro p e R s m args below meth c hC hr hRc hRs hRt hnm hFr H ls hZ hl
  simp only [z_la_i, z_la_j, z_la_r, z_la_n] at hl
  have hl : lv_has ls 1 [(0, va_rf a0)] := hl
  unfold f_AckBook_Chain_clear at h
  refine x_aload_n hC d_AckBook_Chain_clear_0 rfl (lv_at hl 0 rfl) ?_
  refine x_null hC d_AckBook_Chain_clear_1 ?_
  refine x_put hC hZ zc3 h (by decide) t_53 (fun _ h9 => h9) rfl rfl (z_rfn _ _) (z_rff _ _) d_AckBook_Chain_clear_2 (fun w H locs hZ h => ?_)
  exact x_vret hC hRc hRs hZ hr h d_AckBook_Chain_clear_5
def f_AckBook_Arrivals_forget (F : Nat) (a0 : Option Nat) (w : zW) : zR :=
  z_put w 5 2 a0 (.int (0 : Int32)) fun w =>
  z_put w 5 3 a0 (.long (0 : Int64)) fun w =>
  z_put w 5 4 a0 (.int (0 : Int32)) fun w =>
  z_putZ w 5 6 a0 (0 : Int32) fun w =>
  some (.inl none, w)
set_option maxHeartbeats 4000000 in
set_option maxRecDepth 100000 in
theorem k_AckBook_Arrivals_forget {b0 : Nat} {H0 : Heap} {D : va_G} {ZS : List (String × String × String × Value)} {l : Launch} (hT : z_TB (zGG b0 H0 D ZS)) (hfl : l.flags = pinnedFlags ++ [noTraceFlag]) {a0 : Option Nat} (F : Nat) {w : zW} (res : zO × zW) (h : f_AckBook_Arrivals_forget F a0 w = some res) : z_Ct (zGG b0 H0 D ZS) l y_AckBook_Arrivals_forget (.code y_AckBook_Arrivals_forget c_AckBook_Arrivals_forget 1 (none)) 0 0 [va_rf a0] w res := by
  refine z_ct hT hfl (by decide) (by simp only [z_sl_i, z_sl_j, z_sl_r, z_sl_n]; decide) ?_
  intro p e R s m args below meth c hC hr hRc hRs hRt hnm hFr H ls hZ hl
  simp only [z_la_i, z_la_j, z_la_r, z_la_n] at hl
  have hl : lv_has ls 1 [(0, va_rf a0)] := hl
  unfold f_AckBook_Arrivals_forget at h
  refine x_aload_n hC d_AckBook_Arrivals_forget_0 rfl (lv_at hl 0 rfl) ?_
  refine lv_iconst (v := (0 : Int32)) hC.1 hC.2.1 d_AckBook_Arrivals_forget_1 (by decide) ?_
  refine x_put hC hZ zc5 h (by decide) t_128 (fun _ h9 => h9) rfl rfl rfl rfl d_AckBook_Arrivals_forget_2 (fun w H locs hZ h => ?_)
  refine x_aload_n hC d_AckBook_Arrivals_forget_5 rfl (lv_at hl 0 rfl) ?_
  refine lv_lconst (v := (0 : Int64)) hC.1 hC.2.1 d_AckBook_Arrivals_forget_6 (by decide) ?_
  refine x_put hC hZ zc5 h (by decide) t_130 (fun _ h9 => h9) rfl rfl rfl rfl d_AckBook_Arrivals_forget_7 (fun w H locs hZ h => ?_)
  refine x_aload_n hC d_AckBook_Arrivals_forget_10 rfl (lv_at hl 0 rfl) ?_
  refine lv_iconst (v := (0 : Int32)) hC.1 hC.2.1 d_AckBook_Arrivals_forget_11 (by decide) ?_
  refine x_put hC hZ zc5 h (by decide) t_132 (fun _ h9 => h9) rfl rfl rfl rfl d_AckBook_Arrivals_forget_12 (fun w H locs hZ h => ?_)
  refine x_aload_n hC d_AckBook_Arrivals_forget_15 rfl (lv_at hl 0 rfl) ?_
  refine lv_iconst (v := (0 : Int32)) hC.1 hC.2.1 d_AckBook_Arrivals_forget_16 (by decide) ?_
  refine x_putZ hC hZ zc5 h (by decide) t_135 (fun _ h9 => h9) rfl rfl d_AckBook_Arrivals_forget_17 (fun w H locs hZ h => ?_)
  exact x_vret hC hRc hRs hZ hr h d_AckBook_Arrivals_forget_20
def f_AckBook_Chain_removeFirst (F : Nat) (a0 : Option Nat) (w : zW) : zR :=
  z_getR w 3 0 a0 fun r1 =>
  if r1 = none then (
    some (.inl (some (.int (-1 : Int32))), w))
  else (
    z_getR w 3 0 a0 fun r2 =>
    z_getI w 9 0 r2 fun v3 =>
    z_getR w 3 0 a0 fun r4 =>
    z_getR w 9 7 r4 fun r5 =>
    z_put w 3 0 a0 (va_rf r5) fun w =>
    some (.inl (some (.int v3)), w))
set_option maxHeartbeats 4000000 in
set_option maxRecDepth 100000 in
theorem k_AckBook_Chain_removeFirst {b0 : Nat} {H0 : Heap} {D : va_G} {ZS : List (String × String × String × Value)} {l : Launch} (hT : z_TB (zGG b0 H0 D ZS)) (hfl : l.flags = pinnedFlags ++ [noTraceFlag]) {a0 : Option Nat} (F : Nat) {w : zW} (res : zO × zW) (h : f_AckBook_Chain_removeFirst F a0 w = some res) : z_Ct (zGG b0 H0 D ZS) l y_AckBook_Chain_removeFirst (.code y_AckBook_Chain_removeFirst c_AckBook_Chain_removeFirst 2 (some FieldType.int)) 0 0 [va_rf a0] w res := by
  refine z_ct hT hfl (by decide) (by simp only [z_sl_i, z_sl_j, z_sl_r, z_sl_n]; decide) ?_
  intro p e R s m args below meth c hC hr hRc hRs hRt hnm hFr H ls hZ hl
  simp only [z_la_i, z_la_j, z_la_r, z_la_n] at hl
  have hl : lv_has ls 2 [(0, va_rf a0)] := hl
  unfold f_AckBook_Chain_removeFirst at h
  refine x_aload_n hC d_AckBook_Chain_removeFirst_0 rfl (lv_at hl 0 rfl) ?_
  refine x_getR hC hZ zc3 h (by decide) t_53 (fun _ h9 => h9) d_AckBook_Chain_removeFirst_1 (fun r1 h => ?_)
  refine x_ifnonnull (tgt := 9) hC d_AckBook_Chain_removeFirst_4 (by decide) (fun hc => ?_) (fun hc => ?_)
  · have h := z_ifn hc h
    refine x_aload_n hC d_AckBook_Chain_removeFirst_9 rfl (lv_at hl 0 rfl) ?_
    refine x_getR hC hZ zc3 h (by decide) t_53 (fun _ h9 => h9) d_AckBook_Chain_removeFirst_10 (fun r2 h => ?_)
    refine x_getI hC hZ zc9 h (by decide) t_486 (fun _ h9 => h9) d_AckBook_Chain_removeFirst_13 (fun v3 h => ?_)
    refine lv_istore_n (lv' := [(1, .int v3), (0, va_rf a0)]) hC.1 hC.2.1 d_AckBook_Chain_removeFirst_16 rfl hl (by decide) (by first | rfl | simp [z_rfc, z_ci, z_cj]) (fun ls hl => ?_)
    refine x_aload_n hC d_AckBook_Chain_removeFirst_17 rfl (lv_at hl 1 rfl) ?_
    refine x_aload_n hC d_AckBook_Chain_removeFirst_18 rfl (lv_at hl 1 rfl) ?_
    refine x_getR hC hZ zc3 h (by decide) t_53 (fun _ h9 => h9) d_AckBook_Chain_removeFirst_19 (fun r4 h => ?_)
    refine x_getR hC hZ zc9 h (by decide) t_503 (fun _ h9 => h9) d_AckBook_Chain_removeFirst_22 (fun r5 h => ?_)
    refine x_put hC hZ zc3 h (by decide) t_53 (fun _ h9 => h9) rfl rfl (z_rfn _ _) (z_rff _ _) d_AckBook_Chain_removeFirst_25 (fun w H locs hZ h => ?_)
    refine lv_iload_n hC.1 hC.2.1 d_AckBook_Chain_removeFirst_28 rfl (lv_at hl 0 rfl) ?_
    exact x_iret hC hRc hRs hZ hr rfl h d_AckBook_Chain_removeFirst_29
  · have h := z_ifp hc h
    refine lv_iconst (v := (-1 : Int32)) hC.1 hC.2.1 d_AckBook_Chain_removeFirst_7 (by decide) ?_
    exact x_iret hC hRc hRs hZ hr rfl h d_AckBook_Chain_removeFirst_8
def j_AckBook_Arrivals_firstNotAbove (F : Nat) : Nat → Option Nat → Int64 → Int32 → zW → zR
  | 0, _, _, _, _ => none
  | N + 1, rL0, yL1, xL3, w =>
    z_getI w 5 2 rL0 fun v1 =>
    if v1 ≤ xL3 then (
      z_getI w 5 2 rL0 fun v2 =>
      some (.inl (some (.int v2)), w))
    else (
      z_getR w 5 0 rL0 fun r3 =>
      z_len w r3 fun v4 =>
      if v4 ≤ xL3 then (
        z_getI w 5 2 rL0 fun v5 =>
        some (.inl (some (.int v5)), w))
      else (
        z_getR w 5 0 rL0 fun r6 =>
        z_ldL w r6 xL3 fun v7 =>
        if 0 < (lg_cmp v7 yL1) then (
          j_AckBook_Arrivals_firstNotAbove F N rL0 yL1 (xL3 + (1 : Int32)) w)
        else (
          some (.inl (some (.int xL3)), w))))
def f_AckBook_Arrivals_firstNotAbove (F : Nat) (a0 : Option Nat) (pJ1 : Int64) (w : zW) : zR :=
  j_AckBook_Arrivals_firstNotAbove F F a0 pJ1 (0 : Int32) w
set_option maxHeartbeats 4000000 in
set_option maxRecDepth 100000 in
theorem kj_AckBook_Arrivals_firstNotAbove {b0 : Nat} {H0 : Heap} {D : va_G} {ZS : List (String × String × String × Value)} {l : Launch} (hT : z_TB (zGG b0 H0 D ZS)) (hfl : l.flags = pinnedFlags ++ [noTraceFlag]) {p : Program} {e : Env} {R : Room} {s : State} {m : MethodId} {args : Array Value} {below : List Frame} {meth : Method} {c : Code} {w0 : zW} {F : Nat} (hC : z_C (zGG b0 H0 D ZS) p e s m meth c c_AckBook_Arrivals_firstNotAbove 4 y_AckBook_Arrivals_firstNotAbove.cls) (hr : meth.sig.returnType = (some FieldType.int)) (hRc : R.cells = w0.2.1) (hRs : R.slots = w0.2.2.1) (hFr : c.exceptionTable.toList = []) (hRt : R.frames = 0 ∧ R.locals = 0) (hnm : meth.name = y_AckBook_Arrivals_firstNotAbove.name) : ∀ N : Nat, (∀ (rL0 : Option Nat) (yL1 : Int64) (xL3 : Int32) (w : zW) (res : zO × zW), j_AckBook_Arrivals_firstNotAbove F N rL0 yL1 xL3 w = some res → ∀ (H : Heap) (locs : List Loc) (cells slots : Nat) (ls : Array Slot), z_Z (zGG b0 H0 D ZS) R s w H locs cells slots → lv_has ls 4 [(0, va_rf rL0), (1, .long yL1), (3, .int xL3)] → W p l e R s m args below meth c H locs cells slots (z_Q (zGG b0 H0 D ZS) below s w0 res) (F0 m 2 ls [])) := by
  intro N
  induction N with
  | zero =>
    intro rL0 yL1 xL3 w res h
    rw [j_AckBook_Arrivals_firstNotAbove] at h
    cases h
  | succ N ih =>
    intro rL0 yL1 xL3 w res h H locs cells slots ls hZ hl
    rw [j_AckBook_Arrivals_firstNotAbove] at h
    refine lv_iload_n hC.1 hC.2.1 d_AckBook_Arrivals_firstNotAbove_2 rfl (lv_at hl 2 rfl) ?_
    refine x_aload_n hC d_AckBook_Arrivals_firstNotAbove_3 rfl (lv_at hl 0 rfl) ?_
    refine x_getI hC hZ zc5 h (by decide) t_128 (fun _ h9 => h9) d_AckBook_Arrivals_firstNotAbove_4 (fun v1 h => ?_)
    refine lv_icmp_ge (tgt := 38) hC.1 hC.2.1 d_AckBook_Arrivals_firstNotAbove_7 (by decide) (fun hc => ?_) (fun hc => ?_)
    · have h := z_ifp hc h
      refine x_aload_n hC d_AckBook_Arrivals_firstNotAbove_38 rfl (lv_at hl 0 rfl) ?_
      refine x_getI hC hZ zc5 h (by decide) t_128 (fun _ h9 => h9) d_AckBook_Arrivals_firstNotAbove_39 (fun v2 h => ?_)
      exact x_iret hC hRc hRs hZ hr rfl h d_AckBook_Arrivals_firstNotAbove_42
    · have h := z_ifn hc h
      refine lv_iload_n hC.1 hC.2.1 d_AckBook_Arrivals_firstNotAbove_10 rfl (lv_at hl 2 rfl) ?_
      refine x_aload_n hC d_AckBook_Arrivals_firstNotAbove_11 rfl (lv_at hl 0 rfl) ?_
      refine x_getR hC hZ zc5 h (by decide) t_124 (fun _ h9 => h9) d_AckBook_Arrivals_firstNotAbove_12 (fun r3 h => ?_)
      refine x_len hC hZ h d_AckBook_Arrivals_firstNotAbove_15 (fun v4 h => ?_)
      refine lv_icmp_ge (tgt := 38) hC.1 hC.2.1 d_AckBook_Arrivals_firstNotAbove_16 (by decide) (fun hc => ?_) (fun hc => ?_)
      · have h := z_ifp hc h
        refine x_aload_n hC d_AckBook_Arrivals_firstNotAbove_38 rfl (lv_at hl 0 rfl) ?_
        refine x_getI hC hZ zc5 h (by decide) t_128 (fun _ h9 => h9) d_AckBook_Arrivals_firstNotAbove_39 (fun v5 h => ?_)
        exact x_iret hC hRc hRs hZ hr rfl h d_AckBook_Arrivals_firstNotAbove_42
      · have h := z_ifn hc h
        refine x_aload_n hC d_AckBook_Arrivals_firstNotAbove_19 rfl (lv_at hl 0 rfl) ?_
        refine x_getR hC hZ zc5 h (by decide) t_124 (fun _ h9 => h9) d_AckBook_Arrivals_firstNotAbove_20 (fun r6 h => ?_)
        refine lv_iload_n hC.1 hC.2.1 d_AckBook_Arrivals_firstNotAbove_23 rfl (lv_at hl 2 rfl) ?_
        refine x_ldL hC hZ h d_AckBook_Arrivals_firstNotAbove_24 (fun v7 h => ?_)
        refine lv_lload_n hC.1 hC.2.1 d_AckBook_Arrivals_firstNotAbove_25 rfl (lv_at hl 1 rfl) ?_
        refine W.lcmp hC.1 hC.2.1 d_AckBook_Arrivals_firstNotAbove_26 ?_
        refine lv_if_gt (tgt := 32) hC.1 hC.2.1 d_AckBook_Arrivals_firstNotAbove_27 (by decide) (fun hc => ?_) (fun hc => ?_)
        · have h := z_ifp hc h
          refine lv_iinc (lv' := [(3, .int (xL3 + (1 : Int32))), (0, va_rf rL0), (1, .long yL1)]) hC.1 hC.2.1 d_AckBook_Arrivals_firstNotAbove_32 hl (k := 2) rfl rfl (by decide) (by first | rfl | simp [z_rfc, z_ci, z_cj]) (fun ls hl => ?_)
          refine lv_goto (tgt := 2) hC.1 hC.2.1 d_AckBook_Arrivals_firstNotAbove_35 (by decide) ?_
          exact ih _ _ _ _ _ h _ _ _ _ _ hZ (lv_sub hl [1, 2, 0] rfl)
        · have h := z_ifn hc h
          refine lv_iload_n hC.1 hC.2.1 d_AckBook_Arrivals_firstNotAbove_30 rfl (lv_at hl 2 rfl) ?_
          exact x_iret hC hRc hRs hZ hr rfl h d_AckBook_Arrivals_firstNotAbove_31
set_option maxHeartbeats 4000000 in
set_option maxRecDepth 100000 in
theorem k_AckBook_Arrivals_firstNotAbove {b0 : Nat} {H0 : Heap} {D : va_G} {ZS : List (String × String × String × Value)} {l : Launch} (hT : z_TB (zGG b0 H0 D ZS)) (hfl : l.flags = pinnedFlags ++ [noTraceFlag]) {a0 : Option Nat} {pJ1 : Int64} (F : Nat) {w : zW} (res : zO × zW) (h : f_AckBook_Arrivals_firstNotAbove F a0 pJ1 w = some res) : z_Ct (zGG b0 H0 D ZS) l y_AckBook_Arrivals_firstNotAbove (.code y_AckBook_Arrivals_firstNotAbove c_AckBook_Arrivals_firstNotAbove 4 (some FieldType.int)) 0 0 [va_rf a0, .long pJ1] w res := by
  refine z_ct hT hfl (by decide) (by simp only [z_sl_i, z_sl_j, z_sl_r, z_sl_n]; decide) ?_
  intro p e R s m args below meth c hC hr hRc hRs hRt hnm hFr H ls hZ hl
  simp only [z_la_i, z_la_j, z_la_r, z_la_n] at hl
  have hl : lv_has ls 4 [(0, va_rf a0), (1, .long pJ1)] := hl
  unfold f_AckBook_Arrivals_firstNotAbove at h
  refine lv_iconst (v := (0 : Int32)) hC.1 hC.2.1 d_AckBook_Arrivals_firstNotAbove_0 (by decide) ?_
  refine lv_istore_n (lv' := [(3, .int (0 : Int32)), (0, va_rf a0), (1, .long pJ1)]) hC.1 hC.2.1 d_AckBook_Arrivals_firstNotAbove_1 rfl hl (by decide) (by first | rfl | simp [z_rfc, z_ci, z_cj]) (fun ls hl => ?_)
  exact (kj_AckBook_Arrivals_firstNotAbove hT hfl hC hr hRc hRs hFr hRt hnm F) _ _ _ _ _ h _ _ _ _ _ hZ (lv_sub hl [1, 2, 0] rfl)
def j_AckBook_Arrivals_remove (F : Nat) : Nat → Option Nat → Int32 → zW → zR
  | 0, _, _, _ => none
  | N + 1, rL0, xL2, w =>
    z_getI w 5 2 rL0 fun v1 =>
    if v1 ≤ xL2 then (
      some (.inl none, w))
    else (
      z_getR w 5 0 rL0 fun r2 =>
      z_getR w 5 0 rL0 fun r3 =>
      z_ldL w r3 (xL2 + (1 : Int32)) fun v4 =>
      z_stL w r2 xL2 v4 fun w =>
      z_getR w 5 1 rL0 fun r5 =>
      z_getR w 5 1 rL0 fun r6 =>
      z_ldL w r6 (xL2 + (1 : Int32)) fun v7 =>
      z_stL w r5 xL2 v7 fun w =>
      j_AckBook_Arrivals_remove F N rL0 (xL2 + (1 : Int32)) w)
def f_AckBook_Arrivals_remove (F : Nat) (a0 : Option Nat) (pI1 : Int32) (w : zW) : zR :=
  z_getI w 5 2 a0 fun v8 =>
  z_put w 5 2 a0 (.int (v8 - (1 : Int32))) fun w =>
  j_AckBook_Arrivals_remove F F a0 pI1 w
set_option maxHeartbeats 4000000 in
set_option maxRecDepth 100000 in
theorem kj_AckBook_Arrivals_remove {b0 : Nat} {H0 : Heap} {D : va_G} {ZS : List (String × String × String × Value)} {l : Launch} (hT : z_TB (zGG b0 H0 D ZS)) (hfl : l.flags = pinnedFlags ++ [noTraceFlag]) {p : Program} {e : Env} {R : Room} {s : State} {m : MethodId} {args : Array Value} {below : List Frame} {meth : Method} {c : Code} {w0 : zW} {F : Nat} (hC : z_C (zGG b0 H0 D ZS) p e s m meth c c_AckBook_Arrivals_remove 3 y_AckBook_Arrivals_remove.cls) (hr : meth.sig.returnType = (none)) (hRc : R.cells = w0.2.1) (hRs : R.slots = w0.2.2.1) (hFr : c.exceptionTable.toList = []) (hRt : R.frames = 0 ∧ R.locals = 0) (hnm : meth.name = y_AckBook_Arrivals_remove.name) : ∀ N : Nat, (∀ (rL0 : Option Nat) (xL2 : Int32) (w : zW) (res : zO × zW), j_AckBook_Arrivals_remove F N rL0 xL2 w = some res → ∀ (H : Heap) (locs : List Loc) (cells slots : Nat) (ls : Array Slot), z_Z (zGG b0 H0 D ZS) R s w H locs cells slots → lv_has ls 3 [(0, va_rf rL0), (2, .int xL2)] → W p l e R s m args below meth c H locs cells slots (z_Q (zGG b0 H0 D ZS) below s w0 res) (F0 m 12 ls [])) := by
  intro N
  induction N with
  | zero =>
    intro rL0 xL2 w res h
    rw [j_AckBook_Arrivals_remove] at h
    cases h
  | succ N ih =>
    intro rL0 xL2 w res h H locs cells slots ls hZ hl
    rw [j_AckBook_Arrivals_remove] at h
    refine lv_iload_n hC.1 hC.2.1 d_AckBook_Arrivals_remove_12 rfl (lv_at hl 1 rfl) ?_
    refine x_aload_n hC d_AckBook_Arrivals_remove_13 rfl (lv_at hl 0 rfl) ?_
    refine x_getI hC hZ zc5 h (by decide) t_128 (fun _ h9 => h9) d_AckBook_Arrivals_remove_14 (fun v1 h => ?_)
    refine lv_icmp_ge (tgt := 54) hC.1 hC.2.1 d_AckBook_Arrivals_remove_17 (by decide) (fun hc => ?_) (fun hc => ?_)
    · have h := z_ifp hc h
      exact x_vret hC hRc hRs hZ hr h d_AckBook_Arrivals_remove_54
    · have h := z_ifn hc h
      refine x_aload_n hC d_AckBook_Arrivals_remove_20 rfl (lv_at hl 0 rfl) ?_
      refine x_getR hC hZ zc5 h (by decide) t_124 (fun _ h9 => h9) d_AckBook_Arrivals_remove_21 (fun r2 h => ?_)
      refine lv_iload_n hC.1 hC.2.1 d_AckBook_Arrivals_remove_24 rfl (lv_at hl 1 rfl) ?_
      refine x_aload_n hC d_AckBook_Arrivals_remove_25 rfl (lv_at hl 0 rfl) ?_
      refine x_getR hC hZ zc5 h (by decide) t_124 (fun _ h9 => h9) d_AckBook_Arrivals_remove_26 (fun r3 h => ?_)
      refine lv_iload_n hC.1 hC.2.1 d_AckBook_Arrivals_remove_29 rfl (lv_at hl 1 rfl) ?_
      refine lv_iconst (v := (1 : Int32)) hC.1 hC.2.1 d_AckBook_Arrivals_remove_30 (by decide) ?_
      refine lv_iadd hC.1 hC.2.1 d_AckBook_Arrivals_remove_31 ?_
      refine x_ldL hC hZ h d_AckBook_Arrivals_remove_32 (fun v4 h => ?_)
      refine x_stL hC hZ h d_AckBook_Arrivals_remove_33 (fun w H locs hZ h => ?_)
      refine x_aload_n hC d_AckBook_Arrivals_remove_34 rfl (lv_at hl 0 rfl) ?_
      refine x_getR hC hZ zc5 h (by decide) t_126 (fun _ h9 => h9) d_AckBook_Arrivals_remove_35 (fun r5 h => ?_)
      refine lv_iload_n hC.1 hC.2.1 d_AckBook_Arrivals_remove_38 rfl (lv_at hl 1 rfl) ?_
      refine x_aload_n hC d_AckBook_Arrivals_remove_39 rfl (lv_at hl 0 rfl) ?_
      refine x_getR hC hZ zc5 h (by decide) t_126 (fun _ h9 => h9) d_AckBook_Arrivals_remove_40 (fun r6 h => ?_)
      refine lv_iload_n hC.1 hC.2.1 d_AckBook_Arrivals_remove_43 rfl (lv_at hl 1 rfl) ?_
      refine lv_iconst (v := (1 : Int32)) hC.1 hC.2.1 d_AckBook_Arrivals_remove_44 (by decide) ?_
      refine lv_iadd hC.1 hC.2.1 d_AckBook_Arrivals_remove_45 ?_
      refine x_ldL hC hZ h d_AckBook_Arrivals_remove_46 (fun v7 h => ?_)
      refine x_stL hC hZ h d_AckBook_Arrivals_remove_47 (fun w H locs hZ h => ?_)
      refine lv_iinc (lv' := [(2, .int (xL2 + (1 : Int32))), (0, va_rf rL0)]) hC.1 hC.2.1 d_AckBook_Arrivals_remove_48 hl (k := 1) rfl rfl (by decide) (by first | rfl | simp [z_rfc, z_ci, z_cj]) (fun ls hl => ?_)
      refine lv_goto (tgt := 12) hC.1 hC.2.1 d_AckBook_Arrivals_remove_51 (by decide) ?_
      exact ih _ _ _ _ h _ _ _ _ _ hZ (lv_sub hl [1, 0] rfl)
set_option maxHeartbeats 4000000 in
set_option maxRecDepth 100000 in
theorem k_AckBook_Arrivals_remove {b0 : Nat} {H0 : Heap} {D : va_G} {ZS : List (String × String × String × Value)} {l : Launch} (hT : z_TB (zGG b0 H0 D ZS)) (hfl : l.flags = pinnedFlags ++ [noTraceFlag]) {a0 : Option Nat} {pI1 : Int32} (F : Nat) {w : zW} (res : zO × zW) (h : f_AckBook_Arrivals_remove F a0 pI1 w = some res) : z_Ct (zGG b0 H0 D ZS) l y_AckBook_Arrivals_remove (.code y_AckBook_Arrivals_remove c_AckBook_Arrivals_remove 3 (none)) 0 0 [va_rf a0, .int pI1] w res := by
  refine z_ct hT hfl (by decide) (by simp only [z_sl_i, z_sl_j, z_sl_r, z_sl_n]; decide) ?_
  intro p e R s m args below meth c hC hr hRc hRs hRt hnm hFr H ls hZ hl
  simp only [z_la_i, z_la_j, z_la_r, z_la_n] at hl
  have hl : lv_has ls 3 [(0, va_rf a0), (1, .int pI1)] := hl
  unfold f_AckBook_Arrivals_remove at h
  refine x_aload_n hC d_AckBook_Arrivals_remove_0 rfl (lv_at hl 0 rfl) ?_
  refine lv_dup hC.1 hC.2.1 d_AckBook_Arrivals_remove_1 (z_rfc _) ?_
  refine x_getI hC hZ zc5 h (by decide) t_128 (fun _ h9 => h9) d_AckBook_Arrivals_remove_2 (fun v8 h => ?_)
  refine lv_iconst (v := (1 : Int32)) hC.1 hC.2.1 d_AckBook_Arrivals_remove_5 (by decide) ?_
  refine lv_isub hC.1 hC.2.1 d_AckBook_Arrivals_remove_6 ?_
  refine x_put hC hZ zc5 h (by decide) t_128 (fun _ h9 => h9) rfl rfl rfl rfl d_AckBook_Arrivals_remove_7 (fun w H locs hZ h => ?_)
  refine lv_iload_n hC.1 hC.2.1 d_AckBook_Arrivals_remove_10 rfl (lv_at hl 1 rfl) ?_
  refine lv_istore_n (lv' := [(2, .int pI1), (0, va_rf a0), (1, .int pI1)]) hC.1 hC.2.1 d_AckBook_Arrivals_remove_11 rfl hl (by decide) (by first | rfl | simp [z_rfc, z_ci, z_cj]) (fun ls hl => ?_)
  exact (kj_AckBook_Arrivals_remove hT hfl hC hr hRc hRs hFr hRt hnm F) _ _ _ _ h _ _ _ _ _ hZ (lv_sub hl [1, 0] rfl)
def j_AckBook_Arrivals_insert (F : Nat) : Nat → Option Nat → Int64 → Int32 → Int32 → zW → zR
  | 0, _, _, _, _, _ => none
  | N + 1, rL0, yL1, xL3, xL4, w =>
    if xL4 ≤ xL3 then (
      z_getR w 5 0 rL0 fun r1 =>
      z_stL w r1 xL3 yL1 fun w =>
      z_getR w 5 1 rL0 fun r2 =>
      z_stL w r2 xL3 yL1 fun w =>
      z_getI w 5 2 rL0 fun v3 =>
      z_put w 5 2 rL0 (.int (v3 + (1 : Int32))) fun w =>
      z_getI w 5 2 rL0 fun v4 =>
      if v4 ≤ (64 : Int32) then (
        some (.inl none, w))
      else (
        z_getI w 5 2 rL0 fun v5 =>
        z_put w 5 2 rL0 (.int (v5 - (1 : Int32))) fun w =>
        z_getR w 5 1 rL0 fun r6 =>
        z_getI w 5 2 rL0 fun v7 =>
        z_ldL w r6 v7 fun v8 =>
        z_put w 5 3 rL0 (.long (v8 + (1 : Int64))) fun w =>
        some (.inl none, w)))
    else (
      z_getR w 5 0 rL0 fun r9 =>
      z_getR w 5 0 rL0 fun r10 =>
      z_ldL w r10 (xL4 - (1 : Int32)) fun v11 =>
      z_stL w r9 xL4 v11 fun w =>
      z_getR w 5 1 rL0 fun r12 =>
      z_getR w 5 1 rL0 fun r13 =>
      z_ldL w r13 (xL4 - (1 : Int32)) fun v14 =>
      z_stL w r12 xL4 v14 fun w =>
      j_AckBook_Arrivals_insert F N rL0 yL1 xL3 (xL4 + (-1 : Int32)) w)
def f_AckBook_Arrivals_insert (F : Nat) (a0 : Option Nat) (pJ1 : Int64) (pI2 : Int32) (w : zW) : zR :=
  z_getI w 5 2 a0 fun v15 =>
  j_AckBook_Arrivals_insert F F a0 pJ1 pI2 v15 w
set_option maxHeartbeats 4000000 in
set_option maxRecDepth 100000 in
theorem kj_AckBook_Arrivals_insert {b0 : Nat} {H0 : Heap} {D : va_G} {ZS : List (String × String × String × Value)} {l : Launch} (hT : z_TB (zGG b0 H0 D ZS)) (hfl : l.flags = pinnedFlags ++ [noTraceFlag]) {p : Program} {e : Env} {R : Room} {s : State} {m : MethodId} {args : Array Value} {below : List Frame} {meth : Method} {c : Code} {w0 : zW} {F : Nat} (hC : z_C (zGG b0 H0 D ZS) p e s m meth c c_AckBook_Arrivals_insert 5 y_AckBook_Arrivals_insert.cls) (hr : meth.sig.returnType = (none)) (hRc : R.cells = w0.2.1) (hRs : R.slots = w0.2.2.1) (hFr : c.exceptionTable.toList = []) (hRt : R.frames = 0 ∧ R.locals = 0) (hnm : meth.name = y_AckBook_Arrivals_insert.name) : ∀ N : Nat, (∀ (rL0 : Option Nat) (yL1 : Int64) (xL3 : Int32) (xL4 : Int32) (w : zW) (res : zO × zW), j_AckBook_Arrivals_insert F N rL0 yL1 xL3 xL4 w = some res → ∀ (H : Heap) (locs : List Loc) (cells slots : Nat) (ls : Array Slot), z_Z (zGG b0 H0 D ZS) R s w H locs cells slots → lv_has ls 5 [(0, va_rf rL0), (1, .long yL1), (3, .int xL3), (4, .int xL4)] → W p l e R s m args below meth c H locs cells slots (z_Q (zGG b0 H0 D ZS) below s w0 res) (F0 m 6 ls [])) := by
  intro N
  induction N with
  | zero =>
    intro rL0 yL1 xL3 xL4 w res h
    rw [j_AckBook_Arrivals_insert] at h
    cases h
  | succ N ih =>
    intro rL0 yL1 xL3 xL4 w res h H locs cells slots ls hZ hl
    rw [j_AckBook_Arrivals_insert] at h
    refine lv_iload hC.1 hC.2.1 d_AckBook_Arrivals_insert_6 (lv_at hl 3 rfl) ?_
    refine lv_iload_n hC.1 hC.2.1 d_AckBook_Arrivals_insert_8 rfl (lv_at hl 2 rfl) ?_
    refine lv_icmp_le (tgt := 50) hC.1 hC.2.1 d_AckBook_Arrivals_insert_9 (by decide) (fun hc => ?_) (fun hc => ?_)
    · have h := z_ifp hc h
      refine x_aload_n hC d_AckBook_Arrivals_insert_50 rfl (lv_at hl 0 rfl) ?_
      refine x_getR hC hZ zc5 h (by decide) t_124 (fun _ h9 => h9) d_AckBook_Arrivals_insert_51 (fun r1 h => ?_)
      refine lv_iload_n hC.1 hC.2.1 d_AckBook_Arrivals_insert_54 rfl (lv_at hl 2 rfl) ?_
      refine lv_lload_n hC.1 hC.2.1 d_AckBook_Arrivals_insert_55 rfl (lv_at hl 1 rfl) ?_
      refine x_stL hC hZ h d_AckBook_Arrivals_insert_56 (fun w H locs hZ h => ?_)
      refine x_aload_n hC d_AckBook_Arrivals_insert_57 rfl (lv_at hl 0 rfl) ?_
      refine x_getR hC hZ zc5 h (by decide) t_126 (fun _ h9 => h9) d_AckBook_Arrivals_insert_58 (fun r2 h => ?_)
      refine lv_iload_n hC.1 hC.2.1 d_AckBook_Arrivals_insert_61 rfl (lv_at hl 2 rfl) ?_
      refine lv_lload_n hC.1 hC.2.1 d_AckBook_Arrivals_insert_62 rfl (lv_at hl 1 rfl) ?_
      refine x_stL hC hZ h d_AckBook_Arrivals_insert_63 (fun w H locs hZ h => ?_)
      refine x_aload_n hC d_AckBook_Arrivals_insert_64 rfl (lv_at hl 0 rfl) ?_
      refine lv_dup hC.1 hC.2.1 d_AckBook_Arrivals_insert_65 (z_rfc _) ?_
      refine x_getI hC hZ zc5 h (by decide) t_128 (fun _ h9 => h9) d_AckBook_Arrivals_insert_66 (fun v3 h => ?_)
      refine lv_iconst (v := (1 : Int32)) hC.1 hC.2.1 d_AckBook_Arrivals_insert_69 (by decide) ?_
      refine lv_iadd hC.1 hC.2.1 d_AckBook_Arrivals_insert_70 ?_
      refine x_put hC hZ zc5 h (by decide) t_128 (fun _ h9 => h9) rfl rfl rfl rfl d_AckBook_Arrivals_insert_71 (fun w H locs hZ h => ?_)
      refine x_aload_n hC d_AckBook_Arrivals_insert_74 rfl (lv_at hl 0 rfl) ?_
      refine x_getI hC hZ zc5 h (by decide) t_128 (fun _ h9 => h9) d_AckBook_Arrivals_insert_75 (fun v4 h => ?_)
      refine lv_bipush (v := (64 : Int32)) hC.1 hC.2.1 d_AckBook_Arrivals_insert_78 (by decide) ?_
      refine lv_icmp_le (tgt := 108) hC.1 hC.2.1 d_AckBook_Arrivals_insert_80 (by decide) (fun hc => ?_) (fun hc => ?_)
      · have h := z_ifp hc h
        exact x_vret hC hRc hRs hZ hr h d_AckBook_Arrivals_insert_108
      · have h := z_ifn hc h
        refine x_aload_n hC d_AckBook_Arrivals_insert_83 rfl (lv_at hl 0 rfl) ?_
        refine lv_dup hC.1 hC.2.1 d_AckBook_Arrivals_insert_84 (z_rfc _) ?_
        refine x_getI hC hZ zc5 h (by decide) t_128 (fun _ h9 => h9) d_AckBook_Arrivals_insert_85 (fun v5 h => ?_)
        refine lv_iconst (v := (1 : Int32)) hC.1 hC.2.1 d_AckBook_Arrivals_insert_88 (by decide) ?_
        refine lv_isub hC.1 hC.2.1 d_AckBook_Arrivals_insert_89 ?_
        refine x_put hC hZ zc5 h (by decide) t_128 (fun _ h9 => h9) rfl rfl rfl rfl d_AckBook_Arrivals_insert_90 (fun w H locs hZ h => ?_)
        refine x_aload_n hC d_AckBook_Arrivals_insert_93 rfl (lv_at hl 0 rfl) ?_
        refine x_aload_n hC d_AckBook_Arrivals_insert_94 rfl (lv_at hl 0 rfl) ?_
        refine x_getR hC hZ zc5 h (by decide) t_126 (fun _ h9 => h9) d_AckBook_Arrivals_insert_95 (fun r6 h => ?_)
        refine x_aload_n hC d_AckBook_Arrivals_insert_98 rfl (lv_at hl 0 rfl) ?_
        refine x_getI hC hZ zc5 h (by decide) t_128 (fun _ h9 => h9) d_AckBook_Arrivals_insert_99 (fun v7 h => ?_)
        refine x_ldL hC hZ h d_AckBook_Arrivals_insert_102 (fun v8 h => ?_)
        refine lv_lconst (v := (1 : Int64)) hC.1 hC.2.1 d_AckBook_Arrivals_insert_103 (by decide) ?_
        refine lv_ladd hC.1 hC.2.1 d_AckBook_Arrivals_insert_104 ?_
        refine x_put hC hZ zc5 h (by decide) t_130 (fun _ h9 => h9) rfl rfl rfl rfl d_AckBook_Arrivals_insert_105 (fun w H locs hZ h => ?_)
        exact x_vret hC hRc hRs hZ hr h d_AckBook_Arrivals_insert_108
    · have h := z_ifn hc h
      refine x_aload_n hC d_AckBook_Arrivals_insert_12 rfl (lv_at hl 0 rfl) ?_
      refine x_getR hC hZ zc5 h (by decide) t_124 (fun _ h9 => h9) d_AckBook_Arrivals_insert_13 (fun r9 h => ?_)
      refine lv_iload hC.1 hC.2.1 d_AckBook_Arrivals_insert_16 (lv_at hl 3 rfl) ?_
      refine x_aload_n hC d_AckBook_Arrivals_insert_18 rfl (lv_at hl 0 rfl) ?_
      refine x_getR hC hZ zc5 h (by decide) t_124 (fun _ h9 => h9) d_AckBook_Arrivals_insert_19 (fun r10 h => ?_)
      refine lv_iload hC.1 hC.2.1 d_AckBook_Arrivals_insert_22 (lv_at hl 3 rfl) ?_
      refine lv_iconst (v := (1 : Int32)) hC.1 hC.2.1 d_AckBook_Arrivals_insert_24 (by decide) ?_
      refine lv_isub hC.1 hC.2.1 d_AckBook_Arrivals_insert_25 ?_
      refine x_ldL hC hZ h d_AckBook_Arrivals_insert_26 (fun v11 h => ?_)
      refine x_stL hC hZ h d_AckBook_Arrivals_insert_27 (fun w H locs hZ h => ?_)
      refine x_aload_n hC d_AckBook_Arrivals_insert_28 rfl (lv_at hl 0 rfl) ?_
      refine x_getR hC hZ zc5 h (by decide) t_126 (fun _ h9 => h9) d_AckBook_Arrivals_insert_29 (fun r12 h => ?_)
      refine lv_iload hC.1 hC.2.1 d_AckBook_Arrivals_insert_32 (lv_at hl 3 rfl) ?_
      refine x_aload_n hC d_AckBook_Arrivals_insert_34 rfl (lv_at hl 0 rfl) ?_
      refine x_getR hC hZ zc5 h (by decide) t_126 (fun _ h9 => h9) d_AckBook_Arrivals_insert_35 (fun r13 h => ?_)
      refine lv_iload hC.1 hC.2.1 d_AckBook_Arrivals_insert_38 (lv_at hl 3 rfl) ?_
      refine lv_iconst (v := (1 : Int32)) hC.1 hC.2.1 d_AckBook_Arrivals_insert_40 (by decide) ?_
      refine lv_isub hC.1 hC.2.1 d_AckBook_Arrivals_insert_41 ?_
      refine x_ldL hC hZ h d_AckBook_Arrivals_insert_42 (fun v14 h => ?_)
      refine x_stL hC hZ h d_AckBook_Arrivals_insert_43 (fun w H locs hZ h => ?_)
      refine lv_iinc (lv' := [(4, .int (xL4 + (-1 : Int32))), (0, va_rf rL0), (1, .long yL1), (3, .int xL3)]) hC.1 hC.2.1 d_AckBook_Arrivals_insert_44 hl (k := 3) rfl rfl (by decide) (by first | rfl | simp [z_rfc, z_ci, z_cj]) (fun ls hl => ?_)
      refine lv_goto (tgt := 6) hC.1 hC.2.1 d_AckBook_Arrivals_insert_47 (by decide) ?_
      exact ih _ _ _ _ _ _ h _ _ _ _ _ hZ (lv_sub hl [1, 2, 3, 0] rfl)
set_option maxHeartbeats 4000000 in
set_option maxRecDepth 100000 in
theorem k_AckBook_Arrivals_insert {b0 : Nat} {H0 : Heap} {D : va_G} {ZS : List (String × String × String × Value)} {l : Launch} (hT : z_TB (zGG b0 H0 D ZS)) (hfl : l.flags = pinnedFlags ++ [noTraceFlag]) {a0 : Option Nat} {pJ1 : Int64} {pI2 : Int32} (F : Nat) {w : zW} (res : zO × zW) (h : f_AckBook_Arrivals_insert F a0 pJ1 pI2 w = some res) : z_Ct (zGG b0 H0 D ZS) l y_AckBook_Arrivals_insert (.code y_AckBook_Arrivals_insert c_AckBook_Arrivals_insert 5 (none)) 0 0 [va_rf a0, .long pJ1, .int pI2] w res := by
  refine z_ct hT hfl (by decide) (by simp only [z_sl_i, z_sl_j, z_sl_r, z_sl_n]; decide) ?_
  intro p e R s m args below meth c hC hr hRc hRs hRt hnm hFr H ls hZ hl
  simp only [z_la_i, z_la_j, z_la_r, z_la_n] at hl
  have hl : lv_has ls 5 [(0, va_rf a0), (1, .long pJ1), (3, .int pI2)] := hl
  unfold f_AckBook_Arrivals_insert at h
  refine x_aload_n hC d_AckBook_Arrivals_insert_0 rfl (lv_at hl 0 rfl) ?_
  refine x_getI hC hZ zc5 h (by decide) t_128 (fun _ h9 => h9) d_AckBook_Arrivals_insert_1 (fun v15 h => ?_)
  refine lv_istore (lv' := [(4, .int v15), (0, va_rf a0), (1, .long pJ1), (3, .int pI2)]) hC.1 hC.2.1 d_AckBook_Arrivals_insert_4 hl (by decide) (by first | rfl | simp [z_rfc, z_ci, z_cj]) (fun ls hl => ?_)
  exact (kj_AckBook_Arrivals_insert hT hfl hC hr hRc hRs hFr hRt hnm F) _ _ _ _ _ _ h _ _ _ _ _ hZ (lv_sub hl [1, 2, 3, 0] rfl)
def f_AckBook_Arrivals_keep (F : Nat) (a0 : Option Nat) (pJ1 : Int64) (pI2 : Int32) (w : zW) : zR :=
  if pI2 ≤ 0 then (
    z_getI w 5 2 a0 fun v1 =>
    if v1 ≤ pI2 then (
      z_this w 5 a0 <|
      z_cV (f_AckBook_Arrivals_insert F a0 pJ1 pI2 w) fun w =>
      some (.inl none, w))
    else (
      z_getR w 5 1 a0 fun r3 =>
      z_ldL w r3 pI2 fun v4 =>
      if (lg_cmp v4 (pJ1 - (1 : Int64))) = 0 then (
        z_getR w 5 1 a0 fun r5 =>
        z_stL w r5 pI2 pJ1 fun w =>
        some (.inl none, w))
      else (
        z_this w 5 a0 <|
        z_cV (f_AckBook_Arrivals_insert F a0 pJ1 pI2 w) fun w =>
        some (.inl none, w))))
  else (
    z_getR w 5 0 a0 fun r7 =>
    z_ldL w r7 (pI2 - (1 : Int32)) fun v8 =>
    if (lg_cmp v8 (pJ1 + (1 : Int64))) = 0 then (
      z_getI w 5 2 a0 fun v9 =>
      if v9 ≤ pI2 then (
        z_getR w 5 0 a0 fun r10 =>
        z_stL w r10 (pI2 - (1 : Int32)) pJ1 fun w =>
        some (.inl none, w))
      else (
        z_getR w 5 1 a0 fun r11 =>
        z_ldL w r11 pI2 fun v12 =>
        if (lg_cmp v12 (pJ1 - (1 : Int64))) = 0 then (
          z_getR w 5 0 a0 fun r13 =>
          z_getR w 5 0 a0 fun r14 =>
          z_ldL w r14 pI2 fun v15 =>
          z_stL w r13 (pI2 - (1 : Int32)) v15 fun w =>
          z_this w 5 a0 <|
          z_cV (f_AckBook_Arrivals_remove F a0 pI2 w) fun w =>
          some (.inl none, w))
        else (
          z_getR w 5 0 a0 fun r17 =>
          z_stL w r17 (pI2 - (1 : Int32)) pJ1 fun w =>
          some (.inl none, w))))
    else (
      z_getI w 5 2 a0 fun v18 =>
      if v18 ≤ pI2 then (
        z_this w 5 a0 <|
        z_cV (f_AckBook_Arrivals_insert F a0 pJ1 pI2 w) fun w =>
        some (.inl none, w))
      else (
        z_getR w 5 1 a0 fun r20 =>
        z_ldL w r20 pI2 fun v21 =>
        if (lg_cmp v21 (pJ1 - (1 : Int64))) = 0 then (
          z_getR w 5 1 a0 fun r22 =>
          z_stL w r22 pI2 pJ1 fun w =>
          some (.inl none, w))
        else (
          z_this w 5 a0 <|
          z_cV (f_AckBook_Arrivals_insert F a0 pJ1 pI2 w) fun w =>
          some (.inl none, w)))))
set_option maxHeartbeats 4000000 in
set_option maxRecDepth 100000 in
theorem k_AckBook_Arrivals_keep {b0 : Nat} {H0 : Heap} {D : va_G} {ZS : List (String × String × String × Value)} {l : Launch} (hT : z_TB (zGG b0 H0 D ZS)) (hfl : l.flags = pinnedFlags ++ [noTraceFlag]) {a0 : Option Nat} {pJ1 : Int64} {pI2 : Int32} (F : Nat) {w : zW} (res : zO × zW) (h : f_AckBook_Arrivals_keep F a0 pJ1 pI2 w = some res) : z_Ct (zGG b0 H0 D ZS) l y_AckBook_Arrivals_keep (.code y_AckBook_Arrivals_keep c_AckBook_Arrivals_keep 6 (none)) 1 24 [va_rf a0, .long pJ1, .int pI2] w res := by
  refine z_ct hT hfl (by decide) (by simp only [z_sl_i, z_sl_j, z_sl_r, z_sl_n]; decide) ?_
  intro p e R s m args below meth c hC hr hRc hRs hRt hnm hFr H ls hZ hl
  simp only [z_la_i, z_la_j, z_la_r, z_la_n] at hl
  have hl : lv_has ls 6 [(0, va_rf a0), (1, .long pJ1), (3, .int pI2)] := hl
  unfold f_AckBook_Arrivals_keep at h
  refine lv_iload_n hC.1 hC.2.1 d_AckBook_Arrivals_keep_0 rfl (lv_at hl 2 rfl) ?_
  refine lv_if_le (tgt := 23) hC.1 hC.2.1 d_AckBook_Arrivals_keep_1 (by decide) (fun hc => ?_) (fun hc => ?_)
  · have h := z_ifp hc h
    refine lv_iconst (v := (0 : Int32)) hC.1 hC.2.1 d_AckBook_Arrivals_keep_23 (by decide) ?_
    refine lv_istore (lv' := [(4, .int (0 : Int32)), (0, va_rf a0), (1, .long pJ1), (3, .int pI2)]) hC.1 hC.2.1 d_AckBook_Arrivals_keep_24 hl (by decide) (by first | rfl | simp [z_rfc, z_ci, z_cj]) (fun ls hl => ?_)
    refine lv_iload_n hC.1 hC.2.1 d_AckBook_Arrivals_keep_26 rfl (lv_at hl 3 rfl) ?_
    refine x_aload_n hC d_AckBook_Arrivals_keep_27 rfl (lv_at hl 1 rfl) ?_
    refine x_getI hC hZ zc5 h (by decide) t_128 (fun _ h9 => h9) d_AckBook_Arrivals_keep_28 (fun v1 h => ?_)
    refine lv_icmp_ge (tgt := 51) hC.1 hC.2.1 d_AckBook_Arrivals_keep_31 (by decide) (fun hc => ?_) (fun hc => ?_)
    · have h := z_ifp hc h
      refine lv_iconst (v := (0 : Int32)) hC.1 hC.2.1 d_AckBook_Arrivals_keep_51 (by decide) ?_
      refine lv_istore (lv' := [(5, .int (0 : Int32)), (4, .int (0 : Int32)), (0, va_rf a0), (1, .long pJ1), (3, .int pI2)]) hC.1 hC.2.1 d_AckBook_Arrivals_keep_52 hl (by decide) (by first | rfl | simp [z_rfc, z_ci, z_cj]) (fun ls hl => ?_)
      refine lv_iload hC.1 hC.2.1 d_AckBook_Arrivals_keep_54 (lv_at hl 1 rfl) ?_
      refine lv_if_eq (tgt := 86) hC.1 hC.2.1 d_AckBook_Arrivals_keep_56 (by decide) (fun _ => ?_) (fun hc => absurd hc (by decide))
      refine lv_iload hC.1 hC.2.1 d_AckBook_Arrivals_keep_86 (lv_at hl 1 rfl) ?_
      refine lv_if_eq (tgt := 103) hC.1 hC.2.1 d_AckBook_Arrivals_keep_88 (by decide) (fun _ => ?_) (fun hc => absurd hc (by decide))
      refine lv_iload hC.1 hC.2.1 d_AckBook_Arrivals_keep_103 (lv_at hl 0 rfl) ?_
      refine lv_if_eq (tgt := 118) hC.1 hC.2.1 d_AckBook_Arrivals_keep_105 (by decide) (fun _ => ?_) (fun hc => absurd hc (by decide))
      refine x_aload_n hC d_AckBook_Arrivals_keep_118 rfl (lv_at hl 2 rfl) ?_
      refine lv_lload_n hC.1 hC.2.1 d_AckBook_Arrivals_keep_119 rfl (lv_at hl 3 rfl) ?_
      refine lv_iload_n hC.1 hC.2.1 d_AckBook_Arrivals_keep_120 rfl (lv_at hl 4 rfl) ?_
      obtain ⟨a_, fs_, eo_, h⟩ := z_this_spec h
      obtain ⟨w1_, o1_, hF_, ha_⟩ := z_cV_spec h
      refine x_goes hC hRc hRs hFr ha_ (z_goV (As := [.long pJ1, .int pI2]) hC hZ zc5 eo_ (k_AckBook_Arrivals_insert hT hfl _ _ hF_) t_742 t_744 ts_AckBook_Arrivals_insert t_8 t_745 ⟨by decide, by decide, (by decide +kernel : (parseMethodDescriptor y_AckBook_Arrivals_insert.desc).map (fun d => d.parameters.length) = some 2)⟩ (by rw [hRt.1]; decide) (by rw [hRt.2]; decide) hl.1 rfl (by first | exact Nat.le_of_ble_eq_true rfl | simp [z_rfc, z_ci, z_cj]) d_AckBook_Arrivals_keep_121) (fun v_ hv H locs cells slots hZ => ?_)
      obtain ⟨rfl, h⟩ := hv
      generalize w1_ = w at h hZ
      exact x_vret hC hRc hRs hZ hr h d_AckBook_Arrivals_keep_124
    · have h := z_ifn hc h
      refine x_aload_n hC d_AckBook_Arrivals_keep_34 rfl (lv_at hl 1 rfl) ?_
      refine x_getR hC hZ zc5 h (by decide) t_126 (fun _ h9 => h9) d_AckBook_Arrivals_keep_35 (fun r3 h => ?_)
      refine lv_iload_n hC.1 hC.2.1 d_AckBook_Arrivals_keep_38 rfl (lv_at hl 3 rfl) ?_
      refine x_ldL hC hZ h d_AckBook_Arrivals_keep_39 (fun v4 h => ?_)
      refine lv_lload_n hC.1 hC.2.1 d_AckBook_Arrivals_keep_40 rfl (lv_at hl 2 rfl) ?_
      refine lv_lconst (v := (1 : Int64)) hC.1 hC.2.1 d_AckBook_Arrivals_keep_41 (by decide) ?_
      refine lv_lsub hC.1 hC.2.1 d_AckBook_Arrivals_keep_42 ?_
      refine W.lcmp hC.1 hC.2.1 d_AckBook_Arrivals_keep_43 ?_
      refine lv_if_ne (tgt := 51) hC.1 hC.2.1 d_AckBook_Arrivals_keep_44 (by decide) (fun hc => ?_) (fun hc => ?_)
      · have h := z_ifn hc h
        refine lv_iconst (v := (0 : Int32)) hC.1 hC.2.1 d_AckBook_Arrivals_keep_51 (by decide) ?_
        refine lv_istore (lv' := [(5, .int (0 : Int32)), (4, .int (0 : Int32)), (0, va_rf a0), (1, .long pJ1), (3, .int pI2)]) hC.1 hC.2.1 d_AckBook_Arrivals_keep_52 hl (by decide) (by first | rfl | simp [z_rfc, z_ci, z_cj]) (fun ls hl => ?_)
        refine lv_iload hC.1 hC.2.1 d_AckBook_Arrivals_keep_54 (lv_at hl 1 rfl) ?_
        refine lv_if_eq (tgt := 86) hC.1 hC.2.1 d_AckBook_Arrivals_keep_56 (by decide) (fun _ => ?_) (fun hc => absurd hc (by decide))
        refine lv_iload hC.1 hC.2.1 d_AckBook_Arrivals_keep_86 (lv_at hl 1 rfl) ?_
        refine lv_if_eq (tgt := 103) hC.1 hC.2.1 d_AckBook_Arrivals_keep_88 (by decide) (fun _ => ?_) (fun hc => absurd hc (by decide))
        refine lv_iload hC.1 hC.2.1 d_AckBook_Arrivals_keep_103 (lv_at hl 0 rfl) ?_
        refine lv_if_eq (tgt := 118) hC.1 hC.2.1 d_AckBook_Arrivals_keep_105 (by decide) (fun _ => ?_) (fun hc => absurd hc (by decide))
        refine x_aload_n hC d_AckBook_Arrivals_keep_118 rfl (lv_at hl 2 rfl) ?_
        refine lv_lload_n hC.1 hC.2.1 d_AckBook_Arrivals_keep_119 rfl (lv_at hl 3 rfl) ?_
        refine lv_iload_n hC.1 hC.2.1 d_AckBook_Arrivals_keep_120 rfl (lv_at hl 4 rfl) ?_
        obtain ⟨a_, fs_, eo_, h⟩ := z_this_spec h
        obtain ⟨w1_, o1_, hF_, ha_⟩ := z_cV_spec h
        refine x_goes hC hRc hRs hFr ha_ (z_goV (As := [.long pJ1, .int pI2]) hC hZ zc5 eo_ (k_AckBook_Arrivals_insert hT hfl _ _ hF_) t_742 t_744 ts_AckBook_Arrivals_insert t_8 t_745 ⟨by decide, by decide, (by decide +kernel : (parseMethodDescriptor y_AckBook_Arrivals_insert.desc).map (fun d => d.parameters.length) = some 2)⟩ (by rw [hRt.1]; decide) (by rw [hRt.2]; decide) hl.1 rfl (by first | exact Nat.le_of_ble_eq_true rfl | simp [z_rfc, z_ci, z_cj]) d_AckBook_Arrivals_keep_121) (fun v_ hv H locs cells slots hZ => ?_)
        obtain ⟨rfl, h⟩ := hv
        generalize w1_ = w at h hZ
        exact x_vret hC hRc hRs hZ hr h d_AckBook_Arrivals_keep_124
      · have h := z_ifp hc h
        refine lv_iconst (v := (1 : Int32)) hC.1 hC.2.1 d_AckBook_Arrivals_keep_47 (by decide) ?_
        refine lv_goto (tgt := 52) hC.1 hC.2.1 d_AckBook_Arrivals_keep_48 (by decide) ?_
        refine lv_istore (lv' := [(5, .int (1 : Int32)), (4, .int (0 : Int32)), (0, va_rf a0), (1, .long pJ1), (3, .int pI2)]) hC.1 hC.2.1 d_AckBook_Arrivals_keep_52 hl (by decide) (by first | rfl | simp [z_rfc, z_ci, z_cj]) (fun ls hl => ?_)
        refine lv_iload hC.1 hC.2.1 d_AckBook_Arrivals_keep_54 (lv_at hl 1 rfl) ?_
        refine lv_if_eq (tgt := 86) hC.1 hC.2.1 d_AckBook_Arrivals_keep_56 (by decide) (fun _ => ?_) (fun hc => absurd hc (by decide))
        refine lv_iload hC.1 hC.2.1 d_AckBook_Arrivals_keep_86 (lv_at hl 1 rfl) ?_
        refine lv_if_eq (tgt := 103) hC.1 hC.2.1 d_AckBook_Arrivals_keep_88 (by decide) (fun _ => ?_) (fun hc => absurd hc (by decide))
        refine lv_iload hC.1 hC.2.1 d_AckBook_Arrivals_keep_103 (lv_at hl 0 rfl) ?_
        refine lv_if_eq (tgt := 118) hC.1 hC.2.1 d_AckBook_Arrivals_keep_105 (by decide) (fun hc => absurd hc (by decide)) (fun _ => ?_)
        refine x_aload_n hC d_AckBook_Arrivals_keep_108 rfl (lv_at hl 2 rfl) ?_
        refine x_getR hC hZ zc5 h (by decide) t_126 (fun _ h9 => h9) d_AckBook_Arrivals_keep_109 (fun r5 h => ?_)
        refine lv_iload_n hC.1 hC.2.1 d_AckBook_Arrivals_keep_112 rfl (lv_at hl 4 rfl) ?_
        refine lv_lload_n hC.1 hC.2.1 d_AckBook_Arrivals_keep_113 rfl (lv_at hl 3 rfl) ?_
        refine x_stL hC hZ h d_AckBook_Arrivals_keep_114 (fun w H locs hZ h => ?_)
        refine lv_goto (tgt := 124) hC.1 hC.2.1 d_AckBook_Arrivals_keep_115 (by decide) ?_
        exact x_vret hC hRc hRs hZ hr h d_AckBook_Arrivals_keep_124
  · have h := z_ifn hc h
    refine x_aload_n hC d_AckBook_Arrivals_keep_4 rfl (lv_at hl 0 rfl) ?_
    refine x_getR hC hZ zc5 h (by decide) t_124 (fun _ h9 => h9) d_AckBook_Arrivals_keep_5 (fun r7 h => ?_)
    refine lv_iload_n hC.1 hC.2.1 d_AckBook_Arrivals_keep_8 rfl (lv_at hl 2 rfl) ?_
    refine lv_iconst (v := (1 : Int32)) hC.1 hC.2.1 d_AckBook_Arrivals_keep_9 (by decide) ?_
    refine lv_isub hC.1 hC.2.1 d_AckBook_Arrivals_keep_10 ?_
    refine x_ldL hC hZ h d_AckBook_Arrivals_keep_11 (fun v8 h => ?_)
    refine lv_lload_n hC.1 hC.2.1 d_AckBook_Arrivals_keep_12 rfl (lv_at hl 1 rfl) ?_
    refine lv_lconst (v := (1 : Int64)) hC.1 hC.2.1 d_AckBook_Arrivals_keep_13 (by decide) ?_
    refine lv_ladd hC.1 hC.2.1 d_AckBook_Arrivals_keep_14 ?_
    refine W.lcmp hC.1 hC.2.1 d_AckBook_Arrivals_keep_15 ?_
    refine lv_if_ne (tgt := 23) hC.1 hC.2.1 d_AckBook_Arrivals_keep_16 (by decide) (fun hc => ?_) (fun hc => ?_)
    · have h := z_ifn hc h
      refine lv_iconst (v := (0 : Int32)) hC.1 hC.2.1 d_AckBook_Arrivals_keep_23 (by decide) ?_
      refine lv_istore (lv' := [(4, .int (0 : Int32)), (0, va_rf a0), (1, .long pJ1), (3, .int pI2)]) hC.1 hC.2.1 d_AckBook_Arrivals_keep_24 hl (by decide) (by first | rfl | simp [z_rfc, z_ci, z_cj]) (fun ls hl => ?_)
      refine lv_iload_n hC.1 hC.2.1 d_AckBook_Arrivals_keep_26 rfl (lv_at hl 3 rfl) ?_
      refine x_aload_n hC d_AckBook_Arrivals_keep_27 rfl (lv_at hl 1 rfl) ?_
      refine x_getI hC hZ zc5 h (by decide) t_128 (fun _ h9 => h9) d_AckBook_Arrivals_keep_28 (fun v18 h => ?_)
      refine lv_icmp_ge (tgt := 51) hC.1 hC.2.1 d_AckBook_Arrivals_keep_31 (by decide) (fun hc => ?_) (fun hc => ?_)
      · have h := z_ifp hc h
        refine lv_iconst (v := (0 : Int32)) hC.1 hC.2.1 d_AckBook_Arrivals_keep_51 (by decide) ?_
        refine lv_istore (lv' := [(5, .int (0 : Int32)), (4, .int (0 : Int32)), (0, va_rf a0), (1, .long pJ1), (3, .int pI2)]) hC.1 hC.2.1 d_AckBook_Arrivals_keep_52 hl (by decide) (by first | rfl | simp [z_rfc, z_ci, z_cj]) (fun ls hl => ?_)
        refine lv_iload hC.1 hC.2.1 d_AckBook_Arrivals_keep_54 (lv_at hl 1 rfl) ?_
        refine lv_if_eq (tgt := 86) hC.1 hC.2.1 d_AckBook_Arrivals_keep_56 (by decide) (fun _ => ?_) (fun hc => absurd hc (by decide))
        refine lv_iload hC.1 hC.2.1 d_AckBook_Arrivals_keep_86 (lv_at hl 1 rfl) ?_
        refine lv_if_eq (tgt := 103) hC.1 hC.2.1 d_AckBook_Arrivals_keep_88 (by decide) (fun _ => ?_) (fun hc => absurd hc (by decide))
        refine lv_iload hC.1 hC.2.1 d_AckBook_Arrivals_keep_103 (lv_at hl 0 rfl) ?_
        refine lv_if_eq (tgt := 118) hC.1 hC.2.1 d_AckBook_Arrivals_keep_105 (by decide) (fun _ => ?_) (fun hc => absurd hc (by decide))
        refine x_aload_n hC d_AckBook_Arrivals_keep_118 rfl (lv_at hl 2 rfl) ?_
        refine lv_lload_n hC.1 hC.2.1 d_AckBook_Arrivals_keep_119 rfl (lv_at hl 3 rfl) ?_
        refine lv_iload_n hC.1 hC.2.1 d_AckBook_Arrivals_keep_120 rfl (lv_at hl 4 rfl) ?_
        obtain ⟨a_, fs_, eo_, h⟩ := z_this_spec h
        obtain ⟨w1_, o1_, hF_, ha_⟩ := z_cV_spec h
        refine x_goes hC hRc hRs hFr ha_ (z_goV (As := [.long pJ1, .int pI2]) hC hZ zc5 eo_ (k_AckBook_Arrivals_insert hT hfl _ _ hF_) t_742 t_744 ts_AckBook_Arrivals_insert t_8 t_745 ⟨by decide, by decide, (by decide +kernel : (parseMethodDescriptor y_AckBook_Arrivals_insert.desc).map (fun d => d.parameters.length) = some 2)⟩ (by rw [hRt.1]; decide) (by rw [hRt.2]; decide) hl.1 rfl (by first | exact Nat.le_of_ble_eq_true rfl | simp [z_rfc, z_ci, z_cj]) d_AckBook_Arrivals_keep_121) (fun v_ hv H locs cells slots hZ => ?_)
        obtain ⟨rfl, h⟩ := hv
        generalize w1_ = w at h hZ
        exact x_vret hC hRc hRs hZ hr h d_AckBook_Arrivals_keep_124
      · have h := z_ifn hc h
        refine x_aload_n hC d_AckBook_Arrivals_keep_34 rfl (lv_at hl 1 rfl) ?_
        refine x_getR hC hZ zc5 h (by decide) t_126 (fun _ h9 => h9) d_AckBook_Arrivals_keep_35 (fun r20 h => ?_)
        refine lv_iload_n hC.1 hC.2.1 d_AckBook_Arrivals_keep_38 rfl (lv_at hl 3 rfl) ?_
        refine x_ldL hC hZ h d_AckBook_Arrivals_keep_39 (fun v21 h => ?_)
        refine lv_lload_n hC.1 hC.2.1 d_AckBook_Arrivals_keep_40 rfl (lv_at hl 2 rfl) ?_
        refine lv_lconst (v := (1 : Int64)) hC.1 hC.2.1 d_AckBook_Arrivals_keep_41 (by decide) ?_
        refine lv_lsub hC.1 hC.2.1 d_AckBook_Arrivals_keep_42 ?_
        refine W.lcmp hC.1 hC.2.1 d_AckBook_Arrivals_keep_43 ?_
        refine lv_if_ne (tgt := 51) hC.1 hC.2.1 d_AckBook_Arrivals_keep_44 (by decide) (fun hc => ?_) (fun hc => ?_)
        · have h := z_ifn hc h
          refine lv_iconst (v := (0 : Int32)) hC.1 hC.2.1 d_AckBook_Arrivals_keep_51 (by decide) ?_
          refine lv_istore (lv' := [(5, .int (0 : Int32)), (4, .int (0 : Int32)), (0, va_rf a0), (1, .long pJ1), (3, .int pI2)]) hC.1 hC.2.1 d_AckBook_Arrivals_keep_52 hl (by decide) (by first | rfl | simp [z_rfc, z_ci, z_cj]) (fun ls hl => ?_)
          refine lv_iload hC.1 hC.2.1 d_AckBook_Arrivals_keep_54 (lv_at hl 1 rfl) ?_
          refine lv_if_eq (tgt := 86) hC.1 hC.2.1 d_AckBook_Arrivals_keep_56 (by decide) (fun _ => ?_) (fun hc => absurd hc (by decide))
          refine lv_iload hC.1 hC.2.1 d_AckBook_Arrivals_keep_86 (lv_at hl 1 rfl) ?_
          refine lv_if_eq (tgt := 103) hC.1 hC.2.1 d_AckBook_Arrivals_keep_88 (by decide) (fun _ => ?_) (fun hc => absurd hc (by decide))
          refine lv_iload hC.1 hC.2.1 d_AckBook_Arrivals_keep_103 (lv_at hl 0 rfl) ?_
          refine lv_if_eq (tgt := 118) hC.1 hC.2.1 d_AckBook_Arrivals_keep_105 (by decide) (fun _ => ?_) (fun hc => absurd hc (by decide))
          refine x_aload_n hC d_AckBook_Arrivals_keep_118 rfl (lv_at hl 2 rfl) ?_
          refine lv_lload_n hC.1 hC.2.1 d_AckBook_Arrivals_keep_119 rfl (lv_at hl 3 rfl) ?_
          refine lv_iload_n hC.1 hC.2.1 d_AckBook_Arrivals_keep_120 rfl (lv_at hl 4 rfl) ?_
          obtain ⟨a_, fs_, eo_, h⟩ := z_this_spec h
          obtain ⟨w1_, o1_, hF_, ha_⟩ := z_cV_spec h
          refine x_goes hC hRc hRs hFr ha_ (z_goV (As := [.long pJ1, .int pI2]) hC hZ zc5 eo_ (k_AckBook_Arrivals_insert hT hfl _ _ hF_) t_742 t_744 ts_AckBook_Arrivals_insert t_8 t_745 ⟨by decide, by decide, (by decide +kernel : (parseMethodDescriptor y_AckBook_Arrivals_insert.desc).map (fun d => d.parameters.length) = some 2)⟩ (by rw [hRt.1]; decide) (by rw [hRt.2]; decide) hl.1 rfl (by first | exact Nat.le_of_ble_eq_true rfl | simp [z_rfc, z_ci, z_cj]) d_AckBook_Arrivals_keep_121) (fun v_ hv H locs cells slots hZ => ?_)
          obtain ⟨rfl, h⟩ := hv
          generalize w1_ = w at h hZ
          exact x_vret hC hRc hRs hZ hr h d_AckBook_Arrivals_keep_124
        · have h := z_ifp hc h
          refine lv_iconst (v := (1 : Int32)) hC.1 hC.2.1 d_AckBook_Arrivals_keep_47 (by decide) ?_
          refine lv_goto (tgt := 52) hC.1 hC.2.1 d_AckBook_Arrivals_keep_48 (by decide) ?_
          refine lv_istore (lv' := [(5, .int (1 : Int32)), (4, .int (0 : Int32)), (0, va_rf a0), (1, .long pJ1), (3, .int pI2)]) hC.1 hC.2.1 d_AckBook_Arrivals_keep_52 hl (by decide) (by first | rfl | simp [z_rfc, z_ci, z_cj]) (fun ls hl => ?_)
          refine lv_iload hC.1 hC.2.1 d_AckBook_Arrivals_keep_54 (lv_at hl 1 rfl) ?_
          refine lv_if_eq (tgt := 86) hC.1 hC.2.1 d_AckBook_Arrivals_keep_56 (by decide) (fun _ => ?_) (fun hc => absurd hc (by decide))
          refine lv_iload hC.1 hC.2.1 d_AckBook_Arrivals_keep_86 (lv_at hl 1 rfl) ?_
          refine lv_if_eq (tgt := 103) hC.1 hC.2.1 d_AckBook_Arrivals_keep_88 (by decide) (fun _ => ?_) (fun hc => absurd hc (by decide))
          refine lv_iload hC.1 hC.2.1 d_AckBook_Arrivals_keep_103 (lv_at hl 0 rfl) ?_
          refine lv_if_eq (tgt := 118) hC.1 hC.2.1 d_AckBook_Arrivals_keep_105 (by decide) (fun hc => absurd hc (by decide)) (fun _ => ?_)
          refine x_aload_n hC d_AckBook_Arrivals_keep_108 rfl (lv_at hl 2 rfl) ?_
          refine x_getR hC hZ zc5 h (by decide) t_126 (fun _ h9 => h9) d_AckBook_Arrivals_keep_109 (fun r22 h => ?_)
          refine lv_iload_n hC.1 hC.2.1 d_AckBook_Arrivals_keep_112 rfl (lv_at hl 4 rfl) ?_
          refine lv_lload_n hC.1 hC.2.1 d_AckBook_Arrivals_keep_113 rfl (lv_at hl 3 rfl) ?_
          refine x_stL hC hZ h d_AckBook_Arrivals_keep_114 (fun w H locs hZ h => ?_)
          refine lv_goto (tgt := 124) hC.1 hC.2.1 d_AckBook_Arrivals_keep_115 (by decide) ?_
          exact x_vret hC hRc hRs hZ hr h d_AckBook_Arrivals_keep_124
    · have h := z_ifp hc h
      refine lv_iconst (v := (1 : Int32)) hC.1 hC.2.1 d_AckBook_Arrivals_keep_19 (by decide) ?_
      refine lv_goto (tgt := 24) hC.1 hC.2.1 d_AckBook_Arrivals_keep_20 (by decide) ?_
      refine lv_istore (lv' := [(4, .int (1 : Int32)), (0, va_rf a0), (1, .long pJ1), (3, .int pI2)]) hC.1 hC.2.1 d_AckBook_Arrivals_keep_24 hl (by decide) (by first | rfl | simp [z_rfc, z_ci, z_cj]) (fun ls hl => ?_)
      refine lv_iload_n hC.1 hC.2.1 d_AckBook_Arrivals_keep_26 rfl (lv_at hl 3 rfl) ?_
      refine x_aload_n hC d_AckBook_Arrivals_keep_27 rfl (lv_at hl 1 rfl) ?_
      refine x_getI hC hZ zc5 h (by decide) t_128 (fun _ h9 => h9) d_AckBook_Arrivals_keep_28 (fun v9 h => ?_)
      refine lv_icmp_ge (tgt := 51) hC.1 hC.2.1 d_AckBook_Arrivals_keep_31 (by decide) (fun hc => ?_) (fun hc => ?_)
      · have h := z_ifp hc h
        refine lv_iconst (v := (0 : Int32)) hC.1 hC.2.1 d_AckBook_Arrivals_keep_51 (by decide) ?_
        refine lv_istore (lv' := [(5, .int (0 : Int32)), (4, .int (1 : Int32)), (0, va_rf a0), (1, .long pJ1), (3, .int pI2)]) hC.1 hC.2.1 d_AckBook_Arrivals_keep_52 hl (by decide) (by first | rfl | simp [z_rfc, z_ci, z_cj]) (fun ls hl => ?_)
        refine lv_iload hC.1 hC.2.1 d_AckBook_Arrivals_keep_54 (lv_at hl 1 rfl) ?_
        refine lv_if_eq (tgt := 86) hC.1 hC.2.1 d_AckBook_Arrivals_keep_56 (by decide) (fun hc => absurd hc (by decide)) (fun _ => ?_)
        refine lv_iload hC.1 hC.2.1 d_AckBook_Arrivals_keep_59 (lv_at hl 0 rfl) ?_
        refine lv_if_eq (tgt := 86) hC.1 hC.2.1 d_AckBook_Arrivals_keep_61 (by decide) (fun _ => ?_) (fun hc => absurd hc (by decide))
        refine lv_iload hC.1 hC.2.1 d_AckBook_Arrivals_keep_86 (lv_at hl 1 rfl) ?_
        refine lv_if_eq (tgt := 103) hC.1 hC.2.1 d_AckBook_Arrivals_keep_88 (by decide) (fun hc => absurd hc (by decide)) (fun _ => ?_)
        refine x_aload_n hC d_AckBook_Arrivals_keep_91 rfl (lv_at hl 2 rfl) ?_
        refine x_getR hC hZ zc5 h (by decide) t_124 (fun _ h9 => h9) d_AckBook_Arrivals_keep_92 (fun r10 h => ?_)
        refine lv_iload_n hC.1 hC.2.1 d_AckBook_Arrivals_keep_95 rfl (lv_at hl 4 rfl) ?_
        refine lv_iconst (v := (1 : Int32)) hC.1 hC.2.1 d_AckBook_Arrivals_keep_96 (by decide) ?_
        refine lv_isub hC.1 hC.2.1 d_AckBook_Arrivals_keep_97 ?_
        refine lv_lload_n hC.1 hC.2.1 d_AckBook_Arrivals_keep_98 rfl (lv_at hl 3 rfl) ?_
        refine x_stL hC hZ h d_AckBook_Arrivals_keep_99 (fun w H locs hZ h => ?_)
        refine lv_goto (tgt := 124) hC.1 hC.2.1 d_AckBook_Arrivals_keep_100 (by decide) ?_
        exact x_vret hC hRc hRs hZ hr h d_AckBook_Arrivals_keep_124
      · have h := z_ifn hc h
        refine x_aload_n hC d_AckBook_Arrivals_keep_34 rfl (lv_at hl 1 rfl) ?_
        refine x_getR hC hZ zc5 h (by decide) t_126 (fun _ h9 => h9) d_AckBook_Arrivals_keep_35 (fun r11 h => ?_)
        refine lv_iload_n hC.1 hC.2.1 d_AckBook_Arrivals_keep_38 rfl (lv_at hl 3 rfl) ?_
        refine x_ldL hC hZ h d_AckBook_Arrivals_keep_39 (fun v12 h => ?_)
        refine lv_lload_n hC.1 hC.2.1 d_AckBook_Arrivals_keep_40 rfl (lv_at hl 2 rfl) ?_
        refine lv_lconst (v := (1 : Int64)) hC.1 hC.2.1 d_AckBook_Arrivals_keep_41 (by decide) ?_
        refine lv_lsub hC.1 hC.2.1 d_AckBook_Arrivals_keep_42 ?_
        refine W.lcmp hC.1 hC.2.1 d_AckBook_Arrivals_keep_43 ?_
        refine lv_if_ne (tgt := 51) hC.1 hC.2.1 d_AckBook_Arrivals_keep_44 (by decide) (fun hc => ?_) (fun hc => ?_)
        · have h := z_ifn hc h
          refine lv_iconst (v := (0 : Int32)) hC.1 hC.2.1 d_AckBook_Arrivals_keep_51 (by decide) ?_
          refine lv_istore (lv' := [(5, .int (0 : Int32)), (4, .int (1 : Int32)), (0, va_rf a0), (1, .long pJ1), (3, .int pI2)]) hC.1 hC.2.1 d_AckBook_Arrivals_keep_52 hl (by decide) (by first | rfl | simp [z_rfc, z_ci, z_cj]) (fun ls hl => ?_)
          refine lv_iload hC.1 hC.2.1 d_AckBook_Arrivals_keep_54 (lv_at hl 1 rfl) ?_
          refine lv_if_eq (tgt := 86) hC.1 hC.2.1 d_AckBook_Arrivals_keep_56 (by decide) (fun hc => absurd hc (by decide)) (fun _ => ?_)
          refine lv_iload hC.1 hC.2.1 d_AckBook_Arrivals_keep_59 (lv_at hl 0 rfl) ?_
          refine lv_if_eq (tgt := 86) hC.1 hC.2.1 d_AckBook_Arrivals_keep_61 (by decide) (fun _ => ?_) (fun hc => absurd hc (by decide))
          refine lv_iload hC.1 hC.2.1 d_AckBook_Arrivals_keep_86 (lv_at hl 1 rfl) ?_
          refine lv_if_eq (tgt := 103) hC.1 hC.2.1 d_AckBook_Arrivals_keep_88 (by decide) (fun hc => absurd hc (by decide)) (fun _ => ?_)
          refine x_aload_n hC d_AckBook_Arrivals_keep_91 rfl (lv_at hl 2 rfl) ?_
          refine x_getR hC hZ zc5 h (by decide) t_124 (fun _ h9 => h9) d_AckBook_Arrivals_keep_92 (fun r17 h => ?_)
          refine lv_iload_n hC.1 hC.2.1 d_AckBook_Arrivals_keep_95 rfl (lv_at hl 4 rfl) ?_
          refine lv_iconst (v := (1 : Int32)) hC.1 hC.2.1 d_AckBook_Arrivals_keep_96 (by decide) ?_
          refine lv_isub hC.1 hC.2.1 d_AckBook_Arrivals_keep_97 ?_
          refine lv_lload_n hC.1 hC.2.1 d_AckBook_Arrivals_keep_98 rfl (lv_at hl 3 rfl) ?_
          refine x_stL hC hZ h d_AckBook_Arrivals_keep_99 (fun w H locs hZ h => ?_)
          refine lv_goto (tgt := 124) hC.1 hC.2.1 d_AckBook_Arrivals_keep_100 (by decide) ?_
          exact x_vret hC hRc hRs hZ hr h d_AckBook_Arrivals_keep_124
        · have h := z_ifp hc h
          refine lv_iconst (v := (1 : Int32)) hC.1 hC.2.1 d_AckBook_Arrivals_keep_47 (by decide) ?_
          refine lv_goto (tgt := 52) hC.1 hC.2.1 d_AckBook_Arrivals_keep_48 (by decide) ?_
          refine lv_istore (lv' := [(5, .int (1 : Int32)), (4, .int (1 : Int32)), (0, va_rf a0), (1, .long pJ1), (3, .int pI2)]) hC.1 hC.2.1 d_AckBook_Arrivals_keep_52 hl (by decide) (by first | rfl | simp [z_rfc, z_ci, z_cj]) (fun ls hl => ?_)
          refine lv_iload hC.1 hC.2.1 d_AckBook_Arrivals_keep_54 (lv_at hl 1 rfl) ?_
          refine lv_if_eq (tgt := 86) hC.1 hC.2.1 d_AckBook_Arrivals_keep_56 (by decide) (fun hc => absurd hc (by decide)) (fun _ => ?_)
          refine lv_iload hC.1 hC.2.1 d_AckBook_Arrivals_keep_59 (lv_at hl 0 rfl) ?_
          refine lv_if_eq (tgt := 86) hC.1 hC.2.1 d_AckBook_Arrivals_keep_61 (by decide) (fun hc => absurd hc (by decide)) (fun _ => ?_)
          refine x_aload_n hC d_AckBook_Arrivals_keep_64 rfl (lv_at hl 2 rfl) ?_
          refine x_getR hC hZ zc5 h (by decide) t_124 (fun _ h9 => h9) d_AckBook_Arrivals_keep_65 (fun r13 h => ?_)
          refine lv_iload_n hC.1 hC.2.1 d_AckBook_Arrivals_keep_68 rfl (lv_at hl 4 rfl) ?_
          refine lv_iconst (v := (1 : Int32)) hC.1 hC.2.1 d_AckBook_Arrivals_keep_69 (by decide) ?_
          refine lv_isub hC.1 hC.2.1 d_AckBook_Arrivals_keep_70 ?_
          refine x_aload_n hC d_AckBook_Arrivals_keep_71 rfl (lv_at hl 2 rfl) ?_
          refine x_getR hC hZ zc5 h (by decide) t_124 (fun _ h9 => h9) d_AckBook_Arrivals_keep_72 (fun r14 h => ?_)
          refine lv_iload_n hC.1 hC.2.1 d_AckBook_Arrivals_keep_75 rfl (lv_at hl 4 rfl) ?_
          refine x_ldL hC hZ h d_AckBook_Arrivals_keep_76 (fun v15 h => ?_)
          refine x_stL hC hZ h d_AckBook_Arrivals_keep_77 (fun w H locs hZ h => ?_)
          refine x_aload_n hC d_AckBook_Arrivals_keep_78 rfl (lv_at hl 2 rfl) ?_
          refine lv_iload_n hC.1 hC.2.1 d_AckBook_Arrivals_keep_79 rfl (lv_at hl 4 rfl) ?_
          obtain ⟨a_, fs_, eo_, h⟩ := z_this_spec h
          obtain ⟨w1_, o1_, hF_, ha_⟩ := z_cV_spec h
          refine x_goes hC hRc hRs hFr ha_ (z_goV (As := [.int pI2]) hC hZ zc5 eo_ (k_AckBook_Arrivals_remove hT hfl _ _ hF_) t_738 t_740 ts_AckBook_Arrivals_remove t_8 t_741 ⟨by decide, by decide, (by decide +kernel : (parseMethodDescriptor y_AckBook_Arrivals_remove.desc).map (fun d => d.parameters.length) = some 1)⟩ (by rw [hRt.1]; decide) (by rw [hRt.2]; decide) hl.1 rfl (by first | exact Nat.le_of_ble_eq_true rfl | simp [z_rfc, z_ci, z_cj]) d_AckBook_Arrivals_keep_80) (fun v_ hv H locs cells slots hZ => ?_)
          obtain ⟨rfl, h⟩ := hv
          generalize w1_ = w at h hZ
          refine lv_goto (tgt := 124) hC.1 hC.2.1 d_AckBook_Arrivals_keep_83 (by decide) ?_
          exact x_vret hC hRc hRs hZ hr h d_AckBook_Arrivals_keep_124
def f_AckBook_Arrivals_hold (F : Nat) (a0 : Option Nat) (pI1 : Int32) (pI2 : Int32) (w : zW) : zR :=
  z_getI w 5 4 a0 fun v1 =>
  if v1 = 0 then (
    z_put w 5 5 a0 (.int pI2) fun w =>
    z_getI w 5 4 a0 fun v2 =>
    z_put w 5 4 a0 (.int (v2 + (1 : Int32))) fun w =>
    z_getI w 5 6 a0 fun v3 =>
    if v3 = 0 then (
      if pI1 = 0 then (
        z_putZ w 5 6 a0 (0 : Int32) fun w =>
        some (.inl none, w))
      else (
        z_putZ w 5 6 a0 (1 : Int32) fun w =>
        some (.inl none, w)))
    else (
      z_putZ w 5 6 a0 (1 : Int32) fun w =>
      some (.inl none, w)))
  else (
    z_getI w 5 4 a0 fun v4 =>
    z_put w 5 4 a0 (.int (v4 + (1 : Int32))) fun w =>
    z_getI w 5 6 a0 fun v5 =>
    if v5 = 0 then (
      if pI1 = 0 then (
        z_putZ w 5 6 a0 (0 : Int32) fun w =>
        some (.inl none, w))
      else (
        z_putZ w 5 6 a0 (1 : Int32) fun w =>
        some (.inl none, w)))
    else (
      z_putZ w 5 6 a0 (1 : Int32) fun w =>
      some (.inl none, w)))
set_option maxHeartbeats 4000000 in
set_option maxRecDepth 100000 in
theorem k_AckBook_Arrivals_hold {b0 : Nat} {H0 : Heap} {D : va_G} {ZS : List (String × String × String × Value)} {l : Launch} (hT : z_TB (zGG b0 H0 D ZS)) (hfl : l.flags = pinnedFlags ++ [noTraceFlag]) {a0 : Option Nat} {pI1 : Int32} {pI2 : Int32} (F : Nat) {w : zW} (res : zO × zW) (h : f_AckBook_Arrivals_hold F a0 pI1 pI2 w = some res) : z_Ct (zGG b0 H0 D ZS) l y_AckBook_Arrivals_hold (.code y_AckBook_Arrivals_hold c_AckBook_Arrivals_hold 3 (none)) 0 0 [va_rf a0, .int pI1, .int pI2] w res := by
  refine z_ct hT hfl (by decide) (by simp only [z_sl_i, z_sl_j, z_sl_r, z_sl_n]; decide) ?_
  intro p e R s m args below meth c hC hr hRc hRs hRt hnm hFr H ls hZ hl
  simp only [z_la_i, z_la_j, z_la_r, z_la_n] at hl
  have hl : lv_has ls 3 [(0, va_rf a0), (1, .int pI1), (2, .int pI2)] := hl
  unfold f_AckBook_Arrivals_hold at h
  refine x_aload_n hC d_AckBook_Arrivals_hold_0 rfl (lv_at hl 0 rfl) ?_
  refine x_getI hC hZ zc5 h (by decide) t_132 (fun _ h9 => h9) d_AckBook_Arrivals_hold_1 (fun v1 h => ?_)
  refine lv_if_ne (tgt := 12) hC.1 hC.2.1 d_AckBook_Arrivals_hold_4 (by decide) (fun hc => ?_) (fun hc => ?_)
  · have h := z_ifn hc h
    refine x_aload_n hC d_AckBook_Arrivals_hold_12 rfl (lv_at hl 0 rfl) ?_
    refine lv_dup hC.1 hC.2.1 d_AckBook_Arrivals_hold_13 (z_rfc _) ?_
    refine x_getI hC hZ zc5 h (by decide) t_132 (fun _ h9 => h9) d_AckBook_Arrivals_hold_14 (fun v4 h => ?_)
    refine lv_iconst (v := (1 : Int32)) hC.1 hC.2.1 d_AckBook_Arrivals_hold_17 (by decide) ?_
    refine lv_iadd hC.1 hC.2.1 d_AckBook_Arrivals_hold_18 ?_
    refine x_put hC hZ zc5 h (by decide) t_132 (fun _ h9 => h9) rfl rfl rfl rfl d_AckBook_Arrivals_hold_19 (fun w H locs hZ h => ?_)
    refine x_aload_n hC d_AckBook_Arrivals_hold_22 rfl (lv_at hl 0 rfl) ?_
    refine x_aload_n hC d_AckBook_Arrivals_hold_23 rfl (lv_at hl 0 rfl) ?_
    refine x_getI hC hZ zc5 h (by decide) t_135 (fun _ h9 => h9) d_AckBook_Arrivals_hold_24 (fun v5 h => ?_)
    refine lv_if_ne (tgt := 34) hC.1 hC.2.1 d_AckBook_Arrivals_hold_27 (by decide) (fun hc => ?_) (fun hc => ?_)
    · have h := z_ifn hc h
      refine lv_iconst (v := (1 : Int32)) hC.1 hC.2.1 d_AckBook_Arrivals_hold_34 (by decide) ?_
      refine lv_goto (tgt := 39) hC.1 hC.2.1 d_AckBook_Arrivals_hold_35 (by decide) ?_
      refine x_putZ hC hZ zc5 h (by decide) t_135 (fun _ h9 => h9) rfl rfl d_AckBook_Arrivals_hold_39 (fun w H locs hZ h => ?_)
      exact x_vret hC hRc hRs hZ hr h d_AckBook_Arrivals_hold_42
    · have h := z_ifp hc h
      refine lv_iload_n hC.1 hC.2.1 d_AckBook_Arrivals_hold_30 rfl (lv_at hl 1 rfl) ?_
      refine lv_if_eq (tgt := 38) hC.1 hC.2.1 d_AckBook_Arrivals_hold_31 (by decide) (fun hc => ?_) (fun hc => ?_)
      · have h := z_ifp hc h
        refine lv_iconst (v := (0 : Int32)) hC.1 hC.2.1 d_AckBook_Arrivals_hold_38 (by decide) ?_
        refine x_putZ hC hZ zc5 h (by decide) t_135 (fun _ h9 => h9) rfl rfl d_AckBook_Arrivals_hold_39 (fun w H locs hZ h => ?_)
        exact x_vret hC hRc hRs hZ hr h d_AckBook_Arrivals_hold_42
      · have h := z_ifn hc h
        refine lv_iconst (v := (1 : Int32)) hC.1 hC.2.1 d_AckBook_Arrivals_hold_34 (by decide) ?_
        refine lv_goto (tgt := 39) hC.1 hC.2.1 d_AckBook_Arrivals_hold_35 (by decide) ?_
        refine x_putZ hC hZ zc5 h (by decide) t_135 (fun _ h9 => h9) rfl rfl d_AckBook_Arrivals_hold_39 (fun w H locs hZ h => ?_)
        exact x_vret hC hRc hRs hZ hr h d_AckBook_Arrivals_hold_42
  · have h := z_ifp hc h
    refine x_aload_n hC d_AckBook_Arrivals_hold_7 rfl (lv_at hl 0 rfl) ?_
    refine lv_iload_n hC.1 hC.2.1 d_AckBook_Arrivals_hold_8 rfl (lv_at hl 2 rfl) ?_
    refine x_put hC hZ zc5 h (by decide) t_134 (fun _ h9 => h9) rfl rfl rfl rfl d_AckBook_Arrivals_hold_9 (fun w H locs hZ h => ?_)
    refine x_aload_n hC d_AckBook_Arrivals_hold_12 rfl (lv_at hl 0 rfl) ?_
    refine lv_dup hC.1 hC.2.1 d_AckBook_Arrivals_hold_13 (z_rfc _) ?_
    refine x_getI hC hZ zc5 h (by decide) t_132 (fun _ h9 => h9) d_AckBook_Arrivals_hold_14 (fun v2 h => ?_)
    refine lv_iconst (v := (1 : Int32)) hC.1 hC.2.1 d_AckBook_Arrivals_hold_17 (by decide) ?_
    refine lv_iadd hC.1 hC.2.1 d_AckBook_Arrivals_hold_18 ?_
    refine x_put hC hZ zc5 h (by decide) t_132 (fun _ h9 => h9) rfl rfl rfl rfl d_AckBook_Arrivals_hold_19 (fun w H locs hZ h => ?_)
    refine x_aload_n hC d_AckBook_Arrivals_hold_22 rfl (lv_at hl 0 rfl) ?_
    refine x_aload_n hC d_AckBook_Arrivals_hold_23 rfl (lv_at hl 0 rfl) ?_
    refine x_getI hC hZ zc5 h (by decide) t_135 (fun _ h9 => h9) d_AckBook_Arrivals_hold_24 (fun v3 h => ?_)
    refine lv_if_ne (tgt := 34) hC.1 hC.2.1 d_AckBook_Arrivals_hold_27 (by decide) (fun hc => ?_) (fun hc => ?_)
    · have h := z_ifn hc h
      refine lv_iconst (v := (1 : Int32)) hC.1 hC.2.1 d_AckBook_Arrivals_hold_34 (by decide) ?_
      refine lv_goto (tgt := 39) hC.1 hC.2.1 d_AckBook_Arrivals_hold_35 (by decide) ?_
      refine x_putZ hC hZ zc5 h (by decide) t_135 (fun _ h9 => h9) rfl rfl d_AckBook_Arrivals_hold_39 (fun w H locs hZ h => ?_)
      exact x_vret hC hRc hRs hZ hr h d_AckBook_Arrivals_hold_42
    · have h := z_ifp hc h
      refine lv_iload_n hC.1 hC.2.1 d_AckBook_Arrivals_hold_30 rfl (lv_at hl 1 rfl) ?_
      refine lv_if_eq (tgt := 38) hC.1 hC.2.1 d_AckBook_Arrivals_hold_31 (by decide) (fun hc => ?_) (fun hc => ?_)
      · have h := z_ifp hc h
        refine lv_iconst (v := (0 : Int32)) hC.1 hC.2.1 d_AckBook_Arrivals_hold_38 (by decide) ?_
        refine x_putZ hC hZ zc5 h (by decide) t_135 (fun _ h9 => h9) rfl rfl d_AckBook_Arrivals_hold_39 (fun w H locs hZ h => ?_)
        exact x_vret hC hRc hRs hZ hr h d_AckBook_Arrivals_hold_42
      · have h := z_ifn hc h
        refine lv_iconst (v := (1 : Int32)) hC.1 hC.2.1 d_AckBook_Arrivals_hold_34 (by decide) ?_
        refine lv_goto (tgt := 39) hC.1 hC.2.1 d_AckBook_Arrivals_hold_35 (by decide) ?_
        refine x_putZ hC hZ zc5 h (by decide) t_135 (fun _ h9 => h9) rfl rfl d_AckBook_Arrivals_hold_39 (fun w H locs hZ h => ?_)
        exact x_vret hC hRc hRs hZ hr h d_AckBook_Arrivals_hold_42
def f_AckBook_Arrivals_enter (F : Nat) (a0 : Option Nat) (pJ1 : Int64) (pI2 : Int32) (pI3 : Int32) (w : zW) : zR :=
  z_this w 5 a0 <|
  z_cI (f_AckBook_Arrivals_firstNotAbove F a0 pJ1 w) fun v2 w =>
  z_getL w 5 3 a0 fun v3 =>
  if (lg_cmp pJ1 v3) < 0 then (
    some (.inl (some (.int (0 : Int32))), w))
  else (
    z_getI w 5 2 a0 fun v4 =>
    if v4 ≤ v2 then (
      z_getI w 5 2 a0 fun v5 =>
      if v5 = 0 then (
        z_this w 5 a0 <|
        z_cV (f_AckBook_Arrivals_keep F a0 pJ1 v2 w) fun w =>
        if pI2 = 0 then (
          if (lg_cmp pJ1 (-1 : Int64)) ≤ 0 then (
            some (.inl (some (.int (1 : Int32))), w))
          else (
            z_put w 5 7 a0 (.int pI3) fun w =>
            some (.inl (some (.int (1 : Int32))), w)))
        else (
          if (lg_cmp pJ1 ((-1 : Int64) + (1 : Int64))) = 0 then (
            z_this w 5 a0 <|
            z_cV (f_AckBook_Arrivals_hold F a0 (0 : Int32) pI3 w) fun w =>
            if (lg_cmp pJ1 (-1 : Int64)) ≤ 0 then (
              some (.inl (some (.int (1 : Int32))), w))
            else (
              z_put w 5 7 a0 (.int pI3) fun w =>
              some (.inl (some (.int (1 : Int32))), w)))
          else (
            z_this w 5 a0 <|
            z_cV (f_AckBook_Arrivals_hold F a0 (1 : Int32) pI3 w) fun w =>
            if (lg_cmp pJ1 (-1 : Int64)) ≤ 0 then (
              some (.inl (some (.int (1 : Int32))), w))
            else (
              z_put w 5 7 a0 (.int pI3) fun w =>
              some (.inl (some (.int (1 : Int32))), w)))))
      else (
        z_getR w 5 1 a0 fun r9 =>
        z_ldL w r9 (0 : Int32) fun v10 =>
        z_this w 5 a0 <|
        z_cV (f_AckBook_Arrivals_keep F a0 pJ1 v2 w) fun w =>
        if pI2 = 0 then (
          if (lg_cmp pJ1 v10) ≤ 0 then (
            some (.inl (some (.int (1 : Int32))), w))
          else (
            z_put w 5 7 a0 (.int pI3) fun w =>
            some (.inl (some (.int (1 : Int32))), w)))
        else (
          if (lg_cmp pJ1 (v10 + (1 : Int64))) = 0 then (
            z_this w 5 a0 <|
            z_cV (f_AckBook_Arrivals_hold F a0 (0 : Int32) pI3 w) fun w =>
            if (lg_cmp pJ1 v10) ≤ 0 then (
              some (.inl (some (.int (1 : Int32))), w))
            else (
              z_put w 5 7 a0 (.int pI3) fun w =>
              some (.inl (some (.int (1 : Int32))), w)))
          else (
            z_this w 5 a0 <|
            z_cV (f_AckBook_Arrivals_hold F a0 (1 : Int32) pI3 w) fun w =>
            if (lg_cmp pJ1 v10) ≤ 0 then (
              some (.inl (some (.int (1 : Int32))), w))
            else (
              z_put w 5 7 a0 (.int pI3) fun w =>
              some (.inl (some (.int (1 : Int32))), w))))))
    else (
      z_getR w 5 1 a0 fun r14 =>
      z_ldL w r14 v2 fun v15 =>
      if 0 < (lg_cmp pJ1 v15) then (
        z_getI w 5 2 a0 fun v16 =>
        if v16 = 0 then (
          z_this w 5 a0 <|
          z_cV (f_AckBook_Arrivals_keep F a0 pJ1 v2 w) fun w =>
          if pI2 = 0 then (
            if (lg_cmp pJ1 (-1 : Int64)) ≤ 0 then (
              some (.inl (some (.int (1 : Int32))), w))
            else (
              z_put w 5 7 a0 (.int pI3) fun w =>
              some (.inl (some (.int (1 : Int32))), w)))
          else (
            if (lg_cmp pJ1 ((-1 : Int64) + (1 : Int64))) = 0 then (
              z_this w 5 a0 <|
              z_cV (f_AckBook_Arrivals_hold F a0 (0 : Int32) pI3 w) fun w =>
              if (lg_cmp pJ1 (-1 : Int64)) ≤ 0 then (
                some (.inl (some (.int (1 : Int32))), w))
              else (
                z_put w 5 7 a0 (.int pI3) fun w =>
                some (.inl (some (.int (1 : Int32))), w)))
            else (
              z_this w 5 a0 <|
              z_cV (f_AckBook_Arrivals_hold F a0 (1 : Int32) pI3 w) fun w =>
              if (lg_cmp pJ1 (-1 : Int64)) ≤ 0 then (
                some (.inl (some (.int (1 : Int32))), w))
              else (
                z_put w 5 7 a0 (.int pI3) fun w =>
                some (.inl (some (.int (1 : Int32))), w)))))
        else (
          z_getR w 5 1 a0 fun r20 =>
          z_ldL w r20 (0 : Int32) fun v21 =>
          z_this w 5 a0 <|
          z_cV (f_AckBook_Arrivals_keep F a0 pJ1 v2 w) fun w =>
          if pI2 = 0 then (
            if (lg_cmp pJ1 v21) ≤ 0 then (
              some (.inl (some (.int (1 : Int32))), w))
            else (
              z_put w 5 7 a0 (.int pI3) fun w =>
              some (.inl (some (.int (1 : Int32))), w)))
          else (
            if (lg_cmp pJ1 (v21 + (1 : Int64))) = 0 then (
              z_this w 5 a0 <|
              z_cV (f_AckBook_Arrivals_hold F a0 (0 : Int32) pI3 w) fun w =>
              if (lg_cmp pJ1 v21) ≤ 0 then (
                some (.inl (some (.int (1 : Int32))), w))
              else (
                z_put w 5 7 a0 (.int pI3) fun w =>
                some (.inl (some (.int (1 : Int32))), w)))
            else (
              z_this w 5 a0 <|
              z_cV (f_AckBook_Arrivals_hold F a0 (1 : Int32) pI3 w) fun w =>
              if (lg_cmp pJ1 v21) ≤ 0 then (
                some (.inl (some (.int (1 : Int32))), w))
              else (
                z_put w 5 7 a0 (.int pI3) fun w =>
                some (.inl (some (.int (1 : Int32))), w))))))
      else (
        some (.inl (some (.int (0 : Int32))), w))))
set_option maxHeartbeats 4000000 in
set_option maxRecDepth 100000 in
theorem k_AckBook_Arrivals_enter {b0 : Nat} {H0 : Heap} {D : va_G} {ZS : List (String × String × String × Value)} {l : Launch} (hT : z_TB (zGG b0 H0 D ZS)) (hfl : l.flags = pinnedFlags ++ [noTraceFlag]) {a0 : Option Nat} {pJ1 : Int64} {pI2 : Int32} {pI3 : Int32} (F : Nat) {w : zW} (res : zO × zW) (h : f_AckBook_Arrivals_enter F a0 pJ1 pI2 pI3 w = some res) : z_Ct (zGG b0 H0 D ZS) l y_AckBook_Arrivals_enter (.code y_AckBook_Arrivals_enter c_AckBook_Arrivals_enter 8 (some FieldType.boolean)) 2 49 [va_rf a0, .long pJ1, .int pI2, .int pI3] w res := by
  refine z_ct hT hfl (by decide) (by simp only [z_sl_i, z_sl_j, z_sl_r, z_sl_n]; decide) ?_
  intro p e R s m args below meth c hC hr hRc hRs hRt hnm hFr H ls hZ hl
  simp only [z_la_i, z_la_j, z_la_r, z_la_n] at hl
  have hl : lv_has ls 8 [(0, va_rf a0), (1, .long pJ1), (3, .int pI2), (4, .int pI3)] := hl
  unfold f_AckBook_Arrivals_enter at h
  refine x_aload_n hC d_AckBook_Arrivals_enter_0 rfl (lv_at hl 0 rfl) ?_
  refine lv_lload_n hC.1 hC.2.1 d_AckBook_Arrivals_enter_1 rfl (lv_at hl 1 rfl) ?_
  obtain ⟨a_, fs_, eo_, h⟩ := z_this_spec h
  obtain ⟨w1_, o1_, hF_, ha_⟩ := z_cI_spec h
  refine x_goes hC hRc hRs hFr ha_ (z_goV (As := [.long pJ1]) hC hZ zc5 eo_ (k_AckBook_Arrivals_firstNotAbove hT hfl _ _ hF_) t_729 t_731 ts_AckBook_Arrivals_firstNotAbove t_8 t_732 ⟨by decide, by decide, (by decide +kernel : (parseMethodDescriptor y_AckBook_Arrivals_firstNotAbove.desc).map (fun d => d.parameters.length) = some 1)⟩ (by rw [hRt.1]; decide) (by rw [hRt.2]; decide) hl.1 rfl (by first | exact Nat.le_of_ble_eq_true rfl | simp [z_rfc, z_ci, z_cj]) d_AckBook_Arrivals_enter_2) (fun v_ hv H locs cells slots hZ => ?_)
  obtain ⟨v2, rfl, h⟩ := hv
  generalize w1_ = w at h hZ
  refine lv_istore (lv' := [(5, .int v2), (0, va_rf a0), (1, .long pJ1), (3, .int pI2), (4, .int pI3)]) hC.1 hC.2.1 d_AckBook_Arrivals_enter_5 hl (by decide) (by first | rfl | simp [z_rfc, z_ci, z_cj]) (fun ls hl => ?_)
  refine lv_lload_n hC.1 hC.2.1 d_AckBook_Arrivals_enter_7 rfl (lv_at hl 2 rfl) ?_
  refine x_aload_n hC d_AckBook_Arrivals_enter_8 rfl (lv_at hl 1 rfl) ?_
  refine x_getL hC hZ zc5 h (by decide) t_130 (fun _ h9 => h9) d_AckBook_Arrivals_enter_9 (fun v3 h => ?_)
  refine W.lcmp hC.1 hC.2.1 d_AckBook_Arrivals_enter_12 ?_
  refine lv_if_lt (tgt := 37) hC.1 hC.2.1 d_AckBook_Arrivals_enter_13 (by decide) (fun hc => ?_) (fun hc => ?_)
  · have h := z_ifp hc h
    refine lv_iconst (v := (0 : Int32)) hC.1 hC.2.1 d_AckBook_Arrivals_enter_37 (by decide) ?_
    exact x_iret hC hRc hRs hZ hr rfl h d_AckBook_Arrivals_enter_38
  · have h := z_ifn hc h
    refine lv_iload hC.1 hC.2.1 d_AckBook_Arrivals_enter_16 (lv_at hl 0 rfl) ?_
    refine x_aload_n hC d_AckBook_Arrivals_enter_18 rfl (lv_at hl 1 rfl) ?_
    refine x_getI hC hZ zc5 h (by decide) t_128 (fun _ h9 => h9) d_AckBook_Arrivals_enter_19 (fun v4 h => ?_)
    refine lv_icmp_ge (tgt := 39) hC.1 hC.2.1 d_AckBook_Arrivals_enter_22 (by decide) (fun hc => ?_) (fun hc => ?_)
    · have h := z_ifp hc h
      refine x_aload_n hC d_AckBook_Arrivals_enter_39 rfl (lv_at hl 1 rfl) ?_
      refine x_getI hC hZ zc5 h (by decide) t_128 (fun _ h9 => h9) d_AckBook_Arrivals_enter_40 (fun v5 h => ?_)
      refine lv_if_ne (tgt := 52) hC.1 hC.2.1 d_AckBook_Arrivals_enter_43 (by decide) (fun hc => ?_) (fun hc => ?_)
      · have h := z_ifn hc h
        refine x_aload_n hC d_AckBook_Arrivals_enter_52 rfl (lv_at hl 1 rfl) ?_
        refine x_getR hC hZ zc5 h (by decide) t_126 (fun _ h9 => h9) d_AckBook_Arrivals_enter_53 (fun r9 h => ?_)
        refine lv_iconst (v := (0 : Int32)) hC.1 hC.2.1 d_AckBook_Arrivals_enter_56 (by decide) ?_
        refine x_ldL hC hZ h d_AckBook_Arrivals_enter_57 (fun v10 h => ?_)
        refine lv_lstore (lv' := [(6, .long v10), (5, .int v2), (0, va_rf a0), (1, .long pJ1), (3, .int pI2), (4, .int pI3)]) hC.1 hC.2.1 d_AckBook_Arrivals_enter_58 hl (by decide) (by first | rfl | simp [z_rfc, z_ci, z_cj]) (fun ls hl => ?_)
        refine x_aload_n hC d_AckBook_Arrivals_enter_60 rfl (lv_at hl 2 rfl) ?_
        refine lv_lload_n hC.1 hC.2.1 d_AckBook_Arrivals_enter_61 rfl (lv_at hl 3 rfl) ?_
        refine lv_iload hC.1 hC.2.1 d_AckBook_Arrivals_enter_62 (lv_at hl 1 rfl) ?_
        obtain ⟨a_, fs_, eo_, h⟩ := z_this_spec h
        obtain ⟨w1_, o1_, hF_, ha_⟩ := z_cV_spec h
        refine x_goes hC hRc hRs hFr ha_ (z_goV (As := [.long pJ1, .int v2]) hC hZ zc5 eo_ (k_AckBook_Arrivals_keep hT hfl _ _ hF_) t_734 t_736 ts_AckBook_Arrivals_keep t_8 t_737 ⟨by decide, by decide, (by decide +kernel : (parseMethodDescriptor y_AckBook_Arrivals_keep.desc).map (fun d => d.parameters.length) = some 2)⟩ (by rw [hRt.1]; decide) (by rw [hRt.2]; decide) hl.1 rfl (by first | exact Nat.le_of_ble_eq_true rfl | simp [z_rfc, z_ci, z_cj]) d_AckBook_Arrivals_enter_64) (fun v_ hv H locs cells slots hZ => ?_)
        obtain ⟨rfl, h⟩ := hv
        generalize w1_ = w at h hZ
        refine lv_iload_n hC.1 hC.2.1 d_AckBook_Arrivals_enter_67 rfl (lv_at hl 4 rfl) ?_
        refine lv_if_eq (tgt := 91) hC.1 hC.2.1 d_AckBook_Arrivals_enter_68 (by decide) (fun hc => ?_) (fun hc => ?_)
        · have h := z_ifp hc h
          refine lv_lload_n hC.1 hC.2.1 d_AckBook_Arrivals_enter_91 rfl (lv_at hl 3 rfl) ?_
          refine lv_lload hC.1 hC.2.1 d_AckBook_Arrivals_enter_92 (lv_at hl 0 rfl) ?_
          refine W.lcmp hC.1 hC.2.1 d_AckBook_Arrivals_enter_94 ?_
          refine lv_if_le (tgt := 104) hC.1 hC.2.1 d_AckBook_Arrivals_enter_95 (by decide) (fun hc => ?_) (fun hc => ?_)
          · have h := z_ifp hc h
            refine lv_iconst (v := (1 : Int32)) hC.1 hC.2.1 d_AckBook_Arrivals_enter_104 (by decide) ?_
            exact x_iret hC hRc hRs hZ hr rfl h d_AckBook_Arrivals_enter_105
          · have h := z_ifn hc h
            refine x_aload_n hC d_AckBook_Arrivals_enter_98 rfl (lv_at hl 2 rfl) ?_
            refine lv_iload hC.1 hC.2.1 d_AckBook_Arrivals_enter_99 (lv_at hl 5 rfl) ?_
            refine x_put hC hZ zc5 h (by decide) t_136 (fun _ h9 => h9) rfl rfl rfl rfl d_AckBook_Arrivals_enter_101 (fun w H locs hZ h => ?_)
            refine lv_iconst (v := (1 : Int32)) hC.1 hC.2.1 d_AckBook_Arrivals_enter_104 (by decide) ?_
            exact x_iret hC hRc hRs hZ hr rfl h d_AckBook_Arrivals_enter_105
        · have h := z_ifn hc h
          refine x_aload_n hC d_AckBook_Arrivals_enter_71 rfl (lv_at hl 2 rfl) ?_
          refine lv_lload_n hC.1 hC.2.1 d_AckBook_Arrivals_enter_72 rfl (lv_at hl 3 rfl) ?_
          refine lv_lload hC.1 hC.2.1 d_AckBook_Arrivals_enter_73 (lv_at hl 0 rfl) ?_
          refine lv_lconst (v := (1 : Int64)) hC.1 hC.2.1 d_AckBook_Arrivals_enter_75 (by decide) ?_
          refine lv_ladd hC.1 hC.2.1 d_AckBook_Arrivals_enter_76 ?_
          refine W.lcmp hC.1 hC.2.1 d_AckBook_Arrivals_enter_77 ?_
          refine lv_if_eq (tgt := 85) hC.1 hC.2.1 d_AckBook_Arrivals_enter_78 (by decide) (fun hc => ?_) (fun hc => ?_)
          · have h := z_ifp hc h
            refine lv_iconst (v := (0 : Int32)) hC.1 hC.2.1 d_AckBook_Arrivals_enter_85 (by decide) ?_
            refine lv_iload hC.1 hC.2.1 d_AckBook_Arrivals_enter_86 (lv_at hl 5 rfl) ?_
            obtain ⟨a_, fs_, eo_, h⟩ := z_this_spec h
            obtain ⟨w1_, o1_, hF_, ha_⟩ := z_cV_spec h
            refine x_goes hC hRc hRs hFr ha_ (z_goV (As := [.int (0 : Int32), .int pI3]) hC hZ zc5 eo_ (k_AckBook_Arrivals_hold hT hfl _ _ hF_) t_746 t_748 ts_AckBook_Arrivals_hold t_8 t_749 ⟨by decide, by decide, (by decide +kernel : (parseMethodDescriptor y_AckBook_Arrivals_hold.desc).map (fun d => d.parameters.length) = some 2)⟩ (by rw [hRt.1]; decide) (by rw [hRt.2]; decide) hl.1 rfl (by first | exact Nat.le_of_ble_eq_true rfl | simp [z_rfc, z_ci, z_cj]) d_AckBook_Arrivals_enter_88) (fun v_ hv H locs cells slots hZ => ?_)
            obtain ⟨rfl, h⟩ := hv
            generalize w1_ = w at h hZ
            refine lv_lload_n hC.1 hC.2.1 d_AckBook_Arrivals_enter_91 rfl (lv_at hl 3 rfl) ?_
            refine lv_lload hC.1 hC.2.1 d_AckBook_Arrivals_enter_92 (lv_at hl 0 rfl) ?_
            refine W.lcmp hC.1 hC.2.1 d_AckBook_Arrivals_enter_94 ?_
            refine lv_if_le (tgt := 104) hC.1 hC.2.1 d_AckBook_Arrivals_enter_95 (by decide) (fun hc => ?_) (fun hc => ?_)
            · have h := z_ifp hc h
              refine lv_iconst (v := (1 : Int32)) hC.1 hC.2.1 d_AckBook_Arrivals_enter_104 (by decide) ?_
              exact x_iret hC hRc hRs hZ hr rfl h d_AckBook_Arrivals_enter_105
            · have h := z_ifn hc h
              refine x_aload_n hC d_AckBook_Arrivals_enter_98 rfl (lv_at hl 2 rfl) ?_
              refine lv_iload hC.1 hC.2.1 d_AckBook_Arrivals_enter_99 (lv_at hl 5 rfl) ?_
              refine x_put hC hZ zc5 h (by decide) t_136 (fun _ h9 => h9) rfl rfl rfl rfl d_AckBook_Arrivals_enter_101 (fun w H locs hZ h => ?_)
              refine lv_iconst (v := (1 : Int32)) hC.1 hC.2.1 d_AckBook_Arrivals_enter_104 (by decide) ?_
              exact x_iret hC hRc hRs hZ hr rfl h d_AckBook_Arrivals_enter_105
          · have h := z_ifn hc h
            refine lv_iconst (v := (1 : Int32)) hC.1 hC.2.1 d_AckBook_Arrivals_enter_81 (by decide) ?_
            refine lv_goto (tgt := 86) hC.1 hC.2.1 d_AckBook_Arrivals_enter_82 (by decide) ?_
            refine lv_iload hC.1 hC.2.1 d_AckBook_Arrivals_enter_86 (lv_at hl 5 rfl) ?_
            obtain ⟨a_, fs_, eo_, h⟩ := z_this_spec h
            obtain ⟨w1_, o1_, hF_, ha_⟩ := z_cV_spec h
            refine x_goes hC hRc hRs hFr ha_ (z_goV (As := [.int (1 : Int32), .int pI3]) hC hZ zc5 eo_ (k_AckBook_Arrivals_hold hT hfl _ _ hF_) t_746 t_748 ts_AckBook_Arrivals_hold t_8 t_749 ⟨by decide, by decide, (by decide +kernel : (parseMethodDescriptor y_AckBook_Arrivals_hold.desc).map (fun d => d.parameters.length) = some 2)⟩ (by rw [hRt.1]; decide) (by rw [hRt.2]; decide) hl.1 rfl (by first | exact Nat.le_of_ble_eq_true rfl | simp [z_rfc, z_ci, z_cj]) d_AckBook_Arrivals_enter_88) (fun v_ hv H locs cells slots hZ => ?_)
            obtain ⟨rfl, h⟩ := hv
            generalize w1_ = w at h hZ
            refine lv_lload_n hC.1 hC.2.1 d_AckBook_Arrivals_enter_91 rfl (lv_at hl 3 rfl) ?_
            refine lv_lload hC.1 hC.2.1 d_AckBook_Arrivals_enter_92 (lv_at hl 0 rfl) ?_
            refine W.lcmp hC.1 hC.2.1 d_AckBook_Arrivals_enter_94 ?_
            refine lv_if_le (tgt := 104) hC.1 hC.2.1 d_AckBook_Arrivals_enter_95 (by decide) (fun hc => ?_) (fun hc => ?_)
            · have h := z_ifp hc h
              refine lv_iconst (v := (1 : Int32)) hC.1 hC.2.1 d_AckBook_Arrivals_enter_104 (by decide) ?_
              exact x_iret hC hRc hRs hZ hr rfl h d_AckBook_Arrivals_enter_105
            · have h := z_ifn hc h
              refine x_aload_n hC d_AckBook_Arrivals_enter_98 rfl (lv_at hl 2 rfl) ?_
              refine lv_iload hC.1 hC.2.1 d_AckBook_Arrivals_enter_99 (lv_at hl 5 rfl) ?_
              refine x_put hC hZ zc5 h (by decide) t_136 (fun _ h9 => h9) rfl rfl rfl rfl d_AckBook_Arrivals_enter_101 (fun w H locs hZ h => ?_)
              refine lv_iconst (v := (1 : Int32)) hC.1 hC.2.1 d_AckBook_Arrivals_enter_104 (by decide) ?_
              exact x_iret hC hRc hRs hZ hr rfl h d_AckBook_Arrivals_enter_105
      · have h := z_ifp hc h
        refine lv_ldc2 (v := (-1 : Int64)) hC.1 hC.2.1 hC.2.2.2.1 ((hZ.1.tb hC.2.2.2.2.2.2 args) _ t_733) d_AckBook_Arrivals_enter_46 ?_
        refine lv_goto (tgt := 58) hC.1 hC.2.1 d_AckBook_Arrivals_enter_49 (by decide) ?_
        refine lv_lstore (lv' := [(6, .long (-1 : Int64)), (5, .int v2), (0, va_rf a0), (1, .long pJ1), (3, .int pI2), (4, .int pI3)]) hC.1 hC.2.1 d_AckBook_Arrivals_enter_58 hl (by decide) (by first | rfl | simp [z_rfc, z_ci, z_cj]) (fun ls hl => ?_)
        refine x_aload_n hC d_AckBook_Arrivals_enter_60 rfl (lv_at hl 2 rfl) ?_
        refine lv_lload_n hC.1 hC.2.1 d_AckBook_Arrivals_enter_61 rfl (lv_at hl 3 rfl) ?_
        refine lv_iload hC.1 hC.2.1 d_AckBook_Arrivals_enter_62 (lv_at hl 1 rfl) ?_
        obtain ⟨a_, fs_, eo_, h⟩ := z_this_spec h
        obtain ⟨w1_, o1_, hF_, ha_⟩ := z_cV_spec h
        refine x_goes hC hRc hRs hFr ha_ (z_goV (As := [.long pJ1, .int v2]) hC hZ zc5 eo_ (k_AckBook_Arrivals_keep hT hfl _ _ hF_) t_734 t_736 ts_AckBook_Arrivals_keep t_8 t_737 ⟨by decide, by decide, (by decide +kernel : (parseMethodDescriptor y_AckBook_Arrivals_keep.desc).map (fun d => d.parameters.length) = some 2)⟩ (by rw [hRt.1]; decide) (by rw [hRt.2]; decide) hl.1 rfl (by first | exact Nat.le_of_ble_eq_true rfl | simp [z_rfc, z_ci, z_cj]) d_AckBook_Arrivals_enter_64) (fun v_ hv H locs cells slots hZ => ?_)
        obtain ⟨rfl, h⟩ := hv
        generalize w1_ = w at h hZ
        refine lv_iload_n hC.1 hC.2.1 d_AckBook_Arrivals_enter_67 rfl (lv_at hl 4 rfl) ?_
        refine lv_if_eq (tgt := 91) hC.1 hC.2.1 d_AckBook_Arrivals_enter_68 (by decide) (fun hc => ?_) (fun hc => ?_)
        · have h := z_ifp hc h
          refine lv_lload_n hC.1 hC.2.1 d_AckBook_Arrivals_enter_91 rfl (lv_at hl 3 rfl) ?_
          refine lv_lload hC.1 hC.2.1 d_AckBook_Arrivals_enter_92 (lv_at hl 0 rfl) ?_
          refine W.lcmp hC.1 hC.2.1 d_AckBook_Arrivals_enter_94 ?_
          refine lv_if_le (tgt := 104) hC.1 hC.2.1 d_AckBook_Arrivals_enter_95 (by decide) (fun hc => ?_) (fun hc => ?_)
          · have h := z_ifp hc h
            refine lv_iconst (v := (1 : Int32)) hC.1 hC.2.1 d_AckBook_Arrivals_enter_104 (by decide) ?_
            exact x_iret hC hRc hRs hZ hr rfl h d_AckBook_Arrivals_enter_105
          · have h := z_ifn hc h
            refine x_aload_n hC d_AckBook_Arrivals_enter_98 rfl (lv_at hl 2 rfl) ?_
            refine lv_iload hC.1 hC.2.1 d_AckBook_Arrivals_enter_99 (lv_at hl 5 rfl) ?_
            refine x_put hC hZ zc5 h (by decide) t_136 (fun _ h9 => h9) rfl rfl rfl rfl d_AckBook_Arrivals_enter_101 (fun w H locs hZ h => ?_)
            refine lv_iconst (v := (1 : Int32)) hC.1 hC.2.1 d_AckBook_Arrivals_enter_104 (by decide) ?_
            exact x_iret hC hRc hRs hZ hr rfl h d_AckBook_Arrivals_enter_105
        · have h := z_ifn hc h
          refine x_aload_n hC d_AckBook_Arrivals_enter_71 rfl (lv_at hl 2 rfl) ?_
          refine lv_lload_n hC.1 hC.2.1 d_AckBook_Arrivals_enter_72 rfl (lv_at hl 3 rfl) ?_
          refine lv_lload hC.1 hC.2.1 d_AckBook_Arrivals_enter_73 (lv_at hl 0 rfl) ?_
          refine lv_lconst (v := (1 : Int64)) hC.1 hC.2.1 d_AckBook_Arrivals_enter_75 (by decide) ?_
          refine lv_ladd hC.1 hC.2.1 d_AckBook_Arrivals_enter_76 ?_
          refine W.lcmp hC.1 hC.2.1 d_AckBook_Arrivals_enter_77 ?_
          refine lv_if_eq (tgt := 85) hC.1 hC.2.1 d_AckBook_Arrivals_enter_78 (by decide) (fun hc => ?_) (fun hc => ?_)
          · have h := z_ifp hc h
            refine lv_iconst (v := (0 : Int32)) hC.1 hC.2.1 d_AckBook_Arrivals_enter_85 (by decide) ?_
            refine lv_iload hC.1 hC.2.1 d_AckBook_Arrivals_enter_86 (lv_at hl 5 rfl) ?_
            obtain ⟨a_, fs_, eo_, h⟩ := z_this_spec h
            obtain ⟨w1_, o1_, hF_, ha_⟩ := z_cV_spec h
            refine x_goes hC hRc hRs hFr ha_ (z_goV (As := [.int (0 : Int32), .int pI3]) hC hZ zc5 eo_ (k_AckBook_Arrivals_hold hT hfl _ _ hF_) t_746 t_748 ts_AckBook_Arrivals_hold t_8 t_749 ⟨by decide, by decide, (by decide +kernel : (parseMethodDescriptor y_AckBook_Arrivals_hold.desc).map (fun d => d.parameters.length) = some 2)⟩ (by rw [hRt.1]; decide) (by rw [hRt.2]; decide) hl.1 rfl (by first | exact Nat.le_of_ble_eq_true rfl | simp [z_rfc, z_ci, z_cj]) d_AckBook_Arrivals_enter_88) (fun v_ hv H locs cells slots hZ => ?_)
            obtain ⟨rfl, h⟩ := hv
            generalize w1_ = w at h hZ
            refine lv_lload_n hC.1 hC.2.1 d_AckBook_Arrivals_enter_91 rfl (lv_at hl 3 rfl) ?_
            refine lv_lload hC.1 hC.2.1 d_AckBook_Arrivals_enter_92 (lv_at hl 0 rfl) ?_
            refine W.lcmp hC.1 hC.2.1 d_AckBook_Arrivals_enter_94 ?_
            refine lv_if_le (tgt := 104) hC.1 hC.2.1 d_AckBook_Arrivals_enter_95 (by decide) (fun hc => ?_) (fun hc => ?_)
            · have h := z_ifp hc h
              refine lv_iconst (v := (1 : Int32)) hC.1 hC.2.1 d_AckBook_Arrivals_enter_104 (by decide) ?_
              exact x_iret hC hRc hRs hZ hr rfl h d_AckBook_Arrivals_enter_105
            · have h := z_ifn hc h
              refine x_aload_n hC d_AckBook_Arrivals_enter_98 rfl (lv_at hl 2 rfl) ?_
              refine lv_iload hC.1 hC.2.1 d_AckBook_Arrivals_enter_99 (lv_at hl 5 rfl) ?_
              refine x_put hC hZ zc5 h (by decide) t_136 (fun _ h9 => h9) rfl rfl rfl rfl d_AckBook_Arrivals_enter_101 (fun w H locs hZ h => ?_)
              refine lv_iconst (v := (1 : Int32)) hC.1 hC.2.1 d_AckBook_Arrivals_enter_104 (by decide) ?_
              exact x_iret hC hRc hRs hZ hr rfl h d_AckBook_Arrivals_enter_105
          · have h := z_ifn hc h
            refine lv_iconst (v := (1 : Int32)) hC.1 hC.2.1 d_AckBook_Arrivals_enter_81 (by decide) ?_
            refine lv_goto (tgt := 86) hC.1 hC.2.1 d_AckBook_Arrivals_enter_82 (by decide) ?_
            refine lv_iload hC.1 hC.2.1 d_AckBook_Arrivals_enter_86 (lv_at hl 5 rfl) ?_
            obtain ⟨a_, fs_, eo_, h⟩ := z_this_spec h
            obtain ⟨w1_, o1_, hF_, ha_⟩ := z_cV_spec h
            refine x_goes hC hRc hRs hFr ha_ (z_goV (As := [.int (1 : Int32), .int pI3]) hC hZ zc5 eo_ (k_AckBook_Arrivals_hold hT hfl _ _ hF_) t_746 t_748 ts_AckBook_Arrivals_hold t_8 t_749 ⟨by decide, by decide, (by decide +kernel : (parseMethodDescriptor y_AckBook_Arrivals_hold.desc).map (fun d => d.parameters.length) = some 2)⟩ (by rw [hRt.1]; decide) (by rw [hRt.2]; decide) hl.1 rfl (by first | exact Nat.le_of_ble_eq_true rfl | simp [z_rfc, z_ci, z_cj]) d_AckBook_Arrivals_enter_88) (fun v_ hv H locs cells slots hZ => ?_)
            obtain ⟨rfl, h⟩ := hv
            generalize w1_ = w at h hZ
            refine lv_lload_n hC.1 hC.2.1 d_AckBook_Arrivals_enter_91 rfl (lv_at hl 3 rfl) ?_
            refine lv_lload hC.1 hC.2.1 d_AckBook_Arrivals_enter_92 (lv_at hl 0 rfl) ?_
            refine W.lcmp hC.1 hC.2.1 d_AckBook_Arrivals_enter_94 ?_
            refine lv_if_le (tgt := 104) hC.1 hC.2.1 d_AckBook_Arrivals_enter_95 (by decide) (fun hc => ?_) (fun hc => ?_)
            · have h := z_ifp hc h
              refine lv_iconst (v := (1 : Int32)) hC.1 hC.2.1 d_AckBook_Arrivals_enter_104 (by decide) ?_
              exact x_iret hC hRc hRs hZ hr rfl h d_AckBook_Arrivals_enter_105
            · have h := z_ifn hc h
              refine x_aload_n hC d_AckBook_Arrivals_enter_98 rfl (lv_at hl 2 rfl) ?_
              refine lv_iload hC.1 hC.2.1 d_AckBook_Arrivals_enter_99 (lv_at hl 5 rfl) ?_
              refine x_put hC hZ zc5 h (by decide) t_136 (fun _ h9 => h9) rfl rfl rfl rfl d_AckBook_Arrivals_enter_101 (fun w H locs hZ h => ?_)
              refine lv_iconst (v := (1 : Int32)) hC.1 hC.2.1 d_AckBook_Arrivals_enter_104 (by decide) ?_
              exact x_iret hC hRc hRs hZ hr rfl h d_AckBook_Arrivals_enter_105
    · have h := z_ifn hc h
      refine lv_lload_n hC.1 hC.2.1 d_AckBook_Arrivals_enter_25 rfl (lv_at hl 2 rfl) ?_
      refine x_aload_n hC d_AckBook_Arrivals_enter_26 rfl (lv_at hl 1 rfl) ?_
      refine x_getR hC hZ zc5 h (by decide) t_126 (fun _ h9 => h9) d_AckBook_Arrivals_enter_27 (fun r14 h => ?_)
      refine lv_iload hC.1 hC.2.1 d_AckBook_Arrivals_enter_30 (lv_at hl 0 rfl) ?_
      refine x_ldL hC hZ h d_AckBook_Arrivals_enter_32 (fun v15 h => ?_)
      refine W.lcmp hC.1 hC.2.1 d_AckBook_Arrivals_enter_33 ?_
      refine lv_if_gt (tgt := 39) hC.1 hC.2.1 d_AckBook_Arrivals_enter_34 (by decide) (fun hc => ?_) (fun hc => ?_)
      · have h := z_ifp hc h
        refine x_aload_n hC d_AckBook_Arrivals_enter_39 rfl (lv_at hl 1 rfl) ?_
        refine x_getI hC hZ zc5 h (by decide) t_128 (fun _ h9 => h9) d_AckBook_Arrivals_enter_40 (fun v16 h => ?_)
        refine lv_if_ne (tgt := 52) hC.1 hC.2.1 d_AckBook_Arrivals_enter_43 (by decide) (fun hc => ?_) (fun hc => ?_)
        · have h := z_ifn hc h
          refine x_aload_n hC d_AckBook_Arrivals_enter_52 rfl (lv_at hl 1 rfl) ?_
          refine x_getR hC hZ zc5 h (by decide) t_126 (fun _ h9 => h9) d_AckBook_Arrivals_enter_53 (fun r20 h => ?_)
          refine lv_iconst (v := (0 : Int32)) hC.1 hC.2.1 d_AckBook_Arrivals_enter_56 (by decide) ?_
          refine x_ldL hC hZ h d_AckBook_Arrivals_enter_57 (fun v21 h => ?_)
          refine lv_lstore (lv' := [(6, .long v21), (5, .int v2), (0, va_rf a0), (1, .long pJ1), (3, .int pI2), (4, .int pI3)]) hC.1 hC.2.1 d_AckBook_Arrivals_enter_58 hl (by decide) (by first | rfl | simp [z_rfc, z_ci, z_cj]) (fun ls hl => ?_)
          refine x_aload_n hC d_AckBook_Arrivals_enter_60 rfl (lv_at hl 2 rfl) ?_
          refine lv_lload_n hC.1 hC.2.1 d_AckBook_Arrivals_enter_61 rfl (lv_at hl 3 rfl) ?_
          refine lv_iload hC.1 hC.2.1 d_AckBook_Arrivals_enter_62 (lv_at hl 1 rfl) ?_
          obtain ⟨a_, fs_, eo_, h⟩ := z_this_spec h
          obtain ⟨w1_, o1_, hF_, ha_⟩ := z_cV_spec h
          refine x_goes hC hRc hRs hFr ha_ (z_goV (As := [.long pJ1, .int v2]) hC hZ zc5 eo_ (k_AckBook_Arrivals_keep hT hfl _ _ hF_) t_734 t_736 ts_AckBook_Arrivals_keep t_8 t_737 ⟨by decide, by decide, (by decide +kernel : (parseMethodDescriptor y_AckBook_Arrivals_keep.desc).map (fun d => d.parameters.length) = some 2)⟩ (by rw [hRt.1]; decide) (by rw [hRt.2]; decide) hl.1 rfl (by first | exact Nat.le_of_ble_eq_true rfl | simp [z_rfc, z_ci, z_cj]) d_AckBook_Arrivals_enter_64) (fun v_ hv H locs cells slots hZ => ?_)
          obtain ⟨rfl, h⟩ := hv
          generalize w1_ = w at h hZ
          refine lv_iload_n hC.1 hC.2.1 d_AckBook_Arrivals_enter_67 rfl (lv_at hl 4 rfl) ?_
          refine lv_if_eq (tgt := 91) hC.1 hC.2.1 d_AckBook_Arrivals_enter_68 (by decide) (fun hc => ?_) (fun hc => ?_)
          · have h := z_ifp hc h
            refine lv_lload_n hC.1 hC.2.1 d_AckBook_Arrivals_enter_91 rfl (lv_at hl 3 rfl) ?_
            refine lv_lload hC.1 hC.2.1 d_AckBook_Arrivals_enter_92 (lv_at hl 0 rfl) ?_
            refine W.lcmp hC.1 hC.2.1 d_AckBook_Arrivals_enter_94 ?_
            refine lv_if_le (tgt := 104) hC.1 hC.2.1 d_AckBook_Arrivals_enter_95 (by decide) (fun hc => ?_) (fun hc => ?_)
            · have h := z_ifp hc h
              refine lv_iconst (v := (1 : Int32)) hC.1 hC.2.1 d_AckBook_Arrivals_enter_104 (by decide) ?_
              exact x_iret hC hRc hRs hZ hr rfl h d_AckBook_Arrivals_enter_105
            · have h := z_ifn hc h
              refine x_aload_n hC d_AckBook_Arrivals_enter_98 rfl (lv_at hl 2 rfl) ?_
              refine lv_iload hC.1 hC.2.1 d_AckBook_Arrivals_enter_99 (lv_at hl 5 rfl) ?_
              refine x_put hC hZ zc5 h (by decide) t_136 (fun _ h9 => h9) rfl rfl rfl rfl d_AckBook_Arrivals_enter_101 (fun w H locs hZ h => ?_)
              refine lv_iconst (v := (1 : Int32)) hC.1 hC.2.1 d_AckBook_Arrivals_enter_104 (by decide) ?_
              exact x_iret hC hRc hRs hZ hr rfl h d_AckBook_Arrivals_enter_105
          · have h := z_ifn hc h
            refine x_aload_n hC d_AckBook_Arrivals_enter_71 rfl (lv_at hl 2 rfl) ?_
            refine lv_lload_n hC.1 hC.2.1 d_AckBook_Arrivals_enter_72 rfl (lv_at hl 3 rfl) ?_
            refine lv_lload hC.1 hC.2.1 d_AckBook_Arrivals_enter_73 (lv_at hl 0 rfl) ?_
            refine lv_lconst (v := (1 : Int64)) hC.1 hC.2.1 d_AckBook_Arrivals_enter_75 (by decide) ?_
            refine lv_ladd hC.1 hC.2.1 d_AckBook_Arrivals_enter_76 ?_
            refine W.lcmp hC.1 hC.2.1 d_AckBook_Arrivals_enter_77 ?_
            refine lv_if_eq (tgt := 85) hC.1 hC.2.1 d_AckBook_Arrivals_enter_78 (by decide) (fun hc => ?_) (fun hc => ?_)
            · have h := z_ifp hc h
              refine lv_iconst (v := (0 : Int32)) hC.1 hC.2.1 d_AckBook_Arrivals_enter_85 (by decide) ?_
              refine lv_iload hC.1 hC.2.1 d_AckBook_Arrivals_enter_86 (lv_at hl 5 rfl) ?_
              obtain ⟨a_, fs_, eo_, h⟩ := z_this_spec h
              obtain ⟨w1_, o1_, hF_, ha_⟩ := z_cV_spec h
              refine x_goes hC hRc hRs hFr ha_ (z_goV (As := [.int (0 : Int32), .int pI3]) hC hZ zc5 eo_ (k_AckBook_Arrivals_hold hT hfl _ _ hF_) t_746 t_748 ts_AckBook_Arrivals_hold t_8 t_749 ⟨by decide, by decide, (by decide +kernel : (parseMethodDescriptor y_AckBook_Arrivals_hold.desc).map (fun d => d.parameters.length) = some 2)⟩ (by rw [hRt.1]; decide) (by rw [hRt.2]; decide) hl.1 rfl (by first | exact Nat.le_of_ble_eq_true rfl | simp [z_rfc, z_ci, z_cj]) d_AckBook_Arrivals_enter_88) (fun v_ hv H locs cells slots hZ => ?_)
              obtain ⟨rfl, h⟩ := hv
              generalize w1_ = w at h hZ
              refine lv_lload_n hC.1 hC.2.1 d_AckBook_Arrivals_enter_91 rfl (lv_at hl 3 rfl) ?_
              refine lv_lload hC.1 hC.2.1 d_AckBook_Arrivals_enter_92 (lv_at hl 0 rfl) ?_
              refine W.lcmp hC.1 hC.2.1 d_AckBook_Arrivals_enter_94 ?_
              refine lv_if_le (tgt := 104) hC.1 hC.2.1 d_AckBook_Arrivals_enter_95 (by decide) (fun hc => ?_) (fun hc => ?_)
              · have h := z_ifp hc h
                refine lv_iconst (v := (1 : Int32)) hC.1 hC.2.1 d_AckBook_Arrivals_enter_104 (by decide) ?_
                exact x_iret hC hRc hRs hZ hr rfl h d_AckBook_Arrivals_enter_105
              · have h := z_ifn hc h
                refine x_aload_n hC d_AckBook_Arrivals_enter_98 rfl (lv_at hl 2 rfl) ?_
                refine lv_iload hC.1 hC.2.1 d_AckBook_Arrivals_enter_99 (lv_at hl 5 rfl) ?_
                refine x_put hC hZ zc5 h (by decide) t_136 (fun _ h9 => h9) rfl rfl rfl rfl d_AckBook_Arrivals_enter_101 (fun w H locs hZ h => ?_)
                refine lv_iconst (v := (1 : Int32)) hC.1 hC.2.1 d_AckBook_Arrivals_enter_104 (by decide) ?_
                exact x_iret hC hRc hRs hZ hr rfl h d_AckBook_Arrivals_enter_105
            · have h := z_ifn hc h
              refine lv_iconst (v := (1 : Int32)) hC.1 hC.2.1 d_AckBook_Arrivals_enter_81 (by decide) ?_
              refine lv_goto (tgt := 86) hC.1 hC.2.1 d_AckBook_Arrivals_enter_82 (by decide) ?_
              refine lv_iload hC.1 hC.2.1 d_AckBook_Arrivals_enter_86 (lv_at hl 5 rfl) ?_
              obtain ⟨a_, fs_, eo_, h⟩ := z_this_spec h
              obtain ⟨w1_, o1_, hF_, ha_⟩ := z_cV_spec h
              refine x_goes hC hRc hRs hFr ha_ (z_goV (As := [.int (1 : Int32), .int pI3]) hC hZ zc5 eo_ (k_AckBook_Arrivals_hold hT hfl _ _ hF_) t_746 t_748 ts_AckBook_Arrivals_hold t_8 t_749 ⟨by decide, by decide, (by decide +kernel : (parseMethodDescriptor y_AckBook_Arrivals_hold.desc).map (fun d => d.parameters.length) = some 2)⟩ (by rw [hRt.1]; decide) (by rw [hRt.2]; decide) hl.1 rfl (by first | exact Nat.le_of_ble_eq_true rfl | simp [z_rfc, z_ci, z_cj]) d_AckBook_Arrivals_enter_88) (fun v_ hv H locs cells slots hZ => ?_)
              obtain ⟨rfl, h⟩ := hv
              generalize w1_ = w at h hZ
              refine lv_lload_n hC.1 hC.2.1 d_AckBook_Arrivals_enter_91 rfl (lv_at hl 3 rfl) ?_
              refine lv_lload hC.1 hC.2.1 d_AckBook_Arrivals_enter_92 (lv_at hl 0 rfl) ?_
              refine W.lcmp hC.1 hC.2.1 d_AckBook_Arrivals_enter_94 ?_
              refine lv_if_le (tgt := 104) hC.1 hC.2.1 d_AckBook_Arrivals_enter_95 (by decide) (fun hc => ?_) (fun hc => ?_)
              · have h := z_ifp hc h
                refine lv_iconst (v := (1 : Int32)) hC.1 hC.2.1 d_AckBook_Arrivals_enter_104 (by decide) ?_
                exact x_iret hC hRc hRs hZ hr rfl h d_AckBook_Arrivals_enter_105
              · have h := z_ifn hc h
                refine x_aload_n hC d_AckBook_Arrivals_enter_98 rfl (lv_at hl 2 rfl) ?_
                refine lv_iload hC.1 hC.2.1 d_AckBook_Arrivals_enter_99 (lv_at hl 5 rfl) ?_
                refine x_put hC hZ zc5 h (by decide) t_136 (fun _ h9 => h9) rfl rfl rfl rfl d_AckBook_Arrivals_enter_101 (fun w H locs hZ h => ?_)
                refine lv_iconst (v := (1 : Int32)) hC.1 hC.2.1 d_AckBook_Arrivals_enter_104 (by decide) ?_
                exact x_iret hC hRc hRs hZ hr rfl h d_AckBook_Arrivals_enter_105
        · have h := z_ifp hc h
          refine lv_ldc2 (v := (-1 : Int64)) hC.1 hC.2.1 hC.2.2.2.1 ((hZ.1.tb hC.2.2.2.2.2.2 args) _ t_733) d_AckBook_Arrivals_enter_46 ?_
          refine lv_goto (tgt := 58) hC.1 hC.2.1 d_AckBook_Arrivals_enter_49 (by decide) ?_
          refine lv_lstore (lv' := [(6, .long (-1 : Int64)), (5, .int v2), (0, va_rf a0), (1, .long pJ1), (3, .int pI2), (4, .int pI3)]) hC.1 hC.2.1 d_AckBook_Arrivals_enter_58 hl (by decide) (by first | rfl | simp [z_rfc, z_ci, z_cj]) (fun ls hl => ?_)
          refine x_aload_n hC d_AckBook_Arrivals_enter_60 rfl (lv_at hl 2 rfl) ?_
          refine lv_lload_n hC.1 hC.2.1 d_AckBook_Arrivals_enter_61 rfl (lv_at hl 3 rfl) ?_
          refine lv_iload hC.1 hC.2.1 d_AckBook_Arrivals_enter_62 (lv_at hl 1 rfl) ?_
          obtain ⟨a_, fs_, eo_, h⟩ := z_this_spec h
          obtain ⟨w1_, o1_, hF_, ha_⟩ := z_cV_spec h
          refine x_goes hC hRc hRs hFr ha_ (z_goV (As := [.long pJ1, .int v2]) hC hZ zc5 eo_ (k_AckBook_Arrivals_keep hT hfl _ _ hF_) t_734 t_736 ts_AckBook_Arrivals_keep t_8 t_737 ⟨by decide, by decide, (by decide +kernel : (parseMethodDescriptor y_AckBook_Arrivals_keep.desc).map (fun d => d.parameters.length) = some 2)⟩ (by rw [hRt.1]; decide) (by rw [hRt.2]; decide) hl.1 rfl (by first | exact Nat.le_of_ble_eq_true rfl | simp [z_rfc, z_ci, z_cj]) d_AckBook_Arrivals_enter_64) (fun v_ hv H locs cells slots hZ => ?_)
          obtain ⟨rfl, h⟩ := hv
          generalize w1_ = w at h hZ
          refine lv_iload_n hC.1 hC.2.1 d_AckBook_Arrivals_enter_67 rfl (lv_at hl 4 rfl) ?_
          refine lv_if_eq (tgt := 91) hC.1 hC.2.1 d_AckBook_Arrivals_enter_68 (by decide) (fun hc => ?_) (fun hc => ?_)
          · have h := z_ifp hc h
            refine lv_lload_n hC.1 hC.2.1 d_AckBook_Arrivals_enter_91 rfl (lv_at hl 3 rfl) ?_
            refine lv_lload hC.1 hC.2.1 d_AckBook_Arrivals_enter_92 (lv_at hl 0 rfl) ?_
            refine W.lcmp hC.1 hC.2.1 d_AckBook_Arrivals_enter_94 ?_
            refine lv_if_le (tgt := 104) hC.1 hC.2.1 d_AckBook_Arrivals_enter_95 (by decide) (fun hc => ?_) (fun hc => ?_)
            · have h := z_ifp hc h
              refine lv_iconst (v := (1 : Int32)) hC.1 hC.2.1 d_AckBook_Arrivals_enter_104 (by decide) ?_
              exact x_iret hC hRc hRs hZ hr rfl h d_AckBook_Arrivals_enter_105
            · have h := z_ifn hc h
              refine x_aload_n hC d_AckBook_Arrivals_enter_98 rfl (lv_at hl 2 rfl) ?_
              refine lv_iload hC.1 hC.2.1 d_AckBook_Arrivals_enter_99 (lv_at hl 5 rfl) ?_
              refine x_put hC hZ zc5 h (by decide) t_136 (fun _ h9 => h9) rfl rfl rfl rfl d_AckBook_Arrivals_enter_101 (fun w H locs hZ h => ?_)
              refine lv_iconst (v := (1 : Int32)) hC.1 hC.2.1 d_AckBook_Arrivals_enter_104 (by decide) ?_
              exact x_iret hC hRc hRs hZ hr rfl h d_AckBook_Arrivals_enter_105
          · have h := z_ifn hc h
            refine x_aload_n hC d_AckBook_Arrivals_enter_71 rfl (lv_at hl 2 rfl) ?_
            refine lv_lload_n hC.1 hC.2.1 d_AckBook_Arrivals_enter_72 rfl (lv_at hl 3 rfl) ?_
            refine lv_lload hC.1 hC.2.1 d_AckBook_Arrivals_enter_73 (lv_at hl 0 rfl) ?_
            refine lv_lconst (v := (1 : Int64)) hC.1 hC.2.1 d_AckBook_Arrivals_enter_75 (by decide) ?_
            refine lv_ladd hC.1 hC.2.1 d_AckBook_Arrivals_enter_76 ?_
            refine W.lcmp hC.1 hC.2.1 d_AckBook_Arrivals_enter_77 ?_
            refine lv_if_eq (tgt := 85) hC.1 hC.2.1 d_AckBook_Arrivals_enter_78 (by decide) (fun hc => ?_) (fun hc => ?_)
            · have h := z_ifp hc h
              refine lv_iconst (v := (0 : Int32)) hC.1 hC.2.1 d_AckBook_Arrivals_enter_85 (by decide) ?_
              refine lv_iload hC.1 hC.2.1 d_AckBook_Arrivals_enter_86 (lv_at hl 5 rfl) ?_
              obtain ⟨a_, fs_, eo_, h⟩ := z_this_spec h
              obtain ⟨w1_, o1_, hF_, ha_⟩ := z_cV_spec h
              refine x_goes hC hRc hRs hFr ha_ (z_goV (As := [.int (0 : Int32), .int pI3]) hC hZ zc5 eo_ (k_AckBook_Arrivals_hold hT hfl _ _ hF_) t_746 t_748 ts_AckBook_Arrivals_hold t_8 t_749 ⟨by decide, by decide, (by decide +kernel : (parseMethodDescriptor y_AckBook_Arrivals_hold.desc).map (fun d => d.parameters.length) = some 2)⟩ (by rw [hRt.1]; decide) (by rw [hRt.2]; decide) hl.1 rfl (by first | exact Nat.le_of_ble_eq_true rfl | simp [z_rfc, z_ci, z_cj]) d_AckBook_Arrivals_enter_88) (fun v_ hv H locs cells slots hZ => ?_)
              obtain ⟨rfl, h⟩ := hv
              generalize w1_ = w at h hZ
              refine lv_lload_n hC.1 hC.2.1 d_AckBook_Arrivals_enter_91 rfl (lv_at hl 3 rfl) ?_
              refine lv_lload hC.1 hC.2.1 d_AckBook_Arrivals_enter_92 (lv_at hl 0 rfl) ?_
              refine W.lcmp hC.1 hC.2.1 d_AckBook_Arrivals_enter_94 ?_
              refine lv_if_le (tgt := 104) hC.1 hC.2.1 d_AckBook_Arrivals_enter_95 (by decide) (fun hc => ?_) (fun hc => ?_)
              · have h := z_ifp hc h
                refine lv_iconst (v := (1 : Int32)) hC.1 hC.2.1 d_AckBook_Arrivals_enter_104 (by decide) ?_
                exact x_iret hC hRc hRs hZ hr rfl h d_AckBook_Arrivals_enter_105
              · have h := z_ifn hc h
                refine x_aload_n hC d_AckBook_Arrivals_enter_98 rfl (lv_at hl 2 rfl) ?_
                refine lv_iload hC.1 hC.2.1 d_AckBook_Arrivals_enter_99 (lv_at hl 5 rfl) ?_
                refine x_put hC hZ zc5 h (by decide) t_136 (fun _ h9 => h9) rfl rfl rfl rfl d_AckBook_Arrivals_enter_101 (fun w H locs hZ h => ?_)
                refine lv_iconst (v := (1 : Int32)) hC.1 hC.2.1 d_AckBook_Arrivals_enter_104 (by decide) ?_
                exact x_iret hC hRc hRs hZ hr rfl h d_AckBook_Arrivals_enter_105
            · have h := z_ifn hc h
              refine lv_iconst (v := (1 : Int32)) hC.1 hC.2.1 d_AckBook_Arrivals_enter_81 (by decide) ?_
              refine lv_goto (tgt := 86) hC.1 hC.2.1 d_AckBook_Arrivals_enter_82 (by decide) ?_
              refine lv_iload hC.1 hC.2.1 d_AckBook_Arrivals_enter_86 (lv_at hl 5 rfl) ?_
              obtain ⟨a_, fs_, eo_, h⟩ := z_this_spec h
              obtain ⟨w1_, o1_, hF_, ha_⟩ := z_cV_spec h
              refine x_goes hC hRc hRs hFr ha_ (z_goV (As := [.int (1 : Int32), .int pI3]) hC hZ zc5 eo_ (k_AckBook_Arrivals_hold hT hfl _ _ hF_) t_746 t_748 ts_AckBook_Arrivals_hold t_8 t_749 ⟨by decide, by decide, (by decide +kernel : (parseMethodDescriptor y_AckBook_Arrivals_hold.desc).map (fun d => d.parameters.length) = some 2)⟩ (by rw [hRt.1]; decide) (by rw [hRt.2]; decide) hl.1 rfl (by first | exact Nat.le_of_ble_eq_true rfl | simp [z_rfc, z_ci, z_cj]) d_AckBook_Arrivals_enter_88) (fun v_ hv H locs cells slots hZ => ?_)
              obtain ⟨rfl, h⟩ := hv
              generalize w1_ = w at h hZ
              refine lv_lload_n hC.1 hC.2.1 d_AckBook_Arrivals_enter_91 rfl (lv_at hl 3 rfl) ?_
              refine lv_lload hC.1 hC.2.1 d_AckBook_Arrivals_enter_92 (lv_at hl 0 rfl) ?_
              refine W.lcmp hC.1 hC.2.1 d_AckBook_Arrivals_enter_94 ?_
              refine lv_if_le (tgt := 104) hC.1 hC.2.1 d_AckBook_Arrivals_enter_95 (by decide) (fun hc => ?_) (fun hc => ?_)
              · have h := z_ifp hc h
                refine lv_iconst (v := (1 : Int32)) hC.1 hC.2.1 d_AckBook_Arrivals_enter_104 (by decide) ?_
                exact x_iret hC hRc hRs hZ hr rfl h d_AckBook_Arrivals_enter_105
              · have h := z_ifn hc h
                refine x_aload_n hC d_AckBook_Arrivals_enter_98 rfl (lv_at hl 2 rfl) ?_
                refine lv_iload hC.1 hC.2.1 d_AckBook_Arrivals_enter_99 (lv_at hl 5 rfl) ?_
                refine x_put hC hZ zc5 h (by decide) t_136 (fun _ h9 => h9) rfl rfl rfl rfl d_AckBook_Arrivals_enter_101 (fun w H locs hZ h => ?_)
                refine lv_iconst (v := (1 : Int32)) hC.1 hC.2.1 d_AckBook_Arrivals_enter_104 (by decide) ?_
                exact x_iret hC hRc hRs hZ hr rfl h d_AckBook_Arrivals_enter_105
      · have h := z_ifn hc h
        refine lv_iconst (v := (0 : Int32)) hC.1 hC.2.1 d_AckBook_Arrivals_enter_37 (by decide) ?_
        exact x_iret hC hRc hRs hZ hr rfl h d_AckBook_Arrivals_enter_38
def f_AckBook_Arrivals_isPressing (F : Nat) (a0 : Option Nat) (pI1 : Int32) (w : zW) : zR :=
  z_getI w 5 4 a0 fun v1 =>
  if v1 = 0 then (
    some (.inl (some (.int (0 : Int32))), w))
  else (
    z_getI w 5 4 a0 fun v2 =>
    if (2 : Int32) ≤ v2 then (
      some (.inl (some (.int (1 : Int32))), w))
    else (
      z_getI w 5 6 a0 fun v3 =>
      if v3 = 0 then (
        z_getI w 5 5 a0 fun v4 =>
        if (pI1 - v4) < (25 : Int32) then (
          some (.inl (some (.int (0 : Int32))), w))
        else (
          some (.inl (some (.int (1 : Int32))), w)))
      else (
        some (.inl (some (.int (1 : Int32))), w))))
set_option maxHeartbeats 4000000 in
set_option maxRecDepth 100000 in
theorem k_AckBook_Arrivals_isPressing {b0 : Nat} {H0 : Heap} {D : va_G} {ZS : List (String × String × String × Value)} {l : Launch} (hT : z_TB (zGG b0 H0 D ZS)) (hfl : l.flags = pinnedFlags ++ [noTraceFlag]) {a0 : Option Nat} {pI1 : Int32} (F : Nat) {w : zW} (res : zO × zW) (h : f_AckBook_Arrivals_isPressing F a0 pI1 w = some res) : z_Ct (zGG b0 H0 D ZS) l y_AckBook_Arrivals_isPressing (.code y_AckBook_Arrivals_isPressing c_AckBook_Arrivals_isPressing 2 (some FieldType.boolean)) 0 0 [va_rf a0, .int pI1] w res := by
  refine z_ct hT hfl (by decide) (by simp only [z_sl_i, z_sl_j, z_sl_r, z_sl_n]; decide) ?_
  intro p e R s m args below meth c hC hr hRc hRs hRt hnm hFr H ls hZ hl
  simp only [z_la_i, z_la_j, z_la_r, z_la_n] at hl
  have hl : lv_has ls 2 [(0, va_rf a0), (1, .int pI1)] := hl
  unfold f_AckBook_Arrivals_isPressing at h
  refine x_aload_n hC d_AckBook_Arrivals_isPressing_0 rfl (lv_at hl 0 rfl) ?_
  refine x_getI hC hZ zc5 h (by decide) t_132 (fun _ h9 => h9) d_AckBook_Arrivals_isPressing_1 (fun v1 h => ?_)
  refine lv_if_ne (tgt := 9) hC.1 hC.2.1 d_AckBook_Arrivals_isPressing_4 (by decide) (fun hc => ?_) (fun hc => ?_)
  · have h := z_ifn hc h
    refine x_aload_n hC d_AckBook_Arrivals_isPressing_9 rfl (lv_at hl 0 rfl) ?_
    refine x_getI hC hZ zc5 h (by decide) t_132 (fun _ h9 => h9) d_AckBook_Arrivals_isPressing_10 (fun v2 h => ?_)
    refine lv_iconst (v := (2 : Int32)) hC.1 hC.2.1 d_AckBook_Arrivals_isPressing_13 (by decide) ?_
    refine lv_icmp_ge (tgt := 35) hC.1 hC.2.1 d_AckBook_Arrivals_isPressing_14 (by decide) (fun hc => ?_) (fun hc => ?_)
    · have h := z_ifp hc h
      refine lv_iconst (v := (1 : Int32)) hC.1 hC.2.1 d_AckBook_Arrivals_isPressing_35 (by decide) ?_
      refine lv_goto (tgt := 40) hC.1 hC.2.1 d_AckBook_Arrivals_isPressing_36 (by decide) ?_
      exact x_iret hC hRc hRs hZ hr rfl h d_AckBook_Arrivals_isPressing_40
    · have h := z_ifn hc h
      refine x_aload_n hC d_AckBook_Arrivals_isPressing_17 rfl (lv_at hl 0 rfl) ?_
      refine x_getI hC hZ zc5 h (by decide) t_135 (fun _ h9 => h9) d_AckBook_Arrivals_isPressing_18 (fun v3 h => ?_)
      refine lv_if_ne (tgt := 35) hC.1 hC.2.1 d_AckBook_Arrivals_isPressing_21 (by decide) (fun hc => ?_) (fun hc => ?_)
      · have h := z_ifn hc h
        refine lv_iconst (v := (1 : Int32)) hC.1 hC.2.1 d_AckBook_Arrivals_isPressing_35 (by decide) ?_
        refine lv_goto (tgt := 40) hC.1 hC.2.1 d_AckBook_Arrivals_isPressing_36 (by decide) ?_
        exact x_iret hC hRc hRs hZ hr rfl h d_AckBook_Arrivals_isPressing_40
      · have h := z_ifp hc h
        refine lv_iload_n hC.1 hC.2.1 d_AckBook_Arrivals_isPressing_24 rfl (lv_at hl 1 rfl) ?_
        refine x_aload_n hC d_AckBook_Arrivals_isPressing_25 rfl (lv_at hl 0 rfl) ?_
        refine x_getI hC hZ zc5 h (by decide) t_134 (fun _ h9 => h9) d_AckBook_Arrivals_isPressing_26 (fun v4 h => ?_)
        refine lv_isub hC.1 hC.2.1 d_AckBook_Arrivals_isPressing_29 ?_
        refine lv_bipush (v := (25 : Int32)) hC.1 hC.2.1 d_AckBook_Arrivals_isPressing_30 (by decide) ?_
        refine lv_icmp_lt (tgt := 39) hC.1 hC.2.1 d_AckBook_Arrivals_isPressing_32 (by decide) (fun hc => ?_) (fun hc => ?_)
        · have h := z_ifp hc h
          refine lv_iconst (v := (0 : Int32)) hC.1 hC.2.1 d_AckBook_Arrivals_isPressing_39 (by decide) ?_
          exact x_iret hC hRc hRs hZ hr rfl h d_AckBook_Arrivals_isPressing_40
        · have h := z_ifn hc h
          refine lv_iconst (v := (1 : Int32)) hC.1 hC.2.1 d_AckBook_Arrivals_isPressing_35 (by decide) ?_
          refine lv_goto (tgt := 40) hC.1 hC.2.1 d_AckBook_Arrivals_isPressing_36 (by decide) ?_
          exact x_iret hC hRc hRs hZ hr rfl h d_AckBook_Arrivals_isPressing_40
  · have h := z_ifp hc h
    refine lv_iconst (v := (0 : Int32)) hC.1 hC.2.1 d_AckBook_Arrivals_isPressing_7 (by decide) ?_
    exact x_iret hC hRc hRs hZ hr rfl h d_AckBook_Arrivals_isPressing_8
def f_AckBook_Arrivals_settle (F : Nat) (a0 : Option Nat) (pI1 : Int32) (w : zW) : zR :=
  z_put w 5 4 a0 (.int (0 : Int32)) fun w =>
  z_putZ w 5 6 a0 (0 : Int32) fun w =>
  z_getI w 5 7 a0 fun v1 =>
  some (.inl (some (.int (pI1 - v1))), w)
set_option maxHeartbeats 4000000 in
set_option maxRecDepth 100000 in
theorem k_AckBook_Arrivals_settle {b0 : Nat} {H0 : Heap} {D : va_G} {ZS : List (String × String × String × Value)} {l : Launch} (hT : z_TB (zGG b0 H0 D ZS)) (hfl : l.flags = pinnedFlags ++ [noTraceFlag]) {a0 : Option Nat} {pI1 : Int32} (F : Nat) {w : zW} (res : zO × zW) (h : f_AckBook_Arrivals_settle F a0 pI1 w = some res) : z_Ct (zGG b0 H0 D ZS) l y_AckBook_Arrivals_settle (.code y_AckBook_Arrivals_settle c_AckBook_Arrivals_settle 2 (some FieldType.int)) 0 0 [va_rf a0, .int pI1] w res := by
  refine z_ct hT hfl (by decide) (by simp only [z_sl_i, z_sl_j, z_sl_r, z_sl_n]; decide) ?_
  intro p e R s m args below meth c hC hr hRc hRs hRt hnm hFr H ls hZ hl
  simp only [z_la_i, z_la_j, z_la_r, z_la_n] at hl
  have hl : lv_has ls 2 [(0, va_rf a0), (1, .int pI1)] := hl
  unfold f_AckBook_Arrivals_settle at h
  refine x_aload_n hC d_AckBook_Arrivals_settle_0 rfl (lv_at hl 0 rfl) ?_
  refine lv_iconst (v := (0 : Int32)) hC.1 hC.2.1 d_AckBook_Arrivals_settle_1 (by decide) ?_
  refine x_put hC hZ zc5 h (by decide) t_132 (fun _ h9 => h9) rfl rfl rfl rfl d_AckBook_Arrivals_settle_2 (fun w H locs hZ h => ?_)
  refine x_aload_n hC d_AckBook_Arrivals_settle_5 rfl (lv_at hl 0 rfl) ?_
  refine lv_iconst (v := (0 : Int32)) hC.1 hC.2.1 d_AckBook_Arrivals_settle_6 (by decide) ?_
  refine x_putZ hC hZ zc5 h (by decide) t_135 (fun _ h9 => h9) rfl rfl d_AckBook_Arrivals_settle_7 (fun w H locs hZ h => ?_)
  refine lv_iload_n hC.1 hC.2.1 d_AckBook_Arrivals_settle_10 rfl (lv_at hl 1 rfl) ?_
  refine x_aload_n hC d_AckBook_Arrivals_settle_11 rfl (lv_at hl 0 rfl) ?_
  refine x_getI hC hZ zc5 h (by decide) t_136 (fun _ h9 => h9) d_AckBook_Arrivals_settle_12 (fun v1 h => ?_)
  refine lv_isub hC.1 hC.2.1 d_AckBook_Arrivals_settle_15 ?_
  exact x_iret hC hRc hRs hZ hr rfl h d_AckBook_Arrivals_settle_16
end
