/-! My layer. A WORLD: the heap's size, the cells and slots that may still be made, and a partial picture of the heap by addresses. Programs over worlds: a value of zR. -/
abbrev zOb : Type := (FieldType × vp_A) ⊕ (Nat × List Value)
abbrev zW : Type := Nat × Nat × Nat × (Nat → Option zOb)
abbrev zO : Type := Option Value ⊕ Nat
abbrev zR : Type := Option (zO × zW)
abbrev zG : Type := Nat × Heap × va_G × List vw_C × List Cond × List (String × String × String × Value) × List (String × Nat)
def z_xV (x : vp_A) (j : Nat) : Value := match x.2 with
  | .inl f => .int (f j)
  | .inr (.inl f) => .long (f j)
  | .inr (.inr (.inl f)) => .float (f j)
  | .inr (.inr (.inr (.inl f))) => .double (f j)
  | .inr (.inr (.inr (.inr f))) => va_rf (f j)
/-- the class of an array's components, where they are references -/
def z_cmp (U : State) (ty : FieldType) (comp cA : ClassId) : Prop := match ty with
  | .object C => U.vm.findClass C = some comp ∧ U.vm.findClass ("[" ++ (FieldType.object C).toString) = some cA
  | .array t => U.vm.findClass (FieldType.array t).toString = some comp
  | _ => True
def z_oA (U : State) (H : Heap) (a : Nat) (ty : FieldType) (x : vp_A) : Prop :=
  ∃ (cell : Cell) (kA : Class) (comp : ClassId), H[a]? = some cell ∧ (∀ k, cell.vm ≠ .statics k) ∧ cell.vm ≠ .unknown ∧ U.vm.classes[cell.cls]? = some kA ∧ kA.kind = .array comp ty ∧ z_cmp U ty comp cell.cls ∧ cell.slots.size = x.1 ∧ ∀ j, j < x.1 → cell.slots[j]? = some (z_xV x j)
def z_oO (D : va_G) (cl : List vw_C) (H : Heap) (a : Nat) (o : Nat × List Value) : Prop :=
  ∃ r : vw_C, cl[o.1]? = some r ∧ t_OB a (D.1 o.1) r.2.2 (D.2 o.1) H (vp_V o.2)
def z_at (G : zG) (U : State) (H : Heap) (a : Nat) (e : zOb) : Prop := match e with
  | .inl q => z_oA U H a q.1 q.2
  | .inr o => z_oO G.2.2.1 G.2.2.2.1 H a o
/-- what 'laysStatic' says, of a cell below b -/
def z_LS (C n d : String) (b : Nat) (U : State) (H0 : Heap) : Prop := ∃ (c : ClassId) (k : Class) (i : Nat) (f : Field) (a : Nat) (cell : Cell), U.vm.findClass C = some c ∧ U.fieldFound? C n d = some (c, k, i, f) ∧ f.isStatic = true ∧ k.statics = some a ∧ H0[a]? = some cell ∧ cell.vm.isStatics = true ∧ cell.cls = c ∧ f.slot < cell.slots.size ∧ k.staticTypes[f.slot]? = some f.type ∧ a < b
theorem z_LS.moved {C n d : String} {b : Nat} {u U : State} {H0 : Heap} (hvm : u.vm.Alike U.vm) (h : z_LS C n d b u H0) : z_LS C n d b U H0 := by
  obtain ⟨c, k, i, f, a, cell, h1, h2, h3, h4, h5, h6, h7, h8, h9, h10⟩ := h
  obtain ⟨k', hi', hek⟩ := State.fieldFound?_setVm hvm h2
  exact ⟨c, k', i, f, a, cell, by rw [hvm.findClass]; exact h1, hi', h3, by rw [hek]; exact h4, h5, h6, h7, h8, by rw [hek]; exact h9, h10⟩
def z_P (G : zG) (U : State) (w : zW) (H : Heap) : Prop :=
  va_K G.2.2.1 G.2.2.2.1 [] U ∧ (∀ x ∈ G.2.2.2.2.1, x.before #[] U = true) ∧ ((∀ z ∈ G.2.2.2.2.2.1, va_Z z.1 z.2.1 z.2.2.1 z.2.2.2 (fun q => G.1 ≤ q) U G.2.1 ∧ z_LS z.1 z.2.1 z.2.2.1 G.1 U G.2.1) ∧ ∀ z ∈ G.2.2.2.2.2.2, va_Mi z.1 z.2 U) ∧ H.size = w.1 ∧ G.1 ≤ w.1 ∧ (∀ q : Nat, q < G.1 → H[q]? = G.2.1[q]?) ∧
    ∀ (a : Nat) (e : zOb), w.2.2.2 a = some e → (G.1 ≤ a ∨ ∃ (ty : FieldType) (x : vp_A), e = .inl (ty, x) ∧ x.1 = 0) ∧ z_at G U H a e
theorem z_P.k {G : zG} {U : State} {w : zW} {H : Heap} (h : z_P G U w H) : va_K G.2.2.1 G.2.2.2.1 [] U := h.1
theorem z_P.t {G : zG} {U : State} {w : zW} {H : Heap} (h : z_P G U w H) : ∀ x ∈ G.2.2.2.2.1, x.before #[] U = true := h.2.1
theorem z_P.z {G : zG} {U : State} {w : zW} {H : Heap} (h : z_P G U w H) : ∀ z ∈ G.2.2.2.2.2.1, va_Z z.1 z.2.1 z.2.2.1 z.2.2.2 (fun q => G.1 ≤ q) U G.2.1 ∧ z_LS z.1 z.2.1 z.2.2.1 G.1 U G.2.1 := h.2.2.1.1
theorem z_P.mi {G : zG} {U : State} {w : zW} {H : Heap} (h : z_P G U w H) : ∀ z ∈ G.2.2.2.2.2.2, va_Mi z.1 z.2 U := h.2.2.1.2
theorem z_P.n {G : zG} {U : State} {w : zW} {H : Heap} (h : z_P G U w H) : H.size = w.1 := h.2.2.2.1
theorem z_P.b {G : zG} {U : State} {w : zW} {H : Heap} (h : z_P G U w H) : G.1 ≤ w.1 := h.2.2.2.2.1
theorem z_P.o {G : zG} {U : State} {w : zW} {H : Heap} (h : z_P G U w H) : ∀ q : Nat, q < G.1 → H[q]? = G.2.1[q]? := h.2.2.2.2.2.1
theorem z_P.c {G : zG} {U : State} {w : zW} {H : Heap} (h : z_P G U w H) : ∀ (a : Nat) (e : zOb), w.2.2.2 a = some e → (G.1 ≤ a ∨ ∃ (ty : FieldType) (x : vp_A), e = .inl (ty, x) ∧ x.1 = 0) ∧ z_at G U H a e := h.2.2.2.2.2.2
/-- a word that holds of warmer tables too, whatever the arguments -/
def z_ok (x : Cond) : Prop := ∀ (a a' : Array Value) (s U : State), s.WarmedH U.vm → x.before a s = true → x.before a' U = true
def z_TB (G : zG) : Prop := ∀ x ∈ G.2.2.2.2.1, z_ok x
theorem z_ok_good {x : Cond} (h : goodWord x = true) : z_ok x := fun _ _ _ _ hW hb => word_at hW (good_of_word h) hb
theorem z_ok_cast {C T : String} : z_ok (.castable C T) := fun _ _ _ _ hW hb => va_Nw.use rfl (va_Nw.warmC hW (va_Nw.of rfl hb))
theorem z_ok_fln {a : String} {i : Nat} {b n d h : String} : z_ok (.fieldLinkNest a i b n d h) := fun _ _ _ _ hW hb => va_Nw.use rfl (va_Nw.warmF hW (va_Nw.of rfl hb))
theorem z_ok_mln {a : String} {i : Nat} {x : MethodName} {h : String} : z_ok (.methodLinkNest a i x h) := fun _ _ _ _ hW hb => va_Nw.use rfl (va_Nw.warmM hW (va_Nw.of rfl hb))
theorem z_cmp.moved {u U : State} (hvm : u.vm.Alike U.vm) {ty : FieldType} {comp cA : ClassId} (h : z_cmp u ty comp cA) : z_cmp U ty comp cA := by
  cases ty <;> first | exact trivial | (show U.vm.findClass _ = some comp; rw [hvm.findClass]; exact h) | (show U.vm.findClass _ = some comp ∧ U.vm.findClass _ = some cA; rw [hvm.findClass, hvm.findClass]; exact h)
theorem z_oA.moved {u U : State} (hvm : u.vm.Alike U.vm) {H : Heap} {a : Nat} {ty : FieldType} {x : vp_A} (h : z_oA u H a ty x) : z_oA U H a ty x := by
  obtain ⟨cell, kA, comp, h1, h2, h3, h4, h5, h6, h7, h8⟩ := h
  obtain ⟨k', hk', he⟩ := hvm.2.2 _ _ h4
  exact ⟨cell, k', comp, h1, h2, h3, hk', by rw [he]; exact h5, h6.moved hvm, h7, h8⟩
theorem z_at.moved {G : zG} {u U : State} (hvm : u.vm.Alike U.vm) {H : Heap} {a : Nat} {e : zOb} (h : z_at G u H a e) : z_at G U H a e := by
  cases e with
  | inl q => exact z_oA.moved hvm h
  | inr o => exact h
theorem z_P.moved {G : zG} (hT : z_TB G) {u U : State} {w : zW} {H : Heap} (hW : u.WarmedH U.vm) (h : z_P G u w H) : z_P G U w H := by
  obtain ⟨h1, h2, h0, h3, h4, h5, h6⟩ := h
  exact ⟨va_K.moved hW.alike h1, fun x hx => hT x hx _ _ _ _ hW (h2 x hx), ⟨fun z hz => ⟨va_Z.moved hW.alike (h0.1 z hz).1, (h0.1 z hz).2.moved hW.alike⟩, fun z hz => va_Mi.moved hW.alike (h0.2 z hz)⟩, h3, h4, h5, fun a e he => ⟨(h6 a e he).1, (h6 a e he).2.moved hW.alike⟩⟩
theorem z_P.tb {G : zG} (hT : z_TB G) {U : State} {w : zW} {H : Heap} (h : z_P G U w H) (args : Array Value) : ∀ x ∈ G.2.2.2.2.1, x.before args U = true := fun x hx => hT x hx _ _ _ _ (State.WarmedH.refl U) (h.t x hx)
theorem z_oA.kept {U : State} {H H1 : Heap} {a : Nat} {ty : FieldType} {x : vp_A} (h : z_oA U H a ty x) (hq : H1[a]? = H[a]?) : z_oA U H1 a ty x := by
  obtain ⟨cell, kA, comp, h1, h2⟩ := h
  exact ⟨cell, kA, comp, hq.trans h1, h2⟩
theorem z_at.kept {G : zG} {U : State} {H H1 : Heap} {a : Nat} {e : zOb} (h : z_at G U H a e) (hq : H1[a]? = H[a]?) : z_at G U H1 a e := by
  cases e with
  | inl q => exact z_oA.kept h hq
  | inr o =>
    obtain ⟨r, h1, h2⟩ := h
    exact ⟨r, h1, h2.kept hq⟩
theorem z_at.lt {G : zG} {U : State} {H : Heap} {a : Nat} {e : zOb} (h : z_at G U H a e) : a < H.size := by
  cases e with
  | inl q =>
    obtain ⟨cell, _, _, h1, -⟩ := h
    exact (Array.getElem?_eq_some_iff.mp h1).1
  | inr o =>
    obtain ⟨r, h1, cell, h2, -⟩ := h
    exact (Array.getElem?_eq_some_iff.mp h2).1
/-! the programs' words -/
def z_set (w : zW) (a : Nat) (e : zOb) : zW := (w.1, w.2.1, w.2.2.1, fun b => if b = a then some e else w.2.2.2 b)
def z_push (w : zW) (n : Nat) (e : zOb) : zW := (w.1 + 1, w.2.1 - 1, w.2.2.1 - n, fun b => if b = w.1 then some e else w.2.2.2 b)
def z_obj (w : zW) (ci : Nat) (r : Option Nat) : Option (Nat × List Value) := match r with
  | some a => match w.2.2.2 a with
    | some (.inr (c, fs)) => if c = ci then some (a, fs) else none
    | _ => none
  | none => none
def z_arr (w : zW) (ty : FieldType) (r : Option Nat) : Option (Nat × vp_A) := match r with
  | some a => match w.2.2.2 a with
    | some (.inl (t, x)) => if t = ty then some (a, x) else none
    | _ => none
  | none => none
def z_getI (w : zW) (ci k : Nat) (r : Option Nat) (K : Int32 → zR) : zR := match z_obj w ci r with
  | some (_, fs) => match fs[k]? with
    | some (.int x) => K x
    | _ => none
  | none => none
def z_getL (w : zW) (ci k : Nat) (r : Option Nat) (K : Int64 → zR) : zR := match z_obj w ci r with
  | some (_, fs) => match fs[k]? with
    | some (.long x) => K x
    | _ => none
  | none => none
def z_getR (w : zW) (ci k : Nat) (r : Option Nat) (K : Option Nat → zR) : zR := match z_obj w ci r with
  | some (_, fs) => match fs[k]? with
    | some .null => K none
    | some (.ref a) => K (some a)
    | _ => none
  | none => none
def z_put (w : zW) (ci k : Nat) (r : Option Nat) (v : Value) (K : zW → zR) : zR := match z_obj w ci r with
  | some (a, fs) => if k < fs.length then K (z_set w a (.inr (ci, fs.set k v))) else none
  | none => none
def z_putZ (w : zW) (ci k : Nat) (r : Option Nat) (x : Int32) (K : zW → zR) : zR := if x = 0 ∨ x = 1 then z_put w ci k r (.int x) K else none
def z_new (w : zW) (ci N : Nat) (fs : List Value) (K : Nat → zW → zR) : zR := if 1 ≤ w.2.1 ∧ N ≤ w.2.2.1 then K w.1 (z_push w N (.inr (ci, fs))) else none
def z_newa (w : zW) (ty : FieldType) (n : Int32) (x : Nat → vp_A) (K : Nat → zW → zR) : zR :=
  if ¬ n < 0 ∧ n.toNatClampNeg ≤ 65536 ∧ 1 ≤ w.2.1 ∧ n.toNatClampNeg ≤ w.2.2.1 then K w.1 (z_push w n.toNatClampNeg (.inl (ty, x n.toNatClampNeg))) else none
def z_len (w : zW) (r : Option Nat) (K : Int32 → zR) : zR := match r with
  | some a => match w.2.2.2 a with
    | some (.inl (_, x)) => K (Int32.ofNat x.1)
    | _ => none
  | none => none
def z_ldI (w : zW) (ty : FieldType) (r : Option Nat) (i : Int32) (K : Int32 → zR) : zR := match z_arr w ty r with
  | some (_, n, .inl f) => if ¬ (i < 0 ∨ n ≤ i.toNatClampNeg) then K (f i.toNatClampNeg) else none
  | _ => none
def z_ldL (w : zW) (r : Option Nat) (i : Int32) (K : Int64 → zR) : zR := match z_arr w .long r with
  | some (_, n, .inr (.inl f)) => if ¬ (i < 0 ∨ n ≤ i.toNatClampNeg) then K (f i.toNatClampNeg) else none
  | _ => none
def z_ldR (w : zW) (ty : FieldType) (r : Option Nat) (i : Int32) (K : Option Nat → zR) : zR := match z_arr w ty r with
  | some (_, n, .inr (.inr (.inr (.inr f)))) => if ¬ (i < 0 ∨ n ≤ i.toNatClampNeg) then K (f i.toNatClampNeg) else none
  | _ => none
def z_stI (w : zW) (r : Option Nat) (i x : Int32) (K : zW → zR) : zR := match z_arr w .int r with
  | some (a, n, .inl f) => if ¬ (i < 0 ∨ n ≤ i.toNatClampNeg) then K (z_set w a (.inl (.int, n, .inl (upd f i.toNatClampNeg x)))) else none
  | _ => none
def z_stZ (w : zW) (r : Option Nat) (i x : Int32) (K : zW → zR) : zR := match z_arr w .boolean r with
  | some (a, n, .inl f) => if ¬ (i < 0 ∨ n ≤ i.toNatClampNeg) ∧ (x = 0 ∨ x = 1) then K (z_set w a (.inl (.boolean, n, .inl (upd f i.toNatClampNeg x)))) else none
  | _ => none
def z_stL (w : zW) (r : Option Nat) (i : Int32) (x : Int64) (K : zW → zR) : zR := match z_arr w .long r with
  | some (a, n, .inr (.inl f)) => if ¬ (i < 0 ∨ n ≤ i.toNatClampNeg) then K (z_set w a (.inl (.long, n, .inr (.inl (vp_updL f i.toNatClampNeg x))))) else none
  | _ => none
/-- a reference into an array: null, or an object of the class cj, which the array takes -/
def z_stR (w : zW) (ty : FieldType) (cj : Nat) (r : Option Nat) (i : Int32) (v : Option Nat) (K : zW → zR) : zR := match z_arr w ty r with
  | some (a, n, .inr (.inr (.inr (.inr f)))) => if ¬ (i < 0 ∨ n ≤ i.toNatClampNeg) ∧ (v = none ∨ (z_obj w cj v).isSome = true) then K (z_set w a (.inl (ty, n, .inr (.inr (.inr (.inr (va_up f i.toNatClampNeg v))))))) else none
  | _ => none
/-- a receiver: an object of that class -/
def z_this (w : zW) (ci : Nat) (r : Option Nat) (K : zR) : zR := match z_obj w ci r with
  | some _ => K
  | none => none
/-- what a call answered; what it threw goes on -/
def z_cI (x : zR) (K : Int32 → zW → zR) : zR := match x with
  | some (.inl (some (.int v)), w) => K v w
  | some (.inr a, w) => some (.inr a, w)
  | _ => none
def z_cL (x : zR) (K : Int64 → zW → zR) : zR := match x with
  | some (.inl (some (.long v)), w) => K v w
  | some (.inr a, w) => some (.inr a, w)
  | _ => none
def z_cR (x : zR) (K : Option Nat → zW → zR) : zR := match x with
  | some (.inl (some .null), w) => K none w
  | some (.inl (some (.ref a)), w) => K (some a) w
  | some (.inr a, w) => some (.inr a, w)
  | _ => none
def z_cV (x : zR) (K : zW → zR) : zR := match x with
  | some (.inl none, w) => K w
  | some (.inr a, w) => some (.inr a, w)
  | _ => none
/-- a new exception of the class ci is thrown -/
def z_thr (w : zW) (ci : Nat) : zR := if 1 ≤ w.2.1 ∧ 6 ≤ w.2.2.1 then some (.inr w.1, z_push w 6 (.inr (ci, []))) else none
