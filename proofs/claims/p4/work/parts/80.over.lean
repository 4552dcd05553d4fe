/-! The static heap: the objects that are made once, at B, B + 1 .., as a state of ints, longs and references by offset and field. -/
abbrev zS : Type := (Nat → Nat → Int32) × (Nat → Nat → Int64) × (Nat → Nat → Option Nat)
def o_I (σ : zS) (o f : Nat) (x : Int32) : zS := (fun a b => if a = o ∧ b = f then x else σ.1 a b, σ.2)
def o_L (σ : zS) (o f : Nat) (x : Int64) : zS := (σ.1, fun a b => if a = o ∧ b = f then x else σ.2.1 a b, σ.2.2)
def o_R (σ : zS) (o f : Nat) (x : Option Nat) : zS := (σ.1, σ.2.1, fun a b => if a = o ∧ b = f then x else σ.2.2 a b)
abbrev zK : Type := Nat → Option (Nat ⊕ Nat)
/-- an ArrayList's array: the one that all empty lists share, or one of ours -/
def o_E (B X : Nat) (e : Option Nat) : Nat := match e with
  | none => X
  | some o => B + o
def o_cell (B X : Nat) (fI : Nat → Int32) (fL : Nat → Int64) (fR : Nat → Option Nat) : Nat → zOb
  | 0 => .inr (0, [.ref (B + 1), .ref (B + 26), .ref (B + 29), .ref (B + 30), .int (fI 4), .int (fI 5), .int (fI 6), .int (fI 7), .int (fI 8)])
  | 1 => .inl (.object "AckBook$Space", 3, .inr (.inr (.inr (.inr fun j => if j < 3 then some (B + (2 + 8 * j)) else none))))
  | 2 => .inr (1, [.int (Int32.ofNat 0), .ref (B + 3), .ref (B + 7), .int (fI 3)])
  | 3 => .inr (2, [.ref (B + 4), .ref (B + 5), .ref (B + 6), .int (fI 3), .int (fI 4), .int (fI 5), .int (fI 6), .int (fI 7)])
  | 4 => .inr (3, [va_rf ((fR 0).map (B + ·)), va_rf ((fR 1).map (B + ·))])
  | 5 => .inr (3, [va_rf ((fR 0).map (B + ·)), va_rf ((fR 1).map (B + ·))])
  | 6 => .inr (4, [.ref (o_E B X (fR 0)), .int (fI 1), .int (fI 2)])
  | 7 => .inr (5, [.ref (B + 8), .ref (B + 9), .int (fI 2), .long (fL 3), .int (fI 4), .int (fI 5), .int (fI 6), .int (fI 7)])
  | 8 => .inl (.long, 65, .inr (.inl fL))
  | 9 => .inl (.long, 65, .inr (.inl fL))
  | 10 => .inr (1, [.int (Int32.ofNat 1), .ref (B + 11), .ref (B + 15), .int (fI 3)])
  | 11 => .inr (2, [.ref (B + 12), .ref (B + 13), .ref (B + 14), .int (fI 3), .int (fI 4), .int (fI 5), .int (fI 6), .int (fI 7)])
  | 12 => .inr (3, [va_rf ((fR 0).map (B + ·)), va_rf ((fR 1).map (B + ·))])
  | 13 => .inr (3, [va_rf ((fR 0).map (B + ·)), va_rf ((fR 1).map (B + ·))])
  | 14 => .inr (4, [.ref (o_E B X (fR 0)), .int (fI 1), .int (fI 2)])
  | 15 => .inr (5, [.ref (B + 16), .ref (B + 17), .int (fI 2), .long (fL 3), .int (fI 4), .int (fI 5), .int (fI 6), .int (fI 7)])
  | 16 => .inl (.long, 65, .inr (.inl fL))
  | 17 => .inl (.long, 65, .inr (.inl fL))
  | 18 => .inr (1, [.int (Int32.ofNat 2), .ref (B + 19), .ref (B + 23), .int (fI 3)])
  | 19 => .inr (2, [.ref (B + 20), .ref (B + 21), .ref (B + 22), .int (fI 3), .int (fI 4), .int (fI 5), .int (fI 6), .int (fI 7)])
  | 20 => .inr (3, [va_rf ((fR 0).map (B + ·)), va_rf ((fR 1).map (B + ·))])
  | 21 => .inr (3, [va_rf ((fR 0).map (B + ·)), va_rf ((fR 1).map (B + ·))])
  | 22 => .inr (4, [.ref (o_E B X (fR 0)), .int (fI 1), .int (fI 2)])
  | 23 => .inr (5, [.ref (B + 24), .ref (B + 25), .int (fI 2), .long (fL 3), .int (fI 4), .int (fI 5), .int (fI 6), .int (fI 7)])
  | 24 => .inl (.long, 65, .inr (.inl fL))
  | 25 => .inl (.long, 65, .inr (.inl fL))
  | 26 => .inr (6, [.ref (B + 27), .ref (B + 28), .int (fI 2), .int (fI 3)])
  | 27 => .inl (.long, 64, .inr (.inl fL))
  | 28 => .inl (.long, 64, .inr (.inl fL))
  | 29 => .inr (7, [.int (fI 0), .int (fI 1), .int (fI 2), .int (fI 3), .int (fI 4)])
  | 30 => .inr (8, [.int (fI 0), .int (fI 1), .int (fI 2), .int (fI 3)])
  | 31 => .inr (10, [.int (fI 0), .int (fI 1), .int (fI 2), .int (fI 3), .ref (B + 32), .ref (B + 33), .ref (B + 34), .ref (B + 35), .ref (B + 36), .ref (B + 37), .ref (B + 38), .ref (B + 39), .ref (B + 40), .ref (B + 41), .int (fI 14), .ref (B + 42), .ref (B + 43), .ref (B + 44), .int (fI 18), .int (fI 19), .int (fI 20), .int (fI 21), .int (fI 22), .int (fI 23), .int (fI 24), .int (fI 25), .int (fI 26), .int (fI 27), .ref (B + 45), .ref (B + 46), .ref (B + 47), .ref (B + 48), .ref (B + 49), .ref (B + 50), .ref (B + 51), .ref (B + 52), .ref (B + 53), .ref (B + 54)])
  | 32 => .inl (.int, 3, .inl fI)
  | 33 => .inl (.int, 12288, .inl fI)
  | 34 => .inl (.int, 12288, .inl fI)
  | 35 => .inl (.int, 12288, .inl fI)
  | 36 => .inl (.boolean, 12288, .inl fI)
  | 37 => .inl (.boolean, 12288, .inl fI)
  | 38 => .inl (.boolean, 12288, .inl fI)
  | 39 => .inl (.boolean, 3, .inl fI)
  | 40 => .inl (.int, 3, .inl fI)
  | 41 => .inl (.int, 3, .inl fI)
  | 42 => .inl (.int, 24576, .inl fI)
  | 43 => .inl (.int, 6, .inl fI)
  | 44 => .inl (.int, 6, .inl fI)
  | 45 => .inl (.long, 64, .inr (.inl fL))
  | 46 => .inl (.long, 64, .inr (.inl fL))
  | 47 => .inl (.int, 3, .inl fI)
  | 48 => .inl (.long, 195, .inr (.inl fL))
  | 49 => .inl (.long, 195, .inr (.inl fL))
  | 50 => .inl (.long, 3, .inr (.inl fL))
  | 51 => .inl (.int, 3, .inl fI)
  | 52 => .inl (.int, 3, .inl fI)
  | 53 => .inl (.int, 3, .inl fI)
  | 54 => .inl (.boolean, 3, .inl fI)
  | _ => .inl (.long, 1, .inr (.inl fL))
/-- what is made later: packets, exceptions, lists' arrays -/
def o_dyn (B : Nat) (fI : Nat → Int32) (fR : Nat → Option Nat) (t : Option (Nat ⊕ Nat)) : Option zOb := match t with
  | some (.inl ci) => some (.inr (ci, if ci = 9 then [.int (fI 0), .int (fI 1), .int (fI 2), .int (fI 3), .int (fI 4), .int (fI 5), .int (fI 6), va_rf ((fR 7).map (B + ·))] else []))
  | some (.inr cap) => some (.inl (.object "java/lang/Object", cap, .inr (.inr (.inr (.inr fun j => (fR j).map (B + ·))))))
  | none => none
def o_pic (B X : Nat) (σ : zS) (o : Nat) : zOb := o_cell B X (σ.1 o) (σ.2.1 o) (σ.2.2 o) o
def o_any (B X : Nat) (τ : zK) (σ : zS) (o : Nat) : Option zOb := if o < 56 then some (o_pic B X σ o) else o_dyn B (σ.1 o) (σ.2.2 o) (τ o)
def o_w (B X : Nat) (τ : zK) (σ : zS) (n c s : Nat) : zW := (B + n, c, s, fun a => if a < B then (if a = X then some (.inl (.object "java/lang/Object", 0, .inr (.inr (.inr (.inr fun _ => none))))) else none) else o_any B X τ σ (a - B))
section OW
variable {B X : Nat} {τ : zK} {σ : zS} {n c s : Nat} {K : zW → zR}
theorem o_ata (k : Nat) : (o_w B X τ σ n c s).2.2.2 (B + k) = o_any B X τ σ k := by
  simp only [o_w]
  rw [if_neg (by omega), Nat.add_sub_cancel_left]
theorem o_at {k : Nat} (h : k < 56) : (o_w B X τ σ n c s).2.2.2 (B + k) = some (o_pic B X σ k) := by
  rw [o_ata, o_any, if_pos h]
theorem o_dat {k : Nat} (h : 56 ≤ k) : (o_w B X τ σ n c s).2.2.2 (B + k) = o_dyn B (σ.1 k) (σ.2.2 k) (τ k) := by
  rw [o_ata, o_any, if_neg (by omega)]
theorem o_setA {τ' : zK} {σ' : zS} {k : Nat} {e : zOb} (he : o_any B X τ' σ' k = some e) (hn : ∀ j, j ≠ k → o_any B X τ' σ' j = o_any B X τ σ j) : z_set (o_w B X τ σ n c s) (B + k) e = o_w B X τ' σ' n c s := by
  simp only [z_set, o_w]
  congr
  funext a
  by_cases ha : a = B + k
  · subst ha
    rw [if_pos rfl, if_neg (by omega), Nat.add_sub_cancel_left, he]
  · rw [if_neg ha]
    split
    · rfl
    · rw [hn]
      omega
theorem o_pushA {τ' : zK} {σ' : zS} {m : Nat} {e : zOb} (he : o_any B X τ' σ' n = some e) (hn : ∀ j, j ≠ n → o_any B X τ' σ' j = o_any B X τ σ j) : z_push (o_w B X τ σ n c s) m e = o_w B X τ' σ' (n + 1) (c - 1) (s - m) := by
  have key : (fun b => if b = B + n then some e else (o_w B X τ σ n c s).2.2.2 b) = (o_w B X τ' σ' (n + 1) (c - 1) (s - m)).2.2.2 := by
    funext a
    by_cases ha : a = B + n
    · subst ha
      rw [if_pos rfl, o_ata, he]
    · rw [if_neg ha]
      by_cases hb : a < B
      · simp only [o_w, if_pos hb]
      · obtain ⟨k, rfl⟩ : ∃ k, a = B + k := ⟨a - B, by omega⟩
        rw [o_ata, o_ata, hn]
        omega
  exact congrArg (fun f => ((B + n + 1, c - 1, s - m, f) : zW)) key
theorem o_I_ne {o f j : Nat} {x : Int32} (h : j ≠ o) : o_any B X τ (o_I σ o f x) j = o_any B X τ σ j := by
  have e : (o_I σ o f x).1 j = σ.1 j := by funext b; simp [o_I, h]
  simp only [o_any, o_pic, e]
  rfl
theorem o_L_ne {o f j : Nat} {x : Int64} (h : j ≠ o) : o_any B X τ (o_L σ o f x) j = o_any B X τ σ j := by
  have e : (o_L σ o f x).2.1 j = σ.2.1 j := by funext b; simp [o_L, h]
  simp only [o_any, o_pic, e]
  rfl
theorem o_R_ne {o f j : Nat} {x : Option Nat} (h : j ≠ o) : o_any B X τ (o_R σ o f x) j = o_any B X τ σ j := by
  have e : (o_R σ o f x).2.2 j = σ.2.2 j := by funext b; simp [o_R, h]
  simp only [o_any, o_pic, e]
  rfl
theorem o_I_eq {o f : Nat} {x : Int32} : o_pic B X (o_I σ o f x) o = o_cell B X (fun b => if b = f then x else σ.1 o b) (σ.2.1 o) (σ.2.2 o) o := by
  have e : (o_I σ o f x).1 o = fun b => if b = f then x else σ.1 o b := by funext b; simp [o_I]
  simp only [o_pic, e]
  rfl
theorem o_L_eq {o f : Nat} {x : Int64} : o_pic B X (o_L σ o f x) o = o_cell B X (σ.1 o) (fun b => if b = f then x else σ.2.1 o b) (σ.2.2 o) o := by
  have e : (o_L σ o f x).2.1 o = fun b => if b = f then x else σ.2.1 o b := by funext b; simp [o_L]
  simp only [o_pic, e]
  rfl
theorem o_R_eq {o f : Nat} {x : Option Nat} : o_pic B X (o_R σ o f x) o = o_cell B X (σ.1 o) (σ.2.1 o) (fun b => if b = f then x else σ.2.2 o b) o := by
  have e : (o_R σ o f x).2.2 o = fun b => if b = f then x else σ.2.2 o b := by funext b; simp [o_R]
  simp only [o_pic, e]
  rfl
theorem o_set {σ' : zS} {k : Nat} {e : zOb} (h : k < 56) (he : o_pic B X σ' k = e) (hn : ∀ j, j ≠ k → o_any B X τ σ' j = o_any B X τ σ j) : z_set (o_w B X τ σ n c s) (B + k) e = o_w B X τ σ' n c s :=
  o_setA (by rw [o_any, if_pos h, he]) hn
theorem o_obj {k ci : Nat} {fs : List Value} (h : k < 56) (hp : o_pic B X σ k = .inr (ci, fs)) : z_obj (o_w B X τ σ n c s) ci (some (B + k)) = some (B + k, fs) := by
  simp only [z_obj, o_at h, hp, if_pos]
theorem o_arr {k : Nat} {ty : FieldType} {x : vp_A} (h : k < 56) (hp : o_pic B X σ k = .inl (ty, x)) : z_arr (o_w B X τ σ n c s) ty (some (B + k)) = some (B + k, x) := by
  simp only [z_arr, o_at h, hp, if_pos]
theorem o_gI {k ci f : Nat} {fs : List Value} {x : Int32} {K : Int32 → zR} (h : k < 56) (hp : o_pic B X σ k = .inr (ci, fs)) (hf : fs[f]? = some (.int x)) : z_getI (o_w B X τ σ n c s) ci f (some (B + k)) K = K x := by
  simp only [z_getI, o_obj h hp, hf]
theorem o_gL {k ci f : Nat} {fs : List Value} {x : Int64} {K : Int64 → zR} (h : k < 56) (hp : o_pic B X σ k = .inr (ci, fs)) (hf : fs[f]? = some (.long x)) : z_getL (o_w B X τ σ n c s) ci f (some (B + k)) K = K x := by
  simp only [z_getL, o_obj h hp, hf]
theorem o_gR {k ci f : Nat} {fs : List Value} {x : Option Nat} {K : Option Nat → zR} (h : k < 56) (hp : o_pic B X σ k = .inr (ci, fs)) (hf : fs[f]? = some (va_rf x)) : z_getR (o_w B X τ σ n c s) ci f (some (B + k)) K = K x := by
  cases x with
  | none => simp only [z_getR, o_obj h hp, hf, va_rf]
  | some y => simp only [z_getR, o_obj h hp, hf, va_rf]
theorem o_this {k ci : Nat} {fs : List Value} {K : zR} (h : k < 56) (hp : o_pic B X σ k = .inr (ci, fs)) : z_this (o_w B X τ σ n c s) ci (some (B + k)) K = K := by
  simp only [z_this, o_obj h hp]
theorem o_put {k ci f : Nat} {fs : List Value} {v : Value} {σ' : zS} (h : k < 56) (hp : o_pic B X σ k = .inr (ci, fs)) (hf : f < fs.length) (he : o_pic B X σ' k = .inr (ci, fs.set f v)) (hn : ∀ j, j ≠ k → o_any B X τ σ' j = o_any B X τ σ j) : z_put (o_w B X τ σ n c s) ci f (some (B + k)) v K = K (o_w B X τ σ' n c s) := by
  simp only [z_put, o_obj h hp, if_pos hf, o_set h he hn]
theorem o_ldI {k N : Nat} {ty : FieldType} {f : Nat → Int32} {i : Int32} {K : Int32 → zR} (h : k < 56) (hp : o_pic B X σ k = .inl (ty, N, .inl f)) : z_ldI (o_w B X τ σ n c s) ty (some (B + k)) i K = if ¬ (i < 0 ∨ N ≤ i.toNatClampNeg) then K (f i.toNatClampNeg) else none := by
  simp only [z_ldI, o_arr h hp]
theorem o_ldL {k N : Nat} {f : Nat → Int64} {i : Int32} {K : Int64 → zR} (h : k < 56) (hp : o_pic B X σ k = .inl (.long, N, .inr (.inl f))) : z_ldL (o_w B X τ σ n c s) (some (B + k)) i K = if ¬ (i < 0 ∨ N ≤ i.toNatClampNeg) then K (f i.toNatClampNeg) else none := by
  simp only [z_ldL, o_arr h hp]
theorem o_stI {k N : Nat} {f : Nat → Int32} {i x : Int32} (h : k < 56) (hp : o_pic B X σ k = .inl (.int, N, .inl f)) (he : ∀ q, o_pic B X (o_I σ k q x) k = .inl (.int, N, .inl (upd f q x))) : z_stI (o_w B X τ σ n c s) (some (B + k)) i x K = if ¬ (i < 0 ∨ N ≤ i.toNatClampNeg) then K (o_w B X τ (o_I σ k i.toNatClampNeg x) n c s) else none := by
  simp only [z_stI, o_arr h hp]
  split
  · rw [o_set h (he _) (fun j hj => o_I_ne hj)]
  · rfl
theorem o_stZ {k N : Nat} {f : Nat → Int32} {i x : Int32} (h : k < 56) (hp : o_pic B X σ k = .inl (.boolean, N, .inl f)) (he : ∀ q, o_pic B X (o_I σ k q x) k = .inl (.boolean, N, .inl (upd f q x))) : z_stZ (o_w B X τ σ n c s) (some (B + k)) i x K = if ¬ (i < 0 ∨ N ≤ i.toNatClampNeg) ∧ (x = 0 ∨ x = 1) then K (o_w B X τ (o_I σ k i.toNatClampNeg x) n c s) else none := by
  simp only [z_stZ, o_arr h hp]
  split
  · rw [o_set h (he _) (fun j hj => o_I_ne hj)]
  · rfl
theorem o_stL {k N : Nat} {f : Nat → Int64} {i : Int32} {x : Int64} (h : k < 56) (hp : o_pic B X σ k = .inl (.long, N, .inr (.inl f))) (he : ∀ q, o_pic B X (o_L σ k q x) k = .inl (.long, N, .inr (.inl (vp_updL f q x)))) : z_stL (o_w B X τ σ n c s) (some (B + k)) i x K = if ¬ (i < 0 ∨ N ≤ i.toNatClampNeg) then K (o_w B X τ (o_L σ k i.toNatClampNeg x) n c s) else none := by
  simp only [z_stL, o_arr h hp]
  split
  · rw [o_set h (he _) (fun j hj => o_L_ne hj)]
  · rfl
theorem o_len {k : Nat} {ty : FieldType} {x : vp_A} {K : Int32 → zR} (h : k < 56) (hp : o_pic B X σ k = .inl (ty, x)) : z_len (o_w B X τ σ n c s) (some (B + k)) K = K (Int32.ofNat x.1) := by
  simp only [z_len, o_at h, hp]
end OW
theorem o_c2 {B X k : Nat} {fI : Nat → Int32} {fL : Nat → Int64} {fR : Nat → Option Nat} (hk : k < 3) : o_cell B X fI fL fR (2 + 8 * k) = .inr (1, [.int (Int32.ofNat k), .ref (B + (3 + 8 * k)), .ref (B + (7 + 8 * k)), .int (fI 3)]) := by
  match k, hk with
  | 0, _ => rfl
  | 1, _ => rfl
  | 2, _ => rfl
theorem o_c3 {B X k : Nat} {fI : Nat → Int32} {fL : Nat → Int64} {fR : Nat → Option Nat} (hk : k < 3) : o_cell B X fI fL fR (3 + 8 * k) = .inr (2, [.ref (B + (4 + 8 * k)), .ref (B + (5 + 8 * k)), .ref (B + (6 + 8 * k)), .int (fI 3), .int (fI 4), .int (fI 5), .int (fI 6), .int (fI 7)]) := by
  match k, hk with
  | 0, _ => rfl
  | 1, _ => rfl
  | 2, _ => rfl
theorem o_c4 {B X k : Nat} {fI : Nat → Int32} {fL : Nat → Int64} {fR : Nat → Option Nat} (hk : k < 3) : o_cell B X fI fL fR (4 + 8 * k) = .inr (3, [va_rf ((fR 0).map (B + ·)), va_rf ((fR 1).map (B + ·))]) := by
  match k, hk with
  | 0, _ => rfl
  | 1, _ => rfl
  | 2, _ => rfl
theorem o_c5 {B X k : Nat} {fI : Nat → Int32} {fL : Nat → Int64} {fR : Nat → Option Nat} (hk : k < 3) : o_cell B X fI fL fR (5 + 8 * k) = .inr (3, [va_rf ((fR 0).map (B + ·)), va_rf ((fR 1).map (B + ·))]) := by
  match k, hk with
  | 0, _ => rfl
  | 1, _ => rfl
  | 2, _ => rfl
theorem o_c6 {B X k : Nat} {fI : Nat → Int32} {fL : Nat → Int64} {fR : Nat → Option Nat} (hk : k < 3) : o_cell B X fI fL fR (6 + 8 * k) = .inr (4, [.ref (o_E B X (fR 0)), .int (fI 1), .int (fI 2)]) := by
  match k, hk with
  | 0, _ => rfl
  | 1, _ => rfl
  | 2, _ => rfl
theorem o_c7 {B X k : Nat} {fI : Nat → Int32} {fL : Nat → Int64} {fR : Nat → Option Nat} (hk : k < 3) : o_cell B X fI fL fR (7 + 8 * k) = .inr (5, [.ref (B + (8 + 8 * k)), .ref (B + (9 + 8 * k)), .int (fI 2), .long (fL 3), .int (fI 4), .int (fI 5), .int (fI 6), .int (fI 7)]) := by
  match k, hk with
  | 0, _ => rfl
  | 1, _ => rfl
  | 2, _ => rfl
theorem o_c8 {B X k : Nat} {fI : Nat → Int32} {fL : Nat → Int64} {fR : Nat → Option Nat} (hk : k < 3) : o_cell B X fI fL fR (8 + 8 * k) = .inl (.long, 65, .inr (.inl fL)) := by
  match k, hk with
  | 0, _ => rfl
  | 1, _ => rfl
  | 2, _ => rfl
theorem o_c9 {B X k : Nat} {fI : Nat → Int32} {fL : Nat → Int64} {fR : Nat → Option Nat} (hk : k < 3) : o_cell B X fI fL fR (9 + 8 * k) = .inl (.long, 65, .inr (.inl fL)) := by
  match k, hk with
  | 0, _ => rfl
  | 1, _ => rfl
  | 2, _ => rfl
theorem ot_0 {B X : Nat} {τ : zK} {σ : zS} {n c s : Nat} : ∀ K : zR, z_this (o_w B X τ σ n c s) 0 (some (B + 0)) K = K := fun _ => o_this (by decide) rfl
theorem or_0_0 {B X : Nat} {τ : zK} {σ : zS} {n c s : Nat} : ∀ K : Option Nat → zR, z_getR (o_w B X τ σ n c s) 0 0 (some (B + 0)) K = K (some (B + 1)) := fun _ => o_gR (x := some (B + 1)) (by decide) rfl rfl
theorem or_0_1 {B X : Nat} {τ : zK} {σ : zS} {n c s : Nat} : ∀ K : Option Nat → zR, z_getR (o_w B X τ σ n c s) 0 1 (some (B + 0)) K = K (some (B + 26)) := fun _ => o_gR (x := some (B + 26)) (by decide) rfl rfl
theorem or_0_2 {B X : Nat} {τ : zK} {σ : zS} {n c s : Nat} : ∀ K : Option Nat → zR, z_getR (o_w B X τ σ n c s) 0 2 (some (B + 0)) K = K (some (B + 29)) := fun _ => o_gR (x := some (B + 29)) (by decide) rfl rfl
theorem or_0_3 {B X : Nat} {τ : zK} {σ : zS} {n c s : Nat} : ∀ K : Option Nat → zR, z_getR (o_w B X τ σ n c s) 0 3 (some (B + 0)) K = K (some (B + 30)) := fun _ => o_gR (x := some (B + 30)) (by decide) rfl rfl
theorem oi_0_4 {B X : Nat} {τ : zK} {σ : zS} {n c s : Nat} : ∀ K : Int32 → zR, z_getI (o_w B X τ σ n c s) 0 4 (some (B + 0)) K = K (σ.1 0 4) := fun _ => o_gI (by decide) rfl rfl
theorem op_0_4 {B X : Nat} {τ : zK} {σ : zS} {n c s : Nat} : ∀ (x : Int32) (K : zW → zR), z_put (o_w B X τ σ n c s) 0 4 (some (B + 0)) (.int x) K = K (o_w B X τ (o_I σ 0 4 x) n c s) := fun _ _ => o_put (by decide) rfl (Nat.le_of_ble_eq_true rfl) (o_I_eq.trans rfl) (fun _ h => o_I_ne h)
theorem oi_0_5 {B X : Nat} {τ : zK} {σ : zS} {n c s : Nat} : ∀ K : Int32 → zR, z_getI (o_w B X τ σ n c s) 0 5 (some (B + 0)) K = K (σ.1 0 5) := fun _ => o_gI (by decide) rfl rfl
theorem op_0_5 {B X : Nat} {τ : zK} {σ : zS} {n c s : Nat} : ∀ (x : Int32) (K : zW → zR), z_put (o_w B X τ σ n c s) 0 5 (some (B + 0)) (.int x) K = K (o_w B X τ (o_I σ 0 5 x) n c s) := fun _ _ => o_put (by decide) rfl (Nat.le_of_ble_eq_true rfl) (o_I_eq.trans rfl) (fun _ h => o_I_ne h)
theorem oi_0_6 {B X : Nat} {τ : zK} {σ : zS} {n c s : Nat} : ∀ K : Int32 → zR, z_getI (o_w B X τ σ n c s) 0 6 (some (B + 0)) K = K (σ.1 0 6) := fun _ => o_gI (by decide) rfl rfl
theorem op_0_6 {B X : Nat} {τ : zK} {σ : zS} {n c s : Nat} : ∀ (x : Int32) (K : zW → zR), z_put (o_w B X τ σ n c s) 0 6 (some (B + 0)) (.int x) K = K (o_w B X τ (o_I σ 0 6 x) n c s) := fun _ _ => o_put (by decide) rfl (Nat.le_of_ble_eq_true rfl) (o_I_eq.trans rfl) (fun _ h => o_I_ne h)
theorem oi_0_7 {B X : Nat} {τ : zK} {σ : zS} {n c s : Nat} : ∀ K : Int32 → zR, z_getI (o_w B X τ σ n c s) 0 7 (some (B + 0)) K = K (σ.1 0 7) := fun _ => o_gI (by decide) rfl rfl
theorem op_0_7 {B X : Nat} {τ : zK} {σ : zS} {n c s : Nat} : ∀ (x : Int32) (K : zW → zR), z_put (o_w B X τ σ n c s) 0 7 (some (B + 0)) (.int x) K = K (o_w B X τ (o_I σ 0 7 x) n c s) := fun _ _ => o_put (by decide) rfl (Nat.le_of_ble_eq_true rfl) (o_I_eq.trans rfl) (fun _ h => o_I_ne h)
theorem oz_0_7 {B X : Nat} {τ : zK} {σ : zS} {n c s : Nat} : ∀ (x : Int32) (K : zW → zR), z_putZ (o_w B X τ σ n c s) 0 7 (some (B + 0)) x K = if x = 0 ∨ x = 1 then K (o_w B X τ (o_I σ 0 7 x) n c s) else none := fun x K => by unfold z_putZ; rw [op_0_7]
theorem oi_0_8 {B X : Nat} {τ : zK} {σ : zS} {n c s : Nat} : ∀ K : Int32 → zR, z_getI (o_w B X τ σ n c s) 0 8 (some (B + 0)) K = K (σ.1 0 8) := fun _ => o_gI (by decide) rfl rfl
theorem op_0_8 {B X : Nat} {τ : zK} {σ : zS} {n c s : Nat} : ∀ (x : Int32) (K : zW → zR), z_put (o_w B X τ σ n c s) 0 8 (some (B + 0)) (.int x) K = K (o_w B X τ (o_I σ 0 8 x) n c s) := fun _ _ => o_put (by decide) rfl (Nat.le_of_ble_eq_true rfl) (o_I_eq.trans rfl) (fun _ h => o_I_ne h)
theorem oz_0_8 {B X : Nat} {τ : zK} {σ : zS} {n c s : Nat} : ∀ (x : Int32) (K : zW → zR), z_putZ (o_w B X τ σ n c s) 0 8 (some (B + 0)) x K = if x = 0 ∨ x = 1 then K (o_w B X τ (o_I σ 0 8 x) n c s) else none := fun x K => by unfold z_putZ; rw [op_0_8]
theorem ot_s2 {B X : Nat} {τ : zK} {σ : zS} {n c s : Nat} {k : Nat} (hk : k < 3) : ∀ K : zR, z_this (o_w B X τ σ n c s) 1 (some (B + (2 + 8 * k))) K = K := fun _ => o_this (by omega) (o_c2 hk)
theorem oi_s2_0 {B X : Nat} {τ : zK} {σ : zS} {n c s : Nat} {k : Nat} (hk : k < 3) : ∀ K : Int32 → zR, z_getI (o_w B X τ σ n c s) 1 0 (some (B + (2 + 8 * k))) K = K (Int32.ofNat k) := fun _ => o_gI (by omega) (o_c2 hk) rfl
theorem or_s2_1 {B X : Nat} {τ : zK} {σ : zS} {n c s : Nat} {k : Nat} (hk : k < 3) : ∀ K : Option Nat → zR, z_getR (o_w B X τ σ n c s) 1 1 (some (B + (2 + 8 * k))) K = K (some (B + (3 + 8 * k))) := fun _ => o_gR (x := some (B + (3 + 8 * k))) (by omega) (o_c2 hk) rfl
theorem or_s2_2 {B X : Nat} {τ : zK} {σ : zS} {n c s : Nat} {k : Nat} (hk : k < 3) : ∀ K : Option Nat → zR, z_getR (o_w B X τ σ n c s) 1 2 (some (B + (2 + 8 * k))) K = K (some (B + (7 + 8 * k))) := fun _ => o_gR (x := some (B + (7 + 8 * k))) (by omega) (o_c2 hk) rfl
theorem oi_s2_3 {B X : Nat} {τ : zK} {σ : zS} {n c s : Nat} {k : Nat} (hk : k < 3) : ∀ K : Int32 → zR, z_getI (o_w B X τ σ n c s) 1 3 (some (B + (2 + 8 * k))) K = K (σ.1 (2 + 8 * k) 3) := fun _ => o_gI (by omega) (o_c2 hk) rfl
theorem op_s2_3 {B X : Nat} {τ : zK} {σ : zS} {n c s : Nat} {k : Nat} (hk : k < 3) : ∀ (x : Int32) (K : zW → zR), z_put (o_w B X τ σ n c s) 1 3 (some (B + (2 + 8 * k))) (.int x) K = K (o_w B X τ (o_I σ (2 + 8 * k) 3 x) n c s) := fun _ _ => o_put (by omega) (o_c2 hk) (Nat.le_of_ble_eq_true rfl) (o_I_eq.trans (o_c2 hk)) (fun _ h => o_I_ne h)
theorem oz_s2_3 {B X : Nat} {τ : zK} {σ : zS} {n c s : Nat} {k : Nat} (hk : k < 3) : ∀ (x : Int32) (K : zW → zR), z_putZ (o_w B X τ σ n c s) 1 3 (some (B + (2 + 8 * k))) x K = if x = 0 ∨ x = 1 then K (o_w B X τ (o_I σ (2 + 8 * k) 3 x) n c s) else none := fun x K => by unfold z_putZ; rw [op_s2_3 hk]
theorem ot_s3 {B X : Nat} {τ : zK} {σ : zS} {n c s : Nat} {k : Nat} (hk : k < 3) : ∀ K : zR, z_this (o_w B X τ σ n c s) 2 (some (B + (3 + 8 * k))) K = K := fun _ => o_this (by omega) (o_c3 hk)
theorem or_s3_0 {B X : Nat} {τ : zK} {σ : zS} {n c s : Nat} {k : Nat} (hk : k < 3) : ∀ K : Option Nat → zR, z_getR (o_w B X τ σ n c s) 2 0 (some (B + (3 + 8 * k))) K = K (some (B + (4 + 8 * k))) := fun _ => o_gR (x := some (B + (4 + 8 * k))) (by omega) (o_c3 hk) rfl
theorem or_s3_1 {B X : Nat} {τ : zK} {σ : zS} {n c s : Nat} {k : Nat} (hk : k < 3) : ∀ K : Option Nat → zR, z_getR (o_w B X τ σ n c s) 2 1 (some (B + (3 + 8 * k))) K = K (some (B + (5 + 8 * k))) := fun _ => o_gR (x := some (B + (5 + 8 * k))) (by omega) (o_c3 hk) rfl
theorem or_s3_2 {B X : Nat} {τ : zK} {σ : zS} {n c s : Nat} {k : Nat} (hk : k < 3) : ∀ K : Option Nat → zR, z_getR (o_w B X τ σ n c s) 2 2 (some (B + (3 + 8 * k))) K = K (some (B + (6 + 8 * k))) := fun _ => o_gR (x := some (B + (6 + 8 * k))) (by omega) (o_c3 hk) rfl
theorem oi_s3_3 {B X : Nat} {τ : zK} {σ : zS} {n c s : Nat} {k : Nat} (hk : k < 3) : ∀ K : Int32 → zR, z_getI (o_w B X τ σ n c s) 2 3 (some (B + (3 + 8 * k))) K = K (σ.1 (3 + 8 * k) 3) := fun _ => o_gI (by omega) (o_c3 hk) rfl
theorem op_s3_3 {B X : Nat} {τ : zK} {σ : zS} {n c s : Nat} {k : Nat} (hk : k < 3) : ∀ (x : Int32) (K : zW → zR), z_put (o_w B X τ σ n c s) 2 3 (some (B + (3 + 8 * k))) (.int x) K = K (o_w B X τ (o_I σ (3 + 8 * k) 3 x) n c s) := fun _ _ => o_put (by omega) (o_c3 hk) (Nat.le_of_ble_eq_true rfl) (o_I_eq.trans (o_c3 hk)) (fun _ h => o_I_ne h)
theorem oi_s3_4 {B X : Nat} {τ : zK} {σ : zS} {n c s : Nat} {k : Nat} (hk : k < 3) : ∀ K : Int32 → zR, z_getI (o_w B X τ σ n c s) 2 4 (some (B + (3 + 8 * k))) K = K (σ.1 (3 + 8 * k) 4) := fun _ => o_gI (by omega) (o_c3 hk) rfl
theorem op_s3_4 {B X : Nat} {τ : zK} {σ : zS} {n c s : Nat} {k : Nat} (hk : k < 3) : ∀ (x : Int32) (K : zW → zR), z_put (o_w B X τ σ n c s) 2 4 (some (B + (3 + 8 * k))) (.int x) K = K (o_w B X τ (o_I σ (3 + 8 * k) 4 x) n c s) := fun _ _ => o_put (by omega) (o_c3 hk) (Nat.le_of_ble_eq_true rfl) (o_I_eq.trans (o_c3 hk)) (fun _ h => o_I_ne h)
theorem oi_s3_5 {B X : Nat} {τ : zK} {σ : zS} {n c s : Nat} {k : Nat} (hk : k < 3) : ∀ K : Int32 → zR, z_getI (o_w B X τ σ n c s) 2 5 (some (B + (3 + 8 * k))) K = K (σ.1 (3 + 8 * k) 5) := fun _ => o_gI (by omega) (o_c3 hk) rfl
theorem op_s3_5 {B X : Nat} {τ : zK} {σ : zS} {n c s : Nat} {k : Nat} (hk : k < 3) : ∀ (x : Int32) (K : zW → zR), z_put (o_w B X τ σ n c s) 2 5 (some (B + (3 + 8 * k))) (.int x) K = K (o_w B X τ (o_I σ (3 + 8 * k) 5 x) n c s) := fun _ _ => o_put (by omega) (o_c3 hk) (Nat.le_of_ble_eq_true rfl) (o_I_eq.trans (o_c3 hk)) (fun _ h => o_I_ne h)
theorem oi_s3_6 {B X : Nat} {τ : zK} {σ : zS} {n c s : Nat} {k : Nat} (hk : k < 3) : ∀ K : Int32 → zR, z_getI (o_w B X τ σ n c s) 2 6 (some (B + (3 + 8 * k))) K = K (σ.1 (3 + 8 * k) 6) := fun _ => o_gI (by omega) (o_c3 hk) rfl
theorem op_s3_6 {B X : Nat} {τ : zK} {σ : zS} {n c s : Nat} {k : Nat} (hk : k < 3) : ∀ (x : Int32) (K : zW → zR), z_put (o_w B X τ σ n c s) 2 6 (some (B + (3 + 8 * k))) (.int x) K = K (o_w B X τ (o_I σ (3 + 8 * k) 6 x) n c s) := fun _ _ => o_put (by omega) (o_c3 hk) (Nat.le_of_ble_eq_true rfl) (o_I_eq.trans (o_c3 hk)) (fun _ h => o_I_ne h)
theorem oi_s3_7 {B X : Nat} {τ : zK} {σ : zS} {n c s : Nat} {k : Nat} (hk : k < 3) : ∀ K : Int32 → zR, z_getI (o_w B X τ σ n c s) 2 7 (some (B + (3 + 8 * k))) K = K (σ.1 (3 + 8 * k) 7) := fun _ => o_gI (by omega) (o_c3 hk) rfl
theorem op_s3_7 {B X : Nat} {τ : zK} {σ : zS} {n c s : Nat} {k : Nat} (hk : k < 3) : ∀ (x : Int32) (K : zW → zR), z_put (o_w B X τ σ n c s) 2 7 (some (B + (3 + 8 * k))) (.int x) K = K (o_w B X τ (o_I σ (3 + 8 * k) 7 x) n c s) := fun _ _ => o_put (by omega) (o_c3 hk) (Nat.le_of_ble_eq_true rfl) (o_I_eq.trans (o_c3 hk)) (fun _ h => o_I_ne h)
theorem ot_s4 {B X : Nat} {τ : zK} {σ : zS} {n c s : Nat} {k : Nat} (hk : k < 3) : ∀ K : zR, z_this (o_w B X τ σ n c s) 3 (some (B + (4 + 8 * k))) K = K := fun _ => o_this (by omega) (o_c4 hk)
theorem or_s4_0 {B X : Nat} {τ : zK} {σ : zS} {n c s : Nat} {k : Nat} (hk : k < 3) : ∀ K : Option Nat → zR, z_getR (o_w B X τ σ n c s) 3 0 (some (B + (4 + 8 * k))) K = K ((σ.2.2 (4 + 8 * k) 0).map (B + ·)) := fun _ => o_gR (by omega) (o_c4 hk) rfl
theorem opr_s4_0 {B X : Nat} {τ : zK} {σ : zS} {n c s : Nat} {k : Nat} (hk : k < 3) : ∀ (x : Option Nat) (K : zW → zR), z_put (o_w B X τ σ n c s) 3 0 (some (B + (4 + 8 * k))) (va_rf (x.map (B + ·))) K = K (o_w B X τ (o_R σ (4 + 8 * k) 0 x) n c s) := fun _ _ => o_put (by omega) (o_c4 hk) (Nat.le_of_ble_eq_true rfl) (o_R_eq.trans (o_c4 hk)) (fun _ h => o_R_ne h)
theorem or_s4_1 {B X : Nat} {τ : zK} {σ : zS} {n c s : Nat} {k : Nat} (hk : k < 3) : ∀ K : Option Nat → zR, z_getR (o_w B X τ σ n c s) 3 1 (some (B + (4 + 8 * k))) K = K ((σ.2.2 (4 + 8 * k) 1).map (B + ·)) := fun _ => o_gR (by omega) (o_c4 hk) rfl
theorem opr_s4_1 {B X : Nat} {τ : zK} {σ : zS} {n c s : Nat} {k : Nat} (hk : k < 3) : ∀ (x : Option Nat) (K : zW → zR), z_put (o_w B X τ σ n c s) 3 1 (some (B + (4 + 8 * k))) (va_rf (x.map (B + ·))) K = K (o_w B X τ (o_R σ (4 + 8 * k) 1 x) n c s) := fun _ _ => o_put (by omega) (o_c4 hk) (Nat.le_of_ble_eq_true rfl) (o_R_eq.trans (o_c4 hk)) (fun _ h => o_R_ne h)
theorem ot_s5 {B X : Nat} {τ : zK} {σ : zS} {n c s : Nat} {k : Nat} (hk : k < 3) : ∀ K : zR, z_this (o_w B X τ σ n c s) 3 (some (B + (5 + 8 * k))) K = K := fun _ => o_this (by omega) (o_c5 hk)
theorem or_s5_0 {B X : Nat} {τ : zK} {σ : zS} {n c s : Nat} {k : Nat} (hk : k < 3) : ∀ K : Option Nat → zR, z_getR (o_w B X τ σ n c s) 3 0 (some (B + (5 + 8 * k))) K = K ((σ.2.2 (5 + 8 * k) 0).map (B + ·)) := fun _ => o_gR (by omega) (o_c5 hk) rfl
theorem opr_s5_0 {B X : Nat} {τ : zK} {σ : zS} {n c s : Nat} {k : Nat} (hk : k < 3) : ∀ (x : Option Nat) (K : zW → zR), z_put (o_w B X τ σ n c s) 3 0 (some (B + (5 + 8 * k))) (va_rf (x.map (B + ·))) K = K (o_w B X τ (o_R σ (5 + 8 * k) 0 x) n c s) := fun _ _ => o_put (by omega) (o_c5 hk) (Nat.le_of_ble_eq_true rfl) (o_R_eq.trans (o_c5 hk)) (fun _ h => o_R_ne h)
theorem or_s5_1 {B X : Nat} {τ : zK} {σ : zS} {n c s : Nat} {k : Nat} (hk : k < 3) : ∀ K : Option Nat → zR, z_getR (o_w B X τ σ n c s) 3 1 (some (B + (5 + 8 * k))) K = K ((σ.2.2 (5 + 8 * k) 1).map (B + ·)) := fun _ => o_gR (by omega) (o_c5 hk) rfl
theorem opr_s5_1 {B X : Nat} {τ : zK} {σ : zS} {n c s : Nat} {k : Nat} (hk : k < 3) : ∀ (x : Option Nat) (K : zW → zR), z_put (o_w B X τ σ n c s) 3 1 (some (B + (5 + 8 * k))) (va_rf (x.map (B + ·))) K = K (o_w B X τ (o_R σ (5 + 8 * k) 1 x) n c s) := fun _ _ => o_put (by omega) (o_c5 hk) (Nat.le_of_ble_eq_true rfl) (o_R_eq.trans (o_c5 hk)) (fun _ h => o_R_ne h)
theorem ot_s6 {B X : Nat} {τ : zK} {σ : zS} {n c s : Nat} {k : Nat} (hk : k < 3) : ∀ K : zR, z_this (o_w B X τ σ n c s) 4 (some (B + (6 + 8 * k))) K = K := fun _ => o_this (by omega) (o_c6 hk)
theorem or_s6_0 {B X : Nat} {τ : zK} {σ : zS} {n c s : Nat} {k : Nat} (hk : k < 3) : ∀ K : Option Nat → zR, z_getR (o_w B X τ σ n c s) 4 0 (some (B + (6 + 8 * k))) K = K (some (o_E B X (σ.2.2 (6 + 8 * k) 0))) := fun _ => o_gR (x := some (o_E B X (σ.2.2 (6 + 8 * k) 0))) (by omega) (o_c6 hk) rfl
theorem opr_s6_0 {B X : Nat} {τ : zK} {σ : zS} {n c s : Nat} {k : Nat} (hk : k < 3) : ∀ (x : Nat) (K : zW → zR), z_put (o_w B X τ σ n c s) 4 0 (some (B + (6 + 8 * k))) (va_rf (some (B + x))) K = K (o_w B X τ (o_R σ (6 + 8 * k) 0 (some x)) n c s) := fun _ _ => o_put (by omega) (o_c6 hk) (Nat.le_of_ble_eq_true rfl) (o_R_eq.trans (o_c6 hk)) (fun _ h => o_R_ne h)
theorem oi_s6_1 {B X : Nat} {τ : zK} {σ : zS} {n c s : Nat} {k : Nat} (hk : k < 3) : ∀ K : Int32 → zR, z_getI (o_w B X τ σ n c s) 4 1 (some (B + (6 + 8 * k))) K = K (σ.1 (6 + 8 * k) 1) := fun _ => o_gI (by omega) (o_c6 hk) rfl
theorem op_s6_1 {B X : Nat} {τ : zK} {σ : zS} {n c s : Nat} {k : Nat} (hk : k < 3) : ∀ (x : Int32) (K : zW → zR), z_put (o_w B X τ σ n c s) 4 1 (some (B + (6 + 8 * k))) (.int x) K = K (o_w B X τ (o_I σ (6 + 8 * k) 1 x) n c s) := fun _ _ => o_put (by omega) (o_c6 hk) (Nat.le_of_ble_eq_true rfl) (o_I_eq.trans (o_c6 hk)) (fun _ h => o_I_ne h)
theorem oi_s6_2 {B X : Nat} {τ : zK} {σ : zS} {n c s : Nat} {k : Nat} (hk : k < 3) : ∀ K : Int32 → zR, z_getI (o_w B X τ σ n c s) 4 2 (some (B + (6 + 8 * k))) K = K (σ.1 (6 + 8 * k) 2) := fun _ => o_gI (by omega) (o_c6 hk) rfl
theorem op_s6_2 {B X : Nat} {τ : zK} {σ : zS} {n c s : Nat} {k : Nat} (hk : k < 3) : ∀ (x : Int32) (K : zW → zR), z_put (o_w B X τ σ n c s) 4 2 (some (B + (6 + 8 * k))) (.int x) K = K (o_w B X τ (o_I σ (6 + 8 * k) 2 x) n c s) := fun _ _ => o_put (by omega) (o_c6 hk) (Nat.le_of_ble_eq_true rfl) (o_I_eq.trans (o_c6 hk)) (fun _ h => o_I_ne h)
theorem ot_s7 {B X : Nat} {τ : zK} {σ : zS} {n c s : Nat} {k : Nat} (hk : k < 3) : ∀ K : zR, z_this (o_w B X τ σ n c s) 5 (some (B + (7 + 8 * k))) K = K := fun _ => o_this (by omega) (o_c7 hk)
theorem or_s7_0 {B X : Nat} {τ : zK} {σ : zS} {n c s : Nat} {k : Nat} (hk : k < 3) : ∀ K : Option Nat → zR, z_getR (o_w B X τ σ n c s) 5 0 (some (B + (7 + 8 * k))) K = K (some (B + (8 + 8 * k))) := fun _ => o_gR (x := some (B + (8 + 8 * k))) (by omega) (o_c7 hk) rfl
theorem or_s7_1 {B X : Nat} {τ : zK} {σ : zS} {n c s : Nat} {k : Nat} (hk : k < 3) : ∀ K : Option Nat → zR, z_getR (o_w B X τ σ n c s) 5 1 (some (B + (7 + 8 * k))) K = K (some (B + (9 + 8 * k))) := fun _ => o_gR (x := some (B + (9 + 8 * k))) (by omega) (o_c7 hk) rfl
theorem oi_s7_2 {B X : Nat} {τ : zK} {σ : zS} {n c s : Nat} {k : Nat} (hk : k < 3) : ∀ K : Int32 → zR, z_getI (o_w B X τ σ n c s) 5 2 (some (B + (7 + 8 * k))) K = K (σ.1 (7 + 8 * k) 2) := fun _ => o_gI (by omega) (o_c7 hk) rfl
theorem op_s7_2 {B X : Nat} {τ : zK} {σ : zS} {n c s : Nat} {k : Nat} (hk : k < 3) : ∀ (x : Int32) (K : zW → zR), z_put (o_w B X τ σ n c s) 5 2 (some (B + (7 + 8 * k))) (.int x) K = K (o_w B X τ (o_I σ (7 + 8 * k) 2 x) n c s) := fun _ _ => o_put (by omega) (o_c7 hk) (Nat.le_of_ble_eq_true rfl) (o_I_eq.trans (o_c7 hk)) (fun _ h => o_I_ne h)
theorem ol_s7_3 {B X : Nat} {τ : zK} {σ : zS} {n c s : Nat} {k : Nat} (hk : k < 3) : ∀ K : Int64 → zR, z_getL (o_w B X τ σ n c s) 5 3 (some (B + (7 + 8 * k))) K = K (σ.2.1 (7 + 8 * k) 3) := fun _ => o_gL (by omega) (o_c7 hk) rfl
theorem opl_s7_3 {B X : Nat} {τ : zK} {σ : zS} {n c s : Nat} {k : Nat} (hk : k < 3) : ∀ (x : Int64) (K : zW → zR), z_put (o_w B X τ σ n c s) 5 3 (some (B + (7 + 8 * k))) (.long x) K = K (o_w B X τ (o_L σ (7 + 8 * k) 3 x) n c s) := fun _ _ => o_put (by omega) (o_c7 hk) (Nat.le_of_ble_eq_true rfl) (o_L_eq.trans (o_c7 hk)) (fun _ h => o_L_ne h)
theorem oi_s7_4 {B X : Nat} {τ : zK} {σ : zS} {n c s : Nat} {k : Nat} (hk : k < 3) : ∀ K : Int32 → zR, z_getI (o_w B X τ σ n c s) 5 4 (some (B + (7 + 8 * k))) K = K (σ.1 (7 + 8 * k) 4) := fun _ => o_gI (by omega) (o_c7 hk) rfl
theorem op_s7_4 {B X : Nat} {τ : zK} {σ : zS} {n c s : Nat} {k : Nat} (hk : k < 3) : ∀ (x : Int32) (K : zW → zR), z_put (o_w B X τ σ n c s) 5 4 (some (B + (7 + 8 * k))) (.int x) K = K (o_w B X τ (o_I σ (7 + 8 * k) 4 x) n c s) := fun _ _ => o_put (by omega) (o_c7 hk) (Nat.le_of_ble_eq_true rfl) (o_I_eq.trans (o_c7 hk)) (fun _ h => o_I_ne h)
theorem oi_s7_5 {B X : Nat} {τ : zK} {σ : zS} {n c s : Nat} {k : Nat} (hk : k < 3) : ∀ K : Int32 → zR, z_getI (o_w B X τ σ n c s) 5 5 (some (B + (7 + 8 * k))) K = K (σ.1 (7 + 8 * k) 5) := fun _ => o_gI (by omega) (o_c7 hk) rfl
theorem op_s7_5 {B X : Nat} {τ : zK} {σ : zS} {n c s : Nat} {k : Nat} (hk : k < 3) : ∀ (x : Int32) (K : zW → zR), z_put (o_w B X τ σ n c s) 5 5 (some (B + (7 + 8 * k))) (.int x) K = K (o_w B X τ (o_I σ (7 + 8 * k) 5 x) n c s) := fun _ _ => o_put (by omega) (o_c7 hk) (Nat.le_of_ble_eq_true rfl) (o_I_eq.trans (o_c7 hk)) (fun _ h => o_I_ne h)
theorem oi_s7_6 {B X : Nat} {τ : zK} {σ : zS} {n c s : Nat} {k : Nat} (hk : k < 3) : ∀ K : Int32 → zR, z_getI (o_w B X τ σ n c s) 5 6 (some (B + (7 + 8 * k))) K = K (σ.1 (7 + 8 * k) 6) := fun _ => o_gI (by omega) (o_c7 hk) rfl
theorem op_s7_6 {B X : Nat} {τ : zK} {σ : zS} {n c s : Nat} {k : Nat} (hk : k < 3) : ∀ (x : Int32) (K : zW → zR), z_put (o_w B X τ σ n c s) 5 6 (some (B + (7 + 8 * k))) (.int x) K = K (o_w B X τ (o_I σ (7 + 8 * k) 6 x) n c s) := fun _ _ => o_put (by omega) (o_c7 hk) (Nat.le_of_ble_eq_true rfl) (o_I_eq.trans (o_c7 hk)) (fun _ h => o_I_ne h)
theorem oz_s7_6 {B X : Nat} {τ : zK} {σ : zS} {n c s : Nat} {k : Nat} (hk : k < 3) : ∀ (x : Int32) (K : zW → zR), z_putZ (o_w B X τ σ n c s) 5 6 (some (B + (7 + 8 * k))) x K = if x = 0 ∨ x = 1 then K (o_w B X τ (o_I σ (7 + 8 * k) 6 x) n c s) else none := fun x K => by unfold z_putZ; rw [op_s7_6 hk]
theorem oi_s7_7 {B X : Nat} {τ : zK} {σ : zS} {n c s : Nat} {k : Nat} (hk : k < 3) : ∀ K : Int32 → zR, z_getI (o_w B X τ σ n c s) 5 7 (some (B + (7 + 8 * k))) K = K (σ.1 (7 + 8 * k) 7) := fun _ => o_gI (by omega) (o_c7 hk) rfl
theorem op_s7_7 {B X : Nat} {τ : zK} {σ : zS} {n c s : Nat} {k : Nat} (hk : k < 3) : ∀ (x : Int32) (K : zW → zR), z_put (o_w B X τ σ n c s) 5 7 (some (B + (7 + 8 * k))) (.int x) K = K (o_w B X τ (o_I σ (7 + 8 * k) 7 x) n c s) := fun _ _ => o_put (by omega) (o_c7 hk) (Nat.le_of_ble_eq_true rfl) (o_I_eq.trans (o_c7 hk)) (fun _ h => o_I_ne h)
theorem ot_26 {B X : Nat} {τ : zK} {σ : zS} {n c s : Nat} : ∀ K : zR, z_this (o_w B X τ σ n c s) 6 (some (B + 26)) K = K := fun _ => o_this (by decide) rfl
theorem or_26_0 {B X : Nat} {τ : zK} {σ : zS} {n c s : Nat} : ∀ K : Option Nat → zR, z_getR (o_w B X τ σ n c s) 6 0 (some (B + 26)) K = K (some (B + 27)) := fun _ => o_gR (x := some (B + 27)) (by decide) rfl rfl
theorem or_26_1 {B X : Nat} {τ : zK} {σ : zS} {n c s : Nat} : ∀ K : Option Nat → zR, z_getR (o_w B X τ σ n c s) 6 1 (some (B + 26)) K = K (some (B + 28)) := fun _ => o_gR (x := some (B + 28)) (by decide) rfl rfl
theorem oi_26_2 {B X : Nat} {τ : zK} {σ : zS} {n c s : Nat} : ∀ K : Int32 → zR, z_getI (o_w B X τ σ n c s) 6 2 (some (B + 26)) K = K (σ.1 26 2) := fun _ => o_gI (by decide) rfl rfl
theorem op_26_2 {B X : Nat} {τ : zK} {σ : zS} {n c s : Nat} : ∀ (x : Int32) (K : zW → zR), z_put (o_w B X τ σ n c s) 6 2 (some (B + 26)) (.int x) K = K (o_w B X τ (o_I σ 26 2 x) n c s) := fun _ _ => o_put (by decide) rfl (Nat.le_of_ble_eq_true rfl) (o_I_eq.trans rfl) (fun _ h => o_I_ne h)
theorem oi_26_3 {B X : Nat} {τ : zK} {σ : zS} {n c s : Nat} : ∀ K : Int32 → zR, z_getI (o_w B X τ σ n c s) 6 3 (some (B + 26)) K = K (σ.1 26 3) := fun _ => o_gI (by decide) rfl rfl
theorem op_26_3 {B X : Nat} {τ : zK} {σ : zS} {n c s : Nat} : ∀ (x : Int32) (K : zW → zR), z_put (o_w B X τ σ n c s) 6 3 (some (B + 26)) (.int x) K = K (o_w B X τ (o_I σ 26 3 x) n c s) := fun _ _ => o_put (by decide) rfl (Nat.le_of_ble_eq_true rfl) (o_I_eq.trans rfl) (fun _ h => o_I_ne h)
theorem ot_29 {B X : Nat} {τ : zK} {σ : zS} {n c s : Nat} : ∀ K : zR, z_this (o_w B X τ σ n c s) 7 (some (B + 29)) K = K := fun _ => o_this (by decide) rfl
theorem oi_29_0 {B X : Nat} {τ : zK} {σ : zS} {n c s : Nat} : ∀ K : Int32 → zR, z_getI (o_w B X τ σ n c s) 7 0 (some (B + 29)) K = K (σ.1 29 0) := fun _ => o_gI (by decide) rfl rfl
theorem op_29_0 {B X : Nat} {τ : zK} {σ : zS} {n c s : Nat} : ∀ (x : Int32) (K : zW → zR), z_put (o_w B X τ σ n c s) 7 0 (some (B + 29)) (.int x) K = K (o_w B X τ (o_I σ 29 0 x) n c s) := fun _ _ => o_put (by decide) rfl (Nat.le_of_ble_eq_true rfl) (o_I_eq.trans rfl) (fun _ h => o_I_ne h)
theorem oi_29_1 {B X : Nat} {τ : zK} {σ : zS} {n c s : Nat} : ∀ K : Int32 → zR, z_getI (o_w B X τ σ n c s) 7 1 (some (B + 29)) K = K (σ.1 29 1) := fun _ => o_gI (by decide) rfl rfl
theorem op_29_1 {B X : Nat} {τ : zK} {σ : zS} {n c s : Nat} : ∀ (x : Int32) (K : zW → zR), z_put (o_w B X τ σ n c s) 7 1 (some (B + 29)) (.int x) K = K (o_w B X τ (o_I σ 29 1 x) n c s) := fun _ _ => o_put (by decide) rfl (Nat.le_of_ble_eq_true rfl) (o_I_eq.trans rfl) (fun _ h => o_I_ne h)
theorem oi_29_2 {B X : Nat} {τ : zK} {σ : zS} {n c s : Nat} : ∀ K : Int32 → zR, z_getI (o_w B X τ σ n c s) 7 2 (some (B + 29)) K = K (σ.1 29 2) := fun _ => o_gI (by decide) rfl rfl
theorem op_29_2 {B X : Nat} {τ : zK} {σ : zS} {n c s : Nat} : ∀ (x : Int32) (K : zW → zR), z_put (o_w B X τ σ n c s) 7 2 (some (B + 29)) (.int x) K = K (o_w B X τ (o_I σ 29 2 x) n c s) := fun _ _ => o_put (by decide) rfl (Nat.le_of_ble_eq_true rfl) (o_I_eq.trans rfl) (fun _ h => o_I_ne h)
theorem oi_29_3 {B X : Nat} {τ : zK} {σ : zS} {n c s : Nat} : ∀ K : Int32 → zR, z_getI (o_w B X τ σ n c s) 7 3 (some (B + 29)) K = K (σ.1 29 3) := fun _ => o_gI (by decide) rfl rfl
theorem op_29_3 {B X : Nat} {τ : zK} {σ : zS} {n c s : Nat} : ∀ (x : Int32) (K : zW → zR), z_put (o_w B X τ σ n c s) 7 3 (some (B + 29)) (.int x) K = K (o_w B X τ (o_I σ 29 3 x) n c s) := fun _ _ => o_put (by decide) rfl (Nat.le_of_ble_eq_true rfl) (o_I_eq.trans rfl) (fun _ h => o_I_ne h)
theorem oi_29_4 {B X : Nat} {τ : zK} {σ : zS} {n c s : Nat} : ∀ K : Int32 → zR, z_getI (o_w B X τ σ n c s) 7 4 (some (B + 29)) K = K (σ.1 29 4) := fun _ => o_gI (by decide) rfl rfl
theorem op_29_4 {B X : Nat} {τ : zK} {σ : zS} {n c s : Nat} : ∀ (x : Int32) (K : zW → zR), z_put (o_w B X τ σ n c s) 7 4 (some (B + 29)) (.int x) K = K (o_w B X τ (o_I σ 29 4 x) n c s) := fun _ _ => o_put (by decide) rfl (Nat.le_of_ble_eq_true rfl) (o_I_eq.trans rfl) (fun _ h => o_I_ne h)
theorem ot_30 {B X : Nat} {τ : zK} {σ : zS} {n c s : Nat} : ∀ K : zR, z_this (o_w B X τ σ n c s) 8 (some (B + 30)) K = K := fun _ => o_this (by decide) rfl
theorem oi_30_0 {B X : Nat} {τ : zK} {σ : zS} {n c s : Nat} : ∀ K : Int32 → zR, z_getI (o_w B X τ σ n c s) 8 0 (some (B + 30)) K = K (σ.1 30 0) := fun _ => o_gI (by decide) rfl rfl
theorem op_30_0 {B X : Nat} {τ : zK} {σ : zS} {n c s : Nat} : ∀ (x : Int32) (K : zW → zR), z_put (o_w B X τ σ n c s) 8 0 (some (B + 30)) (.int x) K = K (o_w B X τ (o_I σ 30 0 x) n c s) := fun _ _ => o_put (by decide) rfl (Nat.le_of_ble_eq_true rfl) (o_I_eq.trans rfl) (fun _ h => o_I_ne h)
theorem oi_30_1 {B X : Nat} {τ : zK} {σ : zS} {n c s : Nat} : ∀ K : Int32 → zR, z_getI (o_w B X τ σ n c s) 8 1 (some (B + 30)) K = K (σ.1 30 1) := fun _ => o_gI (by decide) rfl rfl
theorem op_30_1 {B X : Nat} {τ : zK} {σ : zS} {n c s : Nat} : ∀ (x : Int32) (K : zW → zR), z_put (o_w B X τ σ n c s) 8 1 (some (B + 30)) (.int x) K = K (o_w B X τ (o_I σ 30 1 x) n c s) := fun _ _ => o_put (by decide) rfl (Nat.le_of_ble_eq_true rfl) (o_I_eq.trans rfl) (fun _ h => o_I_ne h)
theorem oi_30_2 {B X : Nat} {τ : zK} {σ : zS} {n c s : Nat} : ∀ K : Int32 → zR, z_getI (o_w B X τ σ n c s) 8 2 (some (B + 30)) K = K (σ.1 30 2) := fun _ => o_gI (by decide) rfl rfl
theorem op_30_2 {B X : Nat} {τ : zK} {σ : zS} {n c s : Nat} : ∀ (x : Int32) (K : zW → zR), z_put (o_w B X τ σ n c s) 8 2 (some (B + 30)) (.int x) K = K (o_w B X τ (o_I σ 30 2 x) n c s) := fun _ _ => o_put (by decide) rfl (Nat.le_of_ble_eq_true rfl) (o_I_eq.trans rfl) (fun _ h => o_I_ne h)
theorem oi_30_3 {B X : Nat} {τ : zK} {σ : zS} {n c s : Nat} : ∀ K : Int32 → zR, z_getI (o_w B X τ σ n c s) 8 3 (some (B + 30)) K = K (σ.1 30 3) := fun _ => o_gI (by decide) rfl rfl
theorem op_30_3 {B X : Nat} {τ : zK} {σ : zS} {n c s : Nat} : ∀ (x : Int32) (K : zW → zR), z_put (o_w B X τ σ n c s) 8 3 (some (B + 30)) (.int x) K = K (o_w B X τ (o_I σ 30 3 x) n c s) := fun _ _ => o_put (by decide) rfl (Nat.le_of_ble_eq_true rfl) (o_I_eq.trans rfl) (fun _ h => o_I_ne h)
theorem ot_31 {B X : Nat} {τ : zK} {σ : zS} {n c s : Nat} : ∀ K : zR, z_this (o_w B X τ σ n c s) 10 (some (B + 31)) K = K := fun _ => o_this (by decide) rfl
theorem oi_31_0 {B X : Nat} {τ : zK} {σ : zS} {n c s : Nat} : ∀ K : Int32 → zR, z_getI (o_w B X τ σ n c s) 10 0 (some (B + 31)) K = K (σ.1 31 0) := fun _ => o_gI (by decide) rfl rfl
theorem op_31_0 {B X : Nat} {τ : zK} {σ : zS} {n c s : Nat} : ∀ (x : Int32) (K : zW → zR), z_put (o_w B X τ σ n c s) 10 0 (some (B + 31)) (.int x) K = K (o_w B X τ (o_I σ 31 0 x) n c s) := fun _ _ => o_put (by decide) rfl (Nat.le_of_ble_eq_true rfl) (o_I_eq.trans rfl) (fun _ h => o_I_ne h)
theorem oi_31_1 {B X : Nat} {τ : zK} {σ : zS} {n c s : Nat} : ∀ K : Int32 → zR, z_getI (o_w B X τ σ n c s) 10 1 (some (B + 31)) K = K (σ.1 31 1) := fun _ => o_gI (by decide) rfl rfl
theorem op_31_1 {B X : Nat} {τ : zK} {σ : zS} {n c s : Nat} : ∀ (x : Int32) (K : zW → zR), z_put (o_w B X τ σ n c s) 10 1 (some (B + 31)) (.int x) K = K (o_w B X τ (o_I σ 31 1 x) n c s) := fun _ _ => o_put (by decide) rfl (Nat.le_of_ble_eq_true rfl) (o_I_eq.trans rfl) (fun _ h => o_I_ne h)
theorem oi_31_2 {B X : Nat} {τ : zK} {σ : zS} {n c s : Nat} : ∀ K : Int32 → zR, z_getI (o_w B X τ σ n c s) 10 2 (some (B + 31)) K = K (σ.1 31 2) := fun _ => o_gI (by decide) rfl rfl
theorem op_31_2 {B X : Nat} {τ : zK} {σ : zS} {n c s : Nat} : ∀ (x : Int32) (K : zW → zR), z_put (o_w B X τ σ n c s) 10 2 (some (B + 31)) (.int x) K = K (o_w B X τ (o_I σ 31 2 x) n c s) := fun _ _ => o_put (by decide) rfl (Nat.le_of_ble_eq_true rfl) (o_I_eq.trans rfl) (fun _ h => o_I_ne h)
theorem oz_31_2 {B X : Nat} {τ : zK} {σ : zS} {n c s : Nat} : ∀ (x : Int32) (K : zW → zR), z_putZ (o_w B X τ σ n c s) 10 2 (some (B + 31)) x K = if x = 0 ∨ x = 1 then K (o_w B X τ (o_I σ 31 2 x) n c s) else none := fun x K => by unfold z_putZ; rw [op_31_2]
theorem oi_31_3 {B X : Nat} {τ : zK} {σ : zS} {n c s : Nat} : ∀ K : Int32 → zR, z_getI (o_w B X τ σ n c s) 10 3 (some (B + 31)) K = K (σ.1 31 3) := fun _ => o_gI (by decide) rfl rfl
theorem op_31_3 {B X : Nat} {τ : zK} {σ : zS} {n c s : Nat} : ∀ (x : Int32) (K : zW → zR), z_put (o_w B X τ σ n c s) 10 3 (some (B + 31)) (.int x) K = K (o_w B X τ (o_I σ 31 3 x) n c s) := fun _ _ => o_put (by decide) rfl (Nat.le_of_ble_eq_true rfl) (o_I_eq.trans rfl) (fun _ h => o_I_ne h)
theorem oz_31_3 {B X : Nat} {τ : zK} {σ : zS} {n c s : Nat} : ∀ (x : Int32) (K : zW → zR), z_putZ (o_w B X τ σ n c s) 10 3 (some (B + 31)) x K = if x = 0 ∨ x = 1 then K (o_w B X τ (o_I σ 31 3 x) n c s) else none := fun x K => by unfold z_putZ; rw [op_31_3]
theorem or_31_4 {B X : Nat} {τ : zK} {σ : zS} {n c s : Nat} : ∀ K : Option Nat → zR, z_getR (o_w B X τ σ n c s) 10 4 (some (B + 31)) K = K (some (B + 32)) := fun _ => o_gR (x := some (B + 32)) (by decide) rfl rfl
theorem or_31_5 {B X : Nat} {τ : zK} {σ : zS} {n c s : Nat} : ∀ K : Option Nat → zR, z_getR (o_w B X τ σ n c s) 10 5 (some (B + 31)) K = K (some (B + 33)) := fun _ => o_gR (x := some (B + 33)) (by decide) rfl rfl
theorem or_31_6 {B X : Nat} {τ : zK} {σ : zS} {n c s : Nat} : ∀ K : Option Nat → zR, z_getR (o_w B X τ σ n c s) 10 6 (some (B + 31)) K = K (some (B + 34)) := fun _ => o_gR (x := some (B + 34)) (by decide) rfl rfl
theorem or_31_7 {B X : Nat} {τ : zK} {σ : zS} {n c s : Nat} : ∀ K : Option Nat → zR, z_getR (o_w B X τ σ n c s) 10 7 (some (B + 31)) K = K (some (B + 35)) := fun _ => o_gR (x := some (B + 35)) (by decide) rfl rfl
theorem or_31_8 {B X : Nat} {τ : zK} {σ : zS} {n c s : Nat} : ∀ K : Option Nat → zR, z_getR (o_w B X τ σ n c s) 10 8 (some (B + 31)) K = K (some (B + 36)) := fun _ => o_gR (x := some (B + 36)) (by decide) rfl rfl
theorem or_31_9 {B X : Nat} {τ : zK} {σ : zS} {n c s : Nat} : ∀ K : Option Nat → zR, z_getR (o_w B X τ σ n c s) 10 9 (some (B + 31)) K = K (some (B + 37)) := fun _ => o_gR (x := some (B + 37)) (by decide) rfl rfl
theorem or_31_10 {B X : Nat} {τ : zK} {σ : zS} {n c s : Nat} : ∀ K : Option Nat → zR, z_getR (o_w B X τ σ n c s) 10 10 (some (B + 31)) K = K (some (B + 38)) := fun _ => o_gR (x := some (B + 38)) (by decide) rfl rfl
theorem or_31_11 {B X : Nat} {τ : zK} {σ : zS} {n c s : Nat} : ∀ K : Option Nat → zR, z_getR (o_w B X τ σ n c s) 10 11 (some (B + 31)) K = K (some (B + 39)) := fun _ => o_gR (x := some (B + 39)) (by decide) rfl rfl
theorem or_31_12 {B X : Nat} {τ : zK} {σ : zS} {n c s : Nat} : ∀ K : Option Nat → zR, z_getR (o_w B X τ σ n c s) 10 12 (some (B + 31)) K = K (some (B + 40)) := fun _ => o_gR (x := some (B + 40)) (by decide) rfl rfl
theorem or_31_13 {B X : Nat} {τ : zK} {σ : zS} {n c s : Nat} : ∀ K : Option Nat → zR, z_getR (o_w B X τ σ n c s) 10 13 (some (B + 31)) K = K (some (B + 41)) := fun _ => o_gR (x := some (B + 41)) (by decide) rfl rfl
theorem oi_31_14 {B X : Nat} {τ : zK} {σ : zS} {n c s : Nat} : ∀ K : Int32 → zR, z_getI (o_w B X τ σ n c s) 10 14 (some (B + 31)) K = K (σ.1 31 14) := fun _ => o_gI (by decide) rfl rfl
theorem op_31_14 {B X : Nat} {τ : zK} {σ : zS} {n c s : Nat} : ∀ (x : Int32) (K : zW → zR), z_put (o_w B X τ σ n c s) 10 14 (some (B + 31)) (.int x) K = K (o_w B X τ (o_I σ 31 14 x) n c s) := fun _ _ => o_put (by decide) rfl (Nat.le_of_ble_eq_true rfl) (o_I_eq.trans rfl) (fun _ h => o_I_ne h)
theorem or_31_15 {B X : Nat} {τ : zK} {σ : zS} {n c s : Nat} : ∀ K : Option Nat → zR, z_getR (o_w B X τ σ n c s) 10 15 (some (B + 31)) K = K (some (B + 42)) := fun _ => o_gR (x := some (B + 42)) (by decide) rfl rfl
theorem or_31_16 {B X : Nat} {τ : zK} {σ : zS} {n c s : Nat} : ∀ K : Option Nat → zR, z_getR (o_w B X τ σ n c s) 10 16 (some (B + 31)) K = K (some (B + 43)) := fun _ => o_gR (x := some (B + 43)) (by decide) rfl rfl
theorem or_31_17 {B X : Nat} {τ : zK} {σ : zS} {n c s : Nat} : ∀ K : Option Nat → zR, z_getR (o_w B X τ σ n c s) 10 17 (some (B + 31)) K = K (some (B + 44)) := fun _ => o_gR (x := some (B + 44)) (by decide) rfl rfl
theorem oi_31_18 {B X : Nat} {τ : zK} {σ : zS} {n c s : Nat} : ∀ K : Int32 → zR, z_getI (o_w B X τ σ n c s) 10 18 (some (B + 31)) K = K (σ.1 31 18) := fun _ => o_gI (by decide) rfl rfl
theorem op_31_18 {B X : Nat} {τ : zK} {σ : zS} {n c s : Nat} : ∀ (x : Int32) (K : zW → zR), z_put (o_w B X τ σ n c s) 10 18 (some (B + 31)) (.int x) K = K (o_w B X τ (o_I σ 31 18 x) n c s) := fun _ _ => o_put (by decide) rfl (Nat.le_of_ble_eq_true rfl) (o_I_eq.trans rfl) (fun _ h => o_I_ne h)
theorem oi_31_19 {B X : Nat} {τ : zK} {σ : zS} {n c s : Nat} : ∀ K : Int32 → zR, z_getI (o_w B X τ σ n c s) 10 19 (some (B + 31)) K = K (σ.1 31 19) := fun _ => o_gI (by decide) rfl rfl
theorem op_31_19 {B X : Nat} {τ : zK} {σ : zS} {n c s : Nat} : ∀ (x : Int32) (K : zW → zR), z_put (o_w B X τ σ n c s) 10 19 (some (B + 31)) (.int x) K = K (o_w B X τ (o_I σ 31 19 x) n c s) := fun _ _ => o_put (by decide) rfl (Nat.le_of_ble_eq_true rfl) (o_I_eq.trans rfl) (fun _ h => o_I_ne h)
theorem oi_31_20 {B X : Nat} {τ : zK} {σ : zS} {n c s : Nat} : ∀ K : Int32 → zR, z_getI (o_w B X τ σ n c s) 10 20 (some (B + 31)) K = K (σ.1 31 20) := fun _ => o_gI (by decide) rfl rfl
theorem op_31_20 {B X : Nat} {τ : zK} {σ : zS} {n c s : Nat} : ∀ (x : Int32) (K : zW → zR), z_put (o_w B X τ σ n c s) 10 20 (some (B + 31)) (.int x) K = K (o_w B X τ (o_I σ 31 20 x) n c s) := fun _ _ => o_put (by decide) rfl (Nat.le_of_ble_eq_true rfl) (o_I_eq.trans rfl) (fun _ h => o_I_ne h)
theorem oi_31_21 {B X : Nat} {τ : zK} {σ : zS} {n c s : Nat} : ∀ K : Int32 → zR, z_getI (o_w B X τ σ n c s) 10 21 (some (B + 31)) K = K (σ.1 31 21) := fun _ => o_gI (by decide) rfl rfl
theorem op_31_21 {B X : Nat} {τ : zK} {σ : zS} {n c s : Nat} : ∀ (x : Int32) (K : zW → zR), z_put (o_w B X τ σ n c s) 10 21 (some (B + 31)) (.int x) K = K (o_w B X τ (o_I σ 31 21 x) n c s) := fun _ _ => o_put (by decide) rfl (Nat.le_of_ble_eq_true rfl) (o_I_eq.trans rfl) (fun _ h => o_I_ne h)
theorem oi_31_22 {B X : Nat} {τ : zK} {σ : zS} {n c s : Nat} : ∀ K : Int32 → zR, z_getI (o_w B X τ σ n c s) 10 22 (some (B + 31)) K = K (σ.1 31 22) := fun _ => o_gI (by decide) rfl rfl
theorem op_31_22 {B X : Nat} {τ : zK} {σ : zS} {n c s : Nat} : ∀ (x : Int32) (K : zW → zR), z_put (o_w B X τ σ n c s) 10 22 (some (B + 31)) (.int x) K = K (o_w B X τ (o_I σ 31 22 x) n c s) := fun _ _ => o_put (by decide) rfl (Nat.le_of_ble_eq_true rfl) (o_I_eq.trans rfl) (fun _ h => o_I_ne h)
theorem oi_31_23 {B X : Nat} {τ : zK} {σ : zS} {n c s : Nat} : ∀ K : Int32 → zR, z_getI (o_w B X τ σ n c s) 10 23 (some (B + 31)) K = K (σ.1 31 23) := fun _ => o_gI (by decide) rfl rfl
theorem op_31_23 {B X : Nat} {τ : zK} {σ : zS} {n c s : Nat} : ∀ (x : Int32) (K : zW → zR), z_put (o_w B X τ σ n c s) 10 23 (some (B + 31)) (.int x) K = K (o_w B X τ (o_I σ 31 23 x) n c s) := fun _ _ => o_put (by decide) rfl (Nat.le_of_ble_eq_true rfl) (o_I_eq.trans rfl) (fun _ h => o_I_ne h)
theorem oi_31_24 {B X : Nat} {τ : zK} {σ : zS} {n c s : Nat} : ∀ K : Int32 → zR, z_getI (o_w B X τ σ n c s) 10 24 (some (B + 31)) K = K (σ.1 31 24) := fun _ => o_gI (by decide) rfl rfl
theorem op_31_24 {B X : Nat} {τ : zK} {σ : zS} {n c s : Nat} : ∀ (x : Int32) (K : zW → zR), z_put (o_w B X τ σ n c s) 10 24 (some (B + 31)) (.int x) K = K (o_w B X τ (o_I σ 31 24 x) n c s) := fun _ _ => o_put (by decide) rfl (Nat.le_of_ble_eq_true rfl) (o_I_eq.trans rfl) (fun _ h => o_I_ne h)
theorem oi_31_25 {B X : Nat} {τ : zK} {σ : zS} {n c s : Nat} : ∀ K : Int32 → zR, z_getI (o_w B X τ σ n c s) 10 25 (some (B + 31)) K = K (σ.1 31 25) := fun _ => o_gI (by decide) rfl rfl
theorem op_31_25 {B X : Nat} {τ : zK} {σ : zS} {n c s : Nat} : ∀ (x : Int32) (K : zW → zR), z_put (o_w B X τ σ n c s) 10 25 (some (B + 31)) (.int x) K = K (o_w B X τ (o_I σ 31 25 x) n c s) := fun _ _ => o_put (by decide) rfl (Nat.le_of_ble_eq_true rfl) (o_I_eq.trans rfl) (fun _ h => o_I_ne h)
theorem oi_31_26 {B X : Nat} {τ : zK} {σ : zS} {n c s : Nat} : ∀ K : Int32 → zR, z_getI (o_w B X τ σ n c s) 10 26 (some (B + 31)) K = K (σ.1 31 26) := fun _ => o_gI (by decide) rfl rfl
theorem op_31_26 {B X : Nat} {τ : zK} {σ : zS} {n c s : Nat} : ∀ (x : Int32) (K : zW → zR), z_put (o_w B X τ σ n c s) 10 26 (some (B + 31)) (.int x) K = K (o_w B X τ (o_I σ 31 26 x) n c s) := fun _ _ => o_put (by decide) rfl (Nat.le_of_ble_eq_true rfl) (o_I_eq.trans rfl) (fun _ h => o_I_ne h)
theorem oi_31_27 {B X : Nat} {τ : zK} {σ : zS} {n c s : Nat} : ∀ K : Int32 → zR, z_getI (o_w B X τ σ n c s) 10 27 (some (B + 31)) K = K (σ.1 31 27) := fun _ => o_gI (by decide) rfl rfl
theorem op_31_27 {B X : Nat} {τ : zK} {σ : zS} {n c s : Nat} : ∀ (x : Int32) (K : zW → zR), z_put (o_w B X τ σ n c s) 10 27 (some (B + 31)) (.int x) K = K (o_w B X τ (o_I σ 31 27 x) n c s) := fun _ _ => o_put (by decide) rfl (Nat.le_of_ble_eq_true rfl) (o_I_eq.trans rfl) (fun _ h => o_I_ne h)
theorem or_31_28 {B X : Nat} {τ : zK} {σ : zS} {n c s : Nat} : ∀ K : Option Nat → zR, z_getR (o_w B X τ σ n c s) 10 28 (some (B + 31)) K = K (some (B + 45)) := fun _ => o_gR (x := some (B + 45)) (by decide) rfl rfl
theorem or_31_29 {B X : Nat} {τ : zK} {σ : zS} {n c s : Nat} : ∀ K : Option Nat → zR, z_getR (o_w B X τ σ n c s) 10 29 (some (B + 31)) K = K (some (B + 46)) := fun _ => o_gR (x := some (B + 46)) (by decide) rfl rfl
theorem or_31_30 {B X : Nat} {τ : zK} {σ : zS} {n c s : Nat} : ∀ K : Option Nat → zR, z_getR (o_w B X τ σ n c s) 10 30 (some (B + 31)) K = K (some (B + 47)) := fun _ => o_gR (x := some (B + 47)) (by decide) rfl rfl
theorem or_31_31 {B X : Nat} {τ : zK} {σ : zS} {n c s : Nat} : ∀ K : Option Nat → zR, z_getR (o_w B X τ σ n c s) 10 31 (some (B + 31)) K = K (some (B + 48)) := fun _ => o_gR (x := some (B + 48)) (by decide) rfl rfl
theorem or_31_32 {B X : Nat} {τ : zK} {σ : zS} {n c s : Nat} : ∀ K : Option Nat → zR, z_getR (o_w B X τ σ n c s) 10 32 (some (B + 31)) K = K (some (B + 49)) := fun _ => o_gR (x := some (B + 49)) (by decide) rfl rfl
theorem or_31_33 {B X : Nat} {τ : zK} {σ : zS} {n c s : Nat} : ∀ K : Option Nat → zR, z_getR (o_w B X τ σ n c s) 10 33 (some (B + 31)) K = K (some (B + 50)) := fun _ => o_gR (x := some (B + 50)) (by decide) rfl rfl
theorem or_31_34 {B X : Nat} {τ : zK} {σ : zS} {n c s : Nat} : ∀ K : Option Nat → zR, z_getR (o_w B X τ σ n c s) 10 34 (some (B + 31)) K = K (some (B + 51)) := fun _ => o_gR (x := some (B + 51)) (by decide) rfl rfl
theorem or_31_35 {B X : Nat} {τ : zK} {σ : zS} {n c s : Nat} : ∀ K : Option Nat → zR, z_getR (o_w B X τ σ n c s) 10 35 (some (B + 31)) K = K (some (B + 52)) := fun _ => o_gR (x := some (B + 52)) (by decide) rfl rfl
theorem or_31_36 {B X : Nat} {τ : zK} {σ : zS} {n c s : Nat} : ∀ K : Option Nat → zR, z_getR (o_w B X τ σ n c s) 10 36 (some (B + 31)) K = K (some (B + 53)) := fun _ => o_gR (x := some (B + 53)) (by decide) rfl rfl
theorem or_31_37 {B X : Nat} {τ : zK} {σ : zS} {n c s : Nat} : ∀ K : Option Nat → zR, z_getR (o_w B X τ σ n c s) 10 37 (some (B + 31)) K = K (some (B + 54)) := fun _ => o_gR (x := some (B + 54)) (by decide) rfl rfl
theorem oal_s8 {B X : Nat} {τ : zK} {σ : zS} {n c s : Nat} {k : Nat} (hk : k < 3) : ∀ (i : Int32) (K : Int64 → zR), z_ldL (o_w B X τ σ n c s) (some (B + (8 + 8 * k))) i K = if ¬ (i < 0 ∨ 65 ≤ i.toNatClampNeg) then K (σ.2.1 (8 + 8 * k) i.toNatClampNeg) else none := fun _ _ => o_ldL (by omega) (o_c8 hk)
theorem oas_s8 {B X : Nat} {τ : zK} {σ : zS} {n c s : Nat} {k : Nat} (hk : k < 3) : ∀ (i : Int32) (x : Int64) (K : zW → zR), z_stL (o_w B X τ σ n c s) (some (B + (8 + 8 * k))) i x K = if ¬ (i < 0 ∨ 65 ≤ i.toNatClampNeg) then K (o_w B X τ (o_L σ (8 + 8 * k) i.toNatClampNeg x) n c s) else none := fun _ _ _ => o_stL (by omega) (o_c8 hk) (fun _ => o_L_eq.trans (o_c8 hk))
theorem oan_s8 {B X : Nat} {τ : zK} {σ : zS} {n c s : Nat} {k : Nat} (hk : k < 3) : ∀ K : Int32 → zR, z_len (o_w B X τ σ n c s) (some (B + (8 + 8 * k))) K = K (Int32.ofNat 65) := fun _ => o_len (by omega) (o_c8 hk)
theorem oal_s9 {B X : Nat} {τ : zK} {σ : zS} {n c s : Nat} {k : Nat} (hk : k < 3) : ∀ (i : Int32) (K : Int64 → zR), z_ldL (o_w B X τ σ n c s) (some (B + (9 + 8 * k))) i K = if ¬ (i < 0 ∨ 65 ≤ i.toNatClampNeg) then K (σ.2.1 (9 + 8 * k) i.toNatClampNeg) else none := fun _ _ => o_ldL (by omega) (o_c9 hk)
theorem oas_s9 {B X : Nat} {τ : zK} {σ : zS} {n c s : Nat} {k : Nat} (hk : k < 3) : ∀ (i : Int32) (x : Int64) (K : zW → zR), z_stL (o_w B X τ σ n c s) (some (B + (9 + 8 * k))) i x K = if ¬ (i < 0 ∨ 65 ≤ i.toNatClampNeg) then K (o_w B X τ (o_L σ (9 + 8 * k) i.toNatClampNeg x) n c s) else none := fun _ _ _ => o_stL (by omega) (o_c9 hk) (fun _ => o_L_eq.trans (o_c9 hk))
theorem oan_s9 {B X : Nat} {τ : zK} {σ : zS} {n c s : Nat} {k : Nat} (hk : k < 3) : ∀ K : Int32 → zR, z_len (o_w B X τ σ n c s) (some (B + (9 + 8 * k))) K = K (Int32.ofNat 65) := fun _ => o_len (by omega) (o_c9 hk)
theorem oal_27 {B X : Nat} {τ : zK} {σ : zS} {n c s : Nat} : ∀ (i : Int32) (K : Int64 → zR), z_ldL (o_w B X τ σ n c s) (some (B + 27)) i K = if ¬ (i < 0 ∨ 64 ≤ i.toNatClampNeg) then K (σ.2.1 27 i.toNatClampNeg) else none := fun _ _ => o_ldL (by decide) rfl
theorem oas_27 {B X : Nat} {τ : zK} {σ : zS} {n c s : Nat} : ∀ (i : Int32) (x : Int64) (K : zW → zR), z_stL (o_w B X τ σ n c s) (some (B + 27)) i x K = if ¬ (i < 0 ∨ 64 ≤ i.toNatClampNeg) then K (o_w B X τ (o_L σ 27 i.toNatClampNeg x) n c s) else none := fun _ _ _ => o_stL (by decide) rfl (fun _ => o_L_eq.trans rfl)
theorem oan_27 {B X : Nat} {τ : zK} {σ : zS} {n c s : Nat} : ∀ K : Int32 → zR, z_len (o_w B X τ σ n c s) (some (B + 27)) K = K (Int32.ofNat 64) := fun _ => o_len (k := 27) (by decide) (rfl : o_pic B X σ 27 = _)
theorem oal_28 {B X : Nat} {τ : zK} {σ : zS} {n c s : Nat} : ∀ (i : Int32) (K : Int64 → zR), z_ldL (o_w B X τ σ n c s) (some (B + 28)) i K = if ¬ (i < 0 ∨ 64 ≤ i.toNatClampNeg) then K (σ.2.1 28 i.toNatClampNeg) else none := fun _ _ => o_ldL (by decide) rfl
theorem oas_28 {B X : Nat} {τ : zK} {σ : zS} {n c s : Nat} : ∀ (i : Int32) (x : Int64) (K : zW → zR), z_stL (o_w B X τ σ n c s) (some (B + 28)) i x K = if ¬ (i < 0 ∨ 64 ≤ i.toNatClampNeg) then K (o_w B X τ (o_L σ 28 i.toNatClampNeg x) n c s) else none := fun _ _ _ => o_stL (by decide) rfl (fun _ => o_L_eq.trans rfl)
theorem oan_28 {B X : Nat} {τ : zK} {σ : zS} {n c s : Nat} : ∀ K : Int32 → zR, z_len (o_w B X τ σ n c s) (some (B + 28)) K = K (Int32.ofNat 64) := fun _ => o_len (k := 28) (by decide) (rfl : o_pic B X σ 28 = _)
theorem oal_32 {B X : Nat} {τ : zK} {σ : zS} {n c s : Nat} : ∀ (i : Int32) (K : Int32 → zR), z_ldI (o_w B X τ σ n c s) .int (some (B + 32)) i K = if ¬ (i < 0 ∨ 3 ≤ i.toNatClampNeg) then K (σ.1 32 i.toNatClampNeg) else none := fun _ _ => o_ldI (by decide) rfl
theorem oas_32 {B X : Nat} {τ : zK} {σ : zS} {n c s : Nat} : ∀ (i x : Int32) (K : zW → zR), z_stI (o_w B X τ σ n c s) (some (B + 32)) i x K = if ¬ (i < 0 ∨ 3 ≤ i.toNatClampNeg) then K (o_w B X τ (o_I σ 32 i.toNatClampNeg x) n c s) else none := fun _ _ _ => o_stI (by decide) rfl (fun _ => o_I_eq.trans rfl)
theorem oan_32 {B X : Nat} {τ : zK} {σ : zS} {n c s : Nat} : ∀ K : Int32 → zR, z_len (o_w B X τ σ n c s) (some (B + 32)) K = K (Int32.ofNat 3) := fun _ => o_len (k := 32) (by decide) (rfl : o_pic B X σ 32 = _)
theorem oal_33 {B X : Nat} {τ : zK} {σ : zS} {n c s : Nat} : ∀ (i : Int32) (K : Int32 → zR), z_ldI (o_w B X τ σ n c s) .int (some (B + 33)) i K = if ¬ (i < 0 ∨ 12288 ≤ i.toNatClampNeg) then K (σ.1 33 i.toNatClampNeg) else none := fun _ _ => o_ldI (by decide) rfl
theorem oas_33 {B X : Nat} {τ : zK} {σ : zS} {n c s : Nat} : ∀ (i x : Int32) (K : zW → zR), z_stI (o_w B X τ σ n c s) (some (B + 33)) i x K = if ¬ (i < 0 ∨ 12288 ≤ i.toNatClampNeg) then K (o_w B X τ (o_I σ 33 i.toNatClampNeg x) n c s) else none := fun _ _ _ => o_stI (by decide) rfl (fun _ => o_I_eq.trans rfl)
theorem oan_33 {B X : Nat} {τ : zK} {σ : zS} {n c s : Nat} : ∀ K : Int32 → zR, z_len (o_w B X τ σ n c s) (some (B + 33)) K = K (Int32.ofNat 12288) := fun _ => o_len (k := 33) (by decide) (rfl : o_pic B X σ 33 = _)
theorem oal_34 {B X : Nat} {τ : zK} {σ : zS} {n c s : Nat} : ∀ (i : Int32) (K : Int32 → zR), z_ldI (o_w B X τ σ n c s) .int (some (B + 34)) i K = if ¬ (i < 0 ∨ 12288 ≤ i.toNatClampNeg) then K (σ.1 34 i.toNatClampNeg) else none := fun _ _ => o_ldI (by decide) rfl
theorem oas_34 {B X : Nat} {τ : zK} {σ : zS} {n c s : Nat} : ∀ (i x : Int32) (K : zW → zR), z_stI (o_w B X τ σ n c s) (some (B + 34)) i x K = if ¬ (i < 0 ∨ 12288 ≤ i.toNatClampNeg) then K (o_w B X τ (o_I σ 34 i.toNatClampNeg x) n c s) else none := fun _ _ _ => o_stI (by decide) rfl (fun _ => o_I_eq.trans rfl)
theorem oan_34 {B X : Nat} {τ : zK} {σ : zS} {n c s : Nat} : ∀ K : Int32 → zR, z_len (o_w B X τ σ n c s) (some (B + 34)) K = K (Int32.ofNat 12288) := fun _ => o_len (k := 34) (by decide) (rfl : o_pic B X σ 34 = _)
theorem oal_35 {B X : Nat} {τ : zK} {σ : zS} {n c s : Nat} : ∀ (i : Int32) (K : Int32 → zR), z_ldI (o_w B X τ σ n c s) .int (some (B + 35)) i K = if ¬ (i < 0 ∨ 12288 ≤ i.toNatClampNeg) then K (σ.1 35 i.toNatClampNeg) else none := fun _ _ => o_ldI (by decide) rfl
theorem oas_35 {B X : Nat} {τ : zK} {σ : zS} {n c s : Nat} : ∀ (i x : Int32) (K : zW → zR), z_stI (o_w B X τ σ n c s) (some (B + 35)) i x K = if ¬ (i < 0 ∨ 12288 ≤ i.toNatClampNeg) then K (o_w B X τ (o_I σ 35 i.toNatClampNeg x) n c s) else none := fun _ _ _ => o_stI (by decide) rfl (fun _ => o_I_eq.trans rfl)
theorem oan_35 {B X : Nat} {τ : zK} {σ : zS} {n c s : Nat} : ∀ K : Int32 → zR, z_len (o_w B X τ σ n c s) (some (B + 35)) K = K (Int32.ofNat 12288) := fun _ => o_len (k := 35) (by decide) (rfl : o_pic B X σ 35 = _)
theorem oal_36 {B X : Nat} {τ : zK} {σ : zS} {n c s : Nat} : ∀ (i : Int32) (K : Int32 → zR), z_ldI (o_w B X τ σ n c s) .boolean (some (B + 36)) i K = if ¬ (i < 0 ∨ 12288 ≤ i.toNatClampNeg) then K (σ.1 36 i.toNatClampNeg) else none := fun _ _ => o_ldI (by decide) rfl
theorem oas_36 {B X : Nat} {τ : zK} {σ : zS} {n c s : Nat} : ∀ (i x : Int32) (K : zW → zR), z_stZ (o_w B X τ σ n c s) (some (B + 36)) i x K = if ¬ (i < 0 ∨ 12288 ≤ i.toNatClampNeg) ∧ (x = 0 ∨ x = 1) then K (o_w B X τ (o_I σ 36 i.toNatClampNeg x) n c s) else none := fun _ _ _ => o_stZ (by decide) rfl (fun _ => o_I_eq.trans rfl)
theorem oan_36 {B X : Nat} {τ : zK} {σ : zS} {n c s : Nat} : ∀ K : Int32 → zR, z_len (o_w B X τ σ n c s) (some (B + 36)) K = K (Int32.ofNat 12288) := fun _ => o_len (k := 36) (by decide) (rfl : o_pic B X σ 36 = _)
theorem oal_37 {B X : Nat} {τ : zK} {σ : zS} {n c s : Nat} : ∀ (i : Int32) (K : Int32 → zR), z_ldI (o_w B X τ σ n c s) .boolean (some (B + 37)) i K = if ¬ (i < 0 ∨ 12288 ≤ i.toNatClampNeg) then K (σ.1 37 i.toNatClampNeg) else none := fun _ _ => o_ldI (by decide) rfl
theorem oas_37 {B X : Nat} {τ : zK} {σ : zS} {n c s : Nat} : ∀ (i x : Int32) (K : zW → zR), z_stZ (o_w B X τ σ n c s) (some (B + 37)) i x K = if ¬ (i < 0 ∨ 12288 ≤ i.toNatClampNeg) ∧ (x = 0 ∨ x = 1) then K (o_w B X τ (o_I σ 37 i.toNatClampNeg x) n c s) else none := fun _ _ _ => o_stZ (by decide) rfl (fun _ => o_I_eq.trans rfl)
theorem oan_37 {B X : Nat} {τ : zK} {σ : zS} {n c s : Nat} : ∀ K : Int32 → zR, z_len (o_w B X τ σ n c s) (some (B + 37)) K = K (Int32.ofNat 12288) := fun _ => o_len (k := 37) (by decide) (rfl : o_pic B X σ 37 = _)
theorem oal_38 {B X : Nat} {τ : zK} {σ : zS} {n c s : Nat} : ∀ (i : Int32) (K : Int32 → zR), z_ldI (o_w B X τ σ n c s) .boolean (some (B + 38)) i K = if ¬ (i < 0 ∨ 12288 ≤ i.toNatClampNeg) then K (σ.1 38 i.toNatClampNeg) else none := fun _ _ => o_ldI (by decide) rfl
theorem oas_38 {B X : Nat} {τ : zK} {σ : zS} {n c s : Nat} : ∀ (i x : Int32) (K : zW → zR), z_stZ (o_w B X τ σ n c s) (some (B + 38)) i x K = if ¬ (i < 0 ∨ 12288 ≤ i.toNatClampNeg) ∧ (x = 0 ∨ x = 1) then K (o_w B X τ (o_I σ 38 i.toNatClampNeg x) n c s) else none := fun _ _ _ => o_stZ (by decide) rfl (fun _ => o_I_eq.trans rfl)
theorem oan_38 {B X : Nat} {τ : zK} {σ : zS} {n c s : Nat} : ∀ K : Int32 → zR, z_len (o_w B X τ σ n c s) (some (B + 38)) K = K (Int32.ofNat 12288) := fun _ => o_len (k := 38) (by decide) (rfl : o_pic B X σ 38 = _)
theorem oal_39 {B X : Nat} {τ : zK} {σ : zS} {n c s : Nat} : ∀ (i : Int32) (K : Int32 → zR), z_ldI (o_w B X τ σ n c s) .boolean (some (B + 39)) i K = if ¬ (i < 0 ∨ 3 ≤ i.toNatClampNeg) then K (σ.1 39 i.toNatClampNeg) else none := fun _ _ => o_ldI (by decide) rfl
theorem oas_39 {B X : Nat} {τ : zK} {σ : zS} {n c s : Nat} : ∀ (i x : Int32) (K : zW → zR), z_stZ (o_w B X τ σ n c s) (some (B + 39)) i x K = if ¬ (i < 0 ∨ 3 ≤ i.toNatClampNeg) ∧ (x = 0 ∨ x = 1) then K (o_w B X τ (o_I σ 39 i.toNatClampNeg x) n c s) else none := fun _ _ _ => o_stZ (by decide) rfl (fun _ => o_I_eq.trans rfl)
theorem oan_39 {B X : Nat} {τ : zK} {σ : zS} {n c s : Nat} : ∀ K : Int32 → zR, z_len (o_w B X τ σ n c s) (some (B + 39)) K = K (Int32.ofNat 3) := fun _ => o_len (k := 39) (by decide) (rfl : o_pic B X σ 39 = _)
theorem oal_40 {B X : Nat} {τ : zK} {σ : zS} {n c s : Nat} : ∀ (i : Int32) (K : Int32 → zR), z_ldI (o_w B X τ σ n c s) .int (some (B + 40)) i K = if ¬ (i < 0 ∨ 3 ≤ i.toNatClampNeg) then K (σ.1 40 i.toNatClampNeg) else none := fun _ _ => o_ldI (by decide) rfl
theorem oas_40 {B X : Nat} {τ : zK} {σ : zS} {n c s : Nat} : ∀ (i x : Int32) (K : zW → zR), z_stI (o_w B X τ σ n c s) (some (B + 40)) i x K = if ¬ (i < 0 ∨ 3 ≤ i.toNatClampNeg) then K (o_w B X τ (o_I σ 40 i.toNatClampNeg x) n c s) else none := fun _ _ _ => o_stI (by decide) rfl (fun _ => o_I_eq.trans rfl)
theorem oan_40 {B X : Nat} {τ : zK} {σ : zS} {n c s : Nat} : ∀ K : Int32 → zR, z_len (o_w B X τ σ n c s) (some (B + 40)) K = K (Int32.ofNat 3) := fun _ => o_len (k := 40) (by decide) (rfl : o_pic B X σ 40 = _)
theorem oal_41 {B X : Nat} {τ : zK} {σ : zS} {n c s : Nat} : ∀ (i : Int32) (K : Int32 → zR), z_ldI (o_w B X τ σ n c s) .int (some (B + 41)) i K = if ¬ (i < 0 ∨ 3 ≤ i.toNatClampNeg) then K (σ.1 41 i.toNatClampNeg) else none := fun _ _ => o_ldI (by decide) rfl
theorem oas_41 {B X : Nat} {τ : zK} {σ : zS} {n c s : Nat} : ∀ (i x : Int32) (K : zW → zR), z_stI (o_w B X τ σ n c s) (some (B + 41)) i x K = if ¬ (i < 0 ∨ 3 ≤ i.toNatClampNeg) then K (o_w B X τ (o_I σ 41 i.toNatClampNeg x) n c s) else none := fun _ _ _ => o_stI (by decide) rfl (fun _ => o_I_eq.trans rfl)
theorem oan_41 {B X : Nat} {τ : zK} {σ : zS} {n c s : Nat} : ∀ K : Int32 → zR, z_len (o_w B X τ σ n c s) (some (B + 41)) K = K (Int32.ofNat 3) := fun _ => o_len (k := 41) (by decide) (rfl : o_pic B X σ 41 = _)
theorem oal_42 {B X : Nat} {τ : zK} {σ : zS} {n c s : Nat} : ∀ (i : Int32) (K : Int32 → zR), z_ldI (o_w B X τ σ n c s) .int (some (B + 42)) i K = if ¬ (i < 0 ∨ 24576 ≤ i.toNatClampNeg) then K (σ.1 42 i.toNatClampNeg) else none := fun _ _ => o_ldI (by decide) rfl
theorem oas_42 {B X : Nat} {τ : zK} {σ : zS} {n c s : Nat} : ∀ (i x : Int32) (K : zW → zR), z_stI (o_w B X τ σ n c s) (some (B + 42)) i x K = if ¬ (i < 0 ∨ 24576 ≤ i.toNatClampNeg) then K (o_w B X τ (o_I σ 42 i.toNatClampNeg x) n c s) else none := fun _ _ _ => o_stI (by decide) rfl (fun _ => o_I_eq.trans rfl)
theorem oan_42 {B X : Nat} {τ : zK} {σ : zS} {n c s : Nat} : ∀ K : Int32 → zR, z_len (o_w B X τ σ n c s) (some (B + 42)) K = K (Int32.ofNat 24576) := fun _ => o_len (k := 42) (by decide) (rfl : o_pic B X σ 42 = _)
theorem oal_43 {B X : Nat} {τ : zK} {σ : zS} {n c s : Nat} : ∀ (i : Int32) (K : Int32 → zR), z_ldI (o_w B X τ σ n c s) .int (some (B + 43)) i K = if ¬ (i < 0 ∨ 6 ≤ i.toNatClampNeg) then K (σ.1 43 i.toNatClampNeg) else none := fun _ _ => o_ldI (by decide) rfl
theorem oas_43 {B X : Nat} {τ : zK} {σ : zS} {n c s : Nat} : ∀ (i x : Int32) (K : zW → zR), z_stI (o_w B X τ σ n c s) (some (B + 43)) i x K = if ¬ (i < 0 ∨ 6 ≤ i.toNatClampNeg) then K (o_w B X τ (o_I σ 43 i.toNatClampNeg x) n c s) else none := fun _ _ _ => o_stI (by decide) rfl (fun _ => o_I_eq.trans rfl)
theorem oan_43 {B X : Nat} {τ : zK} {σ : zS} {n c s : Nat} : ∀ K : Int32 → zR, z_len (o_w B X τ σ n c s) (some (B + 43)) K = K (Int32.ofNat 6) := fun _ => o_len (k := 43) (by decide) (rfl : o_pic B X σ 43 = _)
theorem oal_44 {B X : Nat} {τ : zK} {σ : zS} {n c s : Nat} : ∀ (i : Int32) (K : Int32 → zR), z_ldI (o_w B X τ σ n c s) .int (some (B + 44)) i K = if ¬ (i < 0 ∨ 6 ≤ i.toNatClampNeg) then K (σ.1 44 i.toNatClampNeg) else none := fun _ _ => o_ldI (by decide) rfl
theorem oas_44 {B X : Nat} {τ : zK} {σ : zS} {n c s : Nat} : ∀ (i x : Int32) (K : zW → zR), z_stI (o_w B X τ σ n c s) (some (B + 44)) i x K = if ¬ (i < 0 ∨ 6 ≤ i.toNatClampNeg) then K (o_w B X τ (o_I σ 44 i.toNatClampNeg x) n c s) else none := fun _ _ _ => o_stI (by decide) rfl (fun _ => o_I_eq.trans rfl)
theorem oan_44 {B X : Nat} {τ : zK} {σ : zS} {n c s : Nat} : ∀ K : Int32 → zR, z_len (o_w B X τ σ n c s) (some (B + 44)) K = K (Int32.ofNat 6) := fun _ => o_len (k := 44) (by decide) (rfl : o_pic B X σ 44 = _)
theorem oal_45 {B X : Nat} {τ : zK} {σ : zS} {n c s : Nat} : ∀ (i : Int32) (K : Int64 → zR), z_ldL (o_w B X τ σ n c s) (some (B + 45)) i K = if ¬ (i < 0 ∨ 64 ≤ i.toNatClampNeg) then K (σ.2.1 45 i.toNatClampNeg) else none := fun _ _ => o_ldL (by decide) rfl
theorem oas_45 {B X : Nat} {τ : zK} {σ : zS} {n c s : Nat} : ∀ (i : Int32) (x : Int64) (K : zW → zR), z_stL (o_w B X τ σ n c s) (some (B + 45)) i x K = if ¬ (i < 0 ∨ 64 ≤ i.toNatClampNeg) then K (o_w B X τ (o_L σ 45 i.toNatClampNeg x) n c s) else none := fun _ _ _ => o_stL (by decide) rfl (fun _ => o_L_eq.trans rfl)
theorem oan_45 {B X : Nat} {τ : zK} {σ : zS} {n c s : Nat} : ∀ K : Int32 → zR, z_len (o_w B X τ σ n c s) (some (B + 45)) K = K (Int32.ofNat 64) := fun _ => o_len (k := 45) (by decide) (rfl : o_pic B X σ 45 = _)
theorem oal_46 {B X : Nat} {τ : zK} {σ : zS} {n c s : Nat} : ∀ (i : Int32) (K : Int64 → zR), z_ldL (o_w B X τ σ n c s) (some (B + 46)) i K = if ¬ (i < 0 ∨ 64 ≤ i.toNatClampNeg) then K (σ.2.1 46 i.toNatClampNeg) else none := fun _ _ => o_ldL (by decide) rfl
theorem oas_46 {B X : Nat} {τ : zK} {σ : zS} {n c s : Nat} : ∀ (i : Int32) (x : Int64) (K : zW → zR), z_stL (o_w B X τ σ n c s) (some (B + 46)) i x K = if ¬ (i < 0 ∨ 64 ≤ i.toNatClampNeg) then K (o_w B X τ (o_L σ 46 i.toNatClampNeg x) n c s) else none := fun _ _ _ => o_stL (by decide) rfl (fun _ => o_L_eq.trans rfl)
theorem oan_46 {B X : Nat} {τ : zK} {σ : zS} {n c s : Nat} : ∀ K : Int32 → zR, z_len (o_w B X τ σ n c s) (some (B + 46)) K = K (Int32.ofNat 64) := fun _ => o_len (k := 46) (by decide) (rfl : o_pic B X σ 46 = _)
theorem oal_47 {B X : Nat} {τ : zK} {σ : zS} {n c s : Nat} : ∀ (i : Int32) (K : Int32 → zR), z_ldI (o_w B X τ σ n c s) .int (some (B + 47)) i K = if ¬ (i < 0 ∨ 3 ≤ i.toNatClampNeg) then K (σ.1 47 i.toNatClampNeg) else none := fun _ _ => o_ldI (by decide) rfl
theorem oas_47 {B X : Nat} {τ : zK} {σ : zS} {n c s : Nat} : ∀ (i x : Int32) (K : zW → zR), z_stI (o_w B X τ σ n c s) (some (B + 47)) i x K = if ¬ (i < 0 ∨ 3 ≤ i.toNatClampNeg) then K (o_w B X τ (o_I σ 47 i.toNatClampNeg x) n c s) else none := fun _ _ _ => o_stI (by decide) rfl (fun _ => o_I_eq.trans rfl)
theorem oan_47 {B X : Nat} {τ : zK} {σ : zS} {n c s : Nat} : ∀ K : Int32 → zR, z_len (o_w B X τ σ n c s) (some (B + 47)) K = K (Int32.ofNat 3) := fun _ => o_len (k := 47) (by decide) (rfl : o_pic B X σ 47 = _)
theorem oal_48 {B X : Nat} {τ : zK} {σ : zS} {n c s : Nat} : ∀ (i : Int32) (K : Int64 → zR), z_ldL (o_w B X τ σ n c s) (some (B + 48)) i K = if ¬ (i < 0 ∨ 195 ≤ i.toNatClampNeg) then K (σ.2.1 48 i.toNatClampNeg) else none := fun _ _ => o_ldL (by decide) rfl
theorem oas_48 {B X : Nat} {τ : zK} {σ : zS} {n c s : Nat} : ∀ (i : Int32) (x : Int64) (K : zW → zR), z_stL (o_w B X τ σ n c s) (some (B + 48)) i x K = if ¬ (i < 0 ∨ 195 ≤ i.toNatClampNeg) then K (o_w B X τ (o_L σ 48 i.toNatClampNeg x) n c s) else none := fun _ _ _ => o_stL (by decide) rfl (fun _ => o_L_eq.trans rfl)
theorem oan_48 {B X : Nat} {τ : zK} {σ : zS} {n c s : Nat} : ∀ K : Int32 → zR, z_len (o_w B X τ σ n c s) (some (B + 48)) K = K (Int32.ofNat 195) := fun _ => o_len (k := 48) (by decide) (rfl : o_pic B X σ 48 = _)
theorem oal_49 {B X : Nat} {τ : zK} {σ : zS} {n c s : Nat} : ∀ (i : Int32) (K : Int64 → zR), z_ldL (o_w B X τ σ n c s) (some (B + 49)) i K = if ¬ (i < 0 ∨ 195 ≤ i.toNatClampNeg) then K (σ.2.1 49 i.toNatClampNeg) else none := fun _ _ => o_ldL (by decide) rfl
theorem oas_49 {B X : Nat} {τ : zK} {σ : zS} {n c s : Nat} : ∀ (i : Int32) (x : Int64) (K : zW → zR), z_stL (o_w B X τ σ n c s) (some (B + 49)) i x K = if ¬ (i < 0 ∨ 195 ≤ i.toNatClampNeg) then K (o_w B X τ (o_L σ 49 i.toNatClampNeg x) n c s) else none := fun _ _ _ => o_stL (by decide) rfl (fun _ => o_L_eq.trans rfl)
theorem oan_49 {B X : Nat} {τ : zK} {σ : zS} {n c s : Nat} : ∀ K : Int32 → zR, z_len (o_w B X τ σ n c s) (some (B + 49)) K = K (Int32.ofNat 195) := fun _ => o_len (k := 49) (by decide) (rfl : o_pic B X σ 49 = _)
theorem oal_50 {B X : Nat} {τ : zK} {σ : zS} {n c s : Nat} : ∀ (i : Int32) (K : Int64 → zR), z_ldL (o_w B X τ σ n c s) (some (B + 50)) i K = if ¬ (i < 0 ∨ 3 ≤ i.toNatClampNeg) then K (σ.2.1 50 i.toNatClampNeg) else none := fun _ _ => o_ldL (by decide) rfl
theorem oas_50 {B X : Nat} {τ : zK} {σ : zS} {n c s : Nat} : ∀ (i : Int32) (x : Int64) (K : zW → zR), z_stL (o_w B X τ σ n c s) (some (B + 50)) i x K = if ¬ (i < 0 ∨ 3 ≤ i.toNatClampNeg) then K (o_w B X τ (o_L σ 50 i.toNatClampNeg x) n c s) else none := fun _ _ _ => o_stL (by decide) rfl (fun _ => o_L_eq.trans rfl)
theorem oan_50 {B X : Nat} {τ : zK} {σ : zS} {n c s : Nat} : ∀ K : Int32 → zR, z_len (o_w B X τ σ n c s) (some (B + 50)) K = K (Int32.ofNat 3) := fun _ => o_len (k := 50) (by decide) (rfl : o_pic B X σ 50 = _)
theorem oal_51 {B X : Nat} {τ : zK} {σ : zS} {n c s : Nat} : ∀ (i : Int32) (K : Int32 → zR), z_ldI (o_w B X τ σ n c s) .int (some (B + 51)) i K = if ¬ (i < 0 ∨ 3 ≤ i.toNatClampNeg) then K (σ.1 51 i.toNatClampNeg) else none := fun _ _ => o_ldI (by decide) rfl
theorem oas_51 {B X : Nat} {τ : zK} {σ : zS} {n c s : Nat} : ∀ (i x : Int32) (K : zW → zR), z_stI (o_w B X τ σ n c s) (some (B + 51)) i x K = if ¬ (i < 0 ∨ 3 ≤ i.toNatClampNeg) then K (o_w B X τ (o_I σ 51 i.toNatClampNeg x) n c s) else none := fun _ _ _ => o_stI (by decide) rfl (fun _ => o_I_eq.trans rfl)
theorem oan_51 {B X : Nat} {τ : zK} {σ : zS} {n c s : Nat} : ∀ K : Int32 → zR, z_len (o_w B X τ σ n c s) (some (B + 51)) K = K (Int32.ofNat 3) := fun _ => o_len (k := 51) (by decide) (rfl : o_pic B X σ 51 = _)
theorem oal_52 {B X : Nat} {τ : zK} {σ : zS} {n c s : Nat} : ∀ (i : Int32) (K : Int32 → zR), z_ldI (o_w B X τ σ n c s) .int (some (B + 52)) i K = if ¬ (i < 0 ∨ 3 ≤ i.toNatClampNeg) then K (σ.1 52 i.toNatClampNeg) else none := fun _ _ => o_ldI (by decide) rfl
theorem oas_52 {B X : Nat} {τ : zK} {σ : zS} {n c s : Nat} : ∀ (i x : Int32) (K : zW → zR), z_stI (o_w B X τ σ n c s) (some (B + 52)) i x K = if ¬ (i < 0 ∨ 3 ≤ i.toNatClampNeg) then K (o_w B X τ (o_I σ 52 i.toNatClampNeg x) n c s) else none := fun _ _ _ => o_stI (by decide) rfl (fun _ => o_I_eq.trans rfl)
theorem oan_52 {B X : Nat} {τ : zK} {σ : zS} {n c s : Nat} : ∀ K : Int32 → zR, z_len (o_w B X τ σ n c s) (some (B + 52)) K = K (Int32.ofNat 3) := fun _ => o_len (k := 52) (by decide) (rfl : o_pic B X σ 52 = _)
theorem oal_53 {B X : Nat} {τ : zK} {σ : zS} {n c s : Nat} : ∀ (i : Int32) (K : Int32 → zR), z_ldI (o_w B X τ σ n c s) .int (some (B + 53)) i K = if ¬ (i < 0 ∨ 3 ≤ i.toNatClampNeg) then K (σ.1 53 i.toNatClampNeg) else none := fun _ _ => o_ldI (by decide) rfl
theorem oas_53 {B X : Nat} {τ : zK} {σ : zS} {n c s : Nat} : ∀ (i x : Int32) (K : zW → zR), z_stI (o_w B X τ σ n c s) (some (B + 53)) i x K = if ¬ (i < 0 ∨ 3 ≤ i.toNatClampNeg) then K (o_w B X τ (o_I σ 53 i.toNatClampNeg x) n c s) else none := fun _ _ _ => o_stI (by decide) rfl (fun _ => o_I_eq.trans rfl)
theorem oan_53 {B X : Nat} {τ : zK} {σ : zS} {n c s : Nat} : ∀ K : Int32 → zR, z_len (o_w B X τ σ n c s) (some (B + 53)) K = K (Int32.ofNat 3) := fun _ => o_len (k := 53) (by decide) (rfl : o_pic B X σ 53 = _)
theorem oal_54 {B X : Nat} {τ : zK} {σ : zS} {n c s : Nat} : ∀ (i : Int32) (K : Int32 → zR), z_ldI (o_w B X τ σ n c s) .boolean (some (B + 54)) i K = if ¬ (i < 0 ∨ 3 ≤ i.toNatClampNeg) then K (σ.1 54 i.toNatClampNeg) else none := fun _ _ => o_ldI (by decide) rfl
theorem oas_54 {B X : Nat} {τ : zK} {σ : zS} {n c s : Nat} : ∀ (i x : Int32) (K : zW → zR), z_stZ (o_w B X τ σ n c s) (some (B + 54)) i x K = if ¬ (i < 0 ∨ 3 ≤ i.toNatClampNeg) ∧ (x = 0 ∨ x = 1) then K (o_w B X τ (o_I σ 54 i.toNatClampNeg x) n c s) else none := fun _ _ _ => o_stZ (by decide) rfl (fun _ => o_I_eq.trans rfl)
theorem oan_54 {B X : Nat} {τ : zK} {σ : zS} {n c s : Nat} : ∀ K : Int32 → zR, z_len (o_w B X τ σ n c s) (some (B + 54)) K = K (Int32.ofNat 3) := fun _ => o_len (k := 54) (by decide) (rfl : o_pic B X σ 54 = _)
theorem oal_55 {B X : Nat} {τ : zK} {σ : zS} {n c s : Nat} : ∀ (i : Int32) (K : Int64 → zR), z_ldL (o_w B X τ σ n c s) (some (B + 55)) i K = if ¬ (i < 0 ∨ 1 ≤ i.toNatClampNeg) then K (σ.2.1 55 i.toNatClampNeg) else none := fun _ _ => o_ldL (by decide) rfl
theorem oas_55 {B X : Nat} {τ : zK} {σ : zS} {n c s : Nat} : ∀ (i : Int32) (x : Int64) (K : zW → zR), z_stL (o_w B X τ σ n c s) (some (B + 55)) i x K = if ¬ (i < 0 ∨ 1 ≤ i.toNatClampNeg) then K (o_w B X τ (o_L σ 55 i.toNatClampNeg x) n c s) else none := fun _ _ _ => o_stL (by decide) rfl (fun _ => o_L_eq.trans rfl)
theorem oan_55 {B X : Nat} {τ : zK} {σ : zS} {n c s : Nat} : ∀ K : Int32 → zR, z_len (o_w B X τ σ n c s) (some (B + 55)) K = K (Int32.ofNat 1) := fun _ => o_len (k := 55) (by decide) (rfl : o_pic B X σ 55 = _)
theorem oan_1 {B X : Nat} {τ : zK} {σ : zS} {n c s : Nat} : ∀ K : Int32 → zR, z_len (o_w B X τ σ n c s) (some (B + 1)) K = K (Int32.ofNat 3) := fun _ => o_len (k := 1) (by decide) (rfl : o_pic B X σ 1 = _)
theorem oal_1 {B X : Nat} {τ : zK} {σ : zS} {n c s : Nat} : ∀ (i : Int32) (K : Option Nat → zR), z_ldR (o_w B X τ σ n c s) (.object "AckBook$Space") (some (B + 1)) i K = if ¬ (i < 0 ∨ 3 ≤ i.toNatClampNeg) then K (some (B + (2 + 8 * i.toNatClampNeg))) else none := fun i K => by
  simp only [z_ldR, o_arr (by decide : 1 < 56) (rfl : o_pic B X σ 1 = _)]
  split
  · rename_i h
    rw [if_pos (by omega)]
  · rfl
theorem oln_s8 {B X : Nat} {τ : zK} {σ : zS} {n c s : Nat} {k : Nat} (hk : k < 3) {i : Nat} (h : i < 65) : ∀ K : Int64 → zR, z_ldL (o_w B X τ σ n c s) (some (B + (8 + 8 * k))) (nI i) K = K (σ.2.1 (8 + 8 * k) i) := fun _ => by rw [oal_s8 hk, if_pos (nI_in h (by decide)), nI_clamp (Nat.lt_trans h (by decide))]
theorem osn_s8 {B X : Nat} {τ : zK} {σ : zS} {n c s : Nat} {k : Nat} (hk : k < 3) {i : Nat} (h : i < 65) : ∀ (x : Int64) (K : zW → zR), z_stL (o_w B X τ σ n c s) (some (B + (8 + 8 * k))) (nI i) x K = K (o_w B X τ (o_L σ (8 + 8 * k) i x) n c s) := fun _ _ => by rw [oas_s8 hk, if_pos (nI_in h (by decide)), nI_clamp (Nat.lt_trans h (by decide))]
theorem oln_s9 {B X : Nat} {τ : zK} {σ : zS} {n c s : Nat} {k : Nat} (hk : k < 3) {i : Nat} (h : i < 65) : ∀ K : Int64 → zR, z_ldL (o_w B X τ σ n c s) (some (B + (9 + 8 * k))) (nI i) K = K (σ.2.1 (9 + 8 * k) i) := fun _ => by rw [oal_s9 hk, if_pos (nI_in h (by decide)), nI_clamp (Nat.lt_trans h (by decide))]
theorem osn_s9 {B X : Nat} {τ : zK} {σ : zS} {n c s : Nat} {k : Nat} (hk : k < 3) {i : Nat} (h : i < 65) : ∀ (x : Int64) (K : zW → zR), z_stL (o_w B X τ σ n c s) (some (B + (9 + 8 * k))) (nI i) x K = K (o_w B X τ (o_L σ (9 + 8 * k) i x) n c s) := fun _ _ => by rw [oas_s9 hk, if_pos (nI_in h (by decide)), nI_clamp (Nat.lt_trans h (by decide))]
theorem oln_27 {B X : Nat} {τ : zK} {σ : zS} {n c s : Nat} {i : Nat} (h : i < 64) : ∀ K : Int64 → zR, z_ldL (o_w B X τ σ n c s) (some (B + 27)) (nI i) K = K (σ.2.1 27 i) := fun _ => by rw [oal_27, if_pos (nI_in h (by decide)), nI_clamp (Nat.lt_trans h (by decide))]
theorem osn_27 {B X : Nat} {τ : zK} {σ : zS} {n c s : Nat} {i : Nat} (h : i < 64) : ∀ (x : Int64) (K : zW → zR), z_stL (o_w B X τ σ n c s) (some (B + 27)) (nI i) x K = K (o_w B X τ (o_L σ 27 i x) n c s) := fun _ _ => by rw [oas_27, if_pos (nI_in h (by decide)), nI_clamp (Nat.lt_trans h (by decide))]
theorem oln_28 {B X : Nat} {τ : zK} {σ : zS} {n c s : Nat} {i : Nat} (h : i < 64) : ∀ K : Int64 → zR, z_ldL (o_w B X τ σ n c s) (some (B + 28)) (nI i) K = K (σ.2.1 28 i) := fun _ => by rw [oal_28, if_pos (nI_in h (by decide)), nI_clamp (Nat.lt_trans h (by decide))]
theorem osn_28 {B X : Nat} {τ : zK} {σ : zS} {n c s : Nat} {i : Nat} (h : i < 64) : ∀ (x : Int64) (K : zW → zR), z_stL (o_w B X τ σ n c s) (some (B + 28)) (nI i) x K = K (o_w B X τ (o_L σ 28 i x) n c s) := fun _ _ => by rw [oas_28, if_pos (nI_in h (by decide)), nI_clamp (Nat.lt_trans h (by decide))]
theorem oln_32 {B X : Nat} {τ : zK} {σ : zS} {n c s : Nat} {i : Nat} (h : i < 3) : ∀ K : Int32 → zR, z_ldI (o_w B X τ σ n c s) .int (some (B + 32)) (nI i) K = K (σ.1 32 i) := fun _ => by rw [oal_32, if_pos (nI_in h (by decide)), nI_clamp (Nat.lt_trans h (by decide))]
theorem osn_32 {B X : Nat} {τ : zK} {σ : zS} {n c s : Nat} {i : Nat} (h : i < 3) : ∀ (x : Int32) (K : zW → zR), z_stI (o_w B X τ σ n c s) (some (B + 32)) (nI i) x K = K (o_w B X τ (o_I σ 32 i x) n c s) := fun _ _ => by rw [oas_32, if_pos (nI_in h (by decide)), nI_clamp (Nat.lt_trans h (by decide))]
theorem oln_33 {B X : Nat} {τ : zK} {σ : zS} {n c s : Nat} {i : Nat} (h : i < 12288) : ∀ K : Int32 → zR, z_ldI (o_w B X τ σ n c s) .int (some (B + 33)) (nI i) K = K (σ.1 33 i) := fun _ => by rw [oal_33, if_pos (nI_in h (by decide)), nI_clamp (Nat.lt_trans h (by decide))]
theorem osn_33 {B X : Nat} {τ : zK} {σ : zS} {n c s : Nat} {i : Nat} (h : i < 12288) : ∀ (x : Int32) (K : zW → zR), z_stI (o_w B X τ σ n c s) (some (B + 33)) (nI i) x K = K (o_w B X τ (o_I σ 33 i x) n c s) := fun _ _ => by rw [oas_33, if_pos (nI_in h (by decide)), nI_clamp (Nat.lt_trans h (by decide))]
theorem oln_34 {B X : Nat} {τ : zK} {σ : zS} {n c s : Nat} {i : Nat} (h : i < 12288) : ∀ K : Int32 → zR, z_ldI (o_w B X τ σ n c s) .int (some (B + 34)) (nI i) K = K (σ.1 34 i) := fun _ => by rw [oal_34, if_pos (nI_in h (by decide)), nI_clamp (Nat.lt_trans h (by decide))]
theorem osn_34 {B X : Nat} {τ : zK} {σ : zS} {n c s : Nat} {i : Nat} (h : i < 12288) : ∀ (x : Int32) (K : zW → zR), z_stI (o_w B X τ σ n c s) (some (B + 34)) (nI i) x K = K (o_w B X τ (o_I σ 34 i x) n c s) := fun _ _ => by rw [oas_34, if_pos (nI_in h (by decide)), nI_clamp (Nat.lt_trans h (by decide))]
theorem oln_35 {B X : Nat} {τ : zK} {σ : zS} {n c s : Nat} {i : Nat} (h : i < 12288) : ∀ K : Int32 → zR, z_ldI (o_w B X τ σ n c s) .int (some (B + 35)) (nI i) K = K (σ.1 35 i) := fun _ => by rw [oal_35, if_pos (nI_in h (by decide)), nI_clamp (Nat.lt_trans h (by decide))]
theorem osn_35 {B X : Nat} {τ : zK} {σ : zS} {n c s : Nat} {i : Nat} (h : i < 12288) : ∀ (x : Int32) (K : zW → zR), z_stI (o_w B X τ σ n c s) (some (B + 35)) (nI i) x K = K (o_w B X τ (o_I σ 35 i x) n c s) := fun _ _ => by rw [oas_35, if_pos (nI_in h (by decide)), nI_clamp (Nat.lt_trans h (by decide))]
theorem oln_36 {B X : Nat} {τ : zK} {σ : zS} {n c s : Nat} {i : Nat} (h : i < 12288) : ∀ K : Int32 → zR, z_ldI (o_w B X τ σ n c s) .boolean (some (B + 36)) (nI i) K = K (σ.1 36 i) := fun _ => by rw [oal_36, if_pos (nI_in h (by decide)), nI_clamp (Nat.lt_trans h (by decide))]
theorem osn_36 {B X : Nat} {τ : zK} {σ : zS} {n c s : Nat} {i : Nat} (h : i < 12288) : ∀ (x : Int32) (K : zW → zR), z_stZ (o_w B X τ σ n c s) (some (B + 36)) (nI i) x K = if x = 0 ∨ x = 1 then K (o_w B X τ (o_I σ 36 i x) n c s) else none := fun x _ => by
  rw [oas_36, nI_clamp (Nat.lt_trans h (by decide))]
  by_cases hx : x = 0 ∨ x = 1
  · rw [if_pos ⟨by have h9 := nI_in h (by decide); rw [nI_clamp (Nat.lt_trans h (by decide))] at h9; exact h9, hx⟩, if_pos hx]
  · rw [if_neg (fun q => hx q.2), if_neg hx]
theorem oln_37 {B X : Nat} {τ : zK} {σ : zS} {n c s : Nat} {i : Nat} (h : i < 12288) : ∀ K : Int32 → zR, z_ldI (o_w B X τ σ n c s) .boolean (some (B + 37)) (nI i) K = K (σ.1 37 i) := fun _ => by rw [oal_37, if_pos (nI_in h (by decide)), nI_clamp (Nat.lt_trans h (by decide))]
theorem osn_37 {B X : Nat} {τ : zK} {σ : zS} {n c s : Nat} {i : Nat} (h : i < 12288) : ∀ (x : Int32) (K : zW → zR), z_stZ (o_w B X τ σ n c s) (some (B + 37)) (nI i) x K = if x = 0 ∨ x = 1 then K (o_w B X τ (o_I σ 37 i x) n c s) else none := fun x _ => by
  rw [oas_37, nI_clamp (Nat.lt_trans h (by decide))]
  by_cases hx : x = 0 ∨ x = 1
  · rw [if_pos ⟨by have h9 := nI_in h (by decide); rw [nI_clamp (Nat.lt_trans h (by decide))] at h9; exact h9, hx⟩, if_pos hx]
  · rw [if_neg (fun q => hx q.2), if_neg hx]
theorem oln_38 {B X : Nat} {τ : zK} {σ : zS} {n c s : Nat} {i : Nat} (h : i < 12288) : ∀ K : Int32 → zR, z_ldI (o_w B X τ σ n c s) .boolean (some (B + 38)) (nI i) K = K (σ.1 38 i) := fun _ => by rw [oal_38, if_pos (nI_in h (by decide)), nI_clamp (Nat.lt_trans h (by decide))]
theorem osn_38 {B X : Nat} {τ : zK} {σ : zS} {n c s : Nat} {i : Nat} (h : i < 12288) : ∀ (x : Int32) (K : zW → zR), z_stZ (o_w B X τ σ n c s) (some (B + 38)) (nI i) x K = if x = 0 ∨ x = 1 then K (o_w B X τ (o_I σ 38 i x) n c s) else none := fun x _ => by
  rw [oas_38, nI_clamp (Nat.lt_trans h (by decide))]
  by_cases hx : x = 0 ∨ x = 1
  · rw [if_pos ⟨by have h9 := nI_in h (by decide); rw [nI_clamp (Nat.lt_trans h (by decide))] at h9; exact h9, hx⟩, if_pos hx]
  · rw [if_neg (fun q => hx q.2), if_neg hx]
theorem oln_39 {B X : Nat} {τ : zK} {σ : zS} {n c s : Nat} {i : Nat} (h : i < 3) : ∀ K : Int32 → zR, z_ldI (o_w B X τ σ n c s) .boolean (some (B + 39)) (nI i) K = K (σ.1 39 i) := fun _ => by rw [oal_39, if_pos (nI_in h (by decide)), nI_clamp (Nat.lt_trans h (by decide))]
theorem osn_39 {B X : Nat} {τ : zK} {σ : zS} {n c s : Nat} {i : Nat} (h : i < 3) : ∀ (x : Int32) (K : zW → zR), z_stZ (o_w B X τ σ n c s) (some (B + 39)) (nI i) x K = if x = 0 ∨ x = 1 then K (o_w B X τ (o_I σ 39 i x) n c s) else none := fun x _ => by
  rw [oas_39, nI_clamp (Nat.lt_trans h (by decide))]
  by_cases hx : x = 0 ∨ x = 1
  · rw [if_pos ⟨by have h9 := nI_in h (by decide); rw [nI_clamp (Nat.lt_trans h (by decide))] at h9; exact h9, hx⟩, if_pos hx]
  · rw [if_neg (fun q => hx q.2), if_neg hx]
theorem oln_40 {B X : Nat} {τ : zK} {σ : zS} {n c s : Nat} {i : Nat} (h : i < 3) : ∀ K : Int32 → zR, z_ldI (o_w B X τ σ n c s) .int (some (B + 40)) (nI i) K = K (σ.1 40 i) := fun _ => by rw [oal_40, if_pos (nI_in h (by decide)), nI_clamp (Nat.lt_trans h (by decide))]
theorem osn_40 {B X : Nat} {τ : zK} {σ : zS} {n c s : Nat} {i : Nat} (h : i < 3) : ∀ (x : Int32) (K : zW → zR), z_stI (o_w B X τ σ n c s) (some (B + 40)) (nI i) x K = K (o_w B X τ (o_I σ 40 i x) n c s) := fun _ _ => by rw [oas_40, if_pos (nI_in h (by decide)), nI_clamp (Nat.lt_trans h (by decide))]
theorem oln_41 {B X : Nat} {τ : zK} {σ : zS} {n c s : Nat} {i : Nat} (h : i < 3) : ∀ K : Int32 → zR, z_ldI (o_w B X τ σ n c s) .int (some (B + 41)) (nI i) K = K (σ.1 41 i) := fun _ => by rw [oal_41, if_pos (nI_in h (by decide)), nI_clamp (Nat.lt_trans h (by decide))]
theorem osn_41 {B X : Nat} {τ : zK} {σ : zS} {n c s : Nat} {i : Nat} (h : i < 3) : ∀ (x : Int32) (K : zW → zR), z_stI (o_w B X τ σ n c s) (some (B + 41)) (nI i) x K = K (o_w B X τ (o_I σ 41 i x) n c s) := fun _ _ => by rw [oas_41, if_pos (nI_in h (by decide)), nI_clamp (Nat.lt_trans h (by decide))]
theorem oln_42 {B X : Nat} {τ : zK} {σ : zS} {n c s : Nat} {i : Nat} (h : i < 24576) : ∀ K : Int32 → zR, z_ldI (o_w B X τ σ n c s) .int (some (B + 42)) (nI i) K = K (σ.1 42 i) := fun _ => by rw [oal_42, if_pos (nI_in h (by decide)), nI_clamp (Nat.lt_trans h (by decide))]
theorem osn_42 {B X : Nat} {τ : zK} {σ : zS} {n c s : Nat} {i : Nat} (h : i < 24576) : ∀ (x : Int32) (K : zW → zR), z_stI (o_w B X τ σ n c s) (some (B + 42)) (nI i) x K = K (o_w B X τ (o_I σ 42 i x) n c s) := fun _ _ => by rw [oas_42, if_pos (nI_in h (by decide)), nI_clamp (Nat.lt_trans h (by decide))]
theorem oln_43 {B X : Nat} {τ : zK} {σ : zS} {n c s : Nat} {i : Nat} (h : i < 6) : ∀ K : Int32 → zR, z_ldI (o_w B X τ σ n c s) .int (some (B + 43)) (nI i) K = K (σ.1 43 i) := fun _ => by rw [oal_43, if_pos (nI_in h (by decide)), nI_clamp (Nat.lt_trans h (by decide))]
theorem osn_43 {B X : Nat} {τ : zK} {σ : zS} {n c s : Nat} {i : Nat} (h : i < 6) : ∀ (x : Int32) (K : zW → zR), z_stI (o_w B X τ σ n c s) (some (B + 43)) (nI i) x K = K (o_w B X τ (o_I σ 43 i x) n c s) := fun _ _ => by rw [oas_43, if_pos (nI_in h (by decide)), nI_clamp (Nat.lt_trans h (by decide))]
theorem oln_44 {B X : Nat} {τ : zK} {σ : zS} {n c s : Nat} {i : Nat} (h : i < 6) : ∀ K : Int32 → zR, z_ldI (o_w B X τ σ n c s) .int (some (B + 44)) (nI i) K = K (σ.1 44 i) := fun _ => by rw [oal_44, if_pos (nI_in h (by decide)), nI_clamp (Nat.lt_trans h (by decide))]
theorem osn_44 {B X : Nat} {τ : zK} {σ : zS} {n c s : Nat} {i : Nat} (h : i < 6) : ∀ (x : Int32) (K : zW → zR), z_stI (o_w B X τ σ n c s) (some (B + 44)) (nI i) x K = K (o_w B X τ (o_I σ 44 i x) n c s) := fun _ _ => by rw [oas_44, if_pos (nI_in h (by decide)), nI_clamp (Nat.lt_trans h (by decide))]
theorem oln_45 {B X : Nat} {τ : zK} {σ : zS} {n c s : Nat} {i : Nat} (h : i < 64) : ∀ K : Int64 → zR, z_ldL (o_w B X τ σ n c s) (some (B + 45)) (nI i) K = K (σ.2.1 45 i) := fun _ => by rw [oal_45, if_pos (nI_in h (by decide)), nI_clamp (Nat.lt_trans h (by decide))]
theorem osn_45 {B X : Nat} {τ : zK} {σ : zS} {n c s : Nat} {i : Nat} (h : i < 64) : ∀ (x : Int64) (K : zW → zR), z_stL (o_w B X τ σ n c s) (some (B + 45)) (nI i) x K = K (o_w B X τ (o_L σ 45 i x) n c s) := fun _ _ => by rw [oas_45, if_pos (nI_in h (by decide)), nI_clamp (Nat.lt_trans h (by decide))]
theorem oln_46 {B X : Nat} {τ : zK} {σ : zS} {n c s : Nat} {i : Nat} (h : i < 64) : ∀ K : Int64 → zR, z_ldL (o_w B X τ σ n c s) (some (B + 46)) (nI i) K = K (σ.2.1 46 i) := fun _ => by rw [oal_46, if_pos (nI_in h (by decide)), nI_clamp (Nat.lt_trans h (by decide))]
theorem osn_46 {B X : Nat} {τ : zK} {σ : zS} {n c s : Nat} {i : Nat} (h : i < 64) : ∀ (x : Int64) (K : zW → zR), z_stL (o_w B X τ σ n c s) (some (B + 46)) (nI i) x K = K (o_w B X τ (o_L σ 46 i x) n c s) := fun _ _ => by rw [oas_46, if_pos (nI_in h (by decide)), nI_clamp (Nat.lt_trans h (by decide))]
theorem oln_47 {B X : Nat} {τ : zK} {σ : zS} {n c s : Nat} {i : Nat} (h : i < 3) : ∀ K : Int32 → zR, z_ldI (o_w B X τ σ n c s) .int (some (B + 47)) (nI i) K = K (σ.1 47 i) := fun _ => by rw [oal_47, if_pos (nI_in h (by decide)), nI_clamp (Nat.lt_trans h (by decide))]
theorem osn_47 {B X : Nat} {τ : zK} {σ : zS} {n c s : Nat} {i : Nat} (h : i < 3) : ∀ (x : Int32) (K : zW → zR), z_stI (o_w B X τ σ n c s) (some (B + 47)) (nI i) x K = K (o_w B X τ (o_I σ 47 i x) n c s) := fun _ _ => by rw [oas_47, if_pos (nI_in h (by decide)), nI_clamp (Nat.lt_trans h (by decide))]
theorem oln_48 {B X : Nat} {τ : zK} {σ : zS} {n c s : Nat} {i : Nat} (h : i < 195) : ∀ K : Int64 → zR, z_ldL (o_w B X τ σ n c s) (some (B + 48)) (nI i) K = K (σ.2.1 48 i) := fun _ => by rw [oal_48, if_pos (nI_in h (by decide)), nI_clamp (Nat.lt_trans h (by decide))]
theorem osn_48 {B X : Nat} {τ : zK} {σ : zS} {n c s : Nat} {i : Nat} (h : i < 195) : ∀ (x : Int64) (K : zW → zR), z_stL (o_w B X τ σ n c s) (some (B + 48)) (nI i) x K = K (o_w B X τ (o_L σ 48 i x) n c s) := fun _ _ => by rw [oas_48, if_pos (nI_in h (by decide)), nI_clamp (Nat.lt_trans h (by decide))]
theorem oln_49 {B X : Nat} {τ : zK} {σ : zS} {n c s : Nat} {i : Nat} (h : i < 195) : ∀ K : Int64 → zR, z_ldL (o_w B X τ σ n c s) (some (B + 49)) (nI i) K = K (σ.2.1 49 i) := fun _ => by rw [oal_49, if_pos (nI_in h (by decide)), nI_clamp (Nat.lt_trans h (by decide))]
theorem osn_49 {B X : Nat} {τ : zK} {σ : zS} {n c s : Nat} {i : Nat} (h : i < 195) : ∀ (x : Int64) (K : zW → zR), z_stL (o_w B X τ σ n c s) (some (B + 49)) (nI i) x K = K (o_w B X τ (o_L σ 49 i x) n c s) := fun _ _ => by rw [oas_49, if_pos (nI_in h (by decide)), nI_clamp (Nat.lt_trans h (by decide))]
theorem oln_50 {B X : Nat} {τ : zK} {σ : zS} {n c s : Nat} {i : Nat} (h : i < 3) : ∀ K : Int64 → zR, z_ldL (o_w B X τ σ n c s) (some (B + 50)) (nI i) K = K (σ.2.1 50 i) := fun _ => by rw [oal_50, if_pos (nI_in h (by decide)), nI_clamp (Nat.lt_trans h (by decide))]
theorem osn_50 {B X : Nat} {τ : zK} {σ : zS} {n c s : Nat} {i : Nat} (h : i < 3) : ∀ (x : Int64) (K : zW → zR), z_stL (o_w B X τ σ n c s) (some (B + 50)) (nI i) x K = K (o_w B X τ (o_L σ 50 i x) n c s) := fun _ _ => by rw [oas_50, if_pos (nI_in h (by decide)), nI_clamp (Nat.lt_trans h (by decide))]
theorem oln_51 {B X : Nat} {τ : zK} {σ : zS} {n c s : Nat} {i : Nat} (h : i < 3) : ∀ K : Int32 → zR, z_ldI (o_w B X τ σ n c s) .int (some (B + 51)) (nI i) K = K (σ.1 51 i) := fun _ => by rw [oal_51, if_pos (nI_in h (by decide)), nI_clamp (Nat.lt_trans h (by decide))]
theorem osn_51 {B X : Nat} {τ : zK} {σ : zS} {n c s : Nat} {i : Nat} (h : i < 3) : ∀ (x : Int32) (K : zW → zR), z_stI (o_w B X τ σ n c s) (some (B + 51)) (nI i) x K = K (o_w B X τ (o_I σ 51 i x) n c s) := fun _ _ => by rw [oas_51, if_pos (nI_in h (by decide)), nI_clamp (Nat.lt_trans h (by decide))]
theorem oln_52 {B X : Nat} {τ : zK} {σ : zS} {n c s : Nat} {i : Nat} (h : i < 3) : ∀ K : Int32 → zR, z_ldI (o_w B X τ σ n c s) .int (some (B + 52)) (nI i) K = K (σ.1 52 i) := fun _ => by rw [oal_52, if_pos (nI_in h (by decide)), nI_clamp (Nat.lt_trans h (by decide))]
theorem osn_52 {B X : Nat} {τ : zK} {σ : zS} {n c s : Nat} {i : Nat} (h : i < 3) : ∀ (x : Int32) (K : zW → zR), z_stI (o_w B X τ σ n c s) (some (B + 52)) (nI i) x K = K (o_w B X τ (o_I σ 52 i x) n c s) := fun _ _ => by rw [oas_52, if_pos (nI_in h (by decide)), nI_clamp (Nat.lt_trans h (by decide))]
theorem oln_53 {B X : Nat} {τ : zK} {σ : zS} {n c s : Nat} {i : Nat} (h : i < 3) : ∀ K : Int32 → zR, z_ldI (o_w B X τ σ n c s) .int (some (B + 53)) (nI i) K = K (σ.1 53 i) := fun _ => by rw [oal_53, if_pos (nI_in h (by decide)), nI_clamp (Nat.lt_trans h (by decide))]
theorem osn_53 {B X : Nat} {τ : zK} {σ : zS} {n c s : Nat} {i : Nat} (h : i < 3) : ∀ (x : Int32) (K : zW → zR), z_stI (o_w B X τ σ n c s) (some (B + 53)) (nI i) x K = K (o_w B X τ (o_I σ 53 i x) n c s) := fun _ _ => by rw [oas_53, if_pos (nI_in h (by decide)), nI_clamp (Nat.lt_trans h (by decide))]
theorem oln_54 {B X : Nat} {τ : zK} {σ : zS} {n c s : Nat} {i : Nat} (h : i < 3) : ∀ K : Int32 → zR, z_ldI (o_w B X τ σ n c s) .boolean (some (B + 54)) (nI i) K = K (σ.1 54 i) := fun _ => by rw [oal_54, if_pos (nI_in h (by decide)), nI_clamp (Nat.lt_trans h (by decide))]
theorem osn_54 {B X : Nat} {τ : zK} {σ : zS} {n c s : Nat} {i : Nat} (h : i < 3) : ∀ (x : Int32) (K : zW → zR), z_stZ (o_w B X τ σ n c s) (some (B + 54)) (nI i) x K = if x = 0 ∨ x = 1 then K (o_w B X τ (o_I σ 54 i x) n c s) else none := fun x _ => by
  rw [oas_54, nI_clamp (Nat.lt_trans h (by decide))]
  by_cases hx : x = 0 ∨ x = 1
  · rw [if_pos ⟨by have h9 := nI_in h (by decide); rw [nI_clamp (Nat.lt_trans h (by decide))] at h9; exact h9, hx⟩, if_pos hx]
  · rw [if_neg (fun q => hx q.2), if_neg hx]
theorem oln_55 {B X : Nat} {τ : zK} {σ : zS} {n c s : Nat} {i : Nat} (h : i < 1) : ∀ K : Int64 → zR, z_ldL (o_w B X τ σ n c s) (some (B + 55)) (nI i) K = K (σ.2.1 55 i) := fun _ => by rw [oal_55, if_pos (nI_in h (by decide)), nI_clamp (Nat.lt_trans h (by decide))]
theorem osn_55 {B X : Nat} {τ : zK} {σ : zS} {n c s : Nat} {i : Nat} (h : i < 1) : ∀ (x : Int64) (K : zW → zR), z_stL (o_w B X τ σ n c s) (some (B + 55)) (nI i) x K = K (o_w B X τ (o_L σ 55 i x) n c s) := fun _ _ => by rw [oas_55, if_pos (nI_in h (by decide)), nI_clamp (Nat.lt_trans h (by decide))]
theorem osz0_36 {B X : Nat} {τ : zK} {σ : zS} {n c s : Nat} {i : Nat} (h : i < 12288) : ∀ K : zW → zR, z_stZ (o_w B X τ σ n c s) (some (B + 36)) (nI i) 0 K = K (o_w B X τ (o_I σ 36 i 0) n c s) := fun _ => by rw [osn_36 h, if_pos (by decide)]
theorem osz1_36 {B X : Nat} {τ : zK} {σ : zS} {n c s : Nat} {i : Nat} (h : i < 12288) : ∀ K : zW → zR, z_stZ (o_w B X τ σ n c s) (some (B + 36)) (nI i) 1 K = K (o_w B X τ (o_I σ 36 i 1) n c s) := fun _ => by rw [osn_36 h, if_pos (by decide)]
theorem osz0_37 {B X : Nat} {τ : zK} {σ : zS} {n c s : Nat} {i : Nat} (h : i < 12288) : ∀ K : zW → zR, z_stZ (o_w B X τ σ n c s) (some (B + 37)) (nI i) 0 K = K (o_w B X τ (o_I σ 37 i 0) n c s) := fun _ => by rw [osn_37 h, if_pos (by decide)]
theorem osz1_37 {B X : Nat} {τ : zK} {σ : zS} {n c s : Nat} {i : Nat} (h : i < 12288) : ∀ K : zW → zR, z_stZ (o_w B X τ σ n c s) (some (B + 37)) (nI i) 1 K = K (o_w B X τ (o_I σ 37 i 1) n c s) := fun _ => by rw [osn_37 h, if_pos (by decide)]
theorem osz0_38 {B X : Nat} {τ : zK} {σ : zS} {n c s : Nat} {i : Nat} (h : i < 12288) : ∀ K : zW → zR, z_stZ (o_w B X τ σ n c s) (some (B + 38)) (nI i) 0 K = K (o_w B X τ (o_I σ 38 i 0) n c s) := fun _ => by rw [osn_38 h, if_pos (by decide)]
theorem osz1_38 {B X : Nat} {τ : zK} {σ : zS} {n c s : Nat} {i : Nat} (h : i < 12288) : ∀ K : zW → zR, z_stZ (o_w B X τ σ n c s) (some (B + 38)) (nI i) 1 K = K (o_w B X τ (o_I σ 38 i 1) n c s) := fun _ => by rw [osn_38 h, if_pos (by decide)]
theorem osz0_39 {B X : Nat} {τ : zK} {σ : zS} {n c s : Nat} {i : Nat} (h : i < 3) : ∀ K : zW → zR, z_stZ (o_w B X τ σ n c s) (some (B + 39)) (nI i) 0 K = K (o_w B X τ (o_I σ 39 i 0) n c s) := fun _ => by rw [osn_39 h, if_pos (by decide)]
theorem osz1_39 {B X : Nat} {τ : zK} {σ : zS} {n c s : Nat} {i : Nat} (h : i < 3) : ∀ K : zW → zR, z_stZ (o_w B X τ σ n c s) (some (B + 39)) (nI i) 1 K = K (o_w B X τ (o_I σ 39 i 1) n c s) := fun _ => by rw [osn_39 h, if_pos (by decide)]
theorem osz0_54 {B X : Nat} {τ : zK} {σ : zS} {n c s : Nat} {i : Nat} (h : i < 3) : ∀ K : zW → zR, z_stZ (o_w B X τ σ n c s) (some (B + 54)) (nI i) 0 K = K (o_w B X τ (o_I σ 54 i 0) n c s) := fun _ => by rw [osn_54 h, if_pos (by decide)]
theorem osz1_54 {B X : Nat} {τ : zK} {σ : zS} {n c s : Nat} {i : Nat} (h : i < 3) : ∀ K : zW → zR, z_stZ (o_w B X τ σ n c s) (some (B + 54)) (nI i) 1 K = K (o_w B X τ (o_I σ 54 i 1) n c s) := fun _ => by rw [osn_54 h, if_pos (by decide)]
theorem oz0_0_7 {B X : Nat} {τ : zK} {σ : zS} {n c s : Nat} : ∀ K : zW → zR, z_putZ (o_w B X τ σ n c s) 0 7 (some (B + 0)) 0 K = K (o_w B X τ (o_I σ 0 7 0) n c s) := fun _ => by rw [oz_0_7, if_pos (by decide)]
theorem oz1_0_7 {B X : Nat} {τ : zK} {σ : zS} {n c s : Nat} : ∀ K : zW → zR, z_putZ (o_w B X τ σ n c s) 0 7 (some (B + 0)) 1 K = K (o_w B X τ (o_I σ 0 7 1) n c s) := fun _ => by rw [oz_0_7, if_pos (by decide)]
theorem oz0_0_8 {B X : Nat} {τ : zK} {σ : zS} {n c s : Nat} : ∀ K : zW → zR, z_putZ (o_w B X τ σ n c s) 0 8 (some (B + 0)) 0 K = K (o_w B X τ (o_I σ 0 8 0) n c s) := fun _ => by rw [oz_0_8, if_pos (by decide)]
theorem oz1_0_8 {B X : Nat} {τ : zK} {σ : zS} {n c s : Nat} : ∀ K : zW → zR, z_putZ (o_w B X τ σ n c s) 0 8 (some (B + 0)) 1 K = K (o_w B X τ (o_I σ 0 8 1) n c s) := fun _ => by rw [oz_0_8, if_pos (by decide)]
theorem oz0_s2_3 {B X : Nat} {τ : zK} {σ : zS} {n c s : Nat} {k : Nat} (hk : k < 3) : ∀ K : zW → zR, z_putZ (o_w B X τ σ n c s) 1 3 (some (B + (2 + 8 * k))) 0 K = K (o_w B X τ (o_I σ (2 + 8 * k) 3 0) n c s) := fun _ => by rw [oz_s2_3 hk, if_pos (by decide)]
theorem oz1_s2_3 {B X : Nat} {τ : zK} {σ : zS} {n c s : Nat} {k : Nat} (hk : k < 3) : ∀ K : zW → zR, z_putZ (o_w B X τ σ n c s) 1 3 (some (B + (2 + 8 * k))) 1 K = K (o_w B X τ (o_I σ (2 + 8 * k) 3 1) n c s) := fun _ => by rw [oz_s2_3 hk, if_pos (by decide)]
theorem oz0_s7_6 {B X : Nat} {τ : zK} {σ : zS} {n c s : Nat} {k : Nat} (hk : k < 3) : ∀ K : zW → zR, z_putZ (o_w B X τ σ n c s) 5 6 (some (B + (7 + 8 * k))) 0 K = K (o_w B X τ (o_I σ (7 + 8 * k) 6 0) n c s) := fun _ => by rw [oz_s7_6 hk, if_pos (by decide)]
theorem oz1_s7_6 {B X : Nat} {τ : zK} {σ : zS} {n c s : Nat} {k : Nat} (hk : k < 3) : ∀ K : zW → zR, z_putZ (o_w B X τ σ n c s) 5 6 (some (B + (7 + 8 * k))) 1 K = K (o_w B X τ (o_I σ (7 + 8 * k) 6 1) n c s) := fun _ => by rw [oz_s7_6 hk, if_pos (by decide)]
theorem oz0_31_2 {B X : Nat} {τ : zK} {σ : zS} {n c s : Nat} : ∀ K : zW → zR, z_putZ (o_w B X τ σ n c s) 10 2 (some (B + 31)) 0 K = K (o_w B X τ (o_I σ 31 2 0) n c s) := fun _ => by rw [oz_31_2, if_pos (by decide)]
theorem oz1_31_2 {B X : Nat} {τ : zK} {σ : zS} {n c s : Nat} : ∀ K : zW → zR, z_putZ (o_w B X τ σ n c s) 10 2 (some (B + 31)) 1 K = K (o_w B X τ (o_I σ 31 2 1) n c s) := fun _ => by rw [oz_31_2, if_pos (by decide)]
theorem oz0_31_3 {B X : Nat} {τ : zK} {σ : zS} {n c s : Nat} : ∀ K : zW → zR, z_putZ (o_w B X τ σ n c s) 10 3 (some (B + 31)) 0 K = K (o_w B X τ (o_I σ 31 3 0) n c s) := fun _ => by rw [oz_31_3, if_pos (by decide)]
theorem oz1_31_3 {B X : Nat} {τ : zK} {σ : zS} {n c s : Nat} : ∀ K : zW → zR, z_putZ (o_w B X τ σ n c s) 10 3 (some (B + 31)) 1 K = K (o_w B X τ (o_I σ 31 3 1) n c s) := fun _ => by rw [oz_31_3, if_pos (by decide)]
theorem oln_1 {B X : Nat} {τ : zK} {σ : zS} {n c s : Nat} {i : Nat} (h : i < 3) : ∀ K : Option Nat → zR, z_ldR (o_w B X τ σ n c s) (.object "AckBook$Space") (some (B + 1)) (nI i) K = K (some (B + (2 + 8 * i))) := fun _ => by rw [oal_1, if_pos (nI_in h (by decide)), nI_clamp (Nat.lt_trans h (by decide))]
