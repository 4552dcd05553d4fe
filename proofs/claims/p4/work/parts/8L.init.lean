/-! The constructors: a heap that grows, as a list of cells above a base. -/
def o_sg (g : Nat → Option zOb) (A : Nat) (m : List zOb) (c s : Nat) : zW := (A + m.length, c, s, fun a => if a < A then g a else m[a - A]?)
section CL
variable {g : Nat → Option zOb} {A X F c s : Nat} {m : List zOb}
theorem g_at (j : Nat) : (o_sg g A m c s).2.2.2 (A + j) = m[j]? := by
  simp only [o_sg]
  rw [if_neg (by omega), Nat.add_sub_cancel_left]
theorem g_set {j : Nat} {e : zOb} (hj : j < m.length) : z_set (o_sg g A m c s) (A + j) e = o_sg g A (m.set j e) c s := by
  simp only [z_set, o_sg, List.length_set]
  congr
  funext a
  by_cases ha : a = A + j
  · subst ha
    rw [if_pos rfl, if_neg (by omega), Nat.add_sub_cancel_left, List.getElem?_set_self hj]
  · rw [if_neg ha]
    split
    · rfl
    · rw [List.getElem?_set_ne (by omega)]
theorem g_push {e : zOb} {N : Nat} : z_push (o_sg g A m c s) N e = o_sg g A (m ++ [e]) (c - 1) (s - N) := by
  have key : (fun b => if b = A + m.length then some e else (o_sg g A m c s).2.2.2 b) = (o_sg g A (m ++ [e]) (c - 1) (s - N)).2.2.2 := by
    funext a
    by_cases ha : a = A + m.length
    · subst ha
      rw [if_pos rfl, g_at, List.getElem?_append_right (Nat.le_refl _), Nat.sub_self]
      rfl
    · rw [if_neg ha]
      by_cases h1 : a < A
      · simp only [o_sg, if_pos h1]
      · obtain ⟨k, rfl⟩ : ∃ k, a = A + k := ⟨a - A, by omega⟩
        rw [g_at, g_at]
        by_cases hb : k < m.length
        · rw [List.getElem?_append_left hb]
        · rw [List.getElem?_eq_none (by omega), List.getElem?_eq_none (by rw [List.length_append]; show m.length + 1 ≤ k; omega)]
  refine (congrArg (fun f => ((A + m.length + 1, c - 1, s - N, f) : zW)) key).trans ?_
  simp only [o_sg, List.length_append, List.length_cons, List.length_nil, Nat.add_assoc, Nat.zero_add]
theorem g_new {ci N : Nat} {fs : List Value} {K : Nat → zW → zR} (h1 : 1 ≤ c) (h2 : N ≤ s) : z_new (o_sg g A m c s) ci N fs K = K (A + m.length) (o_sg g A (m ++ [.inr (ci, fs)]) (c - 1) (s - N)) := by
  unfold z_new
  rw [if_pos ⟨h1, h2⟩, g_push]
  rfl
theorem g_newa {ty : FieldType} {n : Int32} {x : Nat → vp_A} {K : Nat → zW → zR} {N : Nat} (h0 : ¬ n < 0) (hn : n.toNatClampNeg = N) (hN : N ≤ 65536) (h1 : 1 ≤ c) (h2 : N ≤ s) : z_newa (o_sg g A m c s) ty n x K = K (A + m.length) (o_sg g A (m ++ [.inl (ty, x N)]) (c - 1) (s - N)) := by
  unfold z_newa
  rw [hn, if_pos ⟨h0, hN, h1, h2⟩, g_push]
  rfl
theorem g_put {ci k j : Nat} {v : Value} {K : zW → zR} : z_put (o_sg g A m c s) ci k (some (A + j)) v K = match m[j]? with
    | some (.inr (c', fs)) => if c' = ci ∧ k < fs.length then K (o_sg g A (m.set j (.inr (ci, fs.set k v))) c s) else none
    | _ => none := by
  unfold z_put z_obj
  simp only [g_at]
  rcases hj : m[j]? with _ | ⟨t, x⟩ | ⟨c', fs⟩
  · rfl
  · rfl
  · have hl : j < m.length := (List.getElem?_eq_some_iff.mp hj).1
    by_cases h1 : c' = ci
    · subst h1
      simp only [if_true, true_and]
      split
      · rw [g_set hl]
      · rfl
    · simp only [h1, if_false, false_and]
theorem g_getR {ci k j : Nat} {K : Option Nat → zR} : z_getR (o_sg g A m c s) ci k (some (A + j)) K = match m[j]? with
    | some (.inr (c', fs)) => if c' = ci then (match fs[k]? with
      | some (.ref a) => K (some a)
      | some .null => K none
      | _ => none) else none
    | _ => none := by
  unfold z_getR z_obj
  simp only [g_at]
  rcases hj : m[j]? with _ | ⟨t, x⟩ | ⟨c', fs⟩
  · rfl
  · rfl
  · by_cases h1 : c' = ci
    · subst h1
      simp only [if_true]
      rcases fs[k]? with _ | v
      · rfl
      · cases v <;> rfl
    · simp only [h1, if_false]
theorem g_stI {j : Nat} {i : Int32} {x : Int32} {K : zW → zR} {n : Nat} {f : Nat → Int32} (hj : m[j]? = some (.inl (.int, n, .inl f))) (h0 : ¬ i < 0) (hi : i.toNatClampNeg < n) : z_stI (o_sg g A m c s) (some (A + j)) i x K = K (o_sg g A (m.set j (.inl (.int, n, .inl (upd f i.toNatClampNeg x)))) c s) := by
  have hl : j < m.length := (List.getElem?_eq_some_iff.mp hj).1
  unfold z_stI z_arr
  simp only [g_at, hj, if_true]
  rw [if_pos (fun q => q.elim h0 (fun q => by omega)), g_set hl]
theorem g_stR {j j' : Nat} {ty : FieldType} {cj : Nat} {i : Int32} {K : zW → zR} {n : Nat} {f : Nat → Option Nat} {fs : List Value} (hj : m[j]? = some (.inl (ty, n, .inr (.inr (.inr (.inr f)))))) (h0 : ¬ i < 0) (hi : i.toNatClampNeg < n) (hv : m[j']? = some (.inr (cj, fs))) : z_stR (o_sg g A m c s) ty cj (some (A + j)) i (some (A + j')) K = K (o_sg g A (m.set j (.inl (ty, n, .inr (.inr (.inr (.inr (va_up f i.toNatClampNeg (some (A + j')))))))) ) c s) := by
  have hl : j < m.length := (List.getElem?_eq_some_iff.mp hj).1
  unfold z_stR z_arr z_obj
  simp only [g_at, hj, hv, if_true]
  rw [if_pos ⟨fun q => q.elim h0 (fun q => by omega), Or.inr rfl⟩, g_set hl]
theorem g_join {m1 m2 : List zOb} : o_sg (fun a => if a < A then g a else m1[a - A]?) (A + m1.length) m2 c s = o_sg g A (m1 ++ m2) c s := by
  simp only [o_sg, List.length_append, Nat.add_assoc]
  congr
  funext a
  by_cases h1 : a < A
  · rw [if_pos (by omega), if_pos h1, if_pos h1]
  · rw [if_neg h1, if_neg h1]
    by_cases h2 : a < A + m1.length
    · rw [if_pos h2, List.getElem?_append_left (by omega)]
    · rw [if_neg h2, List.getElem?_append_right (by omega)]
      congr 1
      omega
theorem g_a1 {ty : FieldType} {x : Nat → vp_A} {K : Nat → zW → zR} (h1 : 1 ≤ c) (h2 : 1 ≤ s) : z_newa (o_sg g A m c s) ty (1 : Int32) x K = K (A + m.length) (o_sg g A (m ++ [.inl (ty, x 1)]) (c - 1) (s - 1)) := g_newa (by decide) (by decide) (by decide) h1 h2
theorem g_a3 {ty : FieldType} {x : Nat → vp_A} {K : Nat → zW → zR} (h1 : 1 ≤ c) (h2 : 3 ≤ s) : z_newa (o_sg g A m c s) ty (3 : Int32) x K = K (A + m.length) (o_sg g A (m ++ [.inl (ty, x 3)]) (c - 1) (s - 3)) := g_newa (by decide) (by decide) (by decide) h1 h2
theorem g_a6 {ty : FieldType} {x : Nat → vp_A} {K : Nat → zW → zR} (h1 : 1 ≤ c) (h2 : 6 ≤ s) : z_newa (o_sg g A m c s) ty (6 : Int32) x K = K (A + m.length) (o_sg g A (m ++ [.inl (ty, x 6)]) (c - 1) (s - 6)) := g_newa (by decide) (by decide) (by decide) h1 h2
theorem g_a64 {ty : FieldType} {x : Nat → vp_A} {K : Nat → zW → zR} (h1 : 1 ≤ c) (h2 : 64 ≤ s) : z_newa (o_sg g A m c s) ty (64 : Int32) x K = K (A + m.length) (o_sg g A (m ++ [.inl (ty, x 64)]) (c - 1) (s - 64)) := g_newa (by decide) (by decide) (by decide) h1 h2
theorem g_a65 {ty : FieldType} {x : Nat → vp_A} {K : Nat → zW → zR} (h1 : 1 ≤ c) (h2 : 65 ≤ s) : z_newa (o_sg g A m c s) ty (65 : Int32) x K = K (A + m.length) (o_sg g A (m ++ [.inl (ty, x 65)]) (c - 1) (s - 65)) := g_newa (by decide) (by decide) (by decide) h1 h2
theorem g_a195 {ty : FieldType} {x : Nat → vp_A} {K : Nat → zW → zR} (h1 : 1 ≤ c) (h2 : 195 ≤ s) : z_newa (o_sg g A m c s) ty (195 : Int32) x K = K (A + m.length) (o_sg g A (m ++ [.inl (ty, x 195)]) (c - 1) (s - 195)) := g_newa (by decide) (by decide) (by decide) h1 h2
theorem g_a12288 {ty : FieldType} {x : Nat → vp_A} {K : Nat → zW → zR} (h1 : 1 ≤ c) (h2 : 12288 ≤ s) : z_newa (o_sg g A m c s) ty (12288 : Int32) x K = K (A + m.length) (o_sg g A (m ++ [.inl (ty, x 12288)]) (c - 1) (s - 12288)) := g_newa (by decide) (by decide) (by decide) h1 h2
theorem g_a24576 {ty : FieldType} {x : Nat → vp_A} {K : Nat → zW → zR} (h1 : 1 ≤ c) (h2 : 24576 ≤ s) : z_newa (o_sg g A m c s) ty (24576 : Int32) x K = K (A + m.length) (o_sg g A (m ++ [.inl (ty, x 24576)]) (c - 1) (s - 24576)) := g_newa (by decide) (by decide) (by decide) h1 h2
theorem i_sent (hc : 3 ≤ c) (hs : 7 ≤ s) : f_AckBook_Sent_init F X (some (A + 0)) (o_sg g A [.inr (2, [.null, .null, .null, .int 0, .int 0, .int 0, .int 0, .int 0])] c s) = some (.inl none, o_sg g A [.inr (2, [.ref (A + 1), .ref (A + 2), .ref (A + 3), .int 0, .int 0, .int 0, .int (-1), .int (-1)]), .inr (3, [.null, .null]), .inr (3, [.null, .null]), .inr (4, [.ref X, .int 0, .int 0])] (c - 3) (s - 7)) := by
  simp (disch := omega) only [f_AckBook_Sent_init, f_AckBook_Chain_init, f_ArrayList_init, f_AbstractList_init, f_AbstractCollection_init, g_new, g_put, List.length_cons, List.length_nil, List.length_append, List.length_set, Nat.reduceAdd, Nat.zero_add, List.cons_append, List.nil_append, List.getElem?_cons_zero, List.getElem?_cons_succ, List.set_cons_zero, List.set_cons_succ, if_true, true_and, and_true, Nat.reduceLT, Nat.reduceLeDiff, va_rf, z_nn, y_cV, Nat.sub_sub, Nat.add_assoc]
theorem i_arr (hc : 2 ≤ c) (hs : 130 ≤ s) : f_AckBook_Arrivals_init F X (some (A + 0)) (o_sg g A [.inr (5, [.null, .null, .int 0, .long 0, .int 0, .int 0, .int 0, .int 0])] c s) = some (.inl none, o_sg g A [.inr (5, [.ref (A + 1), .ref (A + 2), .int 0, .long 0, .int 0, .int 0, .int 0, .int 0]), .inl (.long, 65, .inr (.inl fun _ => 0)), .inl (.long, 65, .inr (.inl fun _ => 0))] (c - 2) (s - 130)) := by
  simp (disch := omega) only [f_AckBook_Arrivals_init, g_a65, g_put, List.length_cons, List.length_nil, List.length_append, List.length_set, Nat.reduceAdd, Nat.zero_add, List.cons_append, List.nil_append, List.getElem?_cons_zero, List.getElem?_cons_succ, List.set_cons_zero, List.set_cons_succ, if_true, true_and, and_true, Nat.reduceLT, Nat.reduceLeDiff, va_rf, z_nn, y_cV, Nat.sub_sub, Nat.add_assoc]
end CL
