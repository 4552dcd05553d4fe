section CL2
variable {g : Nat → Option zOb} {A X F c s : Nat} {m : List zOb}
/-- the eight cells of a space -/
def i_cells (P X : Nat) (k : Int32) : List zOb := [.inr (1, [.int k, .ref (P + 1), .ref (P + 5), .int 0]), .inr (2, [.ref (P + 2), .ref (P + 3), .ref (P + 4), .int 0, .int 0, .int 0, .int (-1), .int (-1)]), .inr (3, [.null, .null]), .inr (3, [.null, .null]), .inr (4, [.ref X, .int 0, .int 0]), .inr (5, [.ref (P + 6), .ref (P + 7), .int 0, .long 0, .int 0, .int 0, .int 0, .int 0]), .inl (.long, 65, .inr (.inl fun _ => 0)), .inl (.long, 65, .inr (.inl fun _ => 0))]
theorem i_space (k : Int32) (hc : 7 ≤ c) (hs : 153 ≤ s) : f_AckBook_Space_init F X (some (A + 0)) k (o_sg g A [.inr (1, [.int 0, .null, .null, .int 0])] c s) = some (.inl none, o_sg g A (i_cells A X k) (c - 7) (s - 153)) := by
  simp (disch := omega) only [f_AckBook_Space_init, g_new, g_put, List.length_cons, List.length_nil, List.length_append, List.length_set, Nat.reduceAdd, Nat.zero_add, List.cons_append, List.nil_append, List.getElem?_cons_zero, List.getElem?_cons_succ, List.set_cons_zero, List.set_cons_succ, if_true, true_and, and_true, Nat.reduceLT, Nat.reduceLeDiff, va_rf, z_nn, y_cV, Nat.sub_sub, Nat.add_assoc]
  have e1 := fun (m1 m2 : List zOb) (c s : Nat) => (g_join (g := g) (A := A) (m1 := m1) (m2 := m2) (c := c) (s := s)).symm
  have j1 := fun (x : zOb) (c s : Nat) => e1 [x] [.inr (2, [.null, .null, .null, .int 0, .int 0, .int 0, .int 0, .int 0])] c s
  simp only [List.cons_append, List.nil_append, List.length_cons, List.length_nil, Nat.zero_add] at j1
  have h1 := fun (g' : Nat → Option zOb) (c s : Nat) (hc : 3 ≤ c) (hs : 7 ≤ s) => i_sent (g := g') (A := A + 1) (X := X) (F := F) (c := c) (s := s) hc hs
  simp only [Nat.add_zero] at h1
  have b1 := fun (x : zOb) (m2 : List zOb) (c s : Nat) => (e1 [x] m2 c s).symm
  simp only [List.cons_append, List.nil_append, List.length_cons, List.length_nil, Nat.zero_add] at b1
  rw [j1, h1 _ _ _ (by omega) (by omega), y_cV, b1]
  simp (disch := omega) only [g_new, g_put, List.length_cons, List.length_nil, List.length_append, List.length_set, Nat.reduceAdd, Nat.zero_add, List.cons_append, List.nil_append, List.getElem?_cons_zero, List.getElem?_cons_succ, List.set_cons_zero, List.set_cons_succ, if_true, true_and, and_true, Nat.reduceLT, Nat.reduceLeDiff, va_rf, z_nn, y_cV, Nat.sub_sub, Nat.add_assoc]
  have j2 := fun (x1 x2 x3 x4 x5 : zOb) (c s : Nat) => e1 [x1, x2, x3, x4, x5] [.inr (5, [.null, .null, .int 0, .long 0, .int 0, .int 0, .int 0, .int 0])] c s
  simp only [List.cons_append, List.nil_append, List.length_cons, List.length_nil, Nat.zero_add, Nat.reduceAdd] at j2
  have h2 := fun (g' : Nat → Option zOb) (c s : Nat) (hc : 2 ≤ c) (hs : 130 ≤ s) => i_arr (g := g') (A := A + 5) (X := X) (F := F) (c := c) (s := s) hc hs
  simp only [Nat.add_zero] at h2
  have b2 := fun (x1 x2 x3 x4 x5 : zOb) (m2 : List zOb) (c s : Nat) => (e1 [x1, x2, x3, x4, x5] m2 c s).symm
  simp only [List.cons_append, List.nil_append, List.length_cons, List.length_nil, Nat.zero_add, Nat.reduceAdd] at b2
  rw [j2, h2 _ _ _ (by omega) (by omega), y_cV, b2]
  simp (disch := omega) only [g_put, i_cells, List.length_cons, List.length_nil, List.length_append, List.length_set, Nat.reduceAdd, Nat.zero_add, List.cons_append, List.nil_append, List.getElem?_cons_zero, List.getElem?_cons_succ, List.set_cons_zero, List.set_cons_succ, if_true, true_and, and_true, Nat.reduceLT, Nat.reduceLeDiff, va_rf, z_nn, y_cV, Nat.sub_sub, Nat.add_assoc]
theorem i_spaceJ (k : Int32) (hc : 7 ≤ c) (hs : 153 ≤ s) : f_AckBook_Space_init F X (some (A + m.length)) k (o_sg g A (m ++ [.inr (1, [.int 0, .null, .null, .int 0])]) c s) = some (.inl none, o_sg g A (m ++ i_cells (A + m.length) X k) (c - 7) (s - 153)) := by
  rw [← g_join, ← g_join]
  exact i_space k hc hs
/-- the class's cells -/
def i_L1 (A X : Nat) : List zOb := [.inr (0, [.ref (A + 1), .ref (A + 26), .ref (A + 29), .ref (A + 30), .int 0, .int 0, .int 0, .int 0, .int 0]), .inl (.object "AckBook$Space", 3, .inr (.inr (.inr (.inr (va_up (va_up (va_up (fun _ => none) 0 (some (A + 2))) 1 (some (A + 10))) 2 (some (A + 18)))))))] ++ i_cells (A + 2) X 0 ++ i_cells (A + 10) X 1 ++ i_cells (A + 18) X 2 ++ [.inr (6, [.ref (A + 27), .ref (A + 28), .int 0, .int 0]), .inl (.long, 64, .inr (.inl fun _ => 0)), .inl (.long, 64, .inr (.inl fun _ => 0)), .inr (7, [.int 800, .int 200, .int 0, .int (-1), .int (-1)]), .inr (8, [.int 0, .int 12000, .int (-1), .int (-1)])]
theorem i_book (hc : 30 ≤ c) (hs : 615 ≤ s) : f_AckBook_init (F + 4) X (some (A + 0)) (o_sg g A [.inr (0, [.null, .null, .null, .null, .int 0, .int 0, .int 0, .int 0, .int 0])] c s) = some (.inl none, o_sg g A (i_L1 A X) (c - 30) (s - 615)) := by
  simp (disch := omega) only [f_AckBook_init, g_a3, g_put, List.length_cons, List.length_nil, List.length_append, List.length_set, Nat.reduceAdd, Nat.zero_add, List.cons_append, List.nil_append, List.getElem?_cons_zero, List.getElem?_cons_succ, List.set_cons_zero, List.set_cons_succ, if_true, true_and, and_true, Nat.reduceLT, Nat.reduceLeDiff, va_rf, z_nn, y_cV, Nat.sub_sub, Nat.add_assoc]
  have st : ∀ (N : Nat) (k : Int32) (m : List zOb) (f : Nat → Option Nat) (c s : Nat), ¬ (3 : Int32) ≤ k → ¬ k < 0 → k.toNatClampNeg < 3 → 8 ≤ c → 157 ≤ s → j_AckBook_init (F + 4) X (N + 1) (some (A + 0)) k (o_sg g A (.inr (0, [.ref (A + 1), .null, .null, .null, .int 0, .int 0, .int 0, .int 0, .int 0]) :: .inl (.object "AckBook$Space", 3, .inr (.inr (.inr (.inr f)))) :: m) c s) = j_AckBook_init (F + 4) X N (some (A + 0)) (k + 1) (o_sg g A (.inr (0, [.ref (A + 1), .null, .null, .null, .int 0, .int 0, .int 0, .int 0, .int 0]) :: .inl (.object "AckBook$Space", 3, .inr (.inr (.inr (.inr (va_up f k.toNatClampNeg (some (A + (m.length + 2)))))))) :: (m ++ i_cells (A + (m.length + 2)) X k)) (c - 8) (s - 157)) := by
    intro N k m f c s h1 h2 h3 h4 h5
    rw [j_AckBook_init, if_neg h1]
    simp only [g_getR, List.getElem?_cons_zero, if_true]
    rw [g_new (by omega) (by omega), z_nn, i_spaceJ k (by omega) (by omega), y_cV]
    simp only [List.cons_append]
    rw [g_stR (n := 3) (f := f) (j := 1) rfl h2 h3 (fs := [.int k, .ref (A + (m.length + 2) + 1), .ref (A + (m.length + 2) + 5), .int 0]) ?_]
    · simp only [List.length_cons, List.set_cons_succ, List.set_cons_zero, Nat.sub_sub, Nat.reduceAdd]
    · simp only [List.length_cons, List.getElem?_cons_succ]
      rw [List.getElem?_append_right (Nat.le_refl _), Nat.sub_self]
      rfl
  rw [st _ _ [] _ _ _ (by decide) (by decide) (by decide) (by omega) (by omega), st _ _ _ _ _ _ (by decide) (by decide) (by decide) (by omega) (by omega), st _ _ _ _ _ _ (by decide) (by decide) (by decide) (by omega) (by omega)]
  rw [j_AckBook_init, if_pos (by decide)]
  simp (disch := omega) only [i_cells, f_AckBook_Claim_init, f_AckBook_Way_init, f_AckBook_Flow_init, g_new, g_a64, g_put, List.length_cons, List.length_nil, List.length_append, List.length_set, Nat.reduceAdd, Nat.zero_add, List.cons_append, List.nil_append, List.getElem?_cons_zero, List.getElem?_cons_succ, List.set_cons_zero, List.set_cons_succ, if_true, true_and, and_true, Nat.reduceLT, Nat.reduceLeDiff, va_rf, z_nn, y_cV, Nat.sub_sub, Nat.add_assoc]
  rfl
end CL2
