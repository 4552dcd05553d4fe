/-! tick: which space is the earliest. -/
section II
variable {B X F : Nat} {τ τ1 : zK} {n c s n1 c1 s1 T : Nat} {σ σ1 σ2 σ3 : zS} {u : Nat → Int32} {now x1 : Int32} {g g' : Nat → Bool} {i j : Nat}
/-- the earliest of the spaces 0 .. i - 1 that have come -/
def pkE (g : Nat → Bool) (u : Nat → Int32) : Nat → Option Nat
  | 0 => none
  | i + 1 => match pkE g u i with
    | none => if g i = true then some i else none
    | some j => if g i = true ∧ u i < u j then some i else some j
def gC (u : Nat → Int32) (now : Int32) (k : Nat) : Bool := decide (¬ u k = -1 ∧ ¬ now < u k)
def gM (u : Nat → Int32) (now : Int32) (k : Nat) : Bool := decide (¬ u k < 0 ∧ ¬ now < u k)
theorem pkE_s : pkE g u (i + 1) = (match pkE g u i with
    | none => if g i = true then some i else none
    | some j => if g i = true ∧ u i < u j then some i else some j) := rfl
theorem pkE_no (h : ¬ g i = true) : pkE g u (i + 1) = pkE g u i := by
  rw [pkE_s]
  cases pkE g u i with
  | none => exact if_neg h
  | some j => exact if_neg (fun w => h w.1)
theorem pkE_one (h : g i = true) (h0 : pkE g u i = none) : pkE g u (i + 1) = some i := by
  rw [pkE_s, h0]
  exact if_pos h
theorem pkE_less (h : g i = true) (h0 : pkE g u i = some j) (h1 : u i < u j) : pkE g u (i + 1) = some i := by
  rw [pkE_s, h0]
  exact if_pos ⟨h, h1⟩
theorem pkE_old (h0 : pkE g u i = some j) (h1 : ¬ u i < u j) : pkE g u (i + 1) = pkE g u i := by
  rw [pkE_s, h0]
  exact if_neg (fun w => h1 w.2)
theorem pkE_lt : ∀ {i j : Nat}, pkE g u i = some j → j < i ∧ g j = true
  | 0, _, h => by cases h
  | i + 1, j, h => by
    cases h0 : pkE g u i with
    | none =>
      by_cases w : g i = true
      · rw [pkE_one w h0] at h
        obtain rfl := Option.some.inj h
        exact ⟨Nat.lt_succ_self _, w⟩
      · rw [pkE_no w, h0] at h
        cases h
    | some j' =>
      have ih := pkE_lt h0
      by_cases w : g i = true
      · by_cases w1 : u i < u j'
        · rw [pkE_less w h0 w1] at h
          obtain rfl := Option.some.inj h
          exact ⟨Nat.lt_succ_self _, w⟩
        · rw [pkE_old h0 w1, h0] at h
          obtain rfl := Option.some.inj h
          exact ⟨Nat.lt_succ_of_lt ih.1, ih.2⟩
      · rw [pkE_no w, h0] at h
        obtain rfl := Option.some.inj h
        exact ⟨Nat.lt_succ_of_lt ih.1, ih.2⟩
theorem pkE_congr : ∀ {i : Nat}, (∀ k, k < i → g k = g' k) → pkE g u i = pkE g' u i
  | 0, _ => rfl
  | i + 1, h => by rw [pkE_s, pkE_s, pkE_congr (i := i) (fun k hk => h k (Nat.lt_succ_of_lt hk)), h i (Nat.lt_succ_self _)]
theorem gCM (h : ∀ k, k < 3 → u k = -1 ∨ ¬ u k < 0) : pkE (gC u now) u 3 = pkE (gM u now) u 3 := pkE_congr fun k hk => by
  unfold gC gM
  rcases h k hk with w | w
  · rw [w, decide_eq_false (fun z => z.1 rfl), decide_eq_false (fun z => z.1 (by decide))]
  · have w1 : ¬ u k = -1 := fun z => w (by rw [z]; decide)
    by_cases w2 : now < u k
    · rw [decide_eq_false (fun z => z.2 w2), decide_eq_false (fun z => z.2 w2)]
    · rw [decide_eq_true ⟨w1, w2⟩, decide_eq_true ⟨w, w2⟩]
theorem c_earl (h4 : σ.1 0 4 = now) (hu : ∀ k, k < 3 → (x1 = 0 → σ.1 (3 + 8 * k) 7 = u k) ∧ (x1 ≠ 0 → f_AckBook_probeTime F X (some (B + 0)) (some (B + (2 + 8 * k))) (o_w B X τ σ n c s) = some (.inl (some (.int (u k))), o_w B X τ σ n c s))) : ∀ (M i : Nat) (x3 : Int32), i ≤ 3 → (∀ j, pkE (gC u now) u i = some j → x3 = u j) → 3 - i < M → j_AckBook_earliest F X M (some (B + 0)) x1 ((pkE (gC u now) u i).map fun k => B + (2 + 8 * k)) x3 (nI i) (o_w B X τ σ n c s) = some (.inl (some (va_rf ((pkE (gC u now) u 3).map fun k => B + (2 + 8 * k)))), o_w B X τ σ n c s) := by
  intro M
  induction M with
  | zero => exact fun _ _ _ _ h => absurd h (Nat.not_lt_zero _)
  | succ M ih =>
    intro i x3 hi hx hM
    rw [j_AckBook_earliest]
    simp only [or_0_0, oan_1]
    by_cases h : i = 3
    · subst h
      rw [if_pos (by decide)]
    · rw [if_neg (show ¬ Int32.ofNat 3 ≤ nI i from nI_ge (b := 3) (by omega) (by decide))]
      have hi3 : i < 3 := by omega
      have keep : pkE (gC u now) u (i + 1) = pkE (gC u now) u i → j_AckBook_earliest F X M (some (B + 0)) x1 ((pkE (gC u now) u i).map fun k => B + (2 + 8 * k)) x3 (nI (i + 1)) (o_w B X τ σ n c s) = some (.inl (some (va_rf ((pkE (gC u now) u 3).map fun k => B + (2 + 8 * k)))), o_w B X τ σ n c s) := fun e => by
        have := ih (i + 1) x3 (by omega) (by rw [e]; exact hx) (by omega)
        rw [e] at this
        exact this
      have take : pkE (gC u now) u (i + 1) = some i → j_AckBook_earliest F X M (some (B + 0)) x1 (some (B + (2 + 8 * i))) (u i) (nI (i + 1)) (o_w B X τ σ n c s) = some (.inl (some (va_rf ((pkE (gC u now) u 3).map fun k => B + (2 + 8 * k)))), o_w B X τ σ n c s) := fun e => by
        have := ih (i + 1) (u i) (by omega) (by
          rw [e]
          intro j hj
          obtain rfl := Option.some.inj hj
          rfl) (by omega)
        rw [e] at this
        exact this
      have h50 : q_AckBook_earliest_50 F X (j_AckBook_earliest F X M) (some (B + 0)) x1 ((pkE (gC u now) u i).map fun k => B + (2 + 8 * k)) x3 (nI i) (some (B + (2 + 8 * i))) (u i) (o_w B X τ σ n c s) = some (.inl (some (va_rf ((pkE (gC u now) u 3).map fun k => B + (2 + 8 * k)))), o_w B X τ σ n c s) := by
        simp only [q_AckBook_earliest_50, q_AckBook_earliest_71, q_AckBook_earliest_72, q_AckBook_earliest_89, oi_0_4, h4, nI_1, if_true]
        by_cases w1 : u i = -1
        · rw [if_pos w1]
          exact keep (pkE_no (fun z => (of_decide_eq_true z).1 w1))
        · rw [if_neg w1]
          by_cases w2 : now < u i
          · rw [if_pos w2]
            exact keep (pkE_no (fun z => (of_decide_eq_true z).2 w2))
          · rw [if_neg w2, if_neg (by decide)]
            have hg : gC u now i = true := decide_eq_true ⟨w1, w2⟩
            cases ho : pkE (gC u now) u i with
            | none => exact (if_pos (show Option.map (fun k => B + (2 + 8 * k)) (none : Option Nat) = none from rfl)).trans (take (pkE_one hg ho))
            | some j =>
              refine (if_neg (show ¬ Option.map (fun k => B + (2 + 8 * k)) (some j) = none from fun z => by cases z)).trans ?_
              rw [ho] at keep
              have hxj := hx j ho
              by_cases w3 : x3 ≤ u i
              · rw [if_pos w3]
                refine keep ?_
                rw [pkE_old ho (fun z => Int32.not_lt.mpr w3 (by rw [hxj]; exact z)), ho]
              · rw [if_neg w3]
                exact take (pkE_less hg ho (by rw [← hxj]; exact Int32.not_le.mp w3))
      by_cases hx1 : x1 = 0
      · simp only [oln_1 hi3, or_s2_1 hi3, oi_s3_7 hi3, (hu i hi3).1 hx1]
        rw [if_pos hx1]
        exact h50
      · simp only [oln_1 hi3, ot_0, (hu i hi3).2 hx1, y_cI]
        rw [if_neg hx1]
        exact h50
theorem c_earlF (h4 : σ.1 0 4 = now) (hF : 20000 ≤ F) (hu : ∀ k, k < 3 → (x1 = 0 → σ.1 (3 + 8 * k) 7 = u k) ∧ (x1 ≠ 0 → f_AckBook_probeTime F X (some (B + 0)) (some (B + (2 + 8 * k))) (o_w B X τ σ n c s) = some (.inl (some (.int (u k))), o_w B X τ σ n c s))) : f_AckBook_earliest F X (some (B + 0)) x1 (o_w B X τ σ n c s) = some (.inl (some (va_rf ((pkE (gC u now) u 3).map fun k => B + (2 + 8 * k)))), o_w B X τ σ n c s) := by
  unfold f_AckBook_earliest
  simp only [oi_0_4]
  exact c_earl h4 hu F 0 _ (by omega) (fun j h => by cases h) (by omega)
def cdN : Option Nat → Int32
  | none => -1
  | some j => nI j
def tE0 (B X F N : Nat) (τ : zK) (σ : zS) (n c s : Nat) : Option Nat → zR
  | none => j_AckBookModel_tick F X N 1 (some (B + 31)) (-1) 0 0 (o_w B X τ σ n c s)
  | some k => z_cV (f_AckBookModel_losses F X (some (B + 31)) (nI k) (o_w B X τ σ n c s)) fun w => some (.inl (some (.int (1 : Int32))), w)
def tE1 (B X : Nat) (τ : zK) (σ : zS) (n c s : Nat) : Option Nat → zR
  | none => some (.inl (some (.int (0 : Int32))), o_w B X τ σ n c s)
  | some k => some (.inl (some (.int ((2 : Int32) + nI k))), o_w B X τ (o_I σ 31 23 (if 10 ≤ σ.1 31 23 then 10 else σ.1 31 23 + 1)) n c s)
/-- the reference's first loop -/
theorem n_tick0 (N : Nat) (h1 : σ.1 31 1 = now) (h41 : ∀ k, k < 3 → σ.1 41 k = u k) : ∀ (d i : Nat) (y : Int32), i + d = 3 → j_AckBookModel_tick F X (N + d + 1) 0 (some (B + 31)) (cdN (pkE (gM u now) u i)) (nI i) y (o_w B X τ σ n c s) = tE0 B X F N τ σ n c s (pkE (gM u now) u 3) := by
  intro d
  induction d with
  | zero =>
    intro i y hi
    obtain rfl : i = 3 := by omega
    rw [j_AckBookModel_tick, if_pos rfl, if_pos (by decide)]
    cases h : pkE (gM u now) u 3 with
    | none => exact if_pos (show cdN none < 0 by decide)
    | some k =>
      have := (pkE_lt h).1
      refine (if_neg (show ¬ cdN (some k) < 0 from nI_pos (by omega))).trans ?_
      rw [ot_31]
      show z_cV (f_AckBookModel_losses F X (some (B + 31)) (nI k) (o_w B X τ σ n c s)) _ = z_cV (f_AckBookModel_losses F X (some (B + 31)) (nI k) (o_w B X τ σ n c s)) _
      exact rfl
  | succ d ih =>
    intro i y hi
    have hi3 : i < 3 := by omega
    rw [show N + (d + 1) + 1 = (N + d + 1) + 1 by omega, j_AckBookModel_tick, if_pos rfl, if_neg (show ¬ (3 : Int32) ≤ nI i from nI_ge (b := 3) hi3 (by decide))]
    have e41 := h41 i hi3
    simp (disch := omega) only [or_31_13, oln_41, oi_31_1, nI_1, e41, h1]
    have keep : pkE (gM u now) u (i + 1) = pkE (gM u now) u i → j_AckBookModel_tick F X (N + d + 1) 0 (some (B + 31)) (cdN (pkE (gM u now) u i)) (nI (i + 1)) 0 (o_w B X τ σ n c s) = tE0 B X F N τ σ n c s (pkE (gM u now) u 3) := fun e => by
      have := ih (i + 1) 0 (by omega)
      rw [e] at this
      exact this
    have take : pkE (gM u now) u (i + 1) = some i → j_AckBookModel_tick F X (N + d + 1) 0 (some (B + 31)) (nI i) (nI (i + 1)) 0 (o_w B X τ σ n c s) = tE0 B X F N τ σ n c s (pkE (gM u now) u 3) := fun e => by
      have := ih (i + 1) 0 (by omega)
      rw [e] at this
      exact this
    by_cases w1 : u i < 0
    · rw [if_pos w1]
      exact keep (pkE_no (fun z => (of_decide_eq_true z).1 w1))
    · rw [if_neg w1]
      by_cases w2 : now < u i
      · rw [if_pos w2]
        exact keep (pkE_no (fun z => (of_decide_eq_true z).2 w2))
      · rw [if_neg w2]
        have hg : gM u now i = true := decide_eq_true ⟨w1, w2⟩
        cases ho : pkE (gM u now) u i with
        | none => exact (if_pos (show cdN none < 0 by decide)).trans (take (pkE_one hg ho))
        | some j =>
          have hj := (pkE_lt ho).1
          have ej := h41 j (by omega)
          refine (if_neg (show ¬ cdN (some j) < 0 from nI_pos (by omega))).trans ?_
          rw [ho] at keep
          rw [show cdN (some j) = nI j from rfl] at keep ⊢
          simp (disch := omega) only [oln_41, ej]
          by_cases w3 : u j ≤ u i
          · rw [if_pos w3]
            exact keep (by rw [pkE_old ho (Int32.not_lt.mpr w3), ho])
          · rw [if_neg w3]
            exact take (pkE_less hg ho (Int32.not_le.mp w3))
/-- the reference's second loop -/
theorem n_tick1 (N : Nat) (h1 : σ.1 31 1 = now) (hp : ∀ k, k < 3 → f_AckBookModel_probeTime F X (some (B + 31)) (nI k) (o_w B X τ σ n c s) = some (.inl (some (.int (u k))), o_w B X τ σ n c s)) : ∀ (d i : Nat) (y : Int32), i + d = 3 → (∀ j, pkE (gM u now) u i = some j → y = u j) → j_AckBookModel_tick F X (N + d + 1) 1 (some (B + 31)) (cdN (pkE (gM u now) u i)) y (nI i) (o_w B X τ σ n c s) = tE1 B X τ σ n c s (pkE (gM u now) u 3) := by
  intro d
  induction d with
  | zero =>
    intro i y hi hy
    obtain rfl : i = 3 := by omega
    rw [j_AckBookModel_tick, if_neg (by decide), if_pos (by decide)]
    simp only [oi_31_23, op_31_23]
    cases h : pkE (gM u now) u 3 with
    | none => exact if_neg (show ¬ 0 ≤ cdN none by decide)
    | some k =>
      have := (pkE_lt h).1
      refine (if_pos (show 0 ≤ cdN (some k) from Int32.not_lt.mp (nI_pos (by omega)))).trans ?_
      unfold tE1
      by_cases hb : 10 ≤ σ.1 31 23
      · rw [if_pos hb, if_pos hb]
        rfl
      · rw [if_neg hb, if_neg hb]
        rfl
  | succ d ih =>
    intro i y hi hy
    have hi3 : i < 3 := by omega
    rw [show N + (d + 1) + 1 = (N + d + 1) + 1 by omega, j_AckBookModel_tick, if_neg (by decide), if_neg (show ¬ (3 : Int32) ≤ nI i from nI_ge (b := 3) hi3 (by decide))]
    simp only [ot_31, hp i hi3, y_cI, oi_31_1, h1, q_AckBookModel_tick_127, nI_1]
    have keep : pkE (gM u now) u (i + 1) = pkE (gM u now) u i → j_AckBookModel_tick F X (N + d + 1) 1 (some (B + 31)) (cdN (pkE (gM u now) u i)) y (nI (i + 1)) (o_w B X τ σ n c s) = tE1 B X τ σ n c s (pkE (gM u now) u 3) := fun e => by
      have := ih (i + 1) y (by omega) (by rw [e]; exact hy)
      rw [e] at this
      exact this
    have take : pkE (gM u now) u (i + 1) = some i → j_AckBookModel_tick F X (N + d + 1) 1 (some (B + 31)) (nI i) (u i) (nI (i + 1)) (o_w B X τ σ n c s) = tE1 B X τ σ n c s (pkE (gM u now) u 3) := fun e => by
      have := ih (i + 1) (u i) (by omega) (by
        rw [e]
        intro j hj
        obtain rfl := Option.some.inj hj
        rfl)
      rw [e] at this
      exact this
    by_cases w1 : u i < 0
    · rw [if_pos w1]
      exact keep (pkE_no (fun z => (of_decide_eq_true z).1 w1))
    · rw [if_neg w1]
      by_cases w2 : now < u i
      · rw [if_pos w2]
        exact keep (pkE_no (fun z => (of_decide_eq_true z).2 w2))
      · rw [if_neg w2]
        have hg : gM u now i = true := decide_eq_true ⟨w1, w2⟩
        cases ho : pkE (gM u now) u i with
        | none => exact (if_pos (show cdN none < 0 by decide)).trans (take (pkE_one hg ho))
        | some j =>
          have hj := (pkE_lt ho).1
          have hyj := hy j ho
          refine (if_neg (show ¬ cdN (some j) < 0 from nI_pos (by omega))).trans ?_
          rw [ho] at keep
          by_cases w3 : u i < y
          · rw [if_pos w3]
            exact take (pkE_less hg ho (by rw [← hyj]; exact w3))
          · rw [if_neg w3]
            exact keep (by rw [pkE_old ho (by rw [← hyj]; exact w3), ho])
end II
