/-! The reference's sums: what is in flight, what is out and eliciting. -/
section KG
variable {B X F : Nat} {τ : zK} {n c s : Nat} {σ σ' : zS} {m : Nat → Nat} {D : Nat → Nat → Nat → Int32} {ft : Nat → Nat → Int32} {q : Nat → Nat → List Nat} {S : Nat → Nat → Int32} {t p k : Nat} {W ds ga : Nat → Int32} {L H : Nat → Int64}
/-- of one space -/
def pS (w : Nat → Int32) (ft : Nat → Int32) (ds : Int32) (i : Nat) : Int32 := if ds = 0 then sm w ft i else 0
def rS (f : Nat → Int32) : Nat → Int32
  | 0 => 0
  | d + 1 => f (2 - d) + rS f d
/-- in flight -/
def fA (m : Nat → Nat) (D : Nat → Nat → Nat → Int32) (ft : Nat → Nat → Int32) (ds : Nat → Int32) : Int32 := rS (fun k => pS (cz (D k)) (ft k) (ds k) (m k)) 3
/-- what a sum over the packets needs of the reference -/
def rQ (σ : zS) (m : Nat → Nat) (D : Nat → Nat → Nat → Int32) (ft : Nat → Nat → Int32) (ds : Nat → Int32) : Prop := ∀ k, k < 3 → (σ.1 32 k = nI (m k) ∧ m k ≤ 4096 ∧ σ.1 39 k = ds k) ∧ ∀ i, i < m k → (σ.1 33 (4096 * k + i) = D k 1 i ∧ σ.1 34 (4096 * k + i) = D k 2 i ∧ σ.1 36 (4096 * k + i) = D k 3 i ∧ σ.1 37 (4096 * k + i) = D k 4 i) ∧ σ.1 35 (4096 * k + i) = ft k i
theorem rP.rQ (h : rP σ m D ft q S t W p L H ds ga) : rQ σ m D ft ds := fun k hk => ⟨(h.2.1 k hk).1, fun i hi => ⟨⟨((h.2.1 k hk).2.1 i hi).1.1, ((h.2.1 k hk).2.1 i hi).1.2.1, ((h.2.1 k hk).2.1 i hi).1.2.2.1, ((h.2.1 k hk).2.1 i hi).1.2.2.2.1⟩, ((h.2.1 k hk).2.1 i hi).2⟩⟩
theorem q_isOut (h : rQ σ m D ft ds) (hk : k < 3) {i : Nat} (hi : i < m k) : f_AckBookModel_isOut F X (some (B + 31)) (nI k) (nI i) (o_w B X τ σ n c s) = some (.inl (some (.int (if ds k = 0 ∧ ft k i = 0 then 1 else 0))), o_w B X τ σ n c s) := by
  obtain ⟨⟨a1, a2, a3⟩, hD⟩ := h k hk
  unfold f_AckBookModel_isOut
  simp (disch := omega) only [or_31_11, oln_39, a3, or_31_7, e_mu, nI_add, oln_35, (hD i hi).2]
  by_cases h : ds k = 0
  · rw [if_pos h]
    by_cases h2 : ft k i = 0
    · rw [if_pos h2, if_pos ⟨h, h2⟩]
    · rw [if_neg h2, if_neg (fun z => h2 z.2)]
  · rw [if_neg h, if_neg (fun z => h z.1)]
theorem pS_no {w ft : Nat → Int32} {ds : Int32} {i : Nat} (h : ¬ (ds = 0 ∧ ft i = 0)) : pS w ft ds (i + 1) = pS w ft ds i + 0 := by
  unfold pS
  by_cases z : ds = 0
  · rw [if_pos z, if_pos z]
    show sm w ft i + (if ft i = 0 then w i else 0) = _
    rw [if_neg (fun y => h ⟨z, y⟩)]
  · rw [if_neg z, if_neg z]
    rfl
theorem pS_yes {w ft : Nat → Int32} {ds : Int32} {i : Nat} (h : ds = 0 ∧ ft i = 0) : pS w ft ds (i + 1) = pS w ft ds i + w i := by
  unfold pS
  rw [if_pos h.1, if_pos h.1]
  show sm w ft i + (if ft i = 0 then w i else 0) = _
  rw [if_pos h.2]
theorem n_flightJ (h : rQ σ m D ft ds) : ∀ N : Nat, (∀ k x y, k ≤ 3 → (3 - k) * 5000 + 1 < N → j_AckBookModel_flight F X N 0 (some (B + 31)) x (nI k) y (o_w B X τ σ n c s) = some (.inl (some (.int (x + rS (fun k => pS (cz (D k)) (ft k) (ds k) (m k)) (3 - k)))), o_w B X τ σ n c s)) ∧ ∀ k i x, k < 3 → i ≤ m k → (3 - k) * 5000 - i < N → j_AckBookModel_flight F X N 1 (some (B + 31)) (x + pS (cz (D k)) (ft k) (ds k) i) (nI k) (nI i) (o_w B X τ σ n c s) = some (.inl (some (.int (x + rS (fun k => pS (cz (D k)) (ft k) (ds k) (m k)) (3 - k)))), o_w B X τ σ n c s) := by
  intro N
  induction N with
  | zero => exact ⟨fun _ _ _ _ h => absurd h (Nat.not_lt_zero _), fun _ _ _ _ _ h => absurd h (Nat.not_lt_zero _)⟩
  | succ N ih =>
    refine ⟨fun k x y hk hN => ?_, fun k i x hk hi hN => ?_⟩
    · rw [j_AckBookModel_flight, if_pos rfl]
      by_cases h3 : k = 3
      · subst h3
        rw [if_pos (by decide)]
        show _ = (some (.inl (some (.int (x + 0))), o_w B X τ σ n c s) : zR)
        rw [Int32.add_zero]
      · rw [if_neg (by rw [e_l3, e_le (by omega) (by omega)]; omega)]
        have := ih.2 k 0 x (by omega) (Nat.zero_le _) (by omega)
        have e0 : pS (cz (D k)) (ft k) (ds k) 0 = 0 := by
          unfold pS
          split <;> rfl
        rw [e0, Int32.add_zero] at this
        exact this
    · obtain ⟨⟨h1, h2, h39⟩, hD⟩ := h k hk
      rw [j_AckBookModel_flight, if_neg (by decide)]
      simp (disch := omega) only [or_31_4, oln_32, h1, e_le]
      by_cases hle : m k ≤ i
      · obtain rfl : i = m k := by omega
        rw [if_pos hle, nI_1, ih.1 (k + 1) _ _ (by omega) (by omega), show 3 - k = (3 - (k + 1)) + 1 by omega]
        show (some (.inl (some (.int (x + pS (cz (D k)) (ft k) (ds k) (m k) + rS (fun k => pS (cz (D k)) (ft k) (ds k) (m k)) (3 - (k + 1))))), o_w B X τ σ n c s) : zR) = some (.inl (some (.int (x + (pS (cz (D (2 - (3 - (k + 1))))) (ft (2 - (3 - (k + 1)))) (ds (2 - (3 - (k + 1)))) (m (2 - (3 - (k + 1)))) + rS (fun k => pS (cz (D k)) (ft k) (ds k) (m k)) (3 - (k + 1)))))), o_w B X τ σ n c s)
        rw [show 2 - (3 - (k + 1)) = k by omega, Int32.add_assoc]
      · rw [if_neg hle]
        obtain ⟨⟨f33, -, -, f37⟩, -⟩ := hD i (by omega)
        simp (disch := omega) only [ot_31, q_isOut h hk (show i < m k by omega), z_cI, or_31_9, or_31_5, oln_37, oln_33, e_mu, nI_add, nI_1, f33, f37]
        have go := ih.2 k (i + 1) x hk (by omega) (by omega)
        by_cases w : ds k = 0 ∧ ft k i = 0
        · rw [if_pos w, if_neg (by decide)]
          rw [pS_yes w] at go
          unfold cz at go
          by_cases w4 : D k 4 i = 0
          · rw [if_pos w4]
            rw [if_pos w4, Int32.add_zero] at go
            rw [Int32.add_zero]
            exact go
          · rw [if_neg w4]
            rw [if_neg w4, ← Int32.add_assoc] at go
            exact go
        · rw [if_neg w, if_pos rfl]
          rw [pS_no w, Int32.add_zero] at go
          rw [Int32.add_zero]
          exact go
theorem n_flight (h : rQ σ m D ft ds) (hF : 20000 ≤ F) : f_AckBookModel_flight F X (some (B + 31)) (o_w B X τ σ n c s) = some (.inl (some (.int (fA m D ft ds))), o_w B X τ σ n c s) := by
  have := (n_flightJ (B := B) (X := X) (F := F) (τ := τ) (n := n) (c := c) (s := s) h F).1 0 0 0 (by omega) (by omega)
  rw [Int32.zero_add] at this
  exact this
/-- out and eliciting, in one space -/
theorem n_outsJ (h : rQ σ m D ft ds) (hk : k < 3) : ∀ (N i : Nat), i ≤ m k → m k - i < N → j_AckBookModel_outs F X N (some (B + 31)) (nI k) 0 (pS (ez (D k)) (ft k) (ds k) i) (nI i) (o_w B X τ σ n c s) = some (.inl (some (.int (pS (ez (D k)) (ft k) (ds k) (m k)))), o_w B X τ σ n c s) := by
  obtain ⟨⟨h1, h2, h39⟩, hD⟩ := h k hk
  intro N
  induction N with
  | zero => exact fun _ _ h => absurd h (Nat.not_lt_zero _)
  | succ N ih =>
    intro i hi hN
    rw [j_AckBookModel_outs]
    simp (disch := omega) only [or_31_4, oln_32, h1, e_le]
    by_cases hle : m k ≤ i
    · obtain rfl : i = m k := by omega
      rw [if_pos hle]
    · rw [if_neg hle]
      obtain ⟨⟨-, -, f36, -⟩, -⟩ := hD i (by omega)
      simp (disch := omega) only [ot_31, q_isOut h hk (show i < m k by omega), z_cI, or_31_8, oln_36, e_mu, nI_add, nI_1, f36, q_AckBookModel_outs_47, if_true]
      have go := ih (i + 1) (by omega) (by omega)
      by_cases w : ds k = 0 ∧ ft k i = 0
      · rw [if_pos w, if_neg (by decide)]
        rw [pS_yes w] at go
        unfold ez at go
        by_cases w4 : D k 3 i = 0
        · rw [if_pos w4]
          rw [if_pos w4] at go
          exact go
        · rw [if_neg w4]
          rw [if_neg w4] at go
          exact go
      · rw [if_neg w, if_pos rfl]
        rw [pS_no w] at go
        exact go
theorem n_outs (h : rQ σ m D ft ds) (hk : k < 3) (hF : 20000 ≤ F) : f_AckBookModel_outs F X (some (B + 31)) (nI k) 0 (o_w B X τ σ n c s) = some (.inl (some (.int (pS (ez (D k)) (ft k) (ds k) (m k)))), o_w B X τ σ n c s) := by
  have hm := (h k hk).1.2.1
  have := n_outsJ (B := B) (X := X) (F := F) (τ := τ) (n := n) (c := c) (s := s) h hk F 0 (Nat.zero_le _) (by omega)
  have e0 : pS (ez (D k)) (ft k) (ds k) 0 = 0 := by
    unfold pS
    split <;> rfl
  rw [e0] at this
  exact this
theorem sm_ez {D : Nat → Nat → Int32} {ft : Nat → Int32} : ∀ i : Nat, ∃ z, z ≤ i ∧ sm (ez D) ft i = nI z
  | 0 => ⟨0, Nat.le_refl _, rfl⟩
  | i + 1 => by
    obtain ⟨z, h1, h2⟩ := sm_ez (D := D) (ft := ft) i
    show ∃ z, _ ∧ sm (ez D) ft i + (if ft i = 0 then ez D i else 0) = nI z
    rw [h2]
    by_cases w : ft i = 0
    · rw [if_pos w]
      unfold ez
      by_cases w2 : D 3 i = 0
      · rw [if_pos w2]
        exact ⟨z, by omega, by rw [Int32.add_zero]⟩
      · rw [if_neg w2]
        exact ⟨z + 1, by omega, nI_add z 1⟩
    · rw [if_neg w]
      exact ⟨z, by omega, by rw [Int32.add_zero]⟩
theorem pS_ez {D : Nat → Nat → Int32} {ft : Nat → Int32} {ds : Int32} (i : Nat) : ∃ z, z ≤ i ∧ pS (ez D) ft ds i = nI z := by
  unfold pS
  by_cases h : ds = 0
  · rw [if_pos h]
    exact sm_ez i
  · rw [if_neg h]
    exact ⟨0, Nat.zero_le _, rfl⟩
end KG
