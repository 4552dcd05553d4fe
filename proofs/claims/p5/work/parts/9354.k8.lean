/-! The probe times, on both sides. -/
section KH
variable {B X F : Nat} {τ : zK} {n c s : Nat} {σ σ' : zS} {m : Nat → Nat} {D : Nat → Nat → Nat → Int32} {ft : Nat → Nat → Int32} {t p k : Nat} {W ds ga E A : Nat → Int32} {conf anx ls b : Int32}
/-- when the last eliciting one was sent -/
def la (D : Nat → Nat → Int32) : Nat → Int32
  | 0 => 0
  | i + 1 => if D 3 i = 0 then la D i else D 2 i
def ptV (W : Nat → Int32) (conf : Int32) (k : Nat) : Int32 := W 0 / 8 + (if W 1 < 1 then 1 else W 1) + (if k = 2 ∧ ¬ conf = 0 then 25 else 0)
/-- the first space kept, and nothing eliciting out -/
def prA (E ds : Nat → Int32) (k : Nat) : Prop := (E 0 ≤ 0 ∧ E 1 ≤ 0 ∧ E 2 ≤ 0) ∧ (0 < k → ¬ ds 0 = 0) ∧ (1 < k → ¬ ds 1 = 0)
/-- the probe time of a space: ds discarded, E out and eliciting, A sent last -/
noncomputable def prV (ds E A W : Nat → Int32) (conf anx ls b : Int32) (k : Nat) : Int32 := @ite _ (¬ ds k = 0 ∨ (k = 2 ∧ conf = 0)) (Classical.propDecidable _) (-1) (@ite _ (0 < E k) (Classical.propDecidable _) (A k + (ptV W conf k <<< (b &&& 31))) (@ite _ (¬ anx = 0 ∧ prA E ds k) (Classical.propDecidable _) (ls + (ptV W conf k <<< (b &&& 31))) (-1)))
theorem e_p1 (x : Int32) : (if x ≤ 1 then 1 else x) = (if x < 1 then 1 else x) := by
  by_cases w : x < 1
  · rw [if_pos w, if_pos (Int32.le_of_lt w)]
  · rw [if_neg w]
    by_cases w2 : x ≤ 1
    · rw [if_pos w2]
      exact Int32.le_antisymm (Int32.not_lt.mp w) w2
    · rw [if_neg w2]
theorem c_pat (hk : k < 3) (hW : ∀ f, f < 5 → σ.1 29 f = W f) (h7 : σ.1 0 7 = conf) : f_AckBook_patience F X (some (B + 0)) (some (B + (2 + 8 * k))) (o_w B X τ σ n c s) = some (.inl (some (.int (ptV W conf k))), o_w B X τ σ n c s) := by
  unfold f_AckBook_patience
  simp only [oi_s2_0 hk, oi_0_7, q_AckBook_patience_19, q_AckBook_patience_20, or_0_2, ot_29, f_AckBook_Way_patience, oi_29_0, oi_29_1, z_cI, hW 0 (by omega), hW 1 (by omega), h7, if_true]
  unfold ptV
  by_cases k2 : k = 2
  · rw [if_pos (show Int32.ofNat k = 2 by rw [k2]; rfl)]
    by_cases c0 : conf = 0
    · rw [if_pos c0, if_neg (show ¬ (k = 2 ∧ ¬ conf = 0) from fun z => z.2 c0)]
    · rw [if_neg c0, if_neg (show ¬ (1 : Int32) = 0 by decide), if_pos (show k = 2 ∧ ¬ conf = 0 from ⟨k2, c0⟩)]
  · rw [if_neg (show ¬ Int32.ofNat k = 2 from fun z => k2 ((nI_eq (a := k) (b := 2) (by omega) (by decide)).mp z)), if_neg (show ¬ (k = 2 ∧ ¬ conf = 0) from fun z => k2 z.1)]
theorem c_pwc0 (N : Nat) (y : Int32) (hy : y = 0 ∨ y = 1) : j_AckBook_probesWithoutCause F X (N + 1) (some (B + 0)) (some (B + (2 + 8 * k))) y (nI 3) (o_w B X τ σ n c s) = some (.inl (some (.int y)), o_w B X τ σ n c s) := by
  rw [j_AckBook_probesWithoutCause]
  simp only [or_0_0, oan_1]
  rw [if_pos (by decide)]
  unfold z_retZ
  rw [if_pos hy]
theorem c_pwc1 (hk : k < 3) (hE : ∀ k, k < 3 → σ.1 (3 + 8 * k) 4 = E k) (hd : ∀ k, k < 3 → σ.1 (2 + 8 * k) 3 = ds k) (N i : Nat) (y : Int32) (hi : i < 3) : j_AckBook_probesWithoutCause F X (N + 1) (some (B + 0)) (some (B + (2 + 8 * k))) y (nI i) (o_w B X τ σ n c s) = (if E i ≤ 0 then j_AckBook_probesWithoutCause F X N (some (B + 0)) (some (B + (2 + 8 * k))) (if i < k ∧ ds i = 0 then 0 else y) (nI (i + 1)) (o_w B X τ σ n c s) else some (.inl (some (.int 0)), o_w B X τ σ n c s)) := by
  rw [j_AckBook_probesWithoutCause]
  simp only [or_0_0, oan_1]
  rw [if_neg (show ¬ Int32.ofNat 3 ≤ nI i from nI_ge (b := 3) hi (by decide))]
  have eik : (Int32.ofNat k ≤ nI i) = (k ≤ i) := e_le (by omega) (by omega)
  simp only [oln_1 hi, or_s2_1 hi, oi_s3_4 hi, oi_s2_0 hk, oi_s2_3 hi, nI_1, hE i hi, hd i hi, eik]
  by_cases h : E i ≤ 0
  · rw [if_pos h, if_pos h]
    by_cases h2 : k ≤ i
    · rw [if_pos h2, if_neg (fun z => absurd z.1 (by omega))]
    · rw [if_neg h2]
      by_cases h3 : ds i = 0
      · rw [if_pos h3, if_pos ⟨by omega, h3⟩]
      · rw [if_neg h3, if_neg (fun z => h3 z.2)]
  · rw [if_neg h, if_neg h]
theorem c_pwc (hk : k < 3) (hF : 20000 ≤ F) (hE : ∀ k, k < 3 → σ.1 (3 + 8 * k) 4 = E k) (hd : ∀ k, k < 3 → σ.1 (2 + 8 * k) 3 = ds k) (h8 : σ.1 0 8 = anx) : (¬ anx = 0 ∧ prA E ds k → f_AckBook_probesWithoutCause F X (some (B + 0)) (some (B + (2 + 8 * k))) (o_w B X τ σ n c s) = some (.inl (some (.int 1)), o_w B X τ σ n c s)) ∧ (¬ (¬ anx = 0 ∧ prA E ds k) → f_AckBook_probesWithoutCause F X (some (B + 0)) (some (B + (2 + 8 * k))) (o_w B X τ σ n c s) = some (.inl (some (.int 0)), o_w B X τ σ n c s)) := by
  unfold f_AckBook_probesWithoutCause
  simp only [oi_0_8, h8]
  have e : ∀ M, M = F → j_AckBook_probesWithoutCause F X M (some (B + 0)) (some (B + (2 + 8 * k))) 1 0 (o_w B X τ σ n c s) = (if E 0 ≤ 0 then (if E 1 ≤ 0 then (if E 2 ≤ 0 then some (.inl (some (.int (if 2 < k ∧ ds 2 = 0 then 0 else if 1 < k ∧ ds 1 = 0 then 0 else if 0 < k ∧ ds 0 = 0 then 0 else 1))), o_w B X τ σ n c s) else some (.inl (some (.int 0)), o_w B X τ σ n c s)) else some (.inl (some (.int 0)), o_w B X τ σ n c s)) else some (.inl (some (.int 0)), o_w B X τ σ n c s)) := fun M hM => by
    obtain ⟨N, hN⟩ : ∃ N, M = N + 1 + 1 + 1 + 1 := ⟨M - 4, by omega⟩
    rw [hN]
    have s0 := c_pwc1 (B := B) (X := X) (F := F) (τ := τ) (n := n) (c := c) (s := s) (E := E) (ds := ds) hk hE hd (N + 1 + 1 + 1) 0 1 (by omega)
    have s0 : j_AckBook_probesWithoutCause F X (N + 1 + 1 + 1 + 1) (some (B + 0)) (some (B + (2 + 8 * k))) 1 0 (o_w B X τ σ n c s) = _ := s0
    rw [s0, c_pwc1 hk hE hd (N + 1 + 1) 1 _ (by omega), c_pwc1 hk hE hd (N + 1) 2 _ (by omega), c_pwc0 N _ (by (repeat' split) <;> simp)]
  rw [e F rfl]
  refine ⟨fun ⟨h1, ⟨h2, h3, h4⟩, h5, h6⟩ => ?_, fun h => ?_⟩
  · rw [if_neg h1, if_pos h2, if_pos h3, if_pos h4, if_neg (fun z => absurd z.1 (by omega)), if_neg (fun z => h6 z.1 z.2), if_neg (fun z => h5 z.1 z.2)]
  · by_cases h1 : anx = 0
    · rw [if_pos h1]
    · rw [if_neg h1]
      by_cases h2 : E 0 ≤ 0
      · rw [if_pos h2]
        by_cases h3 : E 1 ≤ 0
        · rw [if_pos h3]
          by_cases h4 : E 2 ≤ 0
          · rw [if_pos h4, if_neg (fun z => absurd z.1 (by omega))]
            by_cases h5 : 1 < k ∧ ds 1 = 0
            · rw [if_pos h5]
            · rw [if_neg h5]
              by_cases h6 : 0 < k ∧ ds 0 = 0
              · rw [if_pos h6]
              · exact absurd ⟨h1, ⟨h2, h3, h4⟩, fun z y => h6 ⟨z, y⟩, fun z y => h5 ⟨z, y⟩⟩ h
          · rw [if_neg h4]
        · rw [if_neg h3]
      · rw [if_neg h2]
theorem c_probe (hk : k < 3) (hF : 20000 ≤ F) (hE : ∀ k, k < 3 → σ.1 (3 + 8 * k) 4 = E k) (hd : ∀ k, k < 3 → σ.1 (2 + 8 * k) 3 = ds k) (hA : ∀ k, k < 3 → σ.1 (3 + 8 * k) 5 = A k) (hW : ∀ f, f < 5 → σ.1 29 f = W f) (h7 : σ.1 0 7 = conf) (h8 : σ.1 0 8 = anx) (h6 : σ.1 0 6 = ls) (h5 : σ.1 0 5 = b) : f_AckBook_probeTime F X (some (B + 0)) (some (B + (2 + 8 * k))) (o_w B X τ σ n c s) = some (.inl (some (.int (prV ds E A W conf anx ls b k))), o_w B X τ σ n c s) := by
  have hp := c_pat (B := B) (X := X) (F := F) (τ := τ) (n := n) (c := c) (s := s) hk hW h7
  obtain ⟨q1, q2⟩ := c_pwc (B := B) (X := X) (F := F) (τ := τ) (n := n) (c := c) (s := s) (anx := anx) hk hF hE hd h8
  have h24 : ¬ (¬ ds k = 0 ∨ (k = 2 ∧ conf = 0)) → q_AckBook_probeTime_24 F X (some (B + 0)) (some (B + (2 + 8 * k))) (o_w B X τ σ n c s) = some (.inl (some (.int (prV ds E A W conf anx ls b k))), o_w B X τ σ n c s) := fun hn => by
    unfold q_AckBook_probeTime_24 prV
    rw [if_neg hn]
    simp only [ot_0, hp, z_cI, oi_0_5, h5, or_s2_1 hk, oi_s3_4 hk, hE k hk]
    by_cases w : E k ≤ 0
    · rw [if_pos w, if_neg (Int32.not_lt.mpr w)]
      by_cases w2 : ¬ anx = 0 ∧ prA E ds k
      · rw [q1 w2, if_pos w2]
        simp only [z_cI, oi_0_6, h6]
        rw [if_neg (by decide)]
      · rw [q2 w2, if_neg w2]
        simp only [z_cI, if_true]
    · rw [if_neg w, if_pos (Int32.not_le.mp w)]
      simp only [oi_s3_5 hk, hA k hk]
  unfold f_AckBook_probeTime
  simp only [oi_s2_3 hk, oi_s2_0 hk, oi_0_7, hd k hk, h7]
  by_cases w : ds k = 0
  · rw [if_pos w]
    by_cases k2 : k = 2
    · rw [if_pos (show Int32.ofNat k = 2 by rw [k2]; rfl)]
      by_cases c0 : conf = 0
      · rw [if_pos c0]
        unfold prV
        rw [if_pos (Or.inr ⟨k2, c0⟩)]
      · rw [if_neg c0]
        exact h24 (fun z => z.elim (fun z => z w) (fun z => c0 z.2))
    · rw [if_neg (show ¬ Int32.ofNat k = 2 from fun z => k2 ((nI_eq (a := k) (b := 2) (by omega) (by decide)).mp z))]
      exact h24 (fun z => z.elim (fun z => z w) (fun z => k2 z.1))
  · rw [if_neg w]
    unfold prV
    rw [if_pos (Or.inl w)]
/-- the reference's side -/
theorem n_pat (hk : k < 3) (hW : ∀ f, f < 5 → σ.1 31 (18 + f) = W f) (h2 : σ.1 31 2 = conf) : f_AckBookModel_patience F X (some (B + 31)) (nI k) (o_w B X τ σ n c s) = some (.inl (some (.int (ptV W conf k))), o_w B X τ σ n c s) := by
  have w0 : σ.1 31 18 = W 0 := hW 0 (by omega)
  have w1 : σ.1 31 19 = W 1 := hW 1 (by omega)
  unfold f_AckBookModel_patience
  simp only [oi_31_18, oi_31_19, oi_31_2, s_greater, z_cI, w0, w1, h2, e_p1]
  unfold ptV
  by_cases k2 : k = 2
  · rw [if_pos (show nI k = 2 by rw [k2]; rfl)]
    by_cases c0 : conf = 0
    · rw [if_pos c0, if_neg (show ¬ (k = 2 ∧ ¬ conf = 0) from fun z => z.2 c0)]
    · rw [if_neg c0, if_pos (show k = 2 ∧ ¬ conf = 0 from ⟨k2, c0⟩)]
  · rw [if_neg (show ¬ nI k = 2 from fun z => k2 ((nI_eq (a := k) (b := 2) (by omega) (by decide)).mp z)), if_neg (show ¬ (k = 2 ∧ ¬ conf = 0) from fun z => k2 z.1)]
theorem n_first1 (h : rQ σ m D ft ds) (N i : Nat) (hi : i < 3) : j_AckBookModel_firstSpace F X (N + 1) (some (B + 31)) (nI i) (o_w B X τ σ n c s) = (if ds i = 0 then some (.inl (some (.int (nI i))), o_w B X τ σ n c s) else j_AckBookModel_firstSpace F X N (some (B + 31)) (nI (i + 1)) (o_w B X τ σ n c s)) := by
  have h39 := (h i hi).1.2.2
  rw [j_AckBookModel_firstSpace, if_neg (show ¬ (3 : Int32) ≤ nI i from nI_ge (b := 3) hi (by decide))]
  simp (disch := omega) only [or_31_11, oln_39, h39, nI_1]
theorem n_first (h : rQ σ m D ft ds) (hF : 20000 ≤ F) : f_AckBookModel_firstSpace F X (some (B + 31)) (o_w B X τ σ n c s) = some (.inl (some (.int (nI (if ds 0 = 0 then 0 else if ds 1 = 0 then 1 else if ds 2 = 0 then 2 else 3)))), o_w B X τ σ n c s) := by
  unfold f_AckBookModel_firstSpace
  have e : ∀ M, M = F → j_AckBookModel_firstSpace F X M (some (B + 31)) 0 (o_w B X τ σ n c s) = some (.inl (some (.int (nI (if ds 0 = 0 then 0 else if ds 1 = 0 then 1 else if ds 2 = 0 then 2 else 3)))), o_w B X τ σ n c s) := fun M hM => by
    obtain ⟨N, hN⟩ : ∃ N, M = N + 1 + 1 + 1 + 1 := ⟨M - 4, by omega⟩
    rw [hN]
    have s0 : j_AckBookModel_firstSpace F X (N + 1 + 1 + 1 + 1) (some (B + 31)) 0 (o_w B X τ σ n c s) = _ := n_first1 h (N + 1 + 1 + 1) 0 (by omega)
    have s3 : j_AckBookModel_firstSpace F X (N + 1) (some (B + 31)) (nI (2 + 1)) (o_w B X τ σ n c s) = some (.inl (some (.int (nI 3))), o_w B X τ σ n c s) := by
      rw [j_AckBookModel_firstSpace]
      exact if_pos (by decide)
    rw [s0, n_first1 h (N + 1 + 1) 1 (by omega), n_first1 h (N + 1) 2 (by omega), s3]
    by_cases d0 : ds 0 = 0
    · rw [if_pos d0, if_pos d0]
    · rw [if_neg d0, if_neg d0]
      by_cases d1 : ds 1 = 0
      · rw [if_pos d1, if_pos d1]
      · rw [if_neg d1, if_neg d1]
        by_cases d2 : ds 2 = 0
        · rw [if_pos d2, if_pos d2]
        · rw [if_neg d2, if_neg d2]
  exact e F rfl
theorem n_probeJ (h : rQ σ m D ft ds) (hk : k < 3) (hW : ∀ f, f < 5 → σ.1 31 (18 + f) = W f) (h2 : σ.1 31 2 = conf) (h23 : σ.1 31 23 = b) : ∀ (N i : Nat), i ≤ m k → m k - i < N → j_AckBookModel_probeTime F X N (some (B + 31)) (nI k) (la (D k) i) (nI i) (o_w B X τ σ n c s) = some (.inl (some (.int (la (D k) (m k) + (ptV W conf k <<< (b &&& 31))))), o_w B X τ σ n c s) := by
  obtain ⟨⟨h1, hm, -⟩, hD⟩ := h k hk
  have hp := n_pat (B := B) (X := X) (F := F) (τ := τ) (n := n) (c := c) (s := s) hk hW h2
  intro N
  induction N with
  | zero => exact fun _ _ h => absurd h (Nat.not_lt_zero _)
  | succ N ih =>
    intro i hi hN
    rw [j_AckBookModel_probeTime]
    simp (disch := omega) only [or_31_4, oln_32, h1, e_le]
    by_cases hle : m k ≤ i
    · obtain rfl : i = m k := by omega
      rw [if_pos hle]
      simp only [ot_31, hp, z_cI, oi_31_23, h23]
    · rw [if_neg hle]
      obtain ⟨⟨-, f34, f36, -⟩, -⟩ := hD i (by omega)
      simp (disch := omega) only [or_31_8, or_31_6, oln_36, oln_34, e_mu, nI_add, nI_1, f34, f36]
      have go := ih (i + 1) (by omega) (by omega)
      have el : la (D k) (i + 1) = if D k 3 i = 0 then la (D k) i else D k 2 i := rfl
      rw [el] at go
      by_cases w : D k 3 i = 0
      · rw [if_pos w]
        rw [if_pos w] at go
        exact go
      · rw [if_neg w]
        rw [if_neg w] at go
        exact go
theorem n_probe (h : rQ σ m D ft ds) (hk : k < 3) (hF : 20000 ≤ F) (hW : ∀ f, f < 5 → σ.1 31 (18 + f) = W f) (h2 : σ.1 31 2 = conf) (h3 : σ.1 31 3 = anx) (h14 : σ.1 31 14 = ls) (h23 : σ.1 31 23 = b) : f_AckBookModel_probeTime F X (some (B + 31)) (nI k) (o_w B X τ σ n c s) = some (.inl (some (.int (prV ds (fun k => pS (ez (D k)) (ft k) (ds k) (m k)) (fun k => la (D k) (m k)) W conf anx ls b k))), o_w B X τ σ n c s) := by
  obtain ⟨⟨h1, hm, h39⟩, hD⟩ := h k hk
  have hp := n_pat (B := B) (X := X) (F := F) (τ := τ) (n := n) (c := c) (s := s) hk hW h2
  have hfs := n_first (B := B) (X := X) (F := F) (τ := τ) (n := n) (c := c) (s := s) h hF
  have hj := n_probeJ (B := B) (X := X) (F := F) (τ := τ) (n := n) (c := c) (s := s) h hk hW h2 h23 F 0 (Nat.zero_le _) (by omega)
  have o0 : f_AckBookModel_outs F X (some (B + 31)) 0 0 (o_w B X τ σ n c s) = _ := n_outs h (k := 0) (by omega) hF
  have o1 : f_AckBookModel_outs F X (some (B + 31)) 1 0 (o_w B X τ σ n c s) = _ := n_outs h (k := 1) (by omega) hF
  have o2 : f_AckBookModel_outs F X (some (B + 31)) 2 0 (o_w B X τ σ n c s) = _ := n_outs h (k := 2) (by omega) hF
  have ok := n_outs (B := B) (X := X) (F := F) (τ := τ) (n := n) (c := c) (s := s) h hk hF
  obtain ⟨z0, a0, b0⟩ := pS_ez (D := D 0) (ft := ft 0) (ds := ds 0) (m 0)
  obtain ⟨z1, a1, b1⟩ := pS_ez (D := D 1) (ft := ft 1) (ds := ds 1) (m 1)
  obtain ⟨z2, a2, b2⟩ := pS_ez (D := D 2) (ft := ft 2) (ds := ds 2) (m 2)
  have m0 := (h 0 (by omega)).1.2.1
  have m1 := (h 1 (by omega)).1.2.1
  have m2 := (h 2 (by omega)).1.2.1
  have ezk : ∀ z, z < 2147483648 → (nI z ≤ 0) = (z = 0) := fun z hz => by
    rw [show (0 : Int32) = nI 0 from rfl, e_le hz (by omega)]
    exact propext (by omega)
  have hq : ¬ (¬ ds k = 0 ∨ (k = 2 ∧ conf = 0)) → q_AckBookModel_probeTime_23 F X (j_AckBookModel_probeTime F X F) (some (B + 31)) (nI k) (o_w B X τ σ n c s) = some (.inl (some (.int (prV ds (fun k => pS (ez (D k)) (ft k) (ds k) (m k)) (fun k => la (D k) (m k)) W conf anx ls b k))), o_w B X τ σ n c s) := fun hn => by
    have hdk : ds k = 0 := Decidable.not_not.mp fun z => hn (Or.inl z)
    unfold q_AckBookModel_probeTime_23 prV
    rw [if_neg hn]
    simp only [ot_31, ok, o0, o1, o2, z_cI]
    by_cases w : pS (ez (D k)) (ft k) (ds k) (m k) ≤ 0
    · rw [if_pos w, if_neg (Int32.not_lt.mpr w)]
      have hsum : (pS (ez (D 0)) (ft 0) (ds 0) (m 0) + pS (ez (D 1)) (ft 1) (ds 1) (m 1) + pS (ez (D 2)) (ft 2) (ds 2) (m 2) ≤ 0) ↔ (pS (ez (D 0)) (ft 0) (ds 0) (m 0) ≤ 0 ∧ pS (ez (D 1)) (ft 1) (ds 1) (m 1) ≤ 0 ∧ pS (ez (D 2)) (ft 2) (ds 2) (m 2) ≤ 0) := by
        rw [b0, b1, b2, nI_add, nI_add, ezk _ (by omega), ezk _ (by omega), ezk _ (by omega), ezk _ (by omega)]
        omega
      have hfk : (nI (if ds 0 = 0 then 0 else if ds 1 = 0 then 1 else if ds 2 = 0 then 2 else 3) = nI k) ↔ ((0 < k → ¬ ds 0 = 0) ∧ (1 < k → ¬ ds 1 = 0)) := by
        rw [e_eq (by (repeat' split) <;> omega) (by omega)]
        rcases (by omega : k = 0 ∨ k = 1 ∨ k = 2) with rfl | rfl | rfl
        · rw [if_pos hdk]
          exact ⟨fun _ => ⟨fun z => absurd z (by omega), fun z => absurd z (by omega)⟩, fun _ => rfl⟩
        · by_cases d0 : ds 0 = 0
          · rw [if_pos d0]
            exact ⟨fun z => absurd z (by omega), fun z => absurd d0 (z.1 (by omega))⟩
          · rw [if_neg d0, if_pos hdk]
            exact ⟨fun _ => ⟨fun _ => d0, fun z => absurd z (by omega)⟩, fun _ => rfl⟩
        · by_cases d0 : ds 0 = 0
          · rw [if_pos d0]
            exact ⟨fun z => absurd z (by omega), fun z => absurd d0 (z.1 (by omega))⟩
          · rw [if_neg d0]
            by_cases d1 : ds 1 = 0
            · rw [if_pos d1]
              exact ⟨fun z => absurd z (by omega), fun z => absurd d1 (z.2 (by omega))⟩
            · rw [if_neg d1, if_pos hdk]
              exact ⟨fun _ => ⟨fun _ => d0, fun _ => d1⟩, fun _ => rfl⟩
      have q125 : ∀ y : Int32, q_AckBookModel_probeTime_125 F X (j_AckBookModel_probeTime F X F) (some (B + 31)) (nI k) y (o_w B X τ σ n c s) = (if anx = 0 then some (.inl (some (.int (-1))), o_w B X τ σ n c s) else if y = 0 then (if nI (if ds 0 = 0 then 0 else if ds 1 = 0 then 1 else if ds 2 = 0 then 2 else 3) = nI k then some (.inl (some (.int (ls + (ptV W conf k <<< (b &&& 31))))), o_w B X τ σ n c s) else some (.inl (some (.int (-1))), o_w B X τ σ n c s)) else some (.inl (some (.int (-1))), o_w B X τ σ n c s)) := fun y => by
        unfold q_AckBookModel_probeTime_125
        simp only [oi_31_3, h3, ot_31, hfs, z_cI, oi_31_14, h14, hp, oi_31_23, h23]
      rw [q125, q125]
      by_cases x0 : anx = 0
      · rw [if_pos x0, if_pos x0, ite_self, if_neg (show ¬ (¬ anx = 0 ∧ prA _ ds k) from fun z => z.1 x0)]
      · rw [if_neg x0, if_neg x0]
        by_cases xs : pS (ez (D 0)) (ft 0) (ds 0) (m 0) ≤ 0 ∧ pS (ez (D 1)) (ft 1) (ds 1) (m 1) ≤ 0 ∧ pS (ez (D 2)) (ft 2) (ds 2) (m 2) ≤ 0
        · rw [if_pos (hsum.mpr xs), if_pos rfl]
          by_cases xf : (0 < k → ¬ ds 0 = 0) ∧ (1 < k → ¬ ds 1 = 0)
          · rw [if_pos (hfk.mpr xf), if_pos (show ¬ anx = 0 ∧ prA (fun k => pS (ez (D k)) (ft k) (ds k) (m k)) ds k from ⟨x0, xs, xf⟩)]
          · rw [if_neg (fun z => xf (hfk.mp z)), if_neg (show ¬ (¬ anx = 0 ∧ prA (fun k => pS (ez (D k)) (ft k) (ds k) (m k)) ds k) from fun z => xf z.2.2)]
        · rw [if_neg (fun z => xs (hsum.mp z)), if_neg (show ¬ (1 : Int32) = 0 by decide), if_neg (show ¬ (¬ anx = 0 ∧ prA (fun k => pS (ez (D k)) (ft k) (ds k) (m k)) ds k) from fun z => xs z.2.1)]
    · rw [if_neg w, if_pos (Int32.not_le.mp w)]
      exact hj
  unfold f_AckBookModel_probeTime
  simp (disch := omega) only [or_31_11, oln_39, h39, oi_31_2, h2]
  by_cases w : ds k = 0
  · rw [if_pos w]
    by_cases k2 : k = 2
    · rw [if_pos (show nI k = 2 by rw [k2]; rfl)]
      by_cases c0 : conf = 0
      · rw [if_pos c0]
        unfold prV
        rw [if_pos (Or.inr ⟨k2, c0⟩)]
      · rw [if_neg c0]
        exact hq (fun z => z.elim (fun z => z w) (fun z => c0 z.2))
    · rw [if_neg (show ¬ nI k = 2 from fun z => k2 ((nI_eq (a := k) (b := 2) (by omega) (by decide)).mp z))]
      exact hq (fun z => z.elim (fun z => z w) (fun z => k2 z.1))
  · rw [if_neg w]
    unfold prV
    rw [if_pos (Or.inl w)]
end KH
