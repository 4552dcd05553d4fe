section CS
variable {B X F : Nat} {n c s T : Nat}
def zT (r : zR) : Prop := ∃ wE, r = some (.inl (some (.int (1 : Int32))), wE)
theorem zT.ite {p : Prop} [Decidable p] {a b : zR} (h1 : p → zT a) (h2 : ¬ p → zT b) : zT (if p then a else b) := by
  split
  · exact h1 (by assumption)
  · exact h2 (by assumption)
theorem z_scN {xs : Nat → Int32} {L i : Nat} {K : Int32 → zR} (h : i < L) (hL : L ≤ 2560) : z_scr xs L (nI i) K = K (xs i) := by
  unfold z_scr
  rw [nI_clamp (by omega), if_pos]
  rintro (q | q)
  · exact nI_pos (by omega) q
  · omega
theorem z_end5 {L i : Nat} (hL : L ≤ 2560) (hi : i ≤ 2560) : (nI L - 5 < nI i) = (L < i + 5) := by
  refine propext ?_
  rw [Int32.lt_iff_toInt_lt, Int32.toInt_sub, nI_toInt (by omega), nI_toInt (by omega), show (5 : Int32).toInt = 5 by decide, Int.bmod_eq_of_le (by omega) (by omega)]
  omega
theorem kI.up {τ : zK} {σ : zS} (h : kI T τ σ n c s) : kI (T + 1) τ σ n c s := by
  obtain ⟨N, rk, R, hJ, hR, n1, n2, n3, n4⟩ := h
  exact ⟨N, rk, R, hJ.up (by omega), by omega, n1, n2, by omega, by omega⟩
set_option maxHeartbeats 4000000 in
theorem law_j (hX : X < B) (hF : 100000000 ≤ F) (xs : Nat → Int32) (L : Nat) (hL : L ≤ 2560) : ∀ (M T : Nat) (τ : zK) (σ : zS) (n c s : Nat), kS T τ σ n c s → kA T σ → kE T τ σ → 5 * T ≤ L → L < 5 * (T + M) → zT (j_AckBookLaw_law F X xs L M (some (B + 0)) (some (B + 31)) (some (B + 55)) (nI (5 * T)) (o_w B X τ σ n c s)) := by
  intro M
  induction M with
  | zero => exact fun T τ σ n c s _ _ _ h1 h2 => absurd h2 (by omega)
  | succ M ih =>
    intro T τ σ n c s hS hA hD h1 h2
    rw [j_AckBookLaw_law]
    simp only [z_scl]
    refine zT.ite (fun _ => ⟨_, rfl⟩) (fun hd => ?_)
    rw [show Int32.ofNat L = nI L from rfl, z_end5 hL (by omega)] at hd
    have hT : T < 512 := by omega
    have a5 : nI (5 * T) + 5 = nI (5 * (T + 1)) := (nI_add (5 * T) 5).trans (by rw [Nat.mul_add])
    have a1 : nI (5 * T) + 1 = nI (5 * T + 1) := nI_add (5 * T) 1
    have a2 : nI (5 * T) + 2 = nI (5 * T + 2) := nI_add (5 * T) 2
    have a3 : nI (5 * T) + 3 = nI (5 * T + 3) := nI_add (5 * T) 3
    have a4 : nI (5 * T) + 4 = nI (5 * T + 4) := nI_add (5 * T) 4
    have HJ : ∀ (τ : zK) (σ : zS) (n c s : Nat), kS (T + 1) τ σ n c s → kA (T + 1) σ → kE (T + 1) τ σ → zT (j_AckBookLaw_law F X xs L M (some (B + 0)) (some (B + 31)) (some (B + 55)) (nI (5 * (T + 1))) (o_w B X τ σ n c s)) := fun τ σ n c s h h' h'' => ih (T + 1) τ σ n c s h h' h'' (by omega) (by omega)
    have b0 : ∀ K, z_scr xs L (nI (5 * T)) K = K (xs (5 * T)) := fun K => z_scN (by omega) hL
    have b1 : ∀ K, z_scr xs L (nI (5 * T + 1)) K = K (xs (5 * T + 1)) := fun K => z_scN (by omega) hL
    have b2 : ∀ K, z_scr xs L (nI (5 * T + 2)) K = K (xs (5 * T + 2)) := fun K => z_scN (by omega) hL
    have b3 : ∀ K, z_scr xs L (nI (5 * T + 3)) K = K (xs (5 * T + 3)) := fun K => z_scN (by omega) hL
    have b4 : ∀ K, z_scr xs L (nI (5 * T + 4)) K = K (xs (5 * T + 4)) := fun K => z_scN (by omega) hL
    simp only [a1, a2, a3, a4, a5, b0, b1, b2, b3, b4, q_AckBookLaw_law_139, q_AckBookLaw_law_153, q_AckBookLaw_law_186, q_AckBookLaw_law_200, q_AckBookLaw_law_416, q_AckBookLaw_law_434, q_AckBookLaw_law_461, q_AckBookLaw_law_488, q_AckBookLaw_law_579, q_AckBookLaw_law_628, q_AckBookLaw_law_719, q_AckBookLaw_law_752]
    generalize xs (5 * T + 1) = x1
    generalize xs (5 * T + 2) = x2
    generalize xs (5 * T + 3) = x3
    generalize xs (5 * T + 4) = x4
    have hM := hS.2.1
    have hn := hS.1.n56
    have hN := hS.1.hN
    have hcmp : ∀ (v : Int32) (v2 : Int32) (τ2 : zK) (σ2 : zS) (n2 c2 s2 : Nat), kS (T + 1) τ2 σ2 n2 c2 s2 → kA (T + 1) σ2 → kE (T + 1) τ2 σ2 → σ2.1 31 0 = v → (v = 0 → σ2.2.1 55 0 = v2.toInt64) → zT (if σ2.1 31 0 = v then (if v = 0 then (if lg_cmp (σ2.2.1 55 0) v2.toInt64 = 0 then j_AckBookLaw_law F X xs L M (some (B + 0)) (some (B + 31)) (some (B + 55)) (nI (5 * (T + 1))) (o_w B X τ2 σ2 n2 c2 s2) else some (.inl (some (.int (0 : Int32))), o_w B X τ2 σ2 n2 c2 s2)) else j_AckBookLaw_law F X xs L M (some (B + 0)) (some (B + 31)) (some (B + 55)) (nI (5 * (T + 1))) (o_w B X τ2 σ2 n2 c2 s2)) else some (.inl (some (.int (0 : Int32))), o_w B X τ2 σ2 n2 c2 s2)) := by
      intro v v2 τ2 σ2 n2 c2 s2 hS2 hA2 hD2 ht hv
      rw [if_pos ht]
      by_cases hv0 : v = 0
      · rw [if_pos hv0]
        have hv := hv hv0
        rw [if_pos ((lg_cmp_eq _ _).mpr hv)]
        exact HJ _ _ _ _ _ hS2 hA2 hD2
      · rw [if_neg hv0]
        exact HJ _ _ _ _ _ hS2 hA2 hD2
    have hcmpL : ∀ (v : Int32) (v2 : Int64) (τ2 : zK) (σ2 : zS) (n2 c2 s2 : Nat), kS (T + 1) τ2 σ2 n2 c2 s2 → kA (T + 1) σ2 → kE (T + 1) τ2 σ2 → σ2.1 31 0 = v → (v = 0 → σ2.2.1 55 0 = v2) → zT (if σ2.1 31 0 = v then (if v = 0 then (if lg_cmp (σ2.2.1 55 0) v2 = 0 then j_AckBookLaw_law F X xs L M (some (B + 0)) (some (B + 31)) (some (B + 55)) (nI (5 * (T + 1))) (o_w B X τ2 σ2 n2 c2 s2) else some (.inl (some (.int (0 : Int32))), o_w B X τ2 σ2 n2 c2 s2)) else j_AckBookLaw_law F X xs L M (some (B + 0)) (some (B + 31)) (some (B + 55)) (nI (5 * (T + 1))) (o_w B X τ2 σ2 n2 c2 s2)) else some (.inl (some (.int (0 : Int32))), o_w B X τ2 σ2 n2 c2 s2)) := by
      intro v v2 τ2 σ2 n2 c2 s2 hS2 hA2 hD2 ht hv
      rw [if_pos ht]
      by_cases hv0 : v = 0
      · rw [if_pos hv0]
        have hv := hv hv0
        rw [if_pos ((lg_cmp_eq _ _).mpr hv)]
        exact HJ _ _ _ _ _ hS2 hA2 hD2
      · rw [if_neg hv0]
        exact HJ _ _ _ _ _ hS2 hA2 hD2
    have hcmpZ : ∀ (v : Int32) (v2 : Int32) (τ2 : zK) (σ2 : zS) (n2 c2 s2 : Nat), kS (T + 1) τ2 σ2 n2 c2 s2 → kA (T + 1) σ2 → kE (T + 1) τ2 σ2 → σ2.1 31 0 = v → (v = 0 → σ2.2.1 55 0 = if v2 = 0 then 0 else 1) → zT (if σ2.1 31 0 = v then (if v = 0 then (if v2 = 0 then (if lg_cmp (σ2.2.1 55 0) 0 = 0 then j_AckBookLaw_law F X xs L M (some (B + 0)) (some (B + 31)) (some (B + 55)) (nI (5 * (T + 1))) (o_w B X τ2 σ2 n2 c2 s2) else some (.inl (some (.int (0 : Int32))), o_w B X τ2 σ2 n2 c2 s2)) else (if lg_cmp (σ2.2.1 55 0) 1 = 0 then j_AckBookLaw_law F X xs L M (some (B + 0)) (some (B + 31)) (some (B + 55)) (nI (5 * (T + 1))) (o_w B X τ2 σ2 n2 c2 s2) else some (.inl (some (.int (0 : Int32))), o_w B X τ2 σ2 n2 c2 s2))) else j_AckBookLaw_law F X xs L M (some (B + 0)) (some (B + 31)) (some (B + 55)) (nI (5 * (T + 1))) (o_w B X τ2 σ2 n2 c2 s2)) else some (.inl (some (.int (0 : Int32))), o_w B X τ2 σ2 n2 c2 s2)) := by
      intro v v2 τ2 σ2 n2 c2 s2 hS2 hA2 hD2 ht hv
      rw [if_pos ht]
      by_cases hv0 : v = 0
      · rw [if_pos hv0]
        have hv := hv hv0
        by_cases h2 : v2 = 0
        · rw [if_pos h2] at hv ⊢
          rw [if_pos ((lg_cmp_eq _ _).mpr hv)]
          exact HJ _ _ _ _ _ hS2 hA2 hD2
        · rw [if_neg h2] at hv ⊢
          rw [if_pos ((lg_cmp_eq _ _).mpr hv)]
          exact HJ _ _ _ _ _ hS2 hA2 hD2
      · rw [if_neg hv0]
        exact HJ _ _ _ _ _ hS2 hA2 hD2
    refine zT.ite (fun _ => ?_) (fun _ => ?_)
    · by_cases h3 : x3 = 0
      · by_cases h4 : x4 = 0
        · simp only [h3, h4, if_true]
          obtain ⟨v, τ1, σ1, n1, c1, s1, v2, σ2, e1, e2, hS2, ht, hv, hE1, hX2⟩ := x_sendE (B := B) (X := X) (F := F) hS hX hT hF x1 x2 0 0 (Or.inl rfl) (Or.inl rfl)
          have hA2 := hA.two ((h_l_send hn _ _ _ _).cells hn e1) ((hm_f_AckBookModel_send _ _ _ _ _).cells hS2.1.n56 e2)
          have hD2 := kE.send hS.1 hD hX hT (by omega) hS2.1.n56 (by first | exact Or.inl rfl | exact Or.inr rfl) (by first | exact Or.inl rfl | exact Or.inr rfl) hE1 (hM.ag hE1) e1 hX2 e2
          simp only [e1, y_cI, y_cV, y_cL, ot_0, ot_31, e2, oi_31_0, o55g]
          first
            | with_reducible exact HJ _ _ _ _ _ hS2 hA2 hD2
            | with_reducible exact hcmp _ _ _ _ _ _ _ hS2 hA2 hD2 ht hv
            | (rw [if_pos ht]; exact HJ _ _ _ _ _ hS2 hA2 hD2)
        · simp only [h3, h4, if_true, if_false]
          obtain ⟨v, τ1, σ1, n1, c1, s1, v2, σ2, e1, e2, hS2, ht, hv, hE1, hX2⟩ := x_sendE (B := B) (X := X) (F := F) hS hX hT hF x1 x2 0 1 (Or.inl rfl) (Or.inr rfl)
          have hA2 := hA.two ((h_l_send hn _ _ _ _).cells hn e1) ((hm_f_AckBookModel_send _ _ _ _ _).cells hS2.1.n56 e2)
          have hD2 := kE.send hS.1 hD hX hT (by omega) hS2.1.n56 (by first | exact Or.inl rfl | exact Or.inr rfl) (by first | exact Or.inl rfl | exact Or.inr rfl) hE1 (hM.ag hE1) e1 hX2 e2
          simp only [e1, y_cI, y_cV, y_cL, ot_0, ot_31, e2, oi_31_0, o55g]
          first
            | with_reducible exact HJ _ _ _ _ _ hS2 hA2 hD2
            | with_reducible exact hcmp _ _ _ _ _ _ _ hS2 hA2 hD2 ht hv
            | (rw [if_pos ht]; exact HJ _ _ _ _ _ hS2 hA2 hD2)
      · by_cases h4 : x4 = 0
        · simp only [h3, h4, if_true, if_false]
          obtain ⟨v, τ1, σ1, n1, c1, s1, v2, σ2, e1, e2, hS2, ht, hv, hE1, hX2⟩ := x_sendE (B := B) (X := X) (F := F) hS hX hT hF x1 x2 1 0 (Or.inr rfl) (Or.inl rfl)
          have hA2 := hA.two ((h_l_send hn _ _ _ _).cells hn e1) ((hm_f_AckBookModel_send _ _ _ _ _).cells hS2.1.n56 e2)
          have hD2 := kE.send hS.1 hD hX hT (by omega) hS2.1.n56 (by first | exact Or.inl rfl | exact Or.inr rfl) (by first | exact Or.inl rfl | exact Or.inr rfl) hE1 (hM.ag hE1) e1 hX2 e2
          simp only [e1, y_cI, y_cV, y_cL, ot_0, ot_31, e2, oi_31_0, o55g]
          first
            | with_reducible exact HJ _ _ _ _ _ hS2 hA2 hD2
            | with_reducible exact hcmp _ _ _ _ _ _ _ hS2 hA2 hD2 ht hv
            | (rw [if_pos ht]; exact HJ _ _ _ _ _ hS2 hA2 hD2)
        · simp only [h3, h4, if_false]
          obtain ⟨v, τ1, σ1, n1, c1, s1, v2, σ2, e1, e2, hS2, ht, hv, hE1, hX2⟩ := x_sendE (B := B) (X := X) (F := F) hS hX hT hF x1 x2 1 1 (Or.inr rfl) (Or.inr rfl)
          have hA2 := hA.two ((h_l_send hn _ _ _ _).cells hn e1) ((hm_f_AckBookModel_send _ _ _ _ _).cells hS2.1.n56 e2)
          have hD2 := kE.send hS.1 hD hX hT (by omega) hS2.1.n56 (by first | exact Or.inl rfl | exact Or.inr rfl) (by first | exact Or.inl rfl | exact Or.inr rfl) hE1 (hM.ag hE1) e1 hX2 e2
          simp only [e1, y_cI, y_cV, y_cL, ot_0, ot_31, e2, oi_31_0, o55g]
          first
            | with_reducible exact HJ _ _ _ _ _ hS2 hA2 hD2
            | with_reducible exact hcmp _ _ _ _ _ _ _ hS2 hA2 hD2 ht hv
            | (rw [if_pos ht]; exact HJ _ _ _ _ _ hS2 hA2 hD2)
    refine zT.ite (fun _ => ?_) (fun _ => ?_)
    · obtain ⟨v, τ1, σ1, n1, c1, s1, v2, σ2, e1, e2, hS2, ht, hv, hE1, hX2⟩ := x_spanE (B := B) (X := X) (F := F) hS hT ((x1.toInt64 <<< ((32 : Int32).toInt64 &&& 63)) ||| (x2.toInt64 &&& (4294967295 : Int64))) ((x3.toInt64 <<< ((32 : Int32).toInt64 &&& 63)) ||| (x4.toInt64 &&& (4294967295 : Int64)))
      have hA2 := hA.two ((h_l_span hn _ _).cells hn e1) ((hm_f_AckBookModel_span _ _ _).cells hS2.1.n56 e2)
      have hD2 := kE.span hD hX hn hS2.1.n56 hN hE1 (hM.ag hE1) e1 hX2 e2
      simp only [e1, y_cI, y_cV, y_cL, ot_0, ot_31, e2, oi_31_0, o55g]
      first
        | with_reducible exact HJ _ _ _ _ _ hS2 hA2 hD2
        | with_reducible exact hcmp _ _ _ _ _ _ _ hS2 hA2 hD2 ht hv
        | (rw [if_pos ht]; exact HJ _ _ _ _ _ hS2 hA2 hD2)
    refine zT.ite (fun _ => ?_) (fun _ => ?_)
    · obtain ⟨v, τ1, σ1, n1, c1, s1, e1, hI1, hE1, hU1⟩ := w_ack (B := B) (X := X) (F := F) hS.1 hT hF x1 x2
      obtain ⟨v2, σ2, e2, hM2, hX2, h0, u1, u2, u4⟩ := u_ack (B := B) (X := X) (F := F) (τ := τ1) (n := n1) (c := c1) (s := s1) (hM.ag hE1) (by omega) (by omega) x1 x2
      have hS2 := k_nmA hS.2.2 hE1 hU1 hX2 h0 u1 u2 u4 hI1 hM2
      have hA2 := hA.two ((h_l_acknowledge hn _ _).cells hn e1) ((hm_f_AckBookModel_acknowledge _ _ _).cells hS2.1.n56 e2)
      obtain ⟨hD2, ht, hv⟩ := kE.ack hD (hM.ag hE1) hX hn hS2.1.n56 hN hT hE1 e1 hX2 e2
      simp only [e1, y_cI, y_cV, y_cL, ot_0, ot_31, e2, oi_31_0, o55g]
      first
        | with_reducible exact HJ _ _ _ _ _ hS2 hA2 hD2
        | with_reducible exact hcmp _ _ _ _ _ _ _ hS2 hA2 hD2 ht hv
        | (rw [if_pos ht]; exact HJ _ _ _ _ _ hS2 hA2 hD2)
    refine zT.ite (fun _ => ?_) (fun _ => ?_)
    · obtain ⟨τ1, σ1, n1, c1, s1, hI1, ⟨v, e1, hF1, hU1, u, hu⟩ | ⟨a, ci, e1, -, -, -, u, hu⟩⟩ := k_tick (B := B) (X := X) (F := F) hS.1 hT hF
      · injection hu with hu
        subst hu
        obtain ⟨v2, σ2, e2, hM2, hX2, hU2⟩ := u_tick (B := B) (X := X) (F := F) (τ := τ1) (n := n1) (c := c1) (s := s1) (hM.ag hF1.e) (by omega) (by omega)
        have hS2 := k_nm hS.2.2 hF1.e hU1 hX2 hU2 hI1 hM2
        have hA2 := hA.tick hn hS2.1.n56 e1 e2
        obtain ⟨hD2, htk⟩ := kE.tick hD (hM.ag hF1.e) hX hT (by omega) hn hS2.1.n56 hN hF1.e e1 hX2 e2
        simp only [e1, y_cI, y_cV, y_cL, ot_0, ot_31, e2, oi_31_0, o55g]
        first
          | with_reducible exact HJ _ _ _ _ _ hS2 hA2 hD2
          | (rw [if_pos htk]; exact HJ _ _ _ _ _ hS2 hA2 hD2)
      · cases hu
    refine zT.ite (fun _ => ?_) (fun _ => ?_)
    · obtain ⟨v, τ1, σ1, n1, c1, s1, σ2, e1, e2, hS2, ht, hE1, hX2⟩ := x_discardE (B := B) (X := X) (F := F) hS hT hF x1
      have hA2 := kA.discard hS hA hT hF hS2.1.n56 x1 e1 e2
      have hD2 := kE.discard hD hX hn hS2.1.n56 hN hE1 e1 hX2 e2
      simp only [e1, y_cI, y_cV, y_cL, ot_0, ot_31, e2, oi_31_0, o55g]
      first
        | exact HJ _ _ _ _ _ hS2 hA2 hD2
        | (rw [if_pos ht]; exact HJ _ _ _ _ _ hS2 hA2 hD2)
    refine zT.ite (fun _ => ?_) (fun _ => ?_)
    · obtain ⟨τ1, σ1, n1, c1, s1, hI1, ⟨v, e1, hF1, hU1, hu⟩ | ⟨a, ci, e1, -, -, -, hu⟩⟩ := k_confirm (B := B) (X := X) (F := F) hS.1
      · injection hu with hu
        subst hu
        obtain ⟨σ2, e2, hM2, hX2, hU2⟩ := u_confirm (B := B) (X := X) (F := F) (τ := τ1) (n := n1) (c := c1) (s := s1) (hM.ag hF1.e)
        have hS2 := k_nm hS.2.2 hF1.e hU1 hX2 hU2 hI1 hM2
        have hA2 := hA.two ((h_f_AckBook_confirm _ _ _ _).cells hn e1) ((hm_f_AckBookModel_confirm _).cells hS2.1.n56 e2)
        have hD2 := kE.conf hD hX hn hS2.1.n56 hN hF1.e e1 hX2 e2
        simp only [e1, y_cI, y_cV, y_cL, ot_0, ot_31, e2, oi_31_0, o55g]
        exact HJ _ _ _ _ _ hS2 hA2 hD2
      · cases hu
    refine zT.ite (fun _ => ?_) (fun _ => ?_)
    · by_cases hz : x1 = 0
      · simp only [hz, if_true]
        obtain ⟨τ1, σ1, n1, c1, s1, hI1, ⟨v, e1, hF1, hU1, hu⟩ | ⟨a, ci, e1, -, -, -, hu⟩⟩ := k_anxious (B := B) (X := X) (F := F) hS.1 0 (Or.inl rfl)
        · injection hu with hu
          subst hu
          obtain ⟨σ2, e2, hM2, hX2, hU2⟩ := u_anxious (B := B) (X := X) (F := F) (τ := τ1) (n := n1) (c := c1) (s := s1) (hM.ag hF1.e) 0 (Or.inl rfl)
          have hS2 := k_nm hS.2.2 hF1.e hU1 hX2 hU2 hI1 hM2
          have hA2 := hA.two ((h_f_AckBook_anxious _ _ _ _ _).cells hn e1) ((hm_f_AckBookModel_anxious _ _).cells hS2.1.n56 e2)
          have hD2 := kE.anx hD hX hn hS2.1.n56 hN hF1.e e1 hX2 e2
          simp only [e1, y_cI, y_cV, y_cL, ot_0, ot_31, e2, oi_31_0, o55g]
          exact HJ _ _ _ _ _ hS2 hA2 hD2
        · cases hu
      · simp only [hz, if_false]
        obtain ⟨τ1, σ1, n1, c1, s1, hI1, ⟨v, e1, hF1, hU1, hu⟩ | ⟨a, ci, e1, -, -, -, hu⟩⟩ := k_anxious (B := B) (X := X) (F := F) hS.1 1 (Or.inr rfl)
        · injection hu with hu
          subst hu
          obtain ⟨σ2, e2, hM2, hX2, hU2⟩ := u_anxious (B := B) (X := X) (F := F) (τ := τ1) (n := n1) (c := c1) (s := s1) (hM.ag hF1.e) 1 (Or.inr rfl)
          have hS2 := k_nm hS.2.2 hF1.e hU1 hX2 hU2 hI1 hM2
          have hA2 := hA.two ((h_f_AckBook_anxious _ _ _ _ _).cells hn e1) ((hm_f_AckBookModel_anxious _ _).cells hS2.1.n56 e2)
          have hD2 := kE.anx hD hX hn hS2.1.n56 hN hF1.e e1 hX2 e2
          simp only [e1, y_cI, y_cV, y_cL, ot_0, ot_31, e2, oi_31_0, o55g]
          exact HJ _ _ _ _ _ hS2 hA2 hD2
        · cases hu
    refine zT.ite (fun _ => ?_) (fun _ => ?_)
    · by_cases hz : x2 = 0
      · simp only [hz, if_true]
        obtain ⟨v, τ1, σ1, n1, c1, s1, e1, hI1, hE1, hU1⟩ := w_next (B := B) (X := X) (F := F) hS.1 hT x1 0
        obtain ⟨v2, σ2, e2, hM2, hX2, hU2⟩ := u_next (B := B) (X := X) (F := F) (τ := τ1) (n := n1) (c := c1) (s := s1) (hM.ag hE1) (by omega) x1 0
        have hS2 := k_nm hS.2.2 hE1 hU1 hX2 hU2 hI1 hM2
        have hA2 := hA.two ((h_l_next hn _ _).cells hn e1) ((hm_f_AckBookModel_next _ _ _).cells hS2.1.n56 e2)
        obtain ⟨hD2, ht, hv⟩ := kE.next (b := 0) hD hX hn hS2.1.n56 hN (by omega) rfl hE1 e1 hX2 e2
        simp only [e1, y_cI, y_cV, y_cL, ot_0, ot_31, e2, oi_31_0, o55g]
        first
          | with_reducible exact HJ _ _ _ _ _ hS2 hA2 hD2
          | with_reducible exact hcmp _ _ _ _ _ _ _ hS2 hA2 hD2 ht hv
          | (rw [if_pos ht]; exact HJ _ _ _ _ _ hS2 hA2 hD2)
      · simp only [hz, if_false]
        obtain ⟨v, τ1, σ1, n1, c1, s1, e1, hI1, hE1, hU1⟩ := w_next (B := B) (X := X) (F := F) hS.1 hT x1 1
        obtain ⟨v2, σ2, e2, hM2, hX2, hU2⟩ := u_next (B := B) (X := X) (F := F) (τ := τ1) (n := n1) (c := c1) (s := s1) (hM.ag hE1) (by omega) x1 1
        have hS2 := k_nm hS.2.2 hE1 hU1 hX2 hU2 hI1 hM2
        have hA2 := hA.two ((h_l_next hn _ _).cells hn e1) ((hm_f_AckBookModel_next _ _ _).cells hS2.1.n56 e2)
        obtain ⟨hD2, ht, hv⟩ := kE.next (b := 1) hD hX hn hS2.1.n56 hN (by omega) rfl hE1 e1 hX2 e2
        simp only [e1, y_cI, y_cV, y_cL, ot_0, ot_31, e2, oi_31_0, o55g]
        first
          | with_reducible exact HJ _ _ _ _ _ hS2 hA2 hD2
          | with_reducible exact hcmp _ _ _ _ _ _ _ hS2 hA2 hD2 ht hv
          | (rw [if_pos ht]; exact HJ _ _ _ _ _ hS2 hA2 hD2)
    refine zT.ite (fun _ => ?_) (fun _ => ?_)
    · obtain ⟨v, τ1, σ1, n1, c1, s1, e1, hI1, hE1, hU1⟩ := w_state (B := B) (X := X) (F := F) hS.1 hT x1 x2
      obtain ⟨v2, σ2, e2, hM2, hX2, hU2⟩ := u_state (B := B) (X := X) (F := F) (τ := τ1) (n := n1) (c := c1) (s := s1) (hM.ag hE1) (by omega) x1 x2
      have hS2 := k_nm hS.2.2 hE1 hU1 hX2 hU2 hI1 hM2
      have hA2 := hA.two ((h_l_state hn _ _).cells hn e1) ((hm_f_AckBookModel_state _ _ _).cells hS2.1.n56 e2)
      have hD2 := hD.fin (zQ_w2 hX hn hN (hq_f_AckBookLaw_state _ _ _ _ _ _) e1) hE1 hX2 hS2.1.n56 (hs_f_AckBookModel_state _ _ _) e2
      simp only [e1, y_cI, y_cV, y_cL, ot_0, ot_31, e2, oi_31_0, o55g]
      exact HJ _ _ _ _ _ hS2 hA2 hD2
    refine zT.ite (fun _ => ?_) (fun _ => ?_)
    · by_cases hz : x4 = 0
      · simp only [hz, if_true]
        obtain ⟨v, τ1, σ1, n1, c1, s1, e1, hI1, hE1, hU1⟩ := w_came (B := B) (X := X) (F := F) hS.1 hT hF x1 ((x2.toInt64 <<< ((32 : Int32).toInt64 &&& 63)) ||| (x3.toInt64 &&& (4294967295 : Int64))) 0
        obtain ⟨v2, σ2, e2, hM2, hX2, hU2⟩ := u_came (B := B) (X := X) (F := F) (τ := τ1) (n := n1) (c := c1) (s := s1) (hM.ag hE1) (by omega) x1 ((x2.toInt64 <<< ((32 : Int32).toInt64 &&& 63)) ||| (x3.toInt64 &&& (4294967295 : Int64))) 0
        have hS2 := k_nm hS.2.2 hE1 hU1 hX2 hU2 hI1 hM2
        obtain ⟨hA2, ht, hv⟩ := x_cameR hS hA hF hS2.1.n56 _ _ e1 e2
        have hD2 := hD.fin (x_cameT hS hA hF hX hn hN e1) hE1 hX2 hS2.1.n56 (hs_f_AckBookModel_came _ _ _ _) e2
        simp only [e1, y_cI, y_cV, y_cL, ot_0, ot_31, e2, oi_31_0, o55g]
        first
          | with_reducible exact HJ _ _ _ _ _ hS2 hA2 hD2
          | with_reducible exact hcmpZ _ _ _ _ _ _ _ hS2 hA2 hD2 ht hv
          | (rw [if_pos ht]; exact HJ _ _ _ _ _ hS2 hA2 hD2)
      · simp only [hz, if_false]
        obtain ⟨v, τ1, σ1, n1, c1, s1, e1, hI1, hE1, hU1⟩ := w_came (B := B) (X := X) (F := F) hS.1 hT hF x1 ((x2.toInt64 <<< ((32 : Int32).toInt64 &&& 63)) ||| (x3.toInt64 &&& (4294967295 : Int64))) 1
        obtain ⟨v2, σ2, e2, hM2, hX2, hU2⟩ := u_came (B := B) (X := X) (F := F) (τ := τ1) (n := n1) (c := c1) (s := s1) (hM.ag hE1) (by omega) x1 ((x2.toInt64 <<< ((32 : Int32).toInt64 &&& 63)) ||| (x3.toInt64 &&& (4294967295 : Int64))) 1
        have hS2 := k_nm hS.2.2 hE1 hU1 hX2 hU2 hI1 hM2
        obtain ⟨hA2, ht, hv⟩ := x_cameR hS hA hF hS2.1.n56 _ _ e1 e2
        have hD2 := hD.fin (x_cameT hS hA hF hX hn hN e1) hE1 hX2 hS2.1.n56 (hs_f_AckBookModel_came _ _ _ _) e2
        simp only [e1, y_cI, y_cV, y_cL, ot_0, ot_31, e2, oi_31_0, o55g]
        first
          | with_reducible exact HJ _ _ _ _ _ hS2 hA2 hD2
          | with_reducible exact hcmpZ _ _ _ _ _ _ _ hS2 hA2 hD2 ht hv
          | (rw [if_pos ht]; exact HJ _ _ _ _ _ hS2 hA2 hD2)
    refine zT.ite (fun _ => ?_) (fun _ => ?_)
    · obtain ⟨v, τ1, σ1, n1, c1, s1, e1, hI1, hE1, hU1⟩ := w_due (B := B) (X := X) (F := F) hS.1 hT x1
      obtain ⟨v2, σ2, e2, hM2, hX2, hU2⟩ := u_due (B := B) (X := X) (F := F) (τ := τ1) (n := n1) (c := c1) (s := s1) (hM.ag hE1) x1
      have hS2 := k_nm hS.2.2 hE1 hU1 hX2 hU2 hI1 hM2
      obtain ⟨hA2, ht, hv⟩ := x_dueR hS hA hT hS2.1.n56 _ e1 e2
      have hD2 := hD.fin (zQ_w2 hX hn hN (hq_f_AckBookLaw_due _ _ _ _ _) e1) hE1 hX2 hS2.1.n56 (hs_f_AckBookModel_due _ _) e2
      simp only [e1, y_cI, y_cV, y_cL, ot_0, ot_31, e2, oi_31_0, o55g]
      first
        | with_reducible exact HJ _ _ _ _ _ hS2 hA2 hD2
        | with_reducible exact hcmpZ _ _ _ _ _ _ _ hS2 hA2 hD2 ht hv
        | (rw [if_pos ht]; exact HJ _ _ _ _ _ hS2 hA2 hD2)
    refine zT.ite (fun _ => ?_) (fun _ => ?_)
    · obtain ⟨v, τ1, σ1, n1, c1, s1, e1, hI1, hE1, hU1⟩ := w_written (B := B) (X := X) (F := F) hS.1 hT x1
      obtain ⟨v2, σ2, e2, hM2, hX2, hU2⟩ := u_written (B := B) (X := X) (F := F) (τ := τ1) (n := n1) (c := c1) (s := s1) (hM.ag hE1) x1
      have hS2 := k_nm hS.2.2 hE1 hU1 hX2 hU2 hI1 hM2
      obtain ⟨hA2, ht, hv⟩ := x_writtenR hS hA hS2.1.n56 _ e1 e2
      have hD2 := hD.fin (x_writtenT hS hA hX hn hN e1) hE1 hX2 hS2.1.n56 (hs_f_AckBookModel_written _ _) e2
      simp only [e1, y_cI, y_cV, y_cL, ot_0, ot_31, e2, oi_31_0, o55g]
      first
        | with_reducible exact HJ _ _ _ _ _ hS2 hA2 hD2
        | with_reducible exact hcmp _ _ _ _ _ _ _ hS2 hA2 hD2 ht hv
        | (rw [if_pos ht]; exact HJ _ _ _ _ _ hS2 hA2 hD2)
    refine zT.ite (fun _ => ?_) (fun _ => ?_)
    · by_cases hz : x3 = 0
      · simp only [hz, if_true]
        obtain ⟨v, τ1, σ1, n1, c1, s1, e1, hI1, hE1, hU1⟩ := w_range (B := B) (X := X) (F := F) hS.1 hT x1 x2 0
        obtain ⟨v2, σ2, e2, hM2, hX2, hU2⟩ := u_range (B := B) (X := X) (F := F) (τ := τ1) (n := n1) (c := c1) (s := s1) (hM.ag hE1) x1 x2 0
        have hS2 := k_nm hS.2.2 hE1 hU1 hX2 hU2 hI1 hM2
        obtain ⟨hA2, ht, hv⟩ := x_rangeR hS hA hS2.1.n56 _ _ e1 e2
        have hD2 := hD.fin (zQ_w2 hX hn hN (hq_f_AckBookLaw_range _ _ _ _ _ _ _) e1) hE1 hX2 hS2.1.n56 (hs_f_AckBookModel_range _ _ _ _) e2
        simp only [e1, y_cI, y_cV, y_cL, ot_0, ot_31, e2, oi_31_0, o55g]
        first
          | with_reducible exact HJ _ _ _ _ _ hS2 hA2 hD2
          | with_reducible exact hcmpL _ _ _ _ _ _ _ hS2 hA2 hD2 ht hv
          | (rw [if_pos ht]; exact HJ _ _ _ _ _ hS2 hA2 hD2)
      · simp only [hz, if_false]
        obtain ⟨v, τ1, σ1, n1, c1, s1, e1, hI1, hE1, hU1⟩ := w_range (B := B) (X := X) (F := F) hS.1 hT x1 x2 1
        obtain ⟨v2, σ2, e2, hM2, hX2, hU2⟩ := u_range (B := B) (X := X) (F := F) (τ := τ1) (n := n1) (c := c1) (s := s1) (hM.ag hE1) x1 x2 1
        have hS2 := k_nm hS.2.2 hE1 hU1 hX2 hU2 hI1 hM2
        obtain ⟨hA2, ht, hv⟩ := x_rangeR hS hA hS2.1.n56 _ _ e1 e2
        have hD2 := hD.fin (zQ_w2 hX hn hN (hq_f_AckBookLaw_range _ _ _ _ _ _ _) e1) hE1 hX2 hS2.1.n56 (hs_f_AckBookModel_range _ _ _ _) e2
        simp only [e1, y_cI, y_cV, y_cL, ot_0, ot_31, e2, oi_31_0, o55g]
        first
          | with_reducible exact HJ _ _ _ _ _ hS2 hA2 hD2
          | with_reducible exact hcmpL _ _ _ _ _ _ _ hS2 hA2 hD2 ht hv
          | (rw [if_pos ht]; exact HJ _ _ _ _ _ hS2 hA2 hD2)
    refine zT.ite (fun _ => ?_) (fun _ => ?_)
    · obtain ⟨v, τ1, σ1, n1, c1, s1, e1, hI1, hE1, hU1⟩ := w_look (B := B) (X := X) (F := F) hS.1 hT x1
      obtain ⟨v2, σ2, e2, hM2, hX2, hU2⟩ := u_look (B := B) (X := X) (F := F) (τ := τ1) (n := n1) (c := c1) (s := s1) (hM.ag hE1) (by omega) (by omega) x1
      have hS2 := k_nm hS.2.2 hE1 hU1 hX2 hU2 hI1 hM2
      have hA2 := hA.two ((h_l_look hn _).cells hn e1) ((hm_f_AckBookModel_look _ _).cells hS2.1.n56 e2)
      obtain ⟨ht, hv⟩ := kE.look hD hX (by omega) hn hS2.1.n56 hN hE1 e1 hX2 e2
      have hD2 := hD.fin (zQ_w2 hX hn hN (hq_f_AckBookLaw_look _ _ _ _ _) e1) hE1 hX2 hS2.1.n56 (hs_f_AckBookModel_look _ _) e2
      simp only [e1, y_cI, y_cV, y_cL, ot_0, ot_31, e2, oi_31_0, o55g]
      first
        | with_reducible exact HJ _ _ _ _ _ hS2 hA2 hD2
        | with_reducible exact hcmp _ _ _ _ _ _ _ hS2 hA2 hD2 ht hv
        | (rw [if_pos ht]; exact HJ _ _ _ _ _ hS2 hA2 hD2)
    refine zT.ite (fun _ => ?_) (fun _ => ?_)
    · obtain ⟨v, τ1, σ1, n1, c1, s1, e1, hI1, hE1, hU1⟩ := w_space (B := B) (X := X) (F := F) hS.1 hT hF x1 x2
      obtain ⟨v2, σ2, e2, hM2, hX2, hU2⟩ := u_space (B := B) (X := X) (F := F) (τ := τ1) (n := n1) (c := c1) (s := s1) (hM.ag hE1) (by omega) (by omega) x1 x2
      have hS2 := k_nm hS.2.2 hE1 hU1 hX2 hU2 hI1 hM2
      have hA2 := hA.two ((h_l_space hn _ _).cells hn e1) ((hm_f_AckBookModel_space _ _ _).cells hS2.1.n56 e2)
      have hD2 := hD.fin (zQ_w2 hX hn hN (hq_f_AckBookLaw_space _ _ _ _ _ _) e1) hE1 hX2 hS2.1.n56 (hs_f_AckBookModel_space _ _ _) e2
      simp only [e1, y_cI, y_cV, y_cL, ot_0, ot_31, e2, oi_31_0, o55g]
      exact HJ _ _ _ _ _ hS2 hA2 hD2
    exact HJ _ _ _ _ _ ⟨hS.1.up, hS.2.1.up (by omega), hS.2.2⟩ (hA.cong (Nat.le_succ T) (aC.refl σ) (fN.refl σ)) hD.up
end CS
theorem pure_main (xs : Nat → Int32) (L : Nat) (hL : L ≤ 2560) (B X : Nat) (hX : X < B) : ∃ (F : Nat) (wE : zW), f_AckBookLaw_law F X xs L (z_w0 B X) = some (.inl (some (.int (1 : Int32))), wE) := by
  have hR : kR o_s0 := ⟨fun k hk => by rcases (by omega : k = 0 ∨ k = 1 ∨ k = 2) with rfl | rfl | rfl <;> rfl, fun k hk => by rcases (by omega : k = 0 ∨ k = 1 ∨ k = 2) with rfl | rfl | rfl <;> rfl, rfl, fun _ => rfl⟩
  obtain ⟨wE, h⟩ := law_j (F := 100000000 + 4) hX (by omega) xs L hL (100000000 + 4) 0 (fun _ => none) o_s0 56 600968 7193507 ⟨i_kI, i_mM, hR⟩ i_kA i_kE (by omega) (by omega)
  exact ⟨100000000 + 4, wE, (i_law xs L hX).trans h⟩
