/-! look, on both sides; the start. -/
section LH
variable {B X F : Nat} {τ τ1 : zK} {n c s n1 c1 s1 T : Nat} {σ σ' σ1 σ2 σ3 : zS} {P : Nat → Nat → Nat} {m : Nat → Nat} {D : Nat → Nat → Nat → Int32} {ft : Nat → Nat → Int32} {q : Nat → Nat → List Nat} {S : Nat → Nat → Int32} {t p : Nat} {a : Nat → Nat → Nat} {W ds ga : Nat → Int32} {L H : Nat → Int64} {j : Nat} {x : Int32}
def lkV (t f0 : Int32) (x : Int32 × Int32 × Int32) (W : Nat → Int32) (b : Int32) : Nat → Int32
  | 0 => t
  | 1 => f0
  | 2 => x.1
  | 3 => x.2.1
  | 4 => x.2.2
  | 5 => W 0
  | 6 => W 1
  | 7 => W 2
  | 8 => W 3
  | 9 => b
  | 10 => limV (W 0) (W 2)
  | _ => if x.1 - f0 < 0 then 0 else x.1 - f0
theorem c_lk (hW : ∀ f, f < 5 → σ.1 29 f = W f) (hj : j < 12) : f_AckBook_look F X (some (B + 0)) (nI j) (o_w B X τ σ n c s) = some (.inl (some (.int (lkV (σ.1 0 4) (σ.1 30 0) (fq σ) W (σ.1 0 5) j))), o_w B X τ σ n c s) := by
  have elim : (if ((9 : Int32) * (if W 0 / 8 < W 2 then W 2 else W 0 / 8)) / 8 < 1 then 1 else ((9 : Int32) * (if W 0 / 8 < W 2 then W 2 else W 0 / 8)) / 8) = limV (W 0) (W 2) := rfl
  unfold f_AckBook_look
  simp only [oi_0_4, or_0_3, oi_30_0, oi_30_1, oi_30_2, oi_30_3, or_0_2, oi_29_0, oi_29_1, oi_29_2, oi_29_3, oi_0_5, ot_29, f_AckBook_Way_limit, y_cI, hW 0 (by omega), hW 1 (by omega), hW 2 (by omega), hW 3 (by omega), elim]
  rcases (by omega : j = 0 ∨ j = 1 ∨ j = 2 ∨ j = 3 ∨ j = 4 ∨ j = 5 ∨ j = 6 ∨ j = 7 ∨ j = 8 ∨ j = 9 ∨ j = 10 ∨ j = 11) with rfl | rfl | rfl | rfl | rfl | rfl | rfl | rfl | rfl | rfl | rfl | rfl
  all_goals
    (repeat rw [if_neg (show ¬ (nI _ : Int32) = _ by decide)])
    rw [if_pos (show (nI _ : Int32) = _ by decide)]
    try rfl
theorem c_lkB (hx : x < 0 ∨ ¬ x < nI 12) : f_AckBook_look F X (some (B + 0)) x (o_w B X τ σ n c s) = z_thr (o_w B X τ σ n c s) 13 := by
  unfold f_AckBook_look
  have ne : ∀ j, j < 12 → ¬ x = nI j := fun j hj z => by
    rcases hx with hx | hx
    · rw [z] at hx
      exact nI_pos (by omega) hx
    · rw [z] at hx
      exact hx (nI_lt hj (by omega))
  rw [if_neg (show ¬ x = (0 : Int32) from ne 0 (by omega)), if_neg (show ¬ x = (1 : Int32) from ne 1 (by omega)), if_neg (show ¬ x = (2 : Int32) from ne 2 (by omega)), if_neg (show ¬ x = (3 : Int32) from ne 3 (by omega)), if_neg (show ¬ x = (4 : Int32) from ne 4 (by omega)), if_neg (show ¬ x = (5 : Int32) from ne 5 (by omega)), if_neg (show ¬ x = (6 : Int32) from ne 6 (by omega)), if_neg (show ¬ x = (7 : Int32) from ne 7 (by omega)), if_neg (show ¬ x = (8 : Int32) from ne 8 (by omega)), if_neg (show ¬ x = (9 : Int32) from ne 9 (by omega)), if_neg (show ¬ x = (10 : Int32) from ne 10 (by omega)), if_neg (show ¬ x = (11 : Int32) from ne 11 (by omega))]
theorem m_lk (hQ : rQ σ m D ft ds) (hF : 20000 ≤ F) (hW : ∀ f, f < 5 → σ.1 31 (18 + f) = W f) (hj : j < 12) : f_AckBookModel_look F X (some (B + 31)) (nI j) (o_w B X τ σ n c s) = some (.inl (some (.int (lkV (σ.1 31 1) (fA m D ft ds) (mq σ) W (σ.1 31 23) j))), o_w B X τ (o_I σ 31 0 0) n c s) := by
  have w0 : σ.1 31 18 = W 0 := hW 0 (by omega)
  have w1 : σ.1 31 19 = W 1 := hW 1 (by omega)
  have w2 : σ.1 31 20 = W 2 := hW 2 (by omega)
  have w3 : σ.1 31 21 = W 3 := hW 3 (by omega)
  have e : ∀ f, f ≠ 0 → (o_I σ 31 0 0).1 31 f = σ.1 31 f := fun f hf => by rw [i11, if_neg (fun z => hf z.2)]
  have hq : rQ (o_I σ 31 0 0) m D ft ds := fun k hk => by
    have g : ∀ o f, o ≠ 31 → (o_I σ 31 0 0).1 o f = σ.1 o f := fun o f ho => by rw [i11, if_neg (fun z => ho z.1)]
    exact ⟨⟨(g _ _ (by decide)).trans (hQ k hk).1.1, (hQ k hk).1.2.1, (g _ _ (by decide)).trans (hQ k hk).1.2.2⟩, fun i hi => ⟨⟨(g _ _ (by decide)).trans ((hQ k hk).2 i hi).1.1, (g _ _ (by decide)).trans ((hQ k hk).2 i hi).1.2.1, (g _ _ (by decide)).trans ((hQ k hk).2 i hi).1.2.2.1, (g _ _ (by decide)).trans ((hQ k hk).2 i hi).1.2.2.2⟩, (g _ _ (by decide)).trans ((hQ k hk).2 i hi).2⟩⟩
  have hfl := n_flight (B := B) (X := X) (F := F) (τ := τ) (n := n) (c := c) (s := s) hq hF
  have e0 : ∀ v : Int32, (if v ≤ 0 then 0 else v) = (if v < 0 then 0 else v) := fun v => by
    by_cases z : v < 0
    · rw [if_pos z, if_pos (Int32.le_of_lt z)]
    · rw [if_neg z]
      by_cases z2 : v ≤ 0
      · rw [if_pos z2]
        exact Int32.le_antisymm (Int32.not_lt.mp z) z2
      · rw [if_neg z2]
  have e11 : nI j ≤ (11 : Int32) := nI_le (a := j) (b := 11) (by omega) (by decide)
  unfold f_AckBookModel_look
  rw [if_neg (nI_pos (by omega)), if_pos e11]
  unfold q_AckBookModel_look_16
  simp only [ot_31, s_fails 0 1 (Or.inl rfl), y_cI, if_true, oi_31_1, hfl, oi_31_24, oi_31_25, oi_31_26, oi_31_18, oi_31_19, oi_31_20, oi_31_21, oi_31_23, s_limit, limV_eq, s_greater, e 1 (by omega), e 24 (by omega), e 25 (by omega), e 26 (by omega), e 18 (by omega), e 19 (by omega), e 20 (by omega), e 21 (by omega), e 23 (by omega), w0, w1, w2, w3, e0]
  rcases (by omega : j = 0 ∨ j = 1 ∨ j = 2 ∨ j = 3 ∨ j = 4 ∨ j = 5 ∨ j = 6 ∨ j = 7 ∨ j = 8 ∨ j = 9 ∨ j = 10 ∨ j = 11) with rfl | rfl | rfl | rfl | rfl | rfl | rfl | rfl | rfl | rfl | rfl | rfl
  all_goals
    (repeat rw [if_neg (show ¬ (nI _ : Int32) = _ by decide)])
    try rw [if_pos (show (nI _ : Int32) = _ by decide)]
    try rfl
theorem m_lkB (hx : x < 0 ∨ ¬ x < nI 12) : f_AckBookModel_look F X (some (B + 31)) x (o_w B X τ σ n c s) = some (.inl (some (.int 0)), o_w B X τ (o_I σ 31 0 1) n c s) := by
  have q : q_AckBookModel_look_11 F X (some (B + 31)) x (some (B + 31)) (o_w B X τ σ n c s) = some (.inl (some (.int 0)), o_w B X τ (o_I σ 31 0 1) n c s) := by
    unfold q_AckBookModel_look_11 q_AckBookModel_look_16
    simp only [ot_31, s_fails 1 1 (Or.inr rfl), y_cI]
    rw [if_neg (by decide), if_neg (by decide)]
  unfold f_AckBookModel_look
  by_cases h0 : x < 0
  · rw [if_pos h0]
    exact q
  · rw [if_neg h0, if_neg]
    · exact q
    · intro z
      refine (hx.resolve_left h0) (Int32.lt_iff_toInt_lt.mpr ?_)
      have := Int32.le_iff_toInt_le.mp z
      rw [show (11 : Int32).toInt = 11 by decide] at this
      rw [nI_toInt (by omega)]
      omega
theorem kE.look {v v2 : Int32} (h : kE T τ σ) (hX : X < B) (hF : 20000 ≤ F) (hn : 56 ≤ n) (hn1 : 56 ≤ n1) (hN : ∀ o, n ≤ o → τ o = none) (hE : xE σ σ1) (e1 : f_AckBookLaw_look F X (some (B + 0)) x (some (B + 55)) (o_w B X τ σ n c s) = some (.inl (some (.int v)), o_w B X τ1 σ1 n1 c1 s1)) (hX2 : mX σ1 σ2) (e2 : f_AckBookModel_look F X (some (B + 31)) x (o_w B X τ1 σ1 n1 c1 s1) = some (.inl (some (.int v2)), o_w B X τ1 σ2 n1 c1 s1)) : σ2.1 31 0 = v ∧ (v = 0 → σ2.2.1 55 0 = v2.toInt64) := by
  obtain ⟨P, m, D, ft, q, S, t, a, W, p, L, H, ds, ga, k1, k2, k3, k4⟩ := h
  have k2' := k2.xe hE k3.1.2.1
  unfold f_AckBookLaw_look at e1
  rw [ot_0] at e1
  rcases e_ix x (m := 12) (by omega) with hx | ⟨j, hj, rfl⟩
  · rw [c_lkB hx] at e1
    obtain ⟨z1, -⟩ := x_thsI (u := 1) hX hn hN e1 (fun w => rfl)
    rw [m_lkB hx] at e2
    refine ⟨((x_enr hn1 e2).2.1 0 (by omega)).trans ?_, fun w => ?_⟩
    · rw [z1, i11, if_pos ⟨rfl, rfl⟩]
    · rw [z1] at w
      exact absurd w (by decide)
  · rw [c_lk k1.2.2.1 hj] at e1
    obtain ⟨z1, u', σE, ⟨z2, z3⟩, z4, z5⟩ := x_okI hX hn hN (pW.ret (Q := fun v _ => v = some (.int (lkV (σ.1 0 4) (σ.1 30 0) (fq σ) W (σ.1 0 5) j)) ∧ True) ⟨rfl, trivial⟩) e1
    rw [m_lk k2'.rQ hF k2'.2.2.1 hj] at e2
    obtain ⟨w1, w2⟩ := x_enr hn1 e2
    refine ⟨(w2.1 0 (by omega)).trans ?_, fun _ => ?_⟩
    · rw [z1, i11, if_pos ⟨rfl, rfl⟩]
    · rw [(hX2 55 (by omega)).2.1, z5]
      injection w1 with w1
      injection w1 with w1
      injection w1 with w1
      injection z2 with z2
      injection z2 with z2
      rw [z2, ← w1, k1.1, k4.1.2.1, k4.1.1, k4.2.1.1, k2'.1, mq.cong hE.rd, hE.rd 23 (by omega)]
theorem i_kE : kE 0 (fun _ => none) o_s0 := by
  obtain ⟨P, m, D, ew, ft, q, S, t, a, W, p, L, H, ds, ga, k1, k2, k3⟩ := i_kD
  have hm : ∀ k, k < 3 → m k = 0 := fun k hk => by have := (k3.2.1 k hk).1.1; omega
  have hds : ∀ k, k < 3 → ds k = 0 := fun k hk => by
    have := (k1.2.1 k hk).2
    rw [← this]
    rcases (by omega : k = 0 ∨ k = 1 ∨ k = 2) with rfl | rfl | rfl <;> rfl
  have hf : ∀ k, k < 3 → ∀ w f, pS w f (ds k) (m k) = 0 := fun k hk w f => by
    unfold pS
    rw [hm k hk, if_pos (hds k hk)]
    rfl
  refine ⟨P, m, D, ft, q, S, t, a, W, p, L, H, ds, ga, k1, ?_, k3, ⟨⟨rfl, ?_, Or.inl rfl, Or.inl rfl⟩, ⟨rfl, ⟨0, by omega, rfl⟩, rfl, ⟨0, Nat.le_refl _, rfl⟩, rfl, rfl⟩, fun k hk => ⟨?_, ?_⟩, ⟨200, by omega, ?_⟩⟩⟩
  · obtain ⟨r1, r2, r3⟩ := k2
    refine ⟨r1, fun k hk => ?_, r3⟩
    obtain ⟨r4, r5, r6⟩ := r2 k hk
    exact ⟨r4, fun i hi => absurd hi (by rw [hm k hk]; omega), r6⟩
  · show (0 : Int32) = rS _ 3
    rw [rS3, hf 0 (by omega), hf 1 (by omega), hf 2 (by omega)]
    rfl
  · rw [hf k hk, ← (k1.2.1 k hk).1.2.2 4 (by omega) (by omega)]
    rcases (by omega : k = 0 ∨ k = 1 ∨ k = 2) with rfl | rfl | rfl <;> rfl
  · rw [hm k hk, ← (k1.2.1 k hk).1.2.2 5 (by omega) (by omega)]
    rcases (by omega : k = 0 ∨ k = 1 ∨ k = 2) with rfl | rfl | rfl <;> rfl
  · rw [← k1.2.2.1 1 (by omega)]
    rfl
end LH
