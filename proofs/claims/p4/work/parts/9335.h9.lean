/-! state: the answers; next: the answers, and the lists behind it. -/
section HK
variable {B X F : Nat} {τ τ1 : zK} {n c s n1 c1 s1 T : Nat} {σ σ1 σ2 σ3 : zS} {P : Nat → Nat → Nat} {m : Nat → Nat} {D : Nat → Nat → Nat → Int32} {ft : Nat → Nat → Int32} {q : Nat → Nat → List Nat} {S : Nat → Nat → Int32} {t p : Nat} {a : Nat → Nat → Nat} {W ds ga : Nat → Int32} {L H : Nat → Int64} {k b : Nat} {x y z : Int32}
theorem e_ix (z : Int32) {m : Nat} (hm : m ≤ 4096) : (z < 0 ∨ ¬ z < nI m) ∨ ∃ i, i < m ∧ z = nI i := by
  by_cases h0 : z < 0
  · exact Or.inl (Or.inl h0)
  · by_cases h1 : z < nI m
    · have a1 := Int32.lt_iff_toInt_lt.mp h1
      rw [nI_toInt (by omega)] at a1
      have a2 : ¬ z.toInt < (0 : Int32).toInt := fun w => h0 (Int32.lt_iff_toInt_lt.mpr w)
      have a3 : (0 : Int32).toInt = 0 := by decide
      refine Or.inr ⟨z.toInt.toNat, by omega, Int32.toInt_inj.mp ?_⟩
      rw [nI_toInt (by omega)]
      omega
    · exact Or.inl (Or.inr h1)
theorem c_stB (hx : x < 0 ∨ 2 < x) : f_AckBook_state F X (some (B + 0)) x z (o_w B X τ σ n c s) = z_thr (o_w B X τ σ n c s) 11 := by
  unfold f_AckBook_state
  rw [ot_0, c_knownB hx, z_thr_cR]
theorem c_stO (h : sP τ σ P m D ft q S t W p L H ds) (hk : k < 3) : (z < 0 ∨ ¬ z < nI (m k) → f_AckBook_state F X (some (B + 0)) (nI k) z (o_w B X τ σ n c s) = some (.inl (some (.int (-1))), o_w B X τ σ n c s)) ∧ ∀ i, i < m k → z = nI i → f_AckBook_state F X (some (B + 0)) (nI k) z (o_w B X τ σ n c s) = some (.inl (some (.int (if ds k = 0 then ft k i else 3))), o_w B X τ σ n c s) := by
  obtain ⟨hS, hd⟩ := h.2.1 k hk
  have hm := hS.1.1.1.2
  unfold f_AckBook_state
  simp only [ot_0, c_known hk, y_cRs, or_s2_1 hk, ot_s3 hk]
  refine ⟨fun hz => ?_, fun i hi e => ?_⟩
  · have hJ : z.toInt64.toInt < 0 ∨ (m k : Int) ≤ z.toInt64.toInt := by
      rw [Int32.toInt_toInt64]
      rcases hz with hz | hz
      · have := Int32.lt_iff_toInt_lt.mp hz
        rw [show (0 : Int32).toInt = 0 by decide] at this
        exact Or.inl this
      · right
        have a1 : ¬ z.toInt < (nI (m k)).toInt := fun w => hz (Int32.lt_iff_toInt_lt.mpr w)
        rw [nI_toInt (by omega)] at a1
        omega
    simp only [d_pack0 hS.1.1 hk hJ, y_cRn, if_true]
  · subst e
    rw [nI_l (by omega)]
    simp only [d_packet hS.1.1 hS.1.2.2 hk hi, y_cRs, reduceCtorEq, if_false, oi_s2_3 hk, d_gI (hS.1.2.2 i hi).1.1 6 (by omega), hd, (hS.1.2.2 i hi).2.2.1]
    split <;> rfl
theorem m_stB (hx : x < 0 ∨ 2 < x) : f_AckBookModel_state F X (some (B + 31)) x z (o_w B X τ σ n c s) = some (.inl (some (.int 0)), o_w B X τ (o_I σ 31 0 1) n c s) := by
  unfold f_AckBookModel_state
  simp only [s_noSpace, z_cI, ot_31, if_pos hx, s_fails 1 1 (Or.inr rfl)]
  rw [if_neg (by decide), if_neg (by decide)]
theorem m_stO (h : rP σ m D ft q S t W p L H ds ga) (hk : k < 3) : (z < 0 ∨ ¬ z < nI (m k) → f_AckBookModel_state F X (some (B + 31)) (nI k) z (o_w B X τ σ n c s) = some (.inl (some (.int (-1))), o_w B X τ (o_I σ 31 0 0) n c s)) ∧ ∀ i, i < m k → z = nI i → f_AckBookModel_state F X (some (B + 31)) (nI k) z (o_w B X τ σ n c s) = some (.inl (some (.int (if ds k = 0 then ft k i else 3))), o_w B X τ (o_I σ 31 0 0) n c s) := by
  obtain ⟨⟨a1, a2, a3⟩, a4, -⟩ := h.2.1 k hk
  have e32 : (o_I σ 31 0 0).1 32 k = nI (m k) := by rw [i11, if_neg (by omega)]; exact a1
  have e39 : (o_I σ 31 0 0).1 39 k = ds k := by rw [i11, if_neg (by omega)]; exact a3
  unfold f_AckBookModel_state
  simp (disch := omega) only [s_noSpace, z_cI, ot_31, if_neg (e_spk hk), s_fails 0 1 (Or.inl rfl), if_true, or_31_4, oln_32, e32, or_31_11, oln_39, e39]
  refine ⟨fun hz => ?_, fun i hi e => ?_⟩
  · by_cases h0 : z < 0
    · rw [if_pos h0]
    · rw [if_neg h0, if_neg (hz.resolve_left h0)]
  · subst e
    rw [if_neg (nI_pos (by omega)), if_pos (nI_lt hi (by omega))]
    have e35 : (o_I σ 31 0 0).1 35 (4096 * k + i) = ft k i := by rw [i11, if_neg (by omega)]; exact (a4 i hi).2
    have ei : (4096 : Int32) * nI k + nI i = nI (4096 * k + i) := by
      rw [show (4096 : Int32) * nI k = nI (4096 * k) from pk_mul 4096 k, nI_add]
    simp (disch := omega) only [or_31_7, ei, oln_35, e35]
    split <;> rfl
theorem kD.state {v v2 : Int32} (h : kD T τ σ) (hX : X < B) (hn : 56 ≤ n) (hn1 : 56 ≤ n1) (hN : ∀ o, n ≤ o → τ o = none) (hE : xE σ σ1) (e1 : f_AckBookLaw_state F X (some (B + 0)) x z (some (B + 55)) (o_w B X τ σ n c s) = some (.inl (some (.int v)), o_w B X τ1 σ1 n1 c1 s1)) (hX2 : mX σ1 σ2) (e2 : f_AckBookModel_state F X (some (B + 31)) x z (o_w B X τ1 σ1 n1 c1 s1) = some (.inl (some (.int v2)), o_w B X τ1 σ2 n1 c1 s1)) : σ2.1 31 0 = v ∧ (v = 0 → σ2.2.1 55 0 = v2.toInt64) := by
  obtain ⟨P, m, D, ew, ft, q, S, t, a, W, p, L, H, ds, ga, k1, k2, k3⟩ := h
  have k2' := k2.xe hE k3.1.2.1
  unfold f_AckBookLaw_state at e1
  rw [ot_0] at e1
  rcases e_sp x with hx | ⟨k, hk, rfl⟩
  · rw [c_stB hx] at e1
    obtain ⟨z1, -⟩ := x_thsI (u := 1) hX hn hN e1 (fun w => rfl)
    rw [m_stB hx] at e2
    refine ⟨((x_enr hn1 e2).2.1 0 (by omega)).trans ?_, fun w => ?_⟩
    · rw [z1, i11, if_pos ⟨rfl, rfl⟩]
    · rw [z1] at w
      exact absurd w (by decide)
  · have key : ∀ u : Int32, f_AckBook_state F X (some (B + 0)) (nI k) z (o_w B X τ σ n c s) = some (.inl (some (.int u)), o_w B X τ σ n c s) → f_AckBookModel_state F X (some (B + 31)) (nI k) z (o_w B X τ1 σ1 n1 c1 s1) = some (.inl (some (.int u)), o_w B X τ1 (o_I σ1 31 0 0) n1 c1 s1) → σ2.1 31 0 = v ∧ (v = 0 → σ2.2.1 55 0 = v2.toInt64) := fun u h1 h2 => by
      rw [h1] at e1
      obtain ⟨z1, u', σE, ⟨z2, z3⟩, z4, z5⟩ := x_okI hX hn hN (pW.ret (Q := fun v _ => v = some (.int u) ∧ True) ⟨rfl, trivial⟩) e1
      rw [h2] at e2
      obtain ⟨w1, w2⟩ := x_enr hn1 e2
      refine ⟨(w2.1 0 (by omega)).trans ?_, fun _ => ?_⟩
      · rw [z1, i11, if_pos ⟨rfl, rfl⟩]
      · rw [(hX2 55 (by omega)).2.1, z5]
        injection w1 with w1
        injection w1 with w1
        injection w1 with w1
        injection z2 with z2
        injection z2 with z2
        rw [z2, w1]
    rcases e_ix z (k2'.2.1 k hk).1.2.1 with hz | ⟨i, hi, e⟩
    · exact key _ ((c_stO k1 hk).1 hz) ((m_stO k2' hk).1 hz)
    · exact key _ ((c_stO k1 hk).2 i hi e) ((m_stO k2' hk).2 i hi e)
end HK
