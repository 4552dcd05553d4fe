def kI (T : Nat) (τ : zK) (σ : zS) (n c s : Nat) : Prop := ∃ N rk R, cJ T R τ σ N rk ∧ R ≤ 40000 * T ∧ cN T τ n c s
def xF (σ σ' : zS) : Prop := ∀ o, 31 ≤ o → o < 56 → σ'.1 o = σ.1 o ∧ σ'.2.1 o = σ.2.1 o ∧ σ'.2.2 o = σ.2.2 o
def xU (σ σ' : zS) : Prop := (∀ k, k < 3 → σ'.1 (6 + 8 * k) 1 = σ.1 (6 + 8 * k) 1) ∧ (∀ k, k < 3 → σ'.1 (2 + 8 * k) 3 = σ.1 (2 + 8 * k) 3) ∧ σ'.1 26 2 = σ.1 26 2 ∧ ∀ i, σ'.2.1 27 i = σ.2.1 27 i
theorem xF.refl (σ : zS) : xF σ σ := fun _ _ _ => ⟨rfl, rfl, rfl⟩
theorem xU.refl (σ : zS) : xU σ σ := ⟨fun _ _ => rfl, fun _ _ => rfl, rfl, fun _ => rfl⟩
theorem xF.trans {a b d : zS} (h1 : xF a b) (h2 : xF b d) : xF a d := fun o h h' => ⟨(h2 o h h').1.trans (h1 o h h').1, (h2 o h h').2.1.trans (h1 o h h').2.1, (h2 o h h').2.2.trans (h1 o h h').2.2⟩
theorem xU.trans {a b d : zS} (h1 : xU a b) (h2 : xU b d) : xU a d := ⟨fun k hk => (h2.1 k hk).trans (h1.1 k hk), fun k hk => (h2.2.1 k hk).trans (h1.2.1 k hk), h2.2.2.1.trans h1.2.2.1, fun i => (h2.2.2.2 i).trans (h1.2.2.2 i)⟩
theorem cK.f {σ σ' : zS} (h : cK σ σ') : xF σ σ' := fun o h1 h2 => ⟨(h.2 o (Or.inl ⟨h1, h2⟩)).1, by rw [h.1], (h.2 o (Or.inl ⟨h1, h2⟩)).2⟩
theorem cK.u {σ σ' : zS} (h : cK σ σ') : xU σ σ' := ⟨fun k hk => by rw [(h.2 (6 + 8 * k) (by omega)).1], fun k hk => by rw [(h.2 (2 + 8 * k) (by omega)).1], by rw [(h.2 26 (by omega)).1], fun i => by rw [h.1]⟩
theorem cJ.up {T T' R : Nat} {τ : zK} {σ : zS} {N rk : Nat → Nat} (h : cJ T R τ σ N rk) (hT : T ≤ T') : cJ T' R τ σ N rk := by
  refine ⟨fun k hk => ?_, h.2⟩
  obtain ⟨a1, a2, a3⟩ := h.1 k hk
  refine ⟨a1, by omega, ?_⟩
  rcases a3 with a3 | ⟨e, cap, g1, g2, g3, g4, g5⟩
  · exact Or.inl a3
  · exact Or.inr ⟨e, cap, g1, g2, g3, by omega, g5⟩
theorem cJ.tau {T R : Nat} {τ τ' : zK} {σ : zS} {N rk : Nat → Nat} (h : cJ T R τ σ N rk) (h1 : ∀ q, o_pk τ' q ↔ o_pk τ q) (h2 : ∀ e cap, o_ar τ e cap → o_ar τ' e cap) : cJ T R τ' σ N rk := by
  obtain ⟨a1, a2, a3, a4, a5⟩ := h
  refine ⟨fun k hk => ?_, fun k hk f hf => ⟨fun q hq => ?_, fun q hq => ?_⟩, fun q hq => ?_, a4, a5⟩
  · obtain ⟨b1, b2, b3⟩ := a1 k hk
    refine ⟨b1, b2, ?_⟩
    rcases b3 with b3 | ⟨e, cap, g1, g2, g3, g4, g5, g6, g7⟩
    · exact Or.inl b3
    · refine Or.inr ⟨e, cap, g1, h2 e cap g2, g3, g4, g5, fun j hj => ?_, g7⟩
      rcases g6 j hj with z | ⟨q, z1, z2⟩
      · exact Or.inl z
      · exact Or.inr ⟨q, z1, (h1 q).mpr z2⟩
  · exact ⟨(h1 q).mpr ((a2 k hk f hf).1 q hq).1, ((a2 k hk f hf).1 q hq).2⟩
  · exact ⟨(h1 q).mpr ((a2 k hk f hf).2 q hq).1, ((a2 k hk f hf).2 q hq).2⟩
  · obtain ⟨b1, b2, b3, b4⟩ := a3 q ((h1 q).mp hq)
    exact ⟨b1, b2, b3, fun q' hq' => ⟨(h1 q').mpr (b4 q' hq').1, (b4 q' hq').2⟩⟩
theorem y_cV (K : zW → zR) (w : zW) : z_cV (some (.inl none, w)) K = K w := rfl
theorem y_cI (K : Int32 → zW → zR) (v : Int32) (w : zW) : z_cI (some (.inl (some (.int v)), w)) K = K v w := rfl
theorem y_cL (K : Int64 → zW → zR) (v : Int64) (w : zW) : z_cL (some (.inl (some (.long v)), w)) K = K v w := rfl
theorem y_cRs (K : Option Nat → zW → zR) (a : Nat) (w : zW) : z_cR (some (.inl (some (.ref a)), w)) K = K (some a) w := rfl
theorem y_cRn (K : Option Nat → zW → zR) (w : zW) : z_cR (some (.inl (some .null), w)) K = K none w := rfl
section CG
variable {B X F : Nat} {τ : zK} {n c s T R D : Nat} {σ : zS} {N rk : Nat → Nat}
/-- how a call of the class ends: an answer, or an exception of the class ci -/
def k_c (B X T : Nat) (r : zR) (Q : Option Value ⊕ Nat → zS → Prop) : Prop := ∃ τ' σ' n' c' s', kI (T + 1) τ' σ' n' c' s' ∧ ((∃ v, r = some (.inl v, o_w B X τ' σ' n' c' s') ∧ Q (.inl v) σ') ∨ ∃ a ci, r = some (.inr a, o_w B X τ' σ' n' c' s') ∧ (o_w B X τ' σ' n' c' s').2.2.2 a = some (.inr (ci, [])) ∧ Q (.inr ci) σ')
theorem k_c.ite {r1 r2 : zR} {Q : Option Value ⊕ Nat → zS → Prop} {p : Prop} [Decidable p] (h1 : p → k_c B X T r1 Q) (h2 : ¬ p → k_c B X T r2 Q) : k_c B X T (if p then r1 else r2) Q := by
  split
  · exact h1 (by assumption)
  · exact h2 (by assumption)
theorem k_c.mono {r : zR} {Q Q' : Option Value ⊕ Nat → zS → Prop} (h : k_c B X T r Q) (hQ : ∀ o σ', Q o σ' → Q' o σ') : k_c B X T r Q' := by
  obtain ⟨τ', σ', n', c', s', h1, h2⟩ := h
  refine ⟨τ', σ', n', c', s', h1, ?_⟩
  rcases h2 with ⟨v, a, b⟩ | ⟨a, ci, b, d, e⟩
  · exact Or.inl ⟨v, a, hQ _ _ b⟩
  · exact Or.inr ⟨a, ci, b, d, hQ _ _ e⟩
theorem k_thr {Q : Option Value ⊕ Nat → zS → Prop} (hJ : cJ T R τ σ N rk) (hR : R ≤ 40000 * (T + 1)) (hN : cN T τ n c s) (hT : T < 512) (ci : Nat) (hci : ci ≠ 9) (hQ : Q (.inr ci) σ) : k_c B X T (z_thr (o_w B X τ σ n c s) ci) Q := by
  obtain ⟨n1, n2, n3, n4⟩ := hN
  rw [d_thr n1 ci hci, if_pos (by omega)]
  have hpk : ∀ q, o_pk (o_kd τ n (.inl ci)) q ↔ o_pk τ q := fun q => by
    unfold o_pk o_kd
    by_cases hq : q = n
    · subst hq
      simp [n2 q (Nat.le_refl _), hci]
    · simp [hq]
  have har : ∀ e cap, o_ar τ e cap → o_ar (o_kd τ n (.inl ci)) e cap := fun e cap h => by
    refine ⟨h.1, ?_⟩
    unfold o_kd
    rw [if_neg]
    · exact h.2
    · rintro rfl
      have h2 := h.2
      rw [n2 e (Nat.le_refl _)] at h2
      cases h2
  refine ⟨o_kd τ n (.inl ci), σ, n + 1, c - 1, s - 6, ⟨N, rk, R, (hJ.tau hpk har).up (Nat.le_succ T), hR, by omega, fun o ho => ?_, by omega, by omega⟩, Or.inr ⟨B + n, ci, rfl, d_exc n1 hci, hQ⟩⟩
  unfold o_kd
  rw [if_neg (by omega)]
  exact n2 o (by omega)
theorem k_ret {Q : Option Value ⊕ Nat → zS → Prop} {v : Option Value} (hJ : cJ T R τ σ N rk) (hR : R ≤ 40000 * (T + 1)) (hN : cN T τ n c s) (hQ : Q (.inl v) σ) : k_c B X T (some (.inl v, o_w B X τ σ n c s)) Q :=
  ⟨τ, σ, n, c, s, ⟨N, rk, R, hJ.up (Nat.le_succ T), hR, hN.1, hN.2.1, by have := hN.2.2.1; omega, by have := hN.2.2.2; omega⟩, Or.inl ⟨v, rfl, hQ⟩⟩
theorem c_knownB {x : Int32} (hx : x < 0 ∨ 2 < x) : f_AckBook_known F X (some (B + 0)) x (o_w B X τ σ n c s) = z_thr (o_w B X τ σ n c s) 11 := by
  unfold f_AckBook_known
  by_cases h : x < 0
  · rw [if_pos h]
  · rw [if_neg h]
    simp only [or_0_0, oan_1]
    rw [if_neg (fun q => ?_)]
    have h2 := hx.resolve_left h
    have a1 := Int32.lt_iff_toInt_lt.mp h2
    have a2 := Int32.lt_iff_toInt_lt.mp q
    have a3 : (2 : Int32).toInt = 2 := by decide
    have a4 : (Int32.ofNat 3).toInt = 3 := by decide
    omega
theorem c_known {k : Nat} (hk : k < 3) : f_AckBook_known F X (some (B + 0)) (nI k) (o_w B X τ σ n c s) = some (.inl (some (.ref (B + (2 + 8 * k)))), o_w B X τ σ n c s) := by
  unfold f_AckBook_known
  rw [if_neg (nI_pos (by omega))]
  simp only [or_0_0, oan_1, oln_1 hk]
  rw [if_pos (show nI k < Int32.ofNat 3 from nI_lt (b := 3) hk (by decide))]
  rfl
theorem z_thr_cR {w : zW} {ci : Nat} {K : Option Nat → zW → zR} : z_cR (z_thr w ci) K = z_thr w ci := by
  unfold z_thr
  split <;> rfl
theorem z_thr_cV {w : zW} {ci : Nat} {K : zW → zR} : z_cV (z_thr w ci) K = z_thr w ci := by
  unfold z_thr
  split <;> rfl
theorem z_thr_cI {w : zW} {ci : Nat} {K : Int32 → zW → zR} : z_cI (z_thr w ci) K = z_thr w ci := by
  unfold z_thr
  split <;> rfl
/-- as it must be where only the answer's form counts -/
def qI (σ : zS) (o : Option Value ⊕ Nat) (σ' : zS) : Prop := xF σ σ' ∧ xU σ σ' ∧ ((∃ v : Int32, o = .inl (some (.int v))) ∨ o = .inr 11 ∨ o = .inr 12)
def qO (σ : zS) (o : Option Value ⊕ Nat) (σ' : zS) : Prop := xF σ σ' ∧ xU σ σ' ∧ ((∃ v : Int32, o = .inl (some (.int v))) ∨ o = .inr 11)
theorem k_state (h : kI T τ σ n c s) (hT : T < 512) (x y : Int32) : k_c B X T (f_AckBook_state F X (some (B + 0)) x y (o_w B X τ σ n c s)) (qO σ) := by
  obtain ⟨N, rk, R, hJ, hR, hN⟩ := h
  have q0 : ∀ v : Int32, qO σ (.inl (some (.int v))) σ := fun v => ⟨xF.refl σ, xU.refl σ, Or.inl ⟨v, rfl⟩⟩
  unfold f_AckBook_state
  simp only [ot_0]
  rcases e_sp x with hx | ⟨k, hk, rfl⟩
  · rw [c_knownB hx, z_thr_cR]
    exact k_thr hJ (by omega) hN hT 11 (by decide) ⟨xF.refl σ, xU.refl σ, Or.inr rfl⟩
  · simp only [c_known hk, z_cR, or_s2_1 hk, ot_s3 hk]
    rcases c_packet (B := B) (X := X) (F := F) (n := n) (c := c) (s := s) hJ.1 (by omega) hk y.toInt64 with ⟨q, q1, q2⟩ | q2
    · simp only [q2, z_cR, reduceCtorEq, if_false, oi_s2_3 hk, d_gI q1 6 (by omega)]
      exact k_c.ite (fun _ => k_ret hJ (by omega) hN (q0 _)) (fun _ => k_ret hJ (by omega) hN (q0 _))
    · simp only [q2, z_cR, if_true]
      exact k_ret hJ (by omega) hN (q0 _)
theorem k_tick (h : kI T τ σ n c s) (hT : T < 512) (hF : 100000000 ≤ F) : k_c B X T (f_AckBook_tick F X (some (B + 0)) (o_w B X τ σ n c s)) (fun o σ' => xF σ σ' ∧ xU σ σ' ∧ ∃ v : Int32, o = .inl (some (.int v))) := by
  obtain ⟨N, rk, R, hJ, hR, hN⟩ := h
  obtain ⟨v, σ', rk', R', a1, a2, a3, a4⟩ := s_ctick (B := B) (X := X) (F := F) (n := n) (c := c) (s := s) hJ (by omega) (by omega)
  rw [a1]
  exact k_ret a2 (by omega) hN ⟨a4.f, a4.u, v, rfl⟩
theorem cJ.close (hJ : cJ T R τ σ N rk) : cJ T R τ (o_I (o_I σ 26 3 (σ.1 26 2)) 26 2 0) N rk := by
  obtain ⟨h1, h2, h3, h4, h5⟩ := hJ
  have e : ∀ a b, a ≠ 26 → (o_I (o_I σ 26 3 (σ.1 26 2)) 26 2 0).1 a b = σ.1 a b := fun a b ha => by simp [i11, ha]
  refine ⟨fun k hk => ?_, fun k hk f' hf => ⟨fun q hq => ?_, fun q hq => ?_⟩, fun q hq => ?_, ?_, fun k hk => ?_⟩
  · rw [e _ _ (by omega)]; exact h1 k hk
  · have := (h2 k hk f' hf).1 q hq
    exact ⟨this.1, by rw [e _ _ (by have := this.1.1; omega)]; exact this.2⟩
  · have := (h2 k hk f' hf).2 q hq
    exact ⟨this.1, by rw [e _ _ (by have := this.1.1; omega)]; exact this.2⟩
  · have hq1 := hq.1
    obtain ⟨a1, a2, a3, a4⟩ := h3 q hq
    refine ⟨by rw [e _ _ (by omega)]; exact a1, by rw [e _ _ (by omega)]; exact a2, a3, fun q' hq' => ?_⟩
    obtain ⟨b1, b2, b3⟩ := a4 q' hq'
    exact ⟨b1, by rw [e _ _ (by have := b1.1; omega)]; exact b2, b3⟩
  · obtain ⟨⟨p, p1, p2⟩, b2, b3⟩ := h4
    exact ⟨⟨0, by simp [i11]; rfl, by omega⟩, ⟨p, by simp [i11, p1], p2⟩, b3⟩
  · rw [e _ _ (by omega)]; exact h5 k hk
/-- as xU, but the acknowledgement that is put together has no range now -/
def xA (σ σ' : zS) : Prop := (∀ k, k < 3 → σ'.1 (6 + 8 * k) 1 = σ.1 (6 + 8 * k) 1) ∧ (∀ k, k < 3 → σ'.1 (2 + 8 * k) 3 = σ.1 (2 + 8 * k) 3) ∧ σ'.1 26 2 = 0 ∧ ∀ i, σ'.2.1 27 i = σ.2.1 27 i
theorem k_ack (h : kI T τ σ n c s) (hT : T < 512) (hF : 100000000 ≤ F) (x y : Int32) : k_c B X T (f_AckBook_acknowledge F X (some (B + 0)) x y (o_w B X τ σ n c s)) (fun o σ' => xF σ σ' ∧ xA σ σ' ∧ ((∃ v : Int32, o = .inl (some (.int v))) ∨ o = .inr 11 ∨ o = .inr 12)) := by
  obtain ⟨N, rk, R, hJ, hR, hN⟩ := h
  unfold f_AckBook_acknowledge
  simp only [or_0_1, ot_26, f_AckBook_Claim_close, oi_26_2, op_26_3, op_26_2, y_cV, ot_0]
  have hJ1 := hJ.close
  have hF1 : xF σ (o_I (o_I σ 26 3 (σ.1 26 2)) 26 2 0) := fun o h1 h2 => ⟨funext fun b => by simp [i11, show o ≠ 26 from by omega], rfl, rfl⟩
  have hA1 : xA σ (o_I (o_I σ 26 3 (σ.1 26 2)) 26 2 0) := ⟨fun k hk => by simp [i11, show 6 + 8 * k ≠ 26 from by omega], fun k hk => by simp [i11, show 2 + 8 * k ≠ 26 from by omega], by simp [i11], fun _ => rfl⟩
  generalize o_I (o_I σ 26 3 (σ.1 26 2)) 26 2 0 = σ1 at hJ1 hF1 hA1
  have t11 : k_c B X T (z_thr (o_w B X τ σ1 n c s) 11) (fun o σ' => xF σ σ' ∧ xA σ σ' ∧ ((∃ v : Int32, o = .inl (some (.int v))) ∨ o = .inr 11 ∨ o = .inr 12)) := k_thr hJ1 (by omega) hN hT 11 (by decide) ⟨hF1, hA1, Or.inr (Or.inl rfl)⟩
  rcases e_sp x with hx | ⟨k, hk, rfl⟩
  · rw [c_knownB hx, z_thr_cR]
    exact t11
  · simp only [c_known hk, y_cRs, f_AckBook_refuseDiscarded, oi_s2_3 hk]
    by_cases hd : σ1.1 (2 + 8 * k) 3 = 0
    · rw [if_pos hd]
      simp only [y_cV, or_s2_1 hk, or_0_1, ot_26]
      refine k_c.ite (fun _ => t11) (fun _ => k_c.ite (fun _ => ?_) (fun _ => t11))
      have hg : ∃ y : Int64, f_AckBook_Claim_greatest F X (some (B + 26)) (o_w B X τ σ1 n c s) = some (.inl (some (.long y)), o_w B X τ σ1 n c s) := by
        unfold f_AckBook_Claim_greatest
        have e0 : ∀ K : Int64 → zR, z_ldL (o_w B X τ σ1 n c s) (some (B + 28)) 0 K = K (σ1.2.1 28 0) := fun K => oln_28 (i := 0) (by decide) K
        simp only [oi_26_3, or_26_1, e0]
        split <;> exact ⟨_, rfl⟩
      obtain ⟨y0, hy0⟩ := hg
      simp only [hy0, y_cL, ot_s3 hk]
      rcases c_packet (B := B) (X := X) (F := F) (n := n) (c := c) (s := s) hJ1.1 (by omega) hk y0 with ⟨q, q1, q2⟩ | q2
      · simp only [q2, y_cRs, reduceCtorEq, if_false, ot_0]
        obtain ⟨v, σ2, rk2, R2, a1, a2, a3, a4⟩ := s_settle (B := B) (X := X) (F := F) (n := n) (c := c) (s := s) hJ1 (by omega) (by omega) hk q1 y
        simp only [a1, y_cI]
        refine k_ret a2 (by omega) hN ⟨hF1.trans a4.f, ?_, Or.inl ⟨v, rfl⟩⟩
        have u := a4.u
        exact ⟨fun k hk => (u.1 k hk).trans (hA1.1 k hk), fun k hk => (u.2.1 k hk).trans (hA1.2.1 k hk), u.2.2.1.trans hA1.2.2.1, fun i => (u.2.2.2 i).trans (hA1.2.2.2 i)⟩
      · simp only [q2, y_cRn, if_true]
        exact t11
    · rw [if_neg hd, z_thr_cV]
      exact k_thr hJ1 (by omega) hN hT 12 (by decide) ⟨hF1, hA1, Or.inr (Or.inr rfl)⟩
end CG
