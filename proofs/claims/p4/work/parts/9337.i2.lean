/-! next, both sides, in the three spaces. -/
section IB
variable {B X F : Nat} {τ τ1 : zK} {n c s n1 c1 s1 T : Nat} {σ σ1 σ2 σ3 : zS} {P : Nat → Nat → Nat} {m : Nat → Nat} {D : Nat → Nat → Nat → Int32} {ft : Nat → Nat → Int32} {q : Nat → Nat → List Nat} {S : Nat → Nat → Int32} {t p : Nat} {a : Nat → Nat → Nat} {W ds ga : Nat → Int32} {L H : Nat → Int64} {k b : Nat} {x y z : Int32}
/-- one space changed, on the class's side -/
theorem sP.one {f' : Nat → Int32} {q' : Nat → List Nat} {S' : Nat → Int32} {p' : Nat} {d' : Int32} (h : sP τ σ P m D ft q S t W p L H ds) (hk : k < 3) (hdis : ∀ k' i j, k' < 3 → k' ≠ k → i < m k' → j < m k → P k' i ≠ P k j) (hU : cU k (P k) (m k) σ σ1) (hS : cS τ σ1 k (P k) (m k) (D k) f' q' S') (hw : ∀ f, f < 5 → σ1.1 29 f = W f) : sP τ σ1 P m D (uk ft k f') (uk q k q') (uk S k S') t W p L H ds := by
  obtain ⟨b1, b2, b3, b4, b5⟩ := h
  have hpk : ∀ i, i < m k → o_pk τ (P k i) := fun i hi => ((b2 k hk).1.1.2.2 i hi).1.1
  have h56 : ∀ i, i < m k → 56 ≤ P k i := fun i hi => (hpk i hi).1
  refine ⟨((hU.2 0 (by omega) (by omega) (by omega) (by omega) (by omega) (fun i hi => by have := h56 i hi; omega)).2 4 (by omega)).trans b1, fun k' hk' => ⟨?_, ((hU.2 (2 + 8 * k') (by omega) (by omega) (by omega) (by omega) (by omega) (fun i hi => by have := h56 i hi; omega)).2 3 (by omega)).trans (b2 k' hk').2⟩, hw, ((hU.2 26 (by omega) (by omega) (by omega) (by omega) (by omega) (fun i hi => by have := h56 i hi; omega)).2 2 (by omega)).trans b4, fun j hj => by rw [hU.1]; exact b5 j hj⟩
  by_cases e : k' = k
  · subst e
    rw [uk_at, uk_at, uk_at]
    exact hS
  · rw [uk_ne _ _ e, uk_ne _ _ e, uk_ne _ _ e]
    exact (b2 k' hk').1.oth hpk hU hk hk' e (fun i j hi hj => hdis k' i j hk' e hi hj)
theorem uk_id {α : Type} (f : Nat → α) (k : Nat) : uk f k (f k) = f := funext fun j => by
  unfold uk
  split
  · rename_i h
    rw [h]
  · rfl
theorem c_nxB (hx : x < 0 ∨ 2 < x) : f_AckBook_next F X (some (B + 0)) x y (o_w B X τ σ n c s) = z_thr (o_w B X τ σ n c s) 11 := by
  unfold f_AckBook_next
  rw [ot_0, c_knownB hx, z_thr_cR]
theorem c_nxO (h : sP τ σ P m D ft q S t W p L H ds) (hu : uP T P m D S t a W p L H ds ga) (hk : k < 3) (hb : b < 2) (hy : y = nI b) : ∃ σ', f_AckBook_next F X (some (B + 0)) (nI k) y (o_w B X τ σ n c s) = some (.inl (some (.int (hdI (q k b)))), o_w B X τ σ' n c s) ∧ sP τ σ' P m D ft (uk q k (uk (q k) b (q k b).tail)) S t W p L H ds := by
  obtain ⟨σ', e, hU, h1, hS⟩ := d_pop (B := B) (X := X) (F := F) (n := n) (c := c) (s := s) hk hb (h.2.1 k hk).1
  refine ⟨σ', ?_, ?_⟩
  · unfold f_AckBook_next
    simp only [ot_0, c_known hk, y_cRs, or_s2_1 hk, or_s3_0 hk, or_s3_1 hk, ot_s4 hk, ot_s5 hk]
    rcases (by omega : b = 0 ∨ b = 1) with rfl | rfl
    · rw [if_pos (show y = 0 from hy)]
      have e' : f_AckBook_Chain_removeFirst F X (some (B + (4 + 8 * k))) (o_w B X τ σ n c s) = _ := e
      rw [e']
      rfl
    · rw [if_neg (by rw [hy]; decide)]
      have e' : f_AckBook_Chain_removeFirst F X (some (B + (5 + 8 * k))) (o_w B X τ σ n c s) = _ := e
      rw [e']
      rfl
  · have := h.one (p' := 0) (d' := 0) hk (fun k' i j h1 h2 h3 h4 => hu.2.2 k' k i j h1 hk h2 h3 h4) hU hS (fun f hf => by rw [h1]; exact h.2.2.1 f hf)
    rw [uk_id, uk_id] at this
    exact this
theorem m_nxB (hx : x < 0 ∨ 2 < x) : f_AckBookModel_next F X (some (B + 31)) x y (o_w B X τ σ n c s) = some (.inl (some (.int 0)), o_w B X τ (o_I σ 31 0 1) n c s) := by
  unfold f_AckBookModel_next
  simp only [s_noSpace, z_cI, ot_31, if_pos hx, s_fails 1 1 (Or.inr rfl)]
  rw [if_neg (by decide), if_neg (by decide)]
theorem m_nxO (h : rP σ m D ft q S t W p L H ds ga) (hk : k < 3) (hb : b < 2) (hy : y = nI b) : ∃ σ', f_AckBookModel_next F X (some (B + 31)) (nI k) y (o_w B X τ σ n c s) = some (.inl (some (.int (hdI (q k b)))), o_w B X τ σ' n c s) ∧ rP σ' m D ft (uk q k (uk (q k) b (q k b).tail)) S t W p L H ds ga ∧ σ'.1 31 0 = 0 := by
  obtain ⟨r1, r2, r3, r4, r5⟩ := h
  have hz := z0.put (σ := σ) 0
  have h0 := (r2 k hk).f31 (σ' := o_I σ 31 0 0) (fun o f ho => hz.1 o f (by omega))
  have hcn : ∀ b', cn (nI (b' + 1)) (ft k) (m k) ≤ 4096 := fun b' => Nat.le_trans (cn_le _ _ _) h0.1.2.1
  have hl : (2 : Int32) * nI k = nI (2 * k) := pk_mul 2 k
  obtain ⟨σ', e, g1, g2, g3⟩ := n_26 (B := B) (X := X) (F := F) (τ := τ) (n := n) (c := c) (s := s) (h0.2.2.1 b hb) (by omega) (hcn b) ((2 : Int32) * nI k) (nI b) (by rw [hl, nI_add])
  refine ⟨σ', ?_, ⟨?_, fun k' hk' => ?_, fun f hf => ?_, ?_, fun j hj => ?_⟩, ?_⟩
  · unfold f_AckBookModel_next
    simp only [s_noSpace, z_cI, ot_31, if_neg (e_spk hk), s_fails 0 1 (Or.inl rfl), if_true]
    rcases (by omega : b = 0 ∨ b = 1) with rfl | rfl
    · rw [if_pos (show y = 0 from hy)]
      exact e
    · rw [if_neg (by rw [hy]; decide)]
      exact e
  · rw [g1 _ _ (by omega), hz.1 _ _ (by omega)]
    exact r1
  · have hk0 := (r2 k' hk').f31 (σ' := o_I σ 31 0 0) (fun o f ho => hz.1 o f (by omega))
    refine hk0.q44 (fun o f _ ho => g1 o f (by omega)) (fun b' hb' => ?_)
    by_cases e1 : k' = k
    · subst e1
      rw [uk_at]
      by_cases e2 : b' = b
      · subst e2
        rw [uk_at]
        exact g3
      · rw [uk_ne _ _ e2]
        exact (hk0.2.2.1 b' hb').cong (g1 _ _ (by omega)) (g1 _ _ (by omega)) (fun f => g1 _ _ (by omega))
    · rw [uk_ne _ _ e1]
      exact (hk0.2.2.1 b' hb').cong (g1 _ _ (by omega)) (g1 _ _ (by omega)) (fun f => g1 _ _ (by omega))
  · rw [g1 _ _ (by omega), hz.1 _ _ (by omega)]
    exact r3 f hf
  · rw [g1 _ _ (by omega), hz.1 _ _ (by omega)]
    exact r4
  · rw [g2]
    exact r5 j hj
  · rw [g1 _ _ (by omega)]
    exact hz.2.2
theorem kD.next {v v2 : Int32} (h : kD T τ σ) (hX : X < B) (hn : 56 ≤ n) (hn1 : 56 ≤ n1) (hN : ∀ o, n ≤ o → τ o = none) (hb : b < 2) (hy : y = nI b) (hE : xE σ σ1) (e1 : f_AckBookLaw_next F X (some (B + 0)) x y (some (B + 55)) (o_w B X τ σ n c s) = some (.inl (some (.int v)), o_w B X τ1 σ1 n1 c1 s1)) (hX2 : mX σ1 σ2) (e2 : f_AckBookModel_next F X (some (B + 31)) x y (o_w B X τ1 σ1 n1 c1 s1) = some (.inl (some (.int v2)), o_w B X τ1 σ2 n1 c1 s1)) : kD (T + 1) τ1 σ2 ∧ σ2.1 31 0 = v ∧ (v = 0 → σ2.2.1 55 0 = v2.toInt64) := by
  obtain ⟨P, m, D, ew, ft, q, S, t, a, W, p, L, H, ds, ga, k1, k2, k3⟩ := h
  have k2' := k2.xe hE k3.1.2.1
  unfold f_AckBookLaw_next at e1
  rw [ot_0] at e1
  rcases e_sp x with hx | ⟨k, hk, rfl⟩
  · rw [c_nxB hx] at e1
    obtain ⟨z1, z2⟩ := x_thsI (u := 1) hX hn hN e1 (fun w => rfl)
    rw [m_nxB hx] at e2
    have hrc := (x_enr hn1 e2).2
    refine ⟨⟨P, m, D, ew, ft, q, S, t, a, W, p, L, H, ds, ga, k1.keep (z2.trans hX2.sc), (k2'.keep (σ1 := o_I σ1 31 0 1) (fun o h1 h2 => ⟨fun f w => by rw [i11, if_neg (fun u => w ⟨u.1, Or.inl u.2⟩)], rfl⟩) k3.1.2.1).rc hrc, k3.up⟩, (hrc.1 0 (by omega)).trans ?_, fun w => ?_⟩
    · rw [z1, i11, if_pos ⟨rfl, rfl⟩]
    · rw [z1] at w
      exact absurd w (by decide)
  · obtain ⟨σE, d1, d2⟩ := c_nxO (B := B) (X := X) (F := F) (n := n) (c := c) (s := s) k1 k3 hk hb hy
    rw [d1] at e1
    obtain ⟨z1, u', σG, ⟨z2, z3⟩, z4, z5⟩ := x_okI hX hn hN (pW.ret (Q := fun v σ' => v = some (.int (hdI (q k b))) ∧ sP τ σ' P m D ft (uk q k (uk (q k) b (q k b).tail)) S t W p L H ds) ⟨rfl, d2⟩) e1
    obtain ⟨σF, g1, g2, g3⟩ := m_nxO (B := B) (X := X) (F := F) (τ := τ1) (n := n1) (c := c1) (s := s1) k2' hk hb hy
    rw [g1] at e2
    obtain ⟨w1, w2⟩ := x_enr hn1 e2
    refine ⟨⟨P, m, D, ew, ft, _, S, t, a, W, p, L, H, ds, ga, z3.keep (z4.trans hX2.sc), g2.rc w2, k3.up⟩, (w2.1 0 (by omega)).trans (g3.trans z1.symm), fun _ => ?_⟩
    rw [(hX2 55 (by omega)).2.1, z5]
    injection w1 with w1
    injection w1 with w1
    injection w1 with w1
    injection z2 with z2
    injection z2 with z2
    rw [z2, w1]
end IB
