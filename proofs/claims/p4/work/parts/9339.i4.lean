/-! discard, in the three spaces. -/
section ID
variable {B X F : Nat} {τ τ1 : zK} {n c s n1 c1 s1 T : Nat} {σ σ1 σ2 σ3 : zS} {P : Nat → Nat → Nat} {m : Nat → Nat} {D : Nat → Nat → Nat → Int32} {ft : Nat → Nat → Int32} {q : Nat → Nat → List Nat} {S : Nat → Nat → Int32} {t p : Nat} {a : Nat → Nat → Nat} {W ds ga : Nat → Int32} {L H : Nat → Int64} {k b : Nat} {x y z : Int32}
theorem x_okV {r : zR} {Q : Option Value → zS → Prop} {v : Int32} {E : Nat → zW → zR} (hX : X < B) (hn : 56 ≤ n) (hN : ∀ o, n ≤ o → τ o = none) (h : pW B X τ n c s r Q) (e1 : z_tV r (fun w => some (.inl (some (.int (0 : Int32))), w)) E = some (.inl (some (.int v)), o_w B X τ1 σ1 n1 c1 s1)) : v = 0 ∧ ∃ u σE, Q u σE ∧ sC τ σE τ1 σ1 := by
  obtain ⟨w1, o1, q1, hz⟩ := z_tV_spec e1
  obtain ⟨v', σE, z1, z2, z3⟩ := h _ _ q1
  subst z2
  rcases hz with ⟨v2, b1, b2⟩ | ⟨y, ci, fs, b1, b2, b3⟩
  · have b3 := b2.2
    obtain ⟨d1, d2, d3⟩ := x_ens hX hn hN b3
    injection d1 with d1
    injection d1 with d1
    injection d1 with d1
    exact ⟨d1.symm, v', σE, z3, d2⟩
  · have b1 : o1 = .inr y := b1
    rw [z1] at b1
    cases b1
theorem sP.mark (h : sP τ σ P m D ft q S t W p L H ds) (hk : k < 3) : sP τ (o_I σ (2 + 8 * k) 3 1) P m D ft q S t W p L H (uk ds k 1) := by
  obtain ⟨h1, h2, h3, h4, h5⟩ := h
  have g : ∀ o, o ≠ 2 + 8 * k → (o_I σ (2 + 8 * k) 3 1).1 o = σ.1 o := fun o ho => i_fun_ne ho
  refine ⟨by rw [g _ (by omega)]; exact h1, fun k' hk' => ⟨(h2 k' hk').1.cell (fun o ho => g o ?_) (fun _ _ => rfl), ?_⟩, fun f hf => by rw [g _ (by omega)]; exact h3 f hf, by rw [g _ (by omega)]; exact h4, h5⟩
  · rcases ho with rfl | rfl | ⟨i, hi, rfl⟩
    · omega
    · omega
    · have := ((h2 k' hk').1.1.2.2 i hi).1.1.1
      omega
  · by_cases e : k' = k
    · subst e
      rw [uk_at, i11, if_pos ⟨rfl, rfl⟩]
    · rw [uk_ne _ _ e, g _ (by omega)]
      exact (h2 k' hk').2
theorem c_disA (h : sP τ σ P m D ft q S t W p L H ds) (hu : uP T P m D S t a W p L H ds ga) (hk : k < 3) (hd : ds k = 0) : pW B X τ n c s (f_AckBook_discard F X (some (B + 0)) (nI k) (o_w B X τ σ n c s)) (fun _ σ' => ∃ S', sP τ σ' P m D ft (uk q k (fun _ => [])) (uk S k S') t W p L H (uk ds k 1) ∧ S' 6 = -1 ∧ S' 7 = -1) := by
  unfold f_AckBook_discard
  simp only [ot_0, c_known hk, y_cRs, f_AckBook_refuseDiscarded, oi_s2_3 hk]
  rw [if_pos ((h.2.1 k hk).2.trans hd)]
  simp only [y_cV, oz1_s2_3 hk, or_s2_1 hk, or_0_3, ot_s3 hk]
  have hm := h.mark hk
  have hF : pW B X τ n c s (f_AckBook_Sent_forget F X (some (B + (3 + 8 * k))) (some (B + 30)) (o_w B X τ (o_I σ (2 + 8 * k) 3 1) n c s)) _ := d_forget (B := B) (X := X) (F := F) (n := n) (c := c) (s := s) hk F 0 _ (hm.2.1 k hk).1 (Nat.zero_le _)
  refine pW.cV hF fun σ2 hq => ?_
  obtain ⟨hH, S', hS, s6, s7⟩ := hq
  simp only [or_s2_2 hk, ot_s7 hk, f_AckBook_Arrivals_forget, op_s7_2 hk, opl_s7_3 hk, op_s7_4 hk, oz0_s7_6 hk, op_0_5, y_cV]
  have hy : yK k σ2 (o_I (o_I (o_L (o_I σ2 (7 + 8 * k) 2 0) (7 + 8 * k) 3 0) (7 + 8 * k) 4 0) (7 + 8 * k) 6 0) := ((yK.I.trans (yK.L (by omega))).trans yK.I).trans yK.I
  have h56 : ∀ i, i < m k → 56 ≤ P k i := fun i hi => ((h.2.1 k hk).1.1.2.2 i hi).1.1.1
  have ho := hm.one (p' := 0) (d' := 0) hk (fun k' i j h1 h2 h3 h4 => hu.2.2 k' k i j h1 hk h2 h3 h4) hH.u hS (fun f hf => by rw [(hH.2 29 (by omega) (by omega) (by omega) (by omega) (fun i hi => by have := h56 i hi; omega)).1]; exact hm.2.2.1 f hf)
  rw [uk_id] at ho
  exact pW.ret ⟨S', ho.keep ((hy.sc hk).trans (sC.book (by decide))), s6, s7⟩
theorem m_disA (h : rP σ m D ft q S t W p L H ds ga) (hk : k < 3) (hd : ds k = 0) : ∃ σF, f_AckBookModel_discard F X (some (B + 31)) (nI k) (o_w B X τ σ n c s) = some (.inl none, o_w B X τ σF n c s) ∧ (∀ S', S' 7 = -1 → rP σF m D ft (uk q k (fun _ => [])) (uk S k S') t W p L H (uk ds k 1) ga) ∧ σF.1 31 0 = 0 := by
  obtain ⟨r1, r2, r3, r4, r5⟩ := h
  have h39 : σ.1 39 k = 0 := (r2 k hk).1.2.2.trans hd
  unfold f_AckBookModel_discard
  have hd1 : (o_I σ 31 0 0).1 39 k = 0 := by rw [i11, if_neg (by omega)]; exact h39
  simp (disch := omega) only [s_noSpace, z_cI, ot_31, if_neg (e_spk hk), s_fails 0 1 (Or.inl rfl), if_true, or_31_11, oln_39, hd1, s_fails 0 2 (Or.inl rfl), osz1_39, or_31_13, osn_41, or_31_17, or_31_16, e_m2, oln_43, osn_44, nI_1, or_31_30, osn_47, or_31_33, osn_50, or_31_35, osn_52, or_31_37, osz0_54, op_31_23]
  refine ⟨_, rfl, fun S' s7 => ?_, by simp [i11, l11]⟩
  have e43 : ∀ l, (o_I (o_I (o_I (o_I σ 31 0 0) 31 0 0) 39 k 1) 41 k (-1)).1 43 l = σ.1 43 l := fun l => by simp [i11]
  have e43' : ∀ l v, (o_I (o_I (o_I (o_I (o_I σ 31 0 0) 31 0 0) 39 k 1) 41 k (-1)) 44 (2 * k) v).1 43 l = σ.1 43 l := fun l v => by simp [i11]
  simp only [e43, e43']
  generalize hσ : (o_I (o_I (o_I (o_L (o_I (o_I (o_I (o_I (o_I (o_I (o_I σ 31 0 0) 31 0 0) 39 k 1) 41 k (-1)) 44 (2 * k) (σ.1 43 (2 * k))) 44 (2 * k + 1) (σ.1 43 (2 * k + 1))) 47 k 0) 50 k 0) 52 k 0) 54 k 0) 31 23 0) = σF
  have p1 : ∀ o f, o < 47 → o ≠ 39 → o ≠ 41 → o ≠ 44 → ¬ (o = 31 ∧ (f = 0 ∨ f = 23)) → σF.1 o f = σ.1 o f := fun o f w1 w2 w3 w4 w5 => by
    subst hσ
    simp only [i11, l11]
    rw [if_neg (by omega), if_neg (by omega), if_neg (by omega), if_neg (by omega), if_neg (by omega), if_neg (by omega), if_neg (by omega), if_neg (by omega), if_neg (by omega), if_neg (by omega)]
  have p2 : ∀ f, σF.1 39 f = if f = k then 1 else σ.1 39 f := fun f => by subst hσ; simp [i11, l11]
  have p3 : ∀ f, σF.1 41 f = if f = k then -1 else σ.1 41 f := fun f => by subst hσ; simp [i11, l11]
  have p4 : ∀ f, σF.1 44 f = if f = 2 * k + 1 then σ.1 43 (2 * k + 1) else if f = 2 * k then σ.1 43 (2 * k) else σ.1 44 f := fun f => by subst hσ; simp [i11, l11]
  have p5 : ∀ o, o < 50 → σF.2.1 o = σ.2.1 o := fun o ho => by
    subst hσ
    exact funext fun f => by simp only [i12, l12]; rw [if_neg (by omega)]
  clear hσ
  refine ⟨(p1 31 1 (by omega) (by omega) (by omega) (by omega) (by omega)).trans r1, fun k' hk' => ?_, fun f hf => (p1 31 _ (by omega) (by omega) (by omega) (by omega) (by omega)).trans (r3 f hf), (p1 31 27 (by omega) (by omega) (by omega) (by omega) (by omega)).trans r4, fun j hj => by rw [p5 45 (by omega), p5 46 (by omega)]; exact r5 j hj⟩
  obtain ⟨⟨a1, a2, a3⟩, b, d, f1, f2⟩ := r2 k' hk'
  have e : ∀ o f, 32 ≤ o → o < 45 → o ≠ 39 → o ≠ 41 → o ≠ 44 → σF.1 o f = σ.1 o f := fun o f w1 w2 w3 w4 w5 => p1 o f (by omega) w3 w4 w5 (by omega)
  by_cases ek : k' = k
  · subst ek
    rw [uk_at, uk_at, uk_at, s7]
    refine ⟨⟨(e 32 _ (by omega) (by omega) (by omega) (by omega) (by omega)).trans a1, a2, by rw [p2, if_pos rfl]⟩, fun i hi => ?_, fun b' hb' => ?_, by rw [p3, if_pos rfl], (e 40 _ (by omega) (by omega) (by omega) (by omega) (by omega)).trans f2⟩
    · rw [e 33 _ (by omega) (by omega) (by omega) (by omega) (by omega), e 34 _ (by omega) (by omega) (by omega) (by omega) (by omega), e 36 _ (by omega) (by omega) (by omega) (by omega) (by omega), e 37 _ (by omega) (by omega) (by omega) (by omega) (by omega), e 38 _ (by omega) (by omega) (by omega) (by omega) (by omega), e 35 _ (by omega) (by omega) (by omega) (by omega) (by omega)]
      exact b i hi
    · obtain ⟨h', t', ⟨g1, g2⟩, g3, g4, g5⟩ := d b' hb'
      refine ⟨t', t', ⟨?_, (e 43 _ (by omega) (by omega) (by omega) (by omega) (by omega)).trans g2⟩, rfl, g4, fun j x hx => by simp at hx⟩
      rw [p4]
      rcases (by omega : b' = 0 ∨ b' = 1) with rfl | rfl
      · rw [if_neg (by omega), if_pos (by omega)]
        exact g2
      · rw [if_pos rfl]
        exact g2
  · rw [uk_ne _ _ ek, uk_ne _ _ ek, uk_ne _ _ ek]
    refine ⟨⟨(e 32 _ (by omega) (by omega) (by omega) (by omega) (by omega)).trans a1, a2, by rw [p2, if_neg ek]; exact a3⟩, fun i hi => ?_, fun b' hb' => ?_, by rw [p3, if_neg ek]; exact f1, (e 40 _ (by omega) (by omega) (by omega) (by omega) (by omega)).trans f2⟩
    · rw [e 33 _ (by omega) (by omega) (by omega) (by omega) (by omega), e 34 _ (by omega) (by omega) (by omega) (by omega) (by omega), e 36 _ (by omega) (by omega) (by omega) (by omega) (by omega), e 37 _ (by omega) (by omega) (by omega) (by omega) (by omega), e 38 _ (by omega) (by omega) (by omega) (by omega) (by omega), e 35 _ (by omega) (by omega) (by omega) (by omega) (by omega)]
      exact b i hi
    · exact (d b' hb').cong (by rw [p4, if_neg (by omega), if_neg (by omega)]) (e 43 _ (by omega) (by omega) (by omega) (by omega) (by omega)) (fun f => e 42 _ (by omega) (by omega) (by omega) (by omega) (by omega))
theorem uP.dis {S' : Nat → Int32} (hu : uP T P m D S t a W p L H ds ga) (hk : k < 3) (s6 : S' 6 = -1) (s7 : S' 7 = -1) : uP (T + 1) P m D (uk S k S') t a W p L H (uk ds k 1) ga := by
  obtain ⟨u1, u5, u6⟩ := hu.up
  refine ⟨u1, fun k' hk' => ?_, u6⟩
  by_cases ek : k' = k
  · subst ek
    rw [uk_at, uk_at]
    exact ⟨(u5 k' hk').1, Or.inl s6, Or.inl s7, fun w => absurd w (by decide), Or.inr rfl⟩
  · rw [uk_ne _ _ ek, uk_ne _ _ ek]
    exact u5 k' hk'
theorem kD.discard {v : Int32} {o2 : zO} (h : kD T τ σ) (hX : X < B) (hn : 56 ≤ n) (hn1 : 56 ≤ n1) (hN : ∀ o, n ≤ o → τ o = none) (hE : xE σ σ1) (e1 : f_AckBookLaw_discard F X (some (B + 0)) x (o_w B X τ σ n c s) = some (.inl (some (.int v)), o_w B X τ1 σ1 n1 c1 s1)) (hX2 : mX σ1 σ2) (e2 : f_AckBookModel_discard F X (some (B + 31)) x (o_w B X τ1 σ1 n1 c1 s1) = some (o2, o_w B X τ1 σ2 n1 c1 s1)) : kD (T + 1) τ1 σ2 := by
  obtain ⟨P, m, D, ew, ft, q, S, t, a, W, p, L, H, ds, ga, k1, k2, k3⟩ := h
  have k2' := k2.xe hE k3.1.2.1
  unfold f_AckBookLaw_discard at e1
  rw [ot_0] at e1
  have ref : ∀ σE, sC τ σ τ1 σ1 → (∀ o f, ¬ (o = 31 ∧ f = 0) → σE.1 o f = σ1.1 o f) → σE.2 = σ1.2 → rC σE σ2 → kD (T + 1) τ1 σ2 := fun σE hC h1 h2 h3 => ⟨P, m, D, ew, ft, q, S, t, a, W, p, L, H, ds, ga, k1.keep (hC.trans hX2.sc), (k2'.keep (σ1 := σE) (fun o _ _ => ⟨fun f w => h1 o f (fun u => w ⟨u.1, Or.inl u.2⟩), by rw [h2]⟩) k3.1.2.1).rc h3, k3.up⟩
  rcases e_sp x with hx | ⟨k, hk, rfl⟩
  · have q : f_AckBook_discard F X (some (B + 0)) x (o_w B X τ σ n c s) = z_thr (o_w B X τ σ n c s) 11 := by
      unfold f_AckBook_discard
      rw [ot_0, c_knownB hx, z_thr_cR]
    rw [q] at e1
    obtain ⟨-, q1⟩ := x_thsV (u := 1) hX hn hN e1 (fun w => rfl)
    rw [u_disB x hx] at e2
    exact ref _ q1 (z0.put 1).1 rfl (x_enr hn1 e2).2
  · by_cases hd : ds k = 0
    · obtain ⟨-, u, σE, ⟨S', z1, z2, z3⟩, z4⟩ := x_okV hX hn hN (c_disA (B := B) (X := X) (F := F) (n := n) (c := c) (s := s) k1 k3 hk hd) e1
      obtain ⟨σF, g1, g2, -⟩ := m_disA (B := B) (X := X) (F := F) (τ := τ1) (n := n1) (c := c1) (s := s1) k2' hk hd
      rw [g1] at e2
      exact ⟨P, m, D, ew, ft, _, _, t, a, W, p, L, H, _, ga, z1.keep (z4.trans hX2.sc), (g2 S' z3).rc (x_enr hn1 e2).2, k3.dis hk z2 z3⟩
    · have hd1 : ds k = 1 := ((k3.2.1 k hk).2.2.2.2).resolve_left hd
      have q : f_AckBook_discard F X (some (B + 0)) (nI k) (o_w B X τ σ n c s) = z_thr (o_w B X τ σ n c s) 12 := by
        unfold f_AckBook_discard
        simp only [ot_0, c_known hk, y_cRs, f_AckBook_refuseDiscarded, oi_s2_3 hk]
        rw [if_neg (by rw [(k1.2.1 k hk).2]; exact hd), z_thr_cV]
      rw [q] at e1
      obtain ⟨-, q1⟩ := x_thsV (u := 2) hX hn hN e1 (fun w => rfl)
      rw [u_disD hk ((k2'.2.1 k hk).1.2.2.trans hd1)] at e2
      exact ref _ q1 ((z0.put 0).step (v := 2)).1 rfl (x_enr hn1 e2).2
end ID
