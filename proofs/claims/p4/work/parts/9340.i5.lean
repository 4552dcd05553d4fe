/-! span, both sides. -/
section IE
variable {B X F : Nat} {τ τ1 : zK} {n c s n1 c1 s1 T : Nat} {σ σ1 σ2 σ3 : zS} {P : Nat → Nat → Nat} {m : Nat → Nat} {D : Nat → Nat → Nat → Int32} {ft : Nat → Nat → Int32} {q : Nat → Nat → List Nat} {S : Nat → Nat → Int32} {t p : Nat} {a : Nat → Nat → Nat} {W ds ga : Nat → Int32} {L H : Nat → Int64} {k b : Nat} {x y z : Int32} {l h : Int64}
theorem c_spB (hb : k_sBad σ l h) : f_AckBook_span F X (some (B + 0)) l h (o_w B X τ σ n c s) = z_thr (o_w B X τ σ n c s) 11 := by
  unfold f_AckBook_span
  simp only [lg_cmp_lt, lg_cmp_ge]
  by_cases h1 : l < 0
  · rw [if_pos h1]
  · rw [if_neg h1]
    by_cases h2 : l ≤ h
    · rw [if_pos h2]
      rcases hb with q | q | ⟨p, q1, q2, q3⟩
      · exact absurd q h1
      · exact absurd h2 (Int64.not_le.mpr q)
      · simp only [or_0_1, ot_26, f_AckBook_Claim_isBelow, oi_26_2, q1, or_26_0, nI_pred, oln_27 q2, lg_cmp_ge]
        rw [if_neg (nI_nle (by omega) (by omega)), if_pos (show nI (p + 1) ≤ (64 : Int32) from nI_le (b := 64) (by omega) (by decide)), if_pos (Int64.not_lt.mp q3)]
        simp only [y_cI, if_true]
    · rw [if_neg h2]
theorem c_spG (hb : ¬ k_sBad σ l h) (hp : σ.1 26 2 = nI p) (hp64 : p ≤ 64) : f_AckBook_span F X (some (B + 0)) l h (o_w B X τ σ n c s) = if p = 64 then z_thr (o_w B X τ σ n c s) 12 else some (.inl (some (.int (nI (p + 1)))), o_w B X τ (o_I (o_L (o_L σ 27 p l) 28 p h) 26 2 (nI (p + 1))) n c s) := by
  have h1 : ¬ l < 0 := fun q => hb (Or.inl q)
  have h2 : l ≤ h := Int64.not_lt.mp fun q => hb (Or.inr (Or.inl q))
  have hbel : f_AckBook_Claim_isBelow F X (some (B + 26)) h (o_w B X τ σ n c s) = some (.inl (some (.int 1)), o_w B X τ σ n c s) := by
    unfold f_AckBook_Claim_isBelow
    simp only [oi_26_2, hp, or_26_0, lg_cmp_ge]
    rcases Nat.eq_zero_or_pos p with q | q
    · subst q
      rw [if_pos (by decide)]
    · obtain ⟨p', rfl⟩ : ∃ p', p = p' + 1 := ⟨p - 1, by omega⟩
      rw [if_neg (nI_nle (by omega) (by omega)), if_pos (show nI (p' + 1) ≤ (64 : Int32) from nI_le (b := 64) (by omega) (by decide)), nI_pred]
      simp only [oln_27 (show p' < 64 by omega)]
      rw [if_neg]
      intro q3
      exact hb (Or.inr (Or.inr ⟨p', hp, by omega, Int64.not_lt.mpr q3⟩))
  unfold f_AckBook_span
  simp only [lg_cmp_lt, lg_cmp_ge]
  rw [if_neg h1, if_pos h2]
  simp only [or_0_1, ot_26, hbel, y_cI]
  rw [if_neg (by decide)]
  simp only [f_AckBook_Claim_isFull, oi_26_2, hp]
  by_cases q : p = 64
  · subst q
    rw [if_neg (show ¬ nI 64 < (64 : Int32) by decide), if_pos rfl]
    simp only [y_cI]
    rw [if_neg (by decide)]
  · have q' : p < 64 := by omega
    rw [if_pos (show nI p < (64 : Int32) from nI_lt (b := 64) q' (by decide)), if_neg q]
    have e1 : (o_L σ 27 p l).1 26 2 = nI p := hp
    have e2 : (o_L (o_L σ 27 p l) 28 p h).1 26 2 = nI p := hp
    have e3 : (o_I (o_L (o_L σ 27 p l) 28 p h) 26 2 (nI (p + 1))).1 26 2 = nI (p + 1) := by rw [i11, if_pos ⟨rfl, rfl⟩]
    simp only [y_cI, if_true, or_0_1, ot_26, f_AckBook_Claim_add, oi_26_2, hp]
    rw [if_neg (nI_pos (by omega)), if_neg (show ¬ (64 : Int32) ≤ nI p from nI_ge (b := 64) q' (by decide))]
    simp only [or_26_0, osn_27 q', or_26_1, oi_26_2, e1, osn_28 q', e2, nI_1, op_26_2, e3, y_cI]
theorem sP.span (hs : sP τ σ P m D ft q S t W p L H ds) (hp : p < 64) : sP τ (o_I (o_L (o_L σ 27 p l) 28 p h) 26 2 (nI (p + 1))) P m D ft q S t W (p + 1) (uk L p l) (uk H p h) ds := by
  obtain ⟨h1, h2, h3, h4, h5⟩ := hs
  have g : ∀ o, o ≠ 26 → (o_I (o_L (o_L σ 27 p l) 28 p h) 26 2 (nI (p + 1))).1 o = σ.1 o := fun o ho => i_fun_ne ho
  refine ⟨by rw [g _ (by omega)]; exact h1, fun k' hk' => ⟨(h2 k' hk').1.cell (fun o ho => g o ?_) (fun _ _ => rfl), by rw [g _ (by omega)]; exact (h2 k' hk').2⟩, fun f hf => by rw [g _ (by omega)]; exact h3 f hf, by rw [i11, if_pos ⟨rfl, rfl⟩], fun j hj => ?_⟩
  · rcases ho with rfl | rfl | ⟨i, hi, rfl⟩
    · omega
    · omega
    · have := ((h2 k' hk').1.1.2.2 i hi).1.1.1
      omega
  · simp only [i12, l12, uk]
    by_cases e : j = p
    · subst e
      simp
    · simp only [e, and_false, if_false]
      exact h5 j hj
theorem clS.span (hc : clS p L H) (h0 : 0 ≤ l.toInt) (h1 : l.toInt ≤ h.toInt) (h2 : 0 < p → h.toInt + 1 < (L (p - 1)).toInt) : clS (p + 1) (uk L p l) (uk H p h) := by
  refine ⟨fun j hj => ?_, fun i j hij hj => ?_⟩
  · by_cases e : j = p
    · subst e
      rw [uk_at, uk_at]
      exact ⟨h0, h1⟩
    · rw [uk_ne _ _ e, uk_ne _ _ e]
      exact hc.1 j (by omega)
  · rw [uk_ne L _ (by omega : i ≠ p)]
    by_cases e : j = p
    · subst e
      rw [uk_at]
      have := h2 (by omega)
      by_cases e2 : i = j - 1
      · rw [e2]
        exact this
      · have z1 := hc.2 i (j - 1) (by omega) (by omega)
        have z2 := hc.1 (j - 1) (by omega)
        omega
    · rw [uk_ne _ _ e]
      exact hc.2 i j hij (by omega)
theorem rP.span (hr : rP σ m D ft q S t W p L H ds ga) (hp : p < 64) : rP (o_I (o_L (o_L (o_I (o_I σ 31 0 0) 31 0 0) 45 p l) 46 p h) 31 27 (nI (p + 1))) m D ft q S t W (p + 1) (uk L p l) (uk H p h) ds ga := by
  obtain ⟨r1, r2, r3, r4, r5⟩ := hr
  refine ⟨by simp only [i11, l11]; exact r1, fun k hk => (r2 k hk).f31 (fun o f ho => by simp only [i11, l11]; rw [if_neg (fun w => ho w.1), if_neg (fun w => ho w.1), if_neg (fun w => ho w.1)]), fun f hf => ?_, by rw [i11, if_pos ⟨rfl, rfl⟩], fun j hj => ?_⟩
  · simp only [i11, l11]
    rw [if_neg (by omega), if_neg (by omega), if_neg (by omega)]
    exact r3 f hf
  · simp only [i12, l12, uk]
    by_cases e : j = p
    · subst e
      simp
    · simp only [e, and_false, if_false]
      exact r5 j (by omega)
theorem kD.span {v : Int32} {o2 : zO} (hk : kD T τ σ) (hX : X < B) (hn : 56 ≤ n) (hn1 : 56 ≤ n1) (hN : ∀ o, n ≤ o → τ o = none) (hE : xE σ σ1) (hM : mM T σ1) (e1 : f_AckBookLaw_span F X (some (B + 0)) l h (some (B + 55)) (o_w B X τ σ n c s) = some (.inl (some (.int v)), o_w B X τ1 σ1 n1 c1 s1)) (hX2 : mX σ1 σ2) (e2 : f_AckBookModel_span F X (some (B + 31)) l h (o_w B X τ1 σ1 n1 c1 s1) = some (o2, o_w B X τ1 σ2 n1 c1 s1)) : kD (T + 1) τ1 σ2 := by
  obtain ⟨P, m, D, ew, ft, q, S, t, a, W, p, L, H, ds, ga, k1, k2, k3⟩ := hk
  have hp := k3.1.2.1
  have hcl := k3.1.2.2.1
  have k2' := k2.xe hE hp
  unfold f_AckBookLaw_span at e1
  rw [ot_0] at e1
  have ref : ∀ σE, sC τ σ τ1 σ1 → (∀ o f, ¬ (o = 31 ∧ f = 0) → σE.1 o f = σ1.1 o f) → σE.2 = σ1.2 → rC σE σ2 → kD (T + 1) τ1 σ2 := fun σE hC h1 h2 h3 => ⟨P, m, D, ew, ft, q, S, t, a, W, p, L, H, ds, ga, k1.keep (hC.trans hX2.sc), (k2'.keep (σ1 := σE) (fun o _ _ => ⟨fun f w => h1 o f (fun u => w ⟨u.1, Or.inl u.2⟩), by rw [h2]⟩) hp).rc h3, k3.up⟩
  have i1 : ∀ p', p' < 64 → (nI p = nI (p' + 1)) = (p = p' + 1) := fun p' w => e_eq (by omega) (by omega)
  by_cases hb : l < 0 ∨ h < l ∨ ∃ p', p = p' + 1 ∧ ¬ h < L p' - 1
  · have b1 : k_sBad σ l h := by
      rcases hb with w | w | ⟨p', w1, w2⟩
      · exact Or.inl w
      · exact Or.inr (Or.inl w)
      · exact Or.inr (Or.inr ⟨p', by rw [k1.2.2.2.1, w1], by omega, by rw [(k1.2.2.2.2 p' (by omega)).1]; exact w2⟩)
    have b2 : m_sBad σ1 l h := by
      rcases hb with w | w | ⟨p', w1, w2⟩
      · exact Or.inl w
      · exact Or.inr (Or.inl w)
      · exact Or.inr (Or.inr ⟨p', by rw [k2'.2.2.2.1, w1], by omega, by rw [(k2'.2.2.2.2 p' (by omega)).1]; exact fun z => w2 ((e_l12 _ _ (hcl.1 p' (by omega)).1).mpr z)⟩)
    rw [c_spB b1] at e1
    obtain ⟨-, q1⟩ := x_thsI (u := 1) hX hn hN e1 (fun w => rfl)
    rw [u_spanB hM l h b2] at e2
    exact ref _ q1 (z0.put 1).1 rfl (x_enr hn1 e2).2
  · have b1 : ¬ k_sBad σ l h := by
      rintro (w | w | ⟨p', w1, w2, w3⟩)
      · exact hb (Or.inl w)
      · exact hb (Or.inr (Or.inl w))
      · rw [k1.2.2.2.1, i1 p' w2] at w1
        exact hb (Or.inr (Or.inr ⟨p', w1, by rw [← (k1.2.2.2.2 p' (by omega)).1]; exact w3⟩))
    have b2 : ¬ m_sBad σ1 l h := by
      rintro (w | w | ⟨p', w1, w2, w3⟩)
      · exact hb (Or.inl w)
      · exact hb (Or.inr (Or.inl w))
      · rw [k2'.2.2.2.1, i1 p' w2] at w1
        exact hb (Or.inr (Or.inr ⟨p', w1, fun z => w3 (by rw [(k2'.2.2.2.2 p' (by omega)).1]; exact (e_l12 _ _ (hcl.1 p' (by omega)).1).mp z)⟩))
    rw [c_spG b1 k1.2.2.2.1 hp] at e1
    rw [u_spanG hM l h b2, u_span44 l h k2'.2.2.2.1 hp] at e2
    by_cases p64 : p = 64
    · rw [if_pos p64] at e1 e2
      obtain ⟨-, q1⟩ := x_thsI (u := 2) hX hn hN e1 (fun w => rfl)
      exact ref _ q1 ((z0.put 0).step (v := 2)).1 rfl (x_enr hn1 e2).2
    · rw [if_neg p64] at e1 e2
      obtain ⟨z1, u', σG, z3, z4, z5⟩ := x_okI hX hn hN (pW.ret (Q := fun _ σ' => sP τ σ' P m D ft q S t W (p + 1) (uk L p l) (uk H p h) ds) (k1.span (by omega))) e1
      refine ⟨P, m, D, ew, ft, q, S, t, a, W, p + 1, _, _, ds, ga, z3.keep (z4.trans hX2.sc), (k2'.span (by omega)).rc (x_enr hn1 e2).2, ?_⟩
      obtain ⟨⟨u1, u2, u3, u4⟩, u5⟩ := k3.up
      have l0 : ¬ l.toInt < (0 : Int64).toInt := fun w => hb (Or.inl (Int64.lt_iff_toInt_lt.mpr w))
      have l1 : ¬ h.toInt < l.toInt := fun w => hb (Or.inr (Or.inl (Int64.lt_iff_toInt_lt.mpr w)))
      have e0 : (0 : Int64).toInt = 0 := by decide
      refine ⟨⟨u1, by omega, u3.span (by omega) (by omega) (fun w => ?_), u4⟩, u5⟩
      have w2 : h < L (p - 1) - 1 := Decidable.not_not.mp fun w2 => hb (Or.inr (Or.inr ⟨p - 1, by omega, w2⟩))
      have hL := (hcl.1 (p - 1) (by omega)).1
      have w3 := Int64.lt_iff_toInt_lt.mp w2
      have := Int64.toInt_lt (L (p - 1))
      rw [Int64.toInt_sub, show (1 : Int64).toInt = 1 by decide, Int.bmod_eq_of_le (by omega) (by omega)] at w3
      omega
end IE
