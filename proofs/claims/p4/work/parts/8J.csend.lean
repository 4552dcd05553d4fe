theorem y_cRv (K : Option Nat → zW → zR) (a : Nat) (w : zW) : z_cR (some (.inl (some (va_rf (some a))), w)) K = K (some a) w := rfl
section CJ
variable {B X F : Nat} {τ : zK} {n c s T R D : Nat} {σ : zS} {N rk : Nat → Nat}
theorem cJ.ar (hJ : cJ T R τ σ N rk) (hN : 56 ≤ n ∧ ∀ o, n ≤ o → τ o = none) (cap : Nat) : cJ T R (o_kd τ n (.inr cap)) (o_clr σ n) N rk := by
  obtain ⟨n1, n2⟩ := hN
  have hpk : ∀ q, o_pk (o_kd τ n (.inr cap)) q ↔ o_pk τ q := fun q => by
    unfold o_pk o_kd
    by_cases hq : q = n
    · subst hq
      simp [n2 q (Nat.le_refl _)]
    · simp [hq]
  have ne1 : ∀ q, o_pk τ q → q ≠ n := fun q h => by
    rintro rfl
    have h2 := h.2
    rw [n2 q (Nat.le_refl _)] at h2
    cases h2
  have ne2 : ∀ e cp, o_ar τ e cp → e ≠ n := fun e cp h => by
    rintro rfl
    have h2 := h.2
    rw [n2 e (Nat.le_refl _)] at h2
    cases h2
  have har : ∀ e cp, o_ar τ e cp → o_ar (o_kd τ n (.inr cap)) e cp := fun e cp h => ⟨h.1, by unfold o_kd; rw [if_neg (ne2 e cp h)]; exact h.2⟩
  refine cJ.tau ?_ hpk har
  obtain ⟨h1, h2, h3, h4, h5⟩ := hJ
  have e1 : ∀ a b, a ≠ n → (o_clr σ n).1 a b = σ.1 a b := fun a b ha => by rw [c11, if_neg ha]
  have e2 : ∀ a b, a ≠ n → (o_clr σ n).2.2 a b = σ.2.2 a b := fun a b ha => by rw [c13, if_neg ha]
  refine ⟨fun k hk => ?_, fun k hk f' hf => ⟨fun q hq => ?_, fun q hq => ?_⟩, fun q hq => ?_, ?_, fun k hk => ?_⟩
  · rw [e1 _ _ (by omega), e2 _ _ (by omega)]
    obtain ⟨a1, a2, a3⟩ := h1 k hk
    refine ⟨a1, a2, ?_⟩
    rcases a3 with a3 | ⟨p, cp, g1, g2, g3, g4, g5, g6, g7⟩
    · exact Or.inl a3
    · exact Or.inr ⟨p, cp, g1, g2, g3, g4, g5, fun j hj => by rw [e2 _ _ (ne2 p cp g2)]; exact g6 j hj, fun j hj => by rw [e2 _ _ (ne2 p cp g2)]; exact g7 j hj⟩
  · rw [e2 _ _ (by omega)] at hq
    have := (h2 k hk f' hf).1 q hq
    exact ⟨this.1, by rw [e1 _ _ (ne1 q this.1)]; exact this.2⟩
  · rw [e2 _ _ (by omega)] at hq
    have := (h2 k hk f' hf).2 q hq
    exact ⟨this.1, by rw [e1 _ _ (ne1 q this.1)]; exact this.2⟩
  · obtain ⟨a1, a2, a3, a4⟩ := h3 q hq
    rw [e1 _ _ (ne1 q hq), e1 _ _ (ne1 q hq)]
    simp only [e2 _ _ (ne1 q hq)]
    refine ⟨a1, a2, a3, fun q' hq' => ?_⟩
    obtain ⟨b1, b2, b3⟩ := a4 q' hq'
    exact ⟨b1, by rw [e1 _ _ (ne1 q' b1)]; exact b2, b3⟩
  · obtain ⟨b1, b2, b3⟩ := h4
    exact ⟨by rw [e1 _ _ (by omega)]; exact b1, by rw [e1 _ _ (by omega)]; exact b2, b3⟩
  · rw [e1 _ _ (by omega)]; exact h5 k hk
/-- a list's array changes: what is asked of the others stays -/
theorem cJ.list (hJ : cJ T R τ σ N rk) {σ' : zS} {k e cap m : Nat} (hk : k < 3) (hT : cap ≤ 2 * (T + 1) + 10) (hm : m ≤ T + 1) (hmc : m ≤ cap) (hc1 : 1 ≤ cap) (he : o_ar τ e cap) (hL : σ'.2.1 = σ.2.1) (hI : ∀ o, o ≠ 6 + 8 * k → σ'.1 o = σ.1 o) (hRr : ∀ o, o ≠ 6 + 8 * k → o ≠ e → σ'.2.2 o = σ.2.2 o) (h1 : σ'.1 (6 + 8 * k) 1 = nI m) (h2 : σ'.2.2 (6 + 8 * k) 0 = some e) (h3 : ∀ j, j < cap → σ'.2.2 e j = none ∨ ∃ q, σ'.2.2 e j = some q ∧ o_pk τ q) (h4 : ∀ j, j < m → σ'.2.2 e j ≠ none) (hal : ∀ i, i < 3 → i ≠ k → ∀ j, j < N i → σ.2.2 (6 + 8 * i) 0 = some e → σ'.2.2 e j ≠ none) : cJ (T + 1) R τ σ' (fun i => if i = k then m else N i) rk := by
  obtain ⟨a1, a2, a3, a4, a5⟩ := hJ
  have hee := he.1
  have hpe : ∀ q, o_pk τ q → q ≠ e := fun q hq => by
    rintro rfl
    have := hq.2.symm.trans he.2
    cases this
  refine ⟨fun i hi => ?_, fun i hi f' hf => ⟨fun q hq => ?_, fun q hq => ?_⟩, fun q hq => ?_, ?_, fun i hi => ?_⟩
  · by_cases q : i = k
    · subst q
      simp only [if_pos]
      exact ⟨h1, hm, Or.inr ⟨e, cap, h2, he, hmc, hT, hc1, h3, h4⟩⟩
    · simp only [if_neg q]
      rw [hI (6 + 8 * i) (by omega), hRr (6 + 8 * i) (by omega) (by omega)]
      obtain ⟨b1, b2, b3⟩ := a1 i hi
      refine ⟨b1, by omega, ?_⟩
      rcases b3 with b3 | ⟨p, cp, g1, g2, g3, g4, g5, g6, g7⟩
      · exact Or.inl b3
      · by_cases hpe2 : p = e
        · subst hpe2
          have hcc : cp = cap := by
            have := g2.2.symm.trans he.2
            injection this with this
            injection this
          subst hcc
          exact Or.inr ⟨p, cp, g1, g2, g3, by omega, g5, h3, fun j hj => hal i hi q j hj g1⟩
        · have hp := g2.1
          have hz := hRr p (by omega) hpe2
          exact Or.inr ⟨p, cp, g1, g2, g3, by omega, g5, by rw [hz]; exact g6, by rw [hz]; exact g7⟩
  · rw [hRr _ (by omega) (by omega)] at hq
    have := (a2 i hi f' hf).1 q hq
    have h9 := this.1.1
    exact ⟨this.1, by rw [hI q (by omega)]; exact this.2⟩
  · rw [hRr _ (by omega) (by omega)] at hq
    have := (a2 i hi f' hf).2 q hq
    have h9 := this.1.1
    exact ⟨this.1, by rw [hI q (by omega)]; exact this.2⟩
  · have h9 := hq.1
    rw [hI q (by omega), hRr q (by omega) (hpe q hq)]
    obtain ⟨b1, b2, b3, b4⟩ := a3 q hq
    refine ⟨b1, b2, b3, fun q' hq' => ?_⟩
    obtain ⟨d1, d2, d3⟩ := b4 q' hq'
    have h8 := d1.1
    exact ⟨d1, by rw [hI q' (by omega)]; exact d2, d3⟩
  · obtain ⟨b1, b2, b3⟩ := a4
    exact ⟨by rw [hI 26 (by omega)]; exact b1, by rw [hI 26 (by omega)]; exact b2, by rw [hL]; exact b3⟩
  · rw [hI (7 + 8 * i) (by omega)]; exact a5 i hi
def c_fr (k : Nat) (σ σ' : zS) : Prop := σ'.2.1 = σ.2.1 ∧ ∀ o, o ≠ 6 + 8 * k → σ'.1 o = σ.1 o
theorem s_add (hJ : cJ T R τ σ N rk) (hX : X < B) (hT : T < 512) (hN : 56 ≤ n ∧ ∀ o, n ≤ o → τ o = none) (hc : 2 ≤ c) (hs : 2000 ≤ s) {k p : Nat} (hk : k < 3) (hp : o_pk τ p) : ∃ τ' σ' n' c' s', f_ArrayList_add2 F X (some (B + (6 + 8 * k))) (some (B + p)) (o_w B X τ σ n c s) = some (.inl (some (.int 1)), o_w B X τ' σ' n' c' s') ∧ cJ (T + 1) R τ' σ' (fun i => if i = k then N k + 1 else N i) rk ∧ (56 ≤ n' ∧ ∀ o, n' ≤ o → τ' o = none) ∧ c ≤ c' + 1 ∧ s ≤ s' + 1500 ∧ o_pk τ' p ∧ (∀ o, o ≠ 6 + 8 * k → o ≠ n → σ'.1 o = σ.1 o) ∧ σ'.2.1 = σ.2.1 ∧ (∀ o, 31 ≤ o → o < 56 → σ'.2.2 o = σ.2.2 o) ∧ σ'.1 (6 + 8 * k) 1 = nI (N k + 1) := by
  obtain ⟨n1, n2⟩ := hN
  obtain ⟨a1, a2, a3⟩ := hJ.1 k hk
  have hpn : p ≠ n := by
    rintro rfl
    have h2 := hp.2
    rw [n2 p (Nat.le_refl _)] at h2
    cases h2
  have fresh : ∀ t, 56 ≤ n + 1 ∧ ∀ o, n + 1 ≤ o → o_kd τ n t o = none := fun t => ⟨by omega, fun o ho => by unfold o_kd; rw [if_neg (by omega)]; exact n2 o (by omega)⟩
  have eN : (o_I σ (6 + 8 * k) 2 (σ.1 (6 + 8 * k) 2 + 1)).1 (6 + 8 * k) 1 = nI (N k) := by rw [i11, if_neg (by omega)]; exact a1
  have hother : ∀ i, i < 3 → ∀ e, σ.2.2 (6 + 8 * i) 0 = some e → e ≠ n := fun i hi e he => by
    rcases (hJ.1 i hi).2.2 with ⟨z, -⟩ | ⟨e', cp, g1, g2, -⟩
    · rw [z] at he; cases he
    · rw [g1] at he
      obtain rfl := Option.some.inj he
      rintro rfl
      have h2 := g2.2
      rw [n2 e' (Nat.le_refl _)] at h2
      cases h2
  unfold f_ArrayList_add2
  simp only [oi_s6_2 hk, op_s6_2 hk, or_s6_0 hk, oi_s6_1 hk, eN, ot_s6 hk]
  rcases a3 with ⟨a3, a4⟩ | ⟨e, cap, g1, g2, g3, g4, g5, g6, g7⟩
  · -- the first one of a list
    have hE : o_E B X ((o_I σ (6 + 8 * k) 2 (σ.1 (6 + 8 * k) 2 + 1)).2.2 (6 + 8 * k) 0) = X := by
      show o_E B X (σ.2.2 (6 + 8 * k) 0) = X
      rw [a3]; rfl
    rw [a4]
    unfold f_ArrayList_add
    simp only [hE, d_lenX hX]
    rw [if_pos (show nI 0 = Int32.ofNat 0 from rfl)]
    unfold f_ArrayList_grow2 f_ArrayList_grow
    simp only [ot_s6 hk, oi_s6_1 hk, eN, a4, or_s6_0 hk, hE, d_lenX hX]
    rw [if_neg (by decide), if_pos trivial, if_neg (by decide), d_newa n1, show (10 : Int32).toNatClampNeg = 10 from by decide, if_pos ⟨by decide, by decide, by omega, by omega⟩]
    simp only [opr_s6_0 hk, y_cRv, q_ArrayList_add_11]
    have hp' : o_pk (o_kd τ n (.inr 10)) p := ⟨hp.1, by unfold o_kd; rw [if_neg hpn]; exact hp.2⟩
    have hn' : o_ar (o_kd τ n (.inr 10)) n 10 := ⟨n1, by unfold o_kd; rw [if_pos rfl]⟩
    rw [d_stR hn' hp', if_pos (nI_in (show 0 < 10 by omega) (by decide)), nI_clamp (show 0 < 2 ^ 31 by omega)]
    simp only [op_s6_1 hk, nI_1, y_cV]
    refine ⟨_, _, _, _, _, rfl, (hJ.ar ⟨n1, n2⟩ 10).list hk (e := n) (cap := 10) (by omega) (by omega) (by omega) (by omega) hn' rfl (fun o ho => ?_) (fun o ho ho2 => ?_) ?_ ?_ (fun j hj => ?_) (fun j hj => ?_) (fun i hi hik j hj he => ?_), fresh _, by omega, by omega, hp', fun o ho ho2 => ?_, rfl, fun o ho ho2 => ?_, ?_⟩
    · funext b
      rw [i11, if_neg (fun z => ho z.1)]
      show (o_clr (o_I σ (6 + 8 * k) 2 (σ.1 (6 + 8 * k) 2 + 1)) n).1 o b = (o_clr σ n).1 o b
      rw [c11, c11, i11, if_neg (show ¬ (o = 6 + 8 * k ∧ b = 2) from fun z => ho z.1)]
    · funext b
      rw [i12, r13, if_neg (fun z => ho2 z.1), r13, if_neg (fun z => ho z.1), c13, c13, i12]
    · rw [i11, if_pos ⟨rfl, rfl⟩]
    · rw [i12, r13, if_neg (by omega), r13, if_pos ⟨rfl, rfl⟩]
    · rw [i12, r13]
      by_cases q : j = 0
      · rw [if_pos ⟨rfl, q⟩]; exact Or.inr ⟨p, rfl, hp'⟩
      · rw [if_neg (fun z => q z.2), r13, if_neg (by omega), c13, if_pos rfl]; exact Or.inl rfl
    · rw [i12, r13, if_pos ⟨rfl, by omega⟩]
      exact fun z => by cases z
    · rw [c13, if_neg (by omega)] at he
      exact absurd rfl (hother i hi n he)
    · funext b
      rw [i11, if_neg (fun z => ho z.1)]
      show (o_clr (o_I σ (6 + 8 * k) 2 (σ.1 (6 + 8 * k) 2 + 1)) n).1 o b = σ.1 o b
      rw [c11, if_neg ho2, i11, if_neg (fun z => ho z.1)]
    · funext b
      rw [i12, r13, if_neg (by omega), r13, if_neg (by omega), c13, if_neg (by omega), i12]
    · rw [i11, if_pos ⟨rfl, rfl⟩]
  · have hE : o_E B X ((o_I σ (6 + 8 * k) 2 (σ.1 (6 + 8 * k) 2 + 1)).2.2 (6 + 8 * k) 0) = B + e := by
      show o_E B X (σ.2.2 (6 + 8 * k) 0) = B + e
      rw [g1]; rfl
    have he56 := g2.1
    have hen : e ≠ n := hother k hk e g1
    unfold f_ArrayList_add
    simp only [hE, d_len g2]
    by_cases hf : N k = cap
    · -- it grows
      rw [hf, if_pos (show nI cap = Int32.ofNat cap from rfl)]
      have hcl : cap < 1024 := by omega
      obtain ⟨gr, hgr, hgr1, hgr2⟩ : ∃ gr, (if nI 1 < nI (cap / 2) then nI (cap / 2) else nI 1) = nI gr ∧ 1 ≤ gr ∧ gr ≤ cap / 2 + 1 := by
        by_cases q : 1 < cap / 2
        · exact ⟨cap / 2, by rw [if_pos (nI_lt q (by omega))], by omega, by omega⟩
        · exact ⟨1, by rw [if_neg (nI_nlt (by omega) (by omega))], by omega, by omega⟩
      have hsh : nI cap >>> ((1 : Int32) &&& 31) = nI (cap / 2) := by
        rw [show ((1 : Int32) &&& 31) = 1 from by decide]
        exact pk_shrN (by omega) 1 1 (by decide)
      have hsb : nI (cap + 1) - Int32.ofNat cap = nI 1 := by
        have := pk_sub (a := cap + 1) (b := cap) (by omega)
        rw [show cap + 1 - cap = 1 from by omega] at this
        exact this
      have hnl : ∀ w : zW, f_ArraysSupport_newLength F X (nI cap) (nI 1) (nI (cap / 2)) w = some (.inl (some (.int (nI (cap + gr)))), w) := fun w => by
        unfold f_ArraysSupport_newLength
        rw [hgr, nI_add, if_neg (show ¬ nI (cap + gr) ≤ (0 : Int32) from nI_nle (by omega) (by omega)), if_neg (show ¬ (2147483639 : Int32) < nI (cap + gr) from nI_nlt (a := 2147483639) (b := cap + gr) (by omega) (by decide))]
      unfold f_ArrayList_grow2 f_ArrayList_grow
      simp only [ot_s6 hk, oi_s6_1 hk, eN, hf, nI_1, or_s6_0 hk, hE, d_len g2]
      rw [if_pos (show 0 < Int32.ofNat cap from nI_lt (a := 0) (b := cap) (by omega) (by omega))]
      unfold q_ArrayList_grow_20
      rw [hsb, show Int32.ofNat cap = nI cap from rfl, hsh, hnl]
      have hn' : o_ar (o_kd τ n (.inr (cap + gr))) n (cap + gr) := ⟨n1, by unfold o_kd; rw [if_pos rfl]⟩
      have he' : o_ar (o_kd τ n (.inr (cap + gr))) e cap := ⟨g2.1, by unfold o_kd; rw [if_neg hen]; exact g2.2⟩
      have hp' : ∀ q, o_pk τ q → o_pk (o_kd τ n (.inr (cap + gr))) q := fun q hq => ⟨hq.1, by
        unfold o_kd
        rw [if_neg]
        · exact hq.2
        · rintro rfl
          have h2 := hq.2
          rw [n2 q (Nat.le_refl _)] at h2
          cases h2⟩
      simp only [y_cI, or_s6_0 hk, hE]
      unfold f_Arrays_copyOf2 f_Arrays_copyOf
      rw [d_isAr g2, d_newa n1, nI_clamp (show cap + gr < 2 ^ 31 by omega), if_pos ⟨nI_pos (by omega), by omega, by omega, by omega⟩]
      unfold q_Arrays_copyOf_24
      rw [d_len he', show Int32.ofNat cap = nI cap from rfl, if_neg (nI_nlt (by omega) (by omega))]
      have hel : ∀ i, i < cap → (o_clr (o_I σ (6 + 8 * k) 2 (σ.1 (6 + 8 * k) 2 + 1)) n).2.2 e i = none ∨ ∃ q, (o_clr (o_I σ (6 + 8 * k) 2 (σ.1 (6 + 8 * k) 2 + 1)) n).2.2 e i = some q ∧ o_pk (o_kd τ n (.inr (cap + gr))) q := fun i hi => by
        rw [c13, if_neg hen, i12]
        rcases g6 i hi with z | ⟨q, z1, z2⟩
        · exact Or.inl z
        · exact Or.inr ⟨q, z1, hp' q z2⟩
      rw [d_acp he' hn' (Nat.le_refl cap) (by omega) (by omega) (by omega) hel]
      simp only [y_cRv, opr_s6_0 hk, q_ArrayList_add_11]
      rw [d_stR hn' (hp' p hp), if_pos (nI_in (show cap < cap + gr by omega) (by omega)), nI_clamp (show cap < 2 ^ 31 by omega)]
      simp only [op_s6_1 hk, nI_1, y_cV]
      refine ⟨_, _, _, _, _, rfl, (hJ.ar ⟨n1, n2⟩ (cap + gr)).list hk (e := n) (cap := cap + gr) (by omega) (by omega) (by omega) (by omega) hn' rfl (fun o ho => ?_) (fun o ho ho2 => ?_) ?_ ?_ (fun j hj => ?_) (fun j hj => ?_) (fun i hi hik j hj he => ?_), fresh _, by omega, by omega, hp' p hp, fun o ho ho2 => ?_, rfl, fun o ho ho2 => ?_, ?_⟩
      · funext b
        rw [i11, if_neg (fun z => ho z.1)]
        show (o_clr (o_I σ (6 + 8 * k) 2 (σ.1 (6 + 8 * k) 2 + 1)) n).1 o b = (o_clr σ n).1 o b
        rw [c11, c11, i11, if_neg (show ¬ (o = 6 + 8 * k ∧ b = 2) from fun z => ho z.1)]
      · funext b
        rw [i12, r13, if_neg (fun z => ho2 z.1), r13, if_neg (fun z => ho z.1), p13, if_neg ho2, c13, c13, i12]
      · rw [i11, if_pos ⟨rfl, rfl⟩]
      · rw [i12, r13, if_neg (by omega), r13, if_pos ⟨rfl, rfl⟩]
      · rw [i12, r13]
        by_cases q : j = cap
        · rw [if_pos ⟨rfl, q⟩]; exact Or.inr ⟨p, rfl, hp' p hp⟩
        · rw [if_neg (fun z => q z.2), r13, if_neg (by omega), p13, if_pos rfl]
          split
          · rename_i hjc
            exact hel j hjc
          · rw [c13, if_pos rfl]; exact Or.inl rfl
      · rw [i12, r13]
        by_cases q : j = cap
        · rw [if_pos ⟨rfl, q⟩]; exact fun z => by cases z
        · rw [if_neg (fun z => q z.2), r13, if_neg (by omega), p13, if_pos rfl, if_pos (by omega), c13, if_neg hen, i12]
          exact g7 j (by omega)
      · rw [c13, if_neg (by omega)] at he
        exact absurd rfl (hother i hi n he)
      · funext b
        rw [i11, if_neg (fun z => ho z.1)]
        show (o_clr (o_I σ (6 + 8 * k) 2 (σ.1 (6 + 8 * k) 2 + 1)) n).1 o b = σ.1 o b
        rw [c11, if_neg ho2, i11, if_neg (fun z => ho z.1)]
      · funext b
        rw [i12, r13, if_neg (by omega), r13, if_neg (by omega), p13, if_neg (by omega), c13, if_neg (by omega), i12]
      · rw [i11, if_pos ⟨rfl, rfl⟩]
    · -- there is room
      rw [if_neg (show ¬ nI (N k) = Int32.ofNat cap from fun q => hf ((nI_eq (by omega) (by omega)).mp q))]
      unfold q_ArrayList_add_11
      rw [d_stR g2 hp, if_pos (nI_in (show N k < cap by omega) (by omega)), nI_clamp (show N k < 2 ^ 31 by omega)]
      simp only [op_s6_1 hk, nI_1, y_cV]
      refine ⟨_, _, _, _, _, rfl, hJ.list hk (e := e) (cap := cap) (by omega) (by omega) (by omega) (by omega) g2 rfl (fun o ho => ?_) (fun o ho ho2 => ?_) ?_ ?_ (fun j hj => ?_) (fun j hj => ?_) (fun i hi hik j hj he => ?_), ⟨n1, n2⟩, by omega, by omega, hp, fun o ho ho2 => ?_, rfl, fun o ho ho2 => ?_, ?_⟩
      · funext b
        rw [i11, if_neg (fun z => ho z.1), r11, i11, if_neg (fun z => ho z.1)]
      · funext b
        rw [i12, r13, if_neg (fun z => ho2 z.1), i12]
      · rw [i11, if_pos ⟨rfl, rfl⟩]
      · rw [i12, r13, if_neg (by omega), i12]
        exact g1
      · rw [i12, r13]
        by_cases q : j = N k
        · rw [if_pos ⟨rfl, q⟩]; exact Or.inr ⟨p, rfl, hp⟩
        · rw [if_neg (fun z => q z.2)]; exact g6 j hj
      · rw [i12, r13]
        by_cases q : j = N k
        · rw [if_pos ⟨rfl, q⟩]; exact fun z => by cases z
        · rw [if_neg (fun z => q z.2)]; exact g7 j (by omega)
      · rw [i12, r13]
        by_cases q : j = N k
        · rw [if_pos ⟨rfl, q⟩]; exact fun z => by cases z
        · rw [if_neg (fun z => q z.2)]
          rcases (hJ.1 i hi).2.2 with ⟨z, -⟩ | ⟨e', cp, z1, z2, z3, z4, z5, z6, z7⟩
          · rw [z] at he; cases he
          · rw [z1] at he
            obtain rfl := Option.some.inj he
            exact z7 j hj
      · funext b
        rw [i11, if_neg (fun z => ho z.1), r11, i11, if_neg (fun z => ho z.1)]
      · funext b
        rw [i12, r13, if_neg (by omega), i12]
      · rw [i11, if_pos ⟨rfl, rfl⟩]
end CJ
