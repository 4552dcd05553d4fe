/-! acknowledge, both sides, with the flow. -/
section LC
variable {B X F : Nat} {τ τ1 : zK} {n c s n1 c1 s1 T : Nat} {σ σ' σ1 σ2 σ3 : zS} {P : Nat → Nat → Nat} {m : Nat → Nat} {D : Nat → Nat → Nat → Int32} {ft : Nat → Nat → Int32} {q : Nat → Nat → List Nat} {S : Nat → Nat → Int32} {t p : Nat} {a : Nat → Nat → Nat} {W ds ga : Nat → Int32} {L H : Nat → Int64} {k g g1 : Nat} {x y : Int32}
theorem rS3 (f : Nat → Int32) : rS f 3 = f 0 + (f 1 + (f 2 + 0)) := rfl
theorem rS_sb {w : Nat → Int32} {l : List Nat} {f f' : Nat → Int32} (hk : k < 3) (h1 : ∀ j, j < 3 → j ≠ k → f' j = f j) (h2 : f' k = sb w l (f k)) : rS f' 3 = sb w l (rS f 3) := by
  have sw : ∀ u v : Int32, sb w l (u + v) = u + sb w l v := fun u v => by rw [Int32.add_comm u v, sb_add, Int32.add_comm]
  rw [rS3, rS3]
  rcases (by omega : k = 0 ∨ k = 1 ∨ k = 2) with rfl | rfl | rfl
  · rw [h1 1 (by omega) (by omega), h1 2 (by omega) (by omega), h2, sb_add]
  · rw [h1 0 (by omega) (by omega), h1 2 (by omega) (by omega), h2, sw, sb_add]
  · rw [h1 0 (by omega) (by omega), h1 1 (by omega) (by omega), h2, sw, sw, sb_add]
/-- one space's fates change -/
theorem fA_ft {f' : Nat → Int32} {l : List Nat} (hk : k < 3) (hd : ds k = 0) (h : sm (cz (D k)) f' (m k) = sb (cz (D k)) l (sm (cz (D k)) (ft k) (m k))) : fA m D (uk ft k f') ds = sb (cz (D k)) l (fA m D ft ds) := by
  unfold fA
  refine rS_sb hk (fun j hj hne => ?_) ?_
  · show pS (cz (D j)) (uk ft k f' j) (ds j) (m j) = pS (cz (D j)) (ft j) (ds j) (m j)
    rw [uk_ne _ _ hne]
  · show pS (cz (D k)) (uk ft k f' k) (ds k) (m k) = sb (cz (D k)) l (pS (cz (D k)) (ft k) (ds k) (m k))
    unfold pS
    rw [uk_at, if_pos hd, if_pos hd]
    exact h
/-- the window stays a number -/
def wOK (Z : Nat) (x : Int32 × Int32 × Int32) : Prop := (∃ z, 2400 ≤ z ∧ z ≤ Z ∧ x.1 = nI z) ∧ nn x.2.1 ∧ nn x.2.2
theorem wOK.A {D : Nat → Nat → Int32} {Z b u : Nat} {x : Int32 × Int32 × Int32} (h : wOK Z x) (hZ : Z ≤ 1000000000) (hu : D 1 b = nI u) (hu2 : u ≤ 1200) : wOK (Z + 1200) (fwA D x b) := by
  obtain ⟨⟨z, z1, z2, z3⟩, h2, h3⟩ := h
  unfold fwA
  by_cases w : D 4 b ≠ 0 ∧ D 5 b ≠ 0 ∧ (x.2.2 = -1 ∨ x.2.2 < D 2 b)
  · rw [if_pos w]
    refine ⟨?_, h2, h3⟩
    show ∃ y, _ ∧ _ ∧ (if x.2.1 = -1 ∨ x.1 < x.2.1 then x.1 + D 1 b else x.1 + 1200 * D 1 b / x.1) = nI y
    have hd : 1200 * u / z ≤ 1200 := Nat.div_le_of_le_mul (by
      have : 1200 * u ≤ z * 1200 := by rw [Nat.mul_comm z]; exact Nat.mul_le_mul_left _ (by omega)
      exact this)
    have e2 : (1200 : Int32) * nI u / nI z = nI (1200 * u / z) := by
      rw [show (1200 : Int32) * nI u = nI (1200 * u) from pk_mul 1200 u]
      exact pk_div (by omega) (by omega) (by omega)
    rw [z3, hu, e2, nI_add, nI_add]
    by_cases w2 : x.2.1 = -1 ∨ nI z < x.2.1
    · rw [if_pos w2]
      exact ⟨z + u, by omega, by omega, rfl⟩
    · rw [if_neg w2]
      exact ⟨z + 1200 * u / z, Nat.le_trans z1 (Nat.le_add_right _ _), Nat.add_le_add z2 hd, rfl⟩
  · rw [if_neg w]
    exact ⟨⟨z, z1, by omega, z3⟩, h2, h3⟩
theorem wOK.fold {D : Nat → Nat → Int32} : ∀ (l : List Nat) (Z : Nat) (x : Int32 × Int32 × Int32), wOK Z x → Z + 1200 * l.length ≤ 1000000000 → (∀ b, b ∈ l → ∃ u, D 1 b = nI u ∧ u ≤ 1200) → wOK (Z + 1200 * l.length) (l.foldl (fwA D) x)
  | [], _, _, h, _, _ => h
  | b :: l, Z, x, h, hZ, hu => by
    rw [List.length_cons] at hZ ⊢
    obtain ⟨u, u1, u2⟩ := hu b (by simp)
    have := wOK.fold l (Z + 1200) (fwA D x b) (h.A (by omega) u1 u2) (by omega) (fun b hb => hu b (List.mem_cons_of_mem _ hb))
    rw [show Z + 1200 * (l.length + 1) = Z + 1200 + 1200 * l.length by omega]
    exact this
theorem wOK.pos {Z : Nat} {x : Int32 × Int32 × Int32} (h : wOK Z x) (hZ : Z ≤ 1000000000) : ¬ x.1 ≤ 0 ∧ ¬ x.1 = 0 := by
  obtain ⟨⟨z, z1, z2, z3⟩, -⟩ := h
  rw [z3]
  exact ⟨nI_nle (by omega) (by omega), nI_ne0 (by omega) (by omega)⟩
theorem wOK.los {D : Nat → Nat → Int32} {Z : Nat} {now : Int32} {l : List Nat} {x : Int32 × Int32 × Int32} (h : wOK Z x) (hZ : Z ≤ 1000000000) (hZ2 : 2400 ≤ Z) (hn : nn now) : wOK Z (fwL D now l x) := by
  obtain ⟨⟨z, z1, z2, z3⟩, h2, h3⟩ := h
  unfold fwL
  split
  · have e2 : nI z / 2 = nI (z / 2) := pk_div (a := z) (d := 2) (by omega) (by decide) (by decide)
    rw [z3, e2]
    refine ⟨?_, Or.inr (nI_pos (by omega)), hn⟩
    show ∃ y, _ ∧ _ ∧ (if nI (z / 2) < 2400 then 2400 else nI (z / 2)) = nI y
    by_cases w : z / 2 < 2400
    · rw [if_pos (show nI (z / 2) < (2400 : Int32) from nI_lt (b := 2400) w (by decide))]
      exact ⟨2400, Nat.le_refl _, hZ2, rfl⟩
    · rw [if_neg (show ¬ nI (z / 2) < (2400 : Int32) from nI_nlt (a := z / 2) (b := 2400) (by omega) (by omega))]
      exact ⟨z / 2, by omega, by omega, rfl⟩
  · exact ⟨⟨z, z1, z2, z3⟩, h2, h3⟩
theorem wOK.fx {D : Nat → Nat → Int32} {f w : Nat → Int32} {Z : Nat} {now : Int32} {l : List Nat} {x : Int32 × Int32 × Int32} (h : wOK Z x) (hZ : Z ≤ 1000000000) (hZ2 : 2400 ≤ Z) (hn : nn now) : wOK Z (fwX D f w now l x) := by
  have h1 := h.los (D := D) (l := l) hZ hZ2 hn
  unfold fwX fwC
  split
  · exact ⟨⟨2400, Nat.le_refl _, hZ2, rfl⟩, h1.2.1, Or.inl rfl⟩
  · exact h1
/-- what the reference's own bounds give -/
theorem wOK.ofM (hM : mM T σ) (hT : T ≤ 600) (h2 : nn (mq σ).2.1) (h3 : nn (mq σ).2.2) : wOK 3000000 (mq σ) := by
  obtain ⟨m, g, W, hJ, hW, hle⟩ := hM
  obtain ⟨h1, -, h4, -⟩ := hJ
  have a0 := h4.2 0 (by omega)
  have a1 := h4.2 1 (by omega)
  have a2 := h4.2 2 (by omega)
  have b0 := (h1 0 (by omega)).2
  have b1 := (h1 1 (by omega)).2
  have b2 := (h1 2 (by omega)).2
  simp only [Nat.mul_zero, Nat.mul_one, Nat.reduceMul] at a0 a1 a2
  exact ⟨⟨W, hW.2.1, by omega, hW.1⟩, h2, h3⟩
theorem m_size (hM : mM T σ) (h : rP σ m D ft q S t W p L H ds ga) (hm : ∀ k, k < 3 → m k ≤ 4096) (hT : T ≤ 600) (hk : k < 3) {i : Nat} (hi : i < m k) : ∃ u, D k 1 i = nI u ∧ u ≤ 1200 := by
  obtain ⟨m', g, W, hJ, -, -⟩ := hM
  obtain ⟨h1, -, -, -, -, -, h7, -⟩ := hJ
  have e : m' k = m k := by
    have := (h1 k hk).1.symm.trans (h.2.1 k hk).1.1
    exact (nI_eq (by have := (h1 k hk).2; omega) (by have := hm k hk; omega)).mp this
  obtain ⟨z, z1, z2⟩ := h7 k hk i (by omega)
  exact ⟨z, ((h.2.1 k hk).2.1 i hi).1.1.symm.trans z1, z2⟩
/-- the way's variation keeps within bounds -/
theorem wB.vary {W : Nat → Int32} {r d t : Nat} (h : wB W) (hv : ∃ z, z ≤ 6000 ∧ W 1 = nI z) (hr : r ≤ 1000) (hd : d ≤ 25) : ∃ z, z ≤ 6000 ∧ wyT W (nI r) (nI d) (nI t) 1 = nI z := by
  obtain ⟨⟨s, hs, h0⟩, h2, h3, h4⟩ := h
  obtain ⟨v, hv, h1⟩ := hv
  obtain ⟨z, hz, hz2, ez⟩ : ∃ z, z ≤ 1000 ∧ z ≤ r ∧ (if W 3 = -1 then nI r else (if nI r < W 3 then nI r else W 3)) = nI z := by
    rcases h3 with h3 | ⟨z, hz, h3⟩
    · exact ⟨r, hr, Nat.le_refl _, if_pos h3⟩
    · rw [h3, if_neg (nI_nm1 (by omega))]
      by_cases w : r < z
      · exact ⟨r, hr, Nat.le_refl _, if_pos (nI_lt w (by omega))⟩
      · exact ⟨z, hz, by omega, if_neg (nI_nlt (by omega) (by omega))⟩
  obtain ⟨cc, hcc, ec⟩ : ∃ cc, cc ≤ 1000 ∧ (if nI r < nI z + nI d then nI r else nI r - nI d) = nI cc := by
    rw [nI_add]
    by_cases w : r < z + d
    · exact ⟨r, hr, if_pos (nI_lt w (by omega))⟩
    · exact ⟨r - d, by omega, by rw [if_neg (nI_nlt (by omega) (by omega)), pk_sub (by omega)]⟩
  have e8 : nI s / 8 = nI (s / 8) := pk_div (a := s) (d := 8) (by omega) (by decide) (by decide)
  have e4 : nI v / 4 = nI (v / 4) := pk_div (a := v) (d := 4) (by omega) (by decide) (by decide)
  unfold wyT
  simp only [ez, ec]
  show ∃ z, _ ∧ (if W 4 = -1 then 2 * nI r else W 1 + ((if 0 ≤ W 0 / 8 - nI cc then W 0 / 8 - nI cc else 0 - (W 0 / 8 - nI cc)) - W 1 / 4)) = nI z
  by_cases w : W 4 = -1
  · rw [if_pos w]
    exact ⟨2 * r, by omega, pk_mul 2 r⟩
  · rw [if_neg w, h0, e8, h1, e4]
    obtain ⟨df, hdf, ed⟩ : ∃ df, df ≤ 1000 ∧ (if 0 ≤ nI (s / 8) - nI cc then nI (s / 8) - nI cc else 0 - (nI (s / 8) - nI cc)) = nI df := by
      by_cases w2 : cc ≤ s / 8
      · rw [pk_sub w2, if_pos (nI_pos' (by omega))]
        exact ⟨s / 8 - cc, by omega, rfl⟩
      · have e1 : nI (s / 8) - nI cc = -(nI (cc - s / 8)) := by
          rw [← pk_sub (by omega : s / 8 ≤ cc), Int32.neg_sub]
        have e2 : ¬ 0 ≤ nI (s / 8) - nI cc := by
          refine Int32.not_le.mpr (Int32.lt_iff_toInt_lt.mpr ?_)
          rw [pk_sub_toInt (by omega) (by omega), show (0 : Int32).toInt = 0 by decide]
          omega
        rw [if_neg e2, e1, e_ng, Int32.neg_neg]
        exact ⟨cc - s / 8, by omega, rfl⟩
    rw [ed]
    refine ⟨v + df - v / 4, by omega, ?_⟩
    have : nI v + (nI df - nI (v / 4)) = (nI v + nI df) - nI (v / 4) := by
      rw [Int32.sub_eq_add_neg, Int32.sub_eq_add_neg, Int32.add_assoc]
    rw [this, nI_add, pk_sub (by omega)]
theorem wyA_vary {D : Nat → Nat → Int32} {ft : Nat → Int32} {inC : Nat → Bool} {m ag : Nat} (h : wB W) (hv : ∃ z, z ≤ 6000 ∧ W 1 = nI z) (hD : D 2 g = nI ag) (ha : ag ≤ t) (ht : t ≤ 1000) (hy : ¬ y < 0) : ∃ z, z ≤ 6000 ∧ wyA W k D ft inC m g (nI t) y 1 = nI z := by
  unfold wyA
  split
  · rw [hD, pk_sub ha]
    obtain ⟨d, hd, e⟩ : ∃ d, d ≤ 25 ∧ (if k = 2 then (if 25 < y then 25 else y) else 0) = nI d := by
      by_cases k2 : k = 2
      · rw [if_pos k2]
        by_cases w : 25 < y
        · exact ⟨25, Nat.le_refl _, if_pos w⟩
        · have a1 : ¬ (25 : Int32).toInt < y.toInt := fun z => w (Int32.lt_iff_toInt_lt.mpr z)
          have a2 : ¬ y.toInt < (0 : Int32).toInt := fun z => hy (Int32.lt_iff_toInt_lt.mpr z)
          have a3 : (25 : Int32).toInt = 25 := by decide
          have a4 : (0 : Int32).toInt = 0 := by decide
          refine ⟨y.toInt.toNat, by omega, ?_⟩
          rw [if_neg w]
          refine Int32.toInt_inj.mp ?_
          rw [nI_toInt (by omega)]
          omega
      · exact ⟨0, by omega, if_neg k2⟩
    rw [e]
    exact h.vary hv (by omega) hd
  · exact hv
/-- the flow behind an acknowledgement, alike -/
theorem eQ.ack {f' : Nat → Int32} {S' : Nat → Int32} {W' : Nat → Int32} {σE σF : zS} {l : List Nat} (h : eQ T σ σ' m D ft S W ds) (hk : k < 3) (hd : ds k = 0) (hf : ∀ w, sm w f' (m k) = sb w l (sm w (ft k) (m k))) (h4 : S' 4 = sm (ez (D k)) f' (m k)) (h5 : S' 5 = S k 5) (hq : fq σE = mq σF) (h0 : σE.1 30 0 = sb (cz (D k)) l (σ.1 30 0)) (hn : nn (fq σE).2.1 ∧ nn (fq σE).2.2) (e5 : σE.1 0 5 = σF.1 31 23 ∧ ∃ b, b ≤ 10 ∧ σE.1 0 5 = nI b) (e68 : ∀ f, 6 ≤ f → f ≤ 8 → σE.1 0 f = σ.1 0 f) (er : ∀ f, f = 2 ∨ f = 3 ∨ f = 14 → σF.1 31 f = σ'.1 31 f) (hW : ∃ z, z ≤ 6000 ∧ W' 1 = nI z) : eQ (T + 1) σE σF m D (uk ft k f') (uk S k S') W' ds := by
  obtain ⟨⟨a1, a2, a3, a4⟩, ⟨b1, b2, b3, ⟨z, z1, z2⟩, b5, b6⟩, d1, d2⟩ := h
  refine ⟨⟨hq, by rw [h0, a2, fA_ft hk hd (hf _)], hn⟩, ⟨e5.1, e5.2, by rw [e68 6 (by omega) (by omega), er 14 (by omega)]; exact b3, ⟨z, by omega, by rw [e68 6 (by omega) (by omega)]; exact z2⟩, by rw [e68 7 (by omega) (by omega), er 2 (by omega)]; exact b5, by rw [e68 8 (by omega) (by omega), er 3 (by omega)]; exact b6⟩, fun k' hk' => ?_, hW⟩
  by_cases ek : k' = k
  · subst ek
    rw [uk_at, uk_at]
    exact ⟨by unfold pS; rw [if_pos hd]; exact h4, h5.trans (d1 k' hk').2⟩
  · rw [uk_ne _ _ ek, uk_ne _ _ ek]
    exact d1 k' hk'
end LC
