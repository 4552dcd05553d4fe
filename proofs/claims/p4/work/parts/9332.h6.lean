/-! acknowledge, taken, on the reference's side; both sides. -/
section HG
variable {B X F : Nat} {τ τ1 : zK} {n c s n1 c1 s1 T : Nat} {σ σ1 σ2 σ3 : zS} {P : Nat → Nat → Nat} {m : Nat → Nat} {D : Nat → Nat → Nat → Int32} {ft : Nat → Nat → Int32} {q : Nat → Nat → List Nat} {S : Nat → Nat → Int32} {t p : Nat} {a : Nat → Nat → Nat} {W ds ga : Nat → Int32} {L H : Nat → Int64} {k g g1 : Nat} {x y : Int32}
theorem wB.wy {D : Nat → Nat → Int32} {ft : Nat → Int32} {inC : Nat → Bool} {m ag : Nat} (h : wB W) (hD : D 2 g = nI ag) (ha : ag ≤ t) (ht : t ≤ 1000) (hy : ¬ y < 0) : wB (wyA W k D ft inC m g (nI t) y) := by
  unfold wyA
  split
  · rw [hD, pk_sub ha]
    obtain ⟨d, hd, e⟩ : ∃ d, d ≤ 25 ∧ (if k = 2 then (if 25 < y then 25 else y) else 0) = nI d := by
      by_cases k2 : k = 2
      · rw [if_pos k2]
        by_cases w : 25 < y
        · exact ⟨25, Nat.le_refl _, if_pos w⟩
        · have a1 : ¬ (25 : Int32).toInt < y.toInt := fun z => w (Int32.lt_iff_toInt_lt.mpr z)
          have a2 : ¬ y.toInt < (0 : Int32).toInt := fun z => hy (Int32.lt_iff_toInt_lt.mpr z)
          have a3 : (25 : Int32).toInt = 25 := by decide
          have a4 : (0 : Int32).toInt = 0 := by decide
          refine ⟨y.toInt.toNat, by omega, ?_⟩
          rw [if_neg w]
          refine Int32.toInt_inj.mp ?_
          rw [nI_toInt (by omega)]
          omega
      · exact ⟨0, by omega, if_neg k2⟩
    rw [e]
    exact h.take (by omega) hd ht
  · exact h
theorem nU.g40 (v : Int32) : nU k σ (o_I σ 40 k v) := ⟨rfl, fun o f _ _ _ h _ => by rw [i11, if_neg (fun z => h ⟨Or.inl z.1, z.2⟩)]⟩
theorem n_ackA (h : rP σ m D ft q S t W p L H ds ga) (hu : uP T P m D S t a W p L H ds ga) (hT : T ≤ 512) (hk : k < 3) (hd : ds k = 0) (y1 : ¬ y < 0) (y2 : y ≤ 100000) (hp0 : 0 < p) (hg : g < m k) (hH : H 0 = lN g) (hg1 : g1 < m k) (hgg : (if S k 6 < nI g then nI g else S k 6) = nI g1) : pW B X τ n c s (f_AckBookModel_acknowledge F X (some (B + 31)) (nI k) y (o_w B X τ σ n c s)) (fun v σ' => v = some (.int (nI (nw (ft k) (inR p L H) (m k)).length)) ∧ (∀ S', S' 7 = (akR W k (D k) (ft k) (q k) (S k 7) (inR p L H) (m k) g g1 t y).2.2.1 → rP σ' m D (uk ft k (akR W k (D k) (ft k) (q k) (S k 7) (inR p L H) (m k) g g1 t y).1) (uk q k (akR W k (D k) (ft k) (q k) (S k 7) (inR p L H) (m k) g g1 t y).2.1) (uk S k S') t (akR W k (D k) (ft k) (q k) (S k 7) (inR p L H) (m k) g g1 t y).2.2.2 0 L H ds (uk ga k (nI g1))) ∧ σ'.1 31 0 = 0) := by
  obtain ⟨⟨u1, u2, u3, u4⟩, u5, u6⟩ := hu
  obtain ⟨⟨v1, v2, v3⟩, v4, v5, v6, v7⟩ := u5 k hk
  obtain ⟨r1, r2, r3, r4, r5⟩ := h
  have hm := (r2 k hk).1
  have h39 : σ.1 39 k = 0 := hm.2.2.trans hd
  rw [n_ack0]
  obtain ⟨σ2, hz, e⟩ := n_22k (B := B) (X := X) (F := F) (τ := τ) (n := n) (c := c) (s := s) (y := y) (if ¬ y < 0 ∧ ¬ 100000 < y ∧ ¬ σ.1 31 27 = 0 then 0 else 1) hk (Or.inl h39)
  rw [if_pos h39] at e hz
  have w : ¬ y < 0 ∧ ¬ 100000 < y ∧ ¬ σ.1 31 27 = 0 := ⟨y1, Int32.not_lt.mpr y2, by rw [r4]; exact nI_ne0 hp0 (by omega)⟩
  have hlt : σ.2.1 46 0 < (σ.1 32 k).toInt64 := by
    rw [(r5 0 hp0).2, hm.1, nI_l (by omega), hH, Int64.lt_iff_toInt_lt, lN_toInt (by omega), lN_toInt (by omega)]
    omega
  rw [e, if_pos w, if_pos rfl, if_pos hlt]
  simp only [q_AckBookModel_acknowledge_76, ot_31, s_fails 0 1 (Or.inl rfl), y_cI, if_true, op_31_27]
  have hz3 := hz.step (v := 0)
  generalize o_I σ2 31 0 0 = σ3 at hz3
  have e3 : ∀ o f, ¬ (o = 31 ∧ f = 0) → σ3.1 o f = σ.1 o f := hz3.1
  have hS3 : ∀ k', k' < 3 → mS σ3 k' (m k') (D k') (ft k') (q k') (S k' 7) (ga k') (ds k') := fun k' hk' => (r2 k' hk').f31 (fun o f ho => e3 o f (by omega))
  have hSk := hS3 k hk
  rw [hd] at hSk
  have hL0 := u3.1 0 hp0
  have hgR : inR p L H g = true := by
    unfold inR
    refine List.any_eq_true.mpr ⟨0, List.mem_range.mpr hp0, ?_⟩
    have := hL0.2
    rw [hH, lN_toInt (by omega)] at this
    simp only [Bool.and_eq_true, decide_eq_true_eq]
    refine ⟨this, ?_⟩
    rw [hH, lN_toInt (by omega)]
    exact Int.le_refl _
  have hgaS := v6 hd
  have m3 := u4.m3
  have w3 : ∀ f, f < 5 → σ3.1 31 (18 + f) = W f := fun f hf => by rw [e3 _ _ (by omega)]; exact r3 f hf
  have hN := n_takes (B := B) (X := X) (F := F) (τ := τ) (n := n) (c := c) (s := s) hk hg hg1 y hSk (by rw [hgaS]; exact hgg) (⟨u2, by rw [e3 _ _ (by omega)]; exact r4, fun j hj => by rw [hz3.2.1]; exact (r5 j hj).1, fun j hj => by rw [hz3.2.1]; exact (r5 j hj).2⟩ : clM σ3 p L H) (by rw [hz3.2.1, (r5 0 hp0).2]; exact hH) hgR (by rw [w3 3 (by omega)]; exact m3.1) (by rw [w3 4 (by omega)]; exact m3.2)
  have r31 : σ3.1 31 1 = nI t := (e3 _ _ (by omega)).trans r1
  refine pW.cI hN fun v σ4 hq => ?_
  rw [op_31_27]
  refine pW.ret ?_
  have key : ∀ (f' : Nat → Int32) (q' : Nat → List Nat) (l' : Int32) (W' : Nat → Int32), nU k σ3 σ4 → mS σ4 k (m k) (D k) f' q' l' (nI g1) 0 → (∀ f, f < 5 → σ4.1 31 (18 + f) = W' f) → (∀ S' : Nat → Int32, S' 7 = l' → rP (o_I σ4 31 27 0) m D (uk ft k f') (uk q k q') (uk S k S') t W' 0 L H ds (uk ga k (nI g1))) ∧ (o_I σ4 31 27 0).1 31 0 = 0 := fun f' q' l' W' hU hS hw => by
    refine ⟨fun S' h7 => ⟨?_, fun k' hk' => ?_, fun f hf => ?_, by rw [i11, if_pos ⟨rfl, rfl⟩]; rfl, fun j hj => absurd hj (Nat.not_lt_zero _)⟩, ?_⟩
    · rw [i11, if_neg (by omega), hU.2 31 1 (by omega) (by omega) (by omega) (by omega) (by omega)]
      exact r31
    · refine mS.f31 (σ := σ4) ?_ (fun o f ho => by rw [i_fun_ne ho])
      by_cases ek : k' = k
      · subst ek
        rw [uk_at, uk_at, uk_at, uk_at, h7, hd]
        exact hS
      · rw [uk_ne _ _ ek, uk_ne _ _ ek, uk_ne _ _ ek, uk_ne _ _ ek]
        exact (hS3 k' hk').oth hU ek hk hk'
    · rw [i11, if_neg (by omega)]
      exact hw f hf
    · rw [i11, if_neg (by omega), hU.2 31 0 (by omega) (by omega) (by omega) (by omega) (by omega)]
      exact hz3.2.2
  by_cases hn : nw (ft k) (inR p L H) (m k) = []
  · rw [if_pos hn] at hq
    obtain ⟨q1, rfl⟩ := hq
    rw [akR, if_pos hn]
    exact ⟨by rw [hn]; exact q1, key _ _ _ _ (nU.g40 _) (hSk.ga40 hk _) (fun f hf => by rw [i11, if_neg (by omega)]; exact w3 f hf)⟩
  · rw [if_neg hn] at hq
    obtain ⟨q1, hU, hw, -, hS⟩ := hq
    have cg := wyA_cong (k := k) (g := g) (D := D k) (ft := ft k) (inC := inR p L H) (m := m k) (now := nI t) (delay := y) w3
    rw [r31] at hw hS
    rw [cg 0 (by omega), cg 2 (by omega)] at hS
    have hwB := u4.wy (k := k) (ft := ft k) (inC := inR p L H) (m := m k) (y := y) (v2 g hg).1 (v2 g hg).2 (by omega) y1
    obtain ⟨x, hx, ex⟩ : ∃ x, x ≤ 2000 ∧ limV (wyA W k (D k) (ft k) (inR p L H) (m k) g (nI t) y 0) (wyA W k (D k) (ft k) (inR p L H) (m k) g (nI t) y 2) = nI x := by
      obtain ⟨⟨s0, hs0, es0⟩, ⟨l0, hl0, el0⟩, -, -⟩ := hwB
      rw [es0, el0]
      exact limV_nI hs0 hl0
    have hle := (ls_eq (ft := fy (ft k) (inR p L H) (m k)) (d2 := D k 2) (a := a k) (g := g1) (t := t) (x := x) (fun j hj => (v2 j (by omega)).1) (fun i j hij hj => v3 i j hij (by omega)) (fun j hj => (v2 j (by omega)).2) (by omega) hx).1
    rw [ex, hle] at hS
    rw [akR, if_neg hn, ex]
    exact ⟨q1, key _ _ _ _ hU hS (fun f hf => (hw f hf).trans (cg f hf))⟩
/-- the numbers behind it -/
theorem uP.ack {S' : Nat → Int32} (hu : uP T P m D S t a W p L H ds ga) (hT : T ≤ 512) (hk : k < 3) (hd : ds k = 0) (y1 : ¬ y < 0) (hg : g < m k) (hg1 : g1 < m k) (s6 : S' 6 = nI g1) (s7 : S' 7 = (akR W k (D k) (ft k) (q k) (S k 7) (inR p L H) (m k) g g1 t y).2.2.1) : uP (T + 1) P m D (uk S k S') t a (akR W k (D k) (ft k) (q k) (S k 7) (inR p L H) (m k) g g1 t y).2.2.2 0 L H ds (uk ga k (nI g1)) := by
  have hu' := hu.up
  obtain ⟨⟨u1, u2, u3, u4⟩, u5, u6⟩ := hu'
  obtain ⟨⟨v1, v2, v3⟩, v4, v5, v6, v7⟩ := u5 k hk
  have ht : t ≤ 512 := by have := hu.1.1; omega
  have hwB := u4.wy (k := k) (ft := ft k) (inC := inR p L H) (m := m k) (y := y) (v2 g hg).1 (v2 g hg).2 (by omega) y1
  refine ⟨⟨u1, by omega, ⟨fun j hj => absurd hj (Nat.not_lt_zero _), fun i j _ hj => absurd hj (Nat.not_lt_zero _)⟩, ?_⟩, fun k' hk' => ?_, u6⟩
  · rw [akR]
    split
    · exact u4
    · exact hwB
  · by_cases ek : k' = k
    · subst ek
      rw [uk_at, uk_at, s6, s7]
      refine ⟨⟨v1, v2, v3⟩, Or.inr ⟨g1, hg1, rfl⟩, ?_, fun _ => rfl, v7⟩
      have hne : nI g1 ≠ -1 := nI_nm1 (by omega)
      rw [akR]
      split
      · rcases v5 with z | ⟨z, -, z3⟩
        · exact Or.inl z
        · exact Or.inr ⟨z, hne, z3⟩
      · obtain ⟨x, hx, ex⟩ : ∃ x, x ≤ 2000 ∧ limV (wyA W k' (D k') (ft k') (inR p L H) (m k') g (nI t) y 0) (wyA W k' (D k') (ft k') (inR p L H) (m k') g (nI t) y 2) = nI x := by
          obtain ⟨⟨s0, hs0, es0⟩, ⟨l0, hl0, el0⟩, -, -⟩ := hwB
          rw [es0, el0]
          exact limV_nI hs0 hl0
        have hle := (ls_eq (ft := fy (ft k') (inR p L H) (m k')) (d2 := D k' 2) (a := a k') (g := g1) (t := t) (x := x) (fun j hj => (v2 j (by omega)).1) (fun i j hij hj => v3 i j hij (by omega)) (fun j hj => (v2 j (by omega)).2) (by omega) hx).2
        rw [ex]
        rcases hle with z | ⟨z, z1, z2⟩
        · exact Or.inl z
        · exact Or.inr ⟨⟨z, z2, z1⟩, hne, hd⟩
    · rw [uk_ne _ _ ek, uk_ne _ _ ek]
      exact u5 k' hk'
end HG
