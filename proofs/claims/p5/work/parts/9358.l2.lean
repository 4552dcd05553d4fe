/-! acknowledge, with the flow. -/
section LB
variable {B X F : Nat} {τ τ1 : zK} {n c s n1 c1 s1 T : Nat} {σ σ' σ1 σ2 σ3 : zS} {P : Nat → Nat → Nat} {m : Nat → Nat} {D : Nat → Nat → Nat → Int32} {ft : Nat → Nat → Int32} {q : Nat → Nat → List Nat} {S : Nat → Nat → Int32} {t p : Nat} {a : Nat → Nat → Nat} {W ds ga : Nat → Int32} {L H : Nat → Int64} {k g g1 : Nat} {x y : Int32}
/-- the newly lost ones behind an acknowledgement -/
def akL (W : Nat → Int32) (k : Nat) (D : Nat → Nat → Int32) (ft : Nat → Int32) (inC : Nat → Bool) (m g g1 t : Nat) (y : Int32) : (Nat → Int32) × List Nat × Int32 := lsR (D 2) g1 (nI t) (limV (wyA W k D ft inC m g (nI t) y 0) (wyA W k D ft inC m g (nI t) y 2)) (fy ft inC m)
/-- the window, threshold, recovery behind it; what is in flight -/
def akF (W : Nat → Int32) (k : Nat) (D : Nat → Nat → Int32) (ft : Nat → Int32) (inC : Nat → Bool) (m g g1 t : Nat) (y : Int32) (x : Int32 × Int32 × Int32) : Int32 × Int32 × Int32 := if nw ft inC m = [] then x else fwX D (akL W k D ft inC m g g1 t y).1 (wyA W k D ft inC m g (nI t) y) (nI t) (akL W k D ft inC m g g1 t y).2.1 ((nw ft inC m).foldl (fwA D) x)
def akI (W : Nat → Int32) (k : Nat) (D : Nat → Nat → Int32) (ft : Nat → Int32) (inC : Nat → Bool) (m g g1 t : Nat) (y v : Int32) : Int32 := if nw ft inC m = [] then v else sb (cz D) (akL W k D ft inC m g g1 t y).2.1 (sb (cz D) (nw ft inC m) v)
theorem c_ackAX (h : sP τ σ P m D ft q S t W p L H ds) (hu : uP T P m D S t a W p L H ds ga) (hk : k < 3) (hd : ds k = 0) (y1 : ¬ y < 0) (y2 : y ≤ 100000) (hp0 : 0 < p) (hg : g < m k) (hH : H 0 = lN g) (h4 : S k 4 = sm (ez (D k)) (ft k) (m k)) (hw : ∀ l1 l2, nw (ft k) (inR p L H) (m k) = l1 ++ l2 → ¬ (l1.foldl (fwA (D k)) (fq σ)).1 ≤ 0) : ∃ g1, g1 < m k ∧ (if S k 6 < nI g then nI g else S k 6) = nI g1 ∧ pW B X τ n c s (f_AckBook_acknowledge F X (some (B + 0)) (nI k) y (o_w B X τ σ n c s)) (fun v σ' => v = some (.int (nI (nw (ft k) (inR p L H) (m k)).length)) ∧ ∃ S', sP τ σ' P m D (uk ft k (akR W k (D k) (ft k) (q k) (S k 7) (inR p L H) (m k) g g1 t y).1) (uk q k (akR W k (D k) (ft k) (q k) (S k 7) (inR p L H) (m k) g g1 t y).2.1) (uk S k S') t (akR W k (D k) (ft k) (q k) (S k 7) (inR p L H) (m k) g g1 t y).2.2.2 0 L H ds ∧ S' 6 = nI g1 ∧ S' 7 = (akR W k (D k) (ft k) (q k) (S k 7) (inR p L H) (m k) g g1 t y).2.2.1 ∧ S' 4 = sm (ez (D k)) (akR W k (D k) (ft k) (q k) (S k 7) (inR p L H) (m k) g g1 t y).1 (m k) ∧ S' 5 = S k 5 ∧ fq σ' = akF W k (D k) (ft k) (inR p L H) (m k) g g1 t y (fq σ) ∧ σ'.1 30 0 = akI W k (D k) (ft k) (inR p L H) (m k) g g1 t y (σ.1 30 0) ∧ σ'.1 0 5 = (if nw (ft k) (inR p L H) (m k) = [] then σ.1 0 5 else 0) ∧ ∀ f, 6 ≤ f → f ≤ 8 → σ'.1 0 f = σ.1 0 f) := by
  obtain ⟨⟨u1, u2, u3, u4⟩, u5, u6⟩ := hu
  obtain ⟨h', h3⟩ := h.close
  have zq : fq (sCl σ) = fq σ := by
    unfold fq
    rw [sCl.ne (by omega)]
  obtain ⟨b1, b2, b3, b4, b5⟩ := h'
  obtain ⟨g1, hg1, hgg, hW⟩ := d_settleX (B := B) (X := X) (F := F) (τ := τ) (n := n) (c := c) (s := s) hk (b2 k hk).1 (u5 k hk).2.1 hg u2 h3 (fun j hj => (b5 j hj).1) (fun j hj => (b5 j hj).2) u3 y h4 (by rw [zq]; exact hw)
  refine ⟨g1, hg1, hgg, ?_⟩
  rw [c_ack0]
  simp only [c_known hk, y_cRs, f_AckBook_refuseDiscarded, oi_s2_3 hk]
  rw [if_pos ((b2 k hk).2.trans hd)]
  simp only [y_cV, or_s2_1 hk, or_0_1, ot_26, c_great u2 h3, y_cL, ot_s3 hk]
  rw [if_neg y1, if_pos y2, if_neg (by omega : ¬ p = 0), (b5 0 (by omega)).2, hH]
  simp only [d_packet (b2 k hk).1.1.1 (b2 k hk).1.1.2.2 hk hg, y_cRs, reduceCtorEq, if_false, ot_0]
  refine pW.cI hW fun v σ' hq => pW.ret ?_
  have hpk : ∀ i, i < m k → o_pk τ (P k i) := fun i hi => ((b2 k hk).1.1.2.2 i hi).1.1
  have h56 : ∀ i, i < m k → 56 ≤ P k i := fun i hi => (hpk i hi).1
  have key : ∀ (f' : Nat → Int32) (q' : Nat → List Nat) (S' : Nat → Int32) (W' : Nat → Int32), cU k (P k) (m k) (sCl σ) σ' → cS τ σ' k (P k) (m k) (D k) f' q' S' → (∀ f, f < 5 → σ'.1 29 f = W' f) → sP τ σ' P m D (uk ft k f') (uk q k q') (uk S k S') t W' 0 L H ds := fun f' q' S' W' hU hS hw => by
    refine ⟨((hU.2 0 (by omega) (by omega) (by omega) (by omega) (by omega) (fun i hi => by have := h56 i hi; omega)).2 4 (by omega)).trans b1, fun k' hk' => ⟨?_, ((hU.2 (2 + 8 * k') (by omega) (by omega) (by omega) (by omega) (by omega) (fun i hi => by have := h56 i hi; omega)).2 3 (by omega)).trans (b2 k' hk').2⟩, hw, ((hU.2 26 (by omega) (by omega) (by omega) (by omega) (by omega) (fun i hi => by have := h56 i hi; omega)).2 2 (by omega)).trans b4, fun j hj => by rw [hU.1]; exact b5 j hj⟩
    by_cases e : k' = k
    · subst e
      rw [uk_at, uk_at, uk_at]
      exact hS
    · rw [uk_ne _ _ e, uk_ne _ _ e, uk_ne _ _ e]
      exact (b2 k' hk').1.oth hpk hU hk hk' e (fun i j hi hj => u6 k' k i j hk' hk e hi hj)
  have z68 : cU k (P k) (m k) (sCl σ) σ' → ∀ f, 6 ≤ f → f ≤ 8 → σ'.1 0 f = σ.1 0 f := fun hU f f1 f2 => by
    rw [(hU.2 0 (by omega) (by omega) (by omega) (by omega) (by omega) (fun i hi => by have := h56 i hi; omega)).2 f (by omega), sCl.ne (by omega)]
  by_cases hn : nw (ft k) (inR p L H) (m k) = []
  · rw [if_pos hn] at hq
    obtain ⟨v1, hU, hw, ⟨e5, eq, ei⟩, S', hS, s4, s5, s6, s7⟩ := hq
    rw [nw_nil _ hn] at hS s4
    rw [akR, if_pos hn, akF, if_pos hn, akI, if_pos hn, if_pos hn]
    refine ⟨by rw [hn]; exact v1, S', key _ _ _ _ hU ?_ (fun f hf => (hw f hf).trans (b3 f hf)), s6, s7, s4, s5, eq.trans zq, ei.trans (by rw [sCl.ne (by omega)]), e5.trans (by rw [sCl.ne (by omega)]), z68 hU⟩
    refine ⟨hS.1, fun b hb => ?_, hS.2.2⟩
    have := hS.2.1 b hb
    rw [hn, List.append_nil] at this
    rcases (by omega : b = 0 ∨ b = 1) with rfl | rfl
    · exact this
    · exact this
  · rw [if_neg hn] at hq
    obtain ⟨v1, hU, hw, ⟨e5, eq, ei⟩, S', hS, s4, s5, s6, s7⟩ := hq
    rw [b1] at hw hS s7 s4 eq ei
    have cg := wyA_cong (k := k) (g := g) (D := D k) (ft := ft k) (inC := inR p L H) (m := m k) (now := nI t) (delay := y) b3
    rw [cg 0 (by omega), cg 2 (by omega)] at hS s7 s4 eq ei
    rw [fwX_W cg, zq] at eq
    rw [akR, if_neg hn, akF, if_neg hn, akI, if_neg hn, if_neg hn]
    refine ⟨v1, S', key _ _ _ _ hU hS (fun f hf => (hw f hf).trans (cg f hf)), s6, s7, s4, s5, eq, ei.trans (by rw [sCl.ne (by omega)]; rfl), e5, z68 hU⟩
theorem n_ackAX (h : rP σ m D ft q S t W p L H ds ga) (hu : uP T P m D S t a W p L H ds ga) (hT : T ≤ 512) (hk : k < 3) (hd : ds k = 0) (y1 : ¬ y < 0) (y2 : y ≤ 100000) (hp0 : 0 < p) (hg : g < m k) (hH : H 0 = lN g) (hg1 : g1 < m k) (hgg : (if S k 6 < nI g then nI g else S k 6) = nI g1) (hr : nn (mq σ).2.2) (ht : nn (mq σ).2.1) (hw : ∀ l1 l2, nw (ft k) (inR p L H) (m k) = l1 ++ l2 → ¬ (l1.foldl (fwA (D k)) (mq σ)).1 = 0) : pW B X τ n c s (f_AckBookModel_acknowledge F X (some (B + 31)) (nI k) y (o_w B X τ σ n c s)) (fun v σ' => v = some (.int (nI (nw (ft k) (inR p L H) (m k)).length)) ∧ (∀ S', S' 7 = (akR W k (D k) (ft k) (q k) (S k 7) (inR p L H) (m k) g g1 t y).2.2.1 → rP σ' m D (uk ft k (akR W k (D k) (ft k) (q k) (S k 7) (inR p L H) (m k) g g1 t y).1) (uk q k (akR W k (D k) (ft k) (q k) (S k 7) (inR p L H) (m k) g g1 t y).2.1) (uk S k S') t (akR W k (D k) (ft k) (q k) (S k 7) (inR p L H) (m k) g g1 t y).2.2.2 0 L H ds (uk ga k (nI g1))) ∧ σ'.1 31 0 = 0 ∧ mq σ' = akF W k (D k) (ft k) (inR p L H) (m k) g g1 t y (mq σ) ∧ σ'.1 31 23 = (if nw (ft k) (inR p L H) (m k) = [] then σ.1 31 23 else 0) ∧ ∀ f, f = 2 ∨ f = 3 ∨ f = 14 → σ'.1 31 f = σ.1 31 f) := by
  obtain ⟨⟨u1, u2, u3, u4⟩, u5, u6⟩ := hu
  obtain ⟨⟨v1, v2, v3⟩, v4, v5, v6, v7⟩ := u5 k hk
  obtain ⟨r1, r2, r3, r4, r5⟩ := h
  have hm := (r2 k hk).1
  have h39 : σ.1 39 k = 0 := hm.2.2.trans hd
  rw [n_ack0]
  obtain ⟨σ2, hz, e⟩ := n_22k (B := B) (X := X) (F := F) (τ := τ) (n := n) (c := c) (s := s) (y := y) (if ¬ y < 0 ∧ ¬ 100000 < y ∧ ¬ σ.1 31 27 = 0 then 0 else 1) hk (Or.inl h39)
  rw [if_pos h39] at e hz
  have w : ¬ y < 0 ∧ ¬ 100000 < y ∧ ¬ σ.1 31 27 = 0 := ⟨y1, Int32.not_lt.mpr y2, by rw [r4]; exact nI_ne0 hp0 (by omega)⟩
  have hlt : σ.2.1 46 0 < (σ.1 32 k).toInt64 := by
    rw [(r5 0 hp0).2, hm.1, nI_l (by omega), hH, Int64.lt_iff_toInt_lt, lN_toInt (by omega), lN_toInt (by omega)]
    omega
  rw [e, if_pos w, if_pos rfl, if_pos hlt]
  simp only [q_AckBookModel_acknowledge_76, ot_31, s_fails 0 1 (Or.inl rfl), y_cI, if_true, op_31_27]
  have hz3 := hz.step (v := 0)
  generalize o_I σ2 31 0 0 = σ3 at hz3
  have e3 : ∀ o f, ¬ (o = 31 ∧ f = 0) → σ3.1 o f = σ.1 o f := hz3.1
  have hS3 : ∀ k', k' < 3 → mS σ3 k' (m k') (D k') (ft k') (q k') (S k' 7) (ga k') (ds k') := fun k' hk' => (r2 k' hk').f31 (fun o f ho => e3 o f (by omega))
  have hSk := hS3 k hk
  rw [hd] at hSk
  have hL0 := u3.1 0 hp0
  have hgR : inR p L H g = true := by
    unfold inR
    refine List.any_eq_true.mpr ⟨0, List.mem_range.mpr hp0, ?_⟩
    have := hL0.2
    rw [hH, lN_toInt (by omega)] at this
    simp only [Bool.and_eq_true, decide_eq_true_eq]
    refine ⟨this, ?_⟩
    rw [hH, lN_toInt (by omega)]
    exact Int.le_refl _
  have hgaS := v6 hd
  have m3 := u4.m3
  have w3 : ∀ f, f < 5 → σ3.1 31 (18 + f) = W f := fun f hf => by rw [e3 _ _ (by omega)]; exact r3 f hf
  have q3 : mq σ3 = mq σ := by
    unfold mq
    rw [e3 31 24 (by omega), e3 31 25 (by omega), e3 31 26 (by omega)]
  have hN := n_takesX (B := B) (X := X) (F := F) (τ := τ) (n := n) (c := c) (s := s) hk hg hg1 y hSk (by rw [hgaS]; exact hgg) (⟨u2, by rw [e3 _ _ (by omega)]; exact r4, fun j hj => by rw [hz3.2.1]; exact (r5 j hj).1, fun j hj => by rw [hz3.2.1]; exact (r5 j hj).2⟩ : clM σ3 p L H) (by rw [hz3.2.1, (r5 0 hp0).2]; exact hH) hgR (by rw [w3 3 (by omega)]; exact m3.1) (by rw [w3 4 (by omega)]; exact m3.2) (by rw [e3 31 1 (by omega), r1]; exact Or.inr (nI_pos (by omega))) (by rw [q3]; exact hr) (by rw [q3]; exact ht) (by rw [q3]; exact hw)
  have r31 : σ3.1 31 1 = nI t := (e3 _ _ (by omega)).trans r1
  refine pW.cI hN fun v σ4 hq => ?_
  rw [op_31_27]
  refine pW.ret ?_
  have key : ∀ (f' : Nat → Int32) (q' : Nat → List Nat) (l' : Int32) (W' : Nat → Int32), nU k σ3 σ4 → mS σ4 k (m k) (D k) f' q' l' (nI g1) 0 → (∀ f, f < 5 → σ4.1 31 (18 + f) = W' f) → (∀ S' : Nat → Int32, S' 7 = l' → rP (o_I σ4 31 27 0) m D (uk ft k f') (uk q k q') (uk S k S') t W' 0 L H ds (uk ga k (nI g1))) ∧ (o_I σ4 31 27 0).1 31 0 = 0 ∧ ∀ f, f = 2 ∨ f = 3 ∨ f = 14 → (o_I σ4 31 27 0).1 31 f = σ.1 31 f := fun f' q' l' W' hU hS hw => by
    refine ⟨fun S' h7 => ⟨?_, fun k' hk' => ?_, fun f hf => ?_, by rw [i11, if_pos ⟨rfl, rfl⟩]; rfl, fun j hj => absurd hj (Nat.not_lt_zero _)⟩, ?_, fun f hf => by rw [i11, if_neg (by omega), hU.2 31 f (by omega) (by omega) (by omega) (by omega) (by omega), e3 31 f (by omega)]⟩
    · rw [i11, if_neg (by omega), hU.2 31 1 (by omega) (by omega) (by omega) (by omega) (by omega)]
      exact r31
    · refine mS.f31 (σ := σ4) ?_ (fun o f ho => by rw [i_fun_ne ho])
      by_cases ek : k' = k
      · subst ek
        rw [uk_at, uk_at, uk_at, uk_at, h7, hd]
        exact hS
      · rw [uk_ne _ _ ek, uk_ne _ _ ek, uk_ne _ _ ek, uk_ne _ _ ek]
        exact (hS3 k' hk').oth hU ek hk hk'
    · rw [i11, if_neg (by omega)]
      exact hw f hf
    · rw [i11, if_neg (by omega), hU.2 31 0 (by omega) (by omega) (by omega) (by omega) (by omega)]
      exact hz3.2.2
  have q27 : mq (o_I σ4 31 27 0) = mq σ4 := by
    unfold mq
    rw [i11, if_neg (by omega), i11, if_neg (by omega), i11, if_neg (by omega)]
  have e27 : (o_I σ4 31 27 0).1 31 23 = σ4.1 31 23 := by rw [i11, if_neg (by omega)]
  by_cases hn : nw (ft k) (inR p L H) (m k) = []
  · rw [if_pos hn] at hq
    obtain ⟨q1, rfl⟩ := hq
    rw [akR, if_pos hn]
    obtain ⟨y3, y4, y5⟩ := key _ _ _ W (nU.g40 _) (hSk.ga40 hk _) (fun f hf => by rw [i11, if_neg (by omega)]; exact w3 f hf)
    refine ⟨by rw [hn]; exact q1, y3, y4, ?_, ?_, y5⟩
    · rw [q27, akF, if_pos hn, ← q3]
      unfold mq
      rw [i11, if_neg (by omega), i11, if_neg (by omega), i11, if_neg (by omega)]
    · rw [e27, if_pos hn, i11, if_neg (by omega), e3 31 23 (by omega)]
  · rw [if_neg hn] at hq
    obtain ⟨q1, hU, hw, ⟨q23, qq⟩, hS⟩ := hq
    have cg := wyA_cong (k := k) (g := g) (D := D k) (ft := ft k) (inC := inR p L H) (m := m k) (now := nI t) (delay := y) w3
    rw [r31] at hw hS qq
    rw [cg 0 (by omega), cg 2 (by omega)] at hS qq
    rw [fwX_W cg, q3] at qq
    have hwB := u4.wy (k := k) (ft := ft k) (inC := inR p L H) (m := m k) (y := y) (v2 g hg).1 (v2 g hg).2 (by omega) y1
    obtain ⟨x, hx, ex⟩ : ∃ x, x ≤ 2000 ∧ limV (wyA W k (D k) (ft k) (inR p L H) (m k) g (nI t) y 0) (wyA W k (D k) (ft k) (inR p L H) (m k) g (nI t) y 2) = nI x := by
      obtain ⟨⟨s0, hs0, es0⟩, ⟨l0, hl0, el0⟩, -, -⟩ := hwB
      rw [es0, el0]
      exact limV_nI hs0 hl0
    have hle := (ls_eq (ft := fy (ft k) (inR p L H) (m k)) (d2 := D k 2) (a := a k) (g := g1) (t := t) (x := x) (fun j hj => (v2 j (by omega)).1) (fun i j hij hj => v3 i j hij (by omega)) (fun j hj => (v2 j (by omega)).2) (by omega) hx).1
    rw [ex, hle] at hS qq
    rw [akR, if_neg hn, akF, if_neg hn, akL, ex]
    obtain ⟨y3, y4, y5⟩ := key _ _ _ _ hU hS (fun f hf => (hw f hf).trans (cg f hf))
    exact ⟨q1, y3, y4, q27.trans qq, by rw [e27, if_neg hn]; exact q23, y5⟩
end LB
