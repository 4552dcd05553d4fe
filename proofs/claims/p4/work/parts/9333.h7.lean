/-! acknowledge, both sides: the sending side stays alike, and the answers are. -/
section HI
variable {B X F : Nat} {τ τ1 : zK} {n c s n1 c1 s1 T : Nat} {σ σ1 σ2 σ3 : zS} {P : Nat → Nat → Nat} {m : Nat → Nat} {D : Nat → Nat → Nat → Int32} {ft : Nat → Nat → Int32} {q : Nat → Nat → List Nat} {S : Nat → Nat → Int32} {t p : Nat} {a : Nat → Nat → Nat} {W ds ga : Nat → Int32} {L H : Nat → Int64} {k g g1 : Nat} {x y : Int32}
theorem sC.refl (τ : zK) (σ : zS) : sC τ σ τ σ := ⟨fun _ h => ⟨h, fun _ _ => rfl, rfl⟩, fun _ _ h => ⟨h, fun _ => rfl⟩, fun _ _ => ⟨rfl, fun _ _ _ => rfl, fun _ _ => ⟨rfl, rfl⟩, rfl, rfl⟩, rfl, fun _ _ => rfl, rfl, fun _ _ => ⟨rfl, rfl⟩⟩
theorem sC.out (τ : zK) (σ : zS) (v : Int64) : sC τ σ τ (o_L σ 55 0 v) := ⟨fun _ h => ⟨h, fun _ _ => rfl, rfl⟩, fun _ _ h => ⟨h, fun _ => rfl⟩, fun _ _ => ⟨rfl, fun _ _ _ => rfl, fun _ _ => ⟨rfl, rfl⟩, rfl, rfl⟩, rfl, fun _ _ => rfl, rfl, fun j _ => ⟨l55 v 27 j (by decide), l55 v 28 j (by decide)⟩⟩
/-- the reference's cells that can be seen -/
def rC (σ σ' : zS) : Prop := (∀ f, f < 2 ∨ (18 ≤ f ∧ f < 28) → σ'.1 31 f = σ.1 31 f) ∧ (∀ o, 32 ≤ o → o < 45 → σ'.1 o = σ.1 o) ∧ σ'.2.1 45 = σ.2.1 45 ∧ σ'.2.1 46 = σ.2.1 46
theorem rP.rc (h : rP σ m D ft q S t W p L H ds ga) (hC : rC σ σ1) : rP σ1 m D ft q S t W p L H ds ga := by
  obtain ⟨h1, h2, h3, h4, h5⟩ := h
  obtain ⟨c1, c2, c3, c4⟩ := hC
  have g : ∀ o f, 32 ≤ o → o < 45 → σ1.1 o f = σ.1 o f := fun o f w1 w2 => congrFun (c2 o w1 w2) f
  refine ⟨(c1 1 (by omega)).trans h1, fun k hk => ?_, fun f hf => (c1 _ (by omega)).trans (h3 f hf), (c1 27 (by omega)).trans h4, fun j hj => by rw [c3, c4]; exact h5 j hj⟩
  obtain ⟨⟨a1, a2, a3⟩, b, d, f1, f2⟩ := h2 k hk
  refine ⟨⟨by rw [g 32 _ (by omega) (by omega)]; exact a1, a2, by rw [g 39 _ (by omega) (by omega)]; exact a3⟩, fun i hi => ?_, fun b' hb' => ?_, by rw [g 41 _ (by omega) (by omega)]; exact f1, by rw [g 40 _ (by omega) (by omega)]; exact f2⟩
  · rw [g 33 _ (by omega) (by omega), g 34 _ (by omega) (by omega), g 36 _ (by omega) (by omega), g 37 _ (by omega) (by omega), g 38 _ (by omega) (by omega), g 35 _ (by omega) (by omega)]
    exact b i hi
  · obtain ⟨h', t', ⟨g1, g2⟩, g3, g4, g5⟩ := d b' hb'
    exact ⟨h', t', ⟨by rw [g 44 _ (by omega) (by omega)]; exact g1, by rw [g 43 _ (by omega) (by omega)]; exact g2⟩, g3, g4, fun j x hx => by rw [g 42 _ (by omega) (by omega)]; exact g5 j x hx⟩
theorem kQ.rc (hn : 56 ≤ n) (h : kQ (B + 55) (o_w B X τ σ n c s) (o_w B X τ1 σ1 n1 c1 s1)) : rC σ σ1 := by
  have e := h.pic hn (k := 31) (by decide)
  refine ⟨fun f hf => ?_, fun o h1 h2 => ?_, congrArg f_aL (h.pic hn (k := 45) (by decide)), congrArg f_aL (h.pic hn (k := 46) (by decide))⟩
  · rcases (by omega : f = 0 ∨ f = 1 ∨ f = 18 ∨ f = 19 ∨ f = 20 ∨ f = 21 ∨ f = 22 ∨ f = 23 ∨ f = 24 ∨ f = 25 ∨ f = 26 ∨ f = 27) with rfl | rfl | rfl | rfl | rfl | rfl | rfl | rfl | rfl | rfl | rfl | rfl
    · exact congrArg (f_fI 0) e
    · exact congrArg (f_fI 1) e
    · exact congrArg (f_fI 18) e
    · exact congrArg (f_fI 19) e
    · exact congrArg (f_fI 20) e
    · exact congrArg (f_fI 21) e
    · exact congrArg (f_fI 22) e
    · exact congrArg (f_fI 23) e
    · exact congrArg (f_fI 24) e
    · exact congrArg (f_fI 25) e
    · exact congrArg (f_fI 26) e
    · exact congrArg (f_fI 27) e
  · rcases (by omega : o = 32 ∨ o = 33 ∨ o = 34 ∨ o = 35 ∨ o = 36 ∨ o = 37 ∨ o = 38 ∨ o = 39 ∨ o = 40 ∨ o = 41 ∨ o = 42 ∨ o = 43 ∨ o = 44) with rfl | rfl | rfl | rfl | rfl | rfl | rfl | rfl | rfl | rfl | rfl | rfl | rfl
    · exact congrArg f_aI (h.pic hn (k := 32) (by decide))
    · exact congrArg f_aI (h.pic hn (k := 33) (by decide))
    · exact congrArg f_aI (h.pic hn (k := 34) (by decide))
    · exact congrArg f_aI (h.pic hn (k := 35) (by decide))
    · exact congrArg f_aI (h.pic hn (k := 36) (by decide))
    · exact congrArg f_aI (h.pic hn (k := 37) (by decide))
    · exact congrArg f_aI (h.pic hn (k := 38) (by decide))
    · exact congrArg f_aI (h.pic hn (k := 39) (by decide))
    · exact congrArg f_aI (h.pic hn (k := 40) (by decide))
    · exact congrArg f_aI (h.pic hn (k := 41) (by decide))
    · exact congrArg f_aI (h.pic hn (k := 42) (by decide))
    · exact congrArg f_aI (h.pic hn (k := 43) (by decide))
    · exact congrArg f_aI (h.pic hn (k := 44) (by decide))
theorem x_enr {σE : zS} {o o' : zO} (hn : 56 ≤ n) (e : some (o, o_w B X τ σE n c s) = (some (o', o_w B X τ1 σ1 n1 c1 s1) : zR)) : o = o' ∧ rC σE σ1 := by
  injection e with e
  injection e with e1 e2
  have hk : kQ (B + 55) (o_w B X τ σE n c s) (o_w B X τ1 σ1 n1 c1 s1) := by
    rw [e2]
    exact kQ.refl _
  exact ⟨e1, hk.rc hn⟩
theorem pW.enr {r : zR} {Q : Option Value → zS → Prop} {o : zO} (h : pW B X τ n c s r Q) (hn : 56 ≤ n) (e : r = some (o, o_w B X τ σ2 n c s)) : ∃ v σE, o = .inl v ∧ Q v σE ∧ rC σE σ2 := by
  obtain ⟨v, σE, h1, h2, h3⟩ := h _ _ e
  have e3 : (some (.inl Option.none, o_w B X τ σE n c s) : zR) = some (.inl Option.none, o_w B X τ σ2 n c s) := by rw [h2]
  exact ⟨v, σE, h1, h3, (x_enr hn e3).2⟩
theorem x_okI {r : zR} {Q : Option Value → zS → Prop} {v : Int32} {E : Nat → zW → zR} (hX : X < B) (hn : 56 ≤ n) (hN : ∀ o, n ≤ o → τ o = none) (h : pW B X τ n c s r Q) (e1 : z_tI r (fun v2 w => z_stL w (some (B + 55)) (0 : Int32) v2.toInt64 fun w => some (.inl (some (.int (0 : Int32))), w)) E = some (.inl (some (.int v)), o_w B X τ1 σ1 n1 c1 s1)) : v = 0 ∧ ∃ u σE, Q (some (.int u)) σE ∧ sC τ σE τ1 σ1 ∧ σ1.2.1 55 0 = u.toInt64 := by
  obtain ⟨w1, o1, q1, hz⟩ := z_tI_spec e1
  obtain ⟨v', σE, z1, z2, z3⟩ := h _ _ q1
  subst z2
  rcases hz with ⟨v2, b1, u, b2, b3⟩ | ⟨y, ci, fs, b1, b2, b3⟩
  · have b1 : o1 = .inl v2 := b1
    rw [z1] at b1
    injection b1 with b1
    rw [b1, b2] at z3
    rw [o55] at b3
    obtain ⟨d1, d2, d3⟩ := x_ens hX hn hN b3
    injection d1 with d1
    injection d1 with d1
    injection d1 with d1
    refine ⟨d1.symm, u, σE, z3, (sC.out τ σE _).trans d2, ?_⟩
    rw [d3]
    show (if 55 = 55 ∧ 0 = 0 then u.toInt64 else σE.2.1 55 0) = _
    exact if_pos ⟨rfl, rfl⟩
  · have b1 : o1 = .inr y := b1
    rw [z1] at b1
    cases b1
theorem kD.ack {v v2 : Int32} (h : kD T τ σ) (hX : X < B) (hn : 56 ≤ n) (hn1 : 56 ≤ n1) (hN : ∀ o, n ≤ o → τ o = none) (hT : T < 512) (hE : xE σ σ1) (e1 : f_AckBookLaw_acknowledge F X (some (B + 0)) x y (some (B + 55)) (o_w B X τ σ n c s) = some (.inl (some (.int v)), o_w B X τ1 σ1 n1 c1 s1)) (hX2 : mX σ1 σ2) (e2 : f_AckBookModel_acknowledge F X (some (B + 31)) x y (o_w B X τ1 σ1 n1 c1 s1) = some (.inl (some (.int v2)), o_w B X τ1 σ2 n1 c1 s1)) : kD (T + 1) τ1 σ2 ∧ σ2.1 31 0 = v ∧ (v = 0 → σ2.2.1 55 0 = v2.toInt64) := by
  obtain ⟨P, m, D, ew, ft, q, S, t, a, W, p, L, H, ds, ga, k1, k2, k3⟩ := h
  have hp := k3.1.2.1
  have k2' := k2.xe hE hp
  obtain ⟨k1c, -⟩ := k1.close
  unfold f_AckBookLaw_acknowledge at e1
  rw [ot_0] at e1
  have ref : ∀ u : Int32, u ≠ 0 → v = u → sC τ (sCl σ) τ1 σ1 → (∃ v2 σE, f_AckBookModel_acknowledge F X (some (B + 31)) x y (o_w B X τ1 σ1 n1 c1 s1) = some (.inl (some (.int v2)), o_w B X τ1 σE n1 c1 s1) ∧ rq u σ1 σE) → kD (T + 1) τ1 σ2 ∧ σ2.1 31 0 = v ∧ (v = 0 → σ2.2.1 55 0 = v2.toInt64) := fun u hu0 hvu hC ⟨v3, σE, e3, hq⟩ => by
    rw [e3] at e2
    have hrc := (x_enr hn1 e2).2
    refine ⟨⟨P, m, D, ew, ft, q, S, t, a, W, 0, L, H, ds, ga, k1c.keep (hC.trans hX2.sc), (k2'.rq hq).rc hrc, ?_⟩, (hrc.1 0 (by omega)).trans (hq.2.2.1.trans hvu.symm), fun z => absurd (hvu.symm.trans z) hu0⟩
    obtain ⟨⟨w1, w2, w3, w4⟩, w5⟩ := k3.up
    exact ⟨⟨w1, by omega, ⟨fun j hj => absurd hj (Nat.not_lt_zero _), fun i j _ hj => absurd hj (Nat.not_lt_zero _)⟩, w4⟩, w5⟩
  rcases e_sp x with hx | ⟨k, hk, rfl⟩
  · rw [c_ackB hx] at e1
    obtain ⟨z1, z2⟩ := x_thsI (u := 1) hX hn hN e1 (fun w => rfl)
    exact ref 1 (by decide) z1 z2 (n_ackB hx)
  · by_cases hd : ds k = 0
    · by_cases hok : ¬ y < 0 ∧ y ≤ 100000 ∧ 0 < p ∧ ∃ g, g < m k ∧ H 0 = lN g
      · obtain ⟨y1, y2, hp0, g, hg, hH⟩ := hok
        obtain ⟨g1, hg1, hgg, hA⟩ := c_ackA (B := B) (X := X) (F := F) (n := n) (c := c) (s := s) k1 k3 hk hd y1 y2 hp0 hg hH
        obtain ⟨z1, u, σE, ⟨z2, S', z3, z4, z5⟩, z6, z7⟩ := x_okI hX hn hN hA e1
        have k3' : uP T P m (fun k => dX (D k) (ew k)) S t a W p L H ds ga := k3
        have hB := n_ackA (B := B) (X := X) (F := F) (τ := τ1) (n := n1) (c := c1) (s := s1) k2' k3' (by omega) hk hd y1 y2 hp0 hg hH hg1 hgg
        obtain ⟨v3, σF, w1, ⟨w2, w3, w4⟩, w5⟩ := hB.enr hn1 e2
        refine ⟨⟨P, m, D, ew, _, _, _, t, a, _, 0, L, H, ds, _, z3.keep (z6.trans hX2.sc), (w3 S' z5).rc w5, k3.ack (by omega) hk hd y1 hg hg1 z4 z5⟩, (w5.1 0 (by omega)).trans (w4.trans z1.symm), fun _ => ?_⟩
        rw [(hX2 55 (by omega)).2.1, z7]
        injection w1 with w1
        rw [← w1] at w2
        rw [← z2] at w2
        injection w2 with w2
        injection w2 with w2
        rw [w2]
      · rw [c_ackN k1 hp hk hd hok] at e1
        obtain ⟨z1, z2⟩ := x_thsI (u := 1) hX hn hN e1 (fun w => rfl)
        exact ref 1 (by decide) z1 z2 (n_ackN k2' hp hk hd (fun h0 => by have := k3.1.2.2.1.1 0 h0; omega) hok)
    · have hd1 : ds k = 1 := ((k3.2.1 k hk).2.2.2.2).resolve_left hd
      rw [c_ackD hk (by rw [(k1.2.1 k hk).2]; exact hd)] at e1
      obtain ⟨z1, z2⟩ := x_thsI (u := 2) hX hn hN e1 (fun w => rfl)
      exact ref 2 (by decide) z1 z2 (n_ackD hk ((k2'.2.1 k hk).1.2.2.trans hd1))
end HI
