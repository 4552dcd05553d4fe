/-! The sending side, alike on both sides. -/
section HA
variable {B X F : Nat} {τ τ1 : zK} {n c s n1 c1 s1 T : Nat} {σ σ1 σ2 : zS} {P : Nat → Nat → Nat} {m : Nat → Nat} {D : Nat → Nat → Nat → Int32} {ft : Nat → Nat → Int32} {q : Nat → Nat → List Nat} {S : Nat → Nat → Int32} {t p : Nat} {a : Nat → Nat → Nat} {W ds ga : Nat → Int32} {L H : Nat → Int64}
def sP (τ : zK) (σ : zS) (P : Nat → Nat → Nat) (m : Nat → Nat) (D : Nat → Nat → Nat → Int32) (ft : Nat → Nat → Int32) (q : Nat → Nat → List Nat) (S : Nat → Nat → Int32) (t : Nat) (W : Nat → Int32) (p : Nat) (L H : Nat → Int64) (ds : Nat → Int32) : Prop := σ.1 0 4 = nI t ∧ (∀ k, k < 3 → cS τ σ k (P k) (m k) (D k) (ft k) (q k) (S k) ∧ σ.1 (2 + 8 * k) 3 = ds k) ∧ (∀ f, f < 5 → σ.1 29 f = W f) ∧ σ.1 26 2 = nI p ∧ ∀ j, j < 64 → σ.2.1 27 j = L j ∧ σ.2.1 28 j = H j
def rP (σ : zS) (m : Nat → Nat) (D : Nat → Nat → Nat → Int32) (ft : Nat → Nat → Int32) (q : Nat → Nat → List Nat) (S : Nat → Nat → Int32) (t : Nat) (W : Nat → Int32) (p : Nat) (L H : Nat → Int64) (ds ga : Nat → Int32) : Prop := σ.1 31 1 = nI t ∧ (∀ k, k < 3 → mS σ k (m k) (D k) (ft k) (q k) (S k 7) (ga k) (ds k)) ∧ (∀ f, f < 5 → σ.1 31 (18 + f) = W f) ∧ σ.1 31 27 = nI p ∧ ∀ j, j < p → σ.2.1 45 j = L j ∧ σ.2.1 46 j = H j
/-- what holds of the numbers -/
def uP (T : Nat) (P : Nat → Nat → Nat) (m : Nat → Nat) (D : Nat → Nat → Nat → Int32) (S : Nat → Nat → Int32) (t : Nat) (a : Nat → Nat → Nat) (W : Nat → Int32) (p : Nat) (L H : Nat → Int64) (ds ga : Nat → Int32) : Prop := (t ≤ T ∧ p ≤ 64 ∧ clS p L H ∧ wB W) ∧ (∀ k, k < 3 → (m k ≤ T ∧ (∀ j, j < m k → D k 2 j = nI (a k j) ∧ a k j ≤ t) ∧ ∀ i j, i ≤ j → j < m k → a k i ≤ a k j) ∧ (S k 6 = -1 ∨ ∃ g, g < m k ∧ S k 6 = nI g) ∧ (S k 7 = -1 ∨ (∃ z, z ≤ 3000 ∧ S k 7 = nI z) ∧ S k 6 ≠ -1 ∧ ds k = 0) ∧ (ds k = 0 → ga k = S k 6) ∧ (ds k = 0 ∨ ds k = 1)) ∧ ∀ k k' i j, k < 3 → k' < 3 → k ≠ k' → i < m k → j < m k' → P k i ≠ P k' j
/-- the reference has its own bit 'filling' -/
def dX (D : Nat → Nat → Int32) (e : Nat → Int32) : Nat → Nat → Int32 := fun f i => if f = 5 then e i else D f i
def kD (T : Nat) (τ : zK) (σ : zS) : Prop := ∃ (P : Nat → Nat → Nat) (m : Nat → Nat) (D : Nat → Nat → Nat → Int32) (ew ft : Nat → Nat → Int32) (q : Nat → Nat → List Nat) (S : Nat → Nat → Int32) (t : Nat) (a : Nat → Nat → Nat) (W : Nat → Int32) (p : Nat) (L H : Nat → Int64) (ds ga : Nat → Int32), sP τ σ P m D ft q S t W p L H ds ∧ rP σ m (fun k => dX (D k) (ew k)) ft q S t W p L H ds ga ∧ uP T P m D S t a W p L H ds ga
theorem uP.up (h : uP T P m D S t a W p L H ds ga) : uP (T + 1) P m D S t a W p L H ds ga := by
  obtain ⟨⟨h1, h2, h3, h4⟩, h5, h6⟩ := h
  exact ⟨⟨by omega, h2, h3, h4⟩, fun k hk => ⟨⟨by have := (h5 k hk).1.1; omega, (h5 k hk).1.2⟩, (h5 k hk).2⟩, h6⟩
/-- the class leaves the reference's part -/
theorem rP.keep (h : rP σ m D ft q S t W p L H ds ga) (hE : ∀ o, 31 ≤ o → o < 47 → (∀ f, ¬ (o = 31 ∧ (f = 0 ∨ f = 2 ∨ f = 3)) → σ1.1 o f = σ.1 o f) ∧ σ1.2.1 o = σ.2.1 o) (hp : p ≤ 64) : rP σ1 m D ft q S t W p L H ds ga := by
  have e : ∀ o f, 31 ≤ o → o < 47 → ¬ (o = 31 ∧ (f = 0 ∨ f = 2 ∨ f = 3)) → σ1.1 o f = σ.1 o f := fun o f h1 h2 h3 => (hE o h1 h2).1 f h3
  obtain ⟨h1, h2, h3, h4, h5⟩ := h
  refine ⟨by rw [e 31 1 (by omega) (by omega) (by omega)]; exact h1, fun k hk => ?_, fun f hf => by rw [e 31 _ (by omega) (by omega) (by omega)]; exact h3 f hf, by rw [e 31 27 (by omega) (by omega) (by omega)]; exact h4, fun j hj => by rw [(hE 45 (by omega) (by omega)).2, (hE 46 (by omega) (by omega)).2]; exact h5 j hj⟩
  obtain ⟨⟨a1, a2, a3⟩, b, d, f1, f2⟩ := h2 k hk
  have g : ∀ o f, 32 ≤ o → o < 47 → σ1.1 o f = σ.1 o f := fun o f h1 h2 => e o f (by omega) h2 (by omega)
  refine ⟨⟨by rw [g 32 _ (by omega) (by omega)]; exact a1, a2, by rw [g 39 _ (by omega) (by omega)]; exact a3⟩, fun i hi => ?_, fun b' hb' => ?_, by rw [g 41 _ (by omega) (by omega)]; exact f1, by rw [g 40 _ (by omega) (by omega)]; exact f2⟩
  · rw [g 33 _ (by omega) (by omega), g 34 _ (by omega) (by omega), g 36 _ (by omega) (by omega), g 37 _ (by omega) (by omega), g 38 _ (by omega) (by omega), g 35 _ (by omega) (by omega)]
    exact b i hi
  · obtain ⟨h', t', ⟨g1, g2⟩, g3, g4, g5⟩ := d b' hb'
    exact ⟨h', t', ⟨by rw [g 44 _ (by omega) (by omega)]; exact g1, by rw [g 43 _ (by omega) (by omega)]; exact g2⟩, g3, g4, fun j x hx => by rw [g 42 _ (by omega) (by omega)]; exact g5 j x hx⟩
theorem rP.xe (h : rP σ m D ft q S t W p L H ds ga) (hE : xE σ σ1) (hp : p ≤ 64) : rP σ1 m D ft q S t W p L H ds ga := h.keep (fun o h1 h2 => ⟨fun f _ => by rw [(hE o h1 (by omega)).1], (hE o h1 (by omega)).2.1⟩) hp
/-- the cells of the class's part -/
def sC (τ : zK) (σ : zS) (τ1 : zK) (σ1 : zS) : Prop := (∀ o, o_pk τ o → o_pk τ1 o ∧ (∀ f, f < 7 → σ1.1 o f = σ.1 o f) ∧ σ1.2.2 o 7 = σ.2.2 o 7) ∧ (∀ o cap, o_ar τ o cap → o_ar τ1 o cap ∧ ∀ j, σ1.2.2 o j = σ.2.2 o j) ∧ (∀ k, k < 3 → σ1.1 (2 + 8 * k) 3 = σ.1 (2 + 8 * k) 3 ∧ (∀ f, 3 ≤ f → f ≤ 7 → σ1.1 (3 + 8 * k) f = σ.1 (3 + 8 * k) f) ∧ (∀ f, f < 2 → σ1.2.2 (4 + 8 * k) f = σ.2.2 (4 + 8 * k) f ∧ σ1.2.2 (5 + 8 * k) f = σ.2.2 (5 + 8 * k) f) ∧ σ1.1 (6 + 8 * k) 1 = σ.1 (6 + 8 * k) 1 ∧ σ1.2.2 (6 + 8 * k) 0 = σ.2.2 (6 + 8 * k) 0) ∧ σ1.1 0 4 = σ.1 0 4 ∧ (∀ f, f < 5 → σ1.1 29 f = σ.1 29 f) ∧ σ1.1 26 2 = σ.1 26 2 ∧ ∀ j, j < 64 → σ1.2.1 27 j = σ.2.1 27 j ∧ σ1.2.1 28 j = σ.2.1 28 j
theorem sP.keep (h : sP τ σ P m D ft q S t W p L H ds) (hC : sC τ σ τ1 σ1) : sP τ1 σ1 P m D ft q S t W p L H ds := by
  obtain ⟨c1, c2, c3, c4, c5, c6, c7⟩ := hC
  obtain ⟨h1, h2, h3, h4, h5⟩ := h
  refine ⟨c4.trans h1, fun k hk => ?_, fun f hf => (c5 f hf).trans (h3 f hf), c6.trans h4, fun j hj => by rw [(c7 j hj).1, (c7 j hj).2]; exact h5 j hj⟩
  obtain ⟨⟨⟨hA, hI, hP⟩, hQ, hSt⟩, hd⟩ := h2 k hk
  obtain ⟨d1, d2, d3, d4, d5⟩ := c3 k hk
  refine ⟨⟨⟨⟨⟨d4.trans hA.1.1, hA.1.2⟩, ?_⟩, hI, fun i hi => ?_⟩, fun b hb => ?_, fun f f1 f2 => (d2 f f1 f2).trans (hSt f f1 f2)⟩, d1.trans hd⟩
  · rcases hA.2 with z | ⟨e, cap, g1, g2, g3, g4, g5⟩
    · exact Or.inl ⟨z.1, d5.trans z.2⟩
    · exact Or.inr ⟨e, cap, d5.trans g1, (c2 e cap g2).1, g3, g4, fun i hi => ((c2 e cap g2).2 i).trans (g5 i hi)⟩
  · obtain ⟨⟨a1, a2⟩, a3, a4, a5⟩ := hP i hi
    obtain ⟨z1, z2, z3⟩ := c1 _ a1
    exact ⟨⟨z1, (z2 0 (by omega)).trans a2⟩, fun f f1 f2 => (z2 f (by omega)).trans (a3 f f1 f2), (z2 6 (by omega)).trans a4, fun w => z3.trans (a5 w)⟩
  · obtain ⟨k1, k2, k3⟩ := hQ b hb
    refine ⟨⟨?_, fun hne => ?_, k1.2.2.cong fun x hx => (c1 _ (hP x (k3 x hx).1).1.1).2.2⟩, k2, k3⟩
    · rcases (by omega : b = 0 ∨ b = 1) with rfl | rfl
      · exact ((d3 0 (by omega)).1).trans k1.1
      · exact ((d3 0 (by omega)).2).trans k1.1
    · rcases (by omega : b = 0 ∨ b = 1) with rfl | rfl
      · exact ((d3 1 (by omega)).1).trans (k1.2.1 hne)
      · exact ((d3 1 (by omega)).2).trans (k1.2.1 hne)
/-- the reference leaves the class's part -/
theorem mX.sc (h : mX σ σ1) : sC τ σ τ σ1 := by
  have g := fun o (ho : o < 31 ∨ 55 ≤ o) => h o ho
  refine ⟨fun o ho => ⟨ho, fun f _ => by rw [(g o (by have := ho.1; omega)).1], by rw [(g o (by have := ho.1; omega)).2.2]⟩, fun o cap ho => ⟨ho, fun j => by rw [(g o (by have := ho.1; omega)).2.2]⟩, fun k hk => ?_, by rw [(g 0 (by omega)).1], fun f _ => by rw [(g 29 (by omega)).1], by rw [(g 26 (by omega)).1], fun j _ => by rw [(g 27 (by omega)).2.1, (g 28 (by omega)).2.1]; exact ⟨rfl, rfl⟩⟩
  rw [(g (2 + 8 * k) (by omega)).1, (g (3 + 8 * k) (by omega)).1, (g (4 + 8 * k) (by omega)).2.2, (g (5 + 8 * k) (by omega)).2.2, (g (6 + 8 * k) (by omega)).1, (g (6 + 8 * k) (by omega)).2.2]
  exact ⟨rfl, fun _ _ _ => rfl, fun _ _ => ⟨rfl, rfl⟩, rfl, rfl⟩
theorem sC.trans {τ2 : zK} (h1 : sC τ σ τ1 σ1) (h2 : sC τ1 σ1 τ2 σ2) : sC τ σ τ2 σ2 := by
  obtain ⟨a1, a2, a3, a4, a5, a6, a7⟩ := h1
  obtain ⟨b1, b2, b3, b4, b5, b6, b7⟩ := h2
  refine ⟨fun o ho => ?_, fun o cap ho => ?_, fun k hk => ?_, b4.trans a4, fun f hf => (b5 f hf).trans (a5 f hf), b6.trans a6, fun j hj => ⟨(b7 j hj).1.trans (a7 j hj).1, (b7 j hj).2.trans (a7 j hj).2⟩⟩
  · obtain ⟨x1, x2, x3⟩ := a1 o ho
    obtain ⟨y1, y2, y3⟩ := b1 o x1
    exact ⟨y1, fun f hf => (y2 f hf).trans (x2 f hf), y3.trans x3⟩
  · obtain ⟨x1, x2⟩ := a2 o cap ho
    obtain ⟨y1, y2⟩ := b2 o cap x1
    exact ⟨y1, fun j => (y2 j).trans (x2 j)⟩
  · obtain ⟨x1, x2, x3, x4, x5⟩ := a3 k hk
    obtain ⟨y1, y2, y3, y4, y5⟩ := b3 k hk
    exact ⟨y1.trans x1, fun f f1 f2 => (y2 f f1 f2).trans (x2 f f1 f2), fun f hf => ⟨(y3 f hf).1.trans (x3 f hf).1, (y3 f hf).2.trans (x3 f hf).2⟩, y4.trans x4, y5.trans x5⟩
/-- a call that leaves both parts -/
theorem kD.keep (h : kD T τ σ) (h1 : sC τ σ τ1 σ1) (h2 : xE σ σ1) (h3 : mX σ1 σ2) (h4 : ∀ o, 31 ≤ o → o < 47 → (∀ f, ¬ (o = 31 ∧ (f = 0 ∨ f = 2 ∨ f = 3)) → σ2.1 o f = σ1.1 o f) ∧ σ2.2.1 o = σ1.2.1 o) : kD (T + 1) τ1 σ2 := by
  obtain ⟨P, m, D, ew, ft, q, S, t, a, W, p, L, H, ds, ga, k1, k2, k3⟩ := h
  exact ⟨P, m, D, ew, ft, q, S, t, a, W, p, L, H, ds, ga, k1.keep (h1.trans h3.sc), (k2.xe h2 k3.1.2.1).keep h4 k3.1.2.1, k3.up⟩
end HA
