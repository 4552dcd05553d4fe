/-! All of the sending side alike: the flow, and what probes go by, too. -/
section LA
variable {B X F : Nat} {τ τ1 : zK} {n c s n1 c1 s1 T T' : Nat} {σ σ' σ1 σ2 σ3 : zS} {P : Nat → Nat → Nat} {m : Nat → Nat} {D : Nat → Nat → Nat → Int32} {ft : Nat → Nat → Int32} {q : Nat → Nat → List Nat} {S : Nat → Nat → Int32} {t p : Nat} {a : Nat → Nat → Nat} {W ds ga : Nat → Int32} {L H : Nat → Int64} {k b : Nat} {x y z : Int32} {l h : Int64}
/-- the class's cells of σ, the reference's of σ' -/
def eQ (T : Nat) (σ σ' : zS) (m : Nat → Nat) (D : Nat → Nat → Nat → Int32) (ft : Nat → Nat → Int32) (S : Nat → Nat → Int32) (W ds : Nat → Int32) : Prop := (fq σ = mq σ' ∧ σ.1 30 0 = fA m D ft ds ∧ nn (fq σ).2.1 ∧ nn (fq σ).2.2) ∧ (σ.1 0 5 = σ'.1 31 23 ∧ (∃ b, b ≤ 10 ∧ σ.1 0 5 = nI b) ∧ σ.1 0 6 = σ'.1 31 14 ∧ (∃ z, z ≤ T ∧ σ.1 0 6 = nI z) ∧ σ.1 0 7 = σ'.1 31 2 ∧ σ.1 0 8 = σ'.1 31 3) ∧ (∀ k, k < 3 → S k 4 = pS (ez (D k)) (ft k) (ds k) (m k) ∧ S k 5 = la (D k) (m k)) ∧ ∃ z, z ≤ 6000 ∧ W 1 = nI z
def kE (T : Nat) (τ : zK) (σ : zS) : Prop := ∃ (P : Nat → Nat → Nat) (m : Nat → Nat) (D : Nat → Nat → Nat → Int32) (ft : Nat → Nat → Int32) (q : Nat → Nat → List Nat) (S : Nat → Nat → Int32) (t : Nat) (a : Nat → Nat → Nat) (W : Nat → Int32) (p : Nat) (L H : Nat → Int64) (ds ga : Nat → Int32), sP τ σ P m D ft q S t W p L H ds ∧ rP σ m D ft q S t W p L H ds ga ∧ uP T P m D S t a W p L H ds ga ∧ eQ T σ σ m D ft S W ds
theorem fq.cong (h : ∀ f, f < 4 → σ1.1 30 f = σ.1 30 f) : fq σ1 = fq σ := by
  unfold fq
  rw [h 1 (by omega), h 2 (by omega), h 3 (by omega)]
theorem mq.cong (h : rD σ σ1) : mq σ1 = mq σ := by
  unfold mq
  rw [h 24 (by omega), h 25 (by omega), h 26 (by omega)]
theorem eQ.to {σa σb : zS} (h : eQ T σ σ' m D ft S W ds) (hT : T ≤ T') (h1 : cFB σ σa) (h2 : rD σ' σb) : eQ T' σa σb m D ft S W ds := by
  obtain ⟨⟨a1, a2, a3, a4⟩, ⟨b1, b2, b3, ⟨z, z1, z2⟩, b5, b6⟩, c1, c2⟩ := h
  have q1 := fq.cong h1.1
  have q2 := mq.cong h2
  exact ⟨⟨by rw [q1, q2]; exact a1, by rw [h1.1 0 (by omega)]; exact a2, by rw [q1]; exact a3, by rw [q1]; exact a4⟩, ⟨by rw [h1.2 5 (by omega) (by omega), h2 23 (by omega)]; exact b1, by rw [h1.2 5 (by omega) (by omega)]; exact b2, by rw [h1.2 6 (by omega) (by omega), h2 14 (by omega)]; exact b3, ⟨z, by omega, by rw [h1.2 6 (by omega) (by omega)]; exact z2⟩, by rw [h1.2 7 (by omega) (by omega), h2 2 (by omega)]; exact b5, by rw [h1.2 8 (by omega) (by omega), h2 3 (by omega)]; exact b6⟩, c1, c2⟩
theorem cFB.refl (σ : zS) : cFB σ σ := ⟨fun _ _ => rfl, fun _ _ _ => rfl⟩
theorem rD.refl (σ : zS) : rD σ σ := fun _ _ => rfl
theorem kE.up (h : kE T τ σ) : kE (T + 1) τ σ := by
  obtain ⟨P, m, D, ft, q, S, t, a, W, p, L, H, ds, ga, k1, k2, k3, k4⟩ := h
  exact ⟨P, m, D, ft, q, S, t, a, W, p, L, H, ds, ga, k1, k2, k3.up, k4.to (by omega) (cFB.refl _) (rD.refl _)⟩
/-- a call that leaves it all -/
theorem kE.fin {r2 : zR} {o2 : zO} (h : kE T τ σ) (hC : sW2 τ σ τ1 σ1) (hE : xE σ σ1) (hX2 : mX σ1 σ2) (hn1 : 56 ≤ n1) (hr : zY B X τ1 n1 c1 s1 σ1 r2) (e2 : r2 = some (o2, o_w B X τ1 σ2 n1 c1 s1)) : kE (T + 1) τ1 σ2 := by
  obtain ⟨P, m, D, ft, q, S, t, a, W, p, L, H, ds, ga, k1, k2, k3, k4⟩ := h
  obtain ⟨σE, w1, w2⟩ := hr _ _ e2
  have e3 : (some (.inl none, o_w B X τ1 σE n1 c1 s1) : zR) = some (.inl none, o_w B X τ1 σ2 n1 c1 s1) := by rw [w1]
  have w3 := (x_er2 hn1 e3).2
  have w4 : rD σ1 σE := fun f hf => (w2 31 (by omega)).1 f (fun z => by omega)
  exact ⟨P, m, D, ft, q, S, t, a, W, p, L, H, ds, ga, k1.keep (hC.1.trans hX2.sc), ((k2.xe hE k3.1.2.1).keep (fun o h1 h2 => ⟨fun f hf => (w2 o h2).1 f (fun z => hf ⟨z.1, Or.inl z.2⟩), (w2 o h2).2⟩) k3.1.2.1).rc w3.1, k3.up, k4.to (by omega) (hC.2.trans hX2.fb) ((hE.rd.trans w4).trans w3.2)⟩
/-- refused: the class leaves all, the reference all but its outcome -/
theorem kE.ref {σE : zS} (h : kE T τ σ) (hC : sW2 τ σ τ1 σ1) (hE : xE σ σ1) (hX2 : mX σ1 σ2) (h1 : ∀ o f, ¬ (o = 31 ∧ f = 0) → σE.1 o f = σ1.1 o f) (h2 : σE.2 = σ1.2) (h3 : rE σE σ2) : kE (T + 1) τ1 σ2 := by
  obtain ⟨P, m, D, ft, q, S, t, a, W, p, L, H, ds, ga, k1, k2, k3, k4⟩ := h
  have w4 : rD σ1 σE := fun f hf => h1 31 f (fun z => by omega)
  exact ⟨P, m, D, ft, q, S, t, a, W, p, L, H, ds, ga, k1.keep (hC.1.trans hX2.sc), ((k2.xe hE k3.1.2.1).keep (σ1 := σE) (fun o _ _ => ⟨fun f w => h1 o f (fun u => w ⟨u.1, Or.inl u.2⟩), by rw [h2]⟩) k3.1.2.1).rc h3.1, k3.up, k4.to (by omega) (hC.2.trans hX2.fb) ((hE.rd.trans w4).trans h3.2)⟩
theorem kE.conf {o1 o2 : zO} (h : kE T τ σ) (hX : X < B) (hn : 56 ≤ n) (hn1 : 56 ≤ n1) (hN : ∀ o, n ≤ o → τ o = none) (hE : xE σ σ1) (e1 : f_AckBook_confirm F X (some (B + 0)) (o_w B X τ σ n c s) = some (o1, o_w B X τ1 σ1 n1 c1 s1)) (hX2 : mX σ1 σ2) (e2 : f_AckBookModel_confirm F X (some (B + 31)) (o_w B X τ1 σ1 n1 c1 s1) = some (o2, o_w B X τ1 σ2 n1 c1 s1)) : kE (T + 1) τ1 σ2 := by
  obtain ⟨P, m, D, ft, q, S, t, a, W, p, L, H, ds, ga, k1, k2, k3, k4⟩ := h
  unfold f_AckBook_confirm at e1
  rw [oz_0_7] at e1
  unfold f_AckBookModel_confirm at e2
  rw [op_31_0, oz_31_2] at e2
  rw [if_pos (Or.inr rfl)] at e1
  rw [if_pos (Or.inr rfl)] at e2
  have w := (x_en2 hX hn hN e1).2.1
  have v := (x_er2 hn1 e2).2
  refine ⟨P, m, D, ft, q, S, t, a, W, p, L, H, ds, ga, k1.keep (((sC.book (by decide)).trans w.1).trans hX2.sc), ((k2.xe hE k3.1.2.1).keep (σ1 := o_I (o_I σ1 31 0 0) 31 2 1) (fun o _ _ => ⟨fun f hf => by rw [i11, if_neg (fun z => hf ⟨z.1, Or.inr (Or.inl z.2)⟩), i11, if_neg (fun z => hf ⟨z.1, Or.inl z.2⟩)], rfl⟩) k3.1.2.1).rc v.1, k3.up, ?_⟩
  have hQ : eQ (T + 1) (o_I σ 0 7 1) (o_I (o_I σ1 31 0 0) 31 2 1) m D ft S W ds := by
    have hr := hE.rd
    have r0 : ∀ f, f ≠ 0 → f ≠ 2 → (o_I (o_I σ1 31 0 0) 31 2 1).1 31 f = σ1.1 31 f := fun f z1 z2 => by rw [i11, if_neg (fun z => z2 z.2), i11, if_neg (fun z => z1 z.2)]
    have c0 : ∀ f, f ≠ 7 → (o_I σ 0 7 1).1 0 f = σ.1 0 f := fun f z => by rw [i11, if_neg (fun y => z y.2)]
    have c30 : ∀ f, (o_I σ 0 7 1).1 30 f = σ.1 30 f := fun f => by rw [i11, if_neg (by omega)]
    obtain ⟨⟨a1, a2, a3, a4⟩, ⟨b1, b2, b3, ⟨z, z1, z2⟩, b5, b6⟩, d1, d2⟩ := k4
    have q1 : fq (o_I σ 0 7 1) = fq σ := fq.cong (fun f _ => c30 f)
    have q2 : mq (o_I (o_I σ1 31 0 0) 31 2 1) = mq σ := by
      unfold mq
      rw [r0 24 (by omega) (by omega), r0 25 (by omega) (by omega), r0 26 (by omega) (by omega), hr 24 (by omega), hr 25 (by omega), hr 26 (by omega)]
    exact ⟨⟨by rw [q1, q2]; exact a1, by rw [c30]; exact a2, by rw [q1]; exact a3, by rw [q1]; exact a4⟩, ⟨by rw [c0 5 (by omega), r0 23 (by omega) (by omega), hr 23 (by omega)]; exact b1, by rw [c0 5 (by omega)]; exact b2, by rw [c0 6 (by omega), r0 14 (by omega) (by omega), hr 14 (by omega)]; exact b3, ⟨z, by omega, by rw [c0 6 (by omega)]; exact z2⟩, by rw [i11, if_pos ⟨rfl, rfl⟩, i11, if_pos ⟨rfl, rfl⟩], by rw [c0 8 (by omega), r0 3 (by omega) (by omega), hr 3 (by omega)]; exact b6⟩, d1, d2⟩
  exact hQ.to (Nat.le_refl _) (w.2.trans hX2.fb) v.2
theorem kE.anx {o1 o2 : zO} {b : Int32} (h : kE T τ σ) (hX : X < B) (hn : 56 ≤ n) (hn1 : 56 ≤ n1) (hN : ∀ o, n ≤ o → τ o = none) (hE : xE σ σ1) (e1 : f_AckBook_anxious F X (some (B + 0)) b (o_w B X τ σ n c s) = some (o1, o_w B X τ1 σ1 n1 c1 s1)) (hX2 : mX σ1 σ2) (e2 : f_AckBookModel_anxious F X (some (B + 31)) b (o_w B X τ1 σ1 n1 c1 s1) = some (o2, o_w B X τ1 σ2 n1 c1 s1)) : kE (T + 1) τ1 σ2 := by
  obtain ⟨P, m, D, ft, q, S, t, a, W, p, L, H, ds, ga, k1, k2, k3, k4⟩ := h
  unfold f_AckBook_anxious at e1
  rw [oz_0_8] at e1
  unfold f_AckBookModel_anxious at e2
  rw [op_31_0, oz_31_3] at e2
  by_cases hb : b = 0 ∨ b = 1
  · rw [if_pos hb] at e1 e2
    have w := (x_en2 hX hn hN e1).2.1
    have v := (x_er2 hn1 e2).2
    refine ⟨P, m, D, ft, q, S, t, a, W, p, L, H, ds, ga, k1.keep (((sC.book (by decide)).trans w.1).trans hX2.sc), ((k2.xe hE k3.1.2.1).keep (σ1 := o_I (o_I σ1 31 0 0) 31 3 b) (fun o _ _ => ⟨fun f hf => by rw [i11, if_neg (fun z => hf ⟨z.1, Or.inr (Or.inr z.2)⟩), i11, if_neg (fun z => hf ⟨z.1, Or.inl z.2⟩)], rfl⟩) k3.1.2.1).rc v.1, k3.up, ?_⟩
    have hQ : eQ (T + 1) (o_I σ 0 8 b) (o_I (o_I σ1 31 0 0) 31 3 b) m D ft S W ds := by
      have hr := hE.rd
      have r0 : ∀ f, f ≠ 0 → f ≠ 3 → (o_I (o_I σ1 31 0 0) 31 3 b).1 31 f = σ1.1 31 f := fun f z1 z2 => by rw [i11, if_neg (fun z => z2 z.2), i11, if_neg (fun z => z1 z.2)]
      have c0 : ∀ f, f ≠ 8 → (o_I σ 0 8 b).1 0 f = σ.1 0 f := fun f z => by rw [i11, if_neg (fun y => z y.2)]
      have c30 : ∀ f, (o_I σ 0 8 b).1 30 f = σ.1 30 f := fun f => by rw [i11, if_neg (by omega)]
      obtain ⟨⟨a1, a2, a3, a4⟩, ⟨b1, b2, b3, ⟨z, z1, z2⟩, b5, b6⟩, d1, d2⟩ := k4
      have q1 : fq (o_I σ 0 8 b) = fq σ := fq.cong (fun f _ => c30 f)
      have q2 : mq (o_I (o_I σ1 31 0 0) 31 3 b) = mq σ := by
        unfold mq
        rw [r0 24 (by omega) (by omega), r0 25 (by omega) (by omega), r0 26 (by omega) (by omega), hr 24 (by omega), hr 25 (by omega), hr 26 (by omega)]
      exact ⟨⟨by rw [q1, q2]; exact a1, by rw [c30]; exact a2, by rw [q1]; exact a3, by rw [q1]; exact a4⟩, ⟨by rw [c0 5 (by omega), r0 23 (by omega) (by omega), hr 23 (by omega)]; exact b1, by rw [c0 5 (by omega)]; exact b2, by rw [c0 6 (by omega), r0 14 (by omega) (by omega), hr 14 (by omega)]; exact b3, ⟨z, by omega, by rw [c0 6 (by omega)]; exact z2⟩, by rw [c0 7 (by omega), r0 2 (by omega) (by omega), hr 2 (by omega)]; exact b5, by rw [i11, if_pos ⟨rfl, rfl⟩, i11, if_pos ⟨rfl, rfl⟩]⟩, d1, d2⟩
    exact hQ.to (Nat.le_refl _) (w.2.trans hX2.fb) v.2
  · rw [if_neg hb] at e1
    cases e1
/-- next -/
theorem c_nxX (h : sP τ σ P m D ft q S t W p L H ds) (hu : uP T P m D S t a W p L H ds ga) (hk : k < 3) (hb : b < 2) (hy : y = nI b) : ∃ σ', f_AckBook_next F X (some (B + 0)) (nI k) y (o_w B X τ σ n c s) = some (.inl (some (.int (hdI (q k b)))), o_w B X τ σ' n c s) ∧ sP τ σ' P m D ft (uk q k (uk (q k) b (q k b).tail)) S t W p L H ds ∧ cFB σ σ' := by
  obtain ⟨σ', e, hU, h1, hS⟩ := d_pop (B := B) (X := X) (F := F) (n := n) (c := c) (s := s) hk hb (h.2.1 k hk).1
  refine ⟨σ', ?_, ?_, fun f _ => by rw [h1], fun f _ _ => by rw [h1]⟩
  · unfold f_AckBook_next
    simp only [ot_0, c_known hk, y_cRs, or_s2_1 hk, or_s3_0 hk, or_s3_1 hk, ot_s4 hk, ot_s5 hk]
    rcases (by omega : b = 0 ∨ b = 1) with rfl | rfl
    · rw [if_pos (show y = 0 from hy)]
      have e' : f_AckBook_Chain_removeFirst F X (some (B + (4 + 8 * k))) (o_w B X τ σ n c s) = _ := e
      rw [e']
      rfl
    · rw [if_neg (by rw [hy]; decide)]
      have e' : f_AckBook_Chain_removeFirst F X (some (B + (5 + 8 * k))) (o_w B X τ σ n c s) = _ := e
      rw [e']
      rfl
  · have := h.one (p' := 0) (d' := 0) hk (fun k' i j h1 h2 h3 h4 => hu.2.2 k' k i j h1 hk h2 h3 h4) hU hS (fun f hf => by rw [h1]; exact h.2.2.1 f hf)
    rw [uk_id, uk_id] at this
    exact this
theorem m_nxX (h : rP σ m D ft q S t W p L H ds ga) (hk : k < 3) (hb : b < 2) (hy : y = nI b) : ∃ σ', f_AckBookModel_next F X (some (B + 31)) (nI k) y (o_w B X τ σ n c s) = some (.inl (some (.int (hdI (q k b)))), o_w B X τ σ' n c s) ∧ rP σ' m D ft (uk q k (uk (q k) b (q k b).tail)) S t W p L H ds ga ∧ σ'.1 31 0 = 0 ∧ rD σ σ' := by
  obtain ⟨r1, r2, r3, r4, r5⟩ := h
  have hz := z0.put (σ := σ) 0
  have h0 := (r2 k hk).f31 (σ' := o_I σ 31 0 0) (fun o f ho => hz.1 o f (by omega))
  have hcn : ∀ b', cn (nI (b' + 1)) (ft k) (m k) ≤ 4096 := fun b' => Nat.le_trans (cn_le _ _ _) h0.1.2.1
  have hl : (2 : Int32) * nI k = nI (2 * k) := pk_mul 2 k
  obtain ⟨σ', e, g1, g2, g3⟩ := n_26 (B := B) (X := X) (F := F) (τ := τ) (n := n) (c := c) (s := s) (h0.2.2.1 b hb) (by omega) (hcn b) ((2 : Int32) * nI k) (nI b) (by rw [hl, nI_add])
  refine ⟨σ', ?_, ⟨?_, fun k' hk' => ?_, fun f hf => ?_, ?_, fun j hj => ?_⟩, ?_, fun f hf => (g1 31 f (by omega)).trans (hz.1 31 f (fun z => by omega))⟩
  · unfold f_AckBookModel_next
    simp only [s_noSpace, z_cI, ot_31, if_neg (e_spk hk), s_fails 0 1 (Or.inl rfl), if_true]
    rcases (by omega : b = 0 ∨ b = 1) with rfl | rfl
    · rw [if_pos (show y = 0 from hy)]
      exact e
    · rw [if_neg (by rw [hy]; decide)]
      exact e
  · rw [g1 _ _ (by omega), hz.1 _ _ (by omega)]
    exact r1
  · have hk0 := (r2 k' hk').f31 (σ' := o_I σ 31 0 0) (fun o f ho => hz.1 o f (by omega))
    refine hk0.q44 (fun o f _ ho => g1 o f (by omega)) (fun b' hb' => ?_)
    by_cases e1 : k' = k
    · subst e1
      rw [uk_at]
      by_cases e2 : b' = b
      · subst e2
        rw [uk_at]
        exact g3
      · rw [uk_ne _ _ e2]
        exact (hk0.2.2.1 b' hb').cong (g1 _ _ (by omega)) (g1 _ _ (by omega)) (fun f => g1 _ _ (by omega))
    · rw [uk_ne _ _ e1]
      exact (hk0.2.2.1 b' hb').cong (g1 _ _ (by omega)) (g1 _ _ (by omega)) (fun f => g1 _ _ (by omega))
  · rw [g1 _ _ (by omega), hz.1 _ _ (by omega)]
    exact r3 f hf
  · rw [g1 _ _ (by omega), hz.1 _ _ (by omega)]
    exact r4
  · rw [g2]
    exact r5 j hj
  · rw [g1 _ _ (by omega)]
    exact hz.2.2
theorem kE.next {v v2 : Int32} (h : kE T τ σ) (hX : X < B) (hn : 56 ≤ n) (hn1 : 56 ≤ n1) (hN : ∀ o, n ≤ o → τ o = none) (hb : b < 2) (hy : y = nI b) (hE : xE σ σ1) (e1 : f_AckBookLaw_next F X (some (B + 0)) x y (some (B + 55)) (o_w B X τ σ n c s) = some (.inl (some (.int v)), o_w B X τ1 σ1 n1 c1 s1)) (hX2 : mX σ1 σ2) (e2 : f_AckBookModel_next F X (some (B + 31)) x y (o_w B X τ1 σ1 n1 c1 s1) = some (.inl (some (.int v2)), o_w B X τ1 σ2 n1 c1 s1)) : kE (T + 1) τ1 σ2 ∧ σ2.1 31 0 = v ∧ (v = 0 → σ2.2.1 55 0 = v2.toInt64) := by
  obtain ⟨P, m, D, ft, q, S, t, a, W, p, L, H, ds, ga, k1, k2, k3, k4⟩ := id h
  have k2' := k2.xe hE k3.1.2.1
  unfold f_AckBookLaw_next at e1
  rw [ot_0] at e1
  rcases e_sp x with hx | ⟨k, hk, rfl⟩
  · rw [c_nxB hx] at e1
    obtain ⟨z1, z2⟩ := x_th2I (u := 1) hX hn hN e1 (fun w => rfl)
    rw [m_nxB hx] at e2
    have hrc := (x_er2 hn1 e2).2
    refine ⟨h.ref z2 hE hX2 (z0.put 1).1 rfl hrc, (hrc.1.1 0 (by omega)).trans ?_, fun w => ?_⟩
    · rw [z1, i11, if_pos ⟨rfl, rfl⟩]
    · rw [z1] at w
      exact absurd w (by decide)
  · obtain ⟨σE, d1, d2, d3⟩ := c_nxX (B := B) (X := X) (F := F) (n := n) (c := c) (s := s) k1 k3 hk hb hy
    rw [d1] at e1
    obtain ⟨z1, u', σG, ⟨z2, z3, zc⟩, z4, z5⟩ := x_ok2I hX hn hN (pW.ret (Q := fun v σ' => v = some (.int (hdI (q k b))) ∧ sP τ σ' P m D ft (uk q k (uk (q k) b (q k b).tail)) S t W p L H ds ∧ cFB σ σ') ⟨rfl, d2, d3⟩) e1
    obtain ⟨σF, g1, g2, g3, g4⟩ := m_nxX (B := B) (X := X) (F := F) (τ := τ1) (n := n1) (c := c1) (s := s1) k2' hk hb hy
    rw [g1] at e2
    obtain ⟨w1, w2⟩ := x_er2 hn1 e2
    refine ⟨⟨P, m, D, ft, _, S, t, a, W, p, L, H, ds, ga, z3.keep (z4.1.trans hX2.sc), g2.rc w2.1, k3.up, k4.to (by omega) ((zc.trans z4.2).trans hX2.fb) ((hE.rd.trans g4).trans w2.2)⟩, (w2.1.1 0 (by omega)).trans (g3.trans z1.symm), fun _ => ?_⟩
    rw [(hX2 55 (by omega)).2.1, z5]
    injection w1 with w1
    injection w1 with w1
    injection w1 with w1
    injection z2 with z2
    injection z2 with z2
    rw [z2, w1]
theorem kE.span {v : Int32} {o2 : zO} (hk : kE T τ σ) (hX : X < B) (hn : 56 ≤ n) (hn1 : 56 ≤ n1) (hN : ∀ o, n ≤ o → τ o = none) (hE : xE σ σ1) (hM : mM T σ1) (e1 : f_AckBookLaw_span F X (some (B + 0)) l h (some (B + 55)) (o_w B X τ σ n c s) = some (.inl (some (.int v)), o_w B X τ1 σ1 n1 c1 s1)) (hX2 : mX σ1 σ2) (e2 : f_AckBookModel_span F X (some (B + 31)) l h (o_w B X τ1 σ1 n1 c1 s1) = some (o2, o_w B X τ1 σ2 n1 c1 s1)) : kE (T + 1) τ1 σ2 := by
  obtain ⟨P, m, D, ft, q, S, t, a, W, p, L, H, ds, ga, k1, k2, k3, k4⟩ := id hk
  have hp := k3.1.2.1
  have hcl := k3.1.2.2.1
  have k2' := k2.xe hE hp
  unfold f_AckBookLaw_span at e1
  rw [ot_0] at e1
  have ref : ∀ σE, sW2 τ σ τ1 σ1 → (∀ o f, ¬ (o = 31 ∧ f = 0) → σE.1 o f = σ1.1 o f) → σE.2 = σ1.2 → rE σE σ2 → kE (T + 1) τ1 σ2 := fun σE hC h1 h2 h3 => hk.ref hC hE hX2 h1 h2 h3
  have i1 : ∀ p', p' < 64 → (nI p = nI (p' + 1)) = (p = p' + 1) := fun p' w => e_eq (by omega) (by omega)
  by_cases hb : l < 0 ∨ h < l ∨ ∃ p', p = p' + 1 ∧ ¬ h < L p' - 1
  · have b1 : k_sBad σ l h := by
      rcases hb with w | w | ⟨p', w1, w2⟩
      · exact Or.inl w
      · exact Or.inr (Or.inl w)
      · exact Or.inr (Or.inr ⟨p', by rw [k1.2.2.2.1, w1], by omega, by rw [(k1.2.2.2.2 p' (by omega)).1]; exact w2⟩)
    have b2 : m_sBad σ1 l h := by
      rcases hb with w | w | ⟨p', w1, w2⟩
      · exact Or.inl w
      · exact Or.inr (Or.inl w)
      · exact Or.inr (Or.inr ⟨p', by rw [k2'.2.2.2.1, w1], by omega, by rw [(k2'.2.2.2.2 p' (by omega)).1]; exact fun z => w2 ((e_l12 _ _ (hcl.1 p' (by omega)).1).mpr z)⟩)
    rw [c_spB b1] at e1
    obtain ⟨-, q1⟩ := x_th2I (u := 1) hX hn hN e1 (fun w => rfl)
    rw [u_spanB hM l h b2] at e2
    exact ref _ q1 (z0.put 1).1 rfl (x_er2 hn1 e2).2
  · have b1 : ¬ k_sBad σ l h := by
      rintro (w | w | ⟨p', w1, w2, w3⟩)
      · exact hb (Or.inl w)
      · exact hb (Or.inr (Or.inl w))
      · rw [k1.2.2.2.1, i1 p' w2] at w1
        exact hb (Or.inr (Or.inr ⟨p', w1, by rw [← (k1.2.2.2.2 p' (by omega)).1]; exact w3⟩))
    have b2 : ¬ m_sBad σ1 l h := by
      rintro (w | w | ⟨p', w1, w2, w3⟩)
      · exact hb (Or.inl w)
      · exact hb (Or.inr (Or.inl w))
      · rw [k2'.2.2.2.1, i1 p' w2] at w1
        exact hb (Or.inr (Or.inr ⟨p', w1, fun z => w3 (by rw [(k2'.2.2.2.2 p' (by omega)).1]; exact (e_l12 _ _ (hcl.1 p' (by omega)).1).mp z)⟩))
    rw [c_spG b1 k1.2.2.2.1 hp] at e1
    rw [u_spanG hM l h b2, u_span44 l h k2'.2.2.2.1 hp] at e2
    by_cases p64 : p = 64
    · rw [if_pos p64] at e1 e2
      obtain ⟨-, q1⟩ := x_th2I (u := 2) hX hn hN e1 (fun w => rfl)
      exact ref _ q1 ((z0.put 0).step (v := 2)).1 rfl (x_er2 hn1 e2).2
    · rw [if_neg p64] at e1 e2
      obtain ⟨z1, u', σG, ⟨z3, zc⟩, z4, z5⟩ := x_ok2I hX hn hN (pW.ret (Q := fun _ σ' => sP τ σ' P m D ft q S t W (p + 1) (uk L p l) (uk H p h) ds ∧ cFB σ σ') ⟨k1.span (by omega), fun f _ => by simp only [i11, l11]; rw [if_neg (by omega)], fun f _ _ => by simp only [i11, l11]; rw [if_neg (by omega)]⟩) e1
      have w2 := (x_er2 hn1 e2).2
      refine ⟨P, m, D, ft, q, S, t, a, W, p + 1, _, _, ds, ga, z3.keep (z4.1.trans hX2.sc), (k2'.span (by omega)).rc w2.1, ?_, k4.to (by omega) ((zc.trans z4.2).trans hX2.fb) ((hE.rd.trans (fun f hf => by simp only [i11, l11]; rw [if_neg (by omega), if_neg (by omega), if_neg (by omega)])).trans w2.2)⟩
      obtain ⟨⟨u1, u2, u3, u4⟩, u5⟩ := k3.up
      have l0 : ¬ l.toInt < (0 : Int64).toInt := fun w => hb (Or.inl (Int64.lt_iff_toInt_lt.mpr w))
      have l1 : ¬ h.toInt < l.toInt := fun w => hb (Or.inr (Or.inl (Int64.lt_iff_toInt_lt.mpr w)))
      have e0 : (0 : Int64).toInt = 0 := by decide
      refine ⟨⟨u1, by omega, u3.span (by omega) (by omega) (fun w => ?_), u4⟩, u5⟩
      have w2 : h < L (p - 1) - 1 := Decidable.not_not.mp fun w2 => hb (Or.inr (Or.inr ⟨p - 1, by omega, w2⟩))
      have hL := (hcl.1 (p - 1) (by omega)).1
      have w3 := Int64.lt_iff_toInt_lt.mp w2
      have := Int64.toInt_lt (L (p - 1))
      rw [Int64.toInt_sub, show (1 : Int64).toInt = 1 by decide, Int.bmod_eq_of_le (by omega) (by omega)] at w3
      omega
end LA
