/-! send, on the reference's side; both sides. -/
section IH
variable {B X F : Nat} {τ τ1 τ2 : zK} {n c s n1 c1 s1 T : Nat} {σ σ1 σ2 σ3 : zS} {P : Nat → Nat → Nat} {m : Nat → Nat} {D : Nat → Nat → Nat → Int32} {ft : Nat → Nat → Int32} {q : Nat → Nat → List Nat} {S : Nat → Nat → Int32} {t p : Nat} {a : Nat → Nat → Nat} {W ds ga : Nat → Int32} {L H : Nat → Int64} {k : Nat} {x y z e d : Int32}
theorem cn_congr {x : Int32} {f g : Nat → Int32} : ∀ m, (∀ i, i < m → f i = g i) → cn x f m = cn x g m
  | 0, _ => rfl
  | m + 1, h => by
    show cn x f m + (if f m = x then 1 else 0) = cn x g m + (if g m = x then 1 else 0)
    rw [cn_congr m (fun i hi => h i (by omega)), h m (by omega)]
theorem cn_new {x : Int32} {f : Nat → Int32} (m : Nat) (hx : x ≠ 0) : cn x (uk f m 0) (m + 1) = cn x f m := by
  show cn x (uk f m 0) m + (if uk f m 0 m = x then 1 else 0) = cn x f m
  rw [uk_at, if_neg (fun w => hx w.symm), cn_congr m (g := f) (fun i hi => uk_ne _ _ (by omega))]
  rfl
set_option maxHeartbeats 1000000 in
theorem m_sndA (h : rP σ m D ft q S t W p L H ds ga) (hm : ∀ k', k' < 3 → m k' ≤ 512) (hF : 20000 ≤ F) (hk : k < 3) (hd : ds k = 0) (he : e = 0 ∨ e = 1) (hdd : d = 0 ∨ d = 1) (hb : ¬ m_vBad (nI k) y e d) : ∃ σ2 v, f_AckBookModel_send F X (some (B + 31)) (nI k) y e d (o_w B X τ σ n c s) = some (.inl (some (.int (nI (m k)))), o_w B X τ (o_I σ2 38 (4096 * k + m k) (if v ≤ σ.1 31 24 - 1200 then 0 else 1)) n c s) ∧ f_AckBookModel_flight F X (some (B + 31)) (o_w B X τ σ2 n c s) = some (.inl (some (.int v)), o_w B X τ σ2 n c s) ∧ (∀ b, rP (o_I σ2 38 (4096 * k + m k) b) (uk m k (m k + 1)) (uk D k (dN (D k) (m k) (vN y (nI t) e d b))) (uk ft k (uk (ft k) (m k) 0)) q S t W p L H ds ga) ∧ (∀ f, f ≠ 0 → f ≠ 14 → σ2.1 31 f = σ.1 31 f) ∧ σ2.1 31 14 = nI t ∧ σ2.1 31 0 = 0 := by
  obtain ⟨r1, r2, r3, r4, r5⟩ := h
  obtain ⟨⟨hA, hA2, h39⟩, hF1, hQ, h41, h40⟩ := r2 k hk
  have hd1 : (o_I σ 31 0 0).1 39 k = 0 := by rw [i11, if_neg (by omega)]; exact h39.trans hd
  have hA1 : (o_I σ 31 0 0).1 32 k = nI (m k) := by rw [i11, if_neg (by omega)]; exact hA
  have hmk := hm k hk
  have hne : ¬ nI (m k) = (4096 : Int32) := fun q => by
    have := (nI_eq (a := m k) (b := 4096) (by omega) (by decide)).mp q
    omega
  have hfl : (o_I (o_I σ 31 0 0) 31 0 0).1 32 k = nI (m k) := by simp [i11, hA]
  rw [u_send34 _ e d hb]
  simp (disch := omega) only [q_AckBookModel_send_34, ot_31, s_fails 0 1 (Or.inl rfl), z_cI, if_true, or_31_11, oln_39, hd1, or_31_4, oln_32, hA1, if_neg hne, q_AckBookModel_send_68, s_fails 0 2 (Or.inl rfl), hfl, e_mu, nI_add, or_31_5, osn_33, or_31_6, oi_31_1, osn_34, or_31_7, osn_35, or_31_8, osn_36, or_31_9, osn_37, if_pos he, if_pos hdd]
  generalize hσ1 : o_I (o_I (o_I (o_I (o_I (o_I (o_I σ 31 0 0) 31 0 0) 33 (4096 * k + m k) y) 34 (4096 * k + m k) ((o_I (o_I (o_I σ 31 0 0) 31 0 0) 33 (4096 * k + m k) y).1 31 1)) 35 (4096 * k + m k) 0) 36 (4096 * k + m k) e) 37 (4096 * k + m k) d = σ1
  have f1 : σ1.1 32 k = nI (m k) := by rw [← hσ1]; simp [i11, hA]
  simp (disch := omega) only [or_31_4, oln_32, f1, nI_1, osn_32, oi_31_1, op_31_14, or_31_10]
  generalize hσ2 : o_I (o_I σ1 32 k (nI (m k + 1))) 31 14 ((o_I σ1 32 k (nI (m k + 1))).1 31 1) = σ2
  have g0 : ∀ a b, a ≠ 31 → a ≠ 32 → a ≠ 33 → a ≠ 34 → a ≠ 35 → a ≠ 36 → a ≠ 37 → σ2.1 a b = σ.1 a b := fun a b q1 q2 q3 q4 q5 q6 q7 => by rw [← hσ2, ← hσ1]; simp [i11, q1, q2, q3, q4, q5, q6, q7]
  have e32 : ∀ b, σ2.1 32 b = if b = k then nI (m k + 1) else σ.1 32 b := fun b => by rw [← hσ2, ← hσ1]; simp [i11]
  have e33 : ∀ b, σ2.1 33 b = if b = 4096 * k + m k then y else σ.1 33 b := fun b => by rw [← hσ2, ← hσ1]; simp [i11]
  have e34 : ∀ b, σ2.1 34 b = if b = 4096 * k + m k then nI t else σ.1 34 b := fun b => by rw [← hσ2, ← hσ1]; simp [i11, r1]
  have e35 : ∀ b, σ2.1 35 b = if b = 4096 * k + m k then 0 else σ.1 35 b := fun b => by rw [← hσ2, ← hσ1]; simp [i11]
  have e36 : ∀ b, σ2.1 36 b = if b = 4096 * k + m k then e else σ.1 36 b := fun b => by rw [← hσ2, ← hσ1]; simp [i11]
  have e37 : ∀ b, σ2.1 37 b = if b = 4096 * k + m k then d else σ.1 37 b := fun b => by rw [← hσ2, ← hσ1]; simp [i11]
  have e31 : ∀ f, f ≠ 0 → f ≠ 14 → σ2.1 31 f = σ.1 31 f := fun f z1 z2 => by rw [← hσ2, ← hσ1]; simp [i11, z1, z2]
  have e14 : σ2.1 31 14 = nI t := by rw [← hσ2, ← hσ1]; simp [i11, r1]
  have e0 : σ2.1 31 0 = 0 := by rw [← hσ2, ← hσ1]; simp [i11]
  have eL : σ2.2 = σ.2 := by rw [← hσ2, ← hσ1]; rfl
  clear hσ1 hσ2 f1
  have hmS : m_S σ2 (uk m k (m k + 1)) := fun j hj => by
    rw [e32]
    by_cases w : j = k
    · rw [if_pos w, w, uk_at]
      exact ⟨rfl, by omega⟩
    · rw [if_neg w, uk_ne _ _ w]
      exact ⟨(r2 j hj).1.1, by have := hm j hj; omega⟩
  obtain ⟨v, hv⟩ := s_flight (B := B) (X := X) (F := F) (τ := τ) (n := n) (c := c) (s := s) hmS hF
  simp (disch := omega) only [ot_31, hv, z_cI, oi_31_24, e31 24 (by omega) (by omega), osz0_38, osz1_38]
  refine ⟨σ2, v, ?_, hv, fun b => ⟨?_, fun k' hk' => ?_, fun f hf => ?_, ?_, fun j hj => ?_⟩, e31, e14, e0⟩
  · split <;> rfl
  · rw [i11, if_neg (by omega), e31 1 (by omega) (by omega)]
    exact r1
  · have i38 : ∀ o f, o ≠ 38 → (o_I σ2 38 (4096 * k + m k) b).1 o f = σ2.1 o f := fun o f ho => by rw [i11, if_neg (fun w => ho w.1)]
    have j38 : ∀ f, (o_I σ2 38 (4096 * k + m k) b).1 38 f = if f = 4096 * k + m k then b else σ.1 38 f := fun f => by
      rw [i11]
      by_cases w : f = 4096 * k + m k
      · rw [if_pos ⟨rfl, w⟩, if_pos w]
      · rw [if_neg (fun u => w u.2), if_neg w, g0 38 f (by omega) (by omega) (by omega) (by omega) (by omega) (by omega) (by omega)]
    obtain ⟨⟨a1, a2, a3⟩, fb, fd, f1, f2⟩ := r2 k' hk'
    have hmk' := hm k' hk'
    have hqm : ∀ (ft' : Nat → Int32) (m' : Nat), (∀ b', b' < 2 → cn (nI (b' + 1)) ft' m' = cn (nI (b' + 1)) (ft k') (m k')) → ∀ b', b' < 2 → qM (o_I σ2 38 (4096 * k + m k) b) (2 * k' + b') (q k' b') (cn (nI (b' + 1)) ft' m') := fun ft' m' hc b' hb' => by
      rw [hc b' hb']
      exact (fd b' hb').cong ((i38 _ _ (by omega)).trans (g0 _ _ (by omega) (by omega) (by omega) (by omega) (by omega) (by omega) (by omega))) ((i38 _ _ (by omega)).trans (g0 _ _ (by omega) (by omega) (by omega) (by omega) (by omega) (by omega) (by omega))) (fun f => (i38 _ _ (by omega)).trans (g0 _ _ (by omega) (by omega) (by omega) (by omega) (by omega) (by omega) (by omega)))
    have h39' : (o_I σ2 38 (4096 * k + m k) b).1 39 k' = ds k' := (i38 _ _ (by omega)).trans ((g0 _ _ (by omega) (by omega) (by omega) (by omega) (by omega) (by omega) (by omega)).trans a3)
    have h41' : (o_I σ2 38 (4096 * k + m k) b).1 41 k' = S k' 7 := (i38 _ _ (by omega)).trans ((g0 _ _ (by omega) (by omega) (by omega) (by omega) (by omega) (by omega) (by omega)).trans f1)
    have h40' : (o_I σ2 38 (4096 * k + m k) b).1 40 k' = ga k' := (i38 _ _ (by omega)).trans ((g0 _ _ (by omega) (by omega) (by omega) (by omega) (by omega) (by omega) (by omega)).trans f2)
    have old : ∀ i, i < m k' → 4096 * k' + i ≠ 4096 * k + m k → ((o_I σ2 38 (4096 * k + m k) b).1 33 (4096 * k' + i) = D k' 1 i ∧ (o_I σ2 38 (4096 * k + m k) b).1 34 (4096 * k' + i) = D k' 2 i ∧ (o_I σ2 38 (4096 * k + m k) b).1 36 (4096 * k' + i) = D k' 3 i ∧ (o_I σ2 38 (4096 * k + m k) b).1 37 (4096 * k' + i) = D k' 4 i ∧ (o_I σ2 38 (4096 * k + m k) b).1 38 (4096 * k' + i) = D k' 5 i) ∧ (o_I σ2 38 (4096 * k + m k) b).1 35 (4096 * k' + i) = ft k' i := fun i hi w => by
      rw [i38 33 _ (by omega), i38 34 _ (by omega), i38 36 _ (by omega), i38 37 _ (by omega), i38 35 _ (by omega), j38, if_neg w, e33, if_neg w, e34, if_neg w, e36, if_neg w, e37, if_neg w, e35, if_neg w]
      exact fb i hi
    by_cases ek : k' = k
    · subst ek
      rw [uk_at, uk_at, uk_at]
      refine ⟨⟨?_, by omega, h39'⟩, fun i hi => ?_, hqm _ _ (fun b' hb' => cn_new _ (nI_ne0 (by omega) (by omega))), h41', h40'⟩
      · rw [i38 32 _ (by omega), e32, if_pos rfl]
      · by_cases w : i = m k'
        · subst w
          rw [i38 33 _ (by omega), i38 34 _ (by omega), i38 36 _ (by omega), i38 37 _ (by omega), i38 35 _ (by omega), j38, if_pos rfl, e33, if_pos rfl, e34, if_pos rfl, e36, if_pos rfl, e37, if_pos rfl, e35, if_pos rfl, uk_at]
          exact ⟨⟨(uk_at _ _ _).symm, (uk_at _ _ _).symm, (uk_at _ _ _).symm, (uk_at _ _ _).symm, (uk_at _ _ _).symm⟩, rfl⟩
        · have z := old i (by omega) (by omega)
          rw [uk_ne _ _ w]
          exact ⟨⟨z.1.1.trans (uk_ne _ _ w).symm, z.1.2.1.trans (uk_ne _ _ w).symm, z.1.2.2.1.trans (uk_ne _ _ w).symm, z.1.2.2.2.1.trans (uk_ne _ _ w).symm, z.1.2.2.2.2.trans (uk_ne _ _ w).symm⟩, z.2⟩
    · rw [uk_ne _ _ ek, uk_ne _ _ ek, uk_ne _ _ ek]
      refine ⟨⟨?_, a2, h39'⟩, fun i hi => old i hi (by omega), hqm _ _ (fun _ _ => rfl), h41', h40'⟩
      rw [i38 32 _ (by omega), e32, if_neg ek]
      exact a1
  · rw [i11, if_neg (by omega), e31 _ (by omega) (by omega)]
    exact r3 f hf
  · rw [i11, if_neg (by omega), e31 27 (by omega) (by omega)]
    exact r4
  · rw [show (o_I σ2 38 (4096 * k + m k) b).2 = σ.2 from eL]
    exact r5 j hj
theorem rP.s7 {S1 : Nat → Nat → Int32} (h : rP σ m D ft q S t W p L H ds ga) (h7 : ∀ k, k < 3 → S1 k 7 = S k 7) : rP σ m D ft q S1 t W p L H ds ga := by
  obtain ⟨r1, r2, r3⟩ := h
  exact ⟨r1, fun k hk => by rw [h7 k hk]; exact r2 k hk, r3⟩
theorem uP.snd {S' : Nat → Int32} {b : Int32} (hu : uP T P m D S t a W p L H ds ga) (hk : k < 3) (hnP : ∀ k' i, k' < 3 → i < m k' → P k' i ≠ n) (s6 : S' 6 = S k 6) (s7 : S' 7 = S k 7) : uP (T + 1) (uk P k (uk (P k) (m k) n)) (uk m k (m k + 1)) (uk D k (dN (D k) (m k) (vN y (nI t) e d b))) (uk S k S') t (uk a k (uk (a k) (m k) t)) W p L H ds ga := by
  obtain ⟨⟨u1, u2, u3, u4⟩, u5, u6⟩ := hu
  refine ⟨⟨by omega, u2, u3, u4⟩, fun k' hk' => ?_, fun k1 k2 i j h1 h2 hne hi hj => ?_⟩
  · obtain ⟨⟨v1, v2, v3⟩, v4, v5, v6, v7⟩ := u5 k' hk'
    by_cases ek : k' = k
    · subst ek
      rw [uk_at, uk_at, uk_at, uk_at, s6, s7]
      refine ⟨⟨by omega, fun j hj => ?_, fun i j hij hj => ?_⟩, ?_, v5, v6, v7⟩
      · by_cases w : j = m k'
        · rw [w]
          show dN (D k') (m k') (vN y (nI t) e d b) 2 (m k') = _ ∧ _
          rw [uk_at]
          exact ⟨uk_at _ _ _, Nat.le_refl _⟩
        · rw [uk_ne _ _ w]
          exact ⟨(uk_ne _ _ w).trans (v2 j (by omega)).1, (v2 j (by omega)).2⟩
      · by_cases w : j = m k'
        · rw [w, uk_at]
          by_cases w2 : i = m k'
          · rw [w2, uk_at]
            exact Nat.le_refl _
          · rw [uk_ne _ _ w2]
            exact (v2 i (by omega)).2
        · rw [uk_ne _ _ w, uk_ne _ _ (by omega : i ≠ m k')]
          exact v3 i j hij (by omega)
      · rcases v4 with z | ⟨g, z1, z2⟩
        · exact Or.inl z
        · exact Or.inr ⟨g, by omega, z2⟩
    · rw [uk_ne _ _ ek, uk_ne _ _ ek, uk_ne _ _ ek, uk_ne _ _ ek]
      exact ⟨⟨by omega, v2, v3⟩, v4, v5, v6, v7⟩
  · by_cases e1 : k1 = k
    · subst e1
      have e2 : k2 ≠ k1 := fun w => hne w.symm
      rw [uk_at] at hi ⊢
      rw [uk_ne _ _ e2] at hj ⊢
      by_cases w : i = m k1
      · rw [w, uk_at]
        exact fun z => hnP k2 j h2 hj z.symm
      · rw [uk_ne _ _ w]
        exact u6 k1 k2 i j h1 h2 hne (by omega) hj
    · rw [uk_ne _ _ e1] at hi ⊢
      by_cases e2 : k2 = k
      · subst e2
        rw [uk_at] at hj ⊢
        by_cases w : j = m k2
        · rw [w, uk_at]
          exact hnP k1 i h1 hi
        · rw [uk_ne _ _ w]
          exact u6 k1 k2 i j h1 h2 hne hi (by omega)
      · rw [uk_ne _ _ e2] at hj ⊢
        exact u6 k1 k2 i j h1 h2 hne hi hj
theorem dX.new {D : Nat → Nat → Int32} {f : Nat → Int32} {m : Nat} {y t e d b b' : Int32} : dN (dX D f) m (vN y t e d b') = dX (dN D m (vN y t e d b)) (uk f m b') := by
  funext g i
  unfold dN dX
  by_cases w : i = m
  · subst w
    rw [uk_at, uk_at]
    by_cases h5 : g = 5
    · subst h5
      rfl
    · rw [if_neg h5]
      show vN y t e d b' g = uk (D g) i (vN y t e d b g) i
      rw [uk_at]
      unfold vN
      rw [if_neg h5, if_neg h5]
  · have h2 : (fun f => uk (D f) m (vN y t e d b f)) g i = D g i := uk_ne _ _ w
    rw [uk_ne _ _ w, uk_ne _ _ w, h2]
theorem c_sndB (hb : m_vBad x y e d) : f_AckBook_send F X (some (B + 0)) x y e d (o_w B X τ σ n c s) = z_thr (o_w B X τ σ n c s) 11 := by
  unfold f_AckBook_send
  rw [ot_0]
  rcases e_sp x with hx | ⟨k, hk, rfl⟩
  · rw [c_knownB hx, z_thr_cR]
  · rw [c_known hk, y_cRs]
    by_cases h2 : y < 1
    · rw [if_pos h2]
    · rw [if_neg h2]
      by_cases h3 : y ≤ 1200
      · rw [if_pos h3]
        rcases hb with q | q | q | ⟨q1, q2⟩
        · exact absurd q (e_spk hk)
        · exact absurd q h2
        · exact absurd h3 (Int32.not_le.mpr q)
        · rw [if_neg q1, if_pos q2]
      · rw [if_neg h3]
theorem c_sndD (hk : k < 3) (hb : ¬ m_vBad (nI k) y e d) (hd : σ.1 (2 + 8 * k) 3 ≠ 0) : f_AckBook_send F X (some (B + 0)) (nI k) y e d (o_w B X τ σ n c s) = z_thr (o_w B X τ σ n c s) 12 := by
  rw [k_send48 hk y e d hb]
  unfold q_AckBook_send_48
  simp only [f_AckBook_refuseDiscarded, oi_s2_3 hk]
  rw [if_neg hd, z_thr_cV]
theorem kD.send {v : Int32} {o2 : zO} (hI : kI T τ σ n c s) (h : kD T τ σ) (hX : X < B) (hT : T < 512) (hF : 20000 ≤ F) (hn1 : 56 ≤ n1) (he : e = 0 ∨ e = 1) (hdd : d = 0 ∨ d = 1) (hE : xE σ σ1) (hM : mM T σ1) (e1 : f_AckBookLaw_send F X (some (B + 0)) x y e d (some (B + 55)) (o_w B X τ σ n c s) = some (.inl (some (.int v)), o_w B X τ1 σ1 n1 c1 s1)) (hX2 : mX σ1 σ2) (e2 : f_AckBookModel_send F X (some (B + 31)) x y e d (o_w B X τ1 σ1 n1 c1 s1) = some (o2, o_w B X τ1 σ2 n1 c1 s1)) : kD (T + 1) τ1 σ2 := by
  obtain ⟨P, m, D, ew, ft, q, S, t, a, W, p, L, H, ds, ga, k1, k2, k3⟩ := h
  have k2' := k2.xe hE k3.1.2.1
  obtain ⟨-, -, -, -, -, hn, hN, -, -⟩ := id hI
  unfold f_AckBookLaw_send at e1
  rw [ot_0] at e1
  have ref : ∀ σE, sC τ σ τ1 σ1 → (∀ o f, ¬ (o = 31 ∧ f = 0) → σE.1 o f = σ1.1 o f) → σE.2 = σ1.2 → rC σE σ2 → kD (T + 1) τ1 σ2 := fun σE hC h1 h2 h3 => ⟨P, m, D, ew, ft, q, S, t, a, W, p, L, H, ds, ga, k1.keep (hC.trans hX2.sc), (k2'.keep (σ1 := σE) (fun o _ _ => ⟨fun f w => h1 o f (fun u => w ⟨u.1, Or.inl u.2⟩), by rw [h2]⟩) k3.1.2.1).rc h3, k3.up⟩
  by_cases hb : m_vBad x y e d
  · rw [c_sndB hb] at e1
    obtain ⟨-, q1⟩ := x_thsI (u := 1) hX hn hN e1 (fun w => rfl)
    rw [u_sendB x y e d hb] at e2
    exact ref _ q1 (z0.put 1).1 rfl (x_enr hn1 e2).2
  · obtain ⟨k, hk, rfl⟩ : ∃ k, k < 3 ∧ x = nI k := (e_sp x).resolve_left (fun w => hb (Or.inl w))
    by_cases hd : ds k = 0
    · obtain ⟨τ', σ', n', c', s', b, S', d1, ⟨d2, d3⟩, d4, ⟨s6, s7, -⟩, -⟩ := c_sndA (B := B) (X := X) (F := F) hI k1 k3 hX hT hk hd he hdd hb
      rw [d1] at e1
      obtain ⟨z1, u', σG, z3, z4, z5⟩ := x_okI (τ := τ') (n := n') (c := c') (s := s') hX d2 d3 (pW.ret (Q := fun _ σG => sP τ' σG (uk P k (uk (P k) (m k) n)) (uk m k (m k + 1)) (uk D k (dN (D k) (m k) (vN y (nI t) e d b))) (uk ft k (uk (ft k) (m k) 0)) q (uk S k S') t W p L H ds) d4) e1
      obtain ⟨σA, v', g1, -, g3, -⟩ := m_sndA (B := B) (X := X) (F := F) (τ := τ1) (n := n1) (c := c1) (s := s1) k2' (fun k' hk' => by have := (k3.2.1 k' hk').1.1; omega) hF hk hd he hdd hb
      rw [g1] at e2
      have w2 := (x_enr hn1 e2).2
      have g3 := g3 (if v' ≤ σ1.1 31 24 - 1200 then 0 else 1)
      generalize (if v' ≤ σ1.1 31 24 - 1200 then (0 : Int32) else 1) = bb at w2 g3
      have eD : uk (fun k => dX (D k) (ew k)) k (dN (dX (D k) (ew k)) (m k) (vN y (nI t) e d bb)) = fun k' => dX (uk D k (dN (D k) (m k) (vN y (nI t) e d b)) k') (uk ew k (uk (ew k) (m k) bb) k') := by
        funext k'
        by_cases ek : k' = k
        · subst ek
          rw [uk_at, uk_at, uk_at]
          exact dX.new
        · rw [uk_ne _ _ ek, uk_ne _ _ ek, uk_ne _ _ ek]
      rw [eD] at g3
      refine ⟨_, _, _, uk ew k (uk (ew k) (m k) bb), _, q, _, t, _, W, p, L, H, ds, ga, z3.keep (z4.trans hX2.sc), (g3.s7 (S1 := uk S k S') (fun k' hk' => ?_)).rc w2, k3.snd hk (fun k' i hk' hi w => ?_) s6 s7⟩
      · by_cases ek : k' = k
        · rw [ek, uk_at]
          exact s7
        · rw [uk_ne _ _ ek]
      · have z := ((k1.2.1 k' hk').1.1.2.2 i hi).1.1.2
        rw [w, hN n (Nat.le_refl _)] at z
        cases z
    · have hd1 : ds k = 1 := ((k3.2.1 k hk).2.2.2.2).resolve_left hd
      rw [c_sndD hk hb (by rw [(k1.2.1 k hk).2]; exact hd)] at e1
      obtain ⟨-, q1⟩ := x_thsI (u := 2) hX hn hN e1 (fun w => rfl)
      rw [u_sendD hM hk y e d hb ((k2'.2.1 k hk).1.2.2.trans hd1)] at e2
      exact ref _ q1 ((z0.put 0).step (v := 2)).1 rfl (x_enr hn1 e2).2
end IH
