/-! send, both sides. -/
section IG
variable {B X F : Nat} {τ τ1 τ2 : zK} {n c s n1 c1 s1 T : Nat} {σ σ1 σ2 σ3 : zS} {P : Nat → Nat → Nat} {m : Nat → Nat} {D : Nat → Nat → Nat → Int32} {ft : Nat → Nat → Int32} {q : Nat → Nat → List Nat} {S : Nat → Nat → Int32} {t p : Nat} {a : Nat → Nat → Nat} {W ds ga : Nat → Int32} {L H : Nat → Int64} {k b : Nat} {x y z e d : Int32}
theorem sP.snd {v S' : Nat → Int32} (h : sP τ σ P m D ft q S t W p L H ds) (hdis : ∀ k k' i j, k < 3 → k' < 3 → k ≠ k' → i < m k → j < m k' → P k i ≠ P k' j) (hk : k < 3) (hn : 56 ≤ n) (hN : ∀ o, n ≤ o → τ o = none) (kp : ∀ o, o_pk τ o → o_pk τ1 o) (ka : ∀ o cp, o_ar τ o cp → o_ar τ1 o cp) (hpn : o_pk τ1 n) (h1 : ∀ o, o ≠ 0 → o ≠ 30 → o ≠ n → o ≠ n + 1 → o ≠ 3 + 8 * k → o ≠ 6 + 8 * k → σ1.1 o = σ.1 o) (h04 : σ1.1 0 4 = σ.1 0 4) (hL : σ1.2.1 = σ.2.1) (h2 : ∀ o, o ≠ 6 + 8 * k → o ≠ n → o ≠ n + 1 → σ.2.2 (6 + 8 * k) 0 ≠ some o → σ1.2.2 o = σ.2.2 o) (n0 : σ1.1 n 0 = nI (m k)) (nf : ∀ f, 1 ≤ f → f ≤ 5 → σ1.1 n f = v f) (n6 : σ1.1 n 6 = 0) (n7 : σ1.2.2 n 7 = none) (hA : dA τ1 σ1 (uk (P k) (m k) n) (m k + 1) k) (hSt : ∀ f, 3 ≤ f → f ≤ 7 → σ1.1 (3 + 8 * k) f = S' f) : sP τ1 σ1 (uk P k (uk (P k) (m k) n)) (uk m k (m k + 1)) (uk D k (dN (D k) (m k) v)) (uk ft k (uk (ft k) (m k) 0)) q (uk S k S') t W p L H ds := by
  obtain ⟨b1, b2, b3, b4, b5⟩ := h
  have hpk : ∀ k' i, k' < 3 → i < m k' → o_pk τ (P k' i) := fun k' i hk' hi => ((b2 k' hk').1.1.2.2 i hi).1.1
  have hlt : ∀ k' i, k' < 3 → i < m k' → P k' i < n := fun k' i hk' hi => Nat.lt_of_not_le fun w => by
    have := (hpk k' i hk' hi).2
    rw [hN _ w] at this
    cases this
  have h56 : ∀ k' i, k' < 3 → i < m k' → 56 ≤ P k' i := fun k' i hk' hi => (hpk k' i hk' hi).1
  have hdA := (b2 k hk).1.1.1.2
  have hne : ∀ o, o_pk τ o → σ.2.2 (6 + 8 * k) 0 ≠ some o := fun o ho w => by
    rcases hdA with ⟨-, z⟩ | ⟨e, cap, g1, g2, -⟩
    · rw [z] at w
      cases w
    · rw [g1] at w
      obtain rfl := Option.some.inj w
      have z1 := ho.2
      rw [g2.2] at z1
      cases z1
  have hlo : ∀ o, o < 56 → σ.2.2 (6 + 8 * k) 0 ≠ some o := fun o ho w => by
    rcases hdA with ⟨-, z⟩ | ⟨e, cap, g1, g2, -⟩
    · rw [z] at w
      cases w
    · rw [g1] at w
      obtain rfl := Option.some.inj w
      have := g2.1
      omega
  have cI : ∀ k' i, k' < 3 → i < m k' → σ1.1 (P k' i) = σ.1 (P k' i) := fun k' i hk' hi => by
    have z1 := h56 k' i hk' hi
    have z2 := hlt k' i hk' hi
    exact h1 _ (by omega) (by omega) (by omega) (by omega) (by omega) (by omega)
  have cR : ∀ k' i, k' < 3 → i < m k' → σ1.2.2 (P k' i) = σ.2.2 (P k' i) := fun k' i hk' hi => by
    have z1 := h56 k' i hk' hi
    have z2 := hlt k' i hk' hi
    exact h2 _ (by omega) (by omega) (by omega) (hne _ (hpk k' i hk' hi))
  refine ⟨h04.trans b1, fun k' hk' => ⟨?_, ?_⟩, fun f hf => by rw [h1 29 (by omega) (by omega) (by omega) (by omega) (by omega) (by omega)]; exact b3 f hf, by rw [h1 26 (by omega) (by omega) (by omega) (by omega) (by omega) (by omega)]; exact b4, fun j hj => by rw [hL]; exact b5 j hj⟩
  · by_cases ek : k' = k
    · subst ek
      rw [uk_at, uk_at, uk_at, uk_at, uk_at]
      refine (b2 k' hk').1.new hk' (fun i hi => hlt k' i hk' hi) hn kp hpn (fun i hi => cI k' i hk' hi) (fun o ho => ?_) n0 nf n6 n7 hA hSt
      rcases ho with rfl | rfl | ⟨i, hi, rfl⟩
      · exact h2 _ (by omega) (by omega) (by omega) (hlo _ (by omega))
      · exact h2 _ (by omega) (by omega) (by omega) (hlo _ (by omega))
      · exact cR k' i hk' hi
    · rw [uk_ne _ _ ek, uk_ne _ _ ek, uk_ne _ _ ek, uk_ne _ _ ek, uk_ne _ _ ek]
      refine (b2 k' hk').1.far kp ka (fun o ho => ?_) (fun o ho => ?_) (fun e cp hm g1 g2 g5 => ?_)
      · rcases ho with rfl | rfl | ⟨i, hi, rfl⟩
        · exact h1 _ (by omega) (by omega) (by omega) (by omega) (by omega) (by omega)
        · exact h1 _ (by omega) (by omega) (by omega) (by omega) (by omega) (by omega)
        · exact cI k' i hk' hi
      · rcases ho with rfl | rfl | rfl | ⟨i, hi, rfl⟩
        · exact h2 _ (by omega) (by omega) (by omega) (hlo _ (by omega))
        · exact h2 _ (by omega) (by omega) (by omega) (hlo _ (by omega))
        · exact h2 _ (by omega) (by omega) (by omega) (hlo _ (by omega))
        · exact cR k' i hk' hi
      · have z1 := g2.1
        have z2 : e < n := Nat.lt_of_not_le fun w => by
          have := g2.2
          rw [hN _ w] at this
          cases this
        refine h2 e (by omega) (by omega) (by omega) (fun w => ?_)
        rcases hdA with ⟨-, z⟩ | ⟨e', cap, d1, d2, d3, d4, d5⟩
        · rw [z] at w
          cases w
        · rw [d1] at w
          obtain rfl := Option.some.inj w
          have z3 := d5 0 d3.1
          rw [g5] at z3
          exact hdis k' k 0 0 hk' hk ek hm d3.1 (Option.some.inj z3)
  · rw [h1 _ (by omega) (by omega) (by omega) (by omega) (by omega) (by omega)]
    exact (b2 k' hk').2
/-- the flow behind it -/
def fS (σ σ1 : zS) (n : Nat) (y d : Int32) : Prop := (∀ f, f ≠ 0 → σ1.1 30 f = σ.1 30 f) ∧ σ1.1 30 0 = (if d = 0 then σ.1 30 0 else σ.1 30 0 + y) ∧ σ1.1 n 5 = (if σ1.1 30 0 ≤ σ1.1 30 1 - 1200 then 0 else 1) ∧ ∀ f, f ≠ 6 → σ1.1 0 f = σ.1 0 f
set_option maxHeartbeats 1000000 in
theorem c_sndA (hI : kI T τ σ n c s) (h : sP τ σ P m D ft q S t W p L H ds) (hu : uP T P m D S t a W p L H ds ga) (hX : X < B) (hT : T < 512) (hk : k < 3) (hd : ds k = 0) (he : e = 0 ∨ e = 1) (hdd : d = 0 ∨ d = 1) (hb : ¬ m_vBad (nI k) y e d) : ∃ τ' σ' n' c' s' b S', f_AckBook_send F X (some (B + 0)) (nI k) y e d (o_w B X τ σ n c s) = some (.inl (some (.int (nI (m k)))), o_w B X τ' σ' n' c' s') ∧ (56 ≤ n' ∧ ∀ o, n' ≤ o → τ' o = none) ∧ sP τ' σ' (uk P k (uk (P k) (m k) n)) (uk m k (m k + 1)) (uk D k (dN (D k) (m k) (vN y (nI t) e d b))) (uk ft k (uk (ft k) (m k) 0)) q (uk S k S') t W p L H ds ∧ (S' 6 = S k 6 ∧ S' 7 = S k 7 ∧ S' 3 = S k 3 + 1 ∧ S' 4 = (if e = 0 then S k 4 else S k 4 + 1) ∧ S' 5 = (if e = 0 then S k 5 else nI t)) ∧ fS σ σ' n y d ∧ b = σ'.1 n 5 ∧ σ'.1 0 6 = nI t := by
  obtain ⟨N, rk, R, hJ, hR, n1, n2, n3, n4⟩ := hI
  have b1 := h.1
  obtain ⟨hS, hds⟩ := h.2.1 k hk
  have hA := hS.1.1
  have hSt := hS.2.2
  have hm : m k < 512 := by have := (hu.2.1 k hk).1.1; omega
  have hc1 : 1 ≤ c ∧ 8 ≤ s := by omega
  have hc2 : 2 ≤ c - 1 := by omega
  have hc3 : 2000 ≤ s - 8 := by omega
  rw [k_send48 hk y e d hb]
  unfold q_AckBook_send_48
  simp only [f_AckBook_refuseDiscarded, oi_s2_3 hk]
  rw [if_pos (hds.trans hd)]
  simp only [y_cV, or_s2_1 hk, ot_s3 hk, f_AckBook_Sent_count, or_s3_2 hk, ot_s6 hk, c_size hk, y_cI, hA.1.1]
  rw [if_pos (show nI (m k) < (4096 : Int32) from nI_lt (b := 4096) (by omega) (by decide)), d_new n1, if_pos hc1]
  have hp : o_pk (o_kd τ n (.inl 9)) n := ⟨n1, by unfold o_kd; rw [if_pos rfl]⟩
  have eN : (o_clr σ n).1 (6 + 8 * k) 1 = nI (m k) := by rw [c11, if_neg (by omega)]; exact hA.1.1
  have eT : (o_clr σ n).1 0 4 = nI t := by rw [c11, if_neg (by omega)]; exact b1
  simp only [or_s2_1 hk, ot_s3 hk, or_s3_2 hk, ot_s6 hk, c_size hk, y_cI, eN, oi_0_4, eT, z_nn, f_AckBook_Packet_init, d_pI hp 0 (by omega), d_pI hp 1 (by omega), d_pI hp 2 (by omega), d_pZ hp 3 (by omega), d_pZ hp 4 (by omega), if_pos he, if_pos hdd, d_pI hp 6 (by omega), y_cV]
  generalize hσp : o_I (o_I (o_I (o_I (o_I (o_I (o_clr σ n) n 0 (nI (m k))) n 1 y) n 2 (nI t)) n 3 e) n 4 d) n 6 0 = σp
  have pI : ∀ a, a ≠ n → σp.1 a = σ.1 a := fun a ha => funext fun b => by rw [← hσp]; simp [i11, c11, ha]
  have pR : ∀ a, a ≠ n → σp.2.2 a = σ.2.2 a := fun a ha => funext fun b => by rw [← hσp]; simp [i12, c13, ha]
  have pL : σp.2.1 = σ.2.1 := by rw [← hσp]; rfl
  have p0 : σp.1 n 0 = nI (m k) := by rw [← hσp]; simp [i11]
  have p1 : σp.1 n 1 = y := by rw [← hσp]; simp [i11]
  have p2 : σp.1 n 2 = nI t := by rw [← hσp]; simp [i11]
  have p3 : σp.1 n 3 = e := by rw [← hσp]; simp [i11]
  have p4 : σp.1 n 4 = d := by rw [← hσp]; simp [i11]
  have p6 : σp.1 n 6 = 0 := by rw [← hσp]; simp [i11]
  have p7 : σp.2.2 n 7 = none := by rw [← hσp]; simp [i12, c13]
  clear hσp
  have ne1 : ∀ o, o_pk τ o → o ≠ n := fun o h => by
    rintro rfl
    have h2 := h.2
    rw [n2 o (Nat.le_refl _)] at h2
    cases h2
  have ne2 : ∀ o cp, o_ar τ o cp → o ≠ n := fun o cp h => by
    rintro rfl
    have h2 := h.2
    rw [n2 o (Nat.le_refl _)] at h2
    cases h2
  have kp : ∀ o, o_pk τ o → o_pk (o_kd τ n (.inl 9)) o := fun o h => ⟨h.1, by unfold o_kd; rw [if_neg (ne1 o h)]; exact h.2⟩
  have ka : ∀ o cp, o_ar τ o cp → o_ar (o_kd τ n (.inl 9)) o cp := fun o cp h => ⟨h.1, by unfold o_kd; rw [if_neg (ne2 o cp h)]; exact h.2⟩
  have hAp : dA (o_kd τ n (.inl 9)) σp (P k) (m k) k := by
    refine ⟨⟨by rw [pI _ (by omega)]; exact hA.1.1, hA.1.2⟩, ?_⟩
    rcases hA.2 with w | ⟨e', cap, g1, g2, g3, g4, g5⟩
    · exact Or.inl ⟨w.1, by rw [pR _ (by omega)]; exact w.2⟩
    · exact Or.inr ⟨e', cap, by rw [pR _ (by omega)]; exact g1, ka _ _ g2, g3, g4, fun i hi => by rw [pR _ (ne2 _ _ g2)]; exact g5 i hi⟩
  obtain ⟨τ2, σ2, n', c', s', d1, d2, d3, d4, d5, d6, d7, d8⟩ := d_add (B := B) (X := X) (F := F) (c := c - 1) (s := s - 8) (n := n + 1) hAp (fun i hi => kp _ (hS.1.2.2 i hi).1.1) hm hX ⟨by omega, fun o ho => by unfold o_kd; rw [if_neg (by omega)]; exact n2 o (by omega)⟩ hc2 hc3 hk hp
  have b6 : o_pk τ2 n := d4 n hp
  have qn : σ2.1 n = σp.1 n := d6 n (by omega) (by omega)
  have q2 : ∀ o, o ≠ n → o ≠ n + 1 → o ≠ 6 + 8 * k → σ2.1 o = σ.1 o := fun o h1 h2 h3 => (d6 o h3 h2).trans (pI o h1)
  simp only [or_s2_1 hk, ot_s3 hk, f_AckBook_Sent_enter, or_s3_2 hk, ot_s6 hk, d1, y_cI, oi_s3_3 hk, op_s3_3 hk, d_gI b6 3 (by omega)]
  -- what comes behind: the flow, the time of sending
  have fin : ∀ (σ3 : zS) (S' : Nat → Int32), (∀ o, o ≠ 3 + 8 * k → σ3.1 o = σ2.1 o) → σ3.2 = σ2.2 → (∀ f, 3 ≤ f → f ≤ 7 → σ3.1 (3 + 8 * k) f = S' f) → ∃ τ' σ' n'' c'' s'' b, (z_cV (some (.inl none, o_w B X τ2 σ3 n' c' s')) fun w => z_getR w 0 3 (some (B + 0)) fun r13 => z_this w 8 r13 <| z_cV (f_AckBook_Flow_enter F X r13 (some (B + n)) w) fun w => z_getI w 0 4 (some (B + 0)) fun v15 => z_put w 0 6 (some (B + 0)) (.int v15) fun w => z_getI w 9 0 (some (B + n)) fun v16 => some (.inl (some (.int v16)), w)) = some (.inl (some (.int (nI (m k)))), o_w B X τ' σ' n'' c'' s'') ∧ (56 ≤ n'' ∧ ∀ o, n'' ≤ o → τ' o = none) ∧ sP τ' σ' (uk P k (uk (P k) (m k) n)) (uk m k (m k + 1)) (uk D k (dN (D k) (m k) (vN y (nI t) e d b))) (uk ft k (uk (ft k) (m k) 0)) q (uk S k S') t W p L H ds ∧ fS σ σ' n y d ∧ b = σ'.1 n 5 ∧ σ'.1 0 6 = nI t := by
    intro σ3 S' g1 g2 g3
    have e4 : σ3.1 n 4 = d := by rw [g1 n (by omega), qn]; exact p4
    have e1 : σ3.1 n 1 = y := by rw [g1 n (by omega), qn]; exact p1
    have s30 : ∀ f, σ3.1 30 f = σ.1 30 f := fun f => by rw [g1 30 (by omega), q2 30 (by omega) (by omega) (by omega)]
    have s0 : ∀ f, σ3.1 0 f = σ.1 0 f := fun f => by rw [g1 0 (by omega), q2 0 (by omega) (by omega) (by omega)]
    have key : ∀ σ5 : zS, (∀ o f, ¬ (o = 30 ∧ f = 0) → σ5.1 o f = σ3.1 o f) → σ5.2 = σ3.2 → σ5.1 30 0 = (if d = 0 then σ.1 30 0 else σ.1 30 0 + y) → ∃ b σ', q_AckBook_Flow_enter_20 F X (some (B + 30)) (some (B + n)) (o_w B X τ2 σ5 n' c' s') = some (.inl none, o_w B X τ2 (o_I σ5 n 5 b) n' c' s') ∧ σ' = o_I (o_I σ5 n 5 b) 0 6 (nI t) ∧ (o_I σ5 n 5 b).1 0 4 = nI t ∧ σ'.1 n 0 = nI (m k) ∧ sP τ2 σ' (uk P k (uk (P k) (m k) n)) (uk m k (m k + 1)) (uk D k (dN (D k) (m k) (vN y (nI t) e d b))) (uk ft k (uk (ft k) (m k) 0)) q (uk S k S') t W p L H ds ∧ fS σ σ' n y d ∧ b = σ'.1 n 5 ∧ σ'.1 0 6 = nI t := by
      intro σ5 w1 w2 w3
      have cn5 : ∀ b : Int32, (o_I (o_I σ5 n 5 b) 0 6 (nI t)).1 n 5 = b := fun b => by rw [i11, if_neg (by omega), i11, if_pos ⟨rfl, rfl⟩]
      have c30 : ∀ (b : Int32) (f : Nat), (o_I (o_I σ5 n 5 b) 0 6 (nI t)).1 30 f = σ5.1 30 f := fun b f => by rw [i11, if_neg (by omega), i11, if_neg (by omega)]
      refine ⟨if σ5.1 30 0 ≤ σ5.1 30 1 - 1200 then 0 else 1, _, ?_, rfl, ?_, ?_, ?_, ⟨fun f hf => ?_, ?_, ?_, fun f hf => ?_⟩, ?_, ?_⟩
      · unfold q_AckBook_Flow_enter_20
        simp only [oi_30_0, oi_30_1, d_pZ b6 5 (by omega)]
        split
        · rw [if_pos (by simp)]
        · rw [if_pos (by simp)]
      · rw [i11, if_neg (by omega), w1 _ _ (by omega), s0]
        exact b1
      · rw [i11, if_neg (by omega), i11, if_neg (by omega), w1 _ _ (by omega), g1 n (by omega), qn]
        exact p0
      · generalize hB : (if σ5.1 30 0 ≤ σ5.1 30 1 - 1200 then (0 : Int32) else 1) = b
        have cI : ∀ o f, ¬ (o = 0 ∧ f = 6) → ¬ (o = n ∧ f = 5) → ¬ (o = 30 ∧ f = 0) → (o_I (o_I σ5 n 5 b) 0 6 (nI t)).1 o f = σ3.1 o f := fun o f z1 z2 z3 => by rw [i11, if_neg z1, i11, if_neg z2, w1 o f z3]
        have c2 : (o_I (o_I σ5 n 5 b) 0 6 (nI t)).2 = σ2.2 := w2.trans g2
        have c5 : (o_I (o_I σ5 n 5 b) 0 6 (nI t)).1 n 5 = b := by rw [i11, if_neg (by omega), i11, if_pos ⟨rfl, rfl⟩]
        generalize o_I (o_I σ5 n 5 b) 0 6 (nI t) = σ' at cI c2 c5
        refine h.snd hu.2.2 hk n1 n2 (fun o ho => d4 o (kp o ho)) (fun o cp ho => d5 o cp (ka o cp ho)) b6 (fun o z1 z2 z3 z4 z5 z6 => funext fun f => ?_) ?_ (by rw [c2, d7, pL]) (fun o z1 z2 z3 z4 => ?_) ?_ (fun f f1 f2 => ?_) ?_ ?_ ⟨⟨?_, d2.1.2⟩, ?_⟩ (fun f f1 f2 => ?_)
        · rw [cI o f (by omega) (by omega) (by omega), g1 o z5, q2 o z3 z4 z6]
        · rw [cI 0 4 (by omega) (by omega) (by omega)]
          exact s0 4
        · rw [c2, d8 o z1 z3 (by rw [pR _ (by omega)]; exact z4), pR o z2]
        · rw [cI n 0 (by omega) (by omega) (by omega), g1 n (by omega), qn]
          exact p0
        · have en : ∀ f, f ≠ 5 → σ'.1 n f = σp.1 n f := fun f hf => by rw [cI n f (by omega) (by omega) (by omega), g1 n (by omega), qn]
          rcases (by omega : f = 1 ∨ f = 2 ∨ f = 3 ∨ f = 4 ∨ f = 5) with rfl | rfl | rfl | rfl | rfl
          · exact (en 1 (by omega)).trans p1
          · exact (en 2 (by omega)).trans p2
          · exact (en 3 (by omega)).trans p3
          · exact (en 4 (by omega)).trans p4
          · exact c5
        · rw [cI n 6 (by omega) (by omega) (by omega), g1 n (by omega), qn]
          exact p6
        · rw [c2, d8 n (by omega) (by omega) (by
            rw [pR _ (by omega)]
            intro w
            rcases hA.2 with ⟨-, z⟩ | ⟨e', cap, g1', g2', -⟩
            · rw [z] at w
              cases w
            · rw [g1'] at w
              exact ne2 _ _ g2' (Option.some.inj w))]
          exact p7
        · rw [cI (6 + 8 * k) 1 (by omega) (by omega) (by omega), g1 _ (by omega)]
          exact d2.1.1
        · rw [c2]
          exact d2.2
        · rw [cI (3 + 8 * k) f (by omega) (by omega) (by omega)]
          exact g3 f f1 f2
      · rw [i11, if_neg (by omega), i11, if_neg (by omega), w1 _ _ (by omega), s30]
      · rw [i11, if_neg (by omega), i11, if_neg (by omega)]
        exact w3
      · rw [cn5, c30, c30]
      · rw [i11, if_neg (by omega), i11, if_neg (by omega), w1 _ _ (by omega), s0]
      · exact (cn5 _).symm
      · rw [i11, if_pos ⟨rfl, rfl⟩]
    have fl : ∃ σ5 : zS, f_AckBook_Flow_enter F X (some (B + 30)) (some (B + n)) (o_w B X τ2 σ3 n' c' s') = q_AckBook_Flow_enter_20 F X (some (B + 30)) (some (B + n)) (o_w B X τ2 σ5 n' c' s') ∧ (∀ o f, ¬ (o = 30 ∧ f = 0) → σ5.1 o f = σ3.1 o f) ∧ σ5.2 = σ3.2 ∧ σ5.1 30 0 = (if d = 0 then σ.1 30 0 else σ.1 30 0 + y) := by
      unfold f_AckBook_Flow_enter
      simp only [d_gI b6 4 (by omega), d_gI b6 1 (by omega), oi_30_0, op_30_0, e4, e1]
      by_cases hd0 : d = 0
      · rw [if_pos hd0, if_pos hd0]
        exact ⟨σ3, rfl, fun _ _ _ => rfl, rfl, s30 0⟩
      · rw [if_neg hd0, if_neg hd0]
        exact ⟨_, rfl, fun o f w => by rw [i11, if_neg w], rfl, by rw [i11, if_pos ⟨rfl, rfl⟩, s30]⟩
    obtain ⟨σ5, f1, f2, f3, f4⟩ := fl
    obtain ⟨b, σ', k1, k2, k3, k4, k5, k6, k7, k8⟩ := key σ5 f2 f3 f4
    refine ⟨τ2, σ', n', c', s', b, ?_, d3, k5, k6, k7, k8⟩
    simp only [y_cV, or_0_3, ot_30, f1, k1, oi_0_4, k3, op_0_6, d_gI b6 0 (by omega)]
    rw [← k2, k4]
  have g3 : σ2.1 (3 + 8 * k) = σ.1 (3 + 8 * k) := q2 _ (by omega) (by omega) (by omega)
  have e3 : (o_I σ2 (3 + 8 * k) 3 (σ2.1 (3 + 8 * k) 3 + 1)).1 n 3 = e := by rw [i11, if_neg (by omega), qn]; exact p3
  have e2 : (o_I (o_I σ2 (3 + 8 * k) 3 (σ2.1 (3 + 8 * k) 3 + 1)) (3 + 8 * k) 4 ((o_I σ2 (3 + 8 * k) 3 (σ2.1 (3 + 8 * k) 3 + 1)).1 (3 + 8 * k) 4 + 1)).1 n 2 = nI t := by rw [i11, if_neg (by omega), i11, if_neg (by omega), qn]; exact p2
  simp only [oi_s3_4 hk, op_s3_4 hk, d_gI b6 2 (by omega), op_s3_5 hk, e3, e2]
  have hS2 : ∀ f, 3 ≤ f → f ≤ 7 → σ2.1 (3 + 8 * k) f = S k f := fun f f1 f2 => by rw [g3]; exact hSt f f1 f2
  by_cases he0 : e = 0
  · rw [if_pos he0]
    obtain ⟨τ', σ', n'', c'', s'', b, k1, k2, k3, k4⟩ := fin (o_I σ2 (3 + 8 * k) 3 (σ2.1 (3 + 8 * k) 3 + 1)) (uk (S k) 3 (S k 3 + 1)) (fun o ho => i_fun_ne ho) rfl (fun f f1 f2 => by
      rw [i11]
      by_cases w : f = 3
      · subst w
        rw [if_pos ⟨rfl, rfl⟩, uk_at, hS2 3 (by omega) (by omega)]
      · rw [if_neg (fun z => w z.2), uk_ne _ _ w]
        exact hS2 f f1 f2)
    exact ⟨τ', σ', n'', c'', s'', b, _, k1, k2, k3, ⟨uk_ne _ _ (by omega), uk_ne _ _ (by omega), uk_at _ _ _, by rw [if_pos he0]; exact uk_ne _ _ (by omega), by rw [if_pos he0]; exact uk_ne _ _ (by omega)⟩, k4⟩
  · rw [if_neg he0]
    have e4 : (o_I σ2 (3 + 8 * k) 3 (σ2.1 (3 + 8 * k) 3 + 1)).1 (3 + 8 * k) 4 = S k 4 := by rw [i11, if_neg (by omega)]; exact hS2 4 (by omega) (by omega)
    obtain ⟨τ', σ', n'', c'', s'', b, k1, k2, k3, k4⟩ := fin (o_I (o_I (o_I σ2 (3 + 8 * k) 3 (σ2.1 (3 + 8 * k) 3 + 1)) (3 + 8 * k) 4 ((o_I σ2 (3 + 8 * k) 3 (σ2.1 (3 + 8 * k) 3 + 1)).1 (3 + 8 * k) 4 + 1)) (3 + 8 * k) 5 (nI t)) (uk (uk (uk (S k) 3 (S k 3 + 1)) 4 (S k 4 + 1)) 5 (nI t)) (fun o ho => by rw [i_fun_ne ho, i_fun_ne ho, i_fun_ne ho]) rfl (fun f f1 f2 => by
      rw [e4, i11, i11, i11]
      rcases (by omega : f = 3 ∨ f = 4 ∨ f = 5 ∨ f = 6 ∨ f = 7) with rfl | rfl | rfl | rfl | rfl
      · rw [if_neg (by omega), if_neg (by omega), if_pos ⟨rfl, rfl⟩, uk_ne _ _ (by omega), uk_ne _ _ (by omega), uk_at, hS2 3 (by omega) (by omega)]
      · rw [if_neg (by omega), if_pos ⟨rfl, rfl⟩, uk_ne _ _ (by omega), uk_at]
      · rw [if_pos ⟨rfl, rfl⟩, uk_at]
      · rw [if_neg (by omega), if_neg (by omega), if_neg (by omega), uk_ne _ _ (by omega), uk_ne _ _ (by omega), uk_ne _ _ (by omega)]
        exact hS2 6 (by omega) (by omega)
      · rw [if_neg (by omega), if_neg (by omega), if_neg (by omega), uk_ne _ _ (by omega), uk_ne _ _ (by omega), uk_ne _ _ (by omega)]
        exact hS2 7 (by omega) (by omega))
    exact ⟨τ', σ', n'', c'', s'', b, _, k1, k2, k3, ⟨by rw [uk_ne _ _ (by omega), uk_ne _ _ (by omega), uk_ne _ _ (by omega)], by rw [uk_ne _ _ (by omega), uk_ne _ _ (by omega), uk_ne _ _ (by omega)], by rw [uk_ne _ _ (by omega), uk_ne _ _ (by omega), uk_at], by rw [if_neg he0, uk_ne _ _ (by omega), uk_at], by rw [if_neg he0, uk_at]⟩, k4⟩
end IG
