/-! send, all alike. -/
section LE
variable {B X F : Nat} {τ τ1 : zK} {n c s n1 c1 s1 T : Nat} {σ σ' σ1 σ2 σ3 : zS} {P : Nat → Nat → Nat} {m : Nat → Nat} {D : Nat → Nat → Nat → Int32} {ft : Nat → Nat → Int32} {q : Nat → Nat → List Nat} {S : Nat → Nat → Int32} {t p : Nat} {a : Nat → Nat → Nat} {W ds ga : Nat → Int32} {L H : Nat → Int64} {k : Nat} {x y e d b : Int32}
theorem dN_old {D : Nat → Nat → Int32} {m f i : Nat} {v : Nat → Int32} (h : i ≠ m) : dN D m v f i = D f i := uk_ne _ _ h
theorem dN_new {D : Nat → Nat → Int32} {m f : Nat} {v : Nat → Int32} : dN D m v f m = v f := uk_at _ _ _
theorem sm_new {w w' ft : Nat → Int32} {m : Nat} (h : ∀ i, i < m → w' i = w i) : sm w' (uk ft m 0) (m + 1) = sm w ft m + w' m := by
  show sm w' (uk ft m 0) m + (if uk ft m 0 m = 0 then w' m else 0) = _
  rw [uk_at, if_pos rfl, sm_wcongr m h, sm_congr m (f := uk ft m 0) (g := ft) (fun i hi => by rw [uk_ne _ _ (by omega)])]
theorem cz_old {D : Nat → Nat → Int32} {m i : Nat} {v : Nat → Int32} (h : i < m) : cz (dN D m v) i = cz D i := by
  unfold cz
  rw [dN_old (by omega), dN_old (by omega)]
theorem ez_old {D : Nat → Nat → Int32} {m i : Nat} {v : Nat → Int32} (h : i < m) : ez (dN D m v) i = ez D i := by
  unfold ez
  rw [dN_old (by omega)]
theorem cz_new {D : Nat → Nat → Int32} {m : Nat} {y t e d b : Int32} : cz (dN D m (vN y t e d b)) m = if d = 0 then 0 else y := by
  unfold cz
  rw [dN_new, dN_new]
  rfl
theorem ez_new {D : Nat → Nat → Int32} {m : Nat} {y t e d b : Int32} : ez (dN D m (vN y t e d b)) m = if e = 0 then 0 else 1 := by
  unfold ez
  rw [dN_new]
  rfl
theorem la_old {D D' : Nat → Nat → Int32} : ∀ m, (∀ i, i < m → D' 3 i = D 3 i ∧ D' 2 i = D 2 i) → la D' m = la D m
  | 0, _ => rfl
  | m + 1, h => by
    show (if D' 3 m = 0 then la D' m else D' 2 m) = if D 3 m = 0 then la D m else D 2 m
    rw [(h m (by omega)).1, (h m (by omega)).2, la_old m (fun i hi => h i (by omega))]
theorem la_new {D : Nat → Nat → Int32} {m : Nat} {y t e d b : Int32} : la (dN D m (vN y t e d b)) (m + 1) = if e = 0 then la D m else t := by
  show (if dN D m (vN y t e d b) 3 m = 0 then la (dN D m (vN y t e d b)) m else dN D m (vN y t e d b) 2 m) = _
  rw [dN_new, dN_new, la_old m (fun i hi => ⟨dN_old (by omega), dN_old (by omega)⟩)]
  rfl
theorem rS_add {f f' : Nat → Int32} {u : Int32} (hk : k < 3) (h1 : ∀ j, j < 3 → j ≠ k → f' j = f j) (h2 : f' k = f k + u) : rS f' 3 = rS f 3 + u := by
  rw [rS3, rS3]
  rcases (by omega : k = 0 ∨ k = 1 ∨ k = 2) with rfl | rfl | rfl
  · rw [h1 1 (by omega) (by omega), h1 2 (by omega) (by omega), h2, Int32.add_assoc, Int32.add_comm u, ← Int32.add_assoc]
  · rw [h1 0 (by omega) (by omega), h1 2 (by omega) (by omega), h2, Int32.add_assoc (f 1) u, Int32.add_comm u, ← Int32.add_assoc (f 1), ← Int32.add_assoc (f 0)]
  · rw [h1 0 (by omega) (by omega), h1 1 (by omega) (by omega), h2, Int32.add_zero, Int32.add_zero, ← Int32.add_assoc (f 1), ← Int32.add_assoc (f 0)]
theorem fA_new (hk : k < 3) (hd : ds k = 0) : fA (uk m k (m k + 1)) (uk D k (dN (D k) (m k) (vN y (nI t) e d b))) (uk ft k (uk (ft k) (m k) 0)) ds = fA m D ft ds + (if d = 0 then 0 else y) := by
  unfold fA
  refine rS_add hk (fun j hj hne => ?_) ?_
  · show pS (cz (uk D k _ j)) (uk ft k _ j) (ds j) (uk m k _ j) = pS (cz (D j)) (ft j) (ds j) (m j)
    rw [uk_ne _ _ hne, uk_ne _ _ hne, uk_ne _ _ hne]
  · show pS (cz (uk D k _ k)) (uk ft k _ k) (ds k) (uk m k _ k) = pS (cz (D k)) (ft k) (ds k) (m k) + _
    unfold pS
    rw [uk_at, uk_at, uk_at, if_pos hd, if_pos hd, sm_new (fun i hi => cz_old hi), cz_new]
theorem rQ.cell (h : rQ σ m D ft ds) (hc : ∀ o f, o ≠ 38 → σ1.1 o f = σ.1 o f) : rQ σ1 m D ft ds := fun k hk => ⟨⟨(hc _ _ (by decide)).trans (h k hk).1.1, (h k hk).1.2.1, (hc _ _ (by decide)).trans (h k hk).1.2.2⟩, fun i hi => ⟨⟨(hc _ _ (by decide)).trans ((h k hk).2 i hi).1.1, (hc _ _ (by decide)).trans ((h k hk).2 i hi).1.2.1, (hc _ _ (by decide)).trans ((h k hk).2 i hi).1.2.2.1, (hc _ _ (by decide)).trans ((h k hk).2 i hi).1.2.2.2⟩, (hc _ _ (by decide)).trans ((h k hk).2 i hi).2⟩⟩
set_option maxHeartbeats 1000000 in
theorem kE.send {v : Int32} {o2 : zO} (hI : kI T τ σ n c s) (h : kE T τ σ) (hX : X < B) (hT : T < 512) (hF : 20000 ≤ F) (hn1 : 56 ≤ n1) (he : e = 0 ∨ e = 1) (hdd : d = 0 ∨ d = 1) (hE : xE σ σ1) (hM : mM T σ1) (e1 : f_AckBookLaw_send F X (some (B + 0)) x y e d (some (B + 55)) (o_w B X τ σ n c s) = some (.inl (some (.int v)), o_w B X τ1 σ1 n1 c1 s1)) (hX2 : mX σ1 σ2) (e2 : f_AckBookModel_send F X (some (B + 31)) x y e d (o_w B X τ1 σ1 n1 c1 s1) = some (o2, o_w B X τ1 σ2 n1 c1 s1)) : kE (T + 1) τ1 σ2 := by
  obtain ⟨P, m, D, ft, q, S, t, a, W, p, L, H, ds, ga, k1, k2, k3, k4⟩ := id h
  have k2' := k2.xe hE k3.1.2.1
  obtain ⟨-, -, -, -, -, hn, hN, -, -⟩ := id hI
  unfold f_AckBookLaw_send at e1
  rw [ot_0] at e1
  by_cases hb : m_vBad x y e d
  · rw [c_sndB hb] at e1
    obtain ⟨-, q1⟩ := x_th2I (u := 1) hX hn hN e1 (fun w => rfl)
    rw [u_sendB x y e d hb] at e2
    exact h.ref q1 hE hX2 (z0.put 1).1 rfl (x_er2 hn1 e2).2
  · obtain ⟨k, hk, rfl⟩ : ∃ k, k < 3 ∧ x = nI k := (e_sp x).resolve_left (fun w => hb (Or.inl w))
    by_cases hd : ds k = 0
    · obtain ⟨τ', σE, n', c', s', b, S', d1, ⟨d2, d3⟩, d4, ⟨s6, s7, s3, s4, s5⟩, ⟨f1, f2, f3, f4⟩, f5, f6⟩ := c_sndA (B := B) (X := X) (F := F) hI k1 k3 hX hT hk hd he hdd hb
      rw [d1] at e1
      obtain ⟨z1, u', σG, ⟨z3, zc⟩, z4, z5⟩ := x_ok2I (τ := τ') (n := n') (c := c') (s := s') hX d2 d3 (pW.ret (Q := fun _ σG => sP τ' σG (uk P k (uk (P k) (m k) n)) (uk m k (m k + 1)) (uk D k (dN (D k) (m k) (vN y (nI t) e d b))) (uk ft k (uk (ft k) (m k) 0)) q (uk S k S') t W p L H ds ∧ cFB σE σG) ⟨d4, cFB.refl _⟩) e1
      obtain ⟨σA, v', g1, g2, g3, g4, g5, g6⟩ := m_sndA (B := B) (X := X) (F := F) (τ := τ1) (n := n1) (c := c1) (s := s1) k2' (fun k' hk' => by have := (k3.2.1 k' hk').1.1; omega) hF hk hd he hdd hb
      rw [g1] at e2
      have w2 := (x_er2 hn1 e2).2
      -- the flight, on both sides
      have hv : v' = fA m D ft ds + (if d = 0 then 0 else y) := by
        have hq := ((g3 0).rQ).cell (σ1 := σA) (fun o f ho => by rw [i11, if_neg (fun z => ho z.1)])
        have := n_flight (B := B) (X := X) (F := F) (τ := τ1) (n := n1) (c := c1) (s := s1) hq hF
        rw [g2] at this
        injection this with this
        injection this with this
        injection this with this
        injection this with this
        injection this with this
        rw [this, fA_new hk hd]
      have hfl : σE.1 30 0 = fA m D ft ds + (if d = 0 then 0 else y) := by
        rw [f2, k4.1.2.1]
        split
        · rw [Int32.add_zero]
        · rfl
      have q4 : fq σ = mq σ := k4.1.1
      have hwin : σ.1 30 1 = σ.1 31 24 := congrArg (fun x => x.1) q4
      have hbb : (if v' ≤ σ1.1 31 24 - 1200 then (0 : Int32) else 1) = b := by
        rw [f5, f3, hfl, hv, f1 1 (by omega), hwin, hE.rd 24 (by omega)]
      rw [hbb] at w2
      have g3 := g3 b
      have hQ : eQ (T + 1) σE (o_I σA 38 (4096 * k + m k) b) (uk m k (m k + 1)) (uk D k (dN (D k) (m k) (vN y (nI t) e d b))) (uk ft k (uk (ft k) (m k) 0)) (uk S k S') W ds := by
        obtain ⟨⟨a1, a2, a3, a4⟩, ⟨b1, b2, b3, -, b5, b6⟩, c1, c2⟩ := k4
        have r38 : ∀ f, (o_I σA 38 (4096 * k + m k) b).1 31 f = σA.1 31 f := fun f => by rw [i11, if_neg (by omega)]
        have r31 : ∀ f, (f = 2 ∨ f = 3 ∨ (23 ≤ f ∧ f ≤ 26)) → (o_I σA 38 (4096 * k + m k) b).1 31 f = σ.1 31 f := fun f hf => by rw [r38, g4 f (by omega) (by omega), hE.rd f (by omega)]
        have qE : fq σE = fq σ := by
          unfold fq
          rw [f1 1 (by omega), f1 2 (by omega), f1 3 (by omega)]
        have qA : mq (o_I σA 38 (4096 * k + m k) b) = mq σ := by
          unfold mq
          rw [r31 24 (by omega), r31 25 (by omega), r31 26 (by omega)]
        refine ⟨⟨by rw [qE, qA]; exact a1, by rw [hfl, fA_new hk hd], by rw [qE]; exact a3, by rw [qE]; exact a4⟩, ⟨by rw [f4 5 (by omega), r31 23 (by omega)]; exact b1, by rw [f4 5 (by omega)]; exact b2, by rw [f6, r38, g5], ⟨t, by have := k3.1.1; omega, f6⟩, by rw [f4 7 (by omega), r31 2 (by omega)]; exact b5, by rw [f4 8 (by omega), r31 3 (by omega)]; exact b6⟩, fun k' hk' => ?_, c2⟩
        by_cases ek : k' = k
        · subst ek
          rw [uk_at, uk_at, uk_at, uk_at, s4, s5, la_new]
          unfold pS
          rw [if_pos hd, sm_new (fun i hi => ez_old hi), ez_new]
          have h4 := (c1 k' hk').1
          unfold pS at h4
          rw [if_pos hd] at h4
          rw [h4, (c1 k' hk').2]
          refine ⟨?_, rfl⟩
          split
          · rw [Int32.add_zero]
          · rfl
        · rw [uk_ne _ _ ek, uk_ne _ _ ek, uk_ne _ _ ek, uk_ne _ _ ek]
          exact c1 k' hk'
      refine ⟨_, _, _, _, q, _, t, _, W, p, L, H, ds, ga, z3.keep (z4.1.trans hX2.sc), (g3.s7 (S1 := uk S k S') (fun k' hk' => ?_)).rc w2.1, k3.snd hk (fun k' i hk' hi w => ?_) s6 s7, hQ.to (Nat.le_refl _) ((zc.trans z4.2).trans hX2.fb) w2.2⟩
      · by_cases ek : k' = k
        · rw [ek, uk_at]
          exact s7
        · rw [uk_ne _ _ ek]
      · have z := ((k1.2.1 k' hk').1.1.2.2 i hi).1.1.2
        rw [w, hN n (Nat.le_refl _)] at z
        cases z
    · have hd1 : ds k = 1 := ((k3.2.1 k hk).2.2.2.2).resolve_left hd
      rw [c_sndD hk hb (by rw [(k1.2.1 k hk).2]; exact hd)] at e1
      obtain ⟨-, q1⟩ := x_th2I (u := 2) hX hn hN e1 (fun w => rfl)
      rw [u_sendD hM hk y e d hb ((k2'.2.1 k hk).1.2.2.trans hd1)] at e2
      exact h.ref q1 hE hX2 ((z0.put 0).step (v := 2)).1 rfl (x_er2 hn1 e2).2
end LE
