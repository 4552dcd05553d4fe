/-! tick, all alike. -/
section LG
variable {B X F : Nat} {τ τ1 : zK} {n c s n1 c1 s1 T : Nat} {σ σ' σ1 σ2 σ3 : zS} {P : Nat → Nat → Nat} {m : Nat → Nat} {D : Nat → Nat → Nat → Int32} {ft : Nat → Nat → Int32} {q : Nat → Nat → List Nat} {S : Nat → Nat → Int32} {t p : Nat} {a : Nat → Nat → Nat} {W ds ga E E' A A' : Nat → Int32} {L H : Nat → Int64} {k : Nat} {conf anx ls b : Int32}
theorem pkE_congr2 {g g' : Nat → Bool} {u u' : Nat → Int32} : ∀ {i : Nat}, (∀ k, k < i → g k = g' k ∧ u k = u' k) → pkE g u i = pkE g' u' i
  | 0, _ => rfl
  | i + 1, h => by
    have ih := pkE_congr2 (i := i) (fun k hk => h k (Nat.lt_succ_of_lt hk))
    have hi := h i (Nat.lt_succ_self _)
    rw [pkE_s, pkE_s, ← ih, hi.1]
    cases hp : pkE g u i with
    | none => rfl
    | some j =>
      have hj := (pkE_lt hp).1
      show (if g' i = true ∧ u i < u j then some i else some j) = if g' i = true ∧ u' i < u' j then some i else some j
      rw [hi.2, (h j (by omega)).2]
theorem prV_congr (hk : k < 3) (hE : ∀ j, j < 3 → E j = E' j) (hA : ∀ j, j < 3 → A j = A' j) : prV ds E A W conf anx ls b k = prV ds E' A' W conf anx ls b k := by
  have hp : prA E ds k = prA E' ds k := by
    unfold prA
    rw [hE 0 (by omega), hE 1 (by omega), hE 2 (by omega)]
  unfold prV
  rw [hE k hk, hA k hk, hp]
theorem la_nI {D : Nat → Nat → Int32} {a : Nat → Nat} {t : Nat} : ∀ m, (∀ j, j < m → D 2 j = nI (a j) ∧ a j ≤ t) → ∃ z, z ≤ t ∧ la D m = nI z
  | 0, _ => ⟨0, Nat.zero_le _, rfl⟩
  | m + 1, h => by
    show ∃ z, z ≤ t ∧ (if D 3 m = 0 then la D m else D 2 m) = nI z
    split
    · exact la_nI m (fun j hj => h j (by omega))
    · exact ⟨a m, (h m (by omega)).2, (h m (by omega)).1⟩
theorem shl_nI {x z : Nat} (hx : x ≤ 8000) (hz : z ≤ 10) : ∃ y, y ≤ 8192000 ∧ nI x <<< (nI z &&& 31) = nI y := by
  have key : ∀ z, z ≤ 10 → (nI z &&& 31).toBitVec.smod 32 = BitVec.ofNat 32 z := by decide
  have hk : ((nI z &&& 31).toBitVec.smod 32).toNat = z := by
    rw [key z hz, BitVec.toNat_ofNat]
    exact Nat.mod_eq_of_lt (by omega)
  have hp : 2 ^ z ≤ 1024 := by
    have : 2 ^ z ≤ 2 ^ 10 := Nat.pow_le_pow_right (by omega) hz
    omega
  have hm : x * 2 ^ z ≤ 8000 * 1024 := Nat.mul_le_mul hx hp
  exact ⟨x * 2 ^ z, by omega, pk_shlN _ z hk (by omega)⟩
theorem prV_nn (hW : wB W) (hv : ∃ z, z ≤ 6000 ∧ W 1 = nI z) (hb : ∃ z, z ≤ 10 ∧ b = nI z) (hls : ∃ z, z ≤ 1000 ∧ ls = nI z) (hA : ∃ z, z ≤ 1000 ∧ A k = nI z) : nn (prV ds E A W conf anx ls b k) := by
  obtain ⟨⟨s, hs, h0⟩, -⟩ := hW
  obtain ⟨v, hv, h1⟩ := hv
  obtain ⟨z, hz, rfl⟩ := hb
  obtain ⟨x, hx, ex⟩ : ∃ x, x ≤ 8000 ∧ ptV W conf k = nI x := by
    have e8 : nI s / 8 = nI (s / 8) := pk_div (a := s) (d := 8) (by omega) (by decide) (by decide)
    unfold ptV
    rw [h0, h1, e8]
    have e1 : ∃ v', v' ≤ 6000 ∧ (if nI v < 1 then 1 else nI v) = nI v' := by
      split
      · exact ⟨1, by omega, rfl⟩
      · exact ⟨v, hv, rfl⟩
    have e2 : ∃ w', w' ≤ 25 ∧ (if k = 2 ∧ ¬ conf = 0 then (25 : Int32) else 0) = nI w' := by
      split
      · exact ⟨25, by omega, rfl⟩
      · exact ⟨0, by omega, rfl⟩
    obtain ⟨v', hv', ev⟩ := e1
    obtain ⟨w', hw', ew⟩ := e2
    rw [ev, ew, nI_add, nI_add]
    exact ⟨s / 8 + v' + w', by omega, rfl⟩
  obtain ⟨y, hy, ey⟩ := shl_nI hx hz
  have add : ∀ u, (∃ z, z ≤ 1000 ∧ u = nI z) → nn (u + (ptV W conf k <<< (nI z &&& 31))) := fun u ⟨z, hz, eu⟩ => by
    rw [ex, ey, eu, nI_add]
    exact Or.inr (nI_pos (by omega))
  unfold prV
  split
  · exact Or.inl rfl
  · split
    · exact add _ hA
    · split
      · exact add _ hls
      · exact Or.inl rfl
theorem c_losX (h : sP τ σ P m D ft q S t W p L H ds) (hu : uP T P m D S t a W p L H ds ga) (hk : k < 3) {g : Nat} (hg : g < m k) (h6 : S k 6 = nI g) (h4 : S k 4 = sm (ez (D k)) (ft k) (m k)) {o : Option Nat} : pW B X τ n c s (tC B X F τ σ n c s (some k) o) (fun v σ' => v = some (.int 1) ∧ ∃ S', sP τ σ' P m D (uk ft k (lsR (D k 2) g (nI t) (limV (W 0) (W 2)) (ft k)).1) (uk q k (fun b => if b = 0 then q k 0 else q k 1 ++ (lsR (D k 2) g (nI t) (limV (W 0) (W 2)) (ft k)).2.1)) (uk S k S') t W p L H ds ∧ S' 6 = S k 6 ∧ S' 7 = (lsR (D k 2) g (nI t) (limV (W 0) (W 2)) (ft k)).2.2 ∧ S' 4 = sm (ez (D k)) (lsR (D k 2) g (nI t) (limV (W 0) (W 2)) (ft k)).1 (m k) ∧ S' 5 = S k 5 ∧ fq σ' = fwX (D k) (lsR (D k 2) g (nI t) (limV (W 0) (W 2)) (ft k)).1 W (nI t) (lsR (D k 2) g (nI t) (limV (W 0) (W 2)) (ft k)).2.1 (fq σ) ∧ σ'.1 30 0 = sb (cz (D k)) (lsR (D k 2) g (nI t) (limV (W 0) (W 2)) (ft k)).2.1 (σ.1 30 0) ∧ ∀ f, σ'.1 0 f = σ.1 0 f) := by
  have hL := d_lossesX (B := B) (X := X) (F := F) (n := n) (c := c) (s := s) hk (h.2.1 k hk).1 h6 h4 (by omega)
  rw [h.1, h.2.2.1 0 (by omega), h.2.2.1 2 (by omega)] at hL
  refine pW.cV (hL.mono (Q := fun v σ' => v = none ∧ _) fun v σ' z => z) fun σ' hq => pW.ret ⟨rfl, ?_⟩
  obtain ⟨-, hH, ⟨qx, qi⟩, S', hS, s4, s5, s6, s7⟩ := hq
  have h56 : ∀ i, i < m k → 56 ≤ P k i := fun i hi => ((h.2.1 k hk).1.1.2.2 i hi).1.1.1
  rw [fwX_W h.2.2.1] at qx
  refine ⟨S', h.one (p' := 0) (d' := 0) hk (fun k' i j h1 h2 h3 h4 => hu.2.2 k' k i j h1 hk h2 h3 h4) hH.u hS (fun f hf => ?_), s6, s7, s4, s5, qx, qi, fun f => ?_⟩
  · rw [(hH.2 29 (by omega) (by omega) (by omega) (by omega) (fun i hi => by have := h56 i hi; omega)).1]
    exact h.2.2.1 f hf
  · rw [(hH.2 0 (by omega) (by omega) (by omega) (by omega) (fun i hi => by have := h56 i hi; omega)).1]
theorem n_losX {N : Nat} (h : rP σ m D ft q S t W p L H ds ga) (hu : uP T P m D S t a W p L H ds ga) (hT : T ≤ 600) (hk : k < 3) {g : Nat} (hg : g < m k) (h6 : S k 6 = nI g) (hd : ds k = 0) (hr : nn (mq σ).2.2) : pW B X τ n c s (tE0 B X F N τ σ n c s (some k)) (fun v σ' => v = some (.int 1) ∧ (∀ S' : Nat → Int32, S' 7 = (lsR (D k 2) g (nI t) (limV (W 0) (W 2)) (ft k)).2.2 → rP σ' m D (uk ft k (lsR (D k 2) g (nI t) (limV (W 0) (W 2)) (ft k)).1) (uk q k (fun b => if b = 0 then q k 0 else q k 1 ++ (lsR (D k 2) g (nI t) (limV (W 0) (W 2)) (ft k)).2.1)) (uk S k S') t W p L H ds ga) ∧ mq σ' = fwX (D k) (lsR (D k 2) g (nI t) (limV (W 0) (W 2)) (ft k)).1 W (nI t) (lsR (D k 2) g (nI t) (limV (W 0) (W 2)) (ft k)).2.1 (mq σ) ∧ ∀ f, f < 24 → σ'.1 31 f = σ.1 31 f) ∧ ((lsR (D k 2) g (nI t) (limV (W 0) (W 2)) (ft k)).2.2 = -1 ∨ ∃ z, (lsR (D k 2) g (nI t) (limV (W 0) (W 2)) (ft k)).2.2 = nI z ∧ z ≤ 3000) := by
  obtain ⟨⟨u1, u2, u3, u4⟩, u5, u6⟩ := hu
  obtain ⟨⟨v1, v2, v3⟩, v4, v5, v6, v7⟩ := u5 k hk
  have hS := h.2.1 k hk
  have hga : ga k = nI g := (v6 hd).trans h6
  rw [hga, hd] at hS
  have w4 : σ.1 31 22 = W 4 := h.2.2.1 4 (by omega)
  have h22 : nn (σ.1 31 22) := by
    rw [w4]
    exact u4.m3.2.elim Or.inl (fun z => Or.inr (Int32.not_lt.mpr z))
  have hL := n_lossesX (B := B) (X := X) (F := F) (τ := τ) (n := n) (c := c) (s := s) hk hS (by omega) h22 hr
  obtain ⟨x, hx, ex⟩ : ∃ x, x ≤ 2000 ∧ limV (W 0) (W 2) = nI x := by
    obtain ⟨⟨s0, hs0, es0⟩, ⟨l0, hl0, el0⟩, -, -⟩ := u4
    rw [es0, el0]
    exact limV_nI hs0 hl0
  have hle := ls_eq (ft := ft k) (d2 := D k 2) (a := a k) (g := g) (t := t) (x := x) (fun j hj => (v2 j (by omega)).1) (fun i j hij hj => v3 i j hij (by omega)) (fun j hj => (v2 j (by omega)).2) (by omega) hx
  have w0 : σ.1 31 18 = W 0 := h.2.2.1 0 (by omega)
  have w2 : σ.1 31 20 = W 2 := h.2.2.1 2 (by omega)
  rw [h.1, w0, w2, ex, hle.1] at hL
  rw [ex]
  refine ⟨pW.cV hL fun σ' hq => pW.ret ⟨rfl, fun S' s7 => h.one hk hq.1 ?_ s7, ?_, fun f hf => hq.1.2 31 f (by omega) (by omega) (by omega) (by omega) (by omega)⟩, hle.2⟩
  · rw [hga, hd]
    exact hq.2.2
  · rw [hq.2.1, fwX_W h.2.2.1]
set_option maxHeartbeats 2000000 in
theorem kE.tick {v v2 : Int32} (h : kE T τ σ) (hM : mM T σ1) (hX : X < B) (hT : T < 512) (hF : 20000 ≤ F) (hn : 56 ≤ n) (hn1 : 56 ≤ n1) (hN : ∀ o, n ≤ o → τ o = none) (hE : xE σ σ1) (e1 : f_AckBook_tick F X (some (B + 0)) (o_w B X τ σ n c s) = some (.inl (some (.int v)), o_w B X τ1 σ1 n1 c1 s1)) (hX2 : mX σ1 σ2) (e2 : f_AckBookModel_tick F X (some (B + 31)) (o_w B X τ1 σ1 n1 c1 s1) = some (.inl (some (.int v2)), o_w B X τ1 σ2 n1 c1 s1)) : kE (T + 1) τ1 σ2 ∧ v = v2 := by
  obtain ⟨P, m, D, ft, q, S, t, a, W, p, L, H, ds, ga, k1, k2, k3, k4⟩ := h
  have k2' := k2.xe hE k3.1.2.1
  have k1t : sP τ (o_I σ 0 4 (σ.1 0 4 + 1)) P m D ft q S (t + 1) W p L H ds := k1.time (fun o ho => i_fun_ne ho) (by rw [i11, if_pos ⟨rfl, rfl⟩, k1.1]; exact nI_add t 1) rfl
  have k2t : rP (o_I (o_I σ1 31 0 0) 31 1 (σ1.1 31 1 + 1)) m D ft q S (t + 1) W p L H ds ga := k2'.time (fun o f w => by rw [i11, if_neg (fun z => w ⟨z.1, Or.inr (Or.inl z.2)⟩), i11, if_neg (fun z => w ⟨z.1, Or.inl z.2⟩)]) (by rw [i11, if_pos ⟨rfl, rfl⟩, k2'.1]; exact nI_add t 1) rfl
  have k3t := k3.time
  have c0 : cFB σ (o_I σ 0 4 (σ.1 0 4 + 1)) := ⟨fun f _ => by rw [i11, if_neg (by omega)], fun f f1 f2 => by rw [i11, if_neg (by omega)]⟩
  have r0 : rD σ (o_I (o_I σ1 31 0 0) 31 1 (σ1.1 31 1 + 1)) := hE.rd.trans (fun f hf => by rw [i11, if_neg (by omega), i11, if_neg (by omega)])
  have k4t := k4.to (T' := T) (Nat.le_refl _) c0 r0
  have hs1 : σ1 = σ1 := rfl
  generalize hσc : o_I σ 0 4 (σ.1 0 4 + 1) = σc at k1t c0 k4t
  generalize hσr : o_I (o_I σ1 31 0 0) 31 1 (σ1.1 31 1 + 1) = σr at k2t r0 k4t
  -- the probe times, on both sides
  have huc : ∀ k, k < 3 → f_AckBook_probeTime F X (some (B + 0)) (some (B + (2 + 8 * k))) (o_w B X τ σc n c s) = some (.inl (some (.int (prV ds (fun k => S k 4) (fun k => S k 5) W (σc.1 0 7) (σc.1 0 8) (σc.1 0 6) (σc.1 0 5) k))), o_w B X τ σc n c s) := fun k hk => c_probe hk hF (fun k hk => (k1t.2.1 k hk).1.2.2 4 (by omega) (by omega)) (fun k hk => (k1t.2.1 k hk).2) (fun k hk => (k1t.2.1 k hk).1.2.2 5 (by omega) (by omega)) k1t.2.2.1 rfl rfl rfl rfl
  have hum : ∀ k, k < 3 → f_AckBookModel_probeTime F X (some (B + 31)) (nI k) (o_w B X τ1 σr n1 c1 s1) = some (.inl (some (.int (prV ds (fun k => pS (ez (D k)) (ft k) (ds k) (m k)) (fun k => la (D k) (m k)) W (σr.1 31 2) (σr.1 31 3) (σr.1 31 14) (σr.1 31 23) k))), o_w B X τ1 σr n1 c1 s1) := fun k hk => n_probe k2t.rQ hk hF k2t.2.2.1 rfl rfl rfl rfl
  obtain ⟨⟨a1, a2, a3, a4⟩, ⟨b1, b2, b3, b4, b5, b6⟩, d1, d2⟩ := id k4t
  have hpv : ∀ k, k < 3 → prV ds (fun k => S k 4) (fun k => S k 5) W (σc.1 0 7) (σc.1 0 8) (σc.1 0 6) (σc.1 0 5) k = prV ds (fun k => pS (ez (D k)) (ft k) (ds k) (m k)) (fun k => la (D k) (m k)) W (σr.1 31 2) (σr.1 31 3) (σr.1 31 14) (σr.1 31 23) k := fun k hk => by
    rw [← b1, ← b3, ← b5, ← b6]
    exact prV_congr hk (fun j hj => (d1 j hj).1) (fun j hj => (d1 j hj).2)
  have hpn : ∀ k, k < 3 → nn (prV ds (fun k => S k 4) (fun k => S k 5) W (σc.1 0 7) (σc.1 0 8) (σc.1 0 6) (σc.1 0 5) k) := fun k hk => by
    obtain ⟨z, z1, z2⟩ := b4
    obtain ⟨y, y1, y2⟩ := la_nI (D := D k) (a := a k) (t := t) (m k) (fun j hj => (k3.2.1 k hk).1.2.1 j hj)
    exact prV_nn k3.1.2.2.2 d2 b2 ⟨z, by omega, z2⟩ ⟨y, by have := k3.1.1; omega, (d1 k hk).2.trans y2⟩
  rw [c_tick hF k1t.1 hσc.symm (u := fun k => S k 7) (fun k hk => (k1t.2.1 k hk).1.2.2 7 (by omega) (by omega)) huc] at e1
  rw [m_tick hF hσr.symm k2t.1 (u := fun k => S k 7) (fun k hk => (k2t.2.1 k hk).2.2.2.1) hum, ← gCM (u := fun k => S k 7) (now := nI (t + 1)) (fun k hk => by
    rcases (k3.2.1 k hk).2.2.1 with z | ⟨⟨z, z1, z2⟩, -⟩
    · exact Or.inl z
    · right
      show ¬ S k 7 < 0
      rw [z2]
      exact nI_pos (by omega))] at e2
  cases hp : pkE (gC (fun k => S k 7) (nI (t + 1))) (fun k => S k 7) 3 with
  | some k =>
    rw [hp] at e1 e2
    obtain ⟨hk, hg7⟩ := pkE_lt hp
    have h7 : ¬ S k 7 = -1 := (of_decide_eq_true hg7).1
    obtain ⟨-, v4, v5, -, -⟩ := k3.2.1 k hk
    obtain ⟨-, s6n, hd⟩ := v5.resolve_left h7
    obtain ⟨g, hg, eg⟩ := v4.resolve_left s6n
    rw [if_neg (fun w => by cases w)] at e2
    have h4 : S k 4 = sm (ez (D k)) (ft k) (m k) := by
      have := (d1 k hk).1
      unfold pS at this
      rw [if_pos hd] at this
      exact this
    obtain ⟨v', σE, y1, ⟨y2, S', z3, z4, z5, s4, s5, qx, qi, e0⟩, z6⟩ := (c_losX (B := B) (X := X) (F := F) (n := n) (c := c) (s := s) k1t k3t hk hg eg h4).en2 hX hn hN e1
    have q1 : mq σ1 = mq σ := mq.cong hE.rd
    have qr : mq σr = mq σ := mq.cong r0
    obtain ⟨hB, hls⟩ := n_losX (B := B) (X := X) (F := F) (τ := τ1) (n := n1) (c := c1) (s := s1) (N := F - 4) k2t k3t (by omega) hk hg eg hd (by rw [← a1]; exact a4)
    obtain ⟨v3, σF, x1, ⟨x2, w3, wq, wr⟩, w5⟩ := hB.er2 hn1 e2
    have hok : wOK 3000000 (mq σ1) := wOK.ofM hM (by omega) (by rw [q1, ← qr, ← a1]; exact a3) (by rw [q1, ← qr, ← a1]; exact a4)
    have hQ : eQ (T + 1) σE σF m D (uk ft k (lsR (D k 2) g (nI (t + 1)) (limV (W 0) (W 2)) (ft k)).1) (uk S k S') W ds := by
      refine k4t.ack hk hd (lsR_sm (by omega)).1 s4 s5 (by rw [qx, wq, a1]) qi ?_ ⟨by rw [e0, wr 23 (by omega)]; exact b1, by rw [e0]; exact b2⟩ (fun f _ _ => e0 f) (fun f hf => wr f (by omega)) d2
      have := (hok.fx (D := D k) (f := (lsR (D k 2) g (nI (t + 1)) (limV (W 0) (W 2)) (ft k)).1) (w := W) (now := nI (t + 1)) (l := (lsR (D k 2) g (nI (t + 1)) (limV (W 0) (W 2)) (ft k)).2.1) (by omega) (by omega) (Or.inr (nI_pos (by have := k3.1.1; omega)))).2
      rw [qx, a1, qr, ← q1]
      exact this
    refine ⟨⟨P, m, D, _, _, _, t + 1, a, W, p, L, H, ds, ga, z3.keep (z6.1.trans hX2.sc), (w3 S' z5).rc w5.1, k3t.los hk hd z4 s6n (by rw [z5]; exact hls), hQ.to (Nat.le_refl _) (z6.2.trans hX2.fb) w5.2⟩, ?_⟩
    injection y1 with y1
    injection x1 with x1
    have e3 : some (Value.int v) = some (.int 1) := y1.trans y2
    have e4 : some (Value.int v2) = some (.int 1) := x1.trans x2
    injection e3 with e3
    injection e3 with e3
    injection e4 with e4
    injection e4 with e4
    rw [e3, e4]
  | none =>
    rw [hp] at e1 e2
    rw [if_pos rfl] at e2
    have hpk : pkE (gC (prV ds (fun k => S k 4) (fun k => S k 5) W (σc.1 0 7) (σc.1 0 8) (σc.1 0 6) (σc.1 0 5)) (nI (t + 1))) (prV ds (fun k => S k 4) (fun k => S k 5) W (σc.1 0 7) (σc.1 0 8) (σc.1 0 6) (σc.1 0 5)) 3 = pkE (gM (prV ds (fun k => pS (ez (D k)) (ft k) (ds k) (m k)) (fun k => la (D k) (m k)) W (σr.1 31 2) (σr.1 31 3) (σr.1 31 14) (σr.1 31 23)) (nI (t + 1))) (prV ds (fun k => pS (ez (D k)) (ft k) (ds k) (m k)) (fun k => la (D k) (m k)) W (σr.1 31 2) (σr.1 31 3) (σr.1 31 14) (σr.1 31 23)) 3 := by
      rw [gCM hpn]
      refine pkE_congr2 (fun k hk => ⟨?_, hpv k hk⟩)
      unfold gM
      rw [hpv k hk]
    rw [← hpk] at e2
    cases hq : pkE (gC (prV ds (fun k => S k 4) (fun k => S k 5) W (σc.1 0 7) (σc.1 0 8) (σc.1 0 6) (σc.1 0 5)) (nI (t + 1))) (prV ds (fun k => S k 4) (fun k => S k 5) W (σc.1 0 7) (σc.1 0 8) (σc.1 0 6) (σc.1 0 5)) 3 with
    | none =>
      rw [hq] at e1 e2
      have z := x_en2 hX hn hN (show some ((.inl (some (.int (0 : Int32))) : zO), o_w B X τ σc n c s) = _ from e1)
      have w := x_er2 hn1 (show some ((.inl (some (.int (0 : Int32))) : zO), o_w B X τ1 σr n1 c1 s1) = _ from e2)
      refine ⟨⟨P, m, D, ft, q, S, t + 1, a, W, p, L, H, ds, ga, k1t.keep (z.2.1.1.trans hX2.sc), k2t.rc w.2.1, k3t, k4t.to (by omega) (z.2.1.2.trans hX2.fb) w.2.2⟩, ?_⟩
      have y1 := z.1
      have y2 := w.1
      injection y1 with y1
      injection y1 with y1
      injection y1 with y1
      injection y2 with y2
      injection y2 with y2
      injection y2 with y2
      rw [← y1, ← y2]
    | some k =>
      rw [hq] at e1 e2
      have z := x_en2 hX hn hN (show some ((.inl (some (.int ((2 : Int32) + nI k))) : zO), o_w B X τ (o_I σc 0 5 (if 10 < σc.1 0 5 + 1 then 10 else σc.1 0 5 + 1)) n c s) = _ from e1)
      have w := x_er2 hn1 (show some ((.inl (some (.int ((2 : Int32) + nI k))) : zO), o_w B X τ1 (o_I σr 31 23 (if 10 ≤ σr.1 31 23 then 10 else σr.1 31 23 + 1)) n1 c1 s1) = _ from e2)
      obtain ⟨bk, hb10, eb⟩ := b2
      have eb2 : σr.1 31 23 = nI bk := b1.symm.trans eb
      obtain ⟨bn, hbn, e5, e6⟩ : ∃ bn, bn ≤ 10 ∧ (if 10 < σc.1 0 5 + 1 then 10 else σc.1 0 5 + 1) = nI bn ∧ (if 10 ≤ σr.1 31 23 then 10 else σr.1 31 23 + 1) = nI bn := by
        rw [eb, eb2, nI_1]
        by_cases w10 : bk = 10
        · subst w10
          exact ⟨10, by omega, by decide, by decide⟩
        · refine ⟨bk + 1, by omega, if_neg ?_, if_neg ?_⟩
          · exact nI_nlt (a := 10) (b := bk + 1) (by omega) (by omega)
          · exact nI_ge (b := 10) (by omega) (by decide)
      rw [e5] at z
      rw [e6] at w
      have hQ : eQ (T + 1) (o_I σc 0 5 (nI bn)) (o_I σr 31 23 (nI bn)) m D ft S W ds := by
        obtain ⟨zz, y1, y2⟩ := b4
        have c30 : ∀ f, (o_I σc 0 5 (nI bn)).1 30 f = σc.1 30 f := fun f => by rw [i11, if_neg (by omega)]
        have c05 : ∀ f, f ≠ 5 → (o_I σc 0 5 (nI bn)).1 0 f = σc.1 0 f := fun f hf => by rw [i11, if_neg (fun z => hf z.2)]
        have r23 : ∀ f, f ≠ 23 → (o_I σr 31 23 (nI bn)).1 31 f = σr.1 31 f := fun f hf => by rw [i11, if_neg (fun z => hf z.2)]
        have q1 : fq (o_I σc 0 5 (nI bn)) = fq σc := fq.cong (fun f _ => c30 f)
        have q2 : mq (o_I σr 31 23 (nI bn)) = mq σr := by
          unfold mq
          rw [r23 24 (by omega), r23 25 (by omega), r23 26 (by omega)]
        exact ⟨⟨by rw [q1, q2]; exact a1, by rw [c30]; exact a2, by rw [q1]; exact a3, by rw [q1]; exact a4⟩, ⟨by rw [i11, if_pos ⟨rfl, rfl⟩, i11, if_pos ⟨rfl, rfl⟩], ⟨bn, hbn, by rw [i11, if_pos ⟨rfl, rfl⟩]⟩, by rw [c05 6 (by omega), r23 14 (by omega)]; exact b3, ⟨zz, by omega, by rw [c05 6 (by omega)]; exact y2⟩, by rw [c05 7 (by omega), r23 2 (by omega)]; exact b5, by rw [c05 8 (by omega), r23 3 (by omega)]; exact b6⟩, d1, d2⟩
      refine ⟨⟨P, m, D, ft, q, S, t + 1, a, W, p, L, H, ds, ga, (k1t.time (σ1 := o_I σc 0 5 (nI bn)) (fun o ho => i_fun_ne ho) (by rw [i11, if_neg (by omega)]; exact k1t.1) rfl).keep (z.2.1.1.trans hX2.sc), (k2t.time (σ1 := o_I σr 31 23 (nI bn)) (fun o f w => by rw [i11, if_neg (fun z => w ⟨z.1, Or.inr (Or.inr z.2)⟩)]) (by rw [i11, if_neg (by omega)]; exact k2t.1) rfl).rc w.2.1, k3t, hQ.to (Nat.le_refl _) (z.2.1.2.trans hX2.fb) w.2.2⟩, ?_⟩
      have y1 := z.1
      have y2 := w.1
      injection y1 with y1
      injection y1 with y1
      injection y1 with y1
      injection y2 with y2
      injection y2 with y2
      injection y2 with y2
      rw [← y1, ← y2]
end LG
