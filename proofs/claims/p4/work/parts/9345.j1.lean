/-! tick, both sides. -/
section JA
variable {B X F : Nat} {τ τ1 : zK} {n c s n1 c1 s1 T : Nat} {σ σ1 σ2 σ3 : zS} {P : Nat → Nat → Nat} {m : Nat → Nat} {D : Nat → Nat → Nat → Int32} {ft : Nat → Nat → Int32} {q : Nat → Nat → List Nat} {S : Nat → Nat → Int32} {t p : Nat} {a : Nat → Nat → Nat} {W ds ga : Nat → Int32} {L H : Nat → Int64} {k : Nat} {u u1 : Nat → Int32} {now : Int32}
theorem sP.time {t' : Nat} (h : sP τ σ P m D ft q S t W p L H ds) (h0 : ∀ o, o ≠ 0 → σ1.1 o = σ.1 o) (h04 : σ1.1 0 4 = nI t') (h2 : σ1.2 = σ.2) : sP τ σ1 P m D ft q S t' W p L H ds := by
  obtain ⟨b1, b2, b3, b4, b5⟩ := h
  refine ⟨h04, fun k hk => ⟨(b2 k hk).1.cell (fun o ho => h0 o ?_) (fun o _ => by rw [h2]), by rw [h0 _ (by omega)]; exact (b2 k hk).2⟩, fun f hf => by rw [h0 _ (by omega)]; exact b3 f hf, by rw [h0 _ (by omega)]; exact b4, fun j hj => by rw [h2]; exact b5 j hj⟩
  rcases ho with rfl | rfl | ⟨i, hi, rfl⟩
  · omega
  · omega
  · have := ((b2 k hk).1.1.2.2 i hi).1.1.1
    omega
theorem rP.time {t' : Nat} (h : rP σ m D ft q S t W p L H ds ga) (h0 : ∀ o f, ¬ (o = 31 ∧ (f = 0 ∨ f = 1 ∨ f = 23)) → σ1.1 o f = σ.1 o f) (h1 : σ1.1 31 1 = nI t') (h2 : σ1.2 = σ.2) : rP σ1 m D ft q S t' W p L H ds ga := by
  obtain ⟨r1, r2, r3, r4, r5⟩ := h
  exact ⟨h1, fun k hk => (r2 k hk).f31 (fun o f ho => h0 o f (by omega)), fun f hf => by rw [h0 _ _ (by omega)]; exact r3 f hf, by rw [h0 _ _ (by omega)]; exact r4, fun j hj => by rw [h2]; exact r5 j hj⟩
theorem rP.one {f' : Nat → Int32} {q' : Nat → List Nat} {S' : Nat → Int32} {l' : Int32} (h : rP σ m D ft q S t W p L H ds ga) (hk : k < 3) (hU : nF k σ σ1) (hS : mS σ1 k (m k) (D k) f' q' l' (ga k) (ds k)) (h7 : S' 7 = l') : rP σ1 m D (uk ft k f') (uk q k q') (uk S k S') t W p L H ds ga := by
  obtain ⟨r1, r2, r3, r4, r5⟩ := h
  have e31 : ∀ f, f < 24 ∨ f = 27 → σ1.1 31 f = σ.1 31 f := fun f hf => hU.2 31 f (by omega) (by omega) (by omega) (by omega) (by omega)
  refine ⟨(e31 1 (by omega)).trans r1, fun k' hk' => ?_, fun f hf => (e31 _ (by omega)).trans (r3 f hf), (e31 27 (by omega)).trans r4, fun j hj => by rw [hU.1]; exact r5 j hj⟩
  by_cases ek : k' = k
  · subst ek
    rw [uk_at, uk_at, uk_at, h7]
    exact hS
  · rw [uk_ne _ _ ek, uk_ne _ _ ek, uk_ne _ _ ek]
    exact (r2 k' hk').oth hU.u ek hk hk'
theorem uP.time (hu : uP T P m D S t a W p L H ds ga) : uP (T + 1) P m D S (t + 1) a W p L H ds ga := by
  obtain ⟨⟨u1, u2, u3, u4⟩, u5, u6⟩ := hu
  refine ⟨⟨by omega, u2, u3, u4⟩, fun k hk => ?_, u6⟩
  obtain ⟨⟨v1, v2, v3⟩, v4⟩ := u5 k hk
  exact ⟨⟨by omega, fun j hj => ⟨(v2 j hj).1, by have := (v2 j hj).2; omega⟩, v3⟩, v4⟩
theorem uP.los {S' : Nat → Int32} (hu : uP T P m D S t a W p L H ds ga) (hk : k < 3) (hd : ds k = 0) (s6 : S' 6 = S k 6) (s6n : S k 6 ≠ -1) (s7 : S' 7 = -1 ∨ ∃ z, S' 7 = nI z ∧ z ≤ 3000) : uP T P m D (uk S k S') t a W p L H ds ga := by
  obtain ⟨u1, u5, u6⟩ := hu
  refine ⟨u1, fun k' hk' => ?_, u6⟩
  by_cases ek : k' = k
  · subst ek
    obtain ⟨v1, v4, v5, v6, v7⟩ := u5 k' hk'
    rw [uk_at, s6]
    refine ⟨v1, v4, ?_, v6, v7⟩
    rcases s7 with z | ⟨z, z1, z2⟩
    · exact Or.inl z
    · exact Or.inr ⟨⟨z, z2, z1⟩, s6n, hd⟩
  · rw [uk_ne _ _ ek]
    exact u5 k' hk'
def tC (B X F : Nat) (τ : zK) (σ : zS) (n c s : Nat) : Option Nat → Option Nat → zR
  | some k, _ => z_cV (f_AckBook_lookForLosses F X (some (B + 0)) (some (B + (3 + 8 * k))) (o_w B X τ σ n c s)) fun w => some (.inl (some (.int (1 : Int32))), w)
  | none, none => some (.inl (some (.int (0 : Int32))), o_w B X τ σ n c s)
  | none, some k => some (.inl (some (.int ((2 : Int32) + nI k))), o_w B X τ (o_I σ 0 5 (if 10 < σ.1 0 5 + 1 then 10 else σ.1 0 5 + 1)) n c s)
theorem c_tick (hF : 20000 ≤ F) (h4 : σ1.1 0 4 = now) (e1 : σ1 = o_I σ 0 4 (σ.1 0 4 + 1)) (hu : ∀ k, k < 3 → σ1.1 (3 + 8 * k) 7 = u k) (hu1 : ∀ k, k < 3 → f_AckBook_probeTime F X (some (B + 0)) (some (B + (2 + 8 * k))) (o_w B X τ σ1 n c s) = some (.inl (some (.int (u1 k))), o_w B X τ σ1 n c s)) : f_AckBook_tick F X (some (B + 0)) (o_w B X τ σ n c s) = tC B X F τ σ1 n c s (pkE (gC u now) u 3) (pkE (gC u1 now) u1 3) := by
  have a0 := c_earlF (B := B) (X := X) (F := F) (τ := τ) (n := n) (c := c) (s := s) (x1 := 0) (u := u) h4 hF (fun k hk => ⟨fun _ => hu k hk, fun w => absurd rfl w⟩)
  have a1 := c_earlF (B := B) (X := X) (F := F) (τ := τ) (n := n) (c := c) (s := s) (x1 := 1) (u := u1) h4 hF (fun k hk => ⟨fun w => absurd w (by decide), fun _ => hu1 k hk⟩)
  unfold f_AckBook_tick
  simp only [oi_0_4, op_0_4, ot_0]
  rw [← e1]
  simp only [a0]
  cases h0 : pkE (gC u now) u 3 with
  | some k =>
    have hk := (pkE_lt h0).1
    simp only [Option.map_some, va_rf, z_cR, reduceCtorEq, if_false, or_s2_1 hk, ot_0]
    rfl
  | none =>
    simp only [Option.map_none, va_rf, z_cR, if_true, ot_0, a1]
    cases h1 : pkE (gC u1 now) u1 3 with
    | none =>
      simp only [Option.map_none, va_rf, z_cR, if_true]
      rfl
    | some k =>
      have hk := (pkE_lt h1).1
      simp only [Option.map_some, va_rf, z_cR, reduceCtorEq, if_false, oi_0_5, op_0_5, oi_s2_0 hk]
      rfl
theorem m_tick (hF : 20000 ≤ F) (e1 : σ1 = o_I (o_I σ 31 0 0) 31 1 (σ.1 31 1 + 1)) (h1 : σ1.1 31 1 = now) (hu : ∀ k, k < 3 → σ1.1 41 k = u k) (hu1 : ∀ k, k < 3 → f_AckBookModel_probeTime F X (some (B + 31)) (nI k) (o_w B X τ σ1 n c s) = some (.inl (some (.int (u1 k))), o_w B X τ σ1 n c s)) : f_AckBookModel_tick F X (some (B + 31)) (o_w B X τ σ n c s) = (if pkE (gM u now) u 3 = none then tE1 B X τ σ1 n c s (pkE (gM u1 now) u1 3) else tE0 B X F (F - 4) τ σ1 n c s (pkE (gM u now) u 3)) := by
  have a0 := n_tick0 (B := B) (X := X) (F := F) (τ := τ) (n := n) (c := c) (s := s) (F - 4) h1 hu 3 0 0 rfl
  have a1 := n_tick1 (B := B) (X := X) (F := F) (τ := τ) (n := n) (c := c) (s := s) (F - 8) h1 hu1 3 0 0 rfl (fun j h => by cases h)
  rw [show F - 4 + 3 + 1 = F by omega] at a0
  rw [show F - 8 + 3 + 1 = F - 4 by omega] at a1
  unfold f_AckBookModel_tick
  simp only [op_31_0, oi_31_1, op_31_1]
  have e2 : o_I (o_I σ 31 0 0) 31 1 ((o_I σ 31 0 0).1 31 1 + 1) = σ1 := by rw [e1]; rfl
  rw [e2]
  refine Eq.trans a0 ?_
  cases h0 : pkE (gM u now) u 3 with
  | none =>
    rw [if_pos rfl]
    exact a1
  | some k =>
    rw [if_neg (fun w => by cases w)]
theorem pW.ens {r : zR} {Q : Option Value → zS → Prop} {o : zO} (h : pW B X τ n c s r Q) (hX : X < B) (hn : 56 ≤ n) (hN : ∀ o, n ≤ o → τ o = Option.none) (e : r = some (o, o_w B X τ1 σ1 n1 c1 s1)) : ∃ v σE, o = .inl v ∧ Q v σE ∧ sC τ σE τ1 σ1 := by
  obtain ⟨v, σE, h1, h2, h3⟩ := h _ _ e
  have e3 : (some (.inl Option.none, o_w B X τ σE n c s) : zR) = some (.inl Option.none, o_w B X τ1 σ1 n1 c1 s1) := by rw [h2]
  exact ⟨v, σE, h1, h3, (x_ens hX hn hN e3).2.1⟩
theorem ch3 {p : Nat → Int32 → Prop} (h : ∀ k, k < 3 → ∃ v, p k v) : ∃ u : Nat → Int32, ∀ k, k < 3 → p k (u k) := ⟨fun k => if w : k < 3 then Classical.choose (h k w) else 0, fun k hk => by
  show p k (if w : k < 3 then Classical.choose (h k w) else 0)
  rw [dif_pos hk]
  exact Classical.choose_spec (h k hk)⟩
theorem c_los (h : sP τ σ P m D ft q S t W p L H ds) (hu : uP T P m D S t a W p L H ds ga) (hk : k < 3) {g : Nat} (hg : g < m k) (h6 : S k 6 = nI g) {o : Option Nat} : pW B X τ n c s (tC B X F τ σ n c s (some k) o) (fun v σ' => v = some (.int 1) ∧ ∃ S', sP τ σ' P m D (uk ft k (lsR (D k 2) g (nI t) (limV (W 0) (W 2)) (ft k)).1) (uk q k (fun b => if b = 0 then q k 0 else q k 1 ++ (lsR (D k 2) g (nI t) (limV (W 0) (W 2)) (ft k)).2.1)) (uk S k S') t W p L H ds ∧ S' 6 = S k 6 ∧ S' 7 = (lsR (D k 2) g (nI t) (limV (W 0) (W 2)) (ft k)).2.2) := by
  have hL := d_losses (B := B) (X := X) (F := F) (n := n) (c := c) (s := s) hk (h.2.1 k hk).1 h6 (by omega)
  rw [h.1, h.2.2.1 0 (by omega), h.2.2.1 2 (by omega)] at hL
  refine pW.cV (hL.mono (Q := fun v σ' => v = none ∧ _) fun v σ' z => z) fun σ' hq => pW.ret ⟨rfl, ?_⟩
  obtain ⟨-, hH, S', hS, s5, s6, s7⟩ := hq
  refine ⟨S', h.one (p' := 0) (d' := 0) hk (fun k' i j h1 h2 h3 h4 => hu.2.2 k' k i j h1 hk h2 h3 h4) hH.u hS (fun f hf => ?_), s6, s7⟩
  rw [(hH.2 29 (by omega) (by omega) (by omega) (by omega) (fun i hi => by have := ((h.2.1 k hk).1.1.2.2 i hi).1.1.1; omega)).1]
  exact h.2.2.1 f hf
theorem n_los {N : Nat} (h : rP σ m D ft q S t W p L H ds ga) (hu : uP T P m D S t a W p L H ds ga) (hT : T ≤ 600) (hk : k < 3) {g : Nat} (hg : g < m k) (h6 : S k 6 = nI g) (hd : ds k = 0) : pW B X τ n c s (tE0 B X F N τ σ n c s (some k)) (fun v σ' => v = some (.int 1) ∧ (∀ S' : Nat → Int32, S' 7 = (lsR (D k 2) g (nI t) (limV (W 0) (W 2)) (ft k)).2.2 → rP σ' m D (uk ft k (lsR (D k 2) g (nI t) (limV (W 0) (W 2)) (ft k)).1) (uk q k (fun b => if b = 0 then q k 0 else q k 1 ++ (lsR (D k 2) g (nI t) (limV (W 0) (W 2)) (ft k)).2.1)) (uk S k S') t W p L H ds ga)) ∧ ((lsR (D k 2) g (nI t) (limV (W 0) (W 2)) (ft k)).2.2 = -1 ∨ ∃ z, (lsR (D k 2) g (nI t) (limV (W 0) (W 2)) (ft k)).2.2 = nI z ∧ z ≤ 3000) := by
  obtain ⟨⟨u1, u2, u3, u4⟩, u5, u6⟩ := hu
  obtain ⟨⟨v1, v2, v3⟩, v4, v5, v6, v7⟩ := u5 k hk
  have hS := h.2.1 k hk
  have hga : ga k = nI g := (v6 hd).trans h6
  rw [hga, hd] at hS
  have hL := n_losses (B := B) (X := X) (F := F) (τ := τ) (n := n) (c := c) (s := s) hk hS (by omega)
  obtain ⟨x, hx, ex⟩ : ∃ x, x ≤ 2000 ∧ limV (W 0) (W 2) = nI x := by
    obtain ⟨⟨s0, hs0, es0⟩, ⟨l0, hl0, el0⟩, -, -⟩ := u4
    rw [es0, el0]
    exact limV_nI hs0 hl0
  have hle := ls_eq (ft := ft k) (d2 := D k 2) (a := a k) (g := g) (t := t) (x := x) (fun j hj => (v2 j (by omega)).1) (fun i j hij hj => v3 i j hij (by omega)) (fun j hj => (v2 j (by omega)).2) (by omega) hx
  have w0 : σ.1 31 18 = W 0 := h.2.2.1 0 (by omega)
  have w2 : σ.1 31 20 = W 2 := h.2.2.1 2 (by omega)
  rw [h.1, w0, w2, ex, hle.1] at hL
  rw [ex]
  refine ⟨pW.cV hL fun σ' hq => pW.ret ⟨rfl, fun S' s7 => h.one hk hq.1 ?_ s7⟩, hle.2⟩
  rw [hga, hd]
  exact hq.2
set_option maxHeartbeats 1000000 in
theorem kD.tick {o1 o2 : zO} (h : kD T τ σ) (hX : X < B) (hT : T < 512) (hF : 20000 ≤ F) (hn : 56 ≤ n) (hn1 : 56 ≤ n1) (hN : ∀ o, n ≤ o → τ o = none) (hE : xE σ σ1) (e1 : f_AckBook_tick F X (some (B + 0)) (o_w B X τ σ n c s) = some (o1, o_w B X τ1 σ1 n1 c1 s1)) (hX2 : mX σ1 σ2) (e2 : f_AckBookModel_tick F X (some (B + 31)) (o_w B X τ1 σ1 n1 c1 s1) = some (o2, o_w B X τ1 σ2 n1 c1 s1)) : kD (T + 1) τ1 σ2 := by
  obtain ⟨P, m, D, ew, ft, q, S, t, a, W, p, L, H, ds, ga, k1, k2, k3⟩ := h
  have k2' := k2.xe hE k3.1.2.1
  have k1t : sP τ (o_I σ 0 4 (σ.1 0 4 + 1)) P m D ft q S (t + 1) W p L H ds := k1.time (fun o ho => i_fun_ne ho) (by rw [i11, if_pos ⟨rfl, rfl⟩, k1.1]; exact nI_add t 1) rfl
  have k2t : rP (o_I (o_I σ1 31 0 0) 31 1 (σ1.1 31 1 + 1)) m (fun k => dX (D k) (ew k)) ft q S (t + 1) W p L H ds ga := k2'.time (fun o f w => by rw [i11, if_neg (fun z => w ⟨z.1, Or.inr (Or.inl z.2)⟩), i11, if_neg (fun z => w ⟨z.1, Or.inl z.2⟩)]) (by rw [i11, if_pos ⟨rfl, rfl⟩, k2'.1]; exact nI_add t 1) rfl
  have k3t := k3.time
  have k3d : uP (T + 1) P m (fun k => dX (D k) (ew k)) S (t + 1) a W p L H ds ga := k3t
  obtain ⟨uc, huc⟩ := ch3 (fun k hk => s_cprobe (B := B) (X := X) (F := F) (τ := τ) (σ := o_I σ 0 4 (σ.1 0 4 + 1)) (n := n) (c := c) (s := s) hk hF)
  have hmS : m_S (o_I (o_I σ1 31 0 0) 31 1 (σ1.1 31 1 + 1)) m := fun k hk => ⟨(k2t.2.1 k hk).1.1, (k2t.2.1 k hk).1.2.1⟩
  obtain ⟨um, hum⟩ := ch3 (fun k hk => s_probeTime (B := B) (X := X) (F := F) (τ := τ1) (n := n1) (c := c1) (s := s1) hmS hF hk)
  rw [c_tick hF k1t.1 rfl (u := fun k => S k 7) (fun k hk => (k1t.2.1 k hk).1.2.2 7 (by omega) (by omega)) huc] at e1
  rw [m_tick hF rfl k2t.1 (u := fun k => S k 7) (fun k hk => (k2t.2.1 k hk).2.2.2.1) hum, ← gCM (u := fun k => S k 7) (now := nI (t + 1)) (fun k hk => by
    rcases (k3.2.1 k hk).2.2.1 with z | ⟨⟨z, z1, z2⟩, -⟩
    · exact Or.inl z
    · right
      show ¬ S k 7 < 0
      rw [z2]
      exact nI_pos (by omega))] at e2
  cases hp : pkE (gC (fun k => S k 7) (nI (t + 1))) (fun k => S k 7) 3 with
  | some k =>
    rw [hp] at e1 e2
    obtain ⟨hk, hg7⟩ := pkE_lt hp
    have h7 : ¬ S k 7 = -1 := (of_decide_eq_true hg7).1
    obtain ⟨-, v4, v5, -, -⟩ := k3.2.1 k hk
    obtain ⟨-, s6n, hd⟩ := v5.resolve_left h7
    obtain ⟨g, hg, eg⟩ := v4.resolve_left s6n
    rw [if_neg (fun w => by cases w)] at e2
    obtain ⟨v, σE, -, ⟨-, S', z3, z4, z5⟩, z6⟩ := (c_los (B := B) (X := X) (F := F) (n := n) (c := c) (s := s) k1t k3t hk hg eg).ens hX hn hN e1
    obtain ⟨hB, hls⟩ := n_los (B := B) (X := X) (F := F) (τ := τ1) (n := n1) (c := c1) (s := s1) (N := F - 4) k2t k3d (by omega) hk hg eg hd
    obtain ⟨v3, σF, -, ⟨-, w3⟩, w5⟩ := hB.enr hn1 e2
    exact ⟨P, m, D, ew, _, _, _, t + 1, a, W, p, L, H, ds, ga, z3.keep (z6.trans hX2.sc), (w3 S' z5).rc w5, k3t.los hk hd z4 s6n (by rw [z5]; exact hls)⟩
  | none =>
    rw [hp] at e1 e2
    rw [if_pos rfl] at e2
    have hA : pW B X τ n c s (tC B X F τ (o_I σ 0 4 (σ.1 0 4 + 1)) n c s none (pkE (gC uc (nI (t + 1))) uc 3)) (fun _ σ' => sP τ σ' P m D ft q S (t + 1) W p L H ds) := by
      cases pkE (gC uc (nI (t + 1))) uc 3 with
      | none => exact pW.ret k1t
      | some j => exact pW.ret (k1t.time (fun o ho => i_fun_ne ho) (by rw [i11, if_neg (by omega)]; exact k1t.1) rfl)
    have hB : pW B X τ1 n1 c1 s1 (tE1 B X τ1 (o_I (o_I σ1 31 0 0) 31 1 (σ1.1 31 1 + 1)) n1 c1 s1 (pkE (gM um (nI (t + 1))) um 3)) (fun _ σ' => rP σ' m (fun k => dX (D k) (ew k)) ft q S (t + 1) W p L H ds ga) := by
      cases pkE (gM um (nI (t + 1))) um 3 with
      | none => exact pW.ret k2t
      | some j => exact pW.ret (k2t.time (fun o f w => by rw [i11, if_neg (fun z => w ⟨z.1, Or.inr (Or.inr z.2)⟩)]) (by rw [i11, if_neg (by omega)]; exact k2t.1) rfl)
    obtain ⟨v, σE, -, z3, z6⟩ := hA.ens hX hn hN e1
    obtain ⟨v3, σF, -, w3, w5⟩ := hB.enr hn1 e2
    exact ⟨P, m, D, ew, ft, q, S, t + 1, a, W, p, L, H, ds, ga, z3.keep (z6.trans hX2.sc), w3.rc w5, k3t⟩
end JA
