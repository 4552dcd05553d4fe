/-! acknowledge, all alike. -/
section LD
variable {B X F : Nat} {τ τ1 : zK} {n c s n1 c1 s1 T : Nat} {σ σ' σ1 σ2 σ3 : zS} {P : Nat → Nat → Nat} {m : Nat → Nat} {D : Nat → Nat → Nat → Int32} {ft : Nat → Nat → Int32} {q : Nat → Nat → List Nat} {S : Nat → Nat → Int32} {t p : Nat} {a : Nat → Nat → Nat} {W ds ga : Nat → Int32} {L H : Nat → Int64} {k g g1 : Nat} {x y : Int32}
def akN (W : Nat → Int32) (k : Nat) (D : Nat → Nat → Int32) (ft : Nat → Int32) (inC : Nat → Bool) (m g g1 t : Nat) (y : Int32) : List Nat := if nw ft inC m = [] then [] else nw ft inC m ++ (akL W k D ft inC m g g1 t y).2.1
theorem akR_sm {D : Nat → Nat → Int32} {ft : Nat → Int32} {q : Nat → List Nat} {lt : Int32} {inC : Nat → Bool} {m : Nat} (hg : g1 ≤ m) (w : Nat → Int32) : sm w (akR W k D ft q lt inC m g g1 t y).1 m = sb w (akN W k D ft inC m g g1 t y) (sm w ft m) := by
  unfold akR akN
  by_cases h : nw ft inC m = []
  · rw [if_pos h, if_pos h]
    rfl
  · rw [if_neg h, if_neg h, sb_appl, ← sm_fy m (Nat.le_refl _)]
    exact (lsR_sm hg).1 w
theorem akI_sb {D : Nat → Nat → Int32} {ft : Nat → Int32} {inC : Nat → Bool} {m : Nat} {v : Int32} : akI W k D ft inC m g g1 t y v = sb (cz D) (akN W k D ft inC m g g1 t y) v := by
  unfold akI akN
  by_cases h : nw ft inC m = []
  · rw [if_pos h, if_pos h]
    rfl
  · rw [if_neg h, if_neg h, sb_appl]
theorem wOK.K {D : Nat → Nat → Int32} {ft : Nat → Int32} {inC : Nat → Bool} {m Z : Nat} {v : Int32 × Int32 × Int32} (h : wOK Z v) (hm : m ≤ 4096) (hZ : 2400 ≤ Z ∧ Z ≤ 3000000) (hu : ∀ b, b < m → ∃ u, D 1 b = nI u ∧ u ≤ 1200) (ht : t ≤ 1000) : wOK (Z + 1200 * 4096) (akF W k D ft inC m g g1 t y v) := by
  have hlen := nw_len (ft := ft) (inC := inC) m
  have h1 := wOK.fold (D := D) (nw ft inC m) Z v h (by omega) (fun b hb => hu b (nw_mem m b hb).1)
  obtain ⟨⟨z, z1, z2, z3⟩, h2, h3⟩ := h1
  have h1 : wOK (Z + 1200 * 4096) ((nw ft inC m).foldl (fwA D) v) := ⟨⟨z, z1, by omega, z3⟩, h2, h3⟩
  unfold akF
  split
  · obtain ⟨⟨z, z1, z2, z3⟩, h2, h3⟩ := h
    exact ⟨⟨z, z1, by omega, z3⟩, h2, h3⟩
  · exact h1.fx (by omega) (by omega) (Or.inr (nI_pos (by omega)))
set_option maxHeartbeats 1000000 in
theorem kE.ack {v v2 : Int32} (h : kE T τ σ) (hM : mM T σ1) (hX : X < B) (hn : 56 ≤ n) (hn1 : 56 ≤ n1) (hN : ∀ o, n ≤ o → τ o = none) (hT : T < 512) (hE : xE σ σ1) (e1 : f_AckBookLaw_acknowledge F X (some (B + 0)) x y (some (B + 55)) (o_w B X τ σ n c s) = some (.inl (some (.int v)), o_w B X τ1 σ1 n1 c1 s1)) (hX2 : mX σ1 σ2) (e2 : f_AckBookModel_acknowledge F X (some (B + 31)) x y (o_w B X τ1 σ1 n1 c1 s1) = some (.inl (some (.int v2)), o_w B X τ1 σ2 n1 c1 s1)) : kE (T + 1) τ1 σ2 ∧ σ2.1 31 0 = v ∧ (v = 0 → σ2.2.1 55 0 = v2.toInt64) := by
  obtain ⟨P, m, D, ft, q, S, t, a, W, p, L, H, ds, ga, k1, k2, k3, k4⟩ := h
  have hp := k3.1.2.1
  have k2' := k2.xe hE hp
  obtain ⟨k1c, -⟩ := k1.close
  have cl : cFB σ (sCl σ) := ⟨fun f _ => by rw [sCl.ne (by omega)], fun f _ _ => by rw [sCl.ne (by omega)]⟩
  unfold f_AckBookLaw_acknowledge at e1
  rw [ot_0] at e1
  have ref : ∀ u : Int32, u ≠ 0 → v = u → sW2 τ (sCl σ) τ1 σ1 → (∃ v2 σE, f_AckBookModel_acknowledge F X (some (B + 31)) x y (o_w B X τ1 σ1 n1 c1 s1) = some (.inl (some (.int v2)), o_w B X τ1 σE n1 c1 s1) ∧ rq u σ1 σE) → kE (T + 1) τ1 σ2 ∧ σ2.1 31 0 = v ∧ (v = 0 → σ2.2.1 55 0 = v2.toInt64) := fun u hu0 hvu hC ⟨v3, σE, e3, hq⟩ => by
    rw [e3] at e2
    have hrc := (x_er2 hn1 e2).2
    refine ⟨⟨P, m, D, ft, q, S, t, a, W, 0, L, H, ds, ga, k1c.keep (hC.1.trans hX2.sc), (k2'.rq hq).rc hrc.1, ?_, k4.to (by omega) ((cl.trans hC.2).trans hX2.fb) ((hE.rd.trans (fun f hf => hq.1 31 f (fun z => by omega))).trans hrc.2)⟩, (hrc.1.1 0 (by omega)).trans (hq.2.2.1.trans hvu.symm), fun z => absurd (hvu.symm.trans z) hu0⟩
    obtain ⟨⟨w1, w2, w3, w4⟩, w5⟩ := k3.up
    exact ⟨⟨w1, by omega, ⟨fun j hj => absurd hj (Nat.not_lt_zero _), fun i j _ hj => absurd hj (Nat.not_lt_zero _)⟩, w4⟩, w5⟩
  rcases e_sp x with hx | ⟨k, hk, rfl⟩
  · rw [c_ackB hx] at e1
    obtain ⟨z1, z2⟩ := x_th2I (u := 1) hX hn hN e1 (fun w => rfl)
    exact ref 1 (by decide) z1 z2 (n_ackB hx)
  · by_cases hd : ds k = 0
    · by_cases hok : ¬ y < 0 ∧ y ≤ 100000 ∧ 0 < p ∧ ∃ g, g < m k ∧ H 0 = lN g
      · obtain ⟨y1, y2, hp0, g, hg, hH⟩ := hok
        have hmT : ∀ k, k < 3 → m k ≤ 4096 := fun k hk => by have := (k3.2.1 k hk).1.1; omega
        have q4 : fq σ = mq σ := k4.1.1
        have q1 : mq σ1 = mq σ := mq.cong hE.rd
        have hok : wOK 3000000 (mq σ1) := wOK.ofM hM (by omega) (by rw [q1, ← q4]; exact k4.1.2.2.1) (by rw [q1, ← q4]; exact k4.1.2.2.2)
        have hsz : ∀ b, b < m k → ∃ u, D k 1 b = nI u ∧ u ≤ 1200 := fun b hb => m_size hM k2' hmT (by omega) hk hb
        have hlen := nw_len (ft := ft k) (inC := inR p L H) (m k)
        have hmk := hmT k hk
        have hpos : ∀ l1 l2, nw (ft k) (inR p L H) (m k) = l1 ++ l2 → ¬ (l1.foldl (fwA (D k)) (mq σ1)).1 ≤ 0 ∧ ¬ (l1.foldl (fwA (D k)) (mq σ1)).1 = 0 := fun l1 l2 hl => by
          have : l1.length ≤ (nw (ft k) (inR p L H) (m k)).length := by rw [hl, List.length_append]; omega
          exact (wOK.fold (D := D k) l1 3000000 _ hok (by omega) (fun b hb => hsz b (nw_mem _ b (by rw [hl]; exact List.mem_append.mpr (Or.inl hb))).1)).pos (by omega)
        have qq : fq σ = mq σ1 := q4.trans q1.symm
        have h4 : S k 4 = sm (ez (D k)) (ft k) (m k) := by
          have := (k4.2.2.1 k hk).1
          unfold pS at this
          rw [if_pos hd] at this
          exact this
        obtain ⟨g1, hg1, hgg, hA⟩ := c_ackAX (B := B) (X := X) (F := F) (n := n) (c := c) (s := s) k1 k3 hk hd y1 y2 hp0 hg hH h4 (fun l1 l2 hl => by rw [qq]; exact (hpos l1 l2 hl).1)
        obtain ⟨z1, u, σE, ⟨z2, S', z3, z4, z5, s4, s5, eq, ei, e05, e68⟩, z6, z7⟩ := x_ok2I hX hn hN hA e1
        have hB := n_ackAX (B := B) (X := X) (F := F) (τ := τ1) (n := n1) (c := c1) (s := s1) k2' k3 (by omega) hk hd y1 y2 hp0 hg hH hg1 hgg hok.2.2 hok.2.1 (fun l1 l2 hl => (hpos l1 l2 hl).2)
        obtain ⟨v3, σF, w1, ⟨w2, w3, w4, wq, w23, wr⟩, w5⟩ := hB.er2 hn1 e2
        have hD2 := (k3.2.1 k hk).1.2.1 g hg
        have ht : t ≤ 1000 := by have := k3.1.1; omega
        have hQ : eQ (T + 1) σE σF m D (uk ft k (akR W k (D k) (ft k) (q k) (S k 7) (inR p L H) (m k) g g1 t y).1) (uk S k S') (akR W k (D k) (ft k) (q k) (S k 7) (inR p L H) (m k) g g1 t y).2.2.2 ds := by
          refine k4.ack hk hd (fun w => akR_sm (by omega) w) s4 s5 (by rw [eq, wq, qq]) (by rw [ei, akI_sb]) ?_ ?_ e68 (fun f hf => (wr f hf).trans (hE.rd f (by omega))) ?_
          · have := wOK.K (W := W) (k := k) (ft := ft k) (inC := inR p L H) (g := g) (g1 := g1) (t := t) (y := y) hok hmk (by omega) hsz ht
            rw [eq, qq]
            exact this.2
          · rw [e05, w23, hE.rd 23 (by omega), ← k4.2.1.1]
            refine ⟨rfl, ?_⟩
            split
            · exact k4.2.1.2.1
            · exact ⟨0, by omega, rfl⟩
          · unfold akR
            split
            · exact k4.2.2.2
            · exact wyA_vary k3.1.2.2.2 k4.2.2.2 hD2.1 hD2.2 ht y1
        refine ⟨⟨P, m, D, _, _, _, t, a, _, 0, L, H, ds, _, z3.keep (z6.1.trans hX2.sc), (w3 S' z5).rc w5.1, k3.ack (by omega) hk hd y1 hg hg1 z4 z5, hQ.to (Nat.le_refl _) (z6.2.trans hX2.fb) w5.2⟩, (w5.1.1 0 (by omega)).trans (w4.trans z1.symm), fun _ => ?_⟩
        rw [(hX2 55 (by omega)).2.1, z7]
        injection w1 with w1
        rw [← w1] at w2
        rw [← z2] at w2
        injection w2 with w2
        injection w2 with w2
        rw [w2]
      · rw [c_ackN k1 hp hk hd hok] at e1
        obtain ⟨z1, z2⟩ := x_th2I (u := 1) hX hn hN e1 (fun w => rfl)
        exact ref 1 (by decide) z1 z2 (n_ackN k2' hp hk hd (fun h0 => by have := k3.1.2.2.1.1 0 h0; omega) hok)
    · have hd1 : ds k = 1 := ((k3.2.1 k hk).2.2.2.2).resolve_left hd
      rw [c_ackD hk (by rw [(k1.2.1 k hk).2]; exact hd)] at e1
      obtain ⟨z1, z2⟩ := x_th2I (u := 2) hX hn hN e1 (fun w => rfl)
      exact ref 2 (by decide) z1 z2 (n_ackD hk ((k2'.2.1 k hk).1.2.2.trans hd1))
end LD
