section CK
variable {B X F : Nat} {τ : zK} {n c s T R D : Nat} {σ : zS} {N rk : Nat → Nat}
theorem cJ.newp (hJ : cJ T R τ σ N rk) (hN : 56 ≤ n ∧ ∀ o, n ≤ o → τ o = none) {σ' : zS} (hL : σ'.2.1 = σ.2.1) (hI : ∀ a, a ≠ n → σ'.1 a = σ.1 a) (hRr : ∀ a, a ≠ n → σ'.2.2 a = σ.2.2 a) (h0 : ∃ j, σ'.1 n 0 = nI j ∧ j ≤ 4096) (h7 : σ'.2.2 n 7 = none) : cJ T R (o_kd τ n (.inl 9)) σ' N (fun a => if a = n then 0 else rk a) := by
  obtain ⟨n1, n2⟩ := hN
  have hpk : ∀ q, o_pk (o_kd τ n (.inl 9)) q ↔ (o_pk τ q ∨ q = n) := fun q => by
    unfold o_pk o_kd
    by_cases hq : q = n
    · subst hq
      simp [n1]
    · simp [hq]
  have ne1 : ∀ q, o_pk τ q → q ≠ n := fun q h => by
    rintro rfl
    have h2 := h.2
    rw [n2 q (Nat.le_refl _)] at h2
    cases h2
  have ne2 : ∀ e cp, o_ar τ e cp → e ≠ n := fun e cp h => by
    rintro rfl
    have h2 := h.2
    rw [n2 e (Nat.le_refl _)] at h2
    cases h2
  have har : ∀ e cp, o_ar τ e cp → o_ar (o_kd τ n (.inl 9)) e cp := fun e cp h => ⟨h.1, by unfold o_kd; rw [if_neg (ne2 e cp h)]; exact h.2⟩
  obtain ⟨h1, h2, h3, h4, h5⟩ := hJ
  refine ⟨fun k hk => ?_, fun k hk f' hf => ⟨fun q hq => ?_, fun q hq => ?_⟩, fun q hq => ?_, ?_, fun k hk => ?_⟩
  · rw [hI _ (by omega), hRr _ (by omega)]
    obtain ⟨a1, a2, a3⟩ := h1 k hk
    refine ⟨a1, a2, ?_⟩
    rcases a3 with a3 | ⟨p, cp, g1, g2, g3, g4, g5, g6, g7⟩
    · exact Or.inl a3
    · have hz := hRr p (ne2 p cp g2)
      refine Or.inr ⟨p, cp, g1, har p cp g2, g3, g4, g5, fun j hj => ?_, fun j hj => by rw [hz]; exact g7 j hj⟩
      rw [hz]
      rcases g6 j hj with z | ⟨q, z1, z2⟩
      · exact Or.inl z
      · exact Or.inr ⟨q, z1, (hpk q).mpr (Or.inl z2)⟩
  · rw [hRr _ (by omega)] at hq
    have := (h2 k hk f' hf).1 q hq
    exact ⟨(hpk q).mpr (Or.inl this.1), by rw [hI q (ne1 q this.1)]; exact this.2⟩
  · rw [hRr _ (by omega)] at hq
    have := (h2 k hk f' hf).2 q hq
    exact ⟨(hpk q).mpr (Or.inl this.1), by rw [hI q (ne1 q this.1)]; exact this.2⟩
  · rcases (hpk q).mp hq with hq | rfl
    · obtain ⟨a1, a2, a3, a4⟩ := h3 q hq
      rw [hI q (ne1 q hq), hRr q (ne1 q hq)]
      refine ⟨a1, a2, by show (if q = n then 0 else rk q) ≤ R; rw [if_neg (ne1 q hq)]; exact a3, fun q' hq' => ?_⟩
      obtain ⟨b1, b2, b3⟩ := a4 q' hq'
      refine ⟨(hpk q').mpr (Or.inl b1), by rw [hI q' (ne1 q' b1)]; exact b2, ?_⟩
      show (if q = n then 0 else rk q) < if q' = n then 0 else rk q'
      rw [if_neg (ne1 q hq), if_neg (ne1 q' b1)]
      exact b3
    · refine ⟨h0, fun _ => h7, by show (if q = q then 0 else rk q) ≤ R; rw [if_pos rfl]; exact Nat.zero_le _, fun q' hq' => ?_⟩
      rw [h7] at hq'
      cases hq'
  · obtain ⟨b1, b2, b3⟩ := h4
    exact ⟨by rw [hI 26 (by omega)]; exact b1, by rw [hI 26 (by omega)]; exact b2, by rw [hL]; exact b3⟩
  · rw [hI _ (by omega)]; exact h5 k hk
theorem k_sendB (h : kI T τ σ n c s) (hT : T < 512) (x y e d : Int32) (hb : m_vBad x y e d) : k_c B X T (f_AckBook_send F X (some (B + 0)) x y e d (o_w B X τ σ n c s)) (fun o σ' => xF σ σ' ∧ xU σ σ' ∧ o = .inr 11) := by
  obtain ⟨N, rk, R, hJ, hR, hN⟩ := h
  have t11 : k_c B X T (z_thr (o_w B X τ σ n c s) 11) (fun o σ' => xF σ σ' ∧ xU σ σ' ∧ o = .inr 11) := k_thr hJ (by omega) hN hT 11 (by decide) ⟨xF.refl σ, xU.refl σ, rfl⟩
  unfold f_AckBook_send
  rw [ot_0]
  rcases e_sp x with hx | ⟨k, hk, rfl⟩
  · rw [c_knownB hx, z_thr_cR]
    exact t11
  · rw [c_known hk, y_cRs]
    by_cases h2 : y < 1
    · rw [if_pos h2]; exact t11
    · rw [if_neg h2]
      by_cases h3 : y ≤ 1200
      · rw [if_pos h3]
        rcases hb with q | q | q | ⟨q1, q2⟩
        · exact absurd q (e_spk hk)
        · exact absurd q h2
        · exact absurd h3 (Int32.not_le.mpr q)
        · rw [if_neg q1, if_pos q2]; exact t11
      · rw [if_neg h3]; exact t11
theorem k_send48 {k : Nat} (hk : k < 3) (y e d : Int32) (hb : ¬ m_vBad (nI k) y e d) : f_AckBook_send F X (some (B + 0)) (nI k) y e d (o_w B X τ σ n c s) = q_AckBook_send_48 F X (some (B + 0)) y e d (some (B + (2 + 8 * k))) (o_w B X τ σ n c s) := by
  unfold f_AckBook_send
  rw [ot_0, c_known hk, y_cRs, if_neg (fun q => hb (Or.inr (Or.inl q))), if_pos (Int32.not_lt.mp fun q => hb (Or.inr (Or.inr (Or.inl q))))]
  by_cases h1 : e = 0
  · rw [if_pos h1]
  · rw [if_neg h1, if_neg (fun q => hb (Or.inr (Or.inr (Or.inr ⟨h1, q⟩))))]
theorem k_sendD (h : kI T τ σ n c s) (hT : T < 512) {k : Nat} (hk : k < 3) (y e d : Int32) (hb : ¬ m_vBad (nI k) y e d) (hd : σ.1 (2 + 8 * k) 3 ≠ 0) : k_c B X T (f_AckBook_send F X (some (B + 0)) (nI k) y e d (o_w B X τ σ n c s)) (fun o σ' => xF σ σ' ∧ xU σ σ' ∧ o = .inr 12) := by
  obtain ⟨N, rk, R, hJ, hR, hN⟩ := h
  rw [k_send48 hk y e d hb]
  unfold q_AckBook_send_48
  simp only [f_AckBook_refuseDiscarded, oi_s2_3 hk]
  rw [if_neg hd, z_thr_cV]
  exact k_thr hJ (by omega) hN hT 12 (by decide) ⟨xF.refl σ, xU.refl σ, rfl⟩
set_option maxHeartbeats 1000000 in
theorem k_sendO (h : kI T τ σ n c s) (hX : X < B) (hT : T < 512) {k : Nat} (hk : k < 3) (y e d : Int32) (he : e = 0 ∨ e = 1) (hdd : d = 0 ∨ d = 1) (hb : ¬ m_vBad (nI k) y e d) (hd : σ.1 (2 + 8 * k) 3 = 0) : k_c B X T (f_AckBook_send F X (some (B + 0)) (nI k) y e d (o_w B X τ σ n c s)) (fun o σ' => xF σ σ' ∧ ((∀ j, j < 3 → σ'.1 (6 + 8 * j) 1 = if j = k then σ.1 (6 + 8 * k) 1 + 1 else σ.1 (6 + 8 * j) 1) ∧ (∀ j, j < 3 → σ'.1 (2 + 8 * j) 3 = σ.1 (2 + 8 * j) 3) ∧ σ'.1 26 2 = σ.1 26 2 ∧ ∀ i, σ'.2.1 27 i = σ.2.1 27 i) ∧ o = .inl (some (.int (σ.1 (6 + 8 * k) 1)))) := by
  obtain ⟨N, rk, R, hJ, hR, hN⟩ := h
  obtain ⟨n1, n2, n3, n4⟩ := hN
  have hc1 : 1 ≤ c ∧ 8 ≤ s := by omega
  have hc2 : 2 ≤ c - 1 := by omega
  have hc3 : 2000 ≤ s - 8 := by omega
  obtain ⟨a1, a2, -⟩ := hJ.1 k hk
  rw [k_send48 hk y e d hb]
  unfold q_AckBook_send_48
  simp only [f_AckBook_refuseDiscarded, oi_s2_3 hk]
  rw [if_pos hd]
  simp only [y_cV, or_s2_1 hk, ot_s3 hk, f_AckBook_Sent_count, or_s3_2 hk, ot_s6 hk, c_size hk, y_cI, a1]
  rw [if_pos (show nI (N k) < (4096 : Int32) from nI_lt (b := 4096) (by omega) (by decide)), d_new n1, if_pos hc1]
  have hp : o_pk (o_kd τ n (.inl 9)) n := ⟨n1, by unfold o_kd; rw [if_pos rfl]⟩
  have eN : (o_clr σ n).1 (6 + 8 * k) 1 = nI (N k) := by rw [c11, if_neg (by omega)]; exact a1
  simp only [or_s2_1 hk, ot_s3 hk, or_s3_2 hk, ot_s6 hk, c_size hk, y_cI, eN, oi_0_4, z_nn, f_AckBook_Packet_init, d_pI hp 0 (by omega), d_pI hp 1 (by omega), d_pI hp 2 (by omega), d_pZ hp 3 (by omega), d_pZ hp 4 (by omega), if_pos he, if_pos hdd, d_pI hp 6 (by omega), y_cV]
  generalize hσp : o_I (o_I (o_I (o_I (o_I (o_I (o_clr σ n) n 0 (nI (N k))) n 1 y) n 2 ((o_clr σ n).1 0 4)) n 3 e) n 4 d) n 6 0 = σp
  have pI : ∀ a, a ≠ n → σp.1 a = σ.1 a := fun a ha => funext fun b => by rw [← hσp]; simp [i11, c11, ha]
  have pR : ∀ a, a ≠ n → σp.2.2 a = σ.2.2 a := fun a ha => funext fun b => by rw [← hσp]; simp [i12, c13, ha]
  have pL : σp.2.1 = σ.2.1 := by rw [← hσp]; rfl
  have p0 : σp.1 n 0 = nI (N k) := by rw [← hσp]; simp [i11]
  have p7 : σp.2.2 n 7 = none := by rw [← hσp]; simp [i12, c13]
  have hJp := hJ.newp (n := n) ⟨n1, n2⟩ pL pI pR ⟨N k, p0, by omega⟩ p7
  obtain ⟨τ2, σ2, n', c', s', b1, b2, b3, b4, b5, b6, b7, b8, b9, b10⟩ := s_add (B := B) (X := X) (F := F) (c := c - 1) (s := s - 8) (n := n + 1) hJp hX hT ⟨by omega, fun o ho => by unfold o_kd; rw [if_neg (by omega)]; exact n2 o (by omega)⟩ hc2 hc3 hk hp
  have q0 : σ2.1 n 0 = nI (N k) := by rw [b7 n (by omega) (by omega)]; exact p0
  simp only [or_s2_1 hk, ot_s3 hk, f_AckBook_Sent_enter, or_s3_2 hk, ot_s6 hk, b1, y_cI, oi_s3_3 hk, op_s3_3 hk, d_gI b6 3 (by omega)]
  -- what comes behind: counters of the space, the flow
  have fin : ∀ σ3, cJ (T + 1) R τ2 σ3 (fun i => if i = k then N k + 1 else N i) (fun a => if a = n then 0 else rk a) → (∀ o, o ≠ 3 + 8 * k → σ3.1 o = σ2.1 o) → σ3.2 = σ2.2 → k_c B X T (z_cV (some (.inl none, o_w B X τ2 σ3 n' c' s')) fun w => z_getR w 0 3 (some (B + 0)) fun r13 => z_this w 8 r13 <| z_cV (f_AckBook_Flow_enter F X r13 (some (B + n)) w) fun w => z_getI w 0 4 (some (B + 0)) fun v15 => z_put w 0 6 (some (B + 0)) (.int v15) fun w => z_getI w 9 0 (some (B + n)) fun v16 => some (.inl (some (.int v16)), w)) (fun o σ' => xF σ σ' ∧ ((∀ j, j < 3 → σ'.1 (6 + 8 * j) 1 = if j = k then σ.1 (6 + 8 * k) 1 + 1 else σ.1 (6 + 8 * j) 1) ∧ (∀ j, j < 3 → σ'.1 (2 + 8 * j) 3 = σ.1 (2 + 8 * j) 3) ∧ σ'.1 26 2 = σ.1 26 2 ∧ ∀ i, σ'.2.1 27 i = σ.2.1 27 i) ∧ o = .inl (some (.int (nI (N k))))) := by
    intro σ3 hJ3 hI3 hR3
    have hfl : ∃ σ4, f_AckBook_Flow_enter F X (some (B + 30)) (some (B + n)) (o_w B X τ2 σ3 n' c' s') = some (.inl none, o_w B X τ2 σ4 n' c' s') ∧ cJ (T + 1) R τ2 σ4 (fun i => if i = k then N k + 1 else N i) (fun a => if a = n then 0 else rk a) ∧ σ4.2 = σ3.2 ∧ (∀ o, o ≠ 30 → o ≠ n → σ4.1 o = σ3.1 o) ∧ σ4.1 n 0 = σ3.1 n 0 := by
      unfold f_AckBook_Flow_enter
      simp only [d_gI b6 4 (by omega), d_gI b6 1 (by omega), oi_30_0, op_30_0, q_AckBook_Flow_enter_20, oi_30_1, d_pZ b6 5 (by omega)]
      have w0 : ∀ (σ5 : zS) (b : Int32), cJ (T + 1) R τ2 σ5 (fun i => if i = k then N k + 1 else N i) (fun a => if a = n then 0 else rk a) → σ5.2 = σ3.2 → (∀ o, o ≠ 30 → σ5.1 o = σ3.1 o) → ∃ σ4, (some ((.inl none : zO), o_w B X τ2 (o_I σ5 n 5 b) n' c' s') : zR) = some (.inl none, o_w B X τ2 σ4 n' c' s') ∧ cJ (T + 1) R τ2 σ4 (fun i => if i = k then N k + 1 else N i) (fun a => if a = n then 0 else rk a) ∧ σ4.2 = σ3.2 ∧ (∀ o, o ≠ 30 → o ≠ n → σ4.1 o = σ3.1 o) ∧ σ4.1 n 0 = σ3.1 n 0 := by
        intro σ5 b z1 z2 z3
        refine ⟨_, rfl, z1.I (Or.inr ⟨n1, by decide, by decide⟩), z2, fun o ho ho2 => ?_, ?_⟩
        · rw [← z3 o ho]
          funext x
          rw [i11, if_neg (fun q => ho2 q.1)]
        · rw [i11, if_neg (by omega), z3 n (by omega)]
      have wA := fun b => w0 σ3 b hJ3 rfl (fun _ _ => rfl)
      have wB := fun x b => w0 (o_I σ3 30 0 x) b (hJ3.I (Or.inl (by omega))) rfl (fun o ho => funext fun z => by rw [i11, if_neg (fun q => ho q.1)])
      by_cases q1 : σ3.1 n 4 = 0
      · rw [if_pos q1]
        split
        · rw [if_pos (by simp)]; exact wA 0
        · rw [if_pos (by simp)]; exact wA 1
      · rw [if_neg q1]
        split
        · rw [if_pos (by simp)]; exact wB _ 0
        · rw [if_pos (by simp)]; exact wB _ 1
    obtain ⟨σ4, c1, c2, c3, c4, c5⟩ := hfl
    have r0 : (o_I σ4 0 6 (σ4.1 0 4)).1 n 0 = nI (N k) := by
      rw [i11, if_neg (by omega), c5, hI3 n (by omega)]; exact q0
    simp only [y_cV, or_0_3, ot_30, c1, oi_0_4, op_0_6, d_gI b6 0 (by omega), r0]
    have fI : ∀ o, o < 56 → o ≠ 0 → o ≠ 30 → o ≠ 3 + 8 * k → o ≠ 6 + 8 * k → (o_I σ4 0 6 (σ4.1 0 4)).1 o = σ.1 o := fun o h1 h2 h3 h4 h5 => by
      have z : (o_I σ4 0 6 (σ4.1 0 4)).1 o = σ4.1 o := funext fun b => by rw [i11, if_neg (fun q => h2 q.1)]
      rw [z, c4 o h3 (by omega), hI3 o h4, b7 o h5 (by omega), pI o (by omega)]
    have fL : (o_I σ4 0 6 (σ4.1 0 4)).2.1 = σ.2.1 := by
      show σ4.2.1 = σ.2.1
      rw [c3, hR3, b8, pL]
    refine ⟨τ2, _, n', c', s', ⟨_, _, R, c2.I (Or.inl (by omega)), by omega, b3.1, b3.2, by omega, by omega⟩, Or.inl ⟨_, rfl, fun o h1 h2 => ⟨fI o h2 (by omega) (by omega) (by omega) (by omega), by rw [fL], ?_⟩, ⟨fun j hj => ?_, fun j hj => ?_, ?_, fun i => by rw [fL]⟩, rfl⟩⟩
    · show σ4.2.2 o = σ.2.2 o
      rw [c3, hR3, b9 o h1 h2, pR o (by omega)]
    · by_cases q : j = k
      · subst q
        rw [if_pos rfl, a1, nI_1]
        have z : (o_I σ4 0 6 (σ4.1 0 4)).1 (6 + 8 * j) = σ4.1 (6 + 8 * j) := funext fun b => by rw [i11, if_neg (by omega)]
        rw [z, c4 _ (by omega) (by omega), hI3 _ (by omega)]
        exact b10
      · rw [if_neg q, fI (6 + 8 * j) (by omega) (by omega) (by omega) (by omega) (by omega)]
    · rw [fI (2 + 8 * j) (by omega) (by omega) (by omega) (by omega) (by omega)]
    · rw [fI 26 (by omega) (by omega) (by omega) (by omega) (by omega)]
  have w1 := b2.I (o := 3 + 8 * k) (f := 3) (x := σ2.1 (3 + 8 * k) 3 + 1) (Or.inl (by omega))
  rw [← a1] at fin
  by_cases q : (o_I σ2 (3 + 8 * k) 3 (σ2.1 (3 + 8 * k) 3 + 1)).1 n 3 = 0
  · rw [if_pos q]
    rw [a1] at fin
    exact fin _ w1 (fun o ho => funext fun b => by rw [i11, if_neg (fun z => ho z.1)]) rfl
  · rw [if_neg q]
    simp only [oi_s3_4 hk, op_s3_4 hk, d_gI b6 2 (by omega), op_s3_5 hk]
    rw [a1] at fin
    exact fin _ ((w1.I (Or.inl (by omega))).I (Or.inl (by omega))) (fun o ho => funext fun b => by rw [i11, if_neg (fun z => ho z.1), i11, if_neg (fun z => ho z.1), i11, if_neg (fun z => ho z.1)]) rfl
end CK
