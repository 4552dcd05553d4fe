section LB
variable {B X F : Nat} {τ τ1 : zK} {n c s n1 c1 s1 T : Nat} {σ σ1 σ2 : zS}
theorem mX.cc {σ σ' : zS} (h : mX σ σ') : aC σ σ' := by
  refine ⟨by rw [(h 0 (by omega)).1], fun k hk => ?_⟩
  rw [(h (7 + 8 * k) (by omega)).1, (h (7 + 8 * k) (by omega)).2.1]
  exact ⟨⟨rfl, rfl⟩, ⟨rfl, rfl, rfl, rfl⟩, (h (8 + 8 * k) (by omega)).2.1, (h (9 + 8 * k) (by omega)).2.1⟩
theorem yK.nn {k : Nat} {σ σ' : zS} (hk : k < 3) (h : yK k σ σ') : fN σ σ' := by
  have g := fun o (h1 : 31 ≤ o) => h.2 o (by omega) (by omega) (by omega)
  exact ⟨⟨by rw [(g 31 (by omega)).1], (g 47 (by omega)).1⟩, ⟨(g 48 (by omega)).2, (g 49 (by omega)).2, (g 50 (by omega)).2⟩, ⟨(g 51 (by omega)).1, (g 52 (by omega)).1, (g 53 (by omega)).1, (g 54 (by omega)).1⟩, (g 39 (by omega)).1⟩
theorem yK.d {k j : Nat} {σ σ' : zS} (h : yK k σ σ') (hj : j ≠ k) : aD σ σ' j := by
  rw [aD, (h.2 (7 + 8 * j) (by omega) (by omega) (by omega)).1, (h.2 (7 + 8 * j) (by omega) (by omega) (by omega)).2]
  exact ⟨⟨rfl, rfl⟩, ⟨rfl, rfl, rfl, rfl⟩, (h.2 (8 + 8 * j) (by omega) (by omega) (by omega)).2, (h.2 (9 + 8 * j) (by omega) (by omega) (by omega)).2⟩
theorem bG.cc {k : Nat} {σ σ' : zS} (h : bG k σ σ') : aC σ σ' := by
  have gI : ∀ o f, o < 31 → σ'.1 o f = σ.1 o f := fun o f ho => h.2.1 o f (by omega) (by omega)
  have gL : ∀ o, o < 31 → σ'.2.1 o = σ.2.1 o := fun o ho => funext fun f => h.2.2 o f (by omega) (by omega)
  refine ⟨gI _ _ (by omega), fun k hk => ⟨⟨gI _ _ (by omega), by rw [gL _ (by omega)]⟩, ⟨gI _ _ (by omega), gI _ _ (by omega), gI _ _ (by omega), gI _ _ (by omega)⟩, gL _ (by omega), gL _ (by omega)⟩⟩
theorem bG.d {k j : Nat} {σ σ' : zS} (h : bG k σ σ') (hj : j ≠ k) : fD σ σ' j := by
  refine ⟨⟨h.2.1 _ _ (by omega) (by omega), h.2.2 _ _ (by omega) (by omega)⟩, ⟨h.2.1 _ _ (by omega) (by omega), h.2.1 _ _ (by omega) (by omega), h.2.1 _ _ (by omega) (by omega), h.2.1 _ _ (by omega) (by omega)⟩, fun i hi => ⟨h.2.2 _ _ (by omega) (by omega), h.2.2 _ _ (by omega) (by omega)⟩⟩
/-- discard -/
theorem a_disO (h : kI T τ σ n c s) (hT : T < 512) (hF : 100000000 ≤ F) {k : Nat} (hk : k < 3) (hd : σ.1 (2 + 8 * k) 3 = 0) : ∃ σE, f_AckBook_discard F X (some (B + 0)) (nI k) (o_w B X τ σ n c s) = some (.inl none, o_w B X τ σE n c s) ∧ σE.1 0 4 = σ.1 0 4 ∧ (∀ j, j < 3 → j ≠ k → aD σ σE j) ∧ (σE.1 (7 + 8 * k) 2 = 0 ∧ σE.2.1 (7 + 8 * k) 3 = 0 ∧ σE.1 (7 + 8 * k) 4 = 0 ∧ σE.1 (7 + 8 * k) 5 = σ.1 (7 + 8 * k) 5 ∧ σE.1 (7 + 8 * k) 6 = 0 ∧ σE.1 (7 + 8 * k) 7 = σ.1 (7 + 8 * k) 7) ∧ fN σ σE := by
  have hn := h.n56
  obtain ⟨N, rk, R, hJ, hR, hN⟩ := h
  have h2 := (hJ.1 k hk).2.1
  have hJ1 : cJ T R τ (o_I σ (2 + 8 * k) 3 1) N rk := hJ.I (Or.inl (by omega))
  obtain ⟨σ2, rk2, R2, a1, -⟩ := s_forgetJ (B := B) (X := X) (F := F) (n := n) (c := c) (s := s) (τ := τ) (N := N) (rk := rk) (R := R) (T := T) (by omega) hk F 0 _ hJ1 (Nat.zero_le _) (by omega)
  have a1 : f_AckBook_Sent_forget F X (some (B + (3 + 8 * k))) (some (B + 30)) (o_w B X τ (o_I σ (2 + 8 * k) 3 1) n c s) = _ := a1
  have q := (h_f_AckBook_Sent_forget F X (some (B + (3 + 8 * k))) (some (B + 30)) (o_w B X τ (o_I σ (2 + 8 * k) 3 1) n c s)).cells hn a1
  unfold f_AckBook_discard
  simp only [ot_0, c_known hk, y_cRs, f_AckBook_refuseDiscarded, oi_s2_3 hk]
  rw [if_pos hd]
  simp only [y_cV, oz1_s2_3 hk, or_s2_1 hk, or_0_3, ot_s3 hk, a1, or_s2_2 hk, ot_s7 hk, f_AckBook_Arrivals_forget, op_s7_2 hk, opl_s7_3 hk, op_s7_4 hk, oz0_s7_6 hk, op_0_5]
  have hy : yK k σ2 (o_I (o_I (o_L (o_I σ2 (7 + 8 * k) 2 0) (7 + 8 * k) 3 0) (7 + 8 * k) 4 0) (7 + 8 * k) 6 0) := ((yK.I.trans (yK.L (by omega))).trans yK.I).trans yK.I
  have v2 : (o_I (o_I (o_L (o_I σ2 (7 + 8 * k) 2 0) (7 + 8 * k) 3 0) (7 + 8 * k) 4 0) (7 + 8 * k) 6 0).1 (7 + 8 * k) 2 = 0 := by simp [i11, l11]
  have v3 : (o_I (o_I (o_L (o_I σ2 (7 + 8 * k) 2 0) (7 + 8 * k) 3 0) (7 + 8 * k) 4 0) (7 + 8 * k) 6 0).2.1 (7 + 8 * k) 3 = 0 := by simp [i12, l12]
  have v4 : (o_I (o_I (o_L (o_I σ2 (7 + 8 * k) 2 0) (7 + 8 * k) 3 0) (7 + 8 * k) 4 0) (7 + 8 * k) 6 0).1 (7 + 8 * k) 4 = 0 := by simp [i11, l11]
  have v5 : (o_I (o_I (o_L (o_I σ2 (7 + 8 * k) 2 0) (7 + 8 * k) 3 0) (7 + 8 * k) 4 0) (7 + 8 * k) 6 0).1 (7 + 8 * k) 5 = σ2.1 (7 + 8 * k) 5 := by simp [i11, l11]
  have v6 : (o_I (o_I (o_L (o_I σ2 (7 + 8 * k) 2 0) (7 + 8 * k) 3 0) (7 + 8 * k) 4 0) (7 + 8 * k) 6 0).1 (7 + 8 * k) 6 = 0 := by simp [i11]
  have v7 : (o_I (o_I (o_L (o_I σ2 (7 + 8 * k) 2 0) (7 + 8 * k) 3 0) (7 + 8 * k) 4 0) (7 + 8 * k) 6 0).1 (7 + 8 * k) 7 = σ2.1 (7 + 8 * k) 7 := by simp [i11, l11]
  generalize o_I (o_I (o_L (o_I σ2 (7 + 8 * k) 2 0) (7 + 8 * k) 3 0) (7 + 8 * k) 4 0) (7 + 8 * k) 6 0 = σ3 at hy v2 v3 v4 v5 v6 v7
  have e0 : ∀ o, o ≠ 0 → (o_I σ3 0 5 0).1 o = σ3.1 o := fun o ho => i_fun_ne ho
  have d0 : ∀ o, o ≠ 2 + 8 * k → (o_I σ (2 + 8 * k) 3 1).1 o = σ.1 o := fun o ho => i_fun_ne ho
  have n3 := q.2.trans (hy.nn hk)
  refine ⟨_, rfl, ?_, fun j hj hjk => ?_, ⟨?_, v3, ?_, ?_, ?_, ?_⟩, ?_⟩
  · rw [i11, if_neg (by omega), (hy.2 0 (by omega) (by omega) (by omega)).1, q.1.1, d0 0 (by omega)]
  · have z := aD.trans (q.1.2 j hj) (hy.d hjk)
    rw [aD, d0 (7 + 8 * j) (by omega)] at z
    rw [aD, e0 (7 + 8 * j) (by omega)]
    exact z
  · rw [e0 _ (by omega)]; exact v2
  · rw [e0 _ (by omega)]; exact v4
  · rw [e0 _ (by omega), v5, (q.1.2 k hk).2.1.2.1, d0 _ (by omega)]
  · rw [e0 _ (by omega)]; exact v6
  · rw [e0 _ (by omega), v7, (q.1.2 k hk).2.1.2.2.2, d0 _ (by omega)]
  · obtain ⟨⟨b1, b2⟩, b3, ⟨b6, b7, b8, b9⟩, b10⟩ := n3
    rw [d0 31 (by omega)] at b1
    rw [d0 47 (by omega)] at b2
    rw [d0 51 (by omega)] at b6
    rw [d0 52 (by omega)] at b7
    rw [d0 53 (by omega)] at b8
    rw [d0 54 (by omega)] at b9
    rw [d0 39 (by omega)] at b10
    exact ⟨⟨by rw [e0 31 (by omega)]; exact b1, (e0 47 (by omega)).trans b2⟩, b3, ⟨(e0 51 (by omega)).trans b6, (e0 52 (by omega)).trans b7, (e0 53 (by omega)).trans b8, (e0 54 (by omega)).trans b9⟩, (e0 39 (by omega)).trans b10⟩
theorem u_disE {k : Nat} (hk : k < 3) (hd : σ.1 39 k = 0) : ∃ σF, f_AckBookModel_discard F X (some (B + 31)) (nI k) (o_w B X τ σ n c s) = some (.inl none, o_w B X τ σF n c s) ∧ aC σ σF ∧ σF.1 31 1 = σ.1 31 1 ∧ (∀ j, j ≠ k → fD σ σF j) ∧ (σF.1 47 k = 0 ∧ σF.2.1 50 k = 0 ∧ σF.1 52 k = 0 ∧ σF.1 53 k = σ.1 53 k ∧ σF.1 54 k = 0 ∧ σF.1 51 k = σ.1 51 k) := by
  unfold f_AckBookModel_discard
  have hd1 : (o_I σ 31 0 0).1 39 k = 0 := by rw [i11, if_neg (by omega)]; exact hd
  simp (disch := omega) only [s_noSpace, z_cI, ot_31, if_neg (e_spk hk), s_fails 0 1 (Or.inl rfl), if_true, or_31_11, oln_39, hd1, s_fails 0 2 (Or.inl rfl), osz1_39, or_31_13, osn_41, or_31_17, or_31_16, e_m2, oln_43, osn_44, nI_1, or_31_30, osn_47, or_31_33, osn_50, or_31_35, osn_52, or_31_37, osz0_54, op_31_23]
  refine ⟨_, rfl, mX.cc (((((((((((mX.I (by omega)).trans (mX.I (by omega))).trans (mX.I (by omega))).trans (mX.I (by omega))).trans (mX.I (by omega))).trans (mX.I (by omega))).trans (mX.I (by omega))).trans (mX.L (by omega))).trans (mX.I (by omega))).trans (mX.I (by omega))).trans (mX.I (by omega))), by simp [i11, l11], fun j hj => ⟨⟨by simp [i11, l11, hj], by simp [i12, l12, hj]⟩, ⟨by simp [i11, l11, hj], by simp [i11, l11], by simp [i11, l11, hj], by simp [i11, l11]⟩, fun i hi => ⟨by simp [i12, l12], by simp [i12, l12]⟩⟩, by simp [i11, l11], by simp [i12, l12], by simp [i11, l11], by simp [i11, l11], by simp [i11, l11], by simp [i11, l11]⟩
theorem kA.discard {v : Int32} {o2 : zO} (hS : kS T τ σ n c s) (h : kA T σ) (hT : T < 512) (hF : 100000000 ≤ F) (hn1 : 56 ≤ n1) (x : Int32) (e1 : f_AckBookLaw_discard F X (some (B + 0)) x (o_w B X τ σ n c s) = some (.inl (some (.int v)), o_w B X τ1 σ1 n1 c1 s1)) (e2 : f_AckBookModel_discard F X (some (B + 31)) x (o_w B X τ1 σ1 n1 c1 s1) = some (o2, o_w B X τ1 σ2 n1 c1 s1)) : kA (T + 1) σ2 := by
  have hn := hS.1.n56
  unfold f_AckBookLaw_discard at e1
  rw [ot_0] at e1
  rcases e_sp x with hx | ⟨k, hk, rfl⟩
  · have q : f_AckBook_discard F X (some (B + 0)) x (o_w B X τ σ n c s) = z_thr (o_w B X τ σ n c s) 11 := by
      unfold f_AckBook_discard
      rw [ot_0, c_knownB hx, z_thr_cR]
    rw [q] at e1
    obtain ⟨-, q1⟩ := x_thrV (u := 1) hn e1 (fun w => rfl)
    rw [u_disB x hx] at e2
    obtain ⟨-, q2, -⟩ := x_end hn1 e2
    exact h.two q1 ⟨(aC.I31 _).trans q2.1, (fN.I31 _).trans q2.2⟩
  · have hdk := hS.2.2.2.1 k hk
    by_cases hz : σ.1 39 k = 0
    · obtain ⟨σE, p1, p2, p3, ⟨p4, p5, p6, p7, p8, p9⟩, p10⟩ := a_disO (B := B) (X := X) (F := F) hS.1 hT hF hk (hdk.trans hz)
      rw [p1] at e1
      have e1 : (some (.inl (some (.int 0)), o_w B X τ σE n c s) : zR) = _ := e1
      obtain ⟨-, q1, -⟩ := x_end hn e1
      have hN := p10.trans q1.2
      obtain ⟨σF, g1, g2, g3, g4, g5, g6, g7, g8, g9, g10⟩ := u_disE (B := B) (X := X) (F := F) (τ := τ1) (n := n1) (c := c1) (s := s1) (σ := σ1) hk (by rw [hN.2.2.2]; exact hz)
      rw [g1] at e2
      obtain ⟨-, q2, -⟩ := x_end hn1 e2
      have hC := q1.1.trans (g2.trans q2.1)
      refine ⟨?_, fun j hj => ?_⟩
      · rw [hC.1, p2, q2.2.1.1, g3, hN.1.1]
        exact h.1
      · by_cases hjk : j = k
        · subst hjk
          obtain ⟨r, p, ⟨a1, a2⟩, a3, a4, ⟨a5, a6, a7⟩, ⟨a8, a9⟩, a10, a11, a12⟩ := h.2 j hk
          obtain ⟨⟨c1, c2⟩, ⟨c3, c4, c5, c6⟩, c7, c8⟩ := hC.2 j hk
          obtain ⟨⟨d1, d2⟩, ⟨d3, d4, d5, d6⟩, d7⟩ := q2.2.d j
          obtain ⟨⟨f1, f2⟩, ⟨f3, f4, f5, f6⟩, f7⟩ := hN.d j
          refine ⟨0, 0, ⟨by omega, by omega⟩, c1.trans p4, ⟨fun i hi => absurd hi (Nat.not_lt_zero _), fun i j _ hj => absurd hj (Nat.not_lt_zero _)⟩, ⟨d1.trans g5, fun i j hij => absurd hij (by omega), ?_⟩, ⟨c3.trans p6, d3.trans g7⟩, ?_, ?_, ?_⟩
          · show σ2.2.1 50 j = σ2.2.1 (7 + 8 * j) 3
            rw [d2, g6, c2, p5]
          · rw [c4, p7, d4, g8, f4]; exact a10
          · rw [c5, p8, d5, g9]
          · rw [c6, p9, d6, g10, f6]; exact a12
        · exact (h.2 j hj).cong (Nat.le_succ T) (aD.trans (p3 j hj hjk) (hC.2 j hj)) (((hN.d j).trans (g4 j hjk)).trans (q2.2.d j))
    · have hz1 : σ.1 39 k = 1 := (hS.2.1.d hk).resolve_left hz
      have q : f_AckBook_discard F X (some (B + 0)) (nI k) (o_w B X τ σ n c s) = z_thr (o_w B X τ σ n c s) 12 := by
        unfold f_AckBook_discard
        simp only [ot_0, c_known hk, y_cRs, f_AckBook_refuseDiscarded, oi_s2_3 hk]
        rw [if_neg (by rw [hdk]; exact hz), z_thr_cV]
      rw [q] at e1
      obtain ⟨-, q1⟩ := x_thrV (u := 2) hn e1 (fun w => rfl)
      rw [u_disD hk (by rw [q1.2.2.2.2]; exact hz1)] at e2
      obtain ⟨-, q2, -⟩ := x_end hn1 e2
      exact h.two q1 ⟨((aC.I31 _).trans (aC.I31 _)).trans q2.1, ((fN.I31 _).trans (fN.I31 _)).trans q2.2⟩
/-- came -/
theorem c_cameB {x : Int32} {y : Int64} {z : Int32} (hb : (x < 0 ∨ 2 < x) ∨ y < 0 ∨ ¬ y ≤ 4611686018427387903) : f_AckBook_came F X (some (B + 0)) x y z (o_w B X τ σ n c s) = z_thr (o_w B X τ σ n c s) 11 := by
  unfold f_AckBook_came
  simp only [ot_0, lg_cmp_lt, lg_cmp_le]
  rcases e_sp x with hx | ⟨k, hk, rfl⟩
  · rw [c_knownB hx, z_thr_cR]
  · simp only [c_known hk, y_cRs]
    have hb := hb.resolve_left (e_spk hk)
    by_cases h1 : y < 0
    · rw [if_pos h1]
    · rw [if_neg h1, if_neg (hb.resolve_left h1)]
theorem m_cameB {x : Int32} {y : Int64} {z : Int32} (hb : (x < 0 ∨ 2 < x) ∨ y < 0 ∨ ¬ y ≤ 4611686018427387903) : f_AckBookModel_came F X (some (B + 31)) x y z (o_w B X τ σ n c s) = some (.inl (some (.int 0)), o_w B X τ (o_I σ 31 0 1) n c s) := by
  have h22 : q_AckBookModel_came_22 F X (some (B + 31)) x y z (some (B + 31)) (o_w B X τ σ n c s) = some (.inl (some (.int 0)), o_w B X τ (o_I σ 31 0 1) n c s) := by
    simp only [q_AckBookModel_came_22, q_AckBookModel_came_27, ot_31, s_fails 1 1 (Or.inr rfl), z_cI]
    rw [if_neg (by decide), if_neg (by decide)]
  unfold f_AckBookModel_came
  simp only [s_noSpace, z_cI, lg_cmp_lt, lg_cmp_le]
  by_cases hx : x < 0 ∨ 2 < x
  · rw [if_pos hx, if_neg (by decide)]
    exact h22
  · rw [if_neg hx, if_pos rfl]
    have hb := hb.resolve_left hx
    by_cases h1 : y < 0
    · rw [if_pos h1]; exact h22
    · rw [if_neg h1, if_neg (hb.resolve_left h1)]; exact h22
theorem c_cameD {k : Nat} (hk : k < 3) {y : Int64} {z : Int32} (y0 : ¬ y < 0) (y1 : y ≤ 4611686018427387903) (hd : σ.1 (2 + 8 * k) 3 ≠ 0) : f_AckBook_came F X (some (B + 0)) (nI k) y z (o_w B X τ σ n c s) = z_thr (o_w B X τ σ n c s) 12 := by
  unfold f_AckBook_came
  simp only [ot_0, lg_cmp_lt, lg_cmp_le, c_known hk, y_cRs, f_AckBook_refuseDiscarded, oi_s2_3 hk]
  rw [if_neg y0, if_pos y1, if_neg hd, z_thr_cV]
theorem m_cameD {k : Nat} (hk : k < 3) {y : Int64} {z : Int32} (y0 : ¬ y < 0) (y1 : y ≤ 4611686018427387903) (hd : σ.1 39 k = 1) : f_AckBookModel_came F X (some (B + 31)) (nI k) y z (o_w B X τ σ n c s) = some (.inl (some (.int 0)), o_w B X τ (o_I (o_I σ 31 0 0) 31 0 2) n c s) := by
  have hd1 : (o_I σ 31 0 0).1 39 k = 1 := by rw [i11, if_neg (by omega)]; exact hd
  unfold f_AckBookModel_came
  simp only [s_noSpace, z_cI, lg_cmp_lt, lg_cmp_le]
  rw [if_neg (e_spk hk), if_pos rfl, if_neg y0, if_pos y1]
  unfold q_AckBookModel_came_27
  simp (disch := omega) only [ot_31, s_fails 0 1 (Or.inl rfl), z_cI, if_true, or_31_11, oln_39, hd1, s_fails 1 2 (Or.inr rfl)]
  rw [if_neg (by decide), if_neg (by decide)]
theorem c_cameO {k : Nat} (hk : k < 3) {y : Int64} {z : Int32} (y0 : ¬ y < 0) (y1 : y ≤ 4611686018427387903) (hd : σ.1 (2 + 8 * k) 3 = 0) : f_AckBook_came F X (some (B + 0)) (nI k) y z (o_w B X τ σ n c s) = z_cI (f_AckBook_Arrivals_enter F X (some (B + (7 + 8 * k))) y z (σ.1 0 4) (o_w B X τ σ n c s)) fun v7 w => z_retZ v7 w := by
  unfold f_AckBook_came
  simp only [ot_0, lg_cmp_lt, lg_cmp_le, c_known hk, y_cRs, f_AckBook_refuseDiscarded, oi_s2_3 hk]
  rw [if_neg y0, if_pos y1, if_pos hd]
  simp only [y_cV, or_s2_2 hk, oi_0_4, ot_s7 hk]
/-- how two answers and two states must stand behind a call that is compared -/
def xR (T : Nat) (v : Int32) (out : Int64) (σ2 : zS) : Prop := kA (T + 1) σ2 ∧ σ2.1 31 0 = v ∧ (v = 0 → σ2.2.1 55 0 = out)
theorem x_cameR {v v2 z : Int32} (hS : kS T τ σ n c s) (h : kA T σ) (hF : 100000000 ≤ F) (hn1 : 56 ≤ n1) (x : Int32) (y : Int64) (e1 : f_AckBookLaw_came F X (some (B + 0)) x y z (some (B + 55)) (o_w B X τ σ n c s) = some (.inl (some (.int v)), o_w B X τ1 σ1 n1 c1 s1)) (e2 : f_AckBookModel_came F X (some (B + 31)) x y z (o_w B X τ1 σ1 n1 c1 s1) = some (.inl (some (.int v2)), o_w B X τ1 σ2 n1 c1 s1)) : xR T v (if v2 = 0 then 0 else 1) σ2 := by
  have hn := hS.1.n56
  unfold f_AckBookLaw_came at e1
  rw [ot_0] at e1
  by_cases hb : (x < 0 ∨ 2 < x) ∨ y < 0 ∨ ¬ y ≤ 4611686018427387903
  · rw [c_cameB hb] at e1
    obtain ⟨hv, q1⟩ := x_thrI (u := 1) hn e1 (fun w => rfl)
    rw [m_cameB hb] at e2
    obtain ⟨-, q2, q3, q4⟩ := x_end hn1 e2
    refine ⟨h.two q1 ⟨(aC.I31 _).trans q2.1, (fN.I31 _).trans q2.2⟩, ?_, fun q => ?_⟩
    · rw [q3, hv, i11, if_pos ⟨rfl, rfl⟩]
    · rw [hv] at q
      exact absurd q (by decide)
  · have hx : ¬ (x < 0 ∨ 2 < x) := fun q => hb (Or.inl q)
    have y0 : ¬ y < 0 := fun q => hb (Or.inr (Or.inl q))
    have y1 : y ≤ 4611686018427387903 := Decidable.not_not.mp fun q => hb (Or.inr (Or.inr q))
    obtain ⟨k, hk, rfl⟩ := (e_sp x).resolve_left hx
    have hdk := hS.2.2.2.1 k hk
    by_cases hz : σ.1 39 k = 0
    · obtain ⟨r, p0, ⟨a1, a2⟩, a3, a4, ⟨a5, a6, a7⟩, ⟨a8, a9⟩, a10, a11, a12⟩ := h.2 k hk
      have a7 : σ.2.1 50 k = σ.2.1 (7 + 8 * k) 3 := a7
      obtain ⟨p, b1, b2, b3, bO, bN⟩ := a_enter (B := B) (X := X) (F := F) (τ := τ) (n := n) (c := c) (s := s) (σ := σ) (by omega) hk a3 a1 y z (σ.1 0 4)
      rw [c_cameO hk y0 y1 (hdk.trans hz)] at e1
      have yi0 : 0 ≤ y.toInt := by
        have := Int64.le_iff_toInt_le.mp (Int64.not_lt.mp y0)
        rwa [show (0 : Int64).toInt = 0 by decide] at this
      have yi1 : y.toInt < 4611686018427387904 := by
        have := Int64.le_iff_toInt_le.mp y1
        rw [show (4611686018427387903 : Int64).toInt = 4611686018427387903 by decide] at this
        omega
      by_cases ho : y < σ.2.1 (7 + 8 * k) 3 ∨ (p < r ∧ y ≤ σ.2.1 (9 + 8 * k) p)
      · rw [bO ho] at e1
        have e1' : z_stL (o_w B X τ σ n c s) (some (B + 55)) (0 : Int32) (0 : Int64) (fun w => some (.inl (some (.int (0 : Int32))), w)) = some (.inl (some (.int v)), o_w B X τ1 σ1 n1 c1 s1) := e1
        rw [o55] at e1'
        obtain ⟨hv, q1, -, q4⟩ := x_end hn e1'
        injection hv with hv
        injection hv with hv
        injection hv with hv
        have qC := (aC.out σ 0).trans q1.1
        have qN := (fN.out σ 0).trans q1.2
        have hr1 : σ1.1 47 k = nI r := by rw [qN.1.2]; exact a5
        obtain ⟨m1, -⟩ := b_came (B := B) (X := X) (F := F) (τ := τ1) (n := n1) (c := c1) (s := s1) (σ := σ1) (by omega) hk a1 hr1 a4 (by rw [qN.2.1.1, qN.2.1.2.1]; exact a6) b1 y b2 b3 z y0 y1 (by rw [qN.2.2.2]; exact hz)
        rw [m1 (by rw [qN.2.1.2.2, a7]; exact ho)] at e2
        obtain ⟨hv2, q2, q3, q5⟩ := x_end hn1 e2
        injection hv2 with hv2
        injection hv2 with hv2
        injection hv2 with hv2
        refine ⟨h.two ⟨qC, qN⟩ ⟨((aC.I31 _).trans (aC.I31 _)).trans q2.1, ((fN.I31 _).trans (fN.I31 _)).trans q2.2⟩, ?_, fun _ => ?_⟩
        · rw [q3, i11, if_pos ⟨rfl, rfl⟩]
          exact hv
        · rw [q5, ← hv2, if_pos rfl]
          exact q4.trans (l550 _)
      · obtain ⟨σE, d1, d2, d3, d4⟩ := bN ho
        rw [d1] at e1
        have e1' : z_stL (o_w B X τ σE n c s) (some (B + 55)) (0 : Int32) (1 : Int64) (fun w => some (.inl (some (.int (0 : Int32))), w)) = some (.inl (some (.int v)), o_w B X τ1 σ1 n1 c1 s1) := e1
        rw [o55] at e1'
        obtain ⟨hv, q1, -, q4⟩ := x_end hn e1'
        injection hv with hv
        injection hv with hv
        injection hv with hv
        have qC := (aC.out σE 1).trans q1.1
        have qN := (d2.nn hk).trans ((fN.out σE 1).trans q1.2)
        have hr1 : σ1.1 47 k = nI r := by rw [qN.1.2]; exact a5
        obtain ⟨-, m2⟩ := b_came (B := B) (X := X) (F := F) (τ := τ1) (n := n1) (c := c1) (s := s1) (σ := σ1) (by omega) hk a1 hr1 a4 (by rw [qN.2.1.1, qN.2.1.2.1]; exact a6) b1 y b2 b3 z y0 y1 (by rw [qN.2.2.2]; exact hz)
        obtain ⟨σF, g1, g2, g3, g4, g5⟩ := m2 (by rw [qN.2.1.2.2, a7]; exact ho)
        rw [g1] at e2
        obtain ⟨hv2, q2, q3, q5⟩ := x_end hn1 e2
        injection hv2 with hv2
        injection hv2 with hv2
        injection hv2 with hv2
        rw [qN.2.1.2.2, a7] at g4
        have hC := qC.trans (g2.cc.trans q2.1)
        have hK := rK_S (σ.2.1 (7 + 8 * k) 3) a4 a1 b1 yi0 yi1 b2 (fun q => Int64.not_le.mp fun w => ho (Or.inr ⟨q, w⟩))
        have e04 : σE.1 0 4 = σ.1 0 4 := by rw [(d2.2 0 (by omega) (by omega) (by omega)).1]
        refine ⟨⟨?_, fun j hj => ?_⟩, ?_, fun _ => ?_⟩
        · rw [hC.1, e04, q2.2.1.1, g2.2.1 31 1 (by omega) (by omega), qN.1.1]
          exact h.1
        · by_cases hjk : j = k
          · subst hjk
            obtain ⟨⟨c1, c2⟩, ⟨c3, c4, c5, c6⟩, c7, c8⟩ := hC.2 j hk
            obtain ⟨⟨f1, f2⟩, ⟨f3, f4, f5, f6⟩, f7⟩ := q2.2.d j
            obtain ⟨⟨n1', n2'⟩, ⟨n3', n4', n5', n6'⟩, n7'⟩ := qN.d j
            obtain ⟨k1, k2, k3, k4⟩ := d3
            obtain ⟨l1, l2, l3⟩ := g4
            obtain ⟨t1, t2, t3, t4⟩ := d4
            obtain ⟨u1, u2, u3, u4⟩ := g5
            have pe : (if z = 0 then nI p0 else nI p0 + 1) = nI (if z = 0 then p0 else p0 + 1) := by
              by_cases w : z = 0
              · rw [if_pos w, if_pos w]
              · rw [if_neg w, if_neg w, nI_1]
            refine ⟨_, if z = 0 then p0 else p0 + 1, ⟨hK.2, by split <;> omega⟩, c1.trans k1, ?_, ⟨f1.trans l1, ?_, ?_⟩, ⟨?_, ?_⟩, ?_, ?_, ?_⟩
            · rw [c7, c8, k2, k3]
              exact hK.1
            · show aR _ (σ2.2.1 (8 + 8 * j)) (σ2.2.1 (9 + 8 * j)) (65 * j) (σ2.2.1 48) (σ2.2.1 49)
              rw [c7, c8, k2, k3, q2.2.2.1.1, q2.2.2.1.2.1]
              exact l2
            · show σ2.2.1 50 j = σ2.2.1 (7 + 8 * j) 3
              rw [f2, c2, k4, l3]
            · rw [c3, t1, a8]
              exact pe
            · rw [f3, u1, n3', a9]
              exact pe
            · rw [c4, t2, f4, u2, n3', n4', a8, a9, a10, qN.1.1, h.1]
            · rw [c5, t3, f5, u3, n5', a11]
            · rw [c6, t4, f6, u4, n6', a12, qN.1.1, h.1]
          · exact (h.2 j hj).cong (Nat.le_succ T) (aD.trans (d2.d hjk) (hC.2 j hj)) (((qN.d j).trans (g2.d hjk)).trans (q2.2.d j))
        · rw [q3, g3]
          exact hv
        · rw [q5, ← hv2, if_neg (by decide), g2.2.2 55 0 (by omega) (by omega)]
          exact q4.trans (l550 _)
    · have hz1 : σ.1 39 k = 1 := (hS.2.1.d hk).resolve_left hz
      rw [c_cameD hk y0 y1 (by rw [hdk]; exact hz)] at e1
      obtain ⟨hv, q1⟩ := x_thrI (u := 2) hn e1 (fun w => rfl)
      rw [m_cameD hk y0 y1 (by rw [q1.2.2.2.2]; exact hz1)] at e2
      obtain ⟨-, q2, q3, q4⟩ := x_end hn1 e2
      refine ⟨h.two q1 ⟨((aC.I31 _).trans (aC.I31 _)).trans q2.1, ((fN.I31 _).trans (fN.I31 _)).trans q2.2⟩, ?_, fun q => ?_⟩
      · rw [q3, hv, i11, if_pos ⟨rfl, rfl⟩]
      · rw [hv] at q
        exact absurd q (by decide)
end LB
