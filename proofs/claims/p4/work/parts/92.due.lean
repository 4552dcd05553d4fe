section LC
variable {B X F : Nat} {τ τ1 : zK} {n c s n1 c1 s1 T : Nat} {σ σ1 σ2 : zS}
/-- due -/
abbrev dE (k p : Nat) (odd d : Int32) : Prop := p ≠ 0 ∧ (k = 2 → (2 ≤ p ∨ odd ≠ 0 ∨ ¬ d < 25))
theorem c_dueB {x : Int32} (hx : x < 0 ∨ 2 < x) : f_AckBook_due F X (some (B + 0)) x (o_w B X τ σ n c s) = z_thr (o_w B X τ σ n c s) 11 := by
  unfold f_AckBook_due
  simp only [ot_0]
  rw [c_knownB hx, z_thr_cR]
theorem c_dueO {k p : Nat} (hk : k < 3) (hp : σ.1 (7 + 8 * k) 4 = nI p) (hp2 : p ≤ 600) : f_AckBook_due F X (some (B + 0)) (nI k) (o_w B X τ σ n c s) = some (.inl (some (.int (if dE k p (σ.1 (7 + 8 * k) 6) (σ.1 0 4 - σ.1 (7 + 8 * k) 5) then 1 else 0))), o_w B X τ σ n c s) := by
  have hpr : f_AckBook_Arrivals_isPressing F X (some (B + (7 + 8 * k))) (σ.1 0 4) (o_w B X τ σ n c s) = some (.inl (some (.int (if dE 2 p (σ.1 (7 + 8 * k) 6) (σ.1 0 4 - σ.1 (7 + 8 * k) 5) then 1 else 0))), o_w B X τ σ n c s) := by
    unfold f_AckBook_Arrivals_isPressing
    simp only [oi_s7_4 hk, oi_s7_5 hk, oi_s7_6 hk, hp]
    by_cases h0 : p = 0
    · subst h0
      rw [if_pos (show nI 0 = 0 from rfl), if_neg (fun z => z.1 rfl)]
    · rw [if_neg (nI_ne0 (by omega) (by omega))]
      by_cases h2 : 2 ≤ p
      · rw [if_pos (show (2 : Int32) ≤ nI p from nI_le (a := 2) h2 (by omega)), if_pos ⟨h0, fun _ => Or.inl h2⟩]
      · rw [if_neg (show ¬ (2 : Int32) ≤ nI p from nI_ge (b := 2) (by omega) (by decide))]
        by_cases h3 : σ.1 (7 + 8 * k) 6 = 0
        · rw [if_pos h3]
          by_cases h4 : σ.1 0 4 - σ.1 (7 + 8 * k) 5 < 25
          · rw [if_pos h4, if_neg]
            rintro ⟨-, z⟩
            rcases z rfl with z | z | z
            · exact h2 z
            · exact z h3
            · exact z h4
          · rw [if_neg h4, if_pos ⟨h0, fun _ => Or.inr (Or.inr h4)⟩]
        · rw [if_neg h3, if_pos ⟨h0, fun _ => Or.inr (Or.inl h3)⟩]
  unfold f_AckBook_due
  simp only [ot_0, c_known hk, y_cRs, oi_s2_0 hk, or_s2_2 hk, oi_0_4, ot_s7 hk, hpr, y_cI, z_retZ, oi_s7_4 hk, hp]
  by_cases k2 : k = 2
  · subst k2
    rw [if_pos (by rfl), if_pos]
    split
    · exact Or.inr rfl
    · exact Or.inl rfl
  · rw [if_neg (show ¬ Int32.ofNat k = 2 from fun z => k2 ((nI_eq (a := k) (b := 2) (by omega) (by decide)).mp z))]
    by_cases h0 : p = 0
    · subst h0
      rw [if_pos (by decide), if_neg (fun z => z.1 rfl)]
    · rw [if_neg (nI_nle (by omega) (by omega)), if_pos ⟨h0, fun z => absurd z k2⟩]
theorem m_dueB {x : Int32} (hx : x < 0 ∨ 2 < x) : f_AckBookModel_due F X (some (B + 31)) x (o_w B X τ σ n c s) = some (.inl (some (.int 0)), o_w B X τ (o_I σ 31 0 1) n c s) := by
  unfold f_AckBookModel_due
  simp only [s_noSpace, z_cI, ot_31, if_pos hx, s_fails 1 1 (Or.inr rfl)]
  rw [if_neg (by decide), if_neg (by decide)]
theorem m_dueO {k p : Nat} (hk : k < 3) (hp : σ.1 52 k = nI p) (hp2 : p ≤ 600) : f_AckBookModel_due F X (some (B + 31)) (nI k) (o_w B X τ σ n c s) = some (.inl (some (.int (if dE k p (σ.1 54 k) (σ.1 31 1 - σ.1 53 k) then 1 else 0))), o_w B X τ (o_I σ 31 0 0) n c s) := by
  have z52 : (o_I σ 31 0 0).1 52 k = nI p := by rw [i11, if_neg (by omega)]; exact hp
  have z54 : (o_I σ 31 0 0).1 54 k = σ.1 54 k := by rw [i11, if_neg (by omega)]
  have z53 : (o_I σ 31 0 0).1 53 k = σ.1 53 k := by rw [i11, if_neg (by omega)]
  have z31 : (o_I σ 31 0 0).1 31 1 = σ.1 31 1 := by simp [i11]
  unfold f_AckBookModel_due
  simp (disch := omega) only [s_noSpace, z_cI, ot_31, if_neg (e_spk hk), s_fails 0 1 (Or.inl rfl), if_true, or_31_35, oln_52, z52, or_31_37, oln_54, z54, oi_31_1, z31, or_31_36, oln_53, z53]
  by_cases h0 : p = 0
  · subst h0
    rw [if_pos (show nI 0 = 0 from rfl), if_neg (fun z => z.1 rfl)]
  · rw [if_neg (nI_ne0 (by omega) (by omega))]
    by_cases k2 : k = 2
    · subst k2
      rw [if_neg (by decide)]
      by_cases h2 : 2 ≤ p
      · rw [if_pos (show (1 : Int32) < nI p from nI_lt (a := 1) h2 (by omega)), if_pos ⟨h0, fun _ => Or.inl h2⟩]
      · rw [if_neg (show ¬ (1 : Int32) < nI p from nI_nlt (b := p) (a := 1) (by omega) (by omega))]
        by_cases h3 : σ.1 54 2 = 0
        · rw [if_pos h3]
          by_cases h4 : σ.1 31 1 - σ.1 53 2 < 25
          · rw [if_pos h4, if_neg]
            rintro ⟨-, z⟩
            rcases z rfl with z | z | z
            · exact h2 z
            · exact z h3
            · exact z h4
          · rw [if_neg h4, if_pos ⟨h0, fun _ => Or.inr (Or.inr h4)⟩]
        · rw [if_neg h3, if_pos ⟨h0, fun _ => Or.inr (Or.inl h3)⟩]
    · rw [if_pos (show nI k < (2 : Int32) from nI_lt (b := 2) (by omega) (by decide)), if_pos ⟨h0, fun z => absurd z k2⟩]
theorem x_dueR {v v2 : Int32} (hS : kS T τ σ n c s) (h : kA T σ) (hT : T < 512) (hn1 : 56 ≤ n1) (x : Int32) (e1 : f_AckBookLaw_due F X (some (B + 0)) x (some (B + 55)) (o_w B X τ σ n c s) = some (.inl (some (.int v)), o_w B X τ1 σ1 n1 c1 s1)) (e2 : f_AckBookModel_due F X (some (B + 31)) x (o_w B X τ1 σ1 n1 c1 s1) = some (.inl (some (.int v2)), o_w B X τ1 σ2 n1 c1 s1)) : xR T v (if v2 = 0 then 0 else 1) σ2 := by
  have hn := hS.1.n56
  unfold f_AckBookLaw_due at e1
  rw [ot_0] at e1
  rcases e_sp x with hx | ⟨k, hk, rfl⟩
  · rw [c_dueB hx] at e1
    obtain ⟨hv, q1⟩ := x_thrI (u := 1) hn e1 (fun w => rfl)
    rw [m_dueB hx] at e2
    obtain ⟨-, q2, q3, q4⟩ := x_end hn1 e2
    refine ⟨h.two q1 ⟨(aC.I31 _).trans q2.1, (fN.I31 _).trans q2.2⟩, ?_, fun q => ?_⟩
    · rw [q3, hv, i11, if_pos ⟨rfl, rfl⟩]
    · rw [hv] at q
      exact absurd q (by decide)
  · obtain ⟨r, p, ⟨a1, a2⟩, a3, a4, a5, ⟨a8, a9⟩, a10, a11, a12⟩ := h.2 k hk
    rw [c_dueO hk a8 (by omega)] at e1
    have key : ∀ b : Int32, (b = 0 ∨ b = 1) → z_tI (some (.inl (some (.int b)), o_w B X τ σ n c s)) (fun v2 w => if v2 = 0 then (z_stL w (some (B + 55)) (0 : Int32) (0 : Int64) fun w => some (.inl (some (.int (0 : Int32))), w)) else (z_stL w (some (B + 55)) (0 : Int32) (1 : Int64) fun w => some (.inl (some (.int (0 : Int32))), w))) (fun ci w => if ci = 11 then (some (.inl (some (.int (1 : Int32))), w)) else none) = some (.inl (some (.int 0)), o_w B X τ (o_L σ 55 0 (if b = 0 then 0 else 1)) n c s) := by
      intro b hb
      rcases hb with rfl | rfl
      · show z_stL (o_w B X τ σ n c s) (some (B + 55)) (0 : Int32) (0 : Int64) (fun w => some (.inl (some (.int (0 : Int32))), w)) = some (.inl (some (.int 0)), o_w B X τ (o_L σ 55 0 0) n c s)
        rw [o55]
      · show z_stL (o_w B X τ σ n c s) (some (B + 55)) (0 : Int32) (1 : Int64) (fun w => some (.inl (some (.int (0 : Int32))), w)) = some (.inl (some (.int 0)), o_w B X τ (o_L σ 55 0 1) n c s)
        rw [o55]
    rw [key _ (by split <;> simp)] at e1
    obtain ⟨hv, q1, -, q4⟩ := x_end hn e1
    injection hv with hv
    injection hv with hv
    injection hv with hv
    have qC := (aC.out σ _).trans q1.1
    have qN := (fN.out σ _).trans q1.2
    have z52 : σ1.1 52 k = nI p := by rw [qN.2.2.1.2.1]; exact a9
    rw [m_dueO hk z52 (by omega)] at e2
    obtain ⟨hv2, q2, q3, q5⟩ := x_end hn1 e2
    injection hv2 with hv2
    injection hv2 with hv2
    injection hv2 with hv2
    rw [qN.2.2.1.2.2.2, qN.2.2.1.2.2.1, qN.1.1, ← a11, ← a10, ← h.1] at hv2
    refine ⟨h.two ⟨qC, qN⟩ ⟨(aC.I31 _).trans q2.1, (fN.I31 _).trans q2.2⟩, ?_, fun _ => ?_⟩
    · rw [q3, i11, if_pos ⟨rfl, rfl⟩]
      exact hv
    · rw [q5, ← hv2]
      exact q4.trans (l550 _)
/-- written -/
theorem c_wrB {x : Int32} (hx : x < 0 ∨ 2 < x) : f_AckBook_written F X (some (B + 0)) x (o_w B X τ σ n c s) = z_thr (o_w B X τ σ n c s) 11 := by
  unfold f_AckBook_written
  simp only [ot_0]
  rw [c_knownB hx, z_thr_cR]
theorem c_wrO {k r : Nat} (hk : k < 3) (hr : σ.1 (7 + 8 * k) 2 = nI r) (h64 : r ≤ 64) : f_AckBook_written F X (some (B + 0)) (nI k) (o_w B X τ σ n c s) = if σ.1 (2 + 8 * k) 3 = 0 ∧ r ≠ 0 then some (.inl (some (.int (σ.1 0 4 - σ.1 (7 + 8 * k) 7))), o_w B X τ (o_I (o_I σ (7 + 8 * k) 4 0) (7 + 8 * k) 6 0) n c s) else z_thr (o_w B X τ σ n c s) 12 := by
  have z7 : (o_I (o_I σ (7 + 8 * k) 4 0) (7 + 8 * k) 6 0).1 (7 + 8 * k) 7 = σ.1 (7 + 8 * k) 7 := by simp [i11]
  unfold f_AckBook_written
  simp only [ot_0, c_known hk, y_cRs, f_AckBook_refuseDiscarded, oi_s2_3 hk]
  by_cases hd : σ.1 (2 + 8 * k) 3 = 0
  · rw [if_pos hd]
    simp only [y_cV, or_s2_2 hk, oi_s7_2 hk, hr, oi_0_4, ot_s7 hk, f_AckBook_Arrivals_settle, op_s7_4 hk, oz0_s7_6 hk, oi_s7_7 hk, y_cI, z7]
    by_cases h0 : r = 0
    · subst h0
      rw [if_pos (show nI 0 = 0 from rfl), if_neg (fun z => z.2 rfl)]
    · rw [if_neg (nI_ne0 (by omega) (by omega)), if_pos ⟨hd, h0⟩]
  · rw [if_neg hd, z_thr_cV, if_neg (fun z => hd z.1)]
theorem m_wrB {x : Int32} (hx : x < 0 ∨ 2 < x) : f_AckBookModel_written F X (some (B + 31)) x (o_w B X τ σ n c s) = some (.inl (some (.int 0)), o_w B X τ (o_I σ 31 0 1) n c s) := by
  unfold f_AckBookModel_written
  simp only [s_noSpace, z_cI, ot_31, if_pos hx, s_fails 1 1 (Or.inr rfl)]
  rw [if_neg (by decide), if_neg (by decide)]
theorem m_wrO {k r : Nat} (hk : k < 3) (hr : σ.1 47 k = nI r) (h64 : r ≤ 64) : f_AckBookModel_written F X (some (B + 31)) (nI k) (o_w B X τ σ n c s) = if σ.1 39 k = 0 ∧ r ≠ 0 then some (.inl (some (.int (σ.1 31 1 - σ.1 51 k))), o_w B X τ (o_I (o_I (o_I (o_I σ 31 0 0) 31 0 0) 52 k 0) 54 k 0) n c s) else some (.inl (some (.int 0)), o_w B X τ (o_I (o_I σ 31 0 0) 31 0 2) n c s) := by
  have hr1 : (o_I σ 31 0 0).1 47 k = nI r := by rw [i11, if_neg (by omega)]; exact hr
  have hd1 : (o_I σ 31 0 0).1 39 k = σ.1 39 k := by rw [i11, if_neg (by omega)]
  have t1 : (o_I (o_I (o_I (o_I σ 31 0 0) 31 0 0) 52 k 0) 54 k 0).1 31 1 = σ.1 31 1 := by simp [i11]
  have t2 : (o_I (o_I (o_I (o_I σ 31 0 0) 31 0 0) 52 k 0) 54 k 0).1 51 k = σ.1 51 k := by simp [i11]
  have b31 : q_AckBookModel_written_31 F X (some (B + 31)) (nI k) (some (B + 31)) (o_w B X τ (o_I σ 31 0 0) n c s) = some (.inl (some (.int 0)), o_w B X τ (o_I (o_I σ 31 0 0) 31 0 2) n c s) := by
    simp only [q_AckBookModel_written_31, q_AckBookModel_written_36, ot_31, s_fails 1 2 (Or.inr rfl), z_cI]
    rw [if_neg (by decide), if_neg (by decide)]
  have b36 : q_AckBookModel_written_36 F X (some (B + 31)) (nI k) (some (B + 31)) 0 (o_w B X τ (o_I σ 31 0 0) n c s) = some (.inl (some (.int (σ.1 31 1 - σ.1 51 k))), o_w B X τ (o_I (o_I (o_I (o_I σ 31 0 0) 31 0 0) 52 k 0) 54 k 0) n c s) := by
    simp (disch := omega) only [q_AckBookModel_written_36, ot_31, s_fails 0 2 (Or.inl rfl), z_cI, if_true, or_31_35, osn_52, or_31_37, osz0_54, oi_31_1, or_31_34, oln_51, t1, t2]
  unfold f_AckBookModel_written
  simp (disch := omega) only [s_noSpace, z_cI, ot_31, if_neg (e_spk hk), s_fails 0 1 (Or.inl rfl), if_true, or_31_30, oln_47, hr1, or_31_11, oln_39, hd1]
  by_cases h0 : r = 0
  · subst h0
    rw [if_pos (show nI 0 = 0 from rfl), if_neg (fun z => z.2 rfl)]
    exact b31
  · rw [if_neg (nI_ne0 (by omega) (by omega))]
    by_cases hd : σ.1 39 k = 0
    · rw [if_pos hd, if_pos ⟨hd, h0⟩]
      exact b36
    · rw [if_neg hd, if_neg (fun z => hd z.1)]
      exact b31
theorem x_writtenR {v v2 : Int32} (hS : kS T τ σ n c s) (h : kA T σ) (hn1 : 56 ≤ n1) (x : Int32) (e1 : f_AckBookLaw_written F X (some (B + 0)) x (some (B + 55)) (o_w B X τ σ n c s) = some (.inl (some (.int v)), o_w B X τ1 σ1 n1 c1 s1)) (e2 : f_AckBookModel_written F X (some (B + 31)) x (o_w B X τ1 σ1 n1 c1 s1) = some (.inl (some (.int v2)), o_w B X τ1 σ2 n1 c1 s1)) : xR T v v2.toInt64 σ2 := by
  have hn := hS.1.n56
  unfold f_AckBookLaw_written at e1
  rw [ot_0] at e1
  rcases e_sp x with hx | ⟨k, hk, rfl⟩
  · rw [c_wrB hx] at e1
    obtain ⟨hv, q1⟩ := x_thrI (u := 1) hn e1 (fun w => rfl)
    rw [m_wrB hx] at e2
    obtain ⟨-, q2, q3, q4⟩ := x_end hn1 e2
    refine ⟨h.two q1 ⟨(aC.I31 _).trans q2.1, (fN.I31 _).trans q2.2⟩, ?_, fun q => ?_⟩
    · rw [q3, hv, i11, if_pos ⟨rfl, rfl⟩]
    · rw [hv] at q
      exact absurd q (by decide)
  · have hdk := hS.2.2.2.1 k hk
    obtain ⟨r, p, ⟨a1, a2⟩, a3, a4, ⟨a5, a6, a7⟩, ⟨a8, a9⟩, a10, a11, a12⟩ := h.2 k hk
    rw [c_wrO hk a3 a1, hdk] at e1
    by_cases hg : σ.1 39 k = 0 ∧ r ≠ 0
    · rw [if_pos hg] at e1
      have e1' : z_stL (o_w B X τ (o_I (o_I σ (7 + 8 * k) 4 0) (7 + 8 * k) 6 0) n c s) (some (B + 55)) (0 : Int32) (σ.1 0 4 - σ.1 (7 + 8 * k) 7).toInt64 (fun w => some (.inl (some (.int (0 : Int32))), w)) = some (.inl (some (.int v)), o_w B X τ1 σ1 n1 c1 s1) := e1
      rw [o55] at e1'
      obtain ⟨hv, q1, -, q4⟩ := x_end hn e1'
      injection hv with hv
      injection hv with hv
      injection hv with hv
      have hy : yK k σ (o_I (o_I σ (7 + 8 * k) 4 0) (7 + 8 * k) 6 0) := yK.I.trans yK.I
      have qC := (aC.out (o_I (o_I σ (7 + 8 * k) 4 0) (7 + 8 * k) 6 0) _).trans q1.1
      have qN := (hy.nn hk).trans ((fN.out _ _).trans q1.2)
      rw [m_wrO hk (r := r) (by rw [qN.1.2]; exact a5) a1, if_pos ⟨by rw [qN.2.2.2]; exact hg.1, hg.2⟩] at e2
      obtain ⟨hv2, q2, q3, q5⟩ := x_end hn1 e2
      injection hv2 with hv2
      injection hv2 with hv2
      injection hv2 with hv2
      have hG : bG k σ1 (o_I (o_I (o_I (o_I σ1 31 0 0) 31 0 0) 52 k 0) 54 k 0) := (((bG.I (Or.inl ⟨rfl, rfl⟩)).trans (bG.I (Or.inl ⟨rfl, rfl⟩))).trans (bG.I (Or.inr ⟨rfl, by omega⟩))).trans (bG.I (Or.inr ⟨rfl, by omega⟩))
      have hC := qC.trans (hG.cc.trans q2.1)
      refine ⟨⟨?_, fun j hj => ?_⟩, ?_, fun _ => ?_⟩
      · rw [hC.1, q2.2.1.1, hG.2.1 31 1 (by omega) (by omega), qN.1.1, i11, if_neg (by omega), i11, if_neg (by omega)]
        exact h.1
      · by_cases hjk : j = k
        · subst hjk
          obtain ⟨⟨c1, c2⟩, ⟨c3, c4, c5, c6⟩, c7, c8⟩ := hC.2 j hk
          obtain ⟨⟨f1, f2⟩, ⟨f3, f4, f5, f6⟩, f7⟩ := q2.2.d j
          obtain ⟨⟨m1, m2⟩, ⟨m3, m4, m5, m6⟩, m7⟩ := qN.d j
          have g47 : (o_I (o_I (o_I (o_I σ1 31 0 0) 31 0 0) 52 j 0) 54 j 0).1 47 j = σ1.1 47 j := by simp [i11]
          have g52 : (o_I (o_I (o_I (o_I σ1 31 0 0) 31 0 0) 52 j 0) 54 j 0).1 52 j = 0 := by simp [i11]
          have g53 : (o_I (o_I (o_I (o_I σ1 31 0 0) 31 0 0) 52 j 0) 54 j 0).1 53 j = σ1.1 53 j := by simp [i11]
          have g54 : (o_I (o_I (o_I (o_I σ1 31 0 0) 31 0 0) 52 j 0) 54 j 0).1 54 j = 0 := by simp [i11]
          have g51 : (o_I (o_I (o_I (o_I σ1 31 0 0) 31 0 0) 52 j 0) 54 j 0).1 51 j = σ1.1 51 j := by simp [i11]
          have k2 : (o_I (o_I σ (7 + 8 * j) 4 0) (7 + 8 * j) 6 0).1 (7 + 8 * j) 2 = σ.1 (7 + 8 * j) 2 := by simp [i11]
          have k4 : (o_I (o_I σ (7 + 8 * j) 4 0) (7 + 8 * j) 6 0).1 (7 + 8 * j) 4 = 0 := by simp [i11]
          have k5 : (o_I (o_I σ (7 + 8 * j) 4 0) (7 + 8 * j) 6 0).1 (7 + 8 * j) 5 = σ.1 (7 + 8 * j) 5 := by simp [i11]
          have k6 : (o_I (o_I σ (7 + 8 * j) 4 0) (7 + 8 * j) 6 0).1 (7 + 8 * j) 6 = 0 := by simp [i11]
          have k7 : (o_I (o_I σ (7 + 8 * j) 4 0) (7 + 8 * j) 6 0).1 (7 + 8 * j) 7 = σ.1 (7 + 8 * j) 7 := by simp [i11]
          have c2 : σ2.2.1 (7 + 8 * j) 3 = σ.2.1 (7 + 8 * j) 3 := c2
          have c7 : σ2.2.1 (8 + 8 * j) = σ.2.1 (8 + 8 * j) := c7
          have c8 : σ2.2.1 (9 + 8 * j) = σ.2.1 (9 + 8 * j) := c8
          refine ⟨r, 0, ⟨a1, by omega⟩, by rw [c1, k2]; exact a3, by rw [c7, c8]; exact a4, ⟨?_, ?_, ?_⟩, ⟨by rw [c3, k4]; rfl, by rw [f3, g52]; rfl⟩, ?_, ?_, ?_⟩
          · rw [f1, g47, m1]; exact a5
          · show aR r (σ2.2.1 (8 + 8 * j)) (σ2.2.1 (9 + 8 * j)) (65 * j) (σ2.2.1 48) (σ2.2.1 49)
            rw [c7, c8]
            exact fun i i' hi => ⟨((f7 i (by omega)).1.trans (m7 i (by omega)).1).trans (a6 i i' hi).1, ((f7 i (by omega)).2.trans (m7 i (by omega)).2).trans (a6 i i' hi).2⟩
          · show σ2.2.1 50 j = σ2.2.1 (7 + 8 * j) 3
            rw [c2, f2]
            exact m2.trans a7
          · rw [c4, k5, f4, g53, m4]; exact a10
          · rw [c5, k6, f5, g54]
          · rw [c6, k7, f6, g51, m6]; exact a12
        · exact (h.2 j hj).cong (Nat.le_succ T) (aD.trans (hy.d hjk) (hC.2 j hj)) (((qN.d j).trans (hG.d hjk)).trans (q2.2.d j))
      · rw [q3]
        have : (o_I (o_I (o_I (o_I σ1 31 0 0) 31 0 0) 52 k 0) 54 k 0).1 31 0 = 0 := by simp [i11]
        rw [this]
        exact hv
      · rw [q5, ← hv2, qN.1.1, qN.2.2.1.1, ← a12, ← h.1]
        exact q4.trans (l550 _)
    · rw [if_neg hg] at e1
      obtain ⟨hv, q1⟩ := x_thrI (u := 2) hn e1 (fun w => rfl)
      rw [m_wrO hk (r := r) (by rw [q1.2.1.2]; exact a5) a1, if_neg (by rw [q1.2.2.2.2]; exact hg)] at e2
      obtain ⟨-, q2, q3, q4⟩ := x_end hn1 e2
      refine ⟨h.two q1 ⟨((aC.I31 _).trans (aC.I31 _)).trans q2.1, ((fN.I31 _).trans (fN.I31 _)).trans q2.2⟩, ?_, fun q => ?_⟩
      · rw [q3, hv, i11, if_pos ⟨rfl, rfl⟩]
      · rw [hv] at q
        exact absurd q (by decide)
/-- range -/
theorem c_rgB {x y z : Int32} (hx : x < 0 ∨ 2 < x) : f_AckBook_range F X (some (B + 0)) x y z (o_w B X τ σ n c s) = z_thr (o_w B X τ σ n c s) 11 := by
  unfold f_AckBook_range
  simp only [ot_0]
  rw [c_knownB hx, z_thr_cR]
theorem c_rgN {k r : Nat} {y z : Int32} (hk : k < 3) (hr : σ.1 (7 + 8 * k) 2 = nI r) (h64 : r ≤ 64) (hy : y < 0 ∨ ¬ y < nI r) : f_AckBook_range F X (some (B + 0)) (nI k) y z (o_w B X τ σ n c s) = z_thr (o_w B X τ σ n c s) 13 := by
  unfold f_AckBook_range
  simp only [ot_0, c_known hk, y_cRs, or_s2_2 hk, oi_s7_2 hk, hr]
  by_cases h : y < 0
  · rw [if_pos h]
  · rw [if_neg h, if_neg (hy.resolve_left h)]
theorem c_rgO {k r j : Nat} {z : Int32} (hk : k < 3) (hr : σ.1 (7 + 8 * k) 2 = nI r) (h64 : r ≤ 64) (hj : j < r) : f_AckBook_range F X (some (B + 0)) (nI k) (nI j) z (o_w B X τ σ n c s) = some (.inl (some (.long (if z = 0 then σ.2.1 (8 + 8 * k) j else σ.2.1 (9 + 8 * k) j))), o_w B X τ σ n c s) := by
  unfold f_AckBook_range
  simp only [ot_0, c_known hk, y_cRs, or_s2_2 hk, oi_s7_2 hk, hr]
  rw [if_neg (nI_pos (by omega)), if_pos (nI_lt hj (by omega))]
  simp only [or_s7_0 hk, or_s7_1 hk, oln_s8 hk (show j < 65 by omega), oln_s9 hk (show j < 65 by omega)]
  by_cases h : z = 0
  · rw [if_pos h, if_pos h]
  · rw [if_neg h, if_neg h]
theorem m_rgB {x y z : Int32} (hx : x < 0 ∨ 2 < x) : f_AckBookModel_range F X (some (B + 31)) x y z (o_w B X τ σ n c s) = some (.inl (some (.long 0)), o_w B X τ (o_I σ 31 0 1) n c s) := by
  unfold f_AckBookModel_range
  simp only [s_noSpace, z_cI, ot_31, if_pos hx, s_fails 1 1 (Or.inr rfl)]
  rw [if_neg (by decide), if_neg (by decide)]
theorem m_rgN {k r : Nat} {y z : Int32} (hk : k < 3) (hr : σ.1 47 k = nI r) (h64 : r ≤ 64) (hy : y < 0 ∨ ¬ y < nI r) : f_AckBookModel_range F X (some (B + 31)) (nI k) y z (o_w B X τ σ n c s) = some (.inl (some (.long 0)), o_w B X τ (o_I (o_I σ 31 0 0) 31 0 2) n c s) := by
  have hr1 : (o_I σ 31 0 0).1 47 k = nI r := by rw [i11, if_neg (by omega)]; exact hr
  have b27 : q_AckBookModel_range_27 F X (some (B + 31)) (nI k) y z (some (B + 31)) (o_w B X τ (o_I σ 31 0 0) n c s) = some (.inl (some (.long 0)), o_w B X τ (o_I (o_I σ 31 0 0) 31 0 2) n c s) := by
    simp only [q_AckBookModel_range_27, q_AckBookModel_range_32, ot_31, s_fails 1 2 (Or.inr rfl), z_cI]
    rw [if_neg (by decide), if_neg (by decide)]
  unfold f_AckBookModel_range
  simp (disch := omega) only [s_noSpace, z_cI, ot_31, if_neg (e_spk hk), s_fails 0 1 (Or.inl rfl), if_true, or_31_30, oln_47, hr1]
  by_cases h : y < 0
  · rw [if_pos h]; exact b27
  · rw [if_neg h, if_neg (hy.resolve_left h)]; exact b27
theorem m_rgO {k r j : Nat} {z : Int32} (hk : k < 3) (hr : σ.1 47 k = nI r) (h64 : r ≤ 64) (hj : j < r) : f_AckBookModel_range F X (some (B + 31)) (nI k) (nI j) z (o_w B X τ σ n c s) = some (.inl (some (.long (if z = 0 then σ.2.1 48 (65 * k + (r - 1 - j)) else σ.2.1 49 (65 * k + (r - 1 - j))))), o_w B X τ (o_I (o_I σ 31 0 0) 31 0 0) n c s) := by
  have hr1 : (o_I σ 31 0 0).1 47 k = nI r := by rw [i11, if_neg (by omega)]; exact hr
  have hr2 : (o_I (o_I σ 31 0 0) 31 0 0).1 47 k = nI r := by rw [i11, if_neg (by omega)]; exact hr1
  have ej : 65 * k + r - 1 - j = 65 * k + (r - 1 - j) := by omega
  unfold f_AckBookModel_range
  simp (disch := omega) only [s_noSpace, z_cI, ot_31, if_neg (e_spk hk), s_fails 0 1 (Or.inl rfl), if_true, or_31_30, oln_47, hr1]
  rw [if_neg (nI_pos (by omega)), if_pos (nI_lt hj (by omega))]
  simp (disch := omega) only [q_AckBookModel_range_32, ot_31, s_fails 0 2 (Or.inl rfl), z_cI, or_31_30, oln_47, hr2, e_m65, nI_add, e_m1, pk_sub, or_31_31, oln_48, or_31_32, oln_49, if_true, ej]
  by_cases h : z = 0
  · rw [if_pos h, if_pos h]
    rfl
  · rw [if_neg h, if_neg h]
    rfl
theorem x_rangeR {v z : Int32} {v2 : Int64} (hS : kS T τ σ n c s) (h : kA T σ) (hn1 : 56 ≤ n1) (x y : Int32) (e1 : f_AckBookLaw_range F X (some (B + 0)) x y z (some (B + 55)) (o_w B X τ σ n c s) = some (.inl (some (.int v)), o_w B X τ1 σ1 n1 c1 s1)) (e2 : f_AckBookModel_range F X (some (B + 31)) x y z (o_w B X τ1 σ1 n1 c1 s1) = some (.inl (some (.long v2)), o_w B X τ1 σ2 n1 c1 s1)) : xR T v v2 σ2 := by
  have hn := hS.1.n56
  unfold f_AckBookLaw_range at e1
  rw [ot_0] at e1
  rcases e_sp x with hx | ⟨k, hk, rfl⟩
  · rw [c_rgB hx] at e1
    obtain ⟨hv, q1⟩ := x_thrL (u := 1) hn e1 (fun w => rfl)
    rw [m_rgB hx] at e2
    obtain ⟨-, q2, q3, q4⟩ := x_end hn1 e2
    refine ⟨h.two q1 ⟨(aC.I31 _).trans q2.1, (fN.I31 _).trans q2.2⟩, ?_, fun q => ?_⟩
    · rw [q3, hv, i11, if_pos ⟨rfl, rfl⟩]
    · rw [hv] at q
      exact absurd q (by decide)
  · obtain ⟨r, p, ⟨a1, a2⟩, a3, a4, ⟨a5, a6, a7⟩, a8⟩ := h.2 k hk
    by_cases hy : y < 0 ∨ ¬ y < nI r
    · rw [c_rgN hk a3 a1 hy] at e1
      obtain ⟨hv, q1⟩ := x_thrL (u := 2) hn e1 (fun w => rfl)
      rw [m_rgN hk (by rw [q1.2.1.2]; exact a5) a1 hy] at e2
      obtain ⟨-, q2, q3, q4⟩ := x_end hn1 e2
      refine ⟨h.two q1 ⟨((aC.I31 _).trans (aC.I31 _)).trans q2.1, ((fN.I31 _).trans (fN.I31 _)).trans q2.2⟩, ?_, fun q => ?_⟩
      · rw [q3, hv, i11, if_pos ⟨rfl, rfl⟩]
      · rw [hv] at q
        exact absurd q (by decide)
    · obtain ⟨j, hj, rfl⟩ := nI_of (fun q => hy (Or.inl q))
      have hjr : j < r := (nI_ltI hj (by omega)).mp (Decidable.not_not.mp fun q => hy (Or.inr q))
      rw [c_rgO hk a3 a1 hjr] at e1
      have e1' : z_stL (o_w B X τ σ n c s) (some (B + 55)) (0 : Int32) (if z = 0 then σ.2.1 (8 + 8 * k) j else σ.2.1 (9 + 8 * k) j) (fun w => some (.inl (some (.int (0 : Int32))), w)) = some (.inl (some (.int v)), o_w B X τ1 σ1 n1 c1 s1) := e1
      rw [o55] at e1'
      obtain ⟨hv, q1, -, q4⟩ := x_end hn e1'
      injection hv with hv
      injection hv with hv
      injection hv with hv
      have qC := (aC.out σ _).trans q1.1
      have qN := (fN.out σ _).trans q1.2
      rw [m_rgO hk (by rw [qN.1.2]; exact a5) a1 hjr] at e2
      obtain ⟨hv2, q2, q3, q5⟩ := x_end hn1 e2
      injection hv2 with hv2
      injection hv2 with hv2
      injection hv2 with hv2
      have g := a6 (r - 1 - j) j (show r - 1 - j + j + 1 = r by omega)
      rw [qN.2.1.1, qN.2.1.2.1, g.1, g.2] at hv2
      refine ⟨h.two ⟨qC, qN⟩ ⟨((aC.I31 _).trans (aC.I31 _)).trans q2.1, ((fN.I31 _).trans (fN.I31 _)).trans q2.2⟩, ?_, fun _ => ?_⟩
      · rw [q3, i11, if_pos ⟨rfl, rfl⟩]
        exact hv
      · rw [q5, ← hv2]
        exact q4.trans (l550 _)
end LC
