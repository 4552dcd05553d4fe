section PMA
variable {B X F : Nat} {τ : zK} {n c s : Nat} {T : Nat} {σ : zS}
theorem u_span40 (l h : Int64) : q_AckBookModel_span_40 F X (some (B + 31)) l h (some (B + 31)) (o_w B X τ σ n c s) = some (.inl (some (.int 0)), o_w B X τ (o_I σ 31 0 1) n c s) := by
  simp only [q_AckBookModel_span_40, q_AckBookModel_span_45, ot_31, s_fails 1 1 (Or.inr rfl), z_cI]
  rw [if_neg (by decide), if_neg (by decide)]
theorem u_span44 (l h : Int64) {sp : Nat} (hs : σ.1 31 27 = nI sp) (h64 : sp ≤ 64) : q_AckBookModel_span_44 F X (some (B + 31)) l h (some (B + 31)) (o_w B X τ σ n c s) = if sp = 64 then some (.inl (some (.int 0)), o_w B X τ (o_I (o_I σ 31 0 0) 31 0 2) n c s) else some (.inl (some (.int (nI (sp + 1)))), o_w B X τ (o_I (o_L (o_L (o_I (o_I σ 31 0 0) 31 0 0) 45 sp l) 46 sp h) 31 27 (nI (sp + 1))) n c s) := by
  have e1 : (o_I σ 31 0 0).1 31 27 = nI sp := by simp [i11, hs]
  have e2 : (o_I (o_I σ 31 0 0) 31 0 0).1 31 27 = nI sp := by simp [i11, hs]
  have e3 : (o_L (o_I (o_I σ 31 0 0) 31 0 0) 45 sp l).1 31 27 = nI sp := e2
  have e4 : (o_L (o_L (o_I (o_I σ 31 0 0) 31 0 0) 45 sp l) 46 sp h).1 31 27 = nI sp := e2
  have e5 : (o_I (o_L (o_L (o_I (o_I σ 31 0 0) 31 0 0) 45 sp l) 46 sp h) 31 27 (nI (sp + 1))).1 31 27 = nI (sp + 1) := by simp [i11]
  simp only [q_AckBookModel_span_44, q_AckBookModel_span_45, ot_31, s_fails 0 1 (Or.inl rfl), z_cI, if_true, oi_31_27, e1]
  by_cases hq : sp = 64
  · subst hq
    rw [if_pos rfl, if_pos (show nI 64 = (64 : Int32) from rfl)]
    simp only [q_AckBookModel_span_67, ot_31, s_fails 1 2 (Or.inr rfl), z_cI]
    rw [if_neg (by decide), if_neg (by decide)]
  · rw [if_neg hq, if_neg (show ¬ nI sp = (64 : Int32) from fun q => hq ((nI_eq (a := sp) (b := 64) (by omega) (by decide)).mp q))]
    simp (disch := omega) only [q_AckBookModel_span_67, ot_31, s_fails 0 2 (Or.inl rfl), z_cI, if_true, or_31_28, oi_31_27, e2, osn_45, or_31_29, e3, osn_46, e4, nI_1, op_31_27, e5]
def m_sBad (σ : zS) (l h : Int64) : Prop := l < 0 ∨ h < l ∨ ∃ sp, σ.1 31 27 = nI (sp + 1) ∧ sp < 64 ∧ ¬ h ≤ σ.2.1 45 sp - 2
theorem u_spanB (hM : mM T σ) (l h : Int64) (hb : m_sBad σ l h) : f_AckBookModel_span F X (some (B + 31)) l h (o_w B X τ σ n c s) = some (.inl (some (.int 0)), o_w B X τ (o_I σ 31 0 1) n c s) := by
  unfold f_AckBookModel_span
  simp only [lg_cmp_lt, lg_cmp_le, oi_31_27]
  by_cases h1 : l < 0
  · rw [if_pos h1]; exact u_span40 l h
  · rw [if_neg h1]
    by_cases h2 : h < l
    · rw [if_pos h2]; exact u_span40 l h
    · rw [if_neg h2]
      rcases hb with q | q | ⟨sp, q1, q2, q3⟩
      · exact absurd q h1
      · exact absurd q h2
      · rw [q1, if_neg (nI_nle (by omega) (by omega)), nI_pred]
        simp (disch := omega) only [or_31_28, oln_45]
        rw [if_neg q3]
        exact u_span40 l h
theorem u_spanG (hM : mM T σ) (l h : Int64) (hb : ¬ m_sBad σ l h) : f_AckBookModel_span F X (some (B + 31)) l h (o_w B X τ σ n c s) = q_AckBookModel_span_44 F X (some (B + 31)) l h (some (B + 31)) (o_w B X τ σ n c s) := by
  obtain ⟨sp, hs1, hs2, -⟩ := hM.sp
  unfold f_AckBookModel_span
  simp only [lg_cmp_lt, lg_cmp_le, oi_31_27]
  rw [if_neg (fun q => hb (Or.inl q)), if_neg (fun q => hb (Or.inr (Or.inl q)))]
  rcases Nat.eq_zero_or_pos sp with q | q
  · subst q
    rw [hs1, if_pos (by decide)]
  · obtain ⟨sp', rfl⟩ : ∃ sp', sp = sp' + 1 := ⟨sp - 1, by omega⟩
    rw [hs1, if_neg (nI_nle (by omega) (by omega)), nI_pred]
    simp (disch := omega) only [or_31_28, oln_45]
    rw [if_pos]
    exact Classical.byContradiction fun q3 => hb (Or.inr (Or.inr ⟨sp', hs1, by omega, q3⟩))
theorem mM.span (hM : mM T σ) {sp : Nat} (hs : σ.1 31 27 = nI sp) (h64 : sp < 64) {l h : Int64} (hb : ¬ m_sBad σ l h) : mM T (o_I (o_L (o_L (o_I (o_I σ 31 0 0) 31 0 0) 45 sp l) 46 sp h) 31 27 (nI (sp + 1))) := by
  have hl : ¬ l < 0 := fun q => hb (Or.inl q)
  have hh : ¬ h < l := fun q => hb (Or.inr (Or.inl q))
  have e1 : 0 ≤ h.toInt := by
    have a1 := Int64.le_iff_toInt_le.mp (Int64.not_lt.mp hl)
    have a2 := Int64.le_iff_toInt_le.mp (Int64.not_lt.mp hh)
    have a3 : (0 : Int64).toInt = 0 := by decide
    omega
  obtain ⟨m, g, W, ⟨h1, h2, h3, h4, h5, h6, h7, ⟨sp', q1, q2, q3⟩, h9⟩, hW, hle⟩ := id hM
  have hsp : sp' = sp := (nI_eq (by omega) (by omega)).mp (q1.symm.trans hs)
  subst hsp
  have e : ∀ a b, a ≠ 31 → (o_I (o_L (o_L (o_I (o_I σ 31 0 0) 31 0 0) 45 sp' l) 46 sp' h) 31 27 (nI (sp' + 1))).1 a b = σ.1 a b := fun a b ha => by simp [i11, l11, ha]
  refine ⟨m, g, W, ⟨fun k hk => ?_, fun k hk => ?_, ⟨fun l hl => ?_, fun k hk => ?_⟩, fun l hl i hi => ?_, fun l' hl => ?_, fun k hk => ?_, fun k hk i hi => ?_, ?_, fun k hk => ?_⟩, ?_, hle⟩
  · rw [e _ _ (by decide)]; exact h1 k hk
  · rw [e _ _ (by decide)]; exact h2 k hk
  · rw [e _ _ (by decide)]; exact h3.1 _ hl
  · rw [show (fun i => (o_I (o_L (o_L (o_I (o_I σ 31 0 0) 31 0 0) 45 sp' l) 46 sp' h) 31 27 (nI (sp' + 1))).1 35 (4096 * k + i)) = fun i => σ.1 35 (4096 * k + i) from funext fun i => e _ _ (by decide)]; exact h3.2 k hk
  · rw [e _ _ (by decide)]; exact h4 _ hl i hi
  · rw [e _ _ (by decide)]; exact h5 l' hl
  · rw [e _ _ (by decide)]; exact h6 k hk
  · rw [e _ _ (by decide)]; exact h7 k hk i hi
  · refine ⟨sp' + 1, by simp [i11], by omega, fun _ => ?_⟩
    show 0 ≤ ((o_L (o_L (o_I (o_I σ 31 0 0) 31 0 0) 45 sp' l) 46 sp' h).2.1 46 0).toInt
    rw [l12]
    by_cases q : sp' = 0
    · rw [if_pos ⟨rfl, q.symm⟩]; exact e1
    · rw [if_neg (fun z => q z.2.symm), l12, if_neg (fun z => by omega)]
      exact q3 (by omega)
  · rw [e _ _ (by decide)]; exact h9 k hk
  · unfold mW
    rw [show (o_I (o_L (o_L (o_I (o_I σ 31 0 0) 31 0 0) 45 sp' l) 46 sp' h) 31 27 (nI (sp' + 1))).1 31 24 = σ.1 31 24 from by simp [i11, l11]]
    exact hW
def m_vBad (x y e d : Int32) : Prop := (x < 0 ∨ 2 < x) ∨ y < 1 ∨ 1200 < y ∨ (e ≠ 0 ∧ d = 0)
theorem u_sendB (x y e d : Int32) (hb : m_vBad x y e d) : f_AckBookModel_send F X (some (B + 31)) x y e d (o_w B X τ σ n c s) = some (.inl (some (.int 0)), o_w B X τ (o_I σ 31 0 1) n c s) := by
  have h29 : q_AckBookModel_send_29 F X (some (B + 31)) x y e d (some (B + 31)) (o_w B X τ σ n c s) = some (.inl (some (.int 0)), o_w B X τ (o_I σ 31 0 1) n c s) := by
    simp only [q_AckBookModel_send_29, q_AckBookModel_send_34, ot_31, s_fails 1 1 (Or.inr rfl), z_cI]
    rw [if_neg (by decide), if_neg (by decide)]
  unfold f_AckBookModel_send
  simp only [s_noSpace, z_cI]
  by_cases h1 : x < 0 ∨ 2 < x
  · rw [if_pos h1, if_neg (by decide)]; exact h29
  · rw [if_neg h1, if_pos rfl]
    by_cases h2 : y < 1
    · rw [if_pos h2]; exact h29
    · rw [if_neg h2]
      by_cases h3 : 1200 < y
      · rw [if_pos h3]; exact h29
      · rw [if_neg h3]
        rcases hb with q | q | q | ⟨q1, q2⟩
        · exact absurd q h1
        · exact absurd q h2
        · exact absurd q h3
        · rw [if_neg q1, if_pos q2]; exact h29
theorem u_send34 {k : Nat} (y e d : Int32) (hb : ¬ m_vBad (nI k) y e d) : f_AckBookModel_send F X (some (B + 31)) (nI k) y e d (o_w B X τ σ n c s) = q_AckBookModel_send_34 F X (some (B + 31)) (nI k) y e d (some (B + 31)) 0 (o_w B X τ σ n c s) := by
  unfold f_AckBookModel_send
  simp only [s_noSpace, z_cI, q_AckBookModel_send_33]
  rw [if_neg (fun q => hb (Or.inl q)), if_pos rfl, if_neg (fun q => hb (Or.inr (Or.inl q))), if_neg (fun q => hb (Or.inr (Or.inr (Or.inl q))))]
  by_cases h1 : e = 0
  · rw [if_pos h1]
  · rw [if_neg h1, if_neg (fun q => hb (Or.inr (Or.inr (Or.inr ⟨h1, q⟩))))]
theorem u_sendD (hM : mM T σ) {k : Nat} (hk : k < 3) (y e d : Int32) (hb : ¬ m_vBad (nI k) y e d) (hd : σ.1 39 k = 1) : f_AckBookModel_send F X (some (B + 31)) (nI k) y e d (o_w B X τ σ n c s) = some (.inl (some (.int 0)), o_w B X τ (o_I (o_I σ 31 0 0) 31 0 2) n c s) := by
  have hd1 : (o_I σ 31 0 0).1 39 k = 1 := by rw [i11, if_neg (by omega)]; exact hd
  rw [u_send34 y e d hb]
  simp (disch := omega) only [q_AckBookModel_send_34, ot_31, s_fails 0 1 (Or.inl rfl), z_cI, if_true, or_31_11, oln_39, hd1]
  rw [if_neg (by decide)]
  simp only [q_AckBookModel_send_63, q_AckBookModel_send_68, ot_31, s_fails 1 2 (Or.inr rfl), z_cI]
  rw [if_neg (by decide), if_neg (by decide)]
theorem u_sendO (hM : mM T σ) (hT : T < 4096) (hF : 20000 ≤ F) {k : Nat} (hk : k < 3) (y e d : Int32) (he : e = 0 ∨ e = 1) (hdd : d = 0 ∨ d = 1) (hb : ¬ m_vBad (nI k) y e d) (hd : σ.1 39 k = 0) : ∃ σ', f_AckBookModel_send F X (some (B + 31)) (nI k) y e d (o_w B X τ σ n c s) = some (.inl (some (.int (σ.1 32 k))), o_w B X τ σ' n c s) ∧ mM (T + 1) σ' ∧ mX σ σ' ∧ σ'.1 31 0 = 0 ∧ (∀ j, σ'.1 32 j = if j = k then σ.1 32 k + 1 else σ.1 32 j) ∧ (∀ j, σ'.1 39 j = σ.1 39 j) ∧ σ'.1 31 27 = σ.1 31 27 ∧ ∀ i, σ'.2.1 45 i = σ.2.1 45 i := by
  have hd1 : (o_I σ 31 0 0).1 39 k = 0 := by rw [i11, if_neg (by omega)]; exact hd
  obtain ⟨m, g, W, h, hW, hle⟩ := id hM
  obtain ⟨h1, h2, h3, h4, h5, h6, h7, h8, h9⟩ := h
  obtain ⟨hA, hA2⟩ := h1 k hk
  have hA1 : (o_I σ 31 0 0).1 32 k = nI (m k) := by rw [i11, if_neg (by omega)]; exact hA
  have hne : ¬ nI (m k) = (4096 : Int32) := fun q => by
    have := (nI_eq (a := m k) (b := 4096) (by omega) (by decide)).mp q
    omega
  obtain ⟨z, hz0, hz⟩ : ∃ z, z ≤ 1200 ∧ y = nI z := by
    have a1 : ¬ y < 1 := fun q => hb (Or.inr (Or.inl q))
    have a2 : ¬ 1200 < y := fun q => hb (Or.inr (Or.inr (Or.inl q)))
    have a3 : ¬ y < 0 := fun q => a1 (Int32.lt_iff_toInt_lt.mpr (by
      have := Int32.lt_iff_toInt_lt.mp q
      have z0 : (0 : Int32).toInt = 0 := by decide
      have z1 : (1 : Int32).toInt = 1 := by decide
      omega))
    obtain ⟨j, hj, rfl⟩ := nI_of a3
    refine ⟨j, Nat.not_lt.mp fun q => a2 ?_, rfl⟩
    exact nI_lt (a := 1200) q hj
  subst hz
  have hfl : (o_I (o_I σ 31 0 0) 31 0 0).1 32 k = nI (m k) := by simp [i11, hA]
  rw [u_send34 _ e d hb]
  simp (disch := omega) only [q_AckBookModel_send_34, ot_31, s_fails 0 1 (Or.inl rfl), z_cI, if_true, or_31_11, oln_39, hd1, or_31_4, oln_32, hA1, if_neg hne, q_AckBookModel_send_68, s_fails 0 2 (Or.inl rfl), hfl, e_mu, nI_add, or_31_5, osn_33, or_31_6, oi_31_1, osn_34, or_31_7, osn_35, or_31_8, osn_36, or_31_9, osn_37, if_pos he, if_pos hdd]
  generalize hσ1 : o_I (o_I (o_I (o_I (o_I (o_I (o_I σ 31 0 0) 31 0 0) 33 (4096 * k + m k) (nI z)) 34 (4096 * k + m k) ((o_I (o_I (o_I σ 31 0 0) 31 0 0) 33 (4096 * k + m k) (nI z)).1 31 1)) 35 (4096 * k + m k) 0) 36 (4096 * k + m k) e) 37 (4096 * k + m k) d = σ1
  have f1 : σ1.1 32 k = nI (m k) := by rw [← hσ1]; simp [i11, hA]
  simp (disch := omega) only [or_31_4, oln_32, f1, nI_1, osn_32, oi_31_1, op_31_14, or_31_10]
  generalize hσ2 : o_I (o_I σ1 32 k (nI (m k + 1))) 31 14 ((o_I σ1 32 k (nI (m k + 1))).1 31 1) = σ2
  have e : ∀ a b, a ≠ 31 → a ≠ 32 → a ≠ 33 → a ≠ 34 → a ≠ 35 → a ≠ 36 → a ≠ 37 → σ2.1 a b = σ.1 a b := fun a b q1 q2 q3 q4 q5 q6 q7 => by rw [← hσ2, ← hσ1]; simp [i11, q1, q2, q3, q4, q5, q6, q7]
  have e32 : ∀ b, σ2.1 32 b = if b = k then nI (m k + 1) else σ.1 32 b := fun b => by rw [← hσ2, ← hσ1]; simp [i11]
  have e33 : ∀ b, σ2.1 33 b = if b = 4096 * k + m k then nI z else σ.1 33 b := fun b => by rw [← hσ2, ← hσ1]; simp [i11]
  have e35 : ∀ b, σ2.1 35 b = if b = 4096 * k + m k then 0 else σ.1 35 b := fun b => by rw [← hσ2, ← hσ1]; simp [i11]
  have e27 : σ2.1 31 27 = σ.1 31 27 := by rw [← hσ2, ← hσ1]; simp [i11]
  have e24 : σ2.1 31 24 = σ.1 31 24 := by rw [← hσ2, ← hσ1]; simp [i11]
  have e0 : σ2.1 31 0 = 0 := by rw [← hσ2, ← hσ1]; simp [i11]
  have eL : σ2.2 = σ.2 := by rw [← hσ2, ← hσ1]; rfl
  have hX2 : mX σ σ2 := by
    intro o ho
    refine ⟨funext fun b => ?_, by rw [eL], by rw [eL]⟩
    exact e o b (by omega) (by omega) (by omega) (by omega) (by omega) (by omega) (by omega)
  have hJ2 : mJ (T + 1) (fun j => if j = k then m k + 1 else m j) g σ2 := by
    have hmle : ∀ j, m j ≤ (fun j => if j = k then m k + 1 else m j) j := fun j => by
      show m j ≤ if j = k then m k + 1 else m j
      split
      · rename_i q; rw [q]; omega
      · exact Nat.le_refl _
    refine ⟨fun j hj => ?_, fun j hj => ?_, ⟨fun l hl => ?_, fun j hj => ?_⟩, fun l hl i hi => ?_, fun l hl => ?_, fun j hj => ?_, fun j hj i hi => ?_, ?_, fun j hj => ?_⟩
    · rw [e32]
      show _ = nI (if j = k then m k + 1 else m j) ∧ (if j = k then m k + 1 else m j) ≤ T + 1
      by_cases q : j = k
      · simp only [if_pos q]; exact ⟨trivial, by omega⟩
      · simp only [if_neg q]; exact ⟨(h1 j hj).1, Nat.le_succ_of_le (h1 j hj).2⟩
    · rw [e _ _ (by decide) (by decide) (by decide) (by decide) (by decide) (by decide) (by decide)]; exact h2 j hj
    · rw [e _ _ (by decide) (by decide) (by decide) (by decide) (by decide) (by decide) (by decide)]; exact h3.1 l hl
    · simp only [e35]
      have a1 := h3.2 j hj
      by_cases q : j = k
      · subst q
        simp only [if_pos]
        rw [o_cnt]
        have a2 : o_cnt (fun i => if 4096 * j + i = 4096 * j + m j then 0 else σ.1 35 (4096 * j + i)) (m j) = o_cnt (fun i => σ.1 35 (4096 * j + i)) (m j) := o_cnt_congr fun i hi => by rw [if_neg (by omega)]
        rw [a2]
        simp only [if_pos]
        omega
      · simp only [if_neg q]
        have a2 : o_cnt (fun i => if 4096 * j + i = 4096 * k + m k then 0 else σ.1 35 (4096 * j + i)) (m j) = o_cnt (fun i => σ.1 35 (4096 * j + i)) (m j) := o_cnt_congr fun i hi => by
          have := (h1 j hj).2
          rw [if_neg (by omega)]
        rw [a2]
        exact a1
    · rw [e _ _ (by decide) (by decide) (by decide) (by decide) (by decide) (by decide) (by decide)]
      obtain ⟨w, w1, w2⟩ := h4 l hl i hi
      exact ⟨w, w1, Nat.lt_of_lt_of_le w2 (hmle _)⟩
    · rw [e _ _ (by decide) (by decide) (by decide) (by decide) (by decide) (by decide) (by decide)]; exact h5 l hl
    · rw [e _ _ (by decide) (by decide) (by decide) (by decide) (by decide) (by decide) (by decide)]
      rcases h6 j hj with q | ⟨t, q1, q2⟩
      · exact Or.inl q
      · exact Or.inr ⟨t, q1, Nat.lt_of_lt_of_le q2 (hmle j)⟩
    · rw [e33]
      by_cases q : 4096 * j + i = 4096 * k + m k
      · rw [if_pos q]; exact ⟨z, rfl, hz0⟩
      · rw [if_neg q]
        by_cases q2 : j = k
        · subst q2
          simp only [if_pos] at hi
          exact h7 j hj i (by omega)
        · simp only [if_neg q2] at hi
          exact h7 j hj i hi
    · obtain ⟨sp, q1, q2, q3⟩ := h8
      exact ⟨sp, e27.trans q1, q2, by rw [eL]; exact q3⟩
    · rw [e _ _ (by decide) (by decide) (by decide) (by decide) (by decide) (by decide) (by decide)]; exact h9 j hj
  obtain ⟨v, hv⟩ := s_flight (B := B) (X := X) (F := F) (τ := τ) (n := n) (c := c) (s := s) (hJ2.m (by omega)) hF
  simp (disch := omega) only [ot_31, hv, z_cI, oi_31_24, osz0_38, osz1_38]
  have fin : ∀ b : Int32, ∃ σ', (some ((.inl (some (.int (nI (m k))))), o_w B X τ (o_I σ2 38 (4096 * k + m k) b) n c s) : zR) = some (.inl (some (.int (σ.1 32 k))), o_w B X τ σ' n c s) ∧ mM (T + 1) σ' ∧ mX σ σ' ∧ σ'.1 31 0 = 0 ∧ (∀ j, σ'.1 32 j = if j = k then σ.1 32 k + 1 else σ.1 32 j) ∧ (∀ j, σ'.1 39 j = σ.1 39 j) ∧ σ'.1 31 27 = σ.1 31 27 ∧ ∀ i, σ'.2.1 45 i = σ.2.1 45 i := by
    intro b
    refine ⟨_, by rw [hA], ⟨_, g, W, hJ2.t (by omega), ?_, hle⟩, hX2.trans (mX.I (by omega)), ?_, fun j => ?_, fun j => ?_, ?_, fun i => ?_⟩
    · unfold mW
      rw [i11, if_neg (by omega), e24]
      exact hW
    · rw [i11, if_neg (by omega)]; exact e0
    · rw [i11, if_neg (by omega), e32, hA, nI_1]
    · rw [i11, if_neg (by omega)]
      exact e _ _ (by decide) (by decide) (by decide) (by decide) (by decide) (by decide) (by decide)
    · rw [i11, if_neg (by omega)]; exact e27
    · rw [i12, eL]
  split
  · exact fin 0
  · exact fin 1
end PMA
