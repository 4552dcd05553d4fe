theorem mM.c {T : Nat} {σ : zS} (h : mM T σ) {q : Nat} (hq : q ≤ 64) (h0 : 0 < q → 0 ≤ (σ.2.1 46 0).toInt) : mM T (o_I σ 31 27 (nI q)) := by
  obtain ⟨m, g, W, ⟨h1, h2, h3, h4, h5, h6, h7, h8, h9⟩, hW, hle⟩ := h
  have e : ∀ a b, a ≠ 31 → (o_I σ 31 27 (nI q)).1 a b = σ.1 a b := fun a b ha => by rw [i11, if_neg (fun q => ha q.1)]
  refine ⟨m, g, W, ⟨fun k hk => ?_, fun k hk => ?_, ⟨fun l hl => ?_, fun k hk => ?_⟩, fun l hl i hi => ?_, fun l' hl => ?_, fun k hk => ?_, fun k hk i hi => ?_, ?_, fun k hk => ?_⟩, ?_, hle⟩
  · rw [e _ _ (by decide)]; exact h1 k hk
  · rw [e _ _ (by decide)]; exact h2 k hk
  · rw [e _ _ (by decide)]; exact h3.1 l hl
  · rw [show (fun i => (o_I σ 31 27 (nI q)).1 35 (4096 * k + i)) = fun i => σ.1 35 (4096 * k + i) from funext fun i => e _ _ (by decide)]; exact h3.2 k hk
  · rw [e _ _ (by decide)]; exact h4 l hl i hi
  · rw [e _ _ (by decide)]; exact h5 l' hl
  · rw [e _ _ (by decide)]; exact h6 k hk
  · rw [e _ _ (by decide)]; exact h7 k hk i hi
  · exact ⟨q, by rw [i11, if_pos ⟨rfl, rfl⟩], hq, h0⟩
  · rw [e _ _ (by decide)]; exact h9 k hk
  · unfold mW; rw [i11, if_neg (by omega)]; exact hW
section PM9
variable {B X F : Nat} {τ : zK} {n c s : Nat} {T : Nat} {σ : zS}
theorem u_disB (x : Int32) (hx : x < 0 ∨ 2 < x) : f_AckBookModel_discard F X (some (B + 31)) x (o_w B X τ σ n c s) = some (.inl none, o_w B X τ (o_I σ 31 0 1) n c s) := by
  unfold f_AckBookModel_discard
  simp only [s_noSpace, z_cI, ot_31, if_pos hx, s_fails 1 1 (Or.inr rfl)]
  rw [if_neg (by decide), if_neg (by decide)]
theorem u_disD {k : Nat} (hk : k < 3) (hd : σ.1 39 k = 1) : f_AckBookModel_discard F X (some (B + 31)) (nI k) (o_w B X τ σ n c s) = some (.inl none, o_w B X τ (o_I (o_I σ 31 0 0) 31 0 2) n c s) := by
  unfold f_AckBookModel_discard
  have hd1 : (o_I σ 31 0 0).1 39 k = 1 := by rw [i11, if_neg (by omega)]; exact hd
  simp (disch := omega) only [s_noSpace, z_cI, ot_31, if_neg (e_spk hk), s_fails 0 1 (Or.inl rfl), if_true, or_31_11, oln_39, hd1, s_fails 1 2 (Or.inr rfl)]
  rw [if_neg (by decide), if_neg (by decide)]
theorem u_disO (h : mM T σ) (hT : T ≤ 4096) {k : Nat} (hk : k < 3) (hd : σ.1 39 k = 0) : ∃ σ', f_AckBookModel_discard F X (some (B + 31)) (nI k) (o_w B X τ σ n c s) = some (.inl none, o_w B X τ σ' n c s) ∧ mM T σ' ∧ mX σ σ' ∧ σ'.1 31 0 = 0 ∧ (∀ j, σ'.1 32 j = σ.1 32 j) ∧ (∀ j, σ'.1 39 j = if j = k then 1 else σ.1 39 j) ∧ σ'.1 31 27 = σ.1 31 27 ∧ ∀ i, σ'.2.1 45 i = σ.2.1 45 i := by
  unfold f_AckBookModel_discard
  have hd1 : (o_I σ 31 0 0).1 39 k = 0 := by rw [i11, if_neg (by omega)]; exact hd
  simp (disch := omega) only [s_noSpace, z_cI, ot_31, if_neg (e_spk hk), s_fails 0 1 (Or.inl rfl), if_true, or_31_11, oln_39, hd1, s_fails 0 2 (Or.inl rfl), osz1_39, or_31_13, osn_41, or_31_17, or_31_16, e_m2, oln_43, osn_44, nI_1, or_31_30, osn_47, or_31_33, osn_50, or_31_35, osn_52, or_31_37, osz0_54, op_31_23]
  have a1 : mM T (o_I (o_I (o_I (o_I σ 31 0 0) 31 0 0) 39 k 1) 41 k (-1)) := (((h.w (by decide)).w (by decide)).dd k).t (by omega)
  have e1 : ∀ a b, a ≠ 31 → a ≠ 39 → a ≠ 41 → (o_I (o_I (o_I (o_I σ 31 0 0) 31 0 0) 39 k 1) 41 k (-1)).1 a b = σ.1 a b := fun a b q1 q2 q3 => by simp [i11, q1, q2, q3]
  refine ⟨_, rfl, ?_, ?_, ?_, ?_, ?_, ?_, ?_⟩
  · obtain ⟨m, g, W, q1, q2, q3⟩ := id a1
    have g1 := q1.2.2.1.1 (2 * k) (by omega)
    have a2 := mM.tl (l := 2 * k) (t := g (2 * k)) q1 q2 q3 (Nat.le_refl _)
    rw [← g1] at a2
    have a3 : mM T (o_I (o_I (o_I (o_I (o_I (o_I σ 31 0 0) 31 0 0) 39 k 1) 41 k (-1)) 44 (2 * k) ((o_I (o_I (o_I (o_I σ 31 0 0) 31 0 0) 39 k 1) 41 k (-1)).1 43 (2 * k))) 44 (2 * k + 1) ((o_I (o_I (o_I (o_I (o_I σ 31 0 0) 31 0 0) 39 k 1) 41 k (-1)) 44 (2 * k) ((o_I (o_I (o_I (o_I σ 31 0 0) 31 0 0) 39 k 1) 41 k (-1)).1 43 (2 * k))).1 43 (2 * k + 1))) := by
      obtain ⟨m, g, W, q1, q2, q3⟩ := id a2
      have g1 := q1.2.2.1.1 (2 * k + 1) (by omega)
      have a4 := mM.tl (l := 2 * k + 1) (t := g (2 * k + 1)) q1 q2 q3 (Nat.le_refl _)
      rw [← g1] at a4
      exact a4
    exact (((((a3.r (r := 0) (k := k) (by decide)).l (by decide)).t (by omega)).t (by omega)).w (by decide))
  · exact ((((((((((mX.I (by omega)).trans (mX.I (by omega))).trans (mX.I (by omega))).trans (mX.I (by omega))).trans (mX.I (by omega))).trans (mX.I (by omega))).trans (mX.I (by omega))).trans (mX.L (by omega))).trans (mX.I (by omega))).trans (mX.I (by omega))).trans (mX.I (by omega))
  · simp [i11, l11]
  · intro j; simp [i11, l11]
  · intro j; simp [i11, l11]
  · simp [i11, l11]
  · intro i; simp [i12, l12]
theorem u_tickJ (hF : 20000 ≤ F) (hT : T ≤ 4096) : ∀ N : Nat, (∀ (σ : zS) (a : Int32) (j : Nat) (y : Int32), mM T σ → (a = -1 ∨ ∃ e, e < 3 ∧ a = nI e) → j ≤ 3 → 10 + (3 - j) < N → m_qI B X T τ n c s σ (j_AckBookModel_tick F X N 0 (some (B + 31)) a (nI j) y (o_w B X τ σ n c s))) ∧ ∀ (σ : zS) (a b : Int32) (j : Nat), mM T σ → j ≤ 3 → (3 - j) < N → m_qI B X T τ n c s σ (j_AckBookModel_tick F X N 1 (some (B + 31)) a b (nI j) (o_w B X τ σ n c s)) := by
  intro N
  induction N with
  | zero => exact ⟨fun _ _ _ _ _ _ _ h => absurd h (Nat.not_lt_zero _), fun _ _ _ _ _ _ h => absurd h (Nat.not_lt_zero _)⟩
  | succ N ih =>
    refine ⟨fun σ a j y h ha hj hN => ?_, fun σ a b j h hj hN => ?_⟩
    · rw [j_AckBookModel_tick, if_pos rfl]
      by_cases h3 : j = 3
      · subst h3
        rw [if_pos (by decide)]
        rcases ha with rfl | ⟨e, he, rfl⟩
        · rw [if_pos (by decide)]
          exact ih.2 σ (-1) 0 0 h (by omega) (by omega)
        · rw [if_neg (nI_pos (by omega))]
          obtain ⟨m, g, W, q1, q2, q3⟩ := id h
          obtain ⟨σ1, W1, g1, p1, p2, p3, p4, p5, p6⟩ := s_losses (B := B) (X := X) (F := F) (τ := τ) (n := n) (c := c) (s := s) q1 hT hF q2 he
          simp only [ot_31, p1, z_cV]
          have e0 := p6 0
          have e1 := p6 1
          have e2 := p6 2
          simp only [Nat.mul_zero, Nat.mul_one, Nat.reduceMul] at e0 e1 e2
          exact ⟨_, _, rfl, ⟨m, g1, W1, p2, p3, by omega⟩, p5.x, p5.u⟩
      · rw [if_neg (by rw [e_l3, e_le (by omega) (by omega)]; omega)]
        have e1 := ih.1 σ a (j + 1) 0 h ha (by omega) (by omega)
        have e2 := ih.1 σ (nI j) (j + 1) 0 h (Or.inr ⟨j, by omega, rfl⟩) (by omega) (by omega)
        simp (disch := omega) only [or_31_13, oln_41, oi_31_1, nI_1]
        refine m_qI.ite (fun _ => e1) (fun _ => m_qI.ite (fun _ => e1) (fun _ => ?_))
        rcases ha with rfl | ⟨e, he, rfl⟩
        · rw [if_pos (by decide)]
          exact e2
        · rw [if_neg (nI_pos (by omega))]
          simp (disch := omega) only [oln_41]
          exact m_qI.ite (fun _ => e1) (fun _ => e2)
    · rw [j_AckBookModel_tick, if_neg (by decide)]
      by_cases h3 : j = 3
      · subst h3
        rw [if_pos (by decide)]
        simp only [oi_31_23, op_31_23]
        refine m_qI.ite (fun _ => m_qI.ite (fun _ => m_qI.w h 23 _ _ (by decide)) (fun _ => m_qI.w h 23 _ _ (by decide))) (fun _ => ⟨_, _, rfl, h, mX.refl σ, mU.refl σ⟩)
      · rw [if_neg (by rw [e_l3, e_le (by omega) (by omega)]; omega)]
        obtain ⟨m, g, W, q1, q2, q3⟩ := id h
        obtain ⟨v, hv⟩ := s_probeTime (B := B) (X := X) (τ := τ) (n := n) (c := c) (s := s) (q1.m hT) hF (show j < 3 by omega)
        have e1 := fun a b => ih.2 σ a b (j + 1) h (by omega) (by omega)
        simp (disch := omega) only [ot_31, hv, z_cI, oi_31_1, q_AckBookModel_tick_127, nI_1]
        (repeat' refine m_qI.ite (fun _ => ?_) (fun _ => ?_)) <;> exact e1 _ _
theorem u_tick (h : mM T σ) (hT : T ≤ 4096) (hF : 20000 ≤ F) : m_qI B X T τ n c s σ (f_AckBookModel_tick F X (some (B + 31)) (o_w B X τ σ n c s)) := by
  unfold f_AckBookModel_tick
  simp only [op_31_0, oi_31_1, op_31_1]
  exact m_qI.of ((u_tickJ (B := B) (X := X) (F := F) (τ := τ) (n := n) (c := c) (s := s) hF hT F).1 _ (-1) 0 0 ((h.w (by decide)).w (by decide)) (Or.inl rfl) (by omega) (by omega)) ((mX.I (by omega)).trans (mX.I (by omega))) ((mU.I (by simp)).trans (mU.I (by simp)))
def m_a (B X T : Nat) (τ : zK) (n c s : Nat) (σ : zS) (r : zR) : Prop := ∃ v σ', r = some (.inl (some (.int v)), o_w B X τ σ' n c s) ∧ mM T σ' ∧ mX σ σ' ∧ σ'.1 31 27 = 0 ∧ (∀ j, σ'.1 32 j = σ.1 32 j) ∧ (∀ j, σ'.1 39 j = σ.1 39 j) ∧ ∀ i, σ'.2.1 45 i = σ.2.1 45 i
theorem m_a.ite {p : Prop} [Decidable p] {a b : zR} (h1 : p → m_a B X T τ n c s σ a) (h2 : ¬ p → m_a B X T τ n c s σ b) : m_a B X T τ n c s σ (if p then a else b) := by
  split
  · exact h1 (by assumption)
  · exact h2 (by assumption)
theorem m_a.fin {σ1 : zS} (h : mM T σ1) (hX : mX σ σ1) (hU : mU σ σ1) (v : Int32) : m_a B X T τ n c s σ (some (.inl (some (.int v)), o_w B X τ (o_I σ1 31 27 0) n c s)) :=
  ⟨v, _, rfl, h.c (q := 0) (by decide) (fun q => absurd q (Nat.lt_irrefl _)), hX.trans (mX.I (by omega)), by simp [i11], fun j => by rw [i11, if_neg (by omega)]; exact hU.1 j, fun j => by rw [i11, if_neg (by omega)]; exact hU.2.1 j, hU.2.2.2⟩
theorem u_ack (h : mM T σ) (hT : T ≤ 4096) (hF : 20000 ≤ F) (x y : Int32) : m_a B X T τ n c s σ (f_AckBookModel_acknowledge F X (some (B + 31)) x y (o_w B X τ σ n c s)) := by
  have w0 : ∀ (σ1 : zS) (f : Nat) (z : Int32), mM T σ1 ∧ mX σ σ1 ∧ mU σ σ1 → f ≠ 27 ∧ f ≠ 24 → mM T (o_I σ1 31 f z) ∧ mX σ (o_I σ1 31 f z) ∧ mU σ (o_I σ1 31 f z) := fun σ1 f z q hf => ⟨q.1.w hf, q.2.1.trans (mX.I (by omega)), q.2.2.trans (mU.I ⟨by decide, by decide, fun _ => hf.1⟩)⟩
  have h71 : ∀ σ1, mM T σ1 ∧ mX σ σ1 ∧ mU σ σ1 → m_a B X T τ n c s σ (q_AckBookModel_acknowledge_71 F X (some (B + 31)) x y (some (B + 31)) (o_w B X τ σ1 n c s)) := by
    intro σ1 q
    simp only [q_AckBookModel_acknowledge_71, q_AckBookModel_acknowledge_76, ot_31, s_fails 1 1 (Or.inr rfl), z_cI, op_31_27]
    rw [if_neg (by decide), if_neg (by decide)]
    have q2 := w0 σ1 0 1 q (by decide)
    exact m_a.fin q2.1 q2.2.1 q2.2.2 _
  have h22 : ∀ w : Int32, (w = 0 → 0 < (σ.1 31 27).toNatClampNeg) → m_a B X T τ n c s σ (q_AckBookModel_acknowledge_22 F X (some (B + 31)) x y w (o_w B X τ σ n c s)) := by
    intro w hw
    unfold q_AckBookModel_acknowledge_22
    simp only [s_noSpace, z_cI, ot_31]
    have base : mM T σ ∧ mX σ σ ∧ mU σ σ := ⟨h, mX.refl σ, mU.refl σ⟩
    rcases e_sp x with hx | ⟨k, hk, rfl⟩
    · simp only [if_pos hx, s_fails 1 1 (Or.inr rfl), z_cI, op_31_27]
      rw [if_neg (by decide), if_neg (by decide)]
      have q2 := w0 σ 0 1 base (by decide)
      exact m_a.fin q2.1 q2.2.1 q2.2.2 _
    · have q1 := w0 σ 0 0 base (by decide)
      have hd := q1.1.d hk
      simp (disch := omega) only [if_neg (e_spk hk), s_fails 0 1 (Or.inl rfl), z_cI, if_true, or_31_11, oln_39, ot_31, s_fails _ 2 hd]
      have q2 := w0 (o_I σ 31 0 0) 0 (if (o_I σ 31 0 0).1 39 k = 0 then 0 else 2) q1 (by decide)
      have e27 : (o_I (o_I σ 31 0 0) 31 0 (if (o_I σ 31 0 0).1 39 k = 0 then 0 else 2)).1 31 27 = σ.1 31 27 := by simp [i11]
      generalize o_I (o_I σ 31 0 0) 31 0 (if (o_I σ 31 0 0).1 39 k = 0 then 0 else 2) = σ2 at q2 e27
      simp only [op_31_27]
      refine m_a.ite (fun _ => m_a.ite (fun hw0 => ?_) (fun _ => h71 σ2 q2)) (fun _ => m_a.fin q2.1 q2.2.1 q2.2.2 _)
      obtain ⟨m, g, W, p1, p2, p3⟩ := id q2.1
      have hA := p1.1 k hk
      have e0 : ∀ K : Int64 → zR, z_ldL (o_w B X τ σ2 n c s) (some (B + 46)) 0 K = K (σ2.2.1 46 0) := fun K => oln_46 (i := 0) (by decide) K
      simp (disch := omega) only [or_31_29, e0, or_31_4, oln_32, hA.1, nI_l, lg_cmp_lt]
      refine m_a.ite (fun hlt => ?_) (fun _ => h71 σ2 q2)
      simp only [q_AckBookModel_acknowledge_76, ot_31, s_fails 0 1 (Or.inl rfl), z_cI, if_true]
      have q3 := w0 σ2 0 0 q2 (by decide)
      obtain ⟨sp, hs1, hs2, hs3⟩ := q2.1.sp
      have hsp : 0 < sp := by
        have h9 := hw hw0
        rw [← e27, hs1, nI_clamp (by omega)] at h9
        exact h9
      obtain ⟨e, he, he2⟩ := l_of (hs3 hsp) hlt (by omega)
      obtain ⟨m', g', W', r1, r2, r3⟩ := id q3.1
      have hmk := (r1.1 k hk)
      have hA2 : m' k = m k := by
        have a1 : (o_I σ2 31 0 0).1 32 k = nI (m k) := by rw [i11, if_neg (by omega)]; exact hA.1
        exact (nI_eq (by omega) (by omega)).mp (hmk.1.symm.trans a1)
      have htk : m_okI B X T τ n c s m' (o_I σ2 31 0 0) (f_AckBookModel_takes F X (some (B + 31)) (nI k) y (o_w B X τ (o_I σ2 31 0 0) n c s)) := by
        unfold f_AckBookModel_takes
        have e0 : ∀ K : Int64 → zR, z_ldL (o_w B X τ (o_I σ2 31 0 0) n c s) (some (B + 46)) 0 K = K (lN e) := fun K => by
          rw [← he]; exact oln_46 (i := 0) (by decide) K
        simp (disch := omega) only [or_31_29, e0, or_31_12, oln_40, lN_i, s_greater, z_cI, osn_40]
        refine m_okI.trans ((s_takesJ (B := B) (X := X) (F := F) (τ := τ) (n := n) (c := c) (s := s) (m := m') hT hF hk (show e < 4096 by omega) y F).1 _ g' W' 0 0 0 (r1.p ?_) (by simpa [mW, i11] using r2) r3 (Nat.zero_le _) (by omega)) (mK.I (by omega))
        split
        · exact Or.inr ⟨e, rfl, by omega⟩
        · exact r1.2.2.2.2.2.1 k hk
      obtain ⟨σ4, W4, g4, v4, t1, t2, t3, t4, t5⟩ := htk
      simp only [t1, z_cI, op_31_27]
      exact m_a.fin ⟨m', g4, W4, t2, t3, t4⟩ (q3.2.1.trans t5.x) (q3.2.2.trans t5.u) _
  unfold f_AckBookModel_acknowledge
  simp only [q_AckBookModel_acknowledge_17, oi_31_27]
  refine m_a.ite (fun _ => h22 1 (fun q => absurd q (by decide))) (fun _ => m_a.ite (fun _ => h22 1 (fun q => absurd q (by decide))) (fun _ => m_a.ite (fun _ => h22 1 (fun q => absurd q (by decide))) (fun hne => h22 0 (fun _ => ?_))))
  obtain ⟨sp, hs1, hs2, hs3⟩ := h.sp
  rw [hs1] at hne ⊢
  rw [nI_clamp (by omega)]
  rcases Nat.eq_zero_or_pos sp with q | q
  · subst q
    exact absurd rfl hne
  · exact q
end PM9
