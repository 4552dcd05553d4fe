/-! discard, all alike. -/
section LF
variable {B X F : Nat} {τ τ1 : zK} {n c s n1 c1 s1 T : Nat} {σ σ1 σ2 σ3 : zS}
section LF1
variable {P : Nat → Nat} {m : Nat} {D : Nat → Nat → Int32} {ft : Nat → Int32} {q q' : Nat → List Nat} {S : Nat → Int32} {k b : Nat} {lt ga ds : Int32}
theorem d_forgetX (hk : k < 3) {v0 : Int32} {x0 : Int32 × Int32 × Int32} : ∀ (N i : Nat) (σ : zS), cS τ σ k P m D ft q S → i ≤ m → σ.1 30 0 = v0 - sm (cz D) ft i → fq σ = x0 → pW B X τ n c s (j_AckBook_Sent_forget F X N (some (B + (3 + 8 * k))) (some (B + 30)) (nI i) (o_w B X τ σ n c s)) (fun _ σ' => cH k P m σ σ' ∧ ∃ S', cS τ σ' k P m D ft (fun _ => []) S' ∧ S' 6 = -1 ∧ S' 7 = -1 ∧ S' 4 = 0 ∧ S' 5 = S 5 ∧ σ'.1 30 0 = v0 - sm (cz D) ft m ∧ fq σ' = x0) := by
  intro N
  induction N with
  | zero => exact fun _ _ _ _ _ _ => pW.none
  | succ N ih =>
    intro i σ hS hi hv hx
    have hm := hS.1.1.1.2
    rw [j_AckBook_Sent_forget]
    simp (disch := omega) only [or_s3_2 hk, ot_s6 hk, c_size hk, y_cI, hS.1.1.1.1, e_le]
    refine pW.ite (fun hge => ?_) (fun hlt => ?_)
    · obtain rfl : i = m := by omega
      have cl : ∀ (σ : zS) (K : zW → zR), z_put (o_w B X τ σ n c s) 3 0 (some (B + (4 + 8 * k))) (va_rf none) K = K (o_w B X τ (o_R σ (4 + 8 * k) 0 none) n c s) := fun σ K => opr_s4_0 hk none K
      have cl2 : ∀ (σ : zS) (K : zW → zR), z_put (o_w B X τ σ n c s) 3 0 (some (B + (5 + 8 * k))) (va_rf none) K = K (o_w B X τ (o_R σ (5 + 8 * k) 0 none) n c s) := fun σ K => opr_s5_0 hk none K
      simp only [op_s3_3 hk, op_s3_4 hk, op_s3_6 hk, op_s3_7 hk, or_s3_0 hk, or_s3_1 hk, ot_s4 hk, ot_s5 hk, f_AckBook_Chain_clear, cl, cl2, y_cV]
      have h4 := (((hS.sent hk (f := 3) (by omega) 0).sent hk (f := 4) (by omega) 0).sent hk (f := 6) (by omega) (-1)).sent hk (f := 7) (by omega) (-1)
      refine pW.ret ⟨((((cH.I.trans cH.I).trans cH.I).trans cH.I).trans (cH.R (Or.inl rfl))).trans (cH.R (Or.inr rfl)), _, h4.clear hk, rfl, rfl, rfl, rfl, ?_, ?_⟩
      · show (o_I (o_I (o_I (o_I σ (3 + 8 * k) 3 0) (3 + 8 * k) 4 0) (3 + 8 * k) 6 (-1)) (3 + 8 * k) 7 (-1)).1 30 0 = _
        rw [i11, if_neg (by omega), i11, if_neg (by omega), i11, if_neg (by omega), i11, if_neg (by omega)]
        exact hv
      · rw [← hx]
        refine fq.cong (fun f _ => ?_)
        show (o_I (o_I (o_I (o_I σ (3 + 8 * k) 3 0) (3 + 8 * k) 4 0) (3 + 8 * k) 6 (-1)) (3 + 8 * k) 7 (-1)).1 30 f = _
        rw [i11, if_neg (by omega), i11, if_neg (by omega), i11, if_neg (by omega), i11, if_neg (by omega)]
    · have hlt : i < m := by omega
      have hpk := (hS.1.2.2 i hlt).1.1
      have f6 := (hS.1.2.2 i hlt).2.2.1
      simp only [d_get hS.1.1 hk hlt, y_cRs, d_cast hpk, d_gI hpk 6 (by omega), f6, ot_30, nI_1, nI_add]
      have sms : sm (cz D) ft (i + 1) = sm (cz D) ft i + (if ft i = 0 then cz D i else 0) := rfl
      refine pW.ite (fun w => ?_) (fun w => ih (i + 1) σ hS (by omega) (by rw [sms, if_neg w, Int32.add_zero]; exact hv) hx)
      obtain ⟨σ1, e1, hG, q1, v1⟩ := d_leaveX (B := B) (X := X) (F := F) (n := n) (c := c) (s := s) hS.1.2.2 hlt
      rw [e1]
      refine (ih (i + 1) σ1 (hG.cs hk hS) (by omega) (by rw [v1, hv, sms, if_pos w, Int32.sub_sub]) (q1.trans hx)).mono fun v σ' hq => ?_
      exact ⟨hG.h.trans hq.1, hq.2⟩
end LF1
variable {P : Nat → Nat → Nat} {m : Nat → Nat} {D : Nat → Nat → Nat → Int32} {ft : Nat → Nat → Int32} {q : Nat → Nat → List Nat} {S : Nat → Nat → Int32} {t p : Nat} {a : Nat → Nat → Nat} {W ds ga : Nat → Int32} {L H : Nat → Int64} {k b : Nat} {x y z : Int32}
theorem c_disAX (h : sP τ σ P m D ft q S t W p L H ds) (hu : uP T P m D S t a W p L H ds ga) (hk : k < 3) (hd : ds k = 0) : pW B X τ n c s (f_AckBook_discard F X (some (B + 0)) (nI k) (o_w B X τ σ n c s)) (fun _ σ' => ∃ S', sP τ σ' P m D ft (uk q k (fun _ => [])) (uk S k S') t W p L H (uk ds k 1) ∧ S' 6 = -1 ∧ S' 7 = -1 ∧ S' 4 = 0 ∧ S' 5 = S k 5 ∧ σ'.1 30 0 = σ.1 30 0 - sm (cz (D k)) (ft k) (m k) ∧ fq σ' = fq σ ∧ σ'.1 0 5 = 0 ∧ ∀ f, 6 ≤ f → f ≤ 8 → σ'.1 0 f = σ.1 0 f) := by
  unfold f_AckBook_discard
  simp only [ot_0, c_known hk, y_cRs, f_AckBook_refuseDiscarded, oi_s2_3 hk]
  rw [if_pos ((h.2.1 k hk).2.trans hd)]
  simp only [y_cV, oz1_s2_3 hk, or_s2_1 hk, or_0_3, ot_s3 hk]
  have hm := h.mark hk
  have hF : pW B X τ n c s (f_AckBook_Sent_forget F X (some (B + (3 + 8 * k))) (some (B + 30)) (o_w B X τ (o_I σ (2 + 8 * k) 3 1) n c s)) _ := d_forgetX (B := B) (X := X) (F := F) (n := n) (c := c) (s := s) (v0 := σ.1 30 0) (x0 := fq σ) hk F 0 _ (hm.2.1 k hk).1 (Nat.zero_le _) (by rw [i11, if_neg (by omega)]; exact (Int32.sub_zero _).symm) (fq.cong (fun f _ => by rw [i11, if_neg (by omega)]))
  refine pW.cV hF fun σ2 hq => ?_
  obtain ⟨hH, S', hS, s6, s7, s4, s5, sv, sx⟩ := hq
  simp only [or_s2_2 hk, ot_s7 hk, f_AckBook_Arrivals_forget, op_s7_2 hk, opl_s7_3 hk, op_s7_4 hk, oz0_s7_6 hk, op_0_5, y_cV]
  have hy : yK k σ2 (o_I (o_I (o_L (o_I σ2 (7 + 8 * k) 2 0) (7 + 8 * k) 3 0) (7 + 8 * k) 4 0) (7 + 8 * k) 6 0) := ((yK.I.trans (yK.L (by omega))).trans yK.I).trans yK.I
  have h56 : ∀ i, i < m k → 56 ≤ P k i := fun i hi => ((h.2.1 k hk).1.1.2.2 i hi).1.1.1
  have ho := hm.one (p' := 0) (d' := 0) hk (fun k' i j h1 h2 h3 h4 => hu.2.2 k' k i j h1 hk h2 h3 h4) hH.u hS (fun f hf => by rw [(hH.2 29 (by omega) (by omega) (by omega) (by omega) (fun i hi => by have := h56 i hi; omega)).1]; exact hm.2.2.1 f hf)
  rw [uk_id] at ho
  have n30 : ∀ f, (o_I (o_I (o_I (o_L (o_I σ2 (7 + 8 * k) 2 0) (7 + 8 * k) 3 0) (7 + 8 * k) 4 0) (7 + 8 * k) 6 0) 0 5 0).1 30 f = σ2.1 30 f := fun f => by rw [i11, if_neg (by omega), (hy.2 30 (by omega) (by omega) (by omega)).1]
  refine pW.ret ⟨S', ho.keep ((hy.sc hk).trans (sC.book (by decide))), s6, s7, s4, s5, (n30 0).trans sv, (fq.cong (fun f _ => n30 f)).trans sx, by rw [i11, if_pos ⟨rfl, rfl⟩], fun f f1 f2 => ?_⟩
  rw [i11, if_neg (by omega), (hy.2 0 (by omega) (by omega) (by omega)).1, (hH.2 0 (by omega) (by omega) (by omega) (by omega) (fun i hi => by have := h56 i hi; omega)).1, i11, if_neg (by omega)]
theorem m_disAX (h : rP σ m D ft q S t W p L H ds ga) (hk : k < 3) (hd : ds k = 0) : ∃ σF, f_AckBookModel_discard F X (some (B + 31)) (nI k) (o_w B X τ σ n c s) = some (.inl none, o_w B X τ σF n c s) ∧ (∀ S', S' 7 = -1 → rP σF m D ft (uk q k (fun _ => [])) (uk S k S') t W p L H (uk ds k 1) ga) ∧ σF.1 31 0 = 0 ∧ σF.1 31 23 = 0 ∧ ∀ f, f ≠ 0 → f ≠ 23 → σF.1 31 f = σ.1 31 f := by
  obtain ⟨r1, r2, r3, r4, r5⟩ := h
  have h39 : σ.1 39 k = 0 := (r2 k hk).1.2.2.trans hd
  unfold f_AckBookModel_discard
  have hd1 : (o_I σ 31 0 0).1 39 k = 0 := by rw [i11, if_neg (by omega)]; exact h39
  simp (disch := omega) only [s_noSpace, z_cI, ot_31, if_neg (e_spk hk), s_fails 0 1 (Or.inl rfl), if_true, or_31_11, oln_39, hd1, s_fails 0 2 (Or.inl rfl), osz1_39, or_31_13, osn_41, or_31_17, or_31_16, e_m2, oln_43, osn_44, nI_1, or_31_30, osn_47, or_31_33, osn_50, or_31_35, osn_52, or_31_37, osz0_54, op_31_23]
  refine ⟨_, rfl, fun S' s7 => ?_, by simp [i11, l11], by simp [i11, l11], fun f z1 z2 => by simp [i11, l11, z1, z2]⟩
  have e43 : ∀ l, (o_I (o_I (o_I (o_I σ 31 0 0) 31 0 0) 39 k 1) 41 k (-1)).1 43 l = σ.1 43 l := fun l => by simp [i11]
  have e43' : ∀ l v, (o_I (o_I (o_I (o_I (o_I σ 31 0 0) 31 0 0) 39 k 1) 41 k (-1)) 44 (2 * k) v).1 43 l = σ.1 43 l := fun l v => by simp [i11]
  simp only [e43, e43']
  generalize hσ : (o_I (o_I (o_I (o_L (o_I (o_I (o_I (o_I (o_I (o_I (o_I σ 31 0 0) 31 0 0) 39 k 1) 41 k (-1)) 44 (2 * k) (σ.1 43 (2 * k))) 44 (2 * k + 1) (σ.1 43 (2 * k + 1))) 47 k 0) 50 k 0) 52 k 0) 54 k 0) 31 23 0) = σF
  have p1 : ∀ o f, o < 47 → o ≠ 39 → o ≠ 41 → o ≠ 44 → ¬ (o = 31 ∧ (f = 0 ∨ f = 23)) → σF.1 o f = σ.1 o f := fun o f w1 w2 w3 w4 w5 => by
    subst hσ
    simp only [i11, l11]
    rw [if_neg (by omega), if_neg (by omega), if_neg (by omega), if_neg (by omega), if_neg (by omega), if_neg (by omega), if_neg (by omega), if_neg (by omega), if_neg (by omega), if_neg (by omega)]
  have p2 : ∀ f, σF.1 39 f = if f = k then 1 else σ.1 39 f := fun f => by subst hσ; simp [i11, l11]
  have p3 : ∀ f, σF.1 41 f = if f = k then -1 else σ.1 41 f := fun f => by subst hσ; simp [i11, l11]
  have p4 : ∀ f, σF.1 44 f = if f = 2 * k + 1 then σ.1 43 (2 * k + 1) else if f = 2 * k then σ.1 43 (2 * k) else σ.1 44 f := fun f => by subst hσ; simp [i11, l11]
  have p5 : ∀ o, o < 50 → σF.2.1 o = σ.2.1 o := fun o ho => by
    subst hσ
    exact funext fun f => by simp only [i12, l12]; rw [if_neg (by omega)]
  clear hσ
  refine ⟨(p1 31 1 (by omega) (by omega) (by omega) (by omega) (by omega)).trans r1, fun k' hk' => ?_, fun f hf => (p1 31 _ (by omega) (by omega) (by omega) (by omega) (by omega)).trans (r3 f hf), (p1 31 27 (by omega) (by omega) (by omega) (by omega) (by omega)).trans r4, fun j hj => by rw [p5 45 (by omega), p5 46 (by omega)]; exact r5 j hj⟩
  obtain ⟨⟨a1, a2, a3⟩, b, d, f1, f2⟩ := r2 k' hk'
  have e : ∀ o f, 32 ≤ o → o < 45 → o ≠ 39 → o ≠ 41 → o ≠ 44 → σF.1 o f = σ.1 o f := fun o f w1 w2 w3 w4 w5 => p1 o f (by omega) w3 w4 w5 (by omega)
  by_cases ek : k' = k
  · subst ek
    rw [uk_at, uk_at, uk_at, s7]
    refine ⟨⟨(e 32 _ (by omega) (by omega) (by omega) (by omega) (by omega)).trans a1, a2, by rw [p2, if_pos rfl]⟩, fun i hi => ?_, fun b' hb' => ?_, by rw [p3, if_pos rfl], (e 40 _ (by omega) (by omega) (by omega) (by omega) (by omega)).trans f2⟩
    · rw [e 33 _ (by omega) (by omega) (by omega) (by omega) (by omega), e 34 _ (by omega) (by omega) (by omega) (by omega) (by omega), e 36 _ (by omega) (by omega) (by omega) (by omega) (by omega), e 37 _ (by omega) (by omega) (by omega) (by omega) (by omega), e 38 _ (by omega) (by omega) (by omega) (by omega) (by omega), e 35 _ (by omega) (by omega) (by omega) (by omega) (by omega)]
      exact b i hi
    · obtain ⟨h', t', ⟨g1, g2⟩, g3, g4, g5⟩ := d b' hb'
      refine ⟨t', t', ⟨?_, (e 43 _ (by omega) (by omega) (by omega) (by omega) (by omega)).trans g2⟩, rfl, g4, fun j x hx => by simp at hx⟩
      rw [p4]
      rcases (by omega : b' = 0 ∨ b' = 1) with rfl | rfl
      · rw [if_neg (by omega), if_pos (by omega)]
        exact g2
      · rw [if_pos rfl]
        exact g2
  · rw [uk_ne _ _ ek, uk_ne _ _ ek, uk_ne _ _ ek]
    refine ⟨⟨(e 32 _ (by omega) (by omega) (by omega) (by omega) (by omega)).trans a1, a2, by rw [p2, if_neg ek]; exact a3⟩, fun i hi => ?_, fun b' hb' => ?_, by rw [p3, if_neg ek]; exact f1, (e 40 _ (by omega) (by omega) (by omega) (by omega) (by omega)).trans f2⟩
    · rw [e 33 _ (by omega) (by omega) (by omega) (by omega) (by omega), e 34 _ (by omega) (by omega) (by omega) (by omega) (by omega), e 36 _ (by omega) (by omega) (by omega) (by omega) (by omega), e 37 _ (by omega) (by omega) (by omega) (by omega) (by omega), e 38 _ (by omega) (by omega) (by omega) (by omega) (by omega), e 35 _ (by omega) (by omega) (by omega) (by omega) (by omega)]
      exact b i hi
    · exact (d b' hb').cong (by rw [p4, if_neg (by omega), if_neg (by omega)]) (e 43 _ (by omega) (by omega) (by omega) (by omega) (by omega)) (fun f => e 42 _ (by omega) (by omega) (by omega) (by omega) (by omega))
/-- one space less -/
theorem fA_dis (hk : k < 3) (hd : ds k = 0) : fA m D ft (uk ds k 1) = fA m D ft ds - sm (cz (D k)) (ft k) (m k) := by
  have h1 : fA m D ft ds = fA m D ft (uk ds k 1) + sm (cz (D k)) (ft k) (m k) := by
    unfold fA
    refine rS_add hk (fun j hj hne => ?_) ?_
    · show pS (cz (D j)) (ft j) (ds j) (m j) = pS (cz (D j)) (ft j) (uk ds k 1 j) (m j)
      rw [uk_ne _ _ hne]
    · show pS (cz (D k)) (ft k) (ds k) (m k) = pS (cz (D k)) (ft k) (uk ds k 1 k) (m k) + _
      unfold pS
      rw [uk_at, if_pos hd, if_neg (by decide), Int32.zero_add]
  rw [h1, Int32.add_sub_cancel]
theorem kE.discard {v : Int32} {o2 : zO} (h : kE T τ σ) (hX : X < B) (hn : 56 ≤ n) (hn1 : 56 ≤ n1) (hN : ∀ o, n ≤ o → τ o = none) (hE : xE σ σ1) (e1 : f_AckBookLaw_discard F X (some (B + 0)) x (o_w B X τ σ n c s) = some (.inl (some (.int v)), o_w B X τ1 σ1 n1 c1 s1)) (hX2 : mX σ1 σ2) (e2 : f_AckBookModel_discard F X (some (B + 31)) x (o_w B X τ1 σ1 n1 c1 s1) = some (o2, o_w B X τ1 σ2 n1 c1 s1)) : kE (T + 1) τ1 σ2 := by
  obtain ⟨P, m, D, ft, q, S, t, a, W, p, L, H, ds, ga, k1, k2, k3, k4⟩ := id h
  have k2' := k2.xe hE k3.1.2.1
  unfold f_AckBookLaw_discard at e1
  rw [ot_0] at e1
  rcases e_sp x with hx | ⟨k, hk, rfl⟩
  · have q : f_AckBook_discard F X (some (B + 0)) x (o_w B X τ σ n c s) = z_thr (o_w B X τ σ n c s) 11 := by
      unfold f_AckBook_discard
      rw [ot_0, c_knownB hx, z_thr_cR]
    rw [q] at e1
    obtain ⟨-, q1⟩ := x_th2V (u := 1) hX hn hN e1 (fun w => rfl)
    rw [u_disB x hx] at e2
    exact h.ref q1 hE hX2 (z0.put 1).1 rfl (x_er2 hn1 e2).2
  · by_cases hd : ds k = 0
    · obtain ⟨-, u, σE, ⟨S', z1, z2, z3, s4, s5, sv, sx, e05, e68⟩, z4⟩ := x_ok2V hX hn hN (c_disAX (B := B) (X := X) (F := F) (n := n) (c := c) (s := s) k1 k3 hk hd) e1
      obtain ⟨σF, g1, g2, -, g23, gr⟩ := m_disAX (B := B) (X := X) (F := F) (τ := τ1) (n := n1) (c := c1) (s := s1) k2' hk hd
      rw [g1] at e2
      have w2 := (x_er2 hn1 e2).2
      have hQ : eQ (T + 1) σE σF m D ft (uk S k S') W (uk ds k 1) := by
        obtain ⟨⟨a1, a2, a3, a4⟩, ⟨b1, b2, b3, ⟨z, y1, y2⟩, b5, b6⟩, d1, d2⟩ := k4
        have r31 : ∀ f, (f = 2 ∨ f = 3 ∨ f = 14 ∨ (24 ≤ f ∧ f ≤ 26)) → σF.1 31 f = σ.1 31 f := fun f hf => by rw [gr f (by omega) (by omega), hE.rd f (by omega)]
        have qA : mq σF = mq σ := by
          unfold mq
          rw [r31 24 (by omega), r31 25 (by omega), r31 26 (by omega)]
        refine ⟨⟨by rw [sx, qA]; exact a1, by rw [sv, a2, fA_dis hk hd], by rw [sx]; exact a3, by rw [sx]; exact a4⟩, ⟨by rw [e05, g23], ⟨0, by omega, e05⟩, by rw [e68 6 (by omega) (by omega), r31 14 (by omega)]; exact b3, ⟨z, by omega, by rw [e68 6 (by omega) (by omega)]; exact y2⟩, by rw [e68 7 (by omega) (by omega), r31 2 (by omega)]; exact b5, by rw [e68 8 (by omega) (by omega), r31 3 (by omega)]; exact b6⟩, fun k' hk' => ?_, d2⟩
        by_cases ek : k' = k
        · subst ek
          rw [uk_at, uk_at]
          exact ⟨by unfold pS; rw [if_neg (by decide)]; exact s4, s5.trans (d1 k' hk').2⟩
        · rw [uk_ne _ _ ek, uk_ne _ _ ek]
          exact d1 k' hk'
      exact ⟨P, m, D, ft, _, _, t, a, W, p, L, H, _, ga, z1.keep (z4.1.trans hX2.sc), (g2 S' z3).rc w2.1, k3.dis hk z2 z3, hQ.to (Nat.le_refl _) (z4.2.trans hX2.fb) w2.2⟩
    · have hd1 : ds k = 1 := ((k3.2.1 k hk).2.2.2.2).resolve_left hd
      have q : f_AckBook_discard F X (some (B + 0)) (nI k) (o_w B X τ σ n c s) = z_thr (o_w B X τ σ n c s) 12 := by
        unfold f_AckBook_discard
        simp only [ot_0, c_known hk, y_cRs, f_AckBook_refuseDiscarded, oi_s2_3 hk]
        rw [if_neg (by rw [(k1.2.1 k hk).2]; exact hd), z_thr_cV]
      rw [q] at e1
      obtain ⟨-, q1⟩ := x_th2V (u := 2) hX hn hN e1 (fun w => rfl)
      rw [u_disD hk ((k2'.2.1 k hk).1.2.2.trans hd1)] at e2
      exact h.ref q1 hE hX2 ((z0.put 0).step (v := 2)).1 rfl (x_er2 hn1 e2).2
end LF
