section CR
variable {B X F : Nat} {τ : zK} {n c s T : Nat} {σ : zS}
theorem e_l12 (a h : Int64) (ha : 0 ≤ a.toInt) : h < a - 1 ↔ h ≤ a - 2 := by
  have h1 : (1 : Int64).toInt = 1 := by decide
  have h2 : (2 : Int64).toInt = 2 := by decide
  have h3 := a.toInt_lt
  rw [Int64.lt_iff_toInt_lt, Int64.le_iff_toInt_le, Int64.toInt_sub, Int64.toInt_sub, h1, h2, Int.bmod_eq_of_le (by omega) (by omega), Int.bmod_eq_of_le (by omega) (by omega)]
  omega
theorem x_discard (hS : kS T τ σ n c s) (hT : T < 512) (hF : 100000000 ≤ F) (x : Int32) : ∃ v τ1 σ1 n1 c1 s1 σ2, f_AckBookLaw_discard F X (some (B + 0)) x (o_w B X τ σ n c s) = some (.inl (some (.int v)), o_w B X τ1 σ1 n1 c1 s1) ∧ f_AckBookModel_discard F X (some (B + 31)) x (o_w B X τ1 σ1 n1 c1 s1) = some (.inl none, o_w B X τ1 σ2 n1 c1 s1) ∧ kS (T + 1) τ1 σ2 n1 c1 s1 ∧ σ2.1 31 0 = v := by
  unfold f_AckBookLaw_discard
  simp only [ot_0]
  rcases e_sp x with hx | ⟨k, hk, rfl⟩
  · obtain ⟨v, τ1, σ1, n1, c1, s1, e1, hI, hP⟩ := w_tV (k_disB (B := B) (X := X) (F := F) hS.1 hT x hx) ec2 (fun o σ' q => Or.inr ⟨11, q.2.2⟩) (E := fun ci w => if ci = 11 then (some (.inl (some (.int (1 : Int32))), w)) else if ci = 12 then (some (.inl (some (.int (2 : Int32))), w)) else none) (fun ci w σ' q => by
      have := q.2.2
      injection this with this
      subst this
      rfl)
    rcases hP with ⟨q, -⟩ | ⟨ci, ⟨q1, q2, q3⟩, q4⟩
    · exact absurd q.2.2 (by simp)
    · injection q3 with q3
      subst q3
      refine ⟨v, τ1, σ1, n1, c1, s1, _, e1, u_disB x hx, k_t1 hS q1.e q2 hI _, ?_⟩
      rw [i11, if_pos ⟨rfl, rfl⟩, q4]
      rfl
  · have hdk := hS.2.2.2.1 k hk
    by_cases hz : σ.1 39 k = 0
    · obtain ⟨v, τ1, σ1, n1, c1, s1, e1, hI, hP⟩ := w_tV (k_disO (B := B) (X := X) (F := F) hS.1 hT hF hk (hdk.trans hz)) ec2 (fun o σ' q => Or.inl q.2.2) (E := fun ci w => if ci = 11 then (some (.inl (some (.int (1 : Int32))), w)) else if ci = 12 then (some (.inl (some (.int (2 : Int32))), w)) else none) (fun ci w σ' q => absurd q.2.2 (by simp))
      rcases hP with ⟨⟨q1, ⟨p1, p2, p3, p4⟩, q3⟩, q4⟩ | ⟨ci, q, -⟩
      · have hE := q1.e
        obtain ⟨σ2, m1, m2, m3, m4, m5, m6, m7, m8⟩ := u_disO (B := B) (X := X) (F := F) (τ := τ1) (n := n1) (c := c1) (s := s1) (hS.2.1.ag hE) (by omega) hk (by rw [(hE 39 (by omega) (by omega)).1]; exact hz)
        obtain ⟨r1, r2, r3, r4⟩ := hS.2.2
        refine ⟨v, τ1, _, n1, c1, s1, σ2, e1, m1, ⟨hI.m m3, m2.up (by omega), fun j hj => ?_, fun j hj => ?_, ?_, fun i => ?_⟩, by rw [m4, q4]⟩
        · rw [(m3 _ (by omega)).1, m5 j, (hE 32 (by omega) (by omega)).1]
          exact (p1 j hj).trans (r1 j hj)
        · rw [(m3 _ (by omega)).1, m6 j, (hE 39 (by omega) (by omega)).1, p2 j hj, r2 j hj]
        · rw [(m3 26 (by omega)).1, m7, (hE 31 (by omega) (by omega)).1]
          exact p3.trans r3
        · rw [(m3 27 (by omega)).2.1, m8, (hE 45 (by omega) (by omega)).2.1]
          exact (p4 i).trans (r4 i)
      · exact absurd q.2.2 (by simp)
    · have hz1 : σ.1 39 k = 1 := (hS.2.1.d hk).resolve_left hz
      obtain ⟨v, τ1, σ1, n1, c1, s1, e1, hI, hP⟩ := w_tV (k_disD (B := B) (X := X) (F := F) hS.1 hT hk (by rw [hdk]; exact hz)) ec2 (fun o σ' q => Or.inr ⟨12, q.2.2⟩) (E := fun ci w => if ci = 11 then (some (.inl (some (.int (1 : Int32))), w)) else if ci = 12 then (some (.inl (some (.int (2 : Int32))), w)) else none) (fun ci w σ' q => by
        have := q.2.2
        injection this with this
        subst this
        rfl)
      rcases hP with ⟨q, -⟩ | ⟨ci, ⟨q1, q2, q3⟩, q4⟩
      · exact absurd q.2.2 (by simp)
      · injection q3 with q3
        subst q3
        refine ⟨v, τ1, σ1, n1, c1, s1, _, e1, u_disD hk (by rw [(q1.e 39 (by omega) (by omega)).1]; exact hz1), k_t2 hS q1.e q2 hI _ _, ?_⟩
        rw [i11, if_pos ⟨rfl, rfl⟩, q4]
        rfl
theorem x_span (hS : kS T τ σ n c s) (hT : T < 512) (l h : Int64) : ∃ v τ1 σ1 n1 c1 s1 v2 σ2, f_AckBookLaw_span F X (some (B + 0)) l h (some (B + 55)) (o_w B X τ σ n c s) = some (.inl (some (.int v)), o_w B X τ1 σ1 n1 c1 s1) ∧ f_AckBookModel_span F X (some (B + 31)) l h (o_w B X τ1 σ1 n1 c1 s1) = some (.inl (some (.int v2)), o_w B X τ1 σ2 n1 c1 s1) ∧ kS (T + 1) τ1 σ2 n1 c1 s1 ∧ σ2.1 31 0 = v ∧ (v = 0 → σ2.2.1 55 0 = v2.toInt64) := by
  have hlow : ∀ i, i < 64 → 0 ≤ (σ.2.1 27 i).toInt := by
    obtain ⟨N, rk, R, hJ, -, -⟩ := hS.1
    exact hJ.2.2.2.1.2.2
  obtain ⟨p, hp, hp64⟩ : ∃ p, σ.1 26 2 = nI p ∧ p ≤ 64 := by
    obtain ⟨N, rk, R, hJ, -, -⟩ := hS.1
    exact hJ.2.2.2.1.1
  obtain ⟨r1, r2, r3, r4⟩ := id hS.2.2
  have hbb : ∀ σ1, xE σ σ1 → (k_sBad σ l h ↔ m_sBad σ1 l h) := fun σ1 hE => by
    unfold k_sBad m_sBad
    rw [(hE 31 (by omega) (by omega)).1, (hE 45 (by omega) (by omega)).2.1, ← r3]
    constructor
    · rintro (q | q | ⟨p, q1, q2, q3⟩)
      · exact Or.inl q
      · exact Or.inr (Or.inl q)
      · exact Or.inr (Or.inr ⟨p, q1, q2, fun z => q3 ((e_l12 _ _ (hlow p q2)).mpr (by rw [r4 p]; exact z))⟩)
    · rintro (q | q | ⟨p, q1, q2, q3⟩)
      · exact Or.inl q
      · exact Or.inr (Or.inl q)
      · exact Or.inr (Or.inr ⟨p, q1, q2, fun z => q3 (by rw [← r4 p]; exact (e_l12 _ _ (hlow p q2)).mp z)⟩)
  unfold f_AckBookLaw_span
  simp only [ot_0]
  by_cases hb : k_sBad σ l h
  · obtain ⟨v, τ1, σ1, n1, c1, s1, e1, hI, hP⟩ := w_tI (k_spanB (B := B) (X := X) (F := F) hS.1 hT l h hb) (fun v => v.toInt64) ec2 (fun o σ' q => Or.inr ⟨11, q.2.2⟩) (fun v τ σ n c s => o55 _ _) (K := fun v w => z_stL w (some (B + 55)) (0 : Int32) v.toInt64 fun w => some (.inl (some (.int (0 : Int32))), w)) (E := fun ci w => if ci = 11 then (some (.inl (some (.int (1 : Int32))), w)) else if ci = 12 then (some (.inl (some (.int (2 : Int32))), w)) else none) (fun ci w σ' q => by
      have := q.2.2
      injection this with this
      subst this
      rfl)
    rcases hP with ⟨u, σ0, q, -⟩ | ⟨ci, ⟨q1, q2, q3⟩, q4⟩
    · exact absurd q.2.2 (by simp)
    · injection q3 with q3
      subst q3
      refine ⟨v, τ1, σ1, n1, c1, s1, _, _, e1, u_spanB (hS.2.1.ag q1.e) l h ((hbb σ1 q1.e).mp hb), k_t1 hS q1.e q2 hI _, ?_, ?_⟩
      · rw [i11, if_pos ⟨rfl, rfl⟩, q4]
        rfl
      · rw [q4]
        exact fun q => absurd q (by decide)
  · obtain ⟨v, τ1, σ1, n1, c1, s1, e1, hI, hP⟩ := w_tI (k_spanG (B := B) (X := X) (F := F) hS.1 hT l h hb hp hp64) (fun v => v.toInt64) ec2 (fun o σ' q => by
      rcases q.2 with ⟨-, -, z⟩ | ⟨-, z, -⟩
      · exact Or.inr ⟨12, z⟩
      · exact Or.inl ⟨_, z⟩) (fun v τ σ n c s => o55 _ _) (K := fun v w => z_stL w (some (B + 55)) (0 : Int32) v.toInt64 fun w => some (.inl (some (.int (0 : Int32))), w)) (E := fun ci w => if ci = 11 then (some (.inl (some (.int (1 : Int32))), w)) else if ci = 12 then (some (.inl (some (.int (2 : Int32))), w)) else none) (fun ci w σ' q => by
      rcases q.2 with ⟨-, -, z⟩ | ⟨-, z, -⟩
      · injection z with z
        subst z
        rfl
      · cases z)
    rcases hP with ⟨u, σ0, ⟨q1, ⟨-, -, z⟩ | ⟨p1, p2, p3, p4, p5, p6⟩⟩, q4, q5⟩ | ⟨ci, ⟨q1, ⟨z1, z2, z3⟩ | ⟨-, z, -⟩⟩, q4⟩
    · cases z
    · injection p2 with p2
      injection p2 with p2
      injection p2 with p2
      subst q5
      have hE : xE σ (o_L σ0 55 0 u.toInt64) := q1.e.out _
      have hM1 := hS.2.1.ag hE
      have hnb : ¬ m_sBad (o_L σ0 55 0 u.toInt64) l h := fun q => hb ((hbb _ hE).mpr q)
      have hs1 : (o_L σ0 55 0 u.toInt64).1 31 27 = nI p := by rw [(hE 31 (by omega) (by omega)).1, ← r3]; exact hp
      have hu := u_spanG (B := B) (X := X) (F := F) (τ := τ1) (n := n1) (c := c1) (s := s1) hM1 l h hnb
      rw [u_span44 l h hs1 hp64, if_neg (by omega)] at hu
      have m3 : mX (o_L σ0 55 0 u.toInt64) (o_I (o_L (o_L (o_I (o_I (o_L σ0 55 0 u.toInt64) 31 0 0) 31 0 0) 45 p l) 46 p h) 31 27 (nI (p + 1))) := (((((mX.I (by omega)).trans (mX.I (by omega))).trans (mX.L (by omega))).trans (mX.L (by omega))).trans (mX.I (by omega)))
      refine ⟨v, τ1, _, n1, c1, s1, _, _, e1, hu, ⟨hI.m m3, (hM1.span hs1 p1 hnb).up (by omega), fun j hj => ?_, fun j hj => ?_, ?_, fun i => ?_⟩, ?_, fun _ => ?_⟩
      · rw [(m3 _ (by omega)).1]
        refine (p3 j hj).trans ((r1 j hj).trans ?_)
        rw [← (hE 32 (by omega) (by omega)).1]
        simp [i11, l11]
      · rw [(m3 _ (by omega)).1]
        refine (p4 j hj).trans ((r2 j hj).trans ?_)
        rw [← (hE 39 (by omega) (by omega)).1]
        simp [i11, l11]
      · rw [(m3 26 (by omega)).1]
        refine p5.trans ?_
        rw [i11, if_pos ⟨rfl, rfl⟩]
      · rw [(m3 27 (by omega)).2.1]
        refine (l55 _ 27 i (by decide)).trans ((p6 i).trans ?_)
        show _ = (o_L (o_L (o_I (o_I (o_L σ0 55 0 u.toInt64) 31 0 0) 31 0 0) 45 p l) 46 p h).2.1 45 i
        rw [l12, if_neg (show ¬ (45 = 46 ∧ i = p) from fun z => absurd z.1 (by decide)), l12]
        by_cases hi : i = p
        · rw [if_pos hi, if_pos ⟨rfl, hi⟩]
        · rw [if_neg hi, if_neg (fun z => hi z.2), r4 i, ← (hE 45 (by omega) (by omega)).2.1]
          rfl
      · rw [q4]
        simp [i11, l11]
      · rw [(m3 55 (by omega)).2.1, l550, p2]
    · injection z3 with z3
      subst z3
      have hE := q1.e
      have hM1 := hS.2.1.ag hE
      have hnb : ¬ m_sBad σ1 l h := fun q => hb ((hbb _ hE).mpr q)
      have hs1 : σ1.1 31 27 = nI p := by rw [(hE 31 (by omega) (by omega)).1, ← r3]; exact hp
      have hu := u_spanG (B := B) (X := X) (F := F) (τ := τ1) (n := n1) (c := c1) (s := s1) hM1 l h hnb
      rw [u_span44 l h hs1 hp64, if_pos z1] at hu
      refine ⟨v, τ1, σ1, n1, c1, s1, _, _, e1, hu, k_t2 hS hE z2 hI _ _, ?_, ?_⟩
      · rw [i11, if_pos ⟨rfl, rfl⟩, q4]
        rfl
      · rw [q4]
        exact fun q => absurd q (by decide)
    · cases z
end CR
