section CQ
variable {B X F : Nat} {τ : zK} {n c s T : Nat} {σ : zS}
theorem w_next (h : kI T τ σ n c s) (hT : T < 512) (x : Int32) (y : Int32) : w_c B X T (f_AckBookLaw_next F X (some (B + 0)) x y (some (B + 55)) (o_w B X τ σ n c s)) (fun _ σ' => xE σ σ' ∧ xU σ σ') := by
  unfold f_AckBookLaw_next
  rw [ot_0]
  refine (w_tI (k_next (F := F) h hT x y) (fun v => v.toInt64) (fun _ => 1) ?_ (fun v τ σ n c s => o55 _ _) ?_).mono ?_
  · rintro o σ' ⟨-, -, h | h⟩
    · exact Or.inl h
    · exact Or.inr ⟨11, h⟩
  · rintro ci w σ' ⟨-, -, ⟨v, h⟩ | h⟩
    · cases h
    · injection h with h
      rw [if_pos h]
  · rintro v σ' (⟨v, σ1, ⟨h1, h2, -⟩, -, rfl⟩ | ⟨ci, ⟨h1, h2, -⟩, -⟩)
    · exact ⟨h1.e.out _, h2.out _⟩
    · exact ⟨h1.e, h2⟩
theorem w_due (h : kI T τ σ n c s) (hT : T < 512) (x : Int32) : w_c B X T (f_AckBookLaw_due F X (some (B + 0)) x (some (B + 55)) (o_w B X τ σ n c s)) (fun _ σ' => xE σ σ' ∧ xU σ σ') := by
  unfold f_AckBookLaw_due
  rw [ot_0]
  refine (w_tI (k_due (F := F) h hT x) (fun v => if v = 0 then 0 else 1) (fun _ => 1) ?_ (fun v τ σ n c s => by by_cases hz : v = 0 <;> simp only [hz, if_true, if_false] <;> exact o55 _ _) ?_).mono ?_
  · rintro o σ' ⟨-, -, h | h⟩
    · exact Or.inl h
    · exact Or.inr ⟨11, h⟩
  · rintro ci w σ' ⟨-, -, ⟨v, h⟩ | h⟩
    · cases h
    · injection h with h
      rw [if_pos h]
  · rintro v σ' (⟨v, σ1, ⟨h1, h2, -⟩, -, rfl⟩ | ⟨ci, ⟨h1, h2, -⟩, -⟩)
    · exact ⟨h1.e.out _, h2.out _⟩
    · exact ⟨h1.e, h2⟩
theorem w_came (h : kI T τ σ n c s) (hT : T < 512) (hF : 100000000 ≤ F) (x : Int32) (y : Int64) (z : Int32) : w_c B X T (f_AckBookLaw_came F X (some (B + 0)) x y z (some (B + 55)) (o_w B X τ σ n c s)) (fun _ σ' => xE σ σ' ∧ xU σ σ') := by
  unfold f_AckBookLaw_came
  rw [ot_0]
  refine (w_tI (k_came (F := F) h hT hF x y z) (fun v => if v = 0 then 0 else 1) ec2 ?_ (fun v τ σ n c s => by by_cases hz : v = 0 <;> simp only [hz, if_true, if_false] <;> exact o55 _ _) ?_).mono ?_
  · rintro o σ' ⟨-, -, h | h | h⟩
    · exact Or.inl h
    · exact Or.inr ⟨11, h⟩
    · exact Or.inr ⟨12, h⟩
  · rintro ci w σ' ⟨-, -, ⟨v, h⟩ | h | h⟩
    · cases h
    · injection h with h
      subst h
      rfl
    · injection h with h
      subst h
      rfl
  · rintro v σ' (⟨v, σ1, ⟨h1, h2, -⟩, -, rfl⟩ | ⟨ci, ⟨h1, h2, -⟩, -⟩)
    · exact ⟨h1.e.out _, h2.out _⟩
    · exact ⟨h1.e, h2⟩
theorem w_written (h : kI T τ σ n c s) (hT : T < 512) (x : Int32) : w_c B X T (f_AckBookLaw_written F X (some (B + 0)) x (some (B + 55)) (o_w B X τ σ n c s)) (fun _ σ' => xE σ σ' ∧ xU σ σ') := by
  unfold f_AckBookLaw_written
  rw [ot_0]
  refine (w_tI (k_written (F := F) h hT x) (fun v => v.toInt64) ec2 ?_ (fun v τ σ n c s => o55 _ _) ?_).mono ?_
  · rintro o σ' ⟨-, -, h | h | h⟩
    · exact Or.inl h
    · exact Or.inr ⟨11, h⟩
    · exact Or.inr ⟨12, h⟩
  · rintro ci w σ' ⟨-, -, ⟨v, h⟩ | h | h⟩
    · cases h
    · injection h with h
      subst h
      rfl
    · injection h with h
      subst h
      rfl
  · rintro v σ' (⟨v, σ1, ⟨h1, h2, -⟩, -, rfl⟩ | ⟨ci, ⟨h1, h2, -⟩, -⟩)
    · exact ⟨h1.e.out _, h2.out _⟩
    · exact ⟨h1.e, h2⟩
theorem w_ack (h : kI T τ σ n c s) (hT : T < 512) (hF : 100000000 ≤ F) (x : Int32) (y : Int32) : w_c B X T (f_AckBookLaw_acknowledge F X (some (B + 0)) x y (some (B + 55)) (o_w B X τ σ n c s)) (fun _ σ' => xE σ σ' ∧ xA σ σ') := by
  unfold f_AckBookLaw_acknowledge
  rw [ot_0]
  refine (w_tI (k_ack (F := F) h hT hF x y) (fun v => v.toInt64) ec2 ?_ (fun v τ σ n c s => o55 _ _) ?_).mono ?_
  · rintro o σ' ⟨-, -, h | h | h⟩
    · exact Or.inl h
    · exact Or.inr ⟨11, h⟩
    · exact Or.inr ⟨12, h⟩
  · rintro ci w σ' ⟨-, -, ⟨v, h⟩ | h | h⟩
    · cases h
    · injection h with h
      subst h
      rfl
    · injection h with h
      subst h
      rfl
  · rintro v σ' (⟨v, σ1, ⟨h1, h2, -⟩, -, rfl⟩ | ⟨ci, ⟨h1, h2, -⟩, -⟩)
    · exact ⟨h1.e.out _, h2.out _⟩
    · exact ⟨h1.e, h2⟩
theorem w_look (h : kI T τ σ n c s) (hT : T < 512) (x : Int32) : w_c B X T (f_AckBookLaw_look F X (some (B + 0)) x (some (B + 55)) (o_w B X τ σ n c s)) (fun _ σ' => xE σ σ' ∧ xU σ σ') := by
  unfold f_AckBookLaw_look
  rw [ot_0]
  refine (w_tI (k_look (F := F) h hT x) (fun v => v.toInt64) (fun _ => 1) ?_ (fun v τ σ n c s => o55 _ _) ?_).mono ?_
  · rintro o σ' ⟨-, -, h | h⟩
    · exact Or.inl h
    · exact Or.inr ⟨13, h⟩
  · rintro ci w σ' ⟨-, -, ⟨v, h⟩ | h⟩
    · cases h
    · injection h with h
      rw [if_pos h]
  · rintro v σ' (⟨v, σ1, ⟨h1, h2, -⟩, -, rfl⟩ | ⟨ci, ⟨h1, h2, -⟩, -⟩)
    · exact ⟨h1.e.out _, h2.out _⟩
    · exact ⟨h1.e, h2⟩
theorem w_range (h : kI T τ σ n c s) (hT : T < 512) (x : Int32) (y : Int32) (z : Int32) : w_c B X T (f_AckBookLaw_range F X (some (B + 0)) x y z (some (B + 55)) (o_w B X τ σ n c s)) (fun _ σ' => xE σ σ' ∧ xU σ σ') := by
  unfold f_AckBookLaw_range
  rw [ot_0]
  refine (w_tL (k_range (F := F) h hT x y z) (fun v => v) ec2 ?_ (fun v τ σ n c s => o55 _ _) ?_).mono ?_
  · rintro o σ' ⟨-, -, h | h | h⟩
    · exact Or.inl h
    · exact Or.inr ⟨11, h⟩
    · exact Or.inr ⟨13, h⟩
  · rintro ci w σ' ⟨-, -, ⟨v, h⟩ | h | h⟩
    · cases h
    · injection h with h
      subst h
      rfl
    · injection h with h
      subst h
      rfl
  · rintro v σ' (⟨v, σ1, ⟨h1, h2, -⟩, -, rfl⟩ | ⟨ci, ⟨h1, h2, -⟩, -⟩)
    · exact ⟨h1.e.out _, h2.out _⟩
    · exact ⟨h1.e, h2⟩
theorem w_space (h : kI T τ σ n c s) (hT : T < 512) (hF : 100000000 ≤ F) (x : Int32) (y : Int32) : w_c B X T (f_AckBookLaw_space F X (some (B + 0)) x y (some (B + 55)) (o_w B X τ σ n c s)) (fun _ σ' => xE σ σ' ∧ xU σ σ') := by
  unfold f_AckBookLaw_space
  rw [ot_0]
  refine (w_tL (k_space (F := F) h hT hF x y) (fun v => v) ec2 ?_ (fun v τ σ n c s => o55 _ _) ?_).mono ?_
  · rintro o σ' ⟨-, -, h | h | h⟩
    · exact Or.inl h
    · exact Or.inr ⟨11, h⟩
    · exact Or.inr ⟨13, h⟩
  · rintro ci w σ' ⟨-, -, ⟨v, h⟩ | h | h⟩
    · cases h
    · injection h with h
      subst h
      rfl
    · injection h with h
      subst h
      rfl
  · rintro v σ' (⟨v, σ1, ⟨h1, h2, -⟩, -, rfl⟩ | ⟨ci, ⟨h1, h2, -⟩, -⟩)
    · exact ⟨h1.e.out _, h2.out _⟩
    · exact ⟨h1.e, h2⟩
theorem k_nmA {τ1 : zK} {σ1 σ2 : zS} {n1 c1 s1 : Nat} (hR : kR σ) (hE : xE σ σ1) (hU : xA σ σ1) (hX : mX σ1 σ2) (h0 : σ2.1 31 27 = 0) (v1 : ∀ j, σ2.1 32 j = σ1.1 32 j) (v2 : ∀ j, σ2.1 39 j = σ1.1 39 j) (v4 : ∀ i, σ2.2.1 45 i = σ1.2.1 45 i) (hI : kI (T + 1) τ1 σ1 n1 c1 s1) (hM : mM T σ2) : kS (T + 1) τ1 σ2 n1 c1 s1 := by
  obtain ⟨r1, r2, r3, r4⟩ := hR
  obtain ⟨u1, u2, u3, u4⟩ := hU
  refine ⟨hI.m hX, hM.up (by omega), fun k hk => ?_, fun k hk => ?_, ?_, fun i => ?_⟩
  · rw [(hX _ (by omega)).1, u1 k hk, v1 k, (hE 32 (by omega) (by omega)).1]
    exact r1 k hk
  · rw [(hX _ (by omega)).1, u2 k hk, v2 k, (hE 39 (by omega) (by omega)).1]
    exact r2 k hk
  · rw [(hX 26 (by omega)).1, u3, h0]
  · rw [(hX 27 (by omega)).2.1, u4, v4, (hE 45 (by omega) (by omega)).2.1]
    exact r4 i
/-- an answer that the model has thrown too -/
theorem k_t1 {τ1 : zK} {σ1 : zS} {n1 c1 s1 : Nat} (hS : kS T τ σ n c s) (hE : xE σ σ1) (hU : xU σ σ1) (hI : kI (T + 1) τ1 σ1 n1 c1 s1) (x : Int32) : kS (T + 1) τ1 (o_I σ1 31 0 x) n1 c1 s1 := k_nm hS.2.2 hE hU (mX.I (by omega)) (mU.I (by omega)) hI ((hS.2.1.ag hE).w (by omega))
theorem k_t2 {τ1 : zK} {σ1 : zS} {n1 c1 s1 : Nat} (hS : kS T τ σ n c s) (hE : xE σ σ1) (hU : xU σ σ1) (hI : kI (T + 1) τ1 σ1 n1 c1 s1) (x y : Int32) : kS (T + 1) τ1 (o_I (o_I σ1 31 0 x) 31 0 y) n1 c1 s1 := k_nm hS.2.2 hE hU ((mX.I (by omega)).trans (mX.I (by omega))) ((mU.I (by omega)).trans (mU.I (by omega))) hI (((hS.2.1.ag hE).w (by omega)).w (by omega))
theorem l550 {σ : zS} (v : Int64) : (o_L σ 55 0 v).2.1 55 0 = v := by
  show (if 55 = 55 ∧ 0 = 0 then v else σ.2.1 55 0) = v
  rw [if_pos ⟨rfl, rfl⟩]
theorem x_send (hS : kS T τ σ n c s) (hX : X < B) (hT : T < 512) (hF : 100000000 ≤ F) (x y e d : Int32) (he : e = 0 ∨ e = 1) (hd : d = 0 ∨ d = 1) : ∃ v τ1 σ1 n1 c1 s1 v2 σ2, f_AckBookLaw_send F X (some (B + 0)) x y e d (some (B + 55)) (o_w B X τ σ n c s) = some (.inl (some (.int v)), o_w B X τ1 σ1 n1 c1 s1) ∧ f_AckBookModel_send F X (some (B + 31)) x y e d (o_w B X τ1 σ1 n1 c1 s1) = some (.inl (some (.int v2)), o_w B X τ1 σ2 n1 c1 s1) ∧ kS (T + 1) τ1 σ2 n1 c1 s1 ∧ σ2.1 31 0 = v ∧ (v = 0 → σ2.2.1 55 0 = v2.toInt64) := by
  unfold f_AckBookLaw_send
  simp only [ot_0]
  by_cases hb : m_vBad x y e d
  · obtain ⟨v, τ1, σ1, n1, c1, s1, e1, hI, hP⟩ := w_tI (k_sendB (B := B) (X := X) (F := F) hS.1 hT x y e d hb) (fun v => v.toInt64) ec2 (fun o σ' q => Or.inr ⟨11, q.2.2⟩) (fun v τ σ n c s => o55 _ _) (K := fun v w => z_stL w (some (B + 55)) (0 : Int32) v.toInt64 fun w => some (.inl (some (.int (0 : Int32))), w)) (E := fun ci w => if ci = 11 then (some (.inl (some (.int (1 : Int32))), w)) else if ci = 12 then (some (.inl (some (.int (2 : Int32))), w)) else none) (fun ci w σ' q => by
      have := q.2.2
      injection this with this
      subst this
      rfl)
    rcases hP with ⟨u, σ0, q, -⟩ | ⟨ci, ⟨q1, q2, q3⟩, q4⟩
    · exact absurd q.2.2 (by simp)
    · injection q3 with q3
      subst q3
      refine ⟨v, τ1, σ1, n1, c1, s1, _, _, e1, u_sendB x y e d hb, k_t1 hS q1.e q2 hI _, ?_, ?_⟩
      · rw [i11, if_pos ⟨rfl, rfl⟩, q4]
        rfl
      · rw [q4]
        exact fun q => absurd q (by decide)
  · obtain ⟨k, hk, rfl⟩ : ∃ k, k < 3 ∧ x = nI k := by
      rcases e_sp x with hx | hx
      · exact absurd (Or.inl hx) hb
      · obtain ⟨k, hk, h⟩ := hx
        exact ⟨k, hk, h⟩
    have hdk := hS.2.2.2.1 k hk
    by_cases hz : σ.1 39 k = 0
    · obtain ⟨v, τ1, σ1, n1, c1, s1, e1, hI, hP⟩ := w_tI (k_sendO (B := B) (X := X) (F := F) hS.1 hX hT hk y e d he hd hb (hdk.trans hz)) (fun v => v.toInt64) ec2 (fun o σ' q => Or.inl ⟨_, q.2.2⟩) (fun v τ σ n c s => o55 _ _) (K := fun v w => z_stL w (some (B + 55)) (0 : Int32) v.toInt64 fun w => some (.inl (some (.int (0 : Int32))), w)) (E := fun ci w => if ci = 11 then (some (.inl (some (.int (1 : Int32))), w)) else if ci = 12 then (some (.inl (some (.int (2 : Int32))), w)) else none) (fun ci w σ' q => absurd q.2.2 (by simp))
      rcases hP with ⟨u, σ0, ⟨q1, ⟨p1, p2, p3, p4⟩, q3⟩, q4, q5⟩ | ⟨ci, q, -⟩
      · injection q3 with q3
        injection q3 with q3
        injection q3 with q3
        subst q5
        have hE : xE σ (o_L σ0 55 0 u.toInt64) := q1.e.out _
        obtain ⟨σ2, m1, m2, m3, m4, m5, m6, m7, m8⟩ := u_sendO (B := B) (X := X) (F := F) (τ := τ1) (n := n1) (c := c1) (s := s1) (hS.2.1.ag hE) (by omega) (by omega) hk y e d he hd hb (by rw [(hE 39 (by omega) (by omega)).1]; exact hz)
        obtain ⟨r1, r2, r3, r4⟩ := hS.2.2
        refine ⟨v, τ1, _, n1, c1, s1, _, σ2, e1, m1, ⟨hI.m m3, m2, fun j hj => ?_, fun j hj => ?_, ?_, fun i => ?_⟩, by rw [m4, q4], fun _ => ?_⟩
        · rw [(m3 _ (by omega)).1, m5 j, (hE 32 (by omega) (by omega)).1]
          refine (p1 j hj).trans ?_
          rw [r1 k hk, r1 j hj]
        · rw [(m3 _ (by omega)).1, m6 j, (hE 39 (by omega) (by omega)).1]
          exact (p2 j hj).trans (r2 j hj)
        · rw [(m3 26 (by omega)).1, m7, (hE 31 (by omega) (by omega)).1]
          exact p3.trans r3
        · rw [(m3 27 (by omega)).2.1, m8, (hE 45 (by omega) (by omega)).2.1, l55 _ _ _ (by decide)]
          exact (p4 i).trans (r4 i)
        · rw [(m3 55 (by omega)).2.1, (hE 32 (by omega) (by omega)).1, ← r1 k hk, l550, q3]
      · exact absurd q.2.2 (by simp)
    · have hz1 : σ.1 39 k = 1 := (hS.2.1.d hk).resolve_left hz
      obtain ⟨v, τ1, σ1, n1, c1, s1, e1, hI, hP⟩ := w_tI (k_sendD (B := B) (X := X) (F := F) hS.1 hT hk y e d hb (by rw [hdk]; exact hz)) (fun v => v.toInt64) ec2 (fun o σ' q => Or.inr ⟨12, q.2.2⟩) (fun v τ σ n c s => o55 _ _) (K := fun v w => z_stL w (some (B + 55)) (0 : Int32) v.toInt64 fun w => some (.inl (some (.int (0 : Int32))), w)) (E := fun ci w => if ci = 11 then (some (.inl (some (.int (1 : Int32))), w)) else if ci = 12 then (some (.inl (some (.int (2 : Int32))), w)) else none) (fun ci w σ' q => by
        have := q.2.2
        injection this with this
        subst this
        rfl)
      rcases hP with ⟨u, σ0, q, -⟩ | ⟨ci, ⟨q1, q2, q3⟩, q4⟩
      · exact absurd q.2.2 (by simp)
      · injection q3 with q3
        subst q3
        refine ⟨v, τ1, σ1, n1, c1, s1, _, _, e1, u_sendD (hS.2.1.ag q1.e) hk y e d hb (by rw [(q1.e 39 (by omega) (by omega)).1]; exact hz1), k_t2 hS q1.e q2 hI _ _, ?_, ?_⟩
        · rw [i11, if_pos ⟨rfl, rfl⟩, q4]
          rfl
        · rw [q4]
          exact fun q => absurd q (by decide)
end CQ
