section LP
variable {B X F : Nat} {τ τ1 : zK} {n c s n1 c1 s1 T : Nat} {σ σ1 σ2 : zS}
def xP (v : Int32) (out : Int64) (σ2 : zS) : Prop := σ2.1 31 0 = v ∧ (v = 0 → σ2.2.1 55 0 = out)
theorem y_okI {a v : Int32} {σE : zS} {E : Nat → zW → zR} (hn : 56 ≤ n) (e1 : z_tI (some (.inl (some (.int a)), o_w B X τ σE n c s)) (fun v2 w => z_stL w (some (B + 55)) (0 : Int32) v2.toInt64 fun w => some (.inl (some (.int (0 : Int32))), w)) E = some (.inl (some (.int v)), o_w B X τ1 σ1 n1 c1 s1)) : v = 0 ∧ σ1.2.1 55 0 = a.toInt64 := by
  have e1' : z_stL (o_w B X τ σE n c s) (some (B + 55)) (0 : Int32) a.toInt64 (fun w => some (.inl (some (.int (0 : Int32))), w)) = some (.inl (some (.int v)), o_w B X τ1 σ1 n1 c1 s1) := e1
  rw [o55] at e1'
  obtain ⟨hv, -, -, q4⟩ := x_end hn e1'
  injection hv with hv
  injection hv with hv
  injection hv with hv
  exact ⟨hv.symm, q4.trans (l550 _)⟩
theorem y_okL {a : Int64} {v : Int32} {σE : zS} {E : Nat → zW → zR} (hn : 56 ≤ n) (e1 : z_tL (some (.inl (some (.long a)), o_w B X τ σE n c s)) (fun v2 w => z_stL w (some (B + 55)) (0 : Int32) v2 fun w => some (.inl (some (.int (0 : Int32))), w)) E = some (.inl (some (.int v)), o_w B X τ1 σ1 n1 c1 s1)) : v = 0 ∧ σ1.2.1 55 0 = a := by
  have e1' : z_stL (o_w B X τ σE n c s) (some (B + 55)) (0 : Int32) a (fun w => some (.inl (some (.int (0 : Int32))), w)) = some (.inl (some (.int v)), o_w B X τ1 σ1 n1 c1 s1) := e1
  rw [o55] at e1'
  obtain ⟨hv, -, -, q4⟩ := x_end hn e1'
  injection hv with hv
  injection hv with hv
  injection hv with hv
  exact ⟨hv.symm, q4.trans (l550 _)⟩
theorem y_endI {a v2 : Int32} {σF : zS} (hn1 : 56 ≤ n1) (e2 : (some (.inl (some (.int a)), o_w B X τ1 σF n1 c1 s1) : zR) = some (.inl (some (.int v2)), o_w B X τ1 σ2 n1 c1 s1)) : v2 = a ∧ σ2.1 31 0 = σF.1 31 0 ∧ σ2.2.1 55 0 = σF.2.1 55 0 := by
  obtain ⟨hv, -, q3, q4⟩ := x_end hn1 e2
  injection hv with hv
  injection hv with hv
  injection hv with hv
  exact ⟨hv.symm, q3, q4⟩
theorem y_endL {a v2 : Int64} {σF : zS} (hn1 : 56 ≤ n1) (e2 : (some (.inl (some (.long a)), o_w B X τ1 σF n1 c1 s1) : zR) = some (.inl (some (.long v2)), o_w B X τ1 σ2 n1 c1 s1)) : v2 = a ∧ σ2.1 31 0 = σF.1 31 0 ∧ σ2.2.1 55 0 = σF.2.1 55 0 := by
  obtain ⟨hv, -, q3, q4⟩ := x_end hn1 e2
  injection hv with hv
  injection hv with hv
  injection hv with hv
  exact ⟨hv.symm, q3, q4⟩
theorem i310 {σ : zS} (x : Int32) : (o_I σ 31 0 x).1 31 0 = x := by rw [i11, if_pos ⟨rfl, rfl⟩]
theorem xP.thr {v u : Int32} {out : Int64} (hv : v = u) (hu : u ≠ 0) (q3 : σ2.1 31 0 = u) : xP v out σ2 := ⟨q3.trans hv.symm, fun q => absurd (hv.symm.trans q) hu⟩
theorem y_next {v v2 : Int32} (hE : xE o_s0 σ1) (hn : 56 ≤ n) (hn1 : 56 ≤ n1) (x y : Int32) (e1 : f_AckBookLaw_next F X (some (B + 0)) x y (some (B + 55)) (o_w B X τ o_s0 n c s) = some (.inl (some (.int v)), o_w B X τ1 σ1 n1 c1 s1)) (e2 : f_AckBookModel_next F X (some (B + 31)) x y (o_w B X τ1 σ1 n1 c1 s1) = some (.inl (some (.int v2)), o_w B X τ1 σ2 n1 c1 s1)) : xP v v2.toInt64 σ2 := by
  have hM := f0M.of hE
  unfold f_AckBookLaw_next at e1
  rw [ot_0] at e1
  rcases e_sp x with hx | ⟨k, hk, rfl⟩
  · have q : f_AckBook_next F X (some (B + 0)) x y (o_w B X τ o_s0 n c s) = z_thr (o_w B X τ o_s0 n c s) 11 := by
      unfold f_AckBook_next
      simp only [ot_0]
      rw [c_knownB hx, z_thr_cR]
    rw [q] at e1
    rw [m_nextB hx] at e2
    obtain ⟨-, q3, -⟩ := y_endI hn1 e2
    exact xP.thr (x_thrI (u := 1) hn e1 (fun w => rfl)).1 (by decide) (q3.trans (i310 _))
  · rw [c_next0 f0C.s0 hk] at e1
    rw [m_next0 hM hk] at e2
    obtain ⟨hv, p1⟩ := y_okI hn e1
    obtain ⟨hv2, q3, q4⟩ := y_endI hn1 e2
    exact ⟨(q3.trans (i310 _)).trans hv.symm, fun _ => by rw [q4, hv2]; exact p1⟩
theorem y_state {v v2 : Int32} (hE : xE o_s0 σ1) (hn : 56 ≤ n) (hn1 : 56 ≤ n1) (x y : Int32) (e1 : f_AckBookLaw_state F X (some (B + 0)) x y (some (B + 55)) (o_w B X τ o_s0 n c s) = some (.inl (some (.int v)), o_w B X τ1 σ1 n1 c1 s1)) (e2 : f_AckBookModel_state F X (some (B + 31)) x y (o_w B X τ1 σ1 n1 c1 s1) = some (.inl (some (.int v2)), o_w B X τ1 σ2 n1 c1 s1)) : xP v v2.toInt64 σ2 := by
  have hM := f0M.of hE
  unfold f_AckBookLaw_state at e1
  rw [ot_0] at e1
  rcases e_sp x with hx | ⟨k, hk, rfl⟩
  · have q : f_AckBook_state F X (some (B + 0)) x y (o_w B X τ o_s0 n c s) = z_thr (o_w B X τ o_s0 n c s) 11 := by
      unfold f_AckBook_state
      simp only [ot_0]
      rw [c_knownB hx, z_thr_cR]
    rw [q] at e1
    rw [m_stateB hx] at e2
    obtain ⟨-, q3, -⟩ := y_endI hn1 e2
    exact xP.thr (x_thrI (u := 1) hn e1 (fun w => rfl)).1 (by decide) (q3.trans (i310 _))
  · rw [c_state0 f0C.s0 hk] at e1
    rw [m_state0 hM hk] at e2
    obtain ⟨hv, p1⟩ := y_okI hn e1
    obtain ⟨hv2, q3, q4⟩ := y_endI hn1 e2
    exact ⟨(q3.trans (i310 _)).trans hv.symm, fun _ => by rw [q4, hv2]; exact p1⟩
theorem y_look {v v2 : Int32} (hE : xE o_s0 σ1) (hF : 20000 ≤ F) (hn : 56 ≤ n) (hn1 : 56 ≤ n1) (x : Int32) (e1 : f_AckBookLaw_look F X (some (B + 0)) x (some (B + 55)) (o_w B X τ o_s0 n c s) = some (.inl (some (.int v)), o_w B X τ1 σ1 n1 c1 s1)) (e2 : f_AckBookModel_look F X (some (B + 31)) x (o_w B X τ1 σ1 n1 c1 s1) = some (.inl (some (.int v2)), o_w B X τ1 σ2 n1 c1 s1)) : xP v v2.toInt64 σ2 := by
  have hM := f0M.of hE
  have h1 : σ1.1 31 1 = 0 := by rw [(hE 31 (by omega) (by omega)).1]; rfl
  unfold f_AckBookLaw_look at e1
  rw [ot_0] at e1
  rcases e_11 11 (by decide) x with hx | ⟨j, hj, rfl⟩
  · rw [c_lookB hx] at e1
    rw [m_lookB hx] at e2
    obtain ⟨-, q3, -⟩ := y_endI hn1 e2
    exact xP.thr (x_thrI (u := 1) hn e1 (fun w => rfl)).1 (by decide) (q3.trans (i310 _))
  · rw [c_look0 (by omega)] at e1
    rw [m_look0 hM h1 hF (by omega)] at e2
    obtain ⟨hv, p1⟩ := y_okI hn e1
    obtain ⟨hv2, q3, q4⟩ := y_endI hn1 e2
    exact ⟨(q3.trans (i310 _)).trans hv.symm, fun _ => by rw [q4, hv2]; exact p1⟩
theorem y_space {v : Int32} {v2 : Int64} (hE : xE o_s0 σ1) (hF : 20000 ≤ F) (hn : 56 ≤ n) (hn1 : 56 ≤ n1) (x y : Int32) (e1 : f_AckBookLaw_space F X (some (B + 0)) x y (some (B + 55)) (o_w B X τ o_s0 n c s) = some (.inl (some (.int v)), o_w B X τ1 σ1 n1 c1 s1)) (e2 : f_AckBookModel_space F X (some (B + 31)) x y (o_w B X τ1 σ1 n1 c1 s1) = some (.inl (some (.long v2)), o_w B X τ1 σ2 n1 c1 s1)) : xP v v2 σ2 := by
  have hM := f0M.of hE
  unfold f_AckBookLaw_space at e1
  rw [ot_0] at e1
  rcases e_sp x with hx | ⟨k, hk, rfl⟩
  · have q : f_AckBook_space F X (some (B + 0)) x y (o_w B X τ o_s0 n c s) = z_thr (o_w B X τ o_s0 n c s) 11 := by
      unfold f_AckBook_space
      simp only [ot_0]
      rw [c_knownB hx, z_thr_cR]
    rw [q] at e1
    rw [m_spB hx] at e2
    obtain ⟨-, q3, -⟩ := y_endL hn1 e2
    exact xP.thr (x_thrL (u := 1) hn e1 (fun w => rfl)).1 (by decide) (q3.trans (i310 _))
  · rcases e_11 10 (by decide) y with hy | ⟨j, hj, rfl⟩
    · rw [c_spaceB hk hy] at e1
      rw [m_spN hk hy] at e2
      obtain ⟨-, q3, -⟩ := y_endL hn1 e2
      exact xP.thr (x_thrL (u := 2) hn e1 (fun w => rfl)).1 (by decide) (q3.trans (i310 _))
    · rw [c_space0 hk (by omega)] at e1
      rw [m_sp0 hM hF hk (by omega)] at e2
      obtain ⟨hv, p1⟩ := y_okL hn e1
      obtain ⟨hv2, q3, q4⟩ := y_endL hn1 e2
      exact ⟨(q3.trans (i310 _)).trans hv.symm, fun _ => by rw [q4, hv2]; exact p1⟩
theorem y_ack {v v2 : Int32} (hE : xE o_s0 σ1) (hn : 56 ≤ n) (hn1 : 56 ≤ n1) (x y : Int32) (e1 : f_AckBookLaw_acknowledge F X (some (B + 0)) x y (some (B + 55)) (o_w B X τ o_s0 n c s) = some (.inl (some (.int v)), o_w B X τ1 σ1 n1 c1 s1)) (e2 : f_AckBookModel_acknowledge F X (some (B + 31)) x y (o_w B X τ1 σ1 n1 c1 s1) = some (.inl (some (.int v2)), o_w B X τ1 σ2 n1 c1 s1)) : xP v v2.toInt64 σ2 := by
  have hM := f0M.of hE
  unfold f_AckBookLaw_acknowledge at e1
  rw [ot_0, c_ack0] at e1
  obtain ⟨σF, g1, g2⟩ := m_ack0 (B := B) (X := X) (F := F) (τ := τ1) (n := n1) (c := c1) (s := s1) hM x y
  rw [g1] at e2
  obtain ⟨-, q3, -⟩ := y_endI hn1 e2
  exact xP.thr (x_thrI (u := 1) hn e1 (fun w => rfl)).1 (by decide) (q3.trans g2)
theorem y_tick {v v2 : Int32} (hE : xE o_s0 σ1) (hF : 20000 ≤ F) (hn : 56 ≤ n) (hn1 : 56 ≤ n1) (e1 : f_AckBook_tick F X (some (B + 0)) (o_w B X τ o_s0 n c s) = some (.inl (some (.int v)), o_w B X τ1 σ1 n1 c1 s1)) (e2 : f_AckBookModel_tick F X (some (B + 31)) (o_w B X τ1 σ1 n1 c1 s1) = some (.inl (some (.int v2)), o_w B X τ1 σ2 n1 c1 s1)) : v = v2 := by
  rw [c_tick0 f0C.s0 hF] at e1
  rw [m_tick0 (f0M.of hE) hF] at e2
  obtain ⟨hv, -⟩ := x_end hn e1
  injection hv with hv
  injection hv with hv
  injection hv with hv
  obtain ⟨hv2, -⟩ := y_endI hn1 e2
  rw [← hv, hv2]
end LP
