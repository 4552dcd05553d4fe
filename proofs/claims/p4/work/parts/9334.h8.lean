/-! Calls that leave the sending side. -/
section HJ
variable {B X F : Nat} {τ τ1 : zK} {n c s n1 c1 s1 T : Nat} {σ σ1 σ2 σ3 : zS}
theorem yK.sc {k : Nat} (h : yK k σ σ1) (hk : k < 3) : sC τ σ τ σ1 := by
  obtain ⟨h1, h2⟩ := h
  have g : ∀ o, o ≠ 7 + 8 * k → o ≠ 8 + 8 * k → o ≠ 9 + 8 * k → σ1.1 o = σ.1 o := fun o a b d => (h2 o a b d).1
  refine ⟨fun o ho => ⟨ho, fun f _ => by rw [g o (by have := ho.1; omega) (by have := ho.1; omega) (by have := ho.1; omega)], by rw [h1]⟩, fun o cap ho => ⟨ho, fun j => by rw [h1]⟩, fun j hj => ⟨by rw [g _ (by omega) (by omega) (by omega)], fun f _ _ => by rw [g _ (by omega) (by omega) (by omega)], fun f _ => by rw [h1]; exact ⟨rfl, rfl⟩, by rw [g _ (by omega) (by omega) (by omega)], by rw [h1]⟩, by rw [g _ (by omega) (by omega) (by omega)], fun f _ => by rw [g _ (by omega) (by omega) (by omega)], by rw [g _ (by omega) (by omega) (by omega)], fun j _ => by rw [(h2 27 (by omega) (by omega) (by omega)).2, (h2 28 (by omega) (by omega) (by omega)).2]; exact ⟨rfl, rfl⟩⟩
theorem sC.book {f : Nat} {v : Int32} (hf : f ≠ 4) : sC τ σ τ (o_I σ 0 f v) := by
  have g : ∀ o, o ≠ 0 → (o_I σ 0 f v).1 o = σ.1 o := fun o ho => i_fun_ne ho
  refine ⟨fun o ho => ⟨ho, fun f _ => by rw [g o (by have := ho.1; omega)], rfl⟩, fun o cap ho => ⟨ho, fun j => rfl⟩, fun j hj => ⟨by rw [g _ (by omega)], fun f _ _ => by rw [g _ (by omega)], fun f _ => ⟨rfl, rfl⟩, by rw [g _ (by omega)], rfl⟩, by rw [i11, if_neg (fun w => hf w.2.symm)], fun f _ => by rw [g _ (by omega)], by rw [g _ (by omega)], fun j _ => ⟨rfl, rfl⟩⟩
/-- how such a call ends -/
theorem kD.fin {r2 : zR} {o2 : zO} (h : kD T τ σ) (hC : sC τ σ τ1 σ1) (hE : xE σ σ1) (hX2 : mX σ1 σ2) (hn1 : 56 ≤ n1) (hr : zU B X τ1 n1 c1 s1 σ1 r2) (e2 : r2 = some (o2, o_w B X τ1 σ2 n1 c1 s1)) : kD (T + 1) τ1 σ2 := by
  obtain ⟨P, m, D, ew, ft, q, S, t, a, W, p, L, H, ds, ga, k1, k2, k3⟩ := h
  obtain ⟨σE, w1, w2⟩ := hr _ _ e2
  have e3 : (some (.inl none, o_w B X τ1 σE n1 c1 s1) : zR) = some (.inl none, o_w B X τ1 σ2 n1 c1 s1) := by rw [w1]
  exact ⟨P, m, D, ew, ft, q, S, t, a, W, p, L, H, ds, ga, k1.keep (hC.trans hX2.sc), ((k2.xe hE k3.1.2.1).keep (fun o h1 h2 => w2 o h2) k3.1.2.1).rc (x_enr hn1 e3).2, k3.up⟩
theorem zQ_sc {r : zR} {o1 : zO} (hX : X < B) (hn : 56 ≤ n) (hN : ∀ o, n ≤ o → τ o = none) (h : zQ (B + 55) (o_w B X τ σ n c s) r) (e1 : r = some (o1, o_w B X τ1 σ1 n1 c1 s1)) : sC τ σ τ1 σ1 := (h _ _ e1).sc hX hn hN
theorem x_confS {o1 : zO} (hX : X < B) (hn : 56 ≤ n) (hN : ∀ o, n ≤ o → τ o = none) (e1 : f_AckBook_confirm F X (some (B + 0)) (o_w B X τ σ n c s) = some (o1, o_w B X τ1 σ1 n1 c1 s1)) : sC τ σ τ1 σ1 := by
  unfold f_AckBook_confirm at e1
  rw [oz_0_7] at e1
  split at e1
  · exact (sC.book (by decide)).trans (x_ens hX hn hN e1).2.1
  · cases e1
theorem x_anxS {o1 : zO} {b : Int32} (hX : X < B) (hn : 56 ≤ n) (hN : ∀ o, n ≤ o → τ o = none) (e1 : f_AckBook_anxious F X (some (B + 0)) b (o_w B X τ σ n c s) = some (o1, o_w B X τ1 σ1 n1 c1 s1)) : sC τ σ τ1 σ1 := by
  unfold f_AckBook_anxious at e1
  rw [oz_0_8] at e1
  split at e1
  · exact (sC.book (by decide)).trans (x_ens hX hn hN e1).2.1
  · cases e1
theorem x_writtenS {v x : Int32} (hS : kS T τ σ n c s) (h : kA T σ) (hX : X < B) (hn : 56 ≤ n) (hN : ∀ o, n ≤ o → τ o = none) (e1 : f_AckBookLaw_written F X (some (B + 0)) x (some (B + 55)) (o_w B X τ σ n c s) = some (.inl (some (.int v)), o_w B X τ1 σ1 n1 c1 s1)) : sC τ σ τ1 σ1 := by
  unfold f_AckBookLaw_written at e1
  rw [ot_0] at e1
  rcases e_sp x with hx | ⟨k, hk, rfl⟩
  · rw [c_wrB hx] at e1
    exact (x_thsI (u := 1) hX hn hN e1 (fun w => rfl)).2
  · obtain ⟨r, p, ⟨a1, a2⟩, a3, -⟩ := h.2 k hk
    rw [c_wrO hk a3 a1] at e1
    by_cases hg : σ.1 (2 + 8 * k) 3 = 0 ∧ r ≠ 0
    · rw [if_pos hg] at e1
      have e1' : z_stL (o_w B X τ (o_I (o_I σ (7 + 8 * k) 4 0) (7 + 8 * k) 6 0) n c s) (some (B + 55)) (0 : Int32) (σ.1 0 4 - σ.1 (7 + 8 * k) 7).toInt64 (fun w => some (.inl (some (.int (0 : Int32))), w)) = some (.inl (some (.int v)), o_w B X τ1 σ1 n1 c1 s1) := e1
      rw [o55] at e1'
      have hy : yK k σ (o_I (o_I σ (7 + 8 * k) 4 0) (7 + 8 * k) 6 0) := yK.I.trans yK.I
      exact (hy.sc hk).trans ((sC.out τ _ _).trans (x_ens hX hn hN e1').2.1)
    · rw [if_neg hg] at e1
      exact (x_thsI (u := 2) hX hn hN e1 (fun w => rfl)).2
theorem x_cameS {v x z : Int32} {y : Int64} (hS : kS T τ σ n c s) (h : kA T σ) (hF : 100000000 ≤ F) (hX : X < B) (hn : 56 ≤ n) (hN : ∀ o, n ≤ o → τ o = none) (e1 : f_AckBookLaw_came F X (some (B + 0)) x y z (some (B + 55)) (o_w B X τ σ n c s) = some (.inl (some (.int v)), o_w B X τ1 σ1 n1 c1 s1)) : sC τ σ τ1 σ1 := by
  unfold f_AckBookLaw_came at e1
  rw [ot_0] at e1
  by_cases hb : (x < 0 ∨ 2 < x) ∨ y < 0 ∨ ¬ y ≤ 4611686018427387903
  · rw [c_cameB hb] at e1
    exact (x_thsI (u := 1) hX hn hN e1 (fun w => rfl)).2
  · have hx : ¬ (x < 0 ∨ 2 < x) := fun q => hb (Or.inl q)
    have y0 : ¬ y < 0 := fun q => hb (Or.inr (Or.inl q))
    have y1 : y ≤ 4611686018427387903 := Decidable.not_not.mp fun q => hb (Or.inr (Or.inr q))
    obtain ⟨k, hk, rfl⟩ := (e_sp x).resolve_left hx
    have hdk := hS.2.2.2.1 k hk
    by_cases hz : σ.1 39 k = 0
    · obtain ⟨r, p0, ⟨a1, a2⟩, a3, -⟩ := h.2 k hk
      obtain ⟨p, b1, b2, b3, bO, bN⟩ := a_enter (B := B) (X := X) (F := F) (τ := τ) (n := n) (c := c) (s := s) (σ := σ) (by omega) hk a3 a1 y z (σ.1 0 4)
      rw [c_cameO hk y0 y1 (hdk.trans hz)] at e1
      by_cases ho : y < σ.2.1 (7 + 8 * k) 3 ∨ (p < r ∧ y ≤ σ.2.1 (9 + 8 * k) p)
      · rw [bO ho] at e1
        have e1' : z_stL (o_w B X τ σ n c s) (some (B + 55)) (0 : Int32) (0 : Int64) (fun w => some (.inl (some (.int (0 : Int32))), w)) = some (.inl (some (.int v)), o_w B X τ1 σ1 n1 c1 s1) := e1
        rw [o55] at e1'
        exact (sC.out τ _ _).trans (x_ens hX hn hN e1').2.1
      · obtain ⟨σE, d1, d2, -⟩ := bN ho
        rw [d1] at e1
        have e1' : z_stL (o_w B X τ σE n c s) (some (B + 55)) (0 : Int32) (1 : Int64) (fun w => some (.inl (some (.int (0 : Int32))), w)) = some (.inl (some (.int v)), o_w B X τ1 σ1 n1 c1 s1) := e1
        rw [o55] at e1'
        exact (d2.sc hk).trans ((sC.out τ _ _).trans (x_ens hX hn hN e1').2.1)
    · rw [c_cameD hk y0 y1 (by rw [hdk]; exact hz)] at e1
      exact (x_thsI (u := 2) hX hn hN e1 (fun w => rfl)).2
end HJ
