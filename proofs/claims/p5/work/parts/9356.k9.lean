/-! The flow's and the book's own cells. -/
section KI
variable {B X F : Nat} {τ τ1 : zK} {n c s n1 c1 s1 T : Nat} {σ σ1 σ2 σ3 : zS} {k k' m m' : Nat}
/-- the class's flow and book -/
def cFB (σ σ1 : zS) : Prop := (∀ f, f < 4 → σ1.1 30 f = σ.1 30 f) ∧ ∀ f, 5 ≤ f → f ≤ 8 → σ1.1 0 f = σ.1 0 f
/-- the reference's -/
def rD (σ σ1 : zS) : Prop := ∀ f, (f = 2 ∨ f = 3 ∨ f = 14 ∨ (23 ≤ f ∧ f ≤ 26)) → σ1.1 31 f = σ.1 31 f
theorem cFB.trans (h1 : cFB σ σ1) (h2 : cFB σ1 σ2) : cFB σ σ2 := ⟨fun f hf => (h2.1 f hf).trans (h1.1 f hf), fun f f1 f2 => (h2.2 f f1 f2).trans (h1.2 f f1 f2)⟩
theorem rD.trans (h1 : rD σ σ1) (h2 : rD σ1 σ2) : rD σ σ2 := fun f hf => (h2 f hf).trans (h1 f hf)
theorem kQ.fb (hn : 56 ≤ n) (h : kQ (B + 55) (o_w B X τ σ n c s) (o_w B X τ1 σ1 n1 c1 s1)) : cFB σ σ1 := by
  have e := h.pic hn (k := 30) (by decide)
  have e0 := h.pic hn (k := 0) (by decide)
  refine ⟨fun f hf => ?_, fun f f1 f2 => ?_⟩
  · rcases (by omega : f = 0 ∨ f = 1 ∨ f = 2 ∨ f = 3) with rfl | rfl | rfl | rfl
    · exact congrArg (f_fI 0) e
    · exact congrArg (f_fI 1) e
    · exact congrArg (f_fI 2) e
    · exact congrArg (f_fI 3) e
  · rcases (by omega : f = 5 ∨ f = 6 ∨ f = 7 ∨ f = 8) with rfl | rfl | rfl | rfl
    · exact congrArg (f_fI 5) e0
    · exact congrArg (f_fI 6) e0
    · exact congrArg (f_fI 7) e0
    · exact congrArg (f_fI 8) e0
theorem kQ.rd (hn : 56 ≤ n) (h : kQ (B + 55) (o_w B X τ σ n c s) (o_w B X τ1 σ1 n1 c1 s1)) : rD σ σ1 := by
  have e := h.pic hn (k := 31) (by decide)
  intro f hf
  rcases (by omega : f = 2 ∨ f = 3 ∨ f = 14 ∨ f = 23 ∨ f = 24 ∨ f = 25 ∨ f = 26) with rfl | rfl | rfl | rfl | rfl | rfl | rfl
  · exact congrArg (f_fI 2) e
  · exact congrArg (f_fI 3) e
  · exact congrArg (f_fI 14) e
  · exact congrArg (f_fI 23) e
  · exact congrArg (f_fI 24) e
  · exact congrArg (f_fI 25) e
  · exact congrArg (f_fI 26) e
def sW2 (τ : zK) (σ : zS) (τ1 : zK) (σ1 : zS) : Prop := sC τ σ τ1 σ1 ∧ cFB σ σ1
def rE (σ σ1 : zS) : Prop := rC σ σ1 ∧ rD σ σ1
theorem sW2.trans {τ2 : zK} (h1 : sW2 τ σ τ1 σ1) (h2 : sW2 τ1 σ1 τ2 σ2) : sW2 τ σ τ2 σ2 := ⟨h1.1.trans h2.1, h1.2.trans h2.2⟩
theorem kQ.w2 (hX : X < B) (hn : 56 ≤ n) (hN : ∀ o, n ≤ o → τ o = none) (h : kQ (B + 55) (o_w B X τ σ n c s) (o_w B X τ1 σ1 n1 c1 s1)) : sW2 τ σ τ1 σ1 := ⟨h.sc hX hn hN, h.fb hn⟩
theorem sW2.out (τ : zK) (σ : zS) (v : Int64) : sW2 τ σ τ (o_L σ 55 0 v) := ⟨sC.out τ σ v, fun _ _ => rfl, fun _ _ _ => rfl⟩
theorem mX.fb (h : mX σ σ1) : cFB σ σ1 := ⟨fun f _ => by rw [(h 30 (by omega)).1], fun f _ _ => by rw [(h 0 (by omega)).1]⟩
theorem mX.w2 (h : mX σ σ1) : sW2 τ σ τ σ1 := ⟨h.sc, h.fb⟩
theorem xE.rd (h : xE σ σ1) : rD σ σ1 := fun f _ => by rw [(h 31 (by omega) (by omega)).1]
theorem x_th2I {ci : Nat} {v u : Int32} {K : Int32 → zW → zR} {E : Nat → zW → zR} (hX : X < B) (hn : 56 ≤ n) (hN : ∀ o, n ≤ o → τ o = none) (e1 : z_tI (z_thr (o_w B X τ σ n c s) ci) K E = some (.inl (some (.int v)), o_w B X τ1 σ1 n1 c1 s1)) (hE : ∀ w, E ci w = some (.inl (some (.int u)), w)) : v = u ∧ sW2 τ σ τ1 σ1 := by
  obtain ⟨w1, o1, q1, hz⟩ := z_tI_spec e1
  have hf := zQ.thr (x0 := B + 55) _ _ q1
  unfold z_thr at q1
  split at q1
  · injection q1 with q1
    injection q1 with q2 q3
    subst q2
    rcases hz with ⟨v', a, -⟩ | ⟨x, cj, fs, a, a2, a3⟩
    · cases a
    · injection a with a
      subst a
      subst q3
      have e : (z_push (o_w B X τ σ n c s) 6 (.inr (ci, []))).2.2.2 (o_w B X τ σ n c s).1 = some (.inr (ci, [])) := if_pos rfl
      rw [e] at a2
      injection a2 with a2
      injection a2 with a2
      injection a2 with a2 _
      subst a2
      rw [hE] at a3
      injection a3 with a3
      injection a3 with a3 a4
      injection a3 with a3
      injection a3 with a3
      injection a3 with a3
      have a4 : z_push (o_w B X τ σ n c s) 6 (.inr (ci, [])) = o_w B X τ1 σ1 n1 c1 s1 := a4
      rw [a4] at hf
      exact ⟨a3.symm, hf.w2 hX hn hN⟩
  · cases q1
theorem x_th2L {ci : Nat} {v u : Int32} {K : Int64 → zW → zR} {E : Nat → zW → zR} (hX : X < B) (hn : 56 ≤ n) (hN : ∀ o, n ≤ o → τ o = none) (e1 : z_tL (z_thr (o_w B X τ σ n c s) ci) K E = some (.inl (some (.int v)), o_w B X τ1 σ1 n1 c1 s1)) (hE : ∀ w, E ci w = some (.inl (some (.int u)), w)) : v = u ∧ sW2 τ σ τ1 σ1 := by
  obtain ⟨w1, o1, q1, hz⟩ := z_tL_spec e1
  have hf := zQ.thr (x0 := B + 55) _ _ q1
  unfold z_thr at q1
  split at q1
  · injection q1 with q1
    injection q1 with q2 q3
    subst q2
    rcases hz with ⟨v', a, -⟩ | ⟨x, cj, fs, a, a2, a3⟩
    · cases a
    · injection a with a
      subst a
      subst q3
      have e : (z_push (o_w B X τ σ n c s) 6 (.inr (ci, []))).2.2.2 (o_w B X τ σ n c s).1 = some (.inr (ci, [])) := if_pos rfl
      rw [e] at a2
      injection a2 with a2
      injection a2 with a2
      injection a2 with a2 _
      subst a2
      rw [hE] at a3
      injection a3 with a3
      injection a3 with a3 a4
      injection a3 with a3
      injection a3 with a3
      injection a3 with a3
      have a4 : z_push (o_w B X τ σ n c s) 6 (.inr (ci, [])) = o_w B X τ1 σ1 n1 c1 s1 := a4
      rw [a4] at hf
      exact ⟨a3.symm, hf.w2 hX hn hN⟩
  · cases q1
theorem x_th2V {ci : Nat} {v u : Int32} {K : zW → zR} {E : Nat → zW → zR} (hX : X < B) (hn : 56 ≤ n) (hN : ∀ o, n ≤ o → τ o = none) (e1 : z_tV (z_thr (o_w B X τ σ n c s) ci) K E = some (.inl (some (.int v)), o_w B X τ1 σ1 n1 c1 s1)) (hE : ∀ w, E ci w = some (.inl (some (.int u)), w)) : v = u ∧ sW2 τ σ τ1 σ1 := by
  obtain ⟨w1, o1, q1, hz⟩ := z_tV_spec e1
  have hf := zQ.thr (x0 := B + 55) _ _ q1
  unfold z_thr at q1
  split at q1
  · injection q1 with q1
    injection q1 with q2 q3
    subst q2
    rcases hz with ⟨v', a, -⟩ | ⟨x, cj, fs, a, a2, a3⟩
    · cases a
    · injection a with a
      subst a
      subst q3
      have e : (z_push (o_w B X τ σ n c s) 6 (.inr (ci, []))).2.2.2 (o_w B X τ σ n c s).1 = some (.inr (ci, [])) := if_pos rfl
      rw [e] at a2
      injection a2 with a2
      injection a2 with a2
      injection a2 with a2 _
      subst a2
      rw [hE] at a3
      injection a3 with a3
      injection a3 with a3 a4
      injection a3 with a3
      injection a3 with a3
      injection a3 with a3
      have a4 : z_push (o_w B X τ σ n c s) 6 (.inr (ci, [])) = o_w B X τ1 σ1 n1 c1 s1 := a4
      rw [a4] at hf
      exact ⟨a3.symm, hf.w2 hX hn hN⟩
  · cases q1
theorem x_en2 {σE : zS} {o o' : zO} (hX : X < B) (hn : 56 ≤ n) (hN : ∀ o, n ≤ o → τ o = none) (e : some (o, o_w B X τ σE n c s) = (some (o', o_w B X τ1 σ1 n1 c1 s1) : zR)) : o = o' ∧ sW2 τ σE τ1 σ1 ∧ σ1.2.1 55 0 = σE.2.1 55 0 := by
  have h3 := (x_end hn e).2.2.2
  injection e with e
  injection e with e1 e2
  have hk : kQ (B + 55) (o_w B X τ σE n c s) (o_w B X τ1 σ1 n1 c1 s1) := by
    rw [e2]
    exact kQ.refl _
  exact ⟨e1, hk.w2 hX hn hN, h3⟩
theorem x_er2 {σE : zS} {o o' : zO} (hn : 56 ≤ n) (e : some (o, o_w B X τ σE n c s) = (some (o', o_w B X τ1 σ1 n1 c1 s1) : zR)) : o = o' ∧ rE σE σ1 := by
  injection e with e
  injection e with e1 e2
  have hk : kQ (B + 55) (o_w B X τ σE n c s) (o_w B X τ1 σ1 n1 c1 s1) := by
    rw [e2]
    exact kQ.refl _
  exact ⟨e1, ⟨hk.rc hn, hk.rd hn⟩⟩
theorem pW.er2 {r : zR} {Q : Option Value → zS → Prop} {o : zO} (h : pW B X τ n c s r Q) (hn : 56 ≤ n) (e : r = some (o, o_w B X τ σ2 n c s)) : ∃ v σE, o = .inl v ∧ Q v σE ∧ rE σE σ2 := by
  obtain ⟨v, σE, h1, h2, h3⟩ := h _ _ e
  have e3 : (some (.inl Option.none, o_w B X τ σE n c s) : zR) = some (.inl Option.none, o_w B X τ σ2 n c s) := by rw [h2]
  exact ⟨v, σE, h1, h3, (x_er2 hn e3).2⟩
theorem x_ok2I {r : zR} {Q : Option Value → zS → Prop} {v : Int32} {E : Nat → zW → zR} (hX : X < B) (hn : 56 ≤ n) (hN : ∀ o, n ≤ o → τ o = none) (h : pW B X τ n c s r Q) (e1 : z_tI r (fun v2 w => z_stL w (some (B + 55)) (0 : Int32) v2.toInt64 fun w => some (.inl (some (.int (0 : Int32))), w)) E = some (.inl (some (.int v)), o_w B X τ1 σ1 n1 c1 s1)) : v = 0 ∧ ∃ u σE, Q (some (.int u)) σE ∧ sW2 τ σE τ1 σ1 ∧ σ1.2.1 55 0 = u.toInt64 := by
  obtain ⟨w1, o1, q1, hz⟩ := z_tI_spec e1
  obtain ⟨v', σE, z1, z2, z3⟩ := h _ _ q1
  subst z2
  rcases hz with ⟨v2, b1, u, b2, b3⟩ | ⟨y, ci, fs, b1, b2, b3⟩
  · have b1 : o1 = .inl v2 := b1
    rw [z1] at b1
    injection b1 with b1
    rw [b1, b2] at z3
    rw [o55] at b3
    obtain ⟨d1, d2, d3⟩ := x_en2 hX hn hN b3
    injection d1 with d1
    injection d1 with d1
    injection d1 with d1
    refine ⟨d1.symm, u, σE, z3, (sW2.out τ σE _).trans d2, ?_⟩
    rw [d3]
    show (if 55 = 55 ∧ 0 = 0 then u.toInt64 else σE.2.1 55 0) = _
    exact if_pos ⟨rfl, rfl⟩
  · have b1 : o1 = .inr y := b1
    rw [z1] at b1
    cases b1
theorem x_ok2V {r : zR} {Q : Option Value → zS → Prop} {v : Int32} {E : Nat → zW → zR} (hX : X < B) (hn : 56 ≤ n) (hN : ∀ o, n ≤ o → τ o = none) (h : pW B X τ n c s r Q) (e1 : z_tV r (fun w => some (.inl (some (.int (0 : Int32))), w)) E = some (.inl (some (.int v)), o_w B X τ1 σ1 n1 c1 s1)) : v = 0 ∧ ∃ u σE, Q u σE ∧ sW2 τ σE τ1 σ1 := by
  obtain ⟨w1, o1, q1, hz⟩ := z_tV_spec e1
  obtain ⟨v', σE, z1, z2, z3⟩ := h _ _ q1
  subst z2
  rcases hz with ⟨v2, b1, b2⟩ | ⟨y, ci, fs, b1, b2, b3⟩
  · have b3 := b2.2
    obtain ⟨d1, d2, d3⟩ := x_en2 hX hn hN b3
    injection d1 with d1
    injection d1 with d1
    injection d1 with d1
    exact ⟨d1.symm, v', σE, z3, d2⟩
  · have b1 : o1 = .inr y := b1
    rw [z1] at b1
    cases b1
theorem pW.en2 {r : zR} {Q : Option Value → zS → Prop} {o : zO} (h : pW B X τ n c s r Q) (hX : X < B) (hn : 56 ≤ n) (hN : ∀ o, n ≤ o → τ o = Option.none) (e : r = some (o, o_w B X τ1 σ1 n1 c1 s1)) : ∃ v σE, o = .inl v ∧ Q v σE ∧ sW2 τ σE τ1 σ1 := by
  obtain ⟨v, σE, h1, h2, h3⟩ := h _ _ e
  have e3 : (some (.inl Option.none, o_w B X τ σE n c s) : zR) = some (.inl Option.none, o_w B X τ1 σ1 n1 c1 s1) := by rw [h2]
  exact ⟨v, σE, h1, h3, (x_en2 hX hn hN e3).2.1⟩
theorem zQ_w2 {r : zR} {o1 : zO} (hX : X < B) (hn : 56 ≤ n) (hN : ∀ o, n ≤ o → τ o = none) (h : zQ (B + 55) (o_w B X τ σ n c s) r) (e1 : r = some (o1, o_w B X τ1 σ1 n1 c1 s1)) : sW2 τ σ τ1 σ1 := (h _ _ e1).w2 hX hn hN
theorem yK.w2 {k : Nat} (h : yK k σ σ1) (hk : k < 3) : sW2 τ σ τ σ1 := ⟨h.sc hk, fun f _ => by rw [(h.2 30 (by omega) (by omega) (by omega)).1], fun f _ _ => by rw [(h.2 0 (by omega) (by omega) (by omega)).1]⟩
theorem x_writtenT {v x : Int32} (hS : kS T τ σ n c s) (h : kA T σ) (hX : X < B) (hn : 56 ≤ n) (hN : ∀ o, n ≤ o → τ o = none) (e1 : f_AckBookLaw_written F X (some (B + 0)) x (some (B + 55)) (o_w B X τ σ n c s) = some (.inl (some (.int v)), o_w B X τ1 σ1 n1 c1 s1)) : sW2 τ σ τ1 σ1 := by
  unfold f_AckBookLaw_written at e1
  rw [ot_0] at e1
  rcases e_sp x with hx | ⟨k, hk, rfl⟩
  · rw [c_wrB hx] at e1
    exact (x_th2I (u := 1) hX hn hN e1 (fun w => rfl)).2
  · obtain ⟨r, p, ⟨a1, a2⟩, a3, -⟩ := h.2 k hk
    rw [c_wrO hk a3 a1] at e1
    by_cases hg : σ.1 (2 + 8 * k) 3 = 0 ∧ r ≠ 0
    · rw [if_pos hg] at e1
      have e1' : z_stL (o_w B X τ (o_I (o_I σ (7 + 8 * k) 4 0) (7 + 8 * k) 6 0) n c s) (some (B + 55)) (0 : Int32) (σ.1 0 4 - σ.1 (7 + 8 * k) 7).toInt64 (fun w => some (.inl (some (.int (0 : Int32))), w)) = some (.inl (some (.int v)), o_w B X τ1 σ1 n1 c1 s1) := e1
      rw [o55] at e1'
      have hy : yK k σ (o_I (o_I σ (7 + 8 * k) 4 0) (7 + 8 * k) 6 0) := yK.I.trans yK.I
      exact (hy.w2 hk).trans ((sW2.out τ _ _).trans (x_en2 hX hn hN e1').2.1)
    · rw [if_neg hg] at e1
      exact (x_th2I (u := 2) hX hn hN e1 (fun w => rfl)).2
theorem x_cameT {v x z : Int32} {y : Int64} (hS : kS T τ σ n c s) (h : kA T σ) (hF : 100000000 ≤ F) (hX : X < B) (hn : 56 ≤ n) (hN : ∀ o, n ≤ o → τ o = none) (e1 : f_AckBookLaw_came F X (some (B + 0)) x y z (some (B + 55)) (o_w B X τ σ n c s) = some (.inl (some (.int v)), o_w B X τ1 σ1 n1 c1 s1)) : sW2 τ σ τ1 σ1 := by
  unfold f_AckBookLaw_came at e1
  rw [ot_0] at e1
  by_cases hb : (x < 0 ∨ 2 < x) ∨ y < 0 ∨ ¬ y ≤ 4611686018427387903
  · rw [c_cameB hb] at e1
    exact (x_th2I (u := 1) hX hn hN e1 (fun w => rfl)).2
  · have hx : ¬ (x < 0 ∨ 2 < x) := fun q => hb (Or.inl q)
    have y0 : ¬ y < 0 := fun q => hb (Or.inr (Or.inl q))
    have y1 : y ≤ 4611686018427387903 := Decidable.not_not.mp fun q => hb (Or.inr (Or.inr q))
    obtain ⟨k, hk, rfl⟩ := (e_sp x).resolve_left hx
    have hdk := hS.2.2.2.1 k hk
    by_cases hz : σ.1 39 k = 0
    · obtain ⟨r, p0, ⟨a1, a2⟩, a3, -⟩ := h.2 k hk
      obtain ⟨p, b1, b2, b3, bO, bN⟩ := a_enter (B := B) (X := X) (F := F) (τ := τ) (n := n) (c := c) (s := s) (σ := σ) (by omega) hk a3 a1 y z (σ.1 0 4)
      rw [c_cameO hk y0 y1 (hdk.trans hz)] at e1
      by_cases ho : y < σ.2.1 (7 + 8 * k) 3 ∨ (p < r ∧ y ≤ σ.2.1 (9 + 8 * k) p)
      · rw [bO ho] at e1
        have e1' : z_stL (o_w B X τ σ n c s) (some (B + 55)) (0 : Int32) (0 : Int64) (fun w => some (.inl (some (.int (0 : Int32))), w)) = some (.inl (some (.int v)), o_w B X τ1 σ1 n1 c1 s1) := e1
        rw [o55] at e1'
        exact (sW2.out τ _ _).trans (x_en2 hX hn hN e1').2.1
      · obtain ⟨σE, d1, d2, -⟩ := bN ho
        rw [d1] at e1
        have e1' : z_stL (o_w B X τ σE n c s) (some (B + 55)) (0 : Int32) (1 : Int64) (fun w => some (.inl (some (.int (0 : Int32))), w)) = some (.inl (some (.int v)), o_w B X τ1 σ1 n1 c1 s1) := e1
        rw [o55] at e1'
        exact (d2.w2 hk).trans ((sW2.out τ _ _).trans (x_en2 hX hn hN e1').2.1)
    · rw [c_cameD hk y0 y1 (by rw [hdk]; exact hz)] at e1
      exact (x_th2I (u := 2) hX hn hN e1 (fun w => rfl)).2
end KI
