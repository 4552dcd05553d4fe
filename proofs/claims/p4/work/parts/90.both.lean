/-! What came, on both sides. -/
section LA
variable {B X F : Nat} {τ τ1 : zK} {n c s n1 c1 s1 T : Nat} {σ σ1 σ2 : zS}
def aD (σ σ' : zS) (k : Nat) : Prop := (σ'.1 (7 + 8 * k) 2 = σ.1 (7 + 8 * k) 2 ∧ σ'.2.1 (7 + 8 * k) 3 = σ.2.1 (7 + 8 * k) 3) ∧ (σ'.1 (7 + 8 * k) 4 = σ.1 (7 + 8 * k) 4 ∧ σ'.1 (7 + 8 * k) 5 = σ.1 (7 + 8 * k) 5 ∧ σ'.1 (7 + 8 * k) 6 = σ.1 (7 + 8 * k) 6 ∧ σ'.1 (7 + 8 * k) 7 = σ.1 (7 + 8 * k) 7) ∧ σ'.2.1 (8 + 8 * k) = σ.2.1 (8 + 8 * k) ∧ σ'.2.1 (9 + 8 * k) = σ.2.1 (9 + 8 * k)
/-- the reference's cells of space k -/
def fD (σ σ' : zS) (k : Nat) : Prop := (σ'.1 47 k = σ.1 47 k ∧ σ'.2.1 50 k = σ.2.1 50 k) ∧ (σ'.1 52 k = σ.1 52 k ∧ σ'.1 53 k = σ.1 53 k ∧ σ'.1 54 k = σ.1 54 k ∧ σ'.1 51 k = σ.1 51 k) ∧ ∀ i, i < 65 → σ'.2.1 48 (65 * k + i) = σ.2.1 48 (65 * k + i) ∧ σ'.2.1 49 (65 * k + i) = σ.2.1 49 (65 * k + i)
theorem fN.d (h : fN σ σ1) (k : Nat) : fD σ σ1 k := by
  obtain ⟨⟨a1, a2⟩, ⟨a3, a4, a5⟩, ⟨a6, a7, a8, a9⟩, a10⟩ := h
  rw [fD, a2, a3, a4, a5, a6, a7, a8, a9]
  exact ⟨⟨rfl, rfl⟩, ⟨rfl, rfl, rfl, rfl⟩, fun _ _ => ⟨rfl, rfl⟩⟩
theorem aD.trans {k : Nat} (h1 : aD σ σ1 k) (h2 : aD σ1 σ2 k) : aD σ σ2 k := by
  obtain ⟨⟨a1, a2⟩, ⟨a3, a4, a5, a6⟩, a7, a8⟩ := h1
  obtain ⟨⟨b1, b2⟩, ⟨b3, b4, b5, b6⟩, b7, b8⟩ := h2
  exact ⟨⟨b1.trans a1, b2.trans a2⟩, ⟨b3.trans a3, b4.trans a4, b5.trans a5, b6.trans a6⟩, b7.trans a7, b8.trans a8⟩
theorem fD.trans {k : Nat} (h1 : fD σ σ1 k) (h2 : fD σ1 σ2 k) : fD σ σ2 k := by
  obtain ⟨⟨a1, a2⟩, ⟨a3, a4, a5, a6⟩, a7⟩ := h1
  obtain ⟨⟨b1, b2⟩, ⟨b3, b4, b5, b6⟩, b7⟩ := h2
  exact ⟨⟨b1.trans a1, b2.trans a2⟩, ⟨b3.trans a3, b4.trans a4, b5.trans a5, b6.trans a6⟩, fun i hi => ⟨(b7 i hi).1.trans (a7 i hi).1, (b7 i hi).2.trans (a7 i hi).2⟩⟩
theorem aC.I31 {f : Nat} {x : Int32} (σ : zS) : aC σ (o_I σ 31 f x) := ⟨by rw [i11, if_neg (by omega)], fun k hk => ⟨⟨by rw [i11, if_neg (by omega)], rfl⟩, ⟨by rw [i11, if_neg (by omega)], by rw [i11, if_neg (by omega)], by rw [i11, if_neg (by omega)], by rw [i11, if_neg (by omega)]⟩, rfl, rfl⟩⟩
theorem i_fun_ne {o o' f : Nat} {x : Int32} (h : o' ≠ o) : (o_I σ o f x).1 o' = σ.1 o' := funext fun j => by rw [i11, if_neg (fun z => h z.1)]
theorem fN.I31 {x : Int32} (σ : zS) : fN σ (o_I σ 31 0 x) := ⟨⟨by rw [i11, if_neg (by omega)], i_fun_ne (by decide)⟩, ⟨rfl, rfl, rfl⟩, ⟨i_fun_ne (by decide), i_fun_ne (by decide), i_fun_ne (by decide), i_fun_ne (by decide)⟩, i_fun_ne (by decide)⟩
/-- space k alike on both sides -/
def kB (T : Nat) (σ : zS) (k : Nat) : Prop := ∃ r p, (r ≤ 64 ∧ p ≤ T) ∧ σ.1 (7 + 8 * k) 2 = nI r ∧ aS r (σ.2.1 (8 + 8 * k)) (σ.2.1 (9 + 8 * k)) ∧ bQ k σ (r, σ.2.1 (8 + 8 * k), σ.2.1 (9 + 8 * k), σ.2.1 (7 + 8 * k) 3) ∧ (σ.1 (7 + 8 * k) 4 = nI p ∧ σ.1 52 k = nI p) ∧ σ.1 (7 + 8 * k) 5 = σ.1 53 k ∧ σ.1 (7 + 8 * k) 6 = σ.1 54 k ∧ σ.1 (7 + 8 * k) 7 = σ.1 51 k
def kA (T : Nat) (σ : zS) : Prop := σ.1 0 4 = σ.1 31 1 ∧ ∀ k, k < 3 → kB T σ k
theorem kB.cong {T' k : Nat} (h : kB T σ k) (hT : T ≤ T') (hC : aD σ σ1 k) (hN : fD σ σ1 k) : kB T' σ1 k := by
  obtain ⟨⟨b1, b2⟩, ⟨b3, b4, b5, b6⟩, b7, b8⟩ := hC
  obtain ⟨⟨n1, n2⟩, ⟨n3, n4, n5, n6⟩, n7⟩ := hN
  obtain ⟨r, p, ⟨a1, a2⟩, a3, a4, ⟨a5, a6, a7⟩, ⟨a8, a9⟩, a10, a11, a12⟩ := h
  refine ⟨r, p, ⟨a1, by omega⟩, b1.trans a3, by rw [b7, b8]; exact a4, ⟨n1.trans a5, ?_, ?_⟩, ⟨b3.trans a8, n3.trans a9⟩, by rw [b4, n4]; exact a10, by rw [b5, n5]; exact a11, by rw [b6, n6]; exact a12⟩
  · show aR r (σ1.2.1 (8 + 8 * k)) (σ1.2.1 (9 + 8 * k)) (65 * k) (σ1.2.1 48) (σ1.2.1 49)
    rw [b7, b8]
    exact fun i j hij => ⟨(n7 i (by omega)).1.trans (a6 i j hij).1, (n7 i (by omega)).2.trans (a6 i j hij).2⟩
  · show σ1.2.1 50 k = σ1.2.1 (7 + 8 * k) 3
    rw [n2, b2]
    exact a7
theorem kA.cong {T' : Nat} (h : kA T σ) (hT : T ≤ T') (hC : aC σ σ1) (hN : fN σ σ1) : kA T' σ1 := ⟨by rw [hC.1, hN.1.1]; exact h.1, fun k hk => (h.2 k hk).cong hT (hC.2 k hk) (hN.d k)⟩
theorem kA.two (h : kA T σ) (h1 : aC σ σ1 ∧ fN σ σ1) (h2 : aC σ1 σ2 ∧ fN σ1 σ2) : kA (T + 1) σ2 := h.cong (Nat.le_succ T) (h1.1.trans h2.1) (h1.2.trans h2.2)
theorem i_kA : kA 0 o_s0 := by
  refine ⟨rfl, fun k hk => ⟨0, 0, ⟨by omega, Nat.le_refl _⟩, ?_, ⟨fun i hi => absurd hi (Nat.not_lt_zero _), fun i j _ hj => absurd hj (Nat.not_lt_zero _)⟩, ⟨?_, fun i j hij => absurd hij (by omega), ?_⟩, ⟨?_, ?_⟩, ?_, ?_, ?_⟩⟩ <;> (rcases (by omega : k = 0 ∨ k = 1 ∨ k = 2) with rfl | rfl | rfl <;> rfl)
theorem hm_tick : zM B X τ n c s (o_I (o_I σ 31 0 0) 31 1 (σ.1 31 1 + 1)) (f_AckBookModel_tick F X (some (B + 31)) (o_w B X τ σ n c s)) := by
  have e : (o_I σ 31 0 0).1 31 1 = σ.1 31 1 := by simp [i11]
  unfold f_AckBookModel_tick
  rw [op_31_0, oi_31_1, e, op_31_1]
  exact hm_j_AckBookModel_tick _ _ _ _ _ _
theorem kA.tick {o1 o2 : zO} (h : kA T σ) (hn : 56 ≤ n) (hn1 : 56 ≤ n1) (e1 : f_AckBook_tick F X (some (B + 0)) (o_w B X τ σ n c s) = some (o1, o_w B X τ1 σ1 n1 c1 s1)) (e2 : f_AckBookModel_tick F X (some (B + 31)) (o_w B X τ1 σ1 n1 c1 s1) = some (o2, o_w B X τ1 σ2 n1 c1 s1)) : kA (T + 1) σ2 := by
  have q1 := h_tick.cells hn e1
  have q2 := hm_tick.cells hn1 e2
  have a0 : ∀ k, k < 3 → aD σ (o_I σ 0 4 (σ.1 0 4 + 1)) k := fun k hk => ⟨⟨by rw [i11, if_neg (by omega)], rfl⟩, ⟨by rw [i11, if_neg (by omega)], by rw [i11, if_neg (by omega)], by rw [i11, if_neg (by omega)], by rw [i11, if_neg (by omega)]⟩, rfl, rfl⟩
  have f0 : ∀ k, fD σ (o_I σ 0 4 (σ.1 0 4 + 1)) k := fun k => ⟨⟨by rw [i_fun_ne (by decide)], rfl⟩, ⟨by rw [i_fun_ne (by decide)], by rw [i_fun_ne (by decide)], by rw [i_fun_ne (by decide)], by rw [i_fun_ne (by decide)]⟩, fun _ _ => ⟨rfl, rfl⟩⟩
  have a1 : aC σ1 (o_I (o_I σ1 31 0 0) 31 1 (σ1.1 31 1 + 1)) := (aC.I31 σ1).trans (aC.I31 _)
  have f1 : ∀ k, fD σ1 (o_I (o_I σ1 31 0 0) 31 1 (σ1.1 31 1 + 1)) k := fun k => ⟨⟨by rw [i_fun_ne (by decide), i_fun_ne (by decide)], rfl⟩, ⟨by rw [i_fun_ne (by decide), i_fun_ne (by decide)], by rw [i_fun_ne (by decide), i_fun_ne (by decide)], by rw [i_fun_ne (by decide), i_fun_ne (by decide)], by rw [i_fun_ne (by decide), i_fun_ne (by decide)]⟩, fun _ _ => ⟨rfl, rfl⟩⟩
  refine ⟨?_, fun k hk => (h.2 k hk).cong (Nat.le_succ T) (((a0 k hk).trans (q1.1.2 k hk)).trans (aD.trans (a1.2 k hk) (q2.1.2 k hk))) (((f0 k).trans (q1.2.d k)).trans ((f1 k).trans (q2.2.d k)))⟩
  rw [q2.1.1, a1.1, q1.1.1, q2.2.1.1, i11, if_pos ⟨rfl, rfl⟩, i11, if_pos ⟨rfl, rfl⟩, q1.2.1.1, i11, if_neg (by omega), h.1]
/-- a throw that the law catches -/
theorem x_thrI {ci : Nat} {v u : Int32} {K : Int32 → zW → zR} {E : Nat → zW → zR} (hn : 56 ≤ n) (e1 : z_tI (z_thr (o_w B X τ σ n c s) ci) K E = some (.inl (some (.int v)), o_w B X τ1 σ1 n1 c1 s1)) (hE : ∀ w, E ci w = some (.inl (some (.int u)), w)) : v = u ∧ aC σ σ1 ∧ fN σ σ1 := by
  obtain ⟨w1, o1, q1, hz⟩ := z_tI_spec e1
  have hf := zH.thr _ _ q1
  unfold z_thr at q1
  split at q1
  · injection q1 with q1
    injection q1 with q2 q3
    subst q2
    rcases hz with ⟨v', a, -⟩ | ⟨x, cj, fs, a, a2, a3⟩
    · cases a
    · injection a with a
      subst a
      subst q3
      have e : (z_push (o_w B X τ σ n c s) 6 (.inr (ci, []))).2.2.2 (o_w B X τ σ n c s).1 = some (.inr (ci, [])) := if_pos rfl
      rw [e] at a2
      injection a2 with a2
      injection a2 with a2
      injection a2 with a2 _
      subst a2
      rw [hE] at a3
      injection a3 with a3
      injection a3 with a3 a4
      injection a3 with a3
      injection a3 with a3
      injection a3 with a3
      have a4 : z_push (o_w B X τ σ n c s) 6 (.inr (ci, [])) = o_w B X τ1 σ1 n1 c1 s1 := a4
      rw [a4] at hf
      exact ⟨a3.symm, hf.cells hn⟩
  · cases q1
theorem x_thrL {ci : Nat} {v u : Int32} {K : Int64 → zW → zR} {E : Nat → zW → zR} (hn : 56 ≤ n) (e1 : z_tL (z_thr (o_w B X τ σ n c s) ci) K E = some (.inl (some (.int v)), o_w B X τ1 σ1 n1 c1 s1)) (hE : ∀ w, E ci w = some (.inl (some (.int u)), w)) : v = u ∧ aC σ σ1 ∧ fN σ σ1 := by
  obtain ⟨w1, o1, q1, hz⟩ := z_tL_spec e1
  have hf := zH.thr _ _ q1
  unfold z_thr at q1
  split at q1
  · injection q1 with q1
    injection q1 with q2 q3
    subst q2
    rcases hz with ⟨v', a, -⟩ | ⟨x, cj, fs, a, a2, a3⟩
    · cases a
    · injection a with a
      subst a
      subst q3
      have e : (z_push (o_w B X τ σ n c s) 6 (.inr (ci, []))).2.2.2 (o_w B X τ σ n c s).1 = some (.inr (ci, [])) := if_pos rfl
      rw [e] at a2
      injection a2 with a2
      injection a2 with a2
      injection a2 with a2 _
      subst a2
      rw [hE] at a3
      injection a3 with a3
      injection a3 with a3 a4
      injection a3 with a3
      injection a3 with a3
      injection a3 with a3
      have a4 : z_push (o_w B X τ σ n c s) 6 (.inr (ci, [])) = o_w B X τ1 σ1 n1 c1 s1 := a4
      rw [a4] at hf
      exact ⟨a3.symm, hf.cells hn⟩
  · cases q1
theorem x_thrV {ci : Nat} {v u : Int32} {K : zW → zR} {E : Nat → zW → zR} (hn : 56 ≤ n) (e1 : z_tV (z_thr (o_w B X τ σ n c s) ci) K E = some (.inl (some (.int v)), o_w B X τ1 σ1 n1 c1 s1)) (hE : ∀ w, E ci w = some (.inl (some (.int u)), w)) : v = u ∧ aC σ σ1 ∧ fN σ σ1 := by
  obtain ⟨w1, o1, q1, hz⟩ := z_tV_spec e1
  have hf := zH.thr _ _ q1
  unfold z_thr at q1
  split at q1
  · injection q1 with q1
    injection q1 with q2 q3
    subst q2
    rcases hz with ⟨v', a, -⟩ | ⟨x, cj, fs, a, a2, a3⟩
    · cases a
    · injection a with a
      subst a
      subst q3
      have e : (z_push (o_w B X τ σ n c s) 6 (.inr (ci, []))).2.2.2 (o_w B X τ σ n c s).1 = some (.inr (ci, [])) := if_pos rfl
      rw [e] at a2
      injection a2 with a2
      injection a2 with a2
      injection a2 with a2 _
      subst a2
      rw [hE] at a3
      injection a3 with a3
      injection a3 with a3 a4
      injection a3 with a3
      injection a3 with a3
      injection a3 with a3
      have a4 : z_push (o_w B X τ σ n c s) 6 (.inr (ci, [])) = o_w B X τ1 σ1 n1 c1 s1 := a4
      rw [a4] at hf
      exact ⟨a3.symm, hf.cells hn⟩
  · cases q1
/-- an end that is known -/
theorem x_end {σE : zS} {o o' : zO} (hn : 56 ≤ n) (e : some (o, o_w B X τ σE n c s) = (some (o', o_w B X τ1 σ1 n1 c1 s1) : zR)) : o = o' ∧ (aC σE σ1 ∧ fN σE σ1) ∧ σ1.1 31 0 = σE.1 31 0 ∧ σ1.2.1 55 0 = σE.2.1 55 0 := by
  injection e with e
  injection e with e1 e2
  have q := a_eqw hn e2
  exact ⟨e1, q.1, q.2.1, q.2.2⟩
theorem aC.out (σ : zS) (v : Int64) : aC σ (o_L σ 55 0 v) := ⟨rfl, fun k hk => ⟨⟨rfl, by rw [l_fun_ne (by omega)]⟩, ⟨rfl, rfl, rfl, rfl⟩, l_fun_ne (by omega), l_fun_ne (by omega)⟩⟩
theorem fN.out (σ : zS) (v : Int64) : fN σ (o_L σ 55 0 v) := ⟨⟨rfl, rfl⟩, ⟨l_fun_ne (by decide), l_fun_ne (by decide), l_fun_ne (by decide)⟩, ⟨rfl, rfl, rfl, rfl⟩, rfl⟩
end LA
