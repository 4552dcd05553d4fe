/-! Ends, with the sending side; one space among the three. -/
section HC
variable {B X F : Nat} {τ τ1 : zK} {n c s n1 c1 s1 T : Nat} {σ σ1 σ2 : zS} {k k' m m' : Nat} {P P' : Nat → Nat} {D D' : Nat → Nat → Int32} {ft ft' : Nat → Int32} {q q' : Nat → List Nat} {S S' : Nat → Int32} {lt ga ds : Int32}
theorem x_thsI {ci : Nat} {v u : Int32} {K : Int32 → zW → zR} {E : Nat → zW → zR} (hX : X < B) (hn : 56 ≤ n) (hN : ∀ o, n ≤ o → τ o = none) (e1 : z_tI (z_thr (o_w B X τ σ n c s) ci) K E = some (.inl (some (.int v)), o_w B X τ1 σ1 n1 c1 s1)) (hE : ∀ w, E ci w = some (.inl (some (.int u)), w)) : v = u ∧ sC τ σ τ1 σ1 := by
  obtain ⟨w1, o1, q1, hz⟩ := z_tI_spec e1
  have hf := zQ.thr (x0 := B + 55) _ _ q1
  unfold z_thr at q1
  split at q1
  · injection q1 with q1
    injection q1 with q2 q3
    subst q2
    rcases hz with ⟨v', a, -⟩ | ⟨x, cj, fs, a, a2, a3⟩
    · cases a
    · injection a with a
      subst a
      subst q3
      have e : (z_push (o_w B X τ σ n c s) 6 (.inr (ci, []))).2.2.2 (o_w B X τ σ n c s).1 = some (.inr (ci, [])) := if_pos rfl
      rw [e] at a2
      injection a2 with a2
      injection a2 with a2
      injection a2 with a2 _
      subst a2
      rw [hE] at a3
      injection a3 with a3
      injection a3 with a3 a4
      injection a3 with a3
      injection a3 with a3
      injection a3 with a3
      have a4 : z_push (o_w B X τ σ n c s) 6 (.inr (ci, [])) = o_w B X τ1 σ1 n1 c1 s1 := a4
      rw [a4] at hf
      exact ⟨a3.symm, hf.sc hX hn hN⟩
  · cases q1
theorem x_thsL {ci : Nat} {v u : Int32} {K : Int64 → zW → zR} {E : Nat → zW → zR} (hX : X < B) (hn : 56 ≤ n) (hN : ∀ o, n ≤ o → τ o = none) (e1 : z_tL (z_thr (o_w B X τ σ n c s) ci) K E = some (.inl (some (.int v)), o_w B X τ1 σ1 n1 c1 s1)) (hE : ∀ w, E ci w = some (.inl (some (.int u)), w)) : v = u ∧ sC τ σ τ1 σ1 := by
  obtain ⟨w1, o1, q1, hz⟩ := z_tL_spec e1
  have hf := zQ.thr (x0 := B + 55) _ _ q1
  unfold z_thr at q1
  split at q1
  · injection q1 with q1
    injection q1 with q2 q3
    subst q2
    rcases hz with ⟨v', a, -⟩ | ⟨x, cj, fs, a, a2, a3⟩
    · cases a
    · injection a with a
      subst a
      subst q3
      have e : (z_push (o_w B X τ σ n c s) 6 (.inr (ci, []))).2.2.2 (o_w B X τ σ n c s).1 = some (.inr (ci, [])) := if_pos rfl
      rw [e] at a2
      injection a2 with a2
      injection a2 with a2
      injection a2 with a2 _
      subst a2
      rw [hE] at a3
      injection a3 with a3
      injection a3 with a3 a4
      injection a3 with a3
      injection a3 with a3
      injection a3 with a3
      have a4 : z_push (o_w B X τ σ n c s) 6 (.inr (ci, [])) = o_w B X τ1 σ1 n1 c1 s1 := a4
      rw [a4] at hf
      exact ⟨a3.symm, hf.sc hX hn hN⟩
  · cases q1
theorem x_thsV {ci : Nat} {v u : Int32} {K : zW → zR} {E : Nat → zW → zR} (hX : X < B) (hn : 56 ≤ n) (hN : ∀ o, n ≤ o → τ o = none) (e1 : z_tV (z_thr (o_w B X τ σ n c s) ci) K E = some (.inl (some (.int v)), o_w B X τ1 σ1 n1 c1 s1)) (hE : ∀ w, E ci w = some (.inl (some (.int u)), w)) : v = u ∧ sC τ σ τ1 σ1 := by
  obtain ⟨w1, o1, q1, hz⟩ := z_tV_spec e1
  have hf := zQ.thr (x0 := B + 55) _ _ q1
  unfold z_thr at q1
  split at q1
  · injection q1 with q1
    injection q1 with q2 q3
    subst q2
    rcases hz with ⟨v', a, -⟩ | ⟨x, cj, fs, a, a2, a3⟩
    · cases a
    · injection a with a
      subst a
      subst q3
      have e : (z_push (o_w B X τ σ n c s) 6 (.inr (ci, []))).2.2.2 (o_w B X τ σ n c s).1 = some (.inr (ci, [])) := if_pos rfl
      rw [e] at a2
      injection a2 with a2
      injection a2 with a2
      injection a2 with a2 _
      subst a2
      rw [hE] at a3
      injection a3 with a3
      injection a3 with a3 a4
      injection a3 with a3
      injection a3 with a3
      injection a3 with a3
      have a4 : z_push (o_w B X τ σ n c s) 6 (.inr (ci, [])) = o_w B X τ1 σ1 n1 c1 s1 := a4
      rw [a4] at hf
      exact ⟨a3.symm, hf.sc hX hn hN⟩
  · cases q1
theorem x_ens {σE : zS} {o o' : zO} (hX : X < B) (hn : 56 ≤ n) (hN : ∀ o, n ≤ o → τ o = none) (e : some (o, o_w B X τ σE n c s) = (some (o', o_w B X τ1 σ1 n1 c1 s1) : zR)) : o = o' ∧ sC τ σE τ1 σ1 ∧ σ1.2.1 55 0 = σE.2.1 55 0 := by
  have h3 := (x_end hn e).2.2.2
  injection e with e
  injection e with e1 e2
  have hk : kQ (B + 55) (o_w B X τ σE n c s) (o_w B X τ1 σ1 n1 c1 s1) := by
    rw [e2]
    exact kQ.refl _
  exact ⟨e1, hk.sc hX hn hN, h3⟩
def uk {α : Type} (f : Nat → α) (k : Nat) (x : α) : Nat → α := fun j => if j = k then x else f j
theorem uk_at {α : Type} (f : Nat → α) (k : Nat) (x : α) : uk f k x k = x := if_pos rfl
theorem uk_ne {α : Type} (f : Nat → α) {j k : Nat} (x : α) (h : j ≠ k) : uk f k x j = f j := if_neg h
/-- by the cells of one space -/
theorem cS.cell (hS : cS τ σ k P m D ft q S) (h1 : ∀ o, (o = 3 + 8 * k ∨ o = 6 + 8 * k ∨ ∃ i, i < m ∧ o = P i) → σ1.1 o = σ.1 o) (h2 : ∀ o, (o = 4 + 8 * k ∨ o = 5 + 8 * k ∨ o = 6 + 8 * k ∨ (∃ i, i < m ∧ o = P i) ∨ ∃ cap, o_ar τ o cap) → σ1.2.2 o = σ.2.2 o) : cS τ σ1 k P m D ft q S := by
  obtain ⟨⟨hA, hI, hP⟩, hQ, hSt⟩ := hS
  refine ⟨⟨⟨⟨by rw [h1 _ (Or.inr (Or.inl rfl))]; exact hA.1.1, hA.1.2⟩, ?_⟩, hI, fun i hi => ?_⟩, fun b hb => ⟨(hQ b hb).1.cong (h2 _ (by omega)) (fun a ha => by rw [h2 (P a) (Or.inr (Or.inr (Or.inr (Or.inl ⟨a, ((hQ b hb).2.2 a ha).1, rfl⟩))))]), (hQ b hb).2⟩, fun f f1 f2 => by rw [h1 _ (Or.inl rfl)]; exact hSt f f1 f2⟩
  · rcases hA.2 with z | ⟨e, cap, g1, g2, g3, g4, g5⟩
    · exact Or.inl ⟨z.1, by rw [h2 _ (Or.inr (Or.inr (Or.inl rfl)))]; exact z.2⟩
    · exact Or.inr ⟨e, cap, by rw [h2 _ (Or.inr (Or.inr (Or.inl rfl)))]; exact g1, g2, g3, g4, fun i hi => by rw [h2 e (Or.inr (Or.inr (Or.inr (Or.inr ⟨cap, g2⟩))))]; exact g5 i hi⟩
  · rw [h1 (P i) (Or.inr (Or.inr ⟨i, hi, rfl⟩)), h2 (P i) (Or.inr (Or.inr (Or.inr (Or.inl ⟨i, hi, rfl⟩))))]
    exact hP i hi
theorem cS.oth (hS : cS τ σ k' P' m' D' ft' q' S') (h0 : ∀ i, i < m → o_pk τ (P i)) (hU : cU k P m σ σ1) (hk : k < 3) (hk' : k' < 3) (hne : k' ≠ k) (hd : ∀ i j, i < m' → j < m → P' i ≠ P j) : cS τ σ1 k' P' m' D' ft' q' S' := by
  have h56 : ∀ i, i < m → 56 ≤ P i := fun i hi => (h0 i hi).1
  have h56' : ∀ i, i < m' → 56 ≤ P' i := fun i hi => (hS.1.2.2 i hi).1.1.1
  refine hS.cell (fun o ho => ?_) (fun o ho => ?_)
  · rcases ho with rfl | rfl | ⟨i, hi, rfl⟩
    · exact funext fun f => (hU.2 _ (by omega) (by omega) (by omega) (by omega) (by omega) (fun i hi => by have := h56 i hi; omega)).2 f (by omega)
    · exact funext fun f => (hU.2 _ (by omega) (by omega) (by omega) (by omega) (by omega) (fun i hi => by have := h56 i hi; omega)).2 f (by omega)
    · have := h56' i hi
      exact funext fun f => (hU.2 _ (by omega) (by omega) (by omega) (by omega) (by omega) (fun j hj => hd i j hi hj)).2 f (by omega)
  · rcases ho with rfl | rfl | rfl | ⟨i, hi, rfl⟩ | ⟨cap, ho⟩
    · exact (hU.2 _ (by omega) (by omega) (by omega) (by omega) (by omega) (fun i hi => by have := h56 i hi; omega)).1
    · exact (hU.2 _ (by omega) (by omega) (by omega) (by omega) (by omega) (fun i hi => by have := h56 i hi; omega)).1
    · exact (hU.2 _ (by omega) (by omega) (by omega) (by omega) (by omega) (fun i hi => by have := h56 i hi; omega)).1
    · have := h56' i hi
      exact (hU.2 _ (by omega) (by omega) (by omega) (by omega) (by omega) (fun j hj => hd i j hi hj)).1
    · have := ho.1
      refine (hU.2 _ (by omega) (by omega) (by omega) (by omega) (by omega) (fun j hj w => ?_)).1
      have e1 := ho.2
      rw [w, (h0 j hj).2] at e1
      cases e1
theorem mS.oth (hS : mS σ k' m' D' ft' q' lt ga ds) (hU : nU k σ σ1) (hne : k' ≠ k) (hk : k < 3) (hk' : k' < 3) : mS σ1 k' m' D' ft' q' lt ga ds := by
  obtain ⟨⟨a1, a2, a3⟩, b, d, f1, f2⟩ := hS
  have e : ∀ o f, o ≠ 31 → ¬ (o = 35 ∧ 4096 * k ≤ f ∧ f < 4096 * k + 4096) → ¬ (o = 42 ∧ 4096 * (2 * k) ≤ f ∧ f < 4096 * (2 * k) + 8192) → ¬ (o = 43 ∧ 2 * k ≤ f ∧ f < 2 * k + 2) → ¬ ((o = 40 ∨ o = 41) ∧ f = k) → σ1.1 o f = σ.1 o f := fun o f p0 p1 p2 p3 p4 => hU.2 o f p1 p2 p3 p4 (fun w => p0 w.1)
  refine ⟨⟨(e 32 _ (by omega) (by omega) (by omega) (by omega) (by omega)).trans a1, a2, (e 39 _ (by omega) (by omega) (by omega) (by omega) (by omega)).trans a3⟩, fun i hi => ?_, fun b' hb' => ?_, (e 41 _ (by omega) (by omega) (by omega) (by omega) (by omega)).trans f1, (e 40 _ (by omega) (by omega) (by omega) (by omega) (by omega)).trans f2⟩
  · rw [e 33 _ (by omega) (by omega) (by omega) (by omega) (by omega), e 34 _ (by omega) (by omega) (by omega) (by omega) (by omega), e 36 _ (by omega) (by omega) (by omega) (by omega) (by omega), e 37 _ (by omega) (by omega) (by omega) (by omega) (by omega), e 38 _ (by omega) (by omega) (by omega) (by omega) (by omega), e 35 _ (by omega) (by omega) (by omega) (by omega) (by omega)]
    exact b i hi
  · obtain ⟨h', t', ⟨g1, g2⟩, g3, g4, g5⟩ := d b' hb'
    refine ⟨h', t', ⟨(e 44 _ (by omega) (by omega) (by omega) (by omega) (by omega)).trans g1, (e 43 _ (by omega) (by omega) (by omega) (by omega) (by omega)).trans g2⟩, g3, g4, fun j x hx => (e 42 _ (by omega) (by omega) ?_ (by omega) (by omega)).trans (g5 j x hx)⟩
    have := cn_le (nI (b' + 1)) ft' m'
    have hj : j < (q' b').length := (List.getElem?_eq_some_iff.mp hx).1
    omega
theorem nw_nil {inC : Nat → Bool} : ∀ y : Nat, nw ft inC y = [] → fy ft inC y = ft
  | 0, _ => funext fun a => if_neg (fun w => absurd w.1 (Nat.not_lt_zero _))
  | y + 1, h => by
    rw [nw] at h
    by_cases w : inC y = true ∧ ft y = 0
    · simp [w] at h
    · have h' : nw ft inC y = [] := by simpa [w] using h
      by_cases w2 : ft y = 0
      · rw [fy_skip (y := y) (Nat.le_succ y) (fun a h1 h2 h3 => w ⟨by rw [← (by omega : a = y)]; exact h3, w2⟩)]
        exact nw_nil y h'
      · rw [fy_keep w2]
        exact nw_nil y h'
end HC
