/-! next, both sides. -/
section IA
variable {B X F : Nat} {τ τ1 : zK} {n c s n1 c1 s1 T : Nat} {σ σ1 σ2 σ3 : zS}
def hdI : List Nat → Int32
  | [] => -1
  | a :: _ => nI a
section IA1
variable {P : Nat → Nat} {m : Nat} {D : Nat → Nat → Int32} {ft : Nat → Int32} {q q' : Nat → List Nat} {S : Nat → Int32} {k b : Nat} {lt ga ds : Int32}
theorem d_pop (hk : k < 3) (hb : b < 2) (hS : cS τ σ k P m D ft q S) : ∃ σ', f_AckBook_Chain_removeFirst F X (some (B + (4 + b + 8 * k))) (o_w B X τ σ n c s) = some (.inl (some (.int (hdI (q b)))), o_w B X τ σ' n c s) ∧ cU k P m σ σ' ∧ σ'.1 = σ.1 ∧ cS τ σ' k P m D ft (uk q b (q b).tail) S := by
  have hc : 4 + b + 8 * k = 4 + 8 * k ∨ 4 + b + 8 * k = 5 + 8 * k := by omega
  obtain ⟨⟨c1, c2, c3⟩, hnd, hmem⟩ := hS.2.1 b hb
  have hput : ∀ (x : Option Nat) (K : zW → zR), z_put (o_w B X τ σ n c s) 3 0 (some (B + (4 + b + 8 * k))) (va_rf (x.map (B + ·))) K = K (o_w B X τ (o_R σ (4 + b + 8 * k) 0 x) n c s) := fun x K => by
    rcases (by omega : b = 0 ∨ b = 1) with rfl | rfl
    · exact opr_s4_0 hk x K
    · exact opr_s5_0 hk x K
  unfold f_AckBook_Chain_removeFirst
  simp only [c_chG hk hc (Or.inl rfl), c1]
  cases hq : q b with
  | nil =>
    simp only [List.head?_nil, Option.map_none, if_true, List.tail_nil]
    refine ⟨σ, rfl, ⟨rfl, fun _ _ _ _ _ _ _ => ⟨rfl, fun _ _ => rfl⟩⟩, rfl, hS.1, fun b' hb' => ?_, hS.2.2⟩
    by_cases e : b' = b
    · subst e
      rw [uk_at, ← hq]
      exact hS.2.1 b' hb'
    · rw [uk_ne _ _ e]
      exact hS.2.1 b' hb'
  | cons a r =>
    have ha := hmem a (by rw [hq]; simp)
    have hpk := (hS.1.2.2 a ha.1).1.1
    have h56 : ∀ j, j < m → 56 ≤ P j := fun j hj => (hS.1.2.2 j hj).1.1.1
    have hl : σ.2.2 (P a) 7 = r.head?.map P := by
      rw [hq] at c3
      cases r with
      | nil => exact c3
      | cons a' r' => exact c3.1
    simp only [List.head?_cons, Option.map_some, reduceCtorEq, if_false, d_gI hpk 0 (by omega), d_gR hpk, hput, List.tail_cons, (hS.1.2.2 a ha.1).1.2]
    have r0 : ∀ o f, o ≠ 4 + b + 8 * k → (o_R σ (4 + b + 8 * k) 0 (σ.2.2 (P a) 7)).2.2 o f = σ.2.2 o f := fun o f ho => by rw [r13, if_neg (fun w => ho w.1)]
    refine ⟨_, rfl, ⟨rfl, fun o _ _ _ p4 p5 _ => ⟨funext fun f => r0 o f (by omega), fun _ _ => rfl⟩⟩, rfl, ?_⟩
    have hS' : ∀ o, o ≠ 4 + b + 8 * k → (o_R σ (4 + b + 8 * k) 0 (σ.2.2 (P a) 7)).2.2 o = σ.2.2 o := fun o ho => funext fun f => r0 o f ho
    refine ⟨⟨⟨hS.1.1.1, ?_⟩, hS.1.2.1, fun i hi => ?_⟩, fun b' hb' => ?_, hS.2.2⟩
    · rcases hS.1.1.2 with w | ⟨e, cap, g1, g2, g3, g4, g5⟩
      · exact Or.inl ⟨w.1, by rw [hS' _ (by omega)]; exact w.2⟩
      · exact Or.inr ⟨e, cap, by rw [hS' _ (by omega)]; exact g1, g2, g3, g4, fun i hi => by rw [hS' _ (by have := g2.1; omega)]; exact g5 i hi⟩
    · rw [hS' _ (by have := h56 i hi; omega)]
      exact hS.1.2.2 i hi
    · by_cases e : b' = b
      · subst e
        rw [uk_at]
        rw [hq] at hnd hmem c3 c2
        refine ⟨⟨by rw [r13, if_pos ⟨rfl, rfl⟩, hl], fun hne => ?_, c3.tail.cong (fun x hx => r0 _ _ (by have := h56 x (hmem x (List.mem_cons_of_mem _ hx)).1; omega))⟩, (List.nodup_cons.mp hnd).2, fun x hx => hmem x (List.mem_cons_of_mem _ hx)⟩
        rw [r13, if_neg (by omega), c2 (by simp)]
        cases r with
        | nil => exact absurd rfl hne
        | cons a' r' => rw [List.getLast?_cons_cons]
      · rw [uk_ne _ _ e]
        have := hS.2.1 b' hb'
        exact ⟨this.1.cong (hS' _ (by omega)) (fun x hx => r0 _ _ (by have := h56 x (this.2.2 x hx).1; omega)), this.2⟩
theorem mS.q44 (hS : mS σ k m D ft q lt ga ds) (h1 : ∀ o f, o ≠ 31 → o ≠ 44 → σ1.1 o f = σ.1 o f) (hq : ∀ b, b < 2 → qM σ1 (2 * k + b) (q' b) (cn (nI (b + 1)) ft m)) : mS σ1 k m D ft q' lt ga ds := by
  obtain ⟨⟨a1, a2, a3⟩, b, d, f1, f2⟩ := hS
  refine ⟨⟨(h1 _ _ (by decide) (by decide)).trans a1, a2, (h1 _ _ (by decide) (by decide)).trans a3⟩, fun i hi => ?_, hq, (h1 _ _ (by decide) (by decide)).trans f1, (h1 _ _ (by decide) (by decide)).trans f2⟩
  rw [h1 33 _ (by decide) (by decide), h1 34 _ (by decide) (by decide), h1 36 _ (by decide) (by decide), h1 37 _ (by decide) (by decide), h1 38 _ (by decide) (by decide), h1 35 _ (by decide) (by decide)]
  exact b i hi
theorem qM.cong {l bnd : Nat} {L : List Nat} (h : qM σ l L bnd) (h1 : σ1.1 44 l = σ.1 44 l) (h2 : σ1.1 43 l = σ.1 43 l) (h3 : ∀ f, σ1.1 42 f = σ.1 42 f) : qM σ1 l L bnd := by
  obtain ⟨h', t', ⟨g1, g2⟩, g3, g4, g5⟩ := h
  exact ⟨h', t', ⟨h1.trans g1, h2.trans g2⟩, g3, g4, fun j x hx => (h3 _).trans (g5 j x hx)⟩
theorem n_26 {l bnd : Nat} {L : List Nat} (hq : qM σ l L bnd) (hl : l < 6) (hb : bnd ≤ 4096) (x y : Int32) (e : x + y = nI l) : ∃ σ', q_AckBookModel_next_26 F X (some (B + 31)) x y (o_w B X τ σ n c s) = some (.inl (some (.int (hdI L))), o_w B X τ σ' n c s) ∧ (∀ o f, ¬ (o = 44 ∧ f = l) → σ'.1 o f = σ.1 o f) ∧ σ'.2 = σ.2 ∧ qM σ' l L.tail bnd := by
  obtain ⟨h', t', ⟨g1, g2⟩, g3, g4, g5⟩ := hq
  unfold q_AckBookModel_next_26
  simp (disch := omega) only [e, or_31_17, oln_44, or_31_16, oln_43, g1, g2]
  cases hL : L with
  | nil =>
    rw [hL] at g3
    have g3 : t' = h' := g3
    rw [if_pos (by rw [g3])]
    exact ⟨σ, rfl, fun _ _ _ => rfl, rfl, h', t', ⟨g1, g2⟩, g3, g4, fun j x hx => by simp at hx⟩
  | cons a r =>
    rw [hL] at g3 g5
    have g3 : t' = h' + (r.length + 1) := g3
    rw [if_neg (fun w => by rw [e_eq (by omega) (by omega)] at w; omega)]
    have e44 : (o_I σ 44 l (nI h' + 1)).1 44 l = nI (h' + 1) := by rw [i11, if_pos ⟨rfl, rfl⟩]; exact nI_add h' 1
    have ei : (4096 : Int32) * nI l + nI (h' + 1) - 1 = nI (4096 * l + h') := by
      rw [show (4096 : Int32) * nI l = nI (4096 * l) from pk_mul 4096 l, nI_add, e_m1 (by omega)]
      rfl
    have e42 : (o_I σ 44 l (nI h' + 1)).1 42 (4096 * l + h') = nI a := by
      rw [i11, if_neg (by omega)]
      exact g5 0 a rfl
    simp (disch := omega) only [osn_44, or_31_15, or_31_17, oln_44, e44, ei, oln_42, e42]
    refine ⟨_, rfl, fun o f w => by rw [i11, if_neg (fun u => w ⟨u.1, u.2⟩)], rfl, h' + 1, t', ⟨e44, by rw [i11, if_neg (by omega)]; exact g2⟩, by rw [List.tail_cons]; omega, g4, fun j x hx => ?_⟩
    rw [i11, if_neg (by omega), show h' + 1 + j = h' + (j + 1) by omega]
    exact g5 (j + 1) x hx
end IA1
end IA
