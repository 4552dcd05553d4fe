/-! send, on the class's side. -/
section IF
variable {B X F : Nat} {τ τ1 τ2 : zK} {n c s n1 c1 s1 T : Nat} {σ σ1 σ2 σ3 : zS}
section IF1
variable {P : Nat → Nat} {m : Nat} {D : Nat → Nat → Int32} {ft : Nat → Int32} {q : Nat → List Nat} {S : Nat → Int32} {k p : Nat}
/-- the class's list with one packet more -/
theorem d_add (hA : dA τ σ P m k) (hpk : ∀ i, i < m → o_pk τ (P i)) (hm : m < 512) (hX : X < B) (hN : 56 ≤ n ∧ ∀ o, n ≤ o → τ o = none) (hc : 2 ≤ c) (hs : 2000 ≤ s) (hk : k < 3) (hp : o_pk τ p) : ∃ τ' σ' n' c' s', f_ArrayList_add2 F X (some (B + (6 + 8 * k))) (some (B + p)) (o_w B X τ σ n c s) = some (.inl (some (.int 1)), o_w B X τ' σ' n' c' s') ∧ dA τ' σ' (uk P m p) (m + 1) k ∧ (56 ≤ n' ∧ ∀ o, n' ≤ o → τ' o = none) ∧ (∀ o, o_pk τ o → o_pk τ' o) ∧ (∀ o cp, o_ar τ o cp → o_ar τ' o cp) ∧ (∀ o, o ≠ 6 + 8 * k → o ≠ n → σ'.1 o = σ.1 o) ∧ σ'.2.1 = σ.2.1 ∧ ∀ o, o ≠ 6 + 8 * k → o ≠ n → σ.2.2 (6 + 8 * k) 0 ≠ some o → σ'.2.2 o = σ.2.2 o := by
  obtain ⟨n1, n2⟩ := hN
  obtain ⟨⟨a1, am⟩, a3⟩ := hA
  have ne1 : ∀ q, o_pk τ q → q ≠ n := fun q h => by
    rintro rfl
    have h2 := h.2
    rw [n2 q (Nat.le_refl _)] at h2
    cases h2
  have ne2 : ∀ e cp, o_ar τ e cp → e ≠ n := fun e cp h => by
    rintro rfl
    have h2 := h.2
    rw [n2 e (Nat.le_refl _)] at h2
    cases h2
  have kp : ∀ t o, o_pk τ o → o_pk (o_kd τ n t) o := fun t o h => ⟨h.1, by unfold o_kd; rw [if_neg (ne1 o h)]; exact h.2⟩
  have ka : ∀ t o cp, o_ar τ o cp → o_ar (o_kd τ n t) o cp := fun t o cp h => ⟨h.1, by unfold o_kd; rw [if_neg (ne2 o cp h)]; exact h.2⟩
  have fresh : ∀ t, 56 ≤ n + 1 ∧ ∀ o, n + 1 ≤ o → o_kd τ n t o = none := fun t => ⟨by omega, fun o ho => by unfold o_kd; rw [if_neg (by omega)]; exact n2 o (by omega)⟩
  have eN : (o_I σ (6 + 8 * k) 2 (σ.1 (6 + 8 * k) 2 + 1)).1 (6 + 8 * k) 1 = nI m := by rw [i11, if_neg (by omega)]; exact a1
  unfold f_ArrayList_add2
  simp only [oi_s6_2 hk, op_s6_2 hk, or_s6_0 hk, oi_s6_1 hk, eN, ot_s6 hk]
  rcases a3 with ⟨a4, a3⟩ | ⟨e, cap, g1, g2, g3, g4, g5⟩
  · have hE : o_E B X ((o_I σ (6 + 8 * k) 2 (σ.1 (6 + 8 * k) 2 + 1)).2.2 (6 + 8 * k) 0) = X := by
      show o_E B X (σ.2.2 (6 + 8 * k) 0) = X
      rw [a3]; rfl
    rw [a4] at eN ⊢
    unfold f_ArrayList_add
    simp only [hE, d_lenX hX]
    rw [if_pos (show nI 0 = Int32.ofNat 0 from rfl)]
    unfold f_ArrayList_grow2 f_ArrayList_grow
    simp only [ot_s6 hk, oi_s6_1 hk, eN, or_s6_0 hk, hE, d_lenX hX]
    rw [if_neg (by decide), if_pos trivial, if_neg (by decide), d_newa n1, show (10 : Int32).toNatClampNeg = 10 from by decide, if_pos ⟨by decide, by decide, by omega, by omega⟩]
    simp only [opr_s6_0 hk, y_cRv, q_ArrayList_add_11]
    have hn' : o_ar (o_kd τ n (.inr 10)) n 10 := ⟨n1, by unfold o_kd; rw [if_pos rfl]⟩
    rw [d_stR hn' (kp _ p hp), if_pos (nI_in (show 0 < 10 by omega) (by decide)), nI_clamp (show 0 < 2 ^ 31 by omega)]
    simp only [op_s6_1 hk, nI_1, y_cV]
    refine ⟨_, _, _, _, _, rfl, ⟨⟨?_, by omega⟩, Or.inr ⟨n, 10, ?_, hn', by omega, by omega, fun i hi => ?_⟩⟩, fresh _, kp _, ka _, fun o ho ho2 => ?_, rfl, fun o ho ho2 ho3 => ?_⟩
    · rw [i11, if_pos ⟨rfl, rfl⟩]
    · rw [i12, r13, if_neg (by omega), r13, if_pos ⟨rfl, rfl⟩]
    · obtain rfl : i = 0 := by omega
      rw [i12, r13, if_pos ⟨rfl, rfl⟩, uk_at]
    · funext b
      rw [i11, if_neg (fun z => ho z.1)]
      show (o_clr (o_I σ (6 + 8 * k) 2 (σ.1 (6 + 8 * k) 2 + 1)) n).1 o b = σ.1 o b
      rw [c11, if_neg ho2, i11, if_neg (fun z => ho z.1)]
    · funext b
      rw [i12, r13, if_neg (fun z => ho2 z.1), r13, if_neg (fun z => ho z.1), c13, if_neg ho2, i12]
  · have hE : o_E B X ((o_I σ (6 + 8 * k) 2 (σ.1 (6 + 8 * k) 2 + 1)).2.2 (6 + 8 * k) 0) = B + e := by
      show o_E B X (σ.2.2 (6 + 8 * k) 0) = B + e
      rw [g1]; rfl
    have he56 := g2.1
    have hen : e ≠ n := ne2 e cap g2
    unfold f_ArrayList_add
    simp only [hE, d_len g2]
    by_cases hf : m = cap
    · -- it grows
      rw [hf, if_pos (show nI cap = Int32.ofNat cap from rfl)]
      rw [hf] at eN
      have hcl : cap < 1024 := by omega
      obtain ⟨gr, hgr, hgr1, hgr2⟩ : ∃ gr, (if nI 1 < nI (cap / 2) then nI (cap / 2) else nI 1) = nI gr ∧ 1 ≤ gr ∧ gr ≤ cap / 2 + 1 := by
        by_cases q : 1 < cap / 2
        · exact ⟨cap / 2, by rw [if_pos (nI_lt q (by omega))], by omega, by omega⟩
        · exact ⟨1, by rw [if_neg (nI_nlt (by omega) (by omega))], by omega, by omega⟩
      have hsh : nI cap >>> ((1 : Int32) &&& 31) = nI (cap / 2) := by
        rw [show ((1 : Int32) &&& 31) = 1 from by decide]
        exact pk_shrN (by omega) 1 1 (by decide)
      have hsb : nI (cap + 1) - Int32.ofNat cap = nI 1 := by
        have := pk_sub (a := cap + 1) (b := cap) (by omega)
        rw [show cap + 1 - cap = 1 from by omega] at this
        exact this
      have hnl : ∀ w : zW, f_ArraysSupport_newLength F X (nI cap) (nI 1) (nI (cap / 2)) w = some (.inl (some (.int (nI (cap + gr)))), w) := fun w => by
        unfold f_ArraysSupport_newLength
        rw [hgr, nI_add, if_neg (show ¬ nI (cap + gr) ≤ (0 : Int32) from nI_nle (by omega) (by omega)), if_neg (show ¬ (2147483639 : Int32) < nI (cap + gr) from nI_nlt (a := 2147483639) (b := cap + gr) (by omega) (by decide))]
      unfold f_ArrayList_grow2 f_ArrayList_grow
      simp only [ot_s6 hk, oi_s6_1 hk, eN, nI_1, or_s6_0 hk, hE, d_len g2]
      rw [if_pos (show 0 < Int32.ofNat cap from nI_lt (a := 0) (b := cap) (by omega) (by omega))]
      unfold q_ArrayList_grow_20
      rw [hsb, show Int32.ofNat cap = nI cap from rfl, hsh, hnl]
      have hn' : o_ar (o_kd τ n (.inr (cap + gr))) n (cap + gr) := ⟨n1, by unfold o_kd; rw [if_pos rfl]⟩
      have he' : o_ar (o_kd τ n (.inr (cap + gr))) e cap := ka _ e cap g2
      simp only [y_cI, or_s6_0 hk, hE]
      unfold f_Arrays_copyOf2 f_Arrays_copyOf
      rw [d_isAr g2, d_newa n1, nI_clamp (show cap + gr < 2 ^ 31 by omega), if_pos ⟨nI_pos (by omega), by omega, by omega, by omega⟩]
      unfold q_Arrays_copyOf_24
      rw [d_len he', show Int32.ofNat cap = nI cap from rfl, if_neg (nI_nlt (by omega) (by omega))]
      have hel : ∀ i, i < cap → (o_clr (o_I σ (6 + 8 * k) 2 (σ.1 (6 + 8 * k) 2 + 1)) n).2.2 e i = none ∨ ∃ q, (o_clr (o_I σ (6 + 8 * k) 2 (σ.1 (6 + 8 * k) 2 + 1)) n).2.2 e i = some q ∧ o_pk (o_kd τ n (.inr (cap + gr))) q := fun i hi => by
        rw [c13, if_neg hen, i12]
        exact Or.inr ⟨P i, g5 i (by omega), kp _ _ (hpk i (by omega))⟩
      rw [d_acp he' hn' (Nat.le_refl cap) (by omega) (by omega) (by omega) hel]
      simp only [y_cRv, opr_s6_0 hk, q_ArrayList_add_11]
      rw [d_stR hn' (kp _ p hp), if_pos (nI_in (show cap < cap + gr by omega) (by omega)), nI_clamp (show cap < 2 ^ 31 by omega)]
      simp only [op_s6_1 hk, nI_1, y_cV]
      refine ⟨_, _, _, _, _, rfl, ⟨⟨?_, by omega⟩, Or.inr ⟨n, cap + gr, ?_, hn', by omega, by omega, fun j hj => ?_⟩⟩, fresh _, kp _, ka _, fun o ho ho2 => ?_, rfl, fun o ho ho2 ho3 => ?_⟩
      · rw [i11, if_pos ⟨rfl, rfl⟩]
      · rw [i12, r13, if_neg (by omega), r13, if_pos ⟨rfl, rfl⟩]
      · rw [i12, r13]
        by_cases q : j = cap
        · rw [if_pos ⟨rfl, q⟩, q, uk_at]
        · rw [if_neg (fun z => q z.2), r13, if_neg (by omega), p13, if_pos rfl, if_pos (by omega), c13, if_neg hen, i12, uk_ne _ _ q]
          exact g5 j (by omega)
      · funext b
        rw [i11, if_neg (fun z => ho z.1)]
        show (o_clr (o_I σ (6 + 8 * k) 2 (σ.1 (6 + 8 * k) 2 + 1)) n).1 o b = σ.1 o b
        rw [c11, if_neg ho2, i11, if_neg (fun z => ho z.1)]
      · funext b
        rw [i12, r13, if_neg (fun z => ho2 z.1), r13, if_neg (fun z => ho z.1), p13, if_neg ho2, c13, if_neg ho2, i12]
    · -- there is room
      rw [if_neg (show ¬ nI m = Int32.ofNat cap from fun q => hf ((nI_eq (by omega) (by omega)).mp q))]
      unfold q_ArrayList_add_11
      rw [d_stR g2 hp, if_pos (nI_in (show m < cap by omega) (by omega)), nI_clamp (show m < 2 ^ 31 by omega)]
      simp only [op_s6_1 hk, nI_1, y_cV]
      refine ⟨_, _, _, _, _, rfl, ⟨⟨?_, by omega⟩, Or.inr ⟨e, cap, ?_, g2, by omega, by omega, fun j hj => ?_⟩⟩, ⟨n1, n2⟩, fun _ h => h, fun _ _ h => h, fun o ho ho2 => ?_, rfl, fun o ho ho2 ho3 => ?_⟩
      · rw [i11, if_pos ⟨rfl, rfl⟩]
      · rw [i12, r13, if_neg (by omega), i12]
        exact g1
      · rw [i12, r13]
        by_cases q : j = m
        · rw [if_pos ⟨rfl, q⟩, q, uk_at]
        · rw [if_neg (fun z => q z.2), uk_ne _ _ q]
          exact g5 j (by omega)
      · funext b
        rw [i11, if_neg (fun z => ho z.1), r11, i11, if_neg (fun z => ho z.1)]
      · funext b
        rw [i12, r13, if_neg (fun z => ho3 (by rw [g1, z.1])), i12]
theorem lnk.eqP {P' : Nat → Nat} : ∀ {l : List Nat}, (∀ a, a ∈ l → P' a = P a) → lnk σ P l → lnk σ P' l
  | [], _, _ => trivial
  | [a], h, q => by
    show σ.2.2 (P' a) 7 = none
    rw [h a (by simp)]
    exact q
  | a :: b :: t, h, q => ⟨by rw [h a (by simp), h b (by simp)]; exact q.1, lnk.eqP (l := b :: t) (fun x hx => h x (List.mem_cons_of_mem _ hx)) q.2⟩
theorem dC.eqP {P' : Nat → Nat} {ch : Nat} {l : List Nat} (h : ∀ a, a ∈ l → P' a = P a) (hC : dC σ P ch l) : dC σ P' ch l := by
  refine ⟨hC.1.trans ?_, fun hne => (hC.2.1 hne).trans ?_, hC.2.2.eqP h⟩
  · cases l with
    | nil => rfl
    | cons a t =>
      show some (P a) = some (P' a)
      rw [h a (by simp)]
  · cases hz : l.getLast? with
    | none => rfl
    | some z =>
      show some (P z) = some (P' z)
      rw [h z (List.mem_of_getLast? hz)]
/-- another space, by its cells -/
theorem cS.far (hS : cS τ σ k P m D ft q S) (kp : ∀ o, o_pk τ o → o_pk τ1 o) (ka : ∀ o cp, o_ar τ o cp → o_ar τ1 o cp) (h1 : ∀ o, (o = 3 + 8 * k ∨ o = 6 + 8 * k ∨ ∃ i, i < m ∧ o = P i) → σ1.1 o = σ.1 o) (h2 : ∀ o, (o = 4 + 8 * k ∨ o = 5 + 8 * k ∨ o = 6 + 8 * k ∨ ∃ i, i < m ∧ o = P i) → σ1.2.2 o = σ.2.2 o) (h3 : ∀ e cp, 0 < m → σ.2.2 (6 + 8 * k) 0 = some e → o_ar τ e cp → σ.2.2 e 0 = some (P 0) → σ1.2.2 e = σ.2.2 e) : cS τ1 σ1 k P m D ft q S := by
  obtain ⟨⟨hA, hI, hP⟩, hQ, hSt⟩ := hS
  refine ⟨⟨⟨⟨by rw [h1 _ (Or.inr (Or.inl rfl))]; exact hA.1.1, hA.1.2⟩, ?_⟩, hI, fun i hi => ?_⟩, fun b hb => ⟨(hQ b hb).1.cong (h2 _ (by omega)) (fun a ha => by rw [h2 (P a) (Or.inr (Or.inr (Or.inr ⟨a, ((hQ b hb).2.2 a ha).1, rfl⟩)))]), (hQ b hb).2⟩, fun f f1 f2 => by rw [h1 _ (Or.inl rfl)]; exact hSt f f1 f2⟩
  · rcases hA.2 with z | ⟨e, cap, g1, g2, g3, g4, g5⟩
    · exact Or.inl ⟨z.1, by rw [h2 _ (Or.inr (Or.inr (Or.inl rfl)))]; exact z.2⟩
    · exact Or.inr ⟨e, cap, by rw [h2 _ (Or.inr (Or.inr (Or.inl rfl)))]; exact g1, ka _ _ g2, g3, g4, fun i hi => by rw [h3 e cap g3.1 g1 g2 (g5 0 g3.1)]; exact g5 i hi⟩
  · rw [h1 (P i) (Or.inr (Or.inr ⟨i, hi, rfl⟩)), h2 (P i) (Or.inr (Or.inr (Or.inr ⟨i, hi, rfl⟩)))]
    exact ⟨⟨kp _ (hP i hi).1.1, (hP i hi).1.2⟩, (hP i hi).2⟩
def dN (D : Nat → Nat → Int32) (m : Nat) (v : Nat → Int32) : Nat → Nat → Int32 := fun f => uk (D f) m (v f)
def vN (y t e d b : Int32) : Nat → Int32 := fun f => if f = 5 then b else if f = 1 then y else if f = 2 then t else if f = 3 then e else d
/-- the space itself, with the new packet n -/
theorem cS.new {v S' : Nat → Int32} (hS : cS τ σ k P m D ft q S) (hk : k < 3) (hlt : ∀ i, i < m → P i < n) (h56 : 56 ≤ n) (kp : ∀ o, o_pk τ o → o_pk τ1 o) (hpn : o_pk τ1 n) (h1 : ∀ i, i < m → σ1.1 (P i) = σ.1 (P i)) (h2 : ∀ o, (o = 4 + 8 * k ∨ o = 5 + 8 * k ∨ ∃ i, i < m ∧ o = P i) → σ1.2.2 o = σ.2.2 o) (n0 : σ1.1 n 0 = nI m) (nf : ∀ f, 1 ≤ f → f ≤ 5 → σ1.1 n f = v f) (n6 : σ1.1 n 6 = 0) (n7 : σ1.2.2 n 7 = none) (hA : dA τ1 σ1 (uk P m n) (m + 1) k) (hSt : ∀ f, 3 ≤ f → f ≤ 7 → σ1.1 (3 + 8 * k) f = S' f) : cS τ1 σ1 k (uk P m n) (m + 1) (dN D m v) (uk ft m 0) q S' := by
  obtain ⟨⟨-, hI, hP⟩, hQ, -⟩ := hS
  refine ⟨⟨hA, fun i j hi hj e => ?_, fun i hi => ?_⟩, fun b hb => ?_, hSt⟩
  · by_cases ei : i = m
    · by_cases ej : j = m
      · rw [ei, ej]
      · rw [ei, uk_at, uk_ne _ _ ej] at e
        have := hlt j (by omega)
        omega
    · by_cases ej : j = m
      · rw [ej, uk_at, uk_ne _ _ ei] at e
        have := hlt i (by omega)
        omega
      · rw [uk_ne _ _ ei, uk_ne _ _ ej] at e
        exact hI i j (by omega) (by omega) e
  · by_cases ei : i = m
    · subst ei
      rw [uk_at, uk_at]
      exact ⟨⟨hpn, n0⟩, fun f f1 f2 => by rw [nf f f1 f2]; exact (uk_at _ _ _).symm, n6, fun _ => n7⟩
    · have him : i < m := by omega
      rw [uk_ne _ _ ei, uk_ne _ _ ei, h1 i him, h2 (P i) (Or.inr (Or.inr ⟨i, him, rfl⟩))]
      obtain ⟨⟨a1, a2⟩, a3, a4, a5⟩ := hP i him
      exact ⟨⟨kp _ a1, a2⟩, fun f f1 f2 => (a3 f f1 f2).trans (uk_ne _ _ ei).symm, a4, a5⟩
  · obtain ⟨c1, c2, c3⟩ := hQ b hb
    refine ⟨(c1.cong (h2 _ (by omega)) (fun a ha => by rw [h2 (P a) (Or.inr (Or.inr ⟨a, (c3 a ha).1, rfl⟩))])).eqP (fun a ha => uk_ne _ _ (by have := (c3 a ha).1; omega)), c2, fun a ha => ⟨by have := (c3 a ha).1; omega, by rw [uk_ne _ _ (by have := (c3 a ha).1; omega)]; exact (c3 a ha).2⟩⟩
end IF1
end IF
