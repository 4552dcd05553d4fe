/-! acknowledge, on the reference's side. -/
section HF
variable {B X F : Nat} {τ τ1 : zK} {n c s n1 c1 s1 T : Nat} {σ σ1 σ2 σ3 : zS} {P : Nat → Nat → Nat} {m : Nat → Nat} {D : Nat → Nat → Nat → Int32} {ft : Nat → Nat → Int32} {q : Nat → Nat → List Nat} {S : Nat → Nat → Int32} {t p : Nat} {a : Nat → Nat → Nat} {W ds ga : Nat → Int32} {L H : Nat → Int64} {k g g1 : Nat} {x y : Int32}
/-- refused: the outcome, the claim's count -/
def rq (v : Int32) (σ σ' : zS) : Prop := (∀ o f, ¬ (o = 31 ∧ (f = 0 ∨ f = 27)) → σ'.1 o f = σ.1 o f) ∧ σ'.2 = σ.2 ∧ σ'.1 31 0 = v ∧ σ'.1 31 27 = 0
/-- the outcome alone -/
def z0 (v : Int32) (σ σ' : zS) : Prop := (∀ o f, ¬ (o = 31 ∧ f = 0) → σ'.1 o f = σ.1 o f) ∧ σ'.2 = σ.2 ∧ σ'.1 31 0 = v
theorem z0.put (v : Int32) : z0 v σ (o_I σ 31 0 v) := ⟨fun o f h => by rw [i11, if_neg (fun w => h ⟨w.1, w.2⟩)], rfl, by rw [i11, if_pos ⟨rfl, rfl⟩]⟩
theorem z0.step {u v : Int32} (h : z0 u σ σ1) : z0 v σ (o_I σ1 31 0 v) := ⟨fun o f w => by rw [i11, if_neg (fun z => w ⟨z.1, z.2⟩)]; exact h.1 o f w, h.2.1, by rw [i11, if_pos ⟨rfl, rfl⟩]⟩
theorem z0.fin {v : Int32} (h : z0 v σ σ1) : rq v σ (o_I σ1 31 27 0) := ⟨fun o f w => by rw [i11, if_neg (fun z => w ⟨z.1, Or.inr z.2⟩)]; exact h.1 o f (fun z => w ⟨z.1, Or.inl z.2⟩), h.2.1, by rw [i11, if_neg (by omega)]; exact h.2.2, by rw [i11, if_pos ⟨rfl, rfl⟩]⟩
theorem rP.rq {v : Int32} (h : rP σ m D ft q S t W p L H ds ga) (hq : rq v σ σ1) : rP σ1 m D ft q S t W 0 L H ds ga := by
  obtain ⟨h1, h2, h3, h4, h5⟩ := h
  refine ⟨by rw [hq.1 _ _ (by omega)]; exact h1, fun k hk => (h2 k hk).f31 (fun o f ho => hq.1 o f (by omega)), fun f hf => by rw [hq.1 _ _ (by omega)]; exact h3 f hf, hq.2.2.2, fun j hj => absurd hj (Nat.not_lt_zero _)⟩
theorem n_71 {u : Int32} (h : z0 u σ σ1) : ∃ v2 σE, q_AckBookModel_acknowledge_71 F X (some (B + 31)) x y (some (B + 31)) (o_w B X τ σ1 n c s) = some (.inl (some (.int v2)), o_w B X τ σE n c s) ∧ rq 1 σ σE := by
  simp only [q_AckBookModel_acknowledge_71, q_AckBookModel_acknowledge_76, ot_31, s_fails 1 1 (Or.inr rfl), z_cI, op_31_27]
  rw [if_neg (by decide), if_neg (by decide)]
  exact ⟨_, _, rfl, (h.step (v := 1)).fin⟩
theorem n_22B (w : Int32) (hx : x < 0 ∨ 2 < x) : ∃ v2 σE, q_AckBookModel_acknowledge_22 F X (some (B + 31)) x y w (o_w B X τ σ n c s) = some (.inl (some (.int v2)), o_w B X τ σE n c s) ∧ rq 1 σ σE := by
  unfold q_AckBookModel_acknowledge_22
  simp only [s_noSpace, z_cI, ot_31, if_pos hx, s_fails 1 1 (Or.inr rfl), op_31_27]
  rw [if_neg (by decide), if_neg (by decide)]
  exact ⟨_, _, rfl, (z0.put 1).fin⟩
theorem n_22k (w : Int32) (hk : k < 3) (hd : σ.1 39 k = 0 ∨ σ.1 39 k = 1) : ∃ σ2, z0 (if σ.1 39 k = 0 then 0 else 2) σ σ2 ∧ q_AckBookModel_acknowledge_22 F X (some (B + 31)) (nI k) y w (o_w B X τ σ n c s) = if σ.1 39 k = 0 then (if w = 0 then (if σ.2.1 46 0 < (σ.1 32 k).toInt64 then q_AckBookModel_acknowledge_76 F X (some (B + 31)) (nI k) y (some (B + 31)) (0 : Int32) (o_w B X τ σ2 n c s) else q_AckBookModel_acknowledge_71 F X (some (B + 31)) (nI k) y (some (B + 31)) (o_w B X τ σ2 n c s)) else q_AckBookModel_acknowledge_71 F X (some (B + 31)) (nI k) y (some (B + 31)) (o_w B X τ σ2 n c s)) else some (.inl (some (.int 0)), o_w B X τ (o_I σ2 31 27 0) n c s) := by
  unfold q_AckBookModel_acknowledge_22
  simp only [s_noSpace, z_cI, ot_31]
  have e39 : (o_I σ 31 0 0).1 39 k = σ.1 39 k := by rw [i11, if_neg (by omega)]
  have hd' : (o_I σ 31 0 0).1 39 k = 0 ∨ (o_I σ 31 0 0).1 39 k = 1 := by rw [e39]; exact hd
  simp (disch := omega) only [if_neg (e_spk hk), s_fails 0 1 (Or.inl rfl), z_cI, if_true, or_31_11, oln_39, ot_31, s_fails _ 2 hd']
  refine ⟨o_I (o_I σ 31 0 0) 31 0 (if (o_I σ 31 0 0).1 39 k = 0 then 0 else 2), by rw [e39]; exact (z0.put 0).step, ?_⟩
  have e46 : (o_I (o_I σ 31 0 0) 31 0 (if (o_I σ 31 0 0).1 39 k = 0 then 0 else 2)).2.1 46 0 = σ.2.1 46 0 := rfl
  have e32 : (o_I (o_I σ 31 0 0) 31 0 (if (o_I σ 31 0 0).1 39 k = 0 then 0 else 2)).1 32 k = σ.1 32 k := by rw [i11, if_neg (by omega), i11, if_neg (by omega)]
  generalize o_I (o_I σ 31 0 0) 31 0 (if (o_I σ 31 0 0).1 39 k = 0 then 0 else 2) = σ2 at e46 e32
  have e0 : ∀ K : Int64 → zR, z_ldL (o_w B X τ σ2 n c s) (some (B + 46)) 0 K = K (σ2.2.1 46 0) := fun K => oln_46 (i := 0) (by decide) K
  simp (disch := omega) only [op_31_27, or_31_29, e0, or_31_4, oln_32, lg_cmp_lt, e46, e32, e39]
theorem n_ack0 : f_AckBookModel_acknowledge F X (some (B + 31)) x y (o_w B X τ σ n c s) = q_AckBookModel_acknowledge_22 F X (some (B + 31)) x y (if ¬ y < 0 ∧ ¬ 100000 < y ∧ ¬ σ.1 31 27 = 0 then 0 else 1) (o_w B X τ σ n c s) := by
  unfold f_AckBookModel_acknowledge
  simp only [oi_31_27, q_AckBookModel_acknowledge_17]
  by_cases h1 : y < 0
  · rw [if_pos h1, if_neg (fun w => w.1 h1)]
  · rw [if_neg h1]
    by_cases h2 : 100000 < y
    · rw [if_pos h2, if_neg (fun w => w.2.1 h2)]
    · rw [if_neg h2]
      by_cases h3 : σ.1 31 27 = 0
      · rw [if_pos h3, if_neg (fun w => w.2.2 h3)]
      · rw [if_neg h3, if_pos ⟨h1, h2, h3⟩]
theorem n_ackB (hx : x < 0 ∨ 2 < x) : ∃ v2 σE, f_AckBookModel_acknowledge F X (some (B + 31)) x y (o_w B X τ σ n c s) = some (.inl (some (.int v2)), o_w B X τ σE n c s) ∧ rq 1 σ σE := by
  rw [n_ack0]
  exact n_22B _ hx
theorem n_ackD (hk : k < 3) (hd : σ.1 39 k = 1) : ∃ v2 σE, f_AckBookModel_acknowledge F X (some (B + 31)) (nI k) y (o_w B X τ σ n c s) = some (.inl (some (.int v2)), o_w B X τ σE n c s) ∧ rq 2 σ σE := by
  rw [n_ack0]
  obtain ⟨σ2, hz, e⟩ := n_22k (B := B) (X := X) (F := F) (τ := τ) (n := n) (c := c) (s := s) (y := y) (if ¬ y < 0 ∧ ¬ 100000 < y ∧ ¬ σ.1 31 27 = 0 then 0 else 1) hk (Or.inr hd)
  have h39 : ¬ σ.1 39 k = 0 := by rw [hd]; decide
  rw [if_neg h39] at e hz
  exact ⟨_, _, e, hz.fin⟩
theorem n_ackN (h : rP σ m D ft q S t W p L H ds ga) (hp : p ≤ 64) (hk : k < 3) (hd : ds k = 0) (hL : 0 < p → 0 ≤ (H 0).toInt) (hno : ¬ (¬ y < 0 ∧ y ≤ 100000 ∧ 0 < p ∧ ∃ g, g < m k ∧ H 0 = lN g)) : ∃ v2 σE, f_AckBookModel_acknowledge F X (some (B + 31)) (nI k) y (o_w B X τ σ n c s) = some (.inl (some (.int v2)), o_w B X τ σE n c s) ∧ rq 1 σ σE := by
  have hm := (h.2.1 k hk).1
  have h39 : σ.1 39 k = 0 := hm.2.2.trans hd
  rw [n_ack0]
  obtain ⟨σ2, hz, e⟩ := n_22k (B := B) (X := X) (F := F) (τ := τ) (n := n) (c := c) (s := s) (y := y) (if ¬ y < 0 ∧ ¬ 100000 < y ∧ ¬ σ.1 31 27 = 0 then 0 else 1) hk (Or.inl h39)
  rw [if_pos h39] at e hz
  rw [e]
  by_cases w : ¬ y < 0 ∧ ¬ 100000 < y ∧ ¬ σ.1 31 27 = 0
  · rw [if_pos w, if_pos rfl]
    have hp0 : 0 < p := Nat.pos_of_ne_zero fun z => w.2.2 (by rw [h.2.2.2.1, z]; rfl)
    have y2 : y ≤ 100000 := Int32.not_lt.mp w.2.1
    rw [if_neg]
    · exact n_71 hz
    · rw [(h.2.2.2.2 0 hp0).2, hm.1, nI_l (by omega), Int64.lt_iff_toInt_lt, lN_toInt (by omega)]
      intro z
      have := hL hp0
      exact hno ⟨w.1, y2, hp0, (H 0).toInt.toNat, by omega, Int64_ext (by rw [lN_toInt (by omega)]; omega)⟩
  · rw [if_neg w, if_neg (by decide : ¬ (1 : Int32) = 0)]
    exact n_71 hz
end HF
