section FR
variable {B X F : Nat} {τ : zK} {σ : zS} {n c s : Nat}
/-- what the reference's other calls leave: the arrivals' cells and the clock -/
def fR (σ σ' : zS) : Prop := ∀ o, o < 47 → (∀ f, ¬ (o = 31 ∧ (f = 0 ∨ f = 2 ∨ f = 3)) → σ'.1 o f = σ.1 o f) ∧ σ'.2.1 o = σ.2.1 o
theorem fR.refl (σ : zS) : fR σ σ := fun _ _ => ⟨fun _ _ => rfl, rfl⟩
theorem fR.trans {a b d : zS} (h1 : fR a b) (h2 : fR b d) : fR a d := fun o x => ⟨fun f hf => ((h2 o x).1 f hf).trans ((h1 o x).1 f hf), (h2 o x).2.trans (h1 o x).2⟩
def zU (B X : Nat) (τ : zK) (n c s : Nat) (σ : zS) (r : zR) : Prop := ∀ o w', r = some (o, w') → ∃ σ', w' = o_w B X τ σ' n c s ∧ fR σ σ'
theorem fR.I {σ1 : zS} {o f : Nat} {x : Int32} (ho : 47 ≤ o ∨ (o = 31 ∧ (f = 0 ∨ f = 2 ∨ f = 3))) (h : fR σ σ1) : fR σ (o_I σ1 o f x) := h.trans fun a h1 => ⟨fun b hb => by rw [i11, if_neg (fun q => by omega)], rfl⟩
theorem fR.L {σ1 : zS} {o f : Nat} {x : Int64} (ho : 47 ≤ o) (h : fR σ σ1) : fR σ (o_L σ1 o f x) := h.trans fun a h1 => ⟨fun _ _ => rfl, funext fun b => by rw [l12, if_neg (fun q => by omega)]⟩
theorem zU.none : zU B X τ n c s σ none := fun _ _ h => nomatch h
theorem zU.ret {σ1 : zS} {o : zO} (hf : fR σ σ1) : zU B X τ n c s σ (some (o, o_w B X τ σ1 n c s)) := fun _ _ h => by
  injection h with h
  injection h with _ h
  subst h
  exact ⟨σ1, rfl, hf⟩
theorem zU.of {σ1 : zS} {r : zR} (h2 : zU B X τ n c s σ1 r) (h : fR σ σ1) : zU B X τ n c s σ r := fun o w' e => by
  obtain ⟨σ', a, b⟩ := h2 o w' e
  exact ⟨σ', a, h.trans b⟩
theorem zU.ite {p : Prop} [Decidable p] {a b : zR} (h1 : zU B X τ n c s σ a) (h2 : zU B X τ n c s σ b) : zU B X τ n c s σ (if p then a else b) := by
  split
  · exact h1
  · exact h2
theorem zU.cI {r : zR} {K : Int32 → zW → zR} (hx : zU B X τ n c s σ r) (h : ∀ v σ, zU B X τ n c s σ (K v (o_w B X τ σ n c s))) : zU B X τ n c s σ (z_cI r K) := by
  intro o w' e
  obtain ⟨w1, o1, e1, hz⟩ := z_cI_spec e
  obtain ⟨σ2, rfl, hg⟩ := hx _ _ e1
  rcases hz with ⟨v, a, y, b, a2⟩ | ⟨y, a, a2⟩
  · obtain ⟨σ3, p, q⟩ := h y σ2 o w' a2
    exact ⟨σ3, p, hg.trans q⟩
  · injection a2 with _ a2
    exact ⟨σ2, a2, hg⟩
theorem zU.cL {r : zR} {K : Int64 → zW → zR} (hx : zU B X τ n c s σ r) (h : ∀ v σ, zU B X τ n c s σ (K v (o_w B X τ σ n c s))) : zU B X τ n c s σ (z_cL r K) := by
  intro o w' e
  obtain ⟨w1, o1, e1, hz⟩ := z_cL_spec e
  obtain ⟨σ2, rfl, hg⟩ := hx _ _ e1
  rcases hz with ⟨v, a, y, b, a2⟩ | ⟨y, a, a2⟩
  · obtain ⟨σ3, p, q⟩ := h y σ2 o w' a2
    exact ⟨σ3, p, hg.trans q⟩
  · injection a2 with _ a2
    exact ⟨σ2, a2, hg⟩
theorem zU.cV {r : zR} {K : zW → zR} (hx : zU B X τ n c s σ r) (h : ∀ σ, zU B X τ n c s σ (K (o_w B X τ σ n c s))) : zU B X τ n c s σ (z_cV r K) := by
  intro o w' e
  obtain ⟨w1, o1, e1, hz⟩ := z_cV_spec e
  obtain ⟨σ2, rfl, hg⟩ := hx _ _ e1
  rcases hz with ⟨v, a, a2⟩ | ⟨y, a, a2⟩
  · obtain ⟨σ3, p, q⟩ := h σ2 o w' a2.2
    exact ⟨σ3, p, hg.trans q⟩
  · injection a2 with _ a2
    exact ⟨σ2, a2, hg⟩
theorem zU.rt {o : zO} : zU B X τ n c s σ (some (o, o_w B X τ σ n c s)) := zU.ret (fR.refl σ)
theorem zU.retZ {v : Int32} : zU B X τ n c s σ (z_retZ v (o_w B X τ σ n c s)) := by
  unfold z_retZ
  exact zU.ite zU.rt zU.none
theorem zU.nz {p : Prop} [Decidable p] {K : zR} (h : zU B X τ n c s σ K) : zU B X τ n c s σ (z_nz p K) := by
  unfold z_nz
  exact zU.ite zU.none h
theorem zU.this {w : zW} {ci : Nat} {r : Option Nat} {K : zR} (h : zU B X τ n c s σ K) : zU B X τ n c s σ (z_this w ci r K) := by
  unfold z_this
  split
  · exact h
  · exact zU.none
theorem zU.getI {w : zW} {ci k : Nat} {r : Option Nat} {K : Int32 → zR} (h : ∀ v, zU B X τ n c s σ (K v)) : zU B X τ n c s σ (z_getI w ci k r K) := by
  unfold z_getI
  (repeat' split) <;> first | exact h _ | exact zU.none
theorem zU.ldI {w : zW} {ty : FieldType} {i : Int32} {r : Option Nat} {K : Int32 → zR} (h : ∀ v, zU B X τ n c s σ (K v)) : zU B X τ n c s σ (z_ldI w ty r i K) := by
  unfold z_ldI
  (repeat' split) <;> first | exact h _ | exact zU.none
theorem zU.ldL {w : zW} {i : Int32} {r : Option Nat} {K : Int64 → zR} (h : ∀ v, zU B X τ n c s σ (K v)) : zU B X τ n c s σ (z_ldL w r i K) := by
  unfold z_ldL
  (repeat' split) <;> first | exact h _ | exact zU.none
theorem zU.gR4 {K : Option Nat → zR} (h : zU B X τ n c s σ (K (some (B + 32)))) : zU B X τ n c s σ (z_getR (o_w B X τ σ n c s) 10 4 (some (B + 31)) K) := by
  rw [or_31_4]
  exact h
theorem zU.gR5 {K : Option Nat → zR} (h : zU B X τ n c s σ (K (some (B + 33)))) : zU B X τ n c s σ (z_getR (o_w B X τ σ n c s) 10 5 (some (B + 31)) K) := by
  rw [or_31_5]
  exact h
theorem zU.gR6 {K : Option Nat → zR} (h : zU B X τ n c s σ (K (some (B + 34)))) : zU B X τ n c s σ (z_getR (o_w B X τ σ n c s) 10 6 (some (B + 31)) K) := by
  rw [or_31_6]
  exact h
theorem zU.gR7 {K : Option Nat → zR} (h : zU B X τ n c s σ (K (some (B + 35)))) : zU B X τ n c s σ (z_getR (o_w B X τ σ n c s) 10 7 (some (B + 31)) K) := by
  rw [or_31_7]
  exact h
theorem zU.gR8 {K : Option Nat → zR} (h : zU B X τ n c s σ (K (some (B + 36)))) : zU B X τ n c s σ (z_getR (o_w B X τ σ n c s) 10 8 (some (B + 31)) K) := by
  rw [or_31_8]
  exact h
theorem zU.gR9 {K : Option Nat → zR} (h : zU B X τ n c s σ (K (some (B + 37)))) : zU B X τ n c s σ (z_getR (o_w B X τ σ n c s) 10 9 (some (B + 31)) K) := by
  rw [or_31_9]
  exact h
theorem zU.gR10 {K : Option Nat → zR} (h : zU B X τ n c s σ (K (some (B + 38)))) : zU B X τ n c s σ (z_getR (o_w B X τ σ n c s) 10 10 (some (B + 31)) K) := by
  rw [or_31_10]
  exact h
theorem zU.gR11 {K : Option Nat → zR} (h : zU B X τ n c s σ (K (some (B + 39)))) : zU B X τ n c s σ (z_getR (o_w B X τ σ n c s) 10 11 (some (B + 31)) K) := by
  rw [or_31_11]
  exact h
theorem zU.gR12 {K : Option Nat → zR} (h : zU B X τ n c s σ (K (some (B + 40)))) : zU B X τ n c s σ (z_getR (o_w B X τ σ n c s) 10 12 (some (B + 31)) K) := by
  rw [or_31_12]
  exact h
theorem zU.gR13 {K : Option Nat → zR} (h : zU B X τ n c s σ (K (some (B + 41)))) : zU B X τ n c s σ (z_getR (o_w B X τ σ n c s) 10 13 (some (B + 31)) K) := by
  rw [or_31_13]
  exact h
theorem zU.gR15 {K : Option Nat → zR} (h : zU B X τ n c s σ (K (some (B + 42)))) : zU B X τ n c s σ (z_getR (o_w B X τ σ n c s) 10 15 (some (B + 31)) K) := by
  rw [or_31_15]
  exact h
theorem zU.gR16 {K : Option Nat → zR} (h : zU B X τ n c s σ (K (some (B + 43)))) : zU B X τ n c s σ (z_getR (o_w B X τ σ n c s) 10 16 (some (B + 31)) K) := by
  rw [or_31_16]
  exact h
theorem zU.gR17 {K : Option Nat → zR} (h : zU B X τ n c s σ (K (some (B + 44)))) : zU B X τ n c s σ (z_getR (o_w B X τ σ n c s) 10 17 (some (B + 31)) K) := by
  rw [or_31_17]
  exact h
theorem zU.gR28 {K : Option Nat → zR} (h : zU B X τ n c s σ (K (some (B + 45)))) : zU B X τ n c s σ (z_getR (o_w B X τ σ n c s) 10 28 (some (B + 31)) K) := by
  rw [or_31_28]
  exact h
theorem zU.gR29 {K : Option Nat → zR} (h : zU B X τ n c s σ (K (some (B + 46)))) : zU B X τ n c s σ (z_getR (o_w B X τ σ n c s) 10 29 (some (B + 31)) K) := by
  rw [or_31_29]
  exact h
theorem zU.gR30 {K : Option Nat → zR} (h : zU B X τ n c s σ (K (some (B + 47)))) : zU B X τ n c s σ (z_getR (o_w B X τ σ n c s) 10 30 (some (B + 31)) K) := by
  rw [or_31_30]
  exact h
theorem zU.gR31 {K : Option Nat → zR} (h : zU B X τ n c s σ (K (some (B + 48)))) : zU B X τ n c s σ (z_getR (o_w B X τ σ n c s) 10 31 (some (B + 31)) K) := by
  rw [or_31_31]
  exact h
theorem zU.gR32 {K : Option Nat → zR} (h : zU B X τ n c s σ (K (some (B + 49)))) : zU B X τ n c s σ (z_getR (o_w B X τ σ n c s) 10 32 (some (B + 31)) K) := by
  rw [or_31_32]
  exact h
theorem zU.gR33 {K : Option Nat → zR} (h : zU B X τ n c s σ (K (some (B + 50)))) : zU B X τ n c s σ (z_getR (o_w B X τ σ n c s) 10 33 (some (B + 31)) K) := by
  rw [or_31_33]
  exact h
theorem zU.gR34 {K : Option Nat → zR} (h : zU B X τ n c s σ (K (some (B + 51)))) : zU B X τ n c s σ (z_getR (o_w B X τ σ n c s) 10 34 (some (B + 31)) K) := by
  rw [or_31_34]
  exact h
theorem zU.gR35 {K : Option Nat → zR} (h : zU B X τ n c s σ (K (some (B + 52)))) : zU B X τ n c s σ (z_getR (o_w B X τ σ n c s) 10 35 (some (B + 31)) K) := by
  rw [or_31_35]
  exact h
theorem zU.gR36 {K : Option Nat → zR} (h : zU B X τ n c s σ (K (some (B + 53)))) : zU B X τ n c s σ (z_getR (o_w B X τ σ n c s) 10 36 (some (B + 31)) K) := by
  rw [or_31_36]
  exact h
theorem zU.gR37 {K : Option Nat → zR} (h : zU B X τ n c s σ (K (some (B + 54)))) : zU B X τ n c s σ (z_getR (o_w B X τ σ n c s) 10 37 (some (B + 31)) K) := by
  rw [or_31_37]
  exact h
theorem zU.p0 {x : Int32} {K : zW → zR} (h : ∀ σ, zU B X τ n c s σ (K (o_w B X τ σ n c s))) : zU B X τ n c s σ (z_put (o_w B X τ σ n c s) 10 0 (some (B + 31)) (.int x) K) := by
  rw [op_31_0]
  exact (h _).of (fR.I (by decide) (fR.refl _))
theorem zU.p2 {x : Int32} {K : zW → zR} (h : ∀ σ, zU B X τ n c s σ (K (o_w B X τ σ n c s))) : zU B X τ n c s σ (z_put (o_w B X τ σ n c s) 10 2 (some (B + 31)) (.int x) K) := by
  rw [op_31_2]
  exact (h _).of (fR.I (by decide) (fR.refl _))
theorem zU.p3 {x : Int32} {K : zW → zR} (h : ∀ σ, zU B X τ n c s σ (K (o_w B X τ σ n c s))) : zU B X τ n c s σ (z_put (o_w B X τ σ n c s) 10 3 (some (B + 31)) (.int x) K) := by
  rw [op_31_3]
  exact (h _).of (fR.I (by decide) (fR.refl _))
theorem zU.z2 {x : Int32} {K : zW → zR} (h : ∀ σ, zU B X τ n c s σ (K (o_w B X τ σ n c s))) : zU B X τ n c s σ (z_putZ (o_w B X τ σ n c s) 10 2 (some (B + 31)) x K) := by
  rw [oz_31_2]
  exact zU.ite ((h _).of (fR.I (by decide) (fR.refl _))) zU.none
theorem zU.z3 {x : Int32} {K : zW → zR} (h : ∀ σ, zU B X τ n c s σ (K (o_w B X τ σ n c s))) : zU B X τ n c s σ (z_putZ (o_w B X τ σ n c s) 10 3 (some (B + 31)) x K) := by
  rw [oz_31_3]
  exact zU.ite ((h _).of (fR.I (by decide) (fR.refl _))) zU.none
theorem zU.s47 {i : Int32} {x : Int32} {K : zW → zR} (h : ∀ σ, zU B X τ n c s σ (K (o_w B X τ σ n c s))) : zU B X τ n c s σ (z_stI (o_w B X τ σ n c s) (some (B + 47)) i x K) := by
  rw [oas_47]
  exact zU.ite ((h _).of (fR.I (Or.inl (by decide)) (fR.refl _))) zU.none
theorem zU.s48 {i : Int32} {x : Int64} {K : zW → zR} (h : ∀ σ, zU B X τ n c s σ (K (o_w B X τ σ n c s))) : zU B X τ n c s σ (z_stL (o_w B X τ σ n c s) (some (B + 48)) i x K) := by
  rw [oas_48]
  exact zU.ite ((h _).of (fR.L (by decide) (fR.refl _))) zU.none
theorem zU.s49 {i : Int32} {x : Int64} {K : zW → zR} (h : ∀ σ, zU B X τ n c s σ (K (o_w B X τ σ n c s))) : zU B X τ n c s σ (z_stL (o_w B X τ σ n c s) (some (B + 49)) i x K) := by
  rw [oas_49]
  exact zU.ite ((h _).of (fR.L (by decide) (fR.refl _))) zU.none
theorem zU.s50 {i : Int32} {x : Int64} {K : zW → zR} (h : ∀ σ, zU B X τ n c s σ (K (o_w B X τ σ n c s))) : zU B X τ n c s σ (z_stL (o_w B X τ σ n c s) (some (B + 50)) i x K) := by
  rw [oas_50]
  exact zU.ite ((h _).of (fR.L (by decide) (fR.refl _))) zU.none
theorem zU.s51 {i : Int32} {x : Int32} {K : zW → zR} (h : ∀ σ, zU B X τ n c s σ (K (o_w B X τ σ n c s))) : zU B X τ n c s σ (z_stI (o_w B X τ σ n c s) (some (B + 51)) i x K) := by
  rw [oas_51]
  exact zU.ite ((h _).of (fR.I (Or.inl (by decide)) (fR.refl _))) zU.none
theorem zU.s52 {i : Int32} {x : Int32} {K : zW → zR} (h : ∀ σ, zU B X τ n c s σ (K (o_w B X τ σ n c s))) : zU B X τ n c s σ (z_stI (o_w B X τ σ n c s) (some (B + 52)) i x K) := by
  rw [oas_52]
  exact zU.ite ((h _).of (fR.I (Or.inl (by decide)) (fR.refl _))) zU.none
theorem zU.s53 {i : Int32} {x : Int32} {K : zW → zR} (h : ∀ σ, zU B X τ n c s σ (K (o_w B X τ σ n c s))) : zU B X τ n c s σ (z_stI (o_w B X τ σ n c s) (some (B + 53)) i x K) := by
  rw [oas_53]
  exact zU.ite ((h _).of (fR.I (Or.inl (by decide)) (fR.refl _))) zU.none
theorem zU.s54 {i : Int32} {x : Int32} {K : zW → zR} (h : ∀ σ, zU B X τ n c s σ (K (o_w B X τ σ n c s))) : zU B X τ n c s σ (z_stZ (o_w B X τ σ n c s) (some (B + 54)) i x K) := by
  rw [oas_54]
  exact zU.ite ((h _).of (fR.I (Or.inl (by decide)) (fR.refl _))) zU.none
theorem hr_f_AckBookModel_thrown (σ : zS) : zU B X τ n c s σ (f_AckBookModel_thrown F X (some (B + 31)) (o_w B X τ σ n c s)) := by
  unfold f_AckBookModel_thrown
  repeat' with_reducible first | exact zU.none | exact zU.rt | exact zU.retZ | refine zU.ite ?_ ?_ | refine zU.getI fun _ => ?_
theorem hr_f_AckBookModel_noSpace (pI1 : Int32) (σ : zS) : zU B X τ n c s σ (f_AckBookModel_noSpace F X pI1 (o_w B X τ σ n c s)) := by
  unfold f_AckBookModel_noSpace
  repeat' with_reducible first | exact zU.none | exact zU.rt | exact zU.retZ | refine zU.ite ?_ ?_
theorem hr_f_AckBookModel_fails (pI1 : Int32) (pI2 : Int32) (σ : zS) : zU B X τ n c s σ (f_AckBookModel_fails F X (some (B + 31)) pI1 pI2 (o_w B X τ σ n c s)) := by
  unfold f_AckBookModel_fails
  repeat' with_reducible first | exact zU.none | exact zU.rt | exact zU.retZ | refine zU.ite ?_ ?_ | refine zU.p0 fun _ => ?_
theorem hr_f_AckBookModel_isOut (pI1 : Int32) (pI2 : Int32) (σ : zS) : zU B X τ n c s σ (f_AckBookModel_isOut F X (some (B + 31)) pI1 pI2 (o_w B X τ σ n c s)) := by
  unfold f_AckBookModel_isOut
  repeat' with_reducible first | exact zU.none | exact zU.rt | exact zU.retZ | refine zU.ite ?_ ?_ | refine zU.ldI fun _ => ?_ | refine zU.gR7 ?_ | refine zU.gR11 ?_
theorem hr_j_AckBookModel_flight : ∀ (N : Nat) (a1 : Nat) (a3 : Int32) (a4 : Int32) (a5 : Int32) (σ : zS), zU B X τ n c s σ (j_AckBookModel_flight F X N a1 (some (B + 31)) a3 a4 a5 (o_w B X τ σ n c s)) := by
  intro N
  induction N with
  | zero => exact fun a1 a3 a4 a5 σ => zU.none
  | succ N ih =>
    intro a1 a3 a4 a5 σ
    rw [j_AckBookModel_flight]
    repeat' with_reducible first | exact ih _ _ _ _ _ | exact zU.none | exact zU.rt | exact zU.retZ | exact hr_f_AckBookModel_isOut _ _ _ | refine zU.ite ?_ ?_ | refine zU.this ?_ | refine zU.ldI fun _ => ?_ | refine zU.gR4 ?_ | refine zU.gR5 ?_ | refine zU.gR9 ?_ | refine zU.cI (hr_f_AckBookModel_isOut _ _ _) fun _ _ => ?_
theorem hr_f_AckBookModel_flight (σ : zS) : zU B X τ n c s σ (f_AckBookModel_flight F X (some (B + 31)) (o_w B X τ σ n c s)) := by
  unfold f_AckBookModel_flight
  repeat' with_reducible first | exact zU.none | exact zU.rt | exact zU.retZ | exact hr_j_AckBookModel_flight _ _ _ _ _ _ | refine zU.ite ?_ ?_
theorem hr_f_AckBookModel_greater (pI1 : Int32) (pI2 : Int32) (σ : zS) : zU B X τ n c s σ (f_AckBookModel_greater F X pI1 pI2 (o_w B X τ σ n c s)) := by
  unfold f_AckBookModel_greater
  repeat' with_reducible first | exact zU.none | exact zU.rt | exact zU.retZ | refine zU.ite ?_ ?_
theorem hr_j_AckBookModel_isNew : ∀ (N : Nat) (a2 : Int32) (a3 : Int32) (a4 : Int32) (a5 : Int32) (σ : zS), zU B X τ n c s σ (j_AckBookModel_isNew F X N (some (B + 31)) a2 a3 a4 a5 (o_w B X τ σ n c s)) := by
  intro N
  induction N with
  | zero => exact fun a2 a3 a4 a5 σ => zU.none
  | succ N ih =>
    intro a2 a3 a4 a5 σ
    rw [j_AckBookModel_isNew]
    repeat' with_reducible first | exact ih _ _ _ _ _ | exact zU.none | exact zU.rt | exact zU.retZ | exact hr_f_AckBookModel_isOut _ _ _ | refine zU.ite ?_ ?_ | refine zU.this ?_ | refine zU.getI fun _ => ?_ | refine zU.ldL fun _ => ?_ | refine zU.gR28 ?_ | refine zU.gR29 ?_ | refine zU.cI (hr_f_AckBookModel_isOut _ _ _) fun _ _ => ?_
theorem hr_f_AckBookModel_isNew (pI1 : Int32) (pI2 : Int32) (σ : zS) : zU B X τ n c s σ (f_AckBookModel_isNew F X (some (B + 31)) pI1 pI2 (o_w B X τ σ n c s)) := by
  unfold f_AckBookModel_isNew
  repeat' with_reducible first | exact zU.none | exact zU.rt | exact zU.retZ | exact hr_j_AckBookModel_isNew _ _ _ _ _ _ | refine zU.ite ?_ ?_
theorem hr_f_AckBookModel_isBehindRecovery (pI1 : Int32) (σ : zS) : zU B X τ n c s σ (f_AckBookModel_isBehindRecovery F X (some (B + 31)) pI1 (o_w B X τ σ n c s)) := by
  unfold f_AckBookModel_isBehindRecovery
  repeat' with_reducible first | exact zU.none | exact zU.rt | exact zU.retZ | refine zU.ite ?_ ?_ | refine zU.getI fun _ => ?_ | refine zU.ldI fun _ => ?_ | refine zU.gR6 ?_
theorem hr_f_AckBookModel_limit (σ : zS) : zU B X τ n c s σ (f_AckBookModel_limit F X (some (B + 31)) (o_w B X τ σ n c s)) := by
  unfold f_AckBookModel_limit
  repeat' with_reducible first | exact zU.none | exact zU.rt | exact zU.retZ | exact hr_f_AckBookModel_greater _ _ _ | refine zU.ite ?_ ?_ | refine zU.getI fun _ => ?_ | refine zU.cI (hr_f_AckBookModel_greater _ _ _) fun _ _ => ?_
theorem hr_q_AckBookModel_outs_47 (J : Option Nat → Int32 → Int32 → Int32 → Int32 → zW → zR) (xL1 : Int32) (xL2 : Int32) (xL4 : Int32) (xS0 : Int32) (σ : zS) (hJ : ∀ (b1 : Int32) (b2 : Int32) (b3 : Int32) (b4 : Int32) (σ : zS), zU B X τ n c s σ (J (some (B + 31)) b1 b2 b3 b4 (o_w B X τ σ n c s))) : zU B X τ n c s σ (q_AckBookModel_outs_47 F X J (some (B + 31)) xL1 xL2 xL4 xS0 (o_w B X τ σ n c s)) := by
  unfold q_AckBookModel_outs_47
  repeat' with_reducible first | exact hJ _ _ _ _ _ | exact zU.none | exact zU.rt | exact zU.retZ | refine zU.ite ?_ ?_
theorem hr_j_AckBookModel_outs : ∀ (N : Nat) (a2 : Int32) (a3 : Int32) (a4 : Int32) (a5 : Int32) (σ : zS), zU B X τ n c s σ (j_AckBookModel_outs F X N (some (B + 31)) a2 a3 a4 a5 (o_w B X τ σ n c s)) := by
  intro N
  induction N with
  | zero => exact fun a2 a3 a4 a5 σ => zU.none
  | succ N ih =>
    intro a2 a3 a4 a5 σ
    rw [j_AckBookModel_outs]
    repeat' with_reducible first | exact ih _ _ _ _ _ | exact zU.none | exact zU.rt | exact zU.retZ | exact hr_f_AckBookModel_isOut _ _ _ | exact hr_q_AckBookModel_outs_47 _ _ _ _ _ _ (ih) | refine zU.ite ?_ ?_ | refine zU.this ?_ | refine zU.ldI fun _ => ?_ | refine zU.gR4 ?_ | refine zU.gR8 ?_ | refine zU.cI (hr_f_AckBookModel_isOut _ _ _) fun _ _ => ?_
theorem hr_f_AckBookModel_outs (pI1 : Int32) (pI2 : Int32) (σ : zS) : zU B X τ n c s σ (f_AckBookModel_outs F X (some (B + 31)) pI1 pI2 (o_w B X τ σ n c s)) := by
  unfold f_AckBookModel_outs
  repeat' with_reducible first | exact zU.none | exact zU.rt | exact zU.retZ | exact hr_j_AckBookModel_outs _ _ _ _ _ _ | refine zU.ite ?_ ?_
theorem hr_f_AckBookModel_patience (pI1 : Int32) (σ : zS) : zU B X τ n c s σ (f_AckBookModel_patience F X (some (B + 31)) pI1 (o_w B X τ σ n c s)) := by
  unfold f_AckBookModel_patience
  repeat' with_reducible first | exact zU.none | exact zU.rt | exact zU.retZ | exact hr_f_AckBookModel_greater _ _ _ | refine zU.ite ?_ ?_ | refine zU.getI fun _ => ?_ | refine zU.cI (hr_f_AckBookModel_greater _ _ _) fun _ _ => ?_
theorem hr_j_AckBookModel_firstSpace : ∀ (N : Nat) (a2 : Int32) (σ : zS), zU B X τ n c s σ (j_AckBookModel_firstSpace F X N (some (B + 31)) a2 (o_w B X τ σ n c s)) := by
  intro N
  induction N with
  | zero => exact fun a2 σ => zU.none
  | succ N ih =>
    intro a2 σ
    rw [j_AckBookModel_firstSpace]
    repeat' with_reducible first | exact ih _ _ | exact zU.none | exact zU.rt | exact zU.retZ | refine zU.ite ?_ ?_ | refine zU.ldI fun _ => ?_ | refine zU.gR11 ?_
theorem hr_f_AckBookModel_firstSpace (σ : zS) : zU B X τ n c s σ (f_AckBookModel_firstSpace F X (some (B + 31)) (o_w B X τ σ n c s)) := by
  unfold f_AckBookModel_firstSpace
  repeat' with_reducible first | exact zU.none | exact zU.rt | exact zU.retZ | exact hr_j_AckBookModel_firstSpace _ _ _ | refine zU.ite ?_ ?_
theorem hr_q_AckBookModel_probeTime_125 (J : Option Nat → Int32 → Int32 → Int32 → zW → zR) (xL1 : Int32) (xS0 : Int32) (σ : zS) (hJ : ∀ (b1 : Int32) (b2 : Int32) (b3 : Int32) (σ : zS), zU B X τ n c s σ (J (some (B + 31)) b1 b2 b3 (o_w B X τ σ n c s))) : zU B X τ n c s σ (q_AckBookModel_probeTime_125 F X J (some (B + 31)) xL1 xS0 (o_w B X τ σ n c s)) := by
  unfold q_AckBookModel_probeTime_125
  repeat' with_reducible first | exact hJ _ _ _ _ | exact zU.none | exact zU.rt | exact zU.retZ | exact hr_f_AckBookModel_firstSpace _ | exact hr_f_AckBookModel_patience _ _ | refine zU.ite ?_ ?_ | refine zU.this ?_ | refine zU.getI fun _ => ?_ | refine zU.cI (hr_f_AckBookModel_firstSpace _) fun _ _ => ?_ | refine zU.cI (hr_f_AckBookModel_patience _ _) fun _ _ => ?_
theorem hr_q_AckBookModel_probeTime_23 (J : Option Nat → Int32 → Int32 → Int32 → zW → zR) (xL1 : Int32) (σ : zS) (hJ : ∀ (b1 : Int32) (b2 : Int32) (b3 : Int32) (σ : zS), zU B X τ n c s σ (J (some (B + 31)) b1 b2 b3 (o_w B X τ σ n c s))) : zU B X τ n c s σ (q_AckBookModel_probeTime_23 F X J (some (B + 31)) xL1 (o_w B X τ σ n c s)) := by
  unfold q_AckBookModel_probeTime_23
  repeat' with_reducible first | exact hJ _ _ _ _ | exact zU.none | exact zU.rt | exact zU.retZ | exact hr_f_AckBookModel_outs _ _ _ | exact hr_q_AckBookModel_probeTime_125 _ _ _ _ hJ | refine zU.ite ?_ ?_ | refine zU.this ?_ | refine zU.cI (hr_f_AckBookModel_outs _ _ _) fun _ _ => ?_
theorem hr_j_AckBookModel_probeTime : ∀ (N : Nat) (a2 : Int32) (a3 : Int32) (a4 : Int32) (σ : zS), zU B X τ n c s σ (j_AckBookModel_probeTime F X N (some (B + 31)) a2 a3 a4 (o_w B X τ σ n c s)) := by
  intro N
  induction N with
  | zero => exact fun a2 a3 a4 σ => zU.none
  | succ N ih =>
    intro a2 a3 a4 σ
    rw [j_AckBookModel_probeTime]
    repeat' with_reducible first | exact ih _ _ _ _ | exact zU.none | exact zU.rt | exact zU.retZ | exact hr_f_AckBookModel_patience _ _ | refine zU.ite ?_ ?_ | refine zU.this ?_ | refine zU.getI fun _ => ?_ | refine zU.ldI fun _ => ?_ | refine zU.gR4 ?_ | refine zU.gR6 ?_ | refine zU.gR8 ?_ | refine zU.cI (hr_f_AckBookModel_patience _ _) fun _ _ => ?_
theorem hr_f_AckBookModel_probeTime (pI1 : Int32) (σ : zS) : zU B X τ n c s σ (f_AckBookModel_probeTime F X (some (B + 31)) pI1 (o_w B X τ σ n c s)) := by
  unfold f_AckBookModel_probeTime
  repeat' with_reducible first | exact zU.none | exact zU.rt | exact zU.retZ | exact hr_q_AckBookModel_probeTime_23 _ _ _ (hr_j_AckBookModel_probeTime F) | exact hr_j_AckBookModel_probeTime _ _ _ _ _ | refine zU.ite ?_ ?_ | refine zU.getI fun _ => ?_ | refine zU.ldI fun _ => ?_ | refine zU.gR11 ?_
theorem hr_f_AckBookModel_confirm (σ : zS) : zU B X τ n c s σ (f_AckBookModel_confirm F X (some (B + 31)) (o_w B X τ σ n c s)) := by
  unfold f_AckBookModel_confirm
  repeat' with_reducible first | exact zU.none | exact zU.rt | exact zU.retZ | refine zU.ite ?_ ?_ | refine zU.p0 fun _ => ?_ | refine zU.z2 fun _ => ?_
theorem hr_f_AckBookModel_anxious (pI1 : Int32) (σ : zS) : zU B X τ n c s σ (f_AckBookModel_anxious F X (some (B + 31)) pI1 (o_w B X τ σ n c s)) := by
  unfold f_AckBookModel_anxious
  repeat' with_reducible first | exact zU.none | exact zU.rt | exact zU.retZ | refine zU.ite ?_ ?_ | refine zU.p0 fun _ => ?_ | refine zU.z3 fun _ => ?_
theorem hr_f_AckBookModel_state (pI1 : Int32) (pI2 : Int32) (σ : zS) : zU B X τ n c s σ (f_AckBookModel_state F X (some (B + 31)) pI1 pI2 (o_w B X τ σ n c s)) := by
  unfold f_AckBookModel_state
  repeat' with_reducible first | exact zU.none | exact zU.rt | exact zU.retZ | exact hr_f_AckBookModel_noSpace _ _ | exact hr_f_AckBookModel_fails _ _ _ | refine zU.ite ?_ ?_ | refine zU.this ?_ | refine zU.ldI fun _ => ?_ | refine zU.gR4 ?_ | refine zU.gR7 ?_ | refine zU.gR11 ?_ | refine zU.cI (hr_f_AckBookModel_noSpace _ _) fun _ _ => ?_ | refine zU.cI (hr_f_AckBookModel_fails _ _ _) fun _ _ => ?_
theorem hr_j_AckBookModel_isOld : ∀ (N : Nat) (a2 : Int32) (a3 : Int64) (a4 : Int32) (a5 : Int32) (σ : zS), zU B X τ n c s σ (j_AckBookModel_isOld F X N (some (B + 31)) a2 a3 a4 a5 (o_w B X τ σ n c s)) := by
  intro N
  induction N with
  | zero => exact fun a2 a3 a4 a5 σ => zU.none
  | succ N ih =>
    intro a2 a3 a4 a5 σ
    rw [j_AckBookModel_isOld]
    repeat' with_reducible first | exact ih _ _ _ _ _ | exact zU.none | exact zU.rt | exact zU.retZ | refine zU.ite ?_ ?_ | refine zU.ldI fun _ => ?_ | refine zU.ldL fun _ => ?_ | refine zU.gR30 ?_ | refine zU.gR31 ?_ | refine zU.gR32 ?_
theorem hr_f_AckBookModel_isOld (pI1 : Int32) (pJ2 : Int64) (σ : zS) : zU B X τ n c s σ (f_AckBookModel_isOld F X (some (B + 31)) pI1 pJ2 (o_w B X τ σ n c s)) := by
  unfold f_AckBookModel_isOld
  repeat' with_reducible first | exact zU.none | exact zU.rt | exact zU.retZ | exact hr_j_AckBookModel_isOld _ _ _ _ _ _ | refine zU.ite ?_ ?_ | refine zU.ldL fun _ => ?_ | refine zU.gR33 ?_
theorem hr_f_AckBookModel_greatest (pI1 : Int32) (σ : zS) : zU B X τ n c s σ (f_AckBookModel_greatest F X (some (B + 31)) pI1 (o_w B X τ σ n c s)) := by
  unfold f_AckBookModel_greatest
  repeat' with_reducible first | exact zU.none | exact zU.rt | exact zU.retZ | refine zU.ite ?_ ?_ | refine zU.ldI fun _ => ?_ | refine zU.ldL fun _ => ?_ | refine zU.gR30 ?_ | refine zU.gR32 ?_
theorem hr_j_AckBookModel_takeOut : ∀ (N : Nat) (a2 : Int32) (a3 : Int32) (σ : zS), zU B X τ n c s σ (j_AckBookModel_takeOut F X N (some (B + 31)) a2 a3 (o_w B X τ σ n c s)) := by
  intro N
  induction N with
  | zero => exact fun a2 a3 σ => zU.none
  | succ N ih =>
    intro a2 a3 σ
    rw [j_AckBookModel_takeOut]
    repeat' with_reducible first | exact ih _ _ _ | exact zU.none | exact zU.rt | exact zU.retZ | refine zU.ite ?_ ?_ | refine zU.ldI fun _ => ?_ | refine zU.ldL fun _ => ?_ | refine zU.gR30 ?_ | refine zU.gR31 ?_ | refine zU.gR32 ?_ | refine zU.s47 fun _ => ?_ | refine zU.s48 fun _ => ?_ | refine zU.s49 fun _ => ?_
theorem hr_f_AckBookModel_takeOut (pI1 : Int32) (pI2 : Int32) (σ : zS) : zU B X τ n c s σ (f_AckBookModel_takeOut F X (some (B + 31)) pI1 pI2 (o_w B X τ σ n c s)) := by
  unfold f_AckBookModel_takeOut
  repeat' with_reducible first | exact zU.none | exact zU.rt | exact zU.retZ | exact hr_j_AckBookModel_takeOut _ _ _ _ | refine zU.ite ?_ ?_ | refine zU.ldI fun _ => ?_ | refine zU.gR30 ?_ | refine zU.s47 fun _ => ?_
theorem hr_q_AckBookModel_comeIn_207 (J : Option Nat → Int32 → Int64 → Int32 → zW → zR) (xL1 : Int32) (σ : zS) (hJ : ∀ (b1 : Int32) (b2 : Int64) (b3 : Int32) (σ : zS), zU B X τ n c s σ (J (some (B + 31)) b1 b2 b3 (o_w B X τ σ n c s))) : zU B X τ n c s σ (q_AckBookModel_comeIn_207 F X J (some (B + 31)) xL1 (o_w B X τ σ n c s)) := by
  unfold q_AckBookModel_comeIn_207
  repeat' with_reducible first | exact hJ _ _ _ _ | exact zU.none | exact zU.rt | exact zU.retZ | exact hr_f_AckBookModel_takeOut _ _ _ | refine zU.ite ?_ ?_ | refine zU.this ?_ | refine zU.ldI fun _ => ?_ | refine zU.ldL fun _ => ?_ | refine zU.gR30 ?_ | refine zU.gR32 ?_ | refine zU.gR33 ?_ | refine zU.s47 fun _ => ?_ | refine zU.s49 fun _ => ?_ | refine zU.s50 fun _ => ?_ | refine zU.cV (hr_f_AckBookModel_takeOut _ _ _) fun _ => ?_
theorem hr_q_AckBookModel_comeIn_159 (J : Option Nat → Int32 → Int64 → Int32 → zW → zR) (xL1 : Int32) (yL2 : Int64) (xL4 : Int32) (σ : zS) (hJ : ∀ (b1 : Int32) (b2 : Int64) (b3 : Int32) (σ : zS), zU B X τ n c s σ (J (some (B + 31)) b1 b2 b3 (o_w B X τ σ n c s))) : zU B X τ n c s σ (q_AckBookModel_comeIn_159 F X J (some (B + 31)) xL1 yL2 xL4 (o_w B X τ σ n c s)) := by
  unfold q_AckBookModel_comeIn_159
  repeat' with_reducible first | exact hJ _ _ _ _ | exact zU.none | exact zU.rt | exact zU.retZ | exact hr_q_AckBookModel_comeIn_207 _ _ _ hJ | exact hr_f_AckBookModel_takeOut _ _ _ | refine zU.ite ?_ ?_ | refine zU.this ?_ | refine zU.ldL fun _ => ?_ | refine zU.gR32 ?_ | refine zU.s49 fun _ => ?_ | refine zU.cV (hr_f_AckBookModel_takeOut _ _ _) fun _ => ?_
theorem hr_q_AckBookModel_comeIn_74 (J : Option Nat → Int32 → Int64 → Int32 → zW → zR) (xL1 : Int32) (yL2 : Int64) (xL4 : Int32) (σ : zS) (hJ : ∀ (b1 : Int32) (b2 : Int64) (b3 : Int32) (σ : zS), zU B X τ n c s σ (J (some (B + 31)) b1 b2 b3 (o_w B X τ σ n c s))) : zU B X τ n c s σ (q_AckBookModel_comeIn_74 F X J (some (B + 31)) xL1 yL2 xL4 (o_w B X τ σ n c s)) := by
  unfold q_AckBookModel_comeIn_74
  repeat' with_reducible first | exact hJ _ _ _ _ | exact zU.none | exact zU.rt | exact zU.retZ | exact hr_q_AckBookModel_comeIn_159 _ _ _ _ _ hJ | exact hr_f_AckBookModel_takeOut _ _ _ | refine zU.ite ?_ ?_ | refine zU.this ?_ | refine zU.ldI fun _ => ?_ | refine zU.ldL fun _ => ?_ | refine zU.gR30 ?_ | refine zU.gR31 ?_ | refine zU.gR32 ?_ | refine zU.s47 fun _ => ?_ | refine zU.s48 fun _ => ?_ | refine zU.s49 fun _ => ?_ | refine zU.cV (hr_f_AckBookModel_takeOut _ _ _) fun _ => ?_
theorem hr_j_AckBookModel_comeIn : ∀ (N : Nat) (a2 : Int32) (a3 : Int64) (a4 : Int32) (σ : zS), zU B X τ n c s σ (j_AckBookModel_comeIn F X N (some (B + 31)) a2 a3 a4 (o_w B X τ σ n c s)) := by
  intro N
  induction N with
  | zero => exact fun a2 a3 a4 σ => zU.none
  | succ N ih =>
    intro a2 a3 a4 σ
    rw [j_AckBookModel_comeIn]
    repeat' with_reducible first | exact ih _ _ _ _ | exact zU.none | exact zU.rt | exact zU.retZ | exact hr_q_AckBookModel_comeIn_74 _ _ _ _ _ (ih) | refine zU.ite ?_ ?_ | refine zU.ldL fun _ => ?_ | refine zU.gR31 ?_ | refine zU.gR32 ?_ | refine zU.s48 fun _ => ?_ | refine zU.s49 fun _ => ?_
theorem hr_f_AckBookModel_comeIn (pI1 : Int32) (pJ2 : Int64) (σ : zS) : zU B X τ n c s σ (f_AckBookModel_comeIn F X (some (B + 31)) pI1 pJ2 (o_w B X τ σ n c s)) := by
  unfold f_AckBookModel_comeIn
  repeat' with_reducible first | exact zU.none | exact zU.rt | exact zU.retZ | exact hr_j_AckBookModel_comeIn _ _ _ _ _ | refine zU.ite ?_ ?_ | refine zU.ldI fun _ => ?_ | refine zU.gR30 ?_
theorem hr_q_AckBookModel_came_115 (xL1 : Int32) (yL2 : Int64) (yL5 : Int64) (σ : zS) : zU B X τ n c s σ (q_AckBookModel_came_115 F X (some (B + 31)) xL1 yL2 yL5 (o_w B X τ σ n c s)) := by
  unfold q_AckBookModel_came_115
  repeat' with_reducible first | exact zU.none | exact zU.rt | exact zU.retZ | refine zU.ite ?_ ?_ | refine zU.ldI fun _ => ?_ | refine zU.gR35 ?_ | refine zU.gR37 ?_ | refine zU.s52 fun _ => ?_ | refine zU.s54 fun _ => ?_
theorem hr_q_AckBookModel_came_83 (xL1 : Int32) (yL2 : Int64) (xL4 : Int32) (yL5 : Int64) (σ : zS) : zU B X τ n c s σ (q_AckBookModel_came_83 F X (some (B + 31)) xL1 yL2 xL4 yL5 (o_w B X τ σ n c s)) := by
  unfold q_AckBookModel_came_83
  repeat' with_reducible first | exact zU.none | exact zU.rt | exact zU.retZ | exact hr_f_AckBookModel_comeIn _ _ _ | exact hr_q_AckBookModel_came_115 _ _ _ _ | refine zU.ite ?_ ?_ | refine zU.this ?_ | refine zU.getI fun _ => ?_ | refine zU.ldI fun _ => ?_ | refine zU.gR35 ?_ | refine zU.gR36 ?_ | refine zU.s52 fun _ => ?_ | refine zU.s53 fun _ => ?_ | refine zU.cV (hr_f_AckBookModel_comeIn _ _ _) fun _ => ?_
theorem hr_q_AckBookModel_came_27 (xL1 : Int32) (yL2 : Int64) (xL4 : Int32) (xS1 : Int32) (σ : zS) : zU B X τ n c s σ (q_AckBookModel_came_27 F X (some (B + 31)) xL1 yL2 xL4 (some (B + 31)) xS1 (o_w B X τ σ n c s)) := by
  unfold q_AckBookModel_came_27
  repeat' with_reducible first | exact zU.none | exact zU.rt | exact zU.retZ | exact hr_f_AckBookModel_fails _ _ _ | exact hr_f_AckBookModel_isOld _ _ _ | exact hr_f_AckBookModel_greatest _ _ | exact hr_q_AckBookModel_came_83 _ _ _ _ _ | refine zU.ite ?_ ?_ | refine zU.this ?_ | refine zU.getI fun _ => ?_ | refine zU.ldI fun _ => ?_ | refine zU.gR11 ?_ | refine zU.gR34 ?_ | refine zU.s51 fun _ => ?_ | refine zU.cI (hr_f_AckBookModel_fails _ _ _) fun _ _ => ?_ | refine zU.cI (hr_f_AckBookModel_isOld _ _ _) fun _ _ => ?_ | refine zU.cL (hr_f_AckBookModel_greatest _ _) fun _ _ => ?_
theorem hr_q_AckBookModel_came_22 (xL1 : Int32) (yL2 : Int64) (xL4 : Int32) (σ : zS) : zU B X τ n c s σ (q_AckBookModel_came_22 F X (some (B + 31)) xL1 yL2 xL4 (some (B + 31)) (o_w B X τ σ n c s)) := by
  unfold q_AckBookModel_came_22
  repeat' with_reducible first | exact zU.none | exact zU.rt | exact zU.retZ | exact hr_q_AckBookModel_came_27 _ _ _ _ _ | refine zU.ite ?_ ?_
theorem hr_f_AckBookModel_came (pI1 : Int32) (pJ2 : Int64) (pI3 : Int32) (σ : zS) : zU B X τ n c s σ (f_AckBookModel_came F X (some (B + 31)) pI1 pJ2 pI3 (o_w B X τ σ n c s)) := by
  unfold f_AckBookModel_came
  repeat' with_reducible first | exact zU.none | exact zU.rt | exact zU.retZ | exact hr_f_AckBookModel_noSpace _ _ | exact hr_q_AckBookModel_came_22 _ _ _ _ | exact hr_q_AckBookModel_came_27 _ _ _ _ _ | refine zU.ite ?_ ?_ | refine zU.cI (hr_f_AckBookModel_noSpace _ _) fun _ _ => ?_
theorem hr_f_AckBookModel_due (pI1 : Int32) (σ : zS) : zU B X τ n c s σ (f_AckBookModel_due F X (some (B + 31)) pI1 (o_w B X τ σ n c s)) := by
  unfold f_AckBookModel_due
  repeat' with_reducible first | exact zU.none | exact zU.rt | exact zU.retZ | exact hr_f_AckBookModel_noSpace _ _ | exact hr_f_AckBookModel_fails _ _ _ | refine zU.ite ?_ ?_ | refine zU.this ?_ | refine zU.getI fun _ => ?_ | refine zU.ldI fun _ => ?_ | refine zU.gR35 ?_ | refine zU.gR36 ?_ | refine zU.gR37 ?_ | refine zU.cI (hr_f_AckBookModel_noSpace _ _) fun _ _ => ?_ | refine zU.cI (hr_f_AckBookModel_fails _ _ _) fun _ _ => ?_
theorem hr_q_AckBookModel_written_36 (xL1 : Int32) (xS1 : Int32) (σ : zS) : zU B X τ n c s σ (q_AckBookModel_written_36 F X (some (B + 31)) xL1 (some (B + 31)) xS1 (o_w B X τ σ n c s)) := by
  unfold q_AckBookModel_written_36
  repeat' with_reducible first | exact zU.none | exact zU.rt | exact zU.retZ | exact hr_f_AckBookModel_fails _ _ _ | refine zU.ite ?_ ?_ | refine zU.this ?_ | refine zU.getI fun _ => ?_ | refine zU.ldI fun _ => ?_ | refine zU.gR34 ?_ | refine zU.gR35 ?_ | refine zU.gR37 ?_ | refine zU.s51 fun _ => ?_ | refine zU.s52 fun _ => ?_ | refine zU.s54 fun _ => ?_ | refine zU.cI (hr_f_AckBookModel_fails _ _ _) fun _ _ => ?_
theorem hr_q_AckBookModel_written_31 (xL1 : Int32) (σ : zS) : zU B X τ n c s σ (q_AckBookModel_written_31 F X (some (B + 31)) xL1 (some (B + 31)) (o_w B X τ σ n c s)) := by
  unfold q_AckBookModel_written_31
  repeat' with_reducible first | exact zU.none | exact zU.rt | exact zU.retZ | exact hr_q_AckBookModel_written_36 _ _ _ | refine zU.ite ?_ ?_
theorem hr_f_AckBookModel_written (pI1 : Int32) (σ : zS) : zU B X τ n c s σ (f_AckBookModel_written F X (some (B + 31)) pI1 (o_w B X τ σ n c s)) := by
  unfold f_AckBookModel_written
  repeat' with_reducible first | exact zU.none | exact zU.rt | exact zU.retZ | exact hr_f_AckBookModel_noSpace _ _ | exact hr_f_AckBookModel_fails _ _ _ | exact hr_q_AckBookModel_written_31 _ _ | exact hr_q_AckBookModel_written_36 _ _ _ | refine zU.ite ?_ ?_ | refine zU.this ?_ | refine zU.ldI fun _ => ?_ | refine zU.gR11 ?_ | refine zU.gR30 ?_ | refine zU.cI (hr_f_AckBookModel_noSpace _ _) fun _ _ => ?_ | refine zU.cI (hr_f_AckBookModel_fails _ _ _) fun _ _ => ?_
theorem hr_q_AckBookModel_range_32 (xL1 : Int32) (xL2 : Int32) (xL3 : Int32) (xS1 : Int32) (σ : zS) : zU B X τ n c s σ (q_AckBookModel_range_32 F X (some (B + 31)) xL1 xL2 xL3 (some (B + 31)) xS1 (o_w B X τ σ n c s)) := by
  unfold q_AckBookModel_range_32
  repeat' with_reducible first | exact zU.none | exact zU.rt | exact zU.retZ | exact hr_f_AckBookModel_fails _ _ _ | refine zU.ite ?_ ?_ | refine zU.this ?_ | refine zU.ldI fun _ => ?_ | refine zU.ldL fun _ => ?_ | refine zU.gR30 ?_ | refine zU.gR31 ?_ | refine zU.gR32 ?_ | refine zU.cI (hr_f_AckBookModel_fails _ _ _) fun _ _ => ?_
theorem hr_q_AckBookModel_range_27 (xL1 : Int32) (xL2 : Int32) (xL3 : Int32) (σ : zS) : zU B X τ n c s σ (q_AckBookModel_range_27 F X (some (B + 31)) xL1 xL2 xL3 (some (B + 31)) (o_w B X τ σ n c s)) := by
  unfold q_AckBookModel_range_27
  repeat' with_reducible first | exact zU.none | exact zU.rt | exact zU.retZ | exact hr_q_AckBookModel_range_32 _ _ _ _ _ | refine zU.ite ?_ ?_
theorem hr_f_AckBookModel_range (pI1 : Int32) (pI2 : Int32) (pI3 : Int32) (σ : zS) : zU B X τ n c s σ (f_AckBookModel_range F X (some (B + 31)) pI1 pI2 pI3 (o_w B X τ σ n c s)) := by
  unfold f_AckBookModel_range
  repeat' with_reducible first | exact zU.none | exact zU.rt | exact zU.retZ | exact hr_f_AckBookModel_noSpace _ _ | exact hr_f_AckBookModel_fails _ _ _ | exact hr_q_AckBookModel_range_27 _ _ _ _ | exact hr_q_AckBookModel_range_32 _ _ _ _ _ | refine zU.ite ?_ ?_ | refine zU.this ?_ | refine zU.ldI fun _ => ?_ | refine zU.gR30 ?_ | refine zU.cI (hr_f_AckBookModel_noSpace _ _) fun _ _ => ?_ | refine zU.cI (hr_f_AckBookModel_fails _ _ _) fun _ _ => ?_
theorem hr_q_AckBookModel_look_16 (xL1 : Int32) (xS1 : Int32) (σ : zS) : zU B X τ n c s σ (q_AckBookModel_look_16 F X (some (B + 31)) xL1 (some (B + 31)) xS1 (o_w B X τ σ n c s)) := by
  unfold q_AckBookModel_look_16
  repeat' with_reducible first | exact zU.none | exact zU.rt | exact zU.retZ | exact hr_f_AckBookModel_fails _ _ _ | exact hr_f_AckBookModel_flight _ | exact hr_f_AckBookModel_limit _ | exact hr_f_AckBookModel_greater _ _ _ | refine zU.ite ?_ ?_ | refine zU.this ?_ | refine zU.getI fun _ => ?_ | refine zU.cI (hr_f_AckBookModel_fails _ _ _) fun _ _ => ?_ | refine zU.cI (hr_f_AckBookModel_flight _) fun _ _ => ?_ | refine zU.cI (hr_f_AckBookModel_limit _) fun _ _ => ?_ | refine zU.cI (hr_f_AckBookModel_greater _ _ _) fun _ _ => ?_
theorem hr_q_AckBookModel_look_11 (xL1 : Int32) (σ : zS) : zU B X τ n c s σ (q_AckBookModel_look_11 F X (some (B + 31)) xL1 (some (B + 31)) (o_w B X τ σ n c s)) := by
  unfold q_AckBookModel_look_11
  repeat' with_reducible first | exact zU.none | exact zU.rt | exact zU.retZ | exact hr_q_AckBookModel_look_16 _ _ _ | refine zU.ite ?_ ?_
theorem hr_f_AckBookModel_look (pI1 : Int32) (σ : zS) : zU B X τ n c s σ (f_AckBookModel_look F X (some (B + 31)) pI1 (o_w B X τ σ n c s)) := by
  unfold f_AckBookModel_look
  repeat' with_reducible first | exact zU.none | exact zU.rt | exact zU.retZ | exact hr_q_AckBookModel_look_11 _ _ | exact hr_q_AckBookModel_look_16 _ _ _ | refine zU.ite ?_ ?_
theorem hr_q_AckBookModel_space_28 (xL1 : Int32) (xL2 : Int32) (xS1 : Int32) (σ : zS) : zU B X τ n c s σ (q_AckBookModel_space_28 F X (some (B + 31)) xL1 xL2 (some (B + 31)) xS1 (o_w B X τ σ n c s)) := by
  unfold q_AckBookModel_space_28
  repeat' with_reducible first | exact zU.none | exact zU.rt | exact zU.retZ | exact hr_f_AckBookModel_fails _ _ _ | exact hr_f_AckBookModel_probeTime _ _ | exact hr_f_AckBookModel_outs _ _ _ | exact hr_f_AckBookModel_patience _ _ | refine zU.ite ?_ ?_ | refine zU.this ?_ | refine zU.ldI fun _ => ?_ | refine zU.ldL fun _ => ?_ | refine zU.gR4 ?_ | refine zU.gR11 ?_ | refine zU.gR12 ?_ | refine zU.gR13 ?_ | refine zU.gR30 ?_ | refine zU.gR33 ?_ | refine zU.gR35 ?_ | refine zU.cI (hr_f_AckBookModel_fails _ _ _) fun _ _ => ?_ | refine zU.cI (hr_f_AckBookModel_probeTime _ _) fun _ _ => ?_ | refine zU.cI (hr_f_AckBookModel_outs _ _ _) fun _ _ => ?_ | refine zU.cI (hr_f_AckBookModel_patience _ _) fun _ _ => ?_
theorem hr_q_AckBookModel_space_23 (xL1 : Int32) (xL2 : Int32) (σ : zS) : zU B X τ n c s σ (q_AckBookModel_space_23 F X (some (B + 31)) xL1 xL2 (some (B + 31)) (o_w B X τ σ n c s)) := by
  unfold q_AckBookModel_space_23
  repeat' with_reducible first | exact zU.none | exact zU.rt | exact zU.retZ | exact hr_q_AckBookModel_space_28 _ _ _ _ | refine zU.ite ?_ ?_
theorem hr_f_AckBookModel_space (pI1 : Int32) (pI2 : Int32) (σ : zS) : zU B X τ n c s σ (f_AckBookModel_space F X (some (B + 31)) pI1 pI2 (o_w B X τ σ n c s)) := by
  unfold f_AckBookModel_space
  repeat' with_reducible first | exact zU.none | exact zU.rt | exact zU.retZ | exact hr_f_AckBookModel_noSpace _ _ | exact hr_f_AckBookModel_fails _ _ _ | exact hr_q_AckBookModel_space_23 _ _ _ | exact hr_q_AckBookModel_space_28 _ _ _ _ | refine zU.ite ?_ ?_ | refine zU.this ?_ | refine zU.cI (hr_f_AckBookModel_noSpace _ _) fun _ _ => ?_ | refine zU.cI (hr_f_AckBookModel_fails _ _ _) fun _ _ => ?_
end FR
