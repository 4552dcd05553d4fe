section FY
variable {B X F : Nat} {τ : zK} {σ : zS} {n c s : Nat}
/-- what the reference's other calls leave: the arrivals' cells and the clock -/
def fY (σ σ' : zS) : Prop := ∀ o, o < 47 → (∀ f, ¬ (o = 31 ∧ (f = 0)) → σ'.1 o f = σ.1 o f) ∧ σ'.2.1 o = σ.2.1 o
theorem fY.refl (σ : zS) : fY σ σ := fun _ _ => ⟨fun _ _ => rfl, rfl⟩
theorem fY.trans {a b d : zS} (h1 : fY a b) (h2 : fY b d) : fY a d := fun o x => ⟨fun f hf => ((h2 o x).1 f hf).trans ((h1 o x).1 f hf), (h2 o x).2.trans (h1 o x).2⟩
def zY (B X : Nat) (τ : zK) (n c s : Nat) (σ : zS) (r : zR) : Prop := ∀ o w', r = some (o, w') → ∃ σ', w' = o_w B X τ σ' n c s ∧ fY σ σ'
theorem fY.I {σ1 : zS} {o f : Nat} {x : Int32} (ho : 47 ≤ o ∨ (o = 31 ∧ (f = 0))) (h : fY σ σ1) : fY σ (o_I σ1 o f x) := h.trans fun a h1 => ⟨fun b hb => by rw [i11, if_neg (fun q => by omega)], rfl⟩
theorem fY.L {σ1 : zS} {o f : Nat} {x : Int64} (ho : 47 ≤ o) (h : fY σ σ1) : fY σ (o_L σ1 o f x) := h.trans fun a h1 => ⟨fun _ _ => rfl, funext fun b => by rw [l12, if_neg (fun q => by omega)]⟩
theorem zY.none : zY B X τ n c s σ none := fun _ _ h => nomatch h
theorem zY.ret {σ1 : zS} {o : zO} (hf : fY σ σ1) : zY B X τ n c s σ (some (o, o_w B X τ σ1 n c s)) := fun _ _ h => by
  injection h with h
  injection h with _ h
  subst h
  exact ⟨σ1, rfl, hf⟩
theorem zY.of {σ1 : zS} {r : zR} (h2 : zY B X τ n c s σ1 r) (h : fY σ σ1) : zY B X τ n c s σ r := fun o w' e => by
  obtain ⟨σ', a, b⟩ := h2 o w' e
  exact ⟨σ', a, h.trans b⟩
theorem zY.ite {p : Prop} [Decidable p] {a b : zR} (h1 : zY B X τ n c s σ a) (h2 : zY B X τ n c s σ b) : zY B X τ n c s σ (if p then a else b) := by
  split
  · exact h1
  · exact h2
theorem zY.cI {r : zR} {K : Int32 → zW → zR} (hx : zY B X τ n c s σ r) (h : ∀ v σ, zY B X τ n c s σ (K v (o_w B X τ σ n c s))) : zY B X τ n c s σ (z_cI r K) := by
  intro o w' e
  obtain ⟨w1, o1, e1, hz⟩ := z_cI_spec e
  obtain ⟨σ2, rfl, hg⟩ := hx _ _ e1
  rcases hz with ⟨v, a, y, b, a2⟩ | ⟨y, a, a2⟩
  · obtain ⟨σ3, p, q⟩ := h y σ2 o w' a2
    exact ⟨σ3, p, hg.trans q⟩
  · injection a2 with _ a2
    exact ⟨σ2, a2, hg⟩
theorem zY.cL {r : zR} {K : Int64 → zW → zR} (hx : zY B X τ n c s σ r) (h : ∀ v σ, zY B X τ n c s σ (K v (o_w B X τ σ n c s))) : zY B X τ n c s σ (z_cL r K) := by
  intro o w' e
  obtain ⟨w1, o1, e1, hz⟩ := z_cL_spec e
  obtain ⟨σ2, rfl, hg⟩ := hx _ _ e1
  rcases hz with ⟨v, a, y, b, a2⟩ | ⟨y, a, a2⟩
  · obtain ⟨σ3, p, q⟩ := h y σ2 o w' a2
    exact ⟨σ3, p, hg.trans q⟩
  · injection a2 with _ a2
    exact ⟨σ2, a2, hg⟩
theorem zY.cV {r : zR} {K : zW → zR} (hx : zY B X τ n c s σ r) (h : ∀ σ, zY B X τ n c s σ (K (o_w B X τ σ n c s))) : zY B X τ n c s σ (z_cV r K) := by
  intro o w' e
  obtain ⟨w1, o1, e1, hz⟩ := z_cV_spec e
  obtain ⟨σ2, rfl, hg⟩ := hx _ _ e1
  rcases hz with ⟨v, a, a2⟩ | ⟨y, a, a2⟩
  · obtain ⟨σ3, p, q⟩ := h σ2 o w' a2.2
    exact ⟨σ3, p, hg.trans q⟩
  · injection a2 with _ a2
    exact ⟨σ2, a2, hg⟩
theorem zY.rt {o : zO} : zY B X τ n c s σ (some (o, o_w B X τ σ n c s)) := zY.ret (fY.refl σ)
theorem zY.retZ {v : Int32} : zY B X τ n c s σ (z_retZ v (o_w B X τ σ n c s)) := by
  unfold z_retZ
  exact zY.ite zY.rt zY.none
theorem zY.nz {p : Prop} [Decidable p] {K : zR} (h : zY B X τ n c s σ K) : zY B X τ n c s σ (z_nz p K) := by
  unfold z_nz
  exact zY.ite zY.none h
theorem zY.this {w : zW} {ci : Nat} {r : Option Nat} {K : zR} (h : zY B X τ n c s σ K) : zY B X τ n c s σ (z_this w ci r K) := by
  unfold z_this
  split
  · exact h
  · exact zY.none
theorem zY.getI {w : zW} {ci k : Nat} {r : Option Nat} {K : Int32 → zR} (h : ∀ v, zY B X τ n c s σ (K v)) : zY B X τ n c s σ (z_getI w ci k r K) := by
  unfold z_getI
  (repeat' split) <;> first | exact h _ | exact zY.none
theorem zY.ldI {w : zW} {ty : FieldType} {i : Int32} {r : Option Nat} {K : Int32 → zR} (h : ∀ v, zY B X τ n c s σ (K v)) : zY B X τ n c s σ (z_ldI w ty r i K) := by
  unfold z_ldI
  (repeat' split) <;> first | exact h _ | exact zY.none
theorem zY.ldL {w : zW} {i : Int32} {r : Option Nat} {K : Int64 → zR} (h : ∀ v, zY B X τ n c s σ (K v)) : zY B X τ n c s σ (z_ldL w r i K) := by
  unfold z_ldL
  (repeat' split) <;> first | exact h _ | exact zY.none
theorem zY.gR4 {K : Option Nat → zR} (h : zY B X τ n c s σ (K (some (B + 32)))) : zY B X τ n c s σ (z_getR (o_w B X τ σ n c s) 10 4 (some (B + 31)) K) := by
  rw [or_31_4]
  exact h
theorem zY.gR5 {K : Option Nat → zR} (h : zY B X τ n c s σ (K (some (B + 33)))) : zY B X τ n c s σ (z_getR (o_w B X τ σ n c s) 10 5 (some (B + 31)) K) := by
  rw [or_31_5]
  exact h
theorem zY.gR6 {K : Option Nat → zR} (h : zY B X τ n c s σ (K (some (B + 34)))) : zY B X τ n c s σ (z_getR (o_w B X τ σ n c s) 10 6 (some (B + 31)) K) := by
  rw [or_31_6]
  exact h
theorem zY.gR7 {K : Option Nat → zR} (h : zY B X τ n c s σ (K (some (B + 35)))) : zY B X τ n c s σ (z_getR (o_w B X τ σ n c s) 10 7 (some (B + 31)) K) := by
  rw [or_31_7]
  exact h
theorem zY.gR8 {K : Option Nat → zR} (h : zY B X τ n c s σ (K (some (B + 36)))) : zY B X τ n c s σ (z_getR (o_w B X τ σ n c s) 10 8 (some (B + 31)) K) := by
  rw [or_31_8]
  exact h
theorem zY.gR9 {K : Option Nat → zR} (h : zY B X τ n c s σ (K (some (B + 37)))) : zY B X τ n c s σ (z_getR (o_w B X τ σ n c s) 10 9 (some (B + 31)) K) := by
  rw [or_31_9]
  exact h
theorem zY.gR10 {K : Option Nat → zR} (h : zY B X τ n c s σ (K (some (B + 38)))) : zY B X τ n c s σ (z_getR (o_w B X τ σ n c s) 10 10 (some (B + 31)) K) := by
  rw [or_31_10]
  exact h
theorem zY.gR11 {K : Option Nat → zR} (h : zY B X τ n c s σ (K (some (B + 39)))) : zY B X τ n c s σ (z_getR (o_w B X τ σ n c s) 10 11 (some (B + 31)) K) := by
  rw [or_31_11]
  exact h
theorem zY.gR12 {K : Option Nat → zR} (h : zY B X τ n c s σ (K (some (B + 40)))) : zY B X τ n c s σ (z_getR (o_w B X τ σ n c s) 10 12 (some (B + 31)) K) := by
  rw [or_31_12]
  exact h
theorem zY.gR13 {K : Option Nat → zR} (h : zY B X τ n c s σ (K (some (B + 41)))) : zY B X τ n c s σ (z_getR (o_w B X τ σ n c s) 10 13 (some (B + 31)) K) := by
  rw [or_31_13]
  exact h
theorem zY.gR15 {K : Option Nat → zR} (h : zY B X τ n c s σ (K (some (B + 42)))) : zY B X τ n c s σ (z_getR (o_w B X τ σ n c s) 10 15 (some (B + 31)) K) := by
  rw [or_31_15]
  exact h
theorem zY.gR16 {K : Option Nat → zR} (h : zY B X τ n c s σ (K (some (B + 43)))) : zY B X τ n c s σ (z_getR (o_w B X τ σ n c s) 10 16 (some (B + 31)) K) := by
  rw [or_31_16]
  exact h
theorem zY.gR17 {K : Option Nat → zR} (h : zY B X τ n c s σ (K (some (B + 44)))) : zY B X τ n c s σ (z_getR (o_w B X τ σ n c s) 10 17 (some (B + 31)) K) := by
  rw [or_31_17]
  exact h
theorem zY.gR28 {K : Option Nat → zR} (h : zY B X τ n c s σ (K (some (B + 45)))) : zY B X τ n c s σ (z_getR (o_w B X τ σ n c s) 10 28 (some (B + 31)) K) := by
  rw [or_31_28]
  exact h
theorem zY.gR29 {K : Option Nat → zR} (h : zY B X τ n c s σ (K (some (B + 46)))) : zY B X τ n c s σ (z_getR (o_w B X τ σ n c s) 10 29 (some (B + 31)) K) := by
  rw [or_31_29]
  exact h
theorem zY.gR30 {K : Option Nat → zR} (h : zY B X τ n c s σ (K (some (B + 47)))) : zY B X τ n c s σ (z_getR (o_w B X τ σ n c s) 10 30 (some (B + 31)) K) := by
  rw [or_31_30]
  exact h
theorem zY.gR31 {K : Option Nat → zR} (h : zY B X τ n c s σ (K (some (B + 48)))) : zY B X τ n c s σ (z_getR (o_w B X τ σ n c s) 10 31 (some (B + 31)) K) := by
  rw [or_31_31]
  exact h
theorem zY.gR32 {K : Option Nat → zR} (h : zY B X τ n c s σ (K (some (B + 49)))) : zY B X τ n c s σ (z_getR (o_w B X τ σ n c s) 10 32 (some (B + 31)) K) := by
  rw [or_31_32]
  exact h
theorem zY.gR33 {K : Option Nat → zR} (h : zY B X τ n c s σ (K (some (B + 50)))) : zY B X τ n c s σ (z_getR (o_w B X τ σ n c s) 10 33 (some (B + 31)) K) := by
  rw [or_31_33]
  exact h
theorem zY.gR34 {K : Option Nat → zR} (h : zY B X τ n c s σ (K (some (B + 51)))) : zY B X τ n c s σ (z_getR (o_w B X τ σ n c s) 10 34 (some (B + 31)) K) := by
  rw [or_31_34]
  exact h
theorem zY.gR35 {K : Option Nat → zR} (h : zY B X τ n c s σ (K (some (B + 52)))) : zY B X τ n c s σ (z_getR (o_w B X τ σ n c s) 10 35 (some (B + 31)) K) := by
  rw [or_31_35]
  exact h
theorem zY.gR36 {K : Option Nat → zR} (h : zY B X τ n c s σ (K (some (B + 53)))) : zY B X τ n c s σ (z_getR (o_w B X τ σ n c s) 10 36 (some (B + 31)) K) := by
  rw [or_31_36]
  exact h
theorem zY.gR37 {K : Option Nat → zR} (h : zY B X τ n c s σ (K (some (B + 54)))) : zY B X τ n c s σ (z_getR (o_w B X τ σ n c s) 10 37 (some (B + 31)) K) := by
  rw [or_31_37]
  exact h
theorem zY.p0 {x : Int32} {K : zW → zR} (h : ∀ σ, zY B X τ n c s σ (K (o_w B X τ σ n c s))) : zY B X τ n c s σ (z_put (o_w B X τ σ n c s) 10 0 (some (B + 31)) (.int x) K) := by
  rw [op_31_0]
  exact (h _).of (fY.I (by decide) (fY.refl _))
theorem zY.s47 {i : Int32} {x : Int32} {K : zW → zR} (h : ∀ σ, zY B X τ n c s σ (K (o_w B X τ σ n c s))) : zY B X τ n c s σ (z_stI (o_w B X τ σ n c s) (some (B + 47)) i x K) := by
  rw [oas_47]
  exact zY.ite ((h _).of (fY.I (Or.inl (by decide)) (fY.refl _))) zY.none
theorem zY.s48 {i : Int32} {x : Int64} {K : zW → zR} (h : ∀ σ, zY B X τ n c s σ (K (o_w B X τ σ n c s))) : zY B X τ n c s σ (z_stL (o_w B X τ σ n c s) (some (B + 48)) i x K) := by
  rw [oas_48]
  exact zY.ite ((h _).of (fY.L (by decide) (fY.refl _))) zY.none
theorem zY.s49 {i : Int32} {x : Int64} {K : zW → zR} (h : ∀ σ, zY B X τ n c s σ (K (o_w B X τ σ n c s))) : zY B X τ n c s σ (z_stL (o_w B X τ σ n c s) (some (B + 49)) i x K) := by
  rw [oas_49]
  exact zY.ite ((h _).of (fY.L (by decide) (fY.refl _))) zY.none
theorem zY.s50 {i : Int32} {x : Int64} {K : zW → zR} (h : ∀ σ, zY B X τ n c s σ (K (o_w B X τ σ n c s))) : zY B X τ n c s σ (z_stL (o_w B X τ σ n c s) (some (B + 50)) i x K) := by
  rw [oas_50]
  exact zY.ite ((h _).of (fY.L (by decide) (fY.refl _))) zY.none
theorem zY.s51 {i : Int32} {x : Int32} {K : zW → zR} (h : ∀ σ, zY B X τ n c s σ (K (o_w B X τ σ n c s))) : zY B X τ n c s σ (z_stI (o_w B X τ σ n c s) (some (B + 51)) i x K) := by
  rw [oas_51]
  exact zY.ite ((h _).of (fY.I (Or.inl (by decide)) (fY.refl _))) zY.none
theorem zY.s52 {i : Int32} {x : Int32} {K : zW → zR} (h : ∀ σ, zY B X τ n c s σ (K (o_w B X τ σ n c s))) : zY B X τ n c s σ (z_stI (o_w B X τ σ n c s) (some (B + 52)) i x K) := by
  rw [oas_52]
  exact zY.ite ((h _).of (fY.I (Or.inl (by decide)) (fY.refl _))) zY.none
theorem zY.s53 {i : Int32} {x : Int32} {K : zW → zR} (h : ∀ σ, zY B X τ n c s σ (K (o_w B X τ σ n c s))) : zY B X τ n c s σ (z_stI (o_w B X τ σ n c s) (some (B + 53)) i x K) := by
  rw [oas_53]
  exact zY.ite ((h _).of (fY.I (Or.inl (by decide)) (fY.refl _))) zY.none
theorem zY.s54 {i : Int32} {x : Int32} {K : zW → zR} (h : ∀ σ, zY B X τ n c s σ (K (o_w B X τ σ n c s))) : zY B X τ n c s σ (z_stZ (o_w B X τ σ n c s) (some (B + 54)) i x K) := by
  rw [oas_54]
  exact zY.ite ((h _).of (fY.I (Or.inl (by decide)) (fY.refl _))) zY.none
theorem hs_f_AckBookModel_noSpace (pI1 : Int32) (σ : zS) : zY B X τ n c s σ (f_AckBookModel_noSpace F X pI1 (o_w B X τ σ n c s)) := by
  unfold f_AckBookModel_noSpace
  repeat' with_reducible first | exact zY.none | exact zY.rt | exact zY.retZ | refine zY.ite ?_ ?_
theorem hs_f_AckBookModel_fails (pI1 : Int32) (pI2 : Int32) (σ : zS) : zY B X τ n c s σ (f_AckBookModel_fails F X (some (B + 31)) pI1 pI2 (o_w B X τ σ n c s)) := by
  unfold f_AckBookModel_fails
  repeat' with_reducible first | exact zY.none | exact zY.rt | exact zY.retZ | refine zY.ite ?_ ?_ | refine zY.p0 fun _ => ?_
theorem hs_f_AckBookModel_isOut (pI1 : Int32) (pI2 : Int32) (σ : zS) : zY B X τ n c s σ (f_AckBookModel_isOut F X (some (B + 31)) pI1 pI2 (o_w B X τ σ n c s)) := by
  unfold f_AckBookModel_isOut
  repeat' with_reducible first | exact zY.none | exact zY.rt | exact zY.retZ | refine zY.ite ?_ ?_ | refine zY.ldI fun _ => ?_ | refine zY.gR7 ?_ | refine zY.gR11 ?_
theorem hs_j_AckBookModel_flight : ∀ (N : Nat) (a1 : Nat) (a3 : Int32) (a4 : Int32) (a5 : Int32) (σ : zS), zY B X τ n c s σ (j_AckBookModel_flight F X N a1 (some (B + 31)) a3 a4 a5 (o_w B X τ σ n c s)) := by
  intro N
  induction N with
  | zero => exact fun a1 a3 a4 a5 σ => zY.none
  | succ N ih =>
    intro a1 a3 a4 a5 σ
    rw [j_AckBookModel_flight]
    repeat' with_reducible first | exact ih _ _ _ _ _ | exact zY.none | exact zY.rt | exact zY.retZ | exact hs_f_AckBookModel_isOut _ _ _ | refine zY.ite ?_ ?_ | refine zY.this ?_ | refine zY.ldI fun _ => ?_ | refine zY.gR4 ?_ | refine zY.gR5 ?_ | refine zY.gR9 ?_ | refine zY.cI (hs_f_AckBookModel_isOut _ _ _) fun _ _ => ?_
theorem hs_f_AckBookModel_flight (σ : zS) : zY B X τ n c s σ (f_AckBookModel_flight F X (some (B + 31)) (o_w B X τ σ n c s)) := by
  unfold f_AckBookModel_flight
  repeat' with_reducible first | exact zY.none | exact zY.rt | exact zY.retZ | exact hs_j_AckBookModel_flight _ _ _ _ _ _ | refine zY.ite ?_ ?_
theorem hs_f_AckBookModel_greater (pI1 : Int32) (pI2 : Int32) (σ : zS) : zY B X τ n c s σ (f_AckBookModel_greater F X pI1 pI2 (o_w B X τ σ n c s)) := by
  unfold f_AckBookModel_greater
  repeat' with_reducible first | exact zY.none | exact zY.rt | exact zY.retZ | refine zY.ite ?_ ?_
theorem hs_j_AckBookModel_isNew : ∀ (N : Nat) (a2 : Int32) (a3 : Int32) (a4 : Int32) (a5 : Int32) (σ : zS), zY B X τ n c s σ (j_AckBookModel_isNew F X N (some (B + 31)) a2 a3 a4 a5 (o_w B X τ σ n c s)) := by
  intro N
  induction N with
  | zero => exact fun a2 a3 a4 a5 σ => zY.none
  | succ N ih =>
    intro a2 a3 a4 a5 σ
    rw [j_AckBookModel_isNew]
    repeat' with_reducible first | exact ih _ _ _ _ _ | exact zY.none | exact zY.rt | exact zY.retZ | exact hs_f_AckBookModel_isOut _ _ _ | refine zY.ite ?_ ?_ | refine zY.this ?_ | refine zY.getI fun _ => ?_ | refine zY.ldL fun _ => ?_ | refine zY.gR28 ?_ | refine zY.gR29 ?_ | refine zY.cI (hs_f_AckBookModel_isOut _ _ _) fun _ _ => ?_
theorem hs_f_AckBookModel_isNew (pI1 : Int32) (pI2 : Int32) (σ : zS) : zY B X τ n c s σ (f_AckBookModel_isNew F X (some (B + 31)) pI1 pI2 (o_w B X τ σ n c s)) := by
  unfold f_AckBookModel_isNew
  repeat' with_reducible first | exact zY.none | exact zY.rt | exact zY.retZ | exact hs_j_AckBookModel_isNew _ _ _ _ _ _ | refine zY.ite ?_ ?_
theorem hs_f_AckBookModel_isBehindRecovery (pI1 : Int32) (σ : zS) : zY B X τ n c s σ (f_AckBookModel_isBehindRecovery F X (some (B + 31)) pI1 (o_w B X τ σ n c s)) := by
  unfold f_AckBookModel_isBehindRecovery
  repeat' with_reducible first | exact zY.none | exact zY.rt | exact zY.retZ | refine zY.ite ?_ ?_ | refine zY.getI fun _ => ?_ | refine zY.ldI fun _ => ?_ | refine zY.gR6 ?_
theorem hs_f_AckBookModel_limit (σ : zS) : zY B X τ n c s σ (f_AckBookModel_limit F X (some (B + 31)) (o_w B X τ σ n c s)) := by
  unfold f_AckBookModel_limit
  repeat' with_reducible first | exact zY.none | exact zY.rt | exact zY.retZ | exact hs_f_AckBookModel_greater _ _ _ | refine zY.ite ?_ ?_ | refine zY.getI fun _ => ?_ | refine zY.cI (hs_f_AckBookModel_greater _ _ _) fun _ _ => ?_
theorem hs_q_AckBookModel_outs_47 (J : Option Nat → Int32 → Int32 → Int32 → Int32 → zW → zR) (xL1 : Int32) (xL2 : Int32) (xL4 : Int32) (xS0 : Int32) (σ : zS) (hJ : ∀ (b1 : Int32) (b2 : Int32) (b3 : Int32) (b4 : Int32) (σ : zS), zY B X τ n c s σ (J (some (B + 31)) b1 b2 b3 b4 (o_w B X τ σ n c s))) : zY B X τ n c s σ (q_AckBookModel_outs_47 F X J (some (B + 31)) xL1 xL2 xL4 xS0 (o_w B X τ σ n c s)) := by
  unfold q_AckBookModel_outs_47
  repeat' with_reducible first | exact hJ _ _ _ _ _ | exact zY.none | exact zY.rt | exact zY.retZ | refine zY.ite ?_ ?_
theorem hs_j_AckBookModel_outs : ∀ (N : Nat) (a2 : Int32) (a3 : Int32) (a4 : Int32) (a5 : Int32) (σ : zS), zY B X τ n c s σ (j_AckBookModel_outs F X N (some (B + 31)) a2 a3 a4 a5 (o_w B X τ σ n c s)) := by
  intro N
  induction N with
  | zero => exact fun a2 a3 a4 a5 σ => zY.none
  | succ N ih =>
    intro a2 a3 a4 a5 σ
    rw [j_AckBookModel_outs]
    repeat' with_reducible first | exact ih _ _ _ _ _ | exact zY.none | exact zY.rt | exact zY.retZ | exact hs_f_AckBookModel_isOut _ _ _ | exact hs_q_AckBookModel_outs_47 _ _ _ _ _ _ (ih) | refine zY.ite ?_ ?_ | refine zY.this ?_ | refine zY.ldI fun _ => ?_ | refine zY.gR4 ?_ | refine zY.gR8 ?_ | refine zY.cI (hs_f_AckBookModel_isOut _ _ _) fun _ _ => ?_
theorem hs_f_AckBookModel_outs (pI1 : Int32) (pI2 : Int32) (σ : zS) : zY B X τ n c s σ (f_AckBookModel_outs F X (some (B + 31)) pI1 pI2 (o_w B X τ σ n c s)) := by
  unfold f_AckBookModel_outs
  repeat' with_reducible first | exact zY.none | exact zY.rt | exact zY.retZ | exact hs_j_AckBookModel_outs _ _ _ _ _ _ | refine zY.ite ?_ ?_
theorem hs_f_AckBookModel_patience (pI1 : Int32) (σ : zS) : zY B X τ n c s σ (f_AckBookModel_patience F X (some (B + 31)) pI1 (o_w B X τ σ n c s)) := by
  unfold f_AckBookModel_patience
  repeat' with_reducible first | exact zY.none | exact zY.rt | exact zY.retZ | exact hs_f_AckBookModel_greater _ _ _ | refine zY.ite ?_ ?_ | refine zY.getI fun _ => ?_ | refine zY.cI (hs_f_AckBookModel_greater _ _ _) fun _ _ => ?_
theorem hs_j_AckBookModel_firstSpace : ∀ (N : Nat) (a2 : Int32) (σ : zS), zY B X τ n c s σ (j_AckBookModel_firstSpace F X N (some (B + 31)) a2 (o_w B X τ σ n c s)) := by
  intro N
  induction N with
  | zero => exact fun a2 σ => zY.none
  | succ N ih =>
    intro a2 σ
    rw [j_AckBookModel_firstSpace]
    repeat' with_reducible first | exact ih _ _ | exact zY.none | exact zY.rt | exact zY.retZ | refine zY.ite ?_ ?_ | refine zY.ldI fun _ => ?_ | refine zY.gR11 ?_
theorem hs_f_AckBookModel_firstSpace (σ : zS) : zY B X τ n c s σ (f_AckBookModel_firstSpace F X (some (B + 31)) (o_w B X τ σ n c s)) := by
  unfold f_AckBookModel_firstSpace
  repeat' with_reducible first | exact zY.none | exact zY.rt | exact zY.retZ | exact hs_j_AckBookModel_firstSpace _ _ _ | refine zY.ite ?_ ?_
theorem hs_q_AckBookModel_probeTime_125 (J : Option Nat → Int32 → Int32 → Int32 → zW → zR) (xL1 : Int32) (xS0 : Int32) (σ : zS) (hJ : ∀ (b1 : Int32) (b2 : Int32) (b3 : Int32) (σ : zS), zY B X τ n c s σ (J (some (B + 31)) b1 b2 b3 (o_w B X τ σ n c s))) : zY B X τ n c s σ (q_AckBookModel_probeTime_125 F X J (some (B + 31)) xL1 xS0 (o_w B X τ σ n c s)) := by
  unfold q_AckBookModel_probeTime_125
  repeat' with_reducible first | exact hJ _ _ _ _ | exact zY.none | exact zY.rt | exact zY.retZ | exact hs_f_AckBookModel_firstSpace _ | exact hs_f_AckBookModel_patience _ _ | refine zY.ite ?_ ?_ | refine zY.this ?_ | refine zY.getI fun _ => ?_ | refine zY.cI (hs_f_AckBookModel_firstSpace _) fun _ _ => ?_ | refine zY.cI (hs_f_AckBookModel_patience _ _) fun _ _ => ?_
theorem hs_q_AckBookModel_probeTime_23 (J : Option Nat → Int32 → Int32 → Int32 → zW → zR) (xL1 : Int32) (σ : zS) (hJ : ∀ (b1 : Int32) (b2 : Int32) (b3 : Int32) (σ : zS), zY B X τ n c s σ (J (some (B + 31)) b1 b2 b3 (o_w B X τ σ n c s))) : zY B X τ n c s σ (q_AckBookModel_probeTime_23 F X J (some (B + 31)) xL1 (o_w B X τ σ n c s)) := by
  unfold q_AckBookModel_probeTime_23
  repeat' with_reducible first | exact hJ _ _ _ _ | exact zY.none | exact zY.rt | exact zY.retZ | exact hs_f_AckBookModel_outs _ _ _ | exact hs_q_AckBookModel_probeTime_125 _ _ _ _ hJ | refine zY.ite ?_ ?_ | refine zY.this ?_ | refine zY.cI (hs_f_AckBookModel_outs _ _ _) fun _ _ => ?_
theorem hs_j_AckBookModel_probeTime : ∀ (N : Nat) (a2 : Int32) (a3 : Int32) (a4 : Int32) (σ : zS), zY B X τ n c s σ (j_AckBookModel_probeTime F X N (some (B + 31)) a2 a3 a4 (o_w B X τ σ n c s)) := by
  intro N
  induction N with
  | zero => exact fun a2 a3 a4 σ => zY.none
  | succ N ih =>
    intro a2 a3 a4 σ
    rw [j_AckBookModel_probeTime]
    repeat' with_reducible first | exact ih _ _ _ _ | exact zY.none | exact zY.rt | exact zY.retZ | exact hs_f_AckBookModel_patience _ _ | refine zY.ite ?_ ?_ | refine zY.this ?_ | refine zY.getI fun _ => ?_ | refine zY.ldI fun _ => ?_ | refine zY.gR4 ?_ | refine zY.gR6 ?_ | refine zY.gR8 ?_ | refine zY.cI (hs_f_AckBookModel_patience _ _) fun _ _ => ?_
theorem hs_f_AckBookModel_probeTime (pI1 : Int32) (σ : zS) : zY B X τ n c s σ (f_AckBookModel_probeTime F X (some (B + 31)) pI1 (o_w B X τ σ n c s)) := by
  unfold f_AckBookModel_probeTime
  repeat' with_reducible first | exact zY.none | exact zY.rt | exact zY.retZ | exact hs_q_AckBookModel_probeTime_23 _ _ _ (hs_j_AckBookModel_probeTime F) | exact hs_j_AckBookModel_probeTime _ _ _ _ _ | refine zY.ite ?_ ?_ | refine zY.getI fun _ => ?_ | refine zY.ldI fun _ => ?_ | refine zY.gR11 ?_
theorem hs_f_AckBookModel_state (pI1 : Int32) (pI2 : Int32) (σ : zS) : zY B X τ n c s σ (f_AckBookModel_state F X (some (B + 31)) pI1 pI2 (o_w B X τ σ n c s)) := by
  unfold f_AckBookModel_state
  repeat' with_reducible first | exact zY.none | exact zY.rt | exact zY.retZ | exact hs_f_AckBookModel_noSpace _ _ | exact hs_f_AckBookModel_fails _ _ _ | refine zY.ite ?_ ?_ | refine zY.this ?_ | refine zY.ldI fun _ => ?_ | refine zY.gR4 ?_ | refine zY.gR7 ?_ | refine zY.gR11 ?_ | refine zY.cI (hs_f_AckBookModel_noSpace _ _) fun _ _ => ?_ | refine zY.cI (hs_f_AckBookModel_fails _ _ _) fun _ _ => ?_
theorem hs_j_AckBookModel_isOld : ∀ (N : Nat) (a2 : Int32) (a3 : Int64) (a4 : Int32) (a5 : Int32) (σ : zS), zY B X τ n c s σ (j_AckBookModel_isOld F X N (some (B + 31)) a2 a3 a4 a5 (o_w B X τ σ n c s)) := by
  intro N
  induction N with
  | zero => exact fun a2 a3 a4 a5 σ => zY.none
  | succ N ih =>
    intro a2 a3 a4 a5 σ
    rw [j_AckBookModel_isOld]
    repeat' with_reducible first | exact ih _ _ _ _ _ | exact zY.none | exact zY.rt | exact zY.retZ | refine zY.ite ?_ ?_ | refine zY.ldI fun _ => ?_ | refine zY.ldL fun _ => ?_ | refine zY.gR30 ?_ | refine zY.gR31 ?_ | refine zY.gR32 ?_
theorem hs_f_AckBookModel_isOld (pI1 : Int32) (pJ2 : Int64) (σ : zS) : zY B X τ n c s σ (f_AckBookModel_isOld F X (some (B + 31)) pI1 pJ2 (o_w B X τ σ n c s)) := by
  unfold f_AckBookModel_isOld
  repeat' with_reducible first | exact zY.none | exact zY.rt | exact zY.retZ | exact hs_j_AckBookModel_isOld _ _ _ _ _ _ | refine zY.ite ?_ ?_ | refine zY.ldL fun _ => ?_ | refine zY.gR33 ?_
theorem hs_f_AckBookModel_greatest (pI1 : Int32) (σ : zS) : zY B X τ n c s σ (f_AckBookModel_greatest F X (some (B + 31)) pI1 (o_w B X τ σ n c s)) := by
  unfold f_AckBookModel_greatest
  repeat' with_reducible first | exact zY.none | exact zY.rt | exact zY.retZ | refine zY.ite ?_ ?_ | refine zY.ldI fun _ => ?_ | refine zY.ldL fun _ => ?_ | refine zY.gR30 ?_ | refine zY.gR32 ?_
theorem hs_j_AckBookModel_takeOut : ∀ (N : Nat) (a2 : Int32) (a3 : Int32) (σ : zS), zY B X τ n c s σ (j_AckBookModel_takeOut F X N (some (B + 31)) a2 a3 (o_w B X τ σ n c s)) := by
  intro N
  induction N with
  | zero => exact fun a2 a3 σ => zY.none
  | succ N ih =>
    intro a2 a3 σ
    rw [j_AckBookModel_takeOut]
    repeat' with_reducible first | exact ih _ _ _ | exact zY.none | exact zY.rt | exact zY.retZ | refine zY.ite ?_ ?_ | refine zY.ldI fun _ => ?_ | refine zY.ldL fun _ => ?_ | refine zY.gR30 ?_ | refine zY.gR31 ?_ | refine zY.gR32 ?_ | refine zY.s47 fun _ => ?_ | refine zY.s48 fun _ => ?_ | refine zY.s49 fun _ => ?_
theorem hs_f_AckBookModel_takeOut (pI1 : Int32) (pI2 : Int32) (σ : zS) : zY B X τ n c s σ (f_AckBookModel_takeOut F X (some (B + 31)) pI1 pI2 (o_w B X τ σ n c s)) := by
  unfold f_AckBookModel_takeOut
  repeat' with_reducible first | exact zY.none | exact zY.rt | exact zY.retZ | exact hs_j_AckBookModel_takeOut _ _ _ _ | refine zY.ite ?_ ?_ | refine zY.ldI fun _ => ?_ | refine zY.gR30 ?_ | refine zY.s47 fun _ => ?_
theorem hs_q_AckBookModel_comeIn_207 (J : Option Nat → Int32 → Int64 → Int32 → zW → zR) (xL1 : Int32) (σ : zS) (hJ : ∀ (b1 : Int32) (b2 : Int64) (b3 : Int32) (σ : zS), zY B X τ n c s σ (J (some (B + 31)) b1 b2 b3 (o_w B X τ σ n c s))) : zY B X τ n c s σ (q_AckBookModel_comeIn_207 F X J (some (B + 31)) xL1 (o_w B X τ σ n c s)) := by
  unfold q_AckBookModel_comeIn_207
  repeat' with_reducible first | exact hJ _ _ _ _ | exact zY.none | exact zY.rt | exact zY.retZ | exact hs_f_AckBookModel_takeOut _ _ _ | refine zY.ite ?_ ?_ | refine zY.this ?_ | refine zY.ldI fun _ => ?_ | refine zY.ldL fun _ => ?_ | refine zY.gR30 ?_ | refine zY.gR32 ?_ | refine zY.gR33 ?_ | refine zY.s47 fun _ => ?_ | refine zY.s49 fun _ => ?_ | refine zY.s50 fun _ => ?_ | refine zY.cV (hs_f_AckBookModel_takeOut _ _ _) fun _ => ?_
theorem hs_q_AckBookModel_comeIn_159 (J : Option Nat → Int32 → Int64 → Int32 → zW → zR) (xL1 : Int32) (yL2 : Int64) (xL4 : Int32) (σ : zS) (hJ : ∀ (b1 : Int32) (b2 : Int64) (b3 : Int32) (σ : zS), zY B X τ n c s σ (J (some (B + 31)) b1 b2 b3 (o_w B X τ σ n c s))) : zY B X τ n c s σ (q_AckBookModel_comeIn_159 F X J (some (B + 31)) xL1 yL2 xL4 (o_w B X τ σ n c s)) := by
  unfold q_AckBookModel_comeIn_159
  repeat' with_reducible first | exact hJ _ _ _ _ | exact zY.none | exact zY.rt | exact zY.retZ | exact hs_q_AckBookModel_comeIn_207 _ _ _ hJ | exact hs_f_AckBookModel_takeOut _ _ _ | refine zY.ite ?_ ?_ | refine zY.this ?_ | refine zY.ldL fun _ => ?_ | refine zY.gR32 ?_ | refine zY.s49 fun _ => ?_ | refine zY.cV (hs_f_AckBookModel_takeOut _ _ _) fun _ => ?_
theorem hs_q_AckBookModel_comeIn_74 (J : Option Nat → Int32 → Int64 → Int32 → zW → zR) (xL1 : Int32) (yL2 : Int64) (xL4 : Int32) (σ : zS) (hJ : ∀ (b1 : Int32) (b2 : Int64) (b3 : Int32) (σ : zS), zY B X τ n c s σ (J (some (B + 31)) b1 b2 b3 (o_w B X τ σ n c s))) : zY B X τ n c s σ (q_AckBookModel_comeIn_74 F X J (some (B + 31)) xL1 yL2 xL4 (o_w B X τ σ n c s)) := by
  unfold q_AckBookModel_comeIn_74
  repeat' with_reducible first | exact hJ _ _ _ _ | exact zY.none | exact zY.rt | exact zY.retZ | exact hs_q_AckBookModel_comeIn_159 _ _ _ _ _ hJ | exact hs_f_AckBookModel_takeOut _ _ _ | refine zY.ite ?_ ?_ | refine zY.this ?_ | refine zY.ldI fun _ => ?_ | refine zY.ldL fun _ => ?_ | refine zY.gR30 ?_ | refine zY.gR31 ?_ | refine zY.gR32 ?_ | refine zY.s47 fun _ => ?_ | refine zY.s48 fun _ => ?_ | refine zY.s49 fun _ => ?_ | refine zY.cV (hs_f_AckBookModel_takeOut _ _ _) fun _ => ?_
theorem hs_j_AckBookModel_comeIn : ∀ (N : Nat) (a2 : Int32) (a3 : Int64) (a4 : Int32) (σ : zS), zY B X τ n c s σ (j_AckBookModel_comeIn F X N (some (B + 31)) a2 a3 a4 (o_w B X τ σ n c s)) := by
  intro N
  induction N with
  | zero => exact fun a2 a3 a4 σ => zY.none
  | succ N ih =>
    intro a2 a3 a4 σ
    rw [j_AckBookModel_comeIn]
    repeat' with_reducible first | exact ih _ _ _ _ | exact zY.none | exact zY.rt | exact zY.retZ | exact hs_q_AckBookModel_comeIn_74 _ _ _ _ _ (ih) | refine zY.ite ?_ ?_ | refine zY.ldL fun _ => ?_ | refine zY.gR31 ?_ | refine zY.gR32 ?_ | refine zY.s48 fun _ => ?_ | refine zY.s49 fun _ => ?_
theorem hs_f_AckBookModel_comeIn (pI1 : Int32) (pJ2 : Int64) (σ : zS) : zY B X τ n c s σ (f_AckBookModel_comeIn F X (some (B + 31)) pI1 pJ2 (o_w B X τ σ n c s)) := by
  unfold f_AckBookModel_comeIn
  repeat' with_reducible first | exact zY.none | exact zY.rt | exact zY.retZ | exact hs_j_AckBookModel_comeIn _ _ _ _ _ | refine zY.ite ?_ ?_ | refine zY.ldI fun _ => ?_ | refine zY.gR30 ?_
theorem hs_q_AckBookModel_came_115 (xL1 : Int32) (yL2 : Int64) (yL5 : Int64) (σ : zS) : zY B X τ n c s σ (q_AckBookModel_came_115 F X (some (B + 31)) xL1 yL2 yL5 (o_w B X τ σ n c s)) := by
  unfold q_AckBookModel_came_115
  repeat' with_reducible first | exact zY.none | exact zY.rt | exact zY.retZ | refine zY.ite ?_ ?_ | refine zY.ldI fun _ => ?_ | refine zY.gR35 ?_ | refine zY.gR37 ?_ | refine zY.s52 fun _ => ?_ | refine zY.s54 fun _ => ?_
theorem hs_q_AckBookModel_came_83 (xL1 : Int32) (yL2 : Int64) (xL4 : Int32) (yL5 : Int64) (σ : zS) : zY B X τ n c s σ (q_AckBookModel_came_83 F X (some (B + 31)) xL1 yL2 xL4 yL5 (o_w B X τ σ n c s)) := by
  unfold q_AckBookModel_came_83
  repeat' with_reducible first | exact zY.none | exact zY.rt | exact zY.retZ | exact hs_f_AckBookModel_comeIn _ _ _ | exact hs_q_AckBookModel_came_115 _ _ _ _ | refine zY.ite ?_ ?_ | refine zY.this ?_ | refine zY.getI fun _ => ?_ | refine zY.ldI fun _ => ?_ | refine zY.gR35 ?_ | refine zY.gR36 ?_ | refine zY.s52 fun _ => ?_ | refine zY.s53 fun _ => ?_ | refine zY.cV (hs_f_AckBookModel_comeIn _ _ _) fun _ => ?_
theorem hs_q_AckBookModel_came_27 (xL1 : Int32) (yL2 : Int64) (xL4 : Int32) (xS1 : Int32) (σ : zS) : zY B X τ n c s σ (q_AckBookModel_came_27 F X (some (B + 31)) xL1 yL2 xL4 (some (B + 31)) xS1 (o_w B X τ σ n c s)) := by
  unfold q_AckBookModel_came_27
  repeat' with_reducible first | exact zY.none | exact zY.rt | exact zY.retZ | exact hs_f_AckBookModel_fails _ _ _ | exact hs_f_AckBookModel_isOld _ _ _ | exact hs_f_AckBookModel_greatest _ _ | exact hs_q_AckBookModel_came_83 _ _ _ _ _ | refine zY.ite ?_ ?_ | refine zY.this ?_ | refine zY.getI fun _ => ?_ | refine zY.ldI fun _ => ?_ | refine zY.gR11 ?_ | refine zY.gR34 ?_ | refine zY.s51 fun _ => ?_ | refine zY.cI (hs_f_AckBookModel_fails _ _ _) fun _ _ => ?_ | refine zY.cI (hs_f_AckBookModel_isOld _ _ _) fun _ _ => ?_ | refine zY.cL (hs_f_AckBookModel_greatest _ _) fun _ _ => ?_
theorem hs_q_AckBookModel_came_22 (xL1 : Int32) (yL2 : Int64) (xL4 : Int32) (σ : zS) : zY B X τ n c s σ (q_AckBookModel_came_22 F X (some (B + 31)) xL1 yL2 xL4 (some (B + 31)) (o_w B X τ σ n c s)) := by
  unfold q_AckBookModel_came_22
  repeat' with_reducible first | exact zY.none | exact zY.rt | exact zY.retZ | exact hs_q_AckBookModel_came_27 _ _ _ _ _ | refine zY.ite ?_ ?_
theorem hs_f_AckBookModel_came (pI1 : Int32) (pJ2 : Int64) (pI3 : Int32) (σ : zS) : zY B X τ n c s σ (f_AckBookModel_came F X (some (B + 31)) pI1 pJ2 pI3 (o_w B X τ σ n c s)) := by
  unfold f_AckBookModel_came
  repeat' with_reducible first | exact zY.none | exact zY.rt | exact zY.retZ | exact hs_f_AckBookModel_noSpace _ _ | exact hs_q_AckBookModel_came_22 _ _ _ _ | exact hs_q_AckBookModel_came_27 _ _ _ _ _ | refine zY.ite ?_ ?_ | refine zY.cI (hs_f_AckBookModel_noSpace _ _) fun _ _ => ?_
theorem hs_f_AckBookModel_due (pI1 : Int32) (σ : zS) : zY B X τ n c s σ (f_AckBookModel_due F X (some (B + 31)) pI1 (o_w B X τ σ n c s)) := by
  unfold f_AckBookModel_due
  repeat' with_reducible first | exact zY.none | exact zY.rt | exact zY.retZ | exact hs_f_AckBookModel_noSpace _ _ | exact hs_f_AckBookModel_fails _ _ _ | refine zY.ite ?_ ?_ | refine zY.this ?_ | refine zY.getI fun _ => ?_ | refine zY.ldI fun _ => ?_ | refine zY.gR35 ?_ | refine zY.gR36 ?_ | refine zY.gR37 ?_ | refine zY.cI (hs_f_AckBookModel_noSpace _ _) fun _ _ => ?_ | refine zY.cI (hs_f_AckBookModel_fails _ _ _) fun _ _ => ?_
theorem hs_q_AckBookModel_written_36 (xL1 : Int32) (xS1 : Int32) (σ : zS) : zY B X τ n c s σ (q_AckBookModel_written_36 F X (some (B + 31)) xL1 (some (B + 31)) xS1 (o_w B X τ σ n c s)) := by
  unfold q_AckBookModel_written_36
  repeat' with_reducible first | exact zY.none | exact zY.rt | exact zY.retZ | exact hs_f_AckBookModel_fails _ _ _ | refine zY.ite ?_ ?_ | refine zY.this ?_ | refine zY.getI fun _ => ?_ | refine zY.ldI fun _ => ?_ | refine zY.gR34 ?_ | refine zY.gR35 ?_ | refine zY.gR37 ?_ | refine zY.s51 fun _ => ?_ | refine zY.s52 fun _ => ?_ | refine zY.s54 fun _ => ?_ | refine zY.cI (hs_f_AckBookModel_fails _ _ _) fun _ _ => ?_
theorem hs_q_AckBookModel_written_31 (xL1 : Int32) (σ : zS) : zY B X τ n c s σ (q_AckBookModel_written_31 F X (some (B + 31)) xL1 (some (B + 31)) (o_w B X τ σ n c s)) := by
  unfold q_AckBookModel_written_31
  repeat' with_reducible first | exact zY.none | exact zY.rt | exact zY.retZ | exact hs_q_AckBookModel_written_36 _ _ _ | refine zY.ite ?_ ?_
theorem hs_f_AckBookModel_written (pI1 : Int32) (σ : zS) : zY B X τ n c s σ (f_AckBookModel_written F X (some (B + 31)) pI1 (o_w B X τ σ n c s)) := by
  unfold f_AckBookModel_written
  repeat' with_reducible first | exact zY.none | exact zY.rt | exact zY.retZ | exact hs_f_AckBookModel_noSpace _ _ | exact hs_f_AckBookModel_fails _ _ _ | exact hs_q_AckBookModel_written_31 _ _ | exact hs_q_AckBookModel_written_36 _ _ _ | refine zY.ite ?_ ?_ | refine zY.this ?_ | refine zY.ldI fun _ => ?_ | refine zY.gR11 ?_ | refine zY.gR30 ?_ | refine zY.cI (hs_f_AckBookModel_noSpace _ _) fun _ _ => ?_ | refine zY.cI (hs_f_AckBookModel_fails _ _ _) fun _ _ => ?_
theorem hs_q_AckBookModel_range_32 (xL1 : Int32) (xL2 : Int32) (xL3 : Int32) (xS1 : Int32) (σ : zS) : zY B X τ n c s σ (q_AckBookModel_range_32 F X (some (B + 31)) xL1 xL2 xL3 (some (B + 31)) xS1 (o_w B X τ σ n c s)) := by
  unfold q_AckBookModel_range_32
  repeat' with_reducible first | exact zY.none | exact zY.rt | exact zY.retZ | exact hs_f_AckBookModel_fails _ _ _ | refine zY.ite ?_ ?_ | refine zY.this ?_ | refine zY.ldI fun _ => ?_ | refine zY.ldL fun _ => ?_ | refine zY.gR30 ?_ | refine zY.gR31 ?_ | refine zY.gR32 ?_ | refine zY.cI (hs_f_AckBookModel_fails _ _ _) fun _ _ => ?_
theorem hs_q_AckBookModel_range_27 (xL1 : Int32) (xL2 : Int32) (xL3 : Int32) (σ : zS) : zY B X τ n c s σ (q_AckBookModel_range_27 F X (some (B + 31)) xL1 xL2 xL3 (some (B + 31)) (o_w B X τ σ n c s)) := by
  unfold q_AckBookModel_range_27
  repeat' with_reducible first | exact zY.none | exact zY.rt | exact zY.retZ | exact hs_q_AckBookModel_range_32 _ _ _ _ _ | refine zY.ite ?_ ?_
theorem hs_f_AckBookModel_range (pI1 : Int32) (pI2 : Int32) (pI3 : Int32) (σ : zS) : zY B X τ n c s σ (f_AckBookModel_range F X (some (B + 31)) pI1 pI2 pI3 (o_w B X τ σ n c s)) := by
  unfold f_AckBookModel_range
  repeat' with_reducible first | exact zY.none | exact zY.rt | exact zY.retZ | exact hs_f_AckBookModel_noSpace _ _ | exact hs_f_AckBookModel_fails _ _ _ | exact hs_q_AckBookModel_range_27 _ _ _ _ | exact hs_q_AckBookModel_range_32 _ _ _ _ _ | refine zY.ite ?_ ?_ | refine zY.this ?_ | refine zY.ldI fun _ => ?_ | refine zY.gR30 ?_ | refine zY.cI (hs_f_AckBookModel_noSpace _ _) fun _ _ => ?_ | refine zY.cI (hs_f_AckBookModel_fails _ _ _) fun _ _ => ?_
theorem hs_q_AckBookModel_look_16 (xL1 : Int32) (xS1 : Int32) (σ : zS) : zY B X τ n c s σ (q_AckBookModel_look_16 F X (some (B + 31)) xL1 (some (B + 31)) xS1 (o_w B X τ σ n c s)) := by
  unfold q_AckBookModel_look_16
  repeat' with_reducible first | exact zY.none | exact zY.rt | exact zY.retZ | exact hs_f_AckBookModel_fails _ _ _ | exact hs_f_AckBookModel_flight _ | exact hs_f_AckBookModel_limit _ | exact hs_f_AckBookModel_greater _ _ _ | refine zY.ite ?_ ?_ | refine zY.this ?_ | refine zY.getI fun _ => ?_ | refine zY.cI (hs_f_AckBookModel_fails _ _ _) fun _ _ => ?_ | refine zY.cI (hs_f_AckBookModel_flight _) fun _ _ => ?_ | refine zY.cI (hs_f_AckBookModel_limit _) fun _ _ => ?_ | refine zY.cI (hs_f_AckBookModel_greater _ _ _) fun _ _ => ?_
theorem hs_q_AckBookModel_look_11 (xL1 : Int32) (σ : zS) : zY B X τ n c s σ (q_AckBookModel_look_11 F X (some (B + 31)) xL1 (some (B + 31)) (o_w B X τ σ n c s)) := by
  unfold q_AckBookModel_look_11
  repeat' with_reducible first | exact zY.none | exact zY.rt | exact zY.retZ | exact hs_q_AckBookModel_look_16 _ _ _ | refine zY.ite ?_ ?_
theorem hs_f_AckBookModel_look (pI1 : Int32) (σ : zS) : zY B X τ n c s σ (f_AckBookModel_look F X (some (B + 31)) pI1 (o_w B X τ σ n c s)) := by
  unfold f_AckBookModel_look
  repeat' with_reducible first | exact zY.none | exact zY.rt | exact zY.retZ | exact hs_q_AckBookModel_look_11 _ _ | exact hs_q_AckBookModel_look_16 _ _ _ | refine zY.ite ?_ ?_
theorem hs_q_AckBookModel_space_28 (xL1 : Int32) (xL2 : Int32) (xS1 : Int32) (σ : zS) : zY B X τ n c s σ (q_AckBookModel_space_28 F X (some (B + 31)) xL1 xL2 (some (B + 31)) xS1 (o_w B X τ σ n c s)) := by
  unfold q_AckBookModel_space_28
  repeat' with_reducible first | exact zY.none | exact zY.rt | exact zY.retZ | exact hs_f_AckBookModel_fails _ _ _ | exact hs_f_AckBookModel_probeTime _ _ | exact hs_f_AckBookModel_outs _ _ _ | exact hs_f_AckBookModel_patience _ _ | refine zY.ite ?_ ?_ | refine zY.this ?_ | refine zY.ldI fun _ => ?_ | refine zY.ldL fun _ => ?_ | refine zY.gR4 ?_ | refine zY.gR11 ?_ | refine zY.gR12 ?_ | refine zY.gR13 ?_ | refine zY.gR30 ?_ | refine zY.gR33 ?_ | refine zY.gR35 ?_ | refine zY.cI (hs_f_AckBookModel_fails _ _ _) fun _ _ => ?_ | refine zY.cI (hs_f_AckBookModel_probeTime _ _) fun _ _ => ?_ | refine zY.cI (hs_f_AckBookModel_outs _ _ _) fun _ _ => ?_ | refine zY.cI (hs_f_AckBookModel_patience _ _) fun _ _ => ?_
theorem hs_q_AckBookModel_space_23 (xL1 : Int32) (xL2 : Int32) (σ : zS) : zY B X τ n c s σ (q_AckBookModel_space_23 F X (some (B + 31)) xL1 xL2 (some (B + 31)) (o_w B X τ σ n c s)) := by
  unfold q_AckBookModel_space_23
  repeat' with_reducible first | exact zY.none | exact zY.rt | exact zY.retZ | exact hs_q_AckBookModel_space_28 _ _ _ _ | refine zY.ite ?_ ?_
theorem hs_f_AckBookModel_space (pI1 : Int32) (pI2 : Int32) (σ : zS) : zY B X τ n c s σ (f_AckBookModel_space F X (some (B + 31)) pI1 pI2 (o_w B X τ σ n c s)) := by
  unfold f_AckBookModel_space
  repeat' with_reducible first | exact zY.none | exact zY.rt | exact zY.retZ | exact hs_f_AckBookModel_noSpace _ _ | exact hs_f_AckBookModel_fails _ _ _ | exact hs_q_AckBookModel_space_23 _ _ _ | exact hs_q_AckBookModel_space_28 _ _ _ _ | refine zY.ite ?_ ?_ | refine zY.this ?_ | refine zY.cI (hs_f_AckBookModel_noSpace _ _) fun _ _ => ?_ | refine zY.cI (hs_f_AckBookModel_fails _ _ _) fun _ _ => ?_
end FY
