section FM
variable {B X F : Nat} {τ : zK} {σ : zS} {n c s : Nat}
/-- what the reference's other calls leave: the arrivals' cells and the clock -/
def fM (σ σ' : zS) : Prop := (∀ o, o < 31 ∨ o = 39 ∨ (47 ≤ o ∧ o < 56) → σ'.1 o = σ.1 o ∧ σ'.2.1 o = σ.2.1 o) ∧ σ'.1 31 1 = σ.1 31 1
theorem fM.refl (σ : zS) : fM σ σ := ⟨fun _ _ => ⟨rfl, rfl⟩, rfl⟩
theorem fM.trans {a b d : zS} (h1 : fM a b) (h2 : fM b d) : fM a d := ⟨fun o x => ⟨(h2.1 o x).1.trans (h1.1 o x).1, (h2.1 o x).2.trans (h1.1 o x).2⟩, h2.2.trans h1.2⟩
def zM (B X : Nat) (τ : zK) (n c s : Nat) (σ : zS) (r : zR) : Prop := ∀ o w', r = some (o, w') → ∃ σ', w' = o_w B X τ σ' n c s ∧ fM σ σ'
theorem fM.I {σ1 : zS} {o f : Nat} {x : Int32} (ho : (31 ≤ o ∧ o < 47 ∧ o ≠ 39) ∧ ¬ (o = 31 ∧ f = 1)) (h : fM σ σ1) : fM σ (o_I σ1 o f x) := h.trans ⟨fun a h1 => ⟨funext fun b => by rw [i11, if_neg (fun q => by omega)], rfl⟩, by rw [i11, if_neg (fun q => ho.2 ⟨q.1.symm, q.2.symm⟩)]⟩
theorem fM.L {σ1 : zS} {o f : Nat} {x : Int64} (ho : 31 ≤ o ∧ o < 47 ∧ o ≠ 39) (h : fM σ σ1) : fM σ (o_L σ1 o f x) := h.trans ⟨fun a h1 => ⟨rfl, funext fun b => by rw [l12, if_neg (fun q => by omega)]⟩, rfl⟩
theorem zM.none : zM B X τ n c s σ none := fun _ _ h => nomatch h
theorem zM.ret {σ1 : zS} {o : zO} (hf : fM σ σ1) : zM B X τ n c s σ (some (o, o_w B X τ σ1 n c s)) := fun _ _ h => by
  injection h with h
  injection h with _ h
  subst h
  exact ⟨σ1, rfl, hf⟩
theorem zM.of {σ1 : zS} {r : zR} (h2 : zM B X τ n c s σ1 r) (h : fM σ σ1) : zM B X τ n c s σ r := fun o w' e => by
  obtain ⟨σ', a, b⟩ := h2 o w' e
  exact ⟨σ', a, h.trans b⟩
theorem zM.ite {p : Prop} [Decidable p] {a b : zR} (h1 : zM B X τ n c s σ a) (h2 : zM B X τ n c s σ b) : zM B X τ n c s σ (if p then a else b) := by
  split
  · exact h1
  · exact h2
theorem zM.cI {r : zR} {K : Int32 → zW → zR} (hx : zM B X τ n c s σ r) (h : ∀ v σ, zM B X τ n c s σ (K v (o_w B X τ σ n c s))) : zM B X τ n c s σ (z_cI r K) := by
  intro o w' e
  obtain ⟨w1, o1, e1, hz⟩ := z_cI_spec e
  obtain ⟨σ2, rfl, hg⟩ := hx _ _ e1
  rcases hz with ⟨v, a, y, b, a2⟩ | ⟨y, a, a2⟩
  · obtain ⟨σ3, p, q⟩ := h y σ2 o w' a2
    exact ⟨σ3, p, hg.trans q⟩
  · injection a2 with _ a2
    exact ⟨σ2, a2, hg⟩
theorem zM.cL {r : zR} {K : Int64 → zW → zR} (hx : zM B X τ n c s σ r) (h : ∀ v σ, zM B X τ n c s σ (K v (o_w B X τ σ n c s))) : zM B X τ n c s σ (z_cL r K) := by
  intro o w' e
  obtain ⟨w1, o1, e1, hz⟩ := z_cL_spec e
  obtain ⟨σ2, rfl, hg⟩ := hx _ _ e1
  rcases hz with ⟨v, a, y, b, a2⟩ | ⟨y, a, a2⟩
  · obtain ⟨σ3, p, q⟩ := h y σ2 o w' a2
    exact ⟨σ3, p, hg.trans q⟩
  · injection a2 with _ a2
    exact ⟨σ2, a2, hg⟩
theorem zM.cV {r : zR} {K : zW → zR} (hx : zM B X τ n c s σ r) (h : ∀ σ, zM B X τ n c s σ (K (o_w B X τ σ n c s))) : zM B X τ n c s σ (z_cV r K) := by
  intro o w' e
  obtain ⟨w1, o1, e1, hz⟩ := z_cV_spec e
  obtain ⟨σ2, rfl, hg⟩ := hx _ _ e1
  rcases hz with ⟨v, a, a2⟩ | ⟨y, a, a2⟩
  · obtain ⟨σ3, p, q⟩ := h σ2 o w' a2.2
    exact ⟨σ3, p, hg.trans q⟩
  · injection a2 with _ a2
    exact ⟨σ2, a2, hg⟩
theorem zM.rt {o : zO} : zM B X τ n c s σ (some (o, o_w B X τ σ n c s)) := zM.ret (fM.refl σ)
theorem zM.retZ {v : Int32} : zM B X τ n c s σ (z_retZ v (o_w B X τ σ n c s)) := by
  unfold z_retZ
  exact zM.ite zM.rt zM.none
theorem zM.nz {p : Prop} [Decidable p] {K : zR} (h : zM B X τ n c s σ K) : zM B X τ n c s σ (z_nz p K) := by
  unfold z_nz
  exact zM.ite zM.none h
theorem zM.this {w : zW} {ci : Nat} {r : Option Nat} {K : zR} (h : zM B X τ n c s σ K) : zM B X τ n c s σ (z_this w ci r K) := by
  unfold z_this
  split
  · exact h
  · exact zM.none
theorem zM.getI {w : zW} {ci k : Nat} {r : Option Nat} {K : Int32 → zR} (h : ∀ v, zM B X τ n c s σ (K v)) : zM B X τ n c s σ (z_getI w ci k r K) := by
  unfold z_getI
  (repeat' split) <;> first | exact h _ | exact zM.none
theorem zM.ldI {w : zW} {ty : FieldType} {i : Int32} {r : Option Nat} {K : Int32 → zR} (h : ∀ v, zM B X τ n c s σ (K v)) : zM B X τ n c s σ (z_ldI w ty r i K) := by
  unfold z_ldI
  (repeat' split) <;> first | exact h _ | exact zM.none
theorem zM.ldL {w : zW} {i : Int32} {r : Option Nat} {K : Int64 → zR} (h : ∀ v, zM B X τ n c s σ (K v)) : zM B X τ n c s σ (z_ldL w r i K) := by
  unfold z_ldL
  (repeat' split) <;> first | exact h _ | exact zM.none
theorem zM.gR4 {K : Option Nat → zR} (h : zM B X τ n c s σ (K (some (B + 32)))) : zM B X τ n c s σ (z_getR (o_w B X τ σ n c s) 10 4 (some (B + 31)) K) := by
  rw [or_31_4]
  exact h
theorem zM.gR5 {K : Option Nat → zR} (h : zM B X τ n c s σ (K (some (B + 33)))) : zM B X τ n c s σ (z_getR (o_w B X τ σ n c s) 10 5 (some (B + 31)) K) := by
  rw [or_31_5]
  exact h
theorem zM.gR6 {K : Option Nat → zR} (h : zM B X τ n c s σ (K (some (B + 34)))) : zM B X τ n c s σ (z_getR (o_w B X τ σ n c s) 10 6 (some (B + 31)) K) := by
  rw [or_31_6]
  exact h
theorem zM.gR7 {K : Option Nat → zR} (h : zM B X τ n c s σ (K (some (B + 35)))) : zM B X τ n c s σ (z_getR (o_w B X τ σ n c s) 10 7 (some (B + 31)) K) := by
  rw [or_31_7]
  exact h
theorem zM.gR8 {K : Option Nat → zR} (h : zM B X τ n c s σ (K (some (B + 36)))) : zM B X τ n c s σ (z_getR (o_w B X τ σ n c s) 10 8 (some (B + 31)) K) := by
  rw [or_31_8]
  exact h
theorem zM.gR9 {K : Option Nat → zR} (h : zM B X τ n c s σ (K (some (B + 37)))) : zM B X τ n c s σ (z_getR (o_w B X τ σ n c s) 10 9 (some (B + 31)) K) := by
  rw [or_31_9]
  exact h
theorem zM.gR10 {K : Option Nat → zR} (h : zM B X τ n c s σ (K (some (B + 38)))) : zM B X τ n c s σ (z_getR (o_w B X τ σ n c s) 10 10 (some (B + 31)) K) := by
  rw [or_31_10]
  exact h
theorem zM.gR11 {K : Option Nat → zR} (h : zM B X τ n c s σ (K (some (B + 39)))) : zM B X τ n c s σ (z_getR (o_w B X τ σ n c s) 10 11 (some (B + 31)) K) := by
  rw [or_31_11]
  exact h
theorem zM.gR12 {K : Option Nat → zR} (h : zM B X τ n c s σ (K (some (B + 40)))) : zM B X τ n c s σ (z_getR (o_w B X τ σ n c s) 10 12 (some (B + 31)) K) := by
  rw [or_31_12]
  exact h
theorem zM.gR13 {K : Option Nat → zR} (h : zM B X τ n c s σ (K (some (B + 41)))) : zM B X τ n c s σ (z_getR (o_w B X τ σ n c s) 10 13 (some (B + 31)) K) := by
  rw [or_31_13]
  exact h
theorem zM.gR15 {K : Option Nat → zR} (h : zM B X τ n c s σ (K (some (B + 42)))) : zM B X τ n c s σ (z_getR (o_w B X τ σ n c s) 10 15 (some (B + 31)) K) := by
  rw [or_31_15]
  exact h
theorem zM.gR16 {K : Option Nat → zR} (h : zM B X τ n c s σ (K (some (B + 43)))) : zM B X τ n c s σ (z_getR (o_w B X τ σ n c s) 10 16 (some (B + 31)) K) := by
  rw [or_31_16]
  exact h
theorem zM.gR17 {K : Option Nat → zR} (h : zM B X τ n c s σ (K (some (B + 44)))) : zM B X τ n c s σ (z_getR (o_w B X τ σ n c s) 10 17 (some (B + 31)) K) := by
  rw [or_31_17]
  exact h
theorem zM.gR28 {K : Option Nat → zR} (h : zM B X τ n c s σ (K (some (B + 45)))) : zM B X τ n c s σ (z_getR (o_w B X τ σ n c s) 10 28 (some (B + 31)) K) := by
  rw [or_31_28]
  exact h
theorem zM.gR29 {K : Option Nat → zR} (h : zM B X τ n c s σ (K (some (B + 46)))) : zM B X τ n c s σ (z_getR (o_w B X τ σ n c s) 10 29 (some (B + 31)) K) := by
  rw [or_31_29]
  exact h
theorem zM.gR30 {K : Option Nat → zR} (h : zM B X τ n c s σ (K (some (B + 47)))) : zM B X τ n c s σ (z_getR (o_w B X τ σ n c s) 10 30 (some (B + 31)) K) := by
  rw [or_31_30]
  exact h
theorem zM.gR31 {K : Option Nat → zR} (h : zM B X τ n c s σ (K (some (B + 48)))) : zM B X τ n c s σ (z_getR (o_w B X τ σ n c s) 10 31 (some (B + 31)) K) := by
  rw [or_31_31]
  exact h
theorem zM.gR32 {K : Option Nat → zR} (h : zM B X τ n c s σ (K (some (B + 49)))) : zM B X τ n c s σ (z_getR (o_w B X τ σ n c s) 10 32 (some (B + 31)) K) := by
  rw [or_31_32]
  exact h
theorem zM.gR33 {K : Option Nat → zR} (h : zM B X τ n c s σ (K (some (B + 50)))) : zM B X τ n c s σ (z_getR (o_w B X τ σ n c s) 10 33 (some (B + 31)) K) := by
  rw [or_31_33]
  exact h
theorem zM.gR34 {K : Option Nat → zR} (h : zM B X τ n c s σ (K (some (B + 51)))) : zM B X τ n c s σ (z_getR (o_w B X τ σ n c s) 10 34 (some (B + 31)) K) := by
  rw [or_31_34]
  exact h
theorem zM.gR35 {K : Option Nat → zR} (h : zM B X τ n c s σ (K (some (B + 52)))) : zM B X τ n c s σ (z_getR (o_w B X τ σ n c s) 10 35 (some (B + 31)) K) := by
  rw [or_31_35]
  exact h
theorem zM.gR36 {K : Option Nat → zR} (h : zM B X τ n c s σ (K (some (B + 53)))) : zM B X τ n c s σ (z_getR (o_w B X τ σ n c s) 10 36 (some (B + 31)) K) := by
  rw [or_31_36]
  exact h
theorem zM.gR37 {K : Option Nat → zR} (h : zM B X τ n c s σ (K (some (B + 54)))) : zM B X τ n c s σ (z_getR (o_w B X τ σ n c s) 10 37 (some (B + 31)) K) := by
  rw [or_31_37]
  exact h
theorem zM.p0 {x : Int32} {K : zW → zR} (h : ∀ σ, zM B X τ n c s σ (K (o_w B X τ σ n c s))) : zM B X τ n c s σ (z_put (o_w B X τ σ n c s) 10 0 (some (B + 31)) (.int x) K) := by
  rw [op_31_0]
  exact (h _).of (fM.I (by decide) (fM.refl _))
theorem zM.p2 {x : Int32} {K : zW → zR} (h : ∀ σ, zM B X τ n c s σ (K (o_w B X τ σ n c s))) : zM B X τ n c s σ (z_put (o_w B X τ σ n c s) 10 2 (some (B + 31)) (.int x) K) := by
  rw [op_31_2]
  exact (h _).of (fM.I (by decide) (fM.refl _))
theorem zM.p3 {x : Int32} {K : zW → zR} (h : ∀ σ, zM B X τ n c s σ (K (o_w B X τ σ n c s))) : zM B X τ n c s σ (z_put (o_w B X τ σ n c s) 10 3 (some (B + 31)) (.int x) K) := by
  rw [op_31_3]
  exact (h _).of (fM.I (by decide) (fM.refl _))
theorem zM.p14 {x : Int32} {K : zW → zR} (h : ∀ σ, zM B X τ n c s σ (K (o_w B X τ σ n c s))) : zM B X τ n c s σ (z_put (o_w B X τ σ n c s) 10 14 (some (B + 31)) (.int x) K) := by
  rw [op_31_14]
  exact (h _).of (fM.I (by decide) (fM.refl _))
theorem zM.p18 {x : Int32} {K : zW → zR} (h : ∀ σ, zM B X τ n c s σ (K (o_w B X τ σ n c s))) : zM B X τ n c s σ (z_put (o_w B X τ σ n c s) 10 18 (some (B + 31)) (.int x) K) := by
  rw [op_31_18]
  exact (h _).of (fM.I (by decide) (fM.refl _))
theorem zM.p19 {x : Int32} {K : zW → zR} (h : ∀ σ, zM B X τ n c s σ (K (o_w B X τ σ n c s))) : zM B X τ n c s σ (z_put (o_w B X τ σ n c s) 10 19 (some (B + 31)) (.int x) K) := by
  rw [op_31_19]
  exact (h _).of (fM.I (by decide) (fM.refl _))
theorem zM.p20 {x : Int32} {K : zW → zR} (h : ∀ σ, zM B X τ n c s σ (K (o_w B X τ σ n c s))) : zM B X τ n c s σ (z_put (o_w B X τ σ n c s) 10 20 (some (B + 31)) (.int x) K) := by
  rw [op_31_20]
  exact (h _).of (fM.I (by decide) (fM.refl _))
theorem zM.p21 {x : Int32} {K : zW → zR} (h : ∀ σ, zM B X τ n c s σ (K (o_w B X τ σ n c s))) : zM B X τ n c s σ (z_put (o_w B X τ σ n c s) 10 21 (some (B + 31)) (.int x) K) := by
  rw [op_31_21]
  exact (h _).of (fM.I (by decide) (fM.refl _))
theorem zM.p22 {x : Int32} {K : zW → zR} (h : ∀ σ, zM B X τ n c s σ (K (o_w B X τ σ n c s))) : zM B X τ n c s σ (z_put (o_w B X τ σ n c s) 10 22 (some (B + 31)) (.int x) K) := by
  rw [op_31_22]
  exact (h _).of (fM.I (by decide) (fM.refl _))
theorem zM.p23 {x : Int32} {K : zW → zR} (h : ∀ σ, zM B X τ n c s σ (K (o_w B X τ σ n c s))) : zM B X τ n c s σ (z_put (o_w B X τ σ n c s) 10 23 (some (B + 31)) (.int x) K) := by
  rw [op_31_23]
  exact (h _).of (fM.I (by decide) (fM.refl _))
theorem zM.p24 {x : Int32} {K : zW → zR} (h : ∀ σ, zM B X τ n c s σ (K (o_w B X τ σ n c s))) : zM B X τ n c s σ (z_put (o_w B X τ σ n c s) 10 24 (some (B + 31)) (.int x) K) := by
  rw [op_31_24]
  exact (h _).of (fM.I (by decide) (fM.refl _))
theorem zM.p25 {x : Int32} {K : zW → zR} (h : ∀ σ, zM B X τ n c s σ (K (o_w B X τ σ n c s))) : zM B X τ n c s σ (z_put (o_w B X τ σ n c s) 10 25 (some (B + 31)) (.int x) K) := by
  rw [op_31_25]
  exact (h _).of (fM.I (by decide) (fM.refl _))
theorem zM.p26 {x : Int32} {K : zW → zR} (h : ∀ σ, zM B X τ n c s σ (K (o_w B X τ σ n c s))) : zM B X τ n c s σ (z_put (o_w B X τ σ n c s) 10 26 (some (B + 31)) (.int x) K) := by
  rw [op_31_26]
  exact (h _).of (fM.I (by decide) (fM.refl _))
theorem zM.p27 {x : Int32} {K : zW → zR} (h : ∀ σ, zM B X τ n c s σ (K (o_w B X τ σ n c s))) : zM B X τ n c s σ (z_put (o_w B X τ σ n c s) 10 27 (some (B + 31)) (.int x) K) := by
  rw [op_31_27]
  exact (h _).of (fM.I (by decide) (fM.refl _))
theorem zM.z2 {x : Int32} {K : zW → zR} (h : ∀ σ, zM B X τ n c s σ (K (o_w B X τ σ n c s))) : zM B X τ n c s σ (z_putZ (o_w B X τ σ n c s) 10 2 (some (B + 31)) x K) := by
  rw [oz_31_2]
  exact zM.ite ((h _).of (fM.I (by decide) (fM.refl _))) zM.none
theorem zM.z3 {x : Int32} {K : zW → zR} (h : ∀ σ, zM B X τ n c s σ (K (o_w B X τ σ n c s))) : zM B X τ n c s σ (z_putZ (o_w B X τ σ n c s) 10 3 (some (B + 31)) x K) := by
  rw [oz_31_3]
  exact zM.ite ((h _).of (fM.I (by decide) (fM.refl _))) zM.none
theorem zM.s32 {i : Int32} {x : Int32} {K : zW → zR} (h : ∀ σ, zM B X τ n c s σ (K (o_w B X τ σ n c s))) : zM B X τ n c s σ (z_stI (o_w B X τ σ n c s) (some (B + 32)) i x K) := by
  rw [oas_32]
  exact zM.ite ((h _).of (fM.I ⟨by decide, fun q => absurd q.1 (by decide)⟩ (fM.refl _))) zM.none
theorem zM.s33 {i : Int32} {x : Int32} {K : zW → zR} (h : ∀ σ, zM B X τ n c s σ (K (o_w B X τ σ n c s))) : zM B X τ n c s σ (z_stI (o_w B X τ σ n c s) (some (B + 33)) i x K) := by
  rw [oas_33]
  exact zM.ite ((h _).of (fM.I ⟨by decide, fun q => absurd q.1 (by decide)⟩ (fM.refl _))) zM.none
theorem zM.s34 {i : Int32} {x : Int32} {K : zW → zR} (h : ∀ σ, zM B X τ n c s σ (K (o_w B X τ σ n c s))) : zM B X τ n c s σ (z_stI (o_w B X τ σ n c s) (some (B + 34)) i x K) := by
  rw [oas_34]
  exact zM.ite ((h _).of (fM.I ⟨by decide, fun q => absurd q.1 (by decide)⟩ (fM.refl _))) zM.none
theorem zM.s35 {i : Int32} {x : Int32} {K : zW → zR} (h : ∀ σ, zM B X τ n c s σ (K (o_w B X τ σ n c s))) : zM B X τ n c s σ (z_stI (o_w B X τ σ n c s) (some (B + 35)) i x K) := by
  rw [oas_35]
  exact zM.ite ((h _).of (fM.I ⟨by decide, fun q => absurd q.1 (by decide)⟩ (fM.refl _))) zM.none
theorem zM.s36 {i : Int32} {x : Int32} {K : zW → zR} (h : ∀ σ, zM B X τ n c s σ (K (o_w B X τ σ n c s))) : zM B X τ n c s σ (z_stZ (o_w B X τ σ n c s) (some (B + 36)) i x K) := by
  rw [oas_36]
  exact zM.ite ((h _).of (fM.I ⟨by decide, fun q => absurd q.1 (by decide)⟩ (fM.refl _))) zM.none
theorem zM.s37 {i : Int32} {x : Int32} {K : zW → zR} (h : ∀ σ, zM B X τ n c s σ (K (o_w B X τ σ n c s))) : zM B X τ n c s σ (z_stZ (o_w B X τ σ n c s) (some (B + 37)) i x K) := by
  rw [oas_37]
  exact zM.ite ((h _).of (fM.I ⟨by decide, fun q => absurd q.1 (by decide)⟩ (fM.refl _))) zM.none
theorem zM.s38 {i : Int32} {x : Int32} {K : zW → zR} (h : ∀ σ, zM B X τ n c s σ (K (o_w B X τ σ n c s))) : zM B X τ n c s σ (z_stZ (o_w B X τ σ n c s) (some (B + 38)) i x K) := by
  rw [oas_38]
  exact zM.ite ((h _).of (fM.I ⟨by decide, fun q => absurd q.1 (by decide)⟩ (fM.refl _))) zM.none
theorem zM.s40 {i : Int32} {x : Int32} {K : zW → zR} (h : ∀ σ, zM B X τ n c s σ (K (o_w B X τ σ n c s))) : zM B X τ n c s σ (z_stI (o_w B X τ σ n c s) (some (B + 40)) i x K) := by
  rw [oas_40]
  exact zM.ite ((h _).of (fM.I ⟨by decide, fun q => absurd q.1 (by decide)⟩ (fM.refl _))) zM.none
theorem zM.s41 {i : Int32} {x : Int32} {K : zW → zR} (h : ∀ σ, zM B X τ n c s σ (K (o_w B X τ σ n c s))) : zM B X τ n c s σ (z_stI (o_w B X τ σ n c s) (some (B + 41)) i x K) := by
  rw [oas_41]
  exact zM.ite ((h _).of (fM.I ⟨by decide, fun q => absurd q.1 (by decide)⟩ (fM.refl _))) zM.none
theorem zM.s42 {i : Int32} {x : Int32} {K : zW → zR} (h : ∀ σ, zM B X τ n c s σ (K (o_w B X τ σ n c s))) : zM B X τ n c s σ (z_stI (o_w B X τ σ n c s) (some (B + 42)) i x K) := by
  rw [oas_42]
  exact zM.ite ((h _).of (fM.I ⟨by decide, fun q => absurd q.1 (by decide)⟩ (fM.refl _))) zM.none
theorem zM.s43 {i : Int32} {x : Int32} {K : zW → zR} (h : ∀ σ, zM B X τ n c s σ (K (o_w B X τ σ n c s))) : zM B X τ n c s σ (z_stI (o_w B X τ σ n c s) (some (B + 43)) i x K) := by
  rw [oas_43]
  exact zM.ite ((h _).of (fM.I ⟨by decide, fun q => absurd q.1 (by decide)⟩ (fM.refl _))) zM.none
theorem zM.s44 {i : Int32} {x : Int32} {K : zW → zR} (h : ∀ σ, zM B X τ n c s σ (K (o_w B X τ σ n c s))) : zM B X τ n c s σ (z_stI (o_w B X τ σ n c s) (some (B + 44)) i x K) := by
  rw [oas_44]
  exact zM.ite ((h _).of (fM.I ⟨by decide, fun q => absurd q.1 (by decide)⟩ (fM.refl _))) zM.none
theorem zM.s45 {i : Int32} {x : Int64} {K : zW → zR} (h : ∀ σ, zM B X τ n c s σ (K (o_w B X τ σ n c s))) : zM B X τ n c s σ (z_stL (o_w B X τ σ n c s) (some (B + 45)) i x K) := by
  rw [oas_45]
  exact zM.ite ((h _).of (fM.L (by decide) (fM.refl _))) zM.none
theorem zM.s46 {i : Int32} {x : Int64} {K : zW → zR} (h : ∀ σ, zM B X τ n c s σ (K (o_w B X τ σ n c s))) : zM B X τ n c s σ (z_stL (o_w B X τ σ n c s) (some (B + 46)) i x K) := by
  rw [oas_46]
  exact zM.ite ((h _).of (fM.L (by decide) (fM.refl _))) zM.none
theorem hm_f_AckBookModel_thrown (σ : zS) : zM B X τ n c s σ (f_AckBookModel_thrown F X (some (B + 31)) (o_w B X τ σ n c s)) := by
  unfold f_AckBookModel_thrown
  repeat' with_reducible first | exact zM.none | exact zM.rt | exact zM.retZ | refine zM.ite ?_ ?_ | refine zM.getI fun _ => ?_
theorem hm_f_AckBookModel_noSpace (pI1 : Int32) (σ : zS) : zM B X τ n c s σ (f_AckBookModel_noSpace F X pI1 (o_w B X τ σ n c s)) := by
  unfold f_AckBookModel_noSpace
  repeat' with_reducible first | exact zM.none | exact zM.rt | exact zM.retZ | refine zM.ite ?_ ?_
theorem hm_f_AckBookModel_fails (pI1 : Int32) (pI2 : Int32) (σ : zS) : zM B X τ n c s σ (f_AckBookModel_fails F X (some (B + 31)) pI1 pI2 (o_w B X τ σ n c s)) := by
  unfold f_AckBookModel_fails
  repeat' with_reducible first | exact zM.none | exact zM.rt | exact zM.retZ | refine zM.ite ?_ ?_ | refine zM.p0 fun _ => ?_
theorem hm_f_AckBookModel_isOut (pI1 : Int32) (pI2 : Int32) (σ : zS) : zM B X τ n c s σ (f_AckBookModel_isOut F X (some (B + 31)) pI1 pI2 (o_w B X τ σ n c s)) := by
  unfold f_AckBookModel_isOut
  repeat' with_reducible first | exact zM.none | exact zM.rt | exact zM.retZ | refine zM.ite ?_ ?_ | refine zM.ldI fun _ => ?_ | refine zM.gR7 ?_ | refine zM.gR11 ?_
theorem hm_j_AckBookModel_flight : ∀ (N : Nat) (a1 : Nat) (a3 : Int32) (a4 : Int32) (a5 : Int32) (σ : zS), zM B X τ n c s σ (j_AckBookModel_flight F X N a1 (some (B + 31)) a3 a4 a5 (o_w B X τ σ n c s)) := by
  intro N
  induction N with
  | zero => exact fun a1 a3 a4 a5 σ => zM.none
  | succ N ih =>
    intro a1 a3 a4 a5 σ
    rw [j_AckBookModel_flight]
    repeat' with_reducible first | exact ih _ _ _ _ _ | exact zM.none | exact zM.rt | exact zM.retZ | exact hm_f_AckBookModel_isOut _ _ _ | refine zM.ite ?_ ?_ | refine zM.this ?_ | refine zM.ldI fun _ => ?_ | refine zM.gR4 ?_ | refine zM.gR5 ?_ | refine zM.gR9 ?_ | refine zM.cI (hm_f_AckBookModel_isOut _ _ _) fun _ _ => ?_
theorem hm_f_AckBookModel_flight (σ : zS) : zM B X τ n c s σ (f_AckBookModel_flight F X (some (B + 31)) (o_w B X τ σ n c s)) := by
  unfold f_AckBookModel_flight
  repeat' with_reducible first | exact zM.none | exact zM.rt | exact zM.retZ | exact hm_j_AckBookModel_flight _ _ _ _ _ _ | refine zM.ite ?_ ?_
theorem hm_q_AckBookModel_send_68 (xL1 : Int32) (xL2 : Int32) (xL3 : Int32) (xL4 : Int32) (xS1 : Int32) (σ : zS) : zM B X τ n c s σ (q_AckBookModel_send_68 F X (some (B + 31)) xL1 xL2 xL3 xL4 (some (B + 31)) xS1 (o_w B X τ σ n c s)) := by
  unfold q_AckBookModel_send_68
  repeat' with_reducible first | exact zM.none | exact zM.rt | exact zM.retZ | exact hm_f_AckBookModel_fails _ _ _ | exact hm_f_AckBookModel_flight _ | refine zM.ite ?_ ?_ | refine zM.this ?_ | refine zM.getI fun _ => ?_ | refine zM.ldI fun _ => ?_ | refine zM.gR4 ?_ | refine zM.gR5 ?_ | refine zM.gR6 ?_ | refine zM.gR7 ?_ | refine zM.gR8 ?_ | refine zM.gR9 ?_ | refine zM.gR10 ?_ | refine zM.p14 fun _ => ?_ | refine zM.s32 fun _ => ?_ | refine zM.s33 fun _ => ?_ | refine zM.s34 fun _ => ?_ | refine zM.s35 fun _ => ?_ | refine zM.s36 fun _ => ?_ | refine zM.s37 fun _ => ?_ | refine zM.s38 fun _ => ?_ | refine zM.cI (hm_f_AckBookModel_fails _ _ _) fun _ _ => ?_ | refine zM.cI (hm_f_AckBookModel_flight _) fun _ _ => ?_
theorem hm_q_AckBookModel_send_63 (xL1 : Int32) (xL2 : Int32) (xL3 : Int32) (xL4 : Int32) (σ : zS) : zM B X τ n c s σ (q_AckBookModel_send_63 F X (some (B + 31)) xL1 xL2 xL3 xL4 (some (B + 31)) (o_w B X τ σ n c s)) := by
  unfold q_AckBookModel_send_63
  repeat' with_reducible first | exact zM.none | exact zM.rt | exact zM.retZ | exact hm_q_AckBookModel_send_68 _ _ _ _ _ _ | refine zM.ite ?_ ?_
theorem hm_q_AckBookModel_send_34 (xL1 : Int32) (xL2 : Int32) (xL3 : Int32) (xL4 : Int32) (xS1 : Int32) (σ : zS) : zM B X τ n c s σ (q_AckBookModel_send_34 F X (some (B + 31)) xL1 xL2 xL3 xL4 (some (B + 31)) xS1 (o_w B X τ σ n c s)) := by
  unfold q_AckBookModel_send_34
  repeat' with_reducible first | exact zM.none | exact zM.rt | exact zM.retZ | exact hm_f_AckBookModel_fails _ _ _ | exact hm_q_AckBookModel_send_63 _ _ _ _ _ | exact hm_q_AckBookModel_send_68 _ _ _ _ _ _ | refine zM.ite ?_ ?_ | refine zM.this ?_ | refine zM.ldI fun _ => ?_ | refine zM.gR4 ?_ | refine zM.gR11 ?_ | refine zM.cI (hm_f_AckBookModel_fails _ _ _) fun _ _ => ?_
theorem hm_q_AckBookModel_send_33 (xL1 : Int32) (xL2 : Int32) (xL3 : Int32) (xL4 : Int32) (σ : zS) : zM B X τ n c s σ (q_AckBookModel_send_33 F X (some (B + 31)) xL1 xL2 xL3 xL4 (some (B + 31)) (o_w B X τ σ n c s)) := by
  unfold q_AckBookModel_send_33
  repeat' with_reducible first | exact zM.none | exact zM.rt | exact zM.retZ | exact hm_q_AckBookModel_send_34 _ _ _ _ _ _ | refine zM.ite ?_ ?_
theorem hm_q_AckBookModel_send_29 (xL1 : Int32) (xL2 : Int32) (xL3 : Int32) (xL4 : Int32) (σ : zS) : zM B X τ n c s σ (q_AckBookModel_send_29 F X (some (B + 31)) xL1 xL2 xL3 xL4 (some (B + 31)) (o_w B X τ σ n c s)) := by
  unfold q_AckBookModel_send_29
  repeat' with_reducible first | exact zM.none | exact zM.rt | exact zM.retZ | exact hm_q_AckBookModel_send_34 _ _ _ _ _ _ | refine zM.ite ?_ ?_
theorem hm_f_AckBookModel_send (pI1 : Int32) (pI2 : Int32) (pI3 : Int32) (pI4 : Int32) (σ : zS) : zM B X τ n c s σ (f_AckBookModel_send F X (some (B + 31)) pI1 pI2 pI3 pI4 (o_w B X τ σ n c s)) := by
  unfold f_AckBookModel_send
  repeat' with_reducible first | exact zM.none | exact zM.rt | exact zM.retZ | exact hm_f_AckBookModel_noSpace _ _ | exact hm_q_AckBookModel_send_29 _ _ _ _ _ | exact hm_q_AckBookModel_send_33 _ _ _ _ _ | refine zM.ite ?_ ?_ | refine zM.cI (hm_f_AckBookModel_noSpace _ _) fun _ _ => ?_
theorem hm_q_AckBookModel_span_67 (yL1 : Int64) (yL3 : Int64) (xS1 : Int32) (σ : zS) : zM B X τ n c s σ (q_AckBookModel_span_67 F X (some (B + 31)) yL1 yL3 (some (B + 31)) xS1 (o_w B X τ σ n c s)) := by
  unfold q_AckBookModel_span_67
  repeat' with_reducible first | exact zM.none | exact zM.rt | exact zM.retZ | exact hm_f_AckBookModel_fails _ _ _ | refine zM.ite ?_ ?_ | refine zM.this ?_ | refine zM.getI fun _ => ?_ | refine zM.gR28 ?_ | refine zM.gR29 ?_ | refine zM.p27 fun _ => ?_ | refine zM.s45 fun _ => ?_ | refine zM.s46 fun _ => ?_ | refine zM.cI (hm_f_AckBookModel_fails _ _ _) fun _ _ => ?_
theorem hm_q_AckBookModel_span_45 (yL1 : Int64) (yL3 : Int64) (xS1 : Int32) (σ : zS) : zM B X τ n c s σ (q_AckBookModel_span_45 F X (some (B + 31)) yL1 yL3 (some (B + 31)) xS1 (o_w B X τ σ n c s)) := by
  unfold q_AckBookModel_span_45
  repeat' with_reducible first | exact zM.none | exact zM.rt | exact zM.retZ | exact hm_f_AckBookModel_fails _ _ _ | exact hm_q_AckBookModel_span_67 _ _ _ _ | refine zM.ite ?_ ?_ | refine zM.this ?_ | refine zM.getI fun _ => ?_ | refine zM.cI (hm_f_AckBookModel_fails _ _ _) fun _ _ => ?_
theorem hm_q_AckBookModel_span_44 (yL1 : Int64) (yL3 : Int64) (σ : zS) : zM B X τ n c s σ (q_AckBookModel_span_44 F X (some (B + 31)) yL1 yL3 (some (B + 31)) (o_w B X τ σ n c s)) := by
  unfold q_AckBookModel_span_44
  repeat' with_reducible first | exact zM.none | exact zM.rt | exact zM.retZ | exact hm_q_AckBookModel_span_45 _ _ _ _ | refine zM.ite ?_ ?_
theorem hm_q_AckBookModel_span_40 (yL1 : Int64) (yL3 : Int64) (σ : zS) : zM B X τ n c s σ (q_AckBookModel_span_40 F X (some (B + 31)) yL1 yL3 (some (B + 31)) (o_w B X τ σ n c s)) := by
  unfold q_AckBookModel_span_40
  repeat' with_reducible first | exact zM.none | exact zM.rt | exact zM.retZ | exact hm_q_AckBookModel_span_45 _ _ _ _ | refine zM.ite ?_ ?_
theorem hm_f_AckBookModel_span (pJ1 : Int64) (pJ2 : Int64) (σ : zS) : zM B X τ n c s σ (f_AckBookModel_span F X (some (B + 31)) pJ1 pJ2 (o_w B X τ σ n c s)) := by
  unfold f_AckBookModel_span
  repeat' with_reducible first | exact zM.none | exact zM.rt | exact zM.retZ | exact hm_q_AckBookModel_span_40 _ _ _ | exact hm_q_AckBookModel_span_44 _ _ _ | refine zM.ite ?_ ?_ | refine zM.getI fun _ => ?_ | refine zM.ldL fun _ => ?_ | refine zM.gR28 ?_
theorem hm_f_AckBookModel_greater (pI1 : Int32) (pI2 : Int32) (σ : zS) : zM B X τ n c s σ (f_AckBookModel_greater F X pI1 pI2 (o_w B X τ σ n c s)) := by
  unfold f_AckBookModel_greater
  repeat' with_reducible first | exact zM.none | exact zM.rt | exact zM.retZ | refine zM.ite ?_ ?_
theorem hm_j_AckBookModel_isNew : ∀ (N : Nat) (a2 : Int32) (a3 : Int32) (a4 : Int32) (a5 : Int32) (σ : zS), zM B X τ n c s σ (j_AckBookModel_isNew F X N (some (B + 31)) a2 a3 a4 a5 (o_w B X τ σ n c s)) := by
  intro N
  induction N with
  | zero => exact fun a2 a3 a4 a5 σ => zM.none
  | succ N ih =>
    intro a2 a3 a4 a5 σ
    rw [j_AckBookModel_isNew]
    repeat' with_reducible first | exact ih _ _ _ _ _ | exact zM.none | exact zM.rt | exact zM.retZ | exact hm_f_AckBookModel_isOut _ _ _ | refine zM.ite ?_ ?_ | refine zM.this ?_ | refine zM.getI fun _ => ?_ | refine zM.ldL fun _ => ?_ | refine zM.gR28 ?_ | refine zM.gR29 ?_ | refine zM.cI (hm_f_AckBookModel_isOut _ _ _) fun _ _ => ?_
theorem hm_f_AckBookModel_isNew (pI1 : Int32) (pI2 : Int32) (σ : zS) : zM B X τ n c s σ (f_AckBookModel_isNew F X (some (B + 31)) pI1 pI2 (o_w B X τ σ n c s)) := by
  unfold f_AckBookModel_isNew
  repeat' with_reducible first | exact zM.none | exact zM.rt | exact zM.retZ | exact hm_j_AckBookModel_isNew _ _ _ _ _ _ | refine zM.ite ?_ ?_
theorem hm_q_AckBookModel_sample_110 (xL3 : Int32) (xS1 : Int32) (xS2 : Int32) (σ : zS) : zM B X τ n c s σ (q_AckBookModel_sample_110 F X (some (B + 31)) xL3 (some (B + 31)) xS1 xS2 (o_w B X τ σ n c s)) := by
  unfold q_AckBookModel_sample_110
  repeat' with_reducible first | exact zM.none | exact zM.rt | exact zM.retZ | refine zM.ite ?_ ?_ | refine zM.getI fun _ => ?_ | refine zM.p18 fun _ => ?_ | refine zM.p19 fun _ => ?_
theorem hm_q_AckBookModel_sample_80 (xS0 : Int32) (σ : zS) : zM B X τ n c s σ (q_AckBookModel_sample_80 F X (some (B + 31)) xS0 (o_w B X τ σ n c s)) := by
  unfold q_AckBookModel_sample_80
  repeat' with_reducible first | exact zM.none | exact zM.rt | exact zM.retZ | exact hm_q_AckBookModel_sample_110 _ _ _ _ | refine zM.ite ?_ ?_ | refine zM.getI fun _ => ?_
theorem hm_q_AckBookModel_sample_29 (xL1 : Int32) (xL2 : Int32) (xS1 : Int32) (σ : zS) : zM B X τ n c s σ (q_AckBookModel_sample_29 F X (some (B + 31)) xL1 xL2 (some (B + 31)) xS1 (o_w B X τ σ n c s)) := by
  unfold q_AckBookModel_sample_29
  repeat' with_reducible first | exact zM.none | exact zM.rt | exact zM.retZ | exact hm_q_AckBookModel_sample_80 _ _ | refine zM.ite ?_ ?_ | refine zM.getI fun _ => ?_ | refine zM.p18 fun _ => ?_ | refine zM.p19 fun _ => ?_ | refine zM.p21 fun _ => ?_ | refine zM.p22 fun _ => ?_
theorem hm_q_AckBookModel_sample_21 (xL1 : Int32) (xL2 : Int32) (σ : zS) : zM B X τ n c s σ (q_AckBookModel_sample_21 F X (some (B + 31)) xL1 xL2 (some (B + 31)) (o_w B X τ σ n c s)) := by
  unfold q_AckBookModel_sample_21
  repeat' with_reducible first | exact zM.none | exact zM.rt | exact zM.retZ | exact hm_q_AckBookModel_sample_29 _ _ _ _ | refine zM.ite ?_ ?_
theorem hm_f_AckBookModel_sample (pI1 : Int32) (pI2 : Int32) (σ : zS) : zM B X τ n c s σ (f_AckBookModel_sample F X (some (B + 31)) pI1 pI2 (o_w B X τ σ n c s)) := by
  unfold f_AckBookModel_sample
  repeat' with_reducible first | exact zM.none | exact zM.rt | exact zM.retZ | exact hm_q_AckBookModel_sample_21 _ _ _ | exact hm_q_AckBookModel_sample_29 _ _ _ _ | refine zM.ite ?_ ?_ | refine zM.getI fun _ => ?_ | refine zM.p20 fun _ => ?_
theorem hm_f_AckBookModel_find (pI1 : Int32) (pI2 : Int32) (pI3 : Int32) (σ : zS) : zM B X τ n c s σ (f_AckBookModel_find F X (some (B + 31)) pI1 pI2 pI3 (o_w B X τ σ n c s)) := by
  unfold f_AckBookModel_find
  repeat' with_reducible first | exact zM.none | exact zM.rt | exact zM.retZ | refine zM.ite ?_ ?_ | refine zM.ldI fun _ => ?_ | refine zM.gR7 ?_ | refine zM.gR15 ?_ | refine zM.gR16 ?_ | refine zM.s35 fun _ => ?_ | refine zM.s42 fun _ => ?_ | refine zM.s43 fun _ => ?_
theorem hm_f_AckBookModel_isBehindRecovery (pI1 : Int32) (σ : zS) : zM B X τ n c s σ (f_AckBookModel_isBehindRecovery F X (some (B + 31)) pI1 (o_w B X τ σ n c s)) := by
  unfold f_AckBookModel_isBehindRecovery
  repeat' with_reducible first | exact zM.none | exact zM.rt | exact zM.retZ | refine zM.ite ?_ ?_ | refine zM.getI fun _ => ?_ | refine zM.ldI fun _ => ?_ | refine zM.gR6 ?_
theorem hm_q_AckBookModel_grow_50 (xL1 : Int32) (xS1 : Int32) (σ : zS) : zM B X τ n c s σ (q_AckBookModel_grow_50 F X (some (B + 31)) xL1 (some (B + 31)) xS1 (o_w B X τ σ n c s)) := by
  unfold q_AckBookModel_grow_50
  repeat' with_reducible first | exact zM.none | exact zM.rt | exact zM.retZ | refine zM.ite ?_ ?_ | refine zM.ldI fun _ => ?_ | refine zM.gR5 ?_ | refine zM.p24 fun _ => ?_
theorem hm_f_AckBookModel_grow (pI1 : Int32) (σ : zS) : zM B X τ n c s σ (f_AckBookModel_grow F X (some (B + 31)) pI1 (o_w B X τ σ n c s)) := by
  unfold f_AckBookModel_grow
  repeat' with_reducible first | exact zM.none | exact zM.rt | exact zM.retZ | exact hm_f_AckBookModel_isBehindRecovery _ _ | exact hm_q_AckBookModel_grow_50 _ _ _ | refine zM.ite ?_ ?_ | refine zM.this ?_ | refine zM.nz ?_ | refine zM.getI fun _ => ?_ | refine zM.ldI fun _ => ?_ | refine zM.gR5 ?_ | refine zM.gR9 ?_ | refine zM.gR10 ?_ | refine zM.p24 fun _ => ?_ | refine zM.cI (hm_f_AckBookModel_isBehindRecovery _ _) fun _ _ => ?_
theorem hm_f_AckBookModel_limit (σ : zS) : zM B X τ n c s σ (f_AckBookModel_limit F X (some (B + 31)) (o_w B X τ σ n c s)) := by
  unfold f_AckBookModel_limit
  repeat' with_reducible first | exact zM.none | exact zM.rt | exact zM.retZ | exact hm_f_AckBookModel_greater _ _ _ | refine zM.ite ?_ ?_ | refine zM.getI fun _ => ?_ | refine zM.cI (hm_f_AckBookModel_greater _ _ _) fun _ _ => ?_
theorem hm_j_AckBookModel_persists : ∀ (N : Nat) (a1 : Nat) (a3 : Int32) (a4 : Int32) (a5 : Int32) (a6 : Int32) (a7 : Int32) (σ : zS), zM B X τ n c s σ (j_AckBookModel_persists F X N a1 (some (B + 31)) a3 a4 a5 a6 a7 (o_w B X τ σ n c s)) := by
  intro N
  induction N with
  | zero => exact fun a1 a3 a4 a5 a6 a7 σ => zM.none
  | succ N ih =>
    intro a1 a3 a4 a5 a6 a7 σ
    rw [j_AckBookModel_persists]
    repeat' with_reducible first | exact ih _ _ _ _ _ _ _ | exact zM.none | exact zM.rt | exact zM.retZ | exact hm_f_AckBookModel_greater _ _ _ | refine zM.ite ?_ ?_ | refine zM.getI fun _ => ?_ | refine zM.ldI fun _ => ?_ | refine zM.gR6 ?_ | refine zM.gR7 ?_ | refine zM.gR8 ?_ | refine zM.gR15 ?_ | refine zM.gR16 ?_ | refine zM.p24 fun _ => ?_ | refine zM.p26 fun _ => ?_ | refine zM.cI (hm_f_AckBookModel_greater _ _ _) fun _ _ => ?_
theorem hm_f_AckBookModel_persists (pI1 : Int32) (pI2 : Int32) (σ : zS) : zM B X τ n c s σ (f_AckBookModel_persists F X (some (B + 31)) pI1 pI2 (o_w B X τ σ n c s)) := by
  unfold f_AckBookModel_persists
  repeat' with_reducible first | exact zM.none | exact zM.rt | exact zM.retZ | exact hm_j_AckBookModel_persists _ _ _ _ _ _ _ _ | refine zM.ite ?_ ?_
theorem hm_q_AckBookModel_losses_263 (J : Nat → Option Nat → Int32 → Int32 → Int32 → Int32 → Int32 → zW → zR) (xL1 : Int32) (xL2 : Int32) (σ : zS) (hJ : ∀ (b0 : Nat) (b2 : Int32) (b3 : Int32) (b4 : Int32) (b5 : Int32) (b6 : Int32) (σ : zS), zM B X τ n c s σ (J b0 (some (B + 31)) b2 b3 b4 b5 b6 (o_w B X τ σ n c s))) : zM B X τ n c s σ (q_AckBookModel_losses_263 F X J (some (B + 31)) xL1 xL2 (o_w B X τ σ n c s)) := by
  unfold q_AckBookModel_losses_263
  repeat' with_reducible first | exact hJ _ _ _ _ _ _ _ | exact zM.none | exact zM.rt | exact zM.retZ | exact hm_f_AckBookModel_persists _ _ _ | refine zM.ite ?_ ?_ | refine zM.this ?_ | refine zM.cV (hm_f_AckBookModel_persists _ _ _) fun _ => ?_
theorem hm_q_AckBookModel_losses_89 (J : Nat → Option Nat → Int32 → Int32 → Int32 → Int32 → Int32 → zW → zR) (xL1 : Int32) (xL2 : Int32) (xL3 : Int32) (xL4 : Int32) (σ : zS) (hJ : ∀ (b0 : Nat) (b2 : Int32) (b3 : Int32) (b4 : Int32) (b5 : Int32) (b6 : Int32) (σ : zS), zM B X τ n c s σ (J b0 (some (B + 31)) b2 b3 b4 b5 b6 (o_w B X τ σ n c s))) : zM B X τ n c s σ (q_AckBookModel_losses_89 F X J (some (B + 31)) xL1 xL2 xL3 xL4 (o_w B X τ σ n c s)) := by
  unfold q_AckBookModel_losses_89
  repeat' with_reducible first | exact hJ _ _ _ _ _ _ _ | exact zM.none | exact zM.rt | exact zM.retZ | exact hm_f_AckBookModel_find _ _ _ _ | refine zM.ite ?_ ?_ | refine zM.this ?_ | refine zM.cV (hm_f_AckBookModel_find _ _ _ _) fun _ => ?_
theorem hm_j_AckBookModel_losses : ∀ (N : Nat) (a1 : Nat) (a3 : Int32) (a4 : Int32) (a5 : Int32) (a6 : Int32) (a7 : Int32) (σ : zS), zM B X τ n c s σ (j_AckBookModel_losses F X N a1 (some (B + 31)) a3 a4 a5 a6 a7 (o_w B X τ σ n c s)) := by
  intro N
  induction N with
  | zero => exact fun a1 a3 a4 a5 a6 a7 σ => zM.none
  | succ N ih =>
    intro a1 a3 a4 a5 a6 a7 σ
    rw [j_AckBookModel_losses]
    repeat' with_reducible first | exact ih _ _ _ _ _ _ _ | exact zM.none | exact zM.rt | exact zM.retZ | exact hm_f_AckBookModel_isOut _ _ _ | exact hm_q_AckBookModel_losses_89 _ _ _ _ _ _ (ih) | exact hm_q_AckBookModel_losses_263 _ _ _ _ (ih) | exact hm_f_AckBookModel_greater _ _ _ | exact hm_f_AckBookModel_isBehindRecovery _ _ | refine zM.ite ?_ ?_ | refine zM.this ?_ | refine zM.getI fun _ => ?_ | refine zM.ldI fun _ => ?_ | refine zM.gR6 ?_ | refine zM.gR9 ?_ | refine zM.gR12 ?_ | refine zM.gR13 ?_ | refine zM.gR15 ?_ | refine zM.gR16 ?_ | refine zM.p24 fun _ => ?_ | refine zM.p25 fun _ => ?_ | refine zM.p26 fun _ => ?_ | refine zM.s34 fun _ => ?_ | refine zM.s37 fun _ => ?_ | refine zM.s40 fun _ => ?_ | refine zM.s41 fun _ => ?_ | refine zM.s42 fun _ => ?_ | refine zM.s43 fun _ => ?_ | refine zM.cI (hm_f_AckBookModel_isOut _ _ _) fun _ _ => ?_ | refine zM.cI (hm_f_AckBookModel_greater _ _ _) fun _ _ => ?_ | refine zM.cI (hm_f_AckBookModel_isBehindRecovery _ _) fun _ _ => ?_
theorem hm_f_AckBookModel_losses (pI1 : Int32) (σ : zS) : zM B X τ n c s σ (f_AckBookModel_losses F X (some (B + 31)) pI1 (o_w B X τ σ n c s)) := by
  unfold f_AckBookModel_losses
  repeat' with_reducible first | exact zM.none | exact zM.rt | exact zM.retZ | exact hm_f_AckBookModel_limit _ | exact hm_j_AckBookModel_losses _ _ _ _ _ _ _ _ | refine zM.ite ?_ ?_ | refine zM.this ?_ | refine zM.ldI fun _ => ?_ | refine zM.gR13 ?_ | refine zM.gR16 ?_ | refine zM.s41 fun _ => ?_ | refine zM.s43 fun _ => ?_ | refine zM.cI (hm_f_AckBookModel_limit _) fun _ _ => ?_
theorem hm_q_AckBookModel_takes_154 (J : Nat → Option Nat → Int32 → Int32 → Int32 → Int32 → Int32 → Int32 → zW → zR) (xL1 : Int32) (xL4 : Int32) (xS1 : Int32) (xS2 : Int32) (σ : zS) (hJ : ∀ (b0 : Nat) (b2 : Int32) (b3 : Int32) (b4 : Int32) (b5 : Int32) (b6 : Int32) (b7 : Int32) (σ : zS), zM B X τ n c s σ (J b0 (some (B + 31)) b2 b3 b4 b5 b6 b7 (o_w B X τ σ n c s))) : zM B X τ n c s σ (q_AckBookModel_takes_154 F X J (some (B + 31)) xL1 xL4 (some (B + 31)) xS1 xS2 (o_w B X τ σ n c s)) := by
  unfold q_AckBookModel_takes_154
  repeat' with_reducible first | exact hJ _ _ _ _ _ _ _ _ | exact zM.none | exact zM.rt | exact zM.retZ | exact hm_f_AckBookModel_sample _ _ _ | refine zM.ite ?_ ?_ | refine zM.this ?_ | refine zM.cV (hm_f_AckBookModel_sample _ _ _) fun _ => ?_
theorem hm_j_AckBookModel_takes : ∀ (N : Nat) (a1 : Nat) (a3 : Int32) (a4 : Int32) (a5 : Int32) (a6 : Int32) (a7 : Int32) (a8 : Int32) (σ : zS), zM B X τ n c s σ (j_AckBookModel_takes F X N a1 (some (B + 31)) a3 a4 a5 a6 a7 a8 (o_w B X τ σ n c s)) := by
  intro N
  induction N with
  | zero => exact fun a1 a3 a4 a5 a6 a7 a8 σ => zM.none
  | succ N ih =>
    intro a1 a3 a4 a5 a6 a7 a8 σ
    rw [j_AckBookModel_takes]
    repeat' with_reducible first | exact ih _ _ _ _ _ _ _ _ | exact zM.none | exact zM.rt | exact zM.retZ | exact hm_f_AckBookModel_isNew _ _ _ | exact hm_q_AckBookModel_takes_154 _ _ _ _ _ _ (ih) | exact hm_f_AckBookModel_losses _ _ | exact hm_f_AckBookModel_find _ _ _ _ | exact hm_f_AckBookModel_grow _ _ | refine zM.ite ?_ ?_ | refine zM.this ?_ | refine zM.getI fun _ => ?_ | refine zM.ldI fun _ => ?_ | refine zM.gR4 ?_ | refine zM.gR6 ?_ | refine zM.gR8 ?_ | refine zM.p23 fun _ => ?_ | refine zM.cI (hm_f_AckBookModel_isNew _ _ _) fun _ _ => ?_ | refine zM.cV (hm_f_AckBookModel_losses _ _) fun _ => ?_ | refine zM.cV (hm_f_AckBookModel_find _ _ _ _) fun _ => ?_ | refine zM.cV (hm_f_AckBookModel_grow _ _) fun _ => ?_
theorem hm_f_AckBookModel_takes (pI1 : Int32) (pI2 : Int32) (σ : zS) : zM B X τ n c s σ (f_AckBookModel_takes F X (some (B + 31)) pI1 pI2 (o_w B X τ σ n c s)) := by
  unfold f_AckBookModel_takes
  repeat' with_reducible first | exact zM.none | exact zM.rt | exact zM.retZ | exact hm_f_AckBookModel_greater _ _ _ | exact hm_j_AckBookModel_takes _ _ _ _ _ _ _ _ _ | refine zM.ite ?_ ?_ | refine zM.ldI fun _ => ?_ | refine zM.ldL fun _ => ?_ | refine zM.gR12 ?_ | refine zM.gR29 ?_ | refine zM.s40 fun _ => ?_ | refine zM.s46 fun _ => ?_ | refine zM.cI (hm_f_AckBookModel_greater _ _ _) fun _ _ => ?_
theorem hm_q_AckBookModel_acknowledge_76 (xL1 : Int32) (xL2 : Int32) (xS1 : Int32) (σ : zS) : zM B X τ n c s σ (q_AckBookModel_acknowledge_76 F X (some (B + 31)) xL1 xL2 (some (B + 31)) xS1 (o_w B X τ σ n c s)) := by
  unfold q_AckBookModel_acknowledge_76
  repeat' with_reducible first | exact zM.none | exact zM.rt | exact zM.retZ | exact hm_f_AckBookModel_fails _ _ _ | exact hm_f_AckBookModel_takes _ _ _ | refine zM.ite ?_ ?_ | refine zM.this ?_ | refine zM.p27 fun _ => ?_ | refine zM.cI (hm_f_AckBookModel_fails _ _ _) fun _ _ => ?_ | refine zM.cI (hm_f_AckBookModel_takes _ _ _) fun _ _ => ?_
theorem hm_q_AckBookModel_acknowledge_71 (xL1 : Int32) (xL2 : Int32) (σ : zS) : zM B X τ n c s σ (q_AckBookModel_acknowledge_71 F X (some (B + 31)) xL1 xL2 (some (B + 31)) (o_w B X τ σ n c s)) := by
  unfold q_AckBookModel_acknowledge_71
  repeat' with_reducible first | exact zM.none | exact zM.rt | exact zM.retZ | exact hm_q_AckBookModel_acknowledge_76 _ _ _ _ | refine zM.ite ?_ ?_
theorem hm_q_AckBookModel_acknowledge_22 (xL1 : Int32) (xL2 : Int32) (xS0 : Int32) (σ : zS) : zM B X τ n c s σ (q_AckBookModel_acknowledge_22 F X (some (B + 31)) xL1 xL2 xS0 (o_w B X τ σ n c s)) := by
  unfold q_AckBookModel_acknowledge_22
  repeat' with_reducible first | exact zM.none | exact zM.rt | exact zM.retZ | exact hm_f_AckBookModel_noSpace _ _ | exact hm_f_AckBookModel_fails _ _ _ | exact hm_q_AckBookModel_acknowledge_76 _ _ _ _ | exact hm_q_AckBookModel_acknowledge_71 _ _ _ | refine zM.ite ?_ ?_ | refine zM.this ?_ | refine zM.ldI fun _ => ?_ | refine zM.ldL fun _ => ?_ | refine zM.gR4 ?_ | refine zM.gR11 ?_ | refine zM.gR29 ?_ | refine zM.p27 fun _ => ?_ | refine zM.cI (hm_f_AckBookModel_noSpace _ _) fun _ _ => ?_ | refine zM.cI (hm_f_AckBookModel_fails _ _ _) fun _ _ => ?_
theorem hm_q_AckBookModel_acknowledge_17 (xL1 : Int32) (xL2 : Int32) (σ : zS) : zM B X τ n c s σ (q_AckBookModel_acknowledge_17 F X (some (B + 31)) xL1 xL2 (o_w B X τ σ n c s)) := by
  unfold q_AckBookModel_acknowledge_17
  repeat' with_reducible first | exact zM.none | exact zM.rt | exact zM.retZ | exact hm_q_AckBookModel_acknowledge_22 _ _ _ _ | refine zM.ite ?_ ?_
theorem hm_f_AckBookModel_acknowledge (pI1 : Int32) (pI2 : Int32) (σ : zS) : zM B X τ n c s σ (f_AckBookModel_acknowledge F X (some (B + 31)) pI1 pI2 (o_w B X τ σ n c s)) := by
  unfold f_AckBookModel_acknowledge
  repeat' with_reducible first | exact zM.none | exact zM.rt | exact zM.retZ | exact hm_q_AckBookModel_acknowledge_17 _ _ _ | exact hm_q_AckBookModel_acknowledge_22 _ _ _ _ | refine zM.ite ?_ ?_ | refine zM.getI fun _ => ?_
theorem hm_q_AckBookModel_outs_47 (J : Option Nat → Int32 → Int32 → Int32 → Int32 → zW → zR) (xL1 : Int32) (xL2 : Int32) (xL4 : Int32) (xS0 : Int32) (σ : zS) (hJ : ∀ (b1 : Int32) (b2 : Int32) (b3 : Int32) (b4 : Int32) (σ : zS), zM B X τ n c s σ (J (some (B + 31)) b1 b2 b3 b4 (o_w B X τ σ n c s))) : zM B X τ n c s σ (q_AckBookModel_outs_47 F X J (some (B + 31)) xL1 xL2 xL4 xS0 (o_w B X τ σ n c s)) := by
  unfold q_AckBookModel_outs_47
  repeat' with_reducible first | exact hJ _ _ _ _ _ | exact zM.none | exact zM.rt | exact zM.retZ | refine zM.ite ?_ ?_
theorem hm_j_AckBookModel_outs : ∀ (N : Nat) (a2 : Int32) (a3 : Int32) (a4 : Int32) (a5 : Int32) (σ : zS), zM B X τ n c s σ (j_AckBookModel_outs F X N (some (B + 31)) a2 a3 a4 a5 (o_w B X τ σ n c s)) := by
  intro N
  induction N with
  | zero => exact fun a2 a3 a4 a5 σ => zM.none
  | succ N ih =>
    intro a2 a3 a4 a5 σ
    rw [j_AckBookModel_outs]
    repeat' with_reducible first | exact ih _ _ _ _ _ | exact zM.none | exact zM.rt | exact zM.retZ | exact hm_f_AckBookModel_isOut _ _ _ | exact hm_q_AckBookModel_outs_47 _ _ _ _ _ _ (ih) | refine zM.ite ?_ ?_ | refine zM.this ?_ | refine zM.ldI fun _ => ?_ | refine zM.gR4 ?_ | refine zM.gR8 ?_ | refine zM.cI (hm_f_AckBookModel_isOut _ _ _) fun _ _ => ?_
theorem hm_f_AckBookModel_outs (pI1 : Int32) (pI2 : Int32) (σ : zS) : zM B X τ n c s σ (f_AckBookModel_outs F X (some (B + 31)) pI1 pI2 (o_w B X τ σ n c s)) := by
  unfold f_AckBookModel_outs
  repeat' with_reducible first | exact zM.none | exact zM.rt | exact zM.retZ | exact hm_j_AckBookModel_outs _ _ _ _ _ _ | refine zM.ite ?_ ?_
theorem hm_f_AckBookModel_patience (pI1 : Int32) (σ : zS) : zM B X τ n c s σ (f_AckBookModel_patience F X (some (B + 31)) pI1 (o_w B X τ σ n c s)) := by
  unfold f_AckBookModel_patience
  repeat' with_reducible first | exact zM.none | exact zM.rt | exact zM.retZ | exact hm_f_AckBookModel_greater _ _ _ | refine zM.ite ?_ ?_ | refine zM.getI fun _ => ?_ | refine zM.cI (hm_f_AckBookModel_greater _ _ _) fun _ _ => ?_
theorem hm_j_AckBookModel_firstSpace : ∀ (N : Nat) (a2 : Int32) (σ : zS), zM B X τ n c s σ (j_AckBookModel_firstSpace F X N (some (B + 31)) a2 (o_w B X τ σ n c s)) := by
  intro N
  induction N with
  | zero => exact fun a2 σ => zM.none
  | succ N ih =>
    intro a2 σ
    rw [j_AckBookModel_firstSpace]
    repeat' with_reducible first | exact ih _ _ | exact zM.none | exact zM.rt | exact zM.retZ | refine zM.ite ?_ ?_ | refine zM.ldI fun _ => ?_ | refine zM.gR11 ?_
theorem hm_f_AckBookModel_firstSpace (σ : zS) : zM B X τ n c s σ (f_AckBookModel_firstSpace F X (some (B + 31)) (o_w B X τ σ n c s)) := by
  unfold f_AckBookModel_firstSpace
  repeat' with_reducible first | exact zM.none | exact zM.rt | exact zM.retZ | exact hm_j_AckBookModel_firstSpace _ _ _ | refine zM.ite ?_ ?_
theorem hm_q_AckBookModel_probeTime_125 (J : Option Nat → Int32 → Int32 → Int32 → zW → zR) (xL1 : Int32) (xS0 : Int32) (σ : zS) (hJ : ∀ (b1 : Int32) (b2 : Int32) (b3 : Int32) (σ : zS), zM B X τ n c s σ (J (some (B + 31)) b1 b2 b3 (o_w B X τ σ n c s))) : zM B X τ n c s σ (q_AckBookModel_probeTime_125 F X J (some (B + 31)) xL1 xS0 (o_w B X τ σ n c s)) := by
  unfold q_AckBookModel_probeTime_125
  repeat' with_reducible first | exact hJ _ _ _ _ | exact zM.none | exact zM.rt | exact zM.retZ | exact hm_f_AckBookModel_firstSpace _ | exact hm_f_AckBookModel_patience _ _ | refine zM.ite ?_ ?_ | refine zM.this ?_ | refine zM.getI fun _ => ?_ | refine zM.cI (hm_f_AckBookModel_firstSpace _) fun _ _ => ?_ | refine zM.cI (hm_f_AckBookModel_patience _ _) fun _ _ => ?_
theorem hm_q_AckBookModel_probeTime_23 (J : Option Nat → Int32 → Int32 → Int32 → zW → zR) (xL1 : Int32) (σ : zS) (hJ : ∀ (b1 : Int32) (b2 : Int32) (b3 : Int32) (σ : zS), zM B X τ n c s σ (J (some (B + 31)) b1 b2 b3 (o_w B X τ σ n c s))) : zM B X τ n c s σ (q_AckBookModel_probeTime_23 F X J (some (B + 31)) xL1 (o_w B X τ σ n c s)) := by
  unfold q_AckBookModel_probeTime_23
  repeat' with_reducible first | exact hJ _ _ _ _ | exact zM.none | exact zM.rt | exact zM.retZ | exact hm_f_AckBookModel_outs _ _ _ | exact hm_q_AckBookModel_probeTime_125 _ _ _ _ hJ | refine zM.ite ?_ ?_ | refine zM.this ?_ | refine zM.cI (hm_f_AckBookModel_outs _ _ _) fun _ _ => ?_
theorem hm_j_AckBookModel_probeTime : ∀ (N : Nat) (a2 : Int32) (a3 : Int32) (a4 : Int32) (σ : zS), zM B X τ n c s σ (j_AckBookModel_probeTime F X N (some (B + 31)) a2 a3 a4 (o_w B X τ σ n c s)) := by
  intro N
  induction N with
  | zero => exact fun a2 a3 a4 σ => zM.none
  | succ N ih =>
    intro a2 a3 a4 σ
    rw [j_AckBookModel_probeTime]
    repeat' with_reducible first | exact ih _ _ _ _ | exact zM.none | exact zM.rt | exact zM.retZ | exact hm_f_AckBookModel_patience _ _ | refine zM.ite ?_ ?_ | refine zM.this ?_ | refine zM.getI fun _ => ?_ | refine zM.ldI fun _ => ?_ | refine zM.gR4 ?_ | refine zM.gR6 ?_ | refine zM.gR8 ?_ | refine zM.cI (hm_f_AckBookModel_patience _ _) fun _ _ => ?_
theorem hm_f_AckBookModel_probeTime (pI1 : Int32) (σ : zS) : zM B X τ n c s σ (f_AckBookModel_probeTime F X (some (B + 31)) pI1 (o_w B X τ σ n c s)) := by
  unfold f_AckBookModel_probeTime
  repeat' with_reducible first | exact zM.none | exact zM.rt | exact zM.retZ | exact hm_q_AckBookModel_probeTime_23 _ _ _ (hm_j_AckBookModel_probeTime F) | exact hm_j_AckBookModel_probeTime _ _ _ _ _ | refine zM.ite ?_ ?_ | refine zM.getI fun _ => ?_ | refine zM.ldI fun _ => ?_ | refine zM.gR11 ?_
theorem hm_q_AckBookModel_tick_127 (J : Nat → Option Nat → Int32 → Int32 → Int32 → zW → zR) (xL3 : Int32) (xL4 : Int32) (σ : zS) (hJ : ∀ (b0 : Nat) (b2 : Int32) (b3 : Int32) (b4 : Int32) (σ : zS), zM B X τ n c s σ (J b0 (some (B + 31)) b2 b3 b4 (o_w B X τ σ n c s))) : zM B X τ n c s σ (q_AckBookModel_tick_127 F X J (some (B + 31)) xL3 xL4 (o_w B X τ σ n c s)) := by
  unfold q_AckBookModel_tick_127
  repeat' with_reducible first | exact hJ _ _ _ _ _ | exact zM.none | exact zM.rt | exact zM.retZ | refine zM.ite ?_ ?_
theorem hm_j_AckBookModel_tick : ∀ (N : Nat) (a1 : Nat) (a3 : Int32) (a4 : Int32) (a5 : Int32) (σ : zS), zM B X τ n c s σ (j_AckBookModel_tick F X N a1 (some (B + 31)) a3 a4 a5 (o_w B X τ σ n c s)) := by
  intro N
  induction N with
  | zero => exact fun a1 a3 a4 a5 σ => zM.none
  | succ N ih =>
    intro a1 a3 a4 a5 σ
    rw [j_AckBookModel_tick]
    repeat' with_reducible first | exact ih _ _ _ _ _ | exact zM.none | exact zM.rt | exact zM.retZ | exact hm_f_AckBookModel_losses _ _ | exact hm_f_AckBookModel_probeTime _ _ | exact hm_q_AckBookModel_tick_127 _ _ _ _ (ih) | refine zM.ite ?_ ?_ | refine zM.this ?_ | refine zM.getI fun _ => ?_ | refine zM.ldI fun _ => ?_ | refine zM.gR13 ?_ | refine zM.p23 fun _ => ?_ | refine zM.cI (hm_f_AckBookModel_probeTime _ _) fun _ _ => ?_ | refine zM.cV (hm_f_AckBookModel_losses _ _) fun _ => ?_
theorem hm_f_AckBookModel_confirm (σ : zS) : zM B X τ n c s σ (f_AckBookModel_confirm F X (some (B + 31)) (o_w B X τ σ n c s)) := by
  unfold f_AckBookModel_confirm
  repeat' with_reducible first | exact zM.none | exact zM.rt | exact zM.retZ | refine zM.ite ?_ ?_ | refine zM.p0 fun _ => ?_ | refine zM.z2 fun _ => ?_
theorem hm_f_AckBookModel_anxious (pI1 : Int32) (σ : zS) : zM B X τ n c s σ (f_AckBookModel_anxious F X (some (B + 31)) pI1 (o_w B X τ σ n c s)) := by
  unfold f_AckBookModel_anxious
  repeat' with_reducible first | exact zM.none | exact zM.rt | exact zM.retZ | refine zM.ite ?_ ?_ | refine zM.p0 fun _ => ?_ | refine zM.z3 fun _ => ?_
theorem hm_q_AckBookModel_next_26 (xS0 : Int32) (xS1 : Int32) (σ : zS) : zM B X τ n c s σ (q_AckBookModel_next_26 F X (some (B + 31)) xS0 xS1 (o_w B X τ σ n c s)) := by
  unfold q_AckBookModel_next_26
  repeat' with_reducible first | exact zM.none | exact zM.rt | exact zM.retZ | refine zM.ite ?_ ?_ | refine zM.ldI fun _ => ?_ | refine zM.gR15 ?_ | refine zM.gR16 ?_ | refine zM.gR17 ?_ | refine zM.s42 fun _ => ?_ | refine zM.s43 fun _ => ?_ | refine zM.s44 fun _ => ?_
theorem hm_f_AckBookModel_next (pI1 : Int32) (pI2 : Int32) (σ : zS) : zM B X τ n c s σ (f_AckBookModel_next F X (some (B + 31)) pI1 pI2 (o_w B X τ σ n c s)) := by
  unfold f_AckBookModel_next
  repeat' with_reducible first | exact zM.none | exact zM.rt | exact zM.retZ | exact hm_f_AckBookModel_noSpace _ _ | exact hm_f_AckBookModel_fails _ _ _ | exact hm_q_AckBookModel_next_26 _ _ _ | refine zM.ite ?_ ?_ | refine zM.this ?_ | refine zM.cI (hm_f_AckBookModel_noSpace _ _) fun _ _ => ?_ | refine zM.cI (hm_f_AckBookModel_fails _ _ _) fun _ _ => ?_
theorem hm_f_AckBookModel_state (pI1 : Int32) (pI2 : Int32) (σ : zS) : zM B X τ n c s σ (f_AckBookModel_state F X (some (B + 31)) pI1 pI2 (o_w B X τ σ n c s)) := by
  unfold f_AckBookModel_state
  repeat' with_reducible first | exact zM.none | exact zM.rt | exact zM.retZ | exact hm_f_AckBookModel_noSpace _ _ | exact hm_f_AckBookModel_fails _ _ _ | refine zM.ite ?_ ?_ | refine zM.this ?_ | refine zM.ldI fun _ => ?_ | refine zM.gR4 ?_ | refine zM.gR7 ?_ | refine zM.gR11 ?_ | refine zM.cI (hm_f_AckBookModel_noSpace _ _) fun _ _ => ?_ | refine zM.cI (hm_f_AckBookModel_fails _ _ _) fun _ _ => ?_
theorem hm_j_AckBookModel_isOld : ∀ (N : Nat) (a2 : Int32) (a3 : Int64) (a4 : Int32) (a5 : Int32) (σ : zS), zM B X τ n c s σ (j_AckBookModel_isOld F X N (some (B + 31)) a2 a3 a4 a5 (o_w B X τ σ n c s)) := by
  intro N
  induction N with
  | zero => exact fun a2 a3 a4 a5 σ => zM.none
  | succ N ih =>
    intro a2 a3 a4 a5 σ
    rw [j_AckBookModel_isOld]
    repeat' with_reducible first | exact ih _ _ _ _ _ | exact zM.none | exact zM.rt | exact zM.retZ | refine zM.ite ?_ ?_ | refine zM.ldI fun _ => ?_ | refine zM.ldL fun _ => ?_ | refine zM.gR30 ?_ | refine zM.gR31 ?_ | refine zM.gR32 ?_
theorem hm_f_AckBookModel_isOld (pI1 : Int32) (pJ2 : Int64) (σ : zS) : zM B X τ n c s σ (f_AckBookModel_isOld F X (some (B + 31)) pI1 pJ2 (o_w B X τ σ n c s)) := by
  unfold f_AckBookModel_isOld
  repeat' with_reducible first | exact zM.none | exact zM.rt | exact zM.retZ | exact hm_j_AckBookModel_isOld _ _ _ _ _ _ | refine zM.ite ?_ ?_ | refine zM.ldL fun _ => ?_ | refine zM.gR33 ?_
theorem hm_f_AckBookModel_greatest (pI1 : Int32) (σ : zS) : zM B X τ n c s σ (f_AckBookModel_greatest F X (some (B + 31)) pI1 (o_w B X τ σ n c s)) := by
  unfold f_AckBookModel_greatest
  repeat' with_reducible first | exact zM.none | exact zM.rt | exact zM.retZ | refine zM.ite ?_ ?_ | refine zM.ldI fun _ => ?_ | refine zM.ldL fun _ => ?_ | refine zM.gR30 ?_ | refine zM.gR32 ?_
theorem hm_f_AckBookModel_due (pI1 : Int32) (σ : zS) : zM B X τ n c s σ (f_AckBookModel_due F X (some (B + 31)) pI1 (o_w B X τ σ n c s)) := by
  unfold f_AckBookModel_due
  repeat' with_reducible first | exact zM.none | exact zM.rt | exact zM.retZ | exact hm_f_AckBookModel_noSpace _ _ | exact hm_f_AckBookModel_fails _ _ _ | refine zM.ite ?_ ?_ | refine zM.this ?_ | refine zM.getI fun _ => ?_ | refine zM.ldI fun _ => ?_ | refine zM.gR35 ?_ | refine zM.gR36 ?_ | refine zM.gR37 ?_ | refine zM.cI (hm_f_AckBookModel_noSpace _ _) fun _ _ => ?_ | refine zM.cI (hm_f_AckBookModel_fails _ _ _) fun _ _ => ?_
theorem hm_q_AckBookModel_range_32 (xL1 : Int32) (xL2 : Int32) (xL3 : Int32) (xS1 : Int32) (σ : zS) : zM B X τ n c s σ (q_AckBookModel_range_32 F X (some (B + 31)) xL1 xL2 xL3 (some (B + 31)) xS1 (o_w B X τ σ n c s)) := by
  unfold q_AckBookModel_range_32
  repeat' with_reducible first | exact zM.none | exact zM.rt | exact zM.retZ | exact hm_f_AckBookModel_fails _ _ _ | refine zM.ite ?_ ?_ | refine zM.this ?_ | refine zM.ldI fun _ => ?_ | refine zM.ldL fun _ => ?_ | refine zM.gR30 ?_ | refine zM.gR31 ?_ | refine zM.gR32 ?_ | refine zM.cI (hm_f_AckBookModel_fails _ _ _) fun _ _ => ?_
theorem hm_q_AckBookModel_range_27 (xL1 : Int32) (xL2 : Int32) (xL3 : Int32) (σ : zS) : zM B X τ n c s σ (q_AckBookModel_range_27 F X (some (B + 31)) xL1 xL2 xL3 (some (B + 31)) (o_w B X τ σ n c s)) := by
  unfold q_AckBookModel_range_27
  repeat' with_reducible first | exact zM.none | exact zM.rt | exact zM.retZ | exact hm_q_AckBookModel_range_32 _ _ _ _ _ | refine zM.ite ?_ ?_
theorem hm_f_AckBookModel_range (pI1 : Int32) (pI2 : Int32) (pI3 : Int32) (σ : zS) : zM B X τ n c s σ (f_AckBookModel_range F X (some (B + 31)) pI1 pI2 pI3 (o_w B X τ σ n c s)) := by
  unfold f_AckBookModel_range
  repeat' with_reducible first | exact zM.none | exact zM.rt | exact zM.retZ | exact hm_f_AckBookModel_noSpace _ _ | exact hm_f_AckBookModel_fails _ _ _ | exact hm_q_AckBookModel_range_27 _ _ _ _ | exact hm_q_AckBookModel_range_32 _ _ _ _ _ | refine zM.ite ?_ ?_ | refine zM.this ?_ | refine zM.ldI fun _ => ?_ | refine zM.gR30 ?_ | refine zM.cI (hm_f_AckBookModel_noSpace _ _) fun _ _ => ?_ | refine zM.cI (hm_f_AckBookModel_fails _ _ _) fun _ _ => ?_
theorem hm_q_AckBookModel_look_16 (xL1 : Int32) (xS1 : Int32) (σ : zS) : zM B X τ n c s σ (q_AckBookModel_look_16 F X (some (B + 31)) xL1 (some (B + 31)) xS1 (o_w B X τ σ n c s)) := by
  unfold q_AckBookModel_look_16
  repeat' with_reducible first | exact zM.none | exact zM.rt | exact zM.retZ | exact hm_f_AckBookModel_fails _ _ _ | exact hm_f_AckBookModel_flight _ | exact hm_f_AckBookModel_limit _ | exact hm_f_AckBookModel_greater _ _ _ | refine zM.ite ?_ ?_ | refine zM.this ?_ | refine zM.getI fun _ => ?_ | refine zM.cI (hm_f_AckBookModel_fails _ _ _) fun _ _ => ?_ | refine zM.cI (hm_f_AckBookModel_flight _) fun _ _ => ?_ | refine zM.cI (hm_f_AckBookModel_limit _) fun _ _ => ?_ | refine zM.cI (hm_f_AckBookModel_greater _ _ _) fun _ _ => ?_
theorem hm_q_AckBookModel_look_11 (xL1 : Int32) (σ : zS) : zM B X τ n c s σ (q_AckBookModel_look_11 F X (some (B + 31)) xL1 (some (B + 31)) (o_w B X τ σ n c s)) := by
  unfold q_AckBookModel_look_11
  repeat' with_reducible first | exact zM.none | exact zM.rt | exact zM.retZ | exact hm_q_AckBookModel_look_16 _ _ _ | refine zM.ite ?_ ?_
theorem hm_f_AckBookModel_look (pI1 : Int32) (σ : zS) : zM B X τ n c s σ (f_AckBookModel_look F X (some (B + 31)) pI1 (o_w B X τ σ n c s)) := by
  unfold f_AckBookModel_look
  repeat' with_reducible first | exact zM.none | exact zM.rt | exact zM.retZ | exact hm_q_AckBookModel_look_11 _ _ | exact hm_q_AckBookModel_look_16 _ _ _ | refine zM.ite ?_ ?_
theorem hm_q_AckBookModel_space_28 (xL1 : Int32) (xL2 : Int32) (xS1 : Int32) (σ : zS) : zM B X τ n c s σ (q_AckBookModel_space_28 F X (some (B + 31)) xL1 xL2 (some (B + 31)) xS1 (o_w B X τ σ n c s)) := by
  unfold q_AckBookModel_space_28
  repeat' with_reducible first | exact zM.none | exact zM.rt | exact zM.retZ | exact hm_f_AckBookModel_fails _ _ _ | exact hm_f_AckBookModel_probeTime _ _ | exact hm_f_AckBookModel_outs _ _ _ | exact hm_f_AckBookModel_patience _ _ | refine zM.ite ?_ ?_ | refine zM.this ?_ | refine zM.ldI fun _ => ?_ | refine zM.ldL fun _ => ?_ | refine zM.gR4 ?_ | refine zM.gR11 ?_ | refine zM.gR12 ?_ | refine zM.gR13 ?_ | refine zM.gR30 ?_ | refine zM.gR33 ?_ | refine zM.gR35 ?_ | refine zM.cI (hm_f_AckBookModel_fails _ _ _) fun _ _ => ?_ | refine zM.cI (hm_f_AckBookModel_probeTime _ _) fun _ _ => ?_ | refine zM.cI (hm_f_AckBookModel_outs _ _ _) fun _ _ => ?_ | refine zM.cI (hm_f_AckBookModel_patience _ _) fun _ _ => ?_
theorem hm_q_AckBookModel_space_23 (xL1 : Int32) (xL2 : Int32) (σ : zS) : zM B X τ n c s σ (q_AckBookModel_space_23 F X (some (B + 31)) xL1 xL2 (some (B + 31)) (o_w B X τ σ n c s)) := by
  unfold q_AckBookModel_space_23
  repeat' with_reducible first | exact zM.none | exact zM.rt | exact zM.retZ | exact hm_q_AckBookModel_space_28 _ _ _ _ | refine zM.ite ?_ ?_
theorem hm_f_AckBookModel_space (pI1 : Int32) (pI2 : Int32) (σ : zS) : zM B X τ n c s σ (f_AckBookModel_space F X (some (B + 31)) pI1 pI2 (o_w B X τ σ n c s)) := by
  unfold f_AckBookModel_space
  repeat' with_reducible first | exact zM.none | exact zM.rt | exact zM.retZ | exact hm_f_AckBookModel_noSpace _ _ | exact hm_f_AckBookModel_fails _ _ _ | exact hm_q_AckBookModel_space_23 _ _ _ | exact hm_q_AckBookModel_space_28 _ _ _ _ | refine zM.ite ?_ ?_ | refine zM.this ?_ | refine zM.cI (hm_f_AckBookModel_noSpace _ _) fun _ _ => ?_ | refine zM.cI (hm_f_AckBookModel_fails _ _ _) fun _ _ => ?_
end FM
