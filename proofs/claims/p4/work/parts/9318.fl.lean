section FL
variable {B X F : Nat} {τ : zK} {σ : zS} {n c s : Nat}
def fL (σ σ' : zS) : Prop := σ'.2 = σ.2 ∧ ∀ o f, ¬ (o = 31 ∧ 24 ≤ f ∧ f ≤ 26) → σ'.1 o f = σ.1 o f
theorem fL.refl (σ : zS) : fL σ σ := ⟨rfl, fun _ _ _ => rfl⟩
theorem fL.trans {a b d : zS} (h1 : fL a b) (h2 : fL b d) : fL a d := ⟨h2.1.trans h1.1, fun o f h => (h2.2 o f h).trans (h1.2 o f h)⟩
theorem fL.I {f : Nat} {x : Int32} (h : 24 ≤ f ∧ f ≤ 26) : fL σ (o_I σ 31 f x) := ⟨rfl, fun a b hab => by rw [i11, if_neg (fun w => hab ⟨w.1, by omega⟩)]⟩
def zL (B X : Nat) (τ : zK) (n c s : Nat) (σ : zS) (r : zR) : Prop := pW B X τ n c s r (fun _ σ' => fL σ σ')
theorem zL.none : zL B X τ n c s σ none := pW.none
theorem zL.rt {v : Option Value} : zL B X τ n c s σ (some (.inl v, o_w B X τ σ n c s)) := pW.ret (fL.refl σ)
theorem zL.ite {p : Prop} [Decidable p] {a b : zR} (h1 : zL B X τ n c s σ a) (h2 : zL B X τ n c s σ b) : zL B X τ n c s σ (if p then a else b) := pW.ite (fun _ => h1) (fun _ => h2)
theorem zL.cI {r : zR} {K : Int32 → zW → zR} (hx : zL B X τ n c s σ r) (h : ∀ v σ, zL B X τ n c s σ (K v (o_w B X τ σ n c s))) : zL B X τ n c s σ (z_cI r K) := pW.cI hx fun v σ' g => (h v σ').mono fun _ _ g2 => g.trans g2
theorem zL.cV {r : zR} {K : zW → zR} (hx : zL B X τ n c s σ r) (h : ∀ σ, zL B X τ n c s σ (K (o_w B X τ σ n c s))) : zL B X τ n c s σ (z_cV r K) := pW.cV hx fun σ' g => (h σ').mono fun _ _ g2 => g.trans g2
theorem zL.nz {p : Prop} [Decidable p] {K : zR} (h : zL B X τ n c s σ K) : zL B X τ n c s σ (z_nz p K) := by
  unfold z_nz
  exact zL.ite zL.none h
theorem zL.this {w : zW} {ci : Nat} {r : Option Nat} {K : zR} (h : zL B X τ n c s σ K) : zL B X τ n c s σ (z_this w ci r K) := by
  unfold z_this
  split
  · exact h
  · exact zL.none
theorem zL.getI {w : zW} {ci k : Nat} {r : Option Nat} {K : Int32 → zR} (h : ∀ v, zL B X τ n c s σ (K v)) : zL B X τ n c s σ (z_getI w ci k r K) := by
  unfold z_getI
  (repeat' split) <;> first | exact h _ | exact zL.none
theorem zL.getR {w : zW} {ci k : Nat} {r : Option Nat} {K : Option Nat → zR} (h : ∀ v, zL B X τ n c s σ (K v)) : zL B X τ n c s σ (z_getR w ci k r K) := by
  unfold z_getR
  (repeat' split) <;> first | exact h _ | exact zL.none
theorem zL.ldI {w : zW} {ty : FieldType} {i : Int32} {r : Option Nat} {K : Int32 → zR} (h : ∀ v, zL B X τ n c s σ (K v)) : zL B X τ n c s σ (z_ldI w ty r i K) := by
  unfold z_ldI
  (repeat' split) <;> first | exact h _ | exact zL.none
theorem zL.p24 {x : Int32} {K : zW → zR} (h : ∀ σ, zL B X τ n c s σ (K (o_w B X τ σ n c s))) : zL B X τ n c s σ (z_put (o_w B X τ σ n c s) 10 24 (some (B + 31)) (.int x) K) := by
  rw [op_31_24]
  exact (h _).mono fun _ _ g => (fL.I (by omega)).trans g
theorem zL.p25 {x : Int32} {K : zW → zR} (h : ∀ σ, zL B X τ n c s σ (K (o_w B X τ σ n c s))) : zL B X τ n c s σ (z_put (o_w B X τ σ n c s) 10 25 (some (B + 31)) (.int x) K) := by
  rw [op_31_25]
  exact (h _).mono fun _ _ g => (fL.I (by omega)).trans g
theorem zL.p26 {x : Int32} {K : zW → zR} (h : ∀ σ, zL B X τ n c s σ (K (o_w B X τ σ n c s))) : zL B X τ n c s σ (z_put (o_w B X τ σ n c s) 10 26 (some (B + 31)) (.int x) K) := by
  rw [op_31_26]
  exact (h _).mono fun _ _ g => (fL.I (by omega)).trans g
theorem hl_f_AckBookModel_greater (pI1 : Int32) (pI2 : Int32) (σ : zS) : zL B X τ n c s σ (f_AckBookModel_greater F X pI1 pI2 (o_w B X τ σ n c s)) := by
  unfold f_AckBookModel_greater
  repeat' with_reducible first | exact zL.none | exact zL.rt | refine zL.ite ?_ ?_ | refine zL.this ?_ | refine zL.nz ?_ | refine zL.getI fun _ => ?_ | refine zL.getR fun _ => ?_ | refine zL.ldI fun _ => ?_ | refine zL.p24 fun _ => ?_ | refine zL.p25 fun _ => ?_ | refine zL.p26 fun _ => ?_
theorem hl_f_AckBookModel_isBehindRecovery (pI1 : Int32) (σ : zS) : zL B X τ n c s σ (f_AckBookModel_isBehindRecovery F X (some (B + 31)) pI1 (o_w B X τ σ n c s)) := by
  unfold f_AckBookModel_isBehindRecovery
  repeat' with_reducible first | exact zL.none | exact zL.rt | refine zL.ite ?_ ?_ | refine zL.this ?_ | refine zL.nz ?_ | refine zL.getI fun _ => ?_ | refine zL.getR fun _ => ?_ | refine zL.ldI fun _ => ?_ | refine zL.p24 fun _ => ?_ | refine zL.p25 fun _ => ?_ | refine zL.p26 fun _ => ?_
theorem hl_q_AckBookModel_grow_50 (xL1 : Int32) (xS1 : Int32) (σ : zS) : zL B X τ n c s σ (q_AckBookModel_grow_50 F X (some (B + 31)) xL1 (some (B + 31)) xS1 (o_w B X τ σ n c s)) := by
  unfold q_AckBookModel_grow_50
  repeat' with_reducible first | exact zL.none | exact zL.rt | refine zL.ite ?_ ?_ | refine zL.this ?_ | refine zL.nz ?_ | refine zL.getI fun _ => ?_ | refine zL.getR fun _ => ?_ | refine zL.ldI fun _ => ?_ | refine zL.p24 fun _ => ?_ | refine zL.p25 fun _ => ?_ | refine zL.p26 fun _ => ?_
theorem hl_f_AckBookModel_grow (pI1 : Int32) (σ : zS) : zL B X τ n c s σ (f_AckBookModel_grow F X (some (B + 31)) pI1 (o_w B X τ σ n c s)) := by
  unfold f_AckBookModel_grow
  repeat' with_reducible first | exact zL.none | exact zL.rt | exact hl_f_AckBookModel_isBehindRecovery _ _ | exact hl_q_AckBookModel_grow_50 _ _ _ | refine zL.ite ?_ ?_ | refine zL.this ?_ | refine zL.nz ?_ | refine zL.getI fun _ => ?_ | refine zL.getR fun _ => ?_ | refine zL.ldI fun _ => ?_ | refine zL.p24 fun _ => ?_ | refine zL.p25 fun _ => ?_ | refine zL.p26 fun _ => ?_ | refine zL.cI (hl_f_AckBookModel_isBehindRecovery _ _) fun _ _ => ?_
theorem hl_j_AckBookModel_persists : ∀ (N : Nat) (a1 : Nat) (a3 : Int32) (a4 : Int32) (a5 : Int32) (a6 : Int32) (a7 : Int32) (σ : zS), zL B X τ n c s σ (j_AckBookModel_persists F X N a1 (some (B + 31)) a3 a4 a5 a6 a7 (o_w B X τ σ n c s)) := by
  intro N
  induction N with
  | zero => exact fun a1 a3 a4 a5 a6 a7 σ => zL.none
  | succ N ih =>
    intro a1 a3 a4 a5 a6 a7 σ
    rw [j_AckBookModel_persists]
    repeat' with_reducible first | exact ih _ _ _ _ _ _ _ | exact zL.none | exact zL.rt | exact hl_f_AckBookModel_greater _ _ _ | refine zL.ite ?_ ?_ | refine zL.this ?_ | refine zL.nz ?_ | refine zL.getI fun _ => ?_ | refine zL.getR fun _ => ?_ | refine zL.ldI fun _ => ?_ | refine zL.p24 fun _ => ?_ | refine zL.p25 fun _ => ?_ | refine zL.p26 fun _ => ?_ | refine zL.cI (hl_f_AckBookModel_greater _ _ _) fun _ _ => ?_
theorem hl_f_AckBookModel_persists (pI1 : Int32) (pI2 : Int32) (σ : zS) : zL B X τ n c s σ (f_AckBookModel_persists F X (some (B + 31)) pI1 pI2 (o_w B X τ σ n c s)) := by
  unfold f_AckBookModel_persists
  repeat' with_reducible first | exact zL.none | exact zL.rt | exact hl_j_AckBookModel_persists _ _ _ _ _ _ _ _ | refine zL.ite ?_ ?_ | refine zL.this ?_ | refine zL.nz ?_ | refine zL.getI fun _ => ?_ | refine zL.getR fun _ => ?_ | refine zL.ldI fun _ => ?_ | refine zL.p24 fun _ => ?_ | refine zL.p25 fun _ => ?_ | refine zL.p26 fun _ => ?_
theorem hl_q_AckBookModel_losses_263 (J : Nat → Option Nat → Int32 → Int32 → Int32 → Int32 → Int32 → zW → zR) (xL1 : Int32) (xL2 : Int32) (σ : zS) : zL B X τ n c s σ (q_AckBookModel_losses_263 F X J (some (B + 31)) xL1 xL2 (o_w B X τ σ n c s)) := by
  unfold q_AckBookModel_losses_263
  repeat' with_reducible first | exact zL.none | exact zL.rt | exact hl_f_AckBookModel_persists _ _ _ | refine zL.ite ?_ ?_ | refine zL.this ?_ | refine zL.nz ?_ | refine zL.getI fun _ => ?_ | refine zL.getR fun _ => ?_ | refine zL.ldI fun _ => ?_ | refine zL.p24 fun _ => ?_ | refine zL.p25 fun _ => ?_ | refine zL.p26 fun _ => ?_ | refine zL.cV (hl_f_AckBookModel_persists _ _ _) fun _ => ?_
theorem hl_losses2 : ∀ (N : Nat) (a2 a3 a4 a5 a6 : Int32) (σ : zS), zL B X τ n c s σ (j_AckBookModel_losses F X N 1 (some (B + 31)) a2 a3 a4 a5 a6 (o_w B X τ σ n c s)) := by
  intro N
  induction N with
  | zero => exact fun _ _ _ _ _ σ => zL.none
  | succ N ih =>
    intro a2 a3 a4 a5 a6 σ
    rw [j_AckBookModel_losses, if_neg (by decide)]
    repeat' with_reducible first | exact ih _ _ _ _ _ _ | exact zL.none | exact zL.rt | exact hl_f_AckBookModel_greater _ _ _ | exact hl_f_AckBookModel_isBehindRecovery _ _ | exact hl_q_AckBookModel_losses_263 _ _ _ _ | refine zL.ite ?_ ?_ | refine zL.this ?_ | refine zL.nz ?_ | refine zL.getI fun _ => ?_ | refine zL.getR fun _ => ?_ | refine zL.ldI fun _ => ?_ | refine zL.p24 fun _ => ?_ | refine zL.p25 fun _ => ?_ | refine zL.p26 fun _ => ?_ | refine zL.cI (hl_f_AckBookModel_greater _ _ _) fun _ _ => ?_ | refine zL.cI (hl_f_AckBookModel_isBehindRecovery _ _) fun _ _ => ?_
end FL
