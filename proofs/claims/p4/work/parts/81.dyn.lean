/-! What is made later: packets, exceptions, lists' arrays. And how a state is read behind a write. -/
def o_pk (τ : zK) (o : Nat) : Prop := 56 ≤ o ∧ τ o = some (.inl 9)
def o_ar (τ : zK) (o cap : Nat) : Prop := 56 ≤ o ∧ τ o = some (.inr cap)
def o_kd (τ : zK) (n : Nat) (t : Nat ⊕ Nat) : zK := fun a => if a = n then some t else τ a
def o_clr (σ : zS) (n : Nat) : zS := (fun a b => if a = n then 0 else σ.1 a b, σ.2.1, fun a b => if a = n then none else σ.2.2 a b)
def o_cp (σ : zS) (d s m : Nat) : zS := (σ.1, σ.2.1, fun a b => if a = d then (if b < m then σ.2.2 s b else σ.2.2 d b) else σ.2.2 a b)
theorem i11 (σ : zS) (o f : Nat) (x : Int32) (a b : Nat) : (o_I σ o f x).1 a b = if a = o ∧ b = f then x else σ.1 a b := rfl
theorem i12 (σ : zS) (o f : Nat) (x : Int32) : (o_I σ o f x).2 = σ.2 := rfl
theorem l11 (σ : zS) (o f : Nat) (x : Int64) : (o_L σ o f x).1 = σ.1 := rfl
theorem l12 (σ : zS) (o f : Nat) (x : Int64) (a b : Nat) : (o_L σ o f x).2.1 a b = if a = o ∧ b = f then x else σ.2.1 a b := rfl
theorem l13 (σ : zS) (o f : Nat) (x : Int64) : (o_L σ o f x).2.2 = σ.2.2 := rfl
theorem r11 (σ : zS) (o f : Nat) (x : Option Nat) : (o_R σ o f x).1 = σ.1 := rfl
theorem r12 (σ : zS) (o f : Nat) (x : Option Nat) : (o_R σ o f x).2.1 = σ.2.1 := rfl
theorem r13 (σ : zS) (o f : Nat) (x : Option Nat) (a b : Nat) : (o_R σ o f x).2.2 a b = if a = o ∧ b = f then x else σ.2.2 a b := rfl
theorem c11 (σ : zS) (n a b : Nat) : (o_clr σ n).1 a b = if a = n then 0 else σ.1 a b := rfl
theorem c12 (σ : zS) (n : Nat) : (o_clr σ n).2.1 = σ.2.1 := rfl
theorem c13 (σ : zS) (n a b : Nat) : (o_clr σ n).2.2 a b = if a = n then none else σ.2.2 a b := rfl
theorem p11 (σ : zS) (d s m : Nat) : (o_cp σ d s m).1 = σ.1 := rfl
theorem p12 (σ : zS) (d s m : Nat) : (o_cp σ d s m).2.1 = σ.2.1 := rfl
theorem p13 (σ : zS) (d s m a b : Nat) : (o_cp σ d s m).2.2 a b = if a = d then (if b < m then σ.2.2 s b else σ.2.2 d b) else σ.2.2 a b := rfl
theorem d_ext {cap : Nat} {f g : Nat → Option Nat} (h : ∀ j, f j = g j) : (some (.inl (.object "java/lang/Object", cap, .inr (.inr (.inr (.inr f))))) : Option zOb) = some (.inl (.object "java/lang/Object", cap, .inr (.inr (.inr (.inr g))))) := by
  rw [funext h]
section OD
variable {B X : Nat} {τ : zK} {σ : zS} {n c s o : Nat} {K : zW → zR}
theorem d_obj (h : o_pk τ o) : z_obj (o_w B X τ σ n c s) 9 (some (B + o)) = some (B + o, [.int (σ.1 o 0), .int (σ.1 o 1), .int (σ.1 o 2), .int (σ.1 o 3), .int (σ.1 o 4), .int (σ.1 o 5), .int (σ.1 o 6), va_rf ((σ.2.2 o 7).map (B + ·))]) := by
  simp only [z_obj, o_dat h.1, o_dyn, h.2, if_pos]
theorem d_any (h : o_pk τ o) : o_any B X τ σ o = some (.inr (9, [.int (σ.1 o 0), .int (σ.1 o 1), .int (σ.1 o 2), .int (σ.1 o 3), .int (σ.1 o 4), .int (σ.1 o 5), .int (σ.1 o 6), va_rf ((σ.2.2 o 7).map (B + ·))])) := by
  have h1 := h.1
  simp only [o_any, if_neg (show ¬ o < 56 from by omega), o_dyn, h.2, if_pos]
theorem d_gI (h : o_pk τ o) (f : Nat) (hf : f < 7) (K : Int32 → zR) : z_getI (o_w B X τ σ n c s) 9 f (some (B + o)) K = K (σ.1 o f) := by
  simp only [z_getI, d_obj h]
  match f, hf with
  | 0, _ => rfl
  | 1, _ => rfl
  | 2, _ => rfl
  | 3, _ => rfl
  | 4, _ => rfl
  | 5, _ => rfl
  | 6, _ => rfl
theorem d_gR (h : o_pk τ o) (K : Option Nat → zR) : z_getR (o_w B X τ σ n c s) 9 7 (some (B + o)) K = K ((σ.2.2 o 7).map (B + ·)) := by
  simp only [z_getR, d_obj h]
  cases hq : σ.2.2 o 7 <;> rfl
theorem d_this (h : o_pk τ o) (K : zR) : z_this (o_w B X τ σ n c s) 9 (some (B + o)) K = K := by
  simp only [z_this, d_obj h]
theorem d_cast (h : o_pk τ o) (K : zR) : z_cast (o_w B X τ σ n c s) 9 (some (B + o)) K = K := by
  unfold z_cast
  rw [if_pos (Or.inr (by rw [d_obj h]; rfl))]
theorem d_pI (h : o_pk τ o) (f : Nat) (hf : f < 7) (x : Int32) : z_put (o_w B X τ σ n c s) 9 f (some (B + o)) (.int x) K = K (o_w B X τ (o_I σ o f x) n c s) := by
  simp only [z_put, d_obj h]
  rw [if_pos (by simp only [List.length_cons, List.length_nil]; omega), o_setA (τ' := τ) (σ' := o_I σ o f x) _ (fun j hj => o_I_ne hj)]
  rw [d_any h]
  simp only [i11, i12]
  match f, hf with
  | 0, _ => simp
  | 1, _ => simp
  | 2, _ => simp
  | 3, _ => simp
  | 4, _ => simp
  | 5, _ => simp
  | 6, _ => simp
theorem d_pZ (h : o_pk τ o) (f : Nat) (hf : f < 7) (x : Int32) : z_putZ (o_w B X τ σ n c s) 9 f (some (B + o)) x K = if x = 0 ∨ x = 1 then K (o_w B X τ (o_I σ o f x) n c s) else none := by
  unfold z_putZ
  rw [d_pI h f hf]
theorem d_pR (h : o_pk τ o) (x : Option Nat) : z_put (o_w B X τ σ n c s) 9 7 (some (B + o)) (va_rf (x.map (B + ·))) K = K (o_w B X τ (o_R σ o 7 x) n c s) := by
  simp only [z_put, d_obj h]
  rw [if_pos (by simp only [List.length_cons, List.length_nil]; omega), o_setA (τ' := τ) (σ' := o_R σ o 7 x) _ (fun j hj => o_R_ne hj)]
  rw [d_any h]
  simp only [r11, r13]
  simp
theorem d_kne {t : Nat ⊕ Nat} {j : Nat} (h : j ≠ n) : o_any B X (o_kd τ n t) σ j = o_any B X τ σ j := by
  simp only [o_any, o_kd, if_neg h]
theorem d_cne {t : Nat ⊕ Nat} {j : Nat} (h : j ≠ n) : o_any B X (o_kd τ n t) (o_clr σ n) j = o_any B X τ σ j := by
  rw [d_kne h]
  have e1 : (o_clr σ n).1 j = σ.1 j := by funext b; simp [o_clr, h]
  have e2 : (o_clr σ n).2.2 j = σ.2.2 j := by funext b; simp [o_clr, h]
  simp only [o_any, o_pic, e1, e2]
  rfl
theorem d_new (hn : 56 ≤ n) (K : Nat → zW → zR) : z_new (o_w B X τ σ n c s) 9 8 [.int 0, .int 0, .int 0, .int 0, .int 0, .int 0, .int 0, .null] K = if 1 ≤ c ∧ 8 ≤ s then K (B + n) (o_w B X (o_kd τ n (.inl 9)) (o_clr σ n) (n + 1) (c - 1) (s - 8)) else none := by
  unfold z_new
  rw [o_pushA (τ' := o_kd τ n (.inl 9)) (σ' := o_clr σ n) _ (fun j hj => d_cne hj)]
  · rfl
  · rw [d_any ⟨hn, by simp [o_kd]⟩]
    simp [c11, c13, va_rf]
theorem d_thr (hn : 56 ≤ n) (ci : Nat) (hc : ci ≠ 9) : z_thr (o_w B X τ σ n c s) ci = if 1 ≤ c ∧ 6 ≤ s then some (.inr (B + n), o_w B X (o_kd τ n (.inl ci)) σ (n + 1) (c - 1) (s - 6)) else none := by
  unfold z_thr
  rw [o_pushA (τ' := o_kd τ n (.inl ci)) (σ' := σ) _ (fun j hj => d_kne hj)]
  · rfl
  · simp only [o_any, if_neg (show ¬ n < 56 from by omega), o_dyn, o_kd, if_pos, if_neg hc]
theorem d_exc (hn : 56 ≤ n) {m ci : Nat} (hc : ci ≠ 9) : (o_w B X (o_kd τ n (.inl ci)) σ m c s).2.2.2 (B + n) = some (.inr (ci, [])) := by
  rw [o_dat hn]
  simp only [o_dyn, o_kd, if_pos, if_neg hc]
theorem d_arr {cap : Nat} (h : o_ar τ o cap) : z_arr (o_w B X τ σ n c s) (.object "java/lang/Object") (some (B + o)) = some (B + o, cap, .inr (.inr (.inr (.inr fun j => (σ.2.2 o j).map (B + ·))))) := by
  simp only [z_arr, o_dat h.1, o_dyn, h.2, if_pos]
theorem d_len {cap : Nat} (h : o_ar τ o cap) (K : Int32 → zR) : z_len (o_w B X τ σ n c s) (some (B + o)) K = K (Int32.ofNat cap) := by
  simp only [z_len, o_dat h.1, o_dyn, h.2]
theorem d_lenX (h : X < B) (K : Int32 → zR) : z_len (o_w B X τ σ n c s) (some X) K = K (Int32.ofNat 0) := by
  simp only [z_len, o_w, if_pos h, if_pos]
theorem d_ldR {cap : Nat} (h : o_ar τ o cap) (i : Int32) (K : Option Nat → zR) : z_ldR (o_w B X τ σ n c s) (.object "java/lang/Object") (some (B + o)) i K = if ¬ (i < 0 ∨ cap ≤ i.toNatClampNeg) then K ((σ.2.2 o i.toNatClampNeg).map (B + ·)) else none := by
  simp only [z_ldR, d_arr h]
theorem d_anyA {cap : Nat} (h : o_ar τ o cap) : o_any B X τ σ o = some (.inl (.object "java/lang/Object", cap, .inr (.inr (.inr (.inr fun j => (σ.2.2 o j).map (B + ·)))))) := by
  have h1 := h.1
  simp only [o_any, if_neg (show ¬ o < 56 from by omega), o_dyn, h.2]
theorem d_stR {cap q : Nat} (h : o_ar τ o cap) (hq : o_pk τ q) (i : Int32) : z_stR (o_w B X τ σ n c s) (.object "java/lang/Object") 9 (some (B + o)) i (some (B + q)) K = if ¬ (i < 0 ∨ cap ≤ i.toNatClampNeg) then K (o_w B X τ (o_R σ o i.toNatClampNeg (some q)) n c s) else none := by
  simp only [z_stR, d_arr h, d_obj hq]
  have e : (¬ (i < 0 ∨ cap ≤ i.toNatClampNeg) ∧ (some (B + q) = none ∨ (some (B + q, [Value.int (σ.1 q 0), .int (σ.1 q 1), .int (σ.1 q 2), .int (σ.1 q 3), .int (σ.1 q 4), .int (σ.1 q 5), .int (σ.1 q 6), va_rf ((σ.2.2 q 7).map (B + ·))])).isSome = true)) ↔ ¬ (i < 0 ∨ cap ≤ i.toNatClampNeg) := by simp
  simp only [e]
  split
  · rw [o_setA (τ' := τ) (σ' := o_R σ o i.toNatClampNeg (some q)) _ (fun j hj => o_R_ne hj)]
    rw [d_anyA h]
    refine d_ext fun j => ?_
    simp only [r13, va_up]
    by_cases hj : j = i.toNatClampNeg <;> simp [hj]
  · rfl
theorem d_newa (hn : 56 ≤ n) (m : Int32) (K : Nat → zW → zR) : z_newa (o_w B X τ σ n c s) (.object "java/lang/Object") m (fun n => (n, .inr (.inr (.inr (.inr fun _ => none))))) K = if ¬ m < 0 ∧ m.toNatClampNeg ≤ 65536 ∧ 1 ≤ c ∧ m.toNatClampNeg ≤ s then K (B + n) (o_w B X (o_kd τ n (.inr m.toNatClampNeg)) (o_clr σ n) (n + 1) (c - 1) (s - m.toNatClampNeg)) else none := by
  unfold z_newa
  rw [o_pushA (τ' := o_kd τ n (.inr m.toNatClampNeg)) (σ' := o_clr σ n) _ (fun j hj => d_cne hj)]
  · rfl
  · rw [d_anyA (cap := m.toNatClampNeg) ⟨hn, by simp [o_kd]⟩]
    simp [c13]
theorem d_isAr {cap : Nat} (h : o_ar τ o cap) (K : zR) : z_isAr (o_w B X τ σ n c s) (.object "java/lang/Object") (some (B + o)) K = K := by
  simp only [z_isAr, d_arr h]
theorem d_acp {cap d cap2 m : Nat} (h : o_ar τ o cap) (h2 : o_ar τ d cap2) (hm : m ≤ cap) (hm2 : m ≤ cap2) (h0 : 0 < cap2) (hsm : m < 2 ^ 31) (hel : ∀ i, i < m → σ.2.2 o i = none ∨ ∃ q, σ.2.2 o i = some q ∧ o_pk τ q) : z_acp (o_w B X τ σ n c s) "java/lang/Object" 9 (some (B + o)) 0 (some (B + d)) 0 (nI m) K = K (o_w B X τ (o_cp σ d o m) n c s) := by
  have z0 : (0 : Int32).toNatClampNeg = 0 := by decide
  have zm : (nI m).toNatClampNeg = m := nI_clamp hsm
  simp only [z_acp, d_arr h, d_arr h2, z0, zm, Nat.zero_add]
  rw [if_pos]
  · congr 1
    refine o_setA (τ' := τ) ?_ (fun j hj => ?_)
    · rw [d_anyA h2]
      refine d_ext fun j => ?_
      simp only [p13, va_cpy, if_pos]
      by_cases hj : j < m <;> simp [hj]
    · have e2 : (o_cp σ d o m).2.2 j = σ.2.2 j := by funext b; simp [o_cp, hj]
      simp only [o_any, o_pic, e2]
      rfl
  · refine ⟨⟨by decide, by decide, nI_pos hsm⟩, hm, hm2, h0, fun i hi => ?_⟩
    rcases hel i hi with e | ⟨q, e, hq⟩
    · left; rw [e]; rfl
    · right
      rw [e]
      show (z_obj (o_w B X τ σ n c s) 9 (some (B + q))).isSome = true
      rw [d_obj hq]
      rfl
end OD
