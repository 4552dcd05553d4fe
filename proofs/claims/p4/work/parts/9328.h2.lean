/-! Calls of the class that write nothing leave its part of the sending side. -/
section HB
variable {B X F : Nat} {τ τ' : zK} {n c s n' c' s' T : Nat} {σ σ' : zS}
def f_fV (k : Nat) (e : zOb) : Option Value := match e with
  | .inr q => q.2[k]?
  | .inl _ => none
def f_aR (e : zOb) : Nat → Option Nat := match e with
  | .inl (_, _, .inr (.inr (.inr (.inr f)))) => f
  | _ => fun _ => none
theorem map_inj {x y : Option Nat} (h : x.map (B + ·) = y.map (B + ·)) : x = y := by
  rcases x with _ | x <;> rcases y with _ | y
  · rfl
  · cases h
  · cases h
  · have h : B + x = B + y := Option.some.inj h
    exact congrArg some (by omega)
theorem rf_inj {x y : Option Nat} (h : va_rf (x.map (B + ·)) = va_rf (y.map (B + ·))) : x = y := by
  rcases x with _ | x <;> rcases y with _ | y
  · rfl
  · cases h
  · cases h
  · have h : Value.ref (B + x) = Value.ref (B + y) := h
    have h : B + x = B + y := Value.ref.inj h
    exact congrArg some (by omega)
theorem oE_inj (hX : X < B) {x y : Option Nat} (h : o_E B X x = o_E B X y) : x = y := by
  rcases x with _ | x <;> rcases y with _ | y
  · rfl
  · have h : X = B + y := h
    omega
  · have h : B + x = X := h
    omega
  · have h : B + x = B + y := h
    exact congrArg some (by omega)
theorem kQ.pic (hn : 56 ≤ n) (h : kQ (B + 55) (o_w B X τ σ n c s) (o_w B X τ' σ' n' c' s')) {k : Nat} (hk : k < 55) : o_pic B X σ' k = o_pic B X σ k := by
  have q := h.2 (B + k) (show B + k < B + n by omega) (by omega)
  rw [o_at (by omega), o_at (by omega)] at q
  exact Option.some.inj q
theorem kQ.dyn (hn : 56 ≤ n) (h : kQ (B + 55) (o_w B X τ σ n c s) (o_w B X τ' σ' n' c' s')) {k : Nat} (hk : 56 ≤ k) (hkn : k < n) : o_dyn B (σ'.1 k) (σ'.2.2 k) (τ' k) = o_dyn B (σ.1 k) (σ.2.2 k) (τ k) := by
  have q := h.2 (B + k) (show B + k < B + n by omega) (by omega)
  rw [o_dat (by omega), o_dat (by omega)] at q
  exact q
theorem kQ.sc (hX : X < B) (hn : 56 ≤ n) (hN : ∀ o, n ≤ o → τ o = none) (h : kQ (B + 55) (o_w B X τ σ n c s) (o_w B X τ' σ' n' c' s')) : sC τ σ τ' σ' := by
  refine ⟨fun o ho => ?_, fun o cap ho => ?_, fun k hk => ?_, congrArg (f_fI 4) (h.pic hn (k := 0) (by decide)), fun f hf => ?_, congrArg (f_fI 2) (h.pic hn (k := 26) (by decide)), fun j _ => ⟨congrFun (congrArg f_aL (h.pic hn (k := 27) (by decide))) j, congrFun (congrArg f_aL (h.pic hn (k := 28) (by decide))) j⟩⟩
  · have hl : o < n := Nat.lt_of_not_le fun q => by have := ho.2; rw [hN o q] at this; cases this
    have e := h.dyn hn ho.1 hl
    rw [ho.2] at e
    rcases ht : τ' o with _ | (ci | cp)
    · rw [ht] at e
      cases e
    · rw [ht] at e
      have e := Option.some.inj e
      have h9 : ci = 9 := by
        injection e with e
        injection e with e _
      subst h9
      refine ⟨⟨ho.1, ht⟩, fun f hf => ?_, rf_inj (Option.some.inj (congrArg (f_fV 7) e))⟩
      rcases (by omega : f = 0 ∨ f = 1 ∨ f = 2 ∨ f = 3 ∨ f = 4 ∨ f = 5 ∨ f = 6) with rfl | rfl | rfl | rfl | rfl | rfl | rfl
      · exact congrArg (f_fI 0) e
      · exact congrArg (f_fI 1) e
      · exact congrArg (f_fI 2) e
      · exact congrArg (f_fI 3) e
      · exact congrArg (f_fI 4) e
      · exact congrArg (f_fI 5) e
      · exact congrArg (f_fI 6) e
    · rw [ht] at e
      cases e
  · have hl : o < n := Nat.lt_of_not_le fun q => by have := ho.2; rw [hN o q] at this; cases this
    have e := h.dyn hn ho.1 hl
    rw [ho.2] at e
    rcases ht : τ' o with _ | (ci | cp)
    · rw [ht] at e
      cases e
    · rw [ht] at e
      cases e
    · rw [ht] at e
      have e := Option.some.inj e
      have hc : cp = cap := by
        injection e with e
        injection e with _ e
        injection e with e _
      subst hc
      exact ⟨⟨ho.1, ht⟩, fun j => map_inj (congrFun (congrArg f_aR e) j)⟩
  · rcases (by omega : k = 0 ∨ k = 1 ∨ k = 2) with rfl | rfl | rfl
    · have e3 := h.pic hn (k := 3) (by decide)
      have e4 := h.pic hn (k := 4) (by decide)
      have e5 := h.pic hn (k := 5) (by decide)
      have e6 := h.pic hn (k := 6) (by decide)
      refine ⟨congrArg (f_fI 3) (h.pic hn (k := 2) (by decide)), fun f f1 f2 => ?_, fun f hf => ?_, congrArg (f_fI 1) e6, oE_inj hX (Value.ref.inj (Option.some.inj (congrArg (f_fV 0) e6)))⟩
      · rcases (by omega : f = 3 ∨ f = 4 ∨ f = 5 ∨ f = 6 ∨ f = 7) with rfl | rfl | rfl | rfl | rfl
        · exact congrArg (f_fI 3) e3
        · exact congrArg (f_fI 4) e3
        · exact congrArg (f_fI 5) e3
        · exact congrArg (f_fI 6) e3
        · exact congrArg (f_fI 7) e3
      · rcases (by omega : f = 0 ∨ f = 1) with rfl | rfl
        · exact ⟨rf_inj (Option.some.inj (congrArg (f_fV 0) e4)), rf_inj (Option.some.inj (congrArg (f_fV 0) e5))⟩
        · exact ⟨rf_inj (Option.some.inj (congrArg (f_fV 1) e4)), rf_inj (Option.some.inj (congrArg (f_fV 1) e5))⟩
    · have e3 := h.pic hn (k := 11) (by decide)
      have e4 := h.pic hn (k := 12) (by decide)
      have e5 := h.pic hn (k := 13) (by decide)
      have e6 := h.pic hn (k := 14) (by decide)
      refine ⟨congrArg (f_fI 3) (h.pic hn (k := 10) (by decide)), fun f f1 f2 => ?_, fun f hf => ?_, congrArg (f_fI 1) e6, oE_inj hX (Value.ref.inj (Option.some.inj (congrArg (f_fV 0) e6)))⟩
      · rcases (by omega : f = 3 ∨ f = 4 ∨ f = 5 ∨ f = 6 ∨ f = 7) with rfl | rfl | rfl | rfl | rfl
        · exact congrArg (f_fI 3) e3
        · exact congrArg (f_fI 4) e3
        · exact congrArg (f_fI 5) e3
        · exact congrArg (f_fI 6) e3
        · exact congrArg (f_fI 7) e3
      · rcases (by omega : f = 0 ∨ f = 1) with rfl | rfl
        · exact ⟨rf_inj (Option.some.inj (congrArg (f_fV 0) e4)), rf_inj (Option.some.inj (congrArg (f_fV 0) e5))⟩
        · exact ⟨rf_inj (Option.some.inj (congrArg (f_fV 1) e4)), rf_inj (Option.some.inj (congrArg (f_fV 1) e5))⟩
    · have e3 := h.pic hn (k := 19) (by decide)
      have e4 := h.pic hn (k := 20) (by decide)
      have e5 := h.pic hn (k := 21) (by decide)
      have e6 := h.pic hn (k := 22) (by decide)
      refine ⟨congrArg (f_fI 3) (h.pic hn (k := 18) (by decide)), fun f f1 f2 => ?_, fun f hf => ?_, congrArg (f_fI 1) e6, oE_inj hX (Value.ref.inj (Option.some.inj (congrArg (f_fV 0) e6)))⟩
      · rcases (by omega : f = 3 ∨ f = 4 ∨ f = 5 ∨ f = 6 ∨ f = 7) with rfl | rfl | rfl | rfl | rfl
        · exact congrArg (f_fI 3) e3
        · exact congrArg (f_fI 4) e3
        · exact congrArg (f_fI 5) e3
        · exact congrArg (f_fI 6) e3
        · exact congrArg (f_fI 7) e3
      · rcases (by omega : f = 0 ∨ f = 1) with rfl | rfl
        · exact ⟨rf_inj (Option.some.inj (congrArg (f_fV 0) e4)), rf_inj (Option.some.inj (congrArg (f_fV 0) e5))⟩
        · exact ⟨rf_inj (Option.some.inj (congrArg (f_fV 1) e4)), rf_inj (Option.some.inj (congrArg (f_fV 1) e5))⟩
  · have e := h.pic hn (k := 29) (by decide)
    rcases (by omega : f = 0 ∨ f = 1 ∨ f = 2 ∨ f = 3 ∨ f = 4) with rfl | rfl | rfl | rfl | rfl
    · exact congrArg (f_fI 0) e
    · exact congrArg (f_fI 1) e
    · exact congrArg (f_fI 2) e
    · exact congrArg (f_fI 3) e
    · exact congrArg (f_fI 4) e
end HB
