/-! The packets of one space, on the class's side. -/
section DA
variable {B X F : Nat} {τ : zK} {n c s : Nat} {σ σ' : zS} {k m i : Nat} {P : Nat → Nat} {D : Nat → Nat → Int32} {ft : Nat → Int32} {la ll l : List Nat} {S : Nat → Int32}
def dP (τ : zK) (σ : zS) (P : Nat → Nat) (m : Nat) (D : Nat → Nat → Int32) (ft : Nat → Int32) : Prop := ∀ i, i < m → (o_pk τ (P i) ∧ σ.1 (P i) 0 = nI i) ∧ (∀ f, 1 ≤ f → f ≤ 5 → σ.1 (P i) f = D f i) ∧ σ.1 (P i) 6 = ft i ∧ (ft i = 0 → σ.2.2 (P i) 7 = none)
def dI (P : Nat → Nat) (m : Nat) : Prop := ∀ i j, i < m → j < m → P i = P j → i = j
def dA (τ : zK) (σ : zS) (P : Nat → Nat) (m k : Nat) : Prop := (σ.1 (6 + 8 * k) 1 = nI m ∧ m ≤ 4096) ∧ ((m = 0 ∧ σ.2.2 (6 + 8 * k) 0 = none) ∨ ∃ e cap, σ.2.2 (6 + 8 * k) 0 = some e ∧ o_ar τ e cap ∧ (0 < m ∧ m ≤ cap) ∧ cap ≤ 65536 ∧ ∀ i, i < m → σ.2.2 e i = some (P i))
def lnk (σ : zS) (P : Nat → Nat) : List Nat → Prop
  | [] => True
  | [a] => σ.2.2 (P a) 7 = none
  | a :: b :: t => σ.2.2 (P a) 7 = some (P b) ∧ lnk σ P (b :: t)
/-- a chain: its first, its last, its links -/
def dC (σ : zS) (P : Nat → Nat) (ch : Nat) (l : List Nat) : Prop := σ.2.2 ch 0 = l.head?.map P ∧ (l ≠ [] → σ.2.2 ch 1 = l.getLast?.map P) ∧ lnk σ P l
theorem lnk.cong {σ σ' : zS} : ∀ {l : List Nat}, (∀ a, a ∈ l → σ'.2.2 (P a) 7 = σ.2.2 (P a) 7) → lnk σ P l → lnk σ' P l
  | [], _, _ => trivial
  | [a], h, q => (h a (by simp)).trans q
  | a :: b :: t, h, q => ⟨(h a (by simp)).trans q.1, lnk.cong (l := b :: t) (fun x hx => h x (by simp only [List.mem_cons] at hx ⊢; exact Or.inr hx)) q.2⟩
theorem lnk.tail {a : Nat} : ∀ {l : List Nat}, lnk σ P (a :: l) → lnk σ P l
  | [], _ => trivial
  | _ :: _, q => q.2
theorem lnk.app {σ : zS} {i z : Nat} : ∀ {l : List Nat}, lnk σ P l → l.Nodup → (∀ a, a ∈ l → P a ≠ P i) → (∀ a b, a ∈ l → b ∈ l → P a = P b → a = b) → σ.2.2 (P i) 7 = none → l.getLast? = some z → lnk (o_R σ (P z) 7 (some (P i))) P (l ++ [i])
  | [], _, _, _, _, _, hz => by cases hz
  | [a], q, _, h1, _, h3, hz => by
    obtain rfl : a = z := by simpa using hz
    refine ⟨by rw [r13, if_pos ⟨rfl, rfl⟩], ?_⟩
    show (o_R σ (P a) 7 (some (P i))).2.2 (P i) 7 = none
    rw [r13, if_neg (fun w => h1 a (by simp) w.1.symm)]
    exact h3
  | a :: b :: t, q, hd, h1, h2, h3, hz => by
    have hz' : (b :: t).getLast? = some z := by simpa [List.getLast?_cons_cons] using hz
    have hzm : z ∈ b :: t := List.mem_of_getLast? hz'
    have hne : a ≠ z := fun w => (List.nodup_cons.mp hd).1 (w ▸ hzm)
    refine ⟨?_, lnk.app (l := b :: t) q.2 (List.nodup_cons.mp hd).2 (fun x hx => h1 x (List.mem_cons_of_mem _ hx)) (fun x y hx hy => h2 x y (List.mem_cons_of_mem _ hx) (List.mem_cons_of_mem _ hy)) h3 hz'⟩
    rw [r13, if_neg (fun w => hne (h2 a z (by simp) (List.mem_cons_of_mem _ hzm) w.1))]
    exact q.1
theorem dP.pk (h : dP τ σ P m D ft) (hi : i < m) : o_pk τ (P i) := (h i hi).1.1
/-- the class's append -/
theorem d_append {ch z : Nat} (hk : k < 3) (hc : ch = 4 + 8 * k ∨ ch = 5 + 8 * k) (hC : dC σ P ch l) (hl : ∀ a, a ∈ l → o_pk τ (P a)) (hi : o_pk τ (P i)) : f_AckBook_Chain_append F X (some (B + ch)) (some (B + P i)) (o_w B X τ σ n c s) = some (.inl none, o_w B X τ (match l.getLast? with
    | none => o_R (o_R σ ch 0 (some (P i))) ch 1 (some (P i))
    | some z => o_R (o_R σ (P z) 7 (some (P i))) ch 1 (some (P i))) n c s) := by
  unfold f_AckBook_Chain_append
  simp only [c_chG hk hc (Or.inl rfl), hC.1, q_AckBook_Chain_append_14]
  cases l with
  | nil =>
    simp only [List.head?_nil, Option.map_none, if_true, c_chP hk hc (Or.inl rfl), c_chP hk hc (Or.inr rfl), List.getLast?_nil]
  | cons a t =>
    have h2 := hC.2.1 (by simp)
    obtain ⟨z, hz⟩ : ∃ z, (a :: t).getLast? = some z := ⟨_, List.getLast?_eq_some_getLast (by simp)⟩
    have hzm : z ∈ a :: t := List.mem_of_getLast? hz
    rw [hz] at h2
    simp only [List.head?_cons, Option.map_some, reduceCtorEq, if_false, c_chG hk hc (Or.inr rfl), h2, d_pRS (hl z hzm), c_chP hk hc (Or.inr rfl), hz]
end DA
