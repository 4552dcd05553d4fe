/-! Sums over the packets that are out; the flow's numbers, as functions. -/
section KA
variable {w : Nat → Int32} {ft f g : Nat → Int32} {i m : Nat} {x u v : Int32} {l l1 l2 : List Nat} {D : Nat → Nat → Int32}
theorem i_rc (a b d : Int32) : a - b + d = a + d - b := by
  rw [Int32.sub_eq_add_neg, Int32.sub_eq_add_neg, Int32.add_assoc, Int32.add_assoc, Int32.add_comm (-b) d]
theorem i_rs (a b d : Int32) : a - b - d = a - d - b := by
  rw [Int32.sub_eq_add_neg, Int32.sub_eq_add_neg, Int32.sub_eq_add_neg, Int32.sub_eq_add_neg, Int32.add_assoc, Int32.add_assoc, Int32.add_comm (-b) (-d)]
/-- what is out, weighed -/
def sm (w ft : Nat → Int32) : Nat → Int32
  | 0 => 0
  | i + 1 => sm w ft i + (if ft i = 0 then w i else 0)
/-- less those of a list -/
def sb (w : Nat → Int32) (l : List Nat) (v : Int32) : Int32 := l.foldl (fun v a => v - w a) v
theorem sm_congr : ∀ m, (∀ i, i < m → (f i = 0 ↔ g i = 0)) → sm w f m = sm w g m
  | 0, _ => rfl
  | m + 1, h => by
    show sm w f m + (if f m = 0 then w m else 0) = sm w g m + (if g m = 0 then w m else 0)
    rw [sm_congr m (fun i hi => h i (by omega))]
    by_cases z : f m = 0
    · rw [if_pos z, if_pos ((h m (by omega)).mp z)]
    · rw [if_neg z, if_neg (fun y => z ((h m (by omega)).mpr y))]
theorem sm_wcongr {w' : Nat → Int32} : ∀ m, (∀ i, i < m → w i = w' i) → sm w f m = sm w' f m
  | 0, _ => rfl
  | m + 1, h => by
    show sm w f m + (if f m = 0 then w m else 0) = sm w' f m + (if f m = 0 then w' m else 0)
    rw [sm_wcongr m (fun i hi => h i (by omega)), h m (by omega)]
theorem sm_rU (h0 : ft i = 0) (hx : x ≠ 0) : ∀ m, i < m → sm w (rU ft i x) m = sm w ft m - w i
  | 0, h => absurd h (Nat.not_lt_zero _)
  | m + 1, h => by
    show sm w (rU ft i x) m + (if rU ft i x m = 0 then w m else 0) = sm w ft m + (if ft m = 0 then w m else 0) - w i
    by_cases z : m = i
    · subst z
      rw [sm_congr m (f := rU ft m x) (g := ft) (fun j hj => by unfold rU; rw [if_neg (by omega)]), if_neg (show ¬ rU ft m x m = 0 from fun y => hx ((if_pos rfl).symm.trans y)), if_pos h0, Int32.add_zero, Int32.add_sub_cancel]
    · rw [sm_rU h0 hx m (by omega), show rU ft i x m = ft m from if_neg z, i_rc]
theorem sb_nil : sb w [] v = v := rfl
theorem sb_app (a : Nat) : sb w (l ++ [a]) v = sb w l v - w a := by
  unfold sb
  rw [List.foldl_append]
  rfl
theorem sb_cons (a : Nat) : sb w (a :: l) v = sb w l (v - w a) := rfl
theorem sb_sub : ∀ (l : List Nat) (v u : Int32), sb w l (v - u) = sb w l v - u
  | [], _, _ => rfl
  | a :: l, v, u => by rw [sb_cons, sb_cons, i_rs, sb_sub l]
theorem sb_add : ∀ (l : List Nat) (v u : Int32), sb w l (v + u) = sb w l v + u
  | [], _, _ => rfl
  | a :: l, v, u => by rw [sb_cons, sb_cons, ← i_rc, sb_add l]
theorem sb_appl : ∀ (l1 : List Nat) (v : Int32), sb w (l1 ++ l2) v = sb w l2 (sb w l1 v)
  | [], _ => rfl
  | a :: l1, v => by
    rw [List.cons_append, sb_cons, sb_cons, sb_appl l1]
theorem sb_wcongr {w' : Nat → Int32} : ∀ (l : List Nat) (v : Int32), (∀ a, a ∈ l → w a = w' a) → sb w l v = sb w' l v
  | [], _, _ => rfl
  | a :: l, v, h => by rw [sb_cons, sb_cons, h a (by simp), sb_wcongr l _ (fun b hb => h b (List.mem_cons_of_mem _ hb))]
theorem sm_fy {inC : Nat → Bool} : ∀ y, y ≤ m → sm w (fy ft inC y) m = sb w (nw ft inC y) (sm w ft m)
  | 0, _ => by
    rw [show fy ft inC 0 = ft from funext fun a => if_neg (fun z => absurd z.1 (Nat.not_lt_zero _))]
    rfl
  | y + 1, h => by
    show sm w (fy ft inC (y + 1)) m = sb w (if inC y = true ∧ ft y = 0 then nw ft inC y ++ [y] else nw ft inC y) (sm w ft m)
    by_cases z : inC y = true ∧ ft y = 0
    · rw [if_pos z, fy_step z.1 z.2, sm_rU (by rw [fy_at (Nat.le_refl _)]; exact z.2) (by decide) m (by omega), sb_app, sm_fy y (by omega)]
    · rw [if_neg z, ← sm_fy y (by omega)]
      by_cases z2 : ft y = 0
      · rw [fy_skip (y := y) (y' := y + 1) (by omega) (fun a h1 h2 h3 => by
          have : a = y := by omega
          subst this
          exact z ⟨h3, z2⟩)]
      · rw [fy_keep z2]
theorem nw_mem {inC : Nat → Bool} : ∀ y a, a ∈ nw ft inC y → a < y ∧ ft a = 0
  | 0, _, h => by cases h
  | y + 1, a, h => by
    have h : a ∈ (if inC y = true ∧ ft y = 0 then nw ft inC y ++ [y] else nw ft inC y) := h
    by_cases z : inC y = true ∧ ft y = 0
    · rw [if_pos z] at h
      rcases List.mem_append.mp h with h | h
      · have := nw_mem y a h
        exact ⟨by omega, this.2⟩
      · rw [List.mem_singleton.mp h]
        exact ⟨Nat.lt_succ_self _, z.2⟩
    · rw [if_neg z] at h
      have := nw_mem y a h
      exact ⟨by omega, this.2⟩
/-- the look for losses: the list grows behind, the sums fall by it -/
theorem ls_sm {at_ : Nat → Int32} {gr : Nat} {now limit : Int32} : ∀ (n i : Nat) (st : (Nat → Int32) × List Nat × Int32), i + n ≤ m → ∃ l2, ((List.range' i n).foldl (lsF at_ gr now limit) st).2.1 = st.2.1 ++ l2 ∧ (∀ w, sm w ((List.range' i n).foldl (lsF at_ gr now limit) st).1 m = sb w l2 (sm w st.1 m)) ∧ (∀ a, a ∈ l2 → i ≤ a ∧ a < i + n ∧ ((List.range' i n).foldl (lsF at_ gr now limit) st).1 a = 2) ∧ ∀ a, ¬ (i ≤ a ∧ a < i + n) → ((List.range' i n).foldl (lsF at_ gr now limit) st).1 a = st.1 a
  | 0, i, st, _ => ⟨[], by simp, fun _ => rfl, fun a h => (by cases h), fun _ _ => rfl⟩
  | n + 1, i, st, h => by
    rw [List.range'_succ, List.foldl_cons]
    obtain ⟨l2, a1, a2, a3, a4⟩ := ls_sm (at_ := at_) (gr := gr) (now := now) (limit := limit) n (i + 1) (lsF at_ gr now limit st i) (by omega)
    by_cases z : st.1 i = 0
    · by_cases z2 : i + 3 ≤ gr ∨ ¬ now - limit < at_ i
      · have e : lsF at_ gr now limit st i = (rU st.1 i 2, st.2.1 ++ [i], st.2.2) := by
          unfold lsF
          rw [if_pos z, if_pos z2]
        rw [e] at a1 a2 a3 a4 ⊢
        refine ⟨i :: l2, by rw [a1, List.append_assoc]; rfl, fun w => ?_, fun a ha => ?_, fun a ha => ?_⟩
        · rw [a2, sb_cons]
          show sb w l2 (sm w (rU st.1 i 2) m) = _
          rw [sm_rU z (by decide) m (by omega)]
        · rcases List.mem_cons.mp ha with rfl | ha
          · refine ⟨Nat.le_refl _, by omega, ?_⟩
            rw [a4 a (by omega)]
            exact if_pos rfl
          · have := a3 a ha
            exact ⟨by omega, by omega, this.2.2⟩
        · rw [a4 a (by omega)]
          exact if_neg (by omega)
      · have e : (lsF at_ gr now limit st i).1 = st.1 ∧ (lsF at_ gr now limit st i).2.1 = st.2.1 := by
          unfold lsF
          rw [if_pos z, if_neg z2]
          exact ⟨rfl, rfl⟩
        refine ⟨l2, by rw [a1, e.2], fun w => by rw [a2, e.1], fun a ha => ?_, fun a ha => ?_⟩
        · have := a3 a ha
          exact ⟨by omega, by omega, this.2.2⟩
        · rw [a4 a (by omega), e.1]
    · have e : lsF at_ gr now limit st i = st := by
        unfold lsF
        rw [if_neg z]
      rw [e] at a1 a2 a3 a4 ⊢
      refine ⟨l2, a1, a2, fun a ha => ?_, fun a ha => a4 a (by omega)⟩
      have := a3 a ha
      exact ⟨by omega, by omega, this.2.2⟩
theorem lsR_sm {at_ : Nat → Int32} {gr : Nat} {now limit : Int32} (h : gr ≤ m) : (∀ w, sm w (lsR at_ gr now limit ft).1 m = sb w (lsR at_ gr now limit ft).2.1 (sm w ft m)) ∧ ∀ a, a ∈ (lsR at_ gr now limit ft).2.1 → a < gr ∧ (lsR at_ gr now limit ft).1 a = 2 := by
  obtain ⟨l2, a1, a2, a3, -⟩ := ls_sm (m := m) (at_ := at_) (gr := gr) (now := now) (limit := limit) gr 0 (ft, [], -1) (by omega)
  have a1 : (lsR at_ gr now limit ft).2.1 = l2 := a1
  rw [a1]
  exact ⟨a2, fun a ha => ⟨by have := a3 a ha; omega, (a3 a ha).2.2⟩⟩
/-- weights: what counts, what elicits -/
def cz (D : Nat → Nat → Int32) (a : Nat) : Int32 := if D 4 a = 0 then 0 else D 1 a
def ez (D : Nat → Nat → Int32) (a : Nat) : Int32 := if D 3 a = 0 then 0 else 1
/-- the window, the threshold, the recovery: behind one that is acknowledged -/
def fwA (D : Nat → Nat → Int32) (x : Int32 × Int32 × Int32) (a : Nat) : Int32 × Int32 × Int32 := if D 4 a ≠ 0 ∧ D 5 a ≠ 0 ∧ (x.2.2 = -1 ∨ x.2.2 < D 2 a) then (if x.2.1 = -1 ∨ x.1 < x.2.1 then x.1 + D 1 a else x.1 + 1200 * D 1 a / x.1, x.2.1, x.2.2) else x
/-- .. behind those found lost -/
def fwL (D : Nat → Nat → Int32) (now : Int32) (l : List Nat) (x : Int32 × Int32 × Int32) : Int32 × Int32 × Int32 := if ∃ a, a ∈ l ∧ D 4 a ≠ 0 ∧ (x.2.2 = -1 ∨ x.2.2 < D 2 a) then (if x.1 / 2 < 2400 then 2400 else x.1 / 2, x.1 / 2, now) else x
def ctF (D : Nat → Nat → Int32) (since : Int32) (x : Option Nat × Option Nat) (a : Nat) : Option Nat × Option Nat := if D 3 a ≠ 0 ∧ since < D 2 a then ((if x.1 = none then some a else x.1), some a) else x
def hsA (ft : Nat → Int32) (a b : Nat) : Bool := (List.range b).any fun i => decide (a < i ∧ ft i = 1)
def cutB (D : Nat → Nat → Int32) (ft : Nat → Int32) (bound : Int32) : Option Nat × Option Nat → Bool
  | (some a, some b) => decide (bound < D 2 b - D 2 a) && !hsA ft a b
  | _ => false
def bdW (W : Nat → Int32) : Int32 := 3 * (W 0 / 8 + (if W 1 < 1 then 1 else W 1) + 25)
/-- .. behind the look whether nothing came through -/
def fwC (D : Nat → Nat → Int32) (ft W : Nat → Int32) (l : List Nat) (x : Int32 × Int32 × Int32) : Int32 × Int32 × Int32 := if ¬ W 4 = -1 ∧ cutB D ft (bdW W) (l.foldl (ctF D (W 4)) (none, none)) = true then (2400, x.2.1, -1) else x
def fwX (D : Nat → Nat → Int32) (ft W : Nat → Int32) (now : Int32) (l : List Nat) (x : Int32 × Int32 × Int32) : Int32 × Int32 × Int32 := fwC D ft W l (fwL D now l x)
theorem fwX_nil {W : Nat → Int32} {now : Int32} {x : Int32 × Int32 × Int32} : fwX D ft W now [] x = x := by
  have e : fwL D now [] x = x := if_neg (fun ⟨a, h, _⟩ => by cases h)
  unfold fwX fwC
  rw [e]
  exact if_neg (fun z => by
    have := z.2
    cases this)
theorem ctF_mem {since : Int32} : ∀ (l : List Nat) (x : Option Nat × Option Nat), (∀ a, (x.1 = some a ∨ x.2 = some a) → a ∈ l2) → (∀ a, a ∈ l → a ∈ l2) → ∀ a, ((l.foldl (ctF D since) x).1 = some a ∨ (l.foldl (ctF D since) x).2 = some a) → a ∈ l2
  | [], _, h, _ => h
  | b :: l, x, h, h2 => by
    rw [List.foldl_cons]
    refine ctF_mem l _ (fun a ha => ?_) (fun a ha => h2 a (List.mem_cons_of_mem _ ha))
    unfold ctF at ha
    by_cases z : D 3 b ≠ 0 ∧ since < D 2 b
    · rw [if_pos z] at ha
      by_cases z2 : x.1 = none
      · rw [if_pos z2] at ha
        have : b = a := by rcases ha with ha | ha <;> exact Option.some.inj ha
        rw [← this]
        exact h2 b (by simp)
      · rw [if_neg z2] at ha
        rcases ha with ha | ha
        · exact h a (Or.inl ha)
        · have : b = a := Option.some.inj ha
          rw [← this]
          exact h2 b (by simp)
    · rw [if_neg z] at ha
      exact h a ha
end KA
