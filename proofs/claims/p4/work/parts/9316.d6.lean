section DF
variable {B X F : Nat} {τ : zK} {n c s : Nat} {σ σ' : zS} {k m i : Nat} {P : Nat → Nat} {D : Nat → Nat → Int32} {ft : Nat → Int32} {q : Nat → List Nat} {S : Nat → Int32}
/-- those that are new, by rising numbers, below y -/
def nw (ft : Nat → Int32) (inC : Nat → Bool) : Nat → List Nat
  | 0 => []
  | y + 1 => if inC y = true ∧ ft y = 0 then nw ft inC y ++ [y] else nw ft inC y
def fy (ft : Nat → Int32) (inC : Nat → Bool) (y : Nat) : Nat → Int32 := fun a => if a < y ∧ inC a = true ∧ ft a = 0 then 1 else ft a
theorem nw_skip {inC : Nat → Bool} {y : Nat} : ∀ d : Nat, (∀ a, y ≤ a → a < y + d → ¬ inC a = true) → nw ft inC (y + d) = nw ft inC y
  | 0, _ => rfl
  | d + 1, h => by
    show (if inC (y + d) = true ∧ ft (y + d) = 0 then _ else _) = _
    rw [if_neg (fun w => h (y + d) (by omega) (by omega) w.1)]
    exact nw_skip d fun a h1 h2 => h a h1 (by omega)
theorem fy_skip {inC : Nat → Bool} {y y' : Nat} (hy : y ≤ y') (h : ∀ a, y ≤ a → a < y' → ¬ inC a = true) : fy ft inC y' = fy ft inC y := by
  funext a
  unfold fy
  by_cases w : a < y
  · by_cases z : inC a = true ∧ ft a = 0
    · rw [if_pos ⟨by omega, z⟩, if_pos ⟨w, z⟩]
    · rw [if_neg (fun x => z x.2), if_neg (fun x => z x.2)]
  · rw [if_neg (fun x => h a (by omega) x.1 x.2.1), if_neg (fun x => w x.1)]
theorem fy_step {inC : Nat → Bool} {y : Nat} (h1 : inC y = true) (h2 : ft y = 0) : fy ft inC (y + 1) = rU (fy ft inC y) y 1 := by
  funext a
  unfold fy rU
  by_cases w : a = y
  · rw [if_pos w, w, if_pos ⟨by omega, h1, h2⟩]
  · rw [if_neg w]
    by_cases z : a < y ∧ inC a = true ∧ ft a = 0
    · rw [if_pos ⟨by omega, z.2⟩]
      exact (if_pos z).symm
    · rw [if_neg (fun x => z ⟨by omega, x.2⟩)]
      exact (if_neg z).symm
theorem fy_keep {inC : Nat → Bool} {y : Nat} (h2 : ¬ ft y = 0) : fy ft inC (y + 1) = fy ft inC y := by
  funext a
  unfold fy
  by_cases z : a < y ∧ inC a = true ∧ ft a = 0
  · rw [if_pos ⟨by omega, z.2⟩, if_pos z]
  · rw [if_neg z, if_neg]
    rintro ⟨x1, x2, x3⟩
    by_cases w : a = y
    · rw [w] at x3; exact h2 x3
    · exact z ⟨by omega, x2, x3⟩
theorem fy_at {inC : Nat → Bool} {y a : Nat} (h : y ≤ a) : fy ft inC y a = ft a := if_neg (fun x => by omega)
def inR (p : Nat) (L H : Nat → Int64) (a : Nat) : Bool := (List.range p).any fun j => decide ((L j).toInt ≤ (a : Int)) && decide ((a : Int) ≤ (H j).toInt)
theorem inR_iff {p : Nat} {L H : Nat → Int64} {a : Nat} : inR p L H a = true ↔ ∃ j, j < p ∧ (L j).toInt ≤ (a : Int) ∧ (a : Int) ≤ (H j).toInt := by
  unfold inR
  rw [List.any_eq_true]
  constructor
  · rintro ⟨j, h1, h2⟩
    rw [Bool.and_eq_true, decide_eq_true_eq, decide_eq_true_eq] at h2
    exact ⟨j, List.mem_range.mp h1, h2⟩
  · rintro ⟨j, h1, h2⟩
    exact ⟨j, List.mem_range.mpr h1, by rw [Bool.and_eq_true, decide_eq_true_eq, decide_eq_true_eq]; exact h2⟩
def clS (p : Nat) (L H : Nat → Int64) : Prop := (∀ j, j < p → 0 ≤ (L j).toInt ∧ (L j).toInt ≤ (H j).toInt) ∧ ∀ i j, i < j → j < p → (H j).toInt + 1 < (L i).toInt
theorem d_packet (hA : dA τ σ P m k) (hP : dP τ σ P m D ft) (hk : k < 3) {y : Nat} (hy : y < m) : f_AckBook_Sent_packet F X (some (B + (3 + 8 * k))) (lN y) (o_w B X τ σ n c s) = some (.inl (some (.ref (B + P y))), o_w B X τ σ n c s) := by
  have hm := hA.1.2
  have e0 : ¬ lN y < 0 := by
    rw [Int64.lt_iff_toInt_lt, lN_toInt (by omega), show (0 : Int64).toInt = 0 by decide]
    omega
  have e1 : lN y < lN m := by
    rw [Int64.lt_iff_toInt_lt, lN_toInt (by omega), lN_toInt (by omega)]
    omega
  unfold f_AckBook_Sent_packet
  simp only [lg_cmp_lt, or_s3_2 hk, ot_s6 hk, c_size hk, y_cI, hA.1.1, nI_l (show m < 2 ^ 31 by omega)]
  rw [if_neg e0, if_pos e1]
  simp only [lN_i, d_get hA hk hy, y_cRs, d_cast (hP y hy).1.1]
  rfl
theorem Int64_ext {a b : Int64} (h : a.toInt = b.toInt) : a = b := Int64.toInt_inj.mp h
/-- the class's walk over the acknowledgement's ranges, the lowest first -/
theorem d_markAck {p : Nat} {L H : Nat → Int64} (hk : k < 3) (hp : p ≤ 64) (hL : ∀ j, j < 64 → σ.2.1 27 j = L j) (hH : ∀ j, j < 64 → σ.2.1 28 j = H j) (hcl : clS p L H) (hm1 : 1 ≤ m) : ∀ N : Nat, (∀ (j y : Nat) (σ1 : zS) (S1 : Nat → Int32) (a b : Int64), j ≤ p → y ≤ m → (∀ i, i < j → (y : Int) ≤ (L i).toInt) → (∀ a, y ≤ a → a < m → inR p L H a = true → ∃ i, i < j ∧ (L i).toInt ≤ (a : Int) ∧ (a : Int) ≤ (H i).toInt) → cF k P m σ σ1 → cS τ σ1 k P m D (fy ft (inR p L H) y) (fun b => if b = 0 then q 0 ++ nw ft (inR p L H) y else q 1) S1 → S1 5 = S 5 ∧ S1 6 = S 6 ∧ S1 7 = S 7 → pW B X τ n c s (j_AckBook_Sent_markAcknowledged F X N 0 (some (B + (3 + 8 * k))) (some (B + 26)) ((nw ft (inR p L H) y).head?.map (fun a => B + P a)) (nI j - 1) a b (o_w B X τ σ1 n c s)) (fun v σ' => v = some (va_rf ((nw ft (inR p L H) m).head?.map (fun a => B + P a))) ∧ cF k P m σ σ' ∧ ∃ S', cS τ σ' k P m D (fy ft (inR p L H) m) (fun b => if b = 0 then q 0 ++ nw ft (inR p L H) m else q 1) S' ∧ S' 5 = S 5 ∧ S' 6 = S 6 ∧ S' 7 = S 7)) ∧ (∀ (j y e : Nat) (z : Int64) (σ1 : zS) (S1 : Nat → Int32), j < p → y ≤ m → ((z = lN y ∧ (∀ a, y ≤ a → a ≤ e → a < m → inR p L H a = true)) ∨ (m : Int) ≤ z.toInt ∧ e < y) → e < m → (e : Int) ≤ (H j).toInt ∧ ((e : Int) = (H j).toInt ∨ e + 1 = m) → (∀ i, i < j → (y : Int) ≤ (L i).toInt) → (∀ a, y ≤ a → a < m → inR p L H a = true → ∃ i, i ≤ j ∧ (L i).toInt ≤ (a : Int) ∧ (a : Int) ≤ (H i).toInt) → cF k P m σ σ1 → cS τ σ1 k P m D (fy ft (inR p L H) y) (fun b => if b = 0 then q 0 ++ nw ft (inR p L H) y else q 1) S1 → S1 5 = S 5 ∧ S1 6 = S 6 ∧ S1 7 = S 7 → pW B X τ n c s (j_AckBook_Sent_markAcknowledged F X N 1 (some (B + (3 + 8 * k))) (some (B + 26)) ((nw ft (inR p L H) y).head?.map (fun a => B + P a)) (nI j) (lN e) z (o_w B X τ σ1 n c s)) (fun v σ' => v = some (va_rf ((nw ft (inR p L H) m).head?.map (fun a => B + P a))) ∧ cF k P m σ σ' ∧ ∃ S', cS τ σ' k P m D (fy ft (inR p L H) m) (fun b => if b = 0 then q 0 ++ nw ft (inR p L H) m else q 1) S' ∧ S' 5 = S 5 ∧ S' 6 = S 6 ∧ S' 7 = S 7)) := by
  intro N
  induction N with
  | zero => exact ⟨fun _ _ _ _ _ _ _ _ _ _ _ _ _ => pW.none, fun _ _ _ _ _ _ _ _ _ _ _ _ _ _ _ _ => pW.none⟩
  | succ N ih =>
    refine ⟨fun j y σ1 S1 a b hj hy hlo hrest hF hS hS7 => ?_, fun j y e z σ1 S1 hj hy hz he heH hlo hrest hF hS hS7 => ?_⟩
    · have hm := hS.1.1.1.2
      have l27 : ∀ i, i < 64 → σ1.2.1 27 i = L i := fun i hi => by rw [hF.1]; exact hL i hi
      have l28 : ∀ i, i < 64 → σ1.2.1 28 i = H i := fun i hi => by rw [hF.1]; exact hH i hi
      rw [j_AckBook_Sent_markAcknowledged, if_pos rfl]
      rcases Nat.eq_zero_or_pos j with hj0 | hj0
      · subst hj0
        rw [if_pos (by decide)]
        have hno : ∀ a, y ≤ a → a < y + (m - y) → ¬ inR p L H a = true := fun a h1 h2 h3 => by
          obtain ⟨i, hi, -⟩ := hrest a h1 (by omega) h3
          omega
        have e1 := nw_skip (ft := ft) (m - y) hno
        have e2 := fy_skip (ft := ft) (inC := inR p L H) (y := y) (y' := m) hy (fun a h1 h2 => hno a h1 (by omega))
        rw [show y + (m - y) = m by omega] at e1
        rw [e1, e2]
        exact pW.ret ⟨rfl, hF, S1, hS, hS7⟩
      · obtain ⟨i, rfl⟩ : ∃ i, j = i + 1 := ⟨j - 1, by omega⟩
        rw [nI_pred, if_neg (nI_pos (by omega))]
        have hi64 : i < 64 := by omega
        have hlh := hcl.1 i (by omega)
        have eh : f_AckBook_Claim_high F X (some (B + 26)) (nI i) (o_w B X τ σ1 n c s) = some (.inl (some (.long (H i))), o_w B X τ σ1 n c s) := by
          unfold f_AckBook_Claim_high
          rw [if_neg (nI_pos (by omega)), if_neg (show ¬ (64 : Int32) ≤ nI i from nI_ge (b := 64) hi64 (by decide))]
          simp only [or_26_1, oln_28 hi64, l28 i hi64]
        have el : f_AckBook_Claim_low F X (some (B + 26)) (nI i) (o_w B X τ σ1 n c s) = some (.inl (some (.long (L i))), o_w B X τ σ1 n c s) := by
          unfold f_AckBook_Claim_low
          rw [if_neg (nI_pos (by omega)), if_neg (show ¬ (64 : Int32) ≤ nI i from nI_ge (b := 64) hi64 (by decide))]
          simp only [or_26_0, oln_27 hi64, l27 i hi64]
        have em : (nI m - 1).toInt64 = lN (m - 1) := by rw [e_m1 hm1, nI_l (by omega)]
        simp only [ot_26, eh, y_cL, or_s3_2 hk, ot_s6 hk, c_size hk, hS.1.1.1.1, y_cI, el, em]
        obtain ⟨e, he1, he2, he3⟩ : ∃ e, e < m ∧ (if lN (m - 1) < H i then lN (m - 1) else H i) = lN e ∧ ((e : Int) ≤ (H i).toInt ∧ ((e : Int) = (H i).toInt ∨ e + 1 = m)) := by
          by_cases w : lN (m - 1) < H i
          · rw [if_pos w]
            rw [Int64.lt_iff_toInt_lt, lN_toInt (by omega)] at w
            exact ⟨m - 1, by omega, rfl, by omega, Or.inr (by omega)⟩
          · rw [if_neg w]
            rw [Int64.lt_iff_toInt_lt, lN_toInt (by omega)] at w
            refine ⟨(H i).toInt.toNat, by omega, Int64_ext ?_, by omega, Or.inl (by omega)⟩
            rw [lN_toInt (by omega)]
            omega
        rw [he2]
        have hup : ∀ i', i' < i → (H i).toInt + 1 < (L i').toInt := fun i' hi' => hcl.2 i' i hi' (by omega)
        by_cases w : (L i).toInt < m
        · have hyL : (y : Int) ≤ (L i).toInt := hlo i (by omega)
          have hno : ∀ a, y ≤ a → a < y + ((L i).toInt.toNat - y) → ¬ inR p L H a = true := fun a h1 h2 h3 => by
            obtain ⟨i', hi', b1, b2⟩ := hrest a h1 (by omega) h3
            by_cases z : i' = i
            · subst z; omega
            · have := hup i' (by omega)
              omega
          have e1 := nw_skip (ft := ft) ((L i).toInt.toNat - y) hno
          have e2 := fy_skip (ft := ft) (inC := inR p L H) (y := y) (y' := (L i).toInt.toNat) (by omega) (fun a h1 h2 => hno a h1 (by omega))
          rw [show y + ((L i).toInt.toNat - y) = (L i).toInt.toNat by omega] at e1
          rw [← e1]
          refine ih.2 i (L i).toInt.toNat e (L i) σ1 S1 (by omega) (by omega) (Or.inl ⟨Int64_ext (by rw [lN_toInt (by omega)]; omega), fun a h1 h2 h3 => inR_iff.mpr ⟨i, by omega, by omega, by omega⟩⟩) he1 he3 (fun i' hi' => by have := hup i' hi'; omega) (fun a h1 h2 h3 => ?_) hF (by rw [e2, e1]; exact hS) hS7
          obtain ⟨i', hi', b1, b2⟩ := hrest a (by omega) h2 h3
          exact ⟨i', by omega, b1, b2⟩
        · have hno : ∀ a, y ≤ a → a < y + (m - y) → ¬ inR p L H a = true := fun a h1 h2 h3 => by
            obtain ⟨i', hi', b1, b2⟩ := hrest a h1 (by omega) h3
            by_cases z : i' = i
            · subst z; omega
            · have := hup i' (by omega)
              omega
          have e1 := nw_skip (ft := ft) (m - y) hno
          have e2 := fy_skip (ft := ft) (inC := inR p L H) (y := y) (y' := m) hy (fun a h1 h2 => hno a h1 (by omega))
          rw [show y + (m - y) = m by omega] at e1
          rw [← e1]
          exact ih.2 i m e (L i) σ1 S1 (by omega) (Nat.le_refl _) (Or.inr ⟨by omega, he1⟩) he1 he3 (fun i' hi' => by have := hup i' hi'; omega) (fun a h1 h2 h3 => absurd h2 (by omega)) hF (by rw [e2, e1]; exact hS) hS7
    · have hm := hS.1.1.1.2
      rw [j_AckBook_Sent_markAcknowledged, if_neg (by decide)]
      simp only [lg_cmp_gt]
      have leave : e < y → pW B X τ n c s (j_AckBook_Sent_markAcknowledged F X N 0 (some (B + (3 + 8 * k))) (some (B + 26)) ((nw ft (inR p L H) y).head?.map (fun a => B + P a)) (nI j + (-1)) 0 0 (o_w B X τ σ1 n c s)) (fun v σ' => v = some (va_rf ((nw ft (inR p L H) m).head?.map (fun a => B + P a))) ∧ cF k P m σ σ' ∧ ∃ S', cS τ σ' k P m D (fy ft (inR p L H) m) (fun b => if b = 0 then q 0 ++ nw ft (inR p L H) m else q 1) S' ∧ S' 5 = S 5 ∧ S' 6 = S 6 ∧ S' 7 = S 7) := by
        intro hey
        rw [e_m1n]
        refine ih.1 j y σ1 S1 0 0 (by omega) hy hlo (fun a h1 h2 h3 => ?_) hF hS hS7
        obtain ⟨i', hi', b1, b2⟩ := hrest a h1 h2 h3
        refine ⟨i', ?_, b1, b2⟩
        rcases Nat.lt_or_ge i' j with z | z
        · exact z
        · have : i' = j := by omega
          subst this
          rcases heH.2 with g | g <;> omega
      have ee := lN_toInt (n := e) (by omega)
      rcases hz with ⟨hz1, hz2⟩ | ⟨hz1, hz2⟩
      · subst hz1
        have ey := lN_toInt (n := y) (by omega)
        refine pW.ite (fun h => leave ?_) (fun h => ?_)
        · rw [Int64.lt_iff_toInt_lt, ee, ey] at h
          omega
        · have hye : y ≤ e := by
            rw [Int64.lt_iff_toInt_lt, ee, ey] at h
            omega
          have hym : y < m := by omega
          have hin := hz2 y (Nat.le_refl _) hye hym
          have hpk := (hS.1.2.2 y hym).1.1
          have hft : σ1.1 (P y) 6 = ft y := ((hS.1.2.2 y hym).2.2.1).trans (fy_at (Nat.le_refl _))
          simp only [ot_s3 hk, d_packet hS.1.1 hS.1.2.2 hk hym, y_cRs, reduceCtorEq, if_false, d_gI hpk 6 (by omega), hft, lN_1]
          have nxt := fun σ2 S2 h1 h2 h3 => ih.2 j (y + 1) e (lN (y + 1)) σ2 S2 hj (by omega) (Or.inl ⟨rfl, fun a b1 b2 b3 => hz2 a (by omega) b2 b3⟩) he heH (fun i' hi' => by have := hcl.2 i' j hi' hj; omega) (fun a b1 b2 b3 => hrest a (by omega) b2 b3) h1 h2 h3
          by_cases w : ft y = 0
          · rw [if_pos w]
            obtain ⟨σ2, a1, a2, a3⟩ := d_end (B := B) (X := X) (F := F) (n := n) (c := c) (s := s) (b := 0) hk (by decide) hS hym ((fy_at (Nat.le_refl _)).trans w)
            have a1 : f_AckBook_Sent_end F X (some (B + (3 + 8 * k))) (some (B + P y)) 1 (some (B + (4 + 8 * k))) (o_w B X τ σ1 n c s) = _ := a1
            have en : nw ft (inR p L H) (y + 1) = nw ft (inR p L H) y ++ [y] := by
              show (if _ then _ else _) = _
              rw [if_pos ⟨hin, w⟩]
            have a3 : cS τ σ2 k P m D (fy ft (inR p L H) (y + 1)) (fun b => if b = 0 then q 0 ++ nw ft (inR p L H) (y + 1) else q 1) (rU (if D 3 y = 0 then S1 else rU S1 4 (S1 4 - 1)) 3 (S1 3 - 1)) := by
              rw [fy_step hin w, en]
              refine ⟨a3.1, fun b hb => ?_, a3.2.2⟩
              have z := a3.2.1 b hb
              rcases (by omega : b = 0 ∨ b = 1) with rfl | rfl
              · have z : dC σ2 P (4 + 0 + 8 * k) ((q 0 ++ nw ft (inR p L H) y) ++ [y]) ∧ ((q 0 ++ nw ft (inR p L H) y) ++ [y]).Nodup ∧ ∀ a, a ∈ (q 0 ++ nw ft (inR p L H) y) ++ [y] → a < m ∧ rU (fy ft (inR p L H) y) y (nI (0 + 1)) a = nI (0 + 1) := z
                rw [List.append_assoc] at z
                exact z
              · exact z
            have go := nxt σ2 _ (hF.trans a2) a3 ⟨(rUS (by decide) (by decide)).trans hS7.1, (rUS (by decide) (by decide)).trans hS7.2.1, (rUS (by decide) (by decide)).trans hS7.2.2⟩
            simp only [or_s3_0 hk, ot_s3 hk, a1, y_cV, q_AckBook_Sent_markAcknowledged_90, lN_1]
            rw [en] at go
            cases hl : nw ft (inR p L H) y with
            | nil =>
              rw [hl] at go
              simp only [List.head?_nil, Option.map_none, if_true]
              exact go
            | cons a t =>
              rw [hl] at go
              simp only [List.head?_cons, Option.map_some, reduceCtorEq, if_false]
              exact go
          · rw [if_neg w]
            have en : nw ft (inR p L H) (y + 1) = nw ft (inR p L H) y := by
              show (if _ then _ else _) = _
              rw [if_neg (fun x => w x.2)]
            have go := nxt σ1 S1 hF (by rw [fy_keep w, en]; exact hS) hS7
            rw [en] at go
            exact go
      · refine pW.ite (fun h => leave hz2) (fun h => absurd (show lN e < z from ?_) h)
        rw [Int64.lt_iff_toInt_lt, ee]
        omega
end DF
