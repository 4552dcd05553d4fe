/-! The class's acknowledgement, with what is out and eliciting, and the flow. -/
section KD
variable {B X F : Nat} {τ : zK} {n c s : Nat} {σ σ' : zS} {k m i : Nat} {P : Nat → Nat} {D : Nat → Nat → Int32} {ft : Nat → Int32} {q : Nat → List Nat} {S : Nat → Int32}
theorem d_markAckX {p : Nat} {L H : Nat → Int64} (hk : k < 3) (hp : p ≤ 64) (hL : ∀ j, j < 64 → σ.2.1 27 j = L j) (hH : ∀ j, j < 64 → σ.2.1 28 j = H j) (hcl : clS p L H) (hm1 : 1 ≤ m) : ∀ N : Nat, (∀ (j y : Nat) (σ1 : zS) (S1 : Nat → Int32) (a b : Int64), j ≤ p → y ≤ m → (∀ i, i < j → (y : Int) ≤ (L i).toInt) → (∀ a, y ≤ a → a < m → inR p L H a = true → ∃ i, i < j ∧ (L i).toInt ≤ (a : Int) ∧ (a : Int) ≤ (H i).toInt) → cF k P m σ σ1 → cS τ σ1 k P m D (fy ft (inR p L H) y) (fun b => if b = 0 then q 0 ++ nw ft (inR p L H) y else q 1) S1 → S1 4 = sm (ez D) (fy ft (inR p L H) y) m ∧ S1 5 = S 5 ∧ S1 6 = S 6 ∧ S1 7 = S 7 → pW B X τ n c s (j_AckBook_Sent_markAcknowledged F X N 0 (some (B + (3 + 8 * k))) (some (B + 26)) ((nw ft (inR p L H) y).head?.map (fun a => B + P a)) (nI j - 1) a b (o_w B X τ σ1 n c s)) (fun v σ' => v = some (va_rf ((nw ft (inR p L H) m).head?.map (fun a => B + P a))) ∧ cF k P m σ σ' ∧ ∃ S', cS τ σ' k P m D (fy ft (inR p L H) m) (fun b => if b = 0 then q 0 ++ nw ft (inR p L H) m else q 1) S' ∧ S' 4 = sm (ez D) (fy ft (inR p L H) m) m ∧ S' 5 = S 5 ∧ S' 6 = S 6 ∧ S' 7 = S 7)) ∧ (∀ (j y e : Nat) (z : Int64) (σ1 : zS) (S1 : Nat → Int32), j < p → y ≤ m → ((z = lN y ∧ (∀ a, y ≤ a → a ≤ e → a < m → inR p L H a = true)) ∨ (m : Int) ≤ z.toInt ∧ e < y) → e < m → (e : Int) ≤ (H j).toInt ∧ ((e : Int) = (H j).toInt ∨ e + 1 = m) → (∀ i, i < j → (y : Int) ≤ (L i).toInt) → (∀ a, y ≤ a → a < m → inR p L H a = true → ∃ i, i ≤ j ∧ (L i).toInt ≤ (a : Int) ∧ (a : Int) ≤ (H i).toInt) → cF k P m σ σ1 → cS τ σ1 k P m D (fy ft (inR p L H) y) (fun b => if b = 0 then q 0 ++ nw ft (inR p L H) y else q 1) S1 → S1 4 = sm (ez D) (fy ft (inR p L H) y) m ∧ S1 5 = S 5 ∧ S1 6 = S 6 ∧ S1 7 = S 7 → pW B X τ n c s (j_AckBook_Sent_markAcknowledged F X N 1 (some (B + (3 + 8 * k))) (some (B + 26)) ((nw ft (inR p L H) y).head?.map (fun a => B + P a)) (nI j) (lN e) z (o_w B X τ σ1 n c s)) (fun v σ' => v = some (va_rf ((nw ft (inR p L H) m).head?.map (fun a => B + P a))) ∧ cF k P m σ σ' ∧ ∃ S', cS τ σ' k P m D (fy ft (inR p L H) m) (fun b => if b = 0 then q 0 ++ nw ft (inR p L H) m else q 1) S' ∧ S' 4 = sm (ez D) (fy ft (inR p L H) m) m ∧ S' 5 = S 5 ∧ S' 6 = S 6 ∧ S' 7 = S 7)) := by
  intro N
  induction N with
  | zero => exact ⟨fun _ _ _ _ _ _ _ _ _ _ _ _ _ => pW.none, fun _ _ _ _ _ _ _ _ _ _ _ _ _ _ _ _ => pW.none⟩
  | succ N ih =>
    refine ⟨fun j y σ1 S1 a b hj hy hlo hrest hF hS hS7 => ?_, fun j y e z σ1 S1 hj hy hz he heH hlo hrest hF hS hS7 => ?_⟩
    · have hm := hS.1.1.1.2
      have l27 : ∀ i, i < 64 → σ1.2.1 27 i = L i := fun i hi => by rw [hF.1]; exact hL i hi
      have l28 : ∀ i, i < 64 → σ1.2.1 28 i = H i := fun i hi => by rw [hF.1]; exact hH i hi
      rw [j_AckBook_Sent_markAcknowledged, if_pos rfl]
      rcases Nat.eq_zero_or_pos j with hj0 | hj0
      · subst hj0
        rw [if_pos (by decide)]
        have hno : ∀ a, y ≤ a → a < y + (m - y) → ¬ inR p L H a = true := fun a h1 h2 h3 => by
          obtain ⟨i, hi, -⟩ := hrest a h1 (by omega) h3
          omega
        have e1 := nw_skip (ft := ft) (m - y) hno
        have e2 := fy_skip (ft := ft) (inC := inR p L H) (y := y) (y' := m) hy (fun a h1 h2 => hno a h1 (by omega))
        rw [show y + (m - y) = m by omega] at e1
        rw [e1, e2]
        exact pW.ret ⟨rfl, hF, S1, hS, hS7⟩
      · obtain ⟨i, rfl⟩ : ∃ i, j = i + 1 := ⟨j - 1, by omega⟩
        rw [nI_pred, if_neg (nI_pos (by omega))]
        have hi64 : i < 64 := by omega
        have hlh := hcl.1 i (by omega)
        have eh : f_AckBook_Claim_high F X (some (B + 26)) (nI i) (o_w B X τ σ1 n c s) = some (.inl (some (.long (H i))), o_w B X τ σ1 n c s) := by
          unfold f_AckBook_Claim_high
          rw [if_neg (nI_pos (by omega)), if_neg (show ¬ (64 : Int32) ≤ nI i from nI_ge (b := 64) hi64 (by decide))]
          simp only [or_26_1, oln_28 hi64, l28 i hi64]
        have el : f_AckBook_Claim_low F X (some (B + 26)) (nI i) (o_w B X τ σ1 n c s) = some (.inl (some (.long (L i))), o_w B X τ σ1 n c s) := by
          unfold f_AckBook_Claim_low
          rw [if_neg (nI_pos (by omega)), if_neg (show ¬ (64 : Int32) ≤ nI i from nI_ge (b := 64) hi64 (by decide))]
          simp only [or_26_0, oln_27 hi64, l27 i hi64]
        have em : (nI m - 1).toInt64 = lN (m - 1) := by rw [e_m1 hm1, nI_l (by omega)]
        simp only [ot_26, eh, y_cL, or_s3_2 hk, ot_s6 hk, c_size hk, hS.1.1.1.1, y_cI, el, em]
        obtain ⟨e, he1, he2, he3⟩ : ∃ e, e < m ∧ (if lN (m - 1) < H i then lN (m - 1) else H i) = lN e ∧ ((e : Int) ≤ (H i).toInt ∧ ((e : Int) = (H i).toInt ∨ e + 1 = m)) := by
          by_cases w : lN (m - 1) < H i
          · rw [if_pos w]
            rw [Int64.lt_iff_toInt_lt, lN_toInt (by omega)] at w
            exact ⟨m - 1, by omega, rfl, by omega, Or.inr (by omega)⟩
          · rw [if_neg w]
            rw [Int64.lt_iff_toInt_lt, lN_toInt (by omega)] at w
            refine ⟨(H i).toInt.toNat, by omega, Int64_ext ?_, by omega, Or.inl (by omega)⟩
            rw [lN_toInt (by omega)]
            omega
        rw [he2]
        have hup : ∀ i', i' < i → (H i).toInt + 1 < (L i').toInt := fun i' hi' => hcl.2 i' i hi' (by omega)
        by_cases w : (L i).toInt < m
        · have hyL : (y : Int) ≤ (L i).toInt := hlo i (by omega)
          have hno : ∀ a, y ≤ a → a < y + ((L i).toInt.toNat - y) → ¬ inR p L H a = true := fun a h1 h2 h3 => by
            obtain ⟨i', hi', b1, b2⟩ := hrest a h1 (by omega) h3
            by_cases z : i' = i
            · subst z; omega
            · have := hup i' (by omega)
              omega
          have e1 := nw_skip (ft := ft) ((L i).toInt.toNat - y) hno
          have e2 := fy_skip (ft := ft) (inC := inR p L H) (y := y) (y' := (L i).toInt.toNat) (by omega) (fun a h1 h2 => hno a h1 (by omega))
          rw [show y + ((L i).toInt.toNat - y) = (L i).toInt.toNat by omega] at e1
          rw [← e1]
          refine ih.2 i (L i).toInt.toNat e (L i) σ1 S1 (by omega) (by omega) (Or.inl ⟨Int64_ext (by rw [lN_toInt (by omega)]; omega), fun a h1 h2 h3 => inR_iff.mpr ⟨i, by omega, by omega, by omega⟩⟩) he1 he3 (fun i' hi' => by have := hup i' hi'; omega) (fun a h1 h2 h3 => ?_) hF (by rw [e2, e1]; exact hS) (by rw [e2]; exact hS7)
          obtain ⟨i', hi', b1, b2⟩ := hrest a (by omega) h2 h3
          exact ⟨i', by omega, b1, b2⟩
        · have hno : ∀ a, y ≤ a → a < y + (m - y) → ¬ inR p L H a = true := fun a h1 h2 h3 => by
            obtain ⟨i', hi', b1, b2⟩ := hrest a h1 (by omega) h3
            by_cases z : i' = i
            · subst z; omega
            · have := hup i' (by omega)
              omega
          have e1 := nw_skip (ft := ft) (m - y) hno
          have e2 := fy_skip (ft := ft) (inC := inR p L H) (y := y) (y' := m) hy (fun a h1 h2 => hno a h1 (by omega))
          rw [show y + (m - y) = m by omega] at e1
          rw [← e1]
          exact ih.2 i m e (L i) σ1 S1 (by omega) (Nat.le_refl _) (Or.inr ⟨by omega, he1⟩) he1 he3 (fun i' hi' => by have := hup i' hi'; omega) (fun a h1 h2 h3 => absurd h2 (by omega)) hF (by rw [e2, e1]; exact hS) (by rw [e2]; exact hS7)
    · have hm := hS.1.1.1.2
      rw [j_AckBook_Sent_markAcknowledged, if_neg (by decide)]
      simp only [lg_cmp_gt]
      have leave : e < y → pW B X τ n c s (j_AckBook_Sent_markAcknowledged F X N 0 (some (B + (3 + 8 * k))) (some (B + 26)) ((nw ft (inR p L H) y).head?.map (fun a => B + P a)) (nI j + (-1)) 0 0 (o_w B X τ σ1 n c s)) (fun v σ' => v = some (va_rf ((nw ft (inR p L H) m).head?.map (fun a => B + P a))) ∧ cF k P m σ σ' ∧ ∃ S', cS τ σ' k P m D (fy ft (inR p L H) m) (fun b => if b = 0 then q 0 ++ nw ft (inR p L H) m else q 1) S' ∧ S' 4 = sm (ez D) (fy ft (inR p L H) m) m ∧ S' 5 = S 5 ∧ S' 6 = S 6 ∧ S' 7 = S 7) := by
        intro hey
        rw [e_m1n]
        refine ih.1 j y σ1 S1 0 0 (by omega) hy hlo (fun a h1 h2 h3 => ?_) hF hS hS7
        obtain ⟨i', hi', b1, b2⟩ := hrest a h1 h2 h3
        refine ⟨i', ?_, b1, b2⟩
        rcases Nat.lt_or_ge i' j with z | z
        · exact z
        · have : i' = j := by omega
          subst this
          rcases heH.2 with g | g <;> omega
      have ee := lN_toInt (n := e) (by omega)
      rcases hz with ⟨hz1, hz2⟩ | ⟨hz1, hz2⟩
      · subst hz1
        have ey := lN_toInt (n := y) (by omega)
        refine pW.ite (fun h => leave ?_) (fun h => ?_)
        · rw [Int64.lt_iff_toInt_lt, ee, ey] at h
          omega
        · have hye : y ≤ e := by
            rw [Int64.lt_iff_toInt_lt, ee, ey] at h
            omega
          have hym : y < m := by omega
          have hin := hz2 y (Nat.le_refl _) hye hym
          have hpk := (hS.1.2.2 y hym).1.1
          have hft : σ1.1 (P y) 6 = ft y := ((hS.1.2.2 y hym).2.2.1).trans (fy_at (Nat.le_refl _))
          simp only [ot_s3 hk, d_packet hS.1.1 hS.1.2.2 hk hym, y_cRs, reduceCtorEq, if_false, d_gI hpk 6 (by omega), hft, lN_1]
          have nxt := fun σ2 S2 h1 h2 h3 => ih.2 j (y + 1) e (lN (y + 1)) σ2 S2 hj (by omega) (Or.inl ⟨rfl, fun a b1 b2 b3 => hz2 a (by omega) b2 b3⟩) he heH (fun i' hi' => by have := hcl.2 i' j hi' hj; omega) (fun a b1 b2 b3 => hrest a (by omega) b2 b3) h1 h2 h3
          by_cases w : ft y = 0
          · rw [if_pos w]
            obtain ⟨σ2, a1, a2, a3⟩ := d_end (B := B) (X := X) (F := F) (n := n) (c := c) (s := s) (b := 0) hk (by decide) hS hym ((fy_at (Nat.le_refl _)).trans w)
            have a1 : f_AckBook_Sent_end F X (some (B + (3 + 8 * k))) (some (B + P y)) 1 (some (B + (4 + 8 * k))) (o_w B X τ σ1 n c s) = _ := a1
            have en : nw ft (inR p L H) (y + 1) = nw ft (inR p L H) y ++ [y] := by
              show (if _ then _ else _) = _
              rw [if_pos ⟨hin, w⟩]
            have a3 : cS τ σ2 k P m D (fy ft (inR p L H) (y + 1)) (fun b => if b = 0 then q 0 ++ nw ft (inR p L H) (y + 1) else q 1) (rU (if D 3 y = 0 then S1 else rU S1 4 (S1 4 - 1)) 3 (S1 3 - 1)) := by
              rw [fy_step hin w, en]
              refine ⟨a3.1, fun b hb => ?_, a3.2.2⟩
              have z := a3.2.1 b hb
              rcases (by omega : b = 0 ∨ b = 1) with rfl | rfl
              · have z : dC σ2 P (4 + 0 + 8 * k) ((q 0 ++ nw ft (inR p L H) y) ++ [y]) ∧ ((q 0 ++ nw ft (inR p L H) y) ++ [y]).Nodup ∧ ∀ a, a ∈ (q 0 ++ nw ft (inR p L H) y) ++ [y] → a < m ∧ rU (fy ft (inR p L H) y) y (nI (0 + 1)) a = nI (0 + 1) := z
                rw [List.append_assoc] at z
                exact z
              · exact z
            have e4 : (rU (if D 3 y = 0 then S1 else rU S1 4 (S1 4 - 1)) 3 (S1 3 - 1)) 4 = sm (ez D) (fy ft (inR p L H) (y + 1)) m := by
              rw [rU4, hS7.1, fy_step hin w, sm_rU ((fy_at (Nat.le_refl _)).trans w) (by decide) m hym]
              rfl
            have go := nxt σ2 _ (hF.trans a2) a3 ⟨e4, (rUS (by decide) (by decide)).trans hS7.2.1, (rUS (by decide) (by decide)).trans hS7.2.2.1, (rUS (by decide) (by decide)).trans hS7.2.2.2⟩
            simp only [or_s3_0 hk, ot_s3 hk, a1, y_cV, q_AckBook_Sent_markAcknowledged_90, lN_1]
            rw [en] at go
            cases hl : nw ft (inR p L H) y with
            | nil =>
              rw [hl] at go
              simp only [List.head?_nil, Option.map_none, if_true]
              exact go
            | cons a t =>
              rw [hl] at go
              simp only [List.head?_cons, Option.map_some, reduceCtorEq, if_false]
              exact go
          · rw [if_neg w]
            have en : nw ft (inR p L H) (y + 1) = nw ft (inR p L H) y := by
              show (if _ then _ else _) = _
              rw [if_neg (fun x => w x.2)]
            have go := nxt σ1 S1 hF (by rw [fy_keep w, en]; exact hS) (by rw [fy_keep w]; exact hS7)
            rw [en] at go
            exact go
      · refine pW.ite (fun h => leave hz2) (fun h => absurd (show lN e < z from ?_) h)
        rw [Int64.lt_iff_toInt_lt, ee]
        omega
theorem fwX_W {W W' : Nat → Int32} {now : Int32} {l : List Nat} {x : Int32 × Int32 × Int32} (h : ∀ f, f < 5 → W f = W' f) : fwX D ft W now l x = fwX D ft W' now l x := by
  unfold fwX fwC bdW
  rw [h 0 (by omega), h 1 (by omega), h 4 (by omega)]
theorem d_settleX {g p : Nat} {L H : Nat → Int64} (hk : k < 3) (hS : cS τ σ k P m D ft q S) (h6 : S 6 = -1 ∨ ∃ g0, g0 < m ∧ S 6 = nI g0) (hg : g < m) (hp : p ≤ 64) (hp3 : σ.1 26 3 = nI p) (hL : ∀ j, j < 64 → σ.2.1 27 j = L j) (hH : ∀ j, j < 64 → σ.2.1 28 j = H j) (hcl : clS p L H) (delay : Int32) (h4 : S 4 = sm (ez D) ft m) (hw : ∀ l1 l2, nw ft (inR p L H) m = l1 ++ l2 → ¬ (l1.foldl (fwA D) (fq σ)).1 ≤ 0) : ∃ g1, g1 < m ∧ (if S 6 < nI g then nI g else S 6) = nI g1 ∧ pW B X τ n c s (f_AckBook_settle F X (some (B + 0)) (some (B + (2 + 8 * k))) (some (B + P g)) delay (o_w B X τ σ n c s)) (fun v σ' => if nw ft (inR p L H) m = [] then v = some (.int 0) ∧ cU k P m σ σ' ∧ (∀ f, f < 5 → σ'.1 29 f = σ.1 29 f) ∧ (σ'.1 0 5 = σ.1 0 5 ∧ fq σ' = fq σ ∧ σ'.1 30 0 = σ.1 30 0) ∧ ∃ S', cS τ σ' k P m D (fy ft (inR p L H) m) (fun b => if b = 0 then q 0 ++ nw ft (inR p L H) m else q 1) S' ∧ S' 4 = sm (ez D) (fy ft (inR p L H) m) m ∧ S' 5 = S 5 ∧ S' 6 = nI g1 ∧ S' 7 = S 7 else v = some (.int (nI (nw ft (inR p L H) m).length)) ∧ cU k P m σ σ' ∧ (∀ f, f < 5 → σ'.1 29 f = wyA (σ.1 29) k D ft (inR p L H) m g (σ.1 0 4) delay f) ∧ (σ'.1 0 5 = 0 ∧ fq σ' = fwX D (lsR (D 2) g1 (σ.1 0 4) (limV (wyA (σ.1 29) k D ft (inR p L H) m g (σ.1 0 4) delay 0) (wyA (σ.1 29) k D ft (inR p L H) m g (σ.1 0 4) delay 2)) (fy ft (inR p L H) m)).1 (wyA (σ.1 29) k D ft (inR p L H) m g (σ.1 0 4) delay) (σ.1 0 4) (lsR (D 2) g1 (σ.1 0 4) (limV (wyA (σ.1 29) k D ft (inR p L H) m g (σ.1 0 4) delay 0) (wyA (σ.1 29) k D ft (inR p L H) m g (σ.1 0 4) delay 2)) (fy ft (inR p L H) m)).2.1 ((nw ft (inR p L H) m).foldl (fwA D) (fq σ)) ∧ σ'.1 30 0 = sb (cz D) (lsR (D 2) g1 (σ.1 0 4) (limV (wyA (σ.1 29) k D ft (inR p L H) m g (σ.1 0 4) delay 0) (wyA (σ.1 29) k D ft (inR p L H) m g (σ.1 0 4) delay 2)) (fy ft (inR p L H) m)).2.1 (sb (cz D) (nw ft (inR p L H) m) (σ.1 30 0))) ∧ ∃ S', cS τ σ' k P m D (lsR (D 2) g1 (σ.1 0 4) (limV (wyA (σ.1 29) k D ft (inR p L H) m g (σ.1 0 4) delay 0) (wyA (σ.1 29) k D ft (inR p L H) m g (σ.1 0 4) delay 2)) (fy ft (inR p L H) m)).1 (fun b => if b = 0 then q 0 ++ nw ft (inR p L H) m else q 1 ++ (lsR (D 2) g1 (σ.1 0 4) (limV (wyA (σ.1 29) k D ft (inR p L H) m g (σ.1 0 4) delay 0) (wyA (σ.1 29) k D ft (inR p L H) m g (σ.1 0 4) delay 2)) (fy ft (inR p L H) m)).2.1) S' ∧ S' 4 = sm (ez D) (lsR (D 2) g1 (σ.1 0 4) (limV (wyA (σ.1 29) k D ft (inR p L H) m g (σ.1 0 4) delay 0) (wyA (σ.1 29) k D ft (inR p L H) m g (σ.1 0 4) delay 2)) (fy ft (inR p L H) m)).1 m ∧ S' 5 = S 5 ∧ S' 6 = nI g1 ∧ S' 7 = (lsR (D 2) g1 (σ.1 0 4) (limV (wyA (σ.1 29) k D ft (inR p L H) m g (σ.1 0 4) delay 0) (wyA (σ.1 29) k D ft (inR p L H) m g (σ.1 0 4) delay 2)) (fy ft (inR p L H) m)).2.2) := by
  have hm := hS.1.1.1.2
  have h56 : ∀ j, j < m → 56 ≤ P j := fun j hj => (hS.1.2.2 j hj).1.1.1
  have hpk := (hS.1.2.2 g hg).1.1
  obtain ⟨g1, hg1, hgr⟩ : ∃ g1, g1 < m ∧ (if S 6 < nI g then nI g else S 6) = nI g1 := by
    rcases h6 with h6 | ⟨g0, h0, h6⟩
    · refine ⟨g, hg, ?_⟩
      rw [h6, if_pos]
      rw [Int32.lt_iff_toInt_lt, nI_toInt (by omega), show (-1 : Int32).toInt = -1 by decide]
      omega
    · by_cases w : S 6 < nI g
      · exact ⟨g, hg, if_pos w⟩
      · exact ⟨g0, h0, by rw [if_neg w]; exact h6⟩
  refine ⟨g1, hg1, hgr, ?_⟩
  generalize hC : inR p L H = inC at hw ⊢
  have s6 : σ.1 (3 + 8 * k) 6 = S 6 := hS.2.2 6 (by omega) (by omega)
  have hS1 := hS.sent hk (f := 6) (by omega) (nI g1)
  have hF1 : cF k P m σ (o_I σ (3 + 8 * k) 6 (nI g1)) := cF.I (Or.inl rfl)
  have hma : pW B X τ n c s (f_AckBook_Sent_markAcknowledged F X (some (B + (3 + 8 * k))) (some (B + 26)) (o_w B X τ (o_I σ (3 + 8 * k) 6 (nI g1)) n c s)) (fun v σ' => v = some (va_rf ((nw ft inC m).head?.map (fun a => B + P a))) ∧ cF k P m σ σ' ∧ ∃ S', cS τ σ' k P m D (fy ft inC m) (fun b => if b = 0 then q 0 ++ nw ft inC m else q 1) S' ∧ S' 4 = sm (ez D) (fy ft inC m) m ∧ S' 5 = S 5 ∧ S' 6 = nI g1 ∧ S' 7 = S 7) := by
    subst hC
    unfold f_AckBook_Sent_markAcknowledged
    have e3 : (o_I σ (3 + 8 * k) 6 (nI g1)).1 26 3 = nI p := by rw [i11, if_neg (by omega)]; exact hp3
    rw [oi_26_3, e3]
    have f0 : fy ft (inR p L H) 0 = ft := by
      funext a
      unfold fy
      rw [if_neg (by omega)]
    have hq : cS τ (o_I σ (3 + 8 * k) 6 (nI g1)) k P m D (fy ft (inR p L H) 0) (fun b => if b = 0 then q 0 ++ nw ft (inR p L H) 0 else q 1) (rU S 6 (nI g1)) := by
      rw [f0]
      refine ⟨hS1.1, fun b hb => ?_, hS1.2.2⟩
      have z := hS1.2.1 b hb
      rcases (by omega : b = 0 ∨ b = 1) with rfl | rfl
      · show dC _ P (4 + 0 + 8 * k) (q 0 ++ []) ∧ (q 0 ++ []).Nodup ∧ ∀ a, a ∈ q 0 ++ [] → a < m ∧ ft a = nI (0 + 1)
        rw [List.append_nil]
        exact z
      · exact z
    refine ((d_markAckX (B := B) (X := X) (F := F) (τ := τ) (n := n) (c := c) (s := s) (σ := o_I σ (3 + 8 * k) 6 (nI g1)) (k := k) (m := m) (P := P) (D := D) (ft := ft) (q := q) (S := rU S 6 (nI g1)) hk hp hL hH hcl (by omega) F).1 p 0 _ _ 0 0 (Nat.le_refl _) (Nat.zero_le _) (fun i hi => (hcl.1 i hi).1) (fun a _ _ h3 => inR_iff.mp h3) (cF.refl k P m _) hq ⟨by rw [f0]; exact h4, rfl, rfl, rfl⟩).mono ?_
    rintro v σ' ⟨b1, b2, S', b3, b44, b4, b5, b6⟩
    exact ⟨b1, hF1.trans b2, S', b3, b44, b4, b5, b6⟩
  have n0 : σ.1 (P g) 0 = nI g := (hS.1.2.2 g hg).1.2
  have h12 : ∀ x : Int32, x = (if ft g = 0 then 1 else 0) → pW B X τ n c s (q_AckBook_settle_12 F X (some (B + 0)) (some (B + (2 + 8 * k))) (some (B + P g)) delay x (o_w B X τ σ n c s)) (fun v σ' => if nw ft inC m = [] then v = some (.int 0) ∧ cU k P m σ σ' ∧ (∀ f, f < 5 → σ'.1 29 f = σ.1 29 f) ∧ (σ'.1 0 5 = σ.1 0 5 ∧ fq σ' = fq σ ∧ σ'.1 30 0 = σ.1 30 0) ∧ ∃ S', cS τ σ' k P m D (fy ft inC m) (fun b => if b = 0 then q 0 ++ nw ft inC m else q 1) S' ∧ S' 4 = sm (ez D) (fy ft inC m) m ∧ S' 5 = S 5 ∧ S' 6 = nI g1 ∧ S' 7 = S 7 else v = some (.int (nI (nw ft inC m).length)) ∧ cU k P m σ σ' ∧ (∀ f, f < 5 → σ'.1 29 f = wyA (σ.1 29) k D ft inC m g (σ.1 0 4) delay f) ∧ (σ'.1 0 5 = 0 ∧ fq σ' = fwX D (lsR (D 2) g1 (σ.1 0 4) (limV (wyA (σ.1 29) k D ft inC m g (σ.1 0 4) delay 0) (wyA (σ.1 29) k D ft inC m g (σ.1 0 4) delay 2)) (fy ft inC m)).1 (wyA (σ.1 29) k D ft inC m g (σ.1 0 4) delay) (σ.1 0 4) (lsR (D 2) g1 (σ.1 0 4) (limV (wyA (σ.1 29) k D ft inC m g (σ.1 0 4) delay 0) (wyA (σ.1 29) k D ft inC m g (σ.1 0 4) delay 2)) (fy ft inC m)).2.1 ((nw ft inC m).foldl (fwA D) (fq σ)) ∧ σ'.1 30 0 = sb (cz D) (lsR (D 2) g1 (σ.1 0 4) (limV (wyA (σ.1 29) k D ft inC m g (σ.1 0 4) delay 0) (wyA (σ.1 29) k D ft inC m g (σ.1 0 4) delay 2)) (fy ft inC m)).2.1 (sb (cz D) (nw ft inC m) (σ.1 30 0))) ∧ ∃ S', cS τ σ' k P m D (lsR (D 2) g1 (σ.1 0 4) (limV (wyA (σ.1 29) k D ft inC m g (σ.1 0 4) delay 0) (wyA (σ.1 29) k D ft inC m g (σ.1 0 4) delay 2)) (fy ft inC m)).1 (fun b => if b = 0 then q 0 ++ nw ft inC m else q 1 ++ (lsR (D 2) g1 (σ.1 0 4) (limV (wyA (σ.1 29) k D ft inC m g (σ.1 0 4) delay 0) (wyA (σ.1 29) k D ft inC m g (σ.1 0 4) delay 2)) (fy ft inC m)).2.1) S' ∧ S' 4 = sm (ez D) (lsR (D 2) g1 (σ.1 0 4) (limV (wyA (σ.1 29) k D ft inC m g (σ.1 0 4) delay 0) (wyA (σ.1 29) k D ft inC m g (σ.1 0 4) delay 2)) (fy ft inC m)).1 m ∧ S' 5 = S 5 ∧ S' 6 = nI g1 ∧ S' 7 = (lsR (D 2) g1 (σ.1 0 4) (limV (wyA (σ.1 29) k D ft inC m g (σ.1 0 4) delay 0) (wyA (σ.1 29) k D ft inC m g (σ.1 0 4) delay 2)) (fy ft inC m)).2.2) := by
    intro x hx
    unfold q_AckBook_settle_12 f_AckBook_Sent_raiseGreatest
    simp only [or_s2_1 hk, d_gI hpk 0 (by omega), n0, ot_s3 hk, oi_s3_6 hk, s6, hgr, op_s3_6 hk, y_cV, or_0_1]
    refine pW.cR hma ?_
    rintro r σ1 ⟨b1, b2, S', b3, b44, b4, b5, b6⟩
    have hr := va_rf.inj (Option.some.inj b1)
    subst hr
    have u1 := b2.h.u
    have t1 : ∀ f, σ1.1 0 f = σ.1 0 f := fun f => by rw [(b2.2 0 (by omega) (by omega) (by omega) (fun j hj => by have := h56 j hj; omega)).1]
    have z30 : σ1.1 30 = σ.1 30 := (b2.2 30 (by omega) (by omega) (by omega) (fun j hj => by have := h56 j hj; omega)).1
    have zq : fq σ1 = fq σ := by
      unfold fq
      rw [z30]
    have w1 : σ1.1 29 = σ.1 29 := (b2.2 29 (by omega) (by omega) (by omega) (fun j hj => by have := h56 j hj; omega)).1
    cases hl : nw ft inC m with
    | nil =>
      rw [hl] at b3
      simp only [List.head?_nil, Option.map_none, if_true]
      exact pW.ret ⟨rfl, u1, fun f _ => by rw [w1], ⟨t1 5, zq, by rw [z30]⟩, S', b3, b44, b4, b5, b6⟩
    | cons a t =>
      have hlk : lnk σ1 P (nw ft inC m) := (b3.2.1 0 (by decide)).1.2.2.drop (a := q 0)
      have hlm : ∀ a, a ∈ nw ft inC m → a < m := fun a ha => ((b3.2.1 0 (by decide)).2.2 a (List.mem_append.mpr (Or.inr ha))).1
      rw [← hl]
      have hne : nw ft inC m ≠ [] := by rw [hl]; exact fun z => nomatch z
      have hhd : ¬ (nw ft inC m).head?.map (fun a => B + P a) = none := by rw [hl]; exact fun z => nomatch z
      rw [if_neg hhd]
      simp only [if_neg hne]
      have h100 : ∀ (σ2 : zS) (W : Nat → Int32), cS τ σ2 k P m D (fy ft inC m) (fun b => if b = 0 then q 0 ++ nw ft inC m else q 1) S' → cU k P m σ σ2 → lnk σ2 P (nw ft inC m) → (∀ f, f < 5 → σ2.1 29 f = W f) → σ2.1 30 = σ.1 30 → pW B X τ n c s (q_AckBook_settle_100 F X (some (B + 0)) (some (B + (2 + 8 * k))) ((nw ft inC m).head?.map (fun a => B + P a)) (o_w B X τ σ2 n c s)) (fun v σ' => v = some (.int (nI (nw ft inC m).length)) ∧ cU k P m σ σ' ∧ (∀ f, f < 5 → σ'.1 29 f = W f) ∧ (σ'.1 0 5 = 0 ∧ fq σ' = fwX D (lsR (D 2) g1 (σ.1 0 4) (limV (W 0) (W 2)) (fy ft inC m)).1 W (σ.1 0 4) (lsR (D 2) g1 (σ.1 0 4) (limV (W 0) (W 2)) (fy ft inC m)).2.1 ((nw ft inC m).foldl (fwA D) (fq σ)) ∧ σ'.1 30 0 = sb (cz D) (lsR (D 2) g1 (σ.1 0 4) (limV (W 0) (W 2)) (fy ft inC m)).2.1 (sb (cz D) (nw ft inC m) (σ.1 30 0))) ∧ ∃ S', cS τ σ' k P m D (lsR (D 2) g1 (σ.1 0 4) (limV (W 0) (W 2)) (fy ft inC m)).1 (fun b => if b = 0 then q 0 ++ nw ft inC m else q 1 ++ (lsR (D 2) g1 (σ.1 0 4) (limV (W 0) (W 2)) (fy ft inC m)).2.1) S' ∧ S' 4 = sm (ez D) (lsR (D 2) g1 (σ.1 0 4) (limV (W 0) (W 2)) (fy ft inC m)).1 m ∧ S' 5 = S 5 ∧ S' 6 = nI g1 ∧ S' 7 = (lsR (D 2) g1 (σ.1 0 4) (limV (W 0) (W 2)) (fy ft inC m)).2.2) := by
        intro σ2 W c1 c2 c3 c4 c30
        have cq : fq σ2 = fq σ := by
          unfold fq
          rw [c30]
        unfold q_AckBook_settle_100 f_AckBook_Flow_leaveAcknowledged
        simp only [or_0_3, ot_30]
        refine pW.cI (d_leaveAckX (B := B) (X := X) (F := F) (n := n) (c := c) (s := s) F (nw ft inC m) σ2 0 c1.1.2.2 c3 hlm (by rw [cq]; exact hw)) ?_
        rintro v σ3 ⟨g3, hv, q3, i3⟩
        have hv := Option.some.inj hv
        injection hv with hv
        subst hv
        rw [Nat.zero_add]
        simp only [or_s2_1 hk, ot_0]
        have c5 := g3.cs hk c1
        refine pW.cV (d_lossesX (B := B) (X := X) (F := F) (n := n) (c := c) (s := s) (g := g1) hk c5 b5 b44 (by omega)) ?_
        rintro σ4 ⟨-, d1, ⟨dq, di⟩, S4, d2, d24, d3, d4, d5⟩
        have k29 : σ4.1 29 = σ3.1 29 := (d1.2 29 (by omega) (by omega) (by omega) (by omega) (fun j hj => by have := h56 j hj; omega)).1
        have k0 : σ3.1 0 4 = σ.1 0 4 := by
          rw [g3.2 0 (by omega)]
          exact (c2.2 0 (by omega) (by omega) (by omega) (by omega) (by omega) (fun j hj => by have := h56 j hj; omega)).2 4 (by omega)
        have kw : ∀ f, f < 5 → σ3.1 29 f = W f := fun f hf => by rw [g3.2 29 (by omega)]; exact c4 f hf
        rw [k0, kw 0 (by omega), kw 2 (by omega)] at d2 d5 d24 dq di
        rw [fwX_W kw, q3, cq] at dq
        rw [i3, c30] at di
        simp only [op_0_5]
        refine pW.ret ⟨rfl, ?_, fun f hf => ?_, ⟨by rw [i11, if_pos ⟨rfl, rfl⟩], by rw [← dq]; unfold fq; rw [i11, if_neg (by omega), i11, if_neg (by omega), i11, if_neg (by omega)], by rw [i11, if_neg (by omega)]; exact di⟩, S4, ?_, d24, d3.trans b4, d4.trans b5, d5⟩
        · refine (c2.trans (g3.h.u.trans d1.u)).trans ⟨rfl, fun o p0 p1 p2 p3 p4 p5 => ⟨rfl, fun f hf => ?_⟩⟩
          rw [i11, if_neg hf]
        · rw [i11, if_neg (by omega), k29]
          exact kw f hf
        · have n0 : ∀ o, o ≠ 0 → (o_I σ4 0 5 0).1 o = σ4.1 o := fun o ho => i_fun_ne ho
          refine ⟨⟨⟨⟨by rw [n0 _ (by omega)]; exact d2.1.1.1.1, hm⟩, d2.1.1.2⟩, d2.1.2.1, fun j hj => ?_⟩, fun b hb => ⟨(d2.2.1 b hb).1.cong rfl (fun _ _ => rfl), (d2.2.1 b hb).2⟩, by rw [n0 _ (by omega)]; exact d2.2.2⟩
          have := h56 j hj
          rw [n0 _ (by omega)]
          exact d2.1.2.2 j hj
      subst hx
      have at_g : σ1.1 (P g) 2 = D 2 g := (b3.1.2.2 g hg).2.1 2 (by omega) (by omega)
      by_cases z1 : ft g = 0
      · simp only [if_pos z1]
        rw [if_neg (show ¬ (1 : Int32) = 0 by decide)]
        unfold f_AckBook_hasEliciting
        refine pW.cI (d_hasEl (B := B) (X := X) (F := F) (n := n) (c := c) (s := s) b3.1.2.2 F (nw ft inC m) hlk hlm) ?_
        rintro v σ2 ⟨rfl, hv⟩
        have hv := Option.some.inj hv
        injection hv with hv
        subst hv
        by_cases z2 : ∃ a, a ∈ nw ft inC m ∧ D 3 a ≠ 0
        · rw [if_pos z2, if_neg (show ¬ (1 : Int32) = 0 by decide)]
          simp only [oi_s2_0 hk]
          have h76 : ∀ d : Int32, d = (if k = 2 then (if 25 < delay then 25 else delay) else 0) → pW B X τ n c s (q_AckBook_settle_76 F X (some (B + 0)) (some (B + (2 + 8 * k))) (some (B + P g)) ((nw ft inC m).head?.map (fun a => B + P a)) d (o_w B X τ σ2 n c s)) (fun v σ' => v = some (.int (nI (nw ft inC m).length)) ∧ cU k P m σ σ' ∧ (∀ f, f < 5 → σ'.1 29 f = wyA (σ.1 29) k D ft inC m g (σ.1 0 4) delay f) ∧ (σ'.1 0 5 = 0 ∧ fq σ' = fwX D (lsR (D 2) g1 (σ.1 0 4) (limV (wyA (σ.1 29) k D ft inC m g (σ.1 0 4) delay 0) (wyA (σ.1 29) k D ft inC m g (σ.1 0 4) delay 2)) (fy ft inC m)).1 (wyA (σ.1 29) k D ft inC m g (σ.1 0 4) delay) (σ.1 0 4) (lsR (D 2) g1 (σ.1 0 4) (limV (wyA (σ.1 29) k D ft inC m g (σ.1 0 4) delay 0) (wyA (σ.1 29) k D ft inC m g (σ.1 0 4) delay 2)) (fy ft inC m)).2.1 ((nw ft inC m).foldl (fwA D) (fq σ)) ∧ σ'.1 30 0 = sb (cz D) (lsR (D 2) g1 (σ.1 0 4) (limV (wyA (σ.1 29) k D ft inC m g (σ.1 0 4) delay 0) (wyA (σ.1 29) k D ft inC m g (σ.1 0 4) delay 2)) (fy ft inC m)).2.1 (sb (cz D) (nw ft inC m) (σ.1 30 0))) ∧ ∃ S', cS τ σ' k P m D (lsR (D 2) g1 (σ.1 0 4) (limV (wyA (σ.1 29) k D ft inC m g (σ.1 0 4) delay 0) (wyA (σ.1 29) k D ft inC m g (σ.1 0 4) delay 2)) (fy ft inC m)).1 (fun b => if b = 0 then q 0 ++ nw ft inC m else q 1 ++ (lsR (D 2) g1 (σ.1 0 4) (limV (wyA (σ.1 29) k D ft inC m g (σ.1 0 4) delay 0) (wyA (σ.1 29) k D ft inC m g (σ.1 0 4) delay 2)) (fy ft inC m)).2.1) S' ∧ S' 4 = sm (ez D) (lsR (D 2) g1 (σ.1 0 4) (limV (wyA (σ.1 29) k D ft inC m g (σ.1 0 4) delay 0) (wyA (σ.1 29) k D ft inC m g (σ.1 0 4) delay 2)) (fy ft inC m)).1 m ∧ S' 5 = S 5 ∧ S' 6 = nI g1 ∧ S' 7 = (lsR (D 2) g1 (σ.1 0 4) (limV (wyA (σ.1 29) k D ft inC m g (σ.1 0 4) delay 0) (wyA (σ.1 29) k D ft inC m g (σ.1 0 4) delay 2)) (fy ft inC m)).2.2) := by
            intro d hd
            obtain ⟨σ3, a1, a2, a3, a4⟩ := d_take (B := B) (X := X) (F := F) (τ := τ) (n := n) (c := c) (s := s) (σ := σ2) (σ.1 0 4 - D 2 g) d (σ.1 0 4)
            unfold q_AckBook_settle_76
            simp only [or_0_2, oi_0_4, t1 4, d_gI hpk 2 (by omega), at_g, ot_29, a1, y_cV]
            have hw : wyA (σ.1 29) k D ft inC m g (σ.1 0 4) delay = wyT (σ.1 29) (σ.1 0 4 - D 2 g) d (σ.1 0 4) := by
              unfold wyA
              rw [if_pos ⟨z1, z2⟩, hd]
            rw [hw]
            refine h100 σ3 _ (b3.way hk a2 a3) (u1.trans ⟨by rw [a2], fun o p0 _ _ _ _ _ => ⟨by rw [a2], fun f _ => by rw [a3 o p0]⟩⟩) (hlk.cong fun a _ => by rw [a2]) (fun f hf => ?_) (by rw [a3 30 (by omega), z30])
            rw [a4 f hf, w1]
          by_cases z3 : k = 2
          · rw [if_pos (show Int32.ofNat k = 2 by rw [z3]; rfl)]
            exact h76 _ (by rw [if_pos z3])
          · rw [if_neg (show ¬ Int32.ofNat k = 2 from fun z => z3 ((nI_eq (a := k) (b := 2) (by omega) (by decide)).mp z))]
            exact h76 _ (by rw [if_neg z3])
        · rw [if_neg z2, if_pos rfl]
          have hw : wyA (σ.1 29) k D ft inC m g (σ.1 0 4) delay = σ.1 29 := by
            unfold wyA
            rw [if_neg (fun z => z2 z.2)]
          rw [hw]
          exact h100 σ2 _ b3 u1 hlk (fun f _ => by rw [w1]) z30
      · simp only [if_neg z1, if_true]
        have hw : wyA (σ.1 29) k D ft inC m g (σ.1 0 4) delay = σ.1 29 := by
          unfold wyA
          rw [if_neg (fun z => z1 z.1)]
        rw [hw]
        exact h100 σ1 _ b3 u1 hlk (fun f _ => by rw [w1]) z30
  have hf : σ.1 (P g) 6 = ft g := (hS.1.2.2 g hg).2.2.1
  unfold f_AckBook_settle
  simp only [d_gI hpk 6 (by omega), hf]
  by_cases z : ft g = 0
  · rw [if_pos z]
    exact h12 1 (by rw [if_pos z])
  · rw [if_neg z]
    exact h12 0 (by rw [if_neg z])
end KD
