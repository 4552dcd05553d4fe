section AZ
variable {B X F : Nat} {τ : zK} {n c s : Nat} {σ : zS} {L H : Nat → Int64}
/-- the reference's cells of the ranges -/
def bQ (k : Nat) (σ : zS) (q : Nat × (Nat → Int64) × (Nat → Int64) × Int64) : Prop := σ.1 47 k = nI q.1 ∧ aR q.1 q.2.1 q.2.2.1 (65 * k) (σ.2.1 48) (σ.2.1 49) ∧ σ.2.1 50 k = q.2.2.2
theorem b_end (hF : 20000 ≤ F) {k R : Nat} (hk : k < 3) (hR : R ≤ 64) (hr : σ.1 47 k = nI R) (hA : aR R L H (65 * k) (σ.2.1 48) (σ.2.1 49)) (J : Option Nat → Int32 → Int64 → Int32 → zW → zR) : ∃ σ', q_AckBookModel_comeIn_207 F X J (some (B + 31)) (nI k) (o_w B X τ σ n c s) = some (.inl none, o_w B X τ σ' n c s) ∧ bG k σ σ' ∧ (∀ o f, o ≠ 47 → σ'.1 o f = σ.1 o f) ∧ bQ k σ' (R, L, H, σ.2.1 50 k) := by
  obtain ⟨σ', e1, e2, e3, e4, e5, e6⟩ := b_207 (B := B) (X := X) (F := F) (τ := τ) (n := n) (c := c) (s := s) hF hk (by omega) hr hA J
  rw [if_pos hR] at e4 e5 e6
  exact ⟨σ', e1, e2, e3, e4, e5, e6⟩
theorem b_above {y : Int64} (hF : 20000 ≤ F) {k r p : Nat} (hk : k < 3) (h64 : r ≤ 64) (hr : σ.1 47 k = nI r) (h0 : 0 < p) (hp : p ≤ r) (hA : aR r (rUpd L (p - 1) y) H (65 * k) (σ.2.1 48) (σ.2.1 49)) (J : Option Nat → Int32 → Int64 → Int32 → zW → zR) : ∃ σ', q_AckBookModel_comeIn_159 F X J (some (B + 31)) (nI k) y (nI (65 * k + (r - p))) (o_w B X τ σ n c s) = some (.inl none, o_w B X τ σ' n c s) ∧ bG k σ σ' ∧ (∀ o f, o ≠ 47 → σ'.1 o f = σ.1 o f) ∧ bQ k σ' (if p < r ∧ H p = y - 1 then (r - 1, rRem (rUpd L (p - 1) (L p)) (r - 1) p, rRem H (r - 1) p, σ.2.1 50 k) else (r, rUpd L (p - 1) y, H, σ.2.1 50 k)) := by
  obtain ⟨σ1, e1, e2, e3, e4, e5⟩ := b_159 (B := B) (X := X) (F := F) (τ := τ) (n := n) (c := c) (s := s) hF hk (by omega) hr hA J (i := r - p) (q := p - 1) (by omega) y
  rw [e1]
  rw [show p - 1 + 1 = p by omega] at e5
  by_cases b : p < r ∧ H p = y - 1
  · rw [if_pos b] at e5 ⊢
    obtain ⟨σ2, d1, d2, d3, d4⟩ := b_end (B := B) (X := X) (F := F) (τ := τ) (n := n) (c := c) (s := s) hF hk (by omega) e5.1 e5.2 J
    rw [e4] at d4
    refine ⟨σ2, d1, e2.trans d2, fun o f ho => (d3 o f ho).trans (e3 o f ho), d4.1, d4.2.1.cong fun j hj => ?_, d4.2.2⟩
    obtain ⟨r', rfl⟩ : ∃ r', r = r' + 1 := ⟨r - 1, by omega⟩
    exact ⟨r_both b.1 h0 j hj, r_both2 b.1 h0 j hj⟩
  · rw [if_neg b] at e5 ⊢
    obtain ⟨σ2, d1, d2, d3, d4⟩ := b_end (B := B) (X := X) (F := F) (τ := τ) (n := n) (c := c) (s := s) hF hk h64 e5.1 e5.2 J
    rw [e4] at d4
    exact ⟨σ2, d1, e2.trans d2, fun o f ho => (d3 o f ho).trans (e3 o f ho), d4⟩
theorem b_alone {y : Int64} (hF : 20000 ≤ F) {k r p : Nat} (hk : k < 3) (h64 : r ≤ 64) (hr : σ.1 47 k = nI (r + 1)) (hp : p ≤ r) (hA : aR (r + 1) (rIns L r p y) (rIns H r p y) (65 * k) (σ.2.1 48) (σ.2.1 49)) (J : Option Nat → Int32 → Int64 → Int32 → zW → zR) : ∃ σ', q_AckBookModel_comeIn_159 F X J (some (B + 31)) (nI k) y (nI (65 * k + (r - p))) (o_w B X τ σ n c s) = some (.inl none, o_w B X τ σ' n c s) ∧ bG k σ σ' ∧ (∀ o f, o ≠ 47 → σ'.1 o f = σ.1 o f) ∧ bQ k σ' (if p < r ∧ H p = y - 1 then (r, L, rUpd H p y, σ.2.1 50 k) else if r < 64 then (r + 1, rIns L r p y, rIns H r p y, σ.2.1 50 k) else (r, rIns L r p y, rIns H r p y, rIns H r p y r + 1)) := by
  obtain ⟨σ1, e1, e2, e3, e4, e5⟩ := b_159 (B := B) (X := X) (F := F) (τ := τ) (n := n) (c := c) (s := s) hF hk (by omega) hr hA J (i := r - p) (q := p) (by omega) y
  rw [e1]
  by_cases b : p < r ∧ H p = y - 1
  · have b' : p + 1 < r + 1 ∧ rIns H r p y (p + 1) = y - 1 := ⟨by omega, by rw [rIns_gt (by omega) (by omega)]; exact b.2⟩
    rw [if_pos b'] at e5
    rw [if_pos b]
    obtain ⟨σ2, d1, d2, d3, d4⟩ := b_end (B := B) (X := X) (F := F) (τ := τ) (n := n) (c := c) (s := s) hF hk (show r + 1 - 1 ≤ 64 by omega) e5.1 e5.2 J
    rw [e4] at d4
    refine ⟨σ2, d1, e2.trans d2, fun o f ho => (d3 o f ho).trans (e3 o f ho), d4.1, d4.2.1.cong fun j hj => ⟨r_below b.1 j hj, ?_⟩, d4.2.2⟩
    rw [rIns_eq (rfl : p = p)]
    exact r_below2 b.1 j hj
  · have b' : ¬ (p + 1 < r + 1 ∧ rIns H r p y (p + 1) = y - 1) := fun z => b ⟨by omega, by
      have z2 := z.2
      rw [rIns_gt (by omega) (by omega)] at z2
      exact z2⟩
    rw [if_neg b'] at e5
    rw [if_neg b]
    obtain ⟨σ2, d1, d2, d3, d4, d5, d6⟩ := b_207 (B := B) (X := X) (F := F) (τ := τ) (n := n) (c := c) (s := s) hF hk (show r + 1 ≤ 65 by omega) e5.1 e5.2 J
    rw [e4] at d6
    by_cases e : r < 64
    · rw [if_pos (show r + 1 ≤ 64 by omega)] at d4 d5 d6
      rw [if_pos e]
      exact ⟨σ2, d1, e2.trans d2, fun o f ho => (d3 o f ho).trans (e3 o f ho), d4, d5, d6⟩
    · rw [if_neg (show ¬ r + 1 ≤ 64 by omega)] at d4 d5 d6
      obtain rfl : r = 64 := by omega
      rw [if_neg e]
      exact ⟨σ2, d1, e2.trans d2, fun o f ho => (d3 o f ho).trans (e3 o f ho), d4, d5, d6⟩
theorem b_come (hF : 20000 ≤ F) {k r p : Nat} (hk : k < 3) (h64 : r ≤ 64) (hr : σ.1 47 k = nI r) (hA : aR r L H (65 * k) (σ.2.1 48) (σ.2.1 49)) (hp : p ≤ r) (y : Int64) (h1 : ∀ j, j < p → y < L j) (h2 : p < r → L p ≤ y) : ∃ σ', f_AckBookModel_comeIn F X (some (B + 31)) (nI k) y (o_w B X τ σ n c s) = some (.inl none, o_w B X τ σ' n c s) ∧ bG k σ σ' ∧ (∀ o f, o ≠ 47 → σ'.1 o f = σ.1 o f) ∧ bQ k σ' (rK r p y L H (σ.2.1 50 k)) := by
  unfold f_AckBookModel_comeIn
  simp (disch := omega) only [or_31_30, oln_47, hr, e_m65, nI_add]
  obtain ⟨a0, σ1, N', g1, g2, g3, g4, g5, g6, g7, g8, g9⟩ := b_comeJ (B := B) (X := X) (F := F) (τ := τ) (n := n) (c := c) (s := s) hk y F (65 * k + r) σ (by omega) (by omega) (by omega)
  obtain rfl := a_place hA hp h1 h2 g1 g2 g7 g8
  rw [g9]
  unfold q_AckBookModel_comeIn_74
  have c1 : (o_L (o_L σ1 48 (65 * k + (r - p)) y) 49 (65 * k + (r - p)) y).1 47 k = nI r := by rw [l11, l11, g4]; exact hr
  have c2 : (o_I (o_L (o_L σ1 48 (65 * k + (r - p)) y) 49 (65 * k + (r - p)) y) 47 k (nI (r + 1))).1 47 k = nI (r + 1) := by rw [i11, if_pos ⟨rfl, rfl⟩]
  simp (disch := omega) only [or_31_31, osn_48, or_31_32, osn_49, or_31_30, oln_47, c1, nI_1, osn_47, c2, e_m65, nI_add, e_le]
  have f48 : (o_I (o_L (o_L σ1 48 (65 * k + (r - p)) y) 49 (65 * k + (r - p)) y) 47 k (nI (r + 1))).2.1 48 = rUpd (rSh (σ.2.1 48) (65 * k + (r - p)) (65 * k + r)) (65 * k + (r - p)) y := by
    rw [i12, l_fun_ne (by decide), l_fun, g6 48 (Or.inl rfl)]
  have f49 : (o_I (o_L (o_L σ1 48 (65 * k + (r - p)) y) 49 (65 * k + (r - p)) y) 47 k (nI (r + 1))).2.1 49 = rUpd (rSh (σ.2.1 49) (65 * k + (r - p)) (65 * k + r)) (65 * k + (r - p)) y := by
    rw [i12, l_fun, l_fun_ne (by decide), g6 49 (Or.inr rfl)]
  have f50 : (o_I (o_L (o_L σ1 48 (65 * k + (r - p)) y) 49 (65 * k + (r - p)) y) 47 k (nI (r + 1))).2.1 50 = σ.2.1 50 := by
    rw [i12, l_fun_ne (by decide), l_fun_ne (by decide), g5]
  have fI : ∀ o f, o ≠ 47 → (o_I (o_L (o_L σ1 48 (65 * k + (r - p)) y) 49 (65 * k + (r - p)) y) 47 k (nI (r + 1))).1 o f = σ.1 o f := fun o f ho => by
    rw [i11, if_neg (fun z => ho z.1), l11, l11, g4]
  have fG : bG k σ (o_I (o_L (o_L σ1 48 (65 * k + (r - p)) y) 49 (65 * k + (r - p)) y) 47 k (nI (r + 1))) := ((g3.trans (bG.L (Or.inr ⟨Or.inl rfl, by omega, by omega⟩))).trans (bG.L (Or.inr ⟨Or.inr rfl, by omega, by omega⟩))).trans (bG.I (Or.inr ⟨rfl, Or.inl rfl⟩))
  generalize o_I (o_L (o_L σ1 48 (65 * k + (r - p)) y) 49 (65 * k + (r - p)) y) 47 k (nI (r + 1)) = σ2 at c2 f48 f49 f50 fI fG
  have hA2 : aR (r + 1) (rIns L r p y) (rIns H r p y) (65 * k) (σ2.2.1 48) (σ2.2.1 49) := aR.ins hA hp (fun j => by rw [f48]; rfl) (fun j => by rw [f49]; rfl)
  have alone : ¬ (0 < p ∧ L (p - 1) = y + 1) → ∃ σ', q_AckBookModel_comeIn_159 F X (j_AckBookModel_comeIn F X N') (some (B + 31)) (nI k) y (nI (65 * k + (r - p))) (o_w B X τ σ2 n c s) = some (.inl none, o_w B X τ σ' n c s) ∧ bG k σ σ' ∧ (∀ o f, o ≠ 47 → σ'.1 o f = σ.1 o f) ∧ bQ k σ' (rK r p y L H (σ.2.1 50 k)) := by
    intro a
    obtain ⟨σ3, d1, d2, d3, d4⟩ := b_alone (B := B) (X := X) (F := F) (τ := τ) (n := n) (c := c) (s := s) hF hk h64 c2 hp hA2 (j_AckBookModel_comeIn F X N')
    rw [f50] at d4
    refine ⟨σ3, d1, fG.trans d2, fun o f ho => (d3 o f ho).trans (fI o f ho), ?_⟩
    unfold rK
    rw [if_neg a]
    exact d4
  rcases Nat.eq_zero_or_pos p with q | q
  · rw [if_pos (by omega)]
    exact alone (by omega)
  · rw [if_neg (by omega)]
    have v1 := (hA2 (r - p + 1) (p - 1) (by omega)).1
    have v2 := (hA2 (r - p + 1) (p - 1) (by omega)).2
    rw [rIns_lt (by omega), show 65 * k + (r - p + 1) = 65 * k + (r - p) + 1 by omega] at v1 v2
    simp (disch := omega) only [oln_48, v1]
    by_cases a : L (p - 1) = y + 1
    · rw [if_pos ((lg_cmp_eq _ _).mpr a)]
      simp (disch := omega) only [or_31_32, oln_49, v2, osn_49, ot_31]
      obtain ⟨σ3, d1, d2, d3, d4, d5⟩ := b_take (B := B) (X := X) (F := F) (τ := τ) (n := n) (c := c) (s := s) (σ := o_L σ2 49 (65 * k + (r - p)) (H (p - 1))) (r := r) (a := 65 * k + (r - p) + 1) hk h64 hF c2 (by omega) (by omega)
      simp only [d1, y_cV]
      have hu : aR (r + 1) (rIns L r p y) (rUpd (rIns H r p y) p (H (p - 1))) (65 * k) (σ2.2.1 48) (rUpd (σ2.2.1 49) (65 * k + (r - p)) (H (p - 1))) := aR.upd (i := r - p) hA2 (by omega) (fun j => rfl)
      have ht : aR r (rRem (rIns L r p y) r (p - 1)) (rRem (rUpd (rIns H r p y) p (H (p - 1))) r (p - 1)) (65 * k) (σ3.2.1 48) (σ3.2.1 49) := by
        refine aR.take (i := r - p + 1) hu (by omega) (fun j => ?_) (fun j => ?_)
        · rw [d5 48 (Or.inl rfl), l_fun_ne (by decide)]
          rfl
        · rw [d5 49 (Or.inr rfl), l_fun]
          rfl
      have hA3 : aR r (rUpd L (p - 1) y) H (65 * k) (σ3.2.1 48) (σ3.2.1 49) := ht.cong fun j hj => ⟨r_above hp q j hj, r_above2 hp q j hj⟩
      have c3 : σ3.1 47 k = nI r := by rw [d3, i11, if_pos ⟨rfl, rfl⟩]
      obtain ⟨σ4, k1, k2, k3, k4⟩ := b_above (B := B) (X := X) (F := F) (τ := τ) (n := n) (c := c) (s := s) hF hk h64 c3 q hp hA3 (j_AckBookModel_comeIn F X N')
      rw [d4, l_fun_ne (by decide), f50] at k4
      refine ⟨σ4, k1, ((fG.trans (bG.L (Or.inr ⟨Or.inr rfl, by omega, by omega⟩))).trans d2).trans k2, fun o f ho => ?_, ?_⟩
      · rw [k3 o f ho, d3, i11, if_neg (fun z => ho z.1), l11]
        exact fI o f ho
      · unfold rK
        rw [if_pos ⟨q, a⟩]
        exact k4
    · rw [if_neg (fun z => a ((lg_cmp_eq _ _).mp z))]
      exact alone (fun z => a z.2)
/-- came: what is refused first -/
theorem b_greatest {k r : Nat} (hk : k < 3) (h64 : r ≤ 64) (hr : σ.1 47 k = nI r) (hA : aR r L H (65 * k) (σ.2.1 48) (σ.2.1 49)) : f_AckBookModel_greatest F X (some (B + 31)) (nI k) (o_w B X τ σ n c s) = some (.inl (some (.long (if r = 0 then -1 else H 0))), o_w B X τ σ n c s) := by
  unfold f_AckBookModel_greatest
  simp (disch := omega) only [or_31_30, oln_47, hr]
  by_cases h0 : r = 0
  · subst h0
    rw [if_pos (show nI 0 = 0 from rfl), if_pos rfl]
  · rw [if_neg (nI_ne0 (by omega) (by omega)), if_neg h0]
    simp (disch := omega) only [or_31_32, e_m65, nI_add, e_m1, oln_49]
    have z := (hA (r - 1) 0 (by omega)).2
    rw [show 65 * k + r - 1 = 65 * k + (r - 1) by omega, z]
theorem b_isOld (hF : 20000 ≤ F) {k r p : Nat} (hk : k < 3) (h64 : r ≤ 64) (hr : σ.1 47 k = nI r) (hS : aS r L H) (hA : aR r L H (65 * k) (σ.2.1 48) (σ.2.1 49)) (hp : p ≤ r) (y : Int64) (h1 : ∀ j, j < p → y < L j) (h2 : p < r → L p ≤ y) : ∃ b : Bool, f_AckBookModel_isOld F X (some (B + 31)) (nI k) y (o_w B X τ σ n c s) = some (.inl (some (.int (if b then 1 else 0))), o_w B X τ σ n c s) ∧ (b = true ↔ (y < σ.2.1 50 k ∨ (p < r ∧ y ≤ H p))) := by
  unfold f_AckBookModel_isOld
  simp (disch := omega) only [or_31_33, oln_50, e_m65, lg_cmp_ge]
  have hj := fun b => b_oldJ (B := B) (X := X) (F := F) (τ := τ) (n := n) (c := c) (s := s) hk h64 hr y F (65 * k) b (Nat.le_refl _) (by omega) (by omega)
  by_cases e : σ.2.1 50 k ≤ y
  · rw [if_pos e]
    obtain ⟨b, q1, q2⟩ := hj false
    refine ⟨b, q1, q2.trans ⟨fun z => Or.inr ((a_old hS hA hp h1 h2).mpr ?_), fun z => Or.inr ((a_old hS hA hp h1 h2).mp ?_)⟩⟩
    · rcases z with z | z
      · cases z
      · exact z
    · exact z.resolve_left (Int64.not_lt.mpr e)
  · rw [if_neg e]
    obtain ⟨b, q1, q2⟩ := hj true
    exact ⟨b, q1, ⟨fun _ => Or.inl (Int64.not_le.mp e), fun _ => q2.mpr (Or.inl rfl)⟩⟩
theorem b_came (hF : 20000 ≤ F) {k r p : Nat} (hk : k < 3) (h64 : r ≤ 64) (hr : σ.1 47 k = nI r) (hS : aS r L H) (hA : aR r L H (65 * k) (σ.2.1 48) (σ.2.1 49)) (hp : p ≤ r) (y : Int64) (h1 : ∀ j, j < p → y < L j) (h2 : p < r → L p ≤ y) (x : Int32) (y0 : ¬ y < 0) (y1 : y ≤ 4611686018427387903) (hd : σ.1 39 k = 0) : ((y < σ.2.1 50 k ∨ (p < r ∧ y ≤ H p)) → f_AckBookModel_came F X (some (B + 31)) (nI k) y x (o_w B X τ σ n c s) = some (.inl (some (.int 0)), o_w B X τ (o_I (o_I σ 31 0 0) 31 0 0) n c s)) ∧ (¬ (y < σ.2.1 50 k ∨ (p < r ∧ y ≤ H p)) → ∃ σ', f_AckBookModel_came F X (some (B + 31)) (nI k) y x (o_w B X τ σ n c s) = some (.inl (some (.int 1)), o_w B X τ σ' n c s) ∧ bG k σ σ' ∧ σ'.1 31 0 = 0 ∧ bQ k σ' (rK r p y L H (σ.2.1 50 k)) ∧ aT x (σ.1 31 1) y (if r = 0 then -1 else H 0) (σ.1 52 k) (σ.1 53 k) (σ.1 54 k) (σ.1 51 k) (σ'.1 52 k) (σ'.1 53 k) (σ'.1 54 k) (σ'.1 51 k)) := by
  have hd0 : (o_I σ 31 0 0).1 39 k = 0 := by rw [i11, if_neg (by omega)]; exact hd
  have e0 : ∀ o f, o ≠ 31 → (o_I (o_I σ 31 0 0) 31 0 0).1 o f = σ.1 o f := fun o f ho => by rw [i11, if_neg (fun z => ho z.1), i11, if_neg (fun z => ho z.1)]
  have e31 : (o_I (o_I σ 31 0 0) 31 0 0).1 31 1 = σ.1 31 1 := by simp [i11]
  have e30 : (o_I (o_I σ 31 0 0) 31 0 0).1 31 0 = 0 := by simp [i11]
  have eL : (o_I (o_I σ 31 0 0) 31 0 0).2 = σ.2 := rfl
  have g0 : bG k σ (o_I (o_I σ 31 0 0) 31 0 0) := (bG.I (Or.inl ⟨rfl, rfl⟩)).trans (bG.I (Or.inl ⟨rfl, rfl⟩))
  have key : f_AckBookModel_came F X (some (B + 31)) (nI k) y x (o_w B X τ σ n c s) = z_cI (f_AckBookModel_isOld F X (some (B + 31)) (nI k) y (o_w B X τ (o_I (o_I σ 31 0 0) 31 0 0) n c s)) fun v18 w =>
      if v18 = 0 then (
        z_this w 10 (some (B + 31)) <|
        z_cL (f_AckBookModel_greatest F X (some (B + 31)) (nI k) w) fun v20 w =>
        if (lg_cmp y v20) ≤ 0 then (
          q_AckBookModel_came_83 F X (some (B + 31)) (nI k) y x v20 w)
        else (
          z_getR w 10 34 (some (B + 31)) fun r21 =>
          z_getI w 10 1 (some (B + 31)) fun v22 =>
          z_stI w r21 (nI k) v22 fun w =>
          q_AckBookModel_came_83 F X (some (B + 31)) (nI k) y x v20 w))
      else (
        some (.inl (some (.int (0 : Int32))), w)) := by
    unfold f_AckBookModel_came
    simp only [s_noSpace, z_cI, lg_cmp_lt, lg_cmp_le]
    rw [if_neg (e_spk hk), if_pos rfl, if_neg y0, if_pos y1]
    unfold q_AckBookModel_came_27
    simp (disch := omega) only [ot_31, s_fails 0 1 (Or.inl rfl), z_cI, if_true, or_31_11, oln_39, hd0, s_fails 0 2 (Or.inl rfl), lg_cmp_le]
  generalize o_I (o_I σ 31 0 0) 31 0 0 = σ1 at e0 e31 e30 eL g0 key
  have hr1 : σ1.1 47 k = nI r := (e0 47 k (by decide)).trans hr
  have hA1 : aR r L H (65 * k) (σ1.2.1 48) (σ1.2.1 49) := by rw [eL]; exact hA
  obtain ⟨b, ho1, ho2⟩ := b_isOld (B := B) (X := X) (F := F) (τ := τ) (n := n) (c := c) (s := s) hF hk h64 hr1 hS hA1 hp y h1 h2
  rw [eL] at ho2
  rw [key, ho1]
  refine ⟨fun ho => ?_, fun ho => ?_⟩
  · have hb := ho2.mpr ho
    subst hb
    rfl
  · have hb : b = false := by
      cases b with
      | false => rfl
      | true => exact absurd (ho2.mp rfl) ho
    subst hb
    simp only [y_cI]
    rw [if_pos (by rfl)]
    have hgr := b_greatest (B := B) (X := X) (F := F) (τ := τ) (n := n) (c := c) (s := s) hk h64 hr1 hA1
    simp only [ot_31, hgr, y_cL, lg_cmp_le]
    generalize (if r = 0 then -1 else H 0) = g
    have h83 : ∀ σ2 : zS, σ2.2 = σ1.2 → (∀ o f, o ≠ 51 → σ2.1 o f = σ1.1 o f) → bG k σ σ2 → σ2.1 51 k = (if g < y then σ.1 31 1 else σ.1 51 k) → ∃ σ', q_AckBookModel_came_83 F X (some (B + 31)) (nI k) y x g (o_w B X τ σ2 n c s) = some (.inl (some (.int 1)), o_w B X τ σ' n c s) ∧ bG k σ σ' ∧ σ'.1 31 0 = 0 ∧ bQ k σ' (rK r p y L H (σ.2.1 50 k)) ∧ aT x (σ.1 31 1) y g (σ.1 52 k) (σ.1 53 k) (σ.1 54 k) (σ.1 51 k) (σ'.1 52 k) (σ'.1 53 k) (σ'.1 54 k) (σ'.1 51 k) := by
      intro σ2 w1 w2 w3 w4
      obtain ⟨σ3, d1, d2, d3, d4⟩ := b_come (B := B) (X := X) (F := F) (τ := τ) (n := n) (c := c) (s := s) (σ := σ2) (L := L) (H := H) hF hk h64 ((w2 47 k (by decide)).trans hr1) (by rw [w1]; exact hA1) hp y h1 h2
      rw [w1, eL] at d4
      have z : ∀ o f, o ≠ 47 → o ≠ 51 → o ≠ 31 → σ3.1 o f = σ.1 o f := fun o f q1 q2 q3 => (d3 o f q1).trans ((w2 o f q2).trans (e0 o f q3))
      have z31 : σ3.1 31 1 = σ.1 31 1 := (d3 31 1 (by decide)).trans ((w2 31 1 (by decide)).trans e31)
      have z30 : σ3.1 31 0 = 0 := (d3 31 0 (by decide)).trans ((w2 31 0 (by decide)).trans e30)
      have z51 : σ3.1 51 k = (if g < y then σ.1 31 1 else σ.1 51 k) := (d3 51 k (by decide)).trans w4
      have z52 := z 52 k (by decide) (by decide) (by decide)
      have z53 := z 53 k (by decide) (by decide) (by decide)
      have z54 := z 54 k (by decide) (by decide) (by decide)
      unfold q_AckBookModel_came_83 aT
      simp (disch := omega) only [ot_31, d1, y_cV]
      by_cases ex : x = 0
      · simp only [if_pos ex]
        exact ⟨σ3, rfl, w3.trans d2, z30, d4, z52, z53, z54, z51⟩
      · simp only [if_neg ex]
        have h115 : ∀ σ4 : zS, σ4.2 = σ3.2 → (∀ o f, o ≠ 53 → σ4.1 o f = σ3.1 o f) → bG k σ3 σ4 → ∃ σ', q_AckBookModel_came_115 F X (some (B + 31)) (nI k) y g (o_w B X τ σ4 n c s) = some (.inl (some (.int 1)), o_w B X τ σ' n c s) ∧ bG k σ3 σ' ∧ σ'.2 = σ3.2 ∧ (∀ o f, o ≠ 52 → o ≠ 53 → o ≠ 54 → σ'.1 o f = σ3.1 o f) ∧ σ'.1 52 k = σ.1 52 k + 1 ∧ σ'.1 53 k = σ4.1 53 k ∧ σ'.1 54 k = (if σ.1 54 k = 0 ∧ y = g + 1 then 0 else 1) := by
          intro σ4 u1 u2 u3
          have u52 : σ4.1 52 k = σ.1 52 k := (u2 52 k (by decide)).trans z52
          have u54 : (o_I σ4 52 k (σ.1 52 k + 1)).1 54 k = σ.1 54 k := by rw [i11, if_neg (fun z => absurd z.1 (by decide))]; exact (u2 54 k (by decide)).trans z54
          unfold q_AckBookModel_came_115
          simp (disch := omega) only [or_31_35, oln_52, u52, osn_52, or_31_37, oln_54, u54, osz0_54, osz1_54, lg_cmp_eq]
          have fin : ∀ b : Int32, ∃ σ', (some (.inl (some (.int 1)), o_w B X τ (o_I (o_I σ4 52 k (σ.1 52 k + 1)) 54 k b) n c s) : zR) = some (.inl (some (.int 1)), o_w B X τ σ' n c s) ∧ bG k σ3 σ' ∧ σ'.2 = σ3.2 ∧ (∀ o f, o ≠ 52 → o ≠ 53 → o ≠ 54 → σ'.1 o f = σ3.1 o f) ∧ σ'.1 52 k = σ.1 52 k + 1 ∧ σ'.1 53 k = σ4.1 53 k ∧ σ'.1 54 k = b := fun b => ⟨_, rfl, u3.trans ((bG.I (Or.inr ⟨rfl, by omega⟩)).trans (bG.I (Or.inr ⟨rfl, by omega⟩))), u1, fun o f q1 q2 q3 => by rw [i11, if_neg (fun z => q3 z.1), i11, if_neg (fun z => q1 z.1)]; exact u2 o f q2, by simp [i11], by simp [i11], by simp [i11]⟩
          by_cases a1 : σ.1 54 k = 0
          · rw [if_pos a1]
            by_cases a2 : y = g + 1
            · rw [if_pos a2, if_pos ⟨a1, a2⟩]
              exact fin 0
            · rw [if_neg a2, if_neg (fun z => a2 z.2)]
              exact fin 1
          · rw [if_neg a1, if_neg (fun z => a1 z.1)]
            exact fin 1
        simp (disch := omega) only [or_31_35, oln_52, z52, or_31_36, oi_31_1, z31, osn_53]
        have wrap : ∀ σ4 : zS, σ4.1 53 k = (if σ.1 52 k = 0 then σ.1 31 1 else σ.1 53 k) → (∃ σ', q_AckBookModel_came_115 F X (some (B + 31)) (nI k) y g (o_w B X τ σ4 n c s) = some (.inl (some (.int 1)), o_w B X τ σ' n c s) ∧ bG k σ3 σ' ∧ σ'.2 = σ3.2 ∧ (∀ o f, o ≠ 52 → o ≠ 53 → o ≠ 54 → σ'.1 o f = σ3.1 o f) ∧ σ'.1 52 k = σ.1 52 k + 1 ∧ σ'.1 53 k = σ4.1 53 k ∧ σ'.1 54 k = (if σ.1 54 k = 0 ∧ y = g + 1 then 0 else 1)) → ∃ σ', q_AckBookModel_came_115 F X (some (B + 31)) (nI k) y g (o_w B X τ σ4 n c s) = some (.inl (some (.int 1)), o_w B X τ σ' n c s) ∧ bG k σ σ' ∧ σ'.1 31 0 = 0 ∧ bQ k σ' (rK r p y L H (σ.2.1 50 k)) ∧ σ'.1 52 k = σ.1 52 k + 1 ∧ σ'.1 53 k = (if σ.1 52 k = 0 then σ.1 31 1 else σ.1 53 k) ∧ σ'.1 54 k = (if σ.1 54 k = 0 ∧ y = g + 1 then 0 else 1) ∧ σ'.1 51 k = (if g < y then σ.1 31 1 else σ.1 51 k) := by
          rintro σ4 u ⟨σ5, p1, p2, p3, p4, p5, p6, p7⟩
          exact ⟨σ5, p1, (w3.trans d2).trans p2, (p4 31 0 (by decide) (by decide) (by decide)).trans z30, ⟨(p4 47 k (by decide) (by decide) (by decide)).trans d4.1, by rw [p3]; exact d4.2.1, by rw [p3]; exact d4.2.2⟩, p5, p6.trans u, p7, (p4 51 k (by decide) (by decide) (by decide)).trans z51⟩
        by_cases a3 : σ.1 52 k = 0
        · rw [if_pos a3]
          exact wrap _ (by rw [if_pos a3, i11, if_pos ⟨rfl, rfl⟩]) (h115 _ rfl (fun o f ho => by rw [i11, if_neg (fun z => ho z.1)]) (bG.I (Or.inr ⟨rfl, by omega⟩)))
        · rw [if_neg a3]
          exact wrap _ (by rw [if_neg a3]; exact z53) (h115 _ rfl (fun o f ho => rfl) (bG.refl k σ3))
    by_cases e : y ≤ g
    · rw [if_pos e]
      exact h83 σ1 rfl (fun _ _ _ => rfl) g0 (by rw [if_neg (Int64.not_lt.mpr e)]; exact e0 51 k (by decide))
    · rw [if_neg e]
      simp (disch := omega) only [or_31_34, oi_31_1, e31, osn_51]
      exact h83 _ rfl (fun o f ho => by rw [i11, if_neg (fun z => ho z.1)]) (g0.trans (bG.I (Or.inr ⟨rfl, by omega⟩))) (by rw [if_pos (Int64.not_le.mp e), i11, if_pos ⟨rfl, rfl⟩])
end AZ
