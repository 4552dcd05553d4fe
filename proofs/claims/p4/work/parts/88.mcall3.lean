section PM7
variable {B X F : Nat} {τ : zK} {n c s : Nat} {T : Nat} {σ : zS}
theorem mM.tl {T : Nat} {σ : zS} {m g : Nat → Nat} {W l t : Nat} (h : mJ T m g σ) (hW : mW W σ) (hle : W ≤ 12000 + 1200 * (g 0 + g 2 + g 4)) (ht : t ≤ g l) : mM T (o_I σ 44 l (nI t)) := by
  obtain ⟨h1, h2, h3, h4, h5, h6, h7, h8, h9⟩ := h
  have e : ∀ a b, a ≠ 44 → (o_I σ 44 l (nI t)).1 a b = σ.1 a b := fun a b ha => by rw [i11, if_neg (fun q => ha q.1)]
  refine ⟨m, g, W, ⟨fun k hk => ?_, fun k hk => ?_, ⟨fun l hl => ?_, fun k hk => ?_⟩, fun l hl i hi => ?_, fun l' hl => ?_, fun k hk => ?_, fun k hk i hi => ?_, ?_, fun k hk => ?_⟩, ?_, hle⟩
  · rw [e _ _ (by decide)]; exact h1 k hk
  · rw [e _ _ (by decide)]; exact h2 k hk
  · rw [e _ _ (by decide)]; exact h3.1 l hl
  · rw [show (fun i => (o_I σ 44 l (nI t)).1 35 (4096 * k + i)) = fun i => σ.1 35 (4096 * k + i) from funext fun i => e _ _ (by decide)]; exact h3.2 k hk
  · rw [e _ _ (by decide)]; exact h4 l hl i hi
  · rw [i11]
    by_cases hq : l' = l
    · subst hq; rw [if_pos ⟨rfl, rfl⟩]; exact ⟨t, rfl, ht⟩
    · rw [if_neg (fun q => hq q.2)]; exact h5 l' hl
  · rw [e _ _ (by decide)]; exact h6 k hk
  · rw [e _ _ (by decide)]; exact h7 k hk i hi
  · obtain ⟨sp, q⟩ := h8
    exact ⟨sp, by rw [e _ _ (by decide)]; exact q⟩
  · rw [e _ _ (by decide)]; exact h9 k hk
  · unfold mW; rw [e _ _ (by decide)]; exact hW
theorem mM.dd {T : Nat} {σ : zS} (h : mM T σ) (k0 : Nat) : mM T (o_I σ 39 k0 1) := by
  obtain ⟨m, g, W, ⟨h1, h2, h3, h4, h5, h6, h7, h8, h9⟩, hW, hle⟩ := h
  have e : ∀ a b, a ≠ 39 → (o_I σ 39 k0 1).1 a b = σ.1 a b := fun a b ha => by rw [i11, if_neg (fun q => ha q.1)]
  refine ⟨m, g, W, ⟨fun k hk => ?_, fun k hk => ?_, ⟨fun l hl => ?_, fun k hk => ?_⟩, fun l hl i hi => ?_, fun l' hl => ?_, fun k hk => ?_, fun k hk i hi => ?_, ?_, fun k hk => ?_⟩, ?_, hle⟩
  · rw [e _ _ (by decide)]; exact h1 k hk
  · rw [i11]
    split
    · exact Or.inr rfl
    · exact h2 k hk
  · rw [e _ _ (by decide)]; exact h3.1 l hl
  · rw [show (fun i => (o_I σ 39 k0 1).1 35 (4096 * k + i)) = fun i => σ.1 35 (4096 * k + i) from funext fun i => e _ _ (by decide)]; exact h3.2 k hk
  · rw [e _ _ (by decide)]; exact h4 l hl i hi
  · rw [e _ _ (by decide)]; exact h5 l' hl
  · rw [e _ _ (by decide)]; exact h6 k hk
  · rw [e _ _ (by decide)]; exact h7 k hk i hi
  · obtain ⟨sp, q⟩ := h8
    exact ⟨sp, by rw [e _ _ (by decide)]; exact q⟩
  · rw [e _ _ (by decide)]; exact h9 k hk
  · unfold mW; rw [e _ _ (by decide)]; exact hW
theorem mM.gb {T : Nat} {σ : zS} {m g : Nat → Nat} (h : mJ T m g σ) {l : Nat} (hl : l < 6) : g l ≤ T := by
  have a1 := h.2.2.1.2 (l / 2) (by omega)
  have a2 := (h.1 (l / 2) (by omega)).2
  rcases (show l = 2 * (l / 2) ∨ l = 2 * (l / 2) + 1 from by omega) with q | q
  · rw [q]; omega
  · rw [q]; omega
theorem u_next (h : mM T σ) (hT : T ≤ 4096) (x y : Int32) : m_qI B X T τ n c s σ (f_AckBookModel_next F X (some (B + 31)) x y (o_w B X τ σ n c s)) := by
  unfold f_AckBookModel_next
  simp only [s_noSpace, z_cI, ot_31]
  rcases e_sp x with hx | ⟨k, hk, rfl⟩
  · simp only [if_pos hx, s_fails 1 1 (Or.inr rfl), z_cI]
    rw [if_neg (by decide)]
    exact m_qI.w h 0 _ _ (by decide)
  · have h0 : mM T (o_I σ 31 0 0) := h.w (by decide)
    have b0 : mX σ (o_I σ 31 0 0) := mX.I (by omega)
    have c0 : mU σ (o_I σ 31 0 0) := mU.I ⟨by decide, by decide, fun _ => by decide⟩
    have h1 : ∀ b : Nat, b < 2 → m_qI B X T τ n c s (o_I σ 31 0 0) (q_AckBookModel_next_26 F X (some (B + 31)) (nI (2 * k)) (nI b) (o_w B X τ (o_I σ 31 0 0) n c s)) := by
      intro b hb
      obtain ⟨m, g, W, q1, q2, q3⟩ := id h0
      obtain ⟨t, ht, ht2⟩ := q1.2.2.2.2.1 (2 * k + b) (by omega)
      have hg := q1.2.2.1.1 (2 * k + b) (by omega)
      have hgb := mM.gb q1 (l := 2 * k + b) (by omega)
      simp (disch := omega) only [q_AckBookModel_next_26, nI_add, or_31_17, oln_44, or_31_16, oln_43, ht, hg, e_eq]
      refine m_qI.ite (fun _ => ⟨_, _, rfl, h0, mX.refl _, mU.refl _⟩) (fun hne => ?_)
      have ht' : (o_I (o_I σ 31 0 0) 44 (2 * k + b) (nI (t + 1))).1 44 (2 * k + b) = nI (t + 1) := by rw [i11, if_pos ⟨rfl, rfl⟩]
      simp (disch := omega) only [nI_1, osn_44, or_31_15, or_31_17, oln_44, ht', e_mu, nI_add, e_m1, oln_42]
      exact ⟨_, _, rfl, mM.tl q1 q2 q3 (by omega), mX.I (by omega), mU.I (by simp)⟩
    simp only [if_neg (e_spk hk), s_fails 0 1 (Or.inl rfl), z_cI, if_true, e_m2]
    exact m_qI.ite (fun _ => (h1 0 (by omega)).of b0 c0) (fun _ => (h1 1 (by omega)).of b0 c0)
/-- as mM, whatever the number of ranges of space k -/
def mN (T k : Nat) (σ : zS) : Prop := mM T (o_I σ 47 k (nI 0))
theorem mM.nn {k : Nat} (h : mM T σ) : mN T k σ := h.r (by decide)
theorem mN.l {k o f : Nat} {x : Int64} (h : mN T k σ) (ho : o ≠ 46) : mN T k (o_L σ o f x) := mM.l (σ := o_I σ 47 k (nI 0)) h ho
theorem mN.i {k : Nat} {x : Int32} (h : mN T k σ) : mN T k (o_I σ 47 k x) := by
  have e : o_I (o_I σ 47 k x) 47 k (nI 0) = o_I σ 47 k (nI 0) := by
    refine Prod.ext (funext fun a => funext fun b => ?_) rfl
    rw [i11, i11, i11]
    by_cases hq : a = 47 ∧ b = k
    · rw [if_pos hq, if_pos hq]
    · rw [if_neg hq, if_neg hq, if_neg hq]
  unfold mN
  rw [e]
  exact h
theorem mN.m {k r : Nat} (h : mN T k σ) (hr : σ.1 47 k = nI r) (h64 : r ≤ 64) : mM T σ := by
  have e : o_I (o_I σ 47 k (nI 0)) 47 k (nI r) = σ := by
    refine Prod.ext (funext fun a => funext fun b => ?_) rfl
    rw [i11, i11]
    by_cases hq : a = 47 ∧ b = k
    · rw [if_pos hq, hq.1, hq.2, hr]
    · rw [if_neg hq, if_neg hq]
  rw [← e]
  exact h.r h64
def m_n (B X T : Nat) (τ : zK) (n c s k r : Nat) (σ : zS) (res : zR) : Prop := ∃ σ', res = some (.inl none, o_w B X τ σ' n c s) ∧ mN T k σ' ∧ σ'.1 47 k = nI r ∧ mX σ σ' ∧ mU σ σ'
theorem m_n.of {k r : Nat} {σ1 : zS} {res : zR} (h : m_n B X T τ n c s k r σ1 res) (hX : mX σ σ1) (hU : mU σ σ1) : m_n B X T τ n c s k r σ res := by
  obtain ⟨σ', h1, h2, h3, h4, h5⟩ := h
  exact ⟨σ', h1, h2, h3, hX.trans h4, hU.trans h5⟩
theorem s_takeOutJ {k r : Nat} (hk : k < 3) (hr : r ≤ 64) : ∀ (N a : Nat) (σ : zS), mN T k σ → σ.1 47 k = nI r → 65 * k ≤ a → a ≤ 65 * k + 65 → 66 - (a - 65 * k) < N → m_n B X T τ n c s k r σ (j_AckBookModel_takeOut F X N (some (B + 31)) (nI k) (nI a) (o_w B X τ σ n c s)) := by
  intro N
  induction N with
  | zero => exact fun _ _ _ _ _ _ h => absurd h (Nat.not_lt_zero _)
  | succ N ih =>
    intro a σ hN hr1 h1 h2 hf
    rw [j_AckBookModel_takeOut]
    simp (disch := omega) only [or_31_30, oln_47, hr1, e_m65, nI_add, e_le]
    by_cases h : 65 * k + r ≤ a
    · rw [if_pos h]
      exact ⟨σ, rfl, hN, hr1, mX.refl σ, mU.refl σ⟩
    · rw [if_neg h]
      simp (disch := omega) only [or_31_31, or_31_32, nI_1, oln_48, osn_48, oln_49, osn_49]
      exact m_n.of (ih (a + 1) _ ((hN.l (by decide)).l (by decide)) hr1 (by omega) (by omega) (by omega)) ((mX.L (by omega)).trans (mX.L (by omega))) ((mU.L (by decide)).trans (mU.L (by decide)))
theorem s_takeOut {k r a : Nat} (hk : k < 3) (hr : r ≤ 64) (hF : 20000 ≤ F) (hN : mN T k σ) (hr1 : σ.1 47 k = nI (r + 1)) (h1 : 65 * k ≤ a) (h2 : a ≤ 65 * k + 65) : m_n B X T τ n c s k r σ (f_AckBookModel_takeOut F X (some (B + 31)) (nI k) (nI a) (o_w B X τ σ n c s)) := by
  unfold f_AckBookModel_takeOut
  simp (disch := omega) only [or_31_30, oln_47, hr1, nI_pred, osn_47]
  exact m_n.of (s_takeOutJ hk hr F a _ hN.i (by rw [i11, if_pos ⟨rfl, rfl⟩]) h1 h2 (by omega)) (mX.I (by omega)) (mU.I (by simp))
theorem s_207 {k r : Nat} {J : Option Nat → Int32 → Int64 → Int32 → zW → zR} (hk : k < 3) (hr : r ≤ 65) (hF : 20000 ≤ F) (hN : mN T k σ) (hr1 : σ.1 47 k = nI r) : m_q B X T τ n c s σ (q_AckBookModel_comeIn_207 F X J (some (B + 31)) (nI k) (o_w B X τ σ n c s)) := by
  unfold q_AckBookModel_comeIn_207
  simp (disch := omega) only [or_31_30, oln_47, hr1]
  by_cases h : r ≤ 64
  · rw [if_pos (show nI r ≤ (64 : Int32) from nI_le (b := 64) h (by decide))]
    exact ⟨σ, rfl, hN.m hr1 h, mX.refl σ, mU.refl σ⟩
  · rw [if_neg (show ¬ nI r ≤ (64 : Int32) from nI_ge (a := 64) (by omega) (by omega))]
    have hr5 : r = 64 + 1 := by omega
    subst hr5
    simp (disch := omega) only [or_31_33, or_31_32, e_m65, oln_49, osn_50, ot_31]
    obtain ⟨σ1, q1, q2, q3, q4, q5⟩ := s_takeOut (B := B) (X := X) (τ := τ) (n := n) (c := c) (s := s) (σ := o_L σ 50 k (σ.2.1 49 (65 * k) + 1)) (r := 64) (a := 65 * k) hk (by omega) hF (hN.l (by decide)) hr1 (by omega) (by omega)
    simp only [q1, z_cV]
    exact ⟨σ1, rfl, q2.m q3 (by omega), (mX.L (by omega)).trans q4, (mU.L (by decide)).trans q5⟩
theorem s_159 {k r a : Nat} {J : Option Nat → Int32 → Int64 → Int32 → zW → zR} (hk : k < 3) (hr : r ≤ 65) (hr0 : 1 ≤ r) (hF : 20000 ≤ F) (hN : mN T k σ) (hr1 : σ.1 47 k = nI r) (y : Int64) (h1 : 65 * k ≤ a) (h2 : a ≤ 65 * k + 64) : m_q B X T τ n c s σ (q_AckBookModel_comeIn_159 F X J (some (B + 31)) (nI k) y (nI a) (o_w B X τ σ n c s)) := by
  unfold q_AckBookModel_comeIn_159
  simp (disch := omega) only [e_m65, e_le]
  refine m_q.ite (fun _ => s_207 hk hr hF hN hr1) (fun h => ?_)
  simp (disch := omega) only [or_31_32, e_m1, oln_49, osn_49, ot_31]
  refine m_q.ite (fun _ => ?_) (fun _ => s_207 hk hr hF hN hr1)
  obtain ⟨r', rfl⟩ : ∃ r', r = r' + 1 := ⟨r - 1, by omega⟩
  obtain ⟨σ1, q1, q2, q3, q4, q5⟩ := s_takeOut (B := B) (X := X) (τ := τ) (n := n) (c := c) (s := s) (σ := o_L σ 49 (a - 1) (σ.2.1 49 a)) (r := r') (a := a) hk (by omega) hF (hN.l (by decide)) hr1 (by omega) (by omega)
  simp only [q1, z_cV]
  obtain ⟨σ2, p1, p2, p3, p4⟩ := s_207 (B := B) (X := X) (τ := τ) (n := n) (c := c) (s := s) (J := J) hk (show r' ≤ 65 by omega) hF q2 q3
  exact ⟨σ2, p1, p2, ((mX.L (by omega)).trans q4).trans p3, ((mU.L (by decide)).trans q5).trans p4⟩
theorem s_74 {k r a : Nat} {J : Option Nat → Int32 → Int64 → Int32 → zW → zR} (hk : k < 3) (hr : r ≤ 64) (hF : 20000 ≤ F) (hN : mN T k σ) (hr1 : σ.1 47 k = nI r) (y : Int64) (h1 : 65 * k ≤ a) (h2 : a ≤ 65 * k + 64) : m_q B X T τ n c s σ (q_AckBookModel_comeIn_74 F X J (some (B + 31)) (nI k) y (nI a) (o_w B X τ σ n c s)) := by
  unfold q_AckBookModel_comeIn_74
  have hr2 : (o_L (o_L σ 48 a y) 49 a y).1 47 k = nI r := hr1
  simp (disch := omega) only [or_31_31, osn_48, or_31_32, osn_49, or_31_30, oln_47, hr2, nI_1, osn_47]
  have hN2 : mN T k (o_I (o_L (o_L σ 48 a y) 49 a y) 47 k (nI (r + 1))) := ((hN.l (by decide)).l (by decide)).i
  have hX2 : mX σ (o_I (o_L (o_L σ 48 a y) 49 a y) 47 k (nI (r + 1))) := ((mX.L (by omega)).trans (mX.L (by omega))).trans (mX.I (by omega))
  have hU2 : mU σ (o_I (o_L (o_L σ 48 a y) 49 a y) 47 k (nI (r + 1))) := ((mU.L (by decide)).trans (mU.L (by decide))).trans (mU.I (by simp))
  have hr3 : (o_I (o_L (o_L σ 48 a y) 49 a y) 47 k (nI (r + 1))).1 47 k = nI (r + 1) := by rw [i11, if_pos ⟨rfl, rfl⟩]
  generalize o_I (o_L (o_L σ 48 a y) 49 a y) 47 k (nI (r + 1)) = σ2 at hN2 hX2 hU2 hr3
  simp (disch := omega) only [hr3, e_m65, nI_add, e_le, oln_48, ot_31, oln_49, osn_49]
  have fin := fun (σ3 : zS) (r3 : Nat) (hN3 : mN T k σ3) (hr4 : σ3.1 47 k = nI r3) (hr5 : r3 ≤ 65) (hr6 : 1 ≤ r3) => s_159 (B := B) (X := X) (τ := τ) (n := n) (c := c) (s := s) (J := J) hk hr5 hr6 hF hN3 hr4 y h1 h2
  have f1 : m_q B X T τ n c s σ (q_AckBookModel_comeIn_159 F X J (some (B + 31)) (nI k) y (nI a) (o_w B X τ σ2 n c s)) := (fin σ2 (r + 1) hN2 hr3 (by omega) (by omega)).of hX2 hU2
  refine m_q.ite (fun _ => f1) (fun h => ?_)
  refine m_q.ite (fun _ => ?_) (fun _ => f1)
  obtain ⟨σ1, q1, q2, q3, q4, q5⟩ := s_takeOut (B := B) (X := X) (τ := τ) (n := n) (c := c) (s := s) (σ := o_L σ2 49 a (σ2.2.1 49 (a + 1))) (r := r) (a := a + 1) hk (by omega) hF (hN2.l (by decide)) hr3 (by omega) (by omega)
  simp only [q1, z_cV]
  exact (fin σ1 r q2 q3 (by omega) (by omega)).of ((hX2.trans (mX.L (by omega))).trans q4) ((hU2.trans (mU.L (by decide))).trans q5)
theorem s_comeInJ {k r : Nat} (hk : k < 3) (hr : r ≤ 64) (hF : 20000 ≤ F) (y : Int64) : ∀ (N a : Nat) (σ : zS), mN T k σ → σ.1 47 k = nI r → 65 * k ≤ a → a ≤ 65 * k + 64 → a - 65 * k < N → m_q B X T τ n c s σ (j_AckBookModel_comeIn F X N (some (B + 31)) (nI k) y (nI a) (o_w B X τ σ n c s)) := by
  intro N
  induction N with
  | zero => exact fun _ _ _ _ _ _ h => absurd h (Nat.not_lt_zero _)
  | succ N ih =>
    intro a σ hN hr1 h1 h2 hf
    rw [j_AckBookModel_comeIn]
    simp (disch := omega) only [e_m65, e_le]
    refine m_q.ite (fun _ => s_74 hk hr hF hN hr1 y h1 h2) (fun h => ?_)
    simp (disch := omega) only [or_31_31, e_m1, oln_48]
    refine m_q.ite (fun _ => s_74 hk hr hF hN hr1 y h1 h2) (fun _ => ?_)
    obtain ⟨a', rfl⟩ : ∃ a', a = a' + 1 := ⟨a - 1, by omega⟩
    simp (disch := omega) only [osn_48, or_31_32, oln_49, osn_49, pk_m1]
    exact (ih a' _ ((hN.l (by decide)).l (by decide)) hr1 (by omega) (by omega) (by omega)).of ((mX.L (by omega)).trans (mX.L (by omega))) ((mU.L (by decide)).trans (mU.L (by decide)))
theorem s_isOldJ {k r : Nat} (hk : k < 3) (hr : r ≤ 64) (hr1 : σ.1 47 k = nI r) (y : Int64) : ∀ (N a : Nat) (b : Int32), (b = 0 ∨ b = 1) → 65 * k ≤ a → a ≤ 65 * k + 64 → 66 - (a - 65 * k) < N → ∃ v : Int32, j_AckBookModel_isOld F X N (some (B + 31)) (nI k) y b (nI a) (o_w B X τ σ n c s) = some (.inl (some (.int v)), o_w B X τ σ n c s) := by
  intro N
  induction N with
  | zero => exact fun _ _ _ _ _ h => absurd h (Nat.not_lt_zero _)
  | succ N ih =>
    intro a b hb h1 h2 hf
    rw [j_AckBookModel_isOld]
    simp (disch := omega) only [or_31_30, oln_47, hr1, e_m65, nI_add, e_le]
    by_cases h : 65 * k + r ≤ a
    · rw [if_pos h]
      unfold z_retZ
      rw [if_pos hb]
      exact ⟨_, rfl⟩
    · rw [if_neg h]
      simp (disch := omega) only [or_31_31, oln_48, or_31_32, oln_49, nI_1]
      have e0 := ih (a + 1) 0 (Or.inl rfl) (by omega) (by omega) (by omega)
      have e1 := ih (a + 1) 1 (Or.inr rfl) (by omega) (by omega) (by omega)
      (repeat' split) <;> first | exact e0 | exact e1
end PM7
