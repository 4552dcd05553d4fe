/-! The class and the model side by side. -/
section CP
variable {B X F : Nat} {τ : zK} {n c s T : Nat} {σ : zS}
def kR (σ : zS) : Prop := (∀ k, k < 3 → σ.1 (6 + 8 * k) 1 = σ.1 32 k) ∧ (∀ k, k < 3 → σ.1 (2 + 8 * k) 3 = σ.1 39 k) ∧ σ.1 26 2 = σ.1 31 27 ∧ ∀ i, σ.2.1 27 i = σ.2.1 45 i
def kS (T : Nat) (τ : zK) (σ : zS) (n c s : Nat) : Prop := kI T τ σ n c s ∧ mM T σ ∧ kR σ
def xE (σ σ' : zS) : Prop := ∀ o, 31 ≤ o → o < 55 → σ'.1 o = σ.1 o ∧ σ'.2.1 o = σ.2.1 o ∧ σ'.2.2 o = σ.2.2 o
theorem xF.e {σ σ' : zS} (h : xF σ σ') : xE σ σ' := fun o h1 h2 => h o h1 (by omega)
theorem kI.ag {σ' : zS} (h : kI T τ σ n c s) (h1 : ∀ o, (o < 31 ∨ 56 ≤ o) → σ'.1 o = σ.1 o ∧ σ'.2.2 o = σ.2.2 o) (h2 : ∀ i, σ'.2.1 27 i = σ.2.1 27 i) : kI T τ σ' n c s := by
  obtain ⟨N, rk, R, ⟨a1, a2, a3, a4, a5⟩, hR, hN⟩ := h
  refine ⟨N, rk, R, ⟨fun k hk => ?_, fun k hk f hf => ⟨fun q hq => ?_, fun q hq => ?_⟩, fun q hq => ?_, ?_, fun k hk => ?_⟩, hR, hN⟩
  · rw [(h1 (6 + 8 * k) (by omega)).1, (h1 (6 + 8 * k) (by omega)).2]
    obtain ⟨b1, b2, b3⟩ := a1 k hk
    refine ⟨b1, b2, ?_⟩
    rcases b3 with b3 | ⟨e, cp, g1, g2, g3, g4, g5, g6, g7⟩
    · exact Or.inl b3
    · have hz := (h1 e (Or.inr g2.1)).2
      exact Or.inr ⟨e, cp, g1, g2, g3, g4, g5, fun j hj => by rw [hz]; exact g6 j hj, fun j hj => by rw [hz]; exact g7 j hj⟩
  · rw [(h1 (4 + 8 * k) (by omega)).2] at hq
    have := (a2 k hk f hf).1 q hq
    exact ⟨this.1, by rw [(h1 q (Or.inr this.1.1)).1]; exact this.2⟩
  · rw [(h1 (5 + 8 * k) (by omega)).2] at hq
    have := (a2 k hk f hf).2 q hq
    exact ⟨this.1, by rw [(h1 q (Or.inr this.1.1)).1]; exact this.2⟩
  · have hq1 := hq.1
    rw [(h1 q (Or.inr hq1)).1, (h1 q (Or.inr hq1)).2]
    obtain ⟨b1, b2, b3, b4⟩ := a3 q hq
    refine ⟨b1, b2, b3, fun q' hq' => ?_⟩
    obtain ⟨c1, c2, c3⟩ := b4 q' hq'
    exact ⟨c1, by rw [(h1 q' (Or.inr c1.1)).1]; exact c2, c3⟩
  · obtain ⟨b1, b2, b3⟩ := a4
    exact ⟨by rw [(h1 26 (by omega)).1]; exact b1, by rw [(h1 26 (by omega)).1]; exact b2, fun i hi => by rw [h2]; exact b3 i hi⟩
  · rw [(h1 (7 + 8 * k) (by omega)).1]
    exact a5 k hk
theorem kI.m {σ' : zS} (h : kI T τ σ n c s) (hX : mX σ σ') : kI T τ σ' n c s := h.ag (fun o ho => ⟨(hX o (by omega)).1, (hX o (by omega)).2.2⟩) (fun i => by rw [(hX 27 (by omega)).2.1])
theorem l55 (v : Int64) (o i : Nat) (ho : o ≠ 55) : (o_L σ 55 0 v).2.1 o i = σ.2.1 o i := by
  show (if o = 55 ∧ i = 0 then v else σ.2.1 o i) = _
  rw [if_neg (fun q => ho q.1)]
theorem kI.out (h : kI T τ σ n c s) (v : Int64) : kI T τ (o_L σ 55 0 v) n c s := h.ag (fun o _ => ⟨rfl, rfl⟩) (fun i => l55 v 27 i (by decide))
theorem xE.out {σ1 : zS} (h : xE σ σ1) (v : Int64) : xE σ (o_L σ1 55 0 v) := fun o h1 h2 => ⟨(h o h1 h2).1, (funext fun i => l55 v o i (by omega)).trans (h o h1 h2).2.1, (h o h1 h2).2.2⟩
theorem mM.ag {σ' : zS} (h : mM T σ) (h1 : xE σ σ') : mM T σ' := by
  have e31 := (h1 31 (by omega) (by omega)).1
  have e32 := (h1 32 (by omega) (by omega)).1
  have e33 := (h1 33 (by omega) (by omega)).1
  have e35 := (h1 35 (by omega) (by omega)).1
  have e39 := (h1 39 (by omega) (by omega)).1
  have e40 := (h1 40 (by omega) (by omega)).1
  have e42 := (h1 42 (by omega) (by omega)).1
  have e43 := (h1 43 (by omega) (by omega)).1
  have e44 := (h1 44 (by omega) (by omega)).1
  have e47 := (h1 47 (by omega) (by omega)).1
  have e46 := (h1 46 (by omega) (by omega)).2.1
  unfold mM mJ mA mD mG mF mT mP mZ mC mR mW at h ⊢
  rw [e31, e32, e33, e35, e39, e40, e42, e43, e44, e47, e46]
  exact h
/-- what the class did, then the model: nothing of what is compared -/
theorem k_nm {τ1 : zK} {σ1 σ2 : zS} {n1 c1 s1 : Nat} (hR : kR σ) (hE : xE σ σ1) (hU : xU σ σ1) (hX : mX σ1 σ2) (hm : mU σ1 σ2) (hI : kI (T + 1) τ1 σ1 n1 c1 s1) (hM : mM T σ2) : kS (T + 1) τ1 σ2 n1 c1 s1 := by
  obtain ⟨r1, r2, r3, r4⟩ := hR
  obtain ⟨u1, u2, u3, u4⟩ := hU
  obtain ⟨v1, v2, v3, v4⟩ := hm
  refine ⟨hI.m hX, hM.up (by omega), fun k hk => ?_, fun k hk => ?_, ?_, fun i => ?_⟩
  · rw [(hX _ (by omega)).1, u1 k hk, v1 k, (hE 32 (by omega) (by omega)).1]
    exact r1 k hk
  · rw [(hX _ (by omega)).1, u2 k hk, v2 k, (hE 39 (by omega) (by omega)).1]
    exact r2 k hk
  · rw [(hX 26 (by omega)).1, u3, v3, (hE 31 (by omega) (by omega)).1]
    exact r3
  · rw [(hX 27 (by omega)).2.1, u4, v4, (hE 45 (by omega) (by omega)).2.1]
    exact r4 i
/-- the law's own wrappers -/
def w_c (B X T : Nat) (r : zR) (P : Int32 → zS → Prop) : Prop := ∃ v τ' σ' n' c' s', r = some (.inl (some (.int v)), o_w B X τ' σ' n' c' s') ∧ kI (T + 1) τ' σ' n' c' s' ∧ P v σ'
theorem o55 (x : Int64) (K : zW → zR) : z_stL (o_w B X τ σ n c s) (some (B + 55)) (0 : Int32) x K = K (o_w B X τ (o_L σ 55 0 x) n c s) := osn_55 (i := 0) (by decide) x K
theorem o55g (K : Int64 → zR) : z_ldL (o_w B X τ σ n c s) (some (B + 55)) (0 : Int32) K = K (σ.2.1 55 0) := oln_55 (i := 0) (by decide) K
theorem w_tI {r : zR} {Q : Option Value ⊕ Nat → zS → Prop} {K : Int32 → zW → zR} {E : Nat → zW → zR} (h : k_c B X T r Q) (f : Int32 → Int64) (ec : Nat → Int32) (hv : ∀ o σ', Q o σ' → (∃ v : Int32, o = .inl (some (.int v))) ∨ ∃ ci, o = .inr ci) (hK : ∀ v τ σ n c s, K v (o_w B X τ σ n c s) = some (.inl (some (.int 0)), o_w B X τ (o_L σ 55 0 (f v)) n c s)) (hE : ∀ ci w σ', Q (.inr ci) σ' → E ci w = some (.inl (some (.int (ec ci))), w)) : w_c B X T (z_tI r K E) (fun x σ2 => (∃ v σ1, Q (.inl (some (.int v))) σ1 ∧ x = 0 ∧ σ2 = o_L σ1 55 0 (f v)) ∨ ∃ ci, Q (.inr ci) σ2 ∧ x = ec ci) := by
  obtain ⟨τ', σ', n', c', s', hI, ⟨v, e, hQ⟩ | ⟨a, ci, e, ha, hQ⟩⟩ := h
  · rcases hv _ _ hQ with ⟨i, hi⟩ | ⟨ci, hc⟩
    · injection hi with hi
      subst hi
      exact ⟨0, τ', _, n', c', s', by rw [e]; exact hK i τ' σ' n' c' s', hI.out _, Or.inl ⟨i, σ', hQ, rfl, rfl⟩⟩
    · cases hc
  · refine ⟨ec ci, τ', σ', n', c', s', ?_, hI, Or.inr ⟨ci, hQ, rfl⟩⟩
    rw [e]
    show (match (o_w B X τ' σ' n' c' s').2.2.2 a with
      | some (.inr (ci, _)) => E ci (o_w B X τ' σ' n' c' s')
      | _ => none) = _
    rw [ha]
    exact hE ci _ σ' hQ
theorem w_tL {r : zR} {Q : Option Value ⊕ Nat → zS → Prop} {K : Int64 → zW → zR} {E : Nat → zW → zR} (h : k_c B X T r Q) (f : Int64 → Int64) (ec : Nat → Int32) (hv : ∀ o σ', Q o σ' → (∃ v : Int64, o = .inl (some (.long v))) ∨ ∃ ci, o = .inr ci) (hK : ∀ v τ σ n c s, K v (o_w B X τ σ n c s) = some (.inl (some (.int 0)), o_w B X τ (o_L σ 55 0 (f v)) n c s)) (hE : ∀ ci w σ', Q (.inr ci) σ' → E ci w = some (.inl (some (.int (ec ci))), w)) : w_c B X T (z_tL r K E) (fun x σ2 => (∃ v σ1, Q (.inl (some (.long v))) σ1 ∧ x = 0 ∧ σ2 = o_L σ1 55 0 (f v)) ∨ ∃ ci, Q (.inr ci) σ2 ∧ x = ec ci) := by
  obtain ⟨τ', σ', n', c', s', hI, ⟨v, e, hQ⟩ | ⟨a, ci, e, ha, hQ⟩⟩ := h
  · rcases hv _ _ hQ with ⟨i, hi⟩ | ⟨ci, hc⟩
    · injection hi with hi
      subst hi
      exact ⟨0, τ', _, n', c', s', by rw [e]; exact hK i τ' σ' n' c' s', hI.out _, Or.inl ⟨i, σ', hQ, rfl, rfl⟩⟩
    · cases hc
  · refine ⟨ec ci, τ', σ', n', c', s', ?_, hI, Or.inr ⟨ci, hQ, rfl⟩⟩
    rw [e]
    show (match (o_w B X τ' σ' n' c' s').2.2.2 a with
      | some (.inr (ci, _)) => E ci (o_w B X τ' σ' n' c' s')
      | _ => none) = _
    rw [ha]
    exact hE ci _ σ' hQ
theorem w_tV {r : zR} {Q : Option Value ⊕ Nat → zS → Prop} {E : Nat → zW → zR} (h : k_c B X T r Q) (ec : Nat → Int32) (hv : ∀ o σ', Q o σ' → o = .inl none ∨ ∃ ci, o = .inr ci) (hE : ∀ ci w σ', Q (.inr ci) σ' → E ci w = some (.inl (some (.int (ec ci))), w)) : w_c B X T (z_tV r (fun w => some (.inl (some (.int 0)), w)) E) (fun x σ2 => (Q (.inl none) σ2 ∧ x = 0) ∨ ∃ ci, Q (.inr ci) σ2 ∧ x = ec ci) := by
  obtain ⟨τ', σ', n', c', s', hI, ⟨v, e, hQ⟩ | ⟨a, ci, e, ha, hQ⟩⟩ := h
  · rcases hv _ _ hQ with hi | ⟨ci, hc⟩
    · injection hi with hi
      subst hi
      exact ⟨0, τ', _, n', c', s', by rw [e]; rfl, hI, Or.inl ⟨hQ, rfl⟩⟩
    · cases hc
  · refine ⟨ec ci, τ', σ', n', c', s', ?_, hI, Or.inr ⟨ci, hQ, rfl⟩⟩
    rw [e]
    show (match (o_w B X τ' σ' n' c' s').2.2.2 a with
      | some (.inr (ci, _)) => E ci (o_w B X τ' σ' n' c' s')
      | _ => none) = _
    rw [ha]
    exact hE ci _ σ' hQ
theorem w_c.mono {r : zR} {P P' : Int32 → zS → Prop} (h : w_c B X T r P) (hP : ∀ v σ', P v σ' → P' v σ') : w_c B X T r P' := by
  obtain ⟨v, τ', σ', n', c', s', e, hI, hp⟩ := h
  exact ⟨v, τ', σ', n', c', s', e, hI, hP _ _ hp⟩
theorem xU.out {σ1 : zS} (h : xU σ σ1) (v : Int64) : xU σ (o_L σ1 55 0 v) := ⟨h.1, h.2.1, h.2.2.1, fun i => (l55 v 27 i (by decide)).trans (h.2.2.2 i)⟩
theorem xA.out {σ1 : zS} (h : xA σ σ1) (v : Int64) : xA σ (o_L σ1 55 0 v) := ⟨h.1, h.2.1, h.2.2.1, fun i => (l55 v 27 i (by decide)).trans (h.2.2.2 i)⟩
def ec2 (ci : Nat) : Int32 := if ci = 11 then 1 else 2
theorem w_state (h : kI T τ σ n c s) (hT : T < 512) (x y : Int32) : w_c B X T (f_AckBookLaw_state F X (some (B + 0)) x y (some (B + 55)) (o_w B X τ σ n c s)) (fun _ σ' => xE σ σ' ∧ xU σ σ') := by
  unfold f_AckBookLaw_state
  rw [ot_0]
  refine (w_tI (k_state (F := F) h hT x y) (fun v => v.toInt64) (fun _ => 1) ?_ (fun v τ σ n c s => o55 _ _) ?_).mono ?_
  · rintro o σ' ⟨-, -, h | h⟩
    · exact Or.inl h
    · exact Or.inr ⟨11, h⟩
  · rintro ci w σ' ⟨-, -, ⟨v, h⟩ | h⟩
    · cases h
    · injection h with h
      rw [if_pos h]
  · rintro v σ' (⟨v, σ1, ⟨h1, h2, -⟩, -, rfl⟩ | ⟨ci, ⟨h1, h2, -⟩, -⟩)
    · exact ⟨h1.e.out _, h2.out _⟩
    · exact ⟨h1.e, h2⟩
end CP
