/-! acknowledge, on the class's side. -/
section HD
variable {B X F : Nat} {τ τ1 : zK} {n c s n1 c1 s1 T : Nat} {σ σ1 σ2 : zS} {P : Nat → Nat → Nat} {m : Nat → Nat} {D : Nat → Nat → Nat → Int32} {ft : Nat → Nat → Int32} {q : Nat → Nat → List Nat} {S : Nat → Nat → Int32} {t p : Nat} {a : Nat → Nat → Nat} {W ds ga : Nat → Int32} {L H : Nat → Int64} {k g : Nat} {x y : Int32}
theorem wyA_cong {w w' : Nat → Int32} {D : Nat → Nat → Int32} {ft : Nat → Int32} {inC : Nat → Bool} {m : Nat} {now delay : Int32} (h : ∀ f, f < 5 → w f = w' f) : ∀ f, f < 5 → wyA w k D ft inC m g now delay f = wyA w' k D ft inC m g now delay f := by
  intro f hf
  unfold wyA
  split
  · simp only [wyT, h 0 (by omega), h 1 (by omega), h 3 (by omega), h 4 (by omega), h f hf]
  · exact h f hf
/-- fates, lists, loss time and way behind an acknowledgement -/
def akR (W : Nat → Int32) (k : Nat) (D : Nat → Nat → Int32) (ft : Nat → Int32) (q : Nat → List Nat) (lt : Int32) (inC : Nat → Bool) (m g g1 t : Nat) (y : Int32) : (Nat → Int32) × (Nat → List Nat) × Int32 × (Nat → Int32) := if nw ft inC m = [] then (ft, q, lt, W) else ((lsR (D 2) g1 (nI t) (limV (wyA W k D ft inC m g (nI t) y 0) (wyA W k D ft inC m g (nI t) y 2)) (fy ft inC m)).1, (fun b => if b = 0 then q 0 ++ nw ft inC m else q 1 ++ (lsR (D 2) g1 (nI t) (limV (wyA W k D ft inC m g (nI t) y 0) (wyA W k D ft inC m g (nI t) y 2)) (fy ft inC m)).2.1), (lsR (D 2) g1 (nI t) (limV (wyA W k D ft inC m g (nI t) y 0) (wyA W k D ft inC m g (nI t) y 2)) (fy ft inC m)).2.2, wyA W k D ft inC m g (nI t) y)
def sCl (σ : zS) : zS := o_I (o_I σ 26 3 (σ.1 26 2)) 26 2 0
theorem sCl.ne {o : Nat} (h : o ≠ 26) : (sCl σ).1 o = σ.1 o := by
  unfold sCl
  rw [i_fun_ne h, i_fun_ne h]
theorem sP.close (h : sP τ σ P m D ft q S t W p L H ds) : sP τ (sCl σ) P m D ft q S t W 0 L H ds ∧ (sCl σ).1 26 3 = nI p := by
  obtain ⟨h1, h2, h3, h4, h5⟩ := h
  refine ⟨⟨by rw [sCl.ne (by decide)]; exact h1, fun k hk => ⟨(h2 k hk).1.cell (fun o ho => sCl.ne ?_) (fun _ _ => rfl), by rw [sCl.ne (by omega)]; exact (h2 k hk).2⟩, fun f hf => by rw [sCl.ne (by decide)]; exact h3 f hf, by unfold sCl; rw [i11, if_pos ⟨rfl, rfl⟩]; rfl, h5⟩, ?_⟩
  · rcases ho with rfl | rfl | ⟨i, hi, rfl⟩
    · omega
    · omega
    · have := ((h2 k hk).1.1.2.2 i hi).1.1.1
      omega
  · unfold sCl
    rw [i11, if_neg (by omega), i11, if_pos ⟨rfl, rfl⟩]
    exact h4
theorem c_ack0 (x y : Int32) : f_AckBook_acknowledge F X (some (B + 0)) x y (o_w B X τ σ n c s) = z_cR (f_AckBook_known F X (some (B + 0)) x (o_w B X τ (sCl σ) n c s)) fun r4 w => z_cV (f_AckBook_refuseDiscarded F X r4 w) fun w => if y < 0 then z_thr w 11 else if y ≤ (100000 : Int32) then (z_getR w 1 1 r4 fun r6 => z_getR w 0 1 (some (B + 0)) fun r7 => z_this w 6 r7 <| z_cL (f_AckBook_Claim_greatest F X r7 w) fun v9 w => z_this w 2 r6 <| z_cR (f_AckBook_Sent_packet F X r6 v9 w) fun r11 w => if r11 = none then z_thr w 11 else (z_this w 0 (some (B + 0)) <| z_cI (f_AckBook_settle F X (some (B + 0)) r4 r11 y w) fun v13 w => some (.inl (some (.int v13)), w))) else z_thr w 11 := by
  unfold f_AckBook_acknowledge
  simp only [or_0_1, ot_26, f_AckBook_Claim_close, oi_26_2, op_26_3, op_26_2, y_cV, ot_0]
  rfl
theorem c_ackB (hx : x < 0 ∨ 2 < x) : f_AckBook_acknowledge F X (some (B + 0)) x y (o_w B X τ σ n c s) = z_thr (o_w B X τ (sCl σ) n c s) 11 := by
  rw [c_ack0, c_knownB hx, z_thr_cR]
theorem c_ackD (hk : k < 3) (hd : ¬ σ.1 (2 + 8 * k) 3 = 0) : f_AckBook_acknowledge F X (some (B + 0)) (nI k) y (o_w B X τ σ n c s) = z_thr (o_w B X τ (sCl σ) n c s) 12 := by
  rw [c_ack0]
  simp only [c_known hk, y_cRs, f_AckBook_refuseDiscarded, oi_s2_3 hk]
  rw [sCl.ne (by omega), if_neg hd, z_thr_cV]
theorem d_pack0 {P : Nat → Nat} {m : Nat} (hA : dA τ σ P m k) (hk : k < 3) {J : Int64} (hJ : J.toInt < 0 ∨ (m : Int) ≤ J.toInt) : f_AckBook_Sent_packet F X (some (B + (3 + 8 * k))) J (o_w B X τ σ n c s) = some (.inl (some .null), o_w B X τ σ n c s) := by
  have hm := hA.1.2
  unfold f_AckBook_Sent_packet
  simp only [lg_cmp_lt, or_s3_2 hk, ot_s6 hk, c_size hk, y_cI, hA.1.1, nI_l (show m < 2 ^ 31 by omega)]
  by_cases e0 : J < 0
  · rw [if_pos e0]
    rfl
  · rw [if_neg e0]
    rw [Int64.lt_iff_toInt_lt, show (0 : Int64).toInt = 0 by decide] at e0
    rw [if_neg]
    · rfl
    · rw [Int64.lt_iff_toInt_lt, lN_toInt (by omega)]
      omega
theorem c_great (hp : p ≤ 64) (h3 : σ.1 26 3 = nI p) : f_AckBook_Claim_greatest F X (some (B + 26)) (o_w B X τ σ n c s) = some (.inl (some (.long (if p = 0 then -1 else σ.2.1 28 0))), o_w B X τ σ n c s) := by
  unfold f_AckBook_Claim_greatest
  have e0 : ∀ K : Int64 → zR, z_ldL (o_w B X τ σ n c s) (some (B + 28)) 0 K = K (σ.2.1 28 0) := fun K => oln_28 (i := 0) (by decide) K
  simp only [oi_26_3, or_26_1, e0, h3]
  by_cases w : p = 0
  · subst w
    rw [if_pos (show nI 0 = 0 from rfl), if_pos rfl]
  · rw [if_neg (nI_ne0 (by omega) (by omega)), if_neg w]
/-- refused, in a space that is known and not discarded -/
theorem c_ackN (h : sP τ σ P m D ft q S t W p L H ds) (hp : p ≤ 64) (hk : k < 3) (hd : ds k = 0) (hno : ¬ (¬ y < 0 ∧ y ≤ 100000 ∧ 0 < p ∧ ∃ g, g < m k ∧ H 0 = lN g)) : f_AckBook_acknowledge F X (some (B + 0)) (nI k) y (o_w B X τ σ n c s) = z_thr (o_w B X τ (sCl σ) n c s) 11 := by
  obtain ⟨h', h3⟩ := h.close
  rw [c_ack0]
  simp only [c_known hk, y_cRs, f_AckBook_refuseDiscarded, oi_s2_3 hk]
  rw [if_pos ((h'.2.1 k hk).2.trans hd)]
  simp only [y_cV, or_s2_1 hk, or_0_1, ot_26, c_great hp h3, y_cL, ot_s3 hk]
  by_cases y1 : y < 0
  · rw [if_pos y1]
  · rw [if_neg y1]
    by_cases y2 : y ≤ 100000
    · rw [if_pos y2]
      have hJ : (if p = 0 then -1 else (sCl σ).2.1 28 0 : Int64).toInt < 0 ∨ (m k : Int) ≤ (if p = 0 then -1 else (sCl σ).2.1 28 0 : Int64).toInt := by
        by_cases p0 : p = 0
        · rw [if_pos p0]
          exact Or.inl (by decide)
        · rw [if_neg p0, (h'.2.2.2.2 0 (by omega)).2]
          refine Decidable.byContradiction fun w => hno ⟨y1, y2, by omega, (H 0).toInt.toNat, by omega, Int64_ext ?_⟩
          have hm := (h'.2.1 k hk).1.1.1.1.2
          rw [lN_toInt (by omega)]
          omega
      simp only [d_pack0 (h'.2.1 k hk).1.1.1 hk hJ, y_cRn, if_true]
    · rw [if_neg y2]
/-- taken -/
theorem c_ackA (h : sP τ σ P m D ft q S t W p L H ds) (hu : uP T P m D S t a W p L H ds ga) (hk : k < 3) (hd : ds k = 0) (y1 : ¬ y < 0) (y2 : y ≤ 100000) (hp0 : 0 < p) (hg : g < m k) (hH : H 0 = lN g) : ∃ g1, g1 < m k ∧ (if S k 6 < nI g then nI g else S k 6) = nI g1 ∧ pW B X τ n c s (f_AckBook_acknowledge F X (some (B + 0)) (nI k) y (o_w B X τ σ n c s)) (fun v σ' => v = some (.int (nI (nw (ft k) (inR p L H) (m k)).length)) ∧ ∃ S', sP τ σ' P m D (uk ft k (akR W k (D k) (ft k) (q k) (S k 7) (inR p L H) (m k) g g1 t y).1) (uk q k (akR W k (D k) (ft k) (q k) (S k 7) (inR p L H) (m k) g g1 t y).2.1) (uk S k S') t (akR W k (D k) (ft k) (q k) (S k 7) (inR p L H) (m k) g g1 t y).2.2.2 0 L H ds ∧ S' 6 = nI g1 ∧ S' 7 = (akR W k (D k) (ft k) (q k) (S k 7) (inR p L H) (m k) g g1 t y).2.2.1) := by
  obtain ⟨⟨u1, u2, u3, u4⟩, u5, u6⟩ := hu
  obtain ⟨h', h3⟩ := h.close
  obtain ⟨b1, b2, b3, b4, b5⟩ := h'
  obtain ⟨g1, hg1, hgg, hW⟩ := d_settle (B := B) (X := X) (F := F) (τ := τ) (n := n) (c := c) (s := s) hk (b2 k hk).1 (u5 k hk).2.1 hg u2 h3 (fun j hj => (b5 j hj).1) (fun j hj => (b5 j hj).2) u3 y
  refine ⟨g1, hg1, hgg, ?_⟩
  rw [c_ack0]
  simp only [c_known hk, y_cRs, f_AckBook_refuseDiscarded, oi_s2_3 hk]
  rw [if_pos ((b2 k hk).2.trans hd)]
  simp only [y_cV, or_s2_1 hk, or_0_1, ot_26, c_great u2 h3, y_cL, ot_s3 hk]
  rw [if_neg y1, if_pos y2, if_neg (by omega : ¬ p = 0), (b5 0 (by omega)).2, hH]
  simp only [d_packet (b2 k hk).1.1.1 (b2 k hk).1.1.2.2 hk hg, y_cRs, reduceCtorEq, if_false, ot_0]
  refine pW.cI hW fun v σ' hq => pW.ret ?_
  have hpk : ∀ i, i < m k → o_pk τ (P k i) := fun i hi => ((b2 k hk).1.1.2.2 i hi).1.1
  have h56 : ∀ i, i < m k → 56 ≤ P k i := fun i hi => (hpk i hi).1
  have key : ∀ (f' : Nat → Int32) (q' : Nat → List Nat) (S' : Nat → Int32) (W' : Nat → Int32), cU k (P k) (m k) (sCl σ) σ' → cS τ σ' k (P k) (m k) (D k) f' q' S' → (∀ f, f < 5 → σ'.1 29 f = W' f) → sP τ σ' P m D (uk ft k f') (uk q k q') (uk S k S') t W' 0 L H ds := fun f' q' S' W' hU hS hw => by
    refine ⟨((hU.2 0 (by omega) (by omega) (by omega) (by omega) (by omega) (fun i hi => by have := h56 i hi; omega)).2 4 (by omega)).trans b1, fun k' hk' => ⟨?_, ((hU.2 (2 + 8 * k') (by omega) (by omega) (by omega) (by omega) (by omega) (fun i hi => by have := h56 i hi; omega)).2 3 (by omega)).trans (b2 k' hk').2⟩, hw, ((hU.2 26 (by omega) (by omega) (by omega) (by omega) (by omega) (fun i hi => by have := h56 i hi; omega)).2 2 (by omega)).trans b4, fun j hj => by rw [hU.1]; exact b5 j hj⟩
    by_cases e : k' = k
    · subst e
      rw [uk_at, uk_at, uk_at]
      exact hS
    · rw [uk_ne _ _ e, uk_ne _ _ e, uk_ne _ _ e]
      exact (b2 k' hk').1.oth hpk hU hk hk' e (fun i j hi hj => u6 k' k i j hk' hk e hi hj)
  by_cases hn : nw (ft k) (inR p L H) (m k) = []
  · rw [if_pos hn] at hq
    obtain ⟨v1, hU, hw, -, S', hS, -, s6, s7⟩ := hq
    rw [akR, if_pos hn]
    refine ⟨by rw [hn]; exact v1, S', key _ _ _ _ hU ?_ (fun f hf => (hw f hf).trans (b3 f hf)), s6, s7⟩
    rw [nw_nil _ hn] at hS
    refine ⟨hS.1, fun b hb => ?_, hS.2.2⟩
    have := hS.2.1 b hb
    rw [hn, List.append_nil] at this
    rcases (by omega : b = 0 ∨ b = 1) with rfl | rfl
    · exact this
    · exact this
  · rw [if_neg hn] at hq
    obtain ⟨v1, hU, hw, -, S', hS, -, s6, s7⟩ := hq
    rw [b1] at hw hS s7
    have cg := wyA_cong (k := k) (g := g) (D := D k) (ft := ft k) (inC := inR p L H) (m := m k) (now := nI t) (delay := y) b3
    rw [cg 0 (by omega), cg 2 (by omega)] at hS s7
    rw [akR, if_neg hn]
    exact ⟨v1, S', key _ _ _ _ hU hS (fun f hf => (hw f hf).trans (cg f hf)), s6, s7⟩
end HD
