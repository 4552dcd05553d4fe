/-! discard, both sides. -/
section IC
variable {B X F : Nat} {τ τ1 : zK} {n c s n1 c1 s1 T : Nat} {σ σ1 σ2 σ3 : zS}
section IC1
variable {P : Nat → Nat} {m : Nat} {D : Nat → Nat → Int32} {ft : Nat → Int32} {q q' : Nat → List Nat} {S : Nat → Int32} {k b : Nat} {lt ga ds : Int32}
theorem cH.I {f : Nat} {x : Int32} : cH k P m σ (o_I σ (3 + 8 * k) f x) := ⟨rfl, fun o _ p1 _ _ _ => ⟨i_fun_ne p1, rfl⟩⟩
theorem cH.R {ch f : Nat} {x : Option Nat} (h : ch = 4 + 8 * k ∨ ch = 5 + 8 * k) : cH k P m σ (o_R σ ch f x) := ⟨rfl, fun o _ _ p2 p3 _ => ⟨rfl, funext fun g => by rw [r13, if_neg (fun w => by omega)]⟩⟩
theorem cS.clear (hk : k < 3) (hS : cS τ σ k P m D ft q S) : cS τ (o_R (o_R σ (4 + 8 * k) 0 none) (5 + 8 * k) 0 none) k P m D ft (fun _ => []) S := by
  have h56 : ∀ j, j < m → 56 ≤ P j := fun j hj => (hS.1.2.2 j hj).1.1.1
  have r0 : ∀ o, o ≠ 4 + 8 * k → o ≠ 5 + 8 * k → (o_R (o_R σ (4 + 8 * k) 0 none) (5 + 8 * k) 0 none).2.2 o = σ.2.2 o := fun o p1 p2 => funext fun f => by rw [r13, if_neg (fun w => p2 w.1), r13, if_neg (fun w => p1 w.1)]
  refine ⟨⟨⟨hS.1.1.1, ?_⟩, hS.1.2.1, fun i hi => ?_⟩, fun b hb => ⟨⟨?_, fun w => absurd rfl w, trivial⟩, List.nodup_nil, fun a ha => by simp at ha⟩, hS.2.2⟩
  · rcases hS.1.1.2 with w | ⟨e, cap, g1, g2, g3, g4, g5⟩
    · exact Or.inl ⟨w.1, by rw [r0 _ (by omega) (by omega)]; exact w.2⟩
    · exact Or.inr ⟨e, cap, by rw [r0 _ (by omega) (by omega)]; exact g1, g2, g3, g4, fun i hi => by rw [r0 _ (by have := g2.1; omega) (by have := g2.1; omega)]; exact g5 i hi⟩
  · have := h56 i hi
    rw [r0 _ (by omega) (by omega)]
    exact hS.1.2.2 i hi
  · rcases (by omega : b = 0 ∨ b = 1) with rfl | rfl
    · rw [r13, if_neg (by omega), r13, if_pos ⟨by omega, rfl⟩]
      rfl
    · rw [r13, if_pos ⟨by omega, rfl⟩]
      rfl
theorem d_forget (hk : k < 3) : ∀ (N i : Nat) (σ : zS), cS τ σ k P m D ft q S → i ≤ m → pW B X τ n c s (j_AckBook_Sent_forget F X N (some (B + (3 + 8 * k))) (some (B + 30)) (nI i) (o_w B X τ σ n c s)) (fun _ σ' => cH k P m σ σ' ∧ ∃ S', cS τ σ' k P m D ft (fun _ => []) S' ∧ S' 6 = -1 ∧ S' 7 = -1) := by
  intro N
  induction N with
  | zero => exact fun _ _ _ _ => pW.none
  | succ N ih =>
    intro i σ hS hi
    have hm := hS.1.1.1.2
    rw [j_AckBook_Sent_forget]
    simp (disch := omega) only [or_s3_2 hk, ot_s6 hk, c_size hk, y_cI, hS.1.1.1.1, e_le]
    refine pW.ite (fun _ => ?_) (fun hlt => ?_)
    · have cl : ∀ (σ : zS) (K : zW → zR), z_put (o_w B X τ σ n c s) 3 0 (some (B + (4 + 8 * k))) (va_rf none) K = K (o_w B X τ (o_R σ (4 + 8 * k) 0 none) n c s) := fun σ K => opr_s4_0 hk none K
      have cl2 : ∀ (σ : zS) (K : zW → zR), z_put (o_w B X τ σ n c s) 3 0 (some (B + (5 + 8 * k))) (va_rf none) K = K (o_w B X τ (o_R σ (5 + 8 * k) 0 none) n c s) := fun σ K => opr_s5_0 hk none K
      simp only [op_s3_3 hk, op_s3_4 hk, op_s3_6 hk, op_s3_7 hk, or_s3_0 hk, or_s3_1 hk, ot_s4 hk, ot_s5 hk, f_AckBook_Chain_clear, cl, cl2, y_cV]
      have h4 := (((hS.sent hk (f := 3) (by omega) 0).sent hk (f := 4) (by omega) 0).sent hk (f := 6) (by omega) (-1)).sent hk (f := 7) (by omega) (-1)
      exact pW.ret ⟨((((cH.I.trans cH.I).trans cH.I).trans cH.I).trans (cH.R (Or.inl rfl))).trans (cH.R (Or.inr rfl)), _, h4.clear hk, rfl, rfl⟩
    · have hlt : i < m := by omega
      have hpk := (hS.1.2.2 i hlt).1.1
      simp only [d_get hS.1.1 hk hlt, y_cRs, d_cast hpk, d_gI hpk 6 (by omega), ot_30, nI_1, nI_add]
      refine pW.ite (fun _ => ?_) (fun _ => ih (i + 1) σ hS (by omega))
      obtain ⟨σ1, e1, hG⟩ := d_leaveF (B := B) (X := X) (F := F) (n := n) (c := c) (s := s) (σ := σ) hpk
      rw [e1]
      refine (ih (i + 1) σ1 (hG.cs hk hS) (by omega)).mono fun v σ' hq => ?_
      exact ⟨hG.h.trans hq.1, hq.2⟩
end IC1
end IC
