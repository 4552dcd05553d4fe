section CO
variable {B X F : Nat}
theorem i_w0 (hX : X < B) : z_w0 B X = o_sg (fun a => if a = X then some (.inl (.object "java/lang/Object", 0, .inr (.inr (.inr (.inr fun _ => none))))) else none) B [] 601024 7293034 := by
  unfold z_w0 o_sg
  refine congrArg (fun f => ((B, 601024, 7293034, f) : zW)) ?_
  funext a
  by_cases h : a < B
  · rw [if_pos h]
  · rw [if_neg h, if_neg (by omega)]
    rfl
theorem i_ow (hX : X < B) (c s : Nat) : o_sg (fun a => if a = X then some (.inl (.object "java/lang/Object", 0, .inr (.inr (.inr (.inr fun _ => none))))) else none) B (i_L1 B X ++ (i_L2 (B + 31) ++ [.inl (.long, 1, .inr (.inl fun _ => 0))])) c s = o_w B X (fun _ => none) o_s0 56 c s := by
  have hl : (i_L1 B X ++ (i_L2 (B + 31) ++ [((.inl (.long, 1, .inr (.inl fun _ => 0))) : zOb)])).length = 56 := rfl
  unfold o_sg o_w
  rw [hl]
  refine congrArg (fun f => ((B + 56, c, s, f) : zW)) ?_
  funext a
  by_cases h : a < B
  · rw [if_pos h, if_pos h]
  · rw [if_neg h, if_neg h]
    unfold o_any
    by_cases h2 : a - B < 56
    · rw [if_pos h2]
      exact i_pic B X _ h2
    · rw [if_neg h2, List.getElem?_eq_none (by omega)]
      rfl
theorem i_law (xs : Nat → Int32) (L : Nat) (hX : X < B) : f_AckBookLaw_law (F + 4) X xs L (z_w0 B X) = j_AckBookLaw_law (F + 4) X xs L (F + 4) (some (B + 0)) (some (B + 31)) (some (B + 55)) 0 (o_w B X (fun _ => none) o_s0 56 600968 7193507) := by
  rw [i_w0 hX]
  unfold f_AckBookLaw_law
  refine Eq.trans (g_new (by decide) (by decide)) ?_
  rw [show ∀ (a : Nat) (K : zR), z_nn (some a) K = K from fun _ _ => rfl]
  rw [show ([] : List zOb) ++ [Sum.inr (0, [.null, .null, .null, .null, .int 0, .int 0, .int 0, .int 0, .int 0])] = [Sum.inr (0, [.null, .null, .null, .null, .int 0, .int 0, .int 0, .int 0, .int 0])] from rfl, show B + ([] : List zOb).length = B + 0 from rfl, i_book (by decide) (by decide), y_cV]
  refine Eq.trans (g_new (by decide) (by decide)) ?_
  rw [show ∀ (a : Nat) (K : zR), z_nn (some a) K = K from fun _ _ => rfl, ← g_join]
  refine Eq.trans (congrArg (fun r => z_cV r _) (i_model (A := B + 31) (by decide) (by decide))) ?_
  rw [y_cV]
  refine Eq.trans (g_a1 (by decide) (by decide)) ?_
  refine Eq.trans (congrArg _ (g_join.trans (i_ow hX _ _))) ?_
  rfl
theorem i_kI : kI 0 (fun _ => none) o_s0 56 600968 7193507 := by
  refine ⟨fun _ => 0, fun _ => 0, 0, ⟨fun k hk => ?_, fun k hk f hf => ⟨fun q hq => ?_, fun q hq => ?_⟩, fun q hq => ?_, ⟨⟨0, rfl, by decide⟩, ⟨0, rfl, by decide⟩, fun i _ => ?_⟩, fun k hk => ⟨0, ?_, by decide⟩⟩, by decide, ⟨by decide, fun _ _ => rfl, by decide, by decide⟩⟩
  · refine ⟨?_, Nat.le_refl _, Or.inl ⟨rfl, rfl⟩⟩
    rcases (by omega : k = 0 ∨ k = 1 ∨ k = 2) with rfl | rfl | rfl <;> rfl
  · exact nomatch (show (none : Option Nat) = some q from hq)
  · exact nomatch (show (none : Option Nat) = some q from hq)
  · exact nomatch (show (none : Option (Nat ⊕ Nat)) = some (.inl 9) from hq.2)
  · show 0 ≤ (0 : Int64).toInt
    decide
  · rcases (by omega : k = 0 ∨ k = 1 ∨ k = 2) with rfl | rfl | rfl <;> rfl
theorem i_mM : mM 0 o_s0 := by
  refine ⟨fun _ => 0, fun _ => 0, 12000, ⟨fun k hk => ⟨rfl, Nat.le_refl _⟩, fun k hk => Or.inl rfl, ⟨fun l hl => rfl, fun k hk => rfl⟩, fun l hl i hi => absurd hi (Nat.not_lt_zero _), fun l hl => ⟨0, rfl, Nat.le_refl _⟩, fun k hk => Or.inl ?_, fun k hk i hi => absurd hi (Nat.not_lt_zero _), ⟨0, rfl, by decide, fun h => absurd h (by omega)⟩, fun k hk => ⟨0, rfl, by decide⟩⟩, ⟨rfl, by decide, by decide⟩, by decide⟩
  rcases (by omega : k = 0 ∨ k = 1 ∨ k = 2) with rfl | rfl | rfl <;> rfl
end CO
