/-! The start; calls that leave the sending side, once more. -/
section JB
variable {B X F : Nat} {τ τ1 : zK} {n c s n1 c1 s1 T : Nat} {σ σ1 σ2 σ3 : zS}
theorem i_kD : kD 0 (fun _ => none) o_s0 := by
  refine ⟨fun _ _ => 0, fun _ => 0, fun _ _ _ => 0, fun _ _ => 0, fun _ _ => 0, fun _ _ => [], fun k f => o_s0.1 (3 + 8 * k) f, 0, fun _ _ => 0, fun f => o_s0.1 29 f, 0, fun _ => 0, fun _ => 0, fun _ => 0, fun _ => -1, ⟨rfl, fun k hk => ⟨⟨⟨⟨⟨?_, Nat.zero_le _⟩, Or.inl ⟨rfl, ?_⟩⟩, fun i j hi => absurd hi (Nat.not_lt_zero _), fun i hi => absurd hi (Nat.not_lt_zero _)⟩, fun b hb => ⟨⟨?_, fun w => absurd rfl w, trivial⟩, List.nodup_nil, fun x hx => by simp at hx⟩, fun _ _ _ => rfl⟩, ?_⟩, fun _ _ => rfl, rfl, fun j hj => ⟨rfl, rfl⟩⟩, ⟨rfl, fun k hk => ⟨⟨?_, Nat.zero_le _, ?_⟩, fun i hi => absurd hi (Nat.not_lt_zero _), fun b hb => ⟨0, 0, ⟨?_, ?_⟩, rfl, Nat.zero_le _, fun j x hx => by simp at hx⟩, ?_, ?_⟩, fun f hf => ?_, rfl, fun j hj => absurd hj (Nat.not_lt_zero _)⟩, ⟨⟨Nat.le_refl _, by omega, ⟨fun j hj => absurd hj (Nat.not_lt_zero _), fun i j _ hj => absurd hj (Nat.not_lt_zero _)⟩, ⟨800, by omega, rfl⟩, ⟨0, by omega, rfl⟩, Or.inl rfl, Or.inl rfl⟩, fun k hk => ⟨⟨Nat.le_refl _, fun j hj => absurd hj (Nat.not_lt_zero _), fun i j _ hj => absurd hj (Nat.not_lt_zero _)⟩, Or.inl ?_, Or.inl ?_, fun _ => ?_, Or.inl rfl⟩, fun k k' i j _ _ _ hi => absurd hi (Nat.not_lt_zero _)⟩⟩
  all_goals first
    | (rcases (by omega : k = 0 ∨ k = 1 ∨ k = 2) with rfl | rfl | rfl <;> rfl)
    | (rcases (by omega : k = 0 ∨ k = 1 ∨ k = 2) with rfl | rfl | rfl <;> rcases (by omega : b = 0 ∨ b = 1) with rfl | rfl <;> rfl)
    | (rcases (by omega : f = 0 ∨ f = 1 ∨ f = 2 ∨ f = 3 ∨ f = 4) with rfl | rfl | rfl | rfl | rfl <;> rfl)
theorem kD.up (h : kD T τ σ) : kD (T + 1) τ σ := by
  obtain ⟨P, m, D, ew, ft, q, S, t, a, W, p, L, H, ds, ga, k1, k2, k3⟩ := h
  exact ⟨P, m, D, ew, ft, q, S, t, a, W, p, L, H, ds, ga, k1, k2, k3.up⟩
theorem kI.hN (h : kI T τ σ n c s) : ∀ o, n ≤ o → τ o = none := by
  obtain ⟨-, -, -, -, -, -, hN, -, -⟩ := h
  exact hN
end JB
