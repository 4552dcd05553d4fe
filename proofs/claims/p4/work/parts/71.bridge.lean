/-- the pure side: what is left to show, of programs over worlds alone -/
theorem whole_start (pure_main : ∀ (xs : Nat → Int32) (L : Nat), L ≤ 2560 → ∀ B X : Nat, X < B → ∃ (F : Nat) (wE : zW), f_AckBookLaw_law F X xs L (z_w0 B X) = some (.inl (some (.int (1 : Int32))), wE)) {p : Program} {e : Env} {s : State} {m : MethodId} {below : List Frame} {meth : Method} {c : Code} (l : Launch) (hfl : l.flags = pinnedFlags ++ [noTraceFlag]) {b L : Nat} {xs : Nat → Int32} (hL : L ≤ 2560) (C0 : lw_At p s m meth c b L xs) : W p l e room_1 s m #[Value.ref b] below meth c s.heap [] 0 0 (lw_Z below #[Value.ref b] s) (entryFrame m ([Value.ref b] : List Value).toArray 8) := by
  obtain ⟨h1, h2, h3, h4, h5, h6, h7, h8, h9, h10⟩ := C0
  obtain ⟨D, vu, vs, X, M, hE, hX, hP⟩ := z_init h6 h10
  obtain ⟨F, wE, hf⟩ := pure_main xs L hL s.heap.size X hX
  rw [lg_entry_eq]
  intro T hT X0
  exact k_law (zTB_ok _ _ _ _) hfl hE ⟨h1, h2, h4, h5, h9, Launch.traces_off hfl X0.admits, zTB_ok _ _ _ _⟩ h3 ⟨h7, h8⟩ (Nat.le_refl _) wE hf s.heap [] 0 0 _ ⟨hP, fun q h => (by cases h), Nat.zero_add 601024, Nat.zero_add 7293034⟩ (lv_entry [Value.ref b] (by show (lg_sl [va_rf (some b)]).length ≤ 8; simp only [z_sl_r, z_sl_n]; decide)) T hT X0
