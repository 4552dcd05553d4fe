def z_w0 (B X : Nat) : zW := (B, 601024, 7293034, fun a => if a = X then some (.inl (.object "java/lang/Object", 0, .inr (.inr (.inr (.inr fun _ => none))))) else none)
theorem z_wds {s : State} {bS : Nat} (hts : ∀ w ∈ lw_tbl, w.before #[Value.ref bS] s = true) (hgv : (Jvm.Cond.and given_1 narrow_1).before #[Value.ref bS] s = true) : ∀ x ∈ zTB, x.before #[Value.ref bS] s = true := by
  intro x hx
  have hs := flat_of_before _ hgv
  rcases List.mem_append.mp (List.mem_filter.mp hx).1 with h | h
  · exact hts x h
  · simp only [zNar, List.mem_cons, List.not_mem_nil, or_false] at h
    rcases h with rfl | rfl
    all_goals exact hs _ (by decide +kernel)
theorem z_len0 {s : State} {A : Array Value} {tm : Term} {a : Addr} {cell : Cell} (h : (Term.length tm).eval A s none [] s = some (.int 0)) (ht : tm.eval A s none [] s = some (.ref a)) (hat : s.arrayAt? a = some cell) : cell.slots.size = 0 := by
  simp only [Term.eval, ht, hat, Option.bind_eq_bind, Option.bind_some] at h
  by_cases hlt : cell.slots.size < 2147483648
  · simp [hlt] at h
    have h3 := congrArg Int32.toInt h
    rw [show cell.slots.size.toInt32 = Int32.ofNat cell.slots.size from rfl, Int32.toInt_ofNat_small hlt] at h3
    simpa using h3
  · simp [hlt] at h
theorem z_ls0 {s : State} {A : Array Value} {C n d : String} (h : (Cond.laysStatic C n d).before A s = true) : z_LS C n d s.heap.size s s.heap := by
  obtain ⟨c, k, i, f, a, cell, h1, h2, h3, h4, h5, h6, h7, h8, h9⟩ := Cond.laysStatic_spec h
  exact ⟨c, k, i, f, a, cell, h1, h2, h3, h4, h5, h6, h7, h8, h9, (Array.getElem?_eq_some_iff.mp h5).1⟩
set_option maxHeartbeats 4000000 in
set_option maxRecDepth 100000 in
theorem z_init {s : State} {bS : Nat} (hts : ∀ w ∈ lw_tbl, w.before #[Value.ref bS] s = true) (hgv : (Jvm.Cond.and given_1 narrow_1).before #[Value.ref bS] s = true) : ∃ (D : va_G) (vu vs : Value) (X M : Nat), (vu.isRef = true ∧ vs.isRef = true) ∧ X < s.heap.size ∧ z_P (zGG s.heap.size s.heap D vu vs X M) s (z_w0 s.heap.size X) s.heap := by
  have hs := flat_of_before _ hgv
  have hz := z_wds hts hgv
  obtain ⟨c0, i0, k0⟩ := u_known (C := zR0) (T := zT0) (N := 9) (n := 9) hz (zc0 (b0 := 0) (H0 := s.heap) (D := (fun _ => 0, fun _ _ => 0)) (vu := .null) (vs := .null) (X := 0) (M := 0)).2.1 (hz _ t_27)
  obtain ⟨c1, i1, k1⟩ := u_known (C := zR1) (T := zT1) (N := 4) (n := 4) hz (zc1 (b0 := 0) (H0 := s.heap) (D := (fun _ => 0, fun _ _ => 0)) (vu := .null) (vs := .null) (X := 0) (M := 0)).2.1 (hz _ t_36)
  obtain ⟨c2, i2, k2⟩ := u_known (C := zR2) (T := zT2) (N := 8) (n := 8) hz (zc2 (b0 := 0) (H0 := s.heap) (D := (fun _ => 0, fun _ _ => 0)) (vu := .null) (vs := .null) (X := 0) (M := 0)).2.1 (hz _ t_42)
  obtain ⟨c3, i3, k3⟩ := u_known (C := zR3) (T := zT3) (N := 2) (n := 2) hz (zc3 (b0 := 0) (H0 := s.heap) (D := (fun _ => 0, fun _ _ => 0)) (vu := .null) (vs := .null) (X := 0) (M := 0)).2.1 (hz _ t_48)
  obtain ⟨c4, i4, k4⟩ := u_known (C := zR4) (T := zT4) (N := 3) (n := 3) hz (zc4 (b0 := 0) (H0 := s.heap) (D := (fun _ => 0, fun _ _ => 0)) (vu := .null) (vs := .null) (X := 0) (M := 0)).2.1 (hz _ t_61)
  obtain ⟨c5, i5, k5⟩ := u_known (C := zR5) (T := zT5) (N := 8) (n := 8) hz (zc5 (b0 := 0) (H0 := s.heap) (D := (fun _ => 0, fun _ _ => 0)) (vu := .null) (vs := .null) (X := 0) (M := 0)).2.1 (hz _ t_119)
  obtain ⟨c6, i6, k6⟩ := u_known (C := zR6) (T := zT6) (N := 4) (n := 4) hz (zc6 (b0 := 0) (H0 := s.heap) (D := (fun _ => 0, fun _ _ => 0)) (vu := .null) (vs := .null) (X := 0) (M := 0)).2.1 (hz _ t_172)
  obtain ⟨c7, i7, k7⟩ := u_known (C := zR7) (T := zT7) (N := 5) (n := 5) hz (zc7 (b0 := 0) (H0 := s.heap) (D := (fun _ => 0, fun _ _ => 0)) (vu := .null) (vs := .null) (X := 0) (M := 0)).2.1 (hz _ t_192)
  obtain ⟨c8, i8, k8⟩ := u_known (C := zR8) (T := zT8) (N := 4) (n := 4) hz (zc8 (b0 := 0) (H0 := s.heap) (D := (fun _ => 0, fun _ _ => 0)) (vu := .null) (vs := .null) (X := 0) (M := 0)).2.1 (hz _ t_219)
  obtain ⟨c9, i9, k9⟩ := u_known (C := zR9) (T := zT9) (N := 8) (n := 8) hz (zc9 (b0 := 0) (H0 := s.heap) (D := (fun _ => 0, fun _ _ => 0)) (vu := .null) (vs := .null) (X := 0) (M := 0)).2.1 (hz _ t_479)
  obtain ⟨c10, i10, k10⟩ := u_known (C := zR10) (T := zT10) (N := 38) (n := 38) hz (zc10 (b0 := 0) (H0 := s.heap) (D := (fun _ => 0, fun _ _ => 0)) (vu := .null) (vs := .null) (X := 0) (M := 0)).2.1 (hz _ t_814)
  obtain ⟨c11, i11, k11⟩ := u_known (C := zR11) (T := zT11) (N := 0) (n := 6) hz (fun x hx => by simp [u_ws] at hx) (hz _ t_385)
  obtain ⟨c12, i12, k12⟩ := u_known (C := zR12) (T := zT12) (N := 0) (n := 6) hz (fun x hx => by simp [u_ws] at hx) (hz _ t_458)
  obtain ⟨c13, i13, k13⟩ := u_known (C := zR13) (T := zT13) (N := 0) (n := 6) hz (fun x hx => by simp [u_ws] at hx) (hz _ t_782)
  obtain ⟨vu, hvu, ru⟩ := Cond.isRef_spec (hs (.isRef (.static Bundle.tN "UNASSIGNED_STACK" Bundle.steD)) (by decide +kernel))
  obtain ⟨vs, hvs, rs⟩ := Cond.isRef_spec (hs (.isRef (.static Bundle.tN "SUPPRESSED_SENTINEL" Bundle.listD)) (by decide +kernel))
  obtain ⟨X, cA, cell, kA, hX, hfA, hcell, hkA, hst, hcl, -⟩ := Cond.exactly_spec (hs (.exactly (.static "java/util/ArrayList" "DEFAULTCAPACITY_EMPTY_ELEMENTDATA" "[Ljava/lang/Object;") "[Ljava/lang/Object;") (by decide +kernel))
  obtain ⟨y, hy1, hy2⟩ := Cond.eq_one (hs (.eq (.length (.static "java/util/ArrayList" "DEFAULTCAPACITY_EMPTY_ELEMENTDATA" "[Ljava/lang/Object;")) (.int 0)) (by decide +kernel))
  have hy : y = .int 0 := by
    have e : (Term.int 0).eval #[Value.ref bS] s none [] s = some (.int 0) := rfl
    exact Option.some.inj (hy2.symm.trans e)
  subst hy
  obtain ⟨a2, cell2, ha2, hat2, -⟩ := Term.length_spec hy1
  have e2 : a2 = X := by
    have e := ha2.symm.trans hX
    injection e with e
    injection e
  subst e2
  obtain ⟨hc2, hkn2, -, -⟩ := State.arrayAt?_spec hat2
  cases hc2.symm.trans hcell
  have hsz : cell.slots.size = 0 := z_len0 hy1 ha2 hat2
  obtain ⟨mi, hmi⟩ := va_Mi.of (hs (.isRef (.mirror "[Ljava/lang/Object;")) (by decide +kernel))
  obtain ⟨comp, cB, kB, o1, -, o3, o4, o5⟩ := Cond.arrayOver_spec (hz _ t_577)
  have e3 : cB = cA := Option.some.inj (o5.symm.trans hfA)
  subst e3
  have hA : ∀ a : Nat, a < s.heap.size → ¬ s.heap.size ≤ a := fun a h => Nat.not_le.mpr h
  refine ⟨(fun k => match k with | 0 => c0 | 1 => c1 | 2 => c2 | 3 => c3 | 4 => c4 | 5 => c5 | 6 => c6 | 7 => c7 | 8 => c8 | 9 => c9 | 10 => c10 | 11 => c11 | 12 => c12 | _ => c13, fun k => match k with | 0 => i0 | 1 => i1 | 2 => i2 | 3 => i3 | 4 => i4 | 5 => i5 | 6 => i6 | 7 => i7 | 8 => i8 | 9 => i9 | 10 => i10 | 11 => i11 | 12 => i12 | _ => i13), vu, vs, a2, mi, ⟨ru, rs⟩, (Array.getElem?_eq_some_iff.mp hcell).1, ⟨fun c q hq => ?_, fun k q hq => by simp at hq⟩, fun x hx => zTB_ok 0 s.heap (fun _ => 0, fun _ _ => 0) ([], []) x hx _ _ _ _ (State.WarmedH.refl s) (hz x hx), ⟨fun z hzz => ?_, fun z hzz => ?_⟩, rfl, Nat.le_refl _, fun q _ => rfl, fun a e he => ?_⟩
  · match c, hq with
    | 0, hq =>
      obtain rfl : (zR0, zT0, 9) = q := Option.some.inj hq
      exact k0
    | 1, hq =>
      obtain rfl : (zR1, zT1, 4) = q := Option.some.inj hq
      exact k1
    | 2, hq =>
      obtain rfl : (zR2, zT2, 8) = q := Option.some.inj hq
      exact k2
    | 3, hq =>
      obtain rfl : (zR3, zT3, 2) = q := Option.some.inj hq
      exact k3
    | 4, hq =>
      obtain rfl : (zR4, zT4, 3) = q := Option.some.inj hq
      exact k4
    | 5, hq =>
      obtain rfl : (zR5, zT5, 8) = q := Option.some.inj hq
      exact k5
    | 6, hq =>
      obtain rfl : (zR6, zT6, 4) = q := Option.some.inj hq
      exact k6
    | 7, hq =>
      obtain rfl : (zR7, zT7, 5) = q := Option.some.inj hq
      exact k7
    | 8, hq =>
      obtain rfl : (zR8, zT8, 4) = q := Option.some.inj hq
      exact k8
    | 9, hq =>
      obtain rfl : (zR9, zT9, 8) = q := Option.some.inj hq
      exact k9
    | 10, hq =>
      obtain rfl : (zR10, zT10, 38) = q := Option.some.inj hq
      exact k10
    | 11, hq =>
      obtain rfl : (zR11, zT11, 0) = q := Option.some.inj hq
      exact k11
    | 12, hq =>
      obtain rfl : (zR12, zT12, 0) = q := Option.some.inj hq
      exact k12
    | 13, hq =>
      obtain rfl : (zR13, zT13, 0) = q := Option.some.inj hq
      exact k13
    | n + 14, hq => simp at hq
  · simp only [List.mem_cons, List.not_mem_nil, or_false] at hzz
    rcases hzz with rfl | rfl | rfl
    · exact ⟨va_Zof (hts (.laysStatic Bundle.tN "UNASSIGNED_STACK" Bundle.steD) (by decide +kernel)) (hts (.initialized Bundle.tN) (by decide +kernel)) hvu hA, z_ls0 (hts (.laysStatic Bundle.tN "UNASSIGNED_STACK" Bundle.steD) (by decide +kernel))⟩
    · exact ⟨va_Zof (hts (.laysStatic Bundle.tN "SUPPRESSED_SENTINEL" Bundle.listD) (by decide +kernel)) (hts (.initialized Bundle.tN) (by decide +kernel)) hvs hA, z_ls0 (hts (.laysStatic Bundle.tN "SUPPRESSED_SENTINEL" Bundle.listD) (by decide +kernel))⟩
    · exact ⟨va_Zof (hts (.laysStatic "java/util/ArrayList" "DEFAULTCAPACITY_EMPTY_ELEMENTDATA" "[Ljava/lang/Object;") (by decide +kernel)) (hts (.initialized "java/util/ArrayList") (by decide +kernel)) hX hA, z_ls0 (hts (.laysStatic "java/util/ArrayList" "DEFAULTCAPACITY_EMPTY_ELEMENTDATA" "[Ljava/lang/Object;") (by decide +kernel))⟩
  · simp only [List.mem_cons, List.not_mem_nil, or_false] at hzz
    subst hzz
    exact hmi
  · simp only [z_w0] at he
    split at he
    · rename_i hax
      subst hax
      cases he
      refine ⟨Or.inr ⟨_, _, rfl, rfl⟩, cell, kB, comp, hcell, (fun k hk => by rw [hk] at hst; cases hst), hkn2, by rw [hcl]; exact o3, o4, ⟨o1, by rw [hcl]; exact o5⟩, hsz, fun j hj => absurd hj (Nat.not_lt_zero j)⟩
    · cases he
