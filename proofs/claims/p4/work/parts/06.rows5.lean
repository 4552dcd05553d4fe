section ZT
variable {p : Program} {l : Launch} {e : Env} {R : Room} {s : State} {m : MethodId} {args : Array Value} {below : List Frame} {meth : Method} {c : Code} {H : Heap} {locs : List Loc} {cells slots : Nat} {Q : State → Prop} {cc : ByteArray} {pc nL : Nat} {ls : Array Slot} {rest : List Value} {G : zG} {w : zW} {own : String} {res : zO × zW}
/-- the walk as if the invocation were made now -/
theorem z_rebase {T : State} (X : Stand p l e R s m args below meth c T locs cells slots) (hcl : cells ≤ R.cells) (hsl : slots ≤ R.slots) : Stand p l e { frames := R.frames, cells := R.cells - cells, slots := R.slots - slots, locals := R.locals } (T.setFrames (.invoking m args :: below)) m args below meth c T [] 0 0 := by
  obtain ⟨g₀, hfr⟩ := X.frames_eq
  have hcur : T.cur < T.threads.size := State.cur_lt_of_frames hfr
  have hf : (T.setFrames (.invoking m args :: below)).frames = .invoking m args :: below := State.frames_setFrames _ hcur
  obtain ⟨th, hth, -⟩ := State.frames_cons hfr
  have hr := X.room
  have hheap := X.heapSize
  have hused := X.used
  have hbook := X.book
  refine ⟨X.admits, X.cas, X.clock, hf, ?_, ?_, X.method', X.code, X.here, X.tail, State.WarmedH.refl _, by rw [State.stackLimits_setFrames], by rw [State.stackBytes_setFrames], ?_⟩
  · have h1 : (T.setFrames (.invoking m args :: below)).localsInUse = s.localsInUse := by
      rw [State.localsInUse_invoking X.frames X.method X.code, State.localsInUse_invoking hf (show (T.setFrames (.invoking m args :: below)).vm.method? m = some meth from X.method') X.code]
    have h2 : (T.setFrames (.invoking m args :: below)).frames.length = s.frames.length := by rw [hf, X.frames]
    have h3 : e.platform.stackLimits (T.setFrames (.invoking m args :: below)).me = e.platform.stackLimits s.me := by rw [State.stackLimits_setFrames]; exact X.limits
    have h4 : (T.setFrames (.invoking m args :: below)).me.stackBytes = s.me.stackBytes := by rw [State.stackBytes_setFrames]; exact X.bytes
    simp only [State.hasRoom, Bool.and_eq_true, decide_eq_true_eq] at hr ⊢
    rw [h1, h2, h3, h4]
    refine ⟨⟨⟨hr.1.1.1, ?_⟩, ?_⟩, hbook⟩
    · show T.heap.size + (R.cells - cells) ≤ _
      have := hr.1.1.2
      omega
    · show T.slotsUsed + (R.slots - slots) ≤ _
      have := hr.1.2
      omega
  · have hh := X.hears
    have hm : ∀ q, T.vm.method? q = s.vm.method? q := X.warmed.alike.method?
    cases below with
    | nil =>
      simp only [State.hears] at hh ⊢
      rw [show (T.setFrames [.invoking m args]).vm.method? m = s.vm.method? m from hm m]
      exact hh
    | cons f r =>
      cases f <;> simp only [State.hears, State.code?_eq] at hh ⊢ <;> first | (rw [show ∀ x, (T.setFrames x).vm.method? _ = s.vm.method? _ from fun _ => hm _]; exact hh) | exact hh
  · have h := (State.sameButNew.refl T hth)
    have h2 : (T.setFrames (.invoking m args :: below)).sameButNew T [] 0 0 := by
      obtain ⟨e1, e2, e3, e4, e5, e6⟩ := h
      refine ⟨?_, e2, e3, e4, e5, e6⟩
      rw [State.setFrames_setFrames, State.setFrames_self hth]
    exact h2
end ZT
