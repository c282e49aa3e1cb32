section MM6
variable {p : Program} {lc : Launch} {e : Env} {R : Room} {s : State} {m : MethodId} {args : Array Value} {below : List Frame} {meth : Method} {c : Code} {T : State} {locs : List Loc} {cells slots : Nat}
/-- the walk seen from the point where it stands: as if the method had just been invoked there -/
theorem mm_rebase (Y : Stand p lc e R s m args below meth c T locs cells slots) {R' : Room} (h1 : R'.frames ≤ R.frames) (h2 : R'.locals ≤ R.locals) (h3 : cells + R'.cells ≤ R.cells) (h4 : slots + R'.slots ≤ R.slots) :
    Stand p lc e R' (T.setFrames (.invoking m args :: below)) m args below meth c T [] 0 0 := by
  obtain ⟨g₀, hfr⟩ := Y.frames_eq
  have hcur : T.cur < T.threads.size := State.cur_lt_of_frames hfr
  obtain ⟨t, ht, -⟩ := State.frames_cons hfr
  have hF : (T.setFrames (.invoking m args :: below)).frames = .invoking m args :: below := State.frames_setFrames _ hcur
  have hm' : (T.setFrames (.invoking m args :: below)).vm.method? m = some meth := Y.method'
  have hlim : e.platform.stackLimits (T.setFrames (.invoking m args :: below)).me = e.platform.stackLimits T.me := by rw [State.stackLimits_setFrames]
  have hby : (T.setFrames (.invoking m args :: below)).me.stackBytes = T.me.stackBytes := by rw [State.stackBytes_setFrames]
  refine ⟨Y.admits, Y.cas, Y.clock, hF, ?_, ?_, hm', Y.code, Y.here, Y.tail, State.WarmedH.refl _, hlim.symm, hby.symm, ?_⟩
  · obtain ⟨r1, r2, r3, r4⟩ := State.hasRoom_stack Y.room
    have r5 := State.hasRoom_real Y.room
    have hr := Y.room
    simp only [State.hasRoom, Bool.and_eq_true, decide_eq_true_eq] at hr
    rw [State.localsInUse_invoking Y.frames Y.method Y.code] at r3 r4 r5
    rw [Y.frames, List.length_cons] at r1 r2
    have hU := State.localsInUse_invoking hF hm' Y.code
    simp only [State.hasRoom, Bool.and_eq_true, decide_eq_true_eq, hF, hU, List.length_cons, hlim, hby, Y.limits, Y.bytes]
    refine ⟨⟨⟨⟨by omega, by omega, by omega, by omega, by omega, hr.1.1.1.2.2.2.2.2⟩, ?_⟩, ?_⟩, Y.book⟩
    · have h9 := Y.cellsAbove h3
      exact h9
    · have h9 := Y.slotsAbove h4
      exact h9
  · have hh := Y.hears
    have ha := Y.warmed.alike
    rcases below with _ | ⟨y, r⟩
    · simp only [State.hears] at hh ⊢
      rw [Y.method] at hh
      rw [hm']
      exact hh
    · cases y
      case java g =>
        simp only [State.hears, State.code?_eq] at hh ⊢
        rw [show (T.setFrames (.invoking m args :: .java g :: r)).vm.method? g.method = s.vm.method? g.method from ha.method? _]
        exact hh
      case native g => rfl
      case proc g => rfl
      all_goals
        simp only [State.hears] at hh ⊢
        rw [Y.method] at hh
        rw [hm']
        exact hh
  · obtain ⟨t', ht', -⟩ := State.frames_cons hF
    have h9 := (State.sameButNew.refl (T.setFrames (.invoking m args :: below)) ht').setFrames T.frames (State.cur_lt_of_frames hF)
    rw [State.setFrames_setFrames, State.setFrames_self ht] at h9
    exact h9
end MM6
