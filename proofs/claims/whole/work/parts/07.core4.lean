section MM5
variable {sc : mm_Sc} {y : mm_M} {d pc : Nat} {l : mm_L} {st : List Value} {n : Nat} {h : mm_H} {kc ks : Nat} {Q : mm_O → Nat → mm_H → Prop} {X : mm_X} {P : mm_P} {Z : mm_Z}
theorem mm_code_spec {y : mm_M} {a : Array Value} {s : State} {m : MethodId} (hn : s.methodNamed? y.1 = some m) (hw : (mm_code y).before a s = true) :
    ∃ meth c, s.vm.method? m = some meth ∧ meth.code = some c ∧ c.code = y.2.1 ∧ c.maxLocals = y.2.2.1 ∧ meth.sig.returnType = y.2.2.2.1 ∧ meth.locks = false ∧ (c.exceptionTable.toList.map fun z => (z.startPc, z.endPc, z.handlerPc, z.catchType)) = y.2.2.2.2 ∧ parseMethodDescriptor y.1.desc = some meth.sig := by
  obtain ⟨nm, bs, ml, rt, hs⟩ := y
  cases hs with
  | nil =>
    obtain ⟨meth, c, h1, h2, h3, h4, h5, h6, h7, h8⟩ := Cond.code_spec (x := nm) (bytes := bs) (maxLocals := ml) (ret := rt) hn hw
    exact ⟨meth, c, h1, h2, h3, h4, h5, h6, by rw [Array.isEmpty_iff.mp h7]; rfl, h8⟩
  | cons z zs =>
    obtain ⟨m', meth, c, q0, h1, h2, h3, h4, h5, h6, h7, h8⟩ := Cond.codeWith_spec (x := nm) (bytes := bs) (maxLocals := ml) (ret := rt) (handlers := z :: zs) hw
    cases Option.some.inj (hn.symm.trans q0)
    exact ⟨meth, c, h1, h2, h3, h4, h6, h7, h5, h8⟩
theorem mm_args_mem {as : List Value} (hc : ∀ v ∈ as, v.category = 1) : ∀ (k i : Nat) (v : Value), as[i]? = some v → (k + i, v) ∈ lv_args k as := by
  induction as with
  | nil => intro k i v h; simp at h
  | cons a as ih =>
    intro k i v h
    have ha : a.category = 1 := hc a List.mem_cons_self
    have ha2 : ¬ a.category = 2 := by omega
    cases i with
    | zero =>
      simp at h
      subst h
      simp [lv_args]
    | succ i =>
      simp at h
      have := ih (fun v hv => hc v (List.mem_cons_of_mem _ hv)) (k + 1) i v h
      rw [lv_args, if_neg ha2, show k + (i + 1) = k + 1 + i by omega]
      exact List.mem_cons_of_mem _ this
theorem mm_sl_len {as : List Value} (hc : ∀ v ∈ as, v.category = 1) : (lg_sl as).length = as.length := by
  induction as with
  | nil => rfl
  | cons a as ih =>
    have ha2 : ¬ a.category = 2 := by have := hc a List.mem_cons_self; omega
    have := ih (fun v hv => hc v (List.mem_cons_of_mem _ hv))
    simp only [lg_sl, List.flatMap_cons, if_neg ha2, List.length_append, List.length_cons, List.length_nil] at this ⊢
    omega
/-- a method's locals at its entry -/
abbrev mm_in (as : List Value) (ml : Nat) : mm_L := as.map some ++ List.replicate (ml - as.length) none
/-- a contract out of a walk -/
theorem mm_J.of {as : List Value} (hG : mm_G sc y d 0 (mm_in as y.2.2.1) [] n h kc ks Q) (hp : plainName y.1.cls = true) (hl : as.length ≤ y.2.2.1) (hc : ∀ v ∈ as, v.category = 1) : mm_J sc y d as n h kc ks Q := by
  intro X K
  refine MetFree.of_bodyS (code := y.2.1) (maxLocals := y.2.2.1) (ret := y.2.2.2.1) hp ?_ ?_
  · intro args s m hpre hn
    obtain ⟨meth, c, h1, h2, h3, h4, h5, h6, -, -⟩ := mm_code_spec hn (atoms_spec (ws := [mm_code y]) hpre _ List.mem_cons_self)
    exact ⟨meth, c, h1, h2, h3, h4, h5, h6⟩
  · intro p e s m args below meth c s₁ B hml hP _
    obtain ⟨rfl, hW, hgr, hHR⟩ := hP
    have hh0 : s₁.heap = s.heap := by rw [B.state]; rfl
    obtain ⟨meth', c', q1, q2, -, -, -, -, q7, -⟩ := mm_code_spec B.named (atoms_spec (ws := [mm_code y]) B.pre _ List.mem_cons_self)
    have Y := Stand.of_body B
    cases Option.some.inj (q1.symm.trans B.method)
    cases Option.some.inj (q2.symm.trans Y.code)
    have hlv := lv_entry as (n := y.2.2.1) (by rw [mm_sl_len hc]; exact hl)
    have key : ∀ q ∈ mm_lv (mm_in as y.2.2.1), q ∈ lv_args 0 as ∧ q.2.category = 1 := by
      rintro ⟨j, w⟩ hq
      rw [mm_lv_mem, List.getElem?_append] at hq
      split at hq
      · rw [List.getElem?_map] at hq
        cases hj : as[j]? with
        | none => rw [hj] at hq; cases hq
        | some v =>
          rw [hj] at hq
          cases hq
          have := mm_args_mem hc 0 j _ hj
          rw [Nat.zero_add] at this
          exact ⟨this, hc _ (List.mem_of_getElem? hj)⟩
      · rw [List.getElem?_replicate] at hq
        split at hq <;> cases hq
    have W0 := hG X (p, e, mm_rm d kc ks, s, m, as.toArray, below, meth, c) (s.heap, [], 0, 0, (lg_sl as ++ List.replicate (y.2.2.1 - (lg_sl as).length) Slot.unset).toArray)
      ⟨B.exec, B.bytes, hml, B.returns, B.notSynchronized, findClass_of_methodNamed B.named, (name_of_methodNamed B.named B.method).1, q7, hW, Nat.le_refl _, Nat.le_refl _, ⟨hgr, hHR.2.2.1⟩, K⟩
      ⟨hHR, by show 0 + kc ≤ kc; omega, by show 0 + ks ≤ ks; omega, fun q hq => by cases hq⟩
      ⟨⟨hlv.1, hlv.2.1, fun q hq => hlv.2.2 q (key q hq).1⟩, fun q hq => (key q hq).2⟩
    rw [← lg_entry_eq] at W0
    obtain ⟨t, a1, o, b1, b2, b3⟩ := W0 s₁ hh0 Y
    exact ⟨t, o, a1, b1, b2, b3⟩
/-- a call comes back, by an answer or by a throw -/
theorem mm_back (S : mm_S sc y d X P) {T : State} {locs : List Loc} {cells slots : Nat} (Y : Stand P.p X.l P.e P.R P.s P.m P.args P.below P.meth P.c T locs cells slots) {y' : mm_M} {d' kc' ks' : Nat} {as : List Value} {Q' : mm_O → Nat → mm_H → Prop}
    (J : mm_J sc y' d' as n h kc' ks' Q') (hd' : d' < d) (hm : y'.2.2.1 ≤ 16) (hw : mm_code y' ∈ lw_tbl) (hok : mm_ok (mm_code y') = true) (hini : Cond.initialized y'.1.cls ∈ lw_tbl) (hR : mm_HR X n h T.heap) (hc : cells + kc' ≤ P.R.cells) (hs : slots + ks' ≤ P.R.slots)
    {mk : MethodId} (hn : T.methodNamed? y'.1 = some mk) {g : JFrame} (hg : g.method = P.m) (hsize : g.locals.size = P.c.maxLocals) {ig : Instr} {len : Nat} (hdg : decode P.c.code g.pc = .ok (ig, len)) (hW : 2 * g.monitorRoom + (g.stack.map fun v => v.category).sum ≤ 8) :
    ∃ (mo : mm_O) (n' : Nat) (h' : mm_H) (T' : State) (L' : List Loc), Stand P.p X.l P.e P.R P.s P.m P.args P.below P.meth P.c T' (locs ++ L') (cells + kc') (slots + ks') ∧ Q' mo n' h' ∧ mm_HR X n' h' T'.heap ∧ (∀ q ∈ L', X.s0.heap.size ≤ q.base) ∧
      match mo with
      | .inl v => Steps P.p.tables P.e P.below (doInvoke P.e (T.setTop g) [] mk as.toArray).1 (T'.setTop { g with pc := g.pc + len, stack := v.toList ++ g.stack })
      | .inr k => ∃ (a : Addr) (cell : Cell), T'.heap[a]? = some cell ∧ cell.vm = .none ∧ X.s0.vm.findClass (mm_ex k) = some cell.cls ∧ Steps P.p.tables P.e P.below (doInvoke P.e (T.setTop g) [] mk as.toArray).1 ((T'.setTop g).pushFrame (.throwing a)) := by
  have hWt : X.s0.WarmedH T.vm := State.WarmedH.trans S.warm Y.warmed
  have hcode : (mm_code y').before as.toArray T = true := mm_words S.K hWt hw hok _
  obtain ⟨methY, cY, hmY, hcY, -, hlY, -, -, -, -⟩ := mm_code_spec hn hcode
  obtain ⟨kY, hkY, -⟩ := className_of_methodNamed hn
  have hinitY : kY.init = .initialized := Cond.initialized_spec (findClass_of_methodNamed hn) hkY (mm_words (a := as.toArray) S.K hWt hini rfl)
  have hAt : At T g.method P.c P.below := by rw [hg]; exact Y.here
  have hfrm : d' + 1 ≤ P.R.frames := Nat.le_trans hd' S.frames
  have hloc : 35 * d ≤ P.R.locals := S.locals
  have happ : (headSpec [mm_code y'] (mm_rm d' kc' ks')).appliesLoose y'.1 P.e.platform (T.calling g mk as.toArray) = true :=
    Spec.appliesLoose_calling (g := g) hAt hdg hn hkY hinitY
      (Y.room_calling (g := g) (R' := mm_rm d' kc' ks') hsize hmY hcY hfrm (by rw [hlY]; show _ + (35 * d') ≤ _; omega) hc hs) (atoms_intro fun w hw => by rw [List.mem_singleton.mp hw]; exact hcode)
  obtain ⟨mid, hmid⟩ := hAt.above
  have hfr : (T.setTop g).frames = (.java g :: mid) ++ P.below := by rw [State.frames_setTop' g hAt.top, hmid]; rfl
  have hgrown : X.s0.heap.size ≤ T.heap.size := by rw [hR.1]; exact hR.2.1
  obtain ⟨o, s₂, hsteps, -, hend, hq⟩ := Steps.callFree (J X S.K) P.p Y.admits Y.cas Y.clock (acts := []) hfr happ ⟨rfl, hWt, hgrown, hR⟩ trivial
  rw [State.frames_setTop' g hAt.top] at hend
  obtain ⟨mo, n', h', hor, hq', hHR, hW₂, L', hsame0, hL⟩ := hq
  obtain ⟨e2, q2, q3, q4, q5, q6⟩ := hsame0
  have e3 : s₂ = ({ (T.calling g mk as.toArray).setFrames s₂.frames with heap := s₂.heap, slotsUsed := s₂.slotsUsed } : State).setVm s₂.vm := by
    have h9 : s₂ = ({ s₂ with vm := (T.calling g mk as.toArray).vm } : State).setVm s₂.vm := rfl
    rw [show ({ s₂ with vm := (T.calling g mk as.toArray).vm } : State) = _ from e2] at h9
    exact h9
  have hW' : T.WarmedH s₂.vm := hW₂
  obtain ⟨g₀, hg0⟩ := Option.isSome_iff_exists.mp hAt.top
  obtain ⟨r, hr⟩ := State.topJava?_eq_some.mp hg0
  have hr' : (({ T with heap := s₂.heap, slotsUsed := s₂.slotsUsed } : State).setVm s₂.vm).frames = .java g₀ :: r := hr
  have hsame : T.sameButNew ({ T with heap := s₂.heap, slotsUsed := s₂.slotsUsed } : State) L' kc' ks' := by
    refine ⟨?_, q2, q3, q4, q5, q6⟩
    obtain ⟨t, ht, -⟩ := State.frames_cons hr
    show ({ T with heap := s₂.heap, slotsUsed := s₂.slotsUsed } : State) = { T.setFrames T.frames with heap := s₂.heap, slotsUsed := s₂.slotsUsed }
    rw [State.setFrames_self ht]
  refine ⟨mo, n', h', (({ T with heap := s₂.heap, slotsUsed := s₂.slotsUsed } : State).setVm s₂.vm), L',
    ⟨Y.admits, Y.cas, Y.clock, Y.frames, Y.room, Y.hears, Y.method, Y.code, (Y.here.setHeapUsed s₂.heap s₂.slotsUsed).setVm hW'.alike, Y.tail, State.WarmedH.trans Y.warmed hW', Y.limits, Y.bytes, Y.same.trans (hsame.setVm P.s.vm)⟩, hq', hHR, hL, ?_⟩
  cases mo with
  | inl v =>
    have ho : o = .returned v := hor
    subst ho
    obtain ⟨c₂, i₂, len₂, hc₂, hd₂, hf₂⟩ := hend
    have hcc : c₂ = P.c := by
      have h1 : s₂.code? g.method = T.code? g.method := by
        rw [State.code?_eq, State.code?_eq, hW'.alike.method?]
      exact Option.some.inj (hc₂.symm.trans (h1.trans hAt.code))
    subst hcc
    have hlen : len₂ = len := by rw [hdg] at hd₂; cases hd₂; rfl
    subst hlen
    have hs₂ : s₂ = (({ T with heap := s₂.heap, slotsUsed := s₂.slotsUsed } : State).setVm s₂.vm).setTop { g with pc := g.pc + len₂, stack := v.toList ++ g.stack } := by
      refine e3.trans ?_
      rw [hf₂, State.calling_eq hAt.top, State.setFrames_setFrames, State.setTop_of_frames _ hr', hr]
      rfl
    show Steps _ _ _ _ ((({ T with heap := s₂.heap, slotsUsed := s₂.slotsUsed } : State).setVm s₂.vm).setTop { g with pc := g.pc + len₂, stack := v.toList ++ g.stack })
    rw [← hs₂]
    exact hsteps
  | inr k =>
    obtain ⟨a, cell, ho, h1, h2, h3⟩ := hor
    subst ho
    refine ⟨a, cell, h1, h2, h3, ?_⟩
    have hf₂ : s₂.frames = .throwing a :: .java g :: T.frames.tail := hend
    have hs₂ : s₂ = ((({ T with heap := s₂.heap, slotsUsed := s₂.slotsUsed } : State).setVm s₂.vm).setTop g).pushFrame (.throwing a) := by
      refine e3.trans ?_
      rw [hf₂, State.calling_eq hAt.top, State.setFrames_setFrames, State.pushFrame, State.frames_setTop _ hr', State.setTop_of_frames _ hr', State.setFrames_setFrames, hr]
      rfl
    rw [← hs₂]
    exact hsteps
/-- what comes behind a throw over the frame at pc -/
def mm_Th (sc : mm_Sc) (y : mm_M) (d pc : Nat) (l : mm_L) (n : Nat) (h : mm_H) (kc ks : Nat) (Q : mm_O → Nat → mm_H → Prop) (k : Nat) : Prop :=
  ∀ (X : mm_X) (P : mm_P) (Z : mm_Z), mm_S sc y d X P → mm_R X n h kc ks P Z → mm_LR y l Z → ∀ (T : State) (st : List Value) (a : Addr) (cell : Cell), T.heap = Z.H → Stand P.p X.l P.e P.R P.s P.m P.args P.below P.meth P.c T Z.locs Z.cells Z.slots → T.heap[a]? = some cell → cell.vm = .none → X.s0.vm.findClass (mm_ex k) = some cell.cls →
    ∃ t, Steps P.p.tables P.e P.below ((T.setTop (F0 P.m pc Z.ls st)).pushFrame (.throwing a)) t ∧ mm_E X P Q t
theorem mm_Th.out {k : Nat} (hh : y.2.2.2.2 = []) (hq : Q (.inr k) n h) : mm_Th sc y d pc l n h kc ks Q k := by
  intro X P Z S R E T st a cell hT Y h1 h2 h3
  have hno : ∀ x ∈ P.c.exceptionTable.toList, covers x (F0 P.m pc Z.ls st).pc = false := by
    have h9 := S.hand
    rw [hh] at h9
    intro x hx
    rw [List.map_eq_nil_iff.mp h9] at hx
    cases hx
  obtain ⟨w1, w2, w3, w4, w5⟩ := Y.leaveThrown a (g := F0 P.m pc Z.ls st) rfl rfl rfl hno S.locks
  exact ⟨_, w1, .threw a, w2, w3, .inr k, n, h, ⟨a, cell, rfl, h1, h2, h3⟩, hq, (by show mm_HR X n h T.heap; rw [hT]; exact R.1), w4, Z.locs, w5.mono (Nat.le_trans (Nat.le_add_right _ _) R.2.1) (Nat.le_trans (Nat.le_add_right _ _) R.2.2.1), R.2.2.2⟩
/-- the machine comes from the invoking instruction to the invocation of y' with as, rest left on the stack -/
def mm_Inv (sc : mm_Sc) (y : mm_M) (d pc : Nat) (n : Nat) (h : mm_H) (st0 rest as : List Value) (y' : mm_M) : Prop :=
  ∀ (X : mm_X) (P : mm_P), mm_S sc y d X P → ∀ (T : State) (ls : Array Slot) (locs : List Loc) (cells slots : Nat), mm_HR X n h T.heap → Stand P.p X.l P.e P.R P.s P.m P.args P.below P.meth P.c T locs cells slots →
    ∃ (mk : MethodId) (vm₁ : Vm), P.s.methodNamed? y'.1 = some mk ∧ Stand P.p X.l P.e P.R P.s P.m P.args P.below P.meth P.c (T.setVm vm₁) locs cells slots ∧
      ∀ target, (∀ acts, Steps P.p.tables P.e P.below (doInvoke P.e ((T.setVm vm₁).setTop (F0 P.m pc ls rest)) acts mk as.toArray).1 target) → Steps P.p.tables P.e P.below (T.setTop (F0 P.m pc ls st0)) target
/-- THE CALL -/
theorem mm_call {y' : mm_M} {d' kc' ks' : Nat} {st0 as : List Value} {Q' : mm_O → Nat → mm_H → Prop} {ig : Instr} (hd : decode y.2.1 pc = .ok (ig, 3)) (hI : mm_Inv sc y d pc n h st0 st as y') (J : mm_J sc y' d' as n h kc' ks' Q') (hd' : d' < d) (hm : y'.2.2.1 ≤ 16) (hw : mm_code y' ∈ lw_tbl) (hok : mm_ok (mm_code y') = true) (hini : Cond.initialized y'.1.cls ∈ lw_tbl) (hst : (st.map fun v => v.category).sum ≤ 8)
    (kr : ∀ v n' h', Q' (.inl v) n' h' → mm_G sc y d (pc + 3) l (v.toList ++ st) n' h' kc ks Q)
    (kt : ∀ k n' h', Q' (.inr k) n' h' → mm_Th sc y d pc l n' h' kc ks Q k) : mm_G sc y d pc l st0 n h (kc + kc') (ks + ks') Q := by
  intro X P Z S R E T hT Y
  obtain ⟨hHR, hc, hs, hlo⟩ := R
  have hHR' : mm_HR X n h T.heap := by rw [hT]; exact hHR
  obtain ⟨mk, vm₁, hnm, Y₁, hstep⟩ := hI X P S T Z.ls Z.locs Z.cells Z.slots hHR' Y
  obtain ⟨mo, n', h', T', L', Y', hq', hHR2, hL, hrun⟩ := mm_back (cells := Z.cells) (slots := Z.slots) S Y₁ J hd' hm hw hok hini (show mm_HR X n h (T.setVm vm₁).heap from hHR') (by omega) (by omega) (Y₁.named hnm) (g := F0 P.m pc Z.ls st) rfl (by rw [S.ml]; exact E.1.1) (ig := ig) (len := 3) (by rw [S.2.1]; exact hd) (by show 2 * 0 + (st.map fun v => v.category).sum ≤ 8; omega)
  have hlo' : ∀ q ∈ Z.locs ++ L', X.s0.heap.size ≤ q.base := fun q hq => by
    rcases List.mem_append.mp hq with h9 | h9
    · exact hlo q h9
    · exact hL q h9
  have R' : mm_R X n' h' kc ks P (T'.heap, Z.locs ++ L', Z.cells + kc', Z.slots + ks', Z.ls) := ⟨hHR2, by show Z.cells + kc' + kc ≤ _; omega, by show Z.slots + ks' + ks ≤ _; omega, hlo'⟩
  cases mo with
  | inl v =>
    obtain ⟨t, a1, b1⟩ := kr v n' h' hq' X P (T'.heap, Z.locs ++ L', Z.cells + kc', Z.slots + ks', Z.ls) S R' E T' rfl Y'
    exact ⟨t, hstep _ (fun acts => by rw [doInvoke_state]; exact hrun.trans a1), b1⟩
  | inr k =>
    obtain ⟨a, cell, c1, c2, c3, hrun⟩ := hrun
    obtain ⟨t, a1, b1⟩ := kt k n' h' hq' X P (T'.heap, Z.locs ++ L', Z.cells + kc', Z.slots + ks', Z.ls) S R' E T' st a cell rfl Y' c1 c2 c3
    exact ⟨t, hstep _ (fun acts => by rw [doInvoke_state]; exact hrun.trans a1), b1⟩
/-- invokestatic -/
theorem mm_Inv.sta {y' : mm_M} {as st0 : List Value} {i : Nat} (hd : decode y.2.1 pc = .ok (.invokestatic i, 3)) (hl : Cond.methodLink y.1.cls i y'.1 ∈ lw_tbl ∨ ∃ host, Cond.methodLinkNest y.1.cls i y'.1 host ∈ lw_tbl) (hs : Cond.static y'.1 ∈ lw_tbl) (hw : mm_code y' ∈ lw_tbl) (hok : mm_ok (mm_code y') = true) (hini : Cond.initialized y'.1.cls ∈ lw_tbl) (hy : y'.1.cls ≠ "java/lang/invoke/MethodHandle" ∧ y'.1.cls ≠ "java/lang/invoke/VarHandle")
    (hlen : (parseMethodDescriptor y'.1.desc).map (fun z => z.parameters.length) = some as.length) (hst : st0 = as.reverse ++ st) : mm_Inv sc y d pc n h st0 st as y' := by
  intro X P S T ls locs cells slots hHR Y
  obtain ⟨mk, hnm⟩ := mm_named (S.w hw hok)
  obtain ⟨meth, c, h1, h2, -, -, -, -, -, hsig⟩ := mm_code_spec hnm (S.w hw hok)
  have hstatic : meth.isStatic = true := Cond.static_spec hnm h1 (S.w hs rfl)
  obtain ⟨kP, hkP, -⟩ := className_of_methodNamed hnm
  have hinitP : kP.init = .initialized := Cond.initialized_spec (findClass_of_methodNamed hnm) hkP (S.w hini rfl)
  have hlen' : as.length = meth.sig.parameters.length := by rw [hsig] at hlen; simpa using hlen.symm
  rcases hl with hl | ⟨host, hl⟩
  · obtain ⟨vm₁, X₁, hstep₁⟩ := Y.invokestatic S.1 S.own (S.w hl rfl) hnm h1 hstatic hkP hinitP hy (g := F0 P.m pc ls st0) rfl (argsL := as) (rest := st) hlen' hst (by rw [S.2.1]; exact hd)
    exact ⟨mk, vm₁, hnm, X₁, hstep₁⟩
  · obtain ⟨vm₁, X₁, hstep₁⟩ := Y.invokestaticNest S.1 S.own (S.w hl rfl) hnm h1 hstatic hkP hinitP hy (g := F0 P.m pc ls st0) rfl (argsL := as) (rest := st) hlen' hst (by rw [S.2.1]; exact hd)
    exact ⟨mk, vm₁, hnm, X₁, hstep₁⟩
/-- invokespecial of a constructor -/
theorem mm_Inv.sp {y' : mm_M} {as st0 : List Value} {i a : Nat} (hd : decode y.2.1 pc = .ok (.invokespecial i, 3)) (hl : Cond.methodLink y.1.cls i y'.1 ∈ lw_tbl ∨ ∃ host, Cond.methodLinkNest y.1.cls i y'.1 host ∈ lw_tbl) (hi : Cond.instanceMethod y'.1 ∈ lw_tbl) (hw : mm_code y' ∈ lw_tbl) (hcd : mm_code y' = .code y'.1 y'.2.1 y'.2.2.1 none) (hy : y'.1.cls ≠ "java/lang/invoke/MethodHandle" ∧ y'.1.cls ≠ "java/lang/invoke/VarHandle") (hin : y'.1.name = "<init>")
    (hlen : (parseMethodDescriptor y'.1.desc).map (fun z => z.parameters.length) = some as.length) (hst : st0 = as.reverse ++ .ref a :: st) : mm_Inv sc y d pc n h st0 st (.ref a :: as) y' := by
  intro X P S T ls locs cells slots hHR Y
  have hpl : P.e.platform.magicAccessors = ({} : Platform).magicAccessors := by rw [Y.admits.platform]
  have hcode : (Cond.code y'.1 y'.2.1 y'.2.2.1 none).before P.args P.s = true := S.w (by rw [← hcd]; exact hw) rfl
  have hlen' : ∀ sig, parseMethodDescriptor y'.1.desc = some sig → as.length = sig.parameters.length := fun sig h9 => by rw [h9] at hlen; simpa using hlen.symm
  rcases hl with hl | ⟨host, hl⟩
  · obtain ⟨mk, methM, cM, kP, vm₁, hnm, -, -, -, -, -, -, -, hW₁, hstep₁⟩ := Steps.initColdArgs (e := P.e) Y.here S.1 Y.warmed hpl S.own hin hy (S.w hl rfl) (S.w hi rfl) hcode (f := F0 P.m pc ls st0) rfl (argsL := as) (a := a) (rest := st) hlen' hst (by rw [S.2.1]; exact hd)
    exact ⟨mk, vm₁, hnm, Y.noted hW₁, hstep₁⟩
  · obtain ⟨mk, methM, cM, kP, vm₁, hnm, -, -, -, -, -, -, -, hW₁, hstep₁⟩ := Steps.initColdArgsNest (e := P.e) Y.here S.1 Y.warmed hpl S.own hin hy (S.w hl rfl) (S.w hi rfl) hcode (f := F0 P.m pc ls st0) rfl (argsL := as) (a := a) (rest := st) hlen' hst (by rw [S.2.1]; exact hd)
    exact ⟨mk, vm₁, hnm, Y.noted hW₁, hstep₁⟩
/-- invokevirtual of a method of the receiver's own class -/
theorem mm_Inv.vi {y' : mm_M} {as st0 : List Value} {i a ci N : Nat} {C : String} {T : u_T} {fs : List Value} (hd : decode y.2.1 pc = .ok (.invokevirtual i, 3)) (hl : Cond.methodLink y.1.cls i y'.1 ∈ lw_tbl ∨ ∃ host, Cond.methodLinkNest y.1.cls i y'.1 host ∈ lw_tbl) (hi : Cond.instanceMethod y'.1 ∈ lw_tbl) (hw : mm_code y' ∈ lw_tbl) (hok : mm_ok (mm_code y') = true) (hsl : Cond.selects C y'.1 y'.1 ∈ lw_tbl) (hy : y'.1.cls ≠ "java/lang/invoke/MethodHandle" ∧ y'.1.cls ≠ "java/lang/invoke/VarHandle")
    (hlen : (parseMethodDescriptor y'.1.desc).map (fun z => z.parameters.length) = some as.length) (hC : mm_Cl ci C T N) (hc : h a = some (.inr (ci, fs))) (hst : st0 = as.reverse ++ .ref a :: st) : mm_Inv sc y d pc n h st0 st (.ref a :: as) y' := by
  intro X P S T ls locs cells slots hHR Y
  obtain ⟨mk, methM, hnamed, hmethM, hstM, habM⟩ := Cond.instanceMethod_spec (S.w hi rfl)
  obtain ⟨methM', cM, hmethM', -, -, -, -, -, -, hsigM⟩ := mm_code_spec hnamed (S.w hw hok)
  cases Option.some.inj (hmethM.symm.trans hmethM')
  obtain ⟨cellB, g1, g2, g3⟩ := va_recv S.kn (hHR.p1 hc) hC.1 (q0 := 0) rfl
  obtain ⟨c2, r2, m2, q1, q2, q3, q4, kP, hkP, hkPi⟩ := Cond.selects_spec (S.w hsl rfl)
  cases Option.some.inj (g3.symm.trans q1)
  cases Option.some.inj ((State.methodFound?_of_named hnamed hy).symm.trans q2)
  cases Option.some.inj (hnamed.symm.trans q3)
  have hselP : selectMethod P.e.platform P.s.vm cellB.cls mk = .method mk := by rw [Launch.admits_selectMethod Y.admits]; exact q4
  have hlen' : as.length = methM.sig.parameters.length := by rw [hsigM] at hlen; simpa using hlen.symm
  rcases hl with hl | ⟨host, hl⟩
  · obtain ⟨vm₁, X₁, hstep₁⟩ := Y.invokevirtual S.1 S.own (S.w hl rfl) hnamed hmethM hstM hkP hkPi hy (a := a) (cell := cellB) g1 (fun z h9 => by rw [h9] at g2; cases g2) hselP hmethM habM hkP hkPi (g := F0 P.m pc ls st0) rfl (argsL := as) (rest := st) hlen' hst (by rw [S.2.1]; exact hd)
    exact ⟨mk, vm₁, hnamed, X₁, hstep₁⟩
  · obtain ⟨vm₁, X₁, hstep₁⟩ := Y.invokevirtualNest S.1 S.own (S.w hl rfl) hnamed hmethM hstM hkP hkPi hy (a := a) (cell := cellB) g1 (fun z h9 => by rw [h9] at g2; cases g2) hselP hmethM habM hkP hkPi (g := F0 P.m pc ls st0) rfl (argsL := as) (rest := st) hlen' hst (by rw [S.2.1]; exact hd)
    exact ⟨mk, vm₁, hnamed, X₁, hstep₁⟩
/-- invokevirtual of a method that is declared above: x is what the instruction names, owner declares it, y' is what the receiver's class selects -/
theorem mm_Inv.up {y' : mm_M} {x : MethodName} {owner : String} {as st0 : List Value} {i a ci N : Nat} {C : String} {T : u_T} {fs : List Value} (hd : decode y.2.1 pc = .ok (.invokevirtual i, 3)) (hl : Cond.methodLink y.1.cls i x ∈ lw_tbl) (hsm : Cond.sameMethod x.cls owner x.name x.desc ∈ lw_tbl) (hdc : Cond.declares ⟨owner, x.name, x.desc⟩ ∈ lw_tbl ∨ (Cond.instanceMethod ⟨owner, x.name, x.desc⟩ ∈ lw_tbl ∧ ∃ b0 m0 r0, Cond.code ⟨owner, x.name, x.desc⟩ b0 m0 r0 ∈ lw_tbl)) (ho : owner ≠ "java/lang/invoke/MethodHandle" ∧ owner ≠ "java/lang/invoke/VarHandle")
    (hi : Cond.instanceMethod y'.1 ∈ lw_tbl) (hsl : Cond.selects C x y'.1 ∈ lw_tbl) (hlen : (parseMethodDescriptor x.desc).map (fun z => z.parameters.length) = some as.length) (hC : mm_Cl ci C T N) (hc : h a = some (.inr (ci, fs))) (hst : st0 = as.reverse ++ .ref a :: st) : mm_Inv sc y d pc n h st0 st (.ref a :: as) y' := by
  intro X P S T ls locs cells slots hHR Y
  obtain ⟨r0, r, hn, hrm, hstR, hsigR⟩ : va_Decl P.s ⟨owner, x.name, x.desc⟩ := by
    rcases hdc with h9 | ⟨h9, b0, m0, r0, h8⟩
    · exact va_Decl.abs (va_Nw.of rfl (S.w h9 rfl))
    · exact va_Decl.of (S.w h9 rfl) (S.w h8 rfl)
  obtain ⟨cn, ck, r1, hcn, hck, hni, hf, hn1⟩ := Cond.sameMethod_found (S.w hsm rfl)
  cases Option.some.inj (hn.symm.trans hn1)
  obtain ⟨mk, methM, hnamed, hmethM, -, habM⟩ := Cond.instanceMethod_spec (S.w hi rfl)
  obtain ⟨cellB, g1, g2, g3⟩ := va_recv S.kn (hHR.p1 hc) hC.1 (q0 := 0) rfl
  obtain ⟨c2, r2, m2, q1, q2, q3, q4, kP, hkP, hkPi⟩ := Cond.selects_spec (S.w hsl rfl)
  cases Option.some.inj (g3.symm.trans q1)
  cases Option.some.inj (hf.symm.trans q2)
  cases Option.some.inj (hnamed.symm.trans q3)
  have hselP : selectMethod P.e.platform P.s.vm cellB.cls r0 = .method mk := by rw [Launch.admits_selectMethod Y.admits]; exact q4
  have hlen' : as.length = r.sig.parameters.length := by rw [hsigR] at hlen; simpa using hlen.symm
  obtain ⟨vm₁, X₁, hstep₁⟩ := Y.invokevirtualUp S.1 S.own (S.w hl rfl) (S.w hsm rfl) ho hn hrm hstR (a := a) (cell := cellB) g1 (fun z h9 => by rw [h9] at g2; cases g2) hselP hmethM habM hkP hkPi (g := F0 P.m pc ls st0) rfl (argsL := as) (rest := st) hlen' hst (by rw [S.2.1]; exact hd)
  exact ⟨mk, vm₁, hnamed, X₁, hstep₁⟩
end MM5
