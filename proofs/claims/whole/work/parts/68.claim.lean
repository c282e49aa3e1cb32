/-- places that lie behind the old heap count for nothing -/
theorem law_sift {s u : State} {P : List Loc} {k n : Nat} (h : s.sameButNew u P k n) (hP : ∀ q ∈ P, s.heap.size ≤ q.base) : s.sameButNew u [] k n := by
  obtain ⟨h1, h2, h3, h4, h5, h6⟩ := h
  refine ⟨h1, h2, h3, h4, h5, fun a c hc => ?_⟩
  obtain ⟨c', q1, q2, q3, q4⟩ := h6 a c hc
  exact ⟨c', q1, q2, q3, fun i _ => q4 i (fun hm => absurd (Array.getElem?_eq_some_iff.mp hc).1 (Nat.not_lt.mpr (hP _ hm)))⟩
theorem law_K {s : State} {b L : Nat} {xs : Nat → Int32} {l : Launch} (hT : l.stackTraces = false) (hts : ∀ w ∈ lw_tbl, w.before #[Value.ref b] s = true) (hX : va_X b L xs s s.heap) (hbl : b < s.heap.size) (hgv : (Jvm.Cond.and given_1 narrow_1).before #[Value.ref b] s = true) : ∃ (D : va_G) (dA : Nat → ClassId), mm_K (b, L, xs) (l, s, #[Value.ref b], D, dA) := by
  obtain ⟨c0, i0, k0⟩ := u_known (C := "SystemParts") (T := T_SP) (N := 6) (n := 6) hts (fun w hw => (cl_SP.2 w hw).1) (hts _ m_20)
  obtain ⟨c1, i1, k1⟩ := u_known (C := "SystemParts$Lines") (T := T_Lines) (N := 5) (n := 5) hts (fun w hw => (cl_Lines.2 w hw).1) (hts _ m_30)
  obtain ⟨c2, i2, k2⟩ := u_known (C := "SystemParts$Seat") (T := T_Seat) (N := 4) (n := 4) hts (fun w hw => (cl_Seat.2 w hw).1) (hts _ m_248)
  obtain ⟨c3, i3, k3⟩ := u_known (C := "SystemParts$Cells") (T := T_Cells) (N := 3) (n := 3) hts (fun w hw => (cl_Cells.2 w hw).1) (hts _ m_273)
  obtain ⟨c4, i4, k4⟩ := u_known (C := "SystemParts$Timer") (T := T_Timer) (N := 5) (n := 5) hts (fun w hw => (cl_Timer.2 w hw).1) (hts _ m_295)
  obtain ⟨c5, i5, k5⟩ := u_known (C := "SystemParts$Serial") (T := T_Serial) (N := 9) (n := 9) hts (fun w hw => (cl_Serial.2 w hw).1) (hts _ m_314)
  obtain ⟨c6, i6, k6⟩ := u_known (C := "SystemParts$Rows") (T := T_Rows) (N := 8) (n := 8) hts (fun w hw => (cl_Rows.2 w hw).1) (hts _ m_348)
  obtain ⟨c7, i7, k7⟩ := u_known (C := "SystemParts$Counts") (T := T_Counts) (N := 2) (n := 2) hts (fun w hw => (cl_Counts.2 w hw).1) (hts _ m_377)
  obtain ⟨c8, i8, k8⟩ := u_known (C := "SystemPartsModel") (T := T_Model) (N := 25) (n := 25) hts (fun w hw => (cl_Model.2 w hw).1) (hts _ m_666)
  obtain ⟨a0, A0, p0, f0, g0, q0⟩ := Cond.arrayClass_spec (hts _ m_52)
  obtain ⟨a1, A1, p1, f1, g1, q1⟩ := Cond.arrayClass_spec (hts _ m_884)
  obtain ⟨a2, A2, p2, f2, g2, q2⟩ := Cond.arrayClass_spec (hts _ m_747)
  obtain ⟨p3, a3, A3, f3, -, g3, q3, n3⟩ := Cond.arrayOver_spec (hts _ m_28)
  refine ⟨(fun k => match k with | 0 => c0 | 1 => c1 | 2 => c2 | 3 => c3 | 4 => c4 | 5 => c5 | 6 => c6 | 7 => c7 | _ => c8, fun k => match k with | 0 => i0 | 1 => i1 | 2 => i2 | 3 => i3 | 4 => i4 | 5 => i5 | 6 => i6 | 7 => i7 | _ => i8), fun t => match t with | 0 => a0 | 1 => a1 | 2 => a2 | _ => a3, hts, ⟨fun k q hq => ?_, fun k q h => by simp at h⟩, fun t ht => ?_, hX, hbl, hT, hgv⟩
  · match k, hq with
    | 0, hq => cases hq; exact k0
    | 1, hq => cases hq; exact k1
    | 2, hq => cases hq; exact k2
    | 3, hq => cases hq; exact k3
    | 4, hq => cases hq; exact k4
    | 5, hq => cases hq; exact k5
    | 6, hq => cases hq; exact k6
    | 7, hq => cases hq; exact k7
    | 8, hq => cases hq; exact k8
    | k + 9, hq => simp [vwCl] at hq
  · match t, ht with
    | 0, _ => exact ⟨fun N z => ⟨fun k h => (by cases h), A0, g0, p0, q0⟩, f0⟩
    | 1, _ => exact ⟨fun N z => ⟨fun k h => (by cases h), A1, g1, p1, q1⟩, f1⟩
    | 2, _ => exact ⟨fun N z => ⟨fun k h => (by cases h), A2, g2, p2, q2⟩, f2⟩
    | 3, _ => exact ⟨fun N z => ⟨fun k h => (by cases h), A3, g3, p3, q3⟩, A3, p3, g3, q3, f3, n3⟩
    | t + 4, ht => exact absurd ht (by omega)
/-! THE CLAIM OUT OF ONE WALK OF THE LAW'S BODY. Your part is whole_start (and what it stands on); all else here is the same for every law, but numbers. -/
def R_law : String := "SystemPartsLaw"
def lw_P (b : Addr) (xs : List Int32) (args : Array Value) (s : State) : Prop := args = #[.ref b] ∧ s.IntsAt b xs ∧ xs.length ≤ 3072 ∧ (Jvm.Cond.and given_1 narrow_1).before args s = true
def lw_Q (_ : Array Value) (s : State) (o : Outcome) (t : State) : Prop := o = .returned (some (.int 1)) ∧ Framed s o t [] 601024 7293034
def lw_Z (below : List Frame) (a : Array Value) (s : State) : State → Prop := fun t => ∃ o, t.status = .running ∧ Ended t below o ∧ lw_Q a s o t
/-- the law's own end, with 1 on the stack, nothing written that was there before, its room as the claim has it -/
theorem lw_ret {p : Program} {l : Launch} {e : Env} {s : State} {m : MethodId} {below : List Frame} {meth : Method} {c : Code} {b : Nat} (hx : p.tables.exec = Jvm.exec) (hb : c.code = code) (hr : meth.sig.returnType = ret) (hlocks : meth.locks = false) {pc : Nat} {H : Heap} {ls : Array Slot} (hdg : decode code pc = .ok (.ireturn, 1)) : W p l e room_1 s m #[Value.ref b] below meth c H [] 601024 7293034 (lw_Z below #[Value.ref b] s) (F0 m pc ls [.int 1]) := by
  intro T hT X
  obtain ⟨fs, hret, hrun, hended, hW, hframe⟩ := X.leave (v := some (.int 1)) (hlocks := hlocks) (fun h => by rw [hr] at h; cases h)
  have hmeth' : T.vm.method? m = some meth := X.method'
  refine ⟨T.setFrames fs, ?_, .returned (some (.int 1)), hrun, hended, rfl, ⟨_, rfl⟩, hW, hframe⟩
  jvm_step X.here [X.here.top, hx, hb, hdg, hmeth', hr, ret, narrow_b1]
  (try refine ⟨rfl, ?_⟩); (try refine ⟨rfl, ?_⟩)
  first | (intro acts; rw [hret _ acts rfl rfl rfl]) | rw [hret _ _ rfl rfl rfl]
  exact Steps.refl _
/-- what holds at the law's entry: the machine, the code, the tables' words (any of lw_tbl by 'hts w (by decide +kernel)'), the script of L ints xs at the cell b, what the Statement gives of the start (any of its parts by flat_of_before) -/
def lw_At (p : Program) (s : State) (m : MethodId) (meth : Method) (c : Code) (b L : Nat) (xs : Nat → Int32) : Prop :=
  p.tables.exec = Jvm.exec ∧ c.code = code ∧ meth.sig.returnType = ret ∧ c.maxLocals = 7 ∧ s.vm.findClass R_law = some m.cls ∧ (∀ w ∈ lw_tbl, w.before #[Value.ref b] s = true) ∧ va_X b L xs s s.heap ∧ b < s.heap.size ∧ meth.locks = false ∧ (Jvm.Cond.and given_1 narrow_1).before #[Value.ref b] s = true
theorem law_lv (b : Nat) : mm_lv [some (.ref b), none, none, none, none, none, none] = [(0, .ref b)] := rfl
/-- from the entry, for every script of at most 3072 ints, the law comes to its end with true -/
theorem whole_start {p : Program} {e : Env} {s : State} {m : MethodId} {below : List Frame} {meth : Method} {c : Code} (l : Launch) (ht : l.stackTraces = false) {b L : Nat} {xs : Nat → Int32} (hL : L ≤ 3072) (C0 : lw_At p s m meth c b L xs) (hnm : meth.name = "law") (hex : (c.exceptionTable.toList.map fun z => (z.startPc, z.endPc, z.handlerPc, z.catchType)) = []) : W p l e room_1 s m #[Value.ref b] below meth c s.heap [] 0 0 (lw_Z below #[Value.ref b] s) (entryFrame m ([Value.ref b] : List Value).toArray 7) := by
  obtain ⟨hx, hb, hr, hml, hown, hts, hX, hbl, hlocks, hgv⟩ := C0
  obtain ⟨D, dA, K⟩ := law_K ht hts hX hbl hgv
  have hG := law_start (sc := (b, L, xs)) (n := s.heap.size) (Q := fun o _ _ => o = .inl (some (.int 1))) hL (fun _ _ => rfl)
  have hlv := lv_entry ([.ref b] : List Value) (n := 7) (Nat.le_of_ble_eq_true rfl)
  have W0 := hG (l, s, #[Value.ref b], D, dA) (p, e, room_1, s, m, #[Value.ref b], below, meth, c) (s.heap, [], 0, 0, (lg_sl ([.ref b] : List Value) ++ List.replicate (7 - (lg_sl ([.ref b] : List Value)).length) Slot.unset).toArray)
    ⟨hx, hb, hml, hr, hlocks, hown, hnm, hex, State.WarmedH.refl s, (show 11 ≤ room_1.frames by decide), (show 35 * 11 ≤ room_1.locals by decide), ⟨Nat.le_refl _, fun _ _ => rfl⟩, K⟩
    ⟨⟨rfl, Nat.le_refl _, fun _ _ => rfl, fun i c h => by cases h⟩, (show 0 + 2074 ≤ room_1.cells by decide), (show 0 + 55825 ≤ room_1.slots by decide), fun q hq => by cases hq⟩
    ⟨⟨hlv.1, hlv.2.1, fun q hq => hlv.2.2 q (by rw [law_lv] at hq; exact hq)⟩, fun q hq => by rw [law_lv] at hq; cases List.mem_singleton.mp hq; rfl⟩
  rw [← lg_entry_eq] at W0
  refine mm_Wmono (fun t hE => ?_) W0
  obtain ⟨o, h1, h2, mo, n', h', hor, hq, -, hW, locs, hsame, hloc⟩ := hE
  subst hq
  have hor : o = .returned (some (.int 1)) := hor
  exact ⟨o, h1, h2, hor, ⟨_, hor⟩, hW, law_sift hsame hloc⟩
set_option maxHeartbeats 4000000 in
theorem lw_walk (l : Launch) (ht : l.stackTraces = false) (b : Addr) (xs : List Int32) : MetFree l x (headSpec (Jvm.Cond.code x code maxLocals ret :: tables_1) room_1) (lw_P b xs) (fun _ _ _ _ _ => True) lw_Q := by
  refine MetFree.of_bodyS (code := code) (maxLocals := maxLocals) (ret := ret) (by decide) ?_ ?_
  · intro args s m h hn
    obtain ⟨meth, c, h1, h2, h3, h4, h5, h6, -, -⟩ := Cond.code_spec hn (atoms_spec (ws := Jvm.Cond.code x code maxLocals ret :: tables_1) h _ List.mem_cons_self)
    exact ⟨meth, c, h1, h2, h3, h4, h5, h6⟩
  · intro p e s m args below meth c s₁ B hml0 hP _
    obtain ⟨rfl, hx, hbd, hgv⟩ := hP
    obtain ⟨scr, harrAt, hlist, hof, hsmall⟩ := hx
    obtain ⟨hcb, hkn, -, -⟩ := State.arrayAt?_spec harrAt
    have hown : s.vm.findClass R_law = some m.cls := findClass_of_methodNamed B.named
    have hts0 : ∀ c ∈ (Jvm.Cond.code x code maxLocals ret :: tables_1), c.before #[Value.ref b] s = true := atoms_spec (ws := Jvm.Cond.code x code maxLocals ret :: tables_1) B.pre
    have hts : ∀ w ∈ lw_tbl, w.before #[Value.ref b] s = true := k2_hts_sels lw_privs (fun w hw => hts0 w (List.mem_cons_of_mem _ hw)) lw_privs_ok
    have hml : c.maxLocals = 7 := B.maxLocals_eq (hts0 _ List.mem_cons_self)
    have hnm : meth.name = "law" := (name_of_methodNamed B.named B.method).1
    obtain ⟨meth', c', q1, q2, -, -, -, -, q7, -⟩ := mm_code_spec (y := y_Law_law) B.named (hts0 _ List.mem_cons_self)
    cases Option.some.inj (q1.symm.trans B.method)
    cases Option.some.inj (q2.symm.trans (Stand.of_body B).code)
    have X₀ : Stand p l e room_1 s m #[Value.ref b] below meth c s₁ [] 0 0 := Stand.of_body B
    have hh0 : s₁.heap = s.heap := by rw [B.state]; rfl
    have hsz : scr.slots.size = xs.length := by rw [← Array.length_toList, hlist, List.length_map]
    have hval : ∀ j : Nat, j < xs.length → scr.slots[j]? = some (.int (xs.getD j 0)) := fun j hj => by
      rw [← Array.getElem?_toList, hlist]
      simp [hj]
    have hbl : b < s.heap.size := (Array.getElem?_eq_some_iff.mp hcb).1
    have hX : va_X b xs.length (fun j => xs.getD j 0) s s.heap := ⟨scr, hcb, hof, hkn, hsz, hval⟩
    have K : W p l e room_1 s m #[Value.ref b] below meth c s₁.heap [] 0 0 (lw_Z below #[Value.ref b] s) (entryFrame m ([Value.ref b] : List Value).toArray 7) := by
      rw [hh0]
      exact whole_start l ht hbd ⟨B.exec, B.bytes, B.returns, hml, hown, hts, hX, hbl, B.notSynchronized, hgv⟩ hnm q7
    obtain ⟨t, a1, o, b1, b2, b3⟩ := K s₁ rfl X₀
    exact ⟨t, o, a1, b1, b2, b3⟩
theorem lw_pre_spec {args : Array Value} {s : State} (h : (Jvm.Cond.and given_1 narrow_1).before args s = true) (hr : rest_1_c.before args s = true) : ∃ (b : Addr) (xs : List Int32), lw_P b xs args s := by
  have hs := flat_of_before _ h
  have hq := flat_of_before _ hr
  have hc : (Cond.count 1).before args s = true := hs _ (by decide +kernel)
  have harr : (Cond.arrayOf (.arg 0) .int).before args s = true := hs _ (by decide +kernel)
  have hle : (Cond.le (.length (.arg 0)) (.int 3072)).before args s = true := hs _ (by decide +kernel)
  have hlen : (Cond.isInt (.length (.arg 0))).before args s = true := hq _ (by decide +kernel)
  have hall : (Cond.all (.arg 0) (.isInt (.elem (.arg 0) (.index 0)))).before args s = true := hq _ (by decide +kernel)
  obtain ⟨b, xs, hb, hx⟩ := State.ints_of_pre rfl harr hlen hall
  have hsm : xs.length < 2 ^ 31 := hx.choose_spec.2.2.2
  have hev : (Term.length (.arg 0)).eval args s none [] s = some (.int xs.length.toInt32) := hx.length_eval hb
  have hv := Cond.le_ints hev (show (Term.int 3072).eval args s none [] s = some (.int 3072) from rfl)
  have hd : xs.length.toInt32 ≤ 3072 := by
    simpa [Cond.before, Cond.holds, hv] using hle
  have hN : xs.length ≤ 3072 := (Int32.ofNat_le_ofNat hsm (by decide)).mp (show Int32.ofNat xs.length ≤ Int32.ofNat 3072 from hd)
  exact ⟨b, xs, Cond.one_arg hc (show args[0]? = some (.ref b) from hb), hx, hN, h⟩
theorem lw_comes (l : Launch) (ht : l.stackTraces = false) : Comes l x (Jvm.Cond.code x code maxLocals ret :: tables_1) room_1 (fun tb e args s => Calls_1 tb e args s ∧ rest_1 tb e args s ∧ Pre_1 tb e args s)
    (fun _ _ args s o t => lw_Q args s o t) := by
  intro p e ha hc hk s m args below hf hfit hheap happ hpre
  obtain ⟨b, xs, hP⟩ := lw_pre_spec hpre.2.2 hpre.2.1
  obtain ⟨k, o, h1, h2, h3, hQ⟩ := lw_walk l ht b xs p e ha hc hk s m args below hf ((Spec.applies_iff_loose hf).mp happ).1 hP trivial
  exact ⟨k, o, h1, h2, h3, hQ⟩
theorem lw_frame {s t : State} {o : Outcome} {args : Array Value} (h : Framed s o t [] 601024 7293034) :
    Framed s o t (fieldLocs frame_1_writes args s ++ arrayLocs frame_1_arrays args s ++ staticLocs frame_1_statics s) 601024 7293034 := h
theorem lw_limb (L : Cond) (hL : ∀ (args : Array Value) (s t : State), L.after args s (.returned (some (.int 1))) t = true) :
    ArmFor flags0 classFile x code maxLocals ret World_1 tables_1 room_1 Calls_1 rest_1 Pre_1
      (fun tb e a s o t => postC L tb e a s o t ∧ Framed s o t (fieldLocs frame_1_writes a s ++ arrayLocs frame_1_arrays a s ++ staticLocs frame_1_statics s) 601024 7293034) := by
  intro l hfl _ _ p e ha hc hk s m args below hf hfit hheap happ hpre
  obtain ⟨k, o, h1, h2, h3, rfl, hF⟩ := lw_comes l (by unfold Launch.stackTraces; rw [hfl]; decide) p e ha hc hk s m args below hf hfit hheap happ hpre
  exact ⟨k, _, h1, h2, h3, hL args s _, lw_frame hF⟩
theorem i_vc : Claimed_1_1 ∧ Claimed_1_2 := ⟨lw_limb limb_1_1 (fun args s t => by simp [limb_1_1, Cond.after, Cond.holds, Cond.value]), lw_limb limb_1_2 (fun args s t => Cond.after_iff.mpr (by
  first | (rw [show limb_1_2 = Cond.eq .result (.int 1) from rfl, Cond.eq_ints (x := 1) (y := 1) rfl rfl]; simp; done) | (simp [limb_1_2, Cond.value, Term.eval]; done)))⟩
