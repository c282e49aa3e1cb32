section MM6
variable {sc : mm_Sc} {y : mm_M} {d pc : Nat} {l : mm_L} {st : List Value} {n : Nat} {h : mm_H} {kc ks : Nat} {Q : mm_O → Nat → mm_H → Prop} {X : mm_X} {P : mm_P} {Z : mm_Z}
/-- what the statement gives of the start, word by word -/
theorem mm_given (K : mm_K sc X) {w : Cond} (hw : w ∈ flatC (Jvm.Cond.and given_1 narrow_1)) : w.before X.a0 X.s0 = true := flat_of_before _ K.2.2.2.2.2.2 w hw
theorem mm_S.nc (S : mm_S sc y d X P) {C nm : String} (hw : Cond.not (.castable C nm) ∈ flatC (Jvm.Cond.and given_1 narrow_1)) : va_Nc C nm P.s := va_Nc.moved S.warm.alike (va_Nc.of (mm_given S.K hw))
theorem mm_instNo {a ci N i : Nat} {C nm : String} {T : u_T} {fs : List Value} (hd : decode y.2.1 pc = .ok (.instanceof i, 3)) (hc : h a = some (.inr (ci, fs))) (hC : mm_Cl ci C T N) (hl : Cond.classLink y.1.cls i nm ∈ lw_tbl) (hn : Cond.not (.castable C nm) ∈ flatC (Jvm.Cond.and given_1 narrow_1))
    (k : mm_G sc y d (pc + 3) l (.int 0 :: st) n h kc ks Q) : mm_G sc y d pc l (.ref a :: st) n h kc ks Q := fun X P Z S R E =>
  va_instNo S.1 S.2.1 S.own (S.w hl rfl) (S.nc hn) (va_recv S.kn (R.1.p1 hc) hC.1 (q0 := 0) rfl) hd (k X P Z S R E)
/-- the words of a throw: the thrower's constants, the exception's chain -/
def mm_Xo (own : String) (ik is ic : Nat) (text : String) (names : List String) (cls : String) : Prop :=
  Bundle.fit cls = true ∧ (∀ z ∈ names, Bundle.fit z = true) ∧ Cond.classLink own ik cls ∈ lw_tbl ∧ Cond.initialized cls ∈ lw_tbl ∧ Cond.stringRef own is text ∈ lw_tbl ∧ (∀ w ∈ vx_atS own ic cls names, w ∈ lw_tbl ∧ mm_ok w = true) ∧ ∀ w ∈ Cond.classLink own ik cls :: Cond.initialized cls :: vx_atS own ic cls names, vx_ot w = true
/-- the statics of Throwable that its constructor reads -/
def mm_Xs : Prop := Cond.laysStatic Bundle.tN "UNASSIGNED_STACK" Bundle.steD ∈ lw_tbl ∧ Cond.laysStatic Bundle.tN "SUPPRESSED_SENTINEL" Bundle.listD ∈ lw_tbl ∧ Cond.initialized Bundle.tN ∈ lw_tbl ∧ Cond.isRef (.static Bundle.tN "UNASSIGNED_STACK" Bundle.steD) ∈ flatC (Jvm.Cond.and given_1 narrow_1) ∧ Cond.isRef (.static Bundle.tN "SUPPRESSED_SENTINEL" Bundle.listD) ∈ flatC (Jvm.Cond.and given_1 narrow_1)
theorem mm_throw {k ik is ic : Nat} {text : String} {names : List String} (hX0 : mm_Xs) (hX : mm_Xo y.1.cls ik is ic text names (mm_ex k)) (d0 : decode y.2.1 pc = .ok (.new ik, 3)) (d3 : decode y.2.1 (pc + 3) = .ok (.dup, 1)) (d4 : decode y.2.1 (pc + 4) = .ok (.ldc is, 2)) (d6 : decode y.2.1 (pc + 6) = .ok (.invokespecial ic, 3)) (d9 : decode y.2.1 (pc + 9) = .ok (.athrow, 1))
    (hh : y.2.2.2.2 = []) (hd : names.length + 3 < d) (hst : (st.map fun v => v.category).sum ≤ 8) (hq : ∀ n', n ≤ n' → Q (.inr k) n' h) : mm_G sc y d pc l st n h (kc + 1) (ks + 6) Q := by
  intro X P Z S R E T hT Y
  obtain ⟨f1, f2, w1, w2, w3, w4, w5⟩ := hX
  obtain ⟨u1, u2, u3, u4, u5⟩ := hX0
  have hcur0 : X.s0.vm.findClass y.1.cls = some P.m.cls := by
    have h9 := S.own
    rw [S.warm.alike.findClass] at h9
    exact h9
  obtain ⟨_, _, _, sa, -, -, -, -, -, he⟩ := Cond.stringRef_spec hcur0 (S.K.1 _ w3)
  have hstr : vk_R y.1.cls is text sa P.s := vk_R.warm S.warm (vk_R.of (S.K.1 _ w3) he)
  have hA0 : ∀ a : Nat, a < X.s0.heap.size → ¬ (fun q : Nat => X.s0.heap.size ≤ q) a := fun a ha h9 => absurd ha (Nat.not_lt.mpr h9)
  have hk0 : ∀ a : Nat, a < X.s0.heap.size → ¬ (fun q : Nat => X.s0.heap.size ≤ q) a → P.s.heap[a]? = X.s0.heap[a]? := fun a ha _ => S.grown.2 a ha
  have hU : vx_Zq Bundle.tN "UNASSIGNED_STACK" Bundle.steD (fun q : Nat => X.s0.heap.size ≤ q) P.s P.s.heap := vx_Zq.moved S.warm.alike ((vx_Zqof (S.K.1 _ u1) (S.K.1 _ u3) (mm_given S.K u4) hA0).kept hk0)
  have hN : vx_Zq Bundle.tN "SUPPRESSED_SENTINEL" Bundle.listD (fun q : Nat => X.s0.heap.size ≤ q) P.s P.s.heap := vx_Zq.moved S.warm.alike ((vx_Zqof (S.K.1 _ u2) (S.K.1 _ u3) (mm_given S.K u5) hA0).kept hk0)
  obtain ⟨hHR, hc, hs, hlo⟩ := R
  have hS : va_S (fun q : Nat => X.s0.heap.size ≤ q) P.s.heap Z.H Z.locs := by
    refine ⟨by rw [← hT]; exact Y.same.2.1, fun q _ hnq => ?_, hlo⟩
    have hq0 : q < X.s0.heap.size := Nat.not_le.mp hnq
    rw [hHR.2.2.1 q hq0, S.grown.2 q hq0]
  have hout : ∀ x ∈ P.c.exceptionTable.toList, covers x (pc + 9) = false := by
    have h9 := S.hand
    rw [hh] at h9
    intro x hx
    rw [List.map_eq_nil_iff.mp h9] at hx
    cases hx
  have hf := S.frames
  have hlc := S.locals
  obtain ⟨t, a1, o, b1, b2, b3⟩ := vx_throwS (Qc := fun _ _ _ _ => False) (XC := fun E _ t => E = mm_ex k ∧ Z.H.size ≤ t.heap.size ∧ ∀ q : Nat, q < Z.H.size → t.heap[q]? = Z.H[q]?) (free := fun q => X.s0.heap.size ≤ q) (mc := P.R.cells) (ms := P.R.slots)
    S.1 S.2.1 S.K.2.2.2.2.2.1 S.own f1 f2 (S.w w1 rfl) (S.w w2 rfl) hstr (fun w hw => S.w (w4 w hw).1 (w4 w hw).2) w5 hU hN hS (by rw [S.ml]; exact E.1.1) d0 d3 d4 d6 d9 hout (rest := st) (by omega) (by omega) (by omega) (by omega) S.locks
    (fun t _ h1 h2 => ⟨rfl, h1, h2⟩) hlo (by omega) (by omega) T hT Y
  rcases b3 with ⟨hF, -⟩ | ⟨q, rfl, E9, ce, L9, ⟨rfl, z1, z2⟩, c1, c2, c3, c4, c5, c6⟩
  · exact hF.elim
  · refine ⟨t, a1, .threw q, b1, b2, .inr k, t.heap.size, h, ⟨q, ce, rfl, c1, c2, ?_⟩, hq _ (by rw [← hHR.1]; exact z1), ⟨rfl, Nat.le_trans hHR.2.1 (by rw [← hHR.1]; exact z1), fun q9 h9 => ?_, fun i c9 hi => ?_⟩, c4, L9, c5, c6⟩
    · rw [S.warm.alike.findClass] at c3
      exact c3
    · rw [z2 q9 (by rw [hHR.1]; exact Nat.lt_of_lt_of_le h9 hHR.2.1)]
      exact hHR.2.2.1 q9 h9
    · have hlt := hHR.lt hi
      exact ⟨(hHR.2.2.2 i c9 hi).1, (hHR.2.2.2 i c9 hi).2.kept (z2 i (by rw [hHR.1]; exact hlt))⟩
/-- a row of a method's table that takes the exception k, thrown at pc; the row ahead (if any) doesn't; the reference goes into a local that nobody reads -/
def mm_Hd (own : String) (hs : List (Nat × Nat × Nat × Nat)) (pc k hp : Nat) : Prop :=
  (∃ (a b ct : Nat) (nm : String) (r : List (Nat × Nat × Nat × Nat)), hs = (a, b, hp, ct) :: r ∧ a ≤ pc ∧ pc < b ∧ ct ≠ 0 ∧ Cond.classLink own ct nm ∈ lw_tbl ∧ Cond.castable (mm_ex k) nm ∈ lw_tbl) ∨
  (∃ (a b ct : Nat) (nm : String) (z : Nat × Nat × Nat × Nat) (nz : String) (r : List (Nat × Nat × Nat × Nat)), hs = z :: (a, b, hp, ct) :: r ∧ a ≤ pc ∧ pc < b ∧ ct ≠ 0 ∧ Cond.classLink own ct nm ∈ lw_tbl ∧ Cond.castable (mm_ex k) nm ∈ lw_tbl ∧ z.2.2.2 ≠ 0 ∧ Cond.classLink own z.2.2.2 nz ∈ lw_tbl ∧ Cond.not (.castable (mm_ex k) nz) ∈ flatC (Jvm.Cond.and given_1 narrow_1))
theorem mm_Th.catch {k hp j : Nat} {len : Nat} (hH : mm_Hd y.1.cls y.2.2.2.2 pc k hp) (hd : (∃ i : Fin 4, (i : Nat) = j ∧ decode y.2.1 hp = .ok (.astore_n i, 1) ∧ len = 1) ∨ (decode y.2.1 hp = .ok (.astore j, 2) ∧ len = 2)) (hj : j < y.2.2.1)
    (kk : mm_G sc y d (hp + len) (l.set j none) [] n h kc ks Q) : mm_Th sc y d pc l n h kc ks Q k := by
  intro X P Z S R E T st a cell hT Y h1 h2 h3
  have hcl : P.s.vm.findClass (mm_ex k) = some cell.cls := by rw [S.warm.alike.findClass]; exact h3
  have hcell : Z.H[a]? = some cell := by rw [← hT]; exact h1
  have key : W P.p X.l P.e P.R P.s P.m P.args P.below P.meth P.c Z.H Z.locs Z.cells Z.slots (mm_E X P Q) (F0 P.m hp Z.ls [.ref a]) := by
    rcases hd with ⟨i, hi, hd, rfl⟩ | ⟨hd, rfl⟩
    · exact lv_astore_n S.1 S.2.1 hd hi E.1 hj rfl (fun ls' h' => kk X P (Z.H, Z.locs, Z.cells, Z.slots, ls') S R (E.drop h'))
    · exact lv_astore S.1 S.2.1 hd E.1 hj rfl (fun ls' h' => kk X P (Z.H, Z.locs, Z.cells, Z.slots, ls') S R (E.drop h'))
  have hand := S.hand
  rcases hH with ⟨b1, b2, ct, nm, r, hs, q1, q2, q3, q4, q5⟩ | ⟨b1, b2, ct, nm, z, nz, r, hs, q1, q2, q3, q4, q5, q6, q7, q8⟩
  · rw [hs] at hand
    obtain ⟨x, r', hx, hf, hr⟩ := List.map_eq_cons_iff.mp hand
    cases hf
    exact vx_catch (ls := Z.ls) (rest := st) (pc := pc) (own := y.1.cls) (name := nm) (E := mm_ex k) S.own [] x r' hx (fun z hz => by cases hz) (by simp [covers, q1, q2]) q3 (S.w q4 rfl) (S.w q5 rfl) hcell h2 hcl key T hT Y
  · rw [hs] at hand
    obtain ⟨x0, r0, hx0, hf0, hr0⟩ := List.map_eq_cons_iff.mp hand
    obtain ⟨x, r', hx, hf, hr⟩ := List.map_eq_cons_iff.mp hr0
    cases hf
    subst hf0
    refine vx_catch (ls := Z.ls) (rest := st) (pc := pc) (own := y.1.cls) (name := nm) (E := mm_ex k) S.own [x0] x r' (by rw [hx0, hx]; rfl) (fun z hz => ?_) (by simp [covers, q1, q2]) q3 (S.w q4 rfl) (S.w q5 rfl) hcell h2 hcl key T hT Y
    rw [List.mem_singleton.mp hz]
    exact Or.inr ⟨q6, nz, S.w q7 rfl, S.nc q8⟩
/-- a call with one answer -/
theorem mm_callD {y' : mm_M} {d' kc' ks' n1 : Nat} {h1 : mm_H} {v : Option Value} {st0 as : List Value} {ig : Instr} (hd : decode y.2.1 pc = .ok (ig, 3)) (hI : mm_Inv sc y d pc n h st0 st as y') (J : mm_J sc y' d' as n h kc' ks' (fun o n' h' => o = .inl v ∧ n' = n1 ∧ h' = h1)) (hd' : d' < d) (hm : y'.2.2.1 ≤ 16) (hw : mm_code y' ∈ lw_tbl) (hok : mm_ok (mm_code y') = true) (hini : Cond.initialized y'.1.cls ∈ lw_tbl) (hst : (st.map fun v => v.category).sum ≤ 8)
    (kr : mm_G sc y d (pc + 3) l (v.toList ++ st) n1 h1 kc ks Q) : mm_G sc y d pc l st0 n h (kc + kc') (ks + ks') Q :=
  mm_call hd hI J hd' hm hw hok hini hst (fun w n' h' hq => by obtain ⟨e1, rfl, rfl⟩ := hq; cases e1; exact kr) (fun k n' h' hq => by cases hq.1)
/-- the heap gets a name -/
theorem mm_hp (k : ∀ h1, h1 = h → mm_G sc y d pc l st n h1 kc ks Q) : mm_G sc y d pc l st n h kc ks Q := k h rfl
end MM6
