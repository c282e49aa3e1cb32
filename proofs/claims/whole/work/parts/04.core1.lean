/-! A judgement of one's own over the machine: the state of a method at a pc, with its locals, its stack and ALL cells that were made since the law began, at their real addresses. -/
abbrev mm_C : Type := (Nat × vp_A) ⊕ (Nat × List Value)
abbrev mm_H : Type := Nat → Option mm_C
abbrev mm_L : Type := List (Option Value)
abbrev mm_O : Type := Option Value ⊕ Nat
/-- a method: its name, its bytes, how many locals, its answer's type, its handlers -/
abbrev mm_M : Type := MethodName × ByteArray × Nat × Option FieldType × List (Nat × Nat × Nat × Nat)
/-- the script: its address, its length, its ints -/
abbrev mm_Sc : Type := Nat × Nat × (Nat → Int32)
/-- where the law began: launch, state, arguments, classes and slots, array classes -/
abbrev mm_X : Type := Launch × State × Array Value × va_G × (Nat → ClassId)
abbrev mm_X.l (X : mm_X) : Launch := X.1
abbrev mm_X.s0 (X : mm_X) : State := X.2.1
abbrev mm_X.a0 (X : mm_X) : Array Value := X.2.2.1
abbrev mm_X.D (X : mm_X) : va_G := X.2.2.2.1
abbrev mm_X.dA (X : mm_X) : Nat → ClassId := X.2.2.2.2
/-- the invocation -/
abbrev mm_P : Type := Program × Env × Room × State × MethodId × Array Value × List Frame × Method × Code
abbrev mm_P.p (P : mm_P) : Program := P.1
abbrev mm_P.e (P : mm_P) : Env := P.2.1
abbrev mm_P.R (P : mm_P) : Room := P.2.2.1
abbrev mm_P.s (P : mm_P) : State := P.2.2.2.1
abbrev mm_P.m (P : mm_P) : MethodId := P.2.2.2.2.1
abbrev mm_P.args (P : mm_P) : Array Value := P.2.2.2.2.2.1
abbrev mm_P.below (P : mm_P) : List Frame := P.2.2.2.2.2.2.1
abbrev mm_P.meth (P : mm_P) : Method := P.2.2.2.2.2.2.2.1
abbrev mm_P.c (P : mm_P) : Code := P.2.2.2.2.2.2.2.2
/-- the point: heap, written places, cells and slots made, locals -/
abbrev mm_Z : Type := Heap × List Loc × Nat × Nat × Array Slot
abbrev mm_Z.H (Z : mm_Z) : Heap := Z.1
abbrev mm_Z.locs (Z : mm_Z) : List Loc := Z.2.1
abbrev mm_Z.cells (Z : mm_Z) : Nat := Z.2.2.1
abbrev mm_Z.slots (Z : mm_Z) : Nat := Z.2.2.2.1
abbrev mm_Z.ls (Z : mm_Z) : Array Slot := Z.2.2.2.2
/-- array kinds by number -/
def mm_ty : Nat → FieldType
  | 0 => .int
  | 1 => .long
  | 2 => .boolean
  | _ => .object mm_elem
def mm_e (dA : Nat → ClassId) (c : mm_C) : va_E := match c with
  | .inl a => .inl (dA a.1, a.2)
  | .inr o => .inr o
/-- the exceptions by number -/
def mm_ex : Nat → String
  | 0 => "java/lang/IllegalArgumentException"
  | 1 => "java/lang/UnsupportedOperationException"
  | 2 => "java/lang/IndexOutOfBoundsException"
  | _ => "java/lang/IllegalStateException"
/-- a launch without stack traces, and what the statement gives of the start -/
def mm_T (l : Launch) (s : State) (a : Array Value) : Prop := l.stackTraces = false ∧ (Jvm.Cond.and given_1 narrow_1).before a s = true
/-- what is known of the start -/
def mm_K (sc : mm_Sc) (X : mm_X) : Prop :=
  (∀ w ∈ lw_tbl, w.before X.a0 X.s0 = true) ∧ va_K X.D vwCl [] X.s0 ∧ (∀ t, t < 4 → ArrOfT X.s0 (X.dA t) (mm_ty t) ∧ va_RA X.s0 (X.dA t) (mm_ty t)) ∧ va_X sc.1 sc.2.1 sc.2.2 X.s0 X.s0.heap ∧ sc.1 < X.s0.heap.size ∧ mm_T X.l X.s0 X.a0
/-- the heap holds the cells h, n is its size, what the law found is untouched -/
def mm_HR (X : mm_X) (n : Nat) (h : mm_H) (H : Heap) : Prop :=
  H.size = n ∧ X.s0.heap.size ≤ n ∧ (∀ q : Nat, q < X.s0.heap.size → H[q]? = X.s0.heap[q]?) ∧ ∀ (i : Nat) (c : mm_C), h i = some c → X.s0.heap.size ≤ i ∧ va_at X.D vwCl (i, mm_e X.dA c) H
def mm_S (sc : mm_Sc) (y : mm_M) (d : Nat) (X : mm_X) (P : mm_P) : Prop :=
  P.p.tables.exec = Jvm.exec ∧ P.c.code = y.2.1 ∧ P.c.maxLocals = y.2.2.1 ∧ P.meth.sig.returnType = y.2.2.2.1 ∧ P.meth.locks = false ∧ P.s.vm.findClass y.1.cls = some P.m.cls ∧ P.meth.name = y.1.name ∧
  (P.c.exceptionTable.toList.map fun z => (z.startPc, z.endPc, z.handlerPc, z.catchType)) = y.2.2.2.2 ∧ X.s0.WarmedH P.s.vm ∧ d ≤ P.R.frames ∧ 35 * d ≤ P.R.locals ∧ (X.s0.heap.size ≤ P.s.heap.size ∧ ∀ q : Nat, q < X.s0.heap.size → P.s.heap[q]? = X.s0.heap[q]?) ∧ mm_K sc X
def mm_R (X : mm_X) (n : Nat) (h : mm_H) (kc ks : Nat) (P : mm_P) (Z : mm_Z) : Prop :=
  mm_HR X n h Z.H ∧ Z.cells + kc ≤ P.R.cells ∧ Z.slots + ks ≤ P.R.slots ∧ ∀ q ∈ Z.locs, X.s0.heap.size ≤ q.base
def mm_lv (l : mm_L) : List (Nat × Value) := (List.range l.length).filterMap (fun i => (l[i]?.join).map (fun v => (i, v)))
def mm_LR (y : mm_M) (l : mm_L) (Z : mm_Z) : Prop := lv_has Z.ls y.2.2.1 (mm_lv l) ∧ ∀ q ∈ mm_lv l, q.2.category = 1
def mm_OR (X : mm_X) (mo : mm_O) (o : Outcome) (t : State) : Prop := match mo with
  | .inl v => o = .returned v
  | .inr k => ∃ (a : Addr) (cell : Cell), o = .threw a ∧ t.heap[a]? = some cell ∧ cell.vm = .none ∧ X.s0.vm.findClass (mm_ex k) = some cell.cls
def mm_D (X : mm_X) (rm : Room) (Q : mm_O → Nat → mm_H → Prop) (s : State) (o : Outcome) (t : State) : Prop :=
  ∃ (mo : mm_O) (n : Nat) (h : mm_H), mm_OR X mo o t ∧ Q mo n h ∧ mm_HR X n h t.heap ∧ s.WarmedH t.vm ∧ ∃ locs : List Loc, s.sameButNew ({ t with vm := s.vm } : State) locs rm.cells rm.slots ∧ ∀ q ∈ locs, X.s0.heap.size ≤ q.base
def mm_E (X : mm_X) (P : mm_P) (Q : mm_O → Nat → mm_H → Prop) : State → Prop := fun t => ∃ o, t.status = .running ∧ Ended t P.below o ∧ mm_D X P.R Q P.s o t
abbrev mm_W (X : mm_X) (P : mm_P) (Z : mm_Z) (Q : State → Prop) (g : JFrame) : Prop := W P.p X.l P.e P.R P.s P.m P.args P.below P.meth P.c Z.H Z.locs Z.cells Z.slots Q g
/-- THE JUDGEMENT -/
def mm_G (sc : mm_Sc) (y : mm_M) (d pc : Nat) (l : mm_L) (st : List Value) (n : Nat) (h : mm_H) (kc ks : Nat) (Q : mm_O → Nat → mm_H → Prop) : Prop :=
  ∀ (X : mm_X) (P : mm_P) (Z : mm_Z), mm_S sc y d X P → mm_R X n h kc ks P Z → mm_LR y l Z → mm_W X P Z (mm_E X P Q) (F0 P.m pc Z.ls st)
def mm_code (y : mm_M) : Cond := match y.2.2.2.2 with
  | [] => .code y.1 y.2.1 y.2.2.1 y.2.2.2.1
  | hs => .codeWith y.1 y.2.1 y.2.2.1 y.2.2.2.1 hs
def mm_rm (d kc ks : Nat) : Room := { frames := d, cells := kc, slots := ks, locals := 35 * d }
/-- THE CONTRACT of a method at arguments and cells -/
def mm_J (sc : mm_Sc) (y : mm_M) (d : Nat) (as : List Value) (n : Nat) (h : mm_H) (kc ks : Nat) (Q : mm_O → Nat → mm_H → Prop) : Prop :=
  ∀ X : mm_X, mm_K sc X → MetFree X.l y.1 (headSpec [mm_code y] (mm_rm d kc ks)) (fun a s => a = as.toArray ∧ X.s0.WarmedH s.vm ∧ X.s0.heap.size ≤ s.heap.size ∧ mm_HR X n h s.heap) (fun _ _ _ _ _ => True) (fun _ s o t => mm_D X (mm_rm d kc ks) Q s o t)
section MM2
variable {sc : mm_Sc} {y : mm_M} {d pc : Nat} {l : mm_L} {st : List Value} {n : Nat} {h : mm_H} {kc ks : Nat} {Q : mm_O → Nat → mm_H → Prop} {X : mm_X} {P : mm_P} {Z : mm_Z}
theorem mm_lv_mem {l : mm_L} {i : Nat} {v : Value} : (i, v) ∈ mm_lv l ↔ l[i]? = some (some v) := by
  unfold mm_lv
  rw [List.mem_filterMap]
  constructor
  · rintro ⟨j, -, hj⟩
    cases h : l[j]? with
    | none => rw [h] at hj; simp at hj
    | some o =>
      cases o with
      | none => rw [h] at hj; simp at hj
      | some w =>
        rw [h] at hj
        simp at hj
        obtain ⟨rfl, rfl⟩ := hj
        exact h
  · intro h
    exact ⟨i, List.mem_range.mpr (List.getElem?_eq_some_iff.mp h).1, by rw [h]; rfl⟩
theorem mm_LR.at (E : mm_LR y l Z) {i : Nat} {v : Value} (hl : l[i]? = some (some v)) : Z.ls[i]? = some (.val v) := E.1.2.2 (i, v) (mm_lv_mem.mpr hl)
theorem mm_LR.set (E : mm_LR y l Z) {i : Nat} {v : Value} {ls' : Array Slot} (hc : v.category = 1) (h' : lv_has ls' y.2.2.1 ((i, v) :: (mm_lv l).filter (fun q => !(q.1 == i) && !(q.1 + 1 == i && q.2.category == 2)))) :
    mm_LR y (l.set i (some v)) (Z.H, Z.locs, Z.cells, Z.slots, ls') := by
  have key : ∀ q ∈ mm_lv (l.set i (some v)), q ∈ ((i, v) :: (mm_lv l).filter (fun q => !(q.1 == i) && !(q.1 + 1 == i && q.2.category == 2))) ∧ q.2.category = 1 := by
    rintro ⟨j, w⟩ hq
    rw [mm_lv_mem] at hq
    by_cases hj : j = i
    · subst hj
      rw [List.getElem?_set, if_pos rfl] at hq
      split at hq
      · cases hq
        exact ⟨List.mem_cons_self, hc⟩
      · cases hq
    · rw [List.getElem?_set, if_neg (Ne.symm hj)] at hq
      have hm := mm_lv_mem.mpr hq
      have hcw : w.category = 1 := E.2 _ hm
      refine ⟨List.mem_cons_of_mem _ (List.mem_filter.mpr ⟨hm, ?_⟩), hcw⟩
      simp [hj, hcw]
  exact ⟨⟨h'.1, h'.2.1, fun q hq => h'.2.2 q (key q hq).1⟩, fun q hq => (key q hq).2⟩
/-- a local forgotten -/
theorem mm_LR.drop (E : mm_LR y l Z) {i : Nat} {v : Value} {ls' : Array Slot} (h' : lv_has ls' y.2.2.1 ((i, v) :: (mm_lv l).filter (fun q => !(q.1 == i) && !(q.1 + 1 == i && q.2.category == 2)))) :
    mm_LR y (l.set i none) (Z.H, Z.locs, Z.cells, Z.slots, ls') := by
  have key : ∀ q ∈ mm_lv (l.set i none), q ∈ ((i, v) :: (mm_lv l).filter (fun q => !(q.1 == i) && !(q.1 + 1 == i && q.2.category == 2))) ∧ q.2.category = 1 := by
    rintro ⟨j, w⟩ hq
    rw [mm_lv_mem] at hq
    by_cases hj : j = i
    · subst hj
      rw [List.getElem?_set, if_pos rfl] at hq
      split at hq <;> cases hq
    · rw [List.getElem?_set, if_neg (Ne.symm hj)] at hq
      have hm := mm_lv_mem.mpr hq
      have hcw : w.category = 1 := E.2 _ hm
      refine ⟨List.mem_cons_of_mem _ (List.mem_filter.mpr ⟨hm, ?_⟩), hcw⟩
      simp [hj, hcw]
  exact ⟨⟨h'.1, h'.2.1, fun q hq => h'.2.2 q (key q hq).1⟩, fun q hq => (key q hq).2⟩
theorem mm_S.K (S : mm_S sc y d X P) : mm_K sc X := S.2.2.2.2.2.2.2.2.2.2.2.2
theorem mm_S.warm (S : mm_S sc y d X P) : X.s0.WarmedH P.s.vm := S.2.2.2.2.2.2.2.2.1
theorem mm_S.own (S : mm_S sc y d X P) : P.s.vm.findClass y.1.cls = some P.m.cls := S.2.2.2.2.2.1
theorem mm_S.ml (S : mm_S sc y d X P) : P.c.maxLocals = y.2.2.1 := S.2.2.1
theorem mm_S.ret (S : mm_S sc y d X P) : P.meth.sig.returnType = y.2.2.2.1 := S.2.2.2.1
theorem mm_S.locks (S : mm_S sc y d X P) : P.meth.locks = false := S.2.2.2.2.1
theorem mm_S.name (S : mm_S sc y d X P) : P.meth.name = y.1.name := S.2.2.2.2.2.2.1
theorem mm_S.hand (S : mm_S sc y d X P) : (P.c.exceptionTable.toList.map fun z => (z.startPc, z.endPc, z.handlerPc, z.catchType)) = y.2.2.2.2 := S.2.2.2.2.2.2.2.1
theorem mm_S.frames (S : mm_S sc y d X P) : d ≤ P.R.frames := S.2.2.2.2.2.2.2.2.2.1
theorem mm_S.locals (S : mm_S sc y d X P) : 35 * d ≤ P.R.locals := S.2.2.2.2.2.2.2.2.2.2.1
theorem mm_S.grown (S : mm_S sc y d X P) : X.s0.heap.size ≤ P.s.heap.size ∧ ∀ q : Nat, q < X.s0.heap.size → P.s.heap[q]? = X.s0.heap[q]? := S.2.2.2.2.2.2.2.2.2.2.2.1
/-- words that stay true where the tables grow warmer -/
def mm_ok (w : Cond) : Bool := (w.onTables && w.keeps) || (match w with
  | .arrayClass _ => true
  | .fieldLinkNest .. => true
  | .methodLinkNest .. => true
  | .declares _ => true
  | .castable .. => true
  | _ => false)
theorem mm_words (K : mm_K sc X) {s : State} (hW : X.s0.WarmedH s.vm) {w : Cond} (hw : w ∈ lw_tbl) (hok : mm_ok w = true) (a : Array Value) : w.before a s = true := by
  have h0 := K.1 w hw
  unfold mm_ok at hok
  rw [Bool.or_eq_true] at hok
  rcases hok with h1 | h1
  · exact word_at hW (Or.inl h1) h0
  · split at h1
    · exact word_at hW (Or.inr ⟨_, rfl⟩) h0
    · exact va_Nw.use rfl (va_Nw.warmF hW (va_Nw.of rfl h0))
    · exact va_Nw.use rfl (va_Nw.warmM hW (va_Nw.of rfl h0))
    · exact va_Nw.use rfl (va_Nw.warmD hW (va_Nw.of rfl h0))
    · exact va_Nw.use rfl (va_Nw.warmC hW (va_Nw.of rfl h0))
    · cases h1
theorem mm_S.w (S : mm_S sc y d X P) {w : Cond} (hw : w ∈ lw_tbl) (hok : mm_ok w = true) : w.before P.args P.s = true := mm_words S.K S.warm hw hok P.args
theorem mm_S.kn (S : mm_S sc y d X P) : va_K X.D vwCl [] P.s := va_K.moved S.warm.alike S.K.2.1
theorem mm_S.arr (S : mm_S sc y d X P) {t : Nat} (ht : t < 4) : ArrOfT P.s (X.dA t) (mm_ty t) ∧ va_RA P.s (X.dA t) (mm_ty t) := ⟨arrOfT_moved S.warm.alike (S.K.2.2.1 t ht).1, (S.K.2.2.1 t ht).2.moved S.warm.alike⟩
/-- one cell is another -/
theorem mm_HR.set {H H1 : Heap} {a : Nat} {c0 c : mm_C} (R : mm_HR X n h H) (ha : h a = some c0) (e : va_at X.D vwCl (a, mm_e X.dA c) H1) (z : H1.size = H.size) (oq : ∀ q : Nat, q ≠ a → H1[q]? = H[q]?) : mm_HR X n (va_up h a (some c)) H1 := by
  obtain ⟨h1, h2, h3, h4⟩ := R
  have hb := (h4 a c0 ha).1
  refine ⟨z.trans h1, h2, fun q hq => (oq q (by omega)).trans (h3 q hq), fun i c' hi => ?_⟩
  by_cases hia : i = a
  · subst hia
    rw [va_up_self] at hi
    cases hi
    exact ⟨hb, e⟩
  · rw [va_up_ne _ _ hia] at hi
    exact ⟨(h4 i c' hi).1, (h4 i c' hi).2.kept (oq i hia)⟩
/-- one cell more -/
theorem mm_HR.new {H H1 : Heap} {c : mm_C} (R : mm_HR X n h H) (e : va_at X.D vwCl (n, mm_e X.dA c) H1) (z : H1.size = n + 1) (oq : ∀ q : Nat, q < n → H1[q]? = H[q]?) : mm_HR X (n + 1) (va_up h n (some c)) H1 := by
  obtain ⟨h1, h2, h3, h4⟩ := R
  refine ⟨z, by omega, fun q hq => (oq q (by omega)).trans (h3 q hq), fun i c' hi => ?_⟩
  by_cases hia : i = n
  · subst hia
    rw [va_up_self] at hi
    cases hi
    exact ⟨h2, e⟩
  · rw [va_up_ne _ _ hia] at hi
    have := (h4 i c' hi).2.lt
    exact ⟨(h4 i c' hi).1, (h4 i c' hi).2.kept (oq i (by rw [← h1]; exact this))⟩
theorem mm_HR.lt {H : Heap} (R : mm_HR X n h H) {a : Nat} {c : mm_C} (ha : h a = some c) : a < n := by
  have := (R.2.2.2 a c ha).2.lt
  rw [← R.1]
  exact this
theorem mm_Wmono {p : Program} {lc : Launch} {e : Env} {R : Room} {s : State} {m : MethodId} {args : Array Value} {below : List Frame} {meth : Method} {c : Code} {H : Heap} {locs : List Loc} {cells slots : Nat} {Q1 Q2 : State → Prop} {g : JFrame}
    (hq : ∀ t, Q1 t → Q2 t) (k : W p lc e R s m args below meth c H locs cells slots Q1 g) : W p lc e R s m args below meth c H locs cells slots Q2 g := fun T hT X => by
  obtain ⟨t, a, b⟩ := k T hT X
  exact ⟨t, a, hq t b⟩
/-- fewer is asked, more is left -/
theorem mm_G.mono {Q' : mm_O → Nat → mm_H → Prop} (k : mm_G sc y d pc l st n h kc ks Q') (hq : ∀ o n' h', Q' o n' h' → Q o n' h') : mm_G sc y d pc l st n h kc ks Q := fun X P Z S R E =>
  mm_Wmono (fun t ⟨o, h1, h2, mo, n', h', h3, h4, h5⟩ => ⟨o, h1, h2, mo, n', h', h3, hq mo n' h' h4, h5⟩) (k X P Z S R E)
theorem mm_G.less {kc' ks' : Nat} (k : mm_G sc y d pc l st n h kc' ks' Q) (h1 : kc' ≤ kc) (h2 : ks' ≤ ks) : mm_G sc y d pc l st n h kc ks Q := fun X P Z S R E =>
  k X P Z S ⟨R.1, Nat.le_trans (Nat.add_le_add_left h1 _) R.2.1, Nat.le_trans (Nat.add_le_add_left h2 _) R.2.2.1, R.2.2.2⟩ E
/-- the end: what every return gives -/
theorem mm_end {v : Option Value} {H : Heap} {cells slots : Nat} (hq : Q (.inl v) n h) (hR : mm_HR X n h H) (hc : cells ≤ P.R.cells) (hs : slots ≤ P.R.slots)
    (t : State) (ht : MQ P.below (fun _ _ o u => o = .returned v ∧ u.heap = H ∧ P.s.WarmedH u.vm) P.args P.s cells slots (fun q => X.s0.heap.size ≤ q) t) : mm_E X P Q t := by
  obtain ⟨o, h1, h2, ⟨h3, h4, h5⟩, locs', ⟨h6, h7, h8⟩, h9⟩ := ht
  exact ⟨o, h1, h2, .inl v, n, h, h3, hq, by rw [h4]; exact hR, h5, locs', h8.mono hc hs, h9⟩
theorem mm_ireturn {v : Int32} (hd : decode y.2.1 pc = .ok (.ireturn, 1)) (hr : y.2.2.2.1 = some .int) (hq : Q (.inl (some (.int v))) n h) : mm_G sc y d pc l [.int v] n h kc ks Q := fun X P Z S R E =>
  mm_Wmono (mm_end hq R.1 (Nat.le_trans (Nat.le_add_right _ _) R.2.1) (Nat.le_trans (Nat.le_add_right _ _) R.2.2.1)) (W.iret (v := v) S.1 S.2.1 (S.ret.trans hr) (fun t ht hW => ⟨rfl, ht, hW⟩) R.2.2.2 hd S.locks)
theorem mm_zreturn {v : Int32} (hd : decode y.2.1 pc = .ok (.ireturn, 1)) (hr : y.2.2.2.1 = some .boolean) (hn : narrow .boolean (.int v) = .int v) (hq : Q (.inl (some (.int v))) n h) : mm_G sc y d pc l [.int v] n h kc ks Q := fun X P Z S R E =>
  mm_Wmono (mm_end hq R.1 (Nat.le_trans (Nat.le_add_right _ _) R.2.1) (Nat.le_trans (Nat.le_add_right _ _) R.2.2.1)) (W.zret (v := v) (ty := .boolean) S.1 S.2.1 (S.ret.trans hr) hn (fun t ht hW => ⟨rfl, ht, hW⟩) R.2.2.2 hd S.locks)
theorem mm_return (hd : decode y.2.1 pc = .ok (.return_, 1)) (hr : y.2.2.2.1 = none) (hq : Q (.inl none) n h) : mm_G sc y d pc l [] n h kc ks Q := fun X P Z S R E =>
  mm_Wmono (mm_end hq R.1 (Nat.le_trans (Nat.le_add_right _ _) R.2.1) (Nat.le_trans (Nat.le_add_right _ _) R.2.2.1)) (W.vret S.1 S.2.1 (S.ret.trans hr) (fun t ht hW => ⟨rfl, ht, hW⟩) R.2.2.2 hd S.locks)
theorem mm_areturn {v : Value} {C : String} (hd : decode y.2.1 pc = .ok (.areturn, 1)) (hr : y.2.2.2.1 = some (.object C)) (hv : v = .null ∨ ∃ a, v = .ref a) (hq : Q (.inl (some v)) n h) : mm_G sc y d pc l [v] n h kc ks Q := fun X P Z S R E =>
  mm_Wmono (mm_end hq R.1 (Nat.le_trans (Nat.le_add_right _ _) R.2.1) (Nat.le_trans (Nat.le_add_right _ _) R.2.2.1)) (W.aret (v := v) S.1 S.2.1 (S.ret.trans hr) (Or.inl ⟨C, rfl⟩) hv (fun t ht hW => ⟨rfl, ht, hW⟩) R.2.2.2 hd S.locks)
theorem mm_HR.p1 {H : Heap} (R : mm_HR X n h H) {a : Nat} {c : mm_C} (ha : h a = some c) : va_P X.D vwCl [(a, mm_e X.dA c)] H := by
  intro k q hq
  cases k with
  | zero => cases hq; exact (R.2.2.2 a c ha).2
  | succ k => simp at hq
theorem mm_S.k1 (S : mm_S sc y d X P) {t : Nat} (ht : t < 4) : va_K X.D vwCl [(X.dA t, mm_ty t)] P.s := by
  refine ⟨S.kn.1, fun k q hq => ?_⟩
  cases k with
  | zero => cases hq; exact S.arr ht
  | succ k => simp at hq
end MM2
