section MM4
variable {sc : mm_Sc} {y : mm_M} {d pc : Nat} {l : mm_L} {st : List Value} {n : Nat} {h : mm_H} {kc ks : Nat} {Q : mm_O → Nat → mm_H → Prop} {X : mm_X} {P : mm_P} {Z : mm_Z}
theorem mm_R.put (R : mm_R X n h kc ks P Z) {H1 : Heap} {a i : Nat} {c0 c : mm_C} (ha : h a = some c0) (e : va_at X.D vwCl (a, mm_e X.dA c) H1) (z : H1.size = Z.H.size) (oq : ∀ q : Nat, q ≠ a → H1[q]? = Z.H[q]?) :
    mm_R X n (va_up h a (some c)) kc ks P (H1, Z.locs ++ [⟨a, i⟩], Z.cells, Z.slots, Z.ls) := by
  refine ⟨R.1.set ha e z oq, R.2.1, R.2.2.1, fun q hq => ?_⟩
  rcases List.mem_append.mp hq with h1 | h1
  · exact R.2.2.2 q h1
  · rw [List.mem_singleton.mp h1]
    exact (R.1.2.2.2 a c0 ha).1
theorem mm_R.new {N : Nat} (R : mm_R X n h (kc + 1) (ks + N) P Z) {H1 : Heap} {c : mm_C} (e : va_at X.D vwCl (n, mm_e X.dA c) H1) (z : H1.size = n + 1) (oq : ∀ q : Nat, q < n → H1[q]? = Z.H[q]?) :
    mm_R X (n + 1) (va_up h n (some c)) kc ks P (H1, Z.locs, Z.cells + 1, Z.slots + N, Z.ls) := by
  obtain ⟨h1, h2, h3, h4⟩ := R
  exact ⟨h1.new e z oq, by show Z.cells + 1 + kc ≤ P.R.cells; omega, by show Z.slots + N + ks ≤ P.R.slots; omega, h4⟩
theorem mm_iast {a len : Nat} {f : Nat → Int32} {i x : Int32} (hd : decode y.2.1 pc = .ok (.iastore, 1)) (hc : h a = some (.inl (0, len, .inl f))) (hi : vp_in i len) (k : mm_G sc y d (pc + 1) l st n (va_up h a (some (.inl (0, len, .inl (upd f i.toNatClampNeg x))))) kc ks Q) : mm_G sc y d pc l (.int x :: .int i :: .ref a :: st) n h kc ks Q := fun X P Z S R E => by
  have hcell : Z.H[a]? = some (vp_cell (X.dA 0) (len, .inl f)) := (R.1.2.2.2 a _ hc).2
  refine W.iast S.1 S.2.1 hcell ((S.arr (t := 0) (by decide)).1 len (fun j => .int (f j))) (fun q => by cases q) (by show ¬ (i < 0 ∨ (arrV _ _ _).slots.size ≤ _); rw [arrV_size]; exact hi) rfl rfl hd fun H1 e z oq => ?_
  refine k X P (H1, Z.locs ++ [⟨a, i.toNatClampNeg⟩], Z.cells, Z.slots, Z.ls) S (R.put hc ?_ z oq) E
  show H1[a]? = some (vp_cell _ _)
  rw [e, vp_cell_i, vp_cell_i, arrV_store]
  congr 2
  funext q
  by_cases hq : q = i.toNatClampNeg
  · subst hq
    simp [updV, upd]
  · simp [updV, upd, hq]
theorem mm_last {a len : Nat} {f : Nat → Int64} {i : Int32} {x : Int64} (hd : decode y.2.1 pc = .ok (.lastore, 1)) (hc : h a = some (.inl (1, len, .inr (.inl f)))) (hi : vp_in i len) (k : mm_G sc y d (pc + 1) l st n (va_up h a (some (.inl (1, len, .inr (.inl (vp_updL f i.toNatClampNeg x)))))) kc ks Q) : mm_G sc y d pc l (.long x :: .int i :: .ref a :: st) n h kc ks Q := fun X P Z S R E => by
  have hcell : Z.H[a]? = some (vp_cell (X.dA 1) (len, .inr (.inl f))) := (R.1.2.2.2 a _ hc).2
  refine W.last S.1 S.2.1 hcell ((S.arr (t := 1) (by decide)).1 len (fun j => .long (f j))) (fun q => by cases q) (by show ¬ (i < 0 ∨ (arrV _ _ _).slots.size ≤ _); rw [arrV_size]; exact hi) rfl rfl hd fun H1 e z oq => ?_
  refine k X P (H1, Z.locs ++ [⟨a, i.toNatClampNeg⟩], Z.cells, Z.slots, Z.ls) S (R.put hc ?_ z oq) E
  show H1[a]? = some (vp_cell _ _)
  rw [e, vp_cell_l, vp_cell_l, arrV_store]
  congr 2
  funext q
  by_cases hq : q = i.toNatClampNeg
  · subst hq
    simp [updV, vp_updL]
  · simp [updV, vp_updL, hq]
theorem mm_zast {a len : Nat} {f : Nat → Int32} {i x : Int32} (hd : decode y.2.1 pc = .ok (.bastore, 1)) (hc : h a = some (.inl (2, len, .inl f))) (hi : vp_in i len) (hx : narrow .boolean (.int x) = .int x) (k : mm_G sc y d (pc + 1) l st n (va_up h a (some (.inl (2, len, .inl (upd f i.toNatClampNeg x))))) kc ks Q) : mm_G sc y d pc l (.int x :: .int i :: .ref a :: st) n h kc ks Q := fun X P Z S R E => by
  have hcell : Z.H[a]? = some (vp_cell (X.dA 2) (len, .inl f)) := (R.1.2.2.2 a _ hc).2
  refine W.zast S.1 S.2.1 hcell ((S.arr (t := 2) (by decide)).1 len (fun j => .int (f j))) (fun q => by cases q) (by show ¬ (i < 0 ∨ (arrV _ _ _).slots.size ≤ _); rw [arrV_size]; exact hi) rfl rfl hd fun H1 e z oq => ?_
  refine k X P (H1, Z.locs ++ [⟨a, i.toNatClampNeg⟩], Z.cells, Z.slots, Z.ls) S (R.put hc ?_ z oq) E
  show H1[a]? = some (vp_cell _ _)
  rw [e, hx, vp_cell_i, vp_cell_i, arrV_store]
  congr 2
  funext q
  by_cases hq : q = i.toNatClampNeg
  · subst hq
    simp [updV, upd]
  · simp [updV, upd, hq]
/-- a class's fields are in the tables -/
def mm_Cl (ci : Nat) (C : String) (T : u_T) (N : Nat) : Prop := vwCl[ci]? = some (C, T, N) ∧ ∀ w ∈ u_ws C T N, w ∈ lw_tbl ∧ mm_ok w = true
/-- a class's field k by the constant idx of the class own -/
def mm_Fl (own : String) (idx : Nat) (T : u_T) (k : Nat) : Prop := ∃ ref : String, (Cond.fieldLink own idx ref (T k).2.1 (T k).2.2.1 ∈ lw_tbl ∨ ∃ host : String, Cond.fieldLinkNest own idx ref (T k).2.1 (T k).2.2.1 host ∈ lw_tbl) ∧ (ref = (T k).1 ∨ Cond.sameField ref (T k).1 (T k).2.1 (T k).2.2.1 ∈ lw_tbl)
theorem mm_Fl.same (S : mm_S sc y d X P) {ref : String} {T : u_T} {k : Nat} (hs : ref = (T k).1 ∨ Cond.sameField ref (T k).1 (T k).2.1 (T k).2.2.1 ∈ lw_tbl) :
    ∀ x, P.s.fieldFound? (T k).1 (T k).2.1 (T k).2.2.1 = some x → P.s.fieldFound? ref (T k).2.1 (T k).2.2.1 = some x := by
  rcases hs with h1 | h1
  · rw [h1]; exact fun _ h9 => h9
  · exact u_same (S.w h1 rfl)
theorem mm_getf {a ci N k i : Nat} {C : String} {T : u_T} {fs : List Value} {v : Value} (hd : decode y.2.1 pc = .ok (.getfield i, 3)) (hC : mm_Cl ci C T N) (hF : mm_Fl y.1.cls i T k) (hk : k < N) (hc : h a = some (.inr (ci, fs))) (hv : fs[k]? = some v)
    (kk : mm_G sc y d (pc + 3) l (v :: st) n h kc ks Q) : mm_G sc y d pc l (.ref a :: st) n h kc ks Q := fun X P Z S R E => by
  obtain ⟨ref, hl, hs⟩ := hF
  rcases hl with hl | ⟨host, hl⟩
  · exact va_get (D := X.D) (cl := vwCl) (tys := []) (ws := [(a, .inr (ci, fs))]) (Ts := u_ws C T N) S.1 S.2.1 (fun w hw => S.w (hC.2 w hw).1 (hC.2 w hw).2) (fun _ h9 => h9) S.own S.kn (R.1.p1 hc) 0 rfl hC.1 k hk (S.w hl rfl) (mm_Fl.same S hs) hv hd (kk X P Z S R E)
  · exact va_getN (D := X.D) (cl := vwCl) (tys := []) (ws := [(a, .inr (ci, fs))]) (Ts := u_ws C T N) S.1 S.2.1 (fun w hw => S.w (hC.2 w hw).1 (hC.2 w hw).2) (fun _ h9 => h9) S.own S.kn (R.1.p1 hc) 0 rfl hC.1 k hk (S.w hl rfl) (mm_Fl.same S hs) hv hd (kk X P Z S R E)
/-- the types of a class's fields, their names are apart -/
def mm_Ty (T : u_T) (N : Nat) (ty : Nat → FieldType) : Prop := (∀ k, k < N → parseFieldDescriptor (T k).2.2.1 = some (ty k)) ∧ ∀ a, a < N → ∀ b, b < N → a ≠ b → (T a).2.1 ≠ (T b).2.1
theorem mm_putf {a ci N k i : Nat} {C : String} {T : u_T} {ty : Nat → FieldType} {fs : List Value} {v : Value} (hd : decode y.2.1 pc = .ok (.putfield i, 3)) (hC : mm_Cl ci C T N) (hT : mm_Ty T N ty) (hF : mm_Fl y.1.cls i T k) (hk : k < N) (hfin : (T k).2.2.2 = false) (hn : narrow (ty k) v = v) (hfit : fits (ty k) v = true) (hc : h a = some (.inr (ci, fs))) (hl : k < fs.length)
    (kk : mm_G sc y d (pc + 3) l st n (va_up h a (some (.inr (ci, fs.set k v)))) kc ks Q) : mm_G sc y d pc l (v :: .ref a :: st) n h kc ks Q := fun X P Z S R E => by
  obtain ⟨ref, hlk, hs⟩ := hF
  have hts : ∀ w ∈ u_ws C T N, w.before P.args P.s = true := fun w hw => S.w (hC.2 w hw).1 (hC.2 w hw).2
  have hap := va_apart (own := C) (D := X.D) (cl := vwCl) (tys := []) hts (fun _ h9 => h9) ty hT.1 hT.2 S.kn hC.1
  obtain ⟨r, h1, cell, q1, q2, q3, q4⟩ := (R.1.2.2.2 a _ hc).2
  have hr : r = (C, T, N) := Option.some.inj (h1.symm.trans hC.1)
  subst hr
  obtain ⟨hS, hfc, kC, hkC, hkind⟩ := S.kn.1 ci _ hC.1
  obtain ⟨cf, kf, fi, f, hi, hsl⟩ := hS k hk
  have hst := (u_facts hfc hkC (u_lays hts (fun _ h9 => h9) hk) hi).1
  have hlay := hts _ (u_in_lay hk)
  unfold u_lay at hlay
  rw [if_neg (by rw [hfin]; decide)] at hlay
  have h6 := u_store hfc hkC hkind hlay hi (hT.1 k hk) hn hfit
  have hlt : f.slot < cell.slots.size := by rw [hsl]; exact k2_hasslot (q4 k hk)
  have hw : ∀ (H1 : Heap), H1[a]? = some (cell.setSlot f.slot v) → H1.size = Z.H.size → (∀ q, q ≠ a → H1[q]? = Z.H[q]?) → W P.p X.l P.e P.R P.s P.m P.args P.below P.meth P.c H1 (Z.locs ++ [⟨a, f.slot⟩]) Z.cells Z.slots (mm_E X P Q) (F0 P.m (pc + 3) Z.ls st) := by
    intro H1 e1 e2 e3
    rw [hsl] at e1 ⊢
    exact kk X P (H1, Z.locs ++ [⟨a, _⟩], Z.cells, Z.slots, Z.ls) S (R.put (c := .inr (ci, fs.set k v)) hc (show va_at X.D vwCl (a, .inr (ci, fs.set k v)) H1 from ⟨_, hC.1, t_OB.to (V := updV (vp_V fs) k v) ⟨_, e1, q2, q3, t_set q4 hap hk v⟩ (fun j _ => vp_updV_set hl v j)⟩) e2 e3) E
  rcases hlk with hlk | ⟨host, hlk⟩
  · exact W.putK S.1 S.2.1 (f := f) ⟨S.own, S.w hlk rfl, ⟨_, _, _, mm_Fl.same S hs _ hi⟩, hst⟩ (by rw [q2]; exact h6) q1 q3 hlt rfl rfl hd hw
  · exact va_WputK S.1 S.2.1 (f := f) S.own (S.w hlk rfl) (mm_Fl.same S hs _ hi) hst (by rw [q2]; exact h6) q1 q3 hlt rfl rfl hd hw
/-- a final field, in a constructor of the class that declares it -/
theorem mm_putfF {a ci N k i : Nat} {C : String} {T : u_T} {ty : Nat → FieldType} {fs : List Value} {v : Value} (hd : decode y.2.1 pc = .ok (.putfield i, 3)) (hC : mm_Cl ci C T N) (hT : mm_Ty T N ty) (hF : Cond.fieldLink y.1.cls i (T k).1 (T k).2.1 (T k).2.2.1 ∈ lw_tbl) (hk : k < N) (hfin : (T k).2.2.2 = true) (hdecl : (T k).1 = y.1.cls) (hin2 : y.1.name = "<init>") (hn : narrow (ty k) v = v) (hfit : fits (ty k) v = true) (hc : h a = some (.inr (ci, fs))) (hl : k < fs.length)
    (kk : mm_G sc y d (pc + 3) l st n (va_up h a (some (.inr (ci, fs.set k v)))) kc ks Q) : mm_G sc y d pc l (v :: .ref a :: st) n h kc ks Q := fun X P Z S R E => by
  have hts : ∀ w ∈ u_ws C T N, w.before P.args P.s = true := fun w hw => S.w (hC.2 w hw).1 (hC.2 w hw).2
  have hap := va_apart (own := C) (D := X.D) (cl := vwCl) (tys := []) hts (fun _ h9 => h9) ty hT.1 hT.2 S.kn hC.1
  obtain ⟨r, h1, cell, q1, q2, q3, q4⟩ := (R.1.2.2.2 a _ hc).2
  have hr : r = (C, T, N) := Option.some.inj (h1.symm.trans hC.1)
  subst hr
  obtain ⟨hS, hfc, kC, hkC, hkind⟩ := S.kn.1 ci _ hC.1
  obtain ⟨cf, kf, fi, f, hi, hsl⟩ := hS k hk
  have hst := (u_facts hfc hkC (u_lays hts (fun _ h9 => h9) hk) hi).1
  have hlay := hts _ (u_in_lay hk)
  unfold u_lay at hlay
  rw [if_pos hfin] at hlay
  have hcf : P.m.cls = cf := by
    obtain ⟨_, _, c', _, _, _, -, -, hf', -, -, -, hown2, -⟩ := Cond.laysFinal_spec hlay
    have e1 : c' = cf := by have := hi.symm.trans hf'; simp at this; exact this.1.symm
    rw [hdecl] at hown2
    rw [← e1]; exact Option.some.inj (S.own.symm.trans hown2)
  have h6 := u_fits hfc hkC hkind (Or.inr hlay) hi (hT.1 k hk) hn hfit
  have hlt : f.slot < cell.slots.size := by rw [hsl]; exact k2_hasslot (q4 k hk)
  refine W.putFinK S.1 S.2.1 S.own (S.w hF rfl) hi hst hcf (S.name.trans hin2) (by rw [q2]; exact h6) q1 q3 hlt rfl rfl hd fun H1 e1 e2 e3 => ?_
  rw [hsl] at e1 ⊢
  exact kk X P (H1, Z.locs ++ [⟨a, _⟩], Z.cells, Z.slots, Z.ls) S (R.put (c := .inr (ci, fs.set k v)) hc (show va_at X.D vwCl (a, .inr (ci, fs.set k v)) H1 from ⟨_, hC.1, t_OB.to (V := updV (vp_V fs) k v) ⟨_, e1, q2, q3, t_set q4 hap hk v⟩ (fun j _ => vp_updV_set hl v j)⟩) e2 e3) E
theorem mm_new {ci N i : Nat} {C : String} {T : u_T} {ty : Nat → FieldType} {fs : List Value} (hd : decode y.2.1 pc = .ok (.new i, 3)) (hC : mm_Cl ci C T N) (hT : mm_Ty T N ty) (hl : Cond.classLink y.1.cls i C ∈ lw_tbl) (hi : Cond.instantiable C N ∈ lw_tbl) (hini : Cond.initialized C ∈ lw_tbl) (hfs : ∀ j, j < N → defaultValue (ty j) = vp_V fs j)
    (k : mm_G sc y d (pc + 3) l (.ref n :: st) (n + 1) (va_up h n (some (.inr (ci, fs)))) kc ks Q) : mm_G sc y d pc l st n h (kc + 1) (ks + N) Q := fun X P Z S R E => by
  have hts : ∀ w ∈ u_ws C T N, w.before P.args P.s = true := fun w hw => S.w (hC.2 w hw).1 (hC.2 w hw).2
  have hKn := S.kn.1 ci _ hC.1
  have hc1 : Z.cells + 1 ≤ P.R.cells := by have := R.2.1; omega
  have hs1 : Z.slots + N ≤ P.R.slots := by have := R.2.2.1; omega
  refine W.newcK S.1 S.2.1 S.own (S.w hl rfl) (S.w hi rfl) (S.w hini rfl) rfl hd hc1 hs1 hKn.2.1 R.1.1 fun H1 kC hkC e1 z1 o1 => ?_
  exact k X P (H1, Z.locs, Z.cells + 1, Z.slots + N, Z.ls) S (R.new (c := .inr (ci, fs)) (show va_at X.D vwCl (n, .inr (ci, fs)) H1 from ⟨_, hC.1, (u_born ty hts (fun _ h9 => h9) hKn hkC e1 hT.1).to hfs⟩) z1 o1) E
theorem mm_RA3 {t : Nat} (ht : t < 3) {U : State} {cA : ClassId} (h9 : va_RA U cA (mm_ty t)) : U.vm.findClass ("[" ++ (mm_ty t).toString) = some cA := by
  rcases (show t = 0 ∨ t = 1 ∨ t = 2 by omega) with rfl | rfl | rfl <;> exact h9
theorem mm_newa {t N : Nat} {ka : ArrayType} {i : Int32} {a0 : vp_A} (hd : decode y.2.1 pc = .ok (.newarray ka, 2)) (ht : t < 3) (hty : newarray.typeOf ka = mm_ty t) (hw : Cond.arrayClass (mm_ty t) ∈ lw_tbl) (ha : ∀ cA : ClassId, vp_cell cA a0 = arrV cA N (fun _ => defaultValue (mm_ty t))) (hn : ¬ i < 0) (hN : i.toNatClampNeg = N) (hb : N * componentBytes (mm_ty t) ≤ 536870912)
    (k : mm_G sc y d (pc + 2) l (.ref n :: st) (n + 1) (va_up h n (some (.inl (t, a0)))) kc ks Q) : mm_G sc y d pc l (.int i :: st) n h (kc + 1) (ks + N) Q := fun X P Z S R E => by
  have hc1 : Z.cells + 1 ≤ P.R.cells := by have := R.2.1; omega
  have hs1 : Z.slots + N ≤ P.R.slots := by have := R.2.2.1; omega
  have hA : P.s.vm.findClass ("[" ++ (mm_ty t).toString) = some (X.dA t) := mm_RA3 ht (S.arr (t := t) (by omega)).2
  refine va_newaK S.1 S.2.1 (by rw [hty]; exact S.w hw rfl) rfl hd rfl hn hN (by rw [hty]; exact hb) hc1 hs1 R.1.1 fun H1 cA e1 z1 o1 hAr hNm => ?_
  rw [hty] at e1 hNm
  cases Option.some.inj (hNm.symm.trans hA)
  exact k X P (H1, Z.locs, Z.cells + 1, Z.slots + N, Z.ls) S (R.new (c := .inl (t, a0)) (show H1[n]? = some (vp_cell (X.dA t) a0) by rw [ha]; exact e1) z1 o1) E
theorem mm_newq {N idx : Nat} {i : Int32} (hd : decode y.2.1 pc = .ok (.anewarray idx, 3)) (hl : Cond.classLink y.1.cls idx mm_elem ∈ lw_tbl) (hw : Cond.arrayOver (.object mm_elem) ∈ lw_tbl) (hok : mm_ok (Cond.arrayOver (.object mm_elem)) = true) (hn : ¬ i < 0) (hN : i.toNatClampNeg = N) (hb : N * 4 ≤ 536870912)
    (k : mm_G sc y d (pc + 3) l (.ref n :: st) (n + 1) (va_up h n (some (.inl (3, N, .inr (.inr (.inr (.inr (fun _ => none)))))))) kc ks Q) : mm_G sc y d pc l (.int i :: st) n h (kc + 1) (ks + N) Q := fun X P Z S R E => by
  subst hN
  have hc1 : Z.cells + 1 ≤ P.R.cells := by have := R.2.1; omega
  have hs1 : Z.slots + i.toNatClampNeg ≤ P.R.slots := by have := R.2.2.1; omega
  obtain ⟨kA', comp', -, -, -, hA⟩ := (S.arr (t := 3) (by decide)).2
  refine W.anew S.1 S.2.1 S.own (S.w hl rfl) (S.w hw hok) rfl hd rfl hn hb hc1 hs1 fun cA kA comp f1 f2 f3 f4 => ?_
  cases Option.some.inj (f1.symm.trans hA)
  generalize hH1 : Z.H.push ({ cls := X.dA 3, slots := Array.replicate i.toNatClampNeg .null, vm := .none } : Cell) = H1
  have hz := R.1.1
  have z1 : H1.size = n + 1 := by rw [← hH1, Array.size_push, hz]
  have e1 : H1[n]? = some (arrV (X.dA 3) i.toNatClampNeg (fun _ => .null)) := by rw [← hH1, ← hz, Array.getElem?_push_size, ← arrV_new]
  have o1 : ∀ q : Nat, q < n → H1[q]? = Z.H[q]? := fun q hq => by rw [← hH1, Array.getElem?_push, if_neg (by omega)]
  rw [hz]
  exact k X P (H1, Z.locs, Z.cells + 1, Z.slots + i.toNatClampNeg, Z.ls) S (R.new (c := .inl (3, i.toNatClampNeg, .inr (.inr (.inr (.inr (fun _ => none)))))) (show H1[n]? = some (vp_cell (X.dA 3) (i.toNatClampNeg, .inr (.inr (.inr (.inr (fun _ => none)))))) from e1) z1 o1) E
theorem mm_aast {a len v ci N : Nat} {C : String} {T : u_T} {fs : List Value} {f : Nat → Option Nat} {i : Int32} (hd : decode y.2.1 pc = .ok (.aastore, 1)) (hc : h a = some (.inl (3, len, .inr (.inr (.inr (.inr f)))))) (hv : h v = some (.inr (ci, fs))) (hC : mm_Cl ci C T N) (hw : Cond.castable C mm_elem ∈ lw_tbl) (hi : vp_in i len)
    (k : mm_G sc y d (pc + 1) l st n (va_up h a (some (.inl (3, len, .inr (.inr (.inr (.inr (va_up f i.toNatClampNeg (some v))))))))) kc ks Q) : mm_G sc y d pc l (.ref v :: .int i :: .ref a :: st) n h kc ks Q := fun X P Z S R E => by
  have hcell : Z.H[a]? = some (vp_cell (X.dA 3) (len, .inr (.inr (.inr (.inr f))))) := (R.1.2.2.2 a _ hc).2
  have hlt : i.toNatClampNeg < len := Nat.not_le.mp fun q => hi (Or.inr q)
  have h0 : ¬ i < 0 := fun q => hi (Or.inl q)
  obtain ⟨cellV, g1, g3, g2⟩ := va_recv S.kn (R.1.p1 hv) hC.1 (q0 := 0) rfl
  obtain ⟨kC, hkC, -⟩ := Vm.findClass_spec g2
  obtain ⟨c0, t0, f1, f2, f3⟩ := Cond.castable_spec (S.w hw rfl)
  cases Option.some.inj (g2.symm.trans f1)
  obtain ⟨kA, comp, k1, k2, k3, -⟩ := (S.arr (t := 3) (by decide)).2
  cases Option.some.inj (k3.symm.trans f2)
  obtain ⟨kE, hkE, -⟩ := Vm.findClass_spec k3
  refine W.aast S.1 S.2.1 hcell (fun q h => by cases h) (fun h => by cases h) k1 k2 rfl hkE ⟨h0, by show _ < (arrV _ _ _).slots.size; rw [arrV_size]; exact hlt⟩ g1 (fun q h => by rw [h] at g3; cases g3) hkC f3 rfl rfl hd fun H1 e z oq => ?_
  refine k X P (H1, Z.locs ++ [⟨a, i.toNatClampNeg⟩], Z.cells, Z.slots, Z.ls) S (R.put hc ?_ z oq) E
  show H1[a]? = some (vp_cell _ _)
  rw [e, vp_cell_q, vp_cell_q, arrV_store]
  congr 2
  funext q
  by_cases hq : q = i.toNatClampNeg
  · subst hq
    simp [updV, va_up, va_rf]
  · simp [updV, va_up, hq]
theorem mm_instY {a ci N i : Nat} {C nm : String} {T : u_T} {fs : List Value} (hd : decode y.2.1 pc = .ok (.instanceof i, 3)) (hc : h a = some (.inr (ci, fs))) (hC : mm_Cl ci C T N) (hl : Cond.classLink y.1.cls i nm ∈ lw_tbl) (hs : C = nm ∨ Cond.castable C nm ∈ lw_tbl)
    (k : mm_G sc y d (pc + 3) l (.int 1 :: st) n h kc ks Q) : mm_G sc y d pc l (.ref a :: st) n h kc ks Q := fun X P Z S R E => by
  rcases hs with rfl | hs
  · exact va_instS S.1 S.2.1 S.own (S.w hl rfl) (S.kn.1 ci _ hC.1).2 (va_recv S.kn (R.1.p1 hc) hC.1 (q0 := 0) rfl) hd (k X P Z S R E)
  · exact va_instY S.1 S.2.1 S.own (S.w hl rfl) (va_Nw.of rfl (S.w hs rfl)) (va_recv S.kn (R.1.p1 hc) hC.1 (q0 := 0) rfl) hd (k X P Z S R E)
theorem mm_castY {a ci N i : Nat} {C nm : String} {T : u_T} {fs : List Value} (hd : decode y.2.1 pc = .ok (.checkcast i, 3)) (hc : h a = some (.inr (ci, fs))) (hC : mm_Cl ci C T N) (hl : Cond.classLink y.1.cls i nm ∈ lw_tbl) (hs : C = nm ∨ Cond.castable C nm ∈ lw_tbl)
    (k : mm_G sc y d (pc + 3) l (.ref a :: st) n h kc ks Q) : mm_G sc y d pc l (.ref a :: st) n h kc ks Q := fun X P Z S R E => by
  rcases hs with rfl | hs
  · exact va_castS S.1 S.2.1 S.own (S.w hl rfl) (S.kn.1 ci _ hC.1).2 (va_recv S.kn (R.1.p1 hc) hC.1 (q0 := 0) rfl) hd (k X P Z S R E)
  · exact va_castY S.1 S.2.1 S.own (S.w hl rfl) (va_Nw.of rfl (S.w hs rfl)) (va_recv S.kn (R.1.p1 hc) hC.1 (q0 := 0) rfl) hd (k X P Z S R E)
theorem mm_instN {i : Nat} (hd : decode y.2.1 pc = .ok (.instanceof i, 3)) (k : mm_G sc y d (pc + 3) l (.int 0 :: st) n h kc ks Q) : mm_G sc y d pc l (.null :: st) n h kc ks Q := fun X P Z S R E => lv_instN S.1 S.2.1 hd (k X P Z S R E)
theorem mm_sld {i : Int32} (hd : decode y.2.1 pc = .ok (.iaload, 1)) (hi : vp_in i sc.2.1) (k : mm_G sc y d (pc + 1) l (.int (sc.2.2 i.toNatClampNeg) :: st) n h kc ks Q) : mm_G sc y d pc l (.int i :: .ref sc.1 :: st) n h kc ks Q := fun X P Z S R E => by
  obtain ⟨scr, h1, h2, h3, h4, h5⟩ := S.K.2.2.2.1
  have hlt : i.toNatClampNeg < sc.2.1 := Nat.not_le.mp fun q => hi (Or.inr q)
  exact W.iald (v := .int (sc.2.2 i.toNatClampNeg)) S.1 S.2.1 (by rw [R.1.2.2.1 _ S.K.2.2.2.2.1]; exact h1) (State.isArrayOf_alike S.warm.alike h2) h3 (by rw [h4]; exact hi) (h5 _ hlt) rfl rfl hd (k X P Z S R E)
theorem mm_slen (hd : decode y.2.1 pc = .ok (.arraylength, 1)) (k : mm_G sc y d (pc + 1) l (.int (Int32.ofNat sc.2.1) :: st) n h kc ks Q) : mm_G sc y d pc l (.ref sc.1 :: st) n h kc ks Q := fun X P Z S R E => by
  obtain ⟨scr, h1, h2, h3, h4, h5⟩ := S.K.2.2.2.1
  exact W.alen (n := Int32.ofNat sc.2.1) S.1 S.2.1 (by rw [R.1.2.2.1 _ S.K.2.2.2.2.1]; exact h1) (State.isArrayOf_alike S.warm.alike h2) (by rw [h4] <;> rfl) rfl rfl hd (k X P Z S R E)
theorem mm_objInit {i a : Nat} (hd : decode y.2.1 pc = .ok (.invokespecial i, 3)) (hl : Cond.methodLink y.1.cls i Lib.objectInit ∈ lw_tbl) (hi : Cond.instanceMethod Lib.objectInit ∈ lw_tbl) (hc : Cond.code Lib.objectInit ⟨#[0xb1]⟩ 1 none ∈ lw_tbl) (h1 : 1 ≤ d) (hst : (st.map fun v => v.category).sum ≤ 8)
    (k : mm_G sc y d (pc + 3) l st n h kc ks Q) : mm_G sc y d pc l (.ref a :: st) n h kc ks Q := fun X P Z S R E => by
  have hf := S.frames
  have hlo := S.locals
  exact W.objInit S.1 S.2.1 S.own (S.w hl rfl) (S.w hi rfl) (S.w hc rfl) (g := F0 P.m pc Z.ls (.ref a :: st)) rfl (by rw [S.ml]; exact E.1.1) (a := a) (rest := st) rfl hd (by omega) (by show 2 * 0 + _ + 12 ≤ _; omega) (k X P Z S R E)
theorem mm_mmin {i : Nat} {a b : Int32} (hd : decode y.2.1 pc = .ok (.invokestatic i, 3)) (hl : Cond.methodLink y.1.cls i Lib.Math.min.name ∈ lw_tbl) (hs : Cond.static Lib.Math.min.name ∈ lw_tbl) (hi : Cond.initialized "java/lang/Math" ∈ lw_tbl) (hc : Cond.code Lib.Math.min.name Lib.Math.min.code 2 (some .int) ∈ lw_tbl) (h1 : 1 ≤ d) (hst : (st.map fun v => v.category).sum ≤ 8)
    (k : mm_G sc y d (pc + 3) l (.int (if b < a then b else a) :: st) n h kc ks Q) : mm_G sc y d pc l (.int b :: .int a :: st) n h kc ks Q := fun X P Z S R E => by
  have hf := S.frames
  have hlo := S.locals
  exact va_mmin S.1 S.2.1 (by rw [S.ml]; exact E.1.1.symm) S.own (S.w hl rfl) (S.w hs rfl) (S.w hi rfl) (S.w hc rfl) (by omega) (by omega) (Nat.le_trans (Nat.le_add_right _ _) R.2.1) (Nat.le_trans (Nat.le_add_right _ _) R.2.2.1) hd (k X P Z S R E)
theorem mm_named {y : mm_M} {a : Array Value} {s : State} (hw : (mm_code y).before a s = true) : ∃ m, s.methodNamed? y.1 = some m := by
  obtain ⟨nm, bs, ml, rt, hs⟩ := y
  cases hs with
  | nil => exact Cond.code_named (x := nm) (bytes := bs) (maxLocals := ml) (ret := rt) hw
  | cons z zs =>
    obtain ⟨m', meth, c, q0, -⟩ := Cond.codeWith_spec (x := nm) (bytes := bs) (maxLocals := ml) (ret := rt) (handlers := z :: zs) hw
    exact ⟨m', q0⟩
end MM4
