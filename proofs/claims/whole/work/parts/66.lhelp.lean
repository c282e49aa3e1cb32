/-! The law: what its helpers need and give. The object lies at x, the reference at x + 6, the long array at x + 25. -/
theorem PH_frame {h h' : mm_H} {a : Nat} {p : pS} (hp : PH h a p) (e : ∀ i, a ≤ i → i < a + p_sz p.1 → h' i = h i) : PH h' a p := by
  obtain ⟨h1, h2, h3, h4, h5, h6, h7⟩ := hp
  have s2 : 2 ≤ p_sz p.1 := by unfold p_sz; split <;> omega
  refine ⟨(e _ (by omega) (by omega)).trans h1, (e _ (by omega) (by omega)).trans h2, fun z => (e _ (by omega) ?_).trans (h3 z), fun z => (e _ (by omega) ?_).trans (h4 z), fun z => (e _ (by omega) ?_).trans (h5 z), h6, h7⟩
  · have : 3 ≤ p_sz p.1 := by unfold p_sz; split <;> first | omega | (rename_i z9; exact absurd z9 z)
    omega
  · rw [z]; show a + 3 < a + 4; omega
  · rw [z]; show a + 3 < a + 4; omega
theorem CH_frame {h h' : mm_H} {x : Nat} {pa : Nat → Nat} {c : cS} (H : CH h x pa c) (e : ∀ i, CF x pa c i → h' i = h i) : CH h' x pa c := by
  obtain ⟨h1, h2, h3, h4, h5, h6, h7, h8, h9⟩ := H
  have k : ∀ j, j < 6 → h' (x + j) = h (x + j) := fun j hj => e _ (Or.inl ⟨by omega, by omega⟩)
  refine ⟨(k 0 (by decide)).trans h1, (k 1 (by decide)).trans h2, (k 2 (by decide)).trans h3, (k 3 (by decide)).trans h4, (k 4 (by decide)).trans h5, (k 5 (by decide)).trans h6, h7, fun i hi => ⟨PH_frame (h8 i hi).1 (fun j q1 q2 => e _ (Or.inr ⟨i, hi, q1, q2⟩)), (h8 i hi).2⟩, h9⟩
theorem MH_frame {h h' : mm_H} {m : Nat} {I : Nat → Int32} {A : Nat → Nat → Int32} (H : MH h m I A) (e : ∀ i, m ≤ i → i < m + 19 → h' i = h i) : MH h' m I A :=
  ⟨(e _ (by omega) (by omega)).trans H.1, fun j hj => (e _ (by omega) (by omega)).trans (H.2 j hj)⟩
/-- where the parts lie -/
def LPl (x n : Nat) (pa : Nat → Nat) (c : cS) : Prop := x + 26 ≤ n ∧ ∀ i, i < c.1 → x + 26 ≤ pa i ∧ pa i + p_sz (c.2.1 i).1 ≤ n
theorem LPl.off {x n : Nat} {pa : Nat → Nat} {c : cS} (B : LPl x n pa c) {i : Nat} (h1 : x + 6 ≤ i) (h2 : i < x + 26) : ¬ CF x pa c i := by
  rintro (z | ⟨j, z1, z2, z3⟩)
  · omega
  · have := (B.2 j z1).1; omega
/-- the long array -/
def LO (h : mm_H) (x : Nat) (f : Nat → Int64) : Prop := h (x + 25) = some (.inl (1, 1, .inr (.inl f)))
/-- before a helper -/
def LA (h : mm_H) (x n : Nat) (c : cS) : Prop := ∃ pa f, CH h x pa c ∧ LPl x n pa c ∧ LO h x f
/-- behind a call of the class -/
def LB (c : cS) (x n : Nat) (h h' : mm_H) : Prop := ∃ pa, CH h' x pa c ∧ LPl x n pa c ∧ ∀ i, x + 6 ≤ i → i < x + 26 → h' i = h i
theorem LB.ofCI {r : cA × cS} {n x n' : Nat} {h h' : mm_H} {pa : Nat → Nat} {c : cS} {o : mm_O} (B : LPl x n pa c) (q : CI r n h x pa c o n' h') : o = o_i r.1 ∧ n ≤ n' ∧ LB r.2 x n' h h' := by
  obtain ⟨q1, q2, q3, q4, q5⟩ := q
  refine ⟨q1, q2, pa, q3, ⟨Nat.le_trans B.1 q2, fun i hi => ?_⟩, fun i z1 z2 => q4 i (B.off z1 z2)⟩
  have hi' : i < c.1 := by rw [← q5.1]; exact hi
  rw [q5.2 i hi']
  exact ⟨(B.2 i hi').1, Nat.le_trans (B.2 i hi').2 q2⟩
theorem LB.ofCN {r : cA × cS} {n x n' : Nat} {h h' : mm_H} {pa : Nat → Nat} {c : cS} {o : mm_O} (B : LPl x n pa c) (q : CN r n h x pa c o n' h') : o = o_i r.1 ∧ n ≤ n' ∧ LB r.2 x n' h h' := by
  obtain ⟨q1, q2, pa', q3, q4, q5, q6, q7⟩ := q
  have hn := B.1
  refine ⟨q1, q2, pa', q3, ⟨Nat.le_trans B.1 q2, fun i hi => ⟨?_, q6 i hi⟩⟩, fun i z1 z2 => q7 i (B.off z1 z2) (by omega)⟩
  rcases q5 i hi with z | z
  · rw [q4 i z]; exact (B.2 i z).1
  · omega
def l_code (code : Nat → Int32) : cA → Int32
  | .inl _ => 0
  | .inr e => code e
/-- what a helper gives: the code of the throw or 0, the answer in the array -/
def LN (code : Nat → Int32) (r : cA × cS) (x n : Nat) (h : mm_H) : mm_O → Nat → mm_H → Prop := fun o n' h' => o = .inl (some (.int (l_code code r.1))) ∧ n ≤ n' ∧ (∃ pa f, CH h' x pa r.2 ∧ LPl x n' pa r.2 ∧ LO h' x f ∧ ∀ v, r.1 = .inl v → f 0 = v.toInt64) ∧ (∀ i, x + 6 ≤ i → i < x + 25 → h' i = h i) ∧ ∀ e, r.1 = .inr e → code e ≠ 0
theorem LN.ok {code : Nat → Int32} {v : Int32} {w : Int64} {c : cS} {x n n' : Nat} {h h' : mm_H} {f : Nat → Int64} (hn : n ≤ n') (L : LB c x n' h h') (hw : w = v.toInt64) : LN code (.inl v, c) x n h (.inl (some (.int 0))) n' (va_up h' (x + 25) (some (.inl (1, 1, .inr (.inl (vp_updL f (0 : Int32).toNatClampNeg w)))))) := by
  obtain ⟨pa, H, B, F⟩ := L
  refine ⟨rfl, hn, ⟨pa, _, CH_frame H (fun i hi => va_up_ne _ _ (fun z => B.off (i := i) (by omega) (by omega) hi)), B, va_up_self _ _ _, fun v' hv => ?_⟩, fun i z1 z2 => ?_, fun e he => by cases he⟩
  · cases hv
    rw [hw]
    rfl
  · rw [va_up_ne _ _ (by omega)]
    exact F i z1 (by omega)
theorem LN.bad {code : Nat → Int32} {e : Nat} {z : Int32} {c : cS} {x n n' : Nat} {h h' : mm_H} {f : Nat → Int64} (ho : LO h x f) (hn : n ≤ n') (L : LB c x n' h h') (hz : z = code e) (h0 : code e ≠ 0) : LN code (.inr e, c) x n h (.inl (some (.int z))) n' h' := by
  obtain ⟨pa, H, B, F⟩ := L
  refine ⟨by rw [hz]; rfl, hn, ⟨pa, f, H, B, (F _ (by omega) (by omega)).trans ho, fun v hv => by cases hv⟩, fun i z1 z2 => F i z1 (by omega), fun e' he => ?_⟩
  cases he
  exact h0
theorem vp_in01 : vp_in (0 : Int32) 1 := vp_in_nI (n := 0) (by decide) (by decide)
theorem steps_01 : ∀ (m : Nat) (c : cS) (r : Int32), r = 0 ∨ r = 1 → (c_steps m c r).2 = 0 ∨ (c_steps m c r).2 = 1 := by
  intro m
  induction m with
  | zero => intro c r h; exact h
  | succ m ih =>
    intro c r h
    refine ih _ _ ?_
    split
    · exact h
    · exact Or.inr rfl
theorem step_01 {k v : Int32} {c c1 : cS} (h : c_stepN k c = (.inl v, c1)) : v = 0 ∨ v = 1 := by
  unfold c_stepN at h
  split at h
  · cases h
  · split at h
    · cases h
    · cases h
      exact steps_01 _ _ _ (Or.inl rfl)
theorem x_reach {k : Int32} {c c1 : cS} {e : Nat} (h : c_reach k c = (.inr e, c1)) : e = 2 ∨ e = 3 := by
  unfold c_reach at h
  split at h
  · cases h; exact Or.inl rfl
  · split at h
    · cases h; exact Or.inr rfl
    · cases h
theorem x_ser {k : Int32} {c c1 : cS} {e : Nat} (h : c_ser k c = (.inr e, c1)) : e = 0 := by
  unfold c_ser at h
  split at h
  · cases h; rfl
  · split at h
    · cases h; rfl
    · split at h
      · split at h
        · cases h
        · cases h; rfl
      · cases h; rfl
theorem x_part {k f z l w : Int32} {c c1 : cS} {e : Nat} (hr : c_part k f z l w c = (.inr e, c1)) : e = 0 ∨ e = 1 := by
  unfold c_part at hr
  split at hr
  · split at hr
    · cases hr
    · cases hr; exact Or.inr rfl
  · cases hr; exact Or.inl rfl
theorem x_load {k v : Int32} {c c1 : cS} {e : Nat} (hr : c_load k v c = (.inr e, c1)) : e = 0 := by
  unfold c_load at hr
  split at hr
  · cases hr; rfl
  · split at hr
    · cases hr
    · cases hr; rfl
theorem x_read {k : Int32} {c c1 : cS} {e : Nat} (hr : c_read k c = (.inr e, c1)) : e = 2 ∨ e = 3 := by
  unfold c_read at hr
  rcases hq : c_reach k c with ⟨i | e', c'⟩ <;> rw [hq] at hr
  · cases hr
  · cases hr; exact x_reach hq
theorem x_write {k v : Int32} {c c1 : cS} {e : Nat} (hr : c_write k v c = (.inr e, c1)) : e = 2 ∨ e = 3 := by
  unfold c_write at hr
  rcases hq : c_reach k c with ⟨i | e', c'⟩ <;> rw [hq] at hr
  · simp only at hr
    split at hr
    · cases hr
    · cases hr; exact Or.inr rfl
  · cases hr; exact x_reach hq
theorem x_step {k : Int32} {c c1 : cS} {e : Nat} (hr : c_stepN k c = (.inr e, c1)) : e = 0 := by
  unfold c_stepN at hr
  split at hr
  · cases hr; rfl
  · split at hr
    · cases hr; rfl
    · cases hr
theorem x_receive {k v : Int32} {c c1 : cS} {e : Nat} (hr : c_recv k v c = (.inr e, c1)) : e = 0 ∨ e = 1 := by
  unfold c_recv at hr
  rcases hq : c_ser k c with ⟨i | e', c'⟩ <;> rw [hq] at hr
  · simp only at hr
    split at hr
    · cases hr
    · cases hr; exact Or.inr rfl
  · cases hr; exact Or.inl (x_ser hq)
theorem x_sent {k j : Int32} {c c1 : cS} {e : Nat} (hr : c_sent k j c = (.inr e, c1)) : e = 0 ∨ e = 2 := by
  unfold c_sent at hr
  rcases hq : c_ser k c with ⟨i | e', c'⟩ <;> rw [hq] at hr
  · simp only at hr
    split at hr
    · cases hr; exact Or.inr rfl
    · split at hr
      · cases hr
      · cases hr; exact Or.inr rfl
  · cases hr; exact Or.inl (x_ser hq)
theorem x_line {l k v : Int32} {c c1 : cS} {e : Nat} (hr : c_line l k v c = (.inr e, c1)) : e = 2 ∨ e = 0 := by
  unfold c_line at hr
  split at hr
  · cases hr; exact Or.inl rfl
  · split at hr
    · cases hr; exact Or.inr rfl
    · split at hr
      · cases hr
      · cases hr; exact Or.inr rfl
theorem x_asks {l : Int32} {c c1 : cS} {e : Nat} (hr : c_asks l c = (.inr e, c1)) : e = 2 := by
  unfold c_asks at hr
  split at hr
  · cases hr; rfl
  · cases hr

theorem ncx_UOE_IAE : Cond.not (.castable "java/lang/UnsupportedOperationException" "java/lang/IllegalArgumentException") ∈ flatC (Jvm.Cond.and given_1 narrow_1) := by decide +kernel
set_option maxRecDepth 100000 in
theorem J_Law_part {sc : mm_Sc} {n : Nat} {h : mm_H} {x : Nat} {c : cS} {k f z l w : Int32} (B : LA h x n c) : mm_J sc y_Law_part 10 [.ref x, .int k, .int f, .int z, .int l, .int w, .ref (x + 25)] n h 4 104 (LN cd_01 (c_part k f z l w c) x n h) := by
  obtain ⟨pa, f0, H, B, ho⟩ := B
  refine mm_J.of (show mm_G sc y_Law_part 10 0 [some (.ref x), some (.int k), some (.int f), some (.int z), some (.int l), some (.int w), some (.ref (x + 25)), none] [] n h 4 104 _ from ?_) ce_Law_part.2.2.2.2.1 (Nat.le_of_ble_eq_true rfl) (by simp [Value.category])
  refine mm_aload d_Law_part_0 rfl ?_
  refine mm_iconst (v := 0) d_Law_part_2 (by decide) ?_
  refine mm_aload_n d_Law_part_3 rfl ?_
  refine mm_iload_n d_Law_part_4 rfl ?_
  refine mm_iload_n d_Law_part_5 rfl ?_
  refine mm_iload_n d_Law_part_6 rfl ?_
  refine mm_iload d_Law_part_7 rfl ?_
  refine mm_iload d_Law_part_9 rfl ?_
  refine mm_call (kc := 0) (ks := 0) d_Law_part_11 (mm_Inv.vi (as := [.int k, .int f, .int z, .int l, .int w]) d_Law_part_11 (Or.inl m_140) m_141 ce_SP_part.2.1 ce_SP_part.2.2.1 m_142 ce_SP_part.2.2.2.2.2 ln_SP_part cl_SP H.1 rfl) (J_SP_part H (by have := B.1; omega) (fun i hi => (B.2 i hi).2)) (by decide) ce_SP_part.1 ce_SP_part.2.1 ce_SP_part.2.2.1 ce_SP_part.2.2.2.1 (Nat.le_of_ble_eq_true rfl) (fun w9 n' h' hq => ?_) (fun e n' h' hq => ?_)
  · rcases hr : c_part k f z l w c with ⟨v1 | e1, c1⟩ <;> rw [hr] at hq <;> obtain ⟨e0, hle, L0⟩ := LB.ofCN B hq
    · obtain rfl : w9 = some (.int v1) := Sum.inl.inj e0
      have ho' : h' (x + 25) = some (.inl (1, 1, .inr (.inl f0))) := by obtain ⟨-, -, -, F⟩ := L0; exact (F _ (by omega) (by omega)).trans ho
      refine mm_G.cast (st' := .int v1 :: .int 0 :: .ref (x + 25) :: []) rfl rfl rfl ?_
      refine mm_i2l d_Law_part_14 ?_
      refine mm_last d_Law_part_15 ho' vp_in01 ?_
      refine mm_goto (tgt := 27) d_Law_part_16 (by decide) ?_
      refine mm_iconst (v := 0) d_Law_part_27 (by decide) ?_
      exact mm_ireturn d_Law_part_28 rfl (LN.ok hle L0 rfl)
    · exact absurd e0 (by simp [o_i])
  · rcases hr : c_part k f z l w c with ⟨v1 | e1, c1⟩ <;> rw [hr] at hq <;> obtain ⟨e0, hle, L0⟩ := LB.ofCN B hq
    · exact absurd e0 (by simp [o_i])
    · obtain rfl : e = e1 := Sum.inr.inj e0
      rcases x_part hr with rfl | rfl
      · refine mm_Th.catch (hp := 19) (j := 7) (len := 2) (Or.inl ⟨_, _, _, _, _, rfl, by decide, by decide, by decide, m_138, m_164⟩) (Or.inr ⟨d_Law_part_19, rfl⟩) (by decide) ?_
        refine mm_iconst (v := 1) d_Law_part_21 (by decide) ?_
        exact mm_ireturn d_Law_part_22 rfl (LN.bad ho hle L0 (by decide) (by decide))
      · refine mm_Th.catch (hp := 23) (j := 7) (len := 2) (Or.inr ⟨_, _, _, _, _, _, _, rfl, by decide, by decide, by decide, m_139, m_233, by decide, m_138, ncx_UOE_IAE⟩) (Or.inr ⟨d_Law_part_23, rfl⟩) (by decide) ?_
        refine mm_iconst (v := 2) d_Law_part_25 (by decide) ?_
        exact mm_ireturn d_Law_part_26 rfl (LN.bad ho hle L0 (by decide) (by decide))
set_option maxRecDepth 100000 in
theorem J_Law_load {sc : mm_Sc} {n : Nat} {h : mm_H} {x : Nat} {c : cS} {k v : Int32} (B : LA h x n c) : mm_J sc y_Law_load 10 [.ref x, .int k, .int v, .ref (x + 25)] n h 1 6 (LN cd_01 (c_load k v c) x n h) := by
  obtain ⟨pa, f0, H, B, ho⟩ := B
  refine mm_J.of (show mm_G sc y_Law_load 10 0 [some (.ref x), some (.int k), some (.int v), some (.ref (x + 25)), none] [] n h 1 6 _ from ?_) ce_Law_load.2.2.2.2.1 (Nat.le_of_ble_eq_true rfl) (by simp [Value.category])
  refine mm_aload_n d_Law_load_0 rfl ?_
  refine mm_iconst (v := 0) d_Law_load_1 (by decide) ?_
  refine mm_aload_n d_Law_load_2 rfl ?_
  refine mm_iload_n d_Law_load_3 rfl ?_
  refine mm_iload_n d_Law_load_4 rfl ?_
  refine mm_call (kc := 0) (ks := 0) d_Law_load_5 (mm_Inv.vi (as := [.int k, .int v]) d_Law_load_5 (Or.inl m_390) m_391 ce_SP_load.2.1 ce_SP_load.2.2.1 m_392 ce_SP_load.2.2.2.2.2 ln_SP_load cl_SP H.1 rfl) (J_SP_load H) (by decide) ce_SP_load.1 ce_SP_load.2.1 ce_SP_load.2.2.1 ce_SP_load.2.2.2.1 (Nat.le_of_ble_eq_true rfl) (fun w9 n' h' hq => ?_) (fun e n' h' hq => ?_)
  · rcases hr : c_load k v c with ⟨v1 | e1, c1⟩ <;> rw [hr] at hq <;> obtain ⟨e0, hle, L0⟩ := LB.ofCI B hq
    · obtain rfl : w9 = some (.int v1) := Sum.inl.inj e0
      have ho' : h' (x + 25) = some (.inl (1, 1, .inr (.inl f0))) := by obtain ⟨-, -, -, F⟩ := L0; exact (F _ (by omega) (by omega)).trans ho
      refine mm_G.cast (st' := .int v1 :: .int 0 :: .ref (x + 25) :: []) rfl rfl rfl ?_
      refine mm_i2l d_Law_load_8 ?_
      refine mm_last d_Law_load_9 ho' vp_in01 ?_
      refine mm_goto (tgt := 17) d_Law_load_10 (by decide) ?_
      refine mm_iconst (v := 0) d_Law_load_17 (by decide) ?_
      exact mm_ireturn d_Law_load_18 rfl (LN.ok hle L0 rfl)
    · exact absurd e0 (by simp [o_i])
  · rcases hr : c_load k v c with ⟨v1 | e1, c1⟩ <;> rw [hr] at hq <;> obtain ⟨e0, hle, L0⟩ := LB.ofCI B hq
    · exact absurd e0 (by simp [o_i])
    · obtain rfl : e = e1 := Sum.inr.inj e0
      obtain rfl := x_load hr
      refine mm_Th.catch (hp := 13) (j := 4) (len := 2) (Or.inl ⟨_, _, _, _, _, rfl, by decide, by decide, by decide, m_138, m_164⟩) (Or.inr ⟨d_Law_load_13, rfl⟩) (by decide) ?_
      refine mm_iconst (v := 1) d_Law_load_15 (by decide) ?_
      exact mm_ireturn d_Law_load_16 rfl (LN.bad ho hle L0 (by decide) (by decide))
theorem ncx_ISE_IOOBE : Cond.not (.castable "java/lang/IllegalStateException" "java/lang/IndexOutOfBoundsException") ∈ flatC (Jvm.Cond.and given_1 narrow_1) := by decide +kernel
set_option maxRecDepth 100000 in
theorem J_Law_read {sc : mm_Sc} {n : Nat} {h : mm_H} {x : Nat} {c : cS} {k : Int32} (B : LA h x n c) : mm_J sc y_Law_read 10 [.ref x, .int k, .ref (x + 25)] n h 1 6 (LN cd_23 (c_read k c) x n h) := by
  obtain ⟨pa, f0, H, B, ho⟩ := B
  refine mm_J.of (show mm_G sc y_Law_read 10 0 [some (.ref x), some (.int k), some (.ref (x + 25)), none] [] n h 1 6 _ from ?_) ce_Law_read.2.2.2.2.1 (Nat.le_of_ble_eq_true rfl) (by simp [Value.category])
  refine mm_aload_n d_Law_read_0 rfl ?_
  refine mm_iconst (v := 0) d_Law_read_1 (by decide) ?_
  refine mm_aload_n d_Law_read_2 rfl ?_
  refine mm_iload_n d_Law_read_3 rfl ?_
  refine mm_call (kc := 0) (ks := 0) d_Law_read_4 (mm_Inv.vi (as := [.int k]) d_Law_read_4 (Or.inl m_412) m_413 ce_SP_read.2.1 ce_SP_read.2.2.1 m_414 ce_SP_read.2.2.2.2.2 ln_SP_read cl_SP H.1 rfl) (J_SP_read H) (by decide) ce_SP_read.1 ce_SP_read.2.1 ce_SP_read.2.2.1 ce_SP_read.2.2.2.1 (Nat.le_of_ble_eq_true rfl) (fun w9 n' h' hq => ?_) (fun e n' h' hq => ?_)
  · rcases hr : c_read k c with ⟨v1 | e1, c1⟩ <;> rw [hr] at hq <;> obtain ⟨e0, hle, L0⟩ := LB.ofCI B hq
    · obtain rfl : w9 = some (.int v1) := Sum.inl.inj e0
      have ho' : h' (x + 25) = some (.inl (1, 1, .inr (.inl f0))) := by obtain ⟨-, -, -, F⟩ := L0; exact (F _ (by omega) (by omega)).trans ho
      refine mm_G.cast (st' := .int v1 :: .int 0 :: .ref (x + 25) :: []) rfl rfl rfl ?_
      refine mm_i2l d_Law_read_7 ?_
      refine mm_last d_Law_read_8 ho' vp_in01 ?_
      refine mm_goto (tgt := 18) d_Law_read_9 (by decide) ?_
      refine mm_iconst (v := 0) d_Law_read_18 (by decide) ?_
      exact mm_ireturn d_Law_read_19 rfl (LN.ok hle L0 rfl)
    · exact absurd e0 (by simp [o_i])
  · rcases hr : c_read k c with ⟨v1 | e1, c1⟩ <;> rw [hr] at hq <;> obtain ⟨e0, hle, L0⟩ := LB.ofCI B hq
    · exact absurd e0 (by simp [o_i])
    · obtain rfl : e = e1 := Sum.inr.inj e0
      rcases x_read hr with rfl | rfl
      · refine mm_Th.catch (hp := 12) (j := 3) (len := 1) (Or.inl ⟨_, _, _, _, _, rfl, by decide, by decide, by decide, m_410, m_422⟩) (Or.inl ⟨3, rfl, d_Law_read_12, rfl⟩) (by decide) ?_
        refine mm_iconst (v := 1) d_Law_read_13 (by decide) ?_
        exact mm_ireturn d_Law_read_14 rfl (LN.bad ho hle L0 (by decide) (by decide))
      · refine mm_Th.catch (hp := 15) (j := 3) (len := 1) (Or.inr ⟨_, _, _, _, _, _, _, rfl, by decide, by decide, by decide, m_411, m_446, by decide, m_410, ncx_ISE_IOOBE⟩) (Or.inl ⟨3, rfl, d_Law_read_15, rfl⟩) (by decide) ?_
        refine mm_iconst (v := 2) d_Law_read_16 (by decide) ?_
        exact mm_ireturn d_Law_read_17 rfl (LN.bad ho hle L0 (by decide) (by decide))
set_option maxRecDepth 100000 in
theorem J_Law_write {sc : mm_Sc} {n : Nat} {h : mm_H} {x : Nat} {c : cS} {k v : Int32} (B : LA h x n c) : mm_J sc y_Law_write 10 [.ref x, .int k, .int v, .ref (x + 25)] n h 2 12 (LN cd_23 (c_write k v c) x n h) := by
  obtain ⟨pa, f0, H, B, ho⟩ := B
  refine mm_J.of (show mm_G sc y_Law_write 10 0 [some (.ref x), some (.int k), some (.int v), some (.ref (x + 25)), none] [] n h 2 12 _ from ?_) ce_Law_write.2.2.2.2.1 (Nat.le_of_ble_eq_true rfl) (by simp [Value.category])
  refine mm_aload_n d_Law_write_0 rfl ?_
  refine mm_iconst (v := 0) d_Law_write_1 (by decide) ?_
  refine mm_aload_n d_Law_write_2 rfl ?_
  refine mm_iload_n d_Law_write_3 rfl ?_
  refine mm_iload_n d_Law_write_4 rfl ?_
  refine mm_call (kc := 0) (ks := 0) d_Law_write_5 (mm_Inv.vi (as := [.int k, .int v]) d_Law_write_5 (Or.inl m_544) m_545 ce_SP_write.2.1 ce_SP_write.2.2.1 m_546 ce_SP_write.2.2.2.2.2 ln_SP_write cl_SP H.1 rfl) (J_SP_write H) (by decide) ce_SP_write.1 ce_SP_write.2.1 ce_SP_write.2.2.1 ce_SP_write.2.2.2.1 (Nat.le_of_ble_eq_true rfl) (fun w9 n' h' hq => ?_) (fun e n' h' hq => ?_)
  · rcases hr : c_write k v c with ⟨v1 | e1, c1⟩ <;> rw [hr] at hq <;> obtain ⟨e0, hle, L0⟩ := LB.ofCI B hq
    · obtain rfl : w9 = some (.int v1) := Sum.inl.inj e0
      have ho' : h' (x + 25) = some (.inl (1, 1, .inr (.inl f0))) := by obtain ⟨-, -, -, F⟩ := L0; exact (F _ (by omega) (by omega)).trans ho
      refine mm_G.cast (st' := .int v1 :: .int 0 :: .ref (x + 25) :: []) rfl rfl rfl ?_
      refine mm_i2l d_Law_write_8 ?_
      refine mm_last d_Law_write_9 ho' vp_in01 ?_
      refine mm_goto (tgt := 21) d_Law_write_10 (by decide) ?_
      refine mm_iconst (v := 0) d_Law_write_21 (by decide) ?_
      exact mm_ireturn d_Law_write_22 rfl (LN.ok hle L0 rfl)
    · exact absurd e0 (by simp [o_i])
  · rcases hr : c_write k v c with ⟨v1 | e1, c1⟩ <;> rw [hr] at hq <;> obtain ⟨e0, hle, L0⟩ := LB.ofCI B hq
    · exact absurd e0 (by simp [o_i])
    · obtain rfl : e = e1 := Sum.inr.inj e0
      rcases x_write hr with rfl | rfl
      · refine mm_Th.catch (hp := 13) (j := 4) (len := 2) (Or.inl ⟨_, _, _, _, _, rfl, by decide, by decide, by decide, m_410, m_422⟩) (Or.inr ⟨d_Law_write_13, rfl⟩) (by decide) ?_
        refine mm_iconst (v := 1) d_Law_write_15 (by decide) ?_
        exact mm_ireturn d_Law_write_16 rfl (LN.bad ho hle L0 (by decide) (by decide))
      · refine mm_Th.catch (hp := 17) (j := 4) (len := 2) (Or.inr ⟨_, _, _, _, _, _, _, rfl, by decide, by decide, by decide, m_411, m_446, by decide, m_410, ncx_ISE_IOOBE⟩) (Or.inr ⟨d_Law_write_17, rfl⟩) (by decide) ?_
        refine mm_iconst (v := 2) d_Law_write_19 (by decide) ?_
        exact mm_ireturn d_Law_write_20 rfl (LN.bad ho hle L0 (by decide) (by decide))
set_option maxRecDepth 100000 in
theorem J_Law_step {sc : mm_Sc} {n : Nat} {h : mm_H} {x : Nat} {c : cS} {k : Int32} (B : LA h x n c) : mm_J sc y_Law_step 10 [.ref x, .int k, .ref (x + 25)] n h 1 6 (LN cd_01 (c_stepN k c) x n h) := by
  obtain ⟨pa, f0, H, B, ho⟩ := B
  refine mm_J.of (show mm_G sc y_Law_step 10 0 [some (.ref x), some (.int k), some (.ref (x + 25)), none] [] n h 1 6 _ from ?_) ce_Law_step.2.2.2.2.1 (Nat.le_of_ble_eq_true rfl) (by simp [Value.category])
  refine mm_aload_n d_Law_step_0 rfl ?_
  refine mm_iconst (v := 0) d_Law_step_1 (by decide) ?_
  refine mm_aload_n d_Law_step_2 rfl ?_
  refine mm_iload_n d_Law_step_3 rfl ?_
  refine mm_call (kc := 0) (ks := 0) d_Law_step_4 (mm_Inv.vi (as := [.int k]) d_Law_step_4 (Or.inl m_583) m_584 ce_SP_step.2.1 ce_SP_step.2.2.1 m_585 ce_SP_step.2.2.2.2.2 ln_SP_step cl_SP H.1 rfl) (J_SP_step H) (by decide) ce_SP_step.1 ce_SP_step.2.1 ce_SP_step.2.2.1 ce_SP_step.2.2.2.1 (Nat.le_of_ble_eq_true rfl) (fun w9 n' h' hq => ?_) (fun e n' h' hq => ?_)
  · rcases hr : c_stepN k c with ⟨v1 | e1, c1⟩ <;> rw [hr] at hq <;> obtain ⟨e0, hle, L0⟩ := LB.ofCI B hq
    · obtain rfl : w9 = some (.int v1) := Sum.inl.inj e0
      have ho' : h' (x + 25) = some (.inl (1, 1, .inr (.inl f0))) := by obtain ⟨-, -, -, F⟩ := L0; exact (F _ (by omega) (by omega)).trans ho
      refine mm_G.cast (st' := .int v1 :: .int 0 :: .ref (x + 25) :: []) rfl rfl rfl ?_
      have h01 : v1 = 0 ∨ v1 = 1 := step_01 hr
      refine mm_if_eq (tgt := 14) d_Law_step_7 (by decide) (fun z => ?_) (fun z => ?_)
      · refine mm_lconst (v := 0) d_Law_step_14 (by decide) ?_
        refine mm_last d_Law_step_15 ho' vp_in01 ?_
        refine mm_goto (tgt := 22) d_Law_step_16 (by decide) ?_
        refine mm_iconst (v := 0) d_Law_step_22 (by decide) ?_
        exact mm_ireturn d_Law_step_23 rfl (LN.ok hle L0 (by rw [z]; rfl))
      · refine mm_lconst (v := 1) d_Law_step_10 (by decide) ?_
        refine mm_goto (tgt := 15) d_Law_step_11 (by decide) ?_
        refine mm_last d_Law_step_15 ho' vp_in01 ?_
        refine mm_goto (tgt := 22) d_Law_step_16 (by decide) ?_
        refine mm_iconst (v := 0) d_Law_step_22 (by decide) ?_
        exact mm_ireturn d_Law_step_23 rfl (LN.ok hle L0 (by rw [h01.resolve_left z]; rfl))
    · exact absurd e0 (by simp [o_i])
  · rcases hr : c_stepN k c with ⟨v1 | e1, c1⟩ <;> rw [hr] at hq <;> obtain ⟨e0, hle, L0⟩ := LB.ofCI B hq
    · exact absurd e0 (by simp [o_i])
    · obtain rfl : e = e1 := Sum.inr.inj e0
      obtain rfl := x_step hr
      refine mm_Th.catch (hp := 19) (j := 3) (len := 1) (Or.inl ⟨_, _, _, _, _, rfl, by decide, by decide, by decide, m_138, m_164⟩) (Or.inl ⟨3, rfl, d_Law_step_19, rfl⟩) (by decide) ?_
      refine mm_iconst (v := 1) d_Law_step_20 (by decide) ?_
      exact mm_ireturn d_Law_step_21 rfl (LN.bad ho hle L0 (by decide) (by decide))
set_option maxRecDepth 100000 in
theorem J_Law_receive {sc : mm_Sc} {n : Nat} {h : mm_H} {x : Nat} {c : cS} {k v : Int32} (B : LA h x n c) : mm_J sc y_Law_receive 10 [.ref x, .int k, .int v, .ref (x + 25)] n h 2 12 (LN cd_01 (c_recv k v c) x n h) := by
  obtain ⟨pa, f0, H, B, ho⟩ := B
  refine mm_J.of (show mm_G sc y_Law_receive 10 0 [some (.ref x), some (.int k), some (.int v), some (.ref (x + 25)), none] [] n h 2 12 _ from ?_) ce_Law_receive.2.2.2.2.1 (Nat.le_of_ble_eq_true rfl) (by simp [Value.category])
  refine mm_aload_n d_Law_receive_0 rfl ?_
  refine mm_iconst (v := 0) d_Law_receive_1 (by decide) ?_
  refine mm_aload_n d_Law_receive_2 rfl ?_
  refine mm_iload_n d_Law_receive_3 rfl ?_
  refine mm_iload_n d_Law_receive_4 rfl ?_
  refine mm_call (kc := 0) (ks := 0) d_Law_receive_5 (mm_Inv.vi (as := [.int k, .int v]) d_Law_receive_5 (Or.inl m_591) m_592 ce_SP_receive.2.1 ce_SP_receive.2.2.1 m_593 ce_SP_receive.2.2.2.2.2 ln_SP_receive cl_SP H.1 rfl) (J_SP_receive H) (by decide) ce_SP_receive.1 ce_SP_receive.2.1 ce_SP_receive.2.2.1 ce_SP_receive.2.2.2.1 (Nat.le_of_ble_eq_true rfl) (fun w9 n' h' hq => ?_) (fun e n' h' hq => ?_)
  · rcases hr : c_recv k v c with ⟨v1 | e1, c1⟩ <;> rw [hr] at hq <;> obtain ⟨e0, hle, L0⟩ := LB.ofCI B hq
    · obtain rfl : w9 = some (.int v1) := Sum.inl.inj e0
      have ho' : h' (x + 25) = some (.inl (1, 1, .inr (.inl f0))) := by obtain ⟨-, -, -, F⟩ := L0; exact (F _ (by omega) (by omega)).trans ho
      refine mm_G.cast (st' := .int v1 :: .int 0 :: .ref (x + 25) :: []) rfl rfl rfl ?_
      refine mm_i2l d_Law_receive_8 ?_
      refine mm_last d_Law_receive_9 ho' vp_in01 ?_
      refine mm_goto (tgt := 21) d_Law_receive_10 (by decide) ?_
      refine mm_iconst (v := 0) d_Law_receive_21 (by decide) ?_
      exact mm_ireturn d_Law_receive_22 rfl (LN.ok hle L0 rfl)
    · exact absurd e0 (by simp [o_i])
  · rcases hr : c_recv k v c with ⟨v1 | e1, c1⟩ <;> rw [hr] at hq <;> obtain ⟨e0, hle, L0⟩ := LB.ofCI B hq
    · exact absurd e0 (by simp [o_i])
    · obtain rfl : e = e1 := Sum.inr.inj e0
      rcases x_receive hr with rfl | rfl
      · refine mm_Th.catch (hp := 13) (j := 4) (len := 2) (Or.inl ⟨_, _, _, _, _, rfl, by decide, by decide, by decide, m_138, m_164⟩) (Or.inr ⟨d_Law_receive_13, rfl⟩) (by decide) ?_
        refine mm_iconst (v := 1) d_Law_receive_15 (by decide) ?_
        exact mm_ireturn d_Law_receive_16 rfl (LN.bad ho hle L0 (by decide) (by decide))
      · refine mm_Th.catch (hp := 17) (j := 4) (len := 2) (Or.inr ⟨_, _, _, _, _, _, _, rfl, by decide, by decide, by decide, m_139, m_233, by decide, m_138, ncx_UOE_IAE⟩) (Or.inr ⟨d_Law_receive_17, rfl⟩) (by decide) ?_
        refine mm_iconst (v := 2) d_Law_receive_19 (by decide) ?_
        exact mm_ireturn d_Law_receive_20 rfl (LN.bad ho hle L0 (by decide) (by decide))
theorem ncx_IOOBE_IAE : Cond.not (.castable "java/lang/IndexOutOfBoundsException" "java/lang/IllegalArgumentException") ∈ flatC (Jvm.Cond.and given_1 narrow_1) := by decide +kernel
set_option maxRecDepth 100000 in
theorem J_Law_sent {sc : mm_Sc} {n : Nat} {h : mm_H} {x : Nat} {c : cS} {k j : Int32} (B : LA h x n c) : mm_J sc y_Law_sent 10 [.ref x, .int k, .int j, .ref (x + 25)] n h 2 12 (LN cd_02 (c_sent k j c) x n h) := by
  obtain ⟨pa, f0, H, B, ho⟩ := B
  refine mm_J.of (show mm_G sc y_Law_sent 10 0 [some (.ref x), some (.int k), some (.int j), some (.ref (x + 25)), none] [] n h 2 12 _ from ?_) ce_Law_sent.2.2.2.2.1 (Nat.le_of_ble_eq_true rfl) (by simp [Value.category])
  refine mm_aload_n d_Law_sent_0 rfl ?_
  refine mm_iconst (v := 0) d_Law_sent_1 (by decide) ?_
  refine mm_aload_n d_Law_sent_2 rfl ?_
  refine mm_iload_n d_Law_sent_3 rfl ?_
  refine mm_iload_n d_Law_sent_4 rfl ?_
  refine mm_call (kc := 0) (ks := 0) d_Law_sent_5 (mm_Inv.vi (as := [.int k, .int j]) d_Law_sent_5 (Or.inl m_612) m_613 ce_SP_sent.2.1 ce_SP_sent.2.2.1 m_614 ce_SP_sent.2.2.2.2.2 ln_SP_sent cl_SP H.1 rfl) (J_SP_sent H) (by decide) ce_SP_sent.1 ce_SP_sent.2.1 ce_SP_sent.2.2.1 ce_SP_sent.2.2.2.1 (Nat.le_of_ble_eq_true rfl) (fun w9 n' h' hq => ?_) (fun e n' h' hq => ?_)
  · rcases hr : c_sent k j c with ⟨v1 | e1, c1⟩ <;> rw [hr] at hq <;> obtain ⟨e0, hle, L0⟩ := LB.ofCI B hq
    · obtain rfl : w9 = some (.int v1) := Sum.inl.inj e0
      have ho' : h' (x + 25) = some (.inl (1, 1, .inr (.inl f0))) := by obtain ⟨-, -, -, F⟩ := L0; exact (F _ (by omega) (by omega)).trans ho
      refine mm_G.cast (st' := .int v1 :: .int 0 :: .ref (x + 25) :: []) rfl rfl rfl ?_
      refine mm_i2l d_Law_sent_8 ?_
      refine mm_last d_Law_sent_9 ho' vp_in01 ?_
      refine mm_goto (tgt := 21) d_Law_sent_10 (by decide) ?_
      refine mm_iconst (v := 0) d_Law_sent_21 (by decide) ?_
      exact mm_ireturn d_Law_sent_22 rfl (LN.ok hle L0 rfl)
    · exact absurd e0 (by simp [o_i])
  · rcases hr : c_sent k j c with ⟨v1 | e1, c1⟩ <;> rw [hr] at hq <;> obtain ⟨e0, hle, L0⟩ := LB.ofCI B hq
    · exact absurd e0 (by simp [o_i])
    · obtain rfl : e = e1 := Sum.inr.inj e0
      rcases x_sent hr with rfl | rfl
      · refine mm_Th.catch (hp := 13) (j := 4) (len := 2) (Or.inl ⟨_, _, _, _, _, rfl, by decide, by decide, by decide, m_138, m_164⟩) (Or.inr ⟨d_Law_sent_13, rfl⟩) (by decide) ?_
        refine mm_iconst (v := 1) d_Law_sent_15 (by decide) ?_
        exact mm_ireturn d_Law_sent_16 rfl (LN.bad ho hle L0 (by decide) (by decide))
      · refine mm_Th.catch (hp := 17) (j := 4) (len := 2) (Or.inr ⟨_, _, _, _, _, _, _, rfl, by decide, by decide, by decide, m_410, m_422, by decide, m_138, ncx_IOOBE_IAE⟩) (Or.inr ⟨d_Law_sent_17, rfl⟩) (by decide) ?_
        refine mm_iconst (v := 2) d_Law_sent_19 (by decide) ?_
        exact mm_ireturn d_Law_sent_20 rfl (LN.bad ho hle L0 (by decide) (by decide))
theorem ncx_IAE_IOOBE : Cond.not (.castable "java/lang/IllegalArgumentException" "java/lang/IndexOutOfBoundsException") ∈ flatC (Jvm.Cond.and given_1 narrow_1) := by decide +kernel
set_option maxRecDepth 100000 in
theorem J_Law_line {sc : mm_Sc} {n : Nat} {h : mm_H} {x : Nat} {c : cS} {l k v : Int32} (B : LA h x n c) : mm_J sc y_Law_line 10 [.ref x, .int l, .int k, .int v, .ref (x + 25)] n h 1 6 (LN cd_20 (c_line l k v c) x n h) := by
  obtain ⟨pa, f0, H, B, ho⟩ := B
  refine mm_J.of (show mm_G sc y_Law_line 10 0 [some (.ref x), some (.int l), some (.int k), some (.int v), some (.ref (x + 25)), none] [] n h 1 6 _ from ?_) ce_Law_line.2.2.2.2.1 (Nat.le_of_ble_eq_true rfl) (by simp [Value.category])
  refine mm_aload d_Law_line_0 rfl ?_
  refine mm_iconst (v := 0) d_Law_line_2 (by decide) ?_
  refine mm_aload_n d_Law_line_3 rfl ?_
  refine mm_iload_n d_Law_line_4 rfl ?_
  refine mm_iload_n d_Law_line_5 rfl ?_
  refine mm_iload_n d_Law_line_6 rfl ?_
  refine mm_call (kc := 0) (ks := 0) d_Law_line_7 (mm_Inv.vi (as := [.int l, .int k, .int v]) d_Law_line_7 (Or.inl m_632) m_633 ce_SP_line.2.1 ce_SP_line.2.2.1 m_634 ce_SP_line.2.2.2.2.2 ln_SP_line cl_SP H.1 rfl) (J_SP_line H) (by decide) ce_SP_line.1 ce_SP_line.2.1 ce_SP_line.2.2.1 ce_SP_line.2.2.2.1 (Nat.le_of_ble_eq_true rfl) (fun w9 n' h' hq => ?_) (fun e n' h' hq => ?_)
  · rcases hr : c_line l k v c with ⟨v1 | e1, c1⟩ <;> rw [hr] at hq <;> obtain ⟨e0, hle, L0⟩ := LB.ofCI B hq
    · obtain rfl : w9 = some (.int v1) := Sum.inl.inj e0
      have ho' : h' (x + 25) = some (.inl (1, 1, .inr (.inl f0))) := by obtain ⟨-, -, -, F⟩ := L0; exact (F _ (by omega) (by omega)).trans ho
      refine mm_G.cast (st' := .int v1 :: .int 0 :: .ref (x + 25) :: []) rfl rfl rfl ?_
      refine mm_i2l d_Law_line_10 ?_
      refine mm_last d_Law_line_11 ho' vp_in01 ?_
      refine mm_goto (tgt := 23) d_Law_line_12 (by decide) ?_
      refine mm_iconst (v := 0) d_Law_line_23 (by decide) ?_
      exact mm_ireturn d_Law_line_24 rfl (LN.ok hle L0 rfl)
    · exact absurd e0 (by simp [o_i])
  · rcases hr : c_line l k v c with ⟨v1 | e1, c1⟩ <;> rw [hr] at hq <;> obtain ⟨e0, hle, L0⟩ := LB.ofCI B hq
    · exact absurd e0 (by simp [o_i])
    · obtain rfl : e = e1 := Sum.inr.inj e0
      rcases x_line hr with rfl | rfl
      · refine mm_Th.catch (hp := 15) (j := 5) (len := 2) (Or.inl ⟨_, _, _, _, _, rfl, by decide, by decide, by decide, m_410, m_422⟩) (Or.inr ⟨d_Law_line_15, rfl⟩) (by decide) ?_
        refine mm_iconst (v := 1) d_Law_line_17 (by decide) ?_
        exact mm_ireturn d_Law_line_18 rfl (LN.bad ho hle L0 (by decide) (by decide))
      · refine mm_Th.catch (hp := 19) (j := 5) (len := 2) (Or.inr ⟨_, _, _, _, _, _, _, rfl, by decide, by decide, by decide, m_138, m_164, by decide, m_410, ncx_IAE_IOOBE⟩) (Or.inr ⟨d_Law_line_19, rfl⟩) (by decide) ?_
        refine mm_iconst (v := 2) d_Law_line_21 (by decide) ?_
        exact mm_ireturn d_Law_line_22 rfl (LN.bad ho hle L0 (by decide) (by decide))
set_option maxRecDepth 100000 in
theorem J_Law_asks {sc : mm_Sc} {n : Nat} {h : mm_H} {x : Nat} {c : cS} {l : Int32} (B : LA h x n c) : mm_J sc y_Law_asks 10 [.ref x, .int l, .ref (x + 25)] n h 1 6 (LN cd_2 (c_asks l c) x n h) := by
  obtain ⟨pa, f0, H, B, ho⟩ := B
  refine mm_J.of (show mm_G sc y_Law_asks 10 0 [some (.ref x), some (.int l), some (.ref (x + 25)), none] [] n h 1 6 _ from ?_) ce_Law_asks.2.2.2.2.1 (Nat.le_of_ble_eq_true rfl) (by simp [Value.category])
  refine mm_aload_n d_Law_asks_0 rfl ?_
  refine mm_iconst (v := 0) d_Law_asks_1 (by decide) ?_
  refine mm_aload_n d_Law_asks_2 rfl ?_
  refine mm_iload_n d_Law_asks_3 rfl ?_
  refine mm_call (kc := 0) (ks := 0) d_Law_asks_4 (mm_Inv.vi (as := [.int l]) d_Law_asks_4 (Or.inl m_661) m_662 ce_SP_asks.2.1 ce_SP_asks.2.2.1 m_663 ce_SP_asks.2.2.2.2.2 ln_SP_asks cl_SP H.1 rfl) (J_SP_asks H) (by decide) ce_SP_asks.1 ce_SP_asks.2.1 ce_SP_asks.2.2.1 ce_SP_asks.2.2.2.1 (Nat.le_of_ble_eq_true rfl) (fun w9 n' h' hq => ?_) (fun e n' h' hq => ?_)
  · rcases hr : c_asks l c with ⟨v1 | e1, c1⟩ <;> rw [hr] at hq <;> obtain ⟨e0, hle, L0⟩ := LB.ofCI B hq
    · obtain rfl : w9 = some (.int v1) := Sum.inl.inj e0
      have ho' : h' (x + 25) = some (.inl (1, 1, .inr (.inl f0))) := by obtain ⟨-, -, -, F⟩ := L0; exact (F _ (by omega) (by omega)).trans ho
      refine mm_G.cast (st' := .int v1 :: .int 0 :: .ref (x + 25) :: []) rfl rfl rfl ?_
      refine mm_i2l d_Law_asks_7 ?_
      refine mm_last d_Law_asks_8 ho' vp_in01 ?_
      refine mm_goto (tgt := 15) d_Law_asks_9 (by decide) ?_
      refine mm_iconst (v := 0) d_Law_asks_15 (by decide) ?_
      exact mm_ireturn d_Law_asks_16 rfl (LN.ok hle L0 rfl)
    · exact absurd e0 (by simp [o_i])
  · rcases hr : c_asks l c with ⟨v1 | e1, c1⟩ <;> rw [hr] at hq <;> obtain ⟨e0, hle, L0⟩ := LB.ofCI B hq
    · exact absurd e0 (by simp [o_i])
    · obtain rfl : e = e1 := Sum.inr.inj e0
      obtain rfl := x_asks hr
      refine mm_Th.catch (hp := 12) (j := 3) (len := 1) (Or.inl ⟨_, _, _, _, _, rfl, by decide, by decide, by decide, m_410, m_422⟩) (Or.inl ⟨3, rfl, d_Law_asks_12, rfl⟩) (by decide) ?_
      refine mm_iconst (v := 1) d_Law_asks_13 (by decide) ?_
      exact mm_ireturn d_Law_asks_14 rfl (LN.bad ho hle L0 (by decide) (by decide))
