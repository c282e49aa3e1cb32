theorem mx_callY {sc : mm_Sc} {y : mm_M} {d pc : Nat} {l : mm_L} {st : List Value} {n : Nat} {h : mm_H} {kc ks : Nat} {Q : mm_O → Nat → mm_H → Prop} {y' : mm_M} {d' : Nat} {st0 as : List Value} {ig : Instr} {h0 : mm_H} {m : Nat} {R : mm_O → (Nat → Int32) → (Nat → Nat → Int32) → Prop} (hd : decode y.2.1 pc = .ok (ig, 3)) (hI : mm_Inv sc y d pc n h st0 st as y') (J : mm_J sc y' d' as n h 0 0 (MY R n h m)) (hd' : d' < d) (hm : y'.2.2.1 ≤ 16) (hw : mm_code y' ∈ lw_tbl) (hok : mm_ok (mm_code y') = true) (hini : Cond.initialized y'.1.cls ∈ lw_tbl) (hst : (st.map fun v => v.category).sum ≤ 8) (F : MF h0 h m) (ht : ∀ k I A, ¬ R (.inr k) I A)
    (kr : ∀ v h' I' A', MH h' m I' A' → MF h0 h' m → R (.inl v) I' A' → mm_G sc y d (pc + 3) l (v.toList ++ st) n h' kc ks Q) : mm_G sc y d pc l st0 n h kc ks Q :=
  mm_call (kc' := 0) (ks' := 0) hd hI J hd' hm hw hok hini hst (fun w n' h' hq => by obtain ⟨rfl, h3, I', A', h2, h4⟩ := hq; exact kr w h' I' A' h2 (F.tr h3) h4) (fun k n' h' hq => by obtain ⟨-, -, I', A', -, h4⟩ := hq; exact absurd h4 (ht k I' A'))
/-- the same answer, the same throw (by its code), related states -/
def MC (code : Nat → Int32) (r : cA × cS) (T : Nat) (o : mm_O) (I : Nat → Int32) (A : Nat → Nat → Int32) : Prop := MR T r.2 I A ∧ match r.1 with
  | .inl v => o = .inl (some (.int v)) ∧ I 0 = 0
  | .inr e => (∃ z, o = .inl (some (.int z))) ∧ I 0 = code e
theorem MC.inl {code : Nat → Int32} {r : cA × cS} {T T0 : Nat} {I : Nat → Int32} {A : Nat → Nat → Int32} {v v' : Int32} {c : cS} (hv : r = (.inl v, c)) (R : MR T0 c I A) (hT : T0 ≤ T) (h0 : I 0 = 0) (e : v' = v) : MC code r T (.inl (some (.int v'))) I A := by
  subst hv; subst e
  exact ⟨R.mono hT, rfl, h0⟩
theorem MC.inr {code : Nat → Int32} {r : cA × cS} {T T0 : Nat} {I : Nat → Int32} {A : Nat → Nat → Int32} {v : Int32} {c : cS} {e : Nat} (hv : r = (.inr e, c)) (R : MR T0 c I A) (hT : T0 ≤ T) (h0 : I 0 = code e) : MC code r T (.inl (some (.int v))) I A := by
  subst hv
  exact ⟨R.mono hT, ⟨v, rfl⟩, h0⟩
theorem r01 {P : Prop} [Decidable P] {r : Int32} (h : r = 0 ∨ r = 1) : (if P then r else 1) = 0 ∨ (if P then r else 1) = 1 := by
  split
  · exact h
  · exact Or.inr rfl
set_option maxRecDepth 100000 in
set_option maxHeartbeats 4000000 in
theorem lp_ms {sc : mm_Sc} {n d kc ks T N : Nat} {h0 : mm_H} {m : Nat} {Q : mm_O → Nat → mm_H → Prop} {I0 : Int32} (hd : 4 ≤ d) (hT : T + N < 2 ^ 29) : ∀ (q i : Nat) (c : cS) (r : Int32) (I : Nat → Int32) (A : Nat → Nat → Int32) (h : mm_H), i + q = N → MR (T + i) c I A → MH h m I A → MF h0 h m → I 0 = I0 → (r = 0 ∨ r = 1) → (∀ h' I' A', MH h' m I' A' → MF h0 h' m → MR (T + N) (c_steps q c r).1 I' A' → I' 0 = I0 → Q (.inl (some (.int (c_steps q c r).2))) n h') → mm_G sc y_Model_step d 34 [some (.ref m), some (.int (nI N)), some (.int r), some (.int (nI i))] [] n h kc ks Q := by
  intro q
  induction q with
  | zero =>
    intro i c r I A h hi9 R H F hI0 hr hq
    obtain rfl : N = i := by omega
    refine mm_iload_n d_Model_step_34 rfl ?_
    refine mm_iload_n d_Model_step_35 rfl ?_
    refine mx_icmp_ge (a := N) (b := N) (tgt := 62) d_Model_step_36 (by decide) (by omega) (by omega) (fun c_36 => ?_) (fun c_36 => absurd c_36 (by omega))
    refine mm_iload_n d_Model_step_62 rfl ?_
    exact mm_zreturn d_Model_step_63 rfl (z01 hr) (hq h I A H F R hI0)
  | succ q ih =>
    intro i c r I A h hi9 R H F hI0 hr hq
    refine mm_iload_n d_Model_step_34 rfl ?_
    refine mm_iload_n d_Model_step_35 rfl ?_
    refine mx_icmp_ge (a := i) (b := N) (tgt := 62) d_Model_step_36 (by decide) (by omega) (by omega) (fun c_36 => absurd c_36 (by omega)) (fun c_36 => ?_)
    refine mm_aload_n d_Model_step_39 rfl ?_
    refine mx_callY d_Model_step_40 (mm_Inv.vi (as := []) d_Model_step_40 (Or.inl m_779) m_781 ce_Model_stepOnce.2.1 ce_Model_stepOnce.2.2.1 mp_21 ce_Model_stepOnce.2.2.2.2.2 ln_Model_stepOnce cl_Model H.1 rfl) (J_Model_stepOnce H R (by omega)) (Nat.lt_of_lt_of_le (by decide) hd) ce_Model_stepOnce.1 ce_Model_stepOnce.2.1 ce_Model_stepOnce.2.2.1 ce_Model_stepOnce.2.2.2.1 (Nat.le_of_ble_eq_true rfl) F (fun k9 I9 A9 hR => by cases hR.1) (fun v9 h I1 A1 H F hR => ?_)
    obtain ⟨e9, R1, h01⟩ := hR
    cases e9
    refine mm_if_ne (tgt := 50) d_Model_step_43 (by decide) (fun c_43 => ?_) (fun c_43 => ?_)
    · refine mm_iconst (v := 1) d_Model_step_50 (by decide) ?_
      refine mm_goto (tgt := 55) d_Model_step_51 (by decide) ?_
      refine mm_istore_n d_Model_step_55 (by decide) ?_
      refine mx_inc (a := i) (b := i + 1) d_Model_step_56 rfl rfl (by decide) ?_
      refine mm_goto (tgt := 34) d_Model_step_59 (by decide) ?_
      refine mm_G.cast (l' := [some (.ref m), some (.int (nI N)), some (.int (if (c_step c).2 = 0 then r else 1)), some (.int (nI (i + 1)))]) (by rw [if_neg c_43]; rfl) rfl rfl (ih (i + 1) (c_step c).1 (if (c_step c).2 = 0 then r else 1) I1 A1 h (by omega) R1 H F (h01.trans hI0) (r01 hr) hq)
    · refine mm_iload_n d_Model_step_46 rfl ?_
      refine mm_if_eq (tgt := 54) d_Model_step_47 (by decide) (fun c_47 => ?_) (fun c_47 => ?_)
      · refine mm_iconst (v := 0) d_Model_step_54 (by decide) ?_
        refine mm_istore_n d_Model_step_55 (by decide) ?_
        refine mx_inc (a := i) (b := i + 1) d_Model_step_56 rfl rfl (by decide) ?_
        refine mm_goto (tgt := 34) d_Model_step_59 (by decide) ?_
        refine mm_G.cast (l' := [some (.ref m), some (.int (nI N)), some (.int (if (c_step c).2 = 0 then r else 1)), some (.int (nI (i + 1)))]) (by rw [if_pos c_43]; rcases hr with e | e <;> simp_all <;> rfl) rfl rfl (ih (i + 1) (c_step c).1 (if (c_step c).2 = 0 then r else 1) I1 A1 h (by omega) R1 H F (h01.trans hI0) (r01 hr) hq)
      · refine mm_iconst (v := 1) d_Model_step_50 (by decide) ?_
        refine mm_goto (tgt := 55) d_Model_step_51 (by decide) ?_
        refine mm_istore_n d_Model_step_55 (by decide) ?_
        refine mx_inc (a := i) (b := i + 1) d_Model_step_56 rfl rfl (by decide) ?_
        refine mm_goto (tgt := 34) d_Model_step_59 (by decide) ?_
        refine mm_G.cast (l' := [some (.ref m), some (.int (nI N)), some (.int (if (c_step c).2 = 0 then r else 1)), some (.int (nI (i + 1)))]) (by rw [if_pos c_43]; rcases hr with e | e <;> simp_all <;> rfl) rfl rfl (ih (i + 1) (c_step c).1 (if (c_step c).2 = 0 then r else 1) I1 A1 h (by omega) R1 H F (h01.trans hI0) (r01 hr) hq)
def cd_01 : Nat → Int32 := fun e => nI (e + 1)
theorem step_in {k : Int32} (h : ¬ w_in k 1 1000 = 0) : ∃ N, 1 ≤ N ∧ N ≤ 1000 ∧ k = nI N := by
  rw [w_in_iff] at h
  obtain ⟨j, hj, rfl⟩ := nI_of (x := k) (fun z => h.1 (Int32.lt_of_lt_of_le z (by decide)))
  refine ⟨j, Nat.not_lt.mp (fun z => h.1 (nI_lt (b := 1) z (by decide))), Nat.not_lt.mp (fun z => h.2 (nI_lt (a := 1000) z hj)), rfl⟩
set_option maxRecDepth 100000 in
set_option maxHeartbeats 4000000 in
theorem J_Model_step {sc : mm_Sc} {n : Nat} {h : mm_H} {m : Nat} {I : Nat → Int32} {A : Nat → Nat → Int32} {T : Nat} {c : cS} {k : Int32} (H : MH h m I A) (R : MR T c I A) (hT : T + 1000 < 2 ^ 29)  : mm_J sc y_Model_step 5 [.ref m, .int k] n h 0 0 (MY (MC cd_01 (c_stepN k c) (T + 1000)) n h m) := by
  refine mm_J.of (show mm_G sc y_Model_step 5 0 [some (.ref m), some (.int k), none, none] [] n h 0 0 _ from ?_) ce_Model_step.2.2.2.2.1 (Nat.le_of_ble_eq_true rfl) (by simp [Value.category])
  have F : MF h h m := fun _ _ => rfl
  have hN := R.1
  have h12 := R.2.1
  refine mm_aload_n d_Model_step_0 rfl ?_
  refine mm_iconst (v := 0) d_Model_step_1 (by decide) ?_
  refine mm_putf d_Model_step_2 cl_Model ty_Model fl_Model_65_Model (by decide) rfl rfl rfl H.1 (Nat.le_of_ble_eq_true rfl) ?_
  refine mh_i0 H F (fun h H F => ?_)
  refine mm_iload_n d_Model_step_5 rfl ?_
  refine mm_iconst (v := 1) d_Model_step_6 (by decide) ?_
  refine mm_sipush (v := 1000) d_Model_step_7 (by decide) ?_
  refine mm_callD (kc' := 0) (ks' := 0) d_Model_step_10 (mm_Inv.sta (as := [.int k, .int 1, .int 1000]) d_Model_step_10 (Or.inl m_756) m_757 ce_Model_within.2.1 ce_Model_within.2.2.1 ce_Model_within.2.2.2.1 ce_Model_within.2.2.2.2.2 ln_Model_within rfl) J_Model_within (by decide) ce_Model_within.1 ce_Model_within.2.1 ce_Model_within.2.2.1 ce_Model_within.2.2.2.1 (Nat.le_of_ble_eq_true rfl) ?_
  refine mm_if_ne (tgt := 30) d_Model_step_13 (by decide) (fun c_13 => ?_) (fun c_13 => ?_)
  · refine mm_iconst (v := 0) d_Model_step_30 (by decide) ?_
    refine mm_istore_n d_Model_step_31 (by decide) ?_
    refine mm_iconst (v := 0) d_Model_step_32 (by decide) ?_
    refine mm_istore_n d_Model_step_33 (by decide) ?_
    obtain ⟨N, hN1, hN2, rfl⟩ := step_in c_13
    refine lp_ms (T := T) (N := N) (by decide) (by omega) N 0 c 0 (mi I 0 0) A h (by omega) R H F rfl (Or.inl rfl) (fun h' I' A' H' F' R' e' => ⟨rfl, F', I', A', H', MC.inl (c := (c_steps N c 0).1) (v := (c_steps N c 0).2) ?_ R' (by omega) e' rfl⟩)
    unfold c_stepN
    rw [if_neg (show ¬ nI N < 1 from nI_nlt (b := 1) hN1 (by omega)), if_neg (show ¬ (1000 : Int32) < nI N from nI_nlt (a := 1000) hN2 (by decide)), nI_clamp (by omega)]
  · refine mm_aload_n d_Model_step_16 rfl ?_
    refine mm_iconst (v := 1) d_Model_step_17 (by decide) ?_
    refine mx_call d_Model_step_18 (mm_Inv.vi (as := [.int 1]) d_Model_step_18 (Or.inl m_763) m_765 ce_Model_fail.2.1 ce_Model_fail.2.2.1 mp_19 ce_Model_fail.2.2.2.2.2 ln_Model_fail cl_Model H.1 rfl) (J_Model_fail H) (by decide) ce_Model_fail.1 ce_Model_fail.2.1 ce_Model_fail.2.2.1 ce_Model_fail.2.2.2.1 (Nat.le_of_ble_eq_true rfl) F (fun h H F => ?_)
    refine mm_if_le (tgt := 28) d_Model_step_21 (by decide) (fun _ => ?_) (fun c9 => absurd c9 (by decide))
    refine mm_iconst (v := 0) d_Model_step_28 (by decide) ?_
    exact mm_zreturn d_Model_step_29 rfl rfl ⟨rfl, F, _, _, H, MC.inr (c := c) (e := 0) (by unfold c_stepN; rcases (Classical.not_not.mp (fun z => absurd c_13 (w_in_iff.mpr ⟨fun z1 => z (Or.inl z1), fun z2 => z (Or.inr z2)⟩)) : k < 1 ∨ 1000 < k) with z | z <;> simp [z]) R (by omega) rfl⟩
set_option maxRecDepth 100000 in
set_option maxHeartbeats 4000000 in
theorem lp_wait {sc : mm_Sc} {n d kc ks T p w : Nat} {h0 : mm_H} {m : Nat} {Q : mm_O → Nat → mm_H → Prop} {I0 : Int32} (hd : 4 ≤ d) (hT : T + 10 < 2 ^ 29) (hw8 : w < 8) : ∀ (q i : Nat) (c : cS) (r : Int32) (I : Nat → Int32) (A : Nat → Nat → Int32) (h : mm_H), i + q = w + 1 → MR (T + i) c I A → p < c.1 → (c.2.1 p).2.1.2.2.2 = nI w → MH h m I A → MF h0 h m → I 0 = I0 → (∀ h' I' A', MH h' m I' A' → MF h0 h' m → MR (T + (w + 1)) (c_steps q c r).1 I' A' → I' 0 = I0 → Q (.inl none) n h') → mm_G sc y_Model_waitFor d 2 [some (.ref m), some (.int (nI p)), some (.int (nI i))] [] n h kc ks Q := by
  intro q
  induction q with
  | zero =>
    intro i c r I A h hi9 R hp hw H F hI0 hq
    obtain rfl : i = w + 1 := by omega
    have h12 := R.2.1
    have hw4 : A 4 p = nI w := (R.2.2.2.2.2.1 p hp).1.2.2.2.2.2.1.trans hw
    refine mm_iload_n d_Model_waitFor_2 rfl ?_
    refine mm_aload_n d_Model_waitFor_3 rfl ?_
    refine mm_getf (v := .ref (m + 5)) d_Model_waitFor_4 cl_Model fl_Model_22_Model (by decide) H.1 rfl ?_
    refine mm_iload_n d_Model_waitFor_7 rfl ?_
    refine mx_ald (E := p) (v := nI w) d_Model_waitFor_8 (mh_4 H) (by omega) (by decide) (show (A 4) p = nI w from hw4) ?_
    refine mx_icmp_gt (a := w + 1) (b := w) (tgt := 23) d_Model_waitFor_9 (by decide) (by omega) (by omega) (fun c_9 => ?_) (fun c_9 => absurd c_9 (by omega))
    exact mm_return d_Model_waitFor_23 rfl (hq h I A H F R hI0)
  | succ q ih =>
    intro i c r I A h hi9 R hp hw H F hI0 hq
    have h12 := R.2.1
    have hw4 : A 4 p = nI w := (R.2.2.2.2.2.1 p hp).1.2.2.2.2.2.1.trans hw
    refine mm_iload_n d_Model_waitFor_2 rfl ?_
    refine mm_aload_n d_Model_waitFor_3 rfl ?_
    refine mm_getf (v := .ref (m + 5)) d_Model_waitFor_4 cl_Model fl_Model_22_Model (by decide) H.1 rfl ?_
    refine mm_iload_n d_Model_waitFor_7 rfl ?_
    refine mx_ald (E := p) (v := nI w) d_Model_waitFor_8 (mh_4 H) (by omega) (by decide) (show (A 4) p = nI w from hw4) ?_
    refine mx_icmp_gt (a := i) (b := w) (tgt := 23) d_Model_waitFor_9 (by decide) (by omega) (by omega) (fun c_9 => absurd c_9 (by omega)) (fun c_9 => ?_)
    refine mm_aload_n d_Model_waitFor_12 rfl ?_
    refine mx_callY d_Model_waitFor_13 (mm_Inv.vi (as := []) d_Model_waitFor_13 (Or.inl m_779) m_781 ce_Model_stepOnce.2.1 ce_Model_stepOnce.2.2.1 mp_21 ce_Model_stepOnce.2.2.2.2.2 ln_Model_stepOnce cl_Model H.1 rfl) (J_Model_stepOnce H R (by omega)) (Nat.lt_of_lt_of_le (by decide) hd) ce_Model_stepOnce.1 ce_Model_stepOnce.2.1 ce_Model_stepOnce.2.2.1 ce_Model_stepOnce.2.2.2.1 (Nat.le_of_ble_eq_true rfl) F (fun k9 I9 A9 hR => by cases hR.1) (fun v9 h I1 A1 H F hR => ?_)
    obtain ⟨e9, R1, h01⟩ := hR
    cases e9
    refine mm_pop d_Model_waitFor_16 rfl ?_
    refine mx_inc (a := i) (b := i + 1) d_Model_waitFor_17 rfl rfl (by decide) ?_
    refine mm_goto (tgt := 2) d_Model_waitFor_20 (by decide) ?_
    have hk := c_keep.step c
    exact ih (i + 1) (c_step c).1 _ I1 A1 h (by omega) R1 (by rw [hk.1]; exact hp) (by rw [(hk.2 p).2]; exact hw) H F (h01.trans hI0) hq
set_option maxRecDepth 100000 in
set_option maxHeartbeats 4000000 in
theorem J_Model_waitFor {sc : mm_Sc} {n : Nat} {h : mm_H} {m : Nat} {I : Nat → Int32} {A : Nat → Nat → Int32} {T : Nat} {c : cS} {p w : Nat} (H : MH h m I A) (R : MR T c I A) (hT : T + 1000 < 2 ^ 29) (hp : p < c.1) (hw : (c.2.1 p).2.1.2.2.2 = nI w) (hw8 : w < 8) : mm_J sc y_Model_waitFor 4 [.ref m, .int (nI p)] n h 0 0 (MY (fun o I' A' => o = .inl none ∧ MR (T + (w + 1)) (c_steps (w + 1) c 0).1 I' A' ∧ I' 0 = I 0) n h m) := by
  refine mm_J.of (show mm_G sc y_Model_waitFor 4 0 [some (.ref m), some (.int (nI p)), none] [] n h 0 0 _ from ?_) ce_Model_waitFor.2.2.2.2.1 (Nat.le_of_ble_eq_true rfl) (by simp [Value.category])
  have F : MF h h m := fun _ _ => rfl
  have hN := R.1
  have h12 := R.2.1
  refine mm_iconst (v := 0) d_Model_waitFor_0 (by decide) ?_
  refine mm_istore_n d_Model_waitFor_1 (by decide) ?_
  exact lp_wait (T := T) (by decide) (by omega) hw8 (w + 1) 0 c 0 I A h (by omega) R hp hw H F rfl (fun h' I' A' H' F' R' e' => ⟨rfl, F', I', A', H', rfl, R', e'⟩)
