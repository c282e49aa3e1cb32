def cd_23 : Nat → Int32 := fun e => nI (e - 1)
/-- a place that a part has -/
theorem at_some {T : Nat} {c : cS} {I : Nat → Int32} {A : Nat → Nat → Int32} {k : Int32} {p : Nat} (R : MR T c I A) (h : m_at (A 1) (A 2) k c.1 0 = some p) : p < c.1 ∧ c_with c.1 c.2.1 k 12 0 = some p ∧ ∃ f z w kk, (c.2.1 p).2.1.1 = nI f ∧ (c.2.1 p).2.1.2.1 = nI z ∧ z ≤ 64 ∧ (c.2.1 p).2.1.2.2.2 = nI w ∧ w < 8 ∧ kk < z ∧ k - nI f = nI kk ∧ ((c.2.1 p).1 = 2 → z = 4) ∧ ((c.2.1 p).1 = 3 → z = 3) ∧ ((c.2.1 p).1 = 4 → z = 11) ∧ ((c.2.1 p).1 = 5 → z = 4) ∧ f + z ≤ 65536 ∧ k = nI (f + kk) := by
  have h1 := m_at_lt _ _ _ h
  have hp : p < c.1 := by omega
  have hw := with_at (k := k) R.2.2.2.2.2.1 12 0 (by have := R.2.1; omega)
  rw [Nat.sub_zero, h] at hw
  refine ⟨hp, hw, ?_⟩
  have hin := at_in _ _ _ h
  obtain ⟨b1, b2, b3, b4, b5, b6, f, z, l, w, e, e1, e2, e3, e4, e5, e6, e7, e8, e9⟩ := (R.2.2.2.2.2.1 p hp).1
  have f1 : (c.2.1 p).2.1.1 = nI f := by rw [e]
  have f2 : (c.2.1 p).2.1.2.1 = nI z := by rw [e]
  rw [b3, b4, f1, f2] at hin
  obtain ⟨kk, hk, hk1, hk2⟩ := place_k e1 e2 hin
  exact ⟨f, z, w, kk, f1, f2, e3, by rw [e], e5, hk, hk2, e6, e7, e8, e9, e1, hk1⟩
theorem at_none {T : Nat} {c : cS} {I : Nat → Int32} {A : Nat → Nat → Int32} {k : Int32} (R : MR T c I A) (h : m_at (A 1) (A 2) k c.1 0 = none) : c_with c.1 c.2.1 k 12 0 = none := by
  have hw := with_at (k := k) R.2.2.2.2.2.1 12 0 (by have := R.2.1; omega)
  rw [Nat.sub_zero, h] at hw
  exact hw
theorem w1_clamp {w : Nat} (h : w < 8) : (1 + nI w).toNatClampNeg = w + 1 := by
  rw [show (1 : Int32) + nI w = nI (1 + w) from nI_add 1 w, nI_clamp (by omega), Nat.add_comm]
theorem m_take_0 (A : Nat → Nat → Int32) (p b : Nat) : (m_take A p b).1 0 = A 0 := by
  unfold m_take
  split <;> rfl
theorem follow_MR' {T N : Nat} {c : cS} {I : Nat → Int32} {A : Nat → Nat → Int32} (h : c.1 = N) (R : MR T c I A) : MR T (c_follow c) I (m_look A N) := h ▸ follow_MR R
theorem c_setP_id (c : cS) (i : Nat) : c_setP c i (c.2.1 i) = c := by
  obtain ⟨N, P, r⟩ := c
  show (N, c_set P i (P i), r) = _
  congr 2
  funext j
  unfold c_set
  split
  · rename_i e; subst e; rfl
  · rfl
set_option maxRecDepth 100000 in
set_option maxHeartbeats 4000000 in
theorem J_Model_read {sc : mm_Sc} {n : Nat} {h : mm_H} {m : Nat} {I : Nat → Int32} {A : Nat → Nat → Int32} {T : Nat} {c : cS} {k : Int32} (H : MH h m I A) (R : MR T c I A) (hT : T + 1000 < 2 ^ 29)  : mm_J sc y_Model_read 6 [.ref m, .int k] n h 0 0 (MY (MC cd_23 (c_read k c) (T + 1000)) n h m) := by
  refine mm_J.of (show mm_G sc y_Model_read 6 0 [some (.ref m), some (.int k), none, none, none] [] n h 0 0 _ from ?_) ce_Model_read.2.2.2.2.1 (Nat.le_of_ble_eq_true rfl) (by simp [Value.category])
  have F : MF h h m := fun _ _ => rfl
  have hN := R.1
  have h12 := R.2.1
  refine mm_aload_n d_Model_read_0 rfl ?_
  refine mm_iconst (v := 0) d_Model_read_1 (by decide) ?_
  refine mm_putf d_Model_read_2 cl_Model ty_Model fl_Model_65_Model (by decide) rfl rfl rfl H.1 (Nat.le_of_ble_eq_true rfl) ?_
  refine mh_i0 H F (fun h H F => ?_)
  refine mm_iload_n d_Model_read_5 rfl ?_
  refine mm_iconst (v := 0) d_Model_read_6 (by decide) ?_
  refine mm_ldc d_Model_read_7 m_811 rfl ?_
  refine mm_callD (kc' := 0) (ks' := 0) d_Model_read_9 (mm_Inv.sta (as := [.int k, .int 0, .int 65535]) d_Model_read_9 (Or.inl m_756) m_757 ce_Model_within.2.1 ce_Model_within.2.2.1 ce_Model_within.2.2.2.1 ce_Model_within.2.2.2.2.2 ln_Model_within rfl) J_Model_within (by decide) ce_Model_within.1 ce_Model_within.2.1 ce_Model_within.2.2.1 ce_Model_within.2.2.2.1 (Nat.le_of_ble_eq_true rfl) ?_
  refine mm_if_ne (tgt := 21) d_Model_read_12 (by decide) (fun c_12 => ?_) (fun c_12 => ?_)
  · refine mm_aload_n d_Model_read_21 rfl ?_
    refine mm_iload_n d_Model_read_22 rfl ?_
    refine mx_call d_Model_read_23 (mm_Inv.vi (as := [.int k]) d_Model_read_23 (Or.inl m_771) m_773 ce_Model_partAt.2.1 ce_Model_partAt.2.2.1 mp_20 ce_Model_partAt.2.2.2.2.2 ln_Model_partAt cl_Model H.1 rfl) (J_Model_partAt (N := c.1) H hN h12) (by decide) ce_Model_partAt.1 ce_Model_partAt.2.1 ce_Model_partAt.2.2.1 ce_Model_partAt.2.2.2.1 (Nat.le_of_ble_eq_true rfl) F (fun h H F => ?_)
    refine mm_istore_n d_Model_read_26 (by decide) ?_
    refine mm_iload_n d_Model_read_27 rfl ?_
    rcases ha : m_at (A 1) (A 2) k c.1 0 with _ | p
    · have hw0 := at_none R ha
      refine mm_if_ge (tgt := 42) d_Model_read_28 (by decide) (fun c9 => absurd (show (0 : Int32) ≤ oI none from c9) (by decide)) (fun _ => ?_)
      refine mm_aload_n d_Model_read_31 rfl ?_
      refine mm_iconst (v := 3) d_Model_read_32 (by decide) ?_
      refine mx_call d_Model_read_33 (mm_Inv.vi (as := [.int 3]) d_Model_read_33 (Or.inl m_812) m_814 ce_Model_countAll.2.1 ce_Model_countAll.2.2.1 mp_28 ce_Model_countAll.2.2.2.2.2 ln_Model_countAll cl_Model H.1 rfl) (J_Model_countAll3 (N := c.1) H hN h12) (by decide) ce_Model_countAll.1 ce_Model_countAll.2.1 ce_Model_countAll.2.2.1 ce_Model_countAll.2.2.2.1 (Nat.le_of_ble_eq_true rfl) F (fun h H F => ?_)
      refine mm_aload_n d_Model_read_36 rfl ?_
      refine mm_iconst (v := 2) d_Model_read_37 (by decide) ?_
      refine mx_call d_Model_read_38 (mm_Inv.vi (as := [.int 2]) d_Model_read_38 (Or.inl m_763) m_765 ce_Model_fail.2.1 ce_Model_fail.2.2.1 mp_19 ce_Model_fail.2.2.2.2.2 ln_Model_fail cl_Model H.1 rfl) (J_Model_fail H) (by decide) ce_Model_fail.1 ce_Model_fail.2.1 ce_Model_fail.2.2.1 ce_Model_fail.2.2.2.1 (Nat.le_of_ble_eq_true rfl) F (fun h H F => ?_)
      exact mm_ireturn d_Model_read_41 rfl ⟨rfl, F, _, _, H, MC.inr (c := c_tally (nI 3) c) (e := 3) (by unfold c_read; rw [show c_reach k c = (.inr 3, c_tally 3 c) from by unfold c_reach; rw [if_neg (by rw [isPlace_eq]; exact c_12), hw0]]; rfl) (tally_MR (I := mi I 0 0) R (Or.inr (Or.inr rfl))) (by omega) rfl⟩
    · obtain ⟨hp, hw0, f, z, w, kk, hf, hz, hz64, hw, hw8, hkz, hkk, hz2, hz3, hz4, hz5, hfz, hkp⟩ := at_some R ha
      refine mm_if_ge (tgt := 42) d_Model_read_28 (by decide) (fun _ => ?_) (fun c9 => absurd (nI_pos' (by omega)) c9)
      refine mm_aload_n d_Model_read_42 rfl ?_
      refine mm_iload_n d_Model_read_43 rfl ?_
      refine mx_callY d_Model_read_44 (mm_Inv.vi (as := [.int (nI p)]) d_Model_read_44 (Or.inl m_816) m_818 ce_Model_waitFor.2.1 ce_Model_waitFor.2.2.1 mp_29 ce_Model_waitFor.2.2.2.2.2 ln_Model_waitFor cl_Model H.1 rfl) (J_Model_waitFor (T := T) H (show MR T c (mi I 0 0) A from R) (by omega) hp hw hw8) (by decide) ce_Model_waitFor.1 ce_Model_waitFor.2.1 ce_Model_waitFor.2.2.1 ce_Model_waitFor.2.2.2.1 (Nat.le_of_ble_eq_true rfl) F (fun k9 I9 A9 hR => by cases hR.1) (fun v9 h I1 A1 H F hR => ?_)
      obtain ⟨e9, R1, h01⟩ := hR
      cases e9
      have hk1 := c_keep.steps (w + 1) c 0
      generalize hc1 : (c_steps (w + 1) c 0).1 = c1 at R1 hk1
      have hN1 : I1 2 = nI c.1 := by rw [R1.1, hk1.1]
      refine mm_aload_n d_Model_read_47 rfl ?_
      refine mm_iconst (v := 1) d_Model_read_48 (by decide) ?_
      refine mx_call d_Model_read_49 (mm_Inv.vi (as := [.int 1]) d_Model_read_49 (Or.inl m_812) m_814 ce_Model_countAll.2.1 ce_Model_countAll.2.2.1 mp_28 ce_Model_countAll.2.2.2.2.2 ln_Model_countAll cl_Model H.1 rfl) (J_Model_countAll1 (N := c.1) H hN1 h12) (by decide) ce_Model_countAll.1 ce_Model_countAll.2.1 ce_Model_countAll.2.2.1 ce_Model_countAll.2.2.2.1 (Nat.le_of_ble_eq_true rfl) F (fun h H F => ?_)
      have R2 := tally_MR R1 (w := 1) (Or.inl rfl)
      have hk2 := hk1.tr (c_keep.tally (nI 1) c1)
      rw [hk1.1] at R2
      have hrd : c_read k c = (.inl (p_look ((c_tally (nI 1) c1).2.1 p) (k - ((c_tally (nI 1) c1).2.1 p).2.1.1)).2, c_follow (c_setP (c_tally (nI 1) c1) p (p_look ((c_tally (nI 1) c1).2.1 p) (k - ((c_tally (nI 1) c1).2.1 p).2.1.1)).1)) := by unfold c_read; rw [(show c_reach k c = (.inl p, c1) from by unfold c_reach; rw [if_neg (by rw [isPlace_eq]; exact c_12), hw0]; show (_, (c_steps (1 + (c.2.1 p).2.1.2.2.2).toNatClampNeg c 0).1) = _; rw [hw, w1_clamp hw8, hc1])]; rfl
      generalize hc2 : c_tally (nI 1) c1 = c2 at R2 hk2 hrd
      have hp2 : p < c2.1 := by rw [hk2.1]; exact hp
      have hm2 := R2.2.2.2.2.2.1 p hp2
      have hs2 : (c2.2.1 p).2.1 = (c.2.1 p).2.1 := (hk2.2 p).2
      have hkd2 : (c2.2.1 p).1 = (c.2.1 p).1 := (hk2.2 p).1
      have hN2 : c2.1 = c.1 := hk2.1
      have hf2 : A1 1 p = nI f := hm2.1.2.2.1.trans (by rw [hs2]; exact hf)
      rw [show k - (c2.2.1 p).2.1.1 = nI kk from by rw [hs2, hf]; exact hkk] at hrd
      by_cases hk3 : (c2.2.1 p).1 = 3
      · have h03 : A1 0 p = 3 := by rw [show A1 0 p = nI (c2.2.1 p).1 from hm2.1.2.1, hk3]; rfl
        have hkk3 : kk < 3 := by rw [← hz3 (by rw [← hkd2]; exact hk3)]; exact hkz
        refine mm_iload_n d_Model_read_52 rfl ?_
        refine mm_aload_n d_Model_read_53 rfl ?_
        refine mm_getf (v := .ref (m + 2)) d_Model_read_54 cl_Model fl_Model_13_Model (by decide) H.1 rfl ?_
        refine mm_iload_n d_Model_read_57 rfl ?_
        refine mx_ald (E := p) (v := nI f) d_Model_read_58 (mh_1 H) (by omega) (by decide) (show ((ma A1 5 (m_bump A1 1 c.1)) 1) p = nI f from hf2) ?_
        refine mm_isub d_Model_read_59 ?_
        refine mm_G.cast (st' := .int (nI kk) :: []) rfl (by rw [hkk]; rfl) rfl ?_
        refine mm_istore_n d_Model_read_60 (by decide) ?_
        refine mm_aload_n d_Model_read_61 rfl ?_
        refine mm_getf (v := .ref (m + 6)) d_Model_read_62 cl_Model fl_Model_25_Model (by decide) H.1 rfl ?_
        refine mm_bipush (v := 64) d_Model_read_65 (by decide) ?_
        refine mm_iload_n d_Model_read_67 rfl ?_
        refine mx_mul (a := 64) (b := p) d_Model_read_68 ?_
        refine mm_iload_n d_Model_read_69 rfl ?_
        refine mx_add (a := 64 * p) (b := kk) (c := 64 * p + kk) d_Model_read_70 (by omega) ?_
        refine mx_ald (E := 64 * p + kk) (v := ((ma A1 5 (m_bump A1 1 c.1)) 5) (64 * p + kk)) d_Model_read_71 (mh_5 H) (by omega) (by decide) (show ((ma A1 5 (m_bump A1 1 c.1)) 5) (64 * p + kk) = ((ma A1 5 (m_bump A1 1 c.1)) 5) (64 * p + kk) from rfl) ?_
        refine mm_istore d_Model_read_72 (by decide) ?_
        refine mm_aload_n d_Model_read_74 rfl ?_
        refine mm_getf (v := .ref (m + 1)) d_Model_read_75 cl_Model fl_Model_7_Model (by decide) H.1 rfl ?_
        refine mm_iload_n d_Model_read_78 rfl ?_
        refine mx_ald (E := p) (v := 3) d_Model_read_79 (mh_0 H) (by omega) (by decide) (show ((ma A1 5 (m_bump A1 1 c.1)) 0) p = 3 from (by first | exact h03 | (rw [m_take_0]; exact h03))) ?_
        refine mm_iconst (v := 3) d_Model_read_80 (by decide) ?_
        refine mm_icmp_ne (tgt := 95) d_Model_read_81 (by decide) (fun c9 => absurd c9 (by decide)) (fun _ => ?_)
        refine mm_iload_n d_Model_read_84 rfl ?_
        refine mx_if_ne (a := kk) (tgt := 95) d_Model_read_85 (by decide) (by omega) (fun c_85 => ?_) (fun c_85 => ?_)
        · refine mm_aload_n d_Model_read_95 rfl ?_
          refine mm_getf (v := .ref (m + 1)) d_Model_read_96 cl_Model fl_Model_7_Model (by decide) H.1 rfl ?_
          refine mm_iload_n d_Model_read_99 rfl ?_
          refine mx_ald (E := p) (v := 3) d_Model_read_100 (mh_0 H) (by omega) (by decide) (show ((ma A1 5 (m_bump A1 1 c.1)) 0) p = 3 from (by first | exact h03 | (rw [m_take_0]; exact h03))) ?_
          refine mm_iconst (v := 3) d_Model_read_101 (by decide) ?_
          refine mm_icmp_ne (tgt := 141) d_Model_read_102 (by decide) (fun c9 => absurd c9 (by decide)) (fun _ => ?_)
          refine mm_iload_n d_Model_read_105 rfl ?_
          refine mm_iconst (v := 1) d_Model_read_106 (by decide) ?_
          refine mx_icmp_ne (a := kk) (b := 1) (tgt := 141) d_Model_read_107 (by decide) (by omega) (by omega) (fun c_107 => ?_) (fun c_107 => ?_)
          · refine mm_aload_n d_Model_read_141 rfl ?_
            refine mx_call d_Model_read_142 (mm_Inv.vi (as := []) d_Model_read_142 (Or.inl m_799) m_801 ce_Model_lookAtLines.2.1 ce_Model_lookAtLines.2.2.1 mp_26 ce_Model_lookAtLines.2.2.2.2.2 ln_Model_lookAtLines cl_Model H.1 rfl) (J_Model_lookAtLines (N := c.1) H hN1 h12) (by decide) ce_Model_lookAtLines.1 ce_Model_lookAtLines.2.1 ce_Model_lookAtLines.2.2.1 ce_Model_lookAtLines.2.2.2.1 (Nat.le_of_ble_eq_true rfl) F (fun h H F => ?_)
            refine mm_iload d_Model_read_145 rfl ?_
            exact mm_ireturn d_Model_read_147 rfl (by obtain ⟨q1, q2⟩ := look_3b (kk := kk) hm2 hk3 (Or.inr (by omega)); rw [q1, q2, c_setP_id, if_neg (by omega)] at hrd; exact ⟨rfl, F, _, _, H, MC.inl hrd (follow_MR' hN2 R2) (by omega) h01 rfl⟩)
          · refine mm_aload_n d_Model_read_110 rfl ?_
            refine mm_getf (v := .ref (m + 9)) d_Model_read_111 cl_Model fl_Model_34_Model (by decide) H.1 rfl ?_
            refine mm_iload_n d_Model_read_114 rfl ?_
            refine mx_ald (E := p) (v := ((ma A1 5 (m_bump A1 1 c.1)) 8) p) d_Model_read_115 (mh_8 H) (by omega) (by decide) (show ((ma A1 5 (m_bump A1 1 c.1)) 8) p = ((ma A1 5 (m_bump A1 1 c.1)) 8) p from rfl) ?_
            refine mm_if_le (tgt := 123) d_Model_read_116 (by decide) (fun c_116 => ?_) (fun c_116 => ?_)
            · refine mm_iconst (v := 0) d_Model_read_123 (by decide) ?_
              refine mm_aload_n d_Model_read_124 rfl ?_
              refine mm_getf (v := .ref (m + 7)) d_Model_read_125 cl_Model fl_Model_28_Model (by decide) H.1 rfl ?_
              refine mm_iload_n d_Model_read_128 rfl ?_
              refine mx_ald (E := p) (v := ((ma A1 5 (m_bump A1 1 c.1)) 6) p) d_Model_read_129 (mh_6 H) (by omega) (by decide) (show ((ma A1 5 (m_bump A1 1 c.1)) 6) p = ((ma A1 5 (m_bump A1 1 c.1)) 6) p from rfl) ?_
              refine mm_if_ne (tgt := 137) d_Model_read_130 (by decide) (fun c_130 => ?_) (fun c_130 => ?_)
              · refine mm_iconst (v := 0) d_Model_read_137 (by decide) ?_
                refine mm_iadd d_Model_read_138 ?_
                refine mm_istore d_Model_read_139 (by decide) ?_
                refine mm_aload_n d_Model_read_141 rfl ?_
                refine mx_call d_Model_read_142 (mm_Inv.vi (as := []) d_Model_read_142 (Or.inl m_799) m_801 ce_Model_lookAtLines.2.1 ce_Model_lookAtLines.2.2.1 mp_26 ce_Model_lookAtLines.2.2.2.2.2 ln_Model_lookAtLines cl_Model H.1 rfl) (J_Model_lookAtLines (N := c.1) H hN1 h12) (by decide) ce_Model_lookAtLines.1 ce_Model_lookAtLines.2.1 ce_Model_lookAtLines.2.2.1 ce_Model_lookAtLines.2.2.2.1 (Nat.le_of_ble_eq_true rfl) F (fun h H F => ?_)
                refine mm_iload d_Model_read_145 rfl ?_
                exact mm_ireturn d_Model_read_147 rfl (by obtain ⟨q1, q2⟩ := look_3b (kk := kk) hm2 hk3 (Or.inl c_107); rw [q1, q2, c_setP_id, if_pos c_107] at hrd; exact ⟨rfl, F, _, _, H, MC.inl hrd (follow_MR' hN2 R2) (by omega) h01 (by rw [if_pos c_116, if_neg c_130])⟩)
              · refine mm_iconst (v := 2) d_Model_read_133 (by decide) ?_
                refine mm_goto (tgt := 138) d_Model_read_134 (by decide) ?_
                refine mm_iadd d_Model_read_138 ?_
                refine mm_istore d_Model_read_139 (by decide) ?_
                refine mm_aload_n d_Model_read_141 rfl ?_
                refine mx_call d_Model_read_142 (mm_Inv.vi (as := []) d_Model_read_142 (Or.inl m_799) m_801 ce_Model_lookAtLines.2.1 ce_Model_lookAtLines.2.2.1 mp_26 ce_Model_lookAtLines.2.2.2.2.2 ln_Model_lookAtLines cl_Model H.1 rfl) (J_Model_lookAtLines (N := c.1) H hN1 h12) (by decide) ce_Model_lookAtLines.1 ce_Model_lookAtLines.2.1 ce_Model_lookAtLines.2.2.1 ce_Model_lookAtLines.2.2.2.1 (Nat.le_of_ble_eq_true rfl) F (fun h H F => ?_)
                refine mm_iload d_Model_read_145 rfl ?_
                exact mm_ireturn d_Model_read_147 rfl (by obtain ⟨q1, q2⟩ := look_3b (kk := kk) hm2 hk3 (Or.inl c_107); rw [q1, q2, c_setP_id, if_pos c_107] at hrd; exact ⟨rfl, F, _, _, H, MC.inl hrd (follow_MR' hN2 R2) (by omega) h01 (by rw [if_pos c_116, if_pos c_130])⟩)
            · refine mm_iconst (v := 1) d_Model_read_119 (by decide) ?_
              refine mm_goto (tgt := 124) d_Model_read_120 (by decide) ?_
              refine mm_aload_n d_Model_read_124 rfl ?_
              refine mm_getf (v := .ref (m + 7)) d_Model_read_125 cl_Model fl_Model_28_Model (by decide) H.1 rfl ?_
              refine mm_iload_n d_Model_read_128 rfl ?_
              refine mx_ald (E := p) (v := ((ma A1 5 (m_bump A1 1 c.1)) 6) p) d_Model_read_129 (mh_6 H) (by omega) (by decide) (show ((ma A1 5 (m_bump A1 1 c.1)) 6) p = ((ma A1 5 (m_bump A1 1 c.1)) 6) p from rfl) ?_
              refine mm_if_ne (tgt := 137) d_Model_read_130 (by decide) (fun c_130 => ?_) (fun c_130 => ?_)
              · refine mm_iconst (v := 0) d_Model_read_137 (by decide) ?_
                refine mm_iadd d_Model_read_138 ?_
                refine mm_istore d_Model_read_139 (by decide) ?_
                refine mm_aload_n d_Model_read_141 rfl ?_
                refine mx_call d_Model_read_142 (mm_Inv.vi (as := []) d_Model_read_142 (Or.inl m_799) m_801 ce_Model_lookAtLines.2.1 ce_Model_lookAtLines.2.2.1 mp_26 ce_Model_lookAtLines.2.2.2.2.2 ln_Model_lookAtLines cl_Model H.1 rfl) (J_Model_lookAtLines (N := c.1) H hN1 h12) (by decide) ce_Model_lookAtLines.1 ce_Model_lookAtLines.2.1 ce_Model_lookAtLines.2.2.1 ce_Model_lookAtLines.2.2.2.1 (Nat.le_of_ble_eq_true rfl) F (fun h H F => ?_)
                refine mm_iload d_Model_read_145 rfl ?_
                exact mm_ireturn d_Model_read_147 rfl (by obtain ⟨q1, q2⟩ := look_3b (kk := kk) hm2 hk3 (Or.inl c_107); rw [q1, q2, c_setP_id, if_pos c_107] at hrd; exact ⟨rfl, F, _, _, H, MC.inl hrd (follow_MR' hN2 R2) (by omega) h01 (by rw [if_neg c_116, if_neg c_130])⟩)
              · refine mm_iconst (v := 2) d_Model_read_133 (by decide) ?_
                refine mm_goto (tgt := 138) d_Model_read_134 (by decide) ?_
                refine mm_iadd d_Model_read_138 ?_
                refine mm_istore d_Model_read_139 (by decide) ?_
                refine mm_aload_n d_Model_read_141 rfl ?_
                refine mx_call d_Model_read_142 (mm_Inv.vi (as := []) d_Model_read_142 (Or.inl m_799) m_801 ce_Model_lookAtLines.2.1 ce_Model_lookAtLines.2.2.1 mp_26 ce_Model_lookAtLines.2.2.2.2.2 ln_Model_lookAtLines cl_Model H.1 rfl) (J_Model_lookAtLines (N := c.1) H hN1 h12) (by decide) ce_Model_lookAtLines.1 ce_Model_lookAtLines.2.1 ce_Model_lookAtLines.2.2.1 ce_Model_lookAtLines.2.2.2.1 (Nat.le_of_ble_eq_true rfl) F (fun h H F => ?_)
                refine mm_iload d_Model_read_145 rfl ?_
                exact mm_ireturn d_Model_read_147 rfl (by obtain ⟨q1, q2⟩ := look_3b (kk := kk) hm2 hk3 (Or.inl c_107); rw [q1, q2, c_setP_id, if_pos c_107] at hrd; exact ⟨rfl, F, _, _, H, MC.inl hrd (follow_MR' hN2 R2) (by omega) h01 (by rw [if_neg c_116, if_pos c_130])⟩)
        · refine mm_aload_n d_Model_read_88 rfl ?_
          refine mm_iload_n d_Model_read_89 rfl ?_
          obtain ⟨b, hb, hb32, t1, t2, t3, t4⟩ := look_3 hm2 hk3
          refine mx_call d_Model_read_90 (mm_Inv.vi (as := [.int (nI p)]) d_Model_read_90 (Or.inl m_820) m_822 ce_Model_takeIn.2.1 ce_Model_takeIn.2.2.1 mp_30 ce_Model_takeIn.2.2.2.2.2 ln_Model_takeIn cl_Model H.1 rfl) (J_Model_takeIn (p := p) (c := b) H (by omega) hb hb32) (by decide) ce_Model_takeIn.1 ce_Model_takeIn.2.1 ce_Model_takeIn.2.2.1 ce_Model_takeIn.2.2.2.1 (Nat.le_of_ble_eq_true rfl) F (fun h H F => ?_)
          refine mm_istore d_Model_read_93 (by decide) ?_
          refine mm_aload_n d_Model_read_95 rfl ?_
          refine mm_getf (v := .ref (m + 1)) d_Model_read_96 cl_Model fl_Model_7_Model (by decide) H.1 rfl ?_
          refine mm_iload_n d_Model_read_99 rfl ?_
          refine mx_ald (E := p) (v := 3) d_Model_read_100 (mh_0 H) (by omega) (by decide) (show ((m_take (ma A1 5 (m_bump A1 1 c.1)) p b).1 0) p = 3 from (by first | exact h03 | (rw [m_take_0]; exact h03))) ?_
          refine mm_iconst (v := 3) d_Model_read_101 (by decide) ?_
          refine mm_icmp_ne (tgt := 141) d_Model_read_102 (by decide) (fun c9 => absurd c9 (by decide)) (fun _ => ?_)
          refine mm_iload_n d_Model_read_105 rfl ?_
          refine mm_iconst (v := 1) d_Model_read_106 (by decide) ?_
          refine mx_icmp_ne (a := kk) (b := 1) (tgt := 141) d_Model_read_107 (by decide) (by omega) (by omega) (fun c_107 => ?_) (fun c_107 => absurd c_107 (by omega))
          refine mm_aload_n d_Model_read_141 rfl ?_
          refine mx_call d_Model_read_142 (mm_Inv.vi (as := []) d_Model_read_142 (Or.inl m_799) m_801 ce_Model_lookAtLines.2.1 ce_Model_lookAtLines.2.2.1 mp_26 ce_Model_lookAtLines.2.2.2.2.2 ln_Model_lookAtLines cl_Model H.1 rfl) (J_Model_lookAtLines (N := c.1) H hN1 h12) (by decide) ce_Model_lookAtLines.1 ce_Model_lookAtLines.2.1 ce_Model_lookAtLines.2.2.1 ce_Model_lookAtLines.2.2.2.1 (Nat.le_of_ble_eq_true rfl) F (fun h H F => ?_)
          refine mm_iload d_Model_read_145 rfl ?_
          exact mm_ireturn d_Model_read_147 rfl (by subst c_85; exact ⟨rfl, F, _, _, H, MC.inl hrd (follow_MR' hN2 (R2.part hp2 t2 t3 t4)) (by omega) h01 t1.symm⟩)
      · have h03 : ¬ A1 0 p = 3 := by rw [show A1 0 p = nI (c2.2.1 p).1 from hm2.1.2.1]; exact fun z => hk3 ((nI_eq (a := (c2.2.1 p).1) (b := 3) (by have := hm2.1.1; omega) (by decide)).mp z)
        refine mm_iload_n d_Model_read_52 rfl ?_
        refine mm_aload_n d_Model_read_53 rfl ?_
        refine mm_getf (v := .ref (m + 2)) d_Model_read_54 cl_Model fl_Model_13_Model (by decide) H.1 rfl ?_
        refine mm_iload_n d_Model_read_57 rfl ?_
        refine mx_ald (E := p) (v := nI f) d_Model_read_58 (mh_1 H) (by omega) (by decide) (show ((ma A1 5 (m_bump A1 1 c.1)) 1) p = nI f from hf2) ?_
        refine mm_isub d_Model_read_59 ?_
        refine mm_G.cast (st' := .int (nI kk) :: []) rfl (by rw [hkk]; rfl) rfl ?_
        refine mm_istore_n d_Model_read_60 (by decide) ?_
        refine mm_aload_n d_Model_read_61 rfl ?_
        refine mm_getf (v := .ref (m + 6)) d_Model_read_62 cl_Model fl_Model_25_Model (by decide) H.1 rfl ?_
        refine mm_bipush (v := 64) d_Model_read_65 (by decide) ?_
        refine mm_iload_n d_Model_read_67 rfl ?_
        refine mx_mul (a := 64) (b := p) d_Model_read_68 ?_
        refine mm_iload_n d_Model_read_69 rfl ?_
        refine mx_add (a := 64 * p) (b := kk) (c := 64 * p + kk) d_Model_read_70 (by omega) ?_
        refine mx_ald (E := 64 * p + kk) (v := ((ma A1 5 (m_bump A1 1 c.1)) 5) (64 * p + kk)) d_Model_read_71 (mh_5 H) (by omega) (by decide) (show ((ma A1 5 (m_bump A1 1 c.1)) 5) (64 * p + kk) = ((ma A1 5 (m_bump A1 1 c.1)) 5) (64 * p + kk) from rfl) ?_
        refine mm_istore d_Model_read_72 (by decide) ?_
        refine mm_aload_n d_Model_read_74 rfl ?_
        refine mm_getf (v := .ref (m + 1)) d_Model_read_75 cl_Model fl_Model_7_Model (by decide) H.1 rfl ?_
        refine mm_iload_n d_Model_read_78 rfl ?_
        refine mx_ald (E := p) (v := ((ma A1 5 (m_bump A1 1 c.1)) 0) p) d_Model_read_79 (mh_0 H) (by omega) (by decide) (show ((ma A1 5 (m_bump A1 1 c.1)) 0) p = ((ma A1 5 (m_bump A1 1 c.1)) 0) p from rfl) ?_
        refine mm_iconst (v := 3) d_Model_read_80 (by decide) ?_
        refine mm_icmp_ne (tgt := 95) d_Model_read_81 (by decide) (fun c_81 => ?_) (fun c_81 => absurd c_81 h03)
        refine mm_aload_n d_Model_read_95 rfl ?_
        refine mm_getf (v := .ref (m + 1)) d_Model_read_96 cl_Model fl_Model_7_Model (by decide) H.1 rfl ?_
        refine mm_iload_n d_Model_read_99 rfl ?_
        refine mx_ald (E := p) (v := ((ma A1 5 (m_bump A1 1 c.1)) 0) p) d_Model_read_100 (mh_0 H) (by omega) (by decide) (show ((ma A1 5 (m_bump A1 1 c.1)) 0) p = ((ma A1 5 (m_bump A1 1 c.1)) 0) p from rfl) ?_
        refine mm_iconst (v := 3) d_Model_read_101 (by decide) ?_
        refine mm_icmp_ne (tgt := 141) d_Model_read_102 (by decide) (fun c_102 => ?_) (fun c_102 => absurd c_102 h03)
        refine mm_aload_n d_Model_read_141 rfl ?_
        refine mx_call d_Model_read_142 (mm_Inv.vi (as := []) d_Model_read_142 (Or.inl m_799) m_801 ce_Model_lookAtLines.2.1 ce_Model_lookAtLines.2.2.1 mp_26 ce_Model_lookAtLines.2.2.2.2.2 ln_Model_lookAtLines cl_Model H.1 rfl) (J_Model_lookAtLines (N := c.1) H hN1 h12) (by decide) ce_Model_lookAtLines.1 ce_Model_lookAtLines.2.1 ce_Model_lookAtLines.2.2.1 ce_Model_lookAtLines.2.2.2.1 (Nat.le_of_ble_eq_true rfl) F (fun h H F => ?_)
        refine mm_iload d_Model_read_145 rfl ?_
        exact mm_ireturn d_Model_read_147 rfl (by obtain ⟨q1, q2⟩ := look_rel hm2 (by rw [hs2]; exact hz) hz64 hkz hk3; rw [q1, q2, c_setP_id] at hrd; exact ⟨rfl, F, _, _, H, MC.inl hrd (follow_MR' hN2 R2) (by omega) h01 rfl⟩)
  · refine mm_aload_n d_Model_read_15 rfl ?_
    refine mm_iconst (v := 1) d_Model_read_16 (by decide) ?_
    refine mx_call d_Model_read_17 (mm_Inv.vi (as := [.int 1]) d_Model_read_17 (Or.inl m_763) m_765 ce_Model_fail.2.1 ce_Model_fail.2.2.1 mp_19 ce_Model_fail.2.2.2.2.2 ln_Model_fail cl_Model H.1 rfl) (J_Model_fail H) (by decide) ce_Model_fail.1 ce_Model_fail.2.1 ce_Model_fail.2.2.1 ce_Model_fail.2.2.2.1 (Nat.le_of_ble_eq_true rfl) F (fun h H F => ?_)
    exact mm_ireturn d_Model_read_20 rfl ⟨rfl, F, _, _, H, MC.inr (c := c) (e := 2) (by unfold c_read; rw [show c_reach k c = (.inr 2, c) from by unfold c_reach; rw [if_pos (by rw [isPlace_eq]; exact c_12)]]) R (by omega) rfl⟩
theorem p_set0 {q : pS} {k v : Int32} (h : q.1 < 2) : p_set q k v = p_with q q.2.2.1 (ar_put q.2.2.2.1 (p_len q) k v) q.2.2.2.2 := by
  obtain ⟨kd, s4, u, X, Y⟩ := q
  simp only at h
  have : kd = 0 ∨ kd = 1 := by omega
  rcases this with rfl | rfl <;> rfl
theorem p_set5 {q : pS} {k v : Int32} (h : q.1 = 5) : p_set q k v = p_with q q.2.2.1 (ar_put q.2.2.2.1 4 k 0) q.2.2.2.2 := by
  obtain ⟨kd, s4, u, X, Y⟩ := q
  simp only at h
  subst h
  rfl
theorem m_ws_lo (A : Nat → Nat → Int32) (p kk : Nat) (v : Int32) : ∀ k, k < 5 → m_ws A p kk v k = A k := fun k hk => by
  unfold m_ws
  repeat' split
  all_goals first | rfl | rw [ma_ne _ _ (by omega), ma_ne _ _ (by omega)] | rw [ma_ne _ _ (by omega)]
theorem m_wr_lo (A : Nat → Nat → Int32) (p kk : Nat) (v : Int32) : ∀ k, k < 5 → m_wr A p kk v k = A k := fun k hk => by
  unfold m_wr
  repeat' split
  all_goals first | rfl | rw [ma_ne _ _ (by omega), ma_ne _ _ (by omega), ma_ne _ _ (by omega)] | rw [ma_ne _ _ (by omega)]
set_option maxRecDepth 100000 in
set_option maxHeartbeats 4000000 in
theorem J_Model_write {sc : mm_Sc} {n : Nat} {h : mm_H} {m : Nat} {I : Nat → Int32} {A : Nat → Nat → Int32} {T : Nat} {c : cS} {k v : Int32} (H : MH h m I A) (R : MR T c I A) (hT : T + 1000 < 2 ^ 29)  : mm_J sc y_Model_write 6 [.ref m, .int k, .int v] n h 0 0 (MY (MC cd_23 (c_write k v c) (T + 1000)) n h m) := by
  refine mm_J.of (show mm_G sc y_Model_write 6 0 [some (.ref m), some (.int k), some (.int v), none, none] [] n h 0 0 _ from ?_) ce_Model_write.2.2.2.2.1 (Nat.le_of_ble_eq_true rfl) (by simp [Value.category])
  have F : MF h h m := fun _ _ => rfl
  have hN := R.1
  have h12 := R.2.1
  refine mm_aload_n d_Model_write_0 rfl ?_
  refine mm_iconst (v := 0) d_Model_write_1 (by decide) ?_
  refine mm_putf d_Model_write_2 cl_Model ty_Model fl_Model_65_Model (by decide) rfl rfl rfl H.1 (Nat.le_of_ble_eq_true rfl) ?_
  refine mh_i0 H F (fun h H F => ?_)
  refine mm_iload_n d_Model_write_5 rfl ?_
  refine mm_iconst (v := 0) d_Model_write_6 (by decide) ?_
  refine mm_ldc d_Model_write_7 m_811 rfl ?_
  refine mm_callD (kc' := 0) (ks' := 0) d_Model_write_9 (mm_Inv.sta (as := [.int k, .int 0, .int 65535]) d_Model_write_9 (Or.inl m_756) m_757 ce_Model_within.2.1 ce_Model_within.2.2.1 ce_Model_within.2.2.2.1 ce_Model_within.2.2.2.2.2 ln_Model_within rfl) J_Model_within (by decide) ce_Model_within.1 ce_Model_within.2.1 ce_Model_within.2.2.1 ce_Model_within.2.2.2.1 (Nat.le_of_ble_eq_true rfl) ?_
  refine mm_if_ne (tgt := 21) d_Model_write_12 (by decide) (fun c_12 => ?_) (fun c_12 => ?_)
  · refine mm_aload_n d_Model_write_21 rfl ?_
    refine mm_iload_n d_Model_write_22 rfl ?_
    refine mx_call d_Model_write_23 (mm_Inv.vi (as := [.int k]) d_Model_write_23 (Or.inl m_771) m_773 ce_Model_partAt.2.1 ce_Model_partAt.2.2.1 mp_20 ce_Model_partAt.2.2.2.2.2 ln_Model_partAt cl_Model H.1 rfl) (J_Model_partAt (N := c.1) H hN h12) (by decide) ce_Model_partAt.1 ce_Model_partAt.2.1 ce_Model_partAt.2.2.1 ce_Model_partAt.2.2.2.1 (Nat.le_of_ble_eq_true rfl) F (fun h H F => ?_)
    refine mm_istore_n d_Model_write_26 (by decide) ?_
    refine mm_iload_n d_Model_write_27 rfl ?_
    rcases ha : m_at (A 1) (A 2) k c.1 0 with _ | p
    · have hw0 := at_none R ha
      refine mm_if_ge (tgt := 42) d_Model_write_28 (by decide) (fun c9 => absurd (show (0 : Int32) ≤ oI none from c9) (by decide)) (fun _ => ?_)
      refine mm_aload_n d_Model_write_31 rfl ?_
      refine mm_iconst (v := 3) d_Model_write_32 (by decide) ?_
      refine mx_call d_Model_write_33 (mm_Inv.vi (as := [.int 3]) d_Model_write_33 (Or.inl m_812) m_814 ce_Model_countAll.2.1 ce_Model_countAll.2.2.1 mp_28 ce_Model_countAll.2.2.2.2.2 ln_Model_countAll cl_Model H.1 rfl) (J_Model_countAll3 (N := c.1) H hN h12) (by decide) ce_Model_countAll.1 ce_Model_countAll.2.1 ce_Model_countAll.2.2.1 ce_Model_countAll.2.2.2.1 (Nat.le_of_ble_eq_true rfl) F (fun h H F => ?_)
      refine mm_aload_n d_Model_write_36 rfl ?_
      refine mm_iconst (v := 2) d_Model_write_37 (by decide) ?_
      refine mx_call d_Model_write_38 (mm_Inv.vi (as := [.int 2]) d_Model_write_38 (Or.inl m_763) m_765 ce_Model_fail.2.1 ce_Model_fail.2.2.1 mp_19 ce_Model_fail.2.2.2.2.2 ln_Model_fail cl_Model H.1 rfl) (J_Model_fail H) (by decide) ce_Model_fail.1 ce_Model_fail.2.1 ce_Model_fail.2.2.1 ce_Model_fail.2.2.2.1 (Nat.le_of_ble_eq_true rfl) F (fun h H F => ?_)
      exact mm_ireturn d_Model_write_41 rfl ⟨rfl, F, _, _, H, MC.inr (c := c_tally (nI 3) c) (e := 3) (by unfold c_write; rw [show c_reach k c = (.inr 3, c_tally 3 c) from by unfold c_reach; rw [if_neg (by rw [isPlace_eq]; exact c_12), hw0]]; rfl) (tally_MR (I := mi I 0 0) R (Or.inr (Or.inr rfl))) (by omega) rfl⟩
    · obtain ⟨hp, hw0, f, z, w, kk, hf, hz, hz64, hw, hw8, hkz, hkk, hz2, hz3, hz4, hz5, hfz, hkp⟩ := at_some R ha
      refine mm_if_ge (tgt := 42) d_Model_write_28 (by decide) (fun _ => ?_) (fun c9 => absurd (nI_pos' (by omega)) c9)
      refine mm_aload_n d_Model_write_42 rfl ?_
      refine mm_iload_n d_Model_write_43 rfl ?_
      refine mx_callY d_Model_write_44 (mm_Inv.vi (as := [.int (nI p)]) d_Model_write_44 (Or.inl m_816) m_818 ce_Model_waitFor.2.1 ce_Model_waitFor.2.2.1 mp_29 ce_Model_waitFor.2.2.2.2.2 ln_Model_waitFor cl_Model H.1 rfl) (J_Model_waitFor (T := T) H (show MR T c (mi I 0 0) A from R) (by omega) hp hw hw8) (by decide) ce_Model_waitFor.1 ce_Model_waitFor.2.1 ce_Model_waitFor.2.2.1 ce_Model_waitFor.2.2.2.1 (Nat.le_of_ble_eq_true rfl) F (fun k9 I9 A9 hR => by cases hR.1) (fun v9 h I1 A1 H F hR => ?_)
      obtain ⟨e9, R1, h01⟩ := hR
      cases e9
      have hk1 := c_keep.steps (w + 1) c 0
      generalize hc1 : (c_steps (w + 1) c 0).1 = c1 at R1 hk1
      have hN1 : I1 2 = nI c.1 := by rw [R1.1, hk1.1]
      have hm1 := R1.2.2.2.2.2.1 p (by rw [hk1.1]; exact hp)
      have hkd1 : (c1.2.1 p).1 = (c.2.1 p).1 := (hk1.2 p).1
      have hwr : c_write k v c = if p_ref (c1.2.1 p) = 0 then (.inl (1 + ((c_follow (c_setP (c_tally 2 c1) p (p_set ((c_tally 2 c1).2.1 p) (k - ((c_tally 2 c1).2.1 p).2.1.1) v))).2.1 p).2.1.2.2.2), c_follow (c_setP (c_tally 2 c1) p (p_set ((c_tally 2 c1).2.1 p) (k - ((c_tally 2 c1).2.1 p).2.1.1) v))) else (.inr 3, c_tally 3 c1) := by unfold c_write; rw [(show c_reach k c = (.inl p, c1) from by unfold c_reach; rw [if_neg (by rw [isPlace_eq]; exact c_12), hw0]; show (_, (c_steps (1 + (c.2.1 p).2.1.2.2.2).toNatClampNeg c 0).1) = _; rw [hw, w1_clamp hw8, hc1])]
      obtain ⟨kd, hk, hk6⟩ : ∃ kd, (c1.2.1 p).1 = kd ∧ kd < 6 := ⟨_, rfl, hm1.1.1⟩
      have h0k := hm1.1.2.1
      rw [hk] at h0k
      match kd, hk6 with
      | 0, _ =>
        have h0k : A1 0 p = 0 := h0k
        refine mm_aload_n d_Model_write_47 rfl ?_
        refine mm_getf (v := .ref (m + 1)) d_Model_write_48 cl_Model fl_Model_7_Model (by decide) H.1 rfl ?_
        refine mm_iload_n d_Model_write_51 rfl ?_
        refine mx_ald (E := p) (v := 0) d_Model_write_52 (mh_0 H) (by omega) (by decide) (show (A1 0) p = 0 from h0k) ?_
        refine mm_iconst (v := 1) d_Model_write_53 (by decide) ?_
        refine mm_icmp_ne (tgt := 68) d_Model_write_54 (by decide) (fun _ => ?_) (fun c9 => absurd c9 (by decide))
        refine mm_aload_n d_Model_write_68 rfl ?_
        refine mm_iconst (v := 2) d_Model_write_69 (by decide) ?_
        refine mx_call d_Model_write_70 (mm_Inv.vi (as := [.int 2]) d_Model_write_70 (Or.inl m_812) m_814 ce_Model_countAll.2.1 ce_Model_countAll.2.2.1 mp_28 ce_Model_countAll.2.2.2.2.2 ln_Model_countAll cl_Model H.1 rfl) (J_Model_countAll2 (N := c.1) H hN1 h12) (by decide) ce_Model_countAll.1 ce_Model_countAll.2.1 ce_Model_countAll.2.2.1 ce_Model_countAll.2.2.2.1 (Nat.le_of_ble_eq_true rfl) F (fun h H F => ?_)
        have R2 := tally_MR R1 (w := 2) (Or.inr (Or.inl rfl))
        have hk2 := hk1.tr (c_keep.tally (nI 2) c1)
        rw [hk1.1] at R2
        have hkd2 : ((c_tally (nI 2) c1).2.1 p).1 = (c1.2.1 p).1 := ((c_keep.tally (nI 2) c1).2 p).1
        rw [show c_tally 2 c1 = c_tally (nI 2) c1 from rfl] at hwr
        generalize hc2 : c_tally (nI 2) c1 = c2 at R2 hk2 hwr hkd2
        rw [hk] at hkd2
        have hp2 : p < c2.1 := by rw [hk2.1]; exact hp
        have hm2 := R2.2.2.2.2.2.1 p hp2
        have hs2 : (c2.2.1 p).2.1 = (c.2.1 p).2.1 := (hk2.2 p).2
        have hN2 : c2.1 = c.1 := hk2.1
        have hf2 : A1 1 p = nI f := hm2.1.2.2.1.trans (by rw [hs2]; exact hf)
        have hw2 : A1 4 p = nI w := hm2.1.2.2.2.2.2.1.trans (by rw [hs2]; exact hw)
        rw [show k - (c2.2.1 p).2.1.1 = nI kk from by rw [hs2, hf]; exact hkk] at hwr
        have hkc : (c.2.1 p).1 = (c1.2.1 p).1 := (hk1.2 p).1.symm
        rw [hk] at hkc
        have hlz : p_len (c2.2.1 p) = z := (nI_eq (by have := (hm2.1.len (by omega)).1; omega) (by omega)).mp ((hm2.1.len (by omega)).2.symm.trans (by rw [hs2]; exact hz))
        have ep : p_set (c2.2.1 p) (nI kk) v = p_with (c2.2.1 p) (c2.2.1 p).2.2.1 (upd (c2.2.1 p).2.2.2.1 kk v) (c2.2.1 p).2.2.2.2 := by rw [← ar_put_nI (len := p_len (c2.2.1 p)) (by omega) (by omega)]; exact p_set0 (by omega)
        have t1 := put_rel (v := v) (kk := kk) hm2 (Or.inl ⟨by omega, by rw [hlz]; exact hkz⟩)
        rw [← ep] at t1
        have t2 : ∀ j, j ≠ p → agr (ma A1 5 (m_bump A1 2 c.1)) (ma (ma A1 5 (m_bump A1 2 c.1)) 5 (upd ((ma A1 5 (m_bump A1 2 c.1)) 5) (64 * p + kk) v)) j := agr5 (fun i hi => if_neg (by omega))
        have t3 : ∀ k, 13 ≤ k → (ma (ma A1 5 (m_bump A1 2 c.1)) 5 (upd ((ma A1 5 (m_bump A1 2 c.1)) 5) (64 * p + kk) v)) k = (ma A1 5 (m_bump A1 2 c.1)) k := fun k hk9 => ma_ne _ _ (by omega)
        have hws : ((c_follow (c_setP c2 p (p_set (c2.2.1 p) (nI kk) v))).2.1 p).2.1.2.2.2 = nI w := by rw [((c_keep.follow _).2 p).2, ((c_keep.setP (p_set_w (c2.2.1 p) (nI kk) v)).2 p).2, hs2]; exact hw
        refine mm_iload_n d_Model_write_73 rfl ?_
        refine mm_aload_n d_Model_write_74 rfl ?_
        refine mm_getf (v := .ref (m + 2)) d_Model_write_75 cl_Model fl_Model_13_Model (by decide) H.1 rfl ?_
        refine mm_iload_n d_Model_write_78 rfl ?_
        refine mx_ald (E := p) (v := nI f) d_Model_write_79 (mh_1 H) (by omega) (by decide) (show ((ma A1 5 (m_bump A1 2 c.1)) 1) p = nI f from hf2) ?_
        refine mm_isub d_Model_write_80 ?_
        refine mm_G.cast (st' := .int (nI kk) :: []) rfl (by rw [hkk]; rfl) rfl ?_
        refine mm_istore d_Model_write_81 (by decide) ?_
        refine mm_aload_n d_Model_write_83 rfl ?_
        refine mm_getf (v := .ref (m + 1)) d_Model_write_84 cl_Model fl_Model_7_Model (by decide) H.1 rfl ?_
        refine mm_iload_n d_Model_write_87 rfl ?_
        refine mx_ald (E := p) (v := 0) d_Model_write_88 (mh_0 H) (by omega) (by decide) (show ((ma A1 5 (m_bump A1 2 c.1)) 0) p = 0 from h0k) ?_
        refine mm_if_ne (tgt := 108) d_Model_write_89 (by decide) (fun c9 => absurd c9 (by decide)) (fun _ => ?_)
        refine mm_aload_n d_Model_write_92 rfl ?_
        refine mm_getf (v := .ref (m + 6)) d_Model_write_93 cl_Model fl_Model_25_Model (by decide) H.1 rfl ?_
        refine mm_bipush (v := 64) d_Model_write_96 (by decide) ?_
        refine mm_iload_n d_Model_write_98 rfl ?_
        refine mx_mul (a := 64) (b := p) d_Model_write_99 ?_
        refine mm_iload d_Model_write_100 rfl ?_
        refine mx_add (a := 64 * p) (b := kk) (c := 64 * p + kk) d_Model_write_102 (by omega) ?_
        refine mm_iload_n d_Model_write_103 rfl ?_
        refine mx_ast (E := 64 * p + kk) d_Model_write_104 (mh_5 H) (by omega) (by decide) ?_
        refine mh_a (j := 5) (f := (upd ((ma A1 5 (m_bump A1 2 c.1)) 5) (64 * p + kk) v)) (by decide) H F (fun h H F => ?_)
        refine mm_goto (tgt := 187) d_Model_write_105 (by decide) ?_
        refine mm_aload_n d_Model_write_187 rfl ?_
        refine mx_call d_Model_write_188 (mm_Inv.vi (as := []) d_Model_write_188 (Or.inl m_799) m_801 ce_Model_lookAtLines.2.1 ce_Model_lookAtLines.2.2.1 mp_26 ce_Model_lookAtLines.2.2.2.2.2 ln_Model_lookAtLines cl_Model H.1 rfl) (J_Model_lookAtLines (N := c.1) H hN1 h12) (by decide) ce_Model_lookAtLines.1 ce_Model_lookAtLines.2.1 ce_Model_lookAtLines.2.2.1 ce_Model_lookAtLines.2.2.2.1 (Nat.le_of_ble_eq_true rfl) F (fun h H F => ?_)
        refine mm_iconst (v := 1) d_Model_write_191 (by decide) ?_
        refine mm_aload_n d_Model_write_192 rfl ?_
        refine mm_getf (v := .ref (m + 5)) d_Model_write_193 cl_Model fl_Model_22_Model (by decide) H.1 rfl ?_
        refine mm_iload_n d_Model_write_196 rfl ?_
        refine mx_ald (E := p) (v := nI w) d_Model_write_197 (mh_4 H) (by omega) (by decide) (show ((m_look (ma (ma A1 5 (m_bump A1 2 c.1)) 5 (upd ((ma A1 5 (m_bump A1 2 c.1)) 5) (64 * p + kk) v)) c.1) 4) p = nI w from hw2) ?_
        refine mx_add (a := 1) (b := w) (c := 1 + w) d_Model_write_198 (by omega) ?_
        exact mm_ireturn d_Model_write_199 rfl (by rw [if_pos (by unfold p_ref; rw [if_neg (by omega)])] at hwr; exact ⟨rfl, F, _, _, H, MC.inl hwr (follow_MR' hN2 (R2.part hp2 t1 t2 t3)) (by omega) h01 (by rw [hws]; exact (nI_add 1 w).symm)⟩)
      | 1, _ =>
        have h0k : A1 0 p = 1 := h0k
        refine mm_aload_n d_Model_write_47 rfl ?_
        refine mm_getf (v := .ref (m + 1)) d_Model_write_48 cl_Model fl_Model_7_Model (by decide) H.1 rfl ?_
        refine mm_iload_n d_Model_write_51 rfl ?_
        refine mx_ald (E := p) (v := 1) d_Model_write_52 (mh_0 H) (by omega) (by decide) (show (A1 0) p = 1 from h0k) ?_
        refine mm_iconst (v := 1) d_Model_write_53 (by decide) ?_
        refine mm_icmp_ne (tgt := 68) d_Model_write_54 (by decide) (fun c9 => absurd c9 (by decide)) (fun _ => ?_)
        refine mm_aload_n d_Model_write_57 rfl ?_
        refine mm_iconst (v := 3) d_Model_write_58 (by decide) ?_
        refine mx_call d_Model_write_59 (mm_Inv.vi (as := [.int 3]) d_Model_write_59 (Or.inl m_812) m_814 ce_Model_countAll.2.1 ce_Model_countAll.2.2.1 mp_28 ce_Model_countAll.2.2.2.2.2 ln_Model_countAll cl_Model H.1 rfl) (J_Model_countAll3 (N := c.1) H hN1 h12) (by decide) ce_Model_countAll.1 ce_Model_countAll.2.1 ce_Model_countAll.2.2.1 ce_Model_countAll.2.2.2.1 (Nat.le_of_ble_eq_true rfl) F (fun h H F => ?_)
        refine mm_aload_n d_Model_write_62 rfl ?_
        refine mm_iconst (v := 2) d_Model_write_63 (by decide) ?_
        refine mx_call d_Model_write_64 (mm_Inv.vi (as := [.int 2]) d_Model_write_64 (Or.inl m_763) m_765 ce_Model_fail.2.1 ce_Model_fail.2.2.1 mp_19 ce_Model_fail.2.2.2.2.2 ln_Model_fail cl_Model H.1 rfl) (J_Model_fail H) (by decide) ce_Model_fail.1 ce_Model_fail.2.1 ce_Model_fail.2.2.1 ce_Model_fail.2.2.2.1 (Nat.le_of_ble_eq_true rfl) F (fun h H F => ?_)
        exact mm_ireturn d_Model_write_67 rfl ⟨rfl, F, _, _, H, MC.inr (c := c_tally (nI 3) c1) (e := 3) (by rw [hwr, if_neg (by unfold p_ref; rw [if_pos hk]; decide)]; rfl) (hk1.1 ▸ tally_MR R1 (w := 3) (Or.inr (Or.inr rfl))) (by omega) rfl⟩
      | 2, _ =>
        have h0k : A1 0 p = 2 := h0k
        refine mm_aload_n d_Model_write_47 rfl ?_
        refine mm_getf (v := .ref (m + 1)) d_Model_write_48 cl_Model fl_Model_7_Model (by decide) H.1 rfl ?_
        refine mm_iload_n d_Model_write_51 rfl ?_
        refine mx_ald (E := p) (v := 2) d_Model_write_52 (mh_0 H) (by omega) (by decide) (show (A1 0) p = 2 from h0k) ?_
        refine mm_iconst (v := 1) d_Model_write_53 (by decide) ?_
        refine mm_icmp_ne (tgt := 68) d_Model_write_54 (by decide) (fun _ => ?_) (fun c9 => absurd c9 (by decide))
        refine mm_aload_n d_Model_write_68 rfl ?_
        refine mm_iconst (v := 2) d_Model_write_69 (by decide) ?_
        refine mx_call d_Model_write_70 (mm_Inv.vi (as := [.int 2]) d_Model_write_70 (Or.inl m_812) m_814 ce_Model_countAll.2.1 ce_Model_countAll.2.2.1 mp_28 ce_Model_countAll.2.2.2.2.2 ln_Model_countAll cl_Model H.1 rfl) (J_Model_countAll2 (N := c.1) H hN1 h12) (by decide) ce_Model_countAll.1 ce_Model_countAll.2.1 ce_Model_countAll.2.2.1 ce_Model_countAll.2.2.2.1 (Nat.le_of_ble_eq_true rfl) F (fun h H F => ?_)
        have R2 := tally_MR R1 (w := 2) (Or.inr (Or.inl rfl))
        have hk2 := hk1.tr (c_keep.tally (nI 2) c1)
        rw [hk1.1] at R2
        have hkd2 : ((c_tally (nI 2) c1).2.1 p).1 = (c1.2.1 p).1 := ((c_keep.tally (nI 2) c1).2 p).1
        rw [show c_tally 2 c1 = c_tally (nI 2) c1 from rfl] at hwr
        generalize hc2 : c_tally (nI 2) c1 = c2 at R2 hk2 hwr hkd2
        rw [hk] at hkd2
        have hp2 : p < c2.1 := by rw [hk2.1]; exact hp
        have hm2 := R2.2.2.2.2.2.1 p hp2
        have hs2 : (c2.2.1 p).2.1 = (c.2.1 p).2.1 := (hk2.2 p).2
        have hN2 : c2.1 = c.1 := hk2.1
        have hf2 : A1 1 p = nI f := hm2.1.2.2.1.trans (by rw [hs2]; exact hf)
        have hw2 : A1 4 p = nI w := hm2.1.2.2.2.2.2.1.trans (by rw [hs2]; exact hw)
        rw [show k - (c2.2.1 p).2.1.1 = nI kk from by rw [hs2, hf]; exact hkk] at hwr
        have hkc : (c.2.1 p).1 = (c1.2.1 p).1 := (hk1.2 p).1.symm
        rw [hk] at hkc
        have hz2b := hz2 hkc
        have t1 := wt_rel (v := v) hm2 hkd2 (kk := kk) (by omega)
        have t2 : ∀ j, j ≠ p → agr (ma A1 5 (m_bump A1 2 c.1)) (ma (ma A1 5 (m_bump A1 2 c.1)) 5 (m_wt ((ma A1 5 (m_bump A1 2 c.1)) 5) (64 * p) kk v)) j := agr5 (fun i hi => if_neg (by omega))
        have t3 : ∀ k, 13 ≤ k → (ma (ma A1 5 (m_bump A1 2 c.1)) 5 (m_wt ((ma A1 5 (m_bump A1 2 c.1)) 5) (64 * p) kk v)) k = (ma A1 5 (m_bump A1 2 c.1)) k := fun k hk9 => ma_ne _ _ (by omega)
        have hws : ((c_follow (c_setP c2 p (p_set (c2.2.1 p) (nI kk) v))).2.1 p).2.1.2.2.2 = nI w := by rw [((c_keep.follow _).2 p).2, ((c_keep.setP (p_set_w (c2.2.1 p) (nI kk) v)).2 p).2, hs2]; exact hw
        refine mm_iload_n d_Model_write_73 rfl ?_
        refine mm_aload_n d_Model_write_74 rfl ?_
        refine mm_getf (v := .ref (m + 2)) d_Model_write_75 cl_Model fl_Model_13_Model (by decide) H.1 rfl ?_
        refine mm_iload_n d_Model_write_78 rfl ?_
        refine mx_ald (E := p) (v := nI f) d_Model_write_79 (mh_1 H) (by omega) (by decide) (show ((ma A1 5 (m_bump A1 2 c.1)) 1) p = nI f from hf2) ?_
        refine mm_isub d_Model_write_80 ?_
        refine mm_G.cast (st' := .int (nI kk) :: []) rfl (by rw [hkk]; rfl) rfl ?_
        refine mm_istore d_Model_write_81 (by decide) ?_
        refine mm_aload_n d_Model_write_83 rfl ?_
        refine mm_getf (v := .ref (m + 1)) d_Model_write_84 cl_Model fl_Model_7_Model (by decide) H.1 rfl ?_
        refine mm_iload_n d_Model_write_87 rfl ?_
        refine mx_ald (E := p) (v := 2) d_Model_write_88 (mh_0 H) (by omega) (by decide) (show ((ma A1 5 (m_bump A1 2 c.1)) 0) p = 2 from h0k) ?_
        refine mm_if_ne (tgt := 108) d_Model_write_89 (by decide) (fun _ => ?_) (fun c9 => absurd c9 (by decide))
        refine mm_aload_n d_Model_write_108 rfl ?_
        refine mm_getf (v := .ref (m + 1)) d_Model_write_109 cl_Model fl_Model_7_Model (by decide) H.1 rfl ?_
        refine mm_iload_n d_Model_write_112 rfl ?_
        refine mx_ald (E := p) (v := 2) d_Model_write_113 (mh_0 H) (by omega) (by decide) (show ((ma A1 5 (m_bump A1 2 c.1)) 0) p = 2 from h0k) ?_
        refine mm_iconst (v := 2) d_Model_write_114 (by decide) ?_
        refine mm_icmp_ne (tgt := 132) d_Model_write_115 (by decide) (fun c9 => absurd c9 (by decide)) (fun _ => ?_)
        refine mm_aload_n d_Model_write_118 rfl ?_
        refine mm_bipush (v := 64) d_Model_write_119 (by decide) ?_
        refine mm_iload_n d_Model_write_121 rfl ?_
        refine mx_mul (a := 64) (b := p) d_Model_write_122 ?_
        refine mm_iload d_Model_write_123 rfl ?_
        refine mm_iload_n d_Model_write_125 rfl ?_
        refine mx_call d_Model_write_126 (mm_Inv.vi (as := [.int (nI (64 * p)), .int (nI kk), .int v]) d_Model_write_126 (Or.inl m_828) m_830 ce_Model_writeTimer.2.1 ce_Model_writeTimer.2.2.1 mp_31 ce_Model_writeTimer.2.2.2.2.2 ln_Model_writeTimer cl_Model H.1 rfl) (J_Model_writeTimer H (by omega) (by omega)) (by decide) ce_Model_writeTimer.1 ce_Model_writeTimer.2.1 ce_Model_writeTimer.2.2.1 ce_Model_writeTimer.2.2.2.1 (Nat.le_of_ble_eq_true rfl) F (fun h H F => ?_)
        refine mm_goto (tgt := 187) d_Model_write_129 (by decide) ?_
        refine mm_aload_n d_Model_write_187 rfl ?_
        refine mx_call d_Model_write_188 (mm_Inv.vi (as := []) d_Model_write_188 (Or.inl m_799) m_801 ce_Model_lookAtLines.2.1 ce_Model_lookAtLines.2.2.1 mp_26 ce_Model_lookAtLines.2.2.2.2.2 ln_Model_lookAtLines cl_Model H.1 rfl) (J_Model_lookAtLines (N := c.1) H hN1 h12) (by decide) ce_Model_lookAtLines.1 ce_Model_lookAtLines.2.1 ce_Model_lookAtLines.2.2.1 ce_Model_lookAtLines.2.2.2.1 (Nat.le_of_ble_eq_true rfl) F (fun h H F => ?_)
        refine mm_iconst (v := 1) d_Model_write_191 (by decide) ?_
        refine mm_aload_n d_Model_write_192 rfl ?_
        refine mm_getf (v := .ref (m + 5)) d_Model_write_193 cl_Model fl_Model_22_Model (by decide) H.1 rfl ?_
        refine mm_iload_n d_Model_write_196 rfl ?_
        refine mx_ald (E := p) (v := nI w) d_Model_write_197 (mh_4 H) (by omega) (by decide) (show ((m_look (ma (ma A1 5 (m_bump A1 2 c.1)) 5 (m_wt ((ma A1 5 (m_bump A1 2 c.1)) 5) (64 * p) kk v)) c.1) 4) p = nI w from hw2) ?_
        refine mx_add (a := 1) (b := w) (c := 1 + w) d_Model_write_198 (by omega) ?_
        exact mm_ireturn d_Model_write_199 rfl (by rw [if_pos (by unfold p_ref; rw [if_neg (by omega)])] at hwr; exact ⟨rfl, F, _, _, H, MC.inl hwr (follow_MR' hN2 (R2.part hp2 t1 t2 t3)) (by omega) h01 (by rw [hws]; exact (nI_add 1 w).symm)⟩)
      | 3, _ =>
        have h0k : A1 0 p = 3 := h0k
        refine mm_aload_n d_Model_write_47 rfl ?_
        refine mm_getf (v := .ref (m + 1)) d_Model_write_48 cl_Model fl_Model_7_Model (by decide) H.1 rfl ?_
        refine mm_iload_n d_Model_write_51 rfl ?_
        refine mx_ald (E := p) (v := 3) d_Model_write_52 (mh_0 H) (by omega) (by decide) (show (A1 0) p = 3 from h0k) ?_
        refine mm_iconst (v := 1) d_Model_write_53 (by decide) ?_
        refine mm_icmp_ne (tgt := 68) d_Model_write_54 (by decide) (fun _ => ?_) (fun c9 => absurd c9 (by decide))
        refine mm_aload_n d_Model_write_68 rfl ?_
        refine mm_iconst (v := 2) d_Model_write_69 (by decide) ?_
        refine mx_call d_Model_write_70 (mm_Inv.vi (as := [.int 2]) d_Model_write_70 (Or.inl m_812) m_814 ce_Model_countAll.2.1 ce_Model_countAll.2.2.1 mp_28 ce_Model_countAll.2.2.2.2.2 ln_Model_countAll cl_Model H.1 rfl) (J_Model_countAll2 (N := c.1) H hN1 h12) (by decide) ce_Model_countAll.1 ce_Model_countAll.2.1 ce_Model_countAll.2.2.1 ce_Model_countAll.2.2.2.1 (Nat.le_of_ble_eq_true rfl) F (fun h H F => ?_)
        have R2 := tally_MR R1 (w := 2) (Or.inr (Or.inl rfl))
        have hk2 := hk1.tr (c_keep.tally (nI 2) c1)
        rw [hk1.1] at R2
        have hkd2 : ((c_tally (nI 2) c1).2.1 p).1 = (c1.2.1 p).1 := ((c_keep.tally (nI 2) c1).2 p).1
        rw [show c_tally 2 c1 = c_tally (nI 2) c1 from rfl] at hwr
        generalize hc2 : c_tally (nI 2) c1 = c2 at R2 hk2 hwr hkd2
        rw [hk] at hkd2
        have hp2 : p < c2.1 := by rw [hk2.1]; exact hp
        have hm2 := R2.2.2.2.2.2.1 p hp2
        have hs2 : (c2.2.1 p).2.1 = (c.2.1 p).2.1 := (hk2.2 p).2
        have hN2 : c2.1 = c.1 := hk2.1
        have hf2 : A1 1 p = nI f := hm2.1.2.2.1.trans (by rw [hs2]; exact hf)
        have hw2 : A1 4 p = nI w := hm2.1.2.2.2.2.2.1.trans (by rw [hs2]; exact hw)
        rw [show k - (c2.2.1 p).2.1.1 = nI kk from by rw [hs2, hf]; exact hkk] at hwr
        have hkc : (c.2.1 p).1 = (c1.2.1 p).1 := (hk1.2 p).1.symm
        rw [hk] at hkc
        have hz3b := hz3 hkc
        obtain ⟨t1, t2, t3⟩ := ws_rel (v := v) hm2 hkd2 (kk := kk) (by omega)
        have hws : ((c_follow (c_setP c2 p (p_set (c2.2.1 p) (nI kk) v))).2.1 p).2.1.2.2.2 = nI w := by rw [((c_keep.follow _).2 p).2, ((c_keep.setP (p_set_w (c2.2.1 p) (nI kk) v)).2 p).2, hs2]; exact hw
        refine mm_iload_n d_Model_write_73 rfl ?_
        refine mm_aload_n d_Model_write_74 rfl ?_
        refine mm_getf (v := .ref (m + 2)) d_Model_write_75 cl_Model fl_Model_13_Model (by decide) H.1 rfl ?_
        refine mm_iload_n d_Model_write_78 rfl ?_
        refine mx_ald (E := p) (v := nI f) d_Model_write_79 (mh_1 H) (by omega) (by decide) (show ((ma A1 5 (m_bump A1 2 c.1)) 1) p = nI f from hf2) ?_
        refine mm_isub d_Model_write_80 ?_
        refine mm_G.cast (st' := .int (nI kk) :: []) rfl (by rw [hkk]; rfl) rfl ?_
        refine mm_istore d_Model_write_81 (by decide) ?_
        refine mm_aload_n d_Model_write_83 rfl ?_
        refine mm_getf (v := .ref (m + 1)) d_Model_write_84 cl_Model fl_Model_7_Model (by decide) H.1 rfl ?_
        refine mm_iload_n d_Model_write_87 rfl ?_
        refine mx_ald (E := p) (v := 3) d_Model_write_88 (mh_0 H) (by omega) (by decide) (show ((ma A1 5 (m_bump A1 2 c.1)) 0) p = 3 from (by first | exact h0k | (rw [m_ws_lo _ _ _ _ 0 (by decide)]; exact h0k))) ?_
        refine mm_if_ne (tgt := 108) d_Model_write_89 (by decide) (fun _ => ?_) (fun c9 => absurd c9 (by decide))
        refine mm_aload_n d_Model_write_108 rfl ?_
        refine mm_getf (v := .ref (m + 1)) d_Model_write_109 cl_Model fl_Model_7_Model (by decide) H.1 rfl ?_
        refine mm_iload_n d_Model_write_112 rfl ?_
        refine mx_ald (E := p) (v := 3) d_Model_write_113 (mh_0 H) (by omega) (by decide) (show ((ma A1 5 (m_bump A1 2 c.1)) 0) p = 3 from (by first | exact h0k | (rw [m_ws_lo _ _ _ _ 0 (by decide)]; exact h0k))) ?_
        refine mm_iconst (v := 2) d_Model_write_114 (by decide) ?_
        refine mm_icmp_ne (tgt := 132) d_Model_write_115 (by decide) (fun _ => ?_) (fun c9 => absurd c9 (by decide))
        refine mm_aload_n d_Model_write_132 rfl ?_
        refine mm_getf (v := .ref (m + 1)) d_Model_write_133 cl_Model fl_Model_7_Model (by decide) H.1 rfl ?_
        refine mm_iload_n d_Model_write_136 rfl ?_
        refine mx_ald (E := p) (v := 3) d_Model_write_137 (mh_0 H) (by omega) (by decide) (show ((ma A1 5 (m_bump A1 2 c.1)) 0) p = 3 from (by first | exact h0k | (rw [m_ws_lo _ _ _ _ 0 (by decide)]; exact h0k))) ?_
        refine mm_iconst (v := 3) d_Model_write_138 (by decide) ?_
        refine mm_icmp_ne (tgt := 153) d_Model_write_139 (by decide) (fun c9 => absurd c9 (by decide)) (fun _ => ?_)
        refine mm_aload_n d_Model_write_142 rfl ?_
        refine mm_iload_n d_Model_write_143 rfl ?_
        refine mm_iload d_Model_write_144 rfl ?_
        refine mm_iload_n d_Model_write_146 rfl ?_
        refine mx_call d_Model_write_147 (mm_Inv.vi (as := [.int (nI p), .int (nI kk), .int v]) d_Model_write_147 (Or.inl m_832) m_834 ce_Model_writeSerial.2.1 ce_Model_writeSerial.2.2.1 mp_32 ce_Model_writeSerial.2.2.2.2.2 ln_Model_writeSerial cl_Model H.1 rfl) (J_Model_writeSerial H (by omega) (by omega)) (by decide) ce_Model_writeSerial.1 ce_Model_writeSerial.2.1 ce_Model_writeSerial.2.2.1 ce_Model_writeSerial.2.2.2.1 (Nat.le_of_ble_eq_true rfl) F (fun h H F => ?_)
        refine mm_goto (tgt := 187) d_Model_write_150 (by decide) ?_
        refine mm_aload_n d_Model_write_187 rfl ?_
        refine mx_call d_Model_write_188 (mm_Inv.vi (as := []) d_Model_write_188 (Or.inl m_799) m_801 ce_Model_lookAtLines.2.1 ce_Model_lookAtLines.2.2.1 mp_26 ce_Model_lookAtLines.2.2.2.2.2 ln_Model_lookAtLines cl_Model H.1 rfl) (J_Model_lookAtLines (N := c.1) H hN1 h12) (by decide) ce_Model_lookAtLines.1 ce_Model_lookAtLines.2.1 ce_Model_lookAtLines.2.2.1 ce_Model_lookAtLines.2.2.2.1 (Nat.le_of_ble_eq_true rfl) F (fun h H F => ?_)
        refine mm_iconst (v := 1) d_Model_write_191 (by decide) ?_
        refine mm_aload_n d_Model_write_192 rfl ?_
        refine mm_getf (v := .ref (m + 5)) d_Model_write_193 cl_Model fl_Model_22_Model (by decide) H.1 rfl ?_
        refine mm_iload_n d_Model_write_196 rfl ?_
        refine mx_ald (E := p) (v := nI w) d_Model_write_197 (mh_4 H) (by omega) (by decide) (show ((m_look (m_ws (ma A1 5 (m_bump A1 2 c.1)) p kk v) c.1) 4) p = nI w from (by first | exact hw2 | (show m_ws _ p kk v 4 p = nI w; rw [m_ws_lo _ _ _ _ 4 (by decide)]; exact hw2))) ?_
        refine mx_add (a := 1) (b := w) (c := 1 + w) d_Model_write_198 (by omega) ?_
        exact mm_ireturn d_Model_write_199 rfl (by rw [if_pos (by unfold p_ref; rw [if_neg (by omega)])] at hwr; exact ⟨rfl, F, _, _, H, MC.inl hwr (follow_MR' hN2 (R2.part hp2 t1 t2 t3)) (by omega) h01 (by rw [hws]; exact (nI_add 1 w).symm)⟩)
      | 4, _ =>
        have h0k : A1 0 p = 4 := h0k
        refine mm_aload_n d_Model_write_47 rfl ?_
        refine mm_getf (v := .ref (m + 1)) d_Model_write_48 cl_Model fl_Model_7_Model (by decide) H.1 rfl ?_
        refine mm_iload_n d_Model_write_51 rfl ?_
        refine mx_ald (E := p) (v := 4) d_Model_write_52 (mh_0 H) (by omega) (by decide) (show (A1 0) p = 4 from h0k) ?_
        refine mm_iconst (v := 1) d_Model_write_53 (by decide) ?_
        refine mm_icmp_ne (tgt := 68) d_Model_write_54 (by decide) (fun _ => ?_) (fun c9 => absurd c9 (by decide))
        refine mm_aload_n d_Model_write_68 rfl ?_
        refine mm_iconst (v := 2) d_Model_write_69 (by decide) ?_
        refine mx_call d_Model_write_70 (mm_Inv.vi (as := [.int 2]) d_Model_write_70 (Or.inl m_812) m_814 ce_Model_countAll.2.1 ce_Model_countAll.2.2.1 mp_28 ce_Model_countAll.2.2.2.2.2 ln_Model_countAll cl_Model H.1 rfl) (J_Model_countAll2 (N := c.1) H hN1 h12) (by decide) ce_Model_countAll.1 ce_Model_countAll.2.1 ce_Model_countAll.2.2.1 ce_Model_countAll.2.2.2.1 (Nat.le_of_ble_eq_true rfl) F (fun h H F => ?_)
        have R2 := tally_MR R1 (w := 2) (Or.inr (Or.inl rfl))
        have hk2 := hk1.tr (c_keep.tally (nI 2) c1)
        rw [hk1.1] at R2
        have hkd2 : ((c_tally (nI 2) c1).2.1 p).1 = (c1.2.1 p).1 := ((c_keep.tally (nI 2) c1).2 p).1
        rw [show c_tally 2 c1 = c_tally (nI 2) c1 from rfl] at hwr
        generalize hc2 : c_tally (nI 2) c1 = c2 at R2 hk2 hwr hkd2
        rw [hk] at hkd2
        have hp2 : p < c2.1 := by rw [hk2.1]; exact hp
        have hm2 := R2.2.2.2.2.2.1 p hp2
        have hs2 : (c2.2.1 p).2.1 = (c.2.1 p).2.1 := (hk2.2 p).2
        have hN2 : c2.1 = c.1 := hk2.1
        have hf2 : A1 1 p = nI f := hm2.1.2.2.1.trans (by rw [hs2]; exact hf)
        have hw2 : A1 4 p = nI w := hm2.1.2.2.2.2.2.1.trans (by rw [hs2]; exact hw)
        rw [show k - (c2.2.1 p).2.1.1 = nI kk from by rw [hs2, hf]; exact hkk] at hwr
        have hkc : (c.2.1 p).1 = (c1.2.1 p).1 := (hk1.2 p).1.symm
        rw [hk] at hkc
        have hz4b := hz4 hkc
        obtain ⟨t1, t2, t3⟩ := wr_rel (x := v) hm2 hkd2 (kk := kk) (by omega)
        have hws : ((c_follow (c_setP c2 p (p_set (c2.2.1 p) (nI kk) v))).2.1 p).2.1.2.2.2 = nI w := by rw [((c_keep.follow _).2 p).2, ((c_keep.setP (p_set_w (c2.2.1 p) (nI kk) v)).2 p).2, hs2]; exact hw
        refine mm_iload_n d_Model_write_73 rfl ?_
        refine mm_aload_n d_Model_write_74 rfl ?_
        refine mm_getf (v := .ref (m + 2)) d_Model_write_75 cl_Model fl_Model_13_Model (by decide) H.1 rfl ?_
        refine mm_iload_n d_Model_write_78 rfl ?_
        refine mx_ald (E := p) (v := nI f) d_Model_write_79 (mh_1 H) (by omega) (by decide) (show ((ma A1 5 (m_bump A1 2 c.1)) 1) p = nI f from hf2) ?_
        refine mm_isub d_Model_write_80 ?_
        refine mm_G.cast (st' := .int (nI kk) :: []) rfl (by rw [hkk]; rfl) rfl ?_
        refine mm_istore d_Model_write_81 (by decide) ?_
        refine mm_aload_n d_Model_write_83 rfl ?_
        refine mm_getf (v := .ref (m + 1)) d_Model_write_84 cl_Model fl_Model_7_Model (by decide) H.1 rfl ?_
        refine mm_iload_n d_Model_write_87 rfl ?_
        refine mx_ald (E := p) (v := 4) d_Model_write_88 (mh_0 H) (by omega) (by decide) (show ((ma A1 5 (m_bump A1 2 c.1)) 0) p = 4 from h0k) ?_
        refine mm_if_ne (tgt := 108) d_Model_write_89 (by decide) (fun _ => ?_) (fun c9 => absurd c9 (by decide))
        refine mm_aload_n d_Model_write_108 rfl ?_
        refine mm_getf (v := .ref (m + 1)) d_Model_write_109 cl_Model fl_Model_7_Model (by decide) H.1 rfl ?_
        refine mm_iload_n d_Model_write_112 rfl ?_
        refine mx_ald (E := p) (v := 4) d_Model_write_113 (mh_0 H) (by omega) (by decide) (show ((ma A1 5 (m_bump A1 2 c.1)) 0) p = 4 from h0k) ?_
        refine mm_iconst (v := 2) d_Model_write_114 (by decide) ?_
        refine mm_icmp_ne (tgt := 132) d_Model_write_115 (by decide) (fun _ => ?_) (fun c9 => absurd c9 (by decide))
        refine mm_aload_n d_Model_write_132 rfl ?_
        refine mm_getf (v := .ref (m + 1)) d_Model_write_133 cl_Model fl_Model_7_Model (by decide) H.1 rfl ?_
        refine mm_iload_n d_Model_write_136 rfl ?_
        refine mx_ald (E := p) (v := 4) d_Model_write_137 (mh_0 H) (by omega) (by decide) (show ((ma A1 5 (m_bump A1 2 c.1)) 0) p = 4 from h0k) ?_
        refine mm_iconst (v := 3) d_Model_write_138 (by decide) ?_
        refine mm_icmp_ne (tgt := 153) d_Model_write_139 (by decide) (fun _ => ?_) (fun c9 => absurd c9 (by decide))
        refine mm_aload_n d_Model_write_153 rfl ?_
        refine mm_getf (v := .ref (m + 1)) d_Model_write_154 cl_Model fl_Model_7_Model (by decide) H.1 rfl ?_
        refine mm_iload_n d_Model_write_157 rfl ?_
        refine mx_ald (E := p) (v := 4) d_Model_write_158 (mh_0 H) (by omega) (by decide) (show ((ma A1 5 (m_bump A1 2 c.1)) 0) p = 4 from h0k) ?_
        refine mm_iconst (v := 4) d_Model_write_159 (by decide) ?_
        refine mm_icmp_ne (tgt := 174) d_Model_write_160 (by decide) (fun c9 => absurd c9 (by decide)) (fun _ => ?_)
        refine mm_aload_n d_Model_write_163 rfl ?_
        refine mm_iload_n d_Model_write_164 rfl ?_
        refine mm_iload d_Model_write_165 rfl ?_
        refine mm_iload_n d_Model_write_167 rfl ?_
        refine mx_call d_Model_write_168 (mm_Inv.vi (as := [.int (nI p), .int (nI kk), .int v]) d_Model_write_168 (Or.inl m_836) m_838 ce_Model_writeRows.2.1 ce_Model_writeRows.2.2.1 mp_33 ce_Model_writeRows.2.2.2.2.2 ln_Model_writeRows cl_Model H.1 rfl) (J_Model_writeRows H (by omega) (by omega)) (by decide) ce_Model_writeRows.1 ce_Model_writeRows.2.1 ce_Model_writeRows.2.2.1 ce_Model_writeRows.2.2.2.1 (Nat.le_of_ble_eq_true rfl) F (fun h H F => ?_)
        refine mm_goto (tgt := 187) d_Model_write_171 (by decide) ?_
        refine mm_aload_n d_Model_write_187 rfl ?_
        refine mx_call d_Model_write_188 (mm_Inv.vi (as := []) d_Model_write_188 (Or.inl m_799) m_801 ce_Model_lookAtLines.2.1 ce_Model_lookAtLines.2.2.1 mp_26 ce_Model_lookAtLines.2.2.2.2.2 ln_Model_lookAtLines cl_Model H.1 rfl) (J_Model_lookAtLines (N := c.1) H hN1 h12) (by decide) ce_Model_lookAtLines.1 ce_Model_lookAtLines.2.1 ce_Model_lookAtLines.2.2.1 ce_Model_lookAtLines.2.2.2.1 (Nat.le_of_ble_eq_true rfl) F (fun h H F => ?_)
        refine mm_iconst (v := 1) d_Model_write_191 (by decide) ?_
        refine mm_aload_n d_Model_write_192 rfl ?_
        refine mm_getf (v := .ref (m + 5)) d_Model_write_193 cl_Model fl_Model_22_Model (by decide) H.1 rfl ?_
        refine mm_iload_n d_Model_write_196 rfl ?_
        refine mx_ald (E := p) (v := nI w) d_Model_write_197 (mh_4 H) (by omega) (by decide) (show ((m_look (m_wr (ma A1 5 (m_bump A1 2 c.1)) p kk v) c.1) 4) p = nI w from (by first | exact hw2 | (show m_wr _ p kk v 4 p = nI w; rw [m_wr_lo _ _ _ _ 4 (by decide)]; exact hw2))) ?_
        refine mx_add (a := 1) (b := w) (c := 1 + w) d_Model_write_198 (by omega) ?_
        exact mm_ireturn d_Model_write_199 rfl (by rw [if_pos (by unfold p_ref; rw [if_neg (by omega)])] at hwr; exact ⟨rfl, F, _, _, H, MC.inl hwr (follow_MR' hN2 (R2.part hp2 t1 t2 t3)) (by omega) h01 (by rw [hws]; exact (nI_add 1 w).symm)⟩)
      | 5, _ =>
        have h0k : A1 0 p = 5 := h0k
        refine mm_aload_n d_Model_write_47 rfl ?_
        refine mm_getf (v := .ref (m + 1)) d_Model_write_48 cl_Model fl_Model_7_Model (by decide) H.1 rfl ?_
        refine mm_iload_n d_Model_write_51 rfl ?_
        refine mx_ald (E := p) (v := 5) d_Model_write_52 (mh_0 H) (by omega) (by decide) (show (A1 0) p = 5 from h0k) ?_
        refine mm_iconst (v := 1) d_Model_write_53 (by decide) ?_
        refine mm_icmp_ne (tgt := 68) d_Model_write_54 (by decide) (fun _ => ?_) (fun c9 => absurd c9 (by decide))
        refine mm_aload_n d_Model_write_68 rfl ?_
        refine mm_iconst (v := 2) d_Model_write_69 (by decide) ?_
        refine mx_call d_Model_write_70 (mm_Inv.vi (as := [.int 2]) d_Model_write_70 (Or.inl m_812) m_814 ce_Model_countAll.2.1 ce_Model_countAll.2.2.1 mp_28 ce_Model_countAll.2.2.2.2.2 ln_Model_countAll cl_Model H.1 rfl) (J_Model_countAll2 (N := c.1) H hN1 h12) (by decide) ce_Model_countAll.1 ce_Model_countAll.2.1 ce_Model_countAll.2.2.1 ce_Model_countAll.2.2.2.1 (Nat.le_of_ble_eq_true rfl) F (fun h H F => ?_)
        have R2 := tally_MR R1 (w := 2) (Or.inr (Or.inl rfl))
        have hk2 := hk1.tr (c_keep.tally (nI 2) c1)
        rw [hk1.1] at R2
        have hkd2 : ((c_tally (nI 2) c1).2.1 p).1 = (c1.2.1 p).1 := ((c_keep.tally (nI 2) c1).2 p).1
        rw [show c_tally 2 c1 = c_tally (nI 2) c1 from rfl] at hwr
        generalize hc2 : c_tally (nI 2) c1 = c2 at R2 hk2 hwr hkd2
        rw [hk] at hkd2
        have hp2 : p < c2.1 := by rw [hk2.1]; exact hp
        have hm2 := R2.2.2.2.2.2.1 p hp2
        have hs2 : (c2.2.1 p).2.1 = (c.2.1 p).2.1 := (hk2.2 p).2
        have hN2 : c2.1 = c.1 := hk2.1
        have hf2 : A1 1 p = nI f := hm2.1.2.2.1.trans (by rw [hs2]; exact hf)
        have hw2 : A1 4 p = nI w := hm2.1.2.2.2.2.2.1.trans (by rw [hs2]; exact hw)
        rw [show k - (c2.2.1 p).2.1.1 = nI kk from by rw [hs2, hf]; exact hkk] at hwr
        have hkc : (c.2.1 p).1 = (c1.2.1 p).1 := (hk1.2 p).1.symm
        rw [hk] at hkc
        have hz5b := hz5 hkc
        have ep : p_set (c2.2.1 p) (nI kk) v = p_with (c2.2.1 p) (c2.2.1 p).2.2.1 (upd (c2.2.1 p).2.2.2.1 kk 0) (c2.2.1 p).2.2.2.2 := by rw [← ar_put_nI (len := 4) (by omega) (by decide)]; exact p_set5 hkd2
        have t1 := put_rel (v := 0) (kk := kk) hm2 (Or.inr ⟨hkd2, by omega⟩)
        rw [← ep] at t1
        have t2 : ∀ j, j ≠ p → agr (ma A1 5 (m_bump A1 2 c.1)) (ma (ma A1 5 (m_bump A1 2 c.1)) 5 (upd ((ma A1 5 (m_bump A1 2 c.1)) 5) (64 * p + kk) 0)) j := agr5 (fun i hi => if_neg (by omega))
        have t3 : ∀ k, 13 ≤ k → (ma (ma A1 5 (m_bump A1 2 c.1)) 5 (upd ((ma A1 5 (m_bump A1 2 c.1)) 5) (64 * p + kk) 0)) k = (ma A1 5 (m_bump A1 2 c.1)) k := fun k hk9 => ma_ne _ _ (by omega)
        have hws : ((c_follow (c_setP c2 p (p_set (c2.2.1 p) (nI kk) v))).2.1 p).2.1.2.2.2 = nI w := by rw [((c_keep.follow _).2 p).2, ((c_keep.setP (p_set_w (c2.2.1 p) (nI kk) v)).2 p).2, hs2]; exact hw
        refine mm_iload_n d_Model_write_73 rfl ?_
        refine mm_aload_n d_Model_write_74 rfl ?_
        refine mm_getf (v := .ref (m + 2)) d_Model_write_75 cl_Model fl_Model_13_Model (by decide) H.1 rfl ?_
        refine mm_iload_n d_Model_write_78 rfl ?_
        refine mx_ald (E := p) (v := nI f) d_Model_write_79 (mh_1 H) (by omega) (by decide) (show ((ma A1 5 (m_bump A1 2 c.1)) 1) p = nI f from hf2) ?_
        refine mm_isub d_Model_write_80 ?_
        refine mm_G.cast (st' := .int (nI kk) :: []) rfl (by rw [hkk]; rfl) rfl ?_
        refine mm_istore d_Model_write_81 (by decide) ?_
        refine mm_aload_n d_Model_write_83 rfl ?_
        refine mm_getf (v := .ref (m + 1)) d_Model_write_84 cl_Model fl_Model_7_Model (by decide) H.1 rfl ?_
        refine mm_iload_n d_Model_write_87 rfl ?_
        refine mx_ald (E := p) (v := 5) d_Model_write_88 (mh_0 H) (by omega) (by decide) (show ((ma A1 5 (m_bump A1 2 c.1)) 0) p = 5 from h0k) ?_
        refine mm_if_ne (tgt := 108) d_Model_write_89 (by decide) (fun _ => ?_) (fun c9 => absurd c9 (by decide))
        refine mm_aload_n d_Model_write_108 rfl ?_
        refine mm_getf (v := .ref (m + 1)) d_Model_write_109 cl_Model fl_Model_7_Model (by decide) H.1 rfl ?_
        refine mm_iload_n d_Model_write_112 rfl ?_
        refine mx_ald (E := p) (v := 5) d_Model_write_113 (mh_0 H) (by omega) (by decide) (show ((ma A1 5 (m_bump A1 2 c.1)) 0) p = 5 from h0k) ?_
        refine mm_iconst (v := 2) d_Model_write_114 (by decide) ?_
        refine mm_icmp_ne (tgt := 132) d_Model_write_115 (by decide) (fun _ => ?_) (fun c9 => absurd c9 (by decide))
        refine mm_aload_n d_Model_write_132 rfl ?_
        refine mm_getf (v := .ref (m + 1)) d_Model_write_133 cl_Model fl_Model_7_Model (by decide) H.1 rfl ?_
        refine mm_iload_n d_Model_write_136 rfl ?_
        refine mx_ald (E := p) (v := 5) d_Model_write_137 (mh_0 H) (by omega) (by decide) (show ((ma A1 5 (m_bump A1 2 c.1)) 0) p = 5 from h0k) ?_
        refine mm_iconst (v := 3) d_Model_write_138 (by decide) ?_
        refine mm_icmp_ne (tgt := 153) d_Model_write_139 (by decide) (fun _ => ?_) (fun c9 => absurd c9 (by decide))
        refine mm_aload_n d_Model_write_153 rfl ?_
        refine mm_getf (v := .ref (m + 1)) d_Model_write_154 cl_Model fl_Model_7_Model (by decide) H.1 rfl ?_
        refine mm_iload_n d_Model_write_157 rfl ?_
        refine mx_ald (E := p) (v := 5) d_Model_write_158 (mh_0 H) (by omega) (by decide) (show ((ma A1 5 (m_bump A1 2 c.1)) 0) p = 5 from h0k) ?_
        refine mm_iconst (v := 4) d_Model_write_159 (by decide) ?_
        refine mm_icmp_ne (tgt := 174) d_Model_write_160 (by decide) (fun _ => ?_) (fun c9 => absurd c9 (by decide))
        refine mm_aload_n d_Model_write_174 rfl ?_
        refine mm_getf (v := .ref (m + 6)) d_Model_write_175 cl_Model fl_Model_25_Model (by decide) H.1 rfl ?_
        refine mm_bipush (v := 64) d_Model_write_178 (by decide) ?_
        refine mm_iload_n d_Model_write_180 rfl ?_
        refine mx_mul (a := 64) (b := p) d_Model_write_181 ?_
        refine mm_iload d_Model_write_182 rfl ?_
        refine mx_add (a := 64 * p) (b := kk) (c := 64 * p + kk) d_Model_write_184 (by omega) ?_
        refine mm_iconst (v := 0) d_Model_write_185 (by decide) ?_
        refine mx_ast (E := 64 * p + kk) d_Model_write_186 (mh_5 H) (by omega) (by decide) ?_
        refine mh_a (j := 5) (f := (upd ((ma A1 5 (m_bump A1 2 c.1)) 5) (64 * p + kk) 0)) (by decide) H F (fun h H F => ?_)
        refine mm_aload_n d_Model_write_187 rfl ?_
        refine mx_call d_Model_write_188 (mm_Inv.vi (as := []) d_Model_write_188 (Or.inl m_799) m_801 ce_Model_lookAtLines.2.1 ce_Model_lookAtLines.2.2.1 mp_26 ce_Model_lookAtLines.2.2.2.2.2 ln_Model_lookAtLines cl_Model H.1 rfl) (J_Model_lookAtLines (N := c.1) H hN1 h12) (by decide) ce_Model_lookAtLines.1 ce_Model_lookAtLines.2.1 ce_Model_lookAtLines.2.2.1 ce_Model_lookAtLines.2.2.2.1 (Nat.le_of_ble_eq_true rfl) F (fun h H F => ?_)
        refine mm_iconst (v := 1) d_Model_write_191 (by decide) ?_
        refine mm_aload_n d_Model_write_192 rfl ?_
        refine mm_getf (v := .ref (m + 5)) d_Model_write_193 cl_Model fl_Model_22_Model (by decide) H.1 rfl ?_
        refine mm_iload_n d_Model_write_196 rfl ?_
        refine mx_ald (E := p) (v := nI w) d_Model_write_197 (mh_4 H) (by omega) (by decide) (show ((m_look (ma (ma A1 5 (m_bump A1 2 c.1)) 5 (upd ((ma A1 5 (m_bump A1 2 c.1)) 5) (64 * p + kk) 0)) c.1) 4) p = nI w from hw2) ?_
        refine mx_add (a := 1) (b := w) (c := 1 + w) d_Model_write_198 (by omega) ?_
        exact mm_ireturn d_Model_write_199 rfl (by rw [if_pos (by unfold p_ref; rw [if_neg (by omega)])] at hwr; exact ⟨rfl, F, _, _, H, MC.inl hwr (follow_MR' hN2 (R2.part hp2 t1 t2 t3)) (by omega) h01 (by rw [hws]; exact (nI_add 1 w).symm)⟩)
  · refine mm_aload_n d_Model_write_15 rfl ?_
    refine mm_iconst (v := 1) d_Model_write_16 (by decide) ?_
    refine mx_call d_Model_write_17 (mm_Inv.vi (as := [.int 1]) d_Model_write_17 (Or.inl m_763) m_765 ce_Model_fail.2.1 ce_Model_fail.2.2.1 mp_19 ce_Model_fail.2.2.2.2.2 ln_Model_fail cl_Model H.1 rfl) (J_Model_fail H) (by decide) ce_Model_fail.1 ce_Model_fail.2.1 ce_Model_fail.2.2.1 ce_Model_fail.2.2.2.1 (Nat.le_of_ble_eq_true rfl) F (fun h H F => ?_)
    exact mm_ireturn d_Model_write_20 rfl ⟨rfl, F, _, _, H, MC.inr (c := c) (e := 2) (by unfold c_write; rw [show c_reach k c = (.inr 2, c) from by unfold c_reach; rw [if_pos (by rw [isPlace_eq]; exact c_12)]]) R (by omega) rfl⟩
