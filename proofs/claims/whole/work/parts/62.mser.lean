theorem kd_le {T : Nat} {q : pS} {A : Nat → Nat → Int32} {p : Nat} (h : MP T q A p) : A 0 p ≤ 1 ↔ q.1 < 2 := by
  rw [h.1.2.1]
  have := h.1.1
  rw [show (1 : Int32) = nI 1 from rfl, nI_leI (by omega) (by decide)]
  omega
theorem w_in0g {k : Int32} {N : Nat} (hN : N < 2 ^ 31) : w_in k 0 (nI N - 1) = 0 ↔ (k < 0 ∨ nI N ≤ k) := by
  unfold w_in
  have e : (nI N - 1 < k) ↔ nI N ≤ k := by
    rw [Int32.lt_iff_toInt_lt, Int32.le_iff_toInt_le, nI_toInt (by omega)]
    have : (nI N - 1).toInt = (N : Int) - 1 := by
      rw [Int32.toInt_sub, nI_toInt (by omega)]
      show Int.bmod (↑N - 1) (2 ^ 32) = _
      rw [Int.bmod_eq_of_le] <;> omega
    rw [this]; omega
  by_cases h1 : k < 0
  · simp [h1]
  · by_cases h2 : nI N ≤ k
    · simp [h1, h2, e.mpr h2]
    · have : ¬ nI N - 1 < k := fun z => h2 (e.mp z)
      simp [h1, h2, this]
theorem ser_no {T : Nat} {c : cS} {I : Nat → Int32} {A : Nat → Nat → Int32} {k : Int32} (R : MR T c I A) (h : m_isser A c.1 k = 0) : c_ser k c = (.inr 0, c) := by
  apply c_ser_no
  by_cases h1 : k < 0
  · exact Or.inl h1
  · obtain ⟨j, hj, rfl⟩ := nI_of h1
    unfold m_isser at h
    rw [if_neg h1, nI_clamp hj] at h
    by_cases h2 : c.1 ≤ j
    · rw [nI_clamp hj]; exact Or.inr (Or.inr (Or.inl (by omega)))
    · rw [if_neg (nI_ge (by omega) (by have := R.2.1; omega))] at h
      refine Or.inr (Or.inr (Or.inr ?_))
      rw [nI_clamp hj]
      intro z
      rw [(R.2.2.2.2.2.1 j (by omega)).1.2.1, z, if_pos (by decide)] at h
      exact absurd h (by decide)
theorem ser_yes {T : Nat} {c : cS} {I : Nat → Int32} {A : Nat → Nat → Int32} {k : Int32} (R : MR T c I A) (h : ¬ m_isser A c.1 k = 0) : ∃ p, k = nI p ∧ p < c.1 ∧ (c.2.1 p).1 = 3 ∧ c_ser k c = (.inl p, c) := by
  unfold m_isser at h
  split at h
  · exact absurd rfl h
  · rename_i h1
    split at h
    · exact absurd rfl h
    · rename_i h2
      split at h
      · rename_i h3
        obtain ⟨j, hj, rfl⟩ := nI_of h1
        have hjN : j < c.1 := Nat.not_le.mp (fun z => h2 (nI_le z hj))
        rw [nI_clamp hj] at h3
        have h4 : (c.2.1 j).1 = 3 := by
          rw [(R.2.2.2.2.2.1 j hjN).1.2.1] at h3
          exact (nI_eq (a := (c.2.1 j).1) (b := 3) (by have := (R.2.2.2.2.2.1 j hjN).1.1; omega) (by decide)).mp h3
        refine ⟨j, rfl, hjN, h4, ?_⟩
        unfold c_ser
        rw [if_neg h1, if_neg (show ¬ (12 : Int32) ≤ nI j from nI_ge (b := 12) (by have := R.2.1; omega) (by decide)), nI_clamp hj, if_pos hjN, if_pos h4]
      · exact absurd rfl h
set_option maxRecDepth 100000 in
set_option maxHeartbeats 4000000 in
theorem J_Model_load {sc : mm_Sc} {n : Nat} {h : mm_H} {m : Nat} {I : Nat → Int32} {A : Nat → Nat → Int32} {T : Nat} {c : cS} {k v : Int32} (H : MH h m I A) (R : MR T c I A) (hT : T + 1000 < 2 ^ 29)  : mm_J sc y_Model_load 6 [.ref m, .int k, .int v] n h 0 0 (MY (MC cd_01 (c_load k v c) (T + 1000)) n h m) := by
  refine mm_J.of (show mm_G sc y_Model_load 6 0 [some (.ref m), some (.int k), some (.int v), none, none, none] [] n h 0 0 _ from ?_) ce_Model_load.2.2.2.2.1 (Nat.le_of_ble_eq_true rfl) (by simp [Value.category])
  have F : MF h h m := fun _ _ => rfl
  have hN := R.1
  have h12 := R.2.1
  refine mm_aload_n d_Model_load_0 rfl ?_
  refine mm_iconst (v := 0) d_Model_load_1 (by decide) ?_
  refine mm_putf d_Model_load_2 cl_Model ty_Model fl_Model_65_Model (by decide) rfl rfl rfl H.1 (Nat.le_of_ble_eq_true rfl) ?_
  refine mh_i0 H F (fun h H F => ?_)
  refine mm_aload_n d_Model_load_5 rfl ?_
  refine mm_iload_n d_Model_load_6 rfl ?_
  refine mx_call d_Model_load_7 (mm_Inv.vi (as := [.int k]) d_Model_load_7 (Or.inl m_771) m_773 ce_Model_partAt.2.1 ce_Model_partAt.2.2.1 mp_20 ce_Model_partAt.2.2.2.2.2 ln_Model_partAt cl_Model H.1 rfl) (J_Model_partAt (N := c.1) H hN h12) (by decide) ce_Model_partAt.1 ce_Model_partAt.2.1 ce_Model_partAt.2.2.1 ce_Model_partAt.2.2.2.1 (Nat.le_of_ble_eq_true rfl) F (fun h H F => ?_)
  refine mm_istore_n d_Model_load_10 (by decide) ?_
  refine mm_iload_n d_Model_load_11 rfl ?_
  rcases ha : m_at (A 1) (A 2) k c.1 0 with _ | p
  · have hw0 := at_none R ha
    refine mm_if_lt (tgt := 25) d_Model_load_12 (by decide) (fun _ => ?_) (fun c9 => absurd (show oI none < 0 by decide) c9)
    refine mm_aload_n d_Model_load_25 rfl ?_
    refine mm_iconst (v := 1) d_Model_load_26 (by decide) ?_
    refine mx_call d_Model_load_27 (mm_Inv.vi (as := [.int 1]) d_Model_load_27 (Or.inl m_763) m_765 ce_Model_fail.2.1 ce_Model_fail.2.2.1 mp_19 ce_Model_fail.2.2.2.2.2 ln_Model_fail cl_Model H.1 rfl) (J_Model_fail H) (by decide) ce_Model_fail.1 ce_Model_fail.2.1 ce_Model_fail.2.2.1 ce_Model_fail.2.2.2.1 (Nat.le_of_ble_eq_true rfl) F (fun h H F => ?_)
    exact mm_ireturn d_Model_load_30 rfl ⟨rfl, F, _, _, H, MC.inr (c := c) (e := 0) (by unfold c_load; rw [hw0]) R (by omega) rfl⟩
  · obtain ⟨hp, hw0, f, z, w, kk, hf, hz, hz64, hw, hw8, hkz, hkk, hz2, hz3, hz4, hz5, hfz, hkp⟩ := at_some R ha
    refine mm_if_lt (tgt := 25) d_Model_load_12 (by decide) (fun c9 => absurd c9 (nI_pos (by omega))) (fun _ => ?_)
    refine mm_aload_n d_Model_load_15 rfl ?_
    refine mm_getf (v := .ref (m + 1)) d_Model_load_16 cl_Model fl_Model_7_Model (by decide) H.1 rfl ?_
    refine mm_iload_n d_Model_load_19 rfl ?_
    refine mx_ald (E := p) (v := (A 0) p) d_Model_load_20 (mh_0 H) (by omega) (by decide) (show (A 0) p = (A 0) p from rfl) ?_
    refine mm_iconst (v := 1) d_Model_load_21 (by decide) ?_
    refine mm_icmp_le (tgt := 31) d_Model_load_22 (by decide) (fun c_22 => ?_) (fun c_22 => ?_)
    · refine mm_bipush (v := 64) d_Model_load_31 (by decide) ?_
      refine mm_iload_n d_Model_load_33 rfl ?_
      refine mx_mul (a := 64) (b := p) d_Model_load_34 ?_
      refine mm_iload_n d_Model_load_35 rfl ?_
      refine mm_iadd d_Model_load_36 ?_
      refine mm_aload_n d_Model_load_37 rfl ?_
      refine mm_getf (v := .ref (m + 2)) d_Model_load_38 cl_Model fl_Model_13_Model (by decide) H.1 rfl ?_
      refine mm_iload_n d_Model_load_41 rfl ?_
      refine mx_ald (E := p) (v := nI f) d_Model_load_42 (mh_1 H) (by omega) (by decide) (show (A 1) p = nI f from (((R.2.2.2.2.2.1 p hp).1.2.2.1).trans hf)) ?_
      refine mm_isub d_Model_load_43 ?_
      refine mm_G.cast (st' := .int (nI (64 * p + kk)) :: []) rfl (by rw [hkp, nI_add, nI_sub (by omega), show 64 * p + (f + kk) - f = 64 * p + kk by omega]; rfl) rfl ?_
      refine mm_istore d_Model_load_44 (by decide) ?_
      refine mm_aload_n d_Model_load_46 rfl ?_
      refine mm_getf (v := .ref (m + 6)) d_Model_load_47 cl_Model fl_Model_25_Model (by decide) H.1 rfl ?_
      refine mm_iload d_Model_load_50 rfl ?_
      refine mx_ald (E := 64 * p + kk) (v := (A 5) (64 * p + kk)) d_Model_load_52 (mh_5 H) (by omega) (by decide) (show (A 5) (64 * p + kk) = (A 5) (64 * p + kk) from rfl) ?_
      refine mm_istore d_Model_load_53 (by decide) ?_
      refine mm_aload_n d_Model_load_55 rfl ?_
      refine mm_getf (v := .ref (m + 6)) d_Model_load_56 cl_Model fl_Model_25_Model (by decide) H.1 rfl ?_
      refine mm_iload d_Model_load_59 rfl ?_
      refine mm_iload_n d_Model_load_61 rfl ?_
      refine mx_ast (E := 64 * p + kk) d_Model_load_62 (mh_5 H) (by omega) (by decide) ?_
      refine mh_a (j := 5) (f := (upd (A 5) (64 * p + kk) v)) (by decide) H F (fun h H F => ?_)
      refine mm_iload d_Model_load_63 rfl ?_
      exact mm_ireturn d_Model_load_65 rfl (by have hk2 := (kd_le (R.2.2.2.2.2.1 p hp)).mp c_22; have hl := (R.2.2.2.2.2.1 p hp).1.len hk2; have hlz : p_len (c.2.1 p) = z := (nI_eq (by omega) (by omega)).mp (hl.2.symm.trans hz); exact ⟨rfl, F, _, _, H, MC.inl (c := c_setP c p (p_with (c.2.1 p) (c.2.1 p).2.2.1 (upd (c.2.1 p).2.2.2.1 kk v) (c.2.1 p).2.2.2.2)) (v := (c.2.1 p).2.2.2.1 kk) (by unfold c_load; rw [hw0]; show (if _ then _ else _) = _; rw [if_pos (by omega), hf, hkk, ar_look_nI (by omega) (by omega), ar_put_nI (by omega) (by omega)]) (MR.part (I := mi I 0 0) R hp (put_rel (kk := kk) (R.2.2.2.2.2.1 p hp) (Or.inl ⟨hk2, by omega⟩)) (agr5 (fun i hi => if_neg (by omega))) (fun k hk9 => ma_ne _ _ (by omega))) (by omega) rfl ((R.2.2.2.2.2.1 p hp).2.1 hk2 kk (by omega))⟩)
    · refine mm_aload_n d_Model_load_25 rfl ?_
      refine mm_iconst (v := 1) d_Model_load_26 (by decide) ?_
      refine mx_call d_Model_load_27 (mm_Inv.vi (as := [.int 1]) d_Model_load_27 (Or.inl m_763) m_765 ce_Model_fail.2.1 ce_Model_fail.2.2.1 mp_19 ce_Model_fail.2.2.2.2.2 ln_Model_fail cl_Model H.1 rfl) (J_Model_fail H) (by decide) ce_Model_fail.1 ce_Model_fail.2.1 ce_Model_fail.2.2.1 ce_Model_fail.2.2.2.1 (Nat.le_of_ble_eq_true rfl) F (fun h H F => ?_)
      exact mm_ireturn d_Model_load_30 rfl ⟨rfl, F, _, _, H, MC.inr (c := c) (e := 0) (by unfold c_load; rw [hw0]; show (if _ then _ else _) = _; rw [if_neg (fun z => c_22 ((kd_le (R.2.2.2.2.2.1 p hp)).mpr (by omega)))]) R (by omega) rfl⟩
set_option maxRecDepth 100000 in
set_option maxHeartbeats 4000000 in
theorem J_Model_receive {sc : mm_Sc} {n : Nat} {h : mm_H} {m : Nat} {I : Nat → Int32} {A : Nat → Nat → Int32} {T : Nat} {c : cS} {k v : Int32} (H : MH h m I A) (R : MR T c I A) (hT : T + 1000 < 2 ^ 29)  : mm_J sc y_Model_receive 6 [.ref m, .int k, .int v] n h 0 0 (MY (MC cd_01 (c_recv k v c) (T + 1000)) n h m) := by
  refine mm_J.of (show mm_G sc y_Model_receive 6 0 [some (.ref m), some (.int k), some (.int v)] [] n h 0 0 _ from ?_) ce_Model_receive.2.2.2.2.1 (Nat.le_of_ble_eq_true rfl) (by simp [Value.category])
  have F : MF h h m := fun _ _ => rfl
  have hN := R.1
  have h12 := R.2.1
  refine mm_aload_n d_Model_receive_0 rfl ?_
  refine mm_iconst (v := 0) d_Model_receive_1 (by decide) ?_
  refine mm_putf d_Model_receive_2 cl_Model ty_Model fl_Model_65_Model (by decide) rfl rfl rfl H.1 (Nat.le_of_ble_eq_true rfl) ?_
  refine mh_i0 H F (fun h H F => ?_)
  refine mm_aload_n d_Model_receive_5 rfl ?_
  refine mm_iload_n d_Model_receive_6 rfl ?_
  refine mx_call d_Model_receive_7 (mm_Inv.vi (as := [.int k]) d_Model_receive_7 (Or.inl m_844) m_846 ce_Model_isSerial.2.1 ce_Model_isSerial.2.2.1 mp_34 ce_Model_isSerial.2.2.2.2.2 ln_Model_isSerial cl_Model H.1 rfl) (J_Model_isSerial (N := c.1) H hN h12) (by decide) ce_Model_isSerial.1 ce_Model_isSerial.2.1 ce_Model_isSerial.2.2.1 ce_Model_isSerial.2.2.2.1 (Nat.le_of_ble_eq_true rfl) F (fun h H F => ?_)
  refine mm_if_ne (tgt := 19) d_Model_receive_10 (by decide) (fun c_10 => ?_) (fun c_10 => ?_)
  · obtain ⟨p, rfl, hp, hk3, hser⟩ := ser_yes R c_10
    have hmp := R.2.2.2.2.2.1 p hp
    obtain ⟨a0, a, b, g, sl, a1, a2, a3, a4, a5, a6, a7, a8, a9, a10, a11, -⟩ := hmp.2.2.2.1 hk3
    refine mm_aload_n d_Model_receive_19 rfl ?_
    refine mm_getf (v := .ref (m + 9)) d_Model_receive_20 cl_Model fl_Model_34_Model (by decide) H.1 rfl ?_
    refine mm_iload_n d_Model_receive_23 rfl ?_
    refine mx_ald (E := p) (v := nI b) d_Model_receive_24 (mh_8 H) (by omega) (by decide) (show (A 8) p = nI b from a10) ?_
    refine mm_bipush (v := 32) d_Model_receive_25 (by decide) ?_
    refine mx_icmp_ne (a := b) (b := 32) (tgt := 36) d_Model_receive_27 (by decide) (by omega) (by omega) (fun c_27 => ?_) (fun c_27 => ?_)
    · refine mm_aload_n d_Model_receive_36 rfl ?_
      refine mm_getf (v := .ref (m + 10)) d_Model_receive_37 cl_Model fl_Model_37_Model (by decide) H.1 rfl ?_
      refine mm_bipush (v := 32) d_Model_receive_40 (by decide) ?_
      refine mm_iload_n d_Model_receive_42 rfl ?_
      refine mx_mul (a := 32) (b := p) d_Model_receive_43 ?_
      refine mm_aload_n d_Model_receive_44 rfl ?_
      refine mm_getf (v := .ref (m + 9)) d_Model_receive_45 cl_Model fl_Model_34_Model (by decide) H.1 rfl ?_
      refine mm_iload_n d_Model_receive_48 rfl ?_
      refine mx_ald (E := p) (v := nI b) d_Model_receive_49 (mh_8 H) (by omega) (by decide) (show (A 8) p = nI b from a10) ?_
      refine mx_add (a := 32 * p) (b := b) (c := 32 * p + b) d_Model_receive_50 (by omega) ?_
      refine mm_iload_n d_Model_receive_51 rfl ?_
      refine mx_ast (E := 32 * p + b) d_Model_receive_52 (mh_9 H) (by omega) (by decide) ?_
      refine mh_a (j := 9) (f := (upd (A 9) (32 * p + b) v)) (by decide) H F (fun h H F => ?_)
      refine mm_aload_n d_Model_receive_53 rfl ?_
      refine mm_getf (v := .ref (m + 9)) d_Model_receive_54 cl_Model fl_Model_34_Model (by decide) H.1 rfl ?_
      refine mm_iload_n d_Model_receive_57 rfl ?_
      refine mm_dup2 d_Model_receive_58 rfl rfl ?_
      refine mx_ald (E := p) (v := nI b) d_Model_receive_59 (mh_8 H) (by omega) (by decide) (show (A 8) p = nI b from a10) ?_
      refine mm_iconst (v := 1) d_Model_receive_60 (by decide) ?_
      refine mx_add (a := b) (b := 1) (c := b + 1) d_Model_receive_61 (by omega) ?_
      refine mx_ast (E := p) d_Model_receive_62 (mh_8 H) (by omega) (by decide) ?_
      refine mh_a (j := 8) (f := (upd (A 8) p (nI (b + 1)))) (by decide) H F (fun h H F => ?_)
      refine mm_aload_n d_Model_receive_63 rfl ?_
      refine mm_getf (v := .ref (m + 9)) d_Model_receive_64 cl_Model fl_Model_34_Model (by decide) H.1 rfl ?_
      refine mm_iload_n d_Model_receive_67 rfl ?_
      refine mx_ald (E := p) (v := nI (b + 1)) d_Model_receive_68 (mh_8 H) (by omega) (by decide) (show (upd (A 8) p (nI (b + 1))) p = nI (b + 1) from (by simp [upd])) ?_
      exact mm_ireturn d_Model_receive_69 rfl (by obtain ⟨t1, t2⟩ := recv_rel (v := v) hmp hk3 a3 (by omega); exact ⟨rfl, F, _, _, H, MC.inl (v := (c.2.1 p).2.2.1 1 + 1) (by unfold c_recv; rw [hser]; show (if _ then _ else _) = _; rw [if_pos (by rw [a3]; exact nI_lt (b := 32) (by omega) (by decide))]) (MR.part (I := mi I 0 0) R hp t1 t2 (fun k hk9 => by rw [ma_ne _ _ (by omega), ma_ne _ _ (by omega)])) (by omega) rfl (by rw [a3, nI_1])⟩)
    · refine mm_aload_n d_Model_receive_30 rfl ?_
      refine mm_iconst (v := 2) d_Model_receive_31 (by decide) ?_
      refine mx_call d_Model_receive_32 (mm_Inv.vi (as := [.int 2]) d_Model_receive_32 (Or.inl m_763) m_765 ce_Model_fail.2.1 ce_Model_fail.2.2.1 mp_19 ce_Model_fail.2.2.2.2.2 ln_Model_fail cl_Model H.1 rfl) (J_Model_fail H) (by decide) ce_Model_fail.1 ce_Model_fail.2.1 ce_Model_fail.2.2.1 ce_Model_fail.2.2.2.1 (Nat.le_of_ble_eq_true rfl) F (fun h H F => ?_)
      exact mm_ireturn d_Model_receive_35 rfl ⟨rfl, F, _, _, H, MC.inr (c := c) (e := 1) (by unfold c_recv; rw [hser]; show (if _ then _ else _) = _; rw [if_neg (by rw [a3, c_27]; decide)]) R (by omega) rfl⟩
  · refine mm_aload_n d_Model_receive_13 rfl ?_
    refine mm_iconst (v := 1) d_Model_receive_14 (by decide) ?_
    refine mx_call d_Model_receive_15 (mm_Inv.vi (as := [.int 1]) d_Model_receive_15 (Or.inl m_763) m_765 ce_Model_fail.2.1 ce_Model_fail.2.2.1 mp_19 ce_Model_fail.2.2.2.2.2 ln_Model_fail cl_Model H.1 rfl) (J_Model_fail H) (by decide) ce_Model_fail.1 ce_Model_fail.2.1 ce_Model_fail.2.2.1 ce_Model_fail.2.2.2.1 (Nat.le_of_ble_eq_true rfl) F (fun h H F => ?_)
    exact mm_ireturn d_Model_receive_18 rfl ⟨rfl, F, _, _, H, MC.inr (c := c) (e := 0) (by unfold c_recv; rw [ser_no R c_10]) R (by omega) rfl⟩
def cd_02 : Nat → Int32 := fun e => if e = 0 then 1 else 2
set_option maxRecDepth 100000 in
set_option maxHeartbeats 4000000 in
theorem J_Model_sent {sc : mm_Sc} {n : Nat} {h : mm_H} {m : Nat} {I : Nat → Int32} {A : Nat → Nat → Int32} {T : Nat} {c : cS} {k j : Int32} (H : MH h m I A) (R : MR T c I A) (hT : T + 1000 < 2 ^ 29)  : mm_J sc y_Model_sent 6 [.ref m, .int k, .int j] n h 0 0 (MY (MC cd_02 (c_sent k j c) (T + 1000)) n h m) := by
  refine mm_J.of (show mm_G sc y_Model_sent 6 0 [some (.ref m), some (.int k), some (.int j), none] [] n h 0 0 _ from ?_) ce_Model_sent.2.2.2.2.1 (Nat.le_of_ble_eq_true rfl) (by simp [Value.category])
  have F : MF h h m := fun _ _ => rfl
  have hN := R.1
  have h12 := R.2.1
  refine mm_aload_n d_Model_sent_0 rfl ?_
  refine mm_iconst (v := 0) d_Model_sent_1 (by decide) ?_
  refine mm_putf d_Model_sent_2 cl_Model ty_Model fl_Model_65_Model (by decide) rfl rfl rfl H.1 (Nat.le_of_ble_eq_true rfl) ?_
  refine mh_i0 H F (fun h H F => ?_)
  refine mm_aload_n d_Model_sent_5 rfl ?_
  refine mm_iload_n d_Model_sent_6 rfl ?_
  refine mx_call d_Model_sent_7 (mm_Inv.vi (as := [.int k]) d_Model_sent_7 (Or.inl m_844) m_846 ce_Model_isSerial.2.1 ce_Model_isSerial.2.2.1 mp_34 ce_Model_isSerial.2.2.2.2.2 ln_Model_isSerial cl_Model H.1 rfl) (J_Model_isSerial (N := c.1) H hN h12) (by decide) ce_Model_isSerial.1 ce_Model_isSerial.2.1 ce_Model_isSerial.2.2.1 ce_Model_isSerial.2.2.2.1 (Nat.le_of_ble_eq_true rfl) F (fun h H F => ?_)
  refine mm_if_ne (tgt := 19) d_Model_sent_10 (by decide) (fun c_10 => ?_) (fun c_10 => ?_)
  · obtain ⟨p, rfl, hp, hk3, hser⟩ := ser_yes R c_10
    have hmp := R.2.2.2.2.2.1 p hp
    obtain ⟨g, a5, a6, a11, hgo⟩ := sent_rel hmp hk3 (by omega)
    have hkept := sr_kept_nI (g := g) (by omega)
    refine mm_aload_n d_Model_sent_19 rfl ?_
    refine mm_getf (v := .ref (m + 11)) d_Model_sent_20 cl_Model fl_Model_40_Model (by decide) H.1 rfl ?_
    refine mm_iload_n d_Model_sent_23 rfl ?_
    refine mx_ald (E := p) (v := nI g) d_Model_sent_24 (mh_10 H) (by omega) (by decide) (show (A 10) p = nI g from a11) ?_
    refine mm_bipush (v := 32) d_Model_sent_25 (by decide) ?_
    refine mm_icmp_ge (tgt := 39) d_Model_sent_27 (by decide) (fun c_27 => ?_) (fun c_27 => ?_)
    · refine mm_bipush (v := 32) d_Model_sent_39 (by decide) ?_
      refine mm_istore_n d_Model_sent_41 (by decide) ?_
      refine mm_iload_n d_Model_sent_42 rfl ?_
      refine mm_iconst (v := 0) d_Model_sent_43 (by decide) ?_
      refine mm_iload_n d_Model_sent_44 rfl ?_
      refine mm_iconst (v := 1) d_Model_sent_45 (by decide) ?_
      refine mm_isub d_Model_sent_46 ?_
      refine mm_callD (kc' := 0) (ks' := 0) d_Model_sent_47 (mm_Inv.sta (as := [.int j, .int 0, .int (32 - 1)]) d_Model_sent_47 (Or.inl m_756) m_757 ce_Model_within.2.1 ce_Model_within.2.2.1 ce_Model_within.2.2.2.1 ce_Model_within.2.2.2.2.2 ln_Model_within rfl) J_Model_within (by decide) ce_Model_within.1 ce_Model_within.2.1 ce_Model_within.2.2.1 ce_Model_within.2.2.2.1 (Nat.le_of_ble_eq_true rfl) ?_
      refine mm_if_eq (tgt := 67) d_Model_sent_50 (by decide) (fun c_50 => ?_) (fun c_50 => ?_)
      · refine mm_aload_n d_Model_sent_67 rfl ?_
        refine mm_iconst (v := 2) d_Model_sent_68 (by decide) ?_
        refine mx_call d_Model_sent_69 (mm_Inv.vi (as := [.int 2]) d_Model_sent_69 (Or.inl m_763) m_765 ce_Model_fail.2.1 ce_Model_fail.2.2.1 mp_19 ce_Model_fail.2.2.2.2.2 ln_Model_fail cl_Model H.1 rfl) (J_Model_fail H) (by decide) ce_Model_fail.1 ce_Model_fail.2.1 ce_Model_fail.2.2.1 ce_Model_fail.2.2.2.1 (Nat.le_of_ble_eq_true rfl) F (fun h H F => ?_)
        exact mm_ireturn d_Model_sent_72 rfl (by have hg32 : 32 ≤ g := Nat.not_lt.mp (fun z => absurd c_27 (nI_ge (b := 32) z (by decide))); have hm : min g 32 = 32 := (by omega); exact Or.elim ((w_in0g (N := 32) (by omega)).mp c_50) (fun z => ⟨rfl, F, _, _, H, MC.inr (c := c) (e := 2) (by unfold c_sent; rw [hser]; show (if _ then _ else _) = _; rw [if_pos z]) R (by omega) rfl⟩) (fun z => ⟨rfl, F, _, _, H, MC.inr (c := c) (e := 2) (by unfold c_sent; rw [hser]; show (if _ then _ else (if _ then _ else _)) = _; rw [a5, hkept, hm, if_neg (Int32.not_lt.mpr z), ite_self]) R (by omega) rfl⟩))
      · have hz9 := fun z => c_50 ((w_in0g (N := 32) (by omega)).mpr z)
        obtain ⟨jj, hj, rfl⟩ := nI_of (x := j) (fun z => hz9 (Or.inl z))
        have hjN : jj < 32 := Nat.not_le.mp (fun z => hz9 (Or.inr (nI_le z hj)))
        have hg32 : 32 ≤ g := Nat.not_lt.mp (fun z => absurd c_27 (nI_ge (b := 32) z (by decide)))
        refine mm_aload_n d_Model_sent_53 rfl ?_
        refine mm_getf (v := .ref (m + 12)) d_Model_sent_54 cl_Model fl_Model_43_Model (by decide) H.1 rfl ?_
        refine mm_bipush (v := 32) d_Model_sent_57 (by decide) ?_
        refine mm_iload_n d_Model_sent_59 rfl ?_
        refine mx_mul (a := 32) (b := p) d_Model_sent_60 ?_
        refine mm_iload_n d_Model_sent_61 rfl ?_
        refine mx_add (a := 32 * p) (b := jj) (c := 32 * p + jj) d_Model_sent_62 (by omega) ?_
        refine mx_ald (E := 32 * p + jj) (v := (A 11) (32 * p + jj)) d_Model_sent_63 (mh_11 H) (by omega) (by decide) (show (A 11) (32 * p + jj) = (A 11) (32 * p + jj) from rfl) ?_
        refine mm_goto (tgt := 72) d_Model_sent_64 (by decide) ?_
        exact mm_ireturn d_Model_sent_72 rfl (by have hm : min g 32 = 32 := (by omega); exact ⟨rfl, F, _, _, H, MC.inl (c := c) (v := (c.2.1 p).2.2.2.2 ((c.2.1 p).2.2.1 2 - sr_kept ((c.2.1 p).2.2.1 2) + nI jj &&& 31).toNatClampNeg) (by unfold c_sent; rw [hser]; show (if _ then _ else (if _ then _ else _)) = _; rw [if_neg (nI_pos hj), if_pos (by rw [a5, hkept, hm]; exact nI_lt hjN (by omega))]) R (by omega) rfl (hgo jj (by omega)).symm⟩)
    · refine mm_aload_n d_Model_sent_30 rfl ?_
      refine mm_getf (v := .ref (m + 11)) d_Model_sent_31 cl_Model fl_Model_40_Model (by decide) H.1 rfl ?_
      refine mm_iload_n d_Model_sent_34 rfl ?_
      refine mx_ald (E := p) (v := nI g) d_Model_sent_35 (mh_10 H) (by omega) (by decide) (show (A 10) p = nI g from a11) ?_
      refine mm_goto (tgt := 41) d_Model_sent_36 (by decide) ?_
      refine mm_istore_n d_Model_sent_41 (by decide) ?_
      refine mm_iload_n d_Model_sent_42 rfl ?_
      refine mm_iconst (v := 0) d_Model_sent_43 (by decide) ?_
      refine mm_iload_n d_Model_sent_44 rfl ?_
      refine mm_iconst (v := 1) d_Model_sent_45 (by decide) ?_
      refine mm_isub d_Model_sent_46 ?_
      refine mm_callD (kc' := 0) (ks' := 0) d_Model_sent_47 (mm_Inv.sta (as := [.int j, .int 0, .int ((nI g) - 1)]) d_Model_sent_47 (Or.inl m_756) m_757 ce_Model_within.2.1 ce_Model_within.2.2.1 ce_Model_within.2.2.2.1 ce_Model_within.2.2.2.2.2 ln_Model_within rfl) J_Model_within (by decide) ce_Model_within.1 ce_Model_within.2.1 ce_Model_within.2.2.1 ce_Model_within.2.2.2.1 (Nat.le_of_ble_eq_true rfl) ?_
      refine mm_if_eq (tgt := 67) d_Model_sent_50 (by decide) (fun c_50 => ?_) (fun c_50 => ?_)
      · refine mm_aload_n d_Model_sent_67 rfl ?_
        refine mm_iconst (v := 2) d_Model_sent_68 (by decide) ?_
        refine mx_call d_Model_sent_69 (mm_Inv.vi (as := [.int 2]) d_Model_sent_69 (Or.inl m_763) m_765 ce_Model_fail.2.1 ce_Model_fail.2.2.1 mp_19 ce_Model_fail.2.2.2.2.2 ln_Model_fail cl_Model H.1 rfl) (J_Model_fail H) (by decide) ce_Model_fail.1 ce_Model_fail.2.1 ce_Model_fail.2.2.1 ce_Model_fail.2.2.2.1 (Nat.le_of_ble_eq_true rfl) F (fun h H F => ?_)
        exact mm_ireturn d_Model_sent_72 rfl (by have hg32 : g < 32 := Nat.not_le.mp (fun z => c_27 (nI_le (a := 32) z (by omega))); have hm : min g 32 = g := (by omega); exact Or.elim ((w_in0g (N := g) (by omega)).mp c_50) (fun z => ⟨rfl, F, _, _, H, MC.inr (c := c) (e := 2) (by unfold c_sent; rw [hser]; show (if _ then _ else _) = _; rw [if_pos z]) R (by omega) rfl⟩) (fun z => ⟨rfl, F, _, _, H, MC.inr (c := c) (e := 2) (by unfold c_sent; rw [hser]; show (if _ then _ else (if _ then _ else _)) = _; rw [a5, hkept, hm, if_neg (Int32.not_lt.mpr z), ite_self]) R (by omega) rfl⟩))
      · have hz9 := fun z => c_50 ((w_in0g (N := g) (by omega)).mpr z)
        obtain ⟨jj, hj, rfl⟩ := nI_of (x := j) (fun z => hz9 (Or.inl z))
        have hjN : jj < g := Nat.not_le.mp (fun z => hz9 (Or.inr (nI_le z hj)))
        have hg32 : g < 32 := Nat.not_le.mp (fun z => c_27 (nI_le (a := 32) z (by omega)))
        refine mm_aload_n d_Model_sent_53 rfl ?_
        refine mm_getf (v := .ref (m + 12)) d_Model_sent_54 cl_Model fl_Model_43_Model (by decide) H.1 rfl ?_
        refine mm_bipush (v := 32) d_Model_sent_57 (by decide) ?_
        refine mm_iload_n d_Model_sent_59 rfl ?_
        refine mx_mul (a := 32) (b := p) d_Model_sent_60 ?_
        refine mm_iload_n d_Model_sent_61 rfl ?_
        refine mx_add (a := 32 * p) (b := jj) (c := 32 * p + jj) d_Model_sent_62 (by omega) ?_
        refine mx_ald (E := 32 * p + jj) (v := (A 11) (32 * p + jj)) d_Model_sent_63 (mh_11 H) (by omega) (by decide) (show (A 11) (32 * p + jj) = (A 11) (32 * p + jj) from rfl) ?_
        refine mm_goto (tgt := 72) d_Model_sent_64 (by decide) ?_
        exact mm_ireturn d_Model_sent_72 rfl (by have hm : min g 32 = g := (by omega); exact ⟨rfl, F, _, _, H, MC.inl (c := c) (v := (c.2.1 p).2.2.2.2 ((c.2.1 p).2.2.1 2 - sr_kept ((c.2.1 p).2.2.1 2) + nI jj &&& 31).toNatClampNeg) (by unfold c_sent; rw [hser]; show (if _ then _ else (if _ then _ else _)) = _; rw [if_neg (nI_pos hj), if_pos (by rw [a5, hkept, hm]; exact nI_lt hjN (by omega))]) R (by omega) rfl (hgo jj (by omega)).symm⟩)
  · refine mm_aload_n d_Model_sent_13 rfl ?_
    refine mm_iconst (v := 1) d_Model_sent_14 (by decide) ?_
    refine mx_call d_Model_sent_15 (mm_Inv.vi (as := [.int 1]) d_Model_sent_15 (Or.inl m_763) m_765 ce_Model_fail.2.1 ce_Model_fail.2.2.1 mp_19 ce_Model_fail.2.2.2.2.2 ln_Model_fail cl_Model H.1 rfl) (J_Model_fail H) (by decide) ce_Model_fail.1 ce_Model_fail.2.1 ce_Model_fail.2.2.1 ce_Model_fail.2.2.2.1 (Nat.le_of_ble_eq_true rfl) F (fun h H F => ?_)
    exact mm_ireturn d_Model_sent_18 rfl ⟨rfl, F, _, _, H, MC.inr (c := c) (e := 0) (by unfold c_sent; rw [ser_no R c_10]) R (by omega) rfl⟩
