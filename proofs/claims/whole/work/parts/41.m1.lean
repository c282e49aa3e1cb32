def w_in (v lo hi : Int32) : Int32 := if v < lo then 0 else if hi < v then 0 else 1
set_option maxRecDepth 100000 in
theorem J_Model_within {sc : mm_Sc} {n : Nat} {h : mm_H} {v lo hi : Int32}  : mm_J sc y_Model_within 1 [.int v, .int lo, .int hi] n h 0 0 (fun o n' h' => o = .inl (some (.int (w_in v lo hi))) ∧ n' = n ∧ h' = h) := by
  refine mm_J.of (show mm_G sc y_Model_within 1 0 [some (.int v), some (.int lo), some (.int hi)] [] n h 0 0 _ from ?_) ce_Model_within.2.2.2.2.1 (Nat.le_of_ble_eq_true rfl) (by simp [Value.category])
  refine mm_iload_n d_Model_within_0 rfl ?_
  refine mm_iload_n d_Model_within_1 rfl ?_
  refine mm_icmp_lt (tgt := 14) d_Model_within_2 (by decide) (fun c_2 => ?_) (fun c_2 => ?_)
  · refine mm_iconst (v := 0) d_Model_within_14 (by decide) ?_
    exact mm_zreturn d_Model_within_15 rfl rfl ⟨by simp [w_in, c_2, Int32.not_le.mpr c_2], rfl, rfl⟩
  · refine mm_iload_n d_Model_within_5 rfl ?_
    refine mm_iload_n d_Model_within_6 rfl ?_
    refine mm_icmp_gt (tgt := 14) d_Model_within_7 (by decide) (fun c_7 => ?_) (fun c_7 => ?_)
    · refine mm_iconst (v := 0) d_Model_within_14 (by decide) ?_
      exact mm_zreturn d_Model_within_15 rfl rfl ⟨by simp [w_in, c_2, Int32.not_lt.mp c_2, c_7, Int32.not_le.mpr c_7], rfl, rfl⟩
    · refine mm_iconst (v := 1) d_Model_within_10 (by decide) ?_
      refine mm_goto (tgt := 15) d_Model_within_11 (by decide) ?_
      exact mm_zreturn d_Model_within_15 rfl rfl ⟨by simp [w_in, c_2, Int32.not_lt.mp c_2, c_7, Int32.not_lt.mp c_7], rfl, rfl⟩
def m_size (k z : Int32) : Int32 := if k < 2 then z else if k = 2 then 4 else if k = 3 then 3 else if k = 4 then 11 else 4
set_option maxRecDepth 100000 in
theorem J_Model_sizeOf {sc : mm_Sc} {n : Nat} {h : mm_H} {k z : Int32}  : mm_J sc y_Model_sizeOf 1 [.int k, .int z] n h 0 0 (fun o n' h' => o = .inl (some (.int (m_size k z))) ∧ n' = n ∧ h' = h) := by
  refine mm_J.of (show mm_G sc y_Model_sizeOf 1 0 [some (.int k), some (.int z)] [] n h 0 0 _ from ?_) ce_Model_sizeOf.2.2.2.2.1 (Nat.le_of_ble_eq_true rfl) (by simp [Value.category])
  refine mm_iload_n d_Model_sizeOf_0 rfl ?_
  refine mm_iconst (v := 2) d_Model_sizeOf_1 (by decide) ?_
  refine mm_icmp_ge (tgt := 9) d_Model_sizeOf_2 (by decide) (fun c_2 => ?_) (fun c_2 => ?_)
  · refine mm_iload_n d_Model_sizeOf_9 rfl ?_
    refine mm_iconst (v := 2) d_Model_sizeOf_10 (by decide) ?_
    refine mm_icmp_ne (tgt := 18) d_Model_sizeOf_11 (by decide) (fun c_11 => ?_) (fun c_11 => ?_)
    · refine mm_iload_n d_Model_sizeOf_18 rfl ?_
      refine mm_iconst (v := 3) d_Model_sizeOf_19 (by decide) ?_
      refine mm_icmp_ne (tgt := 27) d_Model_sizeOf_20 (by decide) (fun c_20 => ?_) (fun c_20 => ?_)
      · refine mm_iload_n d_Model_sizeOf_27 rfl ?_
        refine mm_iconst (v := 4) d_Model_sizeOf_28 (by decide) ?_
        refine mm_icmp_ne (tgt := 37) d_Model_sizeOf_29 (by decide) (fun c_29 => ?_) (fun c_29 => ?_)
        · refine mm_iconst (v := 4) d_Model_sizeOf_37 (by decide) ?_
          exact mm_ireturn d_Model_sizeOf_38 rfl ⟨by simp [m_size, c_2, Int32.not_lt.mpr c_2, c_11, c_20, c_29], rfl, rfl⟩
        · refine mm_bipush (v := 11) d_Model_sizeOf_32 (by decide) ?_
          refine mm_goto (tgt := 38) d_Model_sizeOf_34 (by decide) ?_
          exact mm_ireturn d_Model_sizeOf_38 rfl ⟨by simp [m_size, c_2, Int32.not_lt.mpr c_2, c_11, c_20, c_29], rfl, rfl⟩
      · refine mm_iconst (v := 3) d_Model_sizeOf_23 (by decide) ?_
        refine mm_goto (tgt := 38) d_Model_sizeOf_24 (by decide) ?_
        exact mm_ireturn d_Model_sizeOf_38 rfl ⟨by simp [m_size, c_2, Int32.not_lt.mpr c_2, c_11, c_20], rfl, rfl⟩
    · refine mm_iconst (v := 4) d_Model_sizeOf_14 (by decide) ?_
      refine mm_goto (tgt := 38) d_Model_sizeOf_15 (by decide) ?_
      exact mm_ireturn d_Model_sizeOf_38 rfl ⟨by simp [m_size, c_2, Int32.not_lt.mpr c_2, c_11], rfl, rfl⟩
  · refine mm_iload_n d_Model_sizeOf_5 rfl ?_
    refine mm_goto (tgt := 38) d_Model_sizeOf_6 (by decide) ?_
    exact mm_ireturn d_Model_sizeOf_38 rfl ⟨by simp [m_size, c_2, Int32.not_le.mp c_2], rfl, rfl⟩
set_option maxRecDepth 100000 in
set_option maxHeartbeats 4000000 in
theorem J_Model_thrown {sc : mm_Sc} {n : Nat} {h : mm_H} {m : Nat} {I : Nat → Int32} {A : Nat → Nat → Int32}  (H : MH h m I A)  : mm_J sc y_Model_thrown 1 [.ref m] n h 0 0 (MX (some (.int (I 0))) n h m I A) := by
  refine mm_J.of (show mm_G sc y_Model_thrown 1 0 [some (.ref m)] [] n h 0 0 _ from ?_) ce_Model_thrown.2.2.2.2.1 (Nat.le_of_ble_eq_true rfl) (by simp [Value.category])
  have F : MF h h m := fun _ _ => rfl
  refine mm_aload_n d_Model_thrown_0 rfl ?_
  refine mx_get (k := 0) (v := I 0) d_Model_thrown_1 cl_Model fl_Model_65_Model (by decide) H.1 rfl ?_
  exact mm_ireturn d_Model_thrown_4 rfl (MX.of (rfl) (rfl) (rfl) H F)
set_option maxRecDepth 100000 in
set_option maxHeartbeats 4000000 in
theorem J_Model_fail {sc : mm_Sc} {n : Nat} {h : mm_H} {m : Nat} {I : Nat → Int32} {A : Nat → Nat → Int32} {e : Int32} (H : MH h m I A)  : mm_J sc y_Model_fail 1 [.ref m, .int e] n h 0 0 (MX (some (.int 0)) n h m (mi I 0 e) A) := by
  refine mm_J.of (show mm_G sc y_Model_fail 1 0 [some (.ref m), some (.int e)] [] n h 0 0 _ from ?_) ce_Model_fail.2.2.2.2.1 (Nat.le_of_ble_eq_true rfl) (by simp [Value.category])
  have F : MF h h m := fun _ _ => rfl
  refine mm_aload_n d_Model_fail_0 rfl ?_
  refine mm_iload_n d_Model_fail_1 rfl ?_
  refine mm_putf d_Model_fail_2 cl_Model ty_Model fl_Model_65_Model (by decide) rfl rfl rfl H.1 (Nat.le_of_ble_eq_true rfl) ?_
  refine mh_i0 H F (fun h H F => ?_)
  refine mm_iconst (v := 0) d_Model_fail_5 (by decide) ?_
  exact mm_ireturn d_Model_fail_6 rfl (MX.of (rfl) (rfl) (rfl) H F)
def m_ask2 (A : Nat → Nat → Int32) (p : Nat) : Int32 := if A 5 (64 * p + 2) &&& 2 = 0 then 0 else if A 6 p = 0 then 1 else 0
def m_ask (A : Nat → Nat → Int32) (p : Nat) : Int32 := if A 0 p = 2 then (if A 5 (64 * p + 2) &&& 4 = 0 then 0 else if A 5 (64 * p + 3) = 1 then 1 else 0)
  else if A 0 p = 3 then (if A 5 (64 * p + 2) &&& 1 = 0 then m_ask2 A p else if 0 < A 8 p then 1 else m_ask2 A p) else if A 0 p = 4 then (if A 5 (64 * p + 2) = 1 then 1 else 0) else 0
theorem m_ask_01 (A : Nat → Nat → Int32) (p : Nat) : m_ask A p = 0 ∨ m_ask A p = 1 := by
  unfold m_ask m_ask2
  repeat' split
  all_goals first | exact Or.inl rfl | exact Or.inr rfl
set_option maxRecDepth 100000 in
set_option maxHeartbeats 4000000 in
theorem J_Model_asksNow {sc : mm_Sc} {n : Nat} {h : mm_H} {m : Nat} {I : Nat → Int32} {A : Nat → Nat → Int32} {p : Nat} (H : MH h m I A) (hp : p < 12) : mm_J sc y_Model_asksNow 1 [.ref m, .int (nI p)] n h 0 0 (MX (some (.int (m_ask A p))) n h m I A) := by
  refine mm_J.of (show mm_G sc y_Model_asksNow 1 0 [some (.ref m), some (.int (nI p)), none] [] n h 0 0 _ from ?_) ce_Model_asksNow.2.2.2.2.1 (Nat.le_of_ble_eq_true rfl) (by simp [Value.category])
  have F : MF h h m := fun _ _ => rfl
  refine mm_bipush (v := 64) d_Model_asksNow_0 (by decide) ?_
  refine mm_iload_n d_Model_asksNow_2 rfl ?_
  refine mx_mul (a := 64) (b := p) d_Model_asksNow_3 ?_
  refine mm_istore_n d_Model_asksNow_4 (by decide) ?_
  refine mm_aload_n d_Model_asksNow_5 rfl ?_
  refine mm_getf (v := .ref (m + 1)) d_Model_asksNow_6 cl_Model fl_Model_7_Model (by decide) H.1 rfl ?_
  refine mm_iload_n d_Model_asksNow_9 rfl ?_
  refine mx_ald (E := p) (v := (A 0) p) d_Model_asksNow_10 (mh_0 H) (by omega) (by decide) (show (A 0) p = (A 0) p from rfl) ?_
  refine mm_iconst (v := 2) d_Model_asksNow_11 (by decide) ?_
  refine mm_icmp_ne (tgt := 46) d_Model_asksNow_12 (by decide) (fun c_12 => ?_) (fun c_12 => ?_)
  · refine mm_aload_n d_Model_asksNow_46 rfl ?_
    refine mm_getf (v := .ref (m + 1)) d_Model_asksNow_47 cl_Model fl_Model_7_Model (by decide) H.1 rfl ?_
    refine mm_iload_n d_Model_asksNow_50 rfl ?_
    refine mx_ald (E := p) (v := (A 0) p) d_Model_asksNow_51 (mh_0 H) (by omega) (by decide) (show (A 0) p = (A 0) p from rfl) ?_
    refine mm_iconst (v := 3) d_Model_asksNow_52 (by decide) ?_
    refine mm_icmp_ne (tgt := 106) d_Model_asksNow_53 (by decide) (fun c_53 => ?_) (fun c_53 => ?_)
    · refine mm_aload_n d_Model_asksNow_106 rfl ?_
      refine mm_getf (v := .ref (m + 1)) d_Model_asksNow_107 cl_Model fl_Model_7_Model (by decide) H.1 rfl ?_
      refine mm_iload_n d_Model_asksNow_110 rfl ?_
      refine mx_ald (E := p) (v := (A 0) p) d_Model_asksNow_111 (mh_0 H) (by omega) (by decide) (show (A 0) p = (A 0) p from rfl) ?_
      refine mm_iconst (v := 4) d_Model_asksNow_112 (by decide) ?_
      refine mm_icmp_ne (tgt := 132) d_Model_asksNow_113 (by decide) (fun c_113 => ?_) (fun c_113 => ?_)
      · refine mm_iconst (v := 0) d_Model_asksNow_132 (by decide) ?_
        exact mm_zreturn d_Model_asksNow_133 rfl rfl (MX.of (by simp [m_ask, m_ask2, c_12, c_53, c_113]) (rfl) (rfl) H F)
      · refine mm_aload_n d_Model_asksNow_116 rfl ?_
        refine mm_getf (v := .ref (m + 6)) d_Model_asksNow_117 cl_Model fl_Model_25_Model (by decide) H.1 rfl ?_
        refine mm_iload_n d_Model_asksNow_120 rfl ?_
        refine mm_iconst (v := 2) d_Model_asksNow_121 (by decide) ?_
        refine mx_add (a := 64 * p) (b := 2) (c := 64 * p + 2) d_Model_asksNow_122 (by omega) ?_
        refine mx_ald (E := 64 * p + 2) (v := (A 5) (64 * p + 2)) d_Model_asksNow_123 (mh_5 H) (by omega) (by decide) (show (A 5) (64 * p + 2) = (A 5) (64 * p + 2) from rfl) ?_
        refine mm_iconst (v := 1) d_Model_asksNow_124 (by decide) ?_
        refine mm_icmp_ne (tgt := 132) d_Model_asksNow_125 (by decide) (fun c_125 => ?_) (fun c_125 => ?_)
        · refine mm_iconst (v := 0) d_Model_asksNow_132 (by decide) ?_
          exact mm_zreturn d_Model_asksNow_133 rfl rfl (MX.of (by simp [m_ask, m_ask2, c_12, c_53, c_113, c_125]) (rfl) (rfl) H F)
        · refine mm_iconst (v := 1) d_Model_asksNow_128 (by decide) ?_
          refine mm_goto (tgt := 133) d_Model_asksNow_129 (by decide) ?_
          exact mm_zreturn d_Model_asksNow_133 rfl rfl (MX.of (by simp [m_ask, m_ask2, c_12, c_53, c_113, c_125]) (rfl) (rfl) H F)
    · refine mm_aload_n d_Model_asksNow_56 rfl ?_
      refine mm_getf (v := .ref (m + 6)) d_Model_asksNow_57 cl_Model fl_Model_25_Model (by decide) H.1 rfl ?_
      refine mm_iload_n d_Model_asksNow_60 rfl ?_
      refine mm_iconst (v := 2) d_Model_asksNow_61 (by decide) ?_
      refine mx_add (a := 64 * p) (b := 2) (c := 64 * p + 2) d_Model_asksNow_62 (by omega) ?_
      refine mx_ald (E := 64 * p + 2) (v := (A 5) (64 * p + 2)) d_Model_asksNow_63 (mh_5 H) (by omega) (by decide) (show (A 5) (64 * p + 2) = (A 5) (64 * p + 2) from rfl) ?_
      refine mm_iconst (v := 1) d_Model_asksNow_64 (by decide) ?_
      refine mm_iand d_Model_asksNow_65 ?_
      refine mm_if_eq (tgt := 78) d_Model_asksNow_66 (by decide) (fun c_66 => ?_) (fun c_66 => ?_)
      · refine mm_aload_n d_Model_asksNow_78 rfl ?_
        refine mm_getf (v := .ref (m + 6)) d_Model_asksNow_79 cl_Model fl_Model_25_Model (by decide) H.1 rfl ?_
        refine mm_iload_n d_Model_asksNow_82 rfl ?_
        refine mm_iconst (v := 2) d_Model_asksNow_83 (by decide) ?_
        refine mx_add (a := 64 * p) (b := 2) (c := 64 * p + 2) d_Model_asksNow_84 (by omega) ?_
        refine mx_ald (E := 64 * p + 2) (v := (A 5) (64 * p + 2)) d_Model_asksNow_85 (mh_5 H) (by omega) (by decide) (show (A 5) (64 * p + 2) = (A 5) (64 * p + 2) from rfl) ?_
        refine mm_iconst (v := 2) d_Model_asksNow_86 (by decide) ?_
        refine mm_iand d_Model_asksNow_87 ?_
        refine mm_if_eq (tgt := 104) d_Model_asksNow_88 (by decide) (fun c_88 => ?_) (fun c_88 => ?_)
        · refine mm_iconst (v := 0) d_Model_asksNow_104 (by decide) ?_
          exact mm_zreturn d_Model_asksNow_105 rfl rfl (MX.of (by simp [m_ask, m_ask2, c_12, c_53, c_66, c_88]) (rfl) (rfl) H F)
        · refine mm_aload_n d_Model_asksNow_91 rfl ?_
          refine mm_getf (v := .ref (m + 7)) d_Model_asksNow_92 cl_Model fl_Model_28_Model (by decide) H.1 rfl ?_
          refine mm_iload_n d_Model_asksNow_95 rfl ?_
          refine mx_ald (E := p) (v := (A 6) p) d_Model_asksNow_96 (mh_6 H) (by omega) (by decide) (show (A 6) p = (A 6) p from rfl) ?_
          refine mm_if_ne (tgt := 104) d_Model_asksNow_97 (by decide) (fun c_97 => ?_) (fun c_97 => ?_)
          · refine mm_iconst (v := 0) d_Model_asksNow_104 (by decide) ?_
            exact mm_zreturn d_Model_asksNow_105 rfl rfl (MX.of (by simp [m_ask, m_ask2, c_12, c_53, c_66, c_88, c_97]) (rfl) (rfl) H F)
          · refine mm_iconst (v := 1) d_Model_asksNow_100 (by decide) ?_
            refine mm_goto (tgt := 105) d_Model_asksNow_101 (by decide) ?_
            exact mm_zreturn d_Model_asksNow_105 rfl rfl (MX.of (by simp [m_ask, m_ask2, c_12, c_53, c_66, c_88, c_97]) (rfl) (rfl) H F)
      · refine mm_aload_n d_Model_asksNow_69 rfl ?_
        refine mm_getf (v := .ref (m + 9)) d_Model_asksNow_70 cl_Model fl_Model_34_Model (by decide) H.1 rfl ?_
        refine mm_iload_n d_Model_asksNow_73 rfl ?_
        refine mx_ald (E := p) (v := (A 8) p) d_Model_asksNow_74 (mh_8 H) (by omega) (by decide) (show (A 8) p = (A 8) p from rfl) ?_
        refine mm_if_gt (tgt := 100) d_Model_asksNow_75 (by decide) (fun c_75 => ?_) (fun c_75 => ?_)
        · refine mm_iconst (v := 1) d_Model_asksNow_100 (by decide) ?_
          refine mm_goto (tgt := 105) d_Model_asksNow_101 (by decide) ?_
          exact mm_zreturn d_Model_asksNow_105 rfl rfl (MX.of (by simp [m_ask, m_ask2, c_12, c_53, c_66, c_75]) (rfl) (rfl) H F)
        · refine mm_aload_n d_Model_asksNow_78 rfl ?_
          refine mm_getf (v := .ref (m + 6)) d_Model_asksNow_79 cl_Model fl_Model_25_Model (by decide) H.1 rfl ?_
          refine mm_iload_n d_Model_asksNow_82 rfl ?_
          refine mm_iconst (v := 2) d_Model_asksNow_83 (by decide) ?_
          refine mx_add (a := 64 * p) (b := 2) (c := 64 * p + 2) d_Model_asksNow_84 (by omega) ?_
          refine mx_ald (E := 64 * p + 2) (v := (A 5) (64 * p + 2)) d_Model_asksNow_85 (mh_5 H) (by omega) (by decide) (show (A 5) (64 * p + 2) = (A 5) (64 * p + 2) from rfl) ?_
          refine mm_iconst (v := 2) d_Model_asksNow_86 (by decide) ?_
          refine mm_iand d_Model_asksNow_87 ?_
          refine mm_if_eq (tgt := 104) d_Model_asksNow_88 (by decide) (fun c_88 => ?_) (fun c_88 => ?_)
          · refine mm_iconst (v := 0) d_Model_asksNow_104 (by decide) ?_
            exact mm_zreturn d_Model_asksNow_105 rfl rfl (MX.of (by simp [m_ask, m_ask2, c_12, c_53, c_66, c_75, c_88]) (rfl) (rfl) H F)
          · refine mm_aload_n d_Model_asksNow_91 rfl ?_
            refine mm_getf (v := .ref (m + 7)) d_Model_asksNow_92 cl_Model fl_Model_28_Model (by decide) H.1 rfl ?_
            refine mm_iload_n d_Model_asksNow_95 rfl ?_
            refine mx_ald (E := p) (v := (A 6) p) d_Model_asksNow_96 (mh_6 H) (by omega) (by decide) (show (A 6) p = (A 6) p from rfl) ?_
            refine mm_if_ne (tgt := 104) d_Model_asksNow_97 (by decide) (fun c_97 => ?_) (fun c_97 => ?_)
            · refine mm_iconst (v := 0) d_Model_asksNow_104 (by decide) ?_
              exact mm_zreturn d_Model_asksNow_105 rfl rfl (MX.of (by simp [m_ask, m_ask2, c_12, c_53, c_66, c_75, c_88, c_97]) (rfl) (rfl) H F)
            · refine mm_iconst (v := 1) d_Model_asksNow_100 (by decide) ?_
              refine mm_goto (tgt := 105) d_Model_asksNow_101 (by decide) ?_
              exact mm_zreturn d_Model_asksNow_105 rfl rfl (MX.of (by simp [m_ask, m_ask2, c_12, c_53, c_66, c_75, c_88, c_97]) (rfl) (rfl) H F)
  · refine mm_aload_n d_Model_asksNow_15 rfl ?_
    refine mm_getf (v := .ref (m + 6)) d_Model_asksNow_16 cl_Model fl_Model_25_Model (by decide) H.1 rfl ?_
    refine mm_iload_n d_Model_asksNow_19 rfl ?_
    refine mm_iconst (v := 2) d_Model_asksNow_20 (by decide) ?_
    refine mx_add (a := 64 * p) (b := 2) (c := 64 * p + 2) d_Model_asksNow_21 (by omega) ?_
    refine mx_ald (E := 64 * p + 2) (v := (A 5) (64 * p + 2)) d_Model_asksNow_22 (mh_5 H) (by omega) (by decide) (show (A 5) (64 * p + 2) = (A 5) (64 * p + 2) from rfl) ?_
    refine mm_iconst (v := 4) d_Model_asksNow_23 (by decide) ?_
    refine mm_iand d_Model_asksNow_24 ?_
    refine mm_if_eq (tgt := 44) d_Model_asksNow_25 (by decide) (fun c_25 => ?_) (fun c_25 => ?_)
    · refine mm_iconst (v := 0) d_Model_asksNow_44 (by decide) ?_
      exact mm_zreturn d_Model_asksNow_45 rfl rfl (MX.of (by simp [m_ask, m_ask2, c_12, c_25]) (rfl) (rfl) H F)
    · refine mm_aload_n d_Model_asksNow_28 rfl ?_
      refine mm_getf (v := .ref (m + 6)) d_Model_asksNow_29 cl_Model fl_Model_25_Model (by decide) H.1 rfl ?_
      refine mm_iload_n d_Model_asksNow_32 rfl ?_
      refine mm_iconst (v := 3) d_Model_asksNow_33 (by decide) ?_
      refine mx_add (a := 64 * p) (b := 3) (c := 64 * p + 3) d_Model_asksNow_34 (by omega) ?_
      refine mx_ald (E := 64 * p + 3) (v := (A 5) (64 * p + 3)) d_Model_asksNow_35 (mh_5 H) (by omega) (by decide) (show (A 5) (64 * p + 3) = (A 5) (64 * p + 3) from rfl) ?_
      refine mm_iconst (v := 1) d_Model_asksNow_36 (by decide) ?_
      refine mm_icmp_ne (tgt := 44) d_Model_asksNow_37 (by decide) (fun c_37 => ?_) (fun c_37 => ?_)
      · refine mm_iconst (v := 0) d_Model_asksNow_44 (by decide) ?_
        exact mm_zreturn d_Model_asksNow_45 rfl rfl (MX.of (by simp [m_ask, m_ask2, c_12, c_25, c_37]) (rfl) (rfl) H F)
      · refine mm_iconst (v := 1) d_Model_asksNow_40 (by decide) ?_
        refine mm_goto (tgt := 45) d_Model_asksNow_41 (by decide) ?_
        exact mm_zreturn d_Model_asksNow_45 rfl rfl (MX.of (by simp [m_ask, m_ask2, c_12, c_25, c_37]) (rfl) (rfl) H F)
def m_pen (A : Nat → Nat → Int32) (l : Nat) : Int32 := if A 13 l = 0 then A 16 l else A 17 l
set_option maxRecDepth 100000 in
set_option maxHeartbeats 4000000 in
theorem J_Model_isPending {sc : mm_Sc} {n : Nat} {h : mm_H} {m : Nat} {I : Nat → Int32} {A : Nat → Nat → Int32} {l : Nat} (H : MH h m I A) (hp : l < 16) (hu : A 16 l = 0 ∨ A 16 l = 1) (hk : A 17 l = 0 ∨ A 17 l = 1) : mm_J sc y_Model_isPending 1 [.ref m, .int (nI l)] n h 0 0 (MX (some (.int (m_pen A l))) n h m I A) := by
  refine mm_J.of (show mm_G sc y_Model_isPending 1 0 [some (.ref m), some (.int (nI l))] [] n h 0 0 _ from ?_) ce_Model_isPending.2.2.2.2.1 (Nat.le_of_ble_eq_true rfl) (by simp [Value.category])
  have F : MF h h m := fun _ _ => rfl
  refine mm_aload_n d_Model_isPending_0 rfl ?_
  refine mm_getf (v := .ref (m + 14)) d_Model_isPending_1 cl_Model fl_Model_49_Model (by decide) H.1 rfl ?_
  refine mm_iload_n d_Model_isPending_4 rfl ?_
  refine mx_ald (E := l) (v := (A 13) l) d_Model_isPending_5 (mh_13 H) (by omega) (by decide) (show (A 13) l = (A 13) l from rfl) ?_
  refine mm_if_ne (tgt := 18) d_Model_isPending_6 (by decide) (fun c_6 => ?_) (fun c_6 => ?_)
  · refine mm_aload_n d_Model_isPending_18 rfl ?_
    refine mm_getf (v := .ref (m + 18)) d_Model_isPending_19 cl_Model fl_Model_62_Model (by decide) H.1 rfl ?_
    refine mm_iload_n d_Model_isPending_22 rfl ?_
    refine mx_zld (E := l) (v := (A 17) l) d_Model_isPending_23 (mh_17 H) (by omega) (by decide) (show (A 17) l = (A 17) l from rfl) ?_
    exact mm_zreturn d_Model_isPending_24 rfl (z01 hk) (MX.of (by simp [m_pen, c_6]) (rfl) (rfl) H F)
  · refine mm_aload_n d_Model_isPending_9 rfl ?_
    refine mm_getf (v := .ref (m + 17)) d_Model_isPending_10 cl_Model fl_Model_59_Model (by decide) H.1 rfl ?_
    refine mm_iload_n d_Model_isPending_13 rfl ?_
    refine mx_zld (E := l) (v := (A 16) l) d_Model_isPending_14 (mh_16 H) (by omega) (by decide) (show (A 16) l = (A 16) l from rfl) ?_
    refine mm_goto (tgt := 24) d_Model_isPending_15 (by decide) ?_
    exact mm_zreturn d_Model_isPending_24 rfl (z01 hu) (MX.of (by simp [m_pen, c_6]) (rfl) (rfl) H F)
def m_tim (R : Nat → Int32) (r : Nat) : (Nat → Int32) × Int32 := if R (r + 2) &&& 1 = 0 then (R, 0) else if R r + 1 = R (r + 1) then
   (if R (r + 2) &&& 2 = 0 then (upd (upd (upd R r (R r + 1)) (r + 3) 1) (r + 2) (R (r + 2) &&& 14), if (R (r + 2) &&& 14) &&& 8 = 0 then 0 else 1)
    else (upd (upd (upd R r (R r + 1)) (r + 3) 1) r 0, if R (r + 2) &&& 8 = 0 then 0 else 1))
  else (upd R r (R r + 1), 0)
set_option maxRecDepth 100000 in
set_option maxHeartbeats 4000000 in
theorem J_Model_timerStep {sc : mm_Sc} {n : Nat} {h : mm_H} {m : Nat} {I : Nat → Int32} {A : Nat → Nat → Int32} {r : Nat} (H : MH h m I A) (hp : r + 64 ≤ 768) : mm_J sc y_Model_timerStep 1 [.ref m, .int (nI r)] n h 0 0 (MX (some (.int ((m_tim (A 5) r).2))) n h m I (ma A 5 (m_tim (A 5) r).1)) := by
  refine mm_J.of (show mm_G sc y_Model_timerStep 1 0 [some (.ref m), some (.int (nI r))] [] n h 0 0 _ from ?_) ce_Model_timerStep.2.2.2.2.1 (Nat.le_of_ble_eq_true rfl) (by simp [Value.category])
  have F : MF h h m := fun _ _ => rfl
  refine mm_aload_n d_Model_timerStep_0 rfl ?_
  refine mm_getf (v := .ref (m + 6)) d_Model_timerStep_1 cl_Model fl_Model_25_Model (by decide) H.1 rfl ?_
  refine mm_iload_n d_Model_timerStep_4 rfl ?_
  refine mm_iconst (v := 2) d_Model_timerStep_5 (by decide) ?_
  refine mx_add (a := r) (b := 2) (c := r + 2) d_Model_timerStep_6 (by omega) ?_
  refine mx_ald (E := r + 2) (v := (A 5) (r + 2)) d_Model_timerStep_7 (mh_5 H) (by omega) (by decide) (show (A 5) (r + 2) = (A 5) (r + 2) from rfl) ?_
  refine mm_iconst (v := 1) d_Model_timerStep_8 (by decide) ?_
  refine mm_iand d_Model_timerStep_9 ?_
  refine mm_if_ne (tgt := 15) d_Model_timerStep_10 (by decide) (fun c_10 => ?_) (fun c_10 => ?_)
  · refine mm_aload_n d_Model_timerStep_15 rfl ?_
    refine mm_getf (v := .ref (m + 6)) d_Model_timerStep_16 cl_Model fl_Model_25_Model (by decide) H.1 rfl ?_
    refine mm_iload_n d_Model_timerStep_19 rfl ?_
    refine mm_dup2 d_Model_timerStep_20 rfl rfl ?_
    refine mx_ald (E := r) (v := (A 5) r) d_Model_timerStep_21 (mh_5 H) (by omega) (by decide) (show (A 5) r = (A 5) r from rfl) ?_
    refine mm_iconst (v := 1) d_Model_timerStep_22 (by decide) ?_
    refine mm_iadd d_Model_timerStep_23 ?_
    refine mx_ast (E := r) d_Model_timerStep_24 (mh_5 H) (by omega) (by decide) ?_
    refine mh_a (j := 5) (f := (upd (A 5) r (((A 5) r) + 1))) (by decide) H F (fun h H F => ?_)
    refine mm_aload_n d_Model_timerStep_25 rfl ?_
    refine mm_getf (v := .ref (m + 6)) d_Model_timerStep_26 cl_Model fl_Model_25_Model (by decide) H.1 rfl ?_
    refine mm_iload_n d_Model_timerStep_29 rfl ?_
    refine mx_ald (E := r) (v := ((A 5) r) + 1) d_Model_timerStep_30 (mh_5 H) (by omega) (by decide) (show (upd (A 5) r (((A 5) r) + 1)) r = ((A 5) r) + 1 from (by simp [upd])) ?_
    refine mm_aload_n d_Model_timerStep_31 rfl ?_
    refine mm_getf (v := .ref (m + 6)) d_Model_timerStep_32 cl_Model fl_Model_25_Model (by decide) H.1 rfl ?_
    refine mm_iload_n d_Model_timerStep_35 rfl ?_
    refine mm_iconst (v := 1) d_Model_timerStep_36 (by decide) ?_
    refine mx_add (a := r) (b := 1) (c := r + 1) d_Model_timerStep_37 (by omega) ?_
    refine mx_ald (E := r + 1) (v := (A 5) (r + 1)) d_Model_timerStep_38 (mh_5 H) (by omega) (by decide) (show (upd (A 5) r (((A 5) r) + 1)) (r + 1) = (A 5) (r + 1) from (by simp [upd])) ?_
    refine mm_icmp_eq (tgt := 44) d_Model_timerStep_39 (by decide) (fun c_39 => ?_) (fun c_39 => ?_)
    · refine mm_aload_n d_Model_timerStep_44 rfl ?_
      refine mm_getf (v := .ref (m + 6)) d_Model_timerStep_45 cl_Model fl_Model_25_Model (by decide) H.1 rfl ?_
      refine mm_iload_n d_Model_timerStep_48 rfl ?_
      refine mm_iconst (v := 3) d_Model_timerStep_49 (by decide) ?_
      refine mx_add (a := r) (b := 3) (c := r + 3) d_Model_timerStep_50 (by omega) ?_
      refine mm_iconst (v := 1) d_Model_timerStep_51 (by decide) ?_
      refine mx_ast (E := r + 3) d_Model_timerStep_52 (mh_5 H) (by omega) (by decide) ?_
      refine mh_a (j := 5) (f := (upd (upd (A 5) r (((A 5) r) + 1)) (r + 3) 1)) (by decide) H F (fun h H F => ?_)
      refine mm_aload_n d_Model_timerStep_53 rfl ?_
      refine mm_getf (v := .ref (m + 6)) d_Model_timerStep_54 cl_Model fl_Model_25_Model (by decide) H.1 rfl ?_
      refine mm_iload_n d_Model_timerStep_57 rfl ?_
      refine mm_iconst (v := 2) d_Model_timerStep_58 (by decide) ?_
      refine mx_add (a := r) (b := 2) (c := r + 2) d_Model_timerStep_59 (by omega) ?_
      refine mx_ald (E := r + 2) (v := (A 5) (r + 2)) d_Model_timerStep_60 (mh_5 H) (by omega) (by decide) (show (upd (upd (A 5) r (((A 5) r) + 1)) (r + 3) 1) (r + 2) = (A 5) (r + 2) from (by simp [upd])) ?_
      refine mm_iconst (v := 2) d_Model_timerStep_61 (by decide) ?_
      refine mm_iand d_Model_timerStep_62 ?_
      refine mm_if_eq (tgt := 76) d_Model_timerStep_63 (by decide) (fun c_63 => ?_) (fun c_63 => ?_)
      · refine mm_aload_n d_Model_timerStep_76 rfl ?_
        refine mm_getf (v := .ref (m + 6)) d_Model_timerStep_77 cl_Model fl_Model_25_Model (by decide) H.1 rfl ?_
        refine mm_iload_n d_Model_timerStep_80 rfl ?_
        refine mm_iconst (v := 2) d_Model_timerStep_81 (by decide) ?_
        refine mx_add (a := r) (b := 2) (c := r + 2) d_Model_timerStep_82 (by omega) ?_
        refine mm_dup2 d_Model_timerStep_83 rfl rfl ?_
        refine mx_ald (E := r + 2) (v := (A 5) (r + 2)) d_Model_timerStep_84 (mh_5 H) (by omega) (by decide) (show (upd (upd (A 5) r (((A 5) r) + 1)) (r + 3) 1) (r + 2) = (A 5) (r + 2) from (by simp [upd])) ?_
        refine mm_bipush (v := 14) d_Model_timerStep_85 (by decide) ?_
        refine mm_iand d_Model_timerStep_87 ?_
        refine mx_ast (E := r + 2) d_Model_timerStep_88 (mh_5 H) (by omega) (by decide) ?_
        refine mh_a (j := 5) (f := (upd (upd (upd (A 5) r (((A 5) r) + 1)) (r + 3) 1) (r + 2) (((A 5) (r + 2)) &&& 14))) (by decide) H F (fun h H F => ?_)
        refine mm_aload_n d_Model_timerStep_89 rfl ?_
        refine mm_getf (v := .ref (m + 6)) d_Model_timerStep_90 cl_Model fl_Model_25_Model (by decide) H.1 rfl ?_
        refine mm_iload_n d_Model_timerStep_93 rfl ?_
        refine mm_iconst (v := 2) d_Model_timerStep_94 (by decide) ?_
        refine mx_add (a := r) (b := 2) (c := r + 2) d_Model_timerStep_95 (by omega) ?_
        refine mx_ald (E := r + 2) (v := ((A 5) (r + 2)) &&& 14) d_Model_timerStep_96 (mh_5 H) (by omega) (by decide) (show (upd (upd (upd (A 5) r (((A 5) r) + 1)) (r + 3) 1) (r + 2) (((A 5) (r + 2)) &&& 14)) (r + 2) = ((A 5) (r + 2)) &&& 14 from (by simp [upd])) ?_
        refine mm_bipush (v := 8) d_Model_timerStep_97 (by decide) ?_
        refine mm_iand d_Model_timerStep_99 ?_
        refine mm_if_eq (tgt := 107) d_Model_timerStep_100 (by decide) (fun c_100 => ?_) (fun c_100 => ?_)
        · refine mm_iconst (v := 0) d_Model_timerStep_107 (by decide) ?_
          exact mm_zreturn d_Model_timerStep_108 rfl rfl (MX.of (by simp [m_tim, ma_ma, c_10, c_39, c_63, c_100]) (rfl) (by simp [m_tim, ma_ma, ma_id, c_10, c_39, c_63, c_100]) H F)
        · refine mm_iconst (v := 1) d_Model_timerStep_103 (by decide) ?_
          refine mm_goto (tgt := 108) d_Model_timerStep_104 (by decide) ?_
          exact mm_zreturn d_Model_timerStep_108 rfl rfl (MX.of (by simp [m_tim, ma_ma, c_10, c_39, c_63, c_100]) (rfl) (by simp [m_tim, ma_ma, ma_id, c_10, c_39, c_63, c_100]) H F)
      · refine mm_aload_n d_Model_timerStep_66 rfl ?_
        refine mm_getf (v := .ref (m + 6)) d_Model_timerStep_67 cl_Model fl_Model_25_Model (by decide) H.1 rfl ?_
        refine mm_iload_n d_Model_timerStep_70 rfl ?_
        refine mm_iconst (v := 0) d_Model_timerStep_71 (by decide) ?_
        refine mx_ast (E := r) d_Model_timerStep_72 (mh_5 H) (by omega) (by decide) ?_
        refine mh_a (j := 5) (f := (upd (upd (upd (A 5) r (((A 5) r) + 1)) (r + 3) 1) r 0)) (by decide) H F (fun h H F => ?_)
        refine mm_goto (tgt := 89) d_Model_timerStep_73 (by decide) ?_
        refine mm_aload_n d_Model_timerStep_89 rfl ?_
        refine mm_getf (v := .ref (m + 6)) d_Model_timerStep_90 cl_Model fl_Model_25_Model (by decide) H.1 rfl ?_
        refine mm_iload_n d_Model_timerStep_93 rfl ?_
        refine mm_iconst (v := 2) d_Model_timerStep_94 (by decide) ?_
        refine mx_add (a := r) (b := 2) (c := r + 2) d_Model_timerStep_95 (by omega) ?_
        refine mx_ald (E := r + 2) (v := (A 5) (r + 2)) d_Model_timerStep_96 (mh_5 H) (by omega) (by decide) (show (upd (upd (upd (A 5) r (((A 5) r) + 1)) (r + 3) 1) r 0) (r + 2) = (A 5) (r + 2) from (by simp [upd])) ?_
        refine mm_bipush (v := 8) d_Model_timerStep_97 (by decide) ?_
        refine mm_iand d_Model_timerStep_99 ?_
        refine mm_if_eq (tgt := 107) d_Model_timerStep_100 (by decide) (fun c_100 => ?_) (fun c_100 => ?_)
        · refine mm_iconst (v := 0) d_Model_timerStep_107 (by decide) ?_
          exact mm_zreturn d_Model_timerStep_108 rfl rfl (MX.of (by simp [m_tim, ma_ma, c_10, c_39, c_63, c_100]) (rfl) (by simp [m_tim, ma_ma, ma_id, c_10, c_39, c_63, c_100]) H F)
        · refine mm_iconst (v := 1) d_Model_timerStep_103 (by decide) ?_
          refine mm_goto (tgt := 108) d_Model_timerStep_104 (by decide) ?_
          exact mm_zreturn d_Model_timerStep_108 rfl rfl (MX.of (by simp [m_tim, ma_ma, c_10, c_39, c_63, c_100]) (rfl) (by simp [m_tim, ma_ma, ma_id, c_10, c_39, c_63, c_100]) H F)
    · refine mm_iconst (v := 0) d_Model_timerStep_42 (by decide) ?_
      exact mm_zreturn d_Model_timerStep_43 rfl rfl (MX.of (by simp [m_tim, ma_ma, c_10, c_39]) (rfl) (by simp [m_tim, ma_ma, ma_id, c_10, c_39]) H F)
  · refine mm_iconst (v := 0) d_Model_timerStep_13 (by decide) ?_
    exact mm_zreturn d_Model_timerStep_14 rfl rfl (MX.of (by simp [m_tim, ma_ma, c_10]) (rfl) (by simp [m_tim, ma_ma, ma_id, c_10]) H F)
def m_wt (R : Nat → Int32) (r k : Nat) (v : Int32) : Nat → Int32 := upd R (r + k) (if k = 2 then v &&& 15 else if k = 3 then 0 else v)
def m_ws (A : Nat → Nat → Int32) (p k : Nat) (v : Int32) : Nat → Nat → Int32 := if k = 2 then ma A 5 (upd (A 5) (64 * p + 2) (v &&& 3)) else if k = 0 then (if A 6 p = 0 then ma (ma A 6 (upd (A 6) p 4)) 7 (upd (A 7) p (v &&& 255)) else A) else A
def m_wr (A : Nat → Nat → Int32) (p k : Nat) (v : Int32) : Nat → Nat → Int32 := if k = 0 then ma A 5 (upd (A 5) (64 * p) (v &&& 7)) else if k = 2 then ma A 5 (upd (A 5) (64 * p + 2) 0) else if A 6 p ≤ 0 then (if 2 < k then ma A 5 (upd (A 5) (64 * p + k) v) else if v = 1 ∨ v = 2 then ma (ma (ma A 5 (upd (A 5) (64 * p + 1) v)) 6 (upd (A 6) p 10)) 7 (upd (A 7) p (A 5 (64 * p))) else A) else A
set_option maxRecDepth 100000 in
set_option maxHeartbeats 4000000 in
theorem J_Model_writeTimer {sc : mm_Sc} {n : Nat} {h : mm_H} {m : Nat} {I : Nat → Int32} {A : Nat → Nat → Int32} {r k : Nat} {v : Int32} (H : MH h m I A) (hp : r + k < 768) (hk : k < 64) : mm_J sc y_Model_writeTimer 1 [.ref m, .int (nI r), .int (nI k), .int v] n h 0 0 (MX (none) n h m I (ma A 5 (m_wt (A 5) r k v))) := by
  refine mm_J.of (show mm_G sc y_Model_writeTimer 1 0 [some (.ref m), some (.int (nI r)), some (.int (nI k)), some (.int v)] [] n h 0 0 _ from ?_) ce_Model_writeTimer.2.2.2.2.1 (Nat.le_of_ble_eq_true rfl) (by simp [Value.category])
  have F : MF h h m := fun _ _ => rfl
  refine mm_aload_n d_Model_writeTimer_0 rfl ?_
  refine mm_getf (v := .ref (m + 6)) d_Model_writeTimer_1 cl_Model fl_Model_25_Model (by decide) H.1 rfl ?_
  refine mm_iload_n d_Model_writeTimer_4 rfl ?_
  refine mm_iload_n d_Model_writeTimer_5 rfl ?_
  refine mx_add (a := r) (b := k) (c := r + k) d_Model_writeTimer_6 (by omega) ?_
  refine mm_iload_n d_Model_writeTimer_7 rfl ?_
  refine mm_iconst (v := 2) d_Model_writeTimer_8 (by decide) ?_
  refine mx_icmp_ne (a := k) (b := 2) (tgt := 19) d_Model_writeTimer_9 (by decide) (by omega) (by omega) (fun c_9 => ?_) (fun c_9 => ?_)
  · refine mm_iload_n d_Model_writeTimer_19 rfl ?_
    refine mm_iconst (v := 3) d_Model_writeTimer_20 (by decide) ?_
    refine mx_icmp_ne (a := k) (b := 3) (tgt := 28) d_Model_writeTimer_21 (by decide) (by omega) (by omega) (fun c_21 => ?_) (fun c_21 => ?_)
    · refine mm_iload_n d_Model_writeTimer_28 rfl ?_
      refine mx_ast (E := r + k) d_Model_writeTimer_29 (mh_5 H) (by omega) (by decide) ?_
      refine mh_a (j := 5) (f := (upd (A 5) (r + k) v)) (by decide) H F (fun h H F => ?_)
      exact mm_return d_Model_writeTimer_30 rfl (MX.of (rfl) (rfl) (by simp [m_wt, c_9, c_21]) H F)
    · refine mm_iconst (v := 0) d_Model_writeTimer_24 (by decide) ?_
      refine mm_goto (tgt := 29) d_Model_writeTimer_25 (by decide) ?_
      refine mx_ast (E := r + k) d_Model_writeTimer_29 (mh_5 H) (by omega) (by decide) ?_
      refine mh_a (j := 5) (f := (upd (A 5) (r + k) 0)) (by decide) H F (fun h H F => ?_)
      exact mm_return d_Model_writeTimer_30 rfl (MX.of (rfl) (rfl) (by simp [m_wt, c_9, c_21]) H F)
  · refine mm_iload_n d_Model_writeTimer_12 rfl ?_
    refine mm_bipush (v := 15) d_Model_writeTimer_13 (by decide) ?_
    refine mm_iand d_Model_writeTimer_15 ?_
    refine mm_goto (tgt := 29) d_Model_writeTimer_16 (by decide) ?_
    refine mx_ast (E := r + k) d_Model_writeTimer_29 (mh_5 H) (by omega) (by decide) ?_
    refine mh_a (j := 5) (f := (upd (A 5) (r + k) (v &&& 15))) (by decide) H F (fun h H F => ?_)
    exact mm_return d_Model_writeTimer_30 rfl (MX.of (rfl) (rfl) (by simp [m_wt, c_9]) H F)
set_option maxRecDepth 100000 in
set_option maxHeartbeats 4000000 in
theorem J_Model_writeSerial {sc : mm_Sc} {n : Nat} {h : mm_H} {m : Nat} {I : Nat → Int32} {A : Nat → Nat → Int32} {p k : Nat} {v : Int32} (H : MH h m I A) (hp : p < 12) (hk : k < 64) : mm_J sc y_Model_writeSerial 1 [.ref m, .int (nI p), .int (nI k), .int v] n h 0 0 (MX (none) n h m I (m_ws A p k v)) := by
  refine mm_J.of (show mm_G sc y_Model_writeSerial 1 0 [some (.ref m), some (.int (nI p)), some (.int (nI k)), some (.int v)] [] n h 0 0 _ from ?_) ce_Model_writeSerial.2.2.2.2.1 (Nat.le_of_ble_eq_true rfl) (by simp [Value.category])
  have F : MF h h m := fun _ _ => rfl
  refine mm_iload_n d_Model_writeSerial_0 rfl ?_
  refine mm_iconst (v := 2) d_Model_writeSerial_1 (by decide) ?_
  refine mx_icmp_ne (a := k) (b := 2) (tgt := 19) d_Model_writeSerial_2 (by decide) (by omega) (by omega) (fun c_2 => ?_) (fun c_2 => ?_)
  · refine mm_iload_n d_Model_writeSerial_19 rfl ?_
    refine mx_if_ne (a := k) (tgt := 50) d_Model_writeSerial_20 (by decide) (by omega) (fun c_20 => ?_) (fun c_20 => ?_)
    · exact mm_return d_Model_writeSerial_50 rfl (MX.of (rfl) (rfl) (by (first | (simp [m_ws, c_2, c_20]; done) | (exfalso; omega))) H F)
    · refine mm_aload_n d_Model_writeSerial_23 rfl ?_
      refine mm_getf (v := .ref (m + 7)) d_Model_writeSerial_24 cl_Model fl_Model_28_Model (by decide) H.1 rfl ?_
      refine mm_iload_n d_Model_writeSerial_27 rfl ?_
      refine mx_ald (E := p) (v := (A 6) p) d_Model_writeSerial_28 (mh_6 H) (by omega) (by decide) (show (A 6) p = (A 6) p from rfl) ?_
      refine mm_if_ne (tgt := 50) d_Model_writeSerial_29 (by decide) (fun c_29 => ?_) (fun c_29 => ?_)
      · exact mm_return d_Model_writeSerial_50 rfl (MX.of (rfl) (rfl) (by (first | (simp [m_ws, c_2, c_20, c_29]; done) | (exfalso; omega))) H F)
      · refine mm_aload_n d_Model_writeSerial_32 rfl ?_
        refine mm_getf (v := .ref (m + 7)) d_Model_writeSerial_33 cl_Model fl_Model_28_Model (by decide) H.1 rfl ?_
        refine mm_iload_n d_Model_writeSerial_36 rfl ?_
        refine mm_iconst (v := 4) d_Model_writeSerial_37 (by decide) ?_
        refine mx_ast (E := p) d_Model_writeSerial_38 (mh_6 H) (by omega) (by decide) ?_
        refine mh_a (j := 6) (f := (upd (A 6) p 4)) (by decide) H F (fun h H F => ?_)
        refine mm_aload_n d_Model_writeSerial_39 rfl ?_
        refine mm_getf (v := .ref (m + 8)) d_Model_writeSerial_40 cl_Model fl_Model_31_Model (by decide) H.1 rfl ?_
        refine mm_iload_n d_Model_writeSerial_43 rfl ?_
        refine mm_iload_n d_Model_writeSerial_44 rfl ?_
        refine mm_sipush (v := 255) d_Model_writeSerial_45 (by decide) ?_
        refine mm_iand d_Model_writeSerial_48 ?_
        refine mx_ast (E := p) d_Model_writeSerial_49 (mh_7 H) (by omega) (by decide) ?_
        refine mh_a (j := 7) (f := (upd (A 7) p (v &&& 255))) (by decide) H F (fun h H F => ?_)
        exact mm_return d_Model_writeSerial_50 rfl (MX.of (rfl) (rfl) (by (first | (simp [m_ws, c_2, c_20, c_29]; done) | (exfalso; omega))) H F)
  · refine mm_aload_n d_Model_writeSerial_5 rfl ?_
    refine mm_getf (v := .ref (m + 6)) d_Model_writeSerial_6 cl_Model fl_Model_25_Model (by decide) H.1 rfl ?_
    refine mm_bipush (v := 64) d_Model_writeSerial_9 (by decide) ?_
    refine mm_iload_n d_Model_writeSerial_11 rfl ?_
    refine mx_mul (a := 64) (b := p) d_Model_writeSerial_12 ?_
    refine mm_iconst (v := 2) d_Model_writeSerial_13 (by decide) ?_
    refine mx_add (a := 64 * p) (b := 2) (c := 64 * p + 2) d_Model_writeSerial_14 (by omega) ?_
    refine mm_iload_n d_Model_writeSerial_15 rfl ?_
    refine mm_iconst (v := 3) d_Model_writeSerial_16 (by decide) ?_
    refine mm_iand d_Model_writeSerial_17 ?_
    refine mx_ast (E := 64 * p + 2) d_Model_writeSerial_18 (mh_5 H) (by omega) (by decide) ?_
    refine mh_a (j := 5) (f := (upd (A 5) (64 * p + 2) (v &&& 3))) (by decide) H F (fun h H F => ?_)
    refine mm_iload_n d_Model_writeSerial_19 rfl ?_
    refine mx_if_ne (a := k) (tgt := 50) d_Model_writeSerial_20 (by decide) (by omega) (fun c_20 => ?_) (fun c_20 => ?_)
    · exact mm_return d_Model_writeSerial_50 rfl (MX.of (rfl) (rfl) (by (first | (simp [m_ws, c_2, c_20]; done) | (exfalso; omega))) H F)
    · refine mm_aload_n d_Model_writeSerial_23 rfl ?_
      refine mm_getf (v := .ref (m + 7)) d_Model_writeSerial_24 cl_Model fl_Model_28_Model (by decide) H.1 rfl ?_
      refine mm_iload_n d_Model_writeSerial_27 rfl ?_
      refine mx_ald (E := p) (v := (A 6) p) d_Model_writeSerial_28 (mh_6 H) (by omega) (by decide) (show (A 6) p = (A 6) p from rfl) ?_
      refine mm_if_ne (tgt := 50) d_Model_writeSerial_29 (by decide) (fun c_29 => ?_) (fun c_29 => ?_)
      · exact mm_return d_Model_writeSerial_50 rfl (MX.of (rfl) (rfl) (by (first | (simp [m_ws, c_2, c_20, c_29]; done) | (exfalso; omega))) H F)
      · refine mm_aload_n d_Model_writeSerial_32 rfl ?_
        refine mm_getf (v := .ref (m + 7)) d_Model_writeSerial_33 cl_Model fl_Model_28_Model (by decide) H.1 rfl ?_
        refine mm_iload_n d_Model_writeSerial_36 rfl ?_
        refine mm_iconst (v := 4) d_Model_writeSerial_37 (by decide) ?_
        refine mx_ast (E := p) d_Model_writeSerial_38 (mh_6 H) (by omega) (by decide) ?_
        refine mh_a (j := 6) (f := (upd (A 6) p 4)) (by decide) H F (fun h H F => ?_)
        refine mm_aload_n d_Model_writeSerial_39 rfl ?_
        refine mm_getf (v := .ref (m + 8)) d_Model_writeSerial_40 cl_Model fl_Model_31_Model (by decide) H.1 rfl ?_
        refine mm_iload_n d_Model_writeSerial_43 rfl ?_
        refine mm_iload_n d_Model_writeSerial_44 rfl ?_
        refine mm_sipush (v := 255) d_Model_writeSerial_45 (by decide) ?_
        refine mm_iand d_Model_writeSerial_48 ?_
        refine mx_ast (E := p) d_Model_writeSerial_49 (mh_7 H) (by omega) (by decide) ?_
        refine mh_a (j := 7) (f := (upd (A 7) p (v &&& 255))) (by decide) H F (fun h H F => ?_)
        exact mm_return d_Model_writeSerial_50 rfl (MX.of (rfl) (rfl) (by (first | (simp [m_ws, c_2, c_20, c_29]; done) | (exfalso; omega))) H F)
set_option maxRecDepth 100000 in
set_option maxHeartbeats 4000000 in
theorem J_Model_writeRows {sc : mm_Sc} {n : Nat} {h : mm_H} {m : Nat} {I : Nat → Int32} {A : Nat → Nat → Int32} {p k : Nat} {v : Int32} (H : MH h m I A) (hp : p < 12) (hk : k < 64) : mm_J sc y_Model_writeRows 1 [.ref m, .int (nI p), .int (nI k), .int v] n h 0 0 (MX (none) n h m I (m_wr A p k v)) := by
  refine mm_J.of (show mm_G sc y_Model_writeRows 1 0 [some (.ref m), some (.int (nI p)), some (.int (nI k)), some (.int v), none, none] [] n h 0 0 _ from ?_) ce_Model_writeRows.2.2.2.2.1 (Nat.le_of_ble_eq_true rfl) (by simp [Value.category])
  have F : MF h h m := fun _ _ => rfl
  refine mm_bipush (v := 64) d_Model_writeRows_0 (by decide) ?_
  refine mm_iload_n d_Model_writeRows_2 rfl ?_
  refine mx_mul (a := 64) (b := p) d_Model_writeRows_3 ?_
  refine mm_istore d_Model_writeRows_4 (by decide) ?_
  refine mm_aload_n d_Model_writeRows_6 rfl ?_
  refine mm_getf (v := .ref (m + 7)) d_Model_writeRows_7 cl_Model fl_Model_28_Model (by decide) H.1 rfl ?_
  refine mm_iload_n d_Model_writeRows_10 rfl ?_
  refine mx_ald (E := p) (v := (A 6) p) d_Model_writeRows_11 (mh_6 H) (by omega) (by decide) (show (A 6) p = (A 6) p from rfl) ?_
  refine mm_if_le (tgt := 19) d_Model_writeRows_12 (by decide) (fun c_12 => ?_) (fun c_12 => ?_)
  · refine mm_iconst (v := 0) d_Model_writeRows_19 (by decide) ?_
    refine mm_istore d_Model_writeRows_20 (by decide) ?_
    refine mm_iload_n d_Model_writeRows_22 rfl ?_
    refine mx_if_ne (a := k) (tgt := 37) d_Model_writeRows_23 (by decide) (by omega) (fun c_23 => ?_) (fun c_23 => ?_)
    · refine mm_iload_n d_Model_writeRows_37 rfl ?_
      refine mm_iconst (v := 2) d_Model_writeRows_38 (by decide) ?_
      refine mx_icmp_ne (a := k) (b := 2) (tgt := 52) d_Model_writeRows_39 (by decide) (by omega) (by omega) (fun c_39 => ?_) (fun c_39 => ?_)
      · refine mm_iload_n d_Model_writeRows_52 rfl ?_
        refine mm_iconst (v := 2) d_Model_writeRows_53 (by decide) ?_
        refine mx_icmp_le (a := k) (b := 2) (tgt := 72) d_Model_writeRows_54 (by decide) (by omega) (by omega) (fun c_54 => ?_) (fun c_54 => ?_)
        · refine mm_iload_n d_Model_writeRows_72 rfl ?_
          refine mm_iconst (v := 1) d_Model_writeRows_73 (by decide) ?_
          refine mx_icmp_ne (a := k) (b := 1) (tgt := 123) d_Model_writeRows_74 (by decide) (by omega) (by omega) (fun c_74 => ?_) (fun c_74 => ?_)
          · exact mm_return d_Model_writeRows_123 rfl (MX.of (rfl) (rfl) (by first | (simp [m_wr, c_12, c_23, c_39, c_54, c_74]; done) | (exfalso; omega) | (simp_all [m_wr]; done) | (have h8 : k = 1 := by omega; subst h8; simp_all [m_wr]; done) | (have h8 : ¬ k = 0 ∧ ¬ k = 1 ∧ ¬ k = 2 := by omega; simp_all [m_wr]; done)) H F)
          · refine mm_iload d_Model_writeRows_77 rfl ?_
            refine mm_if_ne (tgt := 123) d_Model_writeRows_79 (by decide) (fun c9 => absurd c9 (by decide)) (fun _ => ?_)
            refine mm_iload_n d_Model_writeRows_82 rfl ?_
            refine mm_iconst (v := 1) d_Model_writeRows_83 (by decide) ?_
            refine mm_icmp_eq (tgt := 92) d_Model_writeRows_84 (by decide) (fun c_84 => ?_) (fun c_84 => ?_)
            · refine mm_aload_n d_Model_writeRows_92 rfl ?_
              refine mm_getf (v := .ref (m + 6)) d_Model_writeRows_93 cl_Model fl_Model_25_Model (by decide) H.1 rfl ?_
              refine mm_iload d_Model_writeRows_96 rfl ?_
              refine mm_iconst (v := 1) d_Model_writeRows_98 (by decide) ?_
              refine mx_add (a := 64 * p) (b := 1) (c := 64 * p + 1) d_Model_writeRows_99 (by omega) ?_
              refine mm_iload_n d_Model_writeRows_100 rfl ?_
              refine mx_ast (E := 64 * p + 1) d_Model_writeRows_101 (mh_5 H) (by omega) (by decide) ?_
              refine mh_a (j := 5) (f := (upd (A 5) (64 * p + 1) v)) (by decide) H F (fun h H F => ?_)
              refine mm_aload_n d_Model_writeRows_102 rfl ?_
              refine mm_getf (v := .ref (m + 7)) d_Model_writeRows_103 cl_Model fl_Model_28_Model (by decide) H.1 rfl ?_
              refine mm_iload_n d_Model_writeRows_106 rfl ?_
              refine mm_bipush (v := 10) d_Model_writeRows_107 (by decide) ?_
              refine mx_ast (E := p) d_Model_writeRows_109 (mh_6 H) (by omega) (by decide) ?_
              refine mh_a (j := 6) (f := (upd (A 6) p 10)) (by decide) H F (fun h H F => ?_)
              refine mm_aload_n d_Model_writeRows_110 rfl ?_
              refine mm_getf (v := .ref (m + 8)) d_Model_writeRows_111 cl_Model fl_Model_31_Model (by decide) H.1 rfl ?_
              refine mm_iload_n d_Model_writeRows_114 rfl ?_
              refine mm_aload_n d_Model_writeRows_115 rfl ?_
              refine mm_getf (v := .ref (m + 6)) d_Model_writeRows_116 cl_Model fl_Model_25_Model (by decide) H.1 rfl ?_
              refine mm_iload d_Model_writeRows_119 rfl ?_
              refine mx_ald (E := 64 * p) (v := (A 5) (64 * p)) d_Model_writeRows_121 (mh_5 H) (by omega) (by decide) (show (upd (A 5) (64 * p + 1) v) (64 * p) = (A 5) (64 * p) from (by simp [upd])) ?_
              refine mx_ast (E := p) d_Model_writeRows_122 (mh_7 H) (by omega) (by decide) ?_
              refine mh_a (j := 7) (f := (upd (A 7) p ((A 5) (64 * p)))) (by decide) H F (fun h H F => ?_)
              exact mm_return d_Model_writeRows_123 rfl (MX.of (rfl) (rfl) (by first | (simp [m_wr, c_12, c_23, c_39, c_54, c_74, c_84]; done) | (exfalso; omega) | (simp_all [m_wr]; done) | (have h8 : k = 1 := by omega; subst h8; simp_all [m_wr]; done) | (have h8 : ¬ k = 0 ∧ ¬ k = 1 ∧ ¬ k = 2 := by omega; simp_all [m_wr]; done)) H F)
            · refine mm_iload_n d_Model_writeRows_87 rfl ?_
              refine mm_iconst (v := 2) d_Model_writeRows_88 (by decide) ?_
              refine mm_icmp_ne (tgt := 123) d_Model_writeRows_89 (by decide) (fun c_89 => ?_) (fun c_89 => ?_)
              · exact mm_return d_Model_writeRows_123 rfl (MX.of (rfl) (rfl) (by first | (simp [m_wr, c_12, c_23, c_39, c_54, c_74, c_84, c_89]; done) | (exfalso; omega) | (simp_all [m_wr]; done) | (have h8 : k = 1 := by omega; subst h8; simp_all [m_wr]; done) | (have h8 : ¬ k = 0 ∧ ¬ k = 1 ∧ ¬ k = 2 := by omega; simp_all [m_wr]; done)) H F)
              · refine mm_aload_n d_Model_writeRows_92 rfl ?_
                refine mm_getf (v := .ref (m + 6)) d_Model_writeRows_93 cl_Model fl_Model_25_Model (by decide) H.1 rfl ?_
                refine mm_iload d_Model_writeRows_96 rfl ?_
                refine mm_iconst (v := 1) d_Model_writeRows_98 (by decide) ?_
                refine mx_add (a := 64 * p) (b := 1) (c := 64 * p + 1) d_Model_writeRows_99 (by omega) ?_
                refine mm_iload_n d_Model_writeRows_100 rfl ?_
                refine mx_ast (E := 64 * p + 1) d_Model_writeRows_101 (mh_5 H) (by omega) (by decide) ?_
                refine mh_a (j := 5) (f := (upd (A 5) (64 * p + 1) v)) (by decide) H F (fun h H F => ?_)
                refine mm_aload_n d_Model_writeRows_102 rfl ?_
                refine mm_getf (v := .ref (m + 7)) d_Model_writeRows_103 cl_Model fl_Model_28_Model (by decide) H.1 rfl ?_
                refine mm_iload_n d_Model_writeRows_106 rfl ?_
                refine mm_bipush (v := 10) d_Model_writeRows_107 (by decide) ?_
                refine mx_ast (E := p) d_Model_writeRows_109 (mh_6 H) (by omega) (by decide) ?_
                refine mh_a (j := 6) (f := (upd (A 6) p 10)) (by decide) H F (fun h H F => ?_)
                refine mm_aload_n d_Model_writeRows_110 rfl ?_
                refine mm_getf (v := .ref (m + 8)) d_Model_writeRows_111 cl_Model fl_Model_31_Model (by decide) H.1 rfl ?_
                refine mm_iload_n d_Model_writeRows_114 rfl ?_
                refine mm_aload_n d_Model_writeRows_115 rfl ?_
                refine mm_getf (v := .ref (m + 6)) d_Model_writeRows_116 cl_Model fl_Model_25_Model (by decide) H.1 rfl ?_
                refine mm_iload d_Model_writeRows_119 rfl ?_
                refine mx_ald (E := 64 * p) (v := (A 5) (64 * p)) d_Model_writeRows_121 (mh_5 H) (by omega) (by decide) (show (upd (A 5) (64 * p + 1) v) (64 * p) = (A 5) (64 * p) from (by simp [upd])) ?_
                refine mx_ast (E := p) d_Model_writeRows_122 (mh_7 H) (by omega) (by decide) ?_
                refine mh_a (j := 7) (f := (upd (A 7) p ((A 5) (64 * p)))) (by decide) H F (fun h H F => ?_)
                exact mm_return d_Model_writeRows_123 rfl (MX.of (rfl) (rfl) (by first | (simp [m_wr, c_12, c_23, c_39, c_54, c_74, c_84, c_89]; done) | (exfalso; omega) | (simp_all [m_wr]; done) | (have h8 : k = 1 := by omega; subst h8; simp_all [m_wr]; done) | (have h8 : ¬ k = 0 ∧ ¬ k = 1 ∧ ¬ k = 2 := by omega; simp_all [m_wr]; done)) H F)
        · refine mm_iload d_Model_writeRows_57 rfl ?_
          refine mm_if_ne (tgt := 72) d_Model_writeRows_59 (by decide) (fun c9 => absurd c9 (by decide)) (fun _ => ?_)
          refine mm_aload_n d_Model_writeRows_62 rfl ?_
          refine mm_getf (v := .ref (m + 6)) d_Model_writeRows_63 cl_Model fl_Model_25_Model (by decide) H.1 rfl ?_
          refine mm_iload d_Model_writeRows_66 rfl ?_
          refine mm_iload_n d_Model_writeRows_68 rfl ?_
          refine mx_add (a := 64 * p) (b := k) (c := 64 * p + k) d_Model_writeRows_69 (by omega) ?_
          refine mm_iload_n d_Model_writeRows_70 rfl ?_
          refine mx_ast (E := 64 * p + k) d_Model_writeRows_71 (mh_5 H) (by omega) (by decide) ?_
          refine mh_a (j := 5) (f := (upd (A 5) (64 * p + k) v)) (by decide) H F (fun h H F => ?_)
          refine mm_iload_n d_Model_writeRows_72 rfl ?_
          refine mm_iconst (v := 1) d_Model_writeRows_73 (by decide) ?_
          refine mx_icmp_ne (a := k) (b := 1) (tgt := 123) d_Model_writeRows_74 (by decide) (by omega) (by omega) (fun c_74 => ?_) (fun c_74 => ?_)
          · exact mm_return d_Model_writeRows_123 rfl (MX.of (rfl) (rfl) (by first | (simp [m_wr, c_12, c_23, c_39, c_54, c_74]; done) | (exfalso; omega) | (simp_all [m_wr]; done) | (have h8 : k = 1 := by omega; subst h8; simp_all [m_wr]; done) | (have h8 : ¬ k = 0 ∧ ¬ k = 1 ∧ ¬ k = 2 := by omega; simp_all [m_wr]; done)) H F)
          · refine mm_iload d_Model_writeRows_77 rfl ?_
            refine mm_if_ne (tgt := 123) d_Model_writeRows_79 (by decide) (fun c9 => absurd c9 (by decide)) (fun _ => ?_)
            refine mm_iload_n d_Model_writeRows_82 rfl ?_
            refine mm_iconst (v := 1) d_Model_writeRows_83 (by decide) ?_
            refine mm_icmp_eq (tgt := 92) d_Model_writeRows_84 (by decide) (fun c_84 => ?_) (fun c_84 => ?_)
            · refine mm_aload_n d_Model_writeRows_92 rfl ?_
              refine mm_getf (v := .ref (m + 6)) d_Model_writeRows_93 cl_Model fl_Model_25_Model (by decide) H.1 rfl ?_
              refine mm_iload d_Model_writeRows_96 rfl ?_
              refine mm_iconst (v := 1) d_Model_writeRows_98 (by decide) ?_
              refine mx_add (a := 64 * p) (b := 1) (c := 64 * p + 1) d_Model_writeRows_99 (by omega) ?_
              refine mm_iload_n d_Model_writeRows_100 rfl ?_
              refine mx_ast (E := 64 * p + 1) d_Model_writeRows_101 (mh_5 H) (by omega) (by decide) ?_
              refine mh_a (j := 5) (f := (upd (upd (A 5) (64 * p + k) v) (64 * p + 1) v)) (by decide) H F (fun h H F => ?_)
              refine mm_aload_n d_Model_writeRows_102 rfl ?_
              refine mm_getf (v := .ref (m + 7)) d_Model_writeRows_103 cl_Model fl_Model_28_Model (by decide) H.1 rfl ?_
              refine mm_iload_n d_Model_writeRows_106 rfl ?_
              refine mm_bipush (v := 10) d_Model_writeRows_107 (by decide) ?_
              refine mx_ast (E := p) d_Model_writeRows_109 (mh_6 H) (by omega) (by decide) ?_
              refine mh_a (j := 6) (f := (upd (A 6) p 10)) (by decide) H F (fun h H F => ?_)
              refine mm_aload_n d_Model_writeRows_110 rfl ?_
              refine mm_getf (v := .ref (m + 8)) d_Model_writeRows_111 cl_Model fl_Model_31_Model (by decide) H.1 rfl ?_
              refine mm_iload_n d_Model_writeRows_114 rfl ?_
              refine mm_aload_n d_Model_writeRows_115 rfl ?_
              refine mm_getf (v := .ref (m + 6)) d_Model_writeRows_116 cl_Model fl_Model_25_Model (by decide) H.1 rfl ?_
              refine mm_iload d_Model_writeRows_119 rfl ?_
              refine mx_ald (E := 64 * p) (v := (upd (upd (A 5) (64 * p + k) v) (64 * p + 1) v) (64 * p)) d_Model_writeRows_121 (mh_5 H) (by omega) (by decide) (show (upd (upd (A 5) (64 * p + k) v) (64 * p + 1) v) (64 * p) = (upd (upd (A 5) (64 * p + k) v) (64 * p + 1) v) (64 * p) from rfl) ?_
              refine mx_ast (E := p) d_Model_writeRows_122 (mh_7 H) (by omega) (by decide) ?_
              refine mh_a (j := 7) (f := (upd (A 7) p ((upd (upd (A 5) (64 * p + k) v) (64 * p + 1) v) (64 * p)))) (by decide) H F (fun h H F => ?_)
              exact mm_return d_Model_writeRows_123 rfl (MX.of (rfl) (rfl) (by first | (simp [m_wr, c_12, c_23, c_39, c_54, c_74, c_84]; done) | (exfalso; omega) | (simp_all [m_wr]; done) | (have h8 : k = 1 := by omega; subst h8; simp_all [m_wr]; done) | (have h8 : ¬ k = 0 ∧ ¬ k = 1 ∧ ¬ k = 2 := by omega; simp_all [m_wr]; done)) H F)
            · refine mm_iload_n d_Model_writeRows_87 rfl ?_
              refine mm_iconst (v := 2) d_Model_writeRows_88 (by decide) ?_
              refine mm_icmp_ne (tgt := 123) d_Model_writeRows_89 (by decide) (fun c_89 => ?_) (fun c_89 => ?_)
              · exact mm_return d_Model_writeRows_123 rfl (MX.of (rfl) (rfl) (by first | (simp [m_wr, c_12, c_23, c_39, c_54, c_74, c_84, c_89]; done) | (exfalso; omega) | (simp_all [m_wr]; done) | (have h8 : k = 1 := by omega; subst h8; simp_all [m_wr]; done) | (have h8 : ¬ k = 0 ∧ ¬ k = 1 ∧ ¬ k = 2 := by omega; simp_all [m_wr]; done)) H F)
              · refine mm_aload_n d_Model_writeRows_92 rfl ?_
                refine mm_getf (v := .ref (m + 6)) d_Model_writeRows_93 cl_Model fl_Model_25_Model (by decide) H.1 rfl ?_
                refine mm_iload d_Model_writeRows_96 rfl ?_
                refine mm_iconst (v := 1) d_Model_writeRows_98 (by decide) ?_
                refine mx_add (a := 64 * p) (b := 1) (c := 64 * p + 1) d_Model_writeRows_99 (by omega) ?_
                refine mm_iload_n d_Model_writeRows_100 rfl ?_
                refine mx_ast (E := 64 * p + 1) d_Model_writeRows_101 (mh_5 H) (by omega) (by decide) ?_
                refine mh_a (j := 5) (f := (upd (upd (A 5) (64 * p + k) v) (64 * p + 1) v)) (by decide) H F (fun h H F => ?_)
                refine mm_aload_n d_Model_writeRows_102 rfl ?_
                refine mm_getf (v := .ref (m + 7)) d_Model_writeRows_103 cl_Model fl_Model_28_Model (by decide) H.1 rfl ?_
                refine mm_iload_n d_Model_writeRows_106 rfl ?_
                refine mm_bipush (v := 10) d_Model_writeRows_107 (by decide) ?_
                refine mx_ast (E := p) d_Model_writeRows_109 (mh_6 H) (by omega) (by decide) ?_
                refine mh_a (j := 6) (f := (upd (A 6) p 10)) (by decide) H F (fun h H F => ?_)
                refine mm_aload_n d_Model_writeRows_110 rfl ?_
                refine mm_getf (v := .ref (m + 8)) d_Model_writeRows_111 cl_Model fl_Model_31_Model (by decide) H.1 rfl ?_
                refine mm_iload_n d_Model_writeRows_114 rfl ?_
                refine mm_aload_n d_Model_writeRows_115 rfl ?_
                refine mm_getf (v := .ref (m + 6)) d_Model_writeRows_116 cl_Model fl_Model_25_Model (by decide) H.1 rfl ?_
                refine mm_iload d_Model_writeRows_119 rfl ?_
                refine mx_ald (E := 64 * p) (v := (upd (upd (A 5) (64 * p + k) v) (64 * p + 1) v) (64 * p)) d_Model_writeRows_121 (mh_5 H) (by omega) (by decide) (show (upd (upd (A 5) (64 * p + k) v) (64 * p + 1) v) (64 * p) = (upd (upd (A 5) (64 * p + k) v) (64 * p + 1) v) (64 * p) from rfl) ?_
                refine mx_ast (E := p) d_Model_writeRows_122 (mh_7 H) (by omega) (by decide) ?_
                refine mh_a (j := 7) (f := (upd (A 7) p ((upd (upd (A 5) (64 * p + k) v) (64 * p + 1) v) (64 * p)))) (by decide) H F (fun h H F => ?_)
                exact mm_return d_Model_writeRows_123 rfl (MX.of (rfl) (rfl) (by first | (simp [m_wr, c_12, c_23, c_39, c_54, c_74, c_84, c_89]; done) | (exfalso; omega) | (simp_all [m_wr]; done) | (have h8 : k = 1 := by omega; subst h8; simp_all [m_wr]; done) | (have h8 : ¬ k = 0 ∧ ¬ k = 1 ∧ ¬ k = 2 := by omega; simp_all [m_wr]; done)) H F)
      · refine mm_aload_n d_Model_writeRows_42 rfl ?_
        refine mm_getf (v := .ref (m + 6)) d_Model_writeRows_43 cl_Model fl_Model_25_Model (by decide) H.1 rfl ?_
        refine mm_iload d_Model_writeRows_46 rfl ?_
        refine mm_iconst (v := 2) d_Model_writeRows_48 (by decide) ?_
        refine mx_add (a := 64 * p) (b := 2) (c := 64 * p + 2) d_Model_writeRows_49 (by omega) ?_
        refine mm_iconst (v := 0) d_Model_writeRows_50 (by decide) ?_
        refine mx_ast (E := 64 * p + 2) d_Model_writeRows_51 (mh_5 H) (by omega) (by decide) ?_
        refine mh_a (j := 5) (f := (upd (A 5) (64 * p + 2) 0)) (by decide) H F (fun h H F => ?_)
        refine mm_iload_n d_Model_writeRows_52 rfl ?_
        refine mm_iconst (v := 2) d_Model_writeRows_53 (by decide) ?_
        refine mx_icmp_le (a := k) (b := 2) (tgt := 72) d_Model_writeRows_54 (by decide) (by omega) (by omega) (fun c_54 => ?_) (fun c_54 => ?_)
        · refine mm_iload_n d_Model_writeRows_72 rfl ?_
          refine mm_iconst (v := 1) d_Model_writeRows_73 (by decide) ?_
          refine mx_icmp_ne (a := k) (b := 1) (tgt := 123) d_Model_writeRows_74 (by decide) (by omega) (by omega) (fun c_74 => ?_) (fun c_74 => ?_)
          · exact mm_return d_Model_writeRows_123 rfl (MX.of (rfl) (rfl) (by first | (simp [m_wr, c_12, c_23, c_39, c_54, c_74]; done) | (exfalso; omega) | (simp_all [m_wr]; done) | (have h8 : k = 1 := by omega; subst h8; simp_all [m_wr]; done) | (have h8 : ¬ k = 0 ∧ ¬ k = 1 ∧ ¬ k = 2 := by omega; simp_all [m_wr]; done)) H F)
          · refine mm_iload d_Model_writeRows_77 rfl ?_
            refine mm_if_ne (tgt := 123) d_Model_writeRows_79 (by decide) (fun c9 => absurd c9 (by decide)) (fun _ => ?_)
            refine mm_iload_n d_Model_writeRows_82 rfl ?_
            refine mm_iconst (v := 1) d_Model_writeRows_83 (by decide) ?_
            refine mm_icmp_eq (tgt := 92) d_Model_writeRows_84 (by decide) (fun c_84 => ?_) (fun c_84 => ?_)
            · refine mm_aload_n d_Model_writeRows_92 rfl ?_
              refine mm_getf (v := .ref (m + 6)) d_Model_writeRows_93 cl_Model fl_Model_25_Model (by decide) H.1 rfl ?_
              refine mm_iload d_Model_writeRows_96 rfl ?_
              refine mm_iconst (v := 1) d_Model_writeRows_98 (by decide) ?_
              refine mx_add (a := 64 * p) (b := 1) (c := 64 * p + 1) d_Model_writeRows_99 (by omega) ?_
              refine mm_iload_n d_Model_writeRows_100 rfl ?_
              refine mx_ast (E := 64 * p + 1) d_Model_writeRows_101 (mh_5 H) (by omega) (by decide) ?_
              refine mh_a (j := 5) (f := (upd (upd (A 5) (64 * p + 2) 0) (64 * p + 1) v)) (by decide) H F (fun h H F => ?_)
              refine mm_aload_n d_Model_writeRows_102 rfl ?_
              refine mm_getf (v := .ref (m + 7)) d_Model_writeRows_103 cl_Model fl_Model_28_Model (by decide) H.1 rfl ?_
              refine mm_iload_n d_Model_writeRows_106 rfl ?_
              refine mm_bipush (v := 10) d_Model_writeRows_107 (by decide) ?_
              refine mx_ast (E := p) d_Model_writeRows_109 (mh_6 H) (by omega) (by decide) ?_
              refine mh_a (j := 6) (f := (upd (A 6) p 10)) (by decide) H F (fun h H F => ?_)
              refine mm_aload_n d_Model_writeRows_110 rfl ?_
              refine mm_getf (v := .ref (m + 8)) d_Model_writeRows_111 cl_Model fl_Model_31_Model (by decide) H.1 rfl ?_
              refine mm_iload_n d_Model_writeRows_114 rfl ?_
              refine mm_aload_n d_Model_writeRows_115 rfl ?_
              refine mm_getf (v := .ref (m + 6)) d_Model_writeRows_116 cl_Model fl_Model_25_Model (by decide) H.1 rfl ?_
              refine mm_iload d_Model_writeRows_119 rfl ?_
              refine mx_ald (E := 64 * p) (v := (A 5) (64 * p)) d_Model_writeRows_121 (mh_5 H) (by omega) (by decide) (show (upd (upd (A 5) (64 * p + 2) 0) (64 * p + 1) v) (64 * p) = (A 5) (64 * p) from (by simp [upd])) ?_
              refine mx_ast (E := p) d_Model_writeRows_122 (mh_7 H) (by omega) (by decide) ?_
              refine mh_a (j := 7) (f := (upd (A 7) p ((A 5) (64 * p)))) (by decide) H F (fun h H F => ?_)
              exact mm_return d_Model_writeRows_123 rfl (MX.of (rfl) (rfl) (by first | (simp [m_wr, c_12, c_23, c_39, c_54, c_74, c_84]; done) | (exfalso; omega) | (simp_all [m_wr]; done) | (have h8 : k = 1 := by omega; subst h8; simp_all [m_wr]; done) | (have h8 : ¬ k = 0 ∧ ¬ k = 1 ∧ ¬ k = 2 := by omega; simp_all [m_wr]; done)) H F)
            · refine mm_iload_n d_Model_writeRows_87 rfl ?_
              refine mm_iconst (v := 2) d_Model_writeRows_88 (by decide) ?_
              refine mm_icmp_ne (tgt := 123) d_Model_writeRows_89 (by decide) (fun c_89 => ?_) (fun c_89 => ?_)
              · exact mm_return d_Model_writeRows_123 rfl (MX.of (rfl) (rfl) (by first | (simp [m_wr, c_12, c_23, c_39, c_54, c_74, c_84, c_89]; done) | (exfalso; omega) | (simp_all [m_wr]; done) | (have h8 : k = 1 := by omega; subst h8; simp_all [m_wr]; done) | (have h8 : ¬ k = 0 ∧ ¬ k = 1 ∧ ¬ k = 2 := by omega; simp_all [m_wr]; done)) H F)
              · refine mm_aload_n d_Model_writeRows_92 rfl ?_
                refine mm_getf (v := .ref (m + 6)) d_Model_writeRows_93 cl_Model fl_Model_25_Model (by decide) H.1 rfl ?_
                refine mm_iload d_Model_writeRows_96 rfl ?_
                refine mm_iconst (v := 1) d_Model_writeRows_98 (by decide) ?_
                refine mx_add (a := 64 * p) (b := 1) (c := 64 * p + 1) d_Model_writeRows_99 (by omega) ?_
                refine mm_iload_n d_Model_writeRows_100 rfl ?_
                refine mx_ast (E := 64 * p + 1) d_Model_writeRows_101 (mh_5 H) (by omega) (by decide) ?_
                refine mh_a (j := 5) (f := (upd (upd (A 5) (64 * p + 2) 0) (64 * p + 1) v)) (by decide) H F (fun h H F => ?_)
                refine mm_aload_n d_Model_writeRows_102 rfl ?_
                refine mm_getf (v := .ref (m + 7)) d_Model_writeRows_103 cl_Model fl_Model_28_Model (by decide) H.1 rfl ?_
                refine mm_iload_n d_Model_writeRows_106 rfl ?_
                refine mm_bipush (v := 10) d_Model_writeRows_107 (by decide) ?_
                refine mx_ast (E := p) d_Model_writeRows_109 (mh_6 H) (by omega) (by decide) ?_
                refine mh_a (j := 6) (f := (upd (A 6) p 10)) (by decide) H F (fun h H F => ?_)
                refine mm_aload_n d_Model_writeRows_110 rfl ?_
                refine mm_getf (v := .ref (m + 8)) d_Model_writeRows_111 cl_Model fl_Model_31_Model (by decide) H.1 rfl ?_
                refine mm_iload_n d_Model_writeRows_114 rfl ?_
                refine mm_aload_n d_Model_writeRows_115 rfl ?_
                refine mm_getf (v := .ref (m + 6)) d_Model_writeRows_116 cl_Model fl_Model_25_Model (by decide) H.1 rfl ?_
                refine mm_iload d_Model_writeRows_119 rfl ?_
                refine mx_ald (E := 64 * p) (v := (A 5) (64 * p)) d_Model_writeRows_121 (mh_5 H) (by omega) (by decide) (show (upd (upd (A 5) (64 * p + 2) 0) (64 * p + 1) v) (64 * p) = (A 5) (64 * p) from (by simp [upd])) ?_
                refine mx_ast (E := p) d_Model_writeRows_122 (mh_7 H) (by omega) (by decide) ?_
                refine mh_a (j := 7) (f := (upd (A 7) p ((A 5) (64 * p)))) (by decide) H F (fun h H F => ?_)
                exact mm_return d_Model_writeRows_123 rfl (MX.of (rfl) (rfl) (by first | (simp [m_wr, c_12, c_23, c_39, c_54, c_74, c_84, c_89]; done) | (exfalso; omega) | (simp_all [m_wr]; done) | (have h8 : k = 1 := by omega; subst h8; simp_all [m_wr]; done) | (have h8 : ¬ k = 0 ∧ ¬ k = 1 ∧ ¬ k = 2 := by omega; simp_all [m_wr]; done)) H F)
        · refine mm_iload d_Model_writeRows_57 rfl ?_
          refine mm_if_ne (tgt := 72) d_Model_writeRows_59 (by decide) (fun c9 => absurd c9 (by decide)) (fun _ => ?_)
          refine mm_aload_n d_Model_writeRows_62 rfl ?_
          refine mm_getf (v := .ref (m + 6)) d_Model_writeRows_63 cl_Model fl_Model_25_Model (by decide) H.1 rfl ?_
          refine mm_iload d_Model_writeRows_66 rfl ?_
          refine mm_iload_n d_Model_writeRows_68 rfl ?_
          refine mx_add (a := 64 * p) (b := k) (c := 64 * p + k) d_Model_writeRows_69 (by omega) ?_
          refine mm_iload_n d_Model_writeRows_70 rfl ?_
          refine mx_ast (E := 64 * p + k) d_Model_writeRows_71 (mh_5 H) (by omega) (by decide) ?_
          refine mh_a (j := 5) (f := (upd (upd (A 5) (64 * p + 2) 0) (64 * p + k) v)) (by decide) H F (fun h H F => ?_)
          refine mm_iload_n d_Model_writeRows_72 rfl ?_
          refine mm_iconst (v := 1) d_Model_writeRows_73 (by decide) ?_
          refine mx_icmp_ne (a := k) (b := 1) (tgt := 123) d_Model_writeRows_74 (by decide) (by omega) (by omega) (fun c_74 => ?_) (fun c_74 => ?_)
          · exact mm_return d_Model_writeRows_123 rfl (MX.of (rfl) (rfl) (by first | (simp [m_wr, c_12, c_23, c_39, c_54, c_74]; done) | (exfalso; omega) | (simp_all [m_wr]; done) | (have h8 : k = 1 := by omega; subst h8; simp_all [m_wr]; done) | (have h8 : ¬ k = 0 ∧ ¬ k = 1 ∧ ¬ k = 2 := by omega; simp_all [m_wr]; done)) H F)
          · refine mm_iload d_Model_writeRows_77 rfl ?_
            refine mm_if_ne (tgt := 123) d_Model_writeRows_79 (by decide) (fun c9 => absurd c9 (by decide)) (fun _ => ?_)
            refine mm_iload_n d_Model_writeRows_82 rfl ?_
            refine mm_iconst (v := 1) d_Model_writeRows_83 (by decide) ?_
            refine mm_icmp_eq (tgt := 92) d_Model_writeRows_84 (by decide) (fun c_84 => ?_) (fun c_84 => ?_)
            · refine mm_aload_n d_Model_writeRows_92 rfl ?_
              refine mm_getf (v := .ref (m + 6)) d_Model_writeRows_93 cl_Model fl_Model_25_Model (by decide) H.1 rfl ?_
              refine mm_iload d_Model_writeRows_96 rfl ?_
              refine mm_iconst (v := 1) d_Model_writeRows_98 (by decide) ?_
              refine mx_add (a := 64 * p) (b := 1) (c := 64 * p + 1) d_Model_writeRows_99 (by omega) ?_
              refine mm_iload_n d_Model_writeRows_100 rfl ?_
              refine mx_ast (E := 64 * p + 1) d_Model_writeRows_101 (mh_5 H) (by omega) (by decide) ?_
              refine mh_a (j := 5) (f := (upd (upd (upd (A 5) (64 * p + 2) 0) (64 * p + k) v) (64 * p + 1) v)) (by decide) H F (fun h H F => ?_)
              refine mm_aload_n d_Model_writeRows_102 rfl ?_
              refine mm_getf (v := .ref (m + 7)) d_Model_writeRows_103 cl_Model fl_Model_28_Model (by decide) H.1 rfl ?_
              refine mm_iload_n d_Model_writeRows_106 rfl ?_
              refine mm_bipush (v := 10) d_Model_writeRows_107 (by decide) ?_
              refine mx_ast (E := p) d_Model_writeRows_109 (mh_6 H) (by omega) (by decide) ?_
              refine mh_a (j := 6) (f := (upd (A 6) p 10)) (by decide) H F (fun h H F => ?_)
              refine mm_aload_n d_Model_writeRows_110 rfl ?_
              refine mm_getf (v := .ref (m + 8)) d_Model_writeRows_111 cl_Model fl_Model_31_Model (by decide) H.1 rfl ?_
              refine mm_iload_n d_Model_writeRows_114 rfl ?_
              refine mm_aload_n d_Model_writeRows_115 rfl ?_
              refine mm_getf (v := .ref (m + 6)) d_Model_writeRows_116 cl_Model fl_Model_25_Model (by decide) H.1 rfl ?_
              refine mm_iload d_Model_writeRows_119 rfl ?_
              refine mx_ald (E := 64 * p) (v := (upd (upd (upd (A 5) (64 * p + 2) 0) (64 * p + k) v) (64 * p + 1) v) (64 * p)) d_Model_writeRows_121 (mh_5 H) (by omega) (by decide) (show (upd (upd (upd (A 5) (64 * p + 2) 0) (64 * p + k) v) (64 * p + 1) v) (64 * p) = (upd (upd (upd (A 5) (64 * p + 2) 0) (64 * p + k) v) (64 * p + 1) v) (64 * p) from rfl) ?_
              refine mx_ast (E := p) d_Model_writeRows_122 (mh_7 H) (by omega) (by decide) ?_
              refine mh_a (j := 7) (f := (upd (A 7) p ((upd (upd (upd (A 5) (64 * p + 2) 0) (64 * p + k) v) (64 * p + 1) v) (64 * p)))) (by decide) H F (fun h H F => ?_)
              exact mm_return d_Model_writeRows_123 rfl (MX.of (rfl) (rfl) (by first | (simp [m_wr, c_12, c_23, c_39, c_54, c_74, c_84]; done) | (exfalso; omega) | (simp_all [m_wr]; done) | (have h8 : k = 1 := by omega; subst h8; simp_all [m_wr]; done) | (have h8 : ¬ k = 0 ∧ ¬ k = 1 ∧ ¬ k = 2 := by omega; simp_all [m_wr]; done)) H F)
            · refine mm_iload_n d_Model_writeRows_87 rfl ?_
              refine mm_iconst (v := 2) d_Model_writeRows_88 (by decide) ?_
              refine mm_icmp_ne (tgt := 123) d_Model_writeRows_89 (by decide) (fun c_89 => ?_) (fun c_89 => ?_)
              · exact mm_return d_Model_writeRows_123 rfl (MX.of (rfl) (rfl) (by first | (simp [m_wr, c_12, c_23, c_39, c_54, c_74, c_84, c_89]; done) | (exfalso; omega) | (simp_all [m_wr]; done) | (have h8 : k = 1 := by omega; subst h8; simp_all [m_wr]; done) | (have h8 : ¬ k = 0 ∧ ¬ k = 1 ∧ ¬ k = 2 := by omega; simp_all [m_wr]; done)) H F)
              · refine mm_aload_n d_Model_writeRows_92 rfl ?_
                refine mm_getf (v := .ref (m + 6)) d_Model_writeRows_93 cl_Model fl_Model_25_Model (by decide) H.1 rfl ?_
                refine mm_iload d_Model_writeRows_96 rfl ?_
                refine mm_iconst (v := 1) d_Model_writeRows_98 (by decide) ?_
                refine mx_add (a := 64 * p) (b := 1) (c := 64 * p + 1) d_Model_writeRows_99 (by omega) ?_
                refine mm_iload_n d_Model_writeRows_100 rfl ?_
                refine mx_ast (E := 64 * p + 1) d_Model_writeRows_101 (mh_5 H) (by omega) (by decide) ?_
                refine mh_a (j := 5) (f := (upd (upd (upd (A 5) (64 * p + 2) 0) (64 * p + k) v) (64 * p + 1) v)) (by decide) H F (fun h H F => ?_)
                refine mm_aload_n d_Model_writeRows_102 rfl ?_
                refine mm_getf (v := .ref (m + 7)) d_Model_writeRows_103 cl_Model fl_Model_28_Model (by decide) H.1 rfl ?_
                refine mm_iload_n d_Model_writeRows_106 rfl ?_
                refine mm_bipush (v := 10) d_Model_writeRows_107 (by decide) ?_
                refine mx_ast (E := p) d_Model_writeRows_109 (mh_6 H) (by omega) (by decide) ?_
                refine mh_a (j := 6) (f := (upd (A 6) p 10)) (by decide) H F (fun h H F => ?_)
                refine mm_aload_n d_Model_writeRows_110 rfl ?_
                refine mm_getf (v := .ref (m + 8)) d_Model_writeRows_111 cl_Model fl_Model_31_Model (by decide) H.1 rfl ?_
                refine mm_iload_n d_Model_writeRows_114 rfl ?_
                refine mm_aload_n d_Model_writeRows_115 rfl ?_
                refine mm_getf (v := .ref (m + 6)) d_Model_writeRows_116 cl_Model fl_Model_25_Model (by decide) H.1 rfl ?_
                refine mm_iload d_Model_writeRows_119 rfl ?_
                refine mx_ald (E := 64 * p) (v := (upd (upd (upd (A 5) (64 * p + 2) 0) (64 * p + k) v) (64 * p + 1) v) (64 * p)) d_Model_writeRows_121 (mh_5 H) (by omega) (by decide) (show (upd (upd (upd (A 5) (64 * p + 2) 0) (64 * p + k) v) (64 * p + 1) v) (64 * p) = (upd (upd (upd (A 5) (64 * p + 2) 0) (64 * p + k) v) (64 * p + 1) v) (64 * p) from rfl) ?_
                refine mx_ast (E := p) d_Model_writeRows_122 (mh_7 H) (by omega) (by decide) ?_
                refine mh_a (j := 7) (f := (upd (A 7) p ((upd (upd (upd (A 5) (64 * p + 2) 0) (64 * p + k) v) (64 * p + 1) v) (64 * p)))) (by decide) H F (fun h H F => ?_)
                exact mm_return d_Model_writeRows_123 rfl (MX.of (rfl) (rfl) (by first | (simp [m_wr, c_12, c_23, c_39, c_54, c_74, c_84, c_89]; done) | (exfalso; omega) | (simp_all [m_wr]; done) | (have h8 : k = 1 := by omega; subst h8; simp_all [m_wr]; done) | (have h8 : ¬ k = 0 ∧ ¬ k = 1 ∧ ¬ k = 2 := by omega; simp_all [m_wr]; done)) H F)
    · refine mm_aload_n d_Model_writeRows_26 rfl ?_
      refine mm_getf (v := .ref (m + 6)) d_Model_writeRows_27 cl_Model fl_Model_25_Model (by decide) H.1 rfl ?_
      refine mm_iload d_Model_writeRows_30 rfl ?_
      refine mm_iload_n d_Model_writeRows_32 rfl ?_
      refine mm_bipush (v := 7) d_Model_writeRows_33 (by decide) ?_
      refine mm_iand d_Model_writeRows_35 ?_
      refine mx_ast (E := 64 * p) d_Model_writeRows_36 (mh_5 H) (by omega) (by decide) ?_
      refine mh_a (j := 5) (f := (upd (A 5) (64 * p) (v &&& 7))) (by decide) H F (fun h H F => ?_)
      refine mm_iload_n d_Model_writeRows_37 rfl ?_
      refine mm_iconst (v := 2) d_Model_writeRows_38 (by decide) ?_
      refine mx_icmp_ne (a := k) (b := 2) (tgt := 52) d_Model_writeRows_39 (by decide) (by omega) (by omega) (fun c_39 => ?_) (fun c_39 => ?_)
      · refine mm_iload_n d_Model_writeRows_52 rfl ?_
        refine mm_iconst (v := 2) d_Model_writeRows_53 (by decide) ?_
        refine mx_icmp_le (a := k) (b := 2) (tgt := 72) d_Model_writeRows_54 (by decide) (by omega) (by omega) (fun c_54 => ?_) (fun c_54 => ?_)
        · refine mm_iload_n d_Model_writeRows_72 rfl ?_
          refine mm_iconst (v := 1) d_Model_writeRows_73 (by decide) ?_
          refine mx_icmp_ne (a := k) (b := 1) (tgt := 123) d_Model_writeRows_74 (by decide) (by omega) (by omega) (fun c_74 => ?_) (fun c_74 => ?_)
          · exact mm_return d_Model_writeRows_123 rfl (MX.of (rfl) (rfl) (by first | (simp [m_wr, c_12, c_23, c_39, c_54, c_74]; done) | (exfalso; omega) | (simp_all [m_wr]; done) | (have h8 : k = 1 := by omega; subst h8; simp_all [m_wr]; done) | (have h8 : ¬ k = 0 ∧ ¬ k = 1 ∧ ¬ k = 2 := by omega; simp_all [m_wr]; done)) H F)
          · refine mm_iload d_Model_writeRows_77 rfl ?_
            refine mm_if_ne (tgt := 123) d_Model_writeRows_79 (by decide) (fun c9 => absurd c9 (by decide)) (fun _ => ?_)
            refine mm_iload_n d_Model_writeRows_82 rfl ?_
            refine mm_iconst (v := 1) d_Model_writeRows_83 (by decide) ?_
            refine mm_icmp_eq (tgt := 92) d_Model_writeRows_84 (by decide) (fun c_84 => ?_) (fun c_84 => ?_)
            · refine mm_aload_n d_Model_writeRows_92 rfl ?_
              refine mm_getf (v := .ref (m + 6)) d_Model_writeRows_93 cl_Model fl_Model_25_Model (by decide) H.1 rfl ?_
              refine mm_iload d_Model_writeRows_96 rfl ?_
              refine mm_iconst (v := 1) d_Model_writeRows_98 (by decide) ?_
              refine mx_add (a := 64 * p) (b := 1) (c := 64 * p + 1) d_Model_writeRows_99 (by omega) ?_
              refine mm_iload_n d_Model_writeRows_100 rfl ?_
              refine mx_ast (E := 64 * p + 1) d_Model_writeRows_101 (mh_5 H) (by omega) (by decide) ?_
              refine mh_a (j := 5) (f := (upd (upd (A 5) (64 * p) (v &&& 7)) (64 * p + 1) v)) (by decide) H F (fun h H F => ?_)
              refine mm_aload_n d_Model_writeRows_102 rfl ?_
              refine mm_getf (v := .ref (m + 7)) d_Model_writeRows_103 cl_Model fl_Model_28_Model (by decide) H.1 rfl ?_
              refine mm_iload_n d_Model_writeRows_106 rfl ?_
              refine mm_bipush (v := 10) d_Model_writeRows_107 (by decide) ?_
              refine mx_ast (E := p) d_Model_writeRows_109 (mh_6 H) (by omega) (by decide) ?_
              refine mh_a (j := 6) (f := (upd (A 6) p 10)) (by decide) H F (fun h H F => ?_)
              refine mm_aload_n d_Model_writeRows_110 rfl ?_
              refine mm_getf (v := .ref (m + 8)) d_Model_writeRows_111 cl_Model fl_Model_31_Model (by decide) H.1 rfl ?_
              refine mm_iload_n d_Model_writeRows_114 rfl ?_
              refine mm_aload_n d_Model_writeRows_115 rfl ?_
              refine mm_getf (v := .ref (m + 6)) d_Model_writeRows_116 cl_Model fl_Model_25_Model (by decide) H.1 rfl ?_
              refine mm_iload d_Model_writeRows_119 rfl ?_
              refine mx_ald (E := 64 * p) (v := v &&& 7) d_Model_writeRows_121 (mh_5 H) (by omega) (by decide) (show (upd (upd (A 5) (64 * p) (v &&& 7)) (64 * p + 1) v) (64 * p) = v &&& 7 from (by simp [upd])) ?_
              refine mx_ast (E := p) d_Model_writeRows_122 (mh_7 H) (by omega) (by decide) ?_
              refine mh_a (j := 7) (f := (upd (A 7) p (v &&& 7))) (by decide) H F (fun h H F => ?_)
              exact mm_return d_Model_writeRows_123 rfl (MX.of (rfl) (rfl) (by first | (simp [m_wr, c_12, c_23, c_39, c_54, c_74, c_84]; done) | (exfalso; omega) | (simp_all [m_wr]; done) | (have h8 : k = 1 := by omega; subst h8; simp_all [m_wr]; done) | (have h8 : ¬ k = 0 ∧ ¬ k = 1 ∧ ¬ k = 2 := by omega; simp_all [m_wr]; done)) H F)
            · refine mm_iload_n d_Model_writeRows_87 rfl ?_
              refine mm_iconst (v := 2) d_Model_writeRows_88 (by decide) ?_
              refine mm_icmp_ne (tgt := 123) d_Model_writeRows_89 (by decide) (fun c_89 => ?_) (fun c_89 => ?_)
              · exact mm_return d_Model_writeRows_123 rfl (MX.of (rfl) (rfl) (by first | (simp [m_wr, c_12, c_23, c_39, c_54, c_74, c_84, c_89]; done) | (exfalso; omega) | (simp_all [m_wr]; done) | (have h8 : k = 1 := by omega; subst h8; simp_all [m_wr]; done) | (have h8 : ¬ k = 0 ∧ ¬ k = 1 ∧ ¬ k = 2 := by omega; simp_all [m_wr]; done)) H F)
              · refine mm_aload_n d_Model_writeRows_92 rfl ?_
                refine mm_getf (v := .ref (m + 6)) d_Model_writeRows_93 cl_Model fl_Model_25_Model (by decide) H.1 rfl ?_
                refine mm_iload d_Model_writeRows_96 rfl ?_
                refine mm_iconst (v := 1) d_Model_writeRows_98 (by decide) ?_
                refine mx_add (a := 64 * p) (b := 1) (c := 64 * p + 1) d_Model_writeRows_99 (by omega) ?_
                refine mm_iload_n d_Model_writeRows_100 rfl ?_
                refine mx_ast (E := 64 * p + 1) d_Model_writeRows_101 (mh_5 H) (by omega) (by decide) ?_
                refine mh_a (j := 5) (f := (upd (upd (A 5) (64 * p) (v &&& 7)) (64 * p + 1) v)) (by decide) H F (fun h H F => ?_)
                refine mm_aload_n d_Model_writeRows_102 rfl ?_
                refine mm_getf (v := .ref (m + 7)) d_Model_writeRows_103 cl_Model fl_Model_28_Model (by decide) H.1 rfl ?_
                refine mm_iload_n d_Model_writeRows_106 rfl ?_
                refine mm_bipush (v := 10) d_Model_writeRows_107 (by decide) ?_
                refine mx_ast (E := p) d_Model_writeRows_109 (mh_6 H) (by omega) (by decide) ?_
                refine mh_a (j := 6) (f := (upd (A 6) p 10)) (by decide) H F (fun h H F => ?_)
                refine mm_aload_n d_Model_writeRows_110 rfl ?_
                refine mm_getf (v := .ref (m + 8)) d_Model_writeRows_111 cl_Model fl_Model_31_Model (by decide) H.1 rfl ?_
                refine mm_iload_n d_Model_writeRows_114 rfl ?_
                refine mm_aload_n d_Model_writeRows_115 rfl ?_
                refine mm_getf (v := .ref (m + 6)) d_Model_writeRows_116 cl_Model fl_Model_25_Model (by decide) H.1 rfl ?_
                refine mm_iload d_Model_writeRows_119 rfl ?_
                refine mx_ald (E := 64 * p) (v := v &&& 7) d_Model_writeRows_121 (mh_5 H) (by omega) (by decide) (show (upd (upd (A 5) (64 * p) (v &&& 7)) (64 * p + 1) v) (64 * p) = v &&& 7 from (by simp [upd])) ?_
                refine mx_ast (E := p) d_Model_writeRows_122 (mh_7 H) (by omega) (by decide) ?_
                refine mh_a (j := 7) (f := (upd (A 7) p (v &&& 7))) (by decide) H F (fun h H F => ?_)
                exact mm_return d_Model_writeRows_123 rfl (MX.of (rfl) (rfl) (by first | (simp [m_wr, c_12, c_23, c_39, c_54, c_74, c_84, c_89]; done) | (exfalso; omega) | (simp_all [m_wr]; done) | (have h8 : k = 1 := by omega; subst h8; simp_all [m_wr]; done) | (have h8 : ¬ k = 0 ∧ ¬ k = 1 ∧ ¬ k = 2 := by omega; simp_all [m_wr]; done)) H F)
        · refine mm_iload d_Model_writeRows_57 rfl ?_
          refine mm_if_ne (tgt := 72) d_Model_writeRows_59 (by decide) (fun c9 => absurd c9 (by decide)) (fun _ => ?_)
          refine mm_aload_n d_Model_writeRows_62 rfl ?_
          refine mm_getf (v := .ref (m + 6)) d_Model_writeRows_63 cl_Model fl_Model_25_Model (by decide) H.1 rfl ?_
          refine mm_iload d_Model_writeRows_66 rfl ?_
          refine mm_iload_n d_Model_writeRows_68 rfl ?_
          refine mx_add (a := 64 * p) (b := k) (c := 64 * p + k) d_Model_writeRows_69 (by omega) ?_
          refine mm_iload_n d_Model_writeRows_70 rfl ?_
          refine mx_ast (E := 64 * p + k) d_Model_writeRows_71 (mh_5 H) (by omega) (by decide) ?_
          refine mh_a (j := 5) (f := (upd (upd (A 5) (64 * p) (v &&& 7)) (64 * p + k) v)) (by decide) H F (fun h H F => ?_)
          refine mm_iload_n d_Model_writeRows_72 rfl ?_
          refine mm_iconst (v := 1) d_Model_writeRows_73 (by decide) ?_
          refine mx_icmp_ne (a := k) (b := 1) (tgt := 123) d_Model_writeRows_74 (by decide) (by omega) (by omega) (fun c_74 => ?_) (fun c_74 => ?_)
          · exact mm_return d_Model_writeRows_123 rfl (MX.of (rfl) (rfl) (by first | (simp [m_wr, c_12, c_23, c_39, c_54, c_74]; done) | (exfalso; omega) | (simp_all [m_wr]; done) | (have h8 : k = 1 := by omega; subst h8; simp_all [m_wr]; done) | (have h8 : ¬ k = 0 ∧ ¬ k = 1 ∧ ¬ k = 2 := by omega; simp_all [m_wr]; done)) H F)
          · refine mm_iload d_Model_writeRows_77 rfl ?_
            refine mm_if_ne (tgt := 123) d_Model_writeRows_79 (by decide) (fun c9 => absurd c9 (by decide)) (fun _ => ?_)
            refine mm_iload_n d_Model_writeRows_82 rfl ?_
            refine mm_iconst (v := 1) d_Model_writeRows_83 (by decide) ?_
            refine mm_icmp_eq (tgt := 92) d_Model_writeRows_84 (by decide) (fun c_84 => ?_) (fun c_84 => ?_)
            · refine mm_aload_n d_Model_writeRows_92 rfl ?_
              refine mm_getf (v := .ref (m + 6)) d_Model_writeRows_93 cl_Model fl_Model_25_Model (by decide) H.1 rfl ?_
              refine mm_iload d_Model_writeRows_96 rfl ?_
              refine mm_iconst (v := 1) d_Model_writeRows_98 (by decide) ?_
              refine mx_add (a := 64 * p) (b := 1) (c := 64 * p + 1) d_Model_writeRows_99 (by omega) ?_
              refine mm_iload_n d_Model_writeRows_100 rfl ?_
              refine mx_ast (E := 64 * p + 1) d_Model_writeRows_101 (mh_5 H) (by omega) (by decide) ?_
              refine mh_a (j := 5) (f := (upd (upd (upd (A 5) (64 * p) (v &&& 7)) (64 * p + k) v) (64 * p + 1) v)) (by decide) H F (fun h H F => ?_)
              refine mm_aload_n d_Model_writeRows_102 rfl ?_
              refine mm_getf (v := .ref (m + 7)) d_Model_writeRows_103 cl_Model fl_Model_28_Model (by decide) H.1 rfl ?_
              refine mm_iload_n d_Model_writeRows_106 rfl ?_
              refine mm_bipush (v := 10) d_Model_writeRows_107 (by decide) ?_
              refine mx_ast (E := p) d_Model_writeRows_109 (mh_6 H) (by omega) (by decide) ?_
              refine mh_a (j := 6) (f := (upd (A 6) p 10)) (by decide) H F (fun h H F => ?_)
              refine mm_aload_n d_Model_writeRows_110 rfl ?_
              refine mm_getf (v := .ref (m + 8)) d_Model_writeRows_111 cl_Model fl_Model_31_Model (by decide) H.1 rfl ?_
              refine mm_iload_n d_Model_writeRows_114 rfl ?_
              refine mm_aload_n d_Model_writeRows_115 rfl ?_
              refine mm_getf (v := .ref (m + 6)) d_Model_writeRows_116 cl_Model fl_Model_25_Model (by decide) H.1 rfl ?_
              refine mm_iload d_Model_writeRows_119 rfl ?_
              refine mx_ald (E := 64 * p) (v := (upd (upd (upd (A 5) (64 * p) (v &&& 7)) (64 * p + k) v) (64 * p + 1) v) (64 * p)) d_Model_writeRows_121 (mh_5 H) (by omega) (by decide) (show (upd (upd (upd (A 5) (64 * p) (v &&& 7)) (64 * p + k) v) (64 * p + 1) v) (64 * p) = (upd (upd (upd (A 5) (64 * p) (v &&& 7)) (64 * p + k) v) (64 * p + 1) v) (64 * p) from rfl) ?_
              refine mx_ast (E := p) d_Model_writeRows_122 (mh_7 H) (by omega) (by decide) ?_
              refine mh_a (j := 7) (f := (upd (A 7) p ((upd (upd (upd (A 5) (64 * p) (v &&& 7)) (64 * p + k) v) (64 * p + 1) v) (64 * p)))) (by decide) H F (fun h H F => ?_)
              exact mm_return d_Model_writeRows_123 rfl (MX.of (rfl) (rfl) (by first | (simp [m_wr, c_12, c_23, c_39, c_54, c_74, c_84]; done) | (exfalso; omega) | (simp_all [m_wr]; done) | (have h8 : k = 1 := by omega; subst h8; simp_all [m_wr]; done) | (have h8 : ¬ k = 0 ∧ ¬ k = 1 ∧ ¬ k = 2 := by omega; simp_all [m_wr]; done)) H F)
            · refine mm_iload_n d_Model_writeRows_87 rfl ?_
              refine mm_iconst (v := 2) d_Model_writeRows_88 (by decide) ?_
              refine mm_icmp_ne (tgt := 123) d_Model_writeRows_89 (by decide) (fun c_89 => ?_) (fun c_89 => ?_)
              · exact mm_return d_Model_writeRows_123 rfl (MX.of (rfl) (rfl) (by first | (simp [m_wr, c_12, c_23, c_39, c_54, c_74, c_84, c_89]; done) | (exfalso; omega) | (simp_all [m_wr]; done) | (have h8 : k = 1 := by omega; subst h8; simp_all [m_wr]; done) | (have h8 : ¬ k = 0 ∧ ¬ k = 1 ∧ ¬ k = 2 := by omega; simp_all [m_wr]; done)) H F)
              · refine mm_aload_n d_Model_writeRows_92 rfl ?_
                refine mm_getf (v := .ref (m + 6)) d_Model_writeRows_93 cl_Model fl_Model_25_Model (by decide) H.1 rfl ?_
                refine mm_iload d_Model_writeRows_96 rfl ?_
                refine mm_iconst (v := 1) d_Model_writeRows_98 (by decide) ?_
                refine mx_add (a := 64 * p) (b := 1) (c := 64 * p + 1) d_Model_writeRows_99 (by omega) ?_
                refine mm_iload_n d_Model_writeRows_100 rfl ?_
                refine mx_ast (E := 64 * p + 1) d_Model_writeRows_101 (mh_5 H) (by omega) (by decide) ?_
                refine mh_a (j := 5) (f := (upd (upd (upd (A 5) (64 * p) (v &&& 7)) (64 * p + k) v) (64 * p + 1) v)) (by decide) H F (fun h H F => ?_)
                refine mm_aload_n d_Model_writeRows_102 rfl ?_
                refine mm_getf (v := .ref (m + 7)) d_Model_writeRows_103 cl_Model fl_Model_28_Model (by decide) H.1 rfl ?_
                refine mm_iload_n d_Model_writeRows_106 rfl ?_
                refine mm_bipush (v := 10) d_Model_writeRows_107 (by decide) ?_
                refine mx_ast (E := p) d_Model_writeRows_109 (mh_6 H) (by omega) (by decide) ?_
                refine mh_a (j := 6) (f := (upd (A 6) p 10)) (by decide) H F (fun h H F => ?_)
                refine mm_aload_n d_Model_writeRows_110 rfl ?_
                refine mm_getf (v := .ref (m + 8)) d_Model_writeRows_111 cl_Model fl_Model_31_Model (by decide) H.1 rfl ?_
                refine mm_iload_n d_Model_writeRows_114 rfl ?_
                refine mm_aload_n d_Model_writeRows_115 rfl ?_
                refine mm_getf (v := .ref (m + 6)) d_Model_writeRows_116 cl_Model fl_Model_25_Model (by decide) H.1 rfl ?_
                refine mm_iload d_Model_writeRows_119 rfl ?_
                refine mx_ald (E := 64 * p) (v := (upd (upd (upd (A 5) (64 * p) (v &&& 7)) (64 * p + k) v) (64 * p + 1) v) (64 * p)) d_Model_writeRows_121 (mh_5 H) (by omega) (by decide) (show (upd (upd (upd (A 5) (64 * p) (v &&& 7)) (64 * p + k) v) (64 * p + 1) v) (64 * p) = (upd (upd (upd (A 5) (64 * p) (v &&& 7)) (64 * p + k) v) (64 * p + 1) v) (64 * p) from rfl) ?_
                refine mx_ast (E := p) d_Model_writeRows_122 (mh_7 H) (by omega) (by decide) ?_
                refine mh_a (j := 7) (f := (upd (A 7) p ((upd (upd (upd (A 5) (64 * p) (v &&& 7)) (64 * p + k) v) (64 * p + 1) v) (64 * p)))) (by decide) H F (fun h H F => ?_)
                exact mm_return d_Model_writeRows_123 rfl (MX.of (rfl) (rfl) (by first | (simp [m_wr, c_12, c_23, c_39, c_54, c_74, c_84, c_89]; done) | (exfalso; omega) | (simp_all [m_wr]; done) | (have h8 : k = 1 := by omega; subst h8; simp_all [m_wr]; done) | (have h8 : ¬ k = 0 ∧ ¬ k = 1 ∧ ¬ k = 2 := by omega; simp_all [m_wr]; done)) H F)
      · refine mm_aload_n d_Model_writeRows_42 rfl ?_
        refine mm_getf (v := .ref (m + 6)) d_Model_writeRows_43 cl_Model fl_Model_25_Model (by decide) H.1 rfl ?_
        refine mm_iload d_Model_writeRows_46 rfl ?_
        refine mm_iconst (v := 2) d_Model_writeRows_48 (by decide) ?_
        refine mx_add (a := 64 * p) (b := 2) (c := 64 * p + 2) d_Model_writeRows_49 (by omega) ?_
        refine mm_iconst (v := 0) d_Model_writeRows_50 (by decide) ?_
        refine mx_ast (E := 64 * p + 2) d_Model_writeRows_51 (mh_5 H) (by omega) (by decide) ?_
        refine mh_a (j := 5) (f := (upd (upd (A 5) (64 * p) (v &&& 7)) (64 * p + 2) 0)) (by decide) H F (fun h H F => ?_)
        refine mm_iload_n d_Model_writeRows_52 rfl ?_
        refine mm_iconst (v := 2) d_Model_writeRows_53 (by decide) ?_
        refine mx_icmp_le (a := k) (b := 2) (tgt := 72) d_Model_writeRows_54 (by decide) (by omega) (by omega) (fun c_54 => ?_) (fun c_54 => ?_)
        · refine mm_iload_n d_Model_writeRows_72 rfl ?_
          refine mm_iconst (v := 1) d_Model_writeRows_73 (by decide) ?_
          refine mx_icmp_ne (a := k) (b := 1) (tgt := 123) d_Model_writeRows_74 (by decide) (by omega) (by omega) (fun c_74 => ?_) (fun c_74 => ?_)
          · exact mm_return d_Model_writeRows_123 rfl (MX.of (rfl) (rfl) (by first | (simp [m_wr, c_12, c_23, c_39, c_54, c_74]; done) | (exfalso; omega) | (simp_all [m_wr]; done) | (have h8 : k = 1 := by omega; subst h8; simp_all [m_wr]; done) | (have h8 : ¬ k = 0 ∧ ¬ k = 1 ∧ ¬ k = 2 := by omega; simp_all [m_wr]; done)) H F)
          · refine mm_iload d_Model_writeRows_77 rfl ?_
            refine mm_if_ne (tgt := 123) d_Model_writeRows_79 (by decide) (fun c9 => absurd c9 (by decide)) (fun _ => ?_)
            refine mm_iload_n d_Model_writeRows_82 rfl ?_
            refine mm_iconst (v := 1) d_Model_writeRows_83 (by decide) ?_
            refine mm_icmp_eq (tgt := 92) d_Model_writeRows_84 (by decide) (fun c_84 => ?_) (fun c_84 => ?_)
            · refine mm_aload_n d_Model_writeRows_92 rfl ?_
              refine mm_getf (v := .ref (m + 6)) d_Model_writeRows_93 cl_Model fl_Model_25_Model (by decide) H.1 rfl ?_
              refine mm_iload d_Model_writeRows_96 rfl ?_
              refine mm_iconst (v := 1) d_Model_writeRows_98 (by decide) ?_
              refine mx_add (a := 64 * p) (b := 1) (c := 64 * p + 1) d_Model_writeRows_99 (by omega) ?_
              refine mm_iload_n d_Model_writeRows_100 rfl ?_
              refine mx_ast (E := 64 * p + 1) d_Model_writeRows_101 (mh_5 H) (by omega) (by decide) ?_
              refine mh_a (j := 5) (f := (upd (upd (upd (A 5) (64 * p) (v &&& 7)) (64 * p + 2) 0) (64 * p + 1) v)) (by decide) H F (fun h H F => ?_)
              refine mm_aload_n d_Model_writeRows_102 rfl ?_
              refine mm_getf (v := .ref (m + 7)) d_Model_writeRows_103 cl_Model fl_Model_28_Model (by decide) H.1 rfl ?_
              refine mm_iload_n d_Model_writeRows_106 rfl ?_
              refine mm_bipush (v := 10) d_Model_writeRows_107 (by decide) ?_
              refine mx_ast (E := p) d_Model_writeRows_109 (mh_6 H) (by omega) (by decide) ?_
              refine mh_a (j := 6) (f := (upd (A 6) p 10)) (by decide) H F (fun h H F => ?_)
              refine mm_aload_n d_Model_writeRows_110 rfl ?_
              refine mm_getf (v := .ref (m + 8)) d_Model_writeRows_111 cl_Model fl_Model_31_Model (by decide) H.1 rfl ?_
              refine mm_iload_n d_Model_writeRows_114 rfl ?_
              refine mm_aload_n d_Model_writeRows_115 rfl ?_
              refine mm_getf (v := .ref (m + 6)) d_Model_writeRows_116 cl_Model fl_Model_25_Model (by decide) H.1 rfl ?_
              refine mm_iload d_Model_writeRows_119 rfl ?_
              refine mx_ald (E := 64 * p) (v := v &&& 7) d_Model_writeRows_121 (mh_5 H) (by omega) (by decide) (show (upd (upd (upd (A 5) (64 * p) (v &&& 7)) (64 * p + 2) 0) (64 * p + 1) v) (64 * p) = v &&& 7 from (by simp [upd])) ?_
              refine mx_ast (E := p) d_Model_writeRows_122 (mh_7 H) (by omega) (by decide) ?_
              refine mh_a (j := 7) (f := (upd (A 7) p (v &&& 7))) (by decide) H F (fun h H F => ?_)
              exact mm_return d_Model_writeRows_123 rfl (MX.of (rfl) (rfl) (by first | (simp [m_wr, c_12, c_23, c_39, c_54, c_74, c_84]; done) | (exfalso; omega) | (simp_all [m_wr]; done) | (have h8 : k = 1 := by omega; subst h8; simp_all [m_wr]; done) | (have h8 : ¬ k = 0 ∧ ¬ k = 1 ∧ ¬ k = 2 := by omega; simp_all [m_wr]; done)) H F)
            · refine mm_iload_n d_Model_writeRows_87 rfl ?_
              refine mm_iconst (v := 2) d_Model_writeRows_88 (by decide) ?_
              refine mm_icmp_ne (tgt := 123) d_Model_writeRows_89 (by decide) (fun c_89 => ?_) (fun c_89 => ?_)
              · exact mm_return d_Model_writeRows_123 rfl (MX.of (rfl) (rfl) (by first | (simp [m_wr, c_12, c_23, c_39, c_54, c_74, c_84, c_89]; done) | (exfalso; omega) | (simp_all [m_wr]; done) | (have h8 : k = 1 := by omega; subst h8; simp_all [m_wr]; done) | (have h8 : ¬ k = 0 ∧ ¬ k = 1 ∧ ¬ k = 2 := by omega; simp_all [m_wr]; done)) H F)
              · refine mm_aload_n d_Model_writeRows_92 rfl ?_
                refine mm_getf (v := .ref (m + 6)) d_Model_writeRows_93 cl_Model fl_Model_25_Model (by decide) H.1 rfl ?_
                refine mm_iload d_Model_writeRows_96 rfl ?_
                refine mm_iconst (v := 1) d_Model_writeRows_98 (by decide) ?_
                refine mx_add (a := 64 * p) (b := 1) (c := 64 * p + 1) d_Model_writeRows_99 (by omega) ?_
                refine mm_iload_n d_Model_writeRows_100 rfl ?_
                refine mx_ast (E := 64 * p + 1) d_Model_writeRows_101 (mh_5 H) (by omega) (by decide) ?_
                refine mh_a (j := 5) (f := (upd (upd (upd (A 5) (64 * p) (v &&& 7)) (64 * p + 2) 0) (64 * p + 1) v)) (by decide) H F (fun h H F => ?_)
                refine mm_aload_n d_Model_writeRows_102 rfl ?_
                refine mm_getf (v := .ref (m + 7)) d_Model_writeRows_103 cl_Model fl_Model_28_Model (by decide) H.1 rfl ?_
                refine mm_iload_n d_Model_writeRows_106 rfl ?_
                refine mm_bipush (v := 10) d_Model_writeRows_107 (by decide) ?_
                refine mx_ast (E := p) d_Model_writeRows_109 (mh_6 H) (by omega) (by decide) ?_
                refine mh_a (j := 6) (f := (upd (A 6) p 10)) (by decide) H F (fun h H F => ?_)
                refine mm_aload_n d_Model_writeRows_110 rfl ?_
                refine mm_getf (v := .ref (m + 8)) d_Model_writeRows_111 cl_Model fl_Model_31_Model (by decide) H.1 rfl ?_
                refine mm_iload_n d_Model_writeRows_114 rfl ?_
                refine mm_aload_n d_Model_writeRows_115 rfl ?_
                refine mm_getf (v := .ref (m + 6)) d_Model_writeRows_116 cl_Model fl_Model_25_Model (by decide) H.1 rfl ?_
                refine mm_iload d_Model_writeRows_119 rfl ?_
                refine mx_ald (E := 64 * p) (v := v &&& 7) d_Model_writeRows_121 (mh_5 H) (by omega) (by decide) (show (upd (upd (upd (A 5) (64 * p) (v &&& 7)) (64 * p + 2) 0) (64 * p + 1) v) (64 * p) = v &&& 7 from (by simp [upd])) ?_
                refine mx_ast (E := p) d_Model_writeRows_122 (mh_7 H) (by omega) (by decide) ?_
                refine mh_a (j := 7) (f := (upd (A 7) p (v &&& 7))) (by decide) H F (fun h H F => ?_)
                exact mm_return d_Model_writeRows_123 rfl (MX.of (rfl) (rfl) (by first | (simp [m_wr, c_12, c_23, c_39, c_54, c_74, c_84, c_89]; done) | (exfalso; omega) | (simp_all [m_wr]; done) | (have h8 : k = 1 := by omega; subst h8; simp_all [m_wr]; done) | (have h8 : ¬ k = 0 ∧ ¬ k = 1 ∧ ¬ k = 2 := by omega; simp_all [m_wr]; done)) H F)
        · refine mm_iload d_Model_writeRows_57 rfl ?_
          refine mm_if_ne (tgt := 72) d_Model_writeRows_59 (by decide) (fun c9 => absurd c9 (by decide)) (fun _ => ?_)
          refine mm_aload_n d_Model_writeRows_62 rfl ?_
          refine mm_getf (v := .ref (m + 6)) d_Model_writeRows_63 cl_Model fl_Model_25_Model (by decide) H.1 rfl ?_
          refine mm_iload d_Model_writeRows_66 rfl ?_
          refine mm_iload_n d_Model_writeRows_68 rfl ?_
          refine mx_add (a := 64 * p) (b := k) (c := 64 * p + k) d_Model_writeRows_69 (by omega) ?_
          refine mm_iload_n d_Model_writeRows_70 rfl ?_
          refine mx_ast (E := 64 * p + k) d_Model_writeRows_71 (mh_5 H) (by omega) (by decide) ?_
          refine mh_a (j := 5) (f := (upd (upd (upd (A 5) (64 * p) (v &&& 7)) (64 * p + 2) 0) (64 * p + k) v)) (by decide) H F (fun h H F => ?_)
          refine mm_iload_n d_Model_writeRows_72 rfl ?_
          refine mm_iconst (v := 1) d_Model_writeRows_73 (by decide) ?_
          refine mx_icmp_ne (a := k) (b := 1) (tgt := 123) d_Model_writeRows_74 (by decide) (by omega) (by omega) (fun c_74 => ?_) (fun c_74 => ?_)
          · exact mm_return d_Model_writeRows_123 rfl (MX.of (rfl) (rfl) (by first | (simp [m_wr, c_12, c_23, c_39, c_54, c_74]; done) | (exfalso; omega) | (simp_all [m_wr]; done) | (have h8 : k = 1 := by omega; subst h8; simp_all [m_wr]; done) | (have h8 : ¬ k = 0 ∧ ¬ k = 1 ∧ ¬ k = 2 := by omega; simp_all [m_wr]; done)) H F)
          · refine mm_iload d_Model_writeRows_77 rfl ?_
            refine mm_if_ne (tgt := 123) d_Model_writeRows_79 (by decide) (fun c9 => absurd c9 (by decide)) (fun _ => ?_)
            refine mm_iload_n d_Model_writeRows_82 rfl ?_
            refine mm_iconst (v := 1) d_Model_writeRows_83 (by decide) ?_
            refine mm_icmp_eq (tgt := 92) d_Model_writeRows_84 (by decide) (fun c_84 => ?_) (fun c_84 => ?_)
            · refine mm_aload_n d_Model_writeRows_92 rfl ?_
              refine mm_getf (v := .ref (m + 6)) d_Model_writeRows_93 cl_Model fl_Model_25_Model (by decide) H.1 rfl ?_
              refine mm_iload d_Model_writeRows_96 rfl ?_
              refine mm_iconst (v := 1) d_Model_writeRows_98 (by decide) ?_
              refine mx_add (a := 64 * p) (b := 1) (c := 64 * p + 1) d_Model_writeRows_99 (by omega) ?_
              refine mm_iload_n d_Model_writeRows_100 rfl ?_
              refine mx_ast (E := 64 * p + 1) d_Model_writeRows_101 (mh_5 H) (by omega) (by decide) ?_
              refine mh_a (j := 5) (f := (upd (upd (upd (upd (A 5) (64 * p) (v &&& 7)) (64 * p + 2) 0) (64 * p + k) v) (64 * p + 1) v)) (by decide) H F (fun h H F => ?_)
              refine mm_aload_n d_Model_writeRows_102 rfl ?_
              refine mm_getf (v := .ref (m + 7)) d_Model_writeRows_103 cl_Model fl_Model_28_Model (by decide) H.1 rfl ?_
              refine mm_iload_n d_Model_writeRows_106 rfl ?_
              refine mm_bipush (v := 10) d_Model_writeRows_107 (by decide) ?_
              refine mx_ast (E := p) d_Model_writeRows_109 (mh_6 H) (by omega) (by decide) ?_
              refine mh_a (j := 6) (f := (upd (A 6) p 10)) (by decide) H F (fun h H F => ?_)
              refine mm_aload_n d_Model_writeRows_110 rfl ?_
              refine mm_getf (v := .ref (m + 8)) d_Model_writeRows_111 cl_Model fl_Model_31_Model (by decide) H.1 rfl ?_
              refine mm_iload_n d_Model_writeRows_114 rfl ?_
              refine mm_aload_n d_Model_writeRows_115 rfl ?_
              refine mm_getf (v := .ref (m + 6)) d_Model_writeRows_116 cl_Model fl_Model_25_Model (by decide) H.1 rfl ?_
              refine mm_iload d_Model_writeRows_119 rfl ?_
              refine mx_ald (E := 64 * p) (v := (upd (upd (upd (upd (A 5) (64 * p) (v &&& 7)) (64 * p + 2) 0) (64 * p + k) v) (64 * p + 1) v) (64 * p)) d_Model_writeRows_121 (mh_5 H) (by omega) (by decide) (show (upd (upd (upd (upd (A 5) (64 * p) (v &&& 7)) (64 * p + 2) 0) (64 * p + k) v) (64 * p + 1) v) (64 * p) = (upd (upd (upd (upd (A 5) (64 * p) (v &&& 7)) (64 * p + 2) 0) (64 * p + k) v) (64 * p + 1) v) (64 * p) from rfl) ?_
              refine mx_ast (E := p) d_Model_writeRows_122 (mh_7 H) (by omega) (by decide) ?_
              refine mh_a (j := 7) (f := (upd (A 7) p ((upd (upd (upd (upd (A 5) (64 * p) (v &&& 7)) (64 * p + 2) 0) (64 * p + k) v) (64 * p + 1) v) (64 * p)))) (by decide) H F (fun h H F => ?_)
              exact mm_return d_Model_writeRows_123 rfl (MX.of (rfl) (rfl) (by first | (simp [m_wr, c_12, c_23, c_39, c_54, c_74, c_84]; done) | (exfalso; omega) | (simp_all [m_wr]; done) | (have h8 : k = 1 := by omega; subst h8; simp_all [m_wr]; done) | (have h8 : ¬ k = 0 ∧ ¬ k = 1 ∧ ¬ k = 2 := by omega; simp_all [m_wr]; done)) H F)
            · refine mm_iload_n d_Model_writeRows_87 rfl ?_
              refine mm_iconst (v := 2) d_Model_writeRows_88 (by decide) ?_
              refine mm_icmp_ne (tgt := 123) d_Model_writeRows_89 (by decide) (fun c_89 => ?_) (fun c_89 => ?_)
              · exact mm_return d_Model_writeRows_123 rfl (MX.of (rfl) (rfl) (by first | (simp [m_wr, c_12, c_23, c_39, c_54, c_74, c_84, c_89]; done) | (exfalso; omega) | (simp_all [m_wr]; done) | (have h8 : k = 1 := by omega; subst h8; simp_all [m_wr]; done) | (have h8 : ¬ k = 0 ∧ ¬ k = 1 ∧ ¬ k = 2 := by omega; simp_all [m_wr]; done)) H F)
              · refine mm_aload_n d_Model_writeRows_92 rfl ?_
                refine mm_getf (v := .ref (m + 6)) d_Model_writeRows_93 cl_Model fl_Model_25_Model (by decide) H.1 rfl ?_
                refine mm_iload d_Model_writeRows_96 rfl ?_
                refine mm_iconst (v := 1) d_Model_writeRows_98 (by decide) ?_
                refine mx_add (a := 64 * p) (b := 1) (c := 64 * p + 1) d_Model_writeRows_99 (by omega) ?_
                refine mm_iload_n d_Model_writeRows_100 rfl ?_
                refine mx_ast (E := 64 * p + 1) d_Model_writeRows_101 (mh_5 H) (by omega) (by decide) ?_
                refine mh_a (j := 5) (f := (upd (upd (upd (upd (A 5) (64 * p) (v &&& 7)) (64 * p + 2) 0) (64 * p + k) v) (64 * p + 1) v)) (by decide) H F (fun h H F => ?_)
                refine mm_aload_n d_Model_writeRows_102 rfl ?_
                refine mm_getf (v := .ref (m + 7)) d_Model_writeRows_103 cl_Model fl_Model_28_Model (by decide) H.1 rfl ?_
                refine mm_iload_n d_Model_writeRows_106 rfl ?_
                refine mm_bipush (v := 10) d_Model_writeRows_107 (by decide) ?_
                refine mx_ast (E := p) d_Model_writeRows_109 (mh_6 H) (by omega) (by decide) ?_
                refine mh_a (j := 6) (f := (upd (A 6) p 10)) (by decide) H F (fun h H F => ?_)
                refine mm_aload_n d_Model_writeRows_110 rfl ?_
                refine mm_getf (v := .ref (m + 8)) d_Model_writeRows_111 cl_Model fl_Model_31_Model (by decide) H.1 rfl ?_
                refine mm_iload_n d_Model_writeRows_114 rfl ?_
                refine mm_aload_n d_Model_writeRows_115 rfl ?_
                refine mm_getf (v := .ref (m + 6)) d_Model_writeRows_116 cl_Model fl_Model_25_Model (by decide) H.1 rfl ?_
                refine mm_iload d_Model_writeRows_119 rfl ?_
                refine mx_ald (E := 64 * p) (v := (upd (upd (upd (upd (A 5) (64 * p) (v &&& 7)) (64 * p + 2) 0) (64 * p + k) v) (64 * p + 1) v) (64 * p)) d_Model_writeRows_121 (mh_5 H) (by omega) (by decide) (show (upd (upd (upd (upd (A 5) (64 * p) (v &&& 7)) (64 * p + 2) 0) (64 * p + k) v) (64 * p + 1) v) (64 * p) = (upd (upd (upd (upd (A 5) (64 * p) (v &&& 7)) (64 * p + 2) 0) (64 * p + k) v) (64 * p + 1) v) (64 * p) from rfl) ?_
                refine mx_ast (E := p) d_Model_writeRows_122 (mh_7 H) (by omega) (by decide) ?_
                refine mh_a (j := 7) (f := (upd (A 7) p ((upd (upd (upd (upd (A 5) (64 * p) (v &&& 7)) (64 * p + 2) 0) (64 * p + k) v) (64 * p + 1) v) (64 * p)))) (by decide) H F (fun h H F => ?_)
                exact mm_return d_Model_writeRows_123 rfl (MX.of (rfl) (rfl) (by first | (simp [m_wr, c_12, c_23, c_39, c_54, c_74, c_84, c_89]; done) | (exfalso; omega) | (simp_all [m_wr]; done) | (have h8 : k = 1 := by omega; subst h8; simp_all [m_wr]; done) | (have h8 : ¬ k = 0 ∧ ¬ k = 1 ∧ ¬ k = 2 := by omega; simp_all [m_wr]; done)) H F)
  · refine mm_iconst (v := 1) d_Model_writeRows_15 (by decide) ?_
    refine mm_goto (tgt := 20) d_Model_writeRows_16 (by decide) ?_
    refine mm_istore d_Model_writeRows_20 (by decide) ?_
    refine mm_iload_n d_Model_writeRows_22 rfl ?_
    refine mx_if_ne (a := k) (tgt := 37) d_Model_writeRows_23 (by decide) (by omega) (fun c_23 => ?_) (fun c_23 => ?_)
    · refine mm_iload_n d_Model_writeRows_37 rfl ?_
      refine mm_iconst (v := 2) d_Model_writeRows_38 (by decide) ?_
      refine mx_icmp_ne (a := k) (b := 2) (tgt := 52) d_Model_writeRows_39 (by decide) (by omega) (by omega) (fun c_39 => ?_) (fun c_39 => ?_)
      · refine mm_iload_n d_Model_writeRows_52 rfl ?_
        refine mm_iconst (v := 2) d_Model_writeRows_53 (by decide) ?_
        refine mx_icmp_le (a := k) (b := 2) (tgt := 72) d_Model_writeRows_54 (by decide) (by omega) (by omega) (fun c_54 => ?_) (fun c_54 => ?_)
        · refine mm_iload_n d_Model_writeRows_72 rfl ?_
          refine mm_iconst (v := 1) d_Model_writeRows_73 (by decide) ?_
          refine mx_icmp_ne (a := k) (b := 1) (tgt := 123) d_Model_writeRows_74 (by decide) (by omega) (by omega) (fun c_74 => ?_) (fun c_74 => ?_)
          · exact mm_return d_Model_writeRows_123 rfl (MX.of (rfl) (rfl) (by first | (simp [m_wr, c_12, c_23, c_39, c_54, c_74]; done) | (exfalso; omega) | (simp_all [m_wr]; done) | (have h8 : k = 1 := by omega; subst h8; simp_all [m_wr]; done) | (have h8 : ¬ k = 0 ∧ ¬ k = 1 ∧ ¬ k = 2 := by omega; simp_all [m_wr]; done)) H F)
          · refine mm_iload d_Model_writeRows_77 rfl ?_
            refine mm_if_ne (tgt := 123) d_Model_writeRows_79 (by decide) (fun _ => ?_) (fun c9 => absurd c9 (by decide))
            exact mm_return d_Model_writeRows_123 rfl (MX.of (rfl) (rfl) (by first | (simp [m_wr, c_12, c_23, c_39, c_54, c_74]; done) | (exfalso; omega) | (simp_all [m_wr]; done) | (have h8 : k = 1 := by omega; subst h8; simp_all [m_wr]; done) | (have h8 : ¬ k = 0 ∧ ¬ k = 1 ∧ ¬ k = 2 := by omega; simp_all [m_wr]; done)) H F)
        · refine mm_iload d_Model_writeRows_57 rfl ?_
          refine mm_if_ne (tgt := 72) d_Model_writeRows_59 (by decide) (fun _ => ?_) (fun c9 => absurd c9 (by decide))
          refine mm_iload_n d_Model_writeRows_72 rfl ?_
          refine mm_iconst (v := 1) d_Model_writeRows_73 (by decide) ?_
          refine mx_icmp_ne (a := k) (b := 1) (tgt := 123) d_Model_writeRows_74 (by decide) (by omega) (by omega) (fun c_74 => ?_) (fun c_74 => ?_)
          · exact mm_return d_Model_writeRows_123 rfl (MX.of (rfl) (rfl) (by first | (simp [m_wr, c_12, c_23, c_39, c_54, c_74]; done) | (exfalso; omega) | (simp_all [m_wr]; done) | (have h8 : k = 1 := by omega; subst h8; simp_all [m_wr]; done) | (have h8 : ¬ k = 0 ∧ ¬ k = 1 ∧ ¬ k = 2 := by omega; simp_all [m_wr]; done)) H F)
          · refine mm_iload d_Model_writeRows_77 rfl ?_
            refine mm_if_ne (tgt := 123) d_Model_writeRows_79 (by decide) (fun _ => ?_) (fun c9 => absurd c9 (by decide))
            exact mm_return d_Model_writeRows_123 rfl (MX.of (rfl) (rfl) (by first | (simp [m_wr, c_12, c_23, c_39, c_54, c_74]; done) | (exfalso; omega) | (simp_all [m_wr]; done) | (have h8 : k = 1 := by omega; subst h8; simp_all [m_wr]; done) | (have h8 : ¬ k = 0 ∧ ¬ k = 1 ∧ ¬ k = 2 := by omega; simp_all [m_wr]; done)) H F)
      · refine mm_aload_n d_Model_writeRows_42 rfl ?_
        refine mm_getf (v := .ref (m + 6)) d_Model_writeRows_43 cl_Model fl_Model_25_Model (by decide) H.1 rfl ?_
        refine mm_iload d_Model_writeRows_46 rfl ?_
        refine mm_iconst (v := 2) d_Model_writeRows_48 (by decide) ?_
        refine mx_add (a := 64 * p) (b := 2) (c := 64 * p + 2) d_Model_writeRows_49 (by omega) ?_
        refine mm_iconst (v := 0) d_Model_writeRows_50 (by decide) ?_
        refine mx_ast (E := 64 * p + 2) d_Model_writeRows_51 (mh_5 H) (by omega) (by decide) ?_
        refine mh_a (j := 5) (f := (upd (A 5) (64 * p + 2) 0)) (by decide) H F (fun h H F => ?_)
        refine mm_iload_n d_Model_writeRows_52 rfl ?_
        refine mm_iconst (v := 2) d_Model_writeRows_53 (by decide) ?_
        refine mx_icmp_le (a := k) (b := 2) (tgt := 72) d_Model_writeRows_54 (by decide) (by omega) (by omega) (fun c_54 => ?_) (fun c_54 => ?_)
        · refine mm_iload_n d_Model_writeRows_72 rfl ?_
          refine mm_iconst (v := 1) d_Model_writeRows_73 (by decide) ?_
          refine mx_icmp_ne (a := k) (b := 1) (tgt := 123) d_Model_writeRows_74 (by decide) (by omega) (by omega) (fun c_74 => ?_) (fun c_74 => ?_)
          · exact mm_return d_Model_writeRows_123 rfl (MX.of (rfl) (rfl) (by first | (simp [m_wr, c_12, c_23, c_39, c_54, c_74]; done) | (exfalso; omega) | (simp_all [m_wr]; done) | (have h8 : k = 1 := by omega; subst h8; simp_all [m_wr]; done) | (have h8 : ¬ k = 0 ∧ ¬ k = 1 ∧ ¬ k = 2 := by omega; simp_all [m_wr]; done)) H F)
          · refine mm_iload d_Model_writeRows_77 rfl ?_
            refine mm_if_ne (tgt := 123) d_Model_writeRows_79 (by decide) (fun _ => ?_) (fun c9 => absurd c9 (by decide))
            exact mm_return d_Model_writeRows_123 rfl (MX.of (rfl) (rfl) (by first | (simp [m_wr, c_12, c_23, c_39, c_54, c_74]; done) | (exfalso; omega) | (simp_all [m_wr]; done) | (have h8 : k = 1 := by omega; subst h8; simp_all [m_wr]; done) | (have h8 : ¬ k = 0 ∧ ¬ k = 1 ∧ ¬ k = 2 := by omega; simp_all [m_wr]; done)) H F)
        · refine mm_iload d_Model_writeRows_57 rfl ?_
          refine mm_if_ne (tgt := 72) d_Model_writeRows_59 (by decide) (fun _ => ?_) (fun c9 => absurd c9 (by decide))
          refine mm_iload_n d_Model_writeRows_72 rfl ?_
          refine mm_iconst (v := 1) d_Model_writeRows_73 (by decide) ?_
          refine mx_icmp_ne (a := k) (b := 1) (tgt := 123) d_Model_writeRows_74 (by decide) (by omega) (by omega) (fun c_74 => ?_) (fun c_74 => ?_)
          · exact mm_return d_Model_writeRows_123 rfl (MX.of (rfl) (rfl) (by first | (simp [m_wr, c_12, c_23, c_39, c_54, c_74]; done) | (exfalso; omega) | (simp_all [m_wr]; done) | (have h8 : k = 1 := by omega; subst h8; simp_all [m_wr]; done) | (have h8 : ¬ k = 0 ∧ ¬ k = 1 ∧ ¬ k = 2 := by omega; simp_all [m_wr]; done)) H F)
          · refine mm_iload d_Model_writeRows_77 rfl ?_
            refine mm_if_ne (tgt := 123) d_Model_writeRows_79 (by decide) (fun _ => ?_) (fun c9 => absurd c9 (by decide))
            exact mm_return d_Model_writeRows_123 rfl (MX.of (rfl) (rfl) (by first | (simp [m_wr, c_12, c_23, c_39, c_54, c_74]; done) | (exfalso; omega) | (simp_all [m_wr]; done) | (have h8 : k = 1 := by omega; subst h8; simp_all [m_wr]; done) | (have h8 : ¬ k = 0 ∧ ¬ k = 1 ∧ ¬ k = 2 := by omega; simp_all [m_wr]; done)) H F)
    · refine mm_aload_n d_Model_writeRows_26 rfl ?_
      refine mm_getf (v := .ref (m + 6)) d_Model_writeRows_27 cl_Model fl_Model_25_Model (by decide) H.1 rfl ?_
      refine mm_iload d_Model_writeRows_30 rfl ?_
      refine mm_iload_n d_Model_writeRows_32 rfl ?_
      refine mm_bipush (v := 7) d_Model_writeRows_33 (by decide) ?_
      refine mm_iand d_Model_writeRows_35 ?_
      refine mx_ast (E := 64 * p) d_Model_writeRows_36 (mh_5 H) (by omega) (by decide) ?_
      refine mh_a (j := 5) (f := (upd (A 5) (64 * p) (v &&& 7))) (by decide) H F (fun h H F => ?_)
      refine mm_iload_n d_Model_writeRows_37 rfl ?_
      refine mm_iconst (v := 2) d_Model_writeRows_38 (by decide) ?_
      refine mx_icmp_ne (a := k) (b := 2) (tgt := 52) d_Model_writeRows_39 (by decide) (by omega) (by omega) (fun c_39 => ?_) (fun c_39 => ?_)
      · refine mm_iload_n d_Model_writeRows_52 rfl ?_
        refine mm_iconst (v := 2) d_Model_writeRows_53 (by decide) ?_
        refine mx_icmp_le (a := k) (b := 2) (tgt := 72) d_Model_writeRows_54 (by decide) (by omega) (by omega) (fun c_54 => ?_) (fun c_54 => ?_)
        · refine mm_iload_n d_Model_writeRows_72 rfl ?_
          refine mm_iconst (v := 1) d_Model_writeRows_73 (by decide) ?_
          refine mx_icmp_ne (a := k) (b := 1) (tgt := 123) d_Model_writeRows_74 (by decide) (by omega) (by omega) (fun c_74 => ?_) (fun c_74 => ?_)
          · exact mm_return d_Model_writeRows_123 rfl (MX.of (rfl) (rfl) (by first | (simp [m_wr, c_12, c_23, c_39, c_54, c_74]; done) | (exfalso; omega) | (simp_all [m_wr]; done) | (have h8 : k = 1 := by omega; subst h8; simp_all [m_wr]; done) | (have h8 : ¬ k = 0 ∧ ¬ k = 1 ∧ ¬ k = 2 := by omega; simp_all [m_wr]; done)) H F)
          · refine mm_iload d_Model_writeRows_77 rfl ?_
            refine mm_if_ne (tgt := 123) d_Model_writeRows_79 (by decide) (fun _ => ?_) (fun c9 => absurd c9 (by decide))
            exact mm_return d_Model_writeRows_123 rfl (MX.of (rfl) (rfl) (by first | (simp [m_wr, c_12, c_23, c_39, c_54, c_74]; done) | (exfalso; omega) | (simp_all [m_wr]; done) | (have h8 : k = 1 := by omega; subst h8; simp_all [m_wr]; done) | (have h8 : ¬ k = 0 ∧ ¬ k = 1 ∧ ¬ k = 2 := by omega; simp_all [m_wr]; done)) H F)
        · refine mm_iload d_Model_writeRows_57 rfl ?_
          refine mm_if_ne (tgt := 72) d_Model_writeRows_59 (by decide) (fun _ => ?_) (fun c9 => absurd c9 (by decide))
          refine mm_iload_n d_Model_writeRows_72 rfl ?_
          refine mm_iconst (v := 1) d_Model_writeRows_73 (by decide) ?_
          refine mx_icmp_ne (a := k) (b := 1) (tgt := 123) d_Model_writeRows_74 (by decide) (by omega) (by omega) (fun c_74 => ?_) (fun c_74 => ?_)
          · exact mm_return d_Model_writeRows_123 rfl (MX.of (rfl) (rfl) (by first | (simp [m_wr, c_12, c_23, c_39, c_54, c_74]; done) | (exfalso; omega) | (simp_all [m_wr]; done) | (have h8 : k = 1 := by omega; subst h8; simp_all [m_wr]; done) | (have h8 : ¬ k = 0 ∧ ¬ k = 1 ∧ ¬ k = 2 := by omega; simp_all [m_wr]; done)) H F)
          · refine mm_iload d_Model_writeRows_77 rfl ?_
            refine mm_if_ne (tgt := 123) d_Model_writeRows_79 (by decide) (fun _ => ?_) (fun c9 => absurd c9 (by decide))
            exact mm_return d_Model_writeRows_123 rfl (MX.of (rfl) (rfl) (by first | (simp [m_wr, c_12, c_23, c_39, c_54, c_74]; done) | (exfalso; omega) | (simp_all [m_wr]; done) | (have h8 : k = 1 := by omega; subst h8; simp_all [m_wr]; done) | (have h8 : ¬ k = 0 ∧ ¬ k = 1 ∧ ¬ k = 2 := by omega; simp_all [m_wr]; done)) H F)
      · refine mm_aload_n d_Model_writeRows_42 rfl ?_
        refine mm_getf (v := .ref (m + 6)) d_Model_writeRows_43 cl_Model fl_Model_25_Model (by decide) H.1 rfl ?_
        refine mm_iload d_Model_writeRows_46 rfl ?_
        refine mm_iconst (v := 2) d_Model_writeRows_48 (by decide) ?_
        refine mx_add (a := 64 * p) (b := 2) (c := 64 * p + 2) d_Model_writeRows_49 (by omega) ?_
        refine mm_iconst (v := 0) d_Model_writeRows_50 (by decide) ?_
        refine mx_ast (E := 64 * p + 2) d_Model_writeRows_51 (mh_5 H) (by omega) (by decide) ?_
        refine mh_a (j := 5) (f := (upd (upd (A 5) (64 * p) (v &&& 7)) (64 * p + 2) 0)) (by decide) H F (fun h H F => ?_)
        refine mm_iload_n d_Model_writeRows_52 rfl ?_
        refine mm_iconst (v := 2) d_Model_writeRows_53 (by decide) ?_
        refine mx_icmp_le (a := k) (b := 2) (tgt := 72) d_Model_writeRows_54 (by decide) (by omega) (by omega) (fun c_54 => ?_) (fun c_54 => ?_)
        · refine mm_iload_n d_Model_writeRows_72 rfl ?_
          refine mm_iconst (v := 1) d_Model_writeRows_73 (by decide) ?_
          refine mx_icmp_ne (a := k) (b := 1) (tgt := 123) d_Model_writeRows_74 (by decide) (by omega) (by omega) (fun c_74 => ?_) (fun c_74 => ?_)
          · exact mm_return d_Model_writeRows_123 rfl (MX.of (rfl) (rfl) (by first | (simp [m_wr, c_12, c_23, c_39, c_54, c_74]; done) | (exfalso; omega) | (simp_all [m_wr]; done) | (have h8 : k = 1 := by omega; subst h8; simp_all [m_wr]; done) | (have h8 : ¬ k = 0 ∧ ¬ k = 1 ∧ ¬ k = 2 := by omega; simp_all [m_wr]; done)) H F)
          · refine mm_iload d_Model_writeRows_77 rfl ?_
            refine mm_if_ne (tgt := 123) d_Model_writeRows_79 (by decide) (fun _ => ?_) (fun c9 => absurd c9 (by decide))
            exact mm_return d_Model_writeRows_123 rfl (MX.of (rfl) (rfl) (by first | (simp [m_wr, c_12, c_23, c_39, c_54, c_74]; done) | (exfalso; omega) | (simp_all [m_wr]; done) | (have h8 : k = 1 := by omega; subst h8; simp_all [m_wr]; done) | (have h8 : ¬ k = 0 ∧ ¬ k = 1 ∧ ¬ k = 2 := by omega; simp_all [m_wr]; done)) H F)
        · refine mm_iload d_Model_writeRows_57 rfl ?_
          refine mm_if_ne (tgt := 72) d_Model_writeRows_59 (by decide) (fun _ => ?_) (fun c9 => absurd c9 (by decide))
          refine mm_iload_n d_Model_writeRows_72 rfl ?_
          refine mm_iconst (v := 1) d_Model_writeRows_73 (by decide) ?_
          refine mx_icmp_ne (a := k) (b := 1) (tgt := 123) d_Model_writeRows_74 (by decide) (by omega) (by omega) (fun c_74 => ?_) (fun c_74 => ?_)
          · exact mm_return d_Model_writeRows_123 rfl (MX.of (rfl) (rfl) (by first | (simp [m_wr, c_12, c_23, c_39, c_54, c_74]; done) | (exfalso; omega) | (simp_all [m_wr]; done) | (have h8 : k = 1 := by omega; subst h8; simp_all [m_wr]; done) | (have h8 : ¬ k = 0 ∧ ¬ k = 1 ∧ ¬ k = 2 := by omega; simp_all [m_wr]; done)) H F)
          · refine mm_iload d_Model_writeRows_77 rfl ?_
            refine mm_if_ne (tgt := 123) d_Model_writeRows_79 (by decide) (fun _ => ?_) (fun c9 => absurd c9 (by decide))
            exact mm_return d_Model_writeRows_123 rfl (MX.of (rfl) (rfl) (by first | (simp [m_wr, c_12, c_23, c_39, c_54, c_74]; done) | (exfalso; omega) | (simp_all [m_wr]; done) | (have h8 : k = 1 := by omega; subst h8; simp_all [m_wr]; done) | (have h8 : ¬ k = 0 ∧ ¬ k = 1 ∧ ¬ k = 2 := by omega; simp_all [m_wr]; done)) H F)
