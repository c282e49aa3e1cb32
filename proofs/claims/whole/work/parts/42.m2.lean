def m_at (f z : Nat → Int32) (k : Int32) : Nat → Nat → Option Nat
  | 0, _ => none
  | q + 1, i => if w_in k (f i) (f i + z i - 1) = 0 then m_at f z k q (i + 1) else some i
def oI : Option Nat → Int32
  | none => -1
  | some i => nI i
theorem m_at_lt {f z : Nat → Int32} {k : Int32} : ∀ (q i j : Nat), m_at f z k q i = some j → i ≤ j ∧ j < i + q
  | 0, _, _, h => by cases h
  | q + 1, i, j, h => by
    unfold m_at at h
    split at h
    · have := m_at_lt q (i + 1) j h; omega
    · cases h; omega
set_option maxRecDepth 100000 in
set_option maxHeartbeats 4000000 in
theorem lp_at {sc : mm_Sc} {n d kc ks : Nat} {h : mm_H} {m N : Nat} {I : Nat → Int32} {A : Nat → Nat → Int32} {Q : mm_O → Nat → mm_H → Prop} {k : Int32} (hd : 2 ≤ d) (H : MH h m I A) (hN : I 2 = nI N) (h12 : N ≤ 12) (hq : ∀ r, r = m_at (A 1) (A 2) k N 0 → Q (.inl (some (.int (oI r)))) n h) : ∀ (q i : Nat), i + q = N → m_at (A 1) (A 2) k q i = m_at (A 1) (A 2) k N 0 → mm_G sc y_Model_partAt d 2 [some (.ref m), some (.int k), some (.int (nI i))] [] n h kc ks Q := by
  intro q
  induction q with
  | zero =>
    intro i hi9 hf
    obtain rfl : N = i := by omega
    refine mm_iload_n d_Model_partAt_2 rfl ?_
    refine mm_aload_n d_Model_partAt_3 rfl ?_
    refine mx_get (k := 2) (v := nI N) d_Model_partAt_4 cl_Model fl_Model_78_Model (by decide) H.1 (congrArg (fun z => some (Value.int z)) hN) ?_
    refine mx_icmp_ge (a := N) (b := N) (tgt := 46) d_Model_partAt_7 (by decide) (by omega) (by omega) (fun c_7 => ?_) (fun c_7 => absurd c_7 (by omega))
    refine mm_iconst (v := (-1)) d_Model_partAt_46 (by decide) ?_
    exact mm_ireturn d_Model_partAt_47 rfl (hq none hf)
  | succ q ih =>
    intro i hi9 hf
    refine mm_iload_n d_Model_partAt_2 rfl ?_
    refine mm_aload_n d_Model_partAt_3 rfl ?_
    refine mx_get (k := 2) (v := nI N) d_Model_partAt_4 cl_Model fl_Model_78_Model (by decide) H.1 (congrArg (fun z => some (Value.int z)) hN) ?_
    refine mx_icmp_ge (a := i) (b := N) (tgt := 46) d_Model_partAt_7 (by decide) (by omega) (by omega) (fun c_7 => absurd c_7 (by omega)) (fun c_7 => ?_)
    refine mm_iload_n d_Model_partAt_10 rfl ?_
    refine mm_aload_n d_Model_partAt_11 rfl ?_
    refine mm_getf (v := .ref (m + 2)) d_Model_partAt_12 cl_Model fl_Model_13_Model (by decide) H.1 rfl ?_
    refine mm_iload_n d_Model_partAt_15 rfl ?_
    refine mx_ald (E := i) (v := (A 1) i) d_Model_partAt_16 (mh_1 H) (by omega) (by decide) (show (A 1) i = (A 1) i from rfl) ?_
    refine mm_aload_n d_Model_partAt_17 rfl ?_
    refine mm_getf (v := .ref (m + 2)) d_Model_partAt_18 cl_Model fl_Model_13_Model (by decide) H.1 rfl ?_
    refine mm_iload_n d_Model_partAt_21 rfl ?_
    refine mx_ald (E := i) (v := (A 1) i) d_Model_partAt_22 (mh_1 H) (by omega) (by decide) (show (A 1) i = (A 1) i from rfl) ?_
    refine mm_aload_n d_Model_partAt_23 rfl ?_
    refine mm_getf (v := .ref (m + 3)) d_Model_partAt_24 cl_Model fl_Model_16_Model (by decide) H.1 rfl ?_
    refine mm_iload_n d_Model_partAt_27 rfl ?_
    refine mx_ald (E := i) (v := (A 2) i) d_Model_partAt_28 (mh_2 H) (by omega) (by decide) (show (A 2) i = (A 2) i from rfl) ?_
    refine mm_iadd d_Model_partAt_29 ?_
    refine mm_iconst (v := 1) d_Model_partAt_30 (by decide) ?_
    refine mm_isub d_Model_partAt_31 ?_
    refine mm_callD (kc' := 0) (ks' := 0) d_Model_partAt_32 (mm_Inv.sta (as := [.int k, .int ((A 1) i), .int ((((A 1) i) + ((A 2) i)) - 1)]) d_Model_partAt_32 (Or.inl m_756) m_757 ce_Model_within.2.1 ce_Model_within.2.2.1 ce_Model_within.2.2.2.1 ce_Model_within.2.2.2.2.2 ln_Model_within rfl) J_Model_within (Nat.lt_of_lt_of_le (by decide) hd) ce_Model_within.1 ce_Model_within.2.1 ce_Model_within.2.2.1 ce_Model_within.2.2.2.1 (Nat.le_of_ble_eq_true rfl) ?_
    refine mm_if_eq (tgt := 40) d_Model_partAt_35 (by decide) (fun c_35 => ?_) (fun c_35 => ?_)
    · refine mx_inc (a := i) (b := i + 1) d_Model_partAt_40 rfl rfl (by decide) ?_
      refine mm_goto (tgt := 2) d_Model_partAt_43 (by decide) ?_
      exact ih (i + 1) (by omega) (by rw [← hf]; simp [m_at, c_35])
    · refine mm_iload_n d_Model_partAt_38 rfl ?_
      exact mm_ireturn d_Model_partAt_39 rfl (hq (some i) (by rw [← hf]; simp [m_at, c_35]))
set_option maxRecDepth 100000 in
set_option maxHeartbeats 4000000 in
theorem J_Model_partAt {sc : mm_Sc} {n : Nat} {h : mm_H} {m : Nat} {I : Nat → Int32} {A : Nat → Nat → Int32} {N : Nat} {k : Int32} (H : MH h m I A) (hN : I 2 = nI N) (h12 : N ≤ 12) : mm_J sc y_Model_partAt 2 [.ref m, .int k] n h 0 0 (MX (some (.int (oI (m_at (A 1) (A 2) k N 0)))) n h m I A) := by
  refine mm_J.of (show mm_G sc y_Model_partAt 2 0 [some (.ref m), some (.int k), none] [] n h 0 0 _ from ?_) ce_Model_partAt.2.2.2.2.1 (Nat.le_of_ble_eq_true rfl) (by simp [Value.category])
  have F : MF h h m := fun _ _ => rfl
  refine mm_iconst (v := 0) d_Model_partAt_0 (by decide) ?_
  refine mm_istore_n d_Model_partAt_1 (by decide) ?_
  exact lp_at (by decide) H hN h12 (fun r hr => MX.of (by rw [hr]) rfl rfl H F) N 0 (by omega) rfl
/-- whether one of the first p parts asks by line l -/
def m_now (A : Nat → Nat → Int32) (l : Nat) : Nat → Int32
  | 0 => 0
  | p + 1 => if m_now A l p = 0 then (if A 3 p = nI l then (if m_ask A p = 0 then 0 else 1) else 0) else 1
theorem m_now_01 (A : Nat → Nat → Int32) (l : Nat) : ∀ p, m_now A l p = 0 ∨ m_now A l p = 1
  | 0 => Or.inl rfl
  | p + 1 => by
    unfold m_now
    repeat' split
    all_goals first | exact Or.inl rfl | exact Or.inr rfl
theorem m_now_ma (A : Nat → Nat → Int32) (f g : Nat → Int32) (l : Nat) : ∀ p, m_now (ma (ma A 17 f) 16 g) l p = m_now A l p
  | 0 => rfl
  | p + 1 => by
    show (if m_now (ma (ma A 17 f) 16 g) l p = 0 then (if A 3 p = nI l then (if m_ask A p = 0 then 0 else 1) else 0) else 1) = _
    rw [m_now_ma A f g l p]
    rfl
def m_note (A : Nat → Nat → Int32) (N l : Nat) : Int32 := if A 13 l = 1 ∧ ¬ m_now A l N = 0 ∧ A 16 l = 0 then 1 else if A 13 l = 2 ∧ ¬ m_now A l N = A 16 l then 1 else A 17 l
def m_no (A : Nat → Nat → Int32) (N i : Nat) : Nat → Int32 := fun l => if l < i then m_note A N l else A 17 l
def m_uu (A : Nat → Nat → Int32) (N i : Nat) : Nat → Int32 := fun l => if l < i then m_now A l N else A 16 l
def m_look (A : Nat → Nat → Int32) (N : Nat) : Nat → Nat → Int32 := ma (ma A 17 (m_no A N 16)) 16 (m_uu A N 16)
theorem m_uu_s (A : Nat → Nat → Int32) (N i : Nat) : upd (m_uu A N i) i (m_now A i N) = m_uu A N (i + 1) := by
  funext j
  unfold upd m_uu
  by_cases h1 : j = i
  · subst h1; simp
  · rw [if_neg h1]; by_cases h2 : j < i
    · rw [if_pos h2, if_pos (by omega)]
    · rw [if_neg h2, if_neg (by omega)]
theorem m_no_s1 {A : Nat → Nat → Int32} {N i : Nat} (h : m_note A N i = 1) : upd (m_no A N i) i 1 = m_no A N (i + 1) := by
  funext j
  unfold upd m_no
  by_cases h1 : j = i
  · subst h1; simp [h]
  · rw [if_neg h1]; by_cases h2 : j < i
    · rw [if_pos h2, if_pos (by omega)]
    · rw [if_neg h2, if_neg (by omega)]
theorem m_no_s0 {A : Nat → Nat → Int32} {N i : Nat} (h : m_note A N i = A 17 i) : m_no A N i = m_no A N (i + 1) := by
  funext j
  unfold m_no
  by_cases h1 : j = i
  · subst h1; simp [h]
  · by_cases h2 : j < i
    · rw [if_pos h2, if_pos (by omega)]
    · rw [if_neg h2, if_neg (by omega)]
theorem ma4 (A : Nat → Nat → Int32) (a b a' b' : Nat → Int32) : ma (ma (ma (ma A 17 a) 16 b) 17 a') 16 b' = ma (ma A 17 a') 16 b' := by
  rw [ma_comm (ma A 17 a) b a' (by decide : (16 : Nat) ≠ 17), ma_ma, ma_ma]
theorem m_uu_i (A : Nat → Nat → Int32) (N i : Nat) : m_uu A N i i = A 16 i := by simp [m_uu]
set_option maxRecDepth 100000 in
set_option maxHeartbeats 4000000 in
theorem lp_now {sc : mm_Sc} {n d kc ks : Nat} {h0 : mm_H} {m : Nat} {I : Nat → Int32} {A : Nat → Nat → Int32} {Q : mm_O → Nat → mm_H → Prop} {N l : Nat} (hd : 2 ≤ d) (hN : I 2 = nI N) (h12 : N ≤ 12) (hl : l < 16) (hq : ∀ h, MH h m I A → MF h0 h m → mm_G sc y_Model_lookAtLines d 54 [some (.ref m), some (.int (nI l)), some (.int (m_now A l N)), some (.int (nI N))] [] n h kc ks Q) : ∀ (q i : Nat) (h : mm_H), i + q = N → MH h m I A → MF h0 h m → mm_G sc y_Model_lookAtLines d 12 [some (.ref m), some (.int (nI l)), some (.int (m_now A l i)), some (.int (nI i))] [] n h kc ks Q := by
  intro q
  induction q with
  | zero =>
    intro i h hi9 H F
    obtain rfl : N = i := by omega
    refine mm_iload_n d_Model_lookAtLines_12 rfl ?_
    refine mm_aload_n d_Model_lookAtLines_13 rfl ?_
    refine mx_get (k := 2) (v := nI N) d_Model_lookAtLines_14 cl_Model fl_Model_78_Model (by decide) H.1 (congrArg (fun z => some (Value.int z)) hN) ?_
    refine mx_icmp_ge (a := N) (b := N) (tgt := 54) d_Model_lookAtLines_17 (by decide) (by omega) (by omega) (fun c_17 => ?_) (fun c_17 => absurd c_17 (by omega))
    exact hq _ H F
  | succ q ih =>
    intro i h hi9 H F
    refine mm_iload_n d_Model_lookAtLines_12 rfl ?_
    refine mm_aload_n d_Model_lookAtLines_13 rfl ?_
    refine mx_get (k := 2) (v := nI N) d_Model_lookAtLines_14 cl_Model fl_Model_78_Model (by decide) H.1 (congrArg (fun z => some (Value.int z)) hN) ?_
    refine mx_icmp_ge (a := i) (b := N) (tgt := 54) d_Model_lookAtLines_17 (by decide) (by omega) (by omega) (fun c_17 => absurd c_17 (by omega)) (fun c_17 => ?_)
    refine mm_iload_n d_Model_lookAtLines_20 rfl ?_
    refine mm_if_ne (tgt := 42) d_Model_lookAtLines_21 (by decide) (fun c_21 => ?_) (fun c_21 => ?_)
    · refine mm_iconst (v := 1) d_Model_lookAtLines_42 (by decide) ?_
      refine mm_goto (tgt := 47) d_Model_lookAtLines_43 (by decide) ?_
      refine mm_istore_n d_Model_lookAtLines_47 (by decide) ?_
      refine mx_inc (a := i) (b := i + 1) d_Model_lookAtLines_48 rfl rfl (by decide) ?_
      refine mm_goto (tgt := 12) d_Model_lookAtLines_51 (by decide) ?_
      refine mm_G.cast (l' := [some (.ref m), some (.int (nI l)), some (.int (m_now A l (i + 1))), some (.int (nI (i + 1)))]) (by simp [m_now, c_17, c_21]) rfl rfl (ih (i + 1) h (by omega) H F)
    · refine mm_aload_n d_Model_lookAtLines_24 rfl ?_
      refine mm_getf (v := .ref (m + 4)) d_Model_lookAtLines_25 cl_Model fl_Model_19_Model (by decide) H.1 rfl ?_
      refine mm_iload_n d_Model_lookAtLines_28 rfl ?_
      refine mx_ald (E := i) (v := (A 3) i) d_Model_lookAtLines_29 (mh_3 H) (by omega) (by decide) (show (A 3) i = (A 3) i from rfl) ?_
      refine mm_iload_n d_Model_lookAtLines_30 rfl ?_
      refine mm_icmp_ne (tgt := 46) d_Model_lookAtLines_31 (by decide) (fun c_31 => ?_) (fun c_31 => ?_)
      · refine mm_iconst (v := 0) d_Model_lookAtLines_46 (by decide) ?_
        refine mm_istore_n d_Model_lookAtLines_47 (by decide) ?_
        refine mx_inc (a := i) (b := i + 1) d_Model_lookAtLines_48 rfl rfl (by decide) ?_
        refine mm_goto (tgt := 12) d_Model_lookAtLines_51 (by decide) ?_
        refine mm_G.cast (l' := [some (.ref m), some (.int (nI l)), some (.int (m_now A l (i + 1))), some (.int (nI (i + 1)))]) (by simp [m_now, c_17, c_21, c_31]) rfl rfl (ih (i + 1) h (by omega) H F)
      · refine mm_aload_n d_Model_lookAtLines_34 rfl ?_
        refine mm_iload_n d_Model_lookAtLines_35 rfl ?_
        refine mx_call d_Model_lookAtLines_36 (mm_Inv.vi (as := [.int (nI i)]) d_Model_lookAtLines_36 (Or.inl m_803) m_805 ce_Model_asksNow.2.1 ce_Model_asksNow.2.2.1 mp_27 ce_Model_asksNow.2.2.2.2.2 ln_Model_asksNow cl_Model H.1 rfl) (J_Model_asksNow H (by omega)) (Nat.lt_of_lt_of_le (by decide) hd) ce_Model_asksNow.1 ce_Model_asksNow.2.1 ce_Model_asksNow.2.2.1 ce_Model_asksNow.2.2.2.1 (Nat.le_of_ble_eq_true rfl) F (fun h H F => ?_)
        refine mm_if_eq (tgt := 46) d_Model_lookAtLines_39 (by decide) (fun c_39 => ?_) (fun c_39 => ?_)
        · refine mm_iconst (v := 0) d_Model_lookAtLines_46 (by decide) ?_
          refine mm_istore_n d_Model_lookAtLines_47 (by decide) ?_
          refine mx_inc (a := i) (b := i + 1) d_Model_lookAtLines_48 rfl rfl (by decide) ?_
          refine mm_goto (tgt := 12) d_Model_lookAtLines_51 (by decide) ?_
          refine mm_G.cast (l' := [some (.ref m), some (.int (nI l)), some (.int (m_now A l (i + 1))), some (.int (nI (i + 1)))]) (by simp [m_now, c_17, c_21, c_31, c_39]) rfl rfl (ih (i + 1) h (by omega) H F)
        · refine mm_iconst (v := 1) d_Model_lookAtLines_42 (by decide) ?_
          refine mm_goto (tgt := 47) d_Model_lookAtLines_43 (by decide) ?_
          refine mm_istore_n d_Model_lookAtLines_47 (by decide) ?_
          refine mx_inc (a := i) (b := i + 1) d_Model_lookAtLines_48 rfl rfl (by decide) ?_
          refine mm_goto (tgt := 12) d_Model_lookAtLines_51 (by decide) ?_
          refine mm_G.cast (l' := [some (.ref m), some (.int (nI l)), some (.int (m_now A l (i + 1))), some (.int (nI (i + 1)))]) (by simp [m_now, c_17, c_21, c_31, c_39]) rfl rfl (ih (i + 1) h (by omega) H F)
set_option maxRecDepth 100000 in
set_option maxHeartbeats 4000000 in
theorem lp_look {sc : mm_Sc} {n d kc ks : Nat} {h0 : mm_H} {m : Nat} {I : Nat → Int32} {A : Nat → Nat → Int32} {Q : mm_O → Nat → mm_H → Prop} {N : Nat} (hd : 2 ≤ d) (hN : I 2 = nI N) (h12 : N ≤ 12) (hq : ∀ h, MH h m I (ma (ma A 17 (m_no A N 16)) 16 (m_uu A N 16)) → MF h0 h m → mm_G sc y_Model_lookAtLines d 117 [some (.ref m), some (.int (nI 16)), none, none] [] n h kc ks Q) : ∀ (q i : Nat) (h : mm_H), i + q = 16 → MH h m I (ma (ma A 17 (m_no A N i)) 16 (m_uu A N i)) → MF h0 h m → mm_G sc y_Model_lookAtLines d 2 [some (.ref m), some (.int (nI i)), none, none] [] n h kc ks Q := by
  intro q
  induction q with
  | zero =>
    intro i h hi9 H F
    obtain rfl : i = 16 := by omega
    refine mm_iload_n d_Model_lookAtLines_2 rfl ?_
    refine mm_bipush (v := 16) d_Model_lookAtLines_3 (by decide) ?_
    refine mx_icmp_ge (a := 16) (b := 16) (tgt := 117) d_Model_lookAtLines_5 (by decide) (by omega) (by omega) (fun c_5 => ?_) (fun c_5 => absurd c_5 (by omega))
    exact hq _ H F
  | succ q ih =>
    intro i h hi9 H F
    refine mm_iload_n d_Model_lookAtLines_2 rfl ?_
    refine mm_bipush (v := 16) d_Model_lookAtLines_3 (by decide) ?_
    refine mx_icmp_ge (a := i) (b := 16) (tgt := 117) d_Model_lookAtLines_5 (by decide) (by omega) (by omega) (fun c_5 => absurd c_5 (by omega)) (fun c_5 => ?_)
    refine mm_iconst (v := 0) d_Model_lookAtLines_8 (by decide) ?_
    refine mm_istore_n d_Model_lookAtLines_9 (by decide) ?_
    refine mm_iconst (v := 0) d_Model_lookAtLines_10 (by decide) ?_
    refine mm_istore_n d_Model_lookAtLines_11 (by decide) ?_
    refine lp_now (N := N) (l := i) hd hN h12 (by omega) (fun h H F => ?_) N 0 h (by omega) H F
    rw [m_now_ma]
    refine mm_aload_n d_Model_lookAtLines_54 rfl ?_
    refine mm_getf (v := .ref (m + 14)) d_Model_lookAtLines_55 cl_Model fl_Model_49_Model (by decide) H.1 rfl ?_
    refine mm_iload_n d_Model_lookAtLines_58 rfl ?_
    refine mx_ald (E := i) (v := (A 13) i) d_Model_lookAtLines_59 (mh_13 H) (by omega) (by decide) (show (A 13) i = (A 13) i from rfl) ?_
    refine mm_iconst (v := 1) d_Model_lookAtLines_60 (by decide) ?_
    refine mm_icmp_ne (tgt := 77) d_Model_lookAtLines_61 (by decide) (fun c_61 => ?_) (fun c_61 => ?_)
    · refine mm_aload_n d_Model_lookAtLines_77 rfl ?_
      refine mm_getf (v := .ref (m + 14)) d_Model_lookAtLines_78 cl_Model fl_Model_49_Model (by decide) H.1 rfl ?_
      refine mm_iload_n d_Model_lookAtLines_81 rfl ?_
      refine mx_ald (E := i) (v := (A 13) i) d_Model_lookAtLines_82 (mh_13 H) (by omega) (by decide) (show (A 13) i = (A 13) i from rfl) ?_
      refine mm_iconst (v := 2) d_Model_lookAtLines_83 (by decide) ?_
      refine mm_icmp_ne (tgt := 104) d_Model_lookAtLines_84 (by decide) (fun c_84 => ?_) (fun c_84 => ?_)
      · refine mm_aload_n d_Model_lookAtLines_104 rfl ?_
        refine mm_getf (v := .ref (m + 17)) d_Model_lookAtLines_105 cl_Model fl_Model_59_Model (by decide) H.1 rfl ?_
        refine mm_iload_n d_Model_lookAtLines_108 rfl ?_
        refine mm_iload_n d_Model_lookAtLines_109 rfl ?_
        refine mx_zst (E := i) d_Model_lookAtLines_110 (mh_16 H) (by omega) (by decide) (z01 (m_now_01 A i N)) ?_
        refine mh_a (j := 16) (f := (upd (m_uu A N i) i (m_now A i N))) (by decide) H F (fun h H F => ?_)
        refine mx_inc (a := i) (b := i + 1) d_Model_lookAtLines_111 rfl rfl (by decide) ?_
        refine mm_goto (tgt := 2) d_Model_lookAtLines_114 (by decide) ?_
        refine mm_G.drop 2 ?_
        refine mm_G.drop 3 ?_
        have hu9 := m_uu_i A N i
        have hn9 : m_note A N i = A 17 i := by unfold m_note; simp_all
        refine ih (i + 1) h (by omega) (H.cast rfl (by rw [ma_ma, m_no_s0 hn9, m_uu_s])) F
      · refine mm_iload_n d_Model_lookAtLines_87 rfl ?_
        refine mm_aload_n d_Model_lookAtLines_88 rfl ?_
        refine mm_getf (v := .ref (m + 17)) d_Model_lookAtLines_89 cl_Model fl_Model_59_Model (by decide) H.1 rfl ?_
        refine mm_iload_n d_Model_lookAtLines_92 rfl ?_
        refine mx_zld (E := i) (v := (m_uu A N i) i) d_Model_lookAtLines_93 (mh_16 H) (by omega) (by decide) (show (m_uu A N i) i = (m_uu A N i) i from rfl) ?_
        refine mm_icmp_eq (tgt := 104) d_Model_lookAtLines_94 (by decide) (fun c_94 => ?_) (fun c_94 => ?_)
        · refine mm_aload_n d_Model_lookAtLines_104 rfl ?_
          refine mm_getf (v := .ref (m + 17)) d_Model_lookAtLines_105 cl_Model fl_Model_59_Model (by decide) H.1 rfl ?_
          refine mm_iload_n d_Model_lookAtLines_108 rfl ?_
          refine mm_iload_n d_Model_lookAtLines_109 rfl ?_
          refine mx_zst (E := i) d_Model_lookAtLines_110 (mh_16 H) (by omega) (by decide) (z01 (m_now_01 A i N)) ?_
          refine mh_a (j := 16) (f := (upd (m_uu A N i) i (m_now A i N))) (by decide) H F (fun h H F => ?_)
          refine mx_inc (a := i) (b := i + 1) d_Model_lookAtLines_111 rfl rfl (by decide) ?_
          refine mm_goto (tgt := 2) d_Model_lookAtLines_114 (by decide) ?_
          refine mm_G.drop 2 ?_
          refine mm_G.drop 3 ?_
          have hu9 := m_uu_i A N i
          have hn9 : m_note A N i = A 17 i := by unfold m_note; simp_all
          refine ih (i + 1) h (by omega) (H.cast rfl (by rw [ma_ma, m_no_s0 hn9, m_uu_s])) F
        · refine mm_aload_n d_Model_lookAtLines_97 rfl ?_
          refine mm_getf (v := .ref (m + 18)) d_Model_lookAtLines_98 cl_Model fl_Model_62_Model (by decide) H.1 rfl ?_
          refine mm_iload_n d_Model_lookAtLines_101 rfl ?_
          refine mm_iconst (v := 1) d_Model_lookAtLines_102 (by decide) ?_
          refine mx_zst (E := i) d_Model_lookAtLines_103 (mh_17 H) (by omega) (by decide) rfl ?_
          refine mh_a (j := 17) (f := (upd (m_no A N i) i 1)) (by decide) H F (fun h H F => ?_)
          refine mm_aload_n d_Model_lookAtLines_104 rfl ?_
          refine mm_getf (v := .ref (m + 17)) d_Model_lookAtLines_105 cl_Model fl_Model_59_Model (by decide) H.1 rfl ?_
          refine mm_iload_n d_Model_lookAtLines_108 rfl ?_
          refine mm_iload_n d_Model_lookAtLines_109 rfl ?_
          refine mx_zst (E := i) d_Model_lookAtLines_110 (mh_16 H) (by omega) (by decide) (z01 (m_now_01 A i N)) ?_
          refine mh_a (j := 16) (f := (upd (m_uu A N i) i (m_now A i N))) (by decide) H F (fun h H F => ?_)
          refine mx_inc (a := i) (b := i + 1) d_Model_lookAtLines_111 rfl rfl (by decide) ?_
          refine mm_goto (tgt := 2) d_Model_lookAtLines_114 (by decide) ?_
          refine mm_G.drop 2 ?_
          refine mm_G.drop 3 ?_
          have hu9 := m_uu_i A N i
          have hn9 : m_note A N i = 1 := by unfold m_note; simp_all
          refine ih (i + 1) h (by omega) (H.cast rfl (by rw [ma4, m_no_s1 hn9, m_uu_s])) F
    · refine mm_iload_n d_Model_lookAtLines_64 rfl ?_
      refine mm_if_eq (tgt := 77) d_Model_lookAtLines_65 (by decide) (fun c_65 => ?_) (fun c_65 => ?_)
      · refine mm_aload_n d_Model_lookAtLines_77 rfl ?_
        refine mm_getf (v := .ref (m + 14)) d_Model_lookAtLines_78 cl_Model fl_Model_49_Model (by decide) H.1 rfl ?_
        refine mm_iload_n d_Model_lookAtLines_81 rfl ?_
        refine mx_ald (E := i) (v := (A 13) i) d_Model_lookAtLines_82 (mh_13 H) (by omega) (by decide) (show (A 13) i = (A 13) i from rfl) ?_
        refine mm_iconst (v := 2) d_Model_lookAtLines_83 (by decide) ?_
        refine mm_icmp_ne (tgt := 104) d_Model_lookAtLines_84 (by decide) (fun c_84 => ?_) (fun c_84 => ?_)
        · refine mm_aload_n d_Model_lookAtLines_104 rfl ?_
          refine mm_getf (v := .ref (m + 17)) d_Model_lookAtLines_105 cl_Model fl_Model_59_Model (by decide) H.1 rfl ?_
          refine mm_iload_n d_Model_lookAtLines_108 rfl ?_
          refine mm_iload_n d_Model_lookAtLines_109 rfl ?_
          refine mx_zst (E := i) d_Model_lookAtLines_110 (mh_16 H) (by omega) (by decide) (z01 (m_now_01 A i N)) ?_
          refine mh_a (j := 16) (f := (upd (m_uu A N i) i (m_now A i N))) (by decide) H F (fun h H F => ?_)
          refine mx_inc (a := i) (b := i + 1) d_Model_lookAtLines_111 rfl rfl (by decide) ?_
          refine mm_goto (tgt := 2) d_Model_lookAtLines_114 (by decide) ?_
          refine mm_G.drop 2 ?_
          refine mm_G.drop 3 ?_
          have hu9 := m_uu_i A N i
          have hn9 : m_note A N i = A 17 i := by unfold m_note; simp_all
          refine ih (i + 1) h (by omega) (H.cast rfl (by rw [ma_ma, m_no_s0 hn9, m_uu_s])) F
        · refine mm_iload_n d_Model_lookAtLines_87 rfl ?_
          refine mm_aload_n d_Model_lookAtLines_88 rfl ?_
          refine mm_getf (v := .ref (m + 17)) d_Model_lookAtLines_89 cl_Model fl_Model_59_Model (by decide) H.1 rfl ?_
          refine mm_iload_n d_Model_lookAtLines_92 rfl ?_
          refine mx_zld (E := i) (v := (m_uu A N i) i) d_Model_lookAtLines_93 (mh_16 H) (by omega) (by decide) (show (m_uu A N i) i = (m_uu A N i) i from rfl) ?_
          refine mm_icmp_eq (tgt := 104) d_Model_lookAtLines_94 (by decide) (fun c_94 => ?_) (fun c_94 => ?_)
          · refine mm_aload_n d_Model_lookAtLines_104 rfl ?_
            refine mm_getf (v := .ref (m + 17)) d_Model_lookAtLines_105 cl_Model fl_Model_59_Model (by decide) H.1 rfl ?_
            refine mm_iload_n d_Model_lookAtLines_108 rfl ?_
            refine mm_iload_n d_Model_lookAtLines_109 rfl ?_
            refine mx_zst (E := i) d_Model_lookAtLines_110 (mh_16 H) (by omega) (by decide) (z01 (m_now_01 A i N)) ?_
            refine mh_a (j := 16) (f := (upd (m_uu A N i) i (m_now A i N))) (by decide) H F (fun h H F => ?_)
            refine mx_inc (a := i) (b := i + 1) d_Model_lookAtLines_111 rfl rfl (by decide) ?_
            refine mm_goto (tgt := 2) d_Model_lookAtLines_114 (by decide) ?_
            refine mm_G.drop 2 ?_
            refine mm_G.drop 3 ?_
            have hu9 := m_uu_i A N i
            have hn9 : m_note A N i = A 17 i := by unfold m_note; simp_all
            refine ih (i + 1) h (by omega) (H.cast rfl (by rw [ma_ma, m_no_s0 hn9, m_uu_s])) F
          · refine mm_aload_n d_Model_lookAtLines_97 rfl ?_
            refine mm_getf (v := .ref (m + 18)) d_Model_lookAtLines_98 cl_Model fl_Model_62_Model (by decide) H.1 rfl ?_
            refine mm_iload_n d_Model_lookAtLines_101 rfl ?_
            refine mm_iconst (v := 1) d_Model_lookAtLines_102 (by decide) ?_
            refine mx_zst (E := i) d_Model_lookAtLines_103 (mh_17 H) (by omega) (by decide) rfl ?_
            refine mh_a (j := 17) (f := (upd (m_no A N i) i 1)) (by decide) H F (fun h H F => ?_)
            refine mm_aload_n d_Model_lookAtLines_104 rfl ?_
            refine mm_getf (v := .ref (m + 17)) d_Model_lookAtLines_105 cl_Model fl_Model_59_Model (by decide) H.1 rfl ?_
            refine mm_iload_n d_Model_lookAtLines_108 rfl ?_
            refine mm_iload_n d_Model_lookAtLines_109 rfl ?_
            refine mx_zst (E := i) d_Model_lookAtLines_110 (mh_16 H) (by omega) (by decide) (z01 (m_now_01 A i N)) ?_
            refine mh_a (j := 16) (f := (upd (m_uu A N i) i (m_now A i N))) (by decide) H F (fun h H F => ?_)
            refine mx_inc (a := i) (b := i + 1) d_Model_lookAtLines_111 rfl rfl (by decide) ?_
            refine mm_goto (tgt := 2) d_Model_lookAtLines_114 (by decide) ?_
            refine mm_G.drop 2 ?_
            refine mm_G.drop 3 ?_
            have hu9 := m_uu_i A N i
            have hn9 : m_note A N i = 1 := by unfold m_note; simp_all
            refine ih (i + 1) h (by omega) (H.cast rfl (by rw [ma4, m_no_s1 hn9, m_uu_s])) F
      · refine mm_aload_n d_Model_lookAtLines_68 rfl ?_
        refine mm_getf (v := .ref (m + 17)) d_Model_lookAtLines_69 cl_Model fl_Model_59_Model (by decide) H.1 rfl ?_
        refine mm_iload_n d_Model_lookAtLines_72 rfl ?_
        refine mx_zld (E := i) (v := (m_uu A N i) i) d_Model_lookAtLines_73 (mh_16 H) (by omega) (by decide) (show (m_uu A N i) i = (m_uu A N i) i from rfl) ?_
        refine mm_if_eq (tgt := 97) d_Model_lookAtLines_74 (by decide) (fun c_74 => ?_) (fun c_74 => ?_)
        · refine mm_aload_n d_Model_lookAtLines_97 rfl ?_
          refine mm_getf (v := .ref (m + 18)) d_Model_lookAtLines_98 cl_Model fl_Model_62_Model (by decide) H.1 rfl ?_
          refine mm_iload_n d_Model_lookAtLines_101 rfl ?_
          refine mm_iconst (v := 1) d_Model_lookAtLines_102 (by decide) ?_
          refine mx_zst (E := i) d_Model_lookAtLines_103 (mh_17 H) (by omega) (by decide) rfl ?_
          refine mh_a (j := 17) (f := (upd (m_no A N i) i 1)) (by decide) H F (fun h H F => ?_)
          refine mm_aload_n d_Model_lookAtLines_104 rfl ?_
          refine mm_getf (v := .ref (m + 17)) d_Model_lookAtLines_105 cl_Model fl_Model_59_Model (by decide) H.1 rfl ?_
          refine mm_iload_n d_Model_lookAtLines_108 rfl ?_
          refine mm_iload_n d_Model_lookAtLines_109 rfl ?_
          refine mx_zst (E := i) d_Model_lookAtLines_110 (mh_16 H) (by omega) (by decide) (z01 (m_now_01 A i N)) ?_
          refine mh_a (j := 16) (f := (upd (m_uu A N i) i (m_now A i N))) (by decide) H F (fun h H F => ?_)
          refine mx_inc (a := i) (b := i + 1) d_Model_lookAtLines_111 rfl rfl (by decide) ?_
          refine mm_goto (tgt := 2) d_Model_lookAtLines_114 (by decide) ?_
          refine mm_G.drop 2 ?_
          refine mm_G.drop 3 ?_
          have hu9 := m_uu_i A N i
          have hn9 : m_note A N i = 1 := by unfold m_note; simp_all
          refine ih (i + 1) h (by omega) (H.cast rfl (by rw [ma4, m_no_s1 hn9, m_uu_s])) F
        · refine mm_aload_n d_Model_lookAtLines_77 rfl ?_
          refine mm_getf (v := .ref (m + 14)) d_Model_lookAtLines_78 cl_Model fl_Model_49_Model (by decide) H.1 rfl ?_
          refine mm_iload_n d_Model_lookAtLines_81 rfl ?_
          refine mx_ald (E := i) (v := (A 13) i) d_Model_lookAtLines_82 (mh_13 H) (by omega) (by decide) (show (A 13) i = (A 13) i from rfl) ?_
          refine mm_iconst (v := 2) d_Model_lookAtLines_83 (by decide) ?_
          refine mm_icmp_ne (tgt := 104) d_Model_lookAtLines_84 (by decide) (fun c_84 => ?_) (fun c_84 => ?_)
          · refine mm_aload_n d_Model_lookAtLines_104 rfl ?_
            refine mm_getf (v := .ref (m + 17)) d_Model_lookAtLines_105 cl_Model fl_Model_59_Model (by decide) H.1 rfl ?_
            refine mm_iload_n d_Model_lookAtLines_108 rfl ?_
            refine mm_iload_n d_Model_lookAtLines_109 rfl ?_
            refine mx_zst (E := i) d_Model_lookAtLines_110 (mh_16 H) (by omega) (by decide) (z01 (m_now_01 A i N)) ?_
            refine mh_a (j := 16) (f := (upd (m_uu A N i) i (m_now A i N))) (by decide) H F (fun h H F => ?_)
            refine mx_inc (a := i) (b := i + 1) d_Model_lookAtLines_111 rfl rfl (by decide) ?_
            refine mm_goto (tgt := 2) d_Model_lookAtLines_114 (by decide) ?_
            refine mm_G.drop 2 ?_
            refine mm_G.drop 3 ?_
            have hu9 := m_uu_i A N i
            have hn9 : m_note A N i = A 17 i := by unfold m_note; simp_all
            refine ih (i + 1) h (by omega) (H.cast rfl (by rw [ma_ma, m_no_s0 hn9, m_uu_s])) F
          · refine mm_iload_n d_Model_lookAtLines_87 rfl ?_
            refine mm_aload_n d_Model_lookAtLines_88 rfl ?_
            refine mm_getf (v := .ref (m + 17)) d_Model_lookAtLines_89 cl_Model fl_Model_59_Model (by decide) H.1 rfl ?_
            refine mm_iload_n d_Model_lookAtLines_92 rfl ?_
            refine mx_zld (E := i) (v := (m_uu A N i) i) d_Model_lookAtLines_93 (mh_16 H) (by omega) (by decide) (show (m_uu A N i) i = (m_uu A N i) i from rfl) ?_
            refine mm_icmp_eq (tgt := 104) d_Model_lookAtLines_94 (by decide) (fun c_94 => ?_) (fun c_94 => ?_)
            · refine mm_aload_n d_Model_lookAtLines_104 rfl ?_
              refine mm_getf (v := .ref (m + 17)) d_Model_lookAtLines_105 cl_Model fl_Model_59_Model (by decide) H.1 rfl ?_
              refine mm_iload_n d_Model_lookAtLines_108 rfl ?_
              refine mm_iload_n d_Model_lookAtLines_109 rfl ?_
              refine mx_zst (E := i) d_Model_lookAtLines_110 (mh_16 H) (by omega) (by decide) (z01 (m_now_01 A i N)) ?_
              refine mh_a (j := 16) (f := (upd (m_uu A N i) i (m_now A i N))) (by decide) H F (fun h H F => ?_)
              refine mx_inc (a := i) (b := i + 1) d_Model_lookAtLines_111 rfl rfl (by decide) ?_
              refine mm_goto (tgt := 2) d_Model_lookAtLines_114 (by decide) ?_
              refine mm_G.drop 2 ?_
              refine mm_G.drop 3 ?_
              have hu9 := m_uu_i A N i
              have hn9 : m_note A N i = A 17 i := by unfold m_note; simp_all
              refine ih (i + 1) h (by omega) (H.cast rfl (by rw [ma_ma, m_no_s0 hn9, m_uu_s])) F
            · refine mm_aload_n d_Model_lookAtLines_97 rfl ?_
              refine mm_getf (v := .ref (m + 18)) d_Model_lookAtLines_98 cl_Model fl_Model_62_Model (by decide) H.1 rfl ?_
              refine mm_iload_n d_Model_lookAtLines_101 rfl ?_
              refine mm_iconst (v := 1) d_Model_lookAtLines_102 (by decide) ?_
              refine mx_zst (E := i) d_Model_lookAtLines_103 (mh_17 H) (by omega) (by decide) rfl ?_
              refine mh_a (j := 17) (f := (upd (m_no A N i) i 1)) (by decide) H F (fun h H F => ?_)
              refine mm_aload_n d_Model_lookAtLines_104 rfl ?_
              refine mm_getf (v := .ref (m + 17)) d_Model_lookAtLines_105 cl_Model fl_Model_59_Model (by decide) H.1 rfl ?_
              refine mm_iload_n d_Model_lookAtLines_108 rfl ?_
              refine mm_iload_n d_Model_lookAtLines_109 rfl ?_
              refine mx_zst (E := i) d_Model_lookAtLines_110 (mh_16 H) (by omega) (by decide) (z01 (m_now_01 A i N)) ?_
              refine mh_a (j := 16) (f := (upd (m_uu A N i) i (m_now A i N))) (by decide) H F (fun h H F => ?_)
              refine mx_inc (a := i) (b := i + 1) d_Model_lookAtLines_111 rfl rfl (by decide) ?_
              refine mm_goto (tgt := 2) d_Model_lookAtLines_114 (by decide) ?_
              refine mm_G.drop 2 ?_
              refine mm_G.drop 3 ?_
              have hu9 := m_uu_i A N i
              have hn9 : m_note A N i = 1 := by unfold m_note; simp_all
              refine ih (i + 1) h (by omega) (H.cast rfl (by rw [ma4, m_no_s1 hn9, m_uu_s])) F
set_option maxRecDepth 100000 in
set_option maxHeartbeats 4000000 in
theorem J_Model_lookAtLines {sc : mm_Sc} {n : Nat} {h : mm_H} {m : Nat} {I : Nat → Int32} {A : Nat → Nat → Int32} {N : Nat} (H : MH h m I A) (hN : I 2 = nI N) (h12 : N ≤ 12) : mm_J sc y_Model_lookAtLines 2 [.ref m] n h 0 0 (MX (none) n h m I (m_look A N)) := by
  refine mm_J.of (show mm_G sc y_Model_lookAtLines 2 0 [some (.ref m), none, none, none] [] n h 0 0 _ from ?_) ce_Model_lookAtLines.2.2.2.2.1 (Nat.le_of_ble_eq_true rfl) (by simp [Value.category])
  have F : MF h h m := fun _ _ => rfl
  refine mm_iconst (v := 0) d_Model_lookAtLines_0 (by decide) ?_
  refine mm_istore_n d_Model_lookAtLines_1 (by decide) ?_
  exact lp_look (A := A) (by decide) hN h12 (fun h H F => mm_return d_Model_lookAtLines_117 rfl (MX.of rfl rfl rfl H F)) 16 0 h (by omega) (H.cast rfl (show A = ma (ma A 17 (m_no A N 0)) 16 (m_uu A N 0) from by rw [show m_no A N 0 = A 17 from rfl, show m_uu A N 0 = ma A 17 (A 17) 16 from rfl, ma_id, ma_id])) F
