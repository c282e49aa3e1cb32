def m_zf (f : Nat → Int32) (b i : Nat) : Nat → Int32 := fun j => if b ≤ j ∧ j < b + i then 0 else f j
theorem m_zf_0 (f : Nat → Int32) (b : Nat) : m_zf f b 0 = f := by
  funext j; unfold m_zf; rw [if_neg (by omega)]
theorem m_zf_s (f : Nat → Int32) (b i : Nat) : upd (m_zf f b i) (b + i) 0 = m_zf f b (i + 1) := by
  funext j
  unfold upd m_zf
  by_cases h1 : j = b + i
  · subst h1; rw [if_pos rfl, if_pos (by omega)]
  · rw [if_neg h1]; by_cases h2 : b ≤ j ∧ j < b + i
    · rw [if_pos h2, if_pos (by omega)]
    · rw [if_neg h2, if_neg (by omega)]
theorem za_u (f : Nat → Int32) (i : Nat) : upd (za f i) i 0 = za f (i + 1) := by
  funext j
  unfold upd za
  by_cases h1 : j = i
  · subst h1; rw [if_pos rfl, if_pos (by omega)]
  · rw [if_neg h1]; by_cases h2 : j < i
    · rw [if_pos h2, if_pos (by omega)]
    · rw [if_neg h2, if_neg (by omega)]
/-- the registers behind a reset of the first i parts -/
def m_rg (A : Nat → Nat → Int32) (i : Nat) : Nat → Int32 := fun j => if j / 64 < i ∧ 1 < A 0 (j / 64) then 0 else A 5 j
theorem m_rg_1 {A : Nat → Nat → Int32} {i : Nat} (h : 1 < A 0 i) : m_zf (m_rg A i) (64 * i) 64 = m_rg A (i + 1) := by
  funext j
  unfold m_zf m_rg
  by_cases h1 : 64 * i ≤ j ∧ j < 64 * i + 64
  · have : j / 64 = i := by omega
    rw [if_pos h1, if_pos ⟨by omega, by rw [this]; exact h⟩]
  · rw [if_neg h1]
    by_cases h2 : j / 64 < i ∧ 1 < A 0 (j / 64)
    · rw [if_pos h2, if_pos ⟨by omega, h2.2⟩]
    · rw [if_neg h2, if_neg (fun z => h2 ⟨by have := z.1; omega, z.2⟩)]
theorem m_rg_0 {A : Nat → Nat → Int32} {i : Nat} (h : ¬ 1 < A 0 i) : m_rg A i = m_rg A (i + 1) := by
  funext j
  unfold m_rg
  by_cases h2 : j / 64 < i ∧ 1 < A 0 (j / 64)
  · rw [if_pos h2, if_pos ⟨by omega, h2.2⟩]
  · rw [if_neg h2, if_neg (fun z => ?_)]
    by_cases h3 : j / 64 = i
    · exact h (h3 ▸ z.2)
    · exact h2 ⟨by have := z.1; omega, z.2⟩
def m_rs (A : Nat → Nat → Int32) (i : Nat) : Nat → Nat → Int32 := ma (ma (ma (ma A 5 (m_rg A i)) 6 (za (A 6) i)) 8 (za (A 8) i)) 10 (za (A 10) i)
def m_dn (A : Nat → Nat → Int32) (i : Nat) : Nat → Nat → Int32 := ma (ma A 16 (za (A 16) i)) 17 (za (A 17) i)
def m_reset (A : Nat → Nat → Int32) (N : Nat) : Nat → Nat → Int32 := m_dn (m_rs A N) 16
def m_ri (I : Nat → Int32) (e : Int32) : Nat → Int32 := mi (mi (mi (mi I 3 e) 4 0) 5 0) 6 0
set_option maxRecDepth 100000 in
set_option maxHeartbeats 4000000 in
theorem lp_rz {sc : mm_Sc} {n d kc ks : Nat} {h0 : mm_H} {m : Nat} {I : Nat → Int32} {A : Nat → Nat → Int32} {Q : mm_O → Nat → mm_H → Prop} {p : Nat} {e : Int32} (hp : p < 12) (hk : 1 < A 0 p) (hq : ∀ h, MH h m I (ma A 5 (m_zf (A 5) (64 * p) 64)) → MF h0 h m → mm_G sc y_Model_resetAll d 66 [some (.ref m), some (.int e), some (.int (nI p)), some (.int (nI 64))] [] n h kc ks Q) : ∀ (q i : Nat) (h : mm_H), i + q = 64 → MH h m I (ma A 5 (m_zf (A 5) (64 * p) i)) → MF h0 h m → mm_G sc y_Model_resetAll d 32 [some (.ref m), some (.int e), some (.int (nI p)), some (.int (nI i))] [] n h kc ks Q := by
  intro q
  induction q with
  | zero =>
    intro i h hi9 H F
    obtain rfl : i = 64 := by omega
    refine mm_iload_n d_Model_resetAll_32 rfl ?_
    refine mm_bipush (v := 64) d_Model_resetAll_33 (by decide) ?_
    refine mx_icmp_ge (a := 64) (b := 64) (tgt := 66) d_Model_resetAll_35 (by decide) (by omega) (by omega) (fun c_35 => ?_) (fun c_35 => absurd c_35 (by omega))
    exact hq _ H F
  | succ q ih =>
    intro i h hi9 H F
    refine mm_iload_n d_Model_resetAll_32 rfl ?_
    refine mm_bipush (v := 64) d_Model_resetAll_33 (by decide) ?_
    refine mx_icmp_ge (a := i) (b := 64) (tgt := 66) d_Model_resetAll_35 (by decide) (by omega) (by omega) (fun c_35 => absurd c_35 (by omega)) (fun c_35 => ?_)
    refine mm_aload_n d_Model_resetAll_38 rfl ?_
    refine mm_getf (v := .ref (m + 1)) d_Model_resetAll_39 cl_Model fl_Model_7_Model (by decide) H.1 rfl ?_
    refine mm_iload_n d_Model_resetAll_42 rfl ?_
    refine mx_ald (E := p) (v := (A 0) p) d_Model_resetAll_43 (mh_0 H) (by omega) (by decide) (show (A 0) p = (A 0) p from rfl) ?_
    refine mm_iconst (v := 1) d_Model_resetAll_44 (by decide) ?_
    refine mm_icmp_le (tgt := 66) d_Model_resetAll_45 (by decide) (fun c_45 => absurd c_45 (Int32.not_le.mpr hk)) (fun c_45 => ?_)
    refine mm_aload_n d_Model_resetAll_48 rfl ?_
    refine mm_getf (v := .ref (m + 6)) d_Model_resetAll_49 cl_Model fl_Model_25_Model (by decide) H.1 rfl ?_
    refine mm_bipush (v := 64) d_Model_resetAll_52 (by decide) ?_
    refine mm_iload_n d_Model_resetAll_54 rfl ?_
    refine mx_mul (a := 64) (b := p) d_Model_resetAll_55 ?_
    refine mm_iload_n d_Model_resetAll_56 rfl ?_
    refine mx_add (a := 64 * p) (b := i) (c := 64 * p + i) d_Model_resetAll_57 (by omega) ?_
    refine mm_iconst (v := 0) d_Model_resetAll_58 (by decide) ?_
    refine mx_ast (E := 64 * p + i) d_Model_resetAll_59 (mh_5 H) (by omega) (by decide) ?_
    refine mh_a (j := 5) (f := (upd (m_zf (A 5) (64 * p) i) (64 * p + i) 0)) (by decide) H F (fun h H F => ?_)
    refine mx_inc (a := i) (b := i + 1) d_Model_resetAll_60 rfl rfl (by decide) ?_
    refine mm_goto (tgt := 32) d_Model_resetAll_63 (by decide) ?_
    refine ih (i + 1) h (by omega) (H.cast rfl (by rw [ma_ma]; exact congrArg (ma A 5) (m_zf_s (A 5) (64 * p) i))) F
set_option maxRecDepth 100000 in
set_option maxHeartbeats 4000000 in
theorem lp_rp {sc : mm_Sc} {n d kc ks : Nat} {h0 : mm_H} {m : Nat} {I : Nat → Int32} {A : Nat → Nat → Int32} {Q : mm_O → Nat → mm_H → Prop} {N : Nat} {e : Int32} (hN : I 2 = nI N) (h12 : N ≤ 12) (hq : ∀ h, MH h m I (m_rs A N) → MF h0 h m → mm_G sc y_Model_resetAll d 93 [some (.ref m), some (.int e), some (.int (nI N)), none] [] n h kc ks Q) : ∀ (q i : Nat) (h : mm_H), i + q = N → MH h m I (m_rs A i) → MF h0 h m → mm_G sc y_Model_resetAll d 22 [some (.ref m), some (.int e), some (.int (nI i)), none] [] n h kc ks Q := by
  intro q
  induction q with
  | zero =>
    intro i h hi9 H F
    obtain rfl : N = i := by omega
    refine mm_iload_n d_Model_resetAll_22 rfl ?_
    refine mm_aload_n d_Model_resetAll_23 rfl ?_
    refine mx_get (k := 2) (v := nI N) d_Model_resetAll_24 cl_Model fl_Model_78_Model (by decide) H.1 (congrArg (fun z => some (Value.int z)) hN) ?_
    refine mx_icmp_ge (a := N) (b := N) (tgt := 93) d_Model_resetAll_27 (by decide) (by omega) (by omega) (fun c_27 => ?_) (fun c_27 => absurd c_27 (by omega))
    exact hq _ H F
  | succ q ih =>
    intro i h hi9 H F
    refine mm_iload_n d_Model_resetAll_22 rfl ?_
    refine mm_aload_n d_Model_resetAll_23 rfl ?_
    refine mx_get (k := 2) (v := nI N) d_Model_resetAll_24 cl_Model fl_Model_78_Model (by decide) H.1 (congrArg (fun z => some (Value.int z)) hN) ?_
    refine mx_icmp_ge (a := i) (b := N) (tgt := 93) d_Model_resetAll_27 (by decide) (by omega) (by omega) (fun c_27 => absurd c_27 (by omega)) (fun c_27 => ?_)
    refine mm_iconst (v := 0) d_Model_resetAll_30 (by decide) ?_
    refine mm_istore_n d_Model_resetAll_31 (by decide) ?_
    by_cases hk9 : 1 < A 0 i
    · refine lp_rz (A := (m_rs A i)) (by omega) hk9 (fun h H F => ?_) 64 0 h (by omega) (H.cast rfl (by rw [m_zf_0, ma_id])) F
      refine mm_aload_n d_Model_resetAll_66 rfl ?_
      refine mm_getf (v := .ref (m + 7)) d_Model_resetAll_67 cl_Model fl_Model_28_Model (by decide) H.1 rfl ?_
      refine mm_iload_n d_Model_resetAll_70 rfl ?_
      refine mm_iconst (v := 0) d_Model_resetAll_71 (by decide) ?_
      refine mx_ast (E := i) d_Model_resetAll_72 (mh_6 H) (by omega) (by decide) ?_
      refine mh_a (j := 6) (f := (upd (za (A 6) i) i 0)) (by decide) H F (fun h H F => ?_)
      refine mm_aload_n d_Model_resetAll_73 rfl ?_
      refine mm_getf (v := .ref (m + 9)) d_Model_resetAll_74 cl_Model fl_Model_34_Model (by decide) H.1 rfl ?_
      refine mm_iload_n d_Model_resetAll_77 rfl ?_
      refine mm_iconst (v := 0) d_Model_resetAll_78 (by decide) ?_
      refine mx_ast (E := i) d_Model_resetAll_79 (mh_8 H) (by omega) (by decide) ?_
      refine mh_a (j := 8) (f := (upd (za (A 8) i) i 0)) (by decide) H F (fun h H F => ?_)
      refine mm_aload_n d_Model_resetAll_80 rfl ?_
      refine mm_getf (v := .ref (m + 11)) d_Model_resetAll_81 cl_Model fl_Model_40_Model (by decide) H.1 rfl ?_
      refine mm_iload_n d_Model_resetAll_84 rfl ?_
      refine mm_iconst (v := 0) d_Model_resetAll_85 (by decide) ?_
      refine mx_ast (E := i) d_Model_resetAll_86 (mh_10 H) (by omega) (by decide) ?_
      refine mh_a (j := 10) (f := (upd (za (A 10) i) i 0)) (by decide) H F (fun h H F => ?_)
      refine mx_inc (a := i) (b := i + 1) d_Model_resetAll_87 rfl rfl (by decide) ?_
      refine mm_goto (tgt := 22) d_Model_resetAll_90 (by decide) ?_
      refine mm_G.drop 3 ?_
      refine ih (i + 1) h (by omega) (H.cast rfl ?_) F
      unfold m_rs
      funext a
      by_cases h5 : a = 5
      · subst h5; exact m_rg_1 hk9
      by_cases h6 : a = 6
      · subst h6; exact za_u (A 6) i
      by_cases h8 : a = 8
      · subst h8; exact za_u (A 8) i
      by_cases h10 : a = 10
      · subst h10; exact za_u (A 10) i
      simp only [ma_ne _ _ h5, ma_ne _ _ h6, ma_ne _ _ h8, ma_ne _ _ h10]
    · refine mm_iload_n d_Model_resetAll_32 rfl ?_
      refine mm_bipush (v := 64) d_Model_resetAll_33 (by decide) ?_
      refine mm_icmp_ge (tgt := 66) d_Model_resetAll_35 (by decide) (fun c9 => absurd c9 (by decide)) (fun _ => ?_)
      refine mm_aload_n d_Model_resetAll_38 rfl ?_
      refine mm_getf (v := .ref (m + 1)) d_Model_resetAll_39 cl_Model fl_Model_7_Model (by decide) H.1 rfl ?_
      refine mm_iload_n d_Model_resetAll_42 rfl ?_
      refine mx_ald (E := i) (v := (A 0) i) d_Model_resetAll_43 (mh_0 H) (by omega) (by decide) (show (A 0) i = (A 0) i from rfl) ?_
      refine mm_iconst (v := 1) d_Model_resetAll_44 (by decide) ?_
      refine mm_icmp_le (tgt := 66) d_Model_resetAll_45 (by decide) (fun c_45 => ?_) (fun c_45 => absurd c_45 (fun z => hk9 (Int32.not_le.mp z)))
      refine mm_aload_n d_Model_resetAll_66 rfl ?_
      refine mm_getf (v := .ref (m + 7)) d_Model_resetAll_67 cl_Model fl_Model_28_Model (by decide) H.1 rfl ?_
      refine mm_iload_n d_Model_resetAll_70 rfl ?_
      refine mm_iconst (v := 0) d_Model_resetAll_71 (by decide) ?_
      refine mx_ast (E := i) d_Model_resetAll_72 (mh_6 H) (by omega) (by decide) ?_
      refine mh_a (j := 6) (f := (upd (za (A 6) i) i 0)) (by decide) H F (fun h H F => ?_)
      refine mm_aload_n d_Model_resetAll_73 rfl ?_
      refine mm_getf (v := .ref (m + 9)) d_Model_resetAll_74 cl_Model fl_Model_34_Model (by decide) H.1 rfl ?_
      refine mm_iload_n d_Model_resetAll_77 rfl ?_
      refine mm_iconst (v := 0) d_Model_resetAll_78 (by decide) ?_
      refine mx_ast (E := i) d_Model_resetAll_79 (mh_8 H) (by omega) (by decide) ?_
      refine mh_a (j := 8) (f := (upd (za (A 8) i) i 0)) (by decide) H F (fun h H F => ?_)
      refine mm_aload_n d_Model_resetAll_80 rfl ?_
      refine mm_getf (v := .ref (m + 11)) d_Model_resetAll_81 cl_Model fl_Model_40_Model (by decide) H.1 rfl ?_
      refine mm_iload_n d_Model_resetAll_84 rfl ?_
      refine mm_iconst (v := 0) d_Model_resetAll_85 (by decide) ?_
      refine mx_ast (E := i) d_Model_resetAll_86 (mh_10 H) (by omega) (by decide) ?_
      refine mh_a (j := 10) (f := (upd (za (A 10) i) i 0)) (by decide) H F (fun h H F => ?_)
      refine mx_inc (a := i) (b := i + 1) d_Model_resetAll_87 rfl rfl (by decide) ?_
      refine mm_goto (tgt := 22) d_Model_resetAll_90 (by decide) ?_
      refine mm_G.drop 3 ?_
      refine ih (i + 1) h (by omega) (H.cast rfl ?_) F
      unfold m_rs
      funext a
      by_cases h5 : a = 5
      · subst h5; exact m_rg_0 hk9
      by_cases h6 : a = 6
      · subst h6; exact za_u (A 6) i
      by_cases h8 : a = 8
      · subst h8; exact za_u (A 8) i
      by_cases h10 : a = 10
      · subst h10; exact za_u (A 10) i
      simp only [ma_ne _ _ h5, ma_ne _ _ h6, ma_ne _ _ h8, ma_ne _ _ h10]
set_option maxRecDepth 100000 in
set_option maxHeartbeats 4000000 in
theorem lp_rl {sc : mm_Sc} {n d kc ks : Nat} {h0 : mm_H} {m : Nat} {I : Nat → Int32} {A : Nat → Nat → Int32} {Q : mm_O → Nat → mm_H → Prop} {e : Int32}  (hq : ∀ h, MH h m I (m_dn A 16) → MF h0 h m → mm_G sc y_Model_resetAll d 121 [some (.ref m), some (.int e), some (.int (nI 16)), none] [] n h kc ks Q) : ∀ (q i : Nat) (h : mm_H), i + q = 16 → MH h m I (m_dn A i) → MF h0 h m → mm_G sc y_Model_resetAll d 95 [some (.ref m), some (.int e), some (.int (nI i)), none] [] n h kc ks Q := by
  intro q
  induction q with
  | zero =>
    intro i h hi9 H F
    obtain rfl : i = 16 := by omega
    refine mm_iload_n d_Model_resetAll_95 rfl ?_
    refine mm_bipush (v := 16) d_Model_resetAll_96 (by decide) ?_
    refine mx_icmp_ge (a := 16) (b := 16) (tgt := 121) d_Model_resetAll_98 (by decide) (by omega) (by omega) (fun c_98 => ?_) (fun c_98 => absurd c_98 (by omega))
    exact hq _ H F
  | succ q ih =>
    intro i h hi9 H F
    refine mm_iload_n d_Model_resetAll_95 rfl ?_
    refine mm_bipush (v := 16) d_Model_resetAll_96 (by decide) ?_
    refine mx_icmp_ge (a := i) (b := 16) (tgt := 121) d_Model_resetAll_98 (by decide) (by omega) (by omega) (fun c_98 => absurd c_98 (by omega)) (fun c_98 => ?_)
    refine mm_aload_n d_Model_resetAll_101 rfl ?_
    refine mm_getf (v := .ref (m + 17)) d_Model_resetAll_102 cl_Model fl_Model_59_Model (by decide) H.1 rfl ?_
    refine mm_iload_n d_Model_resetAll_105 rfl ?_
    refine mm_iconst (v := 0) d_Model_resetAll_106 (by decide) ?_
    refine mx_zst (E := i) d_Model_resetAll_107 (mh_16 H) (by omega) (by decide) rfl ?_
    refine mh_a (j := 16) (f := (upd (za (A 16) i) i 0)) (by decide) H F (fun h H F => ?_)
    refine mm_aload_n d_Model_resetAll_108 rfl ?_
    refine mm_getf (v := .ref (m + 18)) d_Model_resetAll_109 cl_Model fl_Model_62_Model (by decide) H.1 rfl ?_
    refine mm_iload_n d_Model_resetAll_112 rfl ?_
    refine mm_iconst (v := 0) d_Model_resetAll_113 (by decide) ?_
    refine mx_zst (E := i) d_Model_resetAll_114 (mh_17 H) (by omega) (by decide) rfl ?_
    refine mh_a (j := 17) (f := (upd (za (A 17) i) i 0)) (by decide) H F (fun h H F => ?_)
    refine mx_inc (a := i) (b := i + 1) d_Model_resetAll_115 rfl rfl (by decide) ?_
    refine mm_goto (tgt := 95) d_Model_resetAll_118 (by decide) ?_
    refine ih (i + 1) h (by omega) (H.cast rfl ?_) F
    unfold m_dn
    funext a
    by_cases h16 : a = 16
    · subst h16; exact za_u (A 16) i
    by_cases h17 : a = 17
    · subst h17; exact za_u (A 17) i
    simp only [ma_ne _ _ h16, ma_ne _ _ h17]
theorem ma_idE (A : Nat → Nat → Int32) {k : Nat} {f : Nat → Int32} (h : f = A k) : ma A k f = A := by subst h; exact ma_id A k
theorem m_rs_0 (A : Nat → Nat → Int32) : A = m_rs A 0 := by
  unfold m_rs
  rw [ma_idE A (show m_rg A 0 = A 5 from funext fun j => if_neg (fun z => absurd z.1 (Nat.not_lt_zero _))), ma_idE A (za_0 _), ma_idE A (za_0 _), ma_idE A (za_0 _)]
theorem m_dn_0 (A : Nat → Nat → Int32) : A = m_dn A 0 := by
  unfold m_dn
  rw [ma_idE A (za_0 _), ma_idE A (za_0 _)]
set_option maxRecDepth 100000 in
set_option maxHeartbeats 4000000 in
theorem J_Model_resetAll {sc : mm_Sc} {n : Nat} {h : mm_H} {m : Nat} {I : Nat → Int32} {A : Nat → Nat → Int32} {N : Nat} {e : Int32} (H : MH h m I A) (hN : I 2 = nI N) (h12 : N ≤ 12) : mm_J sc y_Model_resetAll 1 [.ref m, .int e] n h 0 0 (MX (none) n h m (m_ri I e) (m_reset A N)) := by
  refine mm_J.of (show mm_G sc y_Model_resetAll 1 0 [some (.ref m), some (.int e), none, none] [] n h 0 0 _ from ?_) ce_Model_resetAll.2.2.2.2.1 (Nat.le_of_ble_eq_true rfl) (by simp [Value.category])
  have F : MF h h m := fun _ _ => rfl
  refine mm_aload_n d_Model_resetAll_0 rfl ?_
  refine mm_iload_n d_Model_resetAll_1 rfl ?_
  refine mm_putf d_Model_resetAll_2 cl_Model ty_Model fl_Model_88_Model (by decide) rfl rfl rfl H.1 (Nat.le_of_ble_eq_true rfl) ?_
  refine mh_i3 H F (fun h H F => ?_)
  refine mm_aload_n d_Model_resetAll_5 rfl ?_
  refine mm_iconst (v := 0) d_Model_resetAll_6 (by decide) ?_
  refine mm_putf d_Model_resetAll_7 cl_Model ty_Model fl_Model_91_Model (by decide) rfl rfl rfl H.1 (Nat.le_of_ble_eq_true rfl) ?_
  refine mh_i4 H F (fun h H F => ?_)
  refine mm_aload_n d_Model_resetAll_10 rfl ?_
  refine mm_iconst (v := 0) d_Model_resetAll_11 (by decide) ?_
  refine mm_putf d_Model_resetAll_12 cl_Model ty_Model fl_Model_94_Model (by decide) rfl rfl rfl H.1 (Nat.le_of_ble_eq_true rfl) ?_
  refine mh_i5 H F (fun h H F => ?_)
  refine mm_aload_n d_Model_resetAll_15 rfl ?_
  refine mm_iconst (v := 0) d_Model_resetAll_16 (by decide) ?_
  refine mm_putf d_Model_resetAll_17 cl_Model ty_Model fl_Model_97_Model (by decide) rfl rfl rfl H.1 (Nat.le_of_ble_eq_true rfl) ?_
  refine mh_i6 H F (fun h H F => ?_)
  refine mm_iconst (v := 0) d_Model_resetAll_20 (by decide) ?_
  refine mm_istore_n d_Model_resetAll_21 (by decide) ?_
  refine lp_rp (I := m_ri I e) (N := N) (A := A) hN h12 (fun h H F => ?_) N 0 h (by omega) (H.cast rfl (m_rs_0 A)) F
  refine mm_iconst (v := 0) d_Model_resetAll_93 (by decide) ?_
  refine mm_istore_n d_Model_resetAll_94 (by decide) ?_
  exact lp_rl (A := m_rs A N) (fun h H F => mm_return d_Model_resetAll_121 rfl (MX.of rfl rfl rfl H F)) 16 0 h (by omega) (H.cast rfl (m_dn_0 _)) F
/-- one more at register k of the COUNTS among the first i -/
def m_bump (A : Nat → Nat → Int32) (k i : Nat) : Nat → Int32 := fun j => if j % 64 = k ∧ j / 64 < i ∧ A 0 (j / 64) = 5 then A 5 j + 1 else A 5 j
theorem m_bump_0 (A : Nat → Nat → Int32) (k : Nat) : m_bump A k 0 = A 5 := funext fun j => if_neg (fun z => absurd z.2.1 (Nat.not_lt_zero _))
theorem m_bump_1 {A : Nat → Nat → Int32} {k i e : Nat} (hk : k < 64) (he : e = 64 * i + k) (h : A 0 i = 5) : upd (m_bump A k i) e (m_bump A k i e + 1) = m_bump A k (i + 1) := by
  subst he
  have e1 : (64 * i + k) / 64 = i := by omega
  have e2 : (64 * i + k) % 64 = k := by omega
  funext j
  unfold upd m_bump
  by_cases h1 : j = 64 * i + k
  · subst h1
    rw [if_pos rfl, e1, e2, if_neg (fun z => absurd z.2.1 (Nat.lt_irrefl _)), if_pos ⟨rfl, Nat.lt_succ_self _, h⟩]
  · rw [if_neg h1]; by_cases h2 : j % 64 = k ∧ j / 64 < i ∧ A 0 (j / 64) = 5
    · rw [if_pos h2, if_pos ⟨h2.1, by have := h2.2.1; omega, h2.2.2⟩]
    · rw [if_neg h2, if_neg (fun z => h2 ⟨z.1, by have := z.1; have := z.2.1; omega, z.2.2⟩)]
theorem m_bump_n {A : Nat → Nat → Int32} {k i : Nat} (h : ¬ A 0 i = 5) : m_bump A k i = m_bump A k (i + 1) := by
  funext j
  unfold m_bump
  by_cases h2 : j % 64 = k ∧ j / 64 < i ∧ A 0 (j / 64) = 5
  · rw [if_pos h2, if_pos ⟨h2.1, by have := h2.2.1; omega, h2.2.2⟩]
  · rw [if_neg h2, if_neg (fun z => ?_)]
    by_cases h3 : j / 64 = i
    · exact h (h3 ▸ z.2.2)
    · exact h2 ⟨z.1, by have := z.2.1; omega, z.2.2⟩
set_option maxRecDepth 100000 in
set_option maxHeartbeats 4000000 in
theorem lp_cnt {sc : mm_Sc} {n d kc ks : Nat} {h0 : mm_H} {m : Nat} {I : Nat → Int32} {A : Nat → Nat → Int32} {Q : mm_O → Nat → mm_H → Prop} {N w : Nat} (hN : I 2 = nI N) (h12 : N ≤ 12) (hw : w < 64) (hq : ∀ h, MH h m I (ma A 5 (m_bump A w N)) → MF h0 h m → mm_G sc y_Model_countAll d 87 [some (.ref m), some (.int (nI w)), some (.int (nI N))] [] n h kc ks Q) : ∀ (q i : Nat) (h : mm_H), i + q = N → MH h m I (ma A 5 (m_bump A w i)) → MF h0 h m → mm_G sc y_Model_countAll d 48 [some (.ref m), some (.int (nI w)), some (.int (nI i))] [] n h kc ks Q := by
  intro q
  induction q with
  | zero =>
    intro i h hi9 H F
    obtain rfl : N = i := by omega
    refine mm_iload_n d_Model_countAll_48 rfl ?_
    refine mm_aload_n d_Model_countAll_49 rfl ?_
    refine mx_get (k := 2) (v := nI N) d_Model_countAll_50 cl_Model fl_Model_78_Model (by decide) H.1 (congrArg (fun z => some (Value.int z)) hN) ?_
    refine mx_icmp_ge (a := N) (b := N) (tgt := 87) d_Model_countAll_53 (by decide) (by omega) (by omega) (fun c_53 => ?_) (fun c_53 => absurd c_53 (by omega))
    exact hq _ H F
  | succ q ih =>
    intro i h hi9 H F
    refine mm_iload_n d_Model_countAll_48 rfl ?_
    refine mm_aload_n d_Model_countAll_49 rfl ?_
    refine mx_get (k := 2) (v := nI N) d_Model_countAll_50 cl_Model fl_Model_78_Model (by decide) H.1 (congrArg (fun z => some (Value.int z)) hN) ?_
    refine mx_icmp_ge (a := i) (b := N) (tgt := 87) d_Model_countAll_53 (by decide) (by omega) (by omega) (fun c_53 => absurd c_53 (by omega)) (fun c_53 => ?_)
    refine mm_aload_n d_Model_countAll_56 rfl ?_
    refine mm_getf (v := .ref (m + 1)) d_Model_countAll_57 cl_Model fl_Model_7_Model (by decide) H.1 rfl ?_
    refine mm_iload_n d_Model_countAll_60 rfl ?_
    refine mx_ald (E := i) (v := (A 0) i) d_Model_countAll_61 (mh_0 H) (by omega) (by decide) (show (A 0) i = (A 0) i from rfl) ?_
    refine mm_iconst (v := 5) d_Model_countAll_62 (by decide) ?_
    refine mm_icmp_ne (tgt := 81) d_Model_countAll_63 (by decide) (fun c_63 => ?_) (fun c_63 => ?_)
    · refine mx_inc (a := i) (b := i + 1) d_Model_countAll_81 rfl rfl (by decide) ?_
      refine mm_goto (tgt := 48) d_Model_countAll_84 (by decide) ?_
      refine ih (i + 1) h (by omega) (H.cast rfl (congrArg (ma A 5) (m_bump_n c_63))) F
    · refine mm_aload_n d_Model_countAll_66 rfl ?_
      refine mm_getf (v := .ref (m + 6)) d_Model_countAll_67 cl_Model fl_Model_25_Model (by decide) H.1 rfl ?_
      refine mm_bipush (v := 64) d_Model_countAll_70 (by decide) ?_
      refine mm_iload_n d_Model_countAll_72 rfl ?_
      refine mx_mul (a := 64) (b := i) d_Model_countAll_73 ?_
      refine mm_iload_n d_Model_countAll_74 rfl ?_
      refine mx_add (a := 64 * i) (b := w) (c := 64 * i + w) d_Model_countAll_75 (by omega) ?_
      refine mm_dup2 d_Model_countAll_76 rfl rfl ?_
      refine mx_ald (E := 64 * i + w) (v := (m_bump A w i) (64 * i + w)) d_Model_countAll_77 (mh_5 H) (by omega) (by decide) (show (m_bump A w i) (64 * i + w) = (m_bump A w i) (64 * i + w) from rfl) ?_
      refine mm_iconst (v := 1) d_Model_countAll_78 (by decide) ?_
      refine mm_iadd d_Model_countAll_79 ?_
      refine mx_ast (E := 64 * i + w) d_Model_countAll_80 (mh_5 H) (by omega) (by decide) ?_
      refine mh_a (j := 5) (f := (upd (m_bump A w i) (64 * i + w) (((m_bump A w i) (64 * i + w)) + 1))) (by decide) H F (fun h H F => ?_)
      refine mx_inc (a := i) (b := i + 1) d_Model_countAll_81 rfl rfl (by decide) ?_
      refine mm_goto (tgt := 48) d_Model_countAll_84 (by decide) ?_
      refine ih (i + 1) h (by omega) (H.cast rfl (by rw [ma_ma]; exact congrArg (ma A 5) (m_bump_1 (by omega) rfl c_63))) F
set_option maxRecDepth 100000 in
set_option maxHeartbeats 4000000 in
theorem J_Model_countAll1 {sc : mm_Sc} {n : Nat} {h : mm_H} {m : Nat} {I : Nat → Int32} {A : Nat → Nat → Int32} {N : Nat} (H : MH h m I A) (hN : I 2 = nI N) (h12 : N ≤ 12) : mm_J sc y_Model_countAll 1 [.ref m, .int 1] n h 0 0 (MX (none) n h m (mi I 4 (I 4 + 1)) (ma A 5 (m_bump A 1 N))) := by
  refine mm_J.of (show mm_G sc y_Model_countAll 1 0 [some (.ref m), some (.int 1), none] [] n h 0 0 _ from ?_) ce_Model_countAll.2.2.2.2.1 (Nat.le_of_ble_eq_true rfl) (by simp [Value.category])
  have F : MF h h m := fun _ _ => rfl
  refine mm_iload_n d_Model_countAll_0 rfl ?_
  refine mm_iconst (v := 1) d_Model_countAll_1 (by decide) ?_
  refine mm_icmp_ne (tgt := 18) d_Model_countAll_2 (by decide) (fun c9 => absurd c9 (by decide)) (fun _ => ?_)
  refine mm_aload_n d_Model_countAll_5 rfl ?_
  refine mm_dup d_Model_countAll_6 rfl ?_
  refine mx_get (k := 22) (v := I 4) d_Model_countAll_7 cl_Model fl_Model_91_Model (by decide) H.1 rfl ?_
  refine mm_iconst (v := 1) d_Model_countAll_10 (by decide) ?_
  refine mm_iadd d_Model_countAll_11 ?_
  refine mm_putf d_Model_countAll_12 cl_Model ty_Model fl_Model_91_Model (by decide) rfl rfl rfl H.1 (Nat.le_of_ble_eq_true rfl) ?_
  refine mh_i4 H F (fun h H F => ?_)
  refine mm_goto (tgt := 46) d_Model_countAll_15 (by decide) ?_
  refine mm_iconst (v := 0) d_Model_countAll_46 (by decide) ?_
  refine mm_istore_n d_Model_countAll_47 (by decide) ?_
  exact lp_cnt (I := mi I 4 (I 4 + 1)) (w := 1) (A := A) hN h12 (by decide) (fun h H F => mm_return d_Model_countAll_87 rfl (MX.of rfl rfl rfl H F)) N 0 h (by omega) (H.cast rfl (ma_idE A (m_bump_0 A _)).symm) F
set_option maxRecDepth 100000 in
set_option maxHeartbeats 4000000 in
theorem J_Model_countAll2 {sc : mm_Sc} {n : Nat} {h : mm_H} {m : Nat} {I : Nat → Int32} {A : Nat → Nat → Int32} {N : Nat} (H : MH h m I A) (hN : I 2 = nI N) (h12 : N ≤ 12) : mm_J sc y_Model_countAll 1 [.ref m, .int 2] n h 0 0 (MX (none) n h m (mi I 5 (I 5 + 1)) (ma A 5 (m_bump A 2 N))) := by
  refine mm_J.of (show mm_G sc y_Model_countAll 1 0 [some (.ref m), some (.int 2), none] [] n h 0 0 _ from ?_) ce_Model_countAll.2.2.2.2.1 (Nat.le_of_ble_eq_true rfl) (by simp [Value.category])
  have F : MF h h m := fun _ _ => rfl
  refine mm_iload_n d_Model_countAll_0 rfl ?_
  refine mm_iconst (v := 1) d_Model_countAll_1 (by decide) ?_
  refine mm_icmp_ne (tgt := 18) d_Model_countAll_2 (by decide) (fun _ => ?_) (fun c9 => absurd c9 (by decide))
  refine mm_iload_n d_Model_countAll_18 rfl ?_
  refine mm_iconst (v := 2) d_Model_countAll_19 (by decide) ?_
  refine mm_icmp_ne (tgt := 36) d_Model_countAll_20 (by decide) (fun c9 => absurd c9 (by decide)) (fun _ => ?_)
  refine mm_aload_n d_Model_countAll_23 rfl ?_
  refine mm_dup d_Model_countAll_24 rfl ?_
  refine mx_get (k := 23) (v := I 5) d_Model_countAll_25 cl_Model fl_Model_94_Model (by decide) H.1 rfl ?_
  refine mm_iconst (v := 1) d_Model_countAll_28 (by decide) ?_
  refine mm_iadd d_Model_countAll_29 ?_
  refine mm_putf d_Model_countAll_30 cl_Model ty_Model fl_Model_94_Model (by decide) rfl rfl rfl H.1 (Nat.le_of_ble_eq_true rfl) ?_
  refine mh_i5 H F (fun h H F => ?_)
  refine mm_goto (tgt := 46) d_Model_countAll_33 (by decide) ?_
  refine mm_iconst (v := 0) d_Model_countAll_46 (by decide) ?_
  refine mm_istore_n d_Model_countAll_47 (by decide) ?_
  exact lp_cnt (I := mi I 5 (I 5 + 1)) (w := 2) (A := A) hN h12 (by decide) (fun h H F => mm_return d_Model_countAll_87 rfl (MX.of rfl rfl rfl H F)) N 0 h (by omega) (H.cast rfl (ma_idE A (m_bump_0 A _)).symm) F
set_option maxRecDepth 100000 in
set_option maxHeartbeats 4000000 in
theorem J_Model_countAll3 {sc : mm_Sc} {n : Nat} {h : mm_H} {m : Nat} {I : Nat → Int32} {A : Nat → Nat → Int32} {N : Nat} (H : MH h m I A) (hN : I 2 = nI N) (h12 : N ≤ 12) : mm_J sc y_Model_countAll 1 [.ref m, .int 3] n h 0 0 (MX (none) n h m (mi I 6 (I 6 + 1)) (ma A 5 (m_bump A 3 N))) := by
  refine mm_J.of (show mm_G sc y_Model_countAll 1 0 [some (.ref m), some (.int 3), none] [] n h 0 0 _ from ?_) ce_Model_countAll.2.2.2.2.1 (Nat.le_of_ble_eq_true rfl) (by simp [Value.category])
  have F : MF h h m := fun _ _ => rfl
  refine mm_iload_n d_Model_countAll_0 rfl ?_
  refine mm_iconst (v := 1) d_Model_countAll_1 (by decide) ?_
  refine mm_icmp_ne (tgt := 18) d_Model_countAll_2 (by decide) (fun _ => ?_) (fun c9 => absurd c9 (by decide))
  refine mm_iload_n d_Model_countAll_18 rfl ?_
  refine mm_iconst (v := 2) d_Model_countAll_19 (by decide) ?_
  refine mm_icmp_ne (tgt := 36) d_Model_countAll_20 (by decide) (fun _ => ?_) (fun c9 => absurd c9 (by decide))
  refine mm_aload_n d_Model_countAll_36 rfl ?_
  refine mm_dup d_Model_countAll_37 rfl ?_
  refine mx_get (k := 24) (v := I 6) d_Model_countAll_38 cl_Model fl_Model_97_Model (by decide) H.1 rfl ?_
  refine mm_iconst (v := 1) d_Model_countAll_41 (by decide) ?_
  refine mm_iadd d_Model_countAll_42 ?_
  refine mm_putf d_Model_countAll_43 cl_Model ty_Model fl_Model_97_Model (by decide) rfl rfl rfl H.1 (Nat.le_of_ble_eq_true rfl) ?_
  refine mh_i6 H F (fun h H F => ?_)
  refine mm_iconst (v := 0) d_Model_countAll_46 (by decide) ?_
  refine mm_istore_n d_Model_countAll_47 (by decide) ?_
  exact lp_cnt (I := mi I 6 (I 6 + 1)) (w := 3) (A := A) hN h12 (by decide) (fun h H F => mm_return d_Model_countAll_87 rfl (MX.of rfl rfl rfl H F)) N 0 h (by omega) (H.cast rfl (ma_idE A (m_bump_0 A _)).symm) F
set_option maxRecDepth 100000 in
set_option maxHeartbeats 4000000 in
theorem lp_take {sc : mm_Sc} {n d kc ks : Nat} {h0 : mm_H} {m : Nat} {I : Nat → Int32} {A : Nat → Nat → Int32} {Q : mm_O → Nat → mm_H → Prop} {p C : Nat} {v : Int32} (hp : p < 12) (hc : A 8 p = nI C) (hC : C < 32) (hq : ∀ h, MH h m I (ma A 9 (m_shift (A 9) (32 * p) C)) → MF h0 h m → mm_G sc y_Model_takeIn d 73 [some (.ref m), some (.int (nI p)), some (.int v), some (.int (nI C))] [] n h kc ks Q) : ∀ (q i : Nat) (h : mm_H), i + q = C → MH h m I (ma A 9 (m_shift (A 9) (32 * p) i)) → MF h0 h m → mm_G sc y_Model_takeIn d 33 [some (.ref m), some (.int (nI p)), some (.int v), some (.int (nI i))] [] n h kc ks Q := by
  intro q
  induction q with
  | zero =>
    intro i h hi9 H F
    obtain rfl : C = i := by omega
    refine mm_iload_n d_Model_takeIn_33 rfl ?_
    refine mm_aload_n d_Model_takeIn_34 rfl ?_
    refine mm_getf (v := .ref (m + 9)) d_Model_takeIn_35 cl_Model fl_Model_34_Model (by decide) H.1 rfl ?_
    refine mm_iload_n d_Model_takeIn_38 rfl ?_
    refine mx_ald (E := p) (v := nI C) d_Model_takeIn_39 (mh_8 H) (by omega) (by decide) (show (A 8) p = nI C from hc) ?_
    refine mx_icmp_ge (a := C) (b := C) (tgt := 73) d_Model_takeIn_40 (by decide) (by omega) (by omega) (fun c_40 => ?_) (fun c_40 => absurd c_40 (by omega))
    exact hq _ H F
  | succ q ih =>
    intro i h hi9 H F
    refine mm_iload_n d_Model_takeIn_33 rfl ?_
    refine mm_aload_n d_Model_takeIn_34 rfl ?_
    refine mm_getf (v := .ref (m + 9)) d_Model_takeIn_35 cl_Model fl_Model_34_Model (by decide) H.1 rfl ?_
    refine mm_iload_n d_Model_takeIn_38 rfl ?_
    refine mx_ald (E := p) (v := nI C) d_Model_takeIn_39 (mh_8 H) (by omega) (by decide) (show (A 8) p = nI C from hc) ?_
    refine mx_icmp_ge (a := i) (b := C) (tgt := 73) d_Model_takeIn_40 (by decide) (by omega) (by omega) (fun c_40 => absurd c_40 (by omega)) (fun c_40 => ?_)
    refine mm_aload_n d_Model_takeIn_43 rfl ?_
    refine mm_getf (v := .ref (m + 10)) d_Model_takeIn_44 cl_Model fl_Model_37_Model (by decide) H.1 rfl ?_
    refine mm_bipush (v := 32) d_Model_takeIn_47 (by decide) ?_
    refine mm_iload_n d_Model_takeIn_49 rfl ?_
    refine mx_mul (a := 32) (b := p) d_Model_takeIn_50 ?_
    refine mm_iload_n d_Model_takeIn_51 rfl ?_
    refine mx_add (a := 32 * p) (b := i) (c := 32 * p + i) d_Model_takeIn_52 (by omega) ?_
    refine mm_aload_n d_Model_takeIn_53 rfl ?_
    refine mm_getf (v := .ref (m + 10)) d_Model_takeIn_54 cl_Model fl_Model_37_Model (by decide) H.1 rfl ?_
    refine mm_bipush (v := 32) d_Model_takeIn_57 (by decide) ?_
    refine mm_iload_n d_Model_takeIn_59 rfl ?_
    refine mx_mul (a := 32) (b := p) d_Model_takeIn_60 ?_
    refine mm_iload_n d_Model_takeIn_61 rfl ?_
    refine mx_add (a := 32 * p) (b := i) (c := 32 * p + i) d_Model_takeIn_62 (by omega) ?_
    refine mm_iconst (v := 1) d_Model_takeIn_63 (by decide) ?_
    refine mx_add (a := 32 * p + i) (b := 1) (c := 32 * p + i + 1) d_Model_takeIn_64 (by omega) ?_
    refine mx_ald (E := 32 * p + i + 1) (v := (m_shift (A 9) (32 * p) i) (32 * p + i + 1)) d_Model_takeIn_65 (mh_9 H) (by omega) (by decide) (show (m_shift (A 9) (32 * p) i) (32 * p + i + 1) = (m_shift (A 9) (32 * p) i) (32 * p + i + 1) from rfl) ?_
    refine mx_ast (E := 32 * p + i) d_Model_takeIn_66 (mh_9 H) (by omega) (by decide) ?_
    refine mh_a (j := 9) (f := (upd (m_shift (A 9) (32 * p) i) (32 * p + i) ((m_shift (A 9) (32 * p) i) (32 * p + i + 1)))) (by decide) H F (fun h H F => ?_)
    refine mx_inc (a := i) (b := i + 1) d_Model_takeIn_67 rfl rfl (by decide) ?_
    refine mm_goto (tgt := 33) d_Model_takeIn_70 (by decide) ?_
    refine ih (i + 1) h (by omega) (H.cast rfl (by rw [ma_ma]; exact congrArg (ma A 9) (m_shift_s (A 9) (32 * p) i _ (by omega)))) F
def m_take (A : Nat → Nat → Int32) (p c : Nat) : (Nat → Nat → Int32) × Int32 := if c = 0 then (A, 0) else (ma (ma A 8 (upd (A 8) p (nI (c - 1)))) 9 (m_shift (A 9) (32 * p) (c - 1)), A 9 (32 * p))
set_option maxRecDepth 100000 in
set_option maxHeartbeats 4000000 in
theorem J_Model_takeIn {sc : mm_Sc} {n : Nat} {h : mm_H} {m : Nat} {I : Nat → Int32} {A : Nat → Nat → Int32} {p c : Nat} (H : MH h m I A) (hp : p < 12) (hc : A 8 p = nI c) (hc32 : c ≤ 32) : mm_J sc y_Model_takeIn 1 [.ref m, .int (nI p)] n h 0 0 (MX (some (.int ((m_take A p c).2))) n h m I ((m_take A p c).1)) := by
  refine mm_J.of (show mm_G sc y_Model_takeIn 1 0 [some (.ref m), some (.int (nI p)), none, none] [] n h 0 0 _ from ?_) ce_Model_takeIn.2.2.2.2.1 (Nat.le_of_ble_eq_true rfl) (by simp [Value.category])
  have F : MF h h m := fun _ _ => rfl
  refine mm_aload_n d_Model_takeIn_0 rfl ?_
  refine mm_getf (v := .ref (m + 9)) d_Model_takeIn_1 cl_Model fl_Model_34_Model (by decide) H.1 rfl ?_
  refine mm_iload_n d_Model_takeIn_4 rfl ?_
  refine mx_ald (E := p) (v := nI c) d_Model_takeIn_5 (mh_8 H) (by omega) (by decide) (show (A 8) p = nI c from hc) ?_
  refine mx_if_ne (a := c) (tgt := 11) d_Model_takeIn_6 (by decide) (by omega) (fun c_6 => ?_) (fun c_6 => ?_)
  · refine mm_aload_n d_Model_takeIn_11 rfl ?_
    refine mm_getf (v := .ref (m + 10)) d_Model_takeIn_12 cl_Model fl_Model_37_Model (by decide) H.1 rfl ?_
    refine mm_bipush (v := 32) d_Model_takeIn_15 (by decide) ?_
    refine mm_iload_n d_Model_takeIn_17 rfl ?_
    refine mx_mul (a := 32) (b := p) d_Model_takeIn_18 ?_
    refine mx_ald (E := 32 * p) (v := (A 9) (32 * p)) d_Model_takeIn_19 (mh_9 H) (by omega) (by decide) (show (A 9) (32 * p) = (A 9) (32 * p) from rfl) ?_
    refine mm_istore_n d_Model_takeIn_20 (by decide) ?_
    refine mm_aload_n d_Model_takeIn_21 rfl ?_
    refine mm_getf (v := .ref (m + 9)) d_Model_takeIn_22 cl_Model fl_Model_34_Model (by decide) H.1 rfl ?_
    refine mm_iload_n d_Model_takeIn_25 rfl ?_
    refine mm_dup2 d_Model_takeIn_26 rfl rfl ?_
    refine mx_ald (E := p) (v := nI c) d_Model_takeIn_27 (mh_8 H) (by omega) (by decide) (show (A 8) p = nI c from hc) ?_
    refine mm_iconst (v := 1) d_Model_takeIn_28 (by decide) ?_
    refine mx_sub (a := c) (b := 1) (c := c - 1) d_Model_takeIn_29 (by omega) (by omega) ?_
    refine mx_ast (E := p) d_Model_takeIn_30 (mh_8 H) (by omega) (by decide) ?_
    refine mh_a (j := 8) (f := (upd (A 8) p (nI (c - 1)))) (by decide) H F (fun h H F => ?_)
    refine mm_iconst (v := 0) d_Model_takeIn_31 (by decide) ?_
    refine mm_istore_n d_Model_takeIn_32 (by decide) ?_
    refine lp_take (A := ma A 8 (upd (A 8) p (nI (c - 1)))) (C := c - 1) hp (show upd (A 8) p (nI (c - 1)) p = nI (c - 1) from if_pos rfl) (by omega) (fun h H F => ?_) (c - 1) 0 h (by omega) (H.cast rfl (ma_idE _ (m_shift_0 _ _)).symm) F
    refine mm_iload_n d_Model_takeIn_73 rfl (mm_ireturn d_Model_takeIn_74 rfl (MX.of (by simp [m_take, c_6]) rfl (by simp [m_take, c_6]; rfl) H F))
  · refine mm_iconst (v := 0) d_Model_takeIn_9 (by decide) ?_
    exact mm_ireturn d_Model_takeIn_10 rfl (MX.of (by simp [m_take, c_6]) (rfl) (by simp [m_take, c_6]) H F)
def m_ser (I : Nat → Int32) (A : Nat → Nat → Int32) (k : Int32) : Int32 := if w_in k 0 (I 2 - 1) = 0 then 0 else if A 0 k.toNatClampNeg = 3 then 1 else 0
