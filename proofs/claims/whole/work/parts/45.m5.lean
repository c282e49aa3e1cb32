def m_best (A : Nat → Nat → Int32) : Nat → Option Nat
  | 0 => none
  | i + 1 => if m_pen A i = 0 then m_best A i else if A 15 i = 0 then (match m_best A i with
     | none => some i
     | some b => if A 14 i ≤ A 14 b then some b else some i) else m_best A i
theorem m_best_lt {A : Nat → Nat → Int32} : ∀ {i b : Nat}, m_best A i = some b → b < i
  | 0, _, h => by cases h
  | i + 1, b, h => by
    unfold m_best at h
    split at h
    · have := m_best_lt h; omega
    · split at h
      · split at h
        · cases h; omega
        · rename_i b' hb
          split at h
          · cases h; have := m_best_lt hb; omega
          · cases h; omega
      · have := m_best_lt h; omega
/-- the reference's booleans are 0 or 1 -/
def m_01 (A : Nat → Nat → Int32) : Prop := ∀ l, l < 16 → (A 15 l = 0 ∨ A 15 l = 1) ∧ (A 16 l = 0 ∨ A 16 l = 1) ∧ (A 17 l = 0 ∨ A 17 l = 1)
set_option maxRecDepth 100000 in
set_option maxHeartbeats 4000000 in
theorem lp_choose {sc : mm_Sc} {n d kc ks : Nat} {h0 : mm_H} {m : Nat} {I : Nat → Int32} {A : Nat → Nat → Int32} {Q : mm_O → Nat → mm_H → Prop}  (hd : 2 ≤ d) (hb : m_01 A) (hq : ∀ h, MH h m I A → MF h0 h m → mm_G sc y_Model_choose d 54 [some (.ref m), some (.int (oI (m_best A 16))), some (.int (nI 16))] [] n h kc ks Q) : ∀ (q i : Nat) (h : mm_H), i + q = 16 → MH h m I A → MF h0 h m → mm_G sc y_Model_choose d 4 [some (.ref m), some (.int (oI (m_best A i))), some (.int (nI i))] [] n h kc ks Q := by
  intro q
  induction q with
  | zero =>
    intro i h hi9 H F
    obtain rfl : i = 16 := by omega
    refine mm_iload_n d_Model_choose_4 rfl ?_
    refine mm_bipush (v := 16) d_Model_choose_5 (by decide) ?_
    refine mx_icmp_ge (a := 16) (b := 16) (tgt := 54) d_Model_choose_7 (by decide) (by omega) (by omega) (fun c_7 => ?_) (fun c_7 => absurd c_7 (by omega))
    exact hq _ H F
  | succ q ih =>
    intro i h hi9 H F
    refine mm_iload_n d_Model_choose_4 rfl ?_
    refine mm_bipush (v := 16) d_Model_choose_5 (by decide) ?_
    refine mx_icmp_ge (a := i) (b := 16) (tgt := 54) d_Model_choose_7 (by decide) (by omega) (by omega) (fun c_7 => absurd c_7 (by omega)) (fun c_7 => ?_)
    refine mm_aload_n d_Model_choose_10 rfl ?_
    refine mm_iload_n d_Model_choose_11 rfl ?_
    refine mx_call d_Model_choose_12 (mm_Inv.vi (as := [.int (nI i)]) d_Model_choose_12 (Or.inl m_860) m_862 ce_Model_isPending.2.1 ce_Model_isPending.2.2.1 mp_35 ce_Model_isPending.2.2.2.2.2 ln_Model_isPending cl_Model H.1 rfl) (J_Model_isPending H (by omega) (hb _ (by omega)).2.1 (hb _ (by omega)).2.2) (Nat.lt_of_lt_of_le (by decide) hd) ce_Model_isPending.1 ce_Model_isPending.2.1 ce_Model_isPending.2.2.1 ce_Model_isPending.2.2.2.1 (Nat.le_of_ble_eq_true rfl) F (fun h H F => ?_)
    refine mm_if_eq (tgt := 48) d_Model_choose_15 (by decide) (fun c_15 => ?_) (fun c_15 => ?_)
    · refine mx_inc (a := i) (b := i + 1) d_Model_choose_48 rfl rfl (by decide) ?_
      refine mm_goto (tgt := 4) d_Model_choose_51 (by decide) ?_
      refine mm_G.cast (l' := [some (.ref m), some (.int (oI (m_best A (i + 1)))), some (.int (nI (i + 1)))]) (by simp [m_best, c_15] <;> rfl) rfl rfl (ih (i + 1) h (by omega) H F)
    · refine mm_aload_n d_Model_choose_18 rfl ?_
      refine mm_getf (v := .ref (m + 16)) d_Model_choose_19 cl_Model fl_Model_55_Model (by decide) H.1 rfl ?_
      refine mm_iload_n d_Model_choose_22 rfl ?_
      refine mx_zld (E := i) (v := (A 15) i) d_Model_choose_23 (mh_15 H) (by omega) (by decide) (show (A 15) i = (A 15) i from rfl) ?_
      refine mm_if_ne (tgt := 48) d_Model_choose_24 (by decide) (fun c_24 => ?_) (fun c_24 => ?_)
      · refine mx_inc (a := i) (b := i + 1) d_Model_choose_48 rfl rfl (by decide) ?_
        refine mm_goto (tgt := 4) d_Model_choose_51 (by decide) ?_
        refine mm_G.cast (l' := [some (.ref m), some (.int (oI (m_best A (i + 1)))), some (.int (nI (i + 1)))]) (by simp [m_best, c_15, c_24] <;> rfl) rfl rfl (ih (i + 1) h (by omega) H F)
      · refine mm_iload_n d_Model_choose_27 rfl ?_
        rcases hb9 : m_best A i with _ | b
        · refine mm_if_lt (tgt := 46) d_Model_choose_28 (by decide) (fun _ => ?_) (fun c9 => absurd (show (oI none) < 0 by decide) c9)
          refine mm_iload_n d_Model_choose_46 rfl ?_
          refine mm_istore_n d_Model_choose_47 (by decide) ?_
          refine mx_inc (a := i) (b := i + 1) d_Model_choose_48 rfl rfl (by decide) ?_
          refine mm_goto (tgt := 4) d_Model_choose_51 (by decide) ?_
          refine mm_G.cast (l' := [some (.ref m), some (.int (oI (m_best A (i + 1)))), some (.int (nI (i + 1)))]) (by simp [m_best, c_15, c_24, hb9] <;> rfl) rfl rfl (ih (i + 1) h (by omega) H F)
        · have hbi := m_best_lt hb9
          refine mm_if_lt (tgt := 46) d_Model_choose_28 (by decide) (fun c9 => absurd c9 (nI_pos (by omega))) (fun _ => ?_)
          refine mm_aload_n d_Model_choose_31 rfl ?_
          refine mm_getf (v := .ref (m + 15)) d_Model_choose_32 cl_Model fl_Model_52_Model (by decide) H.1 rfl ?_
          refine mm_iload_n d_Model_choose_35 rfl ?_
          refine mx_ald (E := i) (v := (A 14) i) d_Model_choose_36 (mh_14 H) (by omega) (by decide) (show (A 14) i = (A 14) i from rfl) ?_
          refine mm_aload_n d_Model_choose_37 rfl ?_
          refine mm_getf (v := .ref (m + 15)) d_Model_choose_38 cl_Model fl_Model_52_Model (by decide) H.1 rfl ?_
          refine mm_iload_n d_Model_choose_41 rfl ?_
          refine mx_ald (E := b) (v := (A 14) b) d_Model_choose_42 (mh_14 H) (by omega) (by decide) (show (A 14) b = (A 14) b from rfl) ?_
          refine mm_icmp_le (tgt := 48) d_Model_choose_43 (by decide) (fun c_43 => ?_) (fun c_43 => ?_)
          · refine mx_inc (a := i) (b := i + 1) d_Model_choose_48 rfl rfl (by decide) ?_
            refine mm_goto (tgt := 4) d_Model_choose_51 (by decide) ?_
            refine mm_G.cast (l' := [some (.ref m), some (.int (oI (m_best A (i + 1)))), some (.int (nI (i + 1)))]) (by simp [m_best, c_15, c_24, hb9, c_43] <;> rfl) rfl rfl (ih (i + 1) h (by omega) H F)
          · refine mm_iload_n d_Model_choose_46 rfl ?_
            refine mm_istore_n d_Model_choose_47 (by decide) ?_
            refine mx_inc (a := i) (b := i + 1) d_Model_choose_48 rfl rfl (by decide) ?_
            refine mm_goto (tgt := 4) d_Model_choose_51 (by decide) ?_
            refine mm_G.cast (l' := [some (.ref m), some (.int (oI (m_best A (i + 1)))), some (.int (nI (i + 1)))]) (by simp [m_best, c_15, c_24, hb9, c_43] <;> rfl) rfl rfl (ih (i + 1) h (by omega) H F)
set_option maxRecDepth 100000 in
set_option maxHeartbeats 4000000 in
theorem J_Model_choose {sc : mm_Sc} {n : Nat} {h : mm_H} {m : Nat} {I : Nat → Int32} {A : Nat → Nat → Int32}  (H : MH h m I A) (hb : m_01 A) : mm_J sc y_Model_choose 2 [.ref m] n h 0 0 (MX (some (.int (oI (m_best A 16)))) n h m I A) := by
  refine mm_J.of (show mm_G sc y_Model_choose 2 0 [some (.ref m), none, none] [] n h 0 0 _ from ?_) ce_Model_choose.2.2.2.2.1 (Nat.le_of_ble_eq_true rfl) (by simp [Value.category])
  have F : MF h h m := fun _ _ => rfl
  refine mm_iconst (v := (-1)) d_Model_choose_0 (by decide) ?_
  refine mm_istore_n d_Model_choose_1 (by decide) ?_
  refine mm_iconst (v := 0) d_Model_choose_2 (by decide) ?_
  refine mm_istore_n d_Model_choose_3 (by decide) ?_
  exact lp_choose (by decide) hb (fun h H F => mm_iload_n d_Model_choose_54 rfl (mm_ireturn d_Model_choose_55 rfl (MX.of rfl rfl rfl H F))) 16 0 h (by omega) H F
def m_bits (f : Nat → Int32) : Nat → Int32
  | 0 => 0
  | i + 1 => m_bits f i ||| (if f i = 0 then (0 : Int32) else (1 : Int32) <<< (nI i &&& 31))
def m_sum (f : Nat → Int32) : Nat → Int32
  | 0 => 0
  | i + 1 => m_sum f i + f i
def m_count (I : Nat → Int32) (A : Nat → Nat → Int32) (N : Nat) (k : Int32) : Int32 := if k = 0 then I 1 else if k = 1 then I 2 else if k = 2 then I 4 else if k = 3 then I 5 else if k = 4 then I 6 else if k = 5 then I 3 else if k = 6 then m_bits (A 16) 16 else if k = 7 then m_bits (m_pen A) 16 else if k = 8 then m_sum (A 8) N else if k = 9 then m_sum (A 10) N else -1
set_option maxRecDepth 100000 in
set_option maxHeartbeats 4000000 in
theorem lp_bits6 {sc : mm_Sc} {n d kc ks : Nat} {h0 : mm_H} {m : Nat} {I : Nat → Int32} {A : Nat → Nat → Int32} {Q : mm_O → Nat → mm_H → Prop}  (hd : 2 ≤ d) (hb : m_01 A) (hq : ∀ h, MH h m I A → MF h0 h m → mm_G sc y_Model_count d 149 [some (.ref m), some (.int 6), some (.int (m_bits (A 16) 16)), some (.int 0), some (.int (nI 16))] [] n h kc ks Q) : ∀ (q i : Nat) (h : mm_H), i + q = 16 → MH h m I A → MF h0 h m → mm_G sc y_Model_count d 97 [some (.ref m), some (.int 6), some (.int (m_bits (A 16) i)), some (.int 0), some (.int (nI i))] [] n h kc ks Q := by
  intro q
  induction q with
  | zero =>
    intro i h hi9 H F
    obtain rfl : i = 16 := by omega
    refine mm_iload d_Model_count_97 rfl ?_
    refine mm_bipush (v := 16) d_Model_count_99 (by decide) ?_
    refine mx_icmp_ge (a := 16) (b := 16) (tgt := 149) d_Model_count_101 (by decide) (by omega) (by omega) (fun c_101 => ?_) (fun c_101 => absurd c_101 (by omega))
    exact hq _ H F
  | succ q ih =>
    intro i h hi9 H F
    refine mm_iload d_Model_count_97 rfl ?_
    refine mm_bipush (v := 16) d_Model_count_99 (by decide) ?_
    refine mx_icmp_ge (a := i) (b := 16) (tgt := 149) d_Model_count_101 (by decide) (by omega) (by omega) (fun c_101 => absurd c_101 (by omega)) (fun c_101 => ?_)
    refine mm_iload_n d_Model_count_104 rfl ?_
    refine mm_iload_n d_Model_count_105 rfl ?_
    refine mm_bipush (v := 6) d_Model_count_106 (by decide) ?_
    refine mm_icmp_ne (tgt := 124) d_Model_count_108 (by decide) (fun c9 => absurd c9 (by decide)) (fun _ => ?_)
    refine mm_aload_n d_Model_count_111 rfl ?_
    refine mm_getf (v := .ref (m + 17)) d_Model_count_112 cl_Model fl_Model_59_Model (by decide) H.1 rfl ?_
    refine mm_iload d_Model_count_115 rfl ?_
    refine mx_zld (E := i) (v := (A 16) i) d_Model_count_117 (mh_16 H) (by omega) (by decide) (show (A 16) i = (A 16) i from rfl) ?_
    refine mm_if_eq (tgt := 140) d_Model_count_118 (by decide) (fun c_118 => ?_) (fun c_118 => ?_)
    · refine mm_iconst (v := 0) d_Model_count_140 (by decide) ?_
      refine mm_ior d_Model_count_141 ?_
      refine mm_istore_n d_Model_count_142 (by decide) ?_
      refine mx_inc (a := i) (b := i + 1) d_Model_count_143 rfl rfl (by decide) ?_
      refine mm_goto (tgt := 97) d_Model_count_146 (by decide) ?_
      refine mm_G.cast (l' := [some (.ref m), some (.int 6), some (.int (m_bits (A 16) (i + 1))), some (.int 0), some (.int (nI (i + 1)))]) (by simp [m_bits, c_118]) rfl rfl (ih (i + 1) h (by omega) H F)
    · refine mm_goto (tgt := 133) d_Model_count_121 (by decide) ?_
      refine mm_iconst (v := 1) d_Model_count_133 (by decide) ?_
      refine mm_iload d_Model_count_134 rfl ?_
      refine mm_ishl d_Model_count_136 ?_
      refine mm_goto (tgt := 141) d_Model_count_137 (by decide) ?_
      refine mm_ior d_Model_count_141 ?_
      refine mm_istore_n d_Model_count_142 (by decide) ?_
      refine mx_inc (a := i) (b := i + 1) d_Model_count_143 rfl rfl (by decide) ?_
      refine mm_goto (tgt := 97) d_Model_count_146 (by decide) ?_
      refine mm_G.cast (l' := [some (.ref m), some (.int 6), some (.int (m_bits (A 16) (i + 1))), some (.int 0), some (.int (nI (i + 1)))]) (by simp [m_bits, c_118]) rfl rfl (ih (i + 1) h (by omega) H F)
set_option maxRecDepth 100000 in
set_option maxHeartbeats 4000000 in
theorem lp_bits7 {sc : mm_Sc} {n d kc ks : Nat} {h0 : mm_H} {m : Nat} {I : Nat → Int32} {A : Nat → Nat → Int32} {Q : mm_O → Nat → mm_H → Prop}  (hd : 2 ≤ d) (hb : m_01 A) (hq : ∀ h, MH h m I A → MF h0 h m → mm_G sc y_Model_count d 149 [some (.ref m), some (.int 7), some (.int (m_bits (m_pen A) 16)), some (.int 0), some (.int (nI 16))] [] n h kc ks Q) : ∀ (q i : Nat) (h : mm_H), i + q = 16 → MH h m I A → MF h0 h m → mm_G sc y_Model_count d 97 [some (.ref m), some (.int 7), some (.int (m_bits (m_pen A) i)), some (.int 0), some (.int (nI i))] [] n h kc ks Q := by
  intro q
  induction q with
  | zero =>
    intro i h hi9 H F
    obtain rfl : i = 16 := by omega
    refine mm_iload d_Model_count_97 rfl ?_
    refine mm_bipush (v := 16) d_Model_count_99 (by decide) ?_
    refine mx_icmp_ge (a := 16) (b := 16) (tgt := 149) d_Model_count_101 (by decide) (by omega) (by omega) (fun c_101 => ?_) (fun c_101 => absurd c_101 (by omega))
    exact hq _ H F
  | succ q ih =>
    intro i h hi9 H F
    refine mm_iload d_Model_count_97 rfl ?_
    refine mm_bipush (v := 16) d_Model_count_99 (by decide) ?_
    refine mx_icmp_ge (a := i) (b := 16) (tgt := 149) d_Model_count_101 (by decide) (by omega) (by omega) (fun c_101 => absurd c_101 (by omega)) (fun c_101 => ?_)
    refine mm_iload_n d_Model_count_104 rfl ?_
    refine mm_iload_n d_Model_count_105 rfl ?_
    refine mm_bipush (v := 6) d_Model_count_106 (by decide) ?_
    refine mm_icmp_ne (tgt := 124) d_Model_count_108 (by decide) (fun _ => ?_) (fun c9 => absurd c9 (by decide))
    refine mm_aload_n d_Model_count_124 rfl ?_
    refine mm_iload d_Model_count_125 rfl ?_
    refine mx_call d_Model_count_127 (mm_Inv.vi (as := [.int (nI i)]) d_Model_count_127 (Or.inl m_860) m_862 ce_Model_isPending.2.1 ce_Model_isPending.2.2.1 mp_35 ce_Model_isPending.2.2.2.2.2 ln_Model_isPending cl_Model H.1 rfl) (J_Model_isPending H (by omega) (hb _ (by omega)).2.1 (hb _ (by omega)).2.2) (Nat.lt_of_lt_of_le (by decide) hd) ce_Model_isPending.1 ce_Model_isPending.2.1 ce_Model_isPending.2.2.1 ce_Model_isPending.2.2.2.1 (Nat.le_of_ble_eq_true rfl) F (fun h H F => ?_)
    refine mm_if_eq (tgt := 140) d_Model_count_130 (by decide) (fun c_130 => ?_) (fun c_130 => ?_)
    · refine mm_iconst (v := 0) d_Model_count_140 (by decide) ?_
      refine mm_ior d_Model_count_141 ?_
      refine mm_istore_n d_Model_count_142 (by decide) ?_
      refine mx_inc (a := i) (b := i + 1) d_Model_count_143 rfl rfl (by decide) ?_
      refine mm_goto (tgt := 97) d_Model_count_146 (by decide) ?_
      refine mm_G.cast (l' := [some (.ref m), some (.int 7), some (.int (m_bits (m_pen A) (i + 1))), some (.int 0), some (.int (nI (i + 1)))]) (by simp [m_bits, c_130]) rfl rfl (ih (i + 1) h (by omega) H F)
    · refine mm_iconst (v := 1) d_Model_count_133 (by decide) ?_
      refine mm_iload d_Model_count_134 rfl ?_
      refine mm_ishl d_Model_count_136 ?_
      refine mm_goto (tgt := 141) d_Model_count_137 (by decide) ?_
      refine mm_ior d_Model_count_141 ?_
      refine mm_istore_n d_Model_count_142 (by decide) ?_
      refine mx_inc (a := i) (b := i + 1) d_Model_count_143 rfl rfl (by decide) ?_
      refine mm_goto (tgt := 97) d_Model_count_146 (by decide) ?_
      refine mm_G.cast (l' := [some (.ref m), some (.int 7), some (.int (m_bits (m_pen A) (i + 1))), some (.int 0), some (.int (nI (i + 1)))]) (by simp [m_bits, c_130]) rfl rfl (ih (i + 1) h (by omega) H F)
set_option maxRecDepth 100000 in
set_option maxHeartbeats 4000000 in
theorem lp_sum8 {sc : mm_Sc} {n d kc ks : Nat} {h0 : mm_H} {m : Nat} {I : Nat → Int32} {A : Nat → Nat → Int32} {Q : mm_O → Nat → mm_H → Prop} {N : Nat} (hN : I 2 = nI N) (h12 : N ≤ 12) (hq : ∀ h, MH h m I A → MF h0 h m → mm_G sc y_Model_count d 195 [some (.ref m), some (.int 8), some (.int 0), some (.int (m_sum (A 8) N)), some (.int (nI N))] [] n h kc ks Q) : ∀ (q i : Nat) (h : mm_H), i + q = N → MH h m I A → MF h0 h m → mm_G sc y_Model_count d 154 [some (.ref m), some (.int 8), some (.int 0), some (.int (m_sum (A 8) i)), some (.int (nI i))] [] n h kc ks Q := by
  intro q
  induction q with
  | zero =>
    intro i h hi9 H F
    obtain rfl : N = i := by omega
    refine mm_iload d_Model_count_154 rfl ?_
    refine mm_aload_n d_Model_count_156 rfl ?_
    refine mx_get (k := 2) (v := nI N) d_Model_count_157 cl_Model fl_Model_78_Model (by decide) H.1 (congrArg (fun z => some (Value.int z)) hN) ?_
    refine mx_icmp_ge (a := N) (b := N) (tgt := 195) d_Model_count_160 (by decide) (by omega) (by omega) (fun c_160 => ?_) (fun c_160 => absurd c_160 (by omega))
    exact hq _ H F
  | succ q ih =>
    intro i h hi9 H F
    refine mm_iload d_Model_count_154 rfl ?_
    refine mm_aload_n d_Model_count_156 rfl ?_
    refine mx_get (k := 2) (v := nI N) d_Model_count_157 cl_Model fl_Model_78_Model (by decide) H.1 (congrArg (fun z => some (Value.int z)) hN) ?_
    refine mx_icmp_ge (a := i) (b := N) (tgt := 195) d_Model_count_160 (by decide) (by omega) (by omega) (fun c_160 => absurd c_160 (by omega)) (fun c_160 => ?_)
    refine mm_iload_n d_Model_count_163 rfl ?_
    refine mm_iload_n d_Model_count_164 rfl ?_
    refine mm_bipush (v := 8) d_Model_count_165 (by decide) ?_
    refine mm_icmp_ne (tgt := 180) d_Model_count_167 (by decide) (fun c9 => absurd c9 (by decide)) (fun _ => ?_)
    refine mm_aload_n d_Model_count_170 rfl ?_
    refine mm_getf (v := .ref (m + 9)) d_Model_count_171 cl_Model fl_Model_34_Model (by decide) H.1 rfl ?_
    refine mm_iload d_Model_count_174 rfl ?_
    refine mx_ald (E := i) (v := (A 8) i) d_Model_count_176 (mh_8 H) (by omega) (by decide) (show (A 8) i = (A 8) i from rfl) ?_
    refine mm_goto (tgt := 187) d_Model_count_177 (by decide) ?_
    refine mm_iadd d_Model_count_187 ?_
    refine mm_istore_n d_Model_count_188 (by decide) ?_
    refine mx_inc (a := i) (b := i + 1) d_Model_count_189 rfl rfl (by decide) ?_
    refine mm_goto (tgt := 154) d_Model_count_192 (by decide) ?_
    exact ih (i + 1) h (by omega) H F
set_option maxRecDepth 100000 in
set_option maxHeartbeats 4000000 in
theorem lp_sum9 {sc : mm_Sc} {n d kc ks : Nat} {h0 : mm_H} {m : Nat} {I : Nat → Int32} {A : Nat → Nat → Int32} {Q : mm_O → Nat → mm_H → Prop} {N : Nat} (hN : I 2 = nI N) (h12 : N ≤ 12) (hq : ∀ h, MH h m I A → MF h0 h m → mm_G sc y_Model_count d 195 [some (.ref m), some (.int 9), some (.int 0), some (.int (m_sum (A 10) N)), some (.int (nI N))] [] n h kc ks Q) : ∀ (q i : Nat) (h : mm_H), i + q = N → MH h m I A → MF h0 h m → mm_G sc y_Model_count d 154 [some (.ref m), some (.int 9), some (.int 0), some (.int (m_sum (A 10) i)), some (.int (nI i))] [] n h kc ks Q := by
  intro q
  induction q with
  | zero =>
    intro i h hi9 H F
    obtain rfl : N = i := by omega
    refine mm_iload d_Model_count_154 rfl ?_
    refine mm_aload_n d_Model_count_156 rfl ?_
    refine mx_get (k := 2) (v := nI N) d_Model_count_157 cl_Model fl_Model_78_Model (by decide) H.1 (congrArg (fun z => some (Value.int z)) hN) ?_
    refine mx_icmp_ge (a := N) (b := N) (tgt := 195) d_Model_count_160 (by decide) (by omega) (by omega) (fun c_160 => ?_) (fun c_160 => absurd c_160 (by omega))
    exact hq _ H F
  | succ q ih =>
    intro i h hi9 H F
    refine mm_iload d_Model_count_154 rfl ?_
    refine mm_aload_n d_Model_count_156 rfl ?_
    refine mx_get (k := 2) (v := nI N) d_Model_count_157 cl_Model fl_Model_78_Model (by decide) H.1 (congrArg (fun z => some (Value.int z)) hN) ?_
    refine mx_icmp_ge (a := i) (b := N) (tgt := 195) d_Model_count_160 (by decide) (by omega) (by omega) (fun c_160 => absurd c_160 (by omega)) (fun c_160 => ?_)
    refine mm_iload_n d_Model_count_163 rfl ?_
    refine mm_iload_n d_Model_count_164 rfl ?_
    refine mm_bipush (v := 8) d_Model_count_165 (by decide) ?_
    refine mm_icmp_ne (tgt := 180) d_Model_count_167 (by decide) (fun _ => ?_) (fun c9 => absurd c9 (by decide))
    refine mm_aload_n d_Model_count_180 rfl ?_
    refine mm_getf (v := .ref (m + 11)) d_Model_count_181 cl_Model fl_Model_40_Model (by decide) H.1 rfl ?_
    refine mm_iload d_Model_count_184 rfl ?_
    refine mx_ald (E := i) (v := (A 10) i) d_Model_count_186 (mh_10 H) (by omega) (by decide) (show (A 10) i = (A 10) i from rfl) ?_
    refine mm_iadd d_Model_count_187 ?_
    refine mm_istore_n d_Model_count_188 (by decide) ?_
    refine mx_inc (a := i) (b := i + 1) d_Model_count_189 rfl rfl (by decide) ?_
    refine mm_goto (tgt := 154) d_Model_count_192 (by decide) ?_
    exact ih (i + 1) h (by omega) H F
set_option maxRecDepth 100000 in
set_option maxHeartbeats 4000000 in
theorem J_Model_count {sc : mm_Sc} {n : Nat} {h : mm_H} {m : Nat} {I : Nat → Int32} {A : Nat → Nat → Int32} {N : Nat} {k : Int32} (H : MH h m I A) (hN : I 2 = nI N) (h12 : N ≤ 12) (hb : m_01 A) : mm_J sc y_Model_count 3 [.ref m, .int k] n h 0 0 (MX (some (.int (m_count I A N k))) n h m (mi I 0 0) A) := by
  refine mm_J.of (show mm_G sc y_Model_count 3 0 [some (.ref m), some (.int k), none, none, none] [] n h 0 0 _ from ?_) ce_Model_count.2.2.2.2.1 (Nat.le_of_ble_eq_true rfl) (by simp [Value.category])
  have F : MF h h m := fun _ _ => rfl
  refine mm_aload_n d_Model_count_0 rfl ?_
  refine mm_iconst (v := 0) d_Model_count_1 (by decide) ?_
  refine mm_putf d_Model_count_2 cl_Model ty_Model fl_Model_65_Model (by decide) rfl rfl rfl H.1 (Nat.le_of_ble_eq_true rfl) ?_
  refine mh_i0 H F (fun h H F => ?_)
  refine mm_iconst (v := 0) d_Model_count_5 (by decide) ?_
  refine mm_istore_n d_Model_count_6 (by decide) ?_
  refine mm_iconst (v := 0) d_Model_count_7 (by decide) ?_
  refine mm_istore_n d_Model_count_8 (by decide) ?_
  refine mm_iload_n d_Model_count_9 rfl ?_
  by_cases c_10_0 : k = 0
  · refine mm_tableIn (tgt := 64) (off := 54) d_Model_count_10 (by rw [c_10_0]; decide) (by rw [c_10_0]; decide) (by rw [c_10_0]; decide) (by decide) ?_
    refine mm_aload_n d_Model_count_64 rfl ?_
    refine mx_get (k := 1) (v := I 1) d_Model_count_65 cl_Model fl_Model_104_Model (by decide) H.1 rfl ?_
    exact mm_ireturn d_Model_count_68 rfl (MX.of (by simp [m_count, c_10_0]) (rfl) (rfl) H F)
  by_cases c_10_1 : k = 1
  · refine mm_tableIn (tgt := 69) (off := 59) d_Model_count_10 (by rw [c_10_1]; decide) (by rw [c_10_1]; decide) (by rw [c_10_1]; decide) (by decide) ?_
    refine mm_aload_n d_Model_count_69 rfl ?_
    refine mx_get (k := 2) (v := I 2) d_Model_count_70 cl_Model fl_Model_78_Model (by decide) H.1 rfl ?_
    exact mm_ireturn d_Model_count_73 rfl (MX.of (by simp [m_count, c_10_0, c_10_1]) (rfl) (rfl) H F)
  by_cases c_10_2 : k = 2
  · refine mm_tableIn (tgt := 74) (off := 64) d_Model_count_10 (by rw [c_10_2]; decide) (by rw [c_10_2]; decide) (by rw [c_10_2]; decide) (by decide) ?_
    refine mm_aload_n d_Model_count_74 rfl ?_
    refine mx_get (k := 22) (v := I 4) d_Model_count_75 cl_Model fl_Model_91_Model (by decide) H.1 rfl ?_
    exact mm_ireturn d_Model_count_78 rfl (MX.of (by simp [m_count, c_10_0, c_10_1, c_10_2]) (rfl) (rfl) H F)
  by_cases c_10_3 : k = 3
  · refine mm_tableIn (tgt := 79) (off := 69) d_Model_count_10 (by rw [c_10_3]; decide) (by rw [c_10_3]; decide) (by rw [c_10_3]; decide) (by decide) ?_
    refine mm_aload_n d_Model_count_79 rfl ?_
    refine mx_get (k := 23) (v := I 5) d_Model_count_80 cl_Model fl_Model_94_Model (by decide) H.1 rfl ?_
    exact mm_ireturn d_Model_count_83 rfl (MX.of (by simp [m_count, c_10_0, c_10_1, c_10_2, c_10_3]) (rfl) (rfl) H F)
  by_cases c_10_4 : k = 4
  · refine mm_tableIn (tgt := 84) (off := 74) d_Model_count_10 (by rw [c_10_4]; decide) (by rw [c_10_4]; decide) (by rw [c_10_4]; decide) (by decide) ?_
    refine mm_aload_n d_Model_count_84 rfl ?_
    refine mx_get (k := 24) (v := I 6) d_Model_count_85 cl_Model fl_Model_97_Model (by decide) H.1 rfl ?_
    exact mm_ireturn d_Model_count_88 rfl (MX.of (by simp [m_count, c_10_0, c_10_1, c_10_2, c_10_3, c_10_4]) (rfl) (rfl) H F)
  by_cases c_10_5 : k = 5
  · refine mm_tableIn (tgt := 89) (off := 79) d_Model_count_10 (by rw [c_10_5]; decide) (by rw [c_10_5]; decide) (by rw [c_10_5]; decide) (by decide) ?_
    refine mm_aload_n d_Model_count_89 rfl ?_
    refine mx_get (k := 3) (v := I 3) d_Model_count_90 cl_Model fl_Model_88_Model (by decide) H.1 rfl ?_
    exact mm_ireturn d_Model_count_93 rfl (MX.of (by simp [m_count, c_10_0, c_10_1, c_10_2, c_10_3, c_10_4, c_10_5]) (rfl) (rfl) H F)
  by_cases c_10_6 : k = 6
  · refine mm_tableIn (tgt := 94) (off := 84) d_Model_count_10 (by rw [c_10_6]; decide) (by rw [c_10_6]; decide) (by rw [c_10_6]; decide) (by decide) ?_
    refine mm_iconst (v := 0) d_Model_count_94 (by decide) ?_
    refine mm_istore d_Model_count_95 (by decide) ?_
    subst c_10_6
    exact lp_bits6 (by decide) hb (fun h H F => mm_iload_n d_Model_count_149 rfl (mm_ireturn d_Model_count_150 rfl (MX.of rfl rfl rfl H F))) 16 0 h (by omega) H F
  by_cases c_10_7 : k = 7
  · refine mm_tableIn (tgt := 94) (off := 84) d_Model_count_10 (by rw [c_10_7]; decide) (by rw [c_10_7]; decide) (by rw [c_10_7]; decide) (by decide) ?_
    refine mm_iconst (v := 0) d_Model_count_94 (by decide) ?_
    refine mm_istore d_Model_count_95 (by decide) ?_
    subst c_10_7
    exact lp_bits7 (by decide) hb (fun h H F => mm_iload_n d_Model_count_149 rfl (mm_ireturn d_Model_count_150 rfl (MX.of rfl rfl rfl H F))) 16 0 h (by omega) H F
  by_cases c_10_8 : k = 8
  · refine mm_tableIn (tgt := 151) (off := 141) d_Model_count_10 (by rw [c_10_8]; decide) (by rw [c_10_8]; decide) (by rw [c_10_8]; decide) (by decide) ?_
    refine mm_iconst (v := 0) d_Model_count_151 (by decide) ?_
    refine mm_istore d_Model_count_152 (by decide) ?_
    subst c_10_8
    exact lp_sum8 (I := mi I 0 0) (N := N) hN h12 (fun h H F => mm_iload_n d_Model_count_195 rfl (mm_ireturn d_Model_count_196 rfl (MX.of rfl rfl rfl H F))) N 0 h (by omega) H F
  by_cases c_10_9 : k = 9
  · refine mm_tableIn (tgt := 151) (off := 141) d_Model_count_10 (by rw [c_10_9]; decide) (by rw [c_10_9]; decide) (by rw [c_10_9]; decide) (by decide) ?_
    refine mm_iconst (v := 0) d_Model_count_151 (by decide) ?_
    refine mm_istore d_Model_count_152 (by decide) ?_
    subst c_10_9
    exact lp_sum9 (I := mi I 0 0) (N := N) hN h12 (fun h H F => mm_iload_n d_Model_count_195 rfl (mm_ireturn d_Model_count_196 rfl (MX.of rfl rfl rfl H F))) N 0 h (by omega) H F
  refine mm_tableOut (tgt := 197) d_Model_count_10 (mm_tsw10 c_10_0 c_10_1 c_10_2 c_10_3 c_10_4 c_10_5 c_10_6 c_10_7 c_10_8 c_10_9) (by decide) ?_
  refine mm_iconst (v := (-1)) d_Model_count_197 (by decide) ?_
  exact mm_ireturn d_Model_count_198 rfl (MX.of (by simp [m_count, c_10_0, c_10_1, c_10_2, c_10_3, c_10_4, c_10_5, c_10_6, c_10_7, c_10_8, c_10_9]) (rfl) (rfl) H F)
def m_isser (A : Nat → Nat → Int32) (N : Nat) (k : Int32) : Int32 := if k < 0 then 0 else if nI N ≤ k then 0 else if A 0 k.toNatClampNeg = 3 then 1 else 0
theorem w_in0 {k : Int32} {N : Nat} (hN : N ≤ 12) : w_in k 0 (nI N - 1) = 0 ↔ (k < 0 ∨ nI N ≤ k) := by
  unfold w_in
  have e : (nI N - 1 < k) ↔ nI N ≤ k := by
    rw [Int32.lt_iff_toInt_lt, Int32.le_iff_toInt_le, nI_toInt (by omega)]
    have : (nI N - 1).toInt = (N : Int) - 1 := by
      rw [Int32.toInt_sub, nI_toInt (by omega)]
      show Int.bmod (↑N - 1) (2 ^ 32) = _
      rw [Int.bmod_eq_of_le] <;> omega
    rw [this]; omega
  by_cases h1 : k < 0
  · simp [h1]
  · by_cases h2 : nI N ≤ k
    · simp [h1, h2, e.mpr h2]
    · have : ¬ nI N - 1 < k := fun z => h2 (e.mp z)
      simp [h1, h2, this]
set_option maxRecDepth 100000 in
set_option maxHeartbeats 4000000 in
theorem J_Model_isSerial {sc : mm_Sc} {n : Nat} {h : mm_H} {m : Nat} {I : Nat → Int32} {A : Nat → Nat → Int32} {N : Nat} {k : Int32} (H : MH h m I A) (hN : I 2 = nI N) (h12 : N ≤ 12) : mm_J sc y_Model_isSerial 2 [.ref m, .int k] n h 0 0 (MX (some (.int (m_isser A N k))) n h m I A) := by
  refine mm_J.of (show mm_G sc y_Model_isSerial 2 0 [some (.ref m), some (.int k)] [] n h 0 0 _ from ?_) ce_Model_isSerial.2.2.2.2.1 (Nat.le_of_ble_eq_true rfl) (by simp [Value.category])
  have F : MF h h m := fun _ _ => rfl
  refine mm_iload_n d_Model_isSerial_0 rfl ?_
  refine mm_iconst (v := 0) d_Model_isSerial_1 (by decide) ?_
  refine mm_aload_n d_Model_isSerial_2 rfl ?_
  refine mx_get (k := 2) (v := nI N) d_Model_isSerial_3 cl_Model fl_Model_78_Model (by decide) H.1 (congrArg (fun z => some (Value.int z)) hN) ?_
  refine mm_iconst (v := 1) d_Model_isSerial_6 (by decide) ?_
  refine mm_isub d_Model_isSerial_7 ?_
  refine mm_callD (kc' := 0) (ks' := 0) d_Model_isSerial_8 (mm_Inv.sta (as := [.int k, .int 0, .int ((nI N) - 1)]) d_Model_isSerial_8 (Or.inl m_756) m_757 ce_Model_within.2.1 ce_Model_within.2.2.1 ce_Model_within.2.2.2.1 ce_Model_within.2.2.2.2.2 ln_Model_within rfl) J_Model_within (by decide) ce_Model_within.1 ce_Model_within.2.1 ce_Model_within.2.2.1 ce_Model_within.2.2.2.1 (Nat.le_of_ble_eq_true rfl) ?_
  refine mm_if_eq (tgt := 28) d_Model_isSerial_11 (by decide) (fun c_11 => ?_) (fun c_11 => ?_)
  · refine mm_iconst (v := 0) d_Model_isSerial_28 (by decide) ?_
    exact mm_zreturn d_Model_isSerial_29 rfl rfl (MX.of (by rcases (w_in0 h12).mp c_11 with z | z <;> simp [m_isser, z]) (rfl) (rfl) H F)
  · have hz9 := fun z => c_11 ((w_in0 h12).mpr z)
    obtain ⟨j, hj, rfl⟩ := nI_of (x := k) (fun z => hz9 (Or.inl z))
    have hjN : j < N := Nat.not_le.mp (fun z => hz9 (Or.inr (nI_le z hj)))
    refine mm_aload_n d_Model_isSerial_14 rfl ?_
    refine mm_getf (v := .ref (m + 1)) d_Model_isSerial_15 cl_Model fl_Model_7_Model (by decide) H.1 rfl ?_
    refine mm_iload_n d_Model_isSerial_18 rfl ?_
    refine mx_ald (E := j) (v := (A 0) j) d_Model_isSerial_19 (mh_0 H) (by omega) (by decide) (show (A 0) j = (A 0) j from rfl) ?_
    refine mm_iconst (v := 3) d_Model_isSerial_20 (by decide) ?_
    refine mm_icmp_ne (tgt := 28) d_Model_isSerial_21 (by decide) (fun c_21 => ?_) (fun c_21 => ?_)
    · refine mm_iconst (v := 0) d_Model_isSerial_28 (by decide) ?_
      exact mm_zreturn d_Model_isSerial_29 rfl rfl (MX.of (by unfold m_isser; rw [if_neg (nI_pos hj), if_neg (nI_ge hjN (by omega)), nI_clamp hj]; simp [c_21]) (rfl) (rfl) H F)
    · refine mm_iconst (v := 1) d_Model_isSerial_24 (by decide) ?_
      refine mm_goto (tgt := 29) d_Model_isSerial_25 (by decide) ?_
      exact mm_zreturn d_Model_isSerial_29 rfl rfl (MX.of (by unfold m_isser; rw [if_neg (nI_pos hj), if_neg (nI_ge hjN (by omega)), nI_clamp hj]; simp [c_21]) (rfl) (rfl) H F)
