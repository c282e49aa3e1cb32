/-- k numbers from b on move one place down -/
def m_shift (f : Nat → Int32) (b k : Nat) : Nat → Int32 := fun j => if b ≤ j ∧ j < b + k then f (j + 1) else f j
theorem m_shift_0 (f : Nat → Int32) (b : Nat) : m_shift f b 0 = f := by
  funext j; unfold m_shift; rw [if_neg (by omega)]
theorem m_shift_s (f : Nat → Int32) (b i e : Nat) (he : e = b + i) : upd (m_shift f b i) e (m_shift f b i (b + i + 1)) = m_shift f b (i + 1) := by
  subst he
  funext j
  unfold upd m_shift
  by_cases h1 : j = b + i
  · subst h1; rw [if_pos rfl, if_neg (by omega), if_pos (by omega)]
  · rw [if_neg h1]; by_cases h2 : b ≤ j ∧ j < b + i
    · rw [if_pos h2, if_pos (by omega)]
    · rw [if_neg h2, if_neg (by omega)]
def m_gone (A : Nat → Nat → Int32) (p g : Nat) : Nat → Int32 := if g < 32 then upd (A 11) (32 * p + g) (A 7 p) else upd (m_shift (A 11) (32 * p) 31) (32 * p + 31) (A 7 p)
def m_send (A : Nat → Nat → Int32) (p g : Nat) : Nat → Nat → Int32 := if A 6 p = 0 then A else if A 6 p - 1 ≤ 0 then ma (ma (ma A 6 (upd (A 6) p (A 6 p - 1))) 11 (m_gone A p g)) 10 (upd (A 10) p (nI (g + 1))) else ma A 6 (upd (A 6) p (A 6 p - 1))
set_option maxRecDepth 100000 in
set_option maxHeartbeats 4000000 in
theorem lp_send {sc : mm_Sc} {n d kc ks : Nat} {h0 : mm_H} {m : Nat} {I : Nat → Int32} {A : Nat → Nat → Int32} {Q : mm_O → Nat → mm_H → Prop} {p : Nat} (hp : p < 12) (hq : ∀ h, MH h m I (ma A 11 (m_shift (A 11) (32 * p) 31)) → MF h0 h m → mm_G sc y_Model_sendStep d 79 [some (.ref m), some (.int (nI p)), some (.int (nI 32))] [] n h kc ks Q) : ∀ (q i : Nat) (h : mm_H), i + q = 31 → MH h m I (ma A 11 (m_shift (A 11) (32 * p) i)) → MF h0 h m → mm_G sc y_Model_sendStep d 43 [some (.ref m), some (.int (nI p)), some (.int (nI (i + 1)))] [] n h kc ks Q := by
  intro q
  induction q with
  | zero =>
    intro i h hi9 H F
    obtain rfl : i = 31 := by omega
    refine mm_iload_n d_Model_sendStep_43 rfl ?_
    refine mm_bipush (v := 32) d_Model_sendStep_44 (by decide) ?_
    refine mx_icmp_ge (a := 32) (b := 32) (tgt := 79) d_Model_sendStep_46 (by decide) (by omega) (by omega) (fun c_46 => ?_) (fun c_46 => absurd c_46 (by omega))
    exact hq _ H F
  | succ q ih =>
    intro i h hi9 H F
    refine mm_iload_n d_Model_sendStep_43 rfl ?_
    refine mm_bipush (v := 32) d_Model_sendStep_44 (by decide) ?_
    refine mx_icmp_ge (a := i + 1) (b := 32) (tgt := 79) d_Model_sendStep_46 (by decide) (by omega) (by omega) (fun c_46 => absurd c_46 (by omega)) (fun c_46 => ?_)
    refine mm_aload_n d_Model_sendStep_49 rfl ?_
    refine mm_getf (v := .ref (m + 12)) d_Model_sendStep_50 cl_Model fl_Model_43_Model (by decide) H.1 rfl ?_
    refine mm_bipush (v := 32) d_Model_sendStep_53 (by decide) ?_
    refine mm_iload_n d_Model_sendStep_55 rfl ?_
    refine mx_mul (a := 32) (b := p) d_Model_sendStep_56 ?_
    refine mm_iload_n d_Model_sendStep_57 rfl ?_
    refine mx_add (a := 32 * p) (b := i + 1) (c := 32 * p + (i + 1)) d_Model_sendStep_58 (by omega) ?_
    refine mm_iconst (v := 1) d_Model_sendStep_59 (by decide) ?_
    refine mx_sub (a := 32 * p + (i + 1)) (b := 1) (c := 32 * p + (i + 1) - 1) d_Model_sendStep_60 (by omega) (by omega) ?_
    refine mm_aload_n d_Model_sendStep_61 rfl ?_
    refine mm_getf (v := .ref (m + 12)) d_Model_sendStep_62 cl_Model fl_Model_43_Model (by decide) H.1 rfl ?_
    refine mm_bipush (v := 32) d_Model_sendStep_65 (by decide) ?_
    refine mm_iload_n d_Model_sendStep_67 rfl ?_
    refine mx_mul (a := 32) (b := p) d_Model_sendStep_68 ?_
    refine mm_iload_n d_Model_sendStep_69 rfl ?_
    refine mx_add (a := 32 * p) (b := i + 1) (c := 32 * p + (i + 1)) d_Model_sendStep_70 (by omega) ?_
    refine mx_ald (E := 32 * p + (i + 1)) (v := (m_shift (A 11) (32 * p) i) (32 * p + (i + 1))) d_Model_sendStep_71 (mh_11 H) (by omega) (by decide) (show (m_shift (A 11) (32 * p) i) (32 * p + (i + 1)) = (m_shift (A 11) (32 * p) i) (32 * p + (i + 1)) from rfl) ?_
    refine mx_ast (E := 32 * p + (i + 1) - 1) d_Model_sendStep_72 (mh_11 H) (by omega) (by decide) ?_
    refine mh_a (j := 11) (f := (upd (m_shift (A 11) (32 * p) i) (32 * p + (i + 1) - 1) ((m_shift (A 11) (32 * p) i) (32 * p + (i + 1))))) (by decide) H F (fun h H F => ?_)
    refine mx_inc (a := i + 1) (b := i + 2) d_Model_sendStep_73 rfl rfl (by decide) ?_
    refine mm_goto (tgt := 43) d_Model_sendStep_76 (by decide) ?_
    refine ih (i + 1) h (by omega) (H.cast rfl (by rw [ma_ma]; exact congrArg (ma A 11) (m_shift_s (A 11) (32 * p) i _ (by omega)))) F
set_option maxRecDepth 100000 in
set_option maxHeartbeats 4000000 in
theorem J_Model_sendStep {sc : mm_Sc} {n : Nat} {h : mm_H} {m : Nat} {I : Nat → Int32} {A : Nat → Nat → Int32} {p g : Nat} (H : MH h m I A) (hp : p < 12) (hg : A 10 p = nI g) (hg2 : g < 2 ^ 30) : mm_J sc y_Model_sendStep 1 [.ref m, .int (nI p)] n h 0 0 (MX (none) n h m I (m_send A p g)) := by
  refine mm_J.of (show mm_G sc y_Model_sendStep 1 0 [some (.ref m), some (.int (nI p)), none] [] n h 0 0 _ from ?_) ce_Model_sendStep.2.2.2.2.1 (Nat.le_of_ble_eq_true rfl) (by simp [Value.category])
  have F : MF h h m := fun _ _ => rfl
  refine mm_aload_n d_Model_sendStep_0 rfl ?_
  refine mm_getf (v := .ref (m + 7)) d_Model_sendStep_1 cl_Model fl_Model_28_Model (by decide) H.1 rfl ?_
  refine mm_iload_n d_Model_sendStep_4 rfl ?_
  refine mx_ald (E := p) (v := (A 6) p) d_Model_sendStep_5 (mh_6 H) (by omega) (by decide) (show (A 6) p = (A 6) p from rfl) ?_
  refine mm_if_ne (tgt := 10) d_Model_sendStep_6 (by decide) (fun c_6 => ?_) (fun c_6 => ?_)
  · refine mm_aload_n d_Model_sendStep_10 rfl ?_
    refine mm_getf (v := .ref (m + 7)) d_Model_sendStep_11 cl_Model fl_Model_28_Model (by decide) H.1 rfl ?_
    refine mm_iload_n d_Model_sendStep_14 rfl ?_
    refine mm_dup2 d_Model_sendStep_15 rfl rfl ?_
    refine mx_ald (E := p) (v := (A 6) p) d_Model_sendStep_16 (mh_6 H) (by omega) (by decide) (show (A 6) p = (A 6) p from rfl) ?_
    refine mm_iconst (v := 1) d_Model_sendStep_17 (by decide) ?_
    refine mm_isub d_Model_sendStep_18 ?_
    refine mx_ast (E := p) d_Model_sendStep_19 (mh_6 H) (by omega) (by decide) ?_
    refine mh_a (j := 6) (f := (upd (A 6) p (((A 6) p) - 1))) (by decide) H F (fun h H F => ?_)
    refine mm_aload_n d_Model_sendStep_20 rfl ?_
    refine mm_getf (v := .ref (m + 7)) d_Model_sendStep_21 cl_Model fl_Model_28_Model (by decide) H.1 rfl ?_
    refine mm_iload_n d_Model_sendStep_24 rfl ?_
    refine mx_ald (E := p) (v := ((A 6) p) - 1) d_Model_sendStep_25 (mh_6 H) (by omega) (by decide) (show (upd (A 6) p (((A 6) p) - 1)) p = ((A 6) p) - 1 from (by simp [upd])) ?_
    refine mm_if_le (tgt := 30) d_Model_sendStep_26 (by decide) (fun c_26 => ?_) (fun c_26 => ?_)
    · refine mm_aload_n d_Model_sendStep_30 rfl ?_
      refine mm_getf (v := .ref (m + 11)) d_Model_sendStep_31 cl_Model fl_Model_40_Model (by decide) H.1 rfl ?_
      refine mm_iload_n d_Model_sendStep_34 rfl ?_
      refine mx_ald (E := p) (v := nI g) d_Model_sendStep_35 (mh_10 H) (by omega) (by decide) (show (A 10) p = nI g from hg) ?_
      refine mm_bipush (v := 32) d_Model_sendStep_36 (by decide) ?_
      refine mx_icmp_lt (a := g) (b := 32) (tgt := 79) d_Model_sendStep_38 (by decide) (by omega) (by omega) (fun c_38 => ?_) (fun c_38 => ?_)
      · refine mm_aload_n d_Model_sendStep_79 rfl ?_
        refine mm_getf (v := .ref (m + 12)) d_Model_sendStep_80 cl_Model fl_Model_43_Model (by decide) H.1 rfl ?_
        refine mm_bipush (v := 32) d_Model_sendStep_83 (by decide) ?_
        refine mm_iload_n d_Model_sendStep_85 rfl ?_
        refine mx_mul (a := 32) (b := p) d_Model_sendStep_86 ?_
        refine mm_aload_n d_Model_sendStep_87 rfl ?_
        refine mm_getf (v := .ref (m + 11)) d_Model_sendStep_88 cl_Model fl_Model_40_Model (by decide) H.1 rfl ?_
        refine mm_iload_n d_Model_sendStep_91 rfl ?_
        refine mx_ald (E := p) (v := nI g) d_Model_sendStep_92 (mh_10 H) (by omega) (by decide) (show (A 10) p = nI g from hg) ?_
        refine mm_bipush (v := 32) d_Model_sendStep_93 (by decide) ?_
        refine mx_icmp_ge (a := g) (b := 32) (tgt := 107) d_Model_sendStep_95 (by decide) (by omega) (by omega) (fun c_95 => absurd c_95 (by omega)) (fun c_95 => ?_)
        refine mm_aload_n d_Model_sendStep_98 rfl ?_
        refine mm_getf (v := .ref (m + 11)) d_Model_sendStep_99 cl_Model fl_Model_40_Model (by decide) H.1 rfl ?_
        refine mm_iload_n d_Model_sendStep_102 rfl ?_
        refine mx_ald (E := p) (v := nI g) d_Model_sendStep_103 (mh_10 H) (by omega) (by decide) (show (A 10) p = nI g from hg) ?_
        refine mm_goto (tgt := 109) d_Model_sendStep_104 (by decide) ?_
        refine mx_add (a := 32 * p) (b := g) (c := 32 * p + g) d_Model_sendStep_109 (by omega) ?_
        refine mm_aload_n d_Model_sendStep_110 rfl ?_
        refine mm_getf (v := .ref (m + 8)) d_Model_sendStep_111 cl_Model fl_Model_31_Model (by decide) H.1 rfl ?_
        refine mm_iload_n d_Model_sendStep_114 rfl ?_
        refine mx_ald (E := p) (v := (A 7) p) d_Model_sendStep_115 (mh_7 H) (by omega) (by decide) (show (A 7) p = (A 7) p from rfl) ?_
        refine mx_ast (E := 32 * p + g) d_Model_sendStep_116 (mh_11 H) (by omega) (by decide) ?_
        refine mh_a (j := 11) (f := (upd (A 11) (32 * p + g) ((A 7) p))) (by decide) H F (fun h H F => ?_)
        refine mm_aload_n d_Model_sendStep_117 rfl ?_
        refine mm_getf (v := .ref (m + 11)) d_Model_sendStep_118 cl_Model fl_Model_40_Model (by decide) H.1 rfl ?_
        refine mm_iload_n d_Model_sendStep_121 rfl ?_
        refine mm_dup2 d_Model_sendStep_122 rfl rfl ?_
        refine mx_ald (E := p) (v := nI g) d_Model_sendStep_123 (mh_10 H) (by omega) (by decide) (show (A 10) p = nI g from hg) ?_
        refine mm_iconst (v := 1) d_Model_sendStep_124 (by decide) ?_
        refine mx_add (a := g) (b := 1) (c := g + 1) d_Model_sendStep_125 (by omega) ?_
        refine mx_ast (E := p) d_Model_sendStep_126 (mh_10 H) (by omega) (by decide) ?_
        refine mh_a (j := 10) (f := (upd (A 10) p (nI (g + 1)))) (by decide) H F (fun h H F => ?_)
        exact mm_return d_Model_sendStep_127 rfl (MX.of (rfl) (rfl) (by simp [m_send, m_gone, ma_ma, c_6, c_26, show g < 32 by omega]) H F)
      · refine mm_iconst (v := 1) d_Model_sendStep_41 (by decide) ?_
        refine mm_istore_n d_Model_sendStep_42 (by decide) ?_
        refine lp_send (A := (ma A 6 (upd (A 6) p (((A 6) p) - 1)))) hp (fun h H F => ?_) 31 0 h (by omega) (H.cast rfl (by rw [m_shift_0, ma_id])) F
        refine mm_aload_n d_Model_sendStep_79 rfl ?_
        refine mm_getf (v := .ref (m + 12)) d_Model_sendStep_80 cl_Model fl_Model_43_Model (by decide) H.1 rfl ?_
        refine mm_bipush (v := 32) d_Model_sendStep_83 (by decide) ?_
        refine mm_iload_n d_Model_sendStep_85 rfl ?_
        refine mx_mul (a := 32) (b := p) d_Model_sendStep_86 ?_
        refine mm_aload_n d_Model_sendStep_87 rfl ?_
        refine mm_getf (v := .ref (m + 11)) d_Model_sendStep_88 cl_Model fl_Model_40_Model (by decide) H.1 rfl ?_
        refine mm_iload_n d_Model_sendStep_91 rfl ?_
        refine mx_ald (E := p) (v := nI g) d_Model_sendStep_92 (mh_10 H) (by omega) (by decide) (show (A 10) p = nI g from hg) ?_
        refine mm_bipush (v := 32) d_Model_sendStep_93 (by decide) ?_
        refine mx_icmp_ge (a := g) (b := 32) (tgt := 107) d_Model_sendStep_95 (by decide) (by omega) (by omega) (fun c_95 => ?_) (fun c_95 => absurd c_95 (by omega))
        refine mm_bipush (v := 31) d_Model_sendStep_107 (by decide) ?_
        refine mx_add (a := 32 * p) (b := 31) (c := 32 * p + 31) d_Model_sendStep_109 (by omega) ?_
        refine mm_aload_n d_Model_sendStep_110 rfl ?_
        refine mm_getf (v := .ref (m + 8)) d_Model_sendStep_111 cl_Model fl_Model_31_Model (by decide) H.1 rfl ?_
        refine mm_iload_n d_Model_sendStep_114 rfl ?_
        refine mx_ald (E := p) (v := (A 7) p) d_Model_sendStep_115 (mh_7 H) (by omega) (by decide) (show (A 7) p = (A 7) p from rfl) ?_
        refine mx_ast (E := 32 * p + 31) d_Model_sendStep_116 (mh_11 H) (by omega) (by decide) ?_
        refine mh_a (j := 11) (f := (upd (m_shift (A 11) (32 * p) 31) (32 * p + 31) ((A 7) p))) (by decide) H F (fun h H F => ?_)
        refine mm_aload_n d_Model_sendStep_117 rfl ?_
        refine mm_getf (v := .ref (m + 11)) d_Model_sendStep_118 cl_Model fl_Model_40_Model (by decide) H.1 rfl ?_
        refine mm_iload_n d_Model_sendStep_121 rfl ?_
        refine mm_dup2 d_Model_sendStep_122 rfl rfl ?_
        refine mx_ald (E := p) (v := nI g) d_Model_sendStep_123 (mh_10 H) (by omega) (by decide) (show (A 10) p = nI g from hg) ?_
        refine mm_iconst (v := 1) d_Model_sendStep_124 (by decide) ?_
        refine mx_add (a := g) (b := 1) (c := g + 1) d_Model_sendStep_125 (by omega) ?_
        refine mx_ast (E := p) d_Model_sendStep_126 (mh_10 H) (by omega) (by decide) ?_
        refine mh_a (j := 10) (f := (upd (A 10) p (nI (g + 1)))) (by decide) H F (fun h H F => ?_)
        exact mm_return d_Model_sendStep_127 rfl (MX.of (rfl) (rfl) (by simp [m_send, m_gone, ma_ma, c_6, c_26, show ¬ g < 32 by omega]) H F)
    · exact mm_return d_Model_sendStep_29 rfl (MX.of (rfl) (rfl) (by simp [m_send, m_gone, ma_ma, c_6, c_26]) H F)
  · exact mm_return d_Model_sendStep_9 rfl (MX.of (rfl) (rfl) (by simp [m_send, m_gone, ma_ma, c_6]) H F)
theorem va_cpy_s (f g : Nat → Int32) (b c i e : Nat) (he : e = c + i) : upd (va_cpy f g b c i) e (f (b + i)) = va_cpy f g b c (i + 1) := by
  subst he
  funext j
  unfold upd va_cpy
  by_cases h1 : j = c + i
  · subst h1; rw [if_pos rfl, if_pos (by omega), Nat.add_sub_cancel_left]
  · rw [if_neg h1]; by_cases h2 : c ≤ j ∧ j < c + i
    · rw [if_pos h2, if_pos (by omega)]
    · rw [if_neg h2, if_neg (by omega)]
theorem va_cpy_0 (f g : Nat → Int32) (b c : Nat) : va_cpy f g b c 0 = g := by
  funext j; unfold va_cpy; rw [if_neg (by omega)]
def m_row (A : Nat → Nat → Int32) (p w : Nat) : Nat → Nat → Int32 := if A 6 p = 0 then A else if A 6 p - 1 ≤ 0 then (if A 5 (64 * p + 1) = 1 then ma (ma A 6 (upd (A 6) p (A 6 p - 1))) 5 (upd (upd (va_cpy (A 12) (A 5) (64 * p + 8 * w) (64 * p + 3) 8) (64 * p + 1) 0) (64 * p + 2) 1)
   else ma (ma (ma A 6 (upd (A 6) p (A 6 p - 1))) 12 (va_cpy (A 5) (A 12) (64 * p + 3) (64 * p + 8 * w) 8)) 5 (upd (upd (A 5) (64 * p + 1) 0) (64 * p + 2) 1)) else ma A 6 (upd (A 6) p (A 6 p - 1))
set_option maxRecDepth 100000 in
set_option maxHeartbeats 4000000 in
theorem lp_row1 {sc : mm_Sc} {n d kc ks : Nat} {h0 : mm_H} {m : Nat} {I : Nat → Int32} {A : Nat → Nat → Int32} {Q : mm_O → Nat → mm_H → Prop} {p w : Nat} (hp : p < 12) (hw : A 7 p = nI w) (hw8 : w < 8) (hr : A 5 (64 * p + 1) = 1) (hq : ∀ h, MH h m I (ma A 5 (va_cpy (A 12) (A 5) (64 * p + 8 * w) (64 * p + 3) 8)) → MF h0 h m → mm_G sc y_Model_rowStep d 116 [some (.ref m), some (.int (nI p)), some (.int (nI (64 * p))), some (.int (nI 8)), none] [] n h kc ks Q) : ∀ (q i : Nat) (h : mm_H), i + q = 8 → MH h m I (ma A 5 (va_cpy (A 12) (A 5) (64 * p + 8 * w) (64 * p + 3) i)) → MF h0 h m → mm_G sc y_Model_rowStep d 37 [some (.ref m), some (.int (nI p)), some (.int (nI (64 * p))), some (.int (nI i)), none] [] n h kc ks Q := by
  intro q
  induction q with
  | zero =>
    intro i h hi9 H F
    obtain rfl : i = 8 := by omega
    refine mm_iload_n d_Model_rowStep_37 rfl ?_
    refine mm_bipush (v := 8) d_Model_rowStep_38 (by decide) ?_
    refine mx_icmp_ge (a := 8) (b := 8) (tgt := 116) d_Model_rowStep_40 (by decide) (by omega) (by omega) (fun c_40 => ?_) (fun c_40 => absurd c_40 (by omega))
    exact hq _ H F
  | succ q ih =>
    intro i h hi9 H F
    refine mm_iload_n d_Model_rowStep_37 rfl ?_
    refine mm_bipush (v := 8) d_Model_rowStep_38 (by decide) ?_
    refine mx_icmp_ge (a := i) (b := 8) (tgt := 116) d_Model_rowStep_40 (by decide) (by omega) (by omega) (fun c_40 => absurd c_40 (by omega)) (fun c_40 => ?_)
    refine mm_bipush (v := 64) d_Model_rowStep_43 (by decide) ?_
    refine mm_iload_n d_Model_rowStep_45 rfl ?_
    refine mx_mul (a := 64) (b := p) d_Model_rowStep_46 ?_
    refine mm_bipush (v := 8) d_Model_rowStep_47 (by decide) ?_
    refine mm_aload_n d_Model_rowStep_49 rfl ?_
    refine mm_getf (v := .ref (m + 8)) d_Model_rowStep_50 cl_Model fl_Model_31_Model (by decide) H.1 rfl ?_
    refine mm_iload_n d_Model_rowStep_53 rfl ?_
    refine mx_ald (E := p) (v := nI w) d_Model_rowStep_54 (mh_7 H) (by omega) (by decide) (show (A 7) p = nI w from hw) ?_
    refine mx_mul (a := 8) (b := w) d_Model_rowStep_55 ?_
    refine mx_add (a := 64 * p) (b := 8 * w) (c := 64 * p + (8 * w)) d_Model_rowStep_56 (by omega) ?_
    refine mm_iload_n d_Model_rowStep_57 rfl ?_
    refine mx_add (a := 64 * p + (8 * w)) (b := i) (c := 64 * p + (8 * w) + i) d_Model_rowStep_58 (by omega) ?_
    refine mm_istore d_Model_rowStep_59 (by decide) ?_
    refine mm_aload_n d_Model_rowStep_61 rfl ?_
    refine mm_getf (v := .ref (m + 6)) d_Model_rowStep_62 cl_Model fl_Model_25_Model (by decide) H.1 rfl ?_
    refine mm_iload_n d_Model_rowStep_65 rfl ?_
    refine mm_iconst (v := 1) d_Model_rowStep_66 (by decide) ?_
    refine mx_add (a := 64 * p) (b := 1) (c := 64 * p + 1) d_Model_rowStep_67 (by omega) ?_
    refine mx_ald (E := 64 * p + 1) (v := (A 5) (64 * p + 1)) d_Model_rowStep_68 (mh_5 H) (by omega) (by decide) (show (va_cpy (A 12) (A 5) (64 * p + 8 * w) (64 * p + 3) i) (64 * p + 1) = (A 5) (64 * p + 1) from (by simp [va_cpy])) ?_
    refine mm_iconst (v := 1) d_Model_rowStep_69 (by decide) ?_
    refine mm_icmp_ne (tgt := 93) d_Model_rowStep_70 (by decide) (fun c_70 => absurd c_70 (fun z => z hr)) (fun c_70 => ?_)
    refine mm_aload_n d_Model_rowStep_73 rfl ?_
    refine mm_getf (v := .ref (m + 6)) d_Model_rowStep_74 cl_Model fl_Model_25_Model (by decide) H.1 rfl ?_
    refine mm_iload_n d_Model_rowStep_77 rfl ?_
    refine mm_iconst (v := 3) d_Model_rowStep_78 (by decide) ?_
    refine mx_add (a := 64 * p) (b := 3) (c := 64 * p + 3) d_Model_rowStep_79 (by omega) ?_
    refine mm_iload_n d_Model_rowStep_80 rfl ?_
    refine mx_add (a := 64 * p + 3) (b := i) (c := 64 * p + 3 + i) d_Model_rowStep_81 (by omega) ?_
    refine mm_aload_n d_Model_rowStep_82 rfl ?_
    refine mm_getf (v := .ref (m + 13)) d_Model_rowStep_83 cl_Model fl_Model_46_Model (by decide) H.1 rfl ?_
    refine mm_iload d_Model_rowStep_86 rfl ?_
    refine mx_ald (E := 64 * p + (8 * w) + i) (v := (A 12) (64 * p + (8 * w) + i)) d_Model_rowStep_88 (mh_12 H) (by omega) (by decide) (show (A 12) (64 * p + (8 * w) + i) = (A 12) (64 * p + (8 * w) + i) from rfl) ?_
    refine mx_ast (E := 64 * p + 3 + i) d_Model_rowStep_89 (mh_5 H) (by omega) (by decide) ?_
    refine mh_a (j := 5) (f := (upd (va_cpy (A 12) (A 5) (64 * p + 8 * w) (64 * p + 3) i) (64 * p + 3 + i) ((A 12) (64 * p + (8 * w) + i)))) (by decide) H F (fun h H F => ?_)
    refine mm_goto (tgt := 110) d_Model_rowStep_90 (by decide) ?_
    refine mx_inc (a := i) (b := i + 1) d_Model_rowStep_110 rfl rfl (by decide) ?_
    refine mm_goto (tgt := 37) d_Model_rowStep_113 (by decide) ?_
    refine mm_G.drop 4 ?_
    refine ih (i + 1) h (by omega) (H.cast rfl (by rw [ma_ma]; exact congrArg (ma A 5) (va_cpy_s (A 12) (A 5) (64 * p + 8 * w) (64 * p + 3) i _ (by omega)))) F
set_option maxRecDepth 100000 in
set_option maxHeartbeats 4000000 in
theorem lp_row0 {sc : mm_Sc} {n d kc ks : Nat} {h0 : mm_H} {m : Nat} {I : Nat → Int32} {A : Nat → Nat → Int32} {Q : mm_O → Nat → mm_H → Prop} {p w : Nat} (hp : p < 12) (hw : A 7 p = nI w) (hw8 : w < 8) (hr : ¬ A 5 (64 * p + 1) = 1) (hq : ∀ h, MH h m I (ma A 12 (va_cpy (A 5) (A 12) (64 * p + 3) (64 * p + 8 * w) 8)) → MF h0 h m → mm_G sc y_Model_rowStep d 116 [some (.ref m), some (.int (nI p)), some (.int (nI (64 * p))), some (.int (nI 8)), none] [] n h kc ks Q) : ∀ (q i : Nat) (h : mm_H), i + q = 8 → MH h m I (ma A 12 (va_cpy (A 5) (A 12) (64 * p + 3) (64 * p + 8 * w) i)) → MF h0 h m → mm_G sc y_Model_rowStep d 37 [some (.ref m), some (.int (nI p)), some (.int (nI (64 * p))), some (.int (nI i)), none] [] n h kc ks Q := by
  intro q
  induction q with
  | zero =>
    intro i h hi9 H F
    obtain rfl : i = 8 := by omega
    refine mm_iload_n d_Model_rowStep_37 rfl ?_
    refine mm_bipush (v := 8) d_Model_rowStep_38 (by decide) ?_
    refine mx_icmp_ge (a := 8) (b := 8) (tgt := 116) d_Model_rowStep_40 (by decide) (by omega) (by omega) (fun c_40 => ?_) (fun c_40 => absurd c_40 (by omega))
    exact hq _ H F
  | succ q ih =>
    intro i h hi9 H F
    refine mm_iload_n d_Model_rowStep_37 rfl ?_
    refine mm_bipush (v := 8) d_Model_rowStep_38 (by decide) ?_
    refine mx_icmp_ge (a := i) (b := 8) (tgt := 116) d_Model_rowStep_40 (by decide) (by omega) (by omega) (fun c_40 => absurd c_40 (by omega)) (fun c_40 => ?_)
    refine mm_bipush (v := 64) d_Model_rowStep_43 (by decide) ?_
    refine mm_iload_n d_Model_rowStep_45 rfl ?_
    refine mx_mul (a := 64) (b := p) d_Model_rowStep_46 ?_
    refine mm_bipush (v := 8) d_Model_rowStep_47 (by decide) ?_
    refine mm_aload_n d_Model_rowStep_49 rfl ?_
    refine mm_getf (v := .ref (m + 8)) d_Model_rowStep_50 cl_Model fl_Model_31_Model (by decide) H.1 rfl ?_
    refine mm_iload_n d_Model_rowStep_53 rfl ?_
    refine mx_ald (E := p) (v := nI w) d_Model_rowStep_54 (mh_7 H) (by omega) (by decide) (show (A 7) p = nI w from hw) ?_
    refine mx_mul (a := 8) (b := w) d_Model_rowStep_55 ?_
    refine mx_add (a := 64 * p) (b := 8 * w) (c := 64 * p + (8 * w)) d_Model_rowStep_56 (by omega) ?_
    refine mm_iload_n d_Model_rowStep_57 rfl ?_
    refine mx_add (a := 64 * p + (8 * w)) (b := i) (c := 64 * p + (8 * w) + i) d_Model_rowStep_58 (by omega) ?_
    refine mm_istore d_Model_rowStep_59 (by decide) ?_
    refine mm_aload_n d_Model_rowStep_61 rfl ?_
    refine mm_getf (v := .ref (m + 6)) d_Model_rowStep_62 cl_Model fl_Model_25_Model (by decide) H.1 rfl ?_
    refine mm_iload_n d_Model_rowStep_65 rfl ?_
    refine mm_iconst (v := 1) d_Model_rowStep_66 (by decide) ?_
    refine mx_add (a := 64 * p) (b := 1) (c := 64 * p + 1) d_Model_rowStep_67 (by omega) ?_
    refine mx_ald (E := 64 * p + 1) (v := (A 5) (64 * p + 1)) d_Model_rowStep_68 (mh_5 H) (by omega) (by decide) (show (A 5) (64 * p + 1) = (A 5) (64 * p + 1) from rfl) ?_
    refine mm_iconst (v := 1) d_Model_rowStep_69 (by decide) ?_
    refine mm_icmp_ne (tgt := 93) d_Model_rowStep_70 (by decide) (fun c_70 => ?_) (fun c_70 => absurd c_70 hr)
    refine mm_aload_n d_Model_rowStep_93 rfl ?_
    refine mm_getf (v := .ref (m + 13)) d_Model_rowStep_94 cl_Model fl_Model_46_Model (by decide) H.1 rfl ?_
    refine mm_iload d_Model_rowStep_97 rfl ?_
    refine mm_aload_n d_Model_rowStep_99 rfl ?_
    refine mm_getf (v := .ref (m + 6)) d_Model_rowStep_100 cl_Model fl_Model_25_Model (by decide) H.1 rfl ?_
    refine mm_iload_n d_Model_rowStep_103 rfl ?_
    refine mm_iconst (v := 3) d_Model_rowStep_104 (by decide) ?_
    refine mx_add (a := 64 * p) (b := 3) (c := 64 * p + 3) d_Model_rowStep_105 (by omega) ?_
    refine mm_iload_n d_Model_rowStep_106 rfl ?_
    refine mx_add (a := 64 * p + 3) (b := i) (c := 64 * p + 3 + i) d_Model_rowStep_107 (by omega) ?_
    refine mx_ald (E := 64 * p + 3 + i) (v := (A 5) (64 * p + 3 + i)) d_Model_rowStep_108 (mh_5 H) (by omega) (by decide) (show (A 5) (64 * p + 3 + i) = (A 5) (64 * p + 3 + i) from rfl) ?_
    refine mx_ast (E := 64 * p + (8 * w) + i) d_Model_rowStep_109 (mh_12 H) (by omega) (by decide) ?_
    refine mh_a (j := 12) (f := (upd (va_cpy (A 5) (A 12) (64 * p + 3) (64 * p + 8 * w) i) (64 * p + (8 * w) + i) ((A 5) (64 * p + 3 + i)))) (by decide) H F (fun h H F => ?_)
    refine mx_inc (a := i) (b := i + 1) d_Model_rowStep_110 rfl rfl (by decide) ?_
    refine mm_goto (tgt := 37) d_Model_rowStep_113 (by decide) ?_
    refine mm_G.drop 4 ?_
    refine ih (i + 1) h (by omega) (H.cast rfl (by rw [ma_ma]; exact congrArg (ma A 12) (va_cpy_s (A 5) (A 12) (64 * p + 3) (64 * p + 8 * w) i _ (by omega)))) F
set_option maxRecDepth 100000 in
set_option maxHeartbeats 4000000 in
theorem J_Model_rowStep {sc : mm_Sc} {n : Nat} {h : mm_H} {m : Nat} {I : Nat → Int32} {A : Nat → Nat → Int32} {p w : Nat} (H : MH h m I A) (hp : p < 12) (hw : A 7 p = nI w) (hw8 : w < 8) : mm_J sc y_Model_rowStep 1 [.ref m, .int (nI p)] n h 0 0 (MX (none) n h m I (m_row A p w)) := by
  refine mm_J.of (show mm_G sc y_Model_rowStep 1 0 [some (.ref m), some (.int (nI p)), none, none, none] [] n h 0 0 _ from ?_) ce_Model_rowStep.2.2.2.2.1 (Nat.le_of_ble_eq_true rfl) (by simp [Value.category])
  have F : MF h h m := fun _ _ => rfl
  refine mm_bipush (v := 64) d_Model_rowStep_0 (by decide) ?_
  refine mm_iload_n d_Model_rowStep_2 rfl ?_
  refine mx_mul (a := 64) (b := p) d_Model_rowStep_3 ?_
  refine mm_istore_n d_Model_rowStep_4 (by decide) ?_
  refine mm_aload_n d_Model_rowStep_5 rfl ?_
  refine mm_getf (v := .ref (m + 7)) d_Model_rowStep_6 cl_Model fl_Model_28_Model (by decide) H.1 rfl ?_
  refine mm_iload_n d_Model_rowStep_9 rfl ?_
  refine mx_ald (E := p) (v := (A 6) p) d_Model_rowStep_10 (mh_6 H) (by omega) (by decide) (show (A 6) p = (A 6) p from rfl) ?_
  refine mm_if_ne (tgt := 15) d_Model_rowStep_11 (by decide) (fun c_11 => ?_) (fun c_11 => ?_)
  · refine mm_aload_n d_Model_rowStep_15 rfl ?_
    refine mm_getf (v := .ref (m + 7)) d_Model_rowStep_16 cl_Model fl_Model_28_Model (by decide) H.1 rfl ?_
    refine mm_iload_n d_Model_rowStep_19 rfl ?_
    refine mm_dup2 d_Model_rowStep_20 rfl rfl ?_
    refine mx_ald (E := p) (v := (A 6) p) d_Model_rowStep_21 (mh_6 H) (by omega) (by decide) (show (A 6) p = (A 6) p from rfl) ?_
    refine mm_iconst (v := 1) d_Model_rowStep_22 (by decide) ?_
    refine mm_isub d_Model_rowStep_23 ?_
    refine mx_ast (E := p) d_Model_rowStep_24 (mh_6 H) (by omega) (by decide) ?_
    refine mh_a (j := 6) (f := (upd (A 6) p (((A 6) p) - 1))) (by decide) H F (fun h H F => ?_)
    refine mm_aload_n d_Model_rowStep_25 rfl ?_
    refine mm_getf (v := .ref (m + 7)) d_Model_rowStep_26 cl_Model fl_Model_28_Model (by decide) H.1 rfl ?_
    refine mm_iload_n d_Model_rowStep_29 rfl ?_
    refine mx_ald (E := p) (v := ((A 6) p) - 1) d_Model_rowStep_30 (mh_6 H) (by omega) (by decide) (show (upd (A 6) p (((A 6) p) - 1)) p = ((A 6) p) - 1 from (by simp [upd])) ?_
    refine mm_if_le (tgt := 35) d_Model_rowStep_31 (by decide) (fun c_31 => ?_) (fun c_31 => ?_)
    · refine mm_iconst (v := 0) d_Model_rowStep_35 (by decide) ?_
      refine mm_istore_n d_Model_rowStep_36 (by decide) ?_
      by_cases hr : A 5 (64 * p + 1) = 1
      · refine lp_row1 (A := (ma A 6 (upd (A 6) p (((A 6) p) - 1)))) hp hw hw8 hr (fun h H F => ?_) 8 0 h (by omega) (H.cast rfl (by rw [va_cpy_0, ma_id])) F
        refine mm_aload_n d_Model_rowStep_116 rfl ?_
        refine mm_getf (v := .ref (m + 6)) d_Model_rowStep_117 cl_Model fl_Model_25_Model (by decide) H.1 rfl ?_
        refine mm_iload_n d_Model_rowStep_120 rfl ?_
        refine mm_iconst (v := 1) d_Model_rowStep_121 (by decide) ?_
        refine mx_add (a := 64 * p) (b := 1) (c := 64 * p + 1) d_Model_rowStep_122 (by omega) ?_
        refine mm_iconst (v := 0) d_Model_rowStep_123 (by decide) ?_
        refine mx_ast (E := 64 * p + 1) d_Model_rowStep_124 (mh_5 H) (by omega) (by decide) ?_
        refine mh_a (j := 5) (f := (upd (va_cpy (A 12) (A 5) (64 * p + 8 * w) (64 * p + 3) 8) (64 * p + 1) 0)) (by decide) H F (fun h H F => ?_)
        refine mm_aload_n d_Model_rowStep_125 rfl ?_
        refine mm_getf (v := .ref (m + 6)) d_Model_rowStep_126 cl_Model fl_Model_25_Model (by decide) H.1 rfl ?_
        refine mm_iload_n d_Model_rowStep_129 rfl ?_
        refine mm_iconst (v := 2) d_Model_rowStep_130 (by decide) ?_
        refine mx_add (a := 64 * p) (b := 2) (c := 64 * p + 2) d_Model_rowStep_131 (by omega) ?_
        refine mm_iconst (v := 1) d_Model_rowStep_132 (by decide) ?_
        refine mx_ast (E := 64 * p + 2) d_Model_rowStep_133 (mh_5 H) (by omega) (by decide) ?_
        refine mh_a (j := 5) (f := (upd (upd (va_cpy (A 12) (A 5) (64 * p + 8 * w) (64 * p + 3) 8) (64 * p + 1) 0) (64 * p + 2) 1)) (by decide) H F (fun h H F => ?_)
        exact mm_return d_Model_rowStep_134 rfl (MX.of (rfl) (rfl) (by simp [m_row, ma_ma, c_11, c_31, hr]; try rfl) H F)
      · refine lp_row0 (A := (ma A 6 (upd (A 6) p (((A 6) p) - 1)))) hp hw hw8 hr (fun h H F => ?_) 8 0 h (by omega) (H.cast rfl (by rw [va_cpy_0, ma_id])) F
        refine mm_aload_n d_Model_rowStep_116 rfl ?_
        refine mm_getf (v := .ref (m + 6)) d_Model_rowStep_117 cl_Model fl_Model_25_Model (by decide) H.1 rfl ?_
        refine mm_iload_n d_Model_rowStep_120 rfl ?_
        refine mm_iconst (v := 1) d_Model_rowStep_121 (by decide) ?_
        refine mx_add (a := 64 * p) (b := 1) (c := 64 * p + 1) d_Model_rowStep_122 (by omega) ?_
        refine mm_iconst (v := 0) d_Model_rowStep_123 (by decide) ?_
        refine mx_ast (E := 64 * p + 1) d_Model_rowStep_124 (mh_5 H) (by omega) (by decide) ?_
        refine mh_a (j := 5) (f := (upd (A 5) (64 * p + 1) 0)) (by decide) H F (fun h H F => ?_)
        refine mm_aload_n d_Model_rowStep_125 rfl ?_
        refine mm_getf (v := .ref (m + 6)) d_Model_rowStep_126 cl_Model fl_Model_25_Model (by decide) H.1 rfl ?_
        refine mm_iload_n d_Model_rowStep_129 rfl ?_
        refine mm_iconst (v := 2) d_Model_rowStep_130 (by decide) ?_
        refine mx_add (a := 64 * p) (b := 2) (c := 64 * p + 2) d_Model_rowStep_131 (by omega) ?_
        refine mm_iconst (v := 1) d_Model_rowStep_132 (by decide) ?_
        refine mx_ast (E := 64 * p + 2) d_Model_rowStep_133 (mh_5 H) (by omega) (by decide) ?_
        refine mh_a (j := 5) (f := (upd (upd (A 5) (64 * p + 1) 0) (64 * p + 2) 1)) (by decide) H F (fun h H F => ?_)
        exact mm_return d_Model_rowStep_134 rfl (MX.of (rfl) (rfl) (by simp [m_row, ma_ma, c_11, c_31, hr]; try rfl) H F)
    · exact mm_return d_Model_rowStep_34 rfl (MX.of (rfl) (rfl) (by simp [m_row, ma_ma, c_11, c_31]; try rfl) H F)
  · exact mm_return d_Model_rowStep_14 rfl (MX.of (rfl) (rfl) (by simp [m_row, ma_ma, c_11]; try rfl) H F)
