theorem cpy_0 {f g : Nat → Int32} {sp dp : Nat} : va_cpy f g sp dp 0 = g := by
  funext j
  simp [va_cpy]
  omega
theorem cpy_s {f g : Nat → Int32} {sp dp i : Nat} : upd (va_cpy f g sp dp i) (dp + i) (f (sp + i)) = va_cpy f g sp dp (i + 1) := by
  funext j
  by_cases h : j = dp + i
  · subst h
    simp [upd, va_cpy]
  · simp only [upd, va_cpy, h, if_false]
    by_cases h1 : dp ≤ j ∧ j < dp + i
    · rw [if_pos h1, if_pos ⟨h1.1, by omega⟩]
    · rw [if_neg h1, if_neg (by omega)]
set_option maxRecDepth 100000 in
theorem lp_Counts_beginAnew {sc : mm_Sc} {n d kc ks : Nat} {h : mm_H} {Q : mm_O → Nat → mm_H → Prop} {a b s len : Nat} {A : Nat → Int32} (ha : h a = some (.inr (7, [.ref b, .ref s]))) (hb : h b = some (.inl (0, len, .inl A))) (hl : len < 2 ^ 31) (hq : mm_G sc y_Counts_beginAnew d 24 [some (.ref a), some (.int (nI len))] [] n (va_up h b (some (.inl (0, len, .inl (za A len))))) kc ks Q) : ∀ (m i : Nat), i + m = len → mm_G sc y_Counts_beginAnew d 2 [some (.ref a), some (.int (nI i))] [] n (va_up h b (some (.inl (0, len, .inl (za A i))))) kc ks Q := by
  intro m
  induction m with
  | zero =>
    intro i hi9
    obtain rfl : len = i := by omega
    refine mm_hp (fun g0 e0 => ?_)
    have ha_g : g0 a = some (.inr (7, [.ref b, .ref s])) := by rw [e0, va_up_ne _ _ (mm_neq ha hb (by simp))]; exact ha
    have hb_g : g0 b = some (.inl (0, len, .inl (za A len))) := by rw [e0]; exact va_up_self _ _ _
    refine mm_iload_n d_Counts_beginAnew_2 rfl ?_
    refine mm_aload_n d_Counts_beginAnew_3 rfl ?_
    refine mm_getf d_Counts_beginAnew_4 cl_Counts fl_Counts_9_Counts (by decide) ha_g rfl ?_
    refine mm_alen d_Counts_beginAnew_7 hb_g (by decide) ?_
    refine mm_icmp_ge (tgt := 24) d_Counts_beginAnew_8 (by decide) (fun c_8 => ?_) (fun c_8 => absurd (nI_le (Nat.le_refl _) (by omega)) c_8)
    rw [e0]
    exact hq
  | succ m ih =>
    intro i hi9
    refine mm_hp (fun g0 e0 => ?_)
    have ha_g : g0 a = some (.inr (7, [.ref b, .ref s])) := by rw [e0, va_up_ne _ _ (mm_neq ha hb (by simp))]; exact ha
    have hb_g : g0 b = some (.inl (0, len, .inl (za A i))) := by rw [e0]; exact va_up_self _ _ _
    refine mm_iload_n d_Counts_beginAnew_2 rfl ?_
    refine mm_aload_n d_Counts_beginAnew_3 rfl ?_
    refine mm_getf d_Counts_beginAnew_4 cl_Counts fl_Counts_9_Counts (by decide) ha_g rfl ?_
    refine mm_alen d_Counts_beginAnew_7 hb_g (by decide) ?_
    refine mm_icmp_ge (tgt := 24) d_Counts_beginAnew_8 (by decide) (fun c_8 => absurd c_8 (nI_ge (by omega) (by omega))) (fun c_8 => ?_)
    refine mm_aload_n d_Counts_beginAnew_11 rfl ?_
    refine mm_getf d_Counts_beginAnew_12 cl_Counts fl_Counts_9_Counts (by decide) ha_g rfl ?_
    refine mm_iload_n d_Counts_beginAnew_15 rfl ?_
    refine mm_iconst (v := 0) d_Counts_beginAnew_16 (by decide) ?_
    refine mm_iast d_Counts_beginAnew_17 hb_g (vp_in_nI (by omega) (by omega)) ?_
    refine mm_hp (fun h1 e1 => ?_)
    have ha_g_v1 : h1 a = some (.inr (7, [.ref b, .ref s])) := by rw [e1, va_up_ne _ _ (mm_neq ha_g hb_g (by simp))]; exact ha_g
    have hb_g_v1 : h1 b = some (.inl (0, len, .inl (upd (za A i) (nI i).toNatClampNeg 0))) := by rw [e1]; exact va_up_self _ _ _
    refine mm_iinc (v := (nI i) + 1) d_Counts_beginAnew_18 rfl rfl (by decide) ?_
    refine mm_goto (tgt := 2) d_Counts_beginAnew_21 (by decide) ?_
    exact mm_G.cast (by rw [nI_1]; rfl) rfl (by rw [e1, e0, bx_uu, nI_clamp (by omega), za_s]) (ih (i + 1) (by omega))
set_option maxRecDepth 100000 in
theorem J_Counts_beginAnew {sc : mm_Sc} {n : Nat} {h : mm_H} {a b s len : Nat} {A : Nat → Int32} (hl : len < 2 ^ 31) (ha : h a = some (.inr (7, [.ref b, .ref s]))) (hb : h b = some (.inl (0, len, .inl A))) : mm_J sc y_Counts_beginAnew 1 [.ref a] n h 0 0 (fun o n' h' => o = .inl (none) ∧ n' = n ∧ h' = va_up h b (some (.inl (0, len, .inl (za A len))))) := by
  refine mm_J.of (show mm_G sc y_Counts_beginAnew 1 0 [some (.ref a), none] [] n h 0 0 _ from ?_) ce_Counts_beginAnew.2.2.2.2.1 (Nat.le_of_ble_eq_true rfl) (by simp [Value.category])
  refine mm_iconst (v := 0) d_Counts_beginAnew_0 (by decide) ?_
  refine mm_istore_n d_Counts_beginAnew_1 (by decide) ?_
  exact mm_G.cast rfl rfl (by rw [za_0, mm_up_id hb]) (lp_Counts_beginAnew ha hb hl (mm_return d_Counts_beginAnew_24 rfl ⟨rfl, rfl, rfl⟩) len 0 (by omega))
def rw_in (k : Int32) : Int32 := if k < 3 then 0 else if 11 ≤ k then 0 else 1
theorem rw_win {k : Int32} (c : ¬ rw_in k = 0) : vp_in (k - 3) 8 := by
  unfold rw_in at c
  split at c
  · exact absurd rfl c
  · rename_i h1
    split at c
    · exact absurd rfl c
    · rename_i h2
      rcases pk_ix k (n := 11) (by omega) with h | h | ⟨j, hj, rfl⟩
      · exact absurd (Int32.lt_trans h (by decide)) h1
      · exact absurd h h2
      · have h3 : 3 ≤ j := by
          rcases Nat.lt_or_ge j 3 with q | q
          · exact absurd (show nI j < nI 3 from nI_lt q (by omega)) h1
          · exact q
        rw [show (nI j - 3 : Int32) = nI (j - 3) from pk_sub (a := j) (b := 3) h3]
        exact vp_in_nI (by omega) (by omega)
set_option maxRecDepth 100000 in
theorem J_Rows_inWindow {sc : mm_Sc} {n : Nat} {h : mm_H} {a : Nat} {k : Int32}  : mm_J sc y_Rows_inWindow 1 [.ref a, .int k] n h 0 0 (fun o n' h' => o = .inl (some (.int (rw_in k))) ∧ n' = n ∧ h' = h) := by
  refine mm_J.of (show mm_G sc y_Rows_inWindow 1 0 [some (.ref a), some (.int k)] [] n h 0 0 _ from ?_) ce_Rows_inWindow.2.2.2.2.1 (Nat.le_of_ble_eq_true rfl) (by simp [Value.category])
  refine mm_iload_n d_Rows_inWindow_0 rfl ?_
  refine mm_iconst (v := 3) d_Rows_inWindow_1 (by decide) ?_
  refine mm_icmp_lt (tgt := 15) d_Rows_inWindow_2 (by decide) (fun c_2 => ?_) (fun c_2 => ?_)
  · refine mm_iconst (v := 0) d_Rows_inWindow_15 (by decide) ?_
    exact mm_zreturn d_Rows_inWindow_16 rfl rfl ⟨by simp [rw_in, c_2, Int32.not_le.mpr c_2], rfl, rfl⟩
  · refine mm_iload_n d_Rows_inWindow_5 rfl ?_
    refine mm_bipush (v := 11) d_Rows_inWindow_6 (by decide) ?_
    refine mm_icmp_ge (tgt := 15) d_Rows_inWindow_8 (by decide) (fun c_8 => ?_) (fun c_8 => ?_)
    · refine mm_iconst (v := 0) d_Rows_inWindow_15 (by decide) ?_
      exact mm_zreturn d_Rows_inWindow_16 rfl rfl ⟨by simp [rw_in, c_2, Int32.not_lt.mp c_2, c_8, Int32.not_lt.mpr c_8], rfl, rfl⟩
    · refine mm_iconst (v := 1) d_Rows_inWindow_11 (by decide) ?_
      refine mm_goto (tgt := 16) d_Rows_inWindow_12 (by decide) ?_
      exact mm_zreturn d_Rows_inWindow_16 rfl rfl ⟨by simp [rw_in, c_2, Int32.not_lt.mp c_2, c_8, Int32.not_le.mp c_8], rfl, rfl⟩
def rw_look (Wn : Nat → Int32) (r wk dn k : Int32) : Int32 := if k = 0 then r else if k = 1 then wk else if k = 2 then dn else if rw_in k = 0 then 0 else Wn (k - 3).toNatClampNeg
set_option maxRecDepth 100000 in
theorem J_Rows_look {sc : mm_Sc} {n : Nat} {h : mm_H} {a b c s : Nat} {Rw Wn : Nat → Int32} {rw_ wk wr sl dn : Int32} (hbc : b ≠ c) {k : Int32} (ha : h a = some (.inr (6, [.ref b, .ref c, .int rw_, .int wk, .int wr, .int sl, .int dn, .ref s]))) (hb : h b = some (.inl (0, 64, .inl Rw))) (hc : h c = some (.inl (0, 8, .inl Wn))) : mm_J sc y_Rows_look 2 [.ref a, .int k] n h 0 0 (fun o n' h' => o = .inl (some (.int (rw_look Wn rw_ wk dn k))) ∧ n' = n ∧ h' = h) := by
  refine mm_J.of (show mm_G sc y_Rows_look 2 0 [some (.ref a), some (.int k)] [] n h 0 0 _ from ?_) ce_Rows_look.2.2.2.2.1 (Nat.le_of_ble_eq_true rfl) (by simp [Value.category])
  refine mm_iload_n d_Rows_look_0 rfl ?_
  by_cases c_1_0 : k = 0
  · refine mm_tableIn (tgt := 28) (off := 27) d_Rows_look_1 (by rw [c_1_0]; decide) (by rw [c_1_0]; decide) (by rw [c_1_0]; decide) (by decide) ?_
    refine mm_aload_n d_Rows_look_28 rfl ?_
    refine mm_getf d_Rows_look_29 cl_Rows fl_Rows_16_Rows (by decide) ha rfl ?_
    exact mm_ireturn d_Rows_look_32 rfl ⟨by simp [rw_look, c_1_0], rfl, rfl⟩
  by_cases c_1_1 : k = 1
  · refine mm_tableIn (tgt := 33) (off := 32) d_Rows_look_1 (by rw [c_1_1]; decide) (by rw [c_1_1]; decide) (by rw [c_1_1]; decide) (by decide) ?_
    refine mm_aload_n d_Rows_look_33 rfl ?_
    refine mm_getf d_Rows_look_34 cl_Rows fl_Rows_20_Rows (by decide) ha rfl ?_
    exact mm_ireturn d_Rows_look_37 rfl ⟨by simp [rw_look, c_1_0, c_1_1], rfl, rfl⟩
  by_cases c_1_2 : k = 2
  · refine mm_tableIn (tgt := 38) (off := 37) d_Rows_look_1 (by rw [c_1_2]; decide) (by rw [c_1_2]; decide) (by rw [c_1_2]; decide) (by decide) ?_
    refine mm_aload_n d_Rows_look_38 rfl ?_
    refine mm_getf d_Rows_look_39 cl_Rows fl_Rows_29_Rows (by decide) ha rfl ?_
    exact mm_ireturn d_Rows_look_42 rfl ⟨by simp [rw_look, c_1_0, c_1_1, c_1_2], rfl, rfl⟩
  refine mm_tableOut (tgt := 43) d_Rows_look_1 (mm_tsw3 c_1_0 c_1_1 c_1_2) (by decide) ?_
  refine mm_aload_n d_Rows_look_43 rfl ?_
  refine mm_iload_n d_Rows_look_44 rfl ?_
  refine mm_callD d_Rows_look_45 (mm_Inv.vi (as := [.int k]) d_Rows_look_45 (Or.inl m_527) m_529 ce_Rows_inWindow.2.1 ce_Rows_inWindow.2.2.1 mp_12 ce_Rows_inWindow.2.2.2.2.2 ln_Rows_inWindow cl_Rows ha rfl) J_Rows_inWindow (by decide) ce_Rows_inWindow.1 ce_Rows_inWindow.2.1 ce_Rows_inWindow.2.2.1 ce_Rows_inWindow.2.2.2.1 (Nat.le_of_ble_eq_true rfl) ?_
  refine mm_if_eq (tgt := 62) d_Rows_look_48 (by decide) (fun c_48 => ?_) (fun c_48 => ?_)
  · refine mm_iconst (v := 0) d_Rows_look_62 (by decide) ?_
    exact mm_ireturn d_Rows_look_63 rfl ⟨by simp [rw_look, c_1_0, c_1_1, c_1_2, c_48], rfl, rfl⟩
  · refine mm_aload_n d_Rows_look_51 rfl ?_
    refine mm_getf d_Rows_look_52 cl_Rows fl_Rows_13_Rows (by decide) ha rfl ?_
    refine mm_iload_n d_Rows_look_55 rfl ?_
    refine mm_iconst (v := 3) d_Rows_look_56 (by decide) ?_
    refine mm_isub d_Rows_look_57 ?_
    refine mm_iald d_Rows_look_58 hc (rw_win c_48) ?_
    refine mm_goto (tgt := 63) d_Rows_look_59 (by decide) ?_
    exact mm_ireturn d_Rows_look_63 rfl ⟨by simp [rw_look, c_1_0, c_1_1, c_1_2, c_48], rfl, rfl⟩
def rw_ok (wk v : Int32) : Bool := decide (wk = 0) && (decide (v = 1) || decide (v = 2))
set_option maxRecDepth 100000 in
theorem J_Rows_begin {sc : mm_Sc} {n : Nat} {h : mm_H} {a b c s : Nat} {Rw Wn : Nat → Int32} {rw_ wk wr sl dn : Int32} (hbc : b ≠ c) {v : Int32} (ha : h a = some (.inr (6, [.ref b, .ref c, .int rw_, .int wk, .int wr, .int sl, .int dn, .ref s]))) (hb : h b = some (.inl (0, 64, .inl Rw))) (hc : h c = some (.inl (0, 8, .inl Wn))) : mm_J sc y_Rows_begin 1 [.ref a, .int v] n h 0 0 (fun o n' h' => o = .inl (none) ∧ n' = n ∧ h' = va_up h a (some (.inr (6, [.ref b, .ref c, .int rw_, .int (if rw_ok wk v then v else wk), .int (if rw_ok wk v then rw_ else wr), .int (if rw_ok wk v then 10 else sl), .int dn, .ref s])))) := by
  refine mm_J.of (show mm_G sc y_Rows_begin 1 0 [some (.ref a), some (.int v)] [] n h 0 0 _ from ?_) ce_Rows_begin.2.2.2.2.1 (Nat.le_of_ble_eq_true rfl) (by simp [Value.category])
  refine mm_aload_n d_Rows_begin_0 rfl ?_
  refine mm_getf d_Rows_begin_1 cl_Rows fl_Rows_20_Rows (by decide) ha rfl ?_
  refine mm_if_ne (tgt := 17) d_Rows_begin_4 (by decide) (fun c_4 => ?_) (fun c_4 => ?_)
  · exact mm_return d_Rows_begin_17 rfl ⟨by simp [rw_ok, c_4], rfl, by first | exact Eq.refl h | exact mm_up_idE ha (by simp [rw_ok, c_4])⟩
  · refine mm_iload_n d_Rows_begin_7 rfl ?_
    refine mm_iconst (v := 1) d_Rows_begin_8 (by decide) ?_
    refine mm_icmp_eq (tgt := 18) d_Rows_begin_9 (by decide) (fun c_9 => ?_) (fun c_9 => ?_)
    · refine mm_aload_n d_Rows_begin_18 rfl ?_
      refine mm_iload_n d_Rows_begin_19 rfl ?_
      refine mm_putf d_Rows_begin_20 cl_Rows ty_Rows fl_Rows_20_Rows (by decide) rfl rfl rfl ha (Nat.le_of_ble_eq_true rfl) ?_
      refine mm_hp (fun h1 e1 => ?_)
      have ha_v1 : h1 a = some (.inr (6, [.ref b, .ref c, .int rw_, .int v, .int wr, .int sl, .int dn, .ref s])) := by rw [e1]; exact va_up_self _ _ _
      have hb_v1 : h1 b = some (.inl (0, 64, .inl Rw)) := by rw [e1, va_up_ne _ _ (mm_neq hb ha (by simp))]; exact hb
      have hc_v1 : h1 c = some (.inl (0, 8, .inl Wn)) := by rw [e1, va_up_ne _ _ (mm_neq hc ha (by simp))]; exact hc
      refine mm_aload_n d_Rows_begin_23 rfl ?_
      refine mm_aload_n d_Rows_begin_24 rfl ?_
      refine mm_getf d_Rows_begin_25 cl_Rows fl_Rows_16_Rows (by decide) ha_v1 rfl ?_
      refine mm_putf d_Rows_begin_28 cl_Rows ty_Rows fl_Rows_23_Rows (by decide) rfl rfl rfl ha_v1 (Nat.le_of_ble_eq_true rfl) ?_
      refine mm_hp (fun h2 e2 => ?_)
      have ha_v2 : h2 a = some (.inr (6, [.ref b, .ref c, .int rw_, .int v, .int rw_, .int sl, .int dn, .ref s])) := by rw [e2]; exact va_up_self _ _ _
      have hb_v2 : h2 b = some (.inl (0, 64, .inl Rw)) := by rw [e2, va_up_ne _ _ (mm_neq hb_v1 ha_v1 (by simp))]; exact hb_v1
      have hc_v2 : h2 c = some (.inl (0, 8, .inl Wn)) := by rw [e2, va_up_ne _ _ (mm_neq hc_v1 ha_v1 (by simp))]; exact hc_v1
      refine mm_aload_n d_Rows_begin_31 rfl ?_
      refine mm_bipush (v := 10) d_Rows_begin_32 (by decide) ?_
      refine mm_putf d_Rows_begin_34 cl_Rows ty_Rows fl_Rows_26_Rows (by decide) rfl rfl rfl ha_v2 (Nat.le_of_ble_eq_true rfl) ?_
      refine mm_hp (fun h3 e3 => ?_)
      have ha_v3 : h3 a = some (.inr (6, [.ref b, .ref c, .int rw_, .int v, .int rw_, .int 10, .int dn, .ref s])) := by rw [e3]; exact va_up_self _ _ _
      have hb_v3 : h3 b = some (.inl (0, 64, .inl Rw)) := by rw [e3, va_up_ne _ _ (mm_neq hb_v2 ha_v2 (by simp))]; exact hb_v2
      have hc_v3 : h3 c = some (.inl (0, 8, .inl Wn)) := by rw [e3, va_up_ne _ _ (mm_neq hc_v2 ha_v2 (by simp))]; exact hc_v2
      exact mm_return d_Rows_begin_37 rfl (by first | (refine ⟨?_, rfl, ?_⟩ <;> simp [rw_ok, c_4, c_9, bx_uu, e3, e2, e1] <;> done) | (exfalso; simp_all; done))
    · refine mm_iload_n d_Rows_begin_12 rfl ?_
      refine mm_iconst (v := 2) d_Rows_begin_13 (by decide) ?_
      refine mm_icmp_eq (tgt := 18) d_Rows_begin_14 (by decide) (fun c_14 => ?_) (fun c_14 => ?_)
      · refine mm_aload_n d_Rows_begin_18 rfl ?_
        refine mm_iload_n d_Rows_begin_19 rfl ?_
        refine mm_putf d_Rows_begin_20 cl_Rows ty_Rows fl_Rows_20_Rows (by decide) rfl rfl rfl ha (Nat.le_of_ble_eq_true rfl) ?_
        refine mm_hp (fun h4 e4 => ?_)
        have ha_v4 : h4 a = some (.inr (6, [.ref b, .ref c, .int rw_, .int v, .int wr, .int sl, .int dn, .ref s])) := by rw [e4]; exact va_up_self _ _ _
        have hb_v4 : h4 b = some (.inl (0, 64, .inl Rw)) := by rw [e4, va_up_ne _ _ (mm_neq hb ha (by simp))]; exact hb
        have hc_v4 : h4 c = some (.inl (0, 8, .inl Wn)) := by rw [e4, va_up_ne _ _ (mm_neq hc ha (by simp))]; exact hc
        refine mm_aload_n d_Rows_begin_23 rfl ?_
        refine mm_aload_n d_Rows_begin_24 rfl ?_
        refine mm_getf d_Rows_begin_25 cl_Rows fl_Rows_16_Rows (by decide) ha_v4 rfl ?_
        refine mm_putf d_Rows_begin_28 cl_Rows ty_Rows fl_Rows_23_Rows (by decide) rfl rfl rfl ha_v4 (Nat.le_of_ble_eq_true rfl) ?_
        refine mm_hp (fun h5 e5 => ?_)
        have ha_v5 : h5 a = some (.inr (6, [.ref b, .ref c, .int rw_, .int v, .int rw_, .int sl, .int dn, .ref s])) := by rw [e5]; exact va_up_self _ _ _
        have hb_v5 : h5 b = some (.inl (0, 64, .inl Rw)) := by rw [e5, va_up_ne _ _ (mm_neq hb_v4 ha_v4 (by simp))]; exact hb_v4
        have hc_v5 : h5 c = some (.inl (0, 8, .inl Wn)) := by rw [e5, va_up_ne _ _ (mm_neq hc_v4 ha_v4 (by simp))]; exact hc_v4
        refine mm_aload_n d_Rows_begin_31 rfl ?_
        refine mm_bipush (v := 10) d_Rows_begin_32 (by decide) ?_
        refine mm_putf d_Rows_begin_34 cl_Rows ty_Rows fl_Rows_26_Rows (by decide) rfl rfl rfl ha_v5 (Nat.le_of_ble_eq_true rfl) ?_
        refine mm_hp (fun h6 e6 => ?_)
        have ha_v6 : h6 a = some (.inr (6, [.ref b, .ref c, .int rw_, .int v, .int rw_, .int 10, .int dn, .ref s])) := by rw [e6]; exact va_up_self _ _ _
        have hb_v6 : h6 b = some (.inl (0, 64, .inl Rw)) := by rw [e6, va_up_ne _ _ (mm_neq hb_v5 ha_v5 (by simp))]; exact hb_v5
        have hc_v6 : h6 c = some (.inl (0, 8, .inl Wn)) := by rw [e6, va_up_ne _ _ (mm_neq hc_v5 ha_v5 (by simp))]; exact hc_v5
        exact mm_return d_Rows_begin_37 rfl (by first | (refine ⟨?_, rfl, ?_⟩ <;> simp [rw_ok, c_4, c_9, c_14, bx_uu, e6, e5, e4] <;> done) | (exfalso; simp_all; done))
      · exact mm_return d_Rows_begin_17 rfl ⟨by simp [rw_ok, c_4, c_9, c_14], rfl, by first | exact Eq.refl h | exact mm_up_idE ha (by simp [rw_ok, c_4, c_9, c_14])⟩
def rw_putW (Wn : Nat → Int32) (wk k v : Int32) : Nat → Int32 := if k = 0 then Wn else if k = 1 then Wn else if k = 2 then Wn else if rw_in k = 0 then Wn else if wk = 0 then upd Wn (k - 3).toNatClampNeg v else Wn
set_option maxRecDepth 100000 in
theorem J_Rows_put {sc : mm_Sc} {n : Nat} {h : mm_H} {a b c s : Nat} {Rw Wn : Nat → Int32} {rw_ wk wr sl dn : Int32} (hbc : b ≠ c) {k v : Int32} (ha : h a = some (.inr (6, [.ref b, .ref c, .int rw_, .int wk, .int wr, .int sl, .int dn, .ref s]))) (hb : h b = some (.inl (0, 64, .inl Rw))) (hc : h c = some (.inl (0, 8, .inl Wn))) : mm_J sc y_Rows_put 2 [.ref a, .int k, .int v] n h 0 0 (fun o n' h' => o = .inl (none) ∧ n' = n ∧ h' = va_up (va_up h c (some (.inl (0, 8, .inl (rw_putW Wn wk k v))))) a (some (.inr (6, [.ref b, .ref c, .int (if k = 0 then v &&& 7 else rw_), .int (if k = 1 then (if rw_ok wk v then v else wk) else wk), .int (if k = 1 then (if rw_ok wk v then rw_ else wr) else wr), .int (if k = 1 then (if rw_ok wk v then 10 else sl) else sl), .int (if k = 2 then 0 else dn), .ref s])))) := by
  refine mm_J.of (show mm_G sc y_Rows_put 2 0 [some (.ref a), some (.int k), some (.int v)] [] n h 0 0 _ from ?_) ce_Rows_put.2.2.2.2.1 (Nat.le_of_ble_eq_true rfl) (by simp [Value.category])
  refine mm_iload_n d_Rows_put_0 rfl ?_
  by_cases c_1_0 : k = 0
  · refine mm_tableIn (tgt := 28) (off := 27) d_Rows_put_1 (by rw [c_1_0]; decide) (by rw [c_1_0]; decide) (by rw [c_1_0]; decide) (by decide) ?_
    refine mm_aload_n d_Rows_put_28 rfl ?_
    refine mm_iload_n d_Rows_put_29 rfl ?_
    refine mm_bipush (v := 7) d_Rows_put_30 (by decide) ?_
    refine mm_iand d_Rows_put_32 ?_
    refine mm_putf d_Rows_put_33 cl_Rows ty_Rows fl_Rows_16_Rows (by decide) rfl rfl rfl ha (Nat.le_of_ble_eq_true rfl) ?_
    refine mm_hp (fun h1 e1 => ?_)
    have ha_v1 : h1 a = some (.inr (6, [.ref b, .ref c, .int (v &&& 7), .int wk, .int wr, .int sl, .int dn, .ref s])) := by rw [e1]; exact va_up_self _ _ _
    have hb_v1 : h1 b = some (.inl (0, 64, .inl Rw)) := by rw [e1, va_up_ne _ _ (mm_neq hb ha (by simp))]; exact hb
    have hc_v1 : h1 c = some (.inl (0, 8, .inl Wn)) := by rw [e1, va_up_ne _ _ (mm_neq hc ha (by simp))]; exact hc
    refine mm_goto (tgt := 79) d_Rows_put_36 (by decide) ?_
    exact mm_return d_Rows_put_79 rfl ⟨by simp [rw_putW, c_1_0, e1], rfl, by
        funext j
        by_cases j0 : j = a
        · rw [j0]; simp [va_up, rw_putW, c_1_0, e1, ha, hc, (mm_neq ha hc (by simp)), Ne.symm (mm_neq ha hc (by simp))]
        by_cases j1 : j = c
        · rw [j1]; simp [va_up, rw_putW, c_1_0, e1, ha, hc, (mm_neq ha hc (by simp)), Ne.symm (mm_neq ha hc (by simp))]
        simp [va_up, j0, j1, rw_putW, c_1_0, e1]⟩
  by_cases c_1_1 : k = 1
  · refine mm_tableIn (tgt := 39) (off := 38) d_Rows_put_1 (by rw [c_1_1]; decide) (by rw [c_1_1]; decide) (by rw [c_1_1]; decide) (by decide) ?_
    refine mm_aload_n d_Rows_put_39 rfl ?_
    refine mm_iload_n d_Rows_put_40 rfl ?_
    refine mm_callD d_Rows_put_41 (mm_Inv.vi (as := [.int v]) d_Rows_put_41 (Or.inl m_570) m_572 ce_Rows_begin.2.1 ce_Rows_begin.2.2.1 mp_14 ce_Rows_begin.2.2.2.2.2 ln_Rows_begin cl_Rows ha rfl) (J_Rows_begin hbc ha hb hc) (by decide) ce_Rows_begin.1 ce_Rows_begin.2.1 ce_Rows_begin.2.2.1 ce_Rows_begin.2.2.2.1 (Nat.le_of_ble_eq_true rfl) ?_
    refine mm_hp (fun h2 e2 => ?_)
    have ha_v2 : h2 a = some (.inr (6, [.ref b, .ref c, .int rw_, .int (if rw_ok wk v then v else wk), .int (if rw_ok wk v then rw_ else wr), .int (if rw_ok wk v then 10 else sl), .int dn, .ref s])) := by rw [e2]; exact va_up_self _ _ _
    have hb_v2 : h2 b = some (.inl (0, 64, .inl Rw)) := by rw [e2, va_up_ne _ _ (mm_neq hb ha (by simp))]; exact hb
    have hc_v2 : h2 c = some (.inl (0, 8, .inl Wn)) := by rw [e2, va_up_ne _ _ (mm_neq hc ha (by simp))]; exact hc
    refine mm_goto (tgt := 79) d_Rows_put_44 (by decide) ?_
    exact mm_return d_Rows_put_79 rfl ⟨by simp [rw_putW, c_1_0, c_1_1, e2], rfl, by
        funext j
        by_cases j0 : j = a
        · rw [j0]; simp [va_up, rw_putW, c_1_0, c_1_1, e2, ha, hc, (mm_neq ha hc (by simp)), Ne.symm (mm_neq ha hc (by simp))]
        by_cases j1 : j = c
        · rw [j1]; simp [va_up, rw_putW, c_1_0, c_1_1, e2, ha, hc, (mm_neq ha hc (by simp)), Ne.symm (mm_neq ha hc (by simp))]
        simp [va_up, j0, j1, rw_putW, c_1_0, c_1_1, e2]⟩
  by_cases c_1_2 : k = 2
  · refine mm_tableIn (tgt := 47) (off := 46) d_Rows_put_1 (by rw [c_1_2]; decide) (by rw [c_1_2]; decide) (by rw [c_1_2]; decide) (by decide) ?_
    refine mm_aload_n d_Rows_put_47 rfl ?_
    refine mm_iconst (v := 0) d_Rows_put_48 (by decide) ?_
    refine mm_putf d_Rows_put_49 cl_Rows ty_Rows fl_Rows_29_Rows (by decide) rfl rfl rfl ha (Nat.le_of_ble_eq_true rfl) ?_
    refine mm_hp (fun h3 e3 => ?_)
    have ha_v3 : h3 a = some (.inr (6, [.ref b, .ref c, .int rw_, .int wk, .int wr, .int sl, .int 0, .ref s])) := by rw [e3]; exact va_up_self _ _ _
    have hb_v3 : h3 b = some (.inl (0, 64, .inl Rw)) := by rw [e3, va_up_ne _ _ (mm_neq hb ha (by simp))]; exact hb
    have hc_v3 : h3 c = some (.inl (0, 8, .inl Wn)) := by rw [e3, va_up_ne _ _ (mm_neq hc ha (by simp))]; exact hc
    refine mm_goto (tgt := 79) d_Rows_put_52 (by decide) ?_
    exact mm_return d_Rows_put_79 rfl ⟨by simp [rw_putW, c_1_0, c_1_1, c_1_2, e3], rfl, by
        funext j
        by_cases j0 : j = a
        · rw [j0]; simp [va_up, rw_putW, c_1_0, c_1_1, c_1_2, e3, ha, hc, (mm_neq ha hc (by simp)), Ne.symm (mm_neq ha hc (by simp))]
        by_cases j1 : j = c
        · rw [j1]; simp [va_up, rw_putW, c_1_0, c_1_1, c_1_2, e3, ha, hc, (mm_neq ha hc (by simp)), Ne.symm (mm_neq ha hc (by simp))]
        simp [va_up, j0, j1, rw_putW, c_1_0, c_1_1, c_1_2, e3]⟩
  refine mm_tableOut (tgt := 55) d_Rows_put_1 (mm_tsw3 c_1_0 c_1_1 c_1_2) (by decide) ?_
  refine mm_aload_n d_Rows_put_55 rfl ?_
  refine mm_iload_n d_Rows_put_56 rfl ?_
  refine mm_callD d_Rows_put_57 (mm_Inv.vi (as := [.int k]) d_Rows_put_57 (Or.inl m_527) m_529 ce_Rows_inWindow.2.1 ce_Rows_inWindow.2.2.1 mp_12 ce_Rows_inWindow.2.2.2.2.2 ln_Rows_inWindow cl_Rows ha rfl) J_Rows_inWindow (by decide) ce_Rows_inWindow.1 ce_Rows_inWindow.2.1 ce_Rows_inWindow.2.2.1 ce_Rows_inWindow.2.2.2.1 (Nat.le_of_ble_eq_true rfl) ?_
  refine mm_if_eq (tgt := 79) d_Rows_put_60 (by decide) (fun c_60 => ?_) (fun c_60 => ?_)
  · exact mm_return d_Rows_put_79 rfl ⟨by simp [rw_putW, c_1_0, c_1_1, c_1_2, c_60], rfl, by
        funext j
        by_cases j0 : j = a
        · rw [j0]; simp [va_up, rw_putW, c_1_0, c_1_1, c_1_2, c_60, ha, hc, (mm_neq ha hc (by simp)), Ne.symm (mm_neq ha hc (by simp))]
        by_cases j1 : j = c
        · rw [j1]; simp [va_up, rw_putW, c_1_0, c_1_1, c_1_2, c_60, ha, hc, (mm_neq ha hc (by simp)), Ne.symm (mm_neq ha hc (by simp))]
        simp [va_up, j0, j1, rw_putW, c_1_0, c_1_1, c_1_2, c_60]⟩
  · refine mm_aload_n d_Rows_put_63 rfl ?_
    refine mm_getf d_Rows_put_64 cl_Rows fl_Rows_20_Rows (by decide) ha rfl ?_
    refine mm_if_ne (tgt := 79) d_Rows_put_67 (by decide) (fun c_67 => ?_) (fun c_67 => ?_)
    · exact mm_return d_Rows_put_79 rfl ⟨by simp [rw_putW, c_1_0, c_1_1, c_1_2, c_60, c_67], rfl, by
        funext j
        by_cases j0 : j = a
        · rw [j0]; simp [va_up, rw_putW, c_1_0, c_1_1, c_1_2, c_60, c_67, ha, hc, (mm_neq ha hc (by simp)), Ne.symm (mm_neq ha hc (by simp))]
        by_cases j1 : j = c
        · rw [j1]; simp [va_up, rw_putW, c_1_0, c_1_1, c_1_2, c_60, c_67, ha, hc, (mm_neq ha hc (by simp)), Ne.symm (mm_neq ha hc (by simp))]
        simp [va_up, j0, j1, rw_putW, c_1_0, c_1_1, c_1_2, c_60, c_67]⟩
    · refine mm_aload_n d_Rows_put_70 rfl ?_
      refine mm_getf d_Rows_put_71 cl_Rows fl_Rows_13_Rows (by decide) ha rfl ?_
      refine mm_iload_n d_Rows_put_74 rfl ?_
      refine mm_iconst (v := 3) d_Rows_put_75 (by decide) ?_
      refine mm_isub d_Rows_put_76 ?_
      refine mm_iload_n d_Rows_put_77 rfl ?_
      refine mm_iast d_Rows_put_78 hc (rw_win c_60) ?_
      refine mm_hp (fun h4 e4 => ?_)
      have ha_v4 : h4 a = some (.inr (6, [.ref b, .ref c, .int rw_, .int wk, .int wr, .int sl, .int dn, .ref s])) := by rw [e4, va_up_ne _ _ (mm_neq ha hc (by simp))]; exact ha
      have hb_v4 : h4 b = some (.inl (0, 64, .inl Rw)) := by rw [e4, va_up_ne _ _ hbc]; exact hb
      have hc_v4 : h4 c = some (.inl (0, 8, .inl (upd Wn (k - 3).toNatClampNeg v))) := by rw [e4]; exact va_up_self _ _ _
      exact mm_return d_Rows_put_79 rfl ⟨by simp [rw_putW, c_1_0, c_1_1, c_1_2, c_60, c_67, e4], rfl, by
        funext j
        by_cases j0 : j = a
        · rw [j0]; simp [va_up, rw_putW, c_1_0, c_1_1, c_1_2, c_60, c_67, e4, ha, hc, (mm_neq ha hc (by simp)), Ne.symm (mm_neq ha hc (by simp))]
        by_cases j1 : j = c
        · rw [j1]; simp [va_up, rw_putW, c_1_0, c_1_1, c_1_2, c_60, c_67, e4, ha, hc, (mm_neq ha hc (by simp)), Ne.symm (mm_neq ha hc (by simp))]
        simp [va_up, j0, j1, rw_putW, c_1_0, c_1_1, c_1_2, c_60, c_67, e4]⟩
set_option maxRecDepth 100000 in
theorem J_Rows_wantsAttention {sc : mm_Sc} {n : Nat} {h : mm_H} {a b c s : Nat} {Rw Wn : Nat → Int32} {rw_ wk wr sl dn : Int32} (hbc : b ≠ c) (ha : h a = some (.inr (6, [.ref b, .ref c, .int rw_, .int wk, .int wr, .int sl, .int dn, .ref s]))) (hb : h b = some (.inl (0, 64, .inl Rw))) (hc : h c = some (.inl (0, 8, .inl Wn))) : mm_J sc y_Rows_wantsAttention 1 [.ref a] n h 0 0 (fun o n' h' => o = .inl (some (.int (if dn = 1 then 1 else 0))) ∧ n' = n ∧ h' = h) := by
  refine mm_J.of (show mm_G sc y_Rows_wantsAttention 1 0 [some (.ref a)] [] n h 0 0 _ from ?_) ce_Rows_wantsAttention.2.2.2.2.1 (Nat.le_of_ble_eq_true rfl) (by simp [Value.category])
  refine mm_aload_n d_Rows_wantsAttention_0 rfl ?_
  refine mm_getf d_Rows_wantsAttention_1 cl_Rows fl_Rows_29_Rows (by decide) ha rfl ?_
  refine mm_iconst (v := 1) d_Rows_wantsAttention_4 (by decide) ?_
  refine mm_icmp_ne (tgt := 12) d_Rows_wantsAttention_5 (by decide) (fun c_5 => ?_) (fun c_5 => ?_)
  · refine mm_iconst (v := 0) d_Rows_wantsAttention_12 (by decide) ?_
    exact mm_zreturn d_Rows_wantsAttention_13 rfl rfl ⟨by simp [c_5], rfl, rfl⟩
  · refine mm_iconst (v := 1) d_Rows_wantsAttention_8 (by decide) ?_
    refine mm_goto (tgt := 13) d_Rows_wantsAttention_9 (by decide) ?_
    exact mm_zreturn d_Rows_wantsAttention_13 rfl rfl ⟨by simp [c_5], rfl, rfl⟩
set_option maxRecDepth 100000 in
theorem lp_Rows_read {sc : mm_Sc} {n d kc ks : Nat} {h : mm_H} {Q : mm_O → Nat → mm_H → Prop} {a b c s : Nat} {Rw Wn : Nat → Int32} {rw_ wk wr sl dn : Int32} (hbc : b ≠ c) {q : Nat} (hq8 : q < 8) (hw : wk = 1) (ha : h a = some (.inr (6, [.ref b, .ref c, .int rw_, .int wk, .int wr, .int sl, .int dn, .ref s]))) (hb : h b = some (.inl (0, 64, .inl Rw))) (hc : h c = some (.inl (0, 8, .inl Wn))) (hq : mm_G sc y_Rows_moveNumbers d 64 [some (.ref a), some (.int (nI (q * 8))), some (.int (nI 8))] [] n (va_up h c (some (.inl (0, 8, .inl (va_cpy Rw Wn (q * 8) 0 8))))) kc ks Q) : ∀ (m i : Nat), i + m = 8 → mm_G sc y_Rows_moveNumbers d 13 [some (.ref a), some (.int (nI (q * 8))), some (.int (nI i))] [] n (va_up h c (some (.inl (0, 8, .inl (va_cpy Rw Wn (q * 8) 0 i))))) kc ks Q := by
  intro m
  induction m with
  | zero =>
    intro i hi9
    obtain rfl : i = 8 := by omega
    refine mm_hp (fun g0 e0 => ?_)
    have ha_g : g0 a = some (.inr (6, [.ref b, .ref c, .int rw_, .int wk, .int wr, .int sl, .int dn, .ref s])) := by rw [e0, va_up_ne _ _ (mm_neq ha hc (by simp))]; exact ha
    have hb_g : g0 b = some (.inl (0, 64, .inl Rw)) := by rw [e0, va_up_ne _ _ hbc]; exact hb
    have hc_g : g0 c = some (.inl (0, 8, .inl (va_cpy Rw Wn (q * 8) 0 8))) := by rw [e0]; exact va_up_self _ _ _
    refine mm_iload_n d_Rows_moveNumbers_13 rfl ?_
    refine mm_bipush (v := 8) d_Rows_moveNumbers_14 (by decide) ?_
    refine mm_icmp_ge (tgt := 64) d_Rows_moveNumbers_16 (by decide) (fun c_16 => ?_) (fun c_16 => absurd (by decide) c_16)
    rw [e0]
    exact hq
  | succ m ih =>
    intro i hi9
    have e8 : nI (q * 8) + nI i = nI (q * 8 + i) := nI_add _ _
    refine mm_hp (fun g0 e0 => ?_)
    have ha_g : g0 a = some (.inr (6, [.ref b, .ref c, .int rw_, .int wk, .int wr, .int sl, .int dn, .ref s])) := by rw [e0, va_up_ne _ _ (mm_neq ha hc (by simp))]; exact ha
    have hb_g : g0 b = some (.inl (0, 64, .inl Rw)) := by rw [e0, va_up_ne _ _ hbc]; exact hb
    have hc_g : g0 c = some (.inl (0, 8, .inl (va_cpy Rw Wn (q * 8) 0 i))) := by rw [e0]; exact va_up_self _ _ _
    refine mm_iload_n d_Rows_moveNumbers_13 rfl ?_
    refine mm_bipush (v := 8) d_Rows_moveNumbers_14 (by decide) ?_
    refine mm_icmp_ge (tgt := 64) d_Rows_moveNumbers_16 (by decide) (fun c_16 => absurd c_16 (show ¬ nI 8 ≤ nI i from nI_ge (by omega) (by omega))) (fun c_16 => ?_)
    refine mm_aload_n d_Rows_moveNumbers_19 rfl ?_
    refine mm_getf d_Rows_moveNumbers_20 cl_Rows fl_Rows_20_Rows (by decide) ha_g rfl ?_
    refine mm_iconst (v := 1) d_Rows_moveNumbers_23 (by decide) ?_
    refine mm_icmp_ne (tgt := 44) d_Rows_moveNumbers_24 (by decide) (fun c_24 => absurd hw c_24) (fun c_24 => ?_)
    refine mm_aload_n d_Rows_moveNumbers_27 rfl ?_
    refine mm_getf d_Rows_moveNumbers_28 cl_Rows fl_Rows_13_Rows (by decide) ha_g rfl ?_
    refine mm_iload_n d_Rows_moveNumbers_31 rfl ?_
    refine mm_aload_n d_Rows_moveNumbers_32 rfl ?_
    refine mm_getf d_Rows_moveNumbers_33 cl_Rows fl_Rows_9_Rows (by decide) ha_g rfl ?_
    refine mm_iload_n d_Rows_moveNumbers_36 rfl ?_
    refine mm_iload_n d_Rows_moveNumbers_37 rfl ?_
    refine mm_iadd d_Rows_moveNumbers_38 ?_
    refine mm_iald d_Rows_moveNumbers_39 hb_g (by rw [e8]; exact vp_in_nI (by omega) (by omega)) ?_
    refine mm_iast d_Rows_moveNumbers_40 hc_g (vp_in_nI (by omega) (by omega)) ?_
    refine mm_hp (fun h1 e1 => ?_)
    have ha_g_v1 : h1 a = some (.inr (6, [.ref b, .ref c, .int rw_, .int wk, .int wr, .int sl, .int dn, .ref s])) := by rw [e1, va_up_ne _ _ (mm_neq ha_g hc_g (by simp))]; exact ha_g
    have hb_g_v1 : h1 b = some (.inl (0, 64, .inl Rw)) := by rw [e1, va_up_ne _ _ hbc]; exact hb_g
    have hc_g_v1 : h1 c = some (.inl (0, 8, .inl (upd (va_cpy Rw Wn (q * 8) 0 i) (nI i).toNatClampNeg (Rw ((nI (q * 8)) + (nI i)).toNatClampNeg)))) := by rw [e1]; exact va_up_self _ _ _
    refine mm_goto (tgt := 58) d_Rows_moveNumbers_41 (by decide) ?_
    refine mm_iinc (v := (nI i) + 1) d_Rows_moveNumbers_58 rfl rfl (by decide) ?_
    refine mm_goto (tgt := 13) d_Rows_moveNumbers_61 (by decide) ?_
    have h9 : upd (va_cpy Rw Wn (q * 8) 0 i) (nI i).toNatClampNeg (Rw (nI (q * 8) + nI i).toNatClampNeg) = va_cpy Rw Wn (q * 8) 0 (i + 1) := by rw [nI_clamp (by omega), e8, nI_clamp (by omega), ← cpy_s, Nat.zero_add]
    exact mm_G.cast (by rw [nI_1]; rfl) rfl (by rw [e1, e0, bx_uu, h9]) (ih (i + 1) (by omega))
set_option maxRecDepth 100000 in
theorem lp_Rows_write {sc : mm_Sc} {n d kc ks : Nat} {h : mm_H} {Q : mm_O → Nat → mm_H → Prop} {a b c s : Nat} {Rw Wn : Nat → Int32} {rw_ wk wr sl dn : Int32} (hbc : b ≠ c) {q : Nat} (hq8 : q < 8) (hw : ¬ wk = 1) (ha : h a = some (.inr (6, [.ref b, .ref c, .int rw_, .int wk, .int wr, .int sl, .int dn, .ref s]))) (hb : h b = some (.inl (0, 64, .inl Rw))) (hc : h c = some (.inl (0, 8, .inl Wn))) (hq : mm_G sc y_Rows_moveNumbers d 64 [some (.ref a), some (.int (nI (q * 8))), some (.int (nI 8))] [] n (va_up h b (some (.inl (0, 64, .inl (va_cpy Wn Rw 0 (q * 8) 8))))) kc ks Q) : ∀ (m i : Nat), i + m = 8 → mm_G sc y_Rows_moveNumbers d 13 [some (.ref a), some (.int (nI (q * 8))), some (.int (nI i))] [] n (va_up h b (some (.inl (0, 64, .inl (va_cpy Wn Rw 0 (q * 8) i))))) kc ks Q := by
  intro m
  induction m with
  | zero =>
    intro i hi9
    obtain rfl : i = 8 := by omega
    refine mm_hp (fun g0 e0 => ?_)
    have ha_g : g0 a = some (.inr (6, [.ref b, .ref c, .int rw_, .int wk, .int wr, .int sl, .int dn, .ref s])) := by rw [e0, va_up_ne _ _ (mm_neq ha hb (by simp))]; exact ha
    have hb_g : g0 b = some (.inl (0, 64, .inl (va_cpy Wn Rw 0 (q * 8) 8))) := by rw [e0]; exact va_up_self _ _ _
    have hc_g : g0 c = some (.inl (0, 8, .inl Wn)) := by rw [e0, va_up_ne _ _ (Ne.symm hbc)]; exact hc
    refine mm_iload_n d_Rows_moveNumbers_13 rfl ?_
    refine mm_bipush (v := 8) d_Rows_moveNumbers_14 (by decide) ?_
    refine mm_icmp_ge (tgt := 64) d_Rows_moveNumbers_16 (by decide) (fun c_16 => ?_) (fun c_16 => absurd (by decide) c_16)
    rw [e0]
    exact hq
  | succ m ih =>
    intro i hi9
    have e8 : nI (q * 8) + nI i = nI (q * 8 + i) := nI_add _ _
    refine mm_hp (fun g0 e0 => ?_)
    have ha_g : g0 a = some (.inr (6, [.ref b, .ref c, .int rw_, .int wk, .int wr, .int sl, .int dn, .ref s])) := by rw [e0, va_up_ne _ _ (mm_neq ha hb (by simp))]; exact ha
    have hb_g : g0 b = some (.inl (0, 64, .inl (va_cpy Wn Rw 0 (q * 8) i))) := by rw [e0]; exact va_up_self _ _ _
    have hc_g : g0 c = some (.inl (0, 8, .inl Wn)) := by rw [e0, va_up_ne _ _ (Ne.symm hbc)]; exact hc
    refine mm_iload_n d_Rows_moveNumbers_13 rfl ?_
    refine mm_bipush (v := 8) d_Rows_moveNumbers_14 (by decide) ?_
    refine mm_icmp_ge (tgt := 64) d_Rows_moveNumbers_16 (by decide) (fun c_16 => absurd c_16 (show ¬ nI 8 ≤ nI i from nI_ge (by omega) (by omega))) (fun c_16 => ?_)
    refine mm_aload_n d_Rows_moveNumbers_19 rfl ?_
    refine mm_getf d_Rows_moveNumbers_20 cl_Rows fl_Rows_20_Rows (by decide) ha_g rfl ?_
    refine mm_iconst (v := 1) d_Rows_moveNumbers_23 (by decide) ?_
    refine mm_icmp_ne (tgt := 44) d_Rows_moveNumbers_24 (by decide) (fun c_24 => ?_) (fun c_24 => absurd c_24 hw)
    refine mm_aload_n d_Rows_moveNumbers_44 rfl ?_
    refine mm_getf d_Rows_moveNumbers_45 cl_Rows fl_Rows_9_Rows (by decide) ha_g rfl ?_
    refine mm_iload_n d_Rows_moveNumbers_48 rfl ?_
    refine mm_iload_n d_Rows_moveNumbers_49 rfl ?_
    refine mm_iadd d_Rows_moveNumbers_50 ?_
    refine mm_aload_n d_Rows_moveNumbers_51 rfl ?_
    refine mm_getf d_Rows_moveNumbers_52 cl_Rows fl_Rows_13_Rows (by decide) ha_g rfl ?_
    refine mm_iload_n d_Rows_moveNumbers_55 rfl ?_
    refine mm_iald d_Rows_moveNumbers_56 hc_g (vp_in_nI (by omega) (by omega)) ?_
    refine mm_iast d_Rows_moveNumbers_57 hb_g (by rw [e8]; exact vp_in_nI (by omega) (by omega)) ?_
    refine mm_hp (fun h1 e1 => ?_)
    have ha_g_v1 : h1 a = some (.inr (6, [.ref b, .ref c, .int rw_, .int wk, .int wr, .int sl, .int dn, .ref s])) := by rw [e1, va_up_ne _ _ (mm_neq ha_g hb_g (by simp))]; exact ha_g
    have hb_g_v1 : h1 b = some (.inl (0, 64, .inl (upd (va_cpy Wn Rw 0 (q * 8) i) ((nI (q * 8)) + (nI i)).toNatClampNeg (Wn (nI i).toNatClampNeg)))) := by rw [e1]; exact va_up_self _ _ _
    have hc_g_v1 : h1 c = some (.inl (0, 8, .inl Wn)) := by rw [e1, va_up_ne _ _ (Ne.symm hbc)]; exact hc_g
    refine mm_iinc (v := (nI i) + 1) d_Rows_moveNumbers_58 rfl rfl (by decide) ?_
    refine mm_goto (tgt := 13) d_Rows_moveNumbers_61 (by decide) ?_
    have h9 : upd (va_cpy Wn Rw 0 (q * 8) i) (nI (q * 8) + nI i).toNatClampNeg (Wn (nI i).toNatClampNeg) = va_cpy Wn Rw 0 (q * 8) (i + 1) := by rw [e8, nI_clamp (by omega), nI_clamp (by omega), ← cpy_s, Nat.zero_add]
    exact mm_G.cast (by rw [nI_1]; rfl) rfl (by rw [e1, e0, bx_uu, h9]) (ih (i + 1) (by omega))
def rw_q (wr : Int32) : Nat := (wr &&& 7).toNatClampNeg
theorem rw_q_lt (wr : Int32) : rw_q wr < 8 ∧ wr &&& 7 = nI (rw_q wr) := by
  obtain ⟨j, hj, e⟩ := pk_andE wr (m := 7) 3 (by decide)
  have hj : j < 8 := hj
  unfold rw_q
  rw [e, nI_clamp (by omega)]
  exact ⟨hj, rfl⟩
set_option maxRecDepth 100000 in
theorem J_Rows_moveNumbers {sc : mm_Sc} {n : Nat} {h : mm_H} {a b c s : Nat} {Rw Wn : Nat → Int32} {rw_ wk wr sl dn : Int32} (hbc : b ≠ c) (ha : h a = some (.inr (6, [.ref b, .ref c, .int rw_, .int wk, .int wr, .int sl, .int dn, .ref s]))) (hb : h b = some (.inl (0, 64, .inl Rw))) (hc : h c = some (.inl (0, 8, .inl Wn))) : mm_J sc y_Rows_moveNumbers 1 [.ref a] n h 0 0 (fun o n' h' => o = .inl (none) ∧ n' = n ∧ h' = va_up (va_up h b (some (.inl (0, 64, .inl (if wk = 1 then Rw else va_cpy Wn Rw 0 (rw_q wr * 8) 8))))) c (some (.inl (0, 8, .inl (if wk = 1 then va_cpy Rw Wn (rw_q wr * 8) 0 8 else Wn))))) := by
  refine mm_J.of (show mm_G sc y_Rows_moveNumbers 1 0 [some (.ref a), none, none] [] n h 0 0 _ from ?_) ce_Rows_moveNumbers.2.2.2.2.1 (Nat.le_of_ble_eq_true rfl) (by simp [Value.category])
  refine mm_aload_n d_Rows_moveNumbers_0 rfl ?_
  refine mm_getf d_Rows_moveNumbers_1 cl_Rows fl_Rows_23_Rows (by decide) ha rfl ?_
  refine mm_bipush (v := 7) d_Rows_moveNumbers_4 (by decide) ?_
  refine mm_iand d_Rows_moveNumbers_6 ?_
  refine mm_bipush (v := 8) d_Rows_moveNumbers_7 (by decide) ?_
  refine mm_imul d_Rows_moveNumbers_9 ?_
  refine mm_istore_n d_Rows_moveNumbers_10 (by decide) ?_
  refine mm_iconst (v := 0) d_Rows_moveNumbers_11 (by decide) ?_
  refine mm_istore_n d_Rows_moveNumbers_12 (by decide) ?_
  have e9 : (wr &&& 7) * 8 = nI (rw_q wr * 8) := by rw [(rw_q_lt wr).2]; exact pk_mul _ 8
  by_cases hw : wk = 1
  · refine mm_G.cast (by rw [e9]; rfl) rfl (by rw [cpy_0, mm_up_id hc]) (lp_Rows_read hbc (rw_q_lt wr).1 hw ha hb hc (mm_return d_Rows_moveNumbers_64 rfl ⟨rfl, rfl, ?_⟩) 8 0 (by omega))
    rw [if_pos hw, if_pos hw, mm_up_id hb]
  · refine mm_G.cast (by rw [e9]; rfl) rfl (by rw [cpy_0, mm_up_id hb]) (lp_Rows_write hbc (rw_q_lt wr).1 hw ha hb hc (mm_return d_Rows_moveNumbers_64 rfl ⟨rfl, rfl, ?_⟩) 8 0 (by omega))
    rw [if_neg hw, if_neg hw]
    exact (mm_up_id (by rw [va_up_ne _ _ (Ne.symm hbc)]; exact hc)).symm
def rw_end (wk sl : Int32) : Bool := decide (¬ wk = 0) && decide (sl - 1 = 0)
set_option maxRecDepth 100000 in
theorem J_Rows_goOn {sc : mm_Sc} {n : Nat} {h : mm_H} {a b c s : Nat} {Rw Wn : Nat → Int32} {rw_ wk wr sl dn : Int32} (hbc : b ≠ c) (ha : h a = some (.inr (6, [.ref b, .ref c, .int rw_, .int wk, .int wr, .int sl, .int dn, .ref s]))) (hb : h b = some (.inl (0, 64, .inl Rw))) (hc : h c = some (.inl (0, 8, .inl Wn))) : mm_J sc y_Rows_goOn 2 [.ref a] n h 0 0 (fun o n' h' => o = .inl (some (.int 0)) ∧ n' = n ∧ h' = va_up (va_up (va_up h b (some (.inl (0, 64, .inl (if rw_end wk sl then (if wk = 1 then Rw else va_cpy Wn Rw 0 (rw_q wr * 8) 8) else Rw))))) c (some (.inl (0, 8, .inl (if rw_end wk sl then (if wk = 1 then va_cpy Rw Wn (rw_q wr * 8) 0 8 else Wn) else Wn))))) a (some (.inr (6, [.ref b, .ref c, .int rw_, .int (if rw_end wk sl then 0 else wk), .int wr, .int (if wk = 0 then sl else sl - 1), .int (if rw_end wk sl then 1 else dn), .ref s])))) := by
  refine mm_J.of (show mm_G sc y_Rows_goOn 2 0 [some (.ref a)] [] n h 0 0 _ from ?_) ce_Rows_goOn.2.2.2.2.1 (Nat.le_of_ble_eq_true rfl) (by simp [Value.category])
  refine mm_aload_n d_Rows_goOn_0 rfl ?_
  refine mm_getf d_Rows_goOn_1 cl_Rows fl_Rows_20_Rows (by decide) ha rfl ?_
  refine mm_if_eq (tgt := 38) d_Rows_goOn_4 (by decide) (fun c_4 => ?_) (fun c_4 => ?_)
  · refine mm_iconst (v := 0) d_Rows_goOn_38 (by decide) ?_
    exact mm_zreturn d_Rows_goOn_39 rfl rfl ⟨by simp [rw_end, c_4], rfl, by
        funext j
        by_cases j0 : j = a
        · rw [j0]; simp [va_up, rw_end, c_4, ha, hb, hc, (mm_neq ha hb (by simp)), (mm_neq ha hc (by simp)), hbc, Ne.symm (mm_neq ha hb (by simp)), Ne.symm (mm_neq ha hc (by simp)), Ne.symm hbc]
        by_cases j1 : j = b
        · rw [j1]; simp [va_up, rw_end, c_4, ha, hb, hc, (mm_neq ha hb (by simp)), (mm_neq ha hc (by simp)), hbc, Ne.symm (mm_neq ha hb (by simp)), Ne.symm (mm_neq ha hc (by simp)), Ne.symm hbc]
        by_cases j2 : j = c
        · rw [j2]; simp [va_up, rw_end, c_4, ha, hb, hc, (mm_neq ha hb (by simp)), (mm_neq ha hc (by simp)), hbc, Ne.symm (mm_neq ha hb (by simp)), Ne.symm (mm_neq ha hc (by simp)), Ne.symm hbc]
        simp [va_up, j0, j1, j2, rw_end, c_4]⟩
  · refine mm_aload_n d_Rows_goOn_7 rfl ?_
    refine mm_dup d_Rows_goOn_8 rfl ?_
    refine mm_getf d_Rows_goOn_9 cl_Rows fl_Rows_26_Rows (by decide) ha rfl ?_
    refine mm_iconst (v := 1) d_Rows_goOn_12 (by decide) ?_
    refine mm_isub d_Rows_goOn_13 ?_
    refine mm_putf d_Rows_goOn_14 cl_Rows ty_Rows fl_Rows_26_Rows (by decide) rfl rfl rfl ha (Nat.le_of_ble_eq_true rfl) ?_
    refine mm_hp (fun h1 e1 => ?_)
    have ha_v1 : h1 a = some (.inr (6, [.ref b, .ref c, .int rw_, .int wk, .int wr, .int (sl - 1), .int dn, .ref s])) := by rw [e1]; exact va_up_self _ _ _
    have hb_v1 : h1 b = some (.inl (0, 64, .inl Rw)) := by rw [e1, va_up_ne _ _ (mm_neq hb ha (by simp))]; exact hb
    have hc_v1 : h1 c = some (.inl (0, 8, .inl Wn)) := by rw [e1, va_up_ne _ _ (mm_neq hc ha (by simp))]; exact hc
    refine mm_aload_n d_Rows_goOn_17 rfl ?_
    refine mm_getf d_Rows_goOn_18 cl_Rows fl_Rows_26_Rows (by decide) ha_v1 rfl ?_
    refine mm_if_ne (tgt := 38) d_Rows_goOn_21 (by decide) (fun c_21 => ?_) (fun c_21 => ?_)
    · refine mm_iconst (v := 0) d_Rows_goOn_38 (by decide) ?_
      exact mm_zreturn d_Rows_goOn_39 rfl rfl ⟨by simp [rw_end, c_4, c_21, e1], rfl, by
        funext j
        by_cases j0 : j = a
        · rw [j0]; simp [va_up, rw_end, c_4, c_21, e1, ha, hb, hc, (mm_neq ha hb (by simp)), (mm_neq ha hc (by simp)), hbc, Ne.symm (mm_neq ha hb (by simp)), Ne.symm (mm_neq ha hc (by simp)), Ne.symm hbc]
        by_cases j1 : j = b
        · rw [j1]; simp [va_up, rw_end, c_4, c_21, e1, ha, hb, hc, (mm_neq ha hb (by simp)), (mm_neq ha hc (by simp)), hbc, Ne.symm (mm_neq ha hb (by simp)), Ne.symm (mm_neq ha hc (by simp)), Ne.symm hbc]
        by_cases j2 : j = c
        · rw [j2]; simp [va_up, rw_end, c_4, c_21, e1, ha, hb, hc, (mm_neq ha hb (by simp)), (mm_neq ha hc (by simp)), hbc, Ne.symm (mm_neq ha hb (by simp)), Ne.symm (mm_neq ha hc (by simp)), Ne.symm hbc]
        simp [va_up, j0, j1, j2, rw_end, c_4, c_21, e1]⟩
    · refine mm_aload_n d_Rows_goOn_24 rfl ?_
      refine mm_callD d_Rows_goOn_25 (mm_Inv.vi (as := []) d_Rows_goOn_25 (Or.inl m_483) m_485 ce_Rows_moveNumbers.2.1 ce_Rows_moveNumbers.2.2.1 mp_10 ce_Rows_moveNumbers.2.2.2.2.2 ln_Rows_moveNumbers cl_Rows ha_v1 rfl) (J_Rows_moveNumbers hbc ha_v1 hb_v1 hc_v1) (by decide) ce_Rows_moveNumbers.1 ce_Rows_moveNumbers.2.1 ce_Rows_moveNumbers.2.2.1 ce_Rows_moveNumbers.2.2.2.1 (Nat.le_of_ble_eq_true rfl) ?_
      refine mm_hp (fun h2 e2 => ?_)
      have ha_v2 : h2 a = some (.inr (6, [.ref b, .ref c, .int rw_, .int wk, .int wr, .int (sl - 1), .int dn, .ref s])) := by rw [e2, va_up_ne _ _ (mm_neq ha_v1 hc_v1 (by simp)), va_up_ne _ _ (mm_neq ha_v1 hb_v1 (by simp))]; exact ha_v1
      have hb_v2 : h2 b = some (.inl (0, 64, .inl (if wk = 1 then Rw else va_cpy Wn Rw 0 (rw_q wr * 8) 8))) := by rw [e2, va_up_ne _ _ hbc]; exact va_up_self _ _ _
      have hc_v2 : h2 c = some (.inl (0, 8, .inl (if wk = 1 then va_cpy Rw Wn (rw_q wr * 8) 0 8 else Wn))) := by rw [e2]; exact va_up_self _ _ _
      refine mm_aload_n d_Rows_goOn_28 rfl ?_
      refine mm_iconst (v := 0) d_Rows_goOn_29 (by decide) ?_
      refine mm_putf d_Rows_goOn_30 cl_Rows ty_Rows fl_Rows_20_Rows (by decide) rfl rfl rfl ha_v2 (Nat.le_of_ble_eq_true rfl) ?_
      refine mm_hp (fun h3 e3 => ?_)
      have ha_v3 : h3 a = some (.inr (6, [.ref b, .ref c, .int rw_, .int 0, .int wr, .int (sl - 1), .int dn, .ref s])) := by rw [e3]; exact va_up_self _ _ _
      have hb_v3 : h3 b = some (.inl (0, 64, .inl (if wk = 1 then Rw else va_cpy Wn Rw 0 (rw_q wr * 8) 8))) := by rw [e3, va_up_ne _ _ (mm_neq hb_v2 ha_v2 (by simp))]; exact hb_v2
      have hc_v3 : h3 c = some (.inl (0, 8, .inl (if wk = 1 then va_cpy Rw Wn (rw_q wr * 8) 0 8 else Wn))) := by rw [e3, va_up_ne _ _ (mm_neq hc_v2 ha_v2 (by simp))]; exact hc_v2
      refine mm_aload_n d_Rows_goOn_33 rfl ?_
      refine mm_iconst (v := 1) d_Rows_goOn_34 (by decide) ?_
      refine mm_putf d_Rows_goOn_35 cl_Rows ty_Rows fl_Rows_29_Rows (by decide) rfl rfl rfl ha_v3 (Nat.le_of_ble_eq_true rfl) ?_
      refine mm_hp (fun h4 e4 => ?_)
      have ha_v4 : h4 a = some (.inr (6, [.ref b, .ref c, .int rw_, .int 0, .int wr, .int (sl - 1), .int 1, .ref s])) := by rw [e4]; exact va_up_self _ _ _
      have hb_v4 : h4 b = some (.inl (0, 64, .inl (if wk = 1 then Rw else va_cpy Wn Rw 0 (rw_q wr * 8) 8))) := by rw [e4, va_up_ne _ _ (mm_neq hb_v3 ha_v3 (by simp))]; exact hb_v3
      have hc_v4 : h4 c = some (.inl (0, 8, .inl (if wk = 1 then va_cpy Rw Wn (rw_q wr * 8) 0 8 else Wn))) := by rw [e4, va_up_ne _ _ (mm_neq hc_v3 ha_v3 (by simp))]; exact hc_v3
      refine mm_iconst (v := 0) d_Rows_goOn_38 (by decide) ?_
      exact mm_zreturn d_Rows_goOn_39 rfl rfl ⟨by simp [rw_end, c_4, c_21, e4, e3, e2, e1], rfl, by
        funext j
        by_cases j0 : j = a
        · rw [j0]; simp [va_up, rw_end, c_4, c_21, e4, e3, e2, e1, ha, hb, hc, (mm_neq ha hb (by simp)), (mm_neq ha hc (by simp)), hbc, Ne.symm (mm_neq ha hb (by simp)), Ne.symm (mm_neq ha hc (by simp)), Ne.symm hbc]
        by_cases j1 : j = b
        · rw [j1]; simp [va_up, rw_end, c_4, c_21, e4, e3, e2, e1, ha, hb, hc, (mm_neq ha hb (by simp)), (mm_neq ha hc (by simp)), hbc, Ne.symm (mm_neq ha hb (by simp)), Ne.symm (mm_neq ha hc (by simp)), Ne.symm hbc]
        by_cases j2 : j = c
        · rw [j2]; simp [va_up, rw_end, c_4, c_21, e4, e3, e2, e1, ha, hb, hc, (mm_neq ha hb (by simp)), (mm_neq ha hc (by simp)), hbc, Ne.symm (mm_neq ha hb (by simp)), Ne.symm (mm_neq ha hc (by simp)), Ne.symm hbc]
        simp [va_up, j0, j1, j2, rw_end, c_4, c_21, e4, e3, e2, e1]⟩
