set_option maxRecDepth 100000 in
theorem lp_Rows_beginAnew {sc : mm_Sc} {n d kc ks : Nat} {h : mm_H} {Q : mm_O → Nat → mm_H → Prop} {a b c s : Nat} {Rw Wn : Nat → Int32} {rw_ wk wr sl dn : Int32} (hbc : b ≠ c) (ha : h a = some (.inr (6, [.ref b, .ref c, .int rw_, .int wk, .int wr, .int sl, .int dn, .ref s]))) (hb : h b = some (.inl (0, 64, .inl Rw))) (hc : h c = some (.inl (0, 8, .inl Wn))) (hq : mm_G sc y_Rows_beginAnew d 24 [some (.ref a), some (.int (nI 8))] [] n (va_up h c (some (.inl (0, 8, .inl (za Wn 8))))) kc ks Q) : ∀ (m i : Nat), i + m = 8 → mm_G sc y_Rows_beginAnew d 2 [some (.ref a), some (.int (nI i))] [] n (va_up h c (some (.inl (0, 8, .inl (za Wn i))))) kc ks Q := by
  intro m
  induction m with
  | zero =>
    intro i hi9
    obtain rfl : i = 8 := by omega
    refine mm_hp (fun g0 e0 => ?_)
    have ha_g : g0 a = some (.inr (6, [.ref b, .ref c, .int rw_, .int wk, .int wr, .int sl, .int dn, .ref s])) := by rw [e0, va_up_ne _ _ (mm_neq ha hc (by simp))]; exact ha
    have hb_g : g0 b = some (.inl (0, 64, .inl Rw)) := by rw [e0, va_up_ne _ _ hbc]; exact hb
    have hc_g : g0 c = some (.inl (0, 8, .inl (za Wn 8))) := by rw [e0]; exact va_up_self _ _ _
    refine mm_iload_n d_Rows_beginAnew_2 rfl ?_
    refine mm_aload_n d_Rows_beginAnew_3 rfl ?_
    refine mm_getf d_Rows_beginAnew_4 cl_Rows fl_Rows_13_Rows (by decide) ha_g rfl ?_
    refine mm_alen d_Rows_beginAnew_7 hc_g (by decide) ?_
    refine mm_icmp_ge (tgt := 24) d_Rows_beginAnew_8 (by decide) (fun c_8 => ?_) (fun c_8 => absurd (nI_le (Nat.le_refl _) (by omega)) c_8)
    rw [e0]
    exact hq
  | succ m ih =>
    intro i hi9
    refine mm_hp (fun g0 e0 => ?_)
    have ha_g : g0 a = some (.inr (6, [.ref b, .ref c, .int rw_, .int wk, .int wr, .int sl, .int dn, .ref s])) := by rw [e0, va_up_ne _ _ (mm_neq ha hc (by simp))]; exact ha
    have hb_g : g0 b = some (.inl (0, 64, .inl Rw)) := by rw [e0, va_up_ne _ _ hbc]; exact hb
    have hc_g : g0 c = some (.inl (0, 8, .inl (za Wn i))) := by rw [e0]; exact va_up_self _ _ _
    refine mm_iload_n d_Rows_beginAnew_2 rfl ?_
    refine mm_aload_n d_Rows_beginAnew_3 rfl ?_
    refine mm_getf d_Rows_beginAnew_4 cl_Rows fl_Rows_13_Rows (by decide) ha_g rfl ?_
    refine mm_alen d_Rows_beginAnew_7 hc_g (by decide) ?_
    refine mm_icmp_ge (tgt := 24) d_Rows_beginAnew_8 (by decide) (fun c_8 => absurd c_8 (nI_ge (by omega) (by omega))) (fun c_8 => ?_)
    refine mm_aload_n d_Rows_beginAnew_11 rfl ?_
    refine mm_getf d_Rows_beginAnew_12 cl_Rows fl_Rows_13_Rows (by decide) ha_g rfl ?_
    refine mm_iload_n d_Rows_beginAnew_15 rfl ?_
    refine mm_iconst (v := 0) d_Rows_beginAnew_16 (by decide) ?_
    refine mm_iast d_Rows_beginAnew_17 hc_g (vp_in_nI (by omega) (by omega)) ?_
    refine mm_hp (fun h1 e1 => ?_)
    have ha_g_v1 : h1 a = some (.inr (6, [.ref b, .ref c, .int rw_, .int wk, .int wr, .int sl, .int dn, .ref s])) := by rw [e1, va_up_ne _ _ (mm_neq ha_g hc_g (by simp))]; exact ha_g
    have hb_g_v1 : h1 b = some (.inl (0, 64, .inl Rw)) := by rw [e1, va_up_ne _ _ hbc]; exact hb_g
    have hc_g_v1 : h1 c = some (.inl (0, 8, .inl (upd (za Wn i) (nI i).toNatClampNeg 0))) := by rw [e1]; exact va_up_self _ _ _
    refine mm_iinc (v := (nI i) + 1) d_Rows_beginAnew_18 rfl rfl (by decide) ?_
    refine mm_goto (tgt := 2) d_Rows_beginAnew_21 (by decide) ?_
    exact mm_G.cast (by rw [nI_1]; rfl) rfl (by rw [e1, e0, bx_uu, nI_clamp (by omega), za_s]) (ih (i + 1) (by omega))
set_option maxRecDepth 100000 in
theorem J_Rows_beginAnew {sc : mm_Sc} {n : Nat} {h : mm_H} {a b c s : Nat} {Rw Wn : Nat → Int32} {rw_ wk wr sl dn : Int32} (hbc : b ≠ c) (ha : h a = some (.inr (6, [.ref b, .ref c, .int rw_, .int wk, .int wr, .int sl, .int dn, .ref s]))) (hb : h b = some (.inl (0, 64, .inl Rw))) (hc : h c = some (.inl (0, 8, .inl Wn))) : mm_J sc y_Rows_beginAnew 1 [.ref a] n h 0 0 (fun o n' h' => o = .inl (none) ∧ n' = n ∧ h' = va_up (va_up h c (some (.inl (0, 8, .inl (za Wn 8))))) a (some (.inr (6, [.ref b, .ref c, .int 0, .int 0, .int 0, .int 0, .int 0, .ref s])))) := by
  refine mm_J.of (show mm_G sc y_Rows_beginAnew 1 0 [some (.ref a), none] [] n h 0 0 _ from ?_) ce_Rows_beginAnew.2.2.2.2.1 (Nat.le_of_ble_eq_true rfl) (by simp [Value.category])
  refine mm_iconst (v := 0) d_Rows_beginAnew_0 (by decide) ?_
  refine mm_istore_n d_Rows_beginAnew_1 (by decide) ?_
  refine mm_G.cast rfl rfl (by rw [za_0, mm_up_id hc]) (lp_Rows_beginAnew hbc ha hb hc ?_ 8 0 (by omega))
  refine mm_hp (fun h1 e1 => ?_)
  have ha_v1 : h1 a = some (.inr (6, [.ref b, .ref c, .int rw_, .int wk, .int wr, .int sl, .int dn, .ref s])) := by rw [e1, va_up_ne _ _ (mm_neq ha hc (by simp))]; exact ha
  have hb_v1 : h1 b = some (.inl (0, 64, .inl Rw)) := by rw [e1, va_up_ne _ _ hbc]; exact hb
  have hc_v1 : h1 c = some (.inl (0, 8, .inl (za Wn 8))) := by rw [e1]; exact va_up_self _ _ _
  refine mm_aload_n d_Rows_beginAnew_24 rfl ?_
  refine mm_iconst (v := 0) d_Rows_beginAnew_25 (by decide) ?_
  refine mm_putf d_Rows_beginAnew_26 cl_Rows ty_Rows fl_Rows_16_Rows (by decide) rfl rfl rfl ha_v1 (Nat.le_of_ble_eq_true rfl) ?_
  refine mm_hp (fun h2 e2 => ?_)
  have ha_v2 : h2 a = some (.inr (6, [.ref b, .ref c, .int 0, .int wk, .int wr, .int sl, .int dn, .ref s])) := by rw [e2]; exact va_up_self _ _ _
  have hb_v2 : h2 b = some (.inl (0, 64, .inl Rw)) := by rw [e2, va_up_ne _ _ (mm_neq hb_v1 ha_v1 (by simp))]; exact hb_v1
  have hc_v2 : h2 c = some (.inl (0, 8, .inl (za Wn 8))) := by rw [e2, va_up_ne _ _ (mm_neq hc_v1 ha_v1 (by simp))]; exact hc_v1
  refine mm_aload_n d_Rows_beginAnew_29 rfl ?_
  refine mm_iconst (v := 0) d_Rows_beginAnew_30 (by decide) ?_
  refine mm_putf d_Rows_beginAnew_31 cl_Rows ty_Rows fl_Rows_20_Rows (by decide) rfl rfl rfl ha_v2 (Nat.le_of_ble_eq_true rfl) ?_
  refine mm_hp (fun h3 e3 => ?_)
  have ha_v3 : h3 a = some (.inr (6, [.ref b, .ref c, .int 0, .int 0, .int wr, .int sl, .int dn, .ref s])) := by rw [e3]; exact va_up_self _ _ _
  have hb_v3 : h3 b = some (.inl (0, 64, .inl Rw)) := by rw [e3, va_up_ne _ _ (mm_neq hb_v2 ha_v2 (by simp))]; exact hb_v2
  have hc_v3 : h3 c = some (.inl (0, 8, .inl (za Wn 8))) := by rw [e3, va_up_ne _ _ (mm_neq hc_v2 ha_v2 (by simp))]; exact hc_v2
  refine mm_aload_n d_Rows_beginAnew_34 rfl ?_
  refine mm_iconst (v := 0) d_Rows_beginAnew_35 (by decide) ?_
  refine mm_putf d_Rows_beginAnew_36 cl_Rows ty_Rows fl_Rows_23_Rows (by decide) rfl rfl rfl ha_v3 (Nat.le_of_ble_eq_true rfl) ?_
  refine mm_hp (fun h4 e4 => ?_)
  have ha_v4 : h4 a = some (.inr (6, [.ref b, .ref c, .int 0, .int 0, .int 0, .int sl, .int dn, .ref s])) := by rw [e4]; exact va_up_self _ _ _
  have hb_v4 : h4 b = some (.inl (0, 64, .inl Rw)) := by rw [e4, va_up_ne _ _ (mm_neq hb_v3 ha_v3 (by simp))]; exact hb_v3
  have hc_v4 : h4 c = some (.inl (0, 8, .inl (za Wn 8))) := by rw [e4, va_up_ne _ _ (mm_neq hc_v3 ha_v3 (by simp))]; exact hc_v3
  refine mm_aload_n d_Rows_beginAnew_39 rfl ?_
  refine mm_iconst (v := 0) d_Rows_beginAnew_40 (by decide) ?_
  refine mm_putf d_Rows_beginAnew_41 cl_Rows ty_Rows fl_Rows_26_Rows (by decide) rfl rfl rfl ha_v4 (Nat.le_of_ble_eq_true rfl) ?_
  refine mm_hp (fun h5 e5 => ?_)
  have ha_v5 : h5 a = some (.inr (6, [.ref b, .ref c, .int 0, .int 0, .int 0, .int 0, .int dn, .ref s])) := by rw [e5]; exact va_up_self _ _ _
  have hb_v5 : h5 b = some (.inl (0, 64, .inl Rw)) := by rw [e5, va_up_ne _ _ (mm_neq hb_v4 ha_v4 (by simp))]; exact hb_v4
  have hc_v5 : h5 c = some (.inl (0, 8, .inl (za Wn 8))) := by rw [e5, va_up_ne _ _ (mm_neq hc_v4 ha_v4 (by simp))]; exact hc_v4
  refine mm_aload_n d_Rows_beginAnew_44 rfl ?_
  refine mm_iconst (v := 0) d_Rows_beginAnew_45 (by decide) ?_
  refine mm_putf d_Rows_beginAnew_46 cl_Rows ty_Rows fl_Rows_29_Rows (by decide) rfl rfl rfl ha_v5 (Nat.le_of_ble_eq_true rfl) ?_
  refine mm_hp (fun h6 e6 => ?_)
  have ha_v6 : h6 a = some (.inr (6, [.ref b, .ref c, .int 0, .int 0, .int 0, .int 0, .int 0, .ref s])) := by rw [e6]; exact va_up_self _ _ _
  have hb_v6 : h6 b = some (.inl (0, 64, .inl Rw)) := by rw [e6, va_up_ne _ _ (mm_neq hb_v5 ha_v5 (by simp))]; exact hb_v5
  have hc_v6 : h6 c = some (.inl (0, 8, .inl (za Wn 8))) := by rw [e6, va_up_ne _ _ (mm_neq hc_v5 ha_v5 (by simp))]; exact hc_v5
  exact mm_return d_Rows_beginAnew_49 rfl (by first | (refine ⟨?_, rfl, ?_⟩ <;> simp [bx_uu, e6, e5, e4, e3, e2, e1] <;> done) | (exfalso; simp_all; done))
def ln_max (k : Int32) : Int32 := if k = 0 then 2 else if k = 1 then 15 else if k = 2 then 1 else -1
set_option maxRecDepth 100000 in
theorem J_Lines_greatest {sc : mm_Sc} {n : Nat} {h : mm_H} {k : Int32}  : mm_J sc y_Lines_greatest 1 [.int k] n h 0 0 (fun o n' h' => o = .inl (some (.int (ln_max k))) ∧ n' = n ∧ h' = h) := by
  refine mm_J.of (show mm_G sc y_Lines_greatest 1 0 [some (.int k)] [] n h 0 0 _ from ?_) ce_Lines_greatest.2.2.2.2.1 (Nat.le_of_ble_eq_true rfl) (by simp [Value.category])
  refine mm_iload_n d_Lines_greatest_0 rfl ?_
  by_cases c_1_0 : k = 0
  · refine mm_tableIn (tgt := 28) (off := 27) d_Lines_greatest_1 (by rw [c_1_0]; decide) (by rw [c_1_0]; decide) (by rw [c_1_0]; decide) (by decide) ?_
    refine mm_iconst (v := 2) d_Lines_greatest_28 (by decide) ?_
    exact mm_ireturn d_Lines_greatest_29 rfl ⟨by simp [ln_max, c_1_0], rfl, rfl⟩
  by_cases c_1_1 : k = 1
  · refine mm_tableIn (tgt := 30) (off := 29) d_Lines_greatest_1 (by rw [c_1_1]; decide) (by rw [c_1_1]; decide) (by rw [c_1_1]; decide) (by decide) ?_
    refine mm_bipush (v := 15) d_Lines_greatest_30 (by decide) ?_
    exact mm_ireturn d_Lines_greatest_32 rfl ⟨by simp [ln_max, c_1_0, c_1_1], rfl, rfl⟩
  by_cases c_1_2 : k = 2
  · refine mm_tableIn (tgt := 33) (off := 32) d_Lines_greatest_1 (by rw [c_1_2]; decide) (by rw [c_1_2]; decide) (by rw [c_1_2]; decide) (by decide) ?_
    refine mm_iconst (v := 1) d_Lines_greatest_33 (by decide) ?_
    exact mm_ireturn d_Lines_greatest_34 rfl ⟨by simp [ln_max, c_1_0, c_1_1, c_1_2], rfl, rfl⟩
  refine mm_tableOut (tgt := 35) d_Lines_greatest_1 (mm_tsw3 c_1_0 c_1_1 c_1_2) (by decide) ?_
  refine mm_iconst (v := (-1)) d_Lines_greatest_35 (by decide) ?_
  exact mm_ireturn d_Lines_greatest_36 rfl ⟨by simp [ln_max, c_1_0, c_1_1, c_1_2], rfl, rfl⟩
def ln_forget (kp l : Int32) : Int32 := kp &&& ((1 <<< (l &&& 31)) ^^^ (-1))
set_option maxRecDepth 100000 in
theorem J_Lines_forget {sc : mm_Sc} {n : Nat} {h : mm_H} {a b c : Nat} {Wy Rk : Nat → Int32} {hi u kp : Int32} (hbc : b ≠ c) {l : Int32} (ha : h a = some (.inr (1, [.ref b, .ref c, .int hi, .int u, .int kp]))) (hb : h b = some (.inl (0, 16, .inl Wy))) (hc : h c = some (.inl (0, 16, .inl Rk))) : mm_J sc y_Lines_forget 1 [.ref a, .int l] n h 0 0 (fun o n' h' => o = .inl (none) ∧ n' = n ∧ h' = va_up h a (some (.inr (1, [.ref b, .ref c, .int hi, .int u, .int (ln_forget kp l)])))) := by
  refine mm_J.of (show mm_G sc y_Lines_forget 1 0 [some (.ref a), some (.int l)] [] n h 0 0 _ from ?_) ce_Lines_forget.2.2.2.2.1 (Nat.le_of_ble_eq_true rfl) (by simp [Value.category])
  refine mm_aload_n d_Lines_forget_0 rfl ?_
  refine mm_dup d_Lines_forget_1 rfl ?_
  refine mm_getf d_Lines_forget_2 cl_Lines fl_Lines_25_Lines (by decide) ha rfl ?_
  refine mm_iconst (v := 1) d_Lines_forget_5 (by decide) ?_
  refine mm_iload_n d_Lines_forget_6 rfl ?_
  refine mm_ishl d_Lines_forget_7 ?_
  refine mm_iconst (v := (-1)) d_Lines_forget_8 (by decide) ?_
  refine mm_ixor d_Lines_forget_9 ?_
  refine mm_iand d_Lines_forget_10 ?_
  refine mm_putf d_Lines_forget_11 cl_Lines ty_Lines fl_Lines_25_Lines (by decide) rfl rfl rfl ha (Nat.le_of_ble_eq_true rfl) ?_
  refine mm_hp (fun h1 e1 => ?_)
  have ha_v1 : h1 a = some (.inr (1, [.ref b, .ref c, .int hi, .int u, .int (kp &&& ((1 <<< (l &&& 31)) ^^^ (-1)))])) := by rw [e1]; exact va_up_self _ _ _
  have hb_v1 : h1 b = some (.inl (0, 16, .inl Wy)) := by rw [e1, va_up_ne _ _ (mm_neq hb ha (by simp))]; exact hb
  have hc_v1 : h1 c = some (.inl (0, 16, .inl Rk)) := by rw [e1, va_up_ne _ _ (mm_neq hc ha (by simp))]; exact hc
  exact mm_return d_Lines_forget_14 rfl (by first | (refine ⟨?_, rfl, ?_⟩ <;> simp [ln_forget, bx_uu, e1] <;> done) | (exfalso; simp_all; done))
set_option maxRecDepth 100000 in
theorem J_Lines_allDown {sc : mm_Sc} {n : Nat} {h : mm_H} {a b c : Nat} {Wy Rk : Nat → Int32} {hi u kp : Int32} (hbc : b ≠ c) (ha : h a = some (.inr (1, [.ref b, .ref c, .int hi, .int u, .int kp]))) (hb : h b = some (.inl (0, 16, .inl Wy))) (hc : h c = some (.inl (0, 16, .inl Rk))) : mm_J sc y_Lines_allDown 1 [.ref a] n h 0 0 (fun o n' h' => o = .inl (none) ∧ n' = n ∧ h' = va_up h a (some (.inr (1, [.ref b, .ref c, .int hi, .int 0, .int 0])))) := by
  refine mm_J.of (show mm_G sc y_Lines_allDown 1 0 [some (.ref a)] [] n h 0 0 _ from ?_) ce_Lines_allDown.2.2.2.2.1 (Nat.le_of_ble_eq_true rfl) (by simp [Value.category])
  refine mm_aload_n d_Lines_allDown_0 rfl ?_
  refine mm_iconst (v := 0) d_Lines_allDown_1 (by decide) ?_
  refine mm_putf d_Lines_allDown_2 cl_Lines ty_Lines fl_Lines_22_Lines (by decide) rfl rfl rfl ha (Nat.le_of_ble_eq_true rfl) ?_
  refine mm_hp (fun h1 e1 => ?_)
  have ha_v1 : h1 a = some (.inr (1, [.ref b, .ref c, .int hi, .int 0, .int kp])) := by rw [e1]; exact va_up_self _ _ _
  have hb_v1 : h1 b = some (.inl (0, 16, .inl Wy)) := by rw [e1, va_up_ne _ _ (mm_neq hb ha (by simp))]; exact hb
  have hc_v1 : h1 c = some (.inl (0, 16, .inl Rk)) := by rw [e1, va_up_ne _ _ (mm_neq hc ha (by simp))]; exact hc
  refine mm_aload_n d_Lines_allDown_5 rfl ?_
  refine mm_iconst (v := 0) d_Lines_allDown_6 (by decide) ?_
  refine mm_putf d_Lines_allDown_7 cl_Lines ty_Lines fl_Lines_25_Lines (by decide) rfl rfl rfl ha_v1 (Nat.le_of_ble_eq_true rfl) ?_
  refine mm_hp (fun h2 e2 => ?_)
  have ha_v2 : h2 a = some (.inr (1, [.ref b, .ref c, .int hi, .int 0, .int 0])) := by rw [e2]; exact va_up_self _ _ _
  have hb_v2 : h2 b = some (.inl (0, 16, .inl Wy)) := by rw [e2, va_up_ne _ _ (mm_neq hb_v1 ha_v1 (by simp))]; exact hb_v1
  have hc_v2 : h2 c = some (.inl (0, 16, .inl Rk)) := by rw [e2, va_up_ne _ _ (mm_neq hc_v1 ha_v1 (by simp))]; exact hc_v1
  exact mm_return d_Lines_allDown_10 rfl (by first | (refine ⟨?_, rfl, ?_⟩ <;> simp [bx_uu, e2, e1] <;> done) | (exfalso; simp_all; done))
set_option maxRecDepth 100000 in
theorem J_Lines_changeRank {sc : mm_Sc} {n : Nat} {h : mm_H} {a b c : Nat} {Wy Rk : Nat → Int32} {hi u kp : Int32} (hbc : b ≠ c) {l v : Int32} (hl : vp_in l 16) (ha : h a = some (.inr (1, [.ref b, .ref c, .int hi, .int u, .int kp]))) (hb : h b = some (.inl (0, 16, .inl Wy))) (hc : h c = some (.inl (0, 16, .inl Rk))) : mm_J sc y_Lines_changeRank 1 [.ref a, .int l, .int v] n h 0 0 (fun o n' h' => o = .inl (some (.int (Rk l.toNatClampNeg))) ∧ n' = n ∧ h' = va_up h c (some (.inl (0, 16, .inl (upd Rk l.toNatClampNeg v))))) := by
  refine mm_J.of (show mm_G sc y_Lines_changeRank 1 0 [some (.ref a), some (.int l), some (.int v), none] [] n h 0 0 _ from ?_) ce_Lines_changeRank.2.2.2.2.1 (Nat.le_of_ble_eq_true rfl) (by simp [Value.category])
  refine mm_aload_n d_Lines_changeRank_0 rfl ?_
  refine mm_getf d_Lines_changeRank_1 cl_Lines fl_Lines_15_Lines (by decide) ha rfl ?_
  refine mm_iload_n d_Lines_changeRank_4 rfl ?_
  refine mm_iald d_Lines_changeRank_5 hc hl ?_
  refine mm_istore_n d_Lines_changeRank_6 (by decide) ?_
  refine mm_aload_n d_Lines_changeRank_7 rfl ?_
  refine mm_getf d_Lines_changeRank_8 cl_Lines fl_Lines_15_Lines (by decide) ha rfl ?_
  refine mm_iload_n d_Lines_changeRank_11 rfl ?_
  refine mm_iload_n d_Lines_changeRank_12 rfl ?_
  refine mm_iast d_Lines_changeRank_13 hc hl ?_
  refine mm_hp (fun h1 e1 => ?_)
  have ha_v1 : h1 a = some (.inr (1, [.ref b, .ref c, .int hi, .int u, .int kp])) := by rw [e1, va_up_ne _ _ (mm_neq ha hc (by simp))]; exact ha
  have hb_v1 : h1 b = some (.inl (0, 16, .inl Wy)) := by rw [e1, va_up_ne _ _ hbc]; exact hb
  have hc_v1 : h1 c = some (.inl (0, 16, .inl (upd Rk l.toNatClampNeg v))) := by rw [e1]; exact va_up_self _ _ _
  refine mm_iload_n d_Lines_changeRank_14 rfl ?_
  exact mm_ireturn d_Lines_changeRank_15 rfl (by first | (refine ⟨?_, rfl, ?_⟩ <;> simp [bx_uu, e1] <;> done) | (exfalso; simp_all; done))
def ln_hide (hi l v : Int32) : Int32 := (hi &&& ((1 <<< (l &&& 31)) ^^^ (-1))) ||| (v <<< (l &&& 31))
set_option maxRecDepth 100000 in
theorem J_Lines_changeHidden {sc : mm_Sc} {n : Nat} {h : mm_H} {a b c : Nat} {Wy Rk : Nat → Int32} {hi u kp : Int32} (hbc : b ≠ c) {l v : Int32} (ha : h a = some (.inr (1, [.ref b, .ref c, .int hi, .int u, .int kp]))) (hb : h b = some (.inl (0, 16, .inl Wy))) (hc : h c = some (.inl (0, 16, .inl Rk))) : mm_J sc y_Lines_changeHidden 1 [.ref a, .int l, .int v] n h 0 0 (fun o n' h' => o = .inl (some (.int ((hi >>> (l &&& 31)) &&& 1))) ∧ n' = n ∧ h' = va_up h a (some (.inr (1, [.ref b, .ref c, .int (ln_hide hi l v), .int u, .int kp])))) := by
  refine mm_J.of (show mm_G sc y_Lines_changeHidden 1 0 [some (.ref a), some (.int l), some (.int v), none] [] n h 0 0 _ from ?_) ce_Lines_changeHidden.2.2.2.2.1 (Nat.le_of_ble_eq_true rfl) (by simp [Value.category])
  refine mm_aload_n d_Lines_changeHidden_0 rfl ?_
  refine mm_getf d_Lines_changeHidden_1 cl_Lines fl_Lines_18_Lines (by decide) ha rfl ?_
  refine mm_iload_n d_Lines_changeHidden_4 rfl ?_
  refine mm_ishr d_Lines_changeHidden_5 ?_
  refine mm_iconst (v := 1) d_Lines_changeHidden_6 (by decide) ?_
  refine mm_iand d_Lines_changeHidden_7 ?_
  refine mm_istore_n d_Lines_changeHidden_8 (by decide) ?_
  refine mm_aload_n d_Lines_changeHidden_9 rfl ?_
  refine mm_aload_n d_Lines_changeHidden_10 rfl ?_
  refine mm_getf d_Lines_changeHidden_11 cl_Lines fl_Lines_18_Lines (by decide) ha rfl ?_
  refine mm_iconst (v := 1) d_Lines_changeHidden_14 (by decide) ?_
  refine mm_iload_n d_Lines_changeHidden_15 rfl ?_
  refine mm_ishl d_Lines_changeHidden_16 ?_
  refine mm_iconst (v := (-1)) d_Lines_changeHidden_17 (by decide) ?_
  refine mm_ixor d_Lines_changeHidden_18 ?_
  refine mm_iand d_Lines_changeHidden_19 ?_
  refine mm_iload_n d_Lines_changeHidden_20 rfl ?_
  refine mm_iload_n d_Lines_changeHidden_21 rfl ?_
  refine mm_ishl d_Lines_changeHidden_22 ?_
  refine mm_ior d_Lines_changeHidden_23 ?_
  refine mm_putf d_Lines_changeHidden_24 cl_Lines ty_Lines fl_Lines_18_Lines (by decide) rfl rfl rfl ha (Nat.le_of_ble_eq_true rfl) ?_
  refine mm_hp (fun h1 e1 => ?_)
  have ha_v1 : h1 a = some (.inr (1, [.ref b, .ref c, .int ((hi &&& ((1 <<< (l &&& 31)) ^^^ (-1))) ||| (v <<< (l &&& 31))), .int u, .int kp])) := by rw [e1]; exact va_up_self _ _ _
  have hb_v1 : h1 b = some (.inl (0, 16, .inl Wy)) := by rw [e1, va_up_ne _ _ (mm_neq hb ha (by simp))]; exact hb
  have hc_v1 : h1 c = some (.inl (0, 16, .inl Rk)) := by rw [e1, va_up_ne _ _ (mm_neq hc ha (by simp))]; exact hc
  refine mm_iload_n d_Lines_changeHidden_27 rfl ?_
  exact mm_ireturn d_Lines_changeHidden_28 rfl (by first | (refine ⟨?_, rfl, ?_⟩ <;> simp [ln_hide, bx_uu, e1] <;> done) | (exfalso; simp_all; done))
set_option maxRecDepth 100000 in
theorem J_Lines_changeWay {sc : mm_Sc} {n : Nat} {h : mm_H} {a b c : Nat} {Wy Rk : Nat → Int32} {hi u kp : Int32} (hbc : b ≠ c) {l v : Int32} (hl : vp_in l 16) (ha : h a = some (.inr (1, [.ref b, .ref c, .int hi, .int u, .int kp]))) (hb : h b = some (.inl (0, 16, .inl Wy))) (hc : h c = some (.inl (0, 16, .inl Rk))) : mm_J sc y_Lines_changeWay 2 [.ref a, .int l, .int v] n h 0 0 (fun o n' h' => o = .inl (some (.int (Wy l.toNatClampNeg))) ∧ n' = n ∧ h' = va_up (va_up h b (some (.inl (0, 16, .inl (if v = Wy l.toNatClampNeg then Wy else upd Wy l.toNatClampNeg v))))) a (some (.inr (1, [.ref b, .ref c, .int hi, .int u, .int (if v = Wy l.toNatClampNeg then kp else ln_forget kp l)])))) := by
  refine mm_J.of (show mm_G sc y_Lines_changeWay 2 0 [some (.ref a), some (.int l), some (.int v), none] [] n h 0 0 _ from ?_) ce_Lines_changeWay.2.2.2.2.1 (Nat.le_of_ble_eq_true rfl) (by simp [Value.category])
  refine mm_aload_n d_Lines_changeWay_0 rfl ?_
  refine mm_getf d_Lines_changeWay_1 cl_Lines fl_Lines_11_Lines (by decide) ha rfl ?_
  refine mm_iload_n d_Lines_changeWay_4 rfl ?_
  refine mm_iald d_Lines_changeWay_5 hb hl ?_
  refine mm_istore_n d_Lines_changeWay_6 (by decide) ?_
  refine mm_iload_n d_Lines_changeWay_7 rfl ?_
  refine mm_iload_n d_Lines_changeWay_8 rfl ?_
  refine mm_icmp_eq (tgt := 24) d_Lines_changeWay_9 (by decide) (fun c_9 => ?_) (fun c_9 => ?_)
  · refine mm_iload_n d_Lines_changeWay_24 rfl ?_
    exact mm_ireturn d_Lines_changeWay_25 rfl ⟨by simp [c_9], rfl, by
        funext j
        by_cases j0 : j = a
        · rw [j0]; simp [va_up, c_9, ha, hb, (mm_neq ha hb (by simp)), Ne.symm (mm_neq ha hb (by simp))]
        by_cases j1 : j = b
        · rw [j1]; simp [va_up, c_9, ha, hb, (mm_neq ha hb (by simp)), Ne.symm (mm_neq ha hb (by simp))]
        simp [va_up, j0, j1, c_9]⟩
  · refine mm_aload_n d_Lines_changeWay_12 rfl ?_
    refine mm_getf d_Lines_changeWay_13 cl_Lines fl_Lines_11_Lines (by decide) ha rfl ?_
    refine mm_iload_n d_Lines_changeWay_16 rfl ?_
    refine mm_iload_n d_Lines_changeWay_17 rfl ?_
    refine mm_iast d_Lines_changeWay_18 hb hl ?_
    refine mm_hp (fun h1 e1 => ?_)
    have ha_v1 : h1 a = some (.inr (1, [.ref b, .ref c, .int hi, .int u, .int kp])) := by rw [e1, va_up_ne _ _ (mm_neq ha hb (by simp))]; exact ha
    have hb_v1 : h1 b = some (.inl (0, 16, .inl (upd Wy l.toNatClampNeg v))) := by rw [e1]; exact va_up_self _ _ _
    have hc_v1 : h1 c = some (.inl (0, 16, .inl Rk)) := by rw [e1, va_up_ne _ _ (Ne.symm hbc)]; exact hc
    refine mm_aload_n d_Lines_changeWay_19 rfl ?_
    refine mm_iload_n d_Lines_changeWay_20 rfl ?_
    refine mm_callD d_Lines_changeWay_21 (mm_Inv.vi (as := [.int l]) d_Lines_changeWay_21 (Or.inl m_649) m_89 ce_Lines_forget.2.1 ce_Lines_forget.2.2.1 m_90 ce_Lines_forget.2.2.2.2.2 ln_Lines_forget cl_Lines ha_v1 rfl) (J_Lines_forget hbc ha_v1 hb_v1 hc_v1) (by decide) ce_Lines_forget.1 ce_Lines_forget.2.1 ce_Lines_forget.2.2.1 ce_Lines_forget.2.2.2.1 (Nat.le_of_ble_eq_true rfl) ?_
    refine mm_hp (fun h2 e2 => ?_)
    have ha_v2 : h2 a = some (.inr (1, [.ref b, .ref c, .int hi, .int u, .int (ln_forget kp l)])) := by rw [e2]; exact va_up_self _ _ _
    have hb_v2 : h2 b = some (.inl (0, 16, .inl (upd Wy l.toNatClampNeg v))) := by rw [e2, va_up_ne _ _ (mm_neq hb_v1 ha_v1 (by simp))]; exact hb_v1
    have hc_v2 : h2 c = some (.inl (0, 16, .inl Rk)) := by rw [e2, va_up_ne _ _ (mm_neq hc_v1 ha_v1 (by simp))]; exact hc_v1
    refine mm_iload_n d_Lines_changeWay_24 rfl ?_
    exact mm_ireturn d_Lines_changeWay_25 rfl ⟨by simp [c_9, e2, e1], rfl, by
        funext j
        by_cases j0 : j = a
        · rw [j0]; simp [va_up, c_9, e2, e1, ha, hb, (mm_neq ha hb (by simp)), Ne.symm (mm_neq ha hb (by simp))]
        by_cases j1 : j = b
        · rw [j1]; simp [va_up, c_9, e2, e1, ha, hb, (mm_neq ha hb (by simp)), Ne.symm (mm_neq ha hb (by simp))]
        simp [va_up, j0, j1, c_9, e2, e1]⟩
def ln_was (Wy Rk : Nat → Int32) (hi l k : Int32) : Int32 := if k = 0 then Wy l.toNatClampNeg else if k = 1 then Rk l.toNatClampNeg else (hi >>> (l &&& 31)) &&& 1
set_option maxRecDepth 100000 in
theorem J_Lines_change {sc : mm_Sc} {n : Nat} {h : mm_H} {a b c : Nat} {Wy Rk : Nat → Int32} {hi u kp : Int32} (hbc : b ≠ c) {l k v : Int32} (hl1 : ¬ l < 0) (hl2 : l < 16) (ha : h a = some (.inr (1, [.ref b, .ref c, .int hi, .int u, .int kp]))) (hb : h b = some (.inl (0, 16, .inl Wy))) (hc : h c = some (.inl (0, 16, .inl Rk))) : mm_J sc y_Lines_change 3 [.ref a, .int l, .int k, .int v] n h 0 0 (fun o n' h' => o = .inl (some (.int (ln_was Wy Rk hi l k))) ∧ n' = n ∧ h' = va_up (va_up (va_up h c (some (.inl (0, 16, .inl (if k = 1 then upd Rk l.toNatClampNeg v else Rk))))) b (some (.inl (0, 16, .inl (if k = 0 then (if v = Wy l.toNatClampNeg then Wy else upd Wy l.toNatClampNeg v) else Wy))))) a (some (.inr (1, [.ref b, .ref c, .int (if k = 0 then hi else if k = 1 then hi else ln_hide hi l v), .int u, .int (if k = 0 then (if v = Wy l.toNatClampNeg then kp else ln_forget kp l) else kp)])))) := by
  refine mm_J.of (show mm_G sc y_Lines_change 3 0 [some (.ref a), some (.int l), some (.int k), some (.int v)] [] n h 0 0 _ from ?_) ce_Lines_change.2.2.2.2.1 (Nat.le_of_ble_eq_true rfl) (by simp [Value.category])
  refine mm_iload_n d_Lines_change_0 rfl ?_
  refine mm_if_lt (tgt := 10) d_Lines_change_1 (by decide) (fun c_1 => absurd c_1 hl1) (fun c_1 => ?_)
  refine mm_iload_n d_Lines_change_4 rfl ?_
  refine mm_bipush (v := 16) d_Lines_change_5 (by decide) ?_
  refine mm_icmp_lt (tgt := 12) d_Lines_change_7 (by decide) (fun c_7 => ?_) (fun c_7 => absurd hl2 c_7)
  refine mm_iload_n d_Lines_change_12 rfl ?_
  by_cases c_13_0 : k = 0
  · refine mm_lookup (tgt := 40) (off := 27) d_Lines_change_13 (by decide) (by rw [c_13_0]; decide) (by decide) ?_
    refine mm_aload_n d_Lines_change_40 rfl ?_
    refine mm_iload_n d_Lines_change_41 rfl ?_
    refine mm_iload_n d_Lines_change_42 rfl ?_
    refine mm_callD d_Lines_change_43 (mm_Inv.vi (as := [.int l, .int v]) d_Lines_change_43 (Or.inl m_645) m_647 ce_Lines_changeWay.2.1 ce_Lines_changeWay.2.2.1 mp_16 ce_Lines_changeWay.2.2.2.2.2 ln_Lines_changeWay cl_Lines ha rfl) (J_Lines_changeWay hbc (mm_inb' (len := 16) (by omega) c_1 c_7) ha hb hc) (by decide) ce_Lines_changeWay.1 ce_Lines_changeWay.2.1 ce_Lines_changeWay.2.2.1 ce_Lines_changeWay.2.2.2.1 (Nat.le_of_ble_eq_true rfl) ?_
    refine mm_hp (fun h1 e1 => ?_)
    have ha_v1 : h1 a = some (.inr (1, [.ref b, .ref c, .int hi, .int u, .int (if v = Wy l.toNatClampNeg then kp else ln_forget kp l)])) := by rw [e1]; exact va_up_self _ _ _
    have hb_v1 : h1 b = some (.inl (0, 16, .inl (if v = Wy l.toNatClampNeg then Wy else upd Wy l.toNatClampNeg v))) := by rw [e1, va_up_ne _ _ (mm_neq hb ha (by simp))]; exact va_up_self _ _ _
    have hc_v1 : h1 c = some (.inl (0, 16, .inl Rk)) := by rw [e1, va_up_ne _ _ (mm_neq hc ha (by simp)), va_up_ne _ _ (Ne.symm hbc)]; exact hc
    exact mm_ireturn d_Lines_change_46 rfl ⟨by simp [ln_was, c_1, c_7, c_13_0, e1], rfl, by
        funext j
        by_cases j0 : j = a
        · rw [j0]; simp [va_up, ln_was, c_1, c_7, c_13_0, e1, ha, hb, hc, (mm_neq ha hb (by simp)), (mm_neq ha hc (by simp)), hbc, Ne.symm (mm_neq ha hb (by simp)), Ne.symm (mm_neq ha hc (by simp)), Ne.symm hbc]
        by_cases j1 : j = b
        · rw [j1]; simp [va_up, ln_was, c_1, c_7, c_13_0, e1, ha, hb, hc, (mm_neq ha hb (by simp)), (mm_neq ha hc (by simp)), hbc, Ne.symm (mm_neq ha hb (by simp)), Ne.symm (mm_neq ha hc (by simp)), Ne.symm hbc]
        by_cases j2 : j = c
        · rw [j2]; simp [va_up, ln_was, c_1, c_7, c_13_0, e1, ha, hb, hc, (mm_neq ha hb (by simp)), (mm_neq ha hc (by simp)), hbc, Ne.symm (mm_neq ha hb (by simp)), Ne.symm (mm_neq ha hc (by simp)), Ne.symm hbc]
        simp [va_up, j0, j1, j2, ln_was, c_1, c_7, c_13_0, e1]⟩
  by_cases c_13_1 : k = 1
  · refine mm_lookup (tgt := 47) (off := 34) d_Lines_change_13 (by decide) (by rw [c_13_1]; decide) (by decide) ?_
    refine mm_aload_n d_Lines_change_47 rfl ?_
    refine mm_iload_n d_Lines_change_48 rfl ?_
    refine mm_iload_n d_Lines_change_49 rfl ?_
    refine mm_callD d_Lines_change_50 (mm_Inv.vi (as := [.int l, .int v]) d_Lines_change_50 (Or.inl m_650) m_652 ce_Lines_changeRank.2.1 ce_Lines_changeRank.2.2.1 mp_17 ce_Lines_changeRank.2.2.2.2.2 ln_Lines_changeRank cl_Lines ha rfl) (J_Lines_changeRank hbc (mm_inb' (len := 16) (by omega) c_1 c_7) ha hb hc) (by decide) ce_Lines_changeRank.1 ce_Lines_changeRank.2.1 ce_Lines_changeRank.2.2.1 ce_Lines_changeRank.2.2.2.1 (Nat.le_of_ble_eq_true rfl) ?_
    refine mm_hp (fun h2 e2 => ?_)
    have ha_v2 : h2 a = some (.inr (1, [.ref b, .ref c, .int hi, .int u, .int kp])) := by rw [e2, va_up_ne _ _ (mm_neq ha hc (by simp))]; exact ha
    have hb_v2 : h2 b = some (.inl (0, 16, .inl Wy)) := by rw [e2, va_up_ne _ _ hbc]; exact hb
    have hc_v2 : h2 c = some (.inl (0, 16, .inl (upd Rk l.toNatClampNeg v))) := by rw [e2]; exact va_up_self _ _ _
    exact mm_ireturn d_Lines_change_53 rfl ⟨by simp [ln_was, c_1, c_7, c_13_0, c_13_1, e2], rfl, by
        funext j
        by_cases j0 : j = a
        · rw [j0]; simp [va_up, ln_was, c_1, c_7, c_13_0, c_13_1, e2, ha, hb, hc, (mm_neq ha hb (by simp)), (mm_neq ha hc (by simp)), hbc, Ne.symm (mm_neq ha hb (by simp)), Ne.symm (mm_neq ha hc (by simp)), Ne.symm hbc]
        by_cases j1 : j = b
        · rw [j1]; simp [va_up, ln_was, c_1, c_7, c_13_0, c_13_1, e2, ha, hb, hc, (mm_neq ha hb (by simp)), (mm_neq ha hc (by simp)), hbc, Ne.symm (mm_neq ha hb (by simp)), Ne.symm (mm_neq ha hc (by simp)), Ne.symm hbc]
        by_cases j2 : j = c
        · rw [j2]; simp [va_up, ln_was, c_1, c_7, c_13_0, c_13_1, e2, ha, hb, hc, (mm_neq ha hb (by simp)), (mm_neq ha hc (by simp)), hbc, Ne.symm (mm_neq ha hb (by simp)), Ne.symm (mm_neq ha hc (by simp)), Ne.symm hbc]
        simp [va_up, j0, j1, j2, ln_was, c_1, c_7, c_13_0, c_13_1, e2]⟩
  refine mm_lookup (tgt := 54) (off := 41) d_Lines_change_13 (by decide) ((lv_osw c_13_0 (by decide)).trans ((lv_osw c_13_1 (by decide)).trans rfl)) (by decide) ?_
  refine mm_aload_n d_Lines_change_54 rfl ?_
  refine mm_iload_n d_Lines_change_55 rfl ?_
  refine mm_iload_n d_Lines_change_56 rfl ?_
  refine mm_callD d_Lines_change_57 (mm_Inv.vi (as := [.int l, .int v]) d_Lines_change_57 (Or.inl m_654) m_656 ce_Lines_changeHidden.2.1 ce_Lines_changeHidden.2.2.1 mp_18 ce_Lines_changeHidden.2.2.2.2.2 ln_Lines_changeHidden cl_Lines ha rfl) (J_Lines_changeHidden hbc ha hb hc) (by decide) ce_Lines_changeHidden.1 ce_Lines_changeHidden.2.1 ce_Lines_changeHidden.2.2.1 ce_Lines_changeHidden.2.2.2.1 (Nat.le_of_ble_eq_true rfl) ?_
  refine mm_hp (fun h3 e3 => ?_)
  have ha_v3 : h3 a = some (.inr (1, [.ref b, .ref c, .int (ln_hide hi l v), .int u, .int kp])) := by rw [e3]; exact va_up_self _ _ _
  have hb_v3 : h3 b = some (.inl (0, 16, .inl Wy)) := by rw [e3, va_up_ne _ _ (mm_neq hb ha (by simp))]; exact hb
  have hc_v3 : h3 c = some (.inl (0, 16, .inl Rk)) := by rw [e3, va_up_ne _ _ (mm_neq hc ha (by simp))]; exact hc
  exact mm_ireturn d_Lines_change_60 rfl ⟨by simp [ln_was, c_1, c_7, c_13_0, c_13_1, e3], rfl, by
        funext j
        by_cases j0 : j = a
        · rw [j0]; simp [va_up, ln_was, c_1, c_7, c_13_0, c_13_1, e3, ha, hb, hc, (mm_neq ha hb (by simp)), (mm_neq ha hc (by simp)), hbc, Ne.symm (mm_neq ha hb (by simp)), Ne.symm (mm_neq ha hc (by simp)), Ne.symm hbc]
        by_cases j1 : j = b
        · rw [j1]; simp [va_up, ln_was, c_1, c_7, c_13_0, c_13_1, e3, ha, hb, hc, (mm_neq ha hb (by simp)), (mm_neq ha hc (by simp)), hbc, Ne.symm (mm_neq ha hb (by simp)), Ne.symm (mm_neq ha hc (by simp)), Ne.symm hbc]
        by_cases j2 : j = c
        · rw [j2]; simp [va_up, ln_was, c_1, c_7, c_13_0, c_13_1, e3, ha, hb, hc, (mm_neq ha hb (by simp)), (mm_neq ha hc (by simp)), hbc, Ne.symm (mm_neq ha hb (by simp)), Ne.symm (mm_neq ha hc (by simp)), Ne.symm hbc]
        simp [va_up, j0, j1, j2, ln_was, c_1, c_7, c_13_0, c_13_1, e3]⟩
/-- what a step of the lines keeps: the first i lines are looked at -/
def ln_fol (Wy : Nat → Int32) (ch ro kp : Int32) : Nat → Int32
  | 0 => kp
  | i + 1 => if Wy i = 0 then ln_fol Wy ch ro kp i else ln_fol Wy ch ro kp i ||| ((if Wy i = 2 then ch else ro) &&& (1 <<< (nI i &&& 31)))
def ln_pen (Wy : Nat → Int32) (u kp : Int32) : Nat → Int32
  | 0 => kp
  | i + 1 => if Wy i = 0 then ln_pen Wy u kp i ||| (u &&& (1 <<< (nI i &&& 31))) else ln_pen Wy u kp i
def ln_bst (Rk : Nat → Int32) (o : Int32) : Nat → Int32 × Int32
  | 0 => (-1, -1)
  | i + 1 => if (o >>> (nI i &&& 31)) &&& 1 = 0 then ln_bst Rk o i else if Rk i ≤ (ln_bst Rk o i).2 then ln_bst Rk o i else (nI i, Rk i)
set_option maxRecDepth 100000 in
theorem lp_Lines_pending {sc : mm_Sc} {n d kc ks : Nat} {h : mm_H} {Q : mm_O → Nat → mm_H → Prop} {a b c : Nat} {Wy Rk : Nat → Int32} {hi u kp : Int32} (hbc : b ≠ c) (ha : h a = some (.inr (1, [.ref b, .ref c, .int hi, .int u, .int kp]))) (hb : h b = some (.inl (0, 16, .inl Wy))) (hc : h c = some (.inl (0, 16, .inl Rk)))  (hq : mm_G sc y_Lines_pending d 42 [some (.ref a), some (.int (ln_pen Wy u kp 16)), some (.int (nI 16))] [] n (h) kc ks Q) : ∀ (m i : Nat), i + m = 16 → mm_G sc y_Lines_pending d 7 [some (.ref a), some (.int (ln_pen Wy u kp i)), some (.int (nI i))] [] n (h) kc ks Q := by
  intro m
  induction m with
  | zero =>
    intro i hi9
    obtain rfl : i = 16 := by omega
    refine mm_iload_n d_Lines_pending_7 rfl ?_
    refine mm_aload_n d_Lines_pending_8 rfl ?_
    refine mm_getf d_Lines_pending_9 cl_Lines fl_Lines_11_Lines (by decide) ha rfl ?_
    refine mm_alen d_Lines_pending_12 hb (by decide) ?_
    refine mm_icmp_ge (tgt := 42) d_Lines_pending_13 (by decide) (fun c_13 => ?_) (fun c_13 => absurd (show nI 16 ≤ nI 16 from Int32.le_refl _) c_13)
    exact hq
  | succ m ih =>
    intro i hi9
    refine mm_iload_n d_Lines_pending_7 rfl ?_
    refine mm_aload_n d_Lines_pending_8 rfl ?_
    refine mm_getf d_Lines_pending_9 cl_Lines fl_Lines_11_Lines (by decide) ha rfl ?_
    refine mm_alen d_Lines_pending_12 hb (by decide) ?_
    refine mm_icmp_ge (tgt := 42) d_Lines_pending_13 (by decide) (fun c_13 => absurd c_13 (show ¬ nI 16 ≤ nI i from nI_ge (by omega) (by omega))) (fun c_13 => ?_)
    refine mm_aload_n d_Lines_pending_16 rfl ?_
    refine mm_getf d_Lines_pending_17 cl_Lines fl_Lines_11_Lines (by decide) ha rfl ?_
    refine mm_iload_n d_Lines_pending_20 rfl ?_
    refine mm_iald d_Lines_pending_21 hb (vp_in_nI (by omega) (by omega)) ?_
    refine mm_if_ne (tgt := 36) d_Lines_pending_22 (by decide) (fun c_22 => ?_) (fun c_22 => ?_)
    · refine mm_iinc (v := (nI i) + 1) d_Lines_pending_36 rfl rfl (by decide) ?_
      refine mm_goto (tgt := 7) d_Lines_pending_39 (by decide) ?_
      have hk9 := nI_clamp (n := i) (by omega)
      try rw [hk9] at c_13
      try rw [hk9] at c_22
      refine mm_G.cast (l' := [some (.ref a), some (.int (ln_pen Wy u kp (i + 1))), some (.int (nI (i + 1)))]) ?_ rfl rfl (ih (i + 1) (by omega))
      all_goals (simp [nI_1, ln_pen, hk9, c_13, c_22] <;> try rfl)
    · refine mm_iload_n d_Lines_pending_25 rfl ?_
      refine mm_aload_n d_Lines_pending_26 rfl ?_
      refine mm_getf d_Lines_pending_27 cl_Lines fl_Lines_22_Lines (by decide) ha rfl ?_
      refine mm_iconst (v := 1) d_Lines_pending_30 (by decide) ?_
      refine mm_iload_n d_Lines_pending_31 rfl ?_
      refine mm_ishl d_Lines_pending_32 ?_
      refine mm_iand d_Lines_pending_33 ?_
      refine mm_ior d_Lines_pending_34 ?_
      refine mm_istore_n d_Lines_pending_35 (by decide) ?_
      refine mm_iinc (v := (nI i) + 1) d_Lines_pending_36 rfl rfl (by decide) ?_
      refine mm_goto (tgt := 7) d_Lines_pending_39 (by decide) ?_
      have hk9 := nI_clamp (n := i) (by omega)
      try rw [hk9] at c_13
      try rw [hk9] at c_22
      refine mm_G.cast (l' := [some (.ref a), some (.int (ln_pen Wy u kp (i + 1))), some (.int (nI (i + 1)))]) ?_ rfl rfl (ih (i + 1) (by omega))
      all_goals (simp [nI_1, ln_pen, hk9, c_13, c_22] <;> try rfl)
set_option maxRecDepth 100000 in
theorem J_Lines_pending {sc : mm_Sc} {n : Nat} {h : mm_H} {a b c : Nat} {Wy Rk : Nat → Int32} {hi u kp : Int32} (hbc : b ≠ c) (ha : h a = some (.inr (1, [.ref b, .ref c, .int hi, .int u, .int kp]))) (hb : h b = some (.inl (0, 16, .inl Wy))) (hc : h c = some (.inl (0, 16, .inl Rk))) : mm_J sc y_Lines_pending 1 [.ref a] n h 0 0 (fun o n' h' => o = .inl (some (.int (ln_pen Wy u kp 16))) ∧ n' = n ∧ h' = h) := by
  refine mm_J.of (show mm_G sc y_Lines_pending 1 0 [some (.ref a), none, none] [] n h 0 0 _ from ?_) ce_Lines_pending.2.2.2.2.1 (Nat.le_of_ble_eq_true rfl) (by simp [Value.category])
  refine mm_aload_n d_Lines_pending_0 rfl ?_
  refine mm_getf d_Lines_pending_1 cl_Lines fl_Lines_25_Lines (by decide) ha rfl ?_
  refine mm_istore_n d_Lines_pending_4 (by decide) ?_
  refine mm_iconst (v := 0) d_Lines_pending_5 (by decide) ?_
  refine mm_istore_n d_Lines_pending_6 (by decide) ?_
  exact lp_Lines_pending hbc ha hb hc (mm_iload_n d_Lines_pending_42 rfl (mm_ireturn d_Lines_pending_43 rfl ⟨rfl, rfl, rfl⟩)) 16 0 (by omega)
set_option maxRecDepth 100000 in
theorem lp_Lines_best {sc : mm_Sc} {n d kc ks : Nat} {h : mm_H} {Q : mm_O → Nat → mm_H → Prop} {a b c : Nat} {Wy Rk : Nat → Int32} {hi u kp : Int32} (hbc : b ≠ c) {o : Int32} (ha : h a = some (.inr (1, [.ref b, .ref c, .int hi, .int u, .int kp]))) (hb : h b = some (.inl (0, 16, .inl Wy))) (hc : h c = some (.inl (0, 16, .inl Rk)))  (hq : mm_G sc y_Lines_best d 66 [some (.ref a), some (.int o), some (.int ((ln_bst Rk o 16).1)), some (.int ((ln_bst Rk o 16).2)), some (.int (nI 16))] [] n (h) kc ks Q) : ∀ (m i : Nat), i + m = 16 → mm_G sc y_Lines_best d 19 [some (.ref a), some (.int o), some (.int ((ln_bst Rk o i).1)), some (.int ((ln_bst Rk o i).2)), some (.int (nI i))] [] n (h) kc ks Q := by
  intro m
  induction m with
  | zero =>
    intro i hi9
    obtain rfl : i = 16 := by omega
    refine mm_iload d_Lines_best_19 rfl ?_
    refine mm_aload_n d_Lines_best_21 rfl ?_
    refine mm_getf d_Lines_best_22 cl_Lines fl_Lines_15_Lines (by decide) ha rfl ?_
    refine mm_alen d_Lines_best_25 hc (by decide) ?_
    refine mm_icmp_ge (tgt := 66) d_Lines_best_26 (by decide) (fun c_26 => ?_) (fun c_26 => absurd (show nI 16 ≤ nI 16 from Int32.le_refl _) c_26)
    exact hq
  | succ m ih =>
    intro i hi9
    refine mm_iload d_Lines_best_19 rfl ?_
    refine mm_aload_n d_Lines_best_21 rfl ?_
    refine mm_getf d_Lines_best_22 cl_Lines fl_Lines_15_Lines (by decide) ha rfl ?_
    refine mm_alen d_Lines_best_25 hc (by decide) ?_
    refine mm_icmp_ge (tgt := 66) d_Lines_best_26 (by decide) (fun c_26 => absurd c_26 (show ¬ nI 16 ≤ nI i from nI_ge (by omega) (by omega))) (fun c_26 => ?_)
    refine mm_iload_n d_Lines_best_29 rfl ?_
    refine mm_iload d_Lines_best_30 rfl ?_
    refine mm_ishr d_Lines_best_32 ?_
    refine mm_iconst (v := 1) d_Lines_best_33 (by decide) ?_
    refine mm_iand d_Lines_best_34 ?_
    refine mm_if_eq (tgt := 60) d_Lines_best_35 (by decide) (fun c_35 => ?_) (fun c_35 => ?_)
    · refine mm_iinc (v := (nI i) + 1) d_Lines_best_60 rfl rfl (by decide) ?_
      refine mm_goto (tgt := 19) d_Lines_best_63 (by decide) ?_
      have hk9 := nI_clamp (n := i) (by omega)
      try rw [hk9] at c_26
      try rw [hk9] at c_35
      refine mm_G.cast (l' := [some (.ref a), some (.int o), some (.int ((ln_bst Rk o (i + 1)).1)), some (.int ((ln_bst Rk o (i + 1)).2)), some (.int (nI (i + 1)))]) ?_ rfl rfl (ih (i + 1) (by omega))
      all_goals (simp [nI_1, ln_bst, hk9, c_26, c_35] <;> try rfl)
    · refine mm_aload_n d_Lines_best_38 rfl ?_
      refine mm_getf d_Lines_best_39 cl_Lines fl_Lines_15_Lines (by decide) ha rfl ?_
      refine mm_iload d_Lines_best_42 rfl ?_
      refine mm_iald d_Lines_best_44 hc (vp_in_nI (by omega) (by omega)) ?_
      refine mm_iload_n d_Lines_best_45 rfl ?_
      refine mm_icmp_le (tgt := 60) d_Lines_best_46 (by decide) (fun c_46 => ?_) (fun c_46 => ?_)
      · refine mm_iinc (v := (nI i) + 1) d_Lines_best_60 rfl rfl (by decide) ?_
        refine mm_goto (tgt := 19) d_Lines_best_63 (by decide) ?_
        have hk9 := nI_clamp (n := i) (by omega)
        try rw [hk9] at c_26
        try rw [hk9] at c_35
        try rw [hk9] at c_46
        refine mm_G.cast (l' := [some (.ref a), some (.int o), some (.int ((ln_bst Rk o (i + 1)).1)), some (.int ((ln_bst Rk o (i + 1)).2)), some (.int (nI (i + 1)))]) ?_ rfl rfl (ih (i + 1) (by omega))
        all_goals (simp [nI_1, ln_bst, hk9, c_26, c_35, c_46, Int32.not_lt.mpr c_46] <;> try rfl)
      · refine mm_iload d_Lines_best_49 rfl ?_
        refine mm_istore_n d_Lines_best_51 (by decide) ?_
        refine mm_aload_n d_Lines_best_52 rfl ?_
        refine mm_getf d_Lines_best_53 cl_Lines fl_Lines_15_Lines (by decide) ha rfl ?_
        refine mm_iload d_Lines_best_56 rfl ?_
        refine mm_iald d_Lines_best_58 hc (vp_in_nI (by omega) (by omega)) ?_
        refine mm_istore_n d_Lines_best_59 (by decide) ?_
        refine mm_iinc (v := (nI i) + 1) d_Lines_best_60 rfl rfl (by decide) ?_
        refine mm_goto (tgt := 19) d_Lines_best_63 (by decide) ?_
        have hk9 := nI_clamp (n := i) (by omega)
        try rw [hk9] at c_26
        try rw [hk9] at c_35
        try rw [hk9] at c_46
        refine mm_G.cast (l' := [some (.ref a), some (.int o), some (.int ((ln_bst Rk o (i + 1)).1)), some (.int ((ln_bst Rk o (i + 1)).2)), some (.int (nI (i + 1)))]) ?_ rfl rfl (ih (i + 1) (by omega))
        all_goals (simp [nI_1, ln_bst, hk9, c_26, c_35, c_46, Int32.not_le.mp c_46] <;> try rfl)
set_option maxRecDepth 100000 in
theorem J_Lines_best {sc : mm_Sc} {n : Nat} {h : mm_H} {a b c : Nat} {Wy Rk : Nat → Int32} {hi u kp : Int32} (hbc : b ≠ c) (ha : h a = some (.inr (1, [.ref b, .ref c, .int hi, .int u, .int kp]))) (hb : h b = some (.inl (0, 16, .inl Wy))) (hc : h c = some (.inl (0, 16, .inl Rk))) : mm_J sc y_Lines_best 2 [.ref a] n h 0 0 (fun o n' h' => o = .inl (some (.int ((ln_bst Rk (ln_pen Wy u kp 16 &&& (hi ^^^ (-1))) 16).1))) ∧ n' = n ∧ h' = h) := by
  refine mm_J.of (show mm_G sc y_Lines_best 2 0 [some (.ref a), none, none, none, none] [] n h 0 0 _ from ?_) ce_Lines_best.2.2.2.2.1 (Nat.le_of_ble_eq_true rfl) (by simp [Value.category])
  refine mm_aload_n d_Lines_best_0 rfl ?_
  refine mm_callD d_Lines_best_1 (mm_Inv.vi (as := []) d_Lines_best_1 (Or.inl m_80) m_81 ce_Lines_pending.2.1 ce_Lines_pending.2.2.1 m_82 ce_Lines_pending.2.2.2.2.2 ln_Lines_pending cl_Lines ha rfl) (J_Lines_pending hbc ha hb hc) (by decide) ce_Lines_pending.1 ce_Lines_pending.2.1 ce_Lines_pending.2.2.1 ce_Lines_pending.2.2.2.1 (Nat.le_of_ble_eq_true rfl) ?_
  refine mm_aload_n d_Lines_best_4 rfl ?_
  refine mm_getf d_Lines_best_5 cl_Lines fl_Lines_18_Lines (by decide) ha rfl ?_
  refine mm_iconst (v := (-1)) d_Lines_best_8 (by decide) ?_
  refine mm_ixor d_Lines_best_9 ?_
  refine mm_iand d_Lines_best_10 ?_
  refine mm_istore_n d_Lines_best_11 (by decide) ?_
  refine mm_iconst (v := (-1)) d_Lines_best_12 (by decide) ?_
  refine mm_istore_n d_Lines_best_13 (by decide) ?_
  refine mm_iconst (v := (-1)) d_Lines_best_14 (by decide) ?_
  refine mm_istore_n d_Lines_best_15 (by decide) ?_
  refine mm_iconst (v := 0) d_Lines_best_16 (by decide) ?_
  refine mm_istore d_Lines_best_17 (by decide) ?_
  exact lp_Lines_best hbc ha hb hc (mm_iload_n d_Lines_best_66 rfl (mm_ireturn d_Lines_best_67 rfl ⟨rfl, rfl, rfl⟩)) 16 0 (by omega)
set_option maxRecDepth 100000 in
theorem lp_Lines_follow {sc : mm_Sc} {n d kc ks : Nat} {h : mm_H} {Q : mm_O → Nat → mm_H → Prop} {a b c : Nat} {Wy Rk : Nat → Int32} {hi u kp : Int32} (hbc : b ≠ c) {ch ro w : Int32} (ha : h a = some (.inr (1, [.ref b, .ref c, .int hi, .int u, .int kp]))) (hb : h b = some (.inl (0, 16, .inl Wy))) (hc : h c = some (.inl (0, 16, .inl Rk)))  (hq : mm_G sc y_Lines_follow d 80 [some (.ref a), some (.int w), some (.int ch), some (.int ro), some (.int (nI 16))] [] n (va_up h a (some (.inr (1, [.ref b, .ref c, .int hi, .int u, .int (ln_fol Wy ch ro kp 16)])))) kc ks Q) : ∀ (m i : Nat), i + m = 16 → mm_G sc y_Lines_follow d 24 [some (.ref a), some (.int w), some (.int ch), some (.int ro), some (.int (nI i))] [] n (va_up h a (some (.inr (1, [.ref b, .ref c, .int hi, .int u, .int (ln_fol Wy ch ro kp i)])))) kc ks Q := by
  intro m
  induction m with
  | zero =>
    intro i hi9
    obtain rfl : i = 16 := by omega
    refine mm_hp (fun g0 e0 => ?_)
    have ha_g : g0 a = some (.inr (1, [.ref b, .ref c, .int hi, .int u, .int (ln_fol Wy ch ro kp 16)])) := by rw [e0]; exact va_up_self _ _ _
    have hb_g : g0 b = some (.inl (0, 16, .inl Wy)) := by rw [e0, va_up_ne _ _ (mm_neq hb ha (by simp))]; exact hb
    have hc_g : g0 c = some (.inl (0, 16, .inl Rk)) := by rw [e0, va_up_ne _ _ (mm_neq hc ha (by simp))]; exact hc
    refine mm_iload d_Lines_follow_24 rfl ?_
    refine mm_aload_n d_Lines_follow_26 rfl ?_
    refine mm_getf d_Lines_follow_27 cl_Lines fl_Lines_11_Lines (by decide) ha_g rfl ?_
    refine mm_alen d_Lines_follow_30 hb_g (by decide) ?_
    refine mm_icmp_ge (tgt := 80) d_Lines_follow_31 (by decide) (fun c_31 => ?_) (fun c_31 => absurd (show nI 16 ≤ nI 16 from Int32.le_refl _) c_31)
    rw [e0]
    exact hq
  | succ m ih =>
    intro i hi9
    refine mm_hp (fun g0 e0 => ?_)
    have ha_g : g0 a = some (.inr (1, [.ref b, .ref c, .int hi, .int u, .int (ln_fol Wy ch ro kp i)])) := by rw [e0]; exact va_up_self _ _ _
    have hb_g : g0 b = some (.inl (0, 16, .inl Wy)) := by rw [e0, va_up_ne _ _ (mm_neq hb ha (by simp))]; exact hb
    have hc_g : g0 c = some (.inl (0, 16, .inl Rk)) := by rw [e0, va_up_ne _ _ (mm_neq hc ha (by simp))]; exact hc
    refine mm_iload d_Lines_follow_24 rfl ?_
    refine mm_aload_n d_Lines_follow_26 rfl ?_
    refine mm_getf d_Lines_follow_27 cl_Lines fl_Lines_11_Lines (by decide) ha_g rfl ?_
    refine mm_alen d_Lines_follow_30 hb_g (by decide) ?_
    refine mm_icmp_ge (tgt := 80) d_Lines_follow_31 (by decide) (fun c_31 => absurd c_31 (show ¬ nI 16 ≤ nI i from nI_ge (by omega) (by omega))) (fun c_31 => ?_)
    refine mm_aload_n d_Lines_follow_34 rfl ?_
    refine mm_getf d_Lines_follow_35 cl_Lines fl_Lines_11_Lines (by decide) ha_g rfl ?_
    refine mm_iload d_Lines_follow_38 rfl ?_
    refine mm_iald d_Lines_follow_40 hb_g (vp_in_nI (by omega) (by omega)) ?_
    refine mm_if_eq (tgt := 74) d_Lines_follow_41 (by decide) (fun c_41 => ?_) (fun c_41 => ?_)
    · refine mm_iinc (v := (nI i) + 1) d_Lines_follow_74 rfl rfl (by decide) ?_
      refine mm_goto (tgt := 24) d_Lines_follow_77 (by decide) ?_
      have hk9 := nI_clamp (n := i) (by omega)
      try rw [hk9] at c_31
      try rw [hk9] at c_41
      refine mm_G.cast (l' := [some (.ref a), some (.int w), some (.int ch), some (.int ro), some (.int (nI (i + 1)))]) ?_ rfl (by simp [e0, ln_fol, hk9, c_31, c_41]) (ih (i + 1) (by omega))
      all_goals (simp [nI_1, ln_fol, hk9, c_31, c_41] <;> try rfl)
    · refine mm_aload_n d_Lines_follow_44 rfl ?_
      refine mm_dup d_Lines_follow_45 rfl ?_
      refine mm_getf d_Lines_follow_46 cl_Lines fl_Lines_25_Lines (by decide) ha_g rfl ?_
      refine mm_aload_n d_Lines_follow_49 rfl ?_
      refine mm_getf d_Lines_follow_50 cl_Lines fl_Lines_11_Lines (by decide) ha_g rfl ?_
      refine mm_iload d_Lines_follow_53 rfl ?_
      refine mm_iald d_Lines_follow_55 hb_g (vp_in_nI (by omega) (by omega)) ?_
      refine mm_iconst (v := 2) d_Lines_follow_56 (by decide) ?_
      refine mm_icmp_ne (tgt := 64) d_Lines_follow_57 (by decide) (fun c_57 => ?_) (fun c_57 => ?_)
      · refine mm_iload_n d_Lines_follow_64 rfl ?_
        refine mm_iconst (v := 1) d_Lines_follow_65 (by decide) ?_
        refine mm_iload d_Lines_follow_66 rfl ?_
        refine mm_ishl d_Lines_follow_68 ?_
        refine mm_iand d_Lines_follow_69 ?_
        refine mm_ior d_Lines_follow_70 ?_
        refine mm_putf d_Lines_follow_71 cl_Lines ty_Lines fl_Lines_25_Lines (by decide) rfl rfl rfl ha_g (Nat.le_of_ble_eq_true rfl) ?_
        refine mm_hp (fun h1 e1 => ?_)
        have ha_g_v1 : h1 a = some (.inr (1, [.ref b, .ref c, .int hi, .int u, .int ((ln_fol Wy ch ro kp i) ||| (ro &&& (1 <<< ((nI i) &&& 31))))])) := by rw [e1]; exact va_up_self _ _ _
        have hb_g_v1 : h1 b = some (.inl (0, 16, .inl Wy)) := by rw [e1, va_up_ne _ _ (mm_neq hb_g ha_g (by simp))]; exact hb_g
        have hc_g_v1 : h1 c = some (.inl (0, 16, .inl Rk)) := by rw [e1, va_up_ne _ _ (mm_neq hc_g ha_g (by simp))]; exact hc_g
        refine mm_iinc (v := (nI i) + 1) d_Lines_follow_74 rfl rfl (by decide) ?_
        refine mm_goto (tgt := 24) d_Lines_follow_77 (by decide) ?_
        have hk9 := nI_clamp (n := i) (by omega)
        try rw [hk9] at c_31
        try rw [hk9] at c_41
        try rw [hk9] at c_57
        refine mm_G.cast (l' := [some (.ref a), some (.int w), some (.int ch), some (.int ro), some (.int (nI (i + 1)))]) ?_ rfl (by simp [bx_uu, e1, e0, ln_fol, hk9, c_31, c_41, c_57]) (ih (i + 1) (by omega))
        all_goals (simp [nI_1, ln_fol, hk9, c_31, c_41, c_57] <;> try rfl)
      · refine mm_iload_n d_Lines_follow_60 rfl ?_
        refine mm_goto (tgt := 65) d_Lines_follow_61 (by decide) ?_
        refine mm_iconst (v := 1) d_Lines_follow_65 (by decide) ?_
        refine mm_iload d_Lines_follow_66 rfl ?_
        refine mm_ishl d_Lines_follow_68 ?_
        refine mm_iand d_Lines_follow_69 ?_
        refine mm_ior d_Lines_follow_70 ?_
        refine mm_putf d_Lines_follow_71 cl_Lines ty_Lines fl_Lines_25_Lines (by decide) rfl rfl rfl ha_g (Nat.le_of_ble_eq_true rfl) ?_
        refine mm_hp (fun h2 e2 => ?_)
        have ha_g_v2 : h2 a = some (.inr (1, [.ref b, .ref c, .int hi, .int u, .int ((ln_fol Wy ch ro kp i) ||| (ch &&& (1 <<< ((nI i) &&& 31))))])) := by rw [e2]; exact va_up_self _ _ _
        have hb_g_v2 : h2 b = some (.inl (0, 16, .inl Wy)) := by rw [e2, va_up_ne _ _ (mm_neq hb_g ha_g (by simp))]; exact hb_g
        have hc_g_v2 : h2 c = some (.inl (0, 16, .inl Rk)) := by rw [e2, va_up_ne _ _ (mm_neq hc_g ha_g (by simp))]; exact hc_g
        refine mm_iinc (v := (nI i) + 1) d_Lines_follow_74 rfl rfl (by decide) ?_
        refine mm_goto (tgt := 24) d_Lines_follow_77 (by decide) ?_
        have hk9 := nI_clamp (n := i) (by omega)
        try rw [hk9] at c_31
        try rw [hk9] at c_41
        try rw [hk9] at c_57
        refine mm_G.cast (l' := [some (.ref a), some (.int w), some (.int ch), some (.int ro), some (.int (nI (i + 1)))]) ?_ rfl (by simp [bx_uu, e2, e0, ln_fol, hk9, c_31, c_41, c_57]) (ih (i + 1) (by omega))
        all_goals (simp [nI_1, ln_fol, hk9, c_31, c_41, c_57] <;> try rfl)
def ln_keep (Wy : Nat → Int32) (u kp w : Int32) : Int32 := if w ^^^ u = 0 then kp else ln_fol Wy (w ^^^ u) ((w ^^^ u) &&& w) kp 16
theorem ln_xor0 {w u : Int32} (e : w ^^^ u = 0) : w = u := by
  have h1 : w ^^^ u ^^^ u = 0 ^^^ u := by rw [e]
  rw [Int32.xor_assoc, Int32.xor_self, Int32.xor_zero, Int32.zero_xor] at h1
  exact h1
set_option maxRecDepth 100000 in
theorem J_Lines_follow {sc : mm_Sc} {n : Nat} {h : mm_H} {a b c : Nat} {Wy Rk : Nat → Int32} {hi u kp : Int32} (hbc : b ≠ c) {w : Int32} (ha : h a = some (.inr (1, [.ref b, .ref c, .int hi, .int u, .int kp]))) (hb : h b = some (.inl (0, 16, .inl Wy))) (hc : h c = some (.inl (0, 16, .inl Rk))) : mm_J sc y_Lines_follow 1 [.ref a, .int w] n h 0 0 (fun o n' h' => o = .inl (none) ∧ n' = n ∧ h' = va_up h a (some (.inr (1, [.ref b, .ref c, .int hi, .int w, .int (ln_keep Wy u kp w)])))) := by
  refine mm_J.of (show mm_G sc y_Lines_follow 1 0 [some (.ref a), some (.int w), none, none, none] [] n h 0 0 _ from ?_) ce_Lines_follow.2.2.2.2.1 (Nat.le_of_ble_eq_true rfl) (by simp [Value.category])
  refine mm_iload_n d_Lines_follow_0 rfl ?_
  refine mm_aload_n d_Lines_follow_1 rfl ?_
  refine mm_getf d_Lines_follow_2 cl_Lines fl_Lines_22_Lines (by decide) ha rfl ?_
  refine mm_ixor d_Lines_follow_5 ?_
  refine mm_istore_n d_Lines_follow_6 (by decide) ?_
  refine mm_iload_n d_Lines_follow_7 rfl ?_
  refine mm_if_ne (tgt := 12) d_Lines_follow_8 (by decide) (fun c_8 => ?_) (fun c_8 => ?_)
  · refine mm_aload_n d_Lines_follow_12 rfl ?_
    refine mm_iload_n d_Lines_follow_13 rfl ?_
    refine mm_putf d_Lines_follow_14 cl_Lines ty_Lines fl_Lines_22_Lines (by decide) rfl rfl rfl ha (Nat.le_of_ble_eq_true rfl) ?_
    refine mm_hp (fun h1 e1 => ?_)
    have ha_v1 : h1 a = some (.inr (1, [.ref b, .ref c, .int hi, .int w, .int kp])) := by rw [e1]; exact va_up_self _ _ _
    have hb_v1 : h1 b = some (.inl (0, 16, .inl Wy)) := by rw [e1, va_up_ne _ _ (mm_neq hb ha (by simp))]; exact hb
    have hc_v1 : h1 c = some (.inl (0, 16, .inl Rk)) := by rw [e1, va_up_ne _ _ (mm_neq hc ha (by simp))]; exact hc
    refine mm_iload_n d_Lines_follow_17 rfl ?_
    refine mm_iload_n d_Lines_follow_18 rfl ?_
    refine mm_iand d_Lines_follow_19 ?_
    refine mm_istore_n d_Lines_follow_20 (by decide) ?_
    refine mm_iconst (v := 0) d_Lines_follow_21 (by decide) ?_
    refine mm_istore d_Lines_follow_22 (by decide) ?_
    refine mm_G.cast rfl rfl (mm_up_id ha_v1).symm (lp_Lines_follow (kp := kp) (u := w) (hi := hi) hbc ha_v1 hb_v1 hc_v1 (mm_return d_Lines_follow_80 rfl ⟨rfl, rfl, ?_⟩) 16 0 (by omega))
    simp [e1, bx_uu, ln_keep, c_8]
  · exact mm_return d_Lines_follow_11 rfl ⟨rfl, rfl, mm_up_idE ha (by rw [ln_xor0 c_8]; simp [ln_keep])⟩
