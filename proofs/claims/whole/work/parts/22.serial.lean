set_option maxRecDepth 100000 in
theorem J_Serial_isFull {sc : mm_Sc} {n : Nat} {h : mm_H} {a b c s : Nat} {A O : Nat → Int32} {fc wa go se sl mo : Int32} (hbc : b ≠ c) (ha : h a = some (.inr (5, [.ref b, .int fc, .int wa, .ref c, .int go, .int se, .int sl, .int mo, .ref s]))) (hb : h b = some (.inl (0, 32, .inl A))) (hc : h c = some (.inl (0, 32, .inl O))) : mm_J sc y_Serial_isFull 1 [.ref a] n h 0 0 (fun o n' h' => o = .inl (some (.int (if wa < 32 then 0 else 1))) ∧ n' = n ∧ h' = h) := by
  refine mm_J.of (show mm_G sc y_Serial_isFull 1 0 [some (.ref a)] [] n h 0 0 _ from ?_) ce_Serial_isFull.2.2.2.2.1 (Nat.le_of_ble_eq_true rfl) (by simp [Value.category])
  refine mm_aload_n d_Serial_isFull_0 rfl ?_
  refine mm_getf d_Serial_isFull_1 cl_Serial fl_Serial_17_Serial (by decide) ha rfl ?_
  refine mm_bipush (v := 32) d_Serial_isFull_4 (by decide) ?_
  refine mm_icmp_lt (tgt := 13) d_Serial_isFull_6 (by decide) (fun c_6 => ?_) (fun c_6 => ?_)
  · refine mm_iconst (v := 0) d_Serial_isFull_13 (by decide) ?_
    exact mm_zreturn d_Serial_isFull_14 rfl rfl ⟨by simp [c_6, Int32.not_le.mpr c_6], rfl, rfl⟩
  · refine mm_iconst (v := 1) d_Serial_isFull_9 (by decide) ?_
    refine mm_goto (tgt := 14) d_Serial_isFull_10 (by decide) ?_
    exact mm_zreturn d_Serial_isFull_14 rfl rfl ⟨by simp [c_6, Int32.not_lt.mp c_6], rfl, rfl⟩
set_option maxRecDepth 100000 in
theorem J_Serial_accept {sc : mm_Sc} {n : Nat} {h : mm_H} {a b c s : Nat} {A O : Nat → Int32} {fc wa go se sl mo : Int32} (hbc : b ≠ c) {v : Int32} (ha : h a = some (.inr (5, [.ref b, .int fc, .int wa, .ref c, .int go, .int se, .int sl, .int mo, .ref s]))) (hb : h b = some (.inl (0, 32, .inl A))) (hc : h c = some (.inl (0, 32, .inl O))) : mm_J sc y_Serial_accept 1 [.ref a, .int v] n h 0 0 (fun o n' h' => o = .inl (some (.int (wa + 1))) ∧ n' = n ∧ h' = va_up (va_up h b (some (.inl (0, 32, .inl (upd A (fc + wa &&& 31).toNatClampNeg v))))) a (some (.inr (5, [.ref b, .int fc, .int (wa + 1), .ref c, .int go, .int se, .int sl, .int mo, .ref s])))) := by
  refine mm_J.of (show mm_G sc y_Serial_accept 1 0 [some (.ref a), some (.int v)] [] n h 0 0 _ from ?_) ce_Serial_accept.2.2.2.2.1 (Nat.le_of_ble_eq_true rfl) (by simp [Value.category])
  refine mm_aload_n d_Serial_accept_0 rfl ?_
  refine mm_getf d_Serial_accept_1 cl_Serial fl_Serial_9_Serial (by decide) ha rfl ?_
  refine mm_aload_n d_Serial_accept_4 rfl ?_
  refine mm_getf d_Serial_accept_5 cl_Serial fl_Serial_13_Serial (by decide) ha rfl ?_
  refine mm_aload_n d_Serial_accept_8 rfl ?_
  refine mm_getf d_Serial_accept_9 cl_Serial fl_Serial_17_Serial (by decide) ha rfl ?_
  refine mm_iadd d_Serial_accept_12 ?_
  refine mm_bipush (v := 31) d_Serial_accept_13 (by decide) ?_
  refine mm_iand d_Serial_accept_15 ?_
  refine mm_iload_n d_Serial_accept_16 rfl ?_
  refine mm_iast d_Serial_accept_17 hb (show vp_in _ 32 from pk_andIn _ 5 (by decide) (by decide)) ?_
  refine mm_hp (fun h1 e1 => ?_)
  have ha_v1 : h1 a = some (.inr (5, [.ref b, .int fc, .int wa, .ref c, .int go, .int se, .int sl, .int mo, .ref s])) := by rw [e1, va_up_ne _ _ (mm_neq ha hb (by simp))]; exact ha
  have hb_v1 : h1 b = some (.inl (0, 32, .inl (upd A ((fc + wa) &&& 31).toNatClampNeg v))) := by rw [e1]; exact va_up_self _ _ _
  have hc_v1 : h1 c = some (.inl (0, 32, .inl O)) := by rw [e1, va_up_ne _ _ (Ne.symm hbc)]; exact hc
  refine mm_aload_n d_Serial_accept_18 rfl ?_
  refine mm_dup d_Serial_accept_19 rfl ?_
  refine mm_getf d_Serial_accept_20 cl_Serial fl_Serial_17_Serial (by decide) ha_v1 rfl ?_
  refine mm_iconst (v := 1) d_Serial_accept_23 (by decide) ?_
  refine mm_iadd d_Serial_accept_24 ?_
  refine mm_putf d_Serial_accept_25 cl_Serial ty_Serial fl_Serial_17_Serial (by decide) rfl rfl rfl ha_v1 (Nat.le_of_ble_eq_true rfl) ?_
  refine mm_hp (fun h2 e2 => ?_)
  have ha_v2 : h2 a = some (.inr (5, [.ref b, .int fc, .int (wa + 1), .ref c, .int go, .int se, .int sl, .int mo, .ref s])) := by rw [e2]; exact va_up_self _ _ _
  have hb_v2 : h2 b = some (.inl (0, 32, .inl (upd A ((fc + wa) &&& 31).toNatClampNeg v))) := by rw [e2, va_up_ne _ _ (mm_neq hb_v1 ha_v1 (by simp))]; exact hb_v1
  have hc_v2 : h2 c = some (.inl (0, 32, .inl O)) := by rw [e2, va_up_ne _ _ (mm_neq hc_v1 ha_v1 (by simp))]; exact hc_v1
  refine mm_aload_n d_Serial_accept_28 rfl ?_
  refine mm_getf d_Serial_accept_29 cl_Serial fl_Serial_17_Serial (by decide) ha_v2 rfl ?_
  exact mm_ireturn d_Serial_accept_32 rfl (by first | (refine ⟨?_, rfl, ?_⟩ <;> simp [bx_uu, e2, e1] <;> done) | (exfalso; simp_all; done))
def sr_kept (go : Int32) : Int32 := if 32 < go then 32 else go
set_option maxRecDepth 100000 in
theorem J_Serial_goneKept {sc : mm_Sc} {n : Nat} {h : mm_H} {a b c s : Nat} {A O : Nat → Int32} {fc wa go se sl mo : Int32} (hbc : b ≠ c) (ha : h a = some (.inr (5, [.ref b, .int fc, .int wa, .ref c, .int go, .int se, .int sl, .int mo, .ref s]))) (hb : h b = some (.inl (0, 32, .inl A))) (hc : h c = some (.inl (0, 32, .inl O))) : mm_J sc y_Serial_goneKept 2 [.ref a] n h 0 0 (fun o n' h' => o = .inl (some (.int (sr_kept go))) ∧ n' = n ∧ h' = h) := by
  refine mm_J.of (show mm_G sc y_Serial_goneKept 2 0 [some (.ref a)] [] n h 0 0 _ from ?_) ce_Serial_goneKept.2.2.2.2.1 (Nat.le_of_ble_eq_true rfl) (by simp [Value.category])
  refine mm_aload_n d_Serial_goneKept_0 rfl ?_
  refine mm_getf d_Serial_goneKept_1 cl_Serial fl_Serial_23_Serial (by decide) ha rfl ?_
  refine mm_bipush (v := 32) d_Serial_goneKept_4 (by decide) ?_
  refine mm_mmin d_Serial_goneKept_6 m_620 m_621 m_18 m_622 (by decide) (Nat.le_of_ble_eq_true rfl) ?_
  exact mm_ireturn d_Serial_goneKept_9 rfl ⟨by simp [sr_kept], rfl, rfl⟩
set_option maxRecDepth 100000 in
theorem J_Serial_goneAt {sc : mm_Sc} {n : Nat} {h : mm_H} {a b c s : Nat} {A O : Nat → Int32} {fc wa go se sl mo : Int32} (hbc : b ≠ c) {k : Int32} (ha : h a = some (.inr (5, [.ref b, .int fc, .int wa, .ref c, .int go, .int se, .int sl, .int mo, .ref s]))) (hb : h b = some (.inl (0, 32, .inl A))) (hc : h c = some (.inl (0, 32, .inl O))) : mm_J sc y_Serial_goneAt 3 [.ref a, .int k] n h 0 0 (fun o n' h' => o = .inl (some (.int (O (go - sr_kept go + k &&& 31).toNatClampNeg))) ∧ n' = n ∧ h' = h) := by
  refine mm_J.of (show mm_G sc y_Serial_goneAt 3 0 [some (.ref a), some (.int k)] [] n h 0 0 _ from ?_) ce_Serial_goneAt.2.2.2.2.1 (Nat.le_of_ble_eq_true rfl) (by simp [Value.category])
  refine mm_aload_n d_Serial_goneAt_0 rfl ?_
  refine mm_getf d_Serial_goneAt_1 cl_Serial fl_Serial_20_Serial (by decide) ha rfl ?_
  refine mm_aload_n d_Serial_goneAt_4 rfl ?_
  refine mm_getf d_Serial_goneAt_5 cl_Serial fl_Serial_23_Serial (by decide) ha rfl ?_
  refine mm_aload_n d_Serial_goneAt_8 rfl ?_
  refine mm_callD d_Serial_goneAt_9 (mm_Inv.vi (as := []) d_Serial_goneAt_9 (Or.inl m_628) m_617 ce_Serial_goneKept.2.1 ce_Serial_goneKept.2.2.1 m_618 ce_Serial_goneKept.2.2.2.2.2 ln_Serial_goneKept cl_Serial ha rfl) (J_Serial_goneKept hbc ha hb hc) (by decide) ce_Serial_goneKept.1 ce_Serial_goneKept.2.1 ce_Serial_goneKept.2.2.1 ce_Serial_goneKept.2.2.2.1 (Nat.le_of_ble_eq_true rfl) ?_
  refine mm_isub d_Serial_goneAt_12 ?_
  refine mm_iload_n d_Serial_goneAt_13 rfl ?_
  refine mm_iadd d_Serial_goneAt_14 ?_
  refine mm_bipush (v := 31) d_Serial_goneAt_15 (by decide) ?_
  refine mm_iand d_Serial_goneAt_17 ?_
  refine mm_iald d_Serial_goneAt_18 hc (show vp_in _ 32 from pk_andIn _ 5 (by decide) (by decide)) ?_
  exact mm_ireturn d_Serial_goneAt_19 rfl ⟨by simp [], rfl, rfl⟩
set_option maxRecDepth 100000 in
theorem J_Serial_nextCome {sc : mm_Sc} {n : Nat} {h : mm_H} {a b c s : Nat} {A O : Nat → Int32} {fc wa go se sl mo : Int32} (hbc : b ≠ c) (ha : h a = some (.inr (5, [.ref b, .int fc, .int wa, .ref c, .int go, .int se, .int sl, .int mo, .ref s]))) (hb : h b = some (.inl (0, 32, .inl A))) (hc : h c = some (.inl (0, 32, .inl O))) : mm_J sc y_Serial_nextCome 1 [.ref a] n h 0 0 (fun o n' h' => o = .inl (some (.int (if wa ≤ 0 then 0 else A (fc &&& 31).toNatClampNeg))) ∧ n' = n ∧ h' = va_up h a (some (.inr (5, [.ref b, .int (if wa ≤ 0 then fc else fc + 1 &&& 31), .int (if wa ≤ 0 then wa else wa - 1), .ref c, .int go, .int se, .int sl, .int mo, .ref s])))) := by
  refine mm_J.of (show mm_G sc y_Serial_nextCome 1 0 [some (.ref a), none] [] n h 0 0 _ from ?_) ce_Serial_nextCome.2.2.2.2.1 (Nat.le_of_ble_eq_true rfl) (by simp [Value.category])
  refine mm_aload_n d_Serial_nextCome_0 rfl ?_
  refine mm_getf d_Serial_nextCome_1 cl_Serial fl_Serial_17_Serial (by decide) ha rfl ?_
  refine mm_if_gt (tgt := 9) d_Serial_nextCome_4 (by decide) (fun c_4 => ?_) (fun c_4 => ?_)
  · refine mm_aload_n d_Serial_nextCome_9 rfl ?_
    refine mm_getf d_Serial_nextCome_10 cl_Serial fl_Serial_9_Serial (by decide) ha rfl ?_
    refine mm_aload_n d_Serial_nextCome_13 rfl ?_
    refine mm_getf d_Serial_nextCome_14 cl_Serial fl_Serial_13_Serial (by decide) ha rfl ?_
    refine mm_bipush (v := 31) d_Serial_nextCome_17 (by decide) ?_
    refine mm_iand d_Serial_nextCome_19 ?_
    refine mm_iald d_Serial_nextCome_20 hb (show vp_in _ 32 from pk_andIn _ 5 (by decide) (by decide)) ?_
    refine mm_istore_n d_Serial_nextCome_21 (by decide) ?_
    refine mm_aload_n d_Serial_nextCome_22 rfl ?_
    refine mm_aload_n d_Serial_nextCome_23 rfl ?_
    refine mm_getf d_Serial_nextCome_24 cl_Serial fl_Serial_13_Serial (by decide) ha rfl ?_
    refine mm_iconst (v := 1) d_Serial_nextCome_27 (by decide) ?_
    refine mm_iadd d_Serial_nextCome_28 ?_
    refine mm_bipush (v := 31) d_Serial_nextCome_29 (by decide) ?_
    refine mm_iand d_Serial_nextCome_31 ?_
    refine mm_putf d_Serial_nextCome_32 cl_Serial ty_Serial fl_Serial_13_Serial (by decide) rfl rfl rfl ha (Nat.le_of_ble_eq_true rfl) ?_
    refine mm_hp (fun h1 e1 => ?_)
    have ha_v1 : h1 a = some (.inr (5, [.ref b, .int ((fc + 1) &&& 31), .int wa, .ref c, .int go, .int se, .int sl, .int mo, .ref s])) := by rw [e1]; exact va_up_self _ _ _
    have hb_v1 : h1 b = some (.inl (0, 32, .inl A)) := by rw [e1, va_up_ne _ _ (mm_neq hb ha (by simp))]; exact hb
    have hc_v1 : h1 c = some (.inl (0, 32, .inl O)) := by rw [e1, va_up_ne _ _ (mm_neq hc ha (by simp))]; exact hc
    refine mm_aload_n d_Serial_nextCome_35 rfl ?_
    refine mm_dup d_Serial_nextCome_36 rfl ?_
    refine mm_getf d_Serial_nextCome_37 cl_Serial fl_Serial_17_Serial (by decide) ha_v1 rfl ?_
    refine mm_iconst (v := 1) d_Serial_nextCome_40 (by decide) ?_
    refine mm_isub d_Serial_nextCome_41 ?_
    refine mm_putf d_Serial_nextCome_42 cl_Serial ty_Serial fl_Serial_17_Serial (by decide) rfl rfl rfl ha_v1 (Nat.le_of_ble_eq_true rfl) ?_
    refine mm_hp (fun h2 e2 => ?_)
    have ha_v2 : h2 a = some (.inr (5, [.ref b, .int ((fc + 1) &&& 31), .int (wa - 1), .ref c, .int go, .int se, .int sl, .int mo, .ref s])) := by rw [e2]; exact va_up_self _ _ _
    have hb_v2 : h2 b = some (.inl (0, 32, .inl A)) := by rw [e2, va_up_ne _ _ (mm_neq hb_v1 ha_v1 (by simp))]; exact hb_v1
    have hc_v2 : h2 c = some (.inl (0, 32, .inl O)) := by rw [e2, va_up_ne _ _ (mm_neq hc_v1 ha_v1 (by simp))]; exact hc_v1
    refine mm_iload_n d_Serial_nextCome_45 rfl ?_
    exact mm_ireturn d_Serial_nextCome_46 rfl (by first | (refine ⟨?_, rfl, ?_⟩ <;> simp [c_4, Int32.not_le.mpr c_4, bx_uu, e2, e1] <;> done) | (exfalso; simp_all; done))
  · refine mm_iconst (v := 0) d_Serial_nextCome_7 (by decide) ?_
    exact mm_ireturn d_Serial_nextCome_8 rfl ⟨by simp [c_4, Int32.not_lt.mp c_4], rfl, by first | exact Eq.refl h | exact mm_up_idE ha (by simp [c_4, Int32.not_lt.mp c_4])⟩
def sr_look (A : Nat → Int32) (fc wa sl mo k : Int32) : Int32 := if k = 0 then (if wa ≤ 0 then 0 else A (fc &&& 31).toNatClampNeg) else if k = 1 then (if wa ≤ 0 then 0 else 1) + (if sl = 0 then 2 else 0) else if k = 2 then mo else 0
set_option maxRecDepth 100000 in
theorem J_Serial_look {sc : mm_Sc} {n : Nat} {h : mm_H} {a b c s : Nat} {A O : Nat → Int32} {fc wa go se sl mo : Int32} (hbc : b ≠ c) {k : Int32} (ha : h a = some (.inr (5, [.ref b, .int fc, .int wa, .ref c, .int go, .int se, .int sl, .int mo, .ref s]))) (hb : h b = some (.inl (0, 32, .inl A))) (hc : h c = some (.inl (0, 32, .inl O))) : mm_J sc y_Serial_look 2 [.ref a, .int k] n h 0 0 (fun o n' h' => o = .inl (some (.int (sr_look A fc wa sl mo k))) ∧ n' = n ∧ h' = va_up h a (some (.inr (5, [.ref b, .int (if k = 0 then (if wa ≤ 0 then fc else fc + 1 &&& 31) else fc), .int (if k = 0 then (if wa ≤ 0 then wa else wa - 1) else wa), .ref c, .int go, .int se, .int sl, .int mo, .ref s])))) := by
  refine mm_J.of (show mm_G sc y_Serial_look 2 0 [some (.ref a), some (.int k)] [] n h 0 0 _ from ?_) ce_Serial_look.2.2.2.2.1 (Nat.le_of_ble_eq_true rfl) (by simp [Value.category])
  refine mm_iload_n d_Serial_look_0 rfl ?_
  by_cases c_1_0 : k = 0
  · refine mm_tableIn (tgt := 28) (off := 27) d_Serial_look_1 (by rw [c_1_0]; decide) (by rw [c_1_0]; decide) (by rw [c_1_0]; decide) (by decide) ?_
    refine mm_aload_n d_Serial_look_28 rfl ?_
    refine mm_callD d_Serial_look_29 (mm_Inv.vi (as := []) d_Serial_look_29 (Or.inl m_534) m_536 ce_Serial_nextCome.2.1 ce_Serial_nextCome.2.2.1 mp_13 ce_Serial_nextCome.2.2.2.2.2 ln_Serial_nextCome cl_Serial ha rfl) (J_Serial_nextCome hbc ha hb hc) (by decide) ce_Serial_nextCome.1 ce_Serial_nextCome.2.1 ce_Serial_nextCome.2.2.1 ce_Serial_nextCome.2.2.2.1 (Nat.le_of_ble_eq_true rfl) ?_
    refine mm_hp (fun h1 e1 => ?_)
    have ha_v1 : h1 a = some (.inr (5, [.ref b, .int (if wa ≤ 0 then fc else fc + 1 &&& 31), .int (if wa ≤ 0 then wa else wa - 1), .ref c, .int go, .int se, .int sl, .int mo, .ref s])) := by rw [e1]; exact va_up_self _ _ _
    have hb_v1 : h1 b = some (.inl (0, 32, .inl A)) := by rw [e1, va_up_ne _ _ (mm_neq hb ha (by simp))]; exact hb
    have hc_v1 : h1 c = some (.inl (0, 32, .inl O)) := by rw [e1, va_up_ne _ _ (mm_neq hc ha (by simp))]; exact hc
    exact mm_ireturn d_Serial_look_32 rfl (by first | (refine ⟨?_, rfl, ?_⟩ <;> simp [sr_look, c_1_0, bx_uu, e1] <;> done) | (exfalso; simp_all; done))
  by_cases c_1_1 : k = 1
  · refine mm_tableIn (tgt := 33) (off := 32) d_Serial_look_1 (by rw [c_1_1]; decide) (by rw [c_1_1]; decide) (by rw [c_1_1]; decide) (by decide) ?_
    refine mm_aload_n d_Serial_look_33 rfl ?_
    refine mm_getf d_Serial_look_34 cl_Serial fl_Serial_17_Serial (by decide) ha rfl ?_
    refine mm_if_le (tgt := 44) d_Serial_look_37 (by decide) (fun c_37 => ?_) (fun c_37 => ?_)
    · refine mm_iconst (v := 0) d_Serial_look_44 (by decide) ?_
      refine mm_aload_n d_Serial_look_45 rfl ?_
      refine mm_getf d_Serial_look_46 cl_Serial fl_Serial_29_Serial (by decide) ha rfl ?_
      refine mm_if_ne (tgt := 56) d_Serial_look_49 (by decide) (fun c_49 => ?_) (fun c_49 => ?_)
      · refine mm_iconst (v := 0) d_Serial_look_56 (by decide) ?_
        refine mm_iadd d_Serial_look_57 ?_
        exact mm_ireturn d_Serial_look_58 rfl ⟨by simp [sr_look, c_1_0, c_1_1, c_37, Int32.not_lt.mpr c_37, c_49], rfl, by first | exact Eq.refl h | exact mm_up_idE ha (by simp [sr_look, c_1_0, c_1_1, c_37, Int32.not_lt.mpr c_37, c_49])⟩
      · refine mm_iconst (v := 2) d_Serial_look_52 (by decide) ?_
        refine mm_goto (tgt := 57) d_Serial_look_53 (by decide) ?_
        refine mm_iadd d_Serial_look_57 ?_
        exact mm_ireturn d_Serial_look_58 rfl ⟨by simp [sr_look, c_1_0, c_1_1, c_37, Int32.not_lt.mpr c_37, c_49], rfl, by first | exact Eq.refl h | exact mm_up_idE ha (by simp [sr_look, c_1_0, c_1_1, c_37, Int32.not_lt.mpr c_37, c_49])⟩
    · refine mm_iconst (v := 1) d_Serial_look_40 (by decide) ?_
      refine mm_goto (tgt := 45) d_Serial_look_41 (by decide) ?_
      refine mm_aload_n d_Serial_look_45 rfl ?_
      refine mm_getf d_Serial_look_46 cl_Serial fl_Serial_29_Serial (by decide) ha rfl ?_
      refine mm_if_ne (tgt := 56) d_Serial_look_49 (by decide) (fun c_49 => ?_) (fun c_49 => ?_)
      · refine mm_iconst (v := 0) d_Serial_look_56 (by decide) ?_
        refine mm_iadd d_Serial_look_57 ?_
        exact mm_ireturn d_Serial_look_58 rfl ⟨by simp [sr_look, c_1_0, c_1_1, c_37, Int32.not_le.mp c_37, c_49], rfl, by first | exact Eq.refl h | exact mm_up_idE ha (by simp [sr_look, c_1_0, c_1_1, c_37, Int32.not_le.mp c_37, c_49])⟩
      · refine mm_iconst (v := 2) d_Serial_look_52 (by decide) ?_
        refine mm_goto (tgt := 57) d_Serial_look_53 (by decide) ?_
        refine mm_iadd d_Serial_look_57 ?_
        exact mm_ireturn d_Serial_look_58 rfl ⟨by simp [sr_look, c_1_0, c_1_1, c_37, Int32.not_le.mp c_37, c_49], rfl, by first | exact Eq.refl h | exact mm_up_idE ha (by simp [sr_look, c_1_0, c_1_1, c_37, Int32.not_le.mp c_37, c_49])⟩
  by_cases c_1_2 : k = 2
  · refine mm_tableIn (tgt := 59) (off := 58) d_Serial_look_1 (by rw [c_1_2]; decide) (by rw [c_1_2]; decide) (by rw [c_1_2]; decide) (by decide) ?_
    refine mm_aload_n d_Serial_look_59 rfl ?_
    refine mm_getf d_Serial_look_60 cl_Serial fl_Serial_32_Serial (by decide) ha rfl ?_
    exact mm_ireturn d_Serial_look_63 rfl ⟨by simp [sr_look, c_1_0, c_1_1, c_1_2], rfl, by first | exact Eq.refl h | exact mm_up_idE ha (by simp [sr_look, c_1_0, c_1_1, c_1_2])⟩
  refine mm_tableOut (tgt := 64) d_Serial_look_1 (mm_tsw3 c_1_0 c_1_1 c_1_2) (by decide) ?_
  refine mm_iconst (v := 0) d_Serial_look_64 (by decide) ?_
  exact mm_ireturn d_Serial_look_65 rfl ⟨by simp [sr_look, c_1_0, c_1_1, c_1_2], rfl, by first | exact Eq.refl h | exact mm_up_idE ha (by simp [sr_look, c_1_0, c_1_1, c_1_2])⟩
set_option maxRecDepth 100000 in
theorem J_Serial_put {sc : mm_Sc} {n : Nat} {h : mm_H} {a b c s : Nat} {A O : Nat → Int32} {fc wa go se sl mo : Int32} (hbc : b ≠ c) {k v : Int32} (ha : h a = some (.inr (5, [.ref b, .int fc, .int wa, .ref c, .int go, .int se, .int sl, .int mo, .ref s]))) (hb : h b = some (.inl (0, 32, .inl A))) (hc : h c = some (.inl (0, 32, .inl O))) : mm_J sc y_Serial_put 1 [.ref a, .int k, .int v] n h 0 0 (fun o n' h' => o = .inl (none) ∧ n' = n ∧ h' = va_up h a (some (.inr (5, [.ref b, .int fc, .int wa, .ref c, .int go, .int (if k = 0 then (if sl = 0 then v &&& 255 else se) else se), .int (if k = 0 then (if sl = 0 then 4 else sl) else sl), .int (if k = 2 then v &&& 3 else mo), .ref s])))) := by
  refine mm_J.of (show mm_G sc y_Serial_put 1 0 [some (.ref a), some (.int k), some (.int v)] [] n h 0 0 _ from ?_) ce_Serial_put.2.2.2.2.1 (Nat.le_of_ble_eq_true rfl) (by simp [Value.category])
  refine mm_iload_n d_Serial_put_0 rfl ?_
  refine mm_if_ne (tgt := 28) d_Serial_put_1 (by decide) (fun c_1 => ?_) (fun c_1 => ?_)
  · refine mm_iload_n d_Serial_put_28 rfl ?_
    refine mm_iconst (v := 2) d_Serial_put_29 (by decide) ?_
    refine mm_icmp_ne (tgt := 40) d_Serial_put_30 (by decide) (fun c_30 => ?_) (fun c_30 => ?_)
    · exact mm_return d_Serial_put_40 rfl ⟨by simp [c_1, c_30], rfl, by first | exact Eq.refl h | exact mm_up_idE ha (by simp [c_1, c_30])⟩
    · refine mm_aload_n d_Serial_put_33 rfl ?_
      refine mm_iload_n d_Serial_put_34 rfl ?_
      refine mm_iconst (v := 3) d_Serial_put_35 (by decide) ?_
      refine mm_iand d_Serial_put_36 ?_
      refine mm_putf d_Serial_put_37 cl_Serial ty_Serial fl_Serial_32_Serial (by decide) rfl rfl rfl ha (Nat.le_of_ble_eq_true rfl) ?_
      refine mm_hp (fun h1 e1 => ?_)
      have ha_v1 : h1 a = some (.inr (5, [.ref b, .int fc, .int wa, .ref c, .int go, .int se, .int sl, .int (v &&& 3), .ref s])) := by rw [e1]; exact va_up_self _ _ _
      have hb_v1 : h1 b = some (.inl (0, 32, .inl A)) := by rw [e1, va_up_ne _ _ (mm_neq hb ha (by simp))]; exact hb
      have hc_v1 : h1 c = some (.inl (0, 32, .inl O)) := by rw [e1, va_up_ne _ _ (mm_neq hc ha (by simp))]; exact hc
      exact mm_return d_Serial_put_40 rfl (by first | (refine ⟨?_, rfl, ?_⟩ <;> simp [c_1, c_30, bx_uu, e1] <;> done) | (exfalso; simp_all; done))
  · refine mm_aload_n d_Serial_put_4 rfl ?_
    refine mm_getf d_Serial_put_5 cl_Serial fl_Serial_29_Serial (by decide) ha rfl ?_
    refine mm_if_ne (tgt := 28) d_Serial_put_8 (by decide) (fun c_8 => ?_) (fun c_8 => ?_)
    · refine mm_iload_n d_Serial_put_28 rfl ?_
      refine mm_iconst (v := 2) d_Serial_put_29 (by decide) ?_
      refine mm_icmp_ne (tgt := 40) d_Serial_put_30 (by decide) (fun c_30 => ?_) (fun c_30 => ?_)
      · exact mm_return d_Serial_put_40 rfl ⟨by simp [c_1, c_8, c_30], rfl, by first | exact Eq.refl h | exact mm_up_idE ha (by simp [c_1, c_8, c_30])⟩
      · refine mm_aload_n d_Serial_put_33 rfl ?_
        refine mm_iload_n d_Serial_put_34 rfl ?_
        refine mm_iconst (v := 3) d_Serial_put_35 (by decide) ?_
        refine mm_iand d_Serial_put_36 ?_
        refine mm_putf d_Serial_put_37 cl_Serial ty_Serial fl_Serial_32_Serial (by decide) rfl rfl rfl ha (Nat.le_of_ble_eq_true rfl) ?_
        refine mm_hp (fun h2 e2 => ?_)
        have ha_v2 : h2 a = some (.inr (5, [.ref b, .int fc, .int wa, .ref c, .int go, .int se, .int sl, .int (v &&& 3), .ref s])) := by rw [e2]; exact va_up_self _ _ _
        have hb_v2 : h2 b = some (.inl (0, 32, .inl A)) := by rw [e2, va_up_ne _ _ (mm_neq hb ha (by simp))]; exact hb
        have hc_v2 : h2 c = some (.inl (0, 32, .inl O)) := by rw [e2, va_up_ne _ _ (mm_neq hc ha (by simp))]; exact hc
        exact mm_return d_Serial_put_40 rfl (by first | (refine ⟨?_, rfl, ?_⟩ <;> simp [c_1, c_8, c_30, bx_uu, e2] <;> done) | (exfalso; simp_all; done))
    · refine mm_aload_n d_Serial_put_11 rfl ?_
      refine mm_iload_n d_Serial_put_12 rfl ?_
      refine mm_sipush (v := 255) d_Serial_put_13 (by decide) ?_
      refine mm_iand d_Serial_put_16 ?_
      refine mm_putf d_Serial_put_17 cl_Serial ty_Serial fl_Serial_26_Serial (by decide) rfl rfl rfl ha (Nat.le_of_ble_eq_true rfl) ?_
      refine mm_hp (fun h3 e3 => ?_)
      have ha_v3 : h3 a = some (.inr (5, [.ref b, .int fc, .int wa, .ref c, .int go, .int (v &&& 255), .int sl, .int mo, .ref s])) := by rw [e3]; exact va_up_self _ _ _
      have hb_v3 : h3 b = some (.inl (0, 32, .inl A)) := by rw [e3, va_up_ne _ _ (mm_neq hb ha (by simp))]; exact hb
      have hc_v3 : h3 c = some (.inl (0, 32, .inl O)) := by rw [e3, va_up_ne _ _ (mm_neq hc ha (by simp))]; exact hc
      refine mm_aload_n d_Serial_put_20 rfl ?_
      refine mm_iconst (v := 4) d_Serial_put_21 (by decide) ?_
      refine mm_putf d_Serial_put_22 cl_Serial ty_Serial fl_Serial_29_Serial (by decide) rfl rfl rfl ha_v3 (Nat.le_of_ble_eq_true rfl) ?_
      refine mm_hp (fun h4 e4 => ?_)
      have ha_v4 : h4 a = some (.inr (5, [.ref b, .int fc, .int wa, .ref c, .int go, .int (v &&& 255), .int 4, .int mo, .ref s])) := by rw [e4]; exact va_up_self _ _ _
      have hb_v4 : h4 b = some (.inl (0, 32, .inl A)) := by rw [e4, va_up_ne _ _ (mm_neq hb_v3 ha_v3 (by simp))]; exact hb_v3
      have hc_v4 : h4 c = some (.inl (0, 32, .inl O)) := by rw [e4, va_up_ne _ _ (mm_neq hc_v3 ha_v3 (by simp))]; exact hc_v3
      refine mm_goto (tgt := 40) d_Serial_put_25 (by decide) ?_
      exact mm_return d_Serial_put_40 rfl (by first | (refine ⟨?_, rfl, ?_⟩ <;> simp [c_1, c_8, bx_uu, e4, e3] <;> done) | (exfalso; simp_all; done))
set_option maxRecDepth 100000 in
theorem J_Serial_goOn {sc : mm_Sc} {n : Nat} {h : mm_H} {a b c s : Nat} {A O : Nat → Int32} {fc wa go se sl mo : Int32} (hbc : b ≠ c) (ha : h a = some (.inr (5, [.ref b, .int fc, .int wa, .ref c, .int go, .int se, .int sl, .int mo, .ref s]))) (hb : h b = some (.inl (0, 32, .inl A))) (hc : h c = some (.inl (0, 32, .inl O))) : mm_J sc y_Serial_goOn 1 [.ref a] n h 0 0 (fun o n' h' => o = .inl (some (.int 0)) ∧ n' = n ∧ h' = va_up (va_up h c (some (.inl (0, 32, .inl (if 0 < sl then (if sl - 1 = 0 then upd O (go &&& 31).toNatClampNeg se else O) else O))))) a (some (.inr (5, [.ref b, .int fc, .int wa, .ref c, .int (if 0 < sl then (if sl - 1 = 0 then go + 1 else go) else go), .int se, .int (if 0 < sl then sl - 1 else sl), .int mo, .ref s])))) := by
  refine mm_J.of (show mm_G sc y_Serial_goOn 1 0 [some (.ref a)] [] n h 0 0 _ from ?_) ce_Serial_goOn.2.2.2.2.1 (Nat.le_of_ble_eq_true rfl) (by simp [Value.category])
  refine mm_aload_n d_Serial_goOn_0 rfl ?_
  refine mm_getf d_Serial_goOn_1 cl_Serial fl_Serial_29_Serial (by decide) ha rfl ?_
  refine mm_if_le (tgt := 50) d_Serial_goOn_4 (by decide) (fun c_4 => ?_) (fun c_4 => ?_)
  · refine mm_iconst (v := 0) d_Serial_goOn_50 (by decide) ?_
    exact mm_zreturn d_Serial_goOn_51 rfl rfl ⟨by simp [c_4, Int32.not_lt.mpr c_4], rfl, by
        funext j
        by_cases j0 : j = a
        · rw [j0]; simp [va_up, c_4, Int32.not_lt.mpr c_4, ha, hc, (mm_neq ha hc (by simp)), Ne.symm (mm_neq ha hc (by simp))]
        by_cases j1 : j = c
        · rw [j1]; simp [va_up, c_4, Int32.not_lt.mpr c_4, ha, hc, (mm_neq ha hc (by simp)), Ne.symm (mm_neq ha hc (by simp))]
        simp [va_up, j0, j1, c_4, Int32.not_lt.mpr c_4]⟩
  · refine mm_aload_n d_Serial_goOn_7 rfl ?_
    refine mm_dup d_Serial_goOn_8 rfl ?_
    refine mm_getf d_Serial_goOn_9 cl_Serial fl_Serial_29_Serial (by decide) ha rfl ?_
    refine mm_iconst (v := 1) d_Serial_goOn_12 (by decide) ?_
    refine mm_isub d_Serial_goOn_13 ?_
    refine mm_putf d_Serial_goOn_14 cl_Serial ty_Serial fl_Serial_29_Serial (by decide) rfl rfl rfl ha (Nat.le_of_ble_eq_true rfl) ?_
    refine mm_hp (fun h1 e1 => ?_)
    have ha_v1 : h1 a = some (.inr (5, [.ref b, .int fc, .int wa, .ref c, .int go, .int se, .int (sl - 1), .int mo, .ref s])) := by rw [e1]; exact va_up_self _ _ _
    have hb_v1 : h1 b = some (.inl (0, 32, .inl A)) := by rw [e1, va_up_ne _ _ (mm_neq hb ha (by simp))]; exact hb
    have hc_v1 : h1 c = some (.inl (0, 32, .inl O)) := by rw [e1, va_up_ne _ _ (mm_neq hc ha (by simp))]; exact hc
    refine mm_aload_n d_Serial_goOn_17 rfl ?_
    refine mm_getf d_Serial_goOn_18 cl_Serial fl_Serial_29_Serial (by decide) ha_v1 rfl ?_
    refine mm_if_ne (tgt := 50) d_Serial_goOn_21 (by decide) (fun c_21 => ?_) (fun c_21 => ?_)
    · refine mm_iconst (v := 0) d_Serial_goOn_50 (by decide) ?_
      exact mm_zreturn d_Serial_goOn_51 rfl rfl ⟨by simp [c_4, Int32.not_le.mp c_4, c_21, e1], rfl, by
        funext j
        by_cases j0 : j = a
        · rw [j0]; simp [va_up, c_4, Int32.not_le.mp c_4, c_21, e1, ha, hc, (mm_neq ha hc (by simp)), Ne.symm (mm_neq ha hc (by simp))]
        by_cases j1 : j = c
        · rw [j1]; simp [va_up, c_4, Int32.not_le.mp c_4, c_21, e1, ha, hc, (mm_neq ha hc (by simp)), Ne.symm (mm_neq ha hc (by simp))]
        simp [va_up, j0, j1, c_4, Int32.not_le.mp c_4, c_21, e1]⟩
    · refine mm_aload_n d_Serial_goOn_24 rfl ?_
      refine mm_getf d_Serial_goOn_25 cl_Serial fl_Serial_20_Serial (by decide) ha_v1 rfl ?_
      refine mm_aload_n d_Serial_goOn_28 rfl ?_
      refine mm_getf d_Serial_goOn_29 cl_Serial fl_Serial_23_Serial (by decide) ha_v1 rfl ?_
      refine mm_bipush (v := 31) d_Serial_goOn_32 (by decide) ?_
      refine mm_iand d_Serial_goOn_34 ?_
      refine mm_aload_n d_Serial_goOn_35 rfl ?_
      refine mm_getf d_Serial_goOn_36 cl_Serial fl_Serial_26_Serial (by decide) ha_v1 rfl ?_
      refine mm_iast d_Serial_goOn_39 hc_v1 (show vp_in _ 32 from pk_andIn _ 5 (by decide) (by decide)) ?_
      refine mm_hp (fun h2 e2 => ?_)
      have ha_v2 : h2 a = some (.inr (5, [.ref b, .int fc, .int wa, .ref c, .int go, .int se, .int (sl - 1), .int mo, .ref s])) := by rw [e2, va_up_ne _ _ (mm_neq ha_v1 hc_v1 (by simp))]; exact ha_v1
      have hb_v2 : h2 b = some (.inl (0, 32, .inl A)) := by rw [e2, va_up_ne _ _ hbc]; exact hb_v1
      have hc_v2 : h2 c = some (.inl (0, 32, .inl (upd O (go &&& 31).toNatClampNeg se))) := by rw [e2]; exact va_up_self _ _ _
      refine mm_aload_n d_Serial_goOn_40 rfl ?_
      refine mm_dup d_Serial_goOn_41 rfl ?_
      refine mm_getf d_Serial_goOn_42 cl_Serial fl_Serial_23_Serial (by decide) ha_v2 rfl ?_
      refine mm_iconst (v := 1) d_Serial_goOn_45 (by decide) ?_
      refine mm_iadd d_Serial_goOn_46 ?_
      refine mm_putf d_Serial_goOn_47 cl_Serial ty_Serial fl_Serial_23_Serial (by decide) rfl rfl rfl ha_v2 (Nat.le_of_ble_eq_true rfl) ?_
      refine mm_hp (fun h3 e3 => ?_)
      have ha_v3 : h3 a = some (.inr (5, [.ref b, .int fc, .int wa, .ref c, .int (go + 1), .int se, .int (sl - 1), .int mo, .ref s])) := by rw [e3]; exact va_up_self _ _ _
      have hb_v3 : h3 b = some (.inl (0, 32, .inl A)) := by rw [e3, va_up_ne _ _ (mm_neq hb_v2 ha_v2 (by simp))]; exact hb_v2
      have hc_v3 : h3 c = some (.inl (0, 32, .inl (upd O (go &&& 31).toNatClampNeg se))) := by rw [e3, va_up_ne _ _ (mm_neq hc_v2 ha_v2 (by simp))]; exact hc_v2
      refine mm_iconst (v := 0) d_Serial_goOn_50 (by decide) ?_
      exact mm_zreturn d_Serial_goOn_51 rfl rfl ⟨by simp [c_4, Int32.not_le.mp c_4, c_21, e3, e2, e1], rfl, by
        funext j
        by_cases j0 : j = a
        · rw [j0]; simp [va_up, c_4, Int32.not_le.mp c_4, c_21, e3, e2, e1, ha, hc, (mm_neq ha hc (by simp)), Ne.symm (mm_neq ha hc (by simp))]
        by_cases j1 : j = c
        · rw [j1]; simp [va_up, c_4, Int32.not_le.mp c_4, c_21, e3, e2, e1, ha, hc, (mm_neq ha hc (by simp)), Ne.symm (mm_neq ha hc (by simp))]
        simp [va_up, j0, j1, c_4, Int32.not_le.mp c_4, c_21, e3, e2, e1]⟩
def sr_asks (wa sl mo : Int32) : Int32 := if mo &&& 1 = 0 then (if mo &&& 2 = 0 then 0 else if sl = 0 then 1 else 0) else if wa ≤ 0 then (if mo &&& 2 = 0 then 0 else if sl = 0 then 1 else 0) else 1
set_option maxRecDepth 100000 in
theorem J_Serial_wantsAttention {sc : mm_Sc} {n : Nat} {h : mm_H} {a b c s : Nat} {A O : Nat → Int32} {fc wa go se sl mo : Int32} (hbc : b ≠ c) (ha : h a = some (.inr (5, [.ref b, .int fc, .int wa, .ref c, .int go, .int se, .int sl, .int mo, .ref s]))) (hb : h b = some (.inl (0, 32, .inl A))) (hc : h c = some (.inl (0, 32, .inl O))) : mm_J sc y_Serial_wantsAttention 1 [.ref a] n h 0 0 (fun o n' h' => o = .inl (some (.int (sr_asks wa sl mo))) ∧ n' = n ∧ h' = h) := by
  refine mm_J.of (show mm_G sc y_Serial_wantsAttention 1 0 [some (.ref a)] [] n h 0 0 _ from ?_) ce_Serial_wantsAttention.2.2.2.2.1 (Nat.le_of_ble_eq_true rfl) (by simp [Value.category])
  refine mm_aload_n d_Serial_wantsAttention_0 rfl ?_
  refine mm_getf d_Serial_wantsAttention_1 cl_Serial fl_Serial_32_Serial (by decide) ha rfl ?_
  refine mm_iconst (v := 1) d_Serial_wantsAttention_4 (by decide) ?_
  refine mm_iand d_Serial_wantsAttention_5 ?_
  refine mm_if_eq (tgt := 16) d_Serial_wantsAttention_6 (by decide) (fun c_6 => ?_) (fun c_6 => ?_)
  · refine mm_aload_n d_Serial_wantsAttention_16 rfl ?_
    refine mm_getf d_Serial_wantsAttention_17 cl_Serial fl_Serial_32_Serial (by decide) ha rfl ?_
    refine mm_iconst (v := 2) d_Serial_wantsAttention_20 (by decide) ?_
    refine mm_iand d_Serial_wantsAttention_21 ?_
    refine mm_if_eq (tgt := 36) d_Serial_wantsAttention_22 (by decide) (fun c_22 => ?_) (fun c_22 => ?_)
    · refine mm_iconst (v := 0) d_Serial_wantsAttention_36 (by decide) ?_
      exact mm_zreturn d_Serial_wantsAttention_37 rfl rfl ⟨by simp [sr_asks, c_6, c_22], rfl, rfl⟩
    · refine mm_aload_n d_Serial_wantsAttention_25 rfl ?_
      refine mm_getf d_Serial_wantsAttention_26 cl_Serial fl_Serial_29_Serial (by decide) ha rfl ?_
      refine mm_if_ne (tgt := 36) d_Serial_wantsAttention_29 (by decide) (fun c_29 => ?_) (fun c_29 => ?_)
      · refine mm_iconst (v := 0) d_Serial_wantsAttention_36 (by decide) ?_
        exact mm_zreturn d_Serial_wantsAttention_37 rfl rfl ⟨by simp [sr_asks, c_6, c_22, c_29], rfl, rfl⟩
      · refine mm_iconst (v := 1) d_Serial_wantsAttention_32 (by decide) ?_
        refine mm_goto (tgt := 37) d_Serial_wantsAttention_33 (by decide) ?_
        exact mm_zreturn d_Serial_wantsAttention_37 rfl rfl ⟨by simp [sr_asks, c_6, c_22, c_29], rfl, rfl⟩
  · refine mm_aload_n d_Serial_wantsAttention_9 rfl ?_
    refine mm_getf d_Serial_wantsAttention_10 cl_Serial fl_Serial_17_Serial (by decide) ha rfl ?_
    refine mm_if_gt (tgt := 32) d_Serial_wantsAttention_13 (by decide) (fun c_13 => ?_) (fun c_13 => ?_)
    · refine mm_iconst (v := 1) d_Serial_wantsAttention_32 (by decide) ?_
      refine mm_goto (tgt := 37) d_Serial_wantsAttention_33 (by decide) ?_
      exact mm_zreturn d_Serial_wantsAttention_37 rfl rfl ⟨by simp [sr_asks, c_6, c_13, Int32.not_le.mpr c_13], rfl, rfl⟩
    · refine mm_aload_n d_Serial_wantsAttention_16 rfl ?_
      refine mm_getf d_Serial_wantsAttention_17 cl_Serial fl_Serial_32_Serial (by decide) ha rfl ?_
      refine mm_iconst (v := 2) d_Serial_wantsAttention_20 (by decide) ?_
      refine mm_iand d_Serial_wantsAttention_21 ?_
      refine mm_if_eq (tgt := 36) d_Serial_wantsAttention_22 (by decide) (fun c_22 => ?_) (fun c_22 => ?_)
      · refine mm_iconst (v := 0) d_Serial_wantsAttention_36 (by decide) ?_
        exact mm_zreturn d_Serial_wantsAttention_37 rfl rfl ⟨by simp [sr_asks, c_6, c_13, Int32.not_lt.mp c_13, c_22], rfl, rfl⟩
      · refine mm_aload_n d_Serial_wantsAttention_25 rfl ?_
        refine mm_getf d_Serial_wantsAttention_26 cl_Serial fl_Serial_29_Serial (by decide) ha rfl ?_
        refine mm_if_ne (tgt := 36) d_Serial_wantsAttention_29 (by decide) (fun c_29 => ?_) (fun c_29 => ?_)
        · refine mm_iconst (v := 0) d_Serial_wantsAttention_36 (by decide) ?_
          exact mm_zreturn d_Serial_wantsAttention_37 rfl rfl ⟨by simp [sr_asks, c_6, c_13, Int32.not_lt.mp c_13, c_22, c_29], rfl, rfl⟩
        · refine mm_iconst (v := 1) d_Serial_wantsAttention_32 (by decide) ?_
          refine mm_goto (tgt := 37) d_Serial_wantsAttention_33 (by decide) ?_
          exact mm_zreturn d_Serial_wantsAttention_37 rfl rfl ⟨by simp [sr_asks, c_6, c_13, Int32.not_lt.mp c_13, c_22, c_29], rfl, rfl⟩
set_option maxRecDepth 100000 in
theorem J_Serial_beginAnew {sc : mm_Sc} {n : Nat} {h : mm_H} {a b c s : Nat} {A O : Nat → Int32} {fc wa go se sl mo : Int32} (hbc : b ≠ c) (ha : h a = some (.inr (5, [.ref b, .int fc, .int wa, .ref c, .int go, .int se, .int sl, .int mo, .ref s]))) (hb : h b = some (.inl (0, 32, .inl A))) (hc : h c = some (.inl (0, 32, .inl O))) : mm_J sc y_Serial_beginAnew 1 [.ref a] n h 0 0 (fun o n' h' => o = .inl (none) ∧ n' = n ∧ h' = va_up h a (some (.inr (5, [.ref b, .int 0, .int 0, .ref c, .int 0, .int 0, .int 0, .int 0, .ref s])))) := by
  refine mm_J.of (show mm_G sc y_Serial_beginAnew 1 0 [some (.ref a)] [] n h 0 0 _ from ?_) ce_Serial_beginAnew.2.2.2.2.1 (Nat.le_of_ble_eq_true rfl) (by simp [Value.category])
  refine mm_aload_n d_Serial_beginAnew_0 rfl ?_
  refine mm_iconst (v := 0) d_Serial_beginAnew_1 (by decide) ?_
  refine mm_putf d_Serial_beginAnew_2 cl_Serial ty_Serial fl_Serial_13_Serial (by decide) rfl rfl rfl ha (Nat.le_of_ble_eq_true rfl) ?_
  refine mm_hp (fun h1 e1 => ?_)
  have ha_v1 : h1 a = some (.inr (5, [.ref b, .int 0, .int wa, .ref c, .int go, .int se, .int sl, .int mo, .ref s])) := by rw [e1]; exact va_up_self _ _ _
  have hb_v1 : h1 b = some (.inl (0, 32, .inl A)) := by rw [e1, va_up_ne _ _ (mm_neq hb ha (by simp))]; exact hb
  have hc_v1 : h1 c = some (.inl (0, 32, .inl O)) := by rw [e1, va_up_ne _ _ (mm_neq hc ha (by simp))]; exact hc
  refine mm_aload_n d_Serial_beginAnew_5 rfl ?_
  refine mm_iconst (v := 0) d_Serial_beginAnew_6 (by decide) ?_
  refine mm_putf d_Serial_beginAnew_7 cl_Serial ty_Serial fl_Serial_17_Serial (by decide) rfl rfl rfl ha_v1 (Nat.le_of_ble_eq_true rfl) ?_
  refine mm_hp (fun h2 e2 => ?_)
  have ha_v2 : h2 a = some (.inr (5, [.ref b, .int 0, .int 0, .ref c, .int go, .int se, .int sl, .int mo, .ref s])) := by rw [e2]; exact va_up_self _ _ _
  have hb_v2 : h2 b = some (.inl (0, 32, .inl A)) := by rw [e2, va_up_ne _ _ (mm_neq hb_v1 ha_v1 (by simp))]; exact hb_v1
  have hc_v2 : h2 c = some (.inl (0, 32, .inl O)) := by rw [e2, va_up_ne _ _ (mm_neq hc_v1 ha_v1 (by simp))]; exact hc_v1
  refine mm_aload_n d_Serial_beginAnew_10 rfl ?_
  refine mm_iconst (v := 0) d_Serial_beginAnew_11 (by decide) ?_
  refine mm_putf d_Serial_beginAnew_12 cl_Serial ty_Serial fl_Serial_23_Serial (by decide) rfl rfl rfl ha_v2 (Nat.le_of_ble_eq_true rfl) ?_
  refine mm_hp (fun h3 e3 => ?_)
  have ha_v3 : h3 a = some (.inr (5, [.ref b, .int 0, .int 0, .ref c, .int 0, .int se, .int sl, .int mo, .ref s])) := by rw [e3]; exact va_up_self _ _ _
  have hb_v3 : h3 b = some (.inl (0, 32, .inl A)) := by rw [e3, va_up_ne _ _ (mm_neq hb_v2 ha_v2 (by simp))]; exact hb_v2
  have hc_v3 : h3 c = some (.inl (0, 32, .inl O)) := by rw [e3, va_up_ne _ _ (mm_neq hc_v2 ha_v2 (by simp))]; exact hc_v2
  refine mm_aload_n d_Serial_beginAnew_15 rfl ?_
  refine mm_iconst (v := 0) d_Serial_beginAnew_16 (by decide) ?_
  refine mm_putf d_Serial_beginAnew_17 cl_Serial ty_Serial fl_Serial_26_Serial (by decide) rfl rfl rfl ha_v3 (Nat.le_of_ble_eq_true rfl) ?_
  refine mm_hp (fun h4 e4 => ?_)
  have ha_v4 : h4 a = some (.inr (5, [.ref b, .int 0, .int 0, .ref c, .int 0, .int 0, .int sl, .int mo, .ref s])) := by rw [e4]; exact va_up_self _ _ _
  have hb_v4 : h4 b = some (.inl (0, 32, .inl A)) := by rw [e4, va_up_ne _ _ (mm_neq hb_v3 ha_v3 (by simp))]; exact hb_v3
  have hc_v4 : h4 c = some (.inl (0, 32, .inl O)) := by rw [e4, va_up_ne _ _ (mm_neq hc_v3 ha_v3 (by simp))]; exact hc_v3
  refine mm_aload_n d_Serial_beginAnew_20 rfl ?_
  refine mm_iconst (v := 0) d_Serial_beginAnew_21 (by decide) ?_
  refine mm_putf d_Serial_beginAnew_22 cl_Serial ty_Serial fl_Serial_29_Serial (by decide) rfl rfl rfl ha_v4 (Nat.le_of_ble_eq_true rfl) ?_
  refine mm_hp (fun h5 e5 => ?_)
  have ha_v5 : h5 a = some (.inr (5, [.ref b, .int 0, .int 0, .ref c, .int 0, .int 0, .int 0, .int mo, .ref s])) := by rw [e5]; exact va_up_self _ _ _
  have hb_v5 : h5 b = some (.inl (0, 32, .inl A)) := by rw [e5, va_up_ne _ _ (mm_neq hb_v4 ha_v4 (by simp))]; exact hb_v4
  have hc_v5 : h5 c = some (.inl (0, 32, .inl O)) := by rw [e5, va_up_ne _ _ (mm_neq hc_v4 ha_v4 (by simp))]; exact hc_v4
  refine mm_aload_n d_Serial_beginAnew_25 rfl ?_
  refine mm_iconst (v := 0) d_Serial_beginAnew_26 (by decide) ?_
  refine mm_putf d_Serial_beginAnew_27 cl_Serial ty_Serial fl_Serial_32_Serial (by decide) rfl rfl rfl ha_v5 (Nat.le_of_ble_eq_true rfl) ?_
  refine mm_hp (fun h6 e6 => ?_)
  have ha_v6 : h6 a = some (.inr (5, [.ref b, .int 0, .int 0, .ref c, .int 0, .int 0, .int 0, .int 0, .ref s])) := by rw [e6]; exact va_up_self _ _ _
  have hb_v6 : h6 b = some (.inl (0, 32, .inl A)) := by rw [e6, va_up_ne _ _ (mm_neq hb_v5 ha_v5 (by simp))]; exact hb_v5
  have hc_v6 : h6 c = some (.inl (0, 32, .inl O)) := by rw [e6, va_up_ne _ _ (mm_neq hc_v5 ha_v5 (by simp))]; exact hc_v5
  exact mm_return d_Serial_beginAnew_30 rfl (by first | (refine ⟨?_, rfl, ?_⟩ <;> simp [bx_uu, e6, e5, e4, e3, e2, e1] <;> done) | (exfalso; simp_all; done))
