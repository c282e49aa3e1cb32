theorem mm_neq {h : mm_H} {a b : Nat} {c1 c2 : mm_C} (ha : h a = some c1) (hb : h b = some c2) (hne : c1 ≠ c2) : a ≠ b := fun e => hne (by rw [e] at ha; exact Option.some.inj (ha.symm.trans hb))
theorem mm_up_id {h : mm_H} {a : Nat} {c : mm_C} (ha : h a = some c) : va_up h a (some c) = h := by
  funext j
  by_cases e : j = a
  · subst e; rw [va_up_self, ha]
  · rw [va_up_ne _ _ e]
theorem mm_tsw2 {x : Int32} (c0 : ¬ x = 0) (c1 : ¬ x = 1) : x.toInt < 0 ∨ 1 < x.toInt := by
  have h0 := lv_neT c0 (a := 0) (by decide)
  have h1 := lv_neT c1 (a := 1) (by decide)
  omega
theorem mm_tsw3 {x : Int32} (c0 : ¬ x = 0) (c1 : ¬ x = 1) (c2 : ¬ x = 2) : x.toInt < 0 ∨ 2 < x.toInt := by
  have h0 := lv_neT c0 (a := 0) (by decide)
  have h1 := lv_neT c1 (a := 1) (by decide)
  have h2 := lv_neT c2 (a := 2) (by decide)
  omega
theorem mm_tsw4 {x : Int32} (c0 : ¬ x = 0) (c1 : ¬ x = 1) (c2 : ¬ x = 2) (c3 : ¬ x = 3) : x.toInt < 0 ∨ 3 < x.toInt := by
  have h0 := lv_neT c0 (a := 0) (by decide)
  have h1 := lv_neT c1 (a := 1) (by decide)
  have h2 := lv_neT c2 (a := 2) (by decide)
  have h3 := lv_neT c3 (a := 3) (by decide)
  omega
theorem mm_tsw5 {x : Int32} (c0 : ¬ x = 0) (c1 : ¬ x = 1) (c2 : ¬ x = 2) (c3 : ¬ x = 3) (c4 : ¬ x = 4) : x.toInt < 0 ∨ 4 < x.toInt := by
  have h0 := lv_neT c0 (a := 0) (by decide)
  have h1 := lv_neT c1 (a := 1) (by decide)
  have h2 := lv_neT c2 (a := 2) (by decide)
  have h3 := lv_neT c3 (a := 3) (by decide)
  have h4 := lv_neT c4 (a := 4) (by decide)
  omega
theorem mm_tsw6 {x : Int32} (c0 : ¬ x = 0) (c1 : ¬ x = 1) (c2 : ¬ x = 2) (c3 : ¬ x = 3) (c4 : ¬ x = 4) (c5 : ¬ x = 5) : x.toInt < 0 ∨ 5 < x.toInt := by
  have h0 := lv_neT c0 (a := 0) (by decide)
  have h1 := lv_neT c1 (a := 1) (by decide)
  have h2 := lv_neT c2 (a := 2) (by decide)
  have h3 := lv_neT c3 (a := 3) (by decide)
  have h4 := lv_neT c4 (a := 4) (by decide)
  have h5 := lv_neT c5 (a := 5) (by decide)
  omega
theorem mm_tsw10 {x : Int32} (c0 : ¬ x = 0) (c1 : ¬ x = 1) (c2 : ¬ x = 2) (c3 : ¬ x = 3) (c4 : ¬ x = 4) (c5 : ¬ x = 5) (c6 : ¬ x = 6) (c7 : ¬ x = 7) (c8 : ¬ x = 8) (c9 : ¬ x = 9) : x.toInt < 0 ∨ 9 < x.toInt := by
  have h0 := lv_neT c0 (a := 0) (by decide)
  have h1 := lv_neT c1 (a := 1) (by decide)
  have h2 := lv_neT c2 (a := 2) (by decide)
  have h3 := lv_neT c3 (a := 3) (by decide)
  have h4 := lv_neT c4 (a := 4) (by decide)
  have h5 := lv_neT c5 (a := 5) (by decide)
  have h6 := lv_neT c6 (a := 6) (by decide)
  have h7 := lv_neT c7 (a := 7) (by decide)
  have h8 := lv_neT c8 (a := 8) (by decide)
  have h9 := lv_neT c9 (a := 9) (by decide)
  omega
theorem mm_tsw13 {x : Int32} (c0 : ¬ x = 0) (c1 : ¬ x = 1) (c2 : ¬ x = 2) (c3 : ¬ x = 3) (c4 : ¬ x = 4) (c5 : ¬ x = 5) (c6 : ¬ x = 6) (c7 : ¬ x = 7) (c8 : ¬ x = 8) (c9 : ¬ x = 9) (c10 : ¬ x = 10) (c11 : ¬ x = 11) (c12 : ¬ x = 12) : x.toInt < 0 ∨ 12 < x.toInt := by
  have h0 := lv_neT c0 (a := 0) (by decide)
  have h1 := lv_neT c1 (a := 1) (by decide)
  have h2 := lv_neT c2 (a := 2) (by decide)
  have h3 := lv_neT c3 (a := 3) (by decide)
  have h4 := lv_neT c4 (a := 4) (by decide)
  have h5 := lv_neT c5 (a := 5) (by decide)
  have h6 := lv_neT c6 (a := 6) (by decide)
  have h7 := lv_neT c7 (a := 7) (by decide)
  have h8 := lv_neT c8 (a := 8) (by decide)
  have h9 := lv_neT c9 (a := 9) (by decide)
  have h10 := lv_neT c10 (a := 10) (by decide)
  have h11 := lv_neT c11 (a := 11) (by decide)
  have h12 := lv_neT c12 (a := 12) (by decide)
  omega
/-- a timer's step: count, mode, fired, the answer -/
def tm_go (r li mo fi : Int32) : Int32 × Int32 × Int32 × Int32 :=
  if mo &&& 1 = 0 then (r, mo, fi, 0)
  else if r + 1 = li then (if mo &&& 2 = 0 then (r + 1, mo &&& (-2), 1, if mo &&& (-2) &&& 8 = 0 then 0 else 1) else (0, mo, 1, if mo &&& 8 = 0 then 0 else 1))
  else (r + 1, mo, fi, 0)
set_option maxRecDepth 100000 in
theorem J_Timer_goOn {sc : mm_Sc} {n : Nat} {h : mm_H} {a s : Nat} {r li mo fi : Int32} (ha : h a = some (.inr (4, [.int r, .int li, .int mo, .int fi, .ref s]))) : mm_J sc y_Timer_goOn 1 [.ref a] n h 0 0 (fun o n' h' => o = .inl (some (.int ((tm_go r li mo fi).2.2.2))) ∧ n' = n ∧ h' = va_up h a (some (.inr (4, [.int ((tm_go r li mo fi).1), .int li, .int ((tm_go r li mo fi).2.1), .int ((tm_go r li mo fi).2.2.1), .ref s])))) := by
  refine mm_J.of (show mm_G sc y_Timer_goOn 1 0 [some (.ref a)] [] n h 0 0 _ from ?_) ce_Timer_goOn.2.2.2.2.1 (Nat.le_of_ble_eq_true rfl) (by simp [Value.category])
  refine mm_aload_n d_Timer_goOn_0 rfl ?_
  refine mm_getf d_Timer_goOn_1 cl_Timer fl_Timer_16_Timer (by decide) ha rfl ?_
  refine mm_iconst (v := 1) d_Timer_goOn_4 (by decide) ?_
  refine mm_iand d_Timer_goOn_5 ?_
  refine mm_if_ne (tgt := 11) d_Timer_goOn_6 (by decide) (fun c_6 => ?_) (fun c_6 => ?_)
  · refine mm_aload_n d_Timer_goOn_11 rfl ?_
    refine mm_dup d_Timer_goOn_12 rfl ?_
    refine mm_getf d_Timer_goOn_13 cl_Timer fl_Timer_7_Timer (by decide) ha rfl ?_
    refine mm_iconst (v := 1) d_Timer_goOn_16 (by decide) ?_
    refine mm_iadd d_Timer_goOn_17 ?_
    refine mm_putf d_Timer_goOn_18 cl_Timer ty_Timer fl_Timer_7_Timer (by decide) rfl rfl rfl ha (Nat.le_of_ble_eq_true rfl) ?_
    refine mm_hp (fun h1 e1 => ?_)
    have ha_v1 : h1 a = some (.inr (4, [.int (r + 1), .int li, .int mo, .int fi, .ref s])) := by rw [e1]; exact va_up_self _ _ _
    refine mm_aload_n d_Timer_goOn_21 rfl ?_
    refine mm_getf d_Timer_goOn_22 cl_Timer fl_Timer_7_Timer (by decide) ha_v1 rfl ?_
    refine mm_aload_n d_Timer_goOn_25 rfl ?_
    refine mm_getf d_Timer_goOn_26 cl_Timer fl_Timer_13_Timer (by decide) ha_v1 rfl ?_
    refine mm_icmp_eq (tgt := 34) d_Timer_goOn_29 (by decide) (fun c_29 => ?_) (fun c_29 => ?_)
    · refine mm_aload_n d_Timer_goOn_34 rfl ?_
      refine mm_iconst (v := 1) d_Timer_goOn_35 (by decide) ?_
      refine mm_putf d_Timer_goOn_36 cl_Timer ty_Timer fl_Timer_19_Timer (by decide) rfl rfl rfl ha_v1 (Nat.le_of_ble_eq_true rfl) ?_
      refine mm_hp (fun h2 e2 => ?_)
      have ha_v2 : h2 a = some (.inr (4, [.int (r + 1), .int li, .int mo, .int 1, .ref s])) := by rw [e2]; exact va_up_self _ _ _
      refine mm_aload_n d_Timer_goOn_39 rfl ?_
      refine mm_getf d_Timer_goOn_40 cl_Timer fl_Timer_16_Timer (by decide) ha_v2 rfl ?_
      refine mm_iconst (v := 2) d_Timer_goOn_43 (by decide) ?_
      refine mm_iand d_Timer_goOn_44 ?_
      refine mm_if_eq (tgt := 56) d_Timer_goOn_45 (by decide) (fun c_45 => ?_) (fun c_45 => ?_)
      · refine mm_aload_n d_Timer_goOn_56 rfl ?_
        refine mm_dup d_Timer_goOn_57 rfl ?_
        refine mm_getf d_Timer_goOn_58 cl_Timer fl_Timer_16_Timer (by decide) ha_v2 rfl ?_
        refine mm_bipush (v := (-2)) d_Timer_goOn_61 (by decide) ?_
        refine mm_iand d_Timer_goOn_63 ?_
        refine mm_putf d_Timer_goOn_64 cl_Timer ty_Timer fl_Timer_16_Timer (by decide) rfl rfl rfl ha_v2 (Nat.le_of_ble_eq_true rfl) ?_
        refine mm_hp (fun h3 e3 => ?_)
        have ha_v3 : h3 a = some (.inr (4, [.int (r + 1), .int li, .int (mo &&& (-2)), .int 1, .ref s])) := by rw [e3]; exact va_up_self _ _ _
        refine mm_aload_n d_Timer_goOn_67 rfl ?_
        refine mm_getf d_Timer_goOn_68 cl_Timer fl_Timer_16_Timer (by decide) ha_v3 rfl ?_
        refine mm_bipush (v := 8) d_Timer_goOn_71 (by decide) ?_
        refine mm_iand d_Timer_goOn_73 ?_
        refine mm_if_eq (tgt := 81) d_Timer_goOn_74 (by decide) (fun c_74 => ?_) (fun c_74 => ?_)
        · refine mm_iconst (v := 0) d_Timer_goOn_81 (by decide) ?_
          exact mm_zreturn d_Timer_goOn_82 rfl rfl ⟨by simp [tm_go, c_6, c_29, c_45, c_74, bx_uu, e3, e2, e1], rfl, by simp [tm_go, c_6, c_29, c_45, c_74, bx_uu, e3, e2, e1, mm_up_id ha]⟩
        · refine mm_iconst (v := 1) d_Timer_goOn_77 (by decide) ?_
          refine mm_goto (tgt := 82) d_Timer_goOn_78 (by decide) ?_
          exact mm_zreturn d_Timer_goOn_82 rfl rfl ⟨by simp [tm_go, c_6, c_29, c_45, c_74, bx_uu, e3, e2, e1], rfl, by simp [tm_go, c_6, c_29, c_45, c_74, bx_uu, e3, e2, e1, mm_up_id ha]⟩
      · refine mm_aload_n d_Timer_goOn_48 rfl ?_
        refine mm_iconst (v := 0) d_Timer_goOn_49 (by decide) ?_
        refine mm_putf d_Timer_goOn_50 cl_Timer ty_Timer fl_Timer_7_Timer (by decide) rfl rfl rfl ha_v2 (Nat.le_of_ble_eq_true rfl) ?_
        refine mm_hp (fun h4 e4 => ?_)
        have ha_v4 : h4 a = some (.inr (4, [.int 0, .int li, .int mo, .int 1, .ref s])) := by rw [e4]; exact va_up_self _ _ _
        refine mm_goto (tgt := 67) d_Timer_goOn_53 (by decide) ?_
        refine mm_aload_n d_Timer_goOn_67 rfl ?_
        refine mm_getf d_Timer_goOn_68 cl_Timer fl_Timer_16_Timer (by decide) ha_v4 rfl ?_
        refine mm_bipush (v := 8) d_Timer_goOn_71 (by decide) ?_
        refine mm_iand d_Timer_goOn_73 ?_
        refine mm_if_eq (tgt := 81) d_Timer_goOn_74 (by decide) (fun c_74 => ?_) (fun c_74 => ?_)
        · refine mm_iconst (v := 0) d_Timer_goOn_81 (by decide) ?_
          exact mm_zreturn d_Timer_goOn_82 rfl rfl ⟨by simp [tm_go, c_6, c_29, c_45, c_74, bx_uu, e4, e2, e1], rfl, by simp [tm_go, c_6, c_29, c_45, c_74, bx_uu, e4, e2, e1, mm_up_id ha]⟩
        · refine mm_iconst (v := 1) d_Timer_goOn_77 (by decide) ?_
          refine mm_goto (tgt := 82) d_Timer_goOn_78 (by decide) ?_
          exact mm_zreturn d_Timer_goOn_82 rfl rfl ⟨by simp [tm_go, c_6, c_29, c_45, c_74, bx_uu, e4, e2, e1], rfl, by simp [tm_go, c_6, c_29, c_45, c_74, bx_uu, e4, e2, e1, mm_up_id ha]⟩
    · refine mm_iconst (v := 0) d_Timer_goOn_32 (by decide) ?_
      exact mm_zreturn d_Timer_goOn_33 rfl rfl ⟨by simp [tm_go, c_6, c_29, bx_uu, e1], rfl, by simp [tm_go, c_6, c_29, bx_uu, e1, mm_up_id ha]⟩
  · refine mm_iconst (v := 0) d_Timer_goOn_9 (by decide) ?_
    exact mm_zreturn d_Timer_goOn_10 rfl rfl ⟨by simp [tm_go, c_6, bx_uu], rfl, by simp [tm_go, c_6, bx_uu, mm_up_id ha]⟩
def tm_look (r li mo fi k : Int32) : Int32 := if k = 0 then r else if k = 1 then li else if k = 2 then mo else if k = 3 then fi else 0
set_option maxRecDepth 100000 in
theorem J_Timer_look {sc : mm_Sc} {n : Nat} {h : mm_H} {a s : Nat} {r li mo fi : Int32} {k : Int32} (ha : h a = some (.inr (4, [.int r, .int li, .int mo, .int fi, .ref s]))) : mm_J sc y_Timer_look 1 [.ref a, .int k] n h 0 0 (fun o n' h' => o = .inl (some (.int (tm_look r li mo fi k))) ∧ n' = n ∧ h' = h) := by
  refine mm_J.of (show mm_G sc y_Timer_look 1 0 [some (.ref a), some (.int k)] [] n h 0 0 _ from ?_) ce_Timer_look.2.2.2.2.1 (Nat.le_of_ble_eq_true rfl) (by simp [Value.category])
  refine mm_iload_n d_Timer_look_0 rfl ?_
  by_cases c_1_0 : k = 0
  · refine mm_tableIn (tgt := 32) (off := 31) d_Timer_look_1 (by rw [c_1_0]; decide) (by rw [c_1_0]; decide) (by rw [c_1_0]; decide) (by decide) ?_
    refine mm_aload_n d_Timer_look_32 rfl ?_
    refine mm_getf d_Timer_look_33 cl_Timer fl_Timer_7_Timer (by decide) ha rfl ?_
    exact mm_ireturn d_Timer_look_36 rfl ⟨by simp [tm_look, c_1_0, bx_uu], rfl, by simp [tm_look, c_1_0, bx_uu, mm_up_id ha]⟩
  by_cases c_1_1 : k = 1
  · refine mm_tableIn (tgt := 37) (off := 36) d_Timer_look_1 (by rw [c_1_1]; decide) (by rw [c_1_1]; decide) (by rw [c_1_1]; decide) (by decide) ?_
    refine mm_aload_n d_Timer_look_37 rfl ?_
    refine mm_getf d_Timer_look_38 cl_Timer fl_Timer_13_Timer (by decide) ha rfl ?_
    exact mm_ireturn d_Timer_look_41 rfl ⟨by simp [tm_look, c_1_0, c_1_1, bx_uu], rfl, by simp [tm_look, c_1_0, c_1_1, bx_uu, mm_up_id ha]⟩
  by_cases c_1_2 : k = 2
  · refine mm_tableIn (tgt := 42) (off := 41) d_Timer_look_1 (by rw [c_1_2]; decide) (by rw [c_1_2]; decide) (by rw [c_1_2]; decide) (by decide) ?_
    refine mm_aload_n d_Timer_look_42 rfl ?_
    refine mm_getf d_Timer_look_43 cl_Timer fl_Timer_16_Timer (by decide) ha rfl ?_
    exact mm_ireturn d_Timer_look_46 rfl ⟨by simp [tm_look, c_1_0, c_1_1, c_1_2, bx_uu], rfl, by simp [tm_look, c_1_0, c_1_1, c_1_2, bx_uu, mm_up_id ha]⟩
  by_cases c_1_3 : k = 3
  · refine mm_tableIn (tgt := 47) (off := 46) d_Timer_look_1 (by rw [c_1_3]; decide) (by rw [c_1_3]; decide) (by rw [c_1_3]; decide) (by decide) ?_
    refine mm_aload_n d_Timer_look_47 rfl ?_
    refine mm_getf d_Timer_look_48 cl_Timer fl_Timer_19_Timer (by decide) ha rfl ?_
    exact mm_ireturn d_Timer_look_51 rfl ⟨by simp [tm_look, c_1_0, c_1_1, c_1_2, c_1_3, bx_uu], rfl, by simp [tm_look, c_1_0, c_1_1, c_1_2, c_1_3, bx_uu, mm_up_id ha]⟩
  refine mm_tableOut (tgt := 52) d_Timer_look_1 (mm_tsw4 c_1_0 c_1_1 c_1_2 c_1_3) (by decide) ?_
  refine mm_iconst (v := 0) d_Timer_look_52 (by decide) ?_
  exact mm_ireturn d_Timer_look_53 rfl ⟨by simp [tm_look, c_1_0, c_1_1, c_1_2, c_1_3, bx_uu], rfl, by simp [tm_look, c_1_0, c_1_1, c_1_2, c_1_3, bx_uu, mm_up_id ha]⟩
set_option maxRecDepth 100000 in
theorem J_Timer_put {sc : mm_Sc} {n : Nat} {h : mm_H} {a s : Nat} {r li mo fi : Int32} {k v : Int32} (ha : h a = some (.inr (4, [.int r, .int li, .int mo, .int fi, .ref s]))) : mm_J sc y_Timer_put 1 [.ref a, .int k, .int v] n h 0 0 (fun o n' h' => o = .inl (none) ∧ n' = n ∧ h' = va_up h a (some (.inr (4, [.int (if k = 0 then v else r), .int (if k = 1 then v else li), .int (if k = 2 then v &&& 15 else mo), .int (if k = 3 then 0 else fi), .ref s])))) := by
  refine mm_J.of (show mm_G sc y_Timer_put 1 0 [some (.ref a), some (.int k), some (.int v)] [] n h 0 0 _ from ?_) ce_Timer_put.2.2.2.2.1 (Nat.le_of_ble_eq_true rfl) (by simp [Value.category])
  refine mm_iload_n d_Timer_put_0 rfl ?_
  by_cases c_1_0 : k = 0
  · refine mm_tableIn (tgt := 32) (off := 31) d_Timer_put_1 (by rw [c_1_0]; decide) (by rw [c_1_0]; decide) (by rw [c_1_0]; decide) (by decide) ?_
    refine mm_aload_n d_Timer_put_32 rfl ?_
    refine mm_iload_n d_Timer_put_33 rfl ?_
    refine mm_putf d_Timer_put_34 cl_Timer ty_Timer fl_Timer_7_Timer (by decide) rfl rfl rfl ha (Nat.le_of_ble_eq_true rfl) ?_
    refine mm_hp (fun h1 e1 => ?_)
    have ha_v1 : h1 a = some (.inr (4, [.int v, .int li, .int mo, .int fi, .ref s])) := by rw [e1]; exact va_up_self _ _ _
    refine mm_goto (tgt := 67) d_Timer_put_37 (by decide) ?_
    exact mm_return d_Timer_put_67 rfl ⟨by simp [c_1_0, bx_uu, e1], rfl, by simp [c_1_0, bx_uu, e1, mm_up_id ha]⟩
  by_cases c_1_1 : k = 1
  · refine mm_tableIn (tgt := 40) (off := 39) d_Timer_put_1 (by rw [c_1_1]; decide) (by rw [c_1_1]; decide) (by rw [c_1_1]; decide) (by decide) ?_
    refine mm_aload_n d_Timer_put_40 rfl ?_
    refine mm_iload_n d_Timer_put_41 rfl ?_
    refine mm_putf d_Timer_put_42 cl_Timer ty_Timer fl_Timer_13_Timer (by decide) rfl rfl rfl ha (Nat.le_of_ble_eq_true rfl) ?_
    refine mm_hp (fun h2 e2 => ?_)
    have ha_v2 : h2 a = some (.inr (4, [.int r, .int v, .int mo, .int fi, .ref s])) := by rw [e2]; exact va_up_self _ _ _
    refine mm_goto (tgt := 67) d_Timer_put_45 (by decide) ?_
    exact mm_return d_Timer_put_67 rfl ⟨by simp [c_1_0, c_1_1, bx_uu, e2], rfl, by simp [c_1_0, c_1_1, bx_uu, e2, mm_up_id ha]⟩
  by_cases c_1_2 : k = 2
  · refine mm_tableIn (tgt := 48) (off := 47) d_Timer_put_1 (by rw [c_1_2]; decide) (by rw [c_1_2]; decide) (by rw [c_1_2]; decide) (by decide) ?_
    refine mm_aload_n d_Timer_put_48 rfl ?_
    refine mm_iload_n d_Timer_put_49 rfl ?_
    refine mm_bipush (v := 15) d_Timer_put_50 (by decide) ?_
    refine mm_iand d_Timer_put_52 ?_
    refine mm_putf d_Timer_put_53 cl_Timer ty_Timer fl_Timer_16_Timer (by decide) rfl rfl rfl ha (Nat.le_of_ble_eq_true rfl) ?_
    refine mm_hp (fun h3 e3 => ?_)
    have ha_v3 : h3 a = some (.inr (4, [.int r, .int li, .int (v &&& 15), .int fi, .ref s])) := by rw [e3]; exact va_up_self _ _ _
    refine mm_goto (tgt := 67) d_Timer_put_56 (by decide) ?_
    exact mm_return d_Timer_put_67 rfl ⟨by simp [c_1_0, c_1_1, c_1_2, bx_uu, e3], rfl, by simp [c_1_0, c_1_1, c_1_2, bx_uu, e3, mm_up_id ha]⟩
  by_cases c_1_3 : k = 3
  · refine mm_tableIn (tgt := 59) (off := 58) d_Timer_put_1 (by rw [c_1_3]; decide) (by rw [c_1_3]; decide) (by rw [c_1_3]; decide) (by decide) ?_
    refine mm_aload_n d_Timer_put_59 rfl ?_
    refine mm_iconst (v := 0) d_Timer_put_60 (by decide) ?_
    refine mm_putf d_Timer_put_61 cl_Timer ty_Timer fl_Timer_19_Timer (by decide) rfl rfl rfl ha (Nat.le_of_ble_eq_true rfl) ?_
    refine mm_hp (fun h4 e4 => ?_)
    have ha_v4 : h4 a = some (.inr (4, [.int r, .int li, .int mo, .int 0, .ref s])) := by rw [e4]; exact va_up_self _ _ _
    refine mm_goto (tgt := 67) d_Timer_put_64 (by decide) ?_
    exact mm_return d_Timer_put_67 rfl ⟨by simp [c_1_0, c_1_1, c_1_2, c_1_3, bx_uu, e4], rfl, by simp [c_1_0, c_1_1, c_1_2, c_1_3, bx_uu, e4, mm_up_id ha]⟩
  refine mm_tableOut (tgt := 67) d_Timer_put_1 (mm_tsw4 c_1_0 c_1_1 c_1_2 c_1_3) (by decide) ?_
  exact mm_return d_Timer_put_67 rfl ⟨by simp [c_1_0, c_1_1, c_1_2, c_1_3, bx_uu], rfl, by simp [c_1_0, c_1_1, c_1_2, c_1_3, bx_uu, mm_up_id ha]⟩
def tm_asks (mo fi : Int32) : Int32 := if mo &&& 4 = 0 then 0 else if fi = 1 then 1 else 0
set_option maxRecDepth 100000 in
theorem J_Timer_wantsAttention {sc : mm_Sc} {n : Nat} {h : mm_H} {a s : Nat} {r li mo fi : Int32} (ha : h a = some (.inr (4, [.int r, .int li, .int mo, .int fi, .ref s]))) : mm_J sc y_Timer_wantsAttention 1 [.ref a] n h 0 0 (fun o n' h' => o = .inl (some (.int (tm_asks mo fi))) ∧ n' = n ∧ h' = h) := by
  refine mm_J.of (show mm_G sc y_Timer_wantsAttention 1 0 [some (.ref a)] [] n h 0 0 _ from ?_) ce_Timer_wantsAttention.2.2.2.2.1 (Nat.le_of_ble_eq_true rfl) (by simp [Value.category])
  refine mm_aload_n d_Timer_wantsAttention_0 rfl ?_
  refine mm_getf d_Timer_wantsAttention_1 cl_Timer fl_Timer_16_Timer (by decide) ha rfl ?_
  refine mm_iconst (v := 4) d_Timer_wantsAttention_4 (by decide) ?_
  refine mm_iand d_Timer_wantsAttention_5 ?_
  refine mm_if_eq (tgt := 21) d_Timer_wantsAttention_6 (by decide) (fun c_6 => ?_) (fun c_6 => ?_)
  · refine mm_iconst (v := 0) d_Timer_wantsAttention_21 (by decide) ?_
    exact mm_zreturn d_Timer_wantsAttention_22 rfl rfl ⟨by simp [tm_asks, c_6, bx_uu], rfl, by simp [tm_asks, c_6, bx_uu, mm_up_id ha]⟩
  · refine mm_aload_n d_Timer_wantsAttention_9 rfl ?_
    refine mm_getf d_Timer_wantsAttention_10 cl_Timer fl_Timer_19_Timer (by decide) ha rfl ?_
    refine mm_iconst (v := 1) d_Timer_wantsAttention_13 (by decide) ?_
    refine mm_icmp_ne (tgt := 21) d_Timer_wantsAttention_14 (by decide) (fun c_14 => ?_) (fun c_14 => ?_)
    · refine mm_iconst (v := 0) d_Timer_wantsAttention_21 (by decide) ?_
      exact mm_zreturn d_Timer_wantsAttention_22 rfl rfl ⟨by simp [tm_asks, c_6, c_14, bx_uu], rfl, by simp [tm_asks, c_6, c_14, bx_uu, mm_up_id ha]⟩
    · refine mm_iconst (v := 1) d_Timer_wantsAttention_17 (by decide) ?_
      refine mm_goto (tgt := 22) d_Timer_wantsAttention_18 (by decide) ?_
      exact mm_zreturn d_Timer_wantsAttention_22 rfl rfl ⟨by simp [tm_asks, c_6, c_14, bx_uu], rfl, by simp [tm_asks, c_6, c_14, bx_uu, mm_up_id ha]⟩
set_option maxRecDepth 100000 in
theorem J_Timer_beginAnew {sc : mm_Sc} {n : Nat} {h : mm_H} {a s : Nat} {r li mo fi : Int32} (ha : h a = some (.inr (4, [.int r, .int li, .int mo, .int fi, .ref s]))) : mm_J sc y_Timer_beginAnew 1 [.ref a] n h 0 0 (fun o n' h' => o = .inl (none) ∧ n' = n ∧ h' = va_up h a (some (.inr (4, [.int 0, .int 0, .int 0, .int 0, .ref s])))) := by
  refine mm_J.of (show mm_G sc y_Timer_beginAnew 1 0 [some (.ref a)] [] n h 0 0 _ from ?_) ce_Timer_beginAnew.2.2.2.2.1 (Nat.le_of_ble_eq_true rfl) (by simp [Value.category])
  refine mm_aload_n d_Timer_beginAnew_0 rfl ?_
  refine mm_iconst (v := 0) d_Timer_beginAnew_1 (by decide) ?_
  refine mm_putf d_Timer_beginAnew_2 cl_Timer ty_Timer fl_Timer_7_Timer (by decide) rfl rfl rfl ha (Nat.le_of_ble_eq_true rfl) ?_
  refine mm_hp (fun h1 e1 => ?_)
  have ha_v1 : h1 a = some (.inr (4, [.int 0, .int li, .int mo, .int fi, .ref s])) := by rw [e1]; exact va_up_self _ _ _
  refine mm_aload_n d_Timer_beginAnew_5 rfl ?_
  refine mm_iconst (v := 0) d_Timer_beginAnew_6 (by decide) ?_
  refine mm_putf d_Timer_beginAnew_7 cl_Timer ty_Timer fl_Timer_13_Timer (by decide) rfl rfl rfl ha_v1 (Nat.le_of_ble_eq_true rfl) ?_
  refine mm_hp (fun h2 e2 => ?_)
  have ha_v2 : h2 a = some (.inr (4, [.int 0, .int 0, .int mo, .int fi, .ref s])) := by rw [e2]; exact va_up_self _ _ _
  refine mm_aload_n d_Timer_beginAnew_10 rfl ?_
  refine mm_iconst (v := 0) d_Timer_beginAnew_11 (by decide) ?_
  refine mm_putf d_Timer_beginAnew_12 cl_Timer ty_Timer fl_Timer_16_Timer (by decide) rfl rfl rfl ha_v2 (Nat.le_of_ble_eq_true rfl) ?_
  refine mm_hp (fun h3 e3 => ?_)
  have ha_v3 : h3 a = some (.inr (4, [.int 0, .int 0, .int 0, .int fi, .ref s])) := by rw [e3]; exact va_up_self _ _ _
  refine mm_aload_n d_Timer_beginAnew_15 rfl ?_
  refine mm_iconst (v := 0) d_Timer_beginAnew_16 (by decide) ?_
  refine mm_putf d_Timer_beginAnew_17 cl_Timer ty_Timer fl_Timer_19_Timer (by decide) rfl rfl rfl ha_v3 (Nat.le_of_ble_eq_true rfl) ?_
  refine mm_hp (fun h4 e4 => ?_)
  have ha_v4 : h4 a = some (.inr (4, [.int 0, .int 0, .int 0, .int 0, .ref s])) := by rw [e4]; exact va_up_self _ _ _
  exact mm_return d_Timer_beginAnew_20 rfl ⟨by simp [bx_uu, e4, e3, e2, e1], rfl, by simp [bx_uu, e4, e3, e2, e1, mm_up_id ha]⟩
