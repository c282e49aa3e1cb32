set_option maxRecDepth 100000 in
theorem J_Seat_init {sc : mm_Sc} {n : Nat} {h : mm_H} {a : Nat} {f l li w : Int32} (ha : h a = some (.inr (2, [.int 0, .int 0, .int 0, .int 0]))) : mm_J sc y_Seat_init 2 [.ref a, .int f, .int l, .int li, .int w] n h 0 0 (fun o n' h' => o = .inl (none) ∧ n' = n ∧ h' = va_up h a (some (.inr (2, [.int f, .int l, .int li, .int w])))) := by
  refine mm_J.of (show mm_G sc y_Seat_init 2 0 [some (.ref a), some (.int f), some (.int l), some (.int li), some (.int w)] [] n h 0 0 _ from ?_) ce_Seat_init.2.2.2.2.1 (Nat.le_of_ble_eq_true rfl) (by simp [Value.category])
  refine mm_aload_n d_Seat_init_0 rfl ?_
  refine mm_objInit d_Seat_init_1 m_252 m_25 m_26 (by decide) (Nat.le_of_ble_eq_true rfl) ?_
  refine mm_aload_n d_Seat_init_4 rfl ?_
  refine mm_iload_n d_Seat_init_5 rfl ?_
  refine mm_putfF (k := 0) d_Seat_init_6 cl_Seat ty_Seat m_253 (by decide) rfl rfl rfl rfl rfl ha (Nat.le_of_ble_eq_true rfl) ?_
  refine mm_hp (fun h1 e1 => ?_)
  have ha_v1 : h1 a = some (.inr (2, [.int f, .int 0, .int 0, .int 0])) := by rw [e1]; exact va_up_self _ _ _
  refine mm_aload_n d_Seat_init_9 rfl ?_
  refine mm_iload_n d_Seat_init_10 rfl ?_
  refine mm_putfF (k := 1) d_Seat_init_11 cl_Seat ty_Seat m_256 (by decide) rfl rfl rfl rfl rfl ha_v1 (Nat.le_of_ble_eq_true rfl) ?_
  refine mm_hp (fun h2 e2 => ?_)
  have ha_v2 : h2 a = some (.inr (2, [.int f, .int l, .int 0, .int 0])) := by rw [e2]; exact va_up_self _ _ _
  refine mm_aload_n d_Seat_init_14 rfl ?_
  refine mm_iload_n d_Seat_init_15 rfl ?_
  refine mm_putfF (k := 2) d_Seat_init_16 cl_Seat ty_Seat m_257 (by decide) rfl rfl rfl rfl rfl ha_v2 (Nat.le_of_ble_eq_true rfl) ?_
  refine mm_hp (fun h3 e3 => ?_)
  have ha_v3 : h3 a = some (.inr (2, [.int f, .int l, .int li, .int 0])) := by rw [e3]; exact va_up_self _ _ _
  refine mm_aload_n d_Seat_init_19 rfl ?_
  refine mm_iload d_Seat_init_20 rfl ?_
  refine mm_putfF (k := 3) d_Seat_init_22 cl_Seat ty_Seat m_259 (by decide) rfl rfl rfl rfl rfl ha_v3 (Nat.le_of_ble_eq_true rfl) ?_
  refine mm_hp (fun h4 e4 => ?_)
  have ha_v4 : h4 a = some (.inr (2, [.int f, .int l, .int li, .int w])) := by rw [e4]; exact va_up_self _ _ _
  exact mm_return d_Seat_init_25 rfl (by first | (refine ⟨?_, rfl, ?_⟩ <;> simp [bx_uu, e4, e3, e2, e1] <;> done) | (exfalso; simp_all; done))
set_option maxRecDepth 100000 in
theorem J_Seat_accessSteps {sc : mm_Sc} {n : Nat} {h : mm_H} {a : Nat} {f l li w : Int32} (ha : h a = some (.inr (2, [.int f, .int l, .int li, .int w]))) : mm_J sc y_Seat_accessSteps 1 [.ref a] n h 0 0 (fun o n' h' => o = .inl (some (.int (1 + w))) ∧ n' = n ∧ h' = h) := by
  refine mm_J.of (show mm_G sc y_Seat_accessSteps 1 0 [some (.ref a)] [] n h 0 0 _ from ?_) ce_Seat_accessSteps.2.2.2.2.1 (Nat.le_of_ble_eq_true rfl) (by simp [Value.category])
  refine mm_iconst (v := 1) d_Seat_accessSteps_0 (by decide) ?_
  refine mm_aload_n d_Seat_accessSteps_1 rfl ?_
  refine mm_getf d_Seat_accessSteps_2 cl_Seat fl_Seat_19_Seat (by decide) ha rfl ?_
  refine mm_iadd d_Seat_accessSteps_5 ?_
  exact mm_ireturn d_Seat_accessSteps_6 rfl ⟨by simp [], rfl, by first | exact Eq.refl h | exact mm_up_idE ha (by simp [])⟩
def st_meets (f l p k : Int32) : Int32 := if p < f then (if p < 0 then 0 else if f - p < k then 1 else 0) else if p - f < l then 1 else 0
set_option maxRecDepth 100000 in
theorem J_Seat_meets {sc : mm_Sc} {n : Nat} {h : mm_H} {a : Nat} {f l li w : Int32} {p k : Int32} (ha : h a = some (.inr (2, [.int f, .int l, .int li, .int w]))) : mm_J sc y_Seat_meets 1 [.ref a, .int p, .int k] n h 0 0 (fun o n' h' => o = .inl (some (.int (st_meets f l p k))) ∧ n' = n ∧ h' = h) := by
  refine mm_J.of (show mm_G sc y_Seat_meets 1 0 [some (.ref a), some (.int p), some (.int k)] [] n h 0 0 _ from ?_) ce_Seat_meets.2.2.2.2.1 (Nat.le_of_ble_eq_true rfl) (by simp [Value.category])
  refine mm_iload_n d_Seat_meets_0 rfl ?_
  refine mm_aload_n d_Seat_meets_1 rfl ?_
  refine mm_getf d_Seat_meets_2 cl_Seat fl_Seat_7_Seat (by decide) ha rfl ?_
  refine mm_icmp_lt (tgt := 29) d_Seat_meets_5 (by decide) (fun c_5 => ?_) (fun c_5 => ?_)
  · refine mm_iload_n d_Seat_meets_29 rfl ?_
    refine mm_if_lt (tgt := 47) d_Seat_meets_30 (by decide) (fun c_30 => ?_) (fun c_30 => ?_)
    · refine mm_iconst (v := 0) d_Seat_meets_47 (by decide) ?_
      exact mm_zreturn d_Seat_meets_48 rfl rfl ⟨by simp [st_meets, c_5, Int32.not_le.mpr c_5, c_30, Int32.not_le.mpr c_30], rfl, by first | exact Eq.refl h | exact mm_up_idE ha (by simp [st_meets, c_5, Int32.not_le.mpr c_5, c_30, Int32.not_le.mpr c_30])⟩
    · refine mm_aload_n d_Seat_meets_33 rfl ?_
      refine mm_getf d_Seat_meets_34 cl_Seat fl_Seat_7_Seat (by decide) ha rfl ?_
      refine mm_iload_n d_Seat_meets_37 rfl ?_
      refine mm_isub d_Seat_meets_38 ?_
      refine mm_iload_n d_Seat_meets_39 rfl ?_
      refine mm_icmp_ge (tgt := 47) d_Seat_meets_40 (by decide) (fun c_40 => ?_) (fun c_40 => ?_)
      · refine mm_iconst (v := 0) d_Seat_meets_47 (by decide) ?_
        exact mm_zreturn d_Seat_meets_48 rfl rfl ⟨by simp [st_meets, c_5, Int32.not_le.mpr c_5, c_30, Int32.not_lt.mp c_30, c_40, Int32.not_lt.mpr c_40], rfl, by first | exact Eq.refl h | exact mm_up_idE ha (by simp [st_meets, c_5, Int32.not_le.mpr c_5, c_30, Int32.not_lt.mp c_30, c_40, Int32.not_lt.mpr c_40])⟩
      · refine mm_iconst (v := 1) d_Seat_meets_43 (by decide) ?_
        refine mm_goto (tgt := 48) d_Seat_meets_44 (by decide) ?_
        exact mm_zreturn d_Seat_meets_48 rfl rfl ⟨by simp [st_meets, c_5, Int32.not_le.mpr c_5, c_30, Int32.not_lt.mp c_30, c_40, Int32.not_le.mp c_40], rfl, by first | exact Eq.refl h | exact mm_up_idE ha (by simp [st_meets, c_5, Int32.not_le.mpr c_5, c_30, Int32.not_lt.mp c_30, c_40, Int32.not_le.mp c_40])⟩
  · refine mm_iload_n d_Seat_meets_8 rfl ?_
    refine mm_aload_n d_Seat_meets_9 rfl ?_
    refine mm_getf d_Seat_meets_10 cl_Seat fl_Seat_7_Seat (by decide) ha rfl ?_
    refine mm_isub d_Seat_meets_13 ?_
    refine mm_aload_n d_Seat_meets_14 rfl ?_
    refine mm_getf d_Seat_meets_15 cl_Seat fl_Seat_13_Seat (by decide) ha rfl ?_
    refine mm_icmp_ge (tgt := 25) d_Seat_meets_18 (by decide) (fun c_18 => ?_) (fun c_18 => ?_)
    · refine mm_iconst (v := 0) d_Seat_meets_25 (by decide) ?_
      refine mm_goto (tgt := 48) d_Seat_meets_26 (by decide) ?_
      exact mm_zreturn d_Seat_meets_48 rfl rfl ⟨by simp [st_meets, c_5, Int32.not_lt.mp c_5, c_18, Int32.not_lt.mpr c_18], rfl, by first | exact Eq.refl h | exact mm_up_idE ha (by simp [st_meets, c_5, Int32.not_lt.mp c_5, c_18, Int32.not_lt.mpr c_18])⟩
    · refine mm_iconst (v := 1) d_Seat_meets_21 (by decide) ?_
      refine mm_goto (tgt := 48) d_Seat_meets_22 (by decide) ?_
      exact mm_zreturn d_Seat_meets_48 rfl rfl ⟨by simp [st_meets, c_5, Int32.not_lt.mp c_5, c_18, Int32.not_le.mp c_18], rfl, by first | exact Eq.refl h | exact mm_up_idE ha (by simp [st_meets, c_5, Int32.not_lt.mp c_5, c_18, Int32.not_le.mp c_18])⟩
set_option maxRecDepth 100000 in
theorem J_Part_refusesWrites {sc : mm_Sc} {n : Nat} {h : mm_H} {a : Nat}  : mm_J sc y_Part_refusesWrites 1 [.ref a] n h 0 0 (fun o n' h' => o = .inl (some (.int 0)) ∧ n' = n ∧ h' = h) := by
  refine mm_J.of (show mm_G sc y_Part_refusesWrites 1 0 [some (.ref a)] [] n h 0 0 _ from ?_) ce_Part_refusesWrites.2.2.2.2.1 (Nat.le_of_ble_eq_true rfl) (by simp [Value.category])
  refine mm_iconst (v := 0) d_Part_refusesWrites_0 (by decide) ?_
  exact mm_zreturn d_Part_refusesWrites_1 rfl rfl ⟨by simp [], rfl, rfl⟩
set_option maxRecDepth 100000 in
theorem J_Part_goOn {sc : mm_Sc} {n : Nat} {h : mm_H} {a : Nat}  : mm_J sc y_Part_goOn 1 [.ref a] n h 0 0 (fun o n' h' => o = .inl (some (.int 0)) ∧ n' = n ∧ h' = h) := by
  refine mm_J.of (show mm_G sc y_Part_goOn 1 0 [some (.ref a)] [] n h 0 0 _ from ?_) ce_Part_goOn.2.2.2.2.1 (Nat.le_of_ble_eq_true rfl) (by simp [Value.category])
  refine mm_iconst (v := 0) d_Part_goOn_0 (by decide) ?_
  exact mm_zreturn d_Part_goOn_1 rfl rfl ⟨by simp [], rfl, rfl⟩
set_option maxRecDepth 100000 in
theorem J_Part_wantsAttention {sc : mm_Sc} {n : Nat} {h : mm_H} {a : Nat}  : mm_J sc y_Part_wantsAttention 1 [.ref a] n h 0 0 (fun o n' h' => o = .inl (some (.int 0)) ∧ n' = n ∧ h' = h) := by
  refine mm_J.of (show mm_G sc y_Part_wantsAttention 1 0 [some (.ref a)] [] n h 0 0 _ from ?_) ce_Part_wantsAttention.2.2.2.2.1 (Nat.le_of_ble_eq_true rfl) (by simp [Value.category])
  refine mm_iconst (v := 0) d_Part_wantsAttention_0 (by decide) ?_
  exact mm_zreturn d_Part_wantsAttention_1 rfl rfl ⟨by simp [], rfl, rfl⟩
set_option maxRecDepth 100000 in
theorem J_Part_beginAnew {sc : mm_Sc} {n : Nat} {h : mm_H} {a : Nat}  : mm_J sc y_Part_beginAnew 1 [.ref a] n h 0 0 (fun o n' h' => o = .inl (none) ∧ n' = n ∧ h' = h) := by
  refine mm_J.of (show mm_G sc y_Part_beginAnew 1 0 [some (.ref a)] [] n h 0 0 _ from ?_) ce_Part_beginAnew.2.2.2.2.1 (Nat.le_of_ble_eq_true rfl) (by simp [Value.category])
  exact mm_return d_Part_beginAnew_0 rfl ⟨by simp [], rfl, rfl⟩
set_option maxRecDepth 100000 in
theorem J_Part_init_Cells {sc : mm_Sc} {n : Nat} {h : mm_H} {a s : Nat} (ha : h a = some (.inr (3, [.null, .int 0, .null]))) : mm_J sc y_Part_init 2 [.ref a, .ref s] n h 0 0 (fun o n' h' => o = .inl (none) ∧ n' = n ∧ h' = va_up h a (some (.inr (3, [.null, .int 0, .ref s])))) := by
  refine mm_J.of (show mm_G sc y_Part_init 2 0 [some (.ref a), some (.ref s)] [] n h 0 0 _ from ?_) ce_Part_init.2.2.2.2.1 (Nat.le_of_ble_eq_true rfl) (by simp [Value.category])
  refine mm_aload_n d_Part_init_0 rfl ?_
  refine mm_objInit d_Part_init_1 m_280 m_25 m_26 (by decide) (Nat.le_of_ble_eq_true rfl) ?_
  refine mm_aload_n d_Part_init_4 rfl ?_
  refine mm_aload_n d_Part_init_5 rfl ?_
  refine mm_putfF (k := 2) d_Part_init_6 cl_Cells ty_Cells m_283 (by decide) rfl rfl rfl rfl rfl ha (Nat.le_of_ble_eq_true rfl) ?_
  refine mm_hp (fun h1 e1 => ?_)
  have ha_v1 : h1 a = some (.inr (3, [.null, .int 0, .ref s])) := by rw [e1]; exact va_up_self _ _ _
  exact mm_return d_Part_init_9 rfl (by first | (refine ⟨?_, rfl, ?_⟩ <;> simp [bx_uu, e1] <;> done) | (exfalso; simp_all; done))
set_option maxRecDepth 100000 in
theorem J_Part_init_Timer {sc : mm_Sc} {n : Nat} {h : mm_H} {a s : Nat} (ha : h a = some (.inr (4, [.int 0, .int 0, .int 0, .int 0, .null]))) : mm_J sc y_Part_init 2 [.ref a, .ref s] n h 0 0 (fun o n' h' => o = .inl (none) ∧ n' = n ∧ h' = va_up h a (some (.inr (4, [.int 0, .int 0, .int 0, .int 0, .ref s])))) := by
  refine mm_J.of (show mm_G sc y_Part_init 2 0 [some (.ref a), some (.ref s)] [] n h 0 0 _ from ?_) ce_Part_init.2.2.2.2.1 (Nat.le_of_ble_eq_true rfl) (by simp [Value.category])
  refine mm_aload_n d_Part_init_0 rfl ?_
  refine mm_objInit d_Part_init_1 m_280 m_25 m_26 (by decide) (Nat.le_of_ble_eq_true rfl) ?_
  refine mm_aload_n d_Part_init_4 rfl ?_
  refine mm_aload_n d_Part_init_5 rfl ?_
  refine mm_putfF (k := 4) d_Part_init_6 cl_Timer ty_Timer m_283 (by decide) rfl rfl rfl rfl rfl ha (Nat.le_of_ble_eq_true rfl) ?_
  refine mm_hp (fun h1 e1 => ?_)
  have ha_v1 : h1 a = some (.inr (4, [.int 0, .int 0, .int 0, .int 0, .ref s])) := by rw [e1]; exact va_up_self _ _ _
  exact mm_return d_Part_init_9 rfl (by first | (refine ⟨?_, rfl, ?_⟩ <;> simp [bx_uu, e1] <;> done) | (exfalso; simp_all; done))
set_option maxRecDepth 100000 in
theorem J_Part_init_Serial {sc : mm_Sc} {n : Nat} {h : mm_H} {a s : Nat} (ha : h a = some (.inr (5, [.null, .int 0, .int 0, .null, .int 0, .int 0, .int 0, .int 0, .null]))) : mm_J sc y_Part_init 2 [.ref a, .ref s] n h 0 0 (fun o n' h' => o = .inl (none) ∧ n' = n ∧ h' = va_up h a (some (.inr (5, [.null, .int 0, .int 0, .null, .int 0, .int 0, .int 0, .int 0, .ref s])))) := by
  refine mm_J.of (show mm_G sc y_Part_init 2 0 [some (.ref a), some (.ref s)] [] n h 0 0 _ from ?_) ce_Part_init.2.2.2.2.1 (Nat.le_of_ble_eq_true rfl) (by simp [Value.category])
  refine mm_aload_n d_Part_init_0 rfl ?_
  refine mm_objInit d_Part_init_1 m_280 m_25 m_26 (by decide) (Nat.le_of_ble_eq_true rfl) ?_
  refine mm_aload_n d_Part_init_4 rfl ?_
  refine mm_aload_n d_Part_init_5 rfl ?_
  refine mm_putfF (k := 8) d_Part_init_6 cl_Serial ty_Serial m_283 (by decide) rfl rfl rfl rfl rfl ha (Nat.le_of_ble_eq_true rfl) ?_
  refine mm_hp (fun h1 e1 => ?_)
  have ha_v1 : h1 a = some (.inr (5, [.null, .int 0, .int 0, .null, .int 0, .int 0, .int 0, .int 0, .ref s])) := by rw [e1]; exact va_up_self _ _ _
  exact mm_return d_Part_init_9 rfl (by first | (refine ⟨?_, rfl, ?_⟩ <;> simp [bx_uu, e1] <;> done) | (exfalso; simp_all; done))
set_option maxRecDepth 100000 in
theorem J_Part_init_Rows {sc : mm_Sc} {n : Nat} {h : mm_H} {a s : Nat} (ha : h a = some (.inr (6, [.null, .null, .int 0, .int 0, .int 0, .int 0, .int 0, .null]))) : mm_J sc y_Part_init 2 [.ref a, .ref s] n h 0 0 (fun o n' h' => o = .inl (none) ∧ n' = n ∧ h' = va_up h a (some (.inr (6, [.null, .null, .int 0, .int 0, .int 0, .int 0, .int 0, .ref s])))) := by
  refine mm_J.of (show mm_G sc y_Part_init 2 0 [some (.ref a), some (.ref s)] [] n h 0 0 _ from ?_) ce_Part_init.2.2.2.2.1 (Nat.le_of_ble_eq_true rfl) (by simp [Value.category])
  refine mm_aload_n d_Part_init_0 rfl ?_
  refine mm_objInit d_Part_init_1 m_280 m_25 m_26 (by decide) (Nat.le_of_ble_eq_true rfl) ?_
  refine mm_aload_n d_Part_init_4 rfl ?_
  refine mm_aload_n d_Part_init_5 rfl ?_
  refine mm_putfF (k := 7) d_Part_init_6 cl_Rows ty_Rows m_283 (by decide) rfl rfl rfl rfl rfl ha (Nat.le_of_ble_eq_true rfl) ?_
  refine mm_hp (fun h1 e1 => ?_)
  have ha_v1 : h1 a = some (.inr (6, [.null, .null, .int 0, .int 0, .int 0, .int 0, .int 0, .ref s])) := by rw [e1]; exact va_up_self _ _ _
  exact mm_return d_Part_init_9 rfl (by first | (refine ⟨?_, rfl, ?_⟩ <;> simp [bx_uu, e1] <;> done) | (exfalso; simp_all; done))
set_option maxRecDepth 100000 in
theorem J_Part_init_Counts {sc : mm_Sc} {n : Nat} {h : mm_H} {a s : Nat} (ha : h a = some (.inr (7, [.null, .null]))) : mm_J sc y_Part_init 2 [.ref a, .ref s] n h 0 0 (fun o n' h' => o = .inl (none) ∧ n' = n ∧ h' = va_up h a (some (.inr (7, [.null, .ref s])))) := by
  refine mm_J.of (show mm_G sc y_Part_init 2 0 [some (.ref a), some (.ref s)] [] n h 0 0 _ from ?_) ce_Part_init.2.2.2.2.1 (Nat.le_of_ble_eq_true rfl) (by simp [Value.category])
  refine mm_aload_n d_Part_init_0 rfl ?_
  refine mm_objInit d_Part_init_1 m_280 m_25 m_26 (by decide) (Nat.le_of_ble_eq_true rfl) ?_
  refine mm_aload_n d_Part_init_4 rfl ?_
  refine mm_aload_n d_Part_init_5 rfl ?_
  refine mm_putfF (k := 1) d_Part_init_6 cl_Counts ty_Counts m_283 (by decide) rfl rfl rfl rfl rfl ha (Nat.le_of_ble_eq_true rfl) ?_
  refine mm_hp (fun h1 e1 => ?_)
  have ha_v1 : h1 a = some (.inr (7, [.null, .ref s])) := by rw [e1]; exact va_up_self _ _ _
  exact mm_return d_Part_init_9 rfl (by first | (refine ⟨?_, rfl, ?_⟩ <;> simp [bx_uu, e1] <;> done) | (exfalso; simp_all; done))
def ar_look (A : Nat → Int32) (len : Nat) (k : Int32) : Int32 := if k < 0 then 0 else if Int32.ofNat len ≤ k then 0 else A k.toNatClampNeg
def ar_put (A : Nat → Int32) (len : Nat) (k v : Int32) : Nat → Int32 := if k < 0 then A else if Int32.ofNat len ≤ k then A else upd A k.toNatClampNeg v
set_option maxRecDepth 100000 in
theorem J_Cells_look {sc : mm_Sc} {n : Nat} {h : mm_H} {a b s len : Nat} {A : Nat → Int32} {fx k v : Int32} (hl : len < 2 ^ 31) (ha : h a = some (.inr (3, [.ref b, .int fx, .ref s]))) (hb : h b = some (.inl (0, len, .inl A))) : mm_J sc y_Cells_look 1 [.ref a, .int k] n h 0 0 (fun o n' h' => o = .inl (some (.int (ar_look A len k))) ∧ n' = n ∧ h' = h) := by
  refine mm_J.of (show mm_G sc y_Cells_look 1 0 [some (.ref a), some (.int k)] [] n h 0 0 _ from ?_) ce_Cells_look.2.2.2.2.1 (Nat.le_of_ble_eq_true rfl) (by simp [Value.category])
  refine mm_iload_n d_Cells_look_0 rfl ?_
  refine mm_if_lt (tgt := 22) d_Cells_look_1 (by decide) (fun c_1 => ?_) (fun c_1 => ?_)
  · refine mm_iconst (v := 0) d_Cells_look_22 (by decide) ?_
    exact mm_ireturn d_Cells_look_23 rfl ⟨by simp [ar_look, c_1, Int32.not_le.mpr c_1], rfl, by first | exact Eq.refl h | exact mm_up_idE ha (by simp [ar_look, c_1, Int32.not_le.mpr c_1])⟩
  · refine mm_iload_n d_Cells_look_4 rfl ?_
    refine mm_aload_n d_Cells_look_5 rfl ?_
    refine mm_getf d_Cells_look_6 cl_Cells fl_Cells_13_Cells (by decide) ha rfl ?_
    refine mm_alen d_Cells_look_9 hb (by decide) ?_
    refine mm_icmp_ge (tgt := 22) d_Cells_look_10 (by decide) (fun c_10 => ?_) (fun c_10 => ?_)
    · refine mm_iconst (v := 0) d_Cells_look_22 (by decide) ?_
      exact mm_ireturn d_Cells_look_23 rfl ⟨by simp [ar_look, c_1, Int32.not_lt.mp c_1, c_10, Int32.not_lt.mpr c_10], rfl, by first | exact Eq.refl h | exact mm_up_idE ha (by simp [ar_look, c_1, Int32.not_lt.mp c_1, c_10, Int32.not_lt.mpr c_10])⟩
    · refine mm_aload_n d_Cells_look_13 rfl ?_
      refine mm_getf d_Cells_look_14 cl_Cells fl_Cells_13_Cells (by decide) ha rfl ?_
      refine mm_iload_n d_Cells_look_17 rfl ?_
      refine mm_iald d_Cells_look_18 hb (mm_inb hl c_1 c_10) ?_
      refine mm_goto (tgt := 23) d_Cells_look_19 (by decide) ?_
      exact mm_ireturn d_Cells_look_23 rfl ⟨by simp [ar_look, c_1, Int32.not_lt.mp c_1, c_10, Int32.not_le.mp c_10], rfl, by first | exact Eq.refl h | exact mm_up_idE ha (by simp [ar_look, c_1, Int32.not_lt.mp c_1, c_10, Int32.not_le.mp c_10])⟩
set_option maxRecDepth 100000 in
theorem J_Cells_put {sc : mm_Sc} {n : Nat} {h : mm_H} {a b s len : Nat} {A : Nat → Int32} {fx k v : Int32} (hl : len < 2 ^ 31) (ha : h a = some (.inr (3, [.ref b, .int fx, .ref s]))) (hb : h b = some (.inl (0, len, .inl A))) : mm_J sc y_Cells_put 1 [.ref a, .int k, .int v] n h 0 0 (fun o n' h' => o = .inl (none) ∧ n' = n ∧ h' = va_up h b (some (.inl (0, len, .inl (ar_put A len k v))))) := by
  refine mm_J.of (show mm_G sc y_Cells_put 1 0 [some (.ref a), some (.int k), some (.int v)] [] n h 0 0 _ from ?_) ce_Cells_put.2.2.2.2.1 (Nat.le_of_ble_eq_true rfl) (by simp [Value.category])
  refine mm_iload_n d_Cells_put_0 rfl ?_
  refine mm_if_lt (tgt := 20) d_Cells_put_1 (by decide) (fun c_1 => ?_) (fun c_1 => ?_)
  · exact mm_return d_Cells_put_20 rfl ⟨by simp [ar_put, c_1, Int32.not_le.mpr c_1], rfl, by first | exact Eq.refl h | exact mm_up_idE hb (by simp [ar_put, c_1, Int32.not_le.mpr c_1])⟩
  · refine mm_iload_n d_Cells_put_4 rfl ?_
    refine mm_aload_n d_Cells_put_5 rfl ?_
    refine mm_getf d_Cells_put_6 cl_Cells fl_Cells_13_Cells (by decide) ha rfl ?_
    refine mm_alen d_Cells_put_9 hb (by decide) ?_
    refine mm_icmp_ge (tgt := 20) d_Cells_put_10 (by decide) (fun c_10 => ?_) (fun c_10 => ?_)
    · exact mm_return d_Cells_put_20 rfl ⟨by simp [ar_put, c_1, Int32.not_lt.mp c_1, c_10, Int32.not_lt.mpr c_10], rfl, by first | exact Eq.refl h | exact mm_up_idE hb (by simp [ar_put, c_1, Int32.not_lt.mp c_1, c_10, Int32.not_lt.mpr c_10])⟩
    · refine mm_aload_n d_Cells_put_13 rfl ?_
      refine mm_getf d_Cells_put_14 cl_Cells fl_Cells_13_Cells (by decide) ha rfl ?_
      refine mm_iload_n d_Cells_put_17 rfl ?_
      refine mm_iload_n d_Cells_put_18 rfl ?_
      refine mm_iast d_Cells_put_19 hb (mm_inb hl c_1 c_10) ?_
      refine mm_hp (fun h1 e1 => ?_)
      have ha_v1 : h1 a = some (.inr (3, [.ref b, .int fx, .ref s])) := by rw [e1, va_up_ne _ _ (mm_neq ha hb (by simp))]; exact ha
      have hb_v1 : h1 b = some (.inl (0, len, .inl (upd A k.toNatClampNeg v))) := by rw [e1]; exact va_up_self _ _ _
      exact mm_return d_Cells_put_20 rfl (by first | (refine ⟨?_, rfl, ?_⟩ <;> simp [ar_put, c_1, Int32.not_lt.mp c_1, c_10, Int32.not_le.mp c_10, bx_uu, e1] <;> done) | (exfalso; simp_all; done))
set_option maxRecDepth 100000 in
theorem J_Counts_look {sc : mm_Sc} {n : Nat} {h : mm_H} {a b s len : Nat} {A : Nat → Int32} {k v : Int32} (hl : len < 2 ^ 31) (ha : h a = some (.inr (7, [.ref b, .ref s]))) (hb : h b = some (.inl (0, len, .inl A))) : mm_J sc y_Counts_look 1 [.ref a, .int k] n h 0 0 (fun o n' h' => o = .inl (some (.int (ar_look A len k))) ∧ n' = n ∧ h' = h) := by
  refine mm_J.of (show mm_G sc y_Counts_look 1 0 [some (.ref a), some (.int k)] [] n h 0 0 _ from ?_) ce_Counts_look.2.2.2.2.1 (Nat.le_of_ble_eq_true rfl) (by simp [Value.category])
  refine mm_iload_n d_Counts_look_0 rfl ?_
  refine mm_if_lt (tgt := 22) d_Counts_look_1 (by decide) (fun c_1 => ?_) (fun c_1 => ?_)
  · refine mm_iconst (v := 0) d_Counts_look_22 (by decide) ?_
    exact mm_ireturn d_Counts_look_23 rfl ⟨by simp [ar_look, c_1, Int32.not_le.mpr c_1], rfl, by first | exact Eq.refl h | exact mm_up_idE ha (by simp [ar_look, c_1, Int32.not_le.mpr c_1])⟩
  · refine mm_iload_n d_Counts_look_4 rfl ?_
    refine mm_aload_n d_Counts_look_5 rfl ?_
    refine mm_getf d_Counts_look_6 cl_Counts fl_Counts_9_Counts (by decide) ha rfl ?_
    refine mm_alen d_Counts_look_9 hb (by decide) ?_
    refine mm_icmp_ge (tgt := 22) d_Counts_look_10 (by decide) (fun c_10 => ?_) (fun c_10 => ?_)
    · refine mm_iconst (v := 0) d_Counts_look_22 (by decide) ?_
      exact mm_ireturn d_Counts_look_23 rfl ⟨by simp [ar_look, c_1, Int32.not_lt.mp c_1, c_10, Int32.not_lt.mpr c_10], rfl, by first | exact Eq.refl h | exact mm_up_idE ha (by simp [ar_look, c_1, Int32.not_lt.mp c_1, c_10, Int32.not_lt.mpr c_10])⟩
    · refine mm_aload_n d_Counts_look_13 rfl ?_
      refine mm_getf d_Counts_look_14 cl_Counts fl_Counts_9_Counts (by decide) ha rfl ?_
      refine mm_iload_n d_Counts_look_17 rfl ?_
      refine mm_iald d_Counts_look_18 hb (mm_inb hl c_1 c_10) ?_
      refine mm_goto (tgt := 23) d_Counts_look_19 (by decide) ?_
      exact mm_ireturn d_Counts_look_23 rfl ⟨by simp [ar_look, c_1, Int32.not_lt.mp c_1, c_10, Int32.not_le.mp c_10], rfl, by first | exact Eq.refl h | exact mm_up_idE ha (by simp [ar_look, c_1, Int32.not_lt.mp c_1, c_10, Int32.not_le.mp c_10])⟩
set_option maxRecDepth 100000 in
theorem J_Counts_put {sc : mm_Sc} {n : Nat} {h : mm_H} {a b s len : Nat} {A : Nat → Int32} {k v : Int32} (hl : len < 2 ^ 31) (ha : h a = some (.inr (7, [.ref b, .ref s]))) (hb : h b = some (.inl (0, len, .inl A))) : mm_J sc y_Counts_put 1 [.ref a, .int k, .int v] n h 0 0 (fun o n' h' => o = .inl (none) ∧ n' = n ∧ h' = va_up h b (some (.inl (0, len, .inl (ar_put A len k 0))))) := by
  refine mm_J.of (show mm_G sc y_Counts_put 1 0 [some (.ref a), some (.int k), some (.int v)] [] n h 0 0 _ from ?_) ce_Counts_put.2.2.2.2.1 (Nat.le_of_ble_eq_true rfl) (by simp [Value.category])
  refine mm_iload_n d_Counts_put_0 rfl ?_
  refine mm_if_lt (tgt := 20) d_Counts_put_1 (by decide) (fun c_1 => ?_) (fun c_1 => ?_)
  · exact mm_return d_Counts_put_20 rfl ⟨by simp [ar_put, c_1, Int32.not_le.mpr c_1], rfl, by first | exact Eq.refl h | exact mm_up_idE hb (by simp [ar_put, c_1, Int32.not_le.mpr c_1])⟩
  · refine mm_iload_n d_Counts_put_4 rfl ?_
    refine mm_aload_n d_Counts_put_5 rfl ?_
    refine mm_getf d_Counts_put_6 cl_Counts fl_Counts_9_Counts (by decide) ha rfl ?_
    refine mm_alen d_Counts_put_9 hb (by decide) ?_
    refine mm_icmp_ge (tgt := 20) d_Counts_put_10 (by decide) (fun c_10 => ?_) (fun c_10 => ?_)
    · exact mm_return d_Counts_put_20 rfl ⟨by simp [ar_put, c_1, Int32.not_lt.mp c_1, c_10, Int32.not_lt.mpr c_10], rfl, by first | exact Eq.refl h | exact mm_up_idE hb (by simp [ar_put, c_1, Int32.not_lt.mp c_1, c_10, Int32.not_lt.mpr c_10])⟩
    · refine mm_aload_n d_Counts_put_13 rfl ?_
      refine mm_getf d_Counts_put_14 cl_Counts fl_Counts_9_Counts (by decide) ha rfl ?_
      refine mm_iload_n d_Counts_put_17 rfl ?_
      refine mm_iconst (v := 0) d_Counts_put_18 (by decide) ?_
      refine mm_iast d_Counts_put_19 hb (mm_inb hl c_1 c_10) ?_
      refine mm_hp (fun h1 e1 => ?_)
      have ha_v1 : h1 a = some (.inr (7, [.ref b, .ref s])) := by rw [e1, va_up_ne _ _ (mm_neq ha hb (by simp))]; exact ha
      have hb_v1 : h1 b = some (.inl (0, len, .inl (upd A k.toNatClampNeg 0))) := by rw [e1]; exact va_up_self _ _ _
      exact mm_return d_Counts_put_20 rfl (by first | (refine ⟨?_, rfl, ?_⟩ <;> simp [ar_put, c_1, Int32.not_lt.mp c_1, c_10, Int32.not_le.mp c_10, bx_uu, e1] <;> done) | (exfalso; simp_all; done))
set_option maxRecDepth 100000 in
theorem J_Cells_refusesWrites {sc : mm_Sc} {n : Nat} {h : mm_H} {a b s : Nat} {fx : Int32} (hz : narrow .boolean (.int fx) = .int fx) (ha : h a = some (.inr (3, [.ref b, .int fx, .ref s]))) : mm_J sc y_Cells_refusesWrites 1 [.ref a] n h 0 0 (fun o n' h' => o = .inl (some (.int fx)) ∧ n' = n ∧ h' = h) := by
  refine mm_J.of (show mm_G sc y_Cells_refusesWrites 1 0 [some (.ref a)] [] n h 0 0 _ from ?_) ce_Cells_refusesWrites.2.2.2.2.1 (Nat.le_of_ble_eq_true rfl) (by simp [Value.category])
  refine mm_aload_n d_Cells_refusesWrites_0 rfl ?_
  refine mm_getf d_Cells_refusesWrites_1 cl_Cells fl_Cells_19_Cells (by decide) ha rfl ?_
  exact mm_zreturn d_Cells_refusesWrites_4 rfl hz ⟨by simp [], rfl, by first | exact Eq.refl h | exact mm_up_idE ha (by simp [])⟩
def ct_add (A : Nat → Int32) (len : Nat) (k : Int32) : Nat → Int32 := if k < 0 then A else if Int32.ofNat len ≤ k then A else upd A k.toNatClampNeg (A k.toNatClampNeg + 1)
set_option maxRecDepth 100000 in
theorem J_Counts_add {sc : mm_Sc} {n : Nat} {h : mm_H} {a b s len : Nat} {A : Nat → Int32} {k : Int32} (hl : len < 2 ^ 31) (ha : h a = some (.inr (7, [.ref b, .ref s]))) (hb : h b = some (.inl (0, len, .inl A))) : mm_J sc y_Counts_add 1 [.ref a, .int k] n h 0 0 (fun o n' h' => o = .inl (none) ∧ n' = n ∧ h' = va_up h b (some (.inl (0, len, .inl (ct_add A len k))))) := by
  refine mm_J.of (show mm_G sc y_Counts_add 1 0 [some (.ref a), some (.int k)] [] n h 0 0 _ from ?_) ce_Counts_add.2.2.2.2.1 (Nat.le_of_ble_eq_true rfl) (by simp [Value.category])
  refine mm_iload_n d_Counts_add_0 rfl ?_
  refine mm_if_lt (tgt := 23) d_Counts_add_1 (by decide) (fun c_1 => ?_) (fun c_1 => ?_)
  · exact mm_return d_Counts_add_23 rfl ⟨by simp [ct_add, c_1, Int32.not_le.mpr c_1], rfl, by first | exact Eq.refl h | exact mm_up_idE hb (by simp [ct_add, c_1, Int32.not_le.mpr c_1])⟩
  · refine mm_iload_n d_Counts_add_4 rfl ?_
    refine mm_aload_n d_Counts_add_5 rfl ?_
    refine mm_getf d_Counts_add_6 cl_Counts fl_Counts_9_Counts (by decide) ha rfl ?_
    refine mm_alen d_Counts_add_9 hb (by decide) ?_
    refine mm_icmp_ge (tgt := 23) d_Counts_add_10 (by decide) (fun c_10 => ?_) (fun c_10 => ?_)
    · exact mm_return d_Counts_add_23 rfl ⟨by simp [ct_add, c_1, Int32.not_lt.mp c_1, c_10, Int32.not_lt.mpr c_10], rfl, by first | exact Eq.refl h | exact mm_up_idE hb (by simp [ct_add, c_1, Int32.not_lt.mp c_1, c_10, Int32.not_lt.mpr c_10])⟩
    · refine mm_aload_n d_Counts_add_13 rfl ?_
      refine mm_getf d_Counts_add_14 cl_Counts fl_Counts_9_Counts (by decide) ha rfl ?_
      refine mm_iload_n d_Counts_add_17 rfl ?_
      refine mm_dup2 d_Counts_add_18 rfl rfl ?_
      refine mm_iald d_Counts_add_19 hb (mm_inb hl c_1 c_10) ?_
      refine mm_iconst (v := 1) d_Counts_add_20 (by decide) ?_
      refine mm_iadd d_Counts_add_21 ?_
      refine mm_iast d_Counts_add_22 hb (mm_inb hl c_1 c_10) ?_
      refine mm_hp (fun h1 e1 => ?_)
      have ha_v1 : h1 a = some (.inr (7, [.ref b, .ref s])) := by rw [e1, va_up_ne _ _ (mm_neq ha hb (by simp))]; exact ha
      have hb_v1 : h1 b = some (.inl (0, len, .inl (upd A k.toNatClampNeg ((A k.toNatClampNeg) + 1)))) := by rw [e1]; exact va_up_self _ _ _
      exact mm_return d_Counts_add_23 rfl (by first | (refine ⟨?_, rfl, ?_⟩ <;> simp [ct_add, c_1, Int32.not_lt.mp c_1, c_10, Int32.not_le.mp c_10, bx_uu, e1] <;> done) | (exfalso; simp_all; done))
set_option maxRecDepth 100000 in
theorem J_Counts_goOn {sc : mm_Sc} {n : Nat} {h : mm_H} {a b s len : Nat} {A : Nat → Int32} (hl : len < 2 ^ 31) (ha : h a = some (.inr (7, [.ref b, .ref s]))) (hb : h b = some (.inl (0, len, .inl A))) : mm_J sc y_Counts_goOn 2 [.ref a] n h 0 0 (fun o n' h' => o = .inl (some (.int 0)) ∧ n' = n ∧ h' = va_up h b (some (.inl (0, len, .inl (ct_add A len 0))))) := by
  refine mm_J.of (show mm_G sc y_Counts_goOn 2 0 [some (.ref a)] [] n h 0 0 _ from ?_) ce_Counts_goOn.2.2.2.2.1 (Nat.le_of_ble_eq_true rfl) (by simp [Value.category])
  refine mm_aload_n d_Counts_goOn_0 rfl ?_
  refine mm_iconst (v := 0) d_Counts_goOn_1 (by decide) ?_
  refine mm_callD d_Counts_goOn_2 (mm_Inv.vi (as := [.int 0]) d_Counts_goOn_2 (Or.inl m_479) m_441 ce_Counts_add.2.1 ce_Counts_add.2.2.1 m_442 ce_Counts_add.2.2.2.2.2 ln_Counts_add cl_Counts ha rfl) (J_Counts_add hl ha hb) (by decide) ce_Counts_add.1 ce_Counts_add.2.1 ce_Counts_add.2.2.1 ce_Counts_add.2.2.2.1 (Nat.le_of_ble_eq_true rfl) ?_
  refine mm_hp (fun h1 e1 => ?_)
  have ha_v1 : h1 a = some (.inr (7, [.ref b, .ref s])) := by rw [e1, va_up_ne _ _ (mm_neq ha hb (by simp))]; exact ha
  have hb_v1 : h1 b = some (.inl (0, len, .inl (ct_add A len 0))) := by rw [e1]; exact va_up_self _ _ _
  refine mm_iconst (v := 0) d_Counts_goOn_5 (by decide) ?_
  exact mm_zreturn d_Counts_goOn_6 rfl rfl (by first | (refine ⟨?_, rfl, ?_⟩ <;> simp [bx_uu, e1] <;> done) | (exfalso; simp_all; done))
