set_option maxRecDepth 100000 in
set_option maxHeartbeats 8000000 in
theorem J_Model_init {sc : mm_Sc} {h : mm_H} {m : Nat} (ha : h m = some (.inr (8, [.int 0, .int 0, .int 0, .int 0, .null, .null, .null, .null, .null, .null, .null, .null, .null, .null, .null, .null, .null, .null, .null, .null, .null, .null, .int 0, .int 0, .int 0]))) : mm_J sc y_Model_init 3 [.ref m] (m + 1) h 18 2492 (fun o n' h' => o = .inl none ∧ n' = m + 19 ∧ MH h' m (fun _ => 0) (fun _ _ => 0) ∧ ∀ i, i < m ∨ m + 19 ≤ i → h' i = h i) := by
  refine mm_J.of (show mm_G sc y_Model_init 3 0 [some (.ref m)] [] (m + 1) h 18 2492 _ from ?_) ce_Model_init.2.2.2.2.1 (Nat.le_of_ble_eq_true rfl) (by simp [Value.category])
  refine mm_aload_n d_Model_init_0 rfl ?_
  refine mm_objInit d_Model_init_1 m_670 m_25 m_26 (by decide) (Nat.le_of_ble_eq_true rfl) ?_
  refine mm_aload_n d_Model_init_4 rfl ?_
  refine mm_bipush (v := 12) d_Model_init_5 (by decide) ?_
  refine mm_newa (t := 0) (N := 12) (a0 := (12, .inl (fun _ => 0))) (kc := 17) (ks := 2480) d_Model_init_7 (by decide) rfl m_52 (fun _ => rfl) (by decide) rfl (by decide) ?_
  refine mm_hp (fun h1 e1 => ?_)
  have ha_v1 : h1 m = some (.inr (8, [.int 0, .int 0, .int 0, .int 0, .null, .null, .null, .null, .null, .null, .null, .null, .null, .null, .null, .null, .null, .null, .null, .null, .null, .null, .int 0, .int 0, .int 0])) := by rw [e1, va_up_ne _ _ (by omega)]; exact ha
  refine mm_putfF (k := 4) d_Model_init_9 cl_Model ty_Model m_675 (by decide) rfl rfl rfl rfl rfl ha_v1 (Nat.le_of_ble_eq_true rfl) ?_
  refine mm_hp (fun h2 e2 => ?_)
  have ha_v2 : h2 m = some (.inr (8, [.int 0, .int 0, .int 0, .int 0, .ref (m + 1), .null, .null, .null, .null, .null, .null, .null, .null, .null, .null, .null, .null, .null, .null, .null, .null, .null, .int 0, .int 0, .int 0])) := by rw [e2]; exact va_up_self _ _ _
  refine mm_aload_n d_Model_init_12 rfl ?_
  refine mm_bipush (v := 12) d_Model_init_13 (by decide) ?_
  refine mm_newa (t := 0) (N := 12) (a0 := (12, .inl (fun _ => 0))) (kc := 16) (ks := 2468) d_Model_init_15 (by decide) rfl m_52 (fun _ => rfl) (by decide) rfl (by decide) ?_
  refine mm_hp (fun h3 e3 => ?_)
  have ha_v3 : h3 m = some (.inr (8, [.int 0, .int 0, .int 0, .int 0, .ref (m + 1), .null, .null, .null, .null, .null, .null, .null, .null, .null, .null, .null, .null, .null, .null, .null, .null, .null, .int 0, .int 0, .int 0])) := by rw [e3, va_up_ne _ _ (by omega)]; exact ha_v2
  refine mm_putfF (k := 5) d_Model_init_17 cl_Model ty_Model m_676 (by decide) rfl rfl rfl rfl rfl ha_v3 (Nat.le_of_ble_eq_true rfl) ?_
  refine mm_hp (fun h4 e4 => ?_)
  have ha_v4 : h4 m = some (.inr (8, [.int 0, .int 0, .int 0, .int 0, .ref (m + 1), .ref (m + 2), .null, .null, .null, .null, .null, .null, .null, .null, .null, .null, .null, .null, .null, .null, .null, .null, .int 0, .int 0, .int 0])) := by rw [e4]; exact va_up_self _ _ _
  refine mm_aload_n d_Model_init_20 rfl ?_
  refine mm_bipush (v := 12) d_Model_init_21 (by decide) ?_
  refine mm_newa (t := 0) (N := 12) (a0 := (12, .inl (fun _ => 0))) (kc := 15) (ks := 2456) d_Model_init_23 (by decide) rfl m_52 (fun _ => rfl) (by decide) rfl (by decide) ?_
  refine mm_hp (fun h5 e5 => ?_)
  have ha_v5 : h5 m = some (.inr (8, [.int 0, .int 0, .int 0, .int 0, .ref (m + 1), .ref (m + 2), .null, .null, .null, .null, .null, .null, .null, .null, .null, .null, .null, .null, .null, .null, .null, .null, .int 0, .int 0, .int 0])) := by rw [e5, va_up_ne _ _ (by omega)]; exact ha_v4
  refine mm_putfF (k := 6) d_Model_init_25 cl_Model ty_Model m_677 (by decide) rfl rfl rfl rfl rfl ha_v5 (Nat.le_of_ble_eq_true rfl) ?_
  refine mm_hp (fun h6 e6 => ?_)
  have ha_v6 : h6 m = some (.inr (8, [.int 0, .int 0, .int 0, .int 0, .ref (m + 1), .ref (m + 2), .ref (m + 3), .null, .null, .null, .null, .null, .null, .null, .null, .null, .null, .null, .null, .null, .null, .null, .int 0, .int 0, .int 0])) := by rw [e6]; exact va_up_self _ _ _
  refine mm_aload_n d_Model_init_28 rfl ?_
  refine mm_bipush (v := 12) d_Model_init_29 (by decide) ?_
  refine mm_newa (t := 0) (N := 12) (a0 := (12, .inl (fun _ => 0))) (kc := 14) (ks := 2444) d_Model_init_31 (by decide) rfl m_52 (fun _ => rfl) (by decide) rfl (by decide) ?_
  refine mm_hp (fun h7 e7 => ?_)
  have ha_v7 : h7 m = some (.inr (8, [.int 0, .int 0, .int 0, .int 0, .ref (m + 1), .ref (m + 2), .ref (m + 3), .null, .null, .null, .null, .null, .null, .null, .null, .null, .null, .null, .null, .null, .null, .null, .int 0, .int 0, .int 0])) := by rw [e7, va_up_ne _ _ (by omega)]; exact ha_v6
  refine mm_putfF (k := 7) d_Model_init_33 cl_Model ty_Model m_678 (by decide) rfl rfl rfl rfl rfl ha_v7 (Nat.le_of_ble_eq_true rfl) ?_
  refine mm_hp (fun h8 e8 => ?_)
  have ha_v8 : h8 m = some (.inr (8, [.int 0, .int 0, .int 0, .int 0, .ref (m + 1), .ref (m + 2), .ref (m + 3), .ref (m + 4), .null, .null, .null, .null, .null, .null, .null, .null, .null, .null, .null, .null, .null, .null, .int 0, .int 0, .int 0])) := by rw [e8]; exact va_up_self _ _ _
  refine mm_aload_n d_Model_init_36 rfl ?_
  refine mm_bipush (v := 12) d_Model_init_37 (by decide) ?_
  refine mm_newa (t := 0) (N := 12) (a0 := (12, .inl (fun _ => 0))) (kc := 13) (ks := 2432) d_Model_init_39 (by decide) rfl m_52 (fun _ => rfl) (by decide) rfl (by decide) ?_
  refine mm_hp (fun h9 e9 => ?_)
  have ha_v9 : h9 m = some (.inr (8, [.int 0, .int 0, .int 0, .int 0, .ref (m + 1), .ref (m + 2), .ref (m + 3), .ref (m + 4), .null, .null, .null, .null, .null, .null, .null, .null, .null, .null, .null, .null, .null, .null, .int 0, .int 0, .int 0])) := by rw [e9, va_up_ne _ _ (by omega)]; exact ha_v8
  refine mm_putfF (k := 8) d_Model_init_41 cl_Model ty_Model m_679 (by decide) rfl rfl rfl rfl rfl ha_v9 (Nat.le_of_ble_eq_true rfl) ?_
  refine mm_hp (fun h10 e10 => ?_)
  have ha_v10 : h10 m = some (.inr (8, [.int 0, .int 0, .int 0, .int 0, .ref (m + 1), .ref (m + 2), .ref (m + 3), .ref (m + 4), .ref (m + 5), .null, .null, .null, .null, .null, .null, .null, .null, .null, .null, .null, .null, .null, .int 0, .int 0, .int 0])) := by rw [e10]; exact va_up_self _ _ _
  refine mm_aload_n d_Model_init_44 rfl ?_
  refine mm_sipush (v := 768) d_Model_init_45 (by decide) ?_
  refine mm_newa (t := 0) (N := 768) (a0 := (768, .inl (fun _ => 0))) (kc := 12) (ks := 1664) d_Model_init_48 (by decide) rfl m_52 (fun _ => rfl) (by decide) rfl (by decide) ?_
  refine mm_hp (fun h11 e11 => ?_)
  have ha_v11 : h11 m = some (.inr (8, [.int 0, .int 0, .int 0, .int 0, .ref (m + 1), .ref (m + 2), .ref (m + 3), .ref (m + 4), .ref (m + 5), .null, .null, .null, .null, .null, .null, .null, .null, .null, .null, .null, .null, .null, .int 0, .int 0, .int 0])) := by rw [e11, va_up_ne _ _ (by omega)]; exact ha_v10
  refine mm_putfF (k := 9) d_Model_init_50 cl_Model ty_Model m_680 (by decide) rfl rfl rfl rfl rfl ha_v11 (Nat.le_of_ble_eq_true rfl) ?_
  refine mm_hp (fun h12 e12 => ?_)
  have ha_v12 : h12 m = some (.inr (8, [.int 0, .int 0, .int 0, .int 0, .ref (m + 1), .ref (m + 2), .ref (m + 3), .ref (m + 4), .ref (m + 5), .ref (m + 6), .null, .null, .null, .null, .null, .null, .null, .null, .null, .null, .null, .null, .int 0, .int 0, .int 0])) := by rw [e12]; exact va_up_self _ _ _
  refine mm_aload_n d_Model_init_53 rfl ?_
  refine mm_bipush (v := 12) d_Model_init_54 (by decide) ?_
  refine mm_newa (t := 0) (N := 12) (a0 := (12, .inl (fun _ => 0))) (kc := 11) (ks := 1652) d_Model_init_56 (by decide) rfl m_52 (fun _ => rfl) (by decide) rfl (by decide) ?_
  refine mm_hp (fun h13 e13 => ?_)
  have ha_v13 : h13 m = some (.inr (8, [.int 0, .int 0, .int 0, .int 0, .ref (m + 1), .ref (m + 2), .ref (m + 3), .ref (m + 4), .ref (m + 5), .ref (m + 6), .null, .null, .null, .null, .null, .null, .null, .null, .null, .null, .null, .null, .int 0, .int 0, .int 0])) := by rw [e13, va_up_ne _ _ (by omega)]; exact ha_v12
  refine mm_putfF (k := 10) d_Model_init_58 cl_Model ty_Model m_681 (by decide) rfl rfl rfl rfl rfl ha_v13 (Nat.le_of_ble_eq_true rfl) ?_
  refine mm_hp (fun h14 e14 => ?_)
  have ha_v14 : h14 m = some (.inr (8, [.int 0, .int 0, .int 0, .int 0, .ref (m + 1), .ref (m + 2), .ref (m + 3), .ref (m + 4), .ref (m + 5), .ref (m + 6), .ref (m + 7), .null, .null, .null, .null, .null, .null, .null, .null, .null, .null, .null, .int 0, .int 0, .int 0])) := by rw [e14]; exact va_up_self _ _ _
  refine mm_aload_n d_Model_init_61 rfl ?_
  refine mm_bipush (v := 12) d_Model_init_62 (by decide) ?_
  refine mm_newa (t := 0) (N := 12) (a0 := (12, .inl (fun _ => 0))) (kc := 10) (ks := 1640) d_Model_init_64 (by decide) rfl m_52 (fun _ => rfl) (by decide) rfl (by decide) ?_
  refine mm_hp (fun h15 e15 => ?_)
  have ha_v15 : h15 m = some (.inr (8, [.int 0, .int 0, .int 0, .int 0, .ref (m + 1), .ref (m + 2), .ref (m + 3), .ref (m + 4), .ref (m + 5), .ref (m + 6), .ref (m + 7), .null, .null, .null, .null, .null, .null, .null, .null, .null, .null, .null, .int 0, .int 0, .int 0])) := by rw [e15, va_up_ne _ _ (by omega)]; exact ha_v14
  refine mm_putfF (k := 11) d_Model_init_66 cl_Model ty_Model m_682 (by decide) rfl rfl rfl rfl rfl ha_v15 (Nat.le_of_ble_eq_true rfl) ?_
  refine mm_hp (fun h16 e16 => ?_)
  have ha_v16 : h16 m = some (.inr (8, [.int 0, .int 0, .int 0, .int 0, .ref (m + 1), .ref (m + 2), .ref (m + 3), .ref (m + 4), .ref (m + 5), .ref (m + 6), .ref (m + 7), .ref (m + 8), .null, .null, .null, .null, .null, .null, .null, .null, .null, .null, .int 0, .int 0, .int 0])) := by rw [e16]; exact va_up_self _ _ _
  refine mm_aload_n d_Model_init_69 rfl ?_
  refine mm_bipush (v := 12) d_Model_init_70 (by decide) ?_
  refine mm_newa (t := 0) (N := 12) (a0 := (12, .inl (fun _ => 0))) (kc := 9) (ks := 1628) d_Model_init_72 (by decide) rfl m_52 (fun _ => rfl) (by decide) rfl (by decide) ?_
  refine mm_hp (fun h17 e17 => ?_)
  have ha_v17 : h17 m = some (.inr (8, [.int 0, .int 0, .int 0, .int 0, .ref (m + 1), .ref (m + 2), .ref (m + 3), .ref (m + 4), .ref (m + 5), .ref (m + 6), .ref (m + 7), .ref (m + 8), .null, .null, .null, .null, .null, .null, .null, .null, .null, .null, .int 0, .int 0, .int 0])) := by rw [e17, va_up_ne _ _ (by omega)]; exact ha_v16
  refine mm_putfF (k := 12) d_Model_init_74 cl_Model ty_Model m_683 (by decide) rfl rfl rfl rfl rfl ha_v17 (Nat.le_of_ble_eq_true rfl) ?_
  refine mm_hp (fun h18 e18 => ?_)
  have ha_v18 : h18 m = some (.inr (8, [.int 0, .int 0, .int 0, .int 0, .ref (m + 1), .ref (m + 2), .ref (m + 3), .ref (m + 4), .ref (m + 5), .ref (m + 6), .ref (m + 7), .ref (m + 8), .ref (m + 9), .null, .null, .null, .null, .null, .null, .null, .null, .null, .int 0, .int 0, .int 0])) := by rw [e18]; exact va_up_self _ _ _
  refine mm_aload_n d_Model_init_77 rfl ?_
  refine mm_sipush (v := 384) d_Model_init_78 (by decide) ?_
  refine mm_newa (t := 0) (N := 384) (a0 := (384, .inl (fun _ => 0))) (kc := 8) (ks := 1244) d_Model_init_81 (by decide) rfl m_52 (fun _ => rfl) (by decide) rfl (by decide) ?_
  refine mm_hp (fun h19 e19 => ?_)
  have ha_v19 : h19 m = some (.inr (8, [.int 0, .int 0, .int 0, .int 0, .ref (m + 1), .ref (m + 2), .ref (m + 3), .ref (m + 4), .ref (m + 5), .ref (m + 6), .ref (m + 7), .ref (m + 8), .ref (m + 9), .null, .null, .null, .null, .null, .null, .null, .null, .null, .int 0, .int 0, .int 0])) := by rw [e19, va_up_ne _ _ (by omega)]; exact ha_v18
  refine mm_putfF (k := 13) d_Model_init_83 cl_Model ty_Model m_684 (by decide) rfl rfl rfl rfl rfl ha_v19 (Nat.le_of_ble_eq_true rfl) ?_
  refine mm_hp (fun h20 e20 => ?_)
  have ha_v20 : h20 m = some (.inr (8, [.int 0, .int 0, .int 0, .int 0, .ref (m + 1), .ref (m + 2), .ref (m + 3), .ref (m + 4), .ref (m + 5), .ref (m + 6), .ref (m + 7), .ref (m + 8), .ref (m + 9), .ref (m + 10), .null, .null, .null, .null, .null, .null, .null, .null, .int 0, .int 0, .int 0])) := by rw [e20]; exact va_up_self _ _ _
  refine mm_aload_n d_Model_init_86 rfl ?_
  refine mm_bipush (v := 12) d_Model_init_87 (by decide) ?_
  refine mm_newa (t := 0) (N := 12) (a0 := (12, .inl (fun _ => 0))) (kc := 7) (ks := 1232) d_Model_init_89 (by decide) rfl m_52 (fun _ => rfl) (by decide) rfl (by decide) ?_
  refine mm_hp (fun h21 e21 => ?_)
  have ha_v21 : h21 m = some (.inr (8, [.int 0, .int 0, .int 0, .int 0, .ref (m + 1), .ref (m + 2), .ref (m + 3), .ref (m + 4), .ref (m + 5), .ref (m + 6), .ref (m + 7), .ref (m + 8), .ref (m + 9), .ref (m + 10), .null, .null, .null, .null, .null, .null, .null, .null, .int 0, .int 0, .int 0])) := by rw [e21, va_up_ne _ _ (by omega)]; exact ha_v20
  refine mm_putfF (k := 14) d_Model_init_91 cl_Model ty_Model m_685 (by decide) rfl rfl rfl rfl rfl ha_v21 (Nat.le_of_ble_eq_true rfl) ?_
  refine mm_hp (fun h22 e22 => ?_)
  have ha_v22 : h22 m = some (.inr (8, [.int 0, .int 0, .int 0, .int 0, .ref (m + 1), .ref (m + 2), .ref (m + 3), .ref (m + 4), .ref (m + 5), .ref (m + 6), .ref (m + 7), .ref (m + 8), .ref (m + 9), .ref (m + 10), .ref (m + 11), .null, .null, .null, .null, .null, .null, .null, .int 0, .int 0, .int 0])) := by rw [e22]; exact va_up_self _ _ _
  refine mm_aload_n d_Model_init_94 rfl ?_
  refine mm_sipush (v := 384) d_Model_init_95 (by decide) ?_
  refine mm_newa (t := 0) (N := 384) (a0 := (384, .inl (fun _ => 0))) (kc := 6) (ks := 848) d_Model_init_98 (by decide) rfl m_52 (fun _ => rfl) (by decide) rfl (by decide) ?_
  refine mm_hp (fun h23 e23 => ?_)
  have ha_v23 : h23 m = some (.inr (8, [.int 0, .int 0, .int 0, .int 0, .ref (m + 1), .ref (m + 2), .ref (m + 3), .ref (m + 4), .ref (m + 5), .ref (m + 6), .ref (m + 7), .ref (m + 8), .ref (m + 9), .ref (m + 10), .ref (m + 11), .null, .null, .null, .null, .null, .null, .null, .int 0, .int 0, .int 0])) := by rw [e23, va_up_ne _ _ (by omega)]; exact ha_v22
  refine mm_putfF (k := 15) d_Model_init_100 cl_Model ty_Model m_686 (by decide) rfl rfl rfl rfl rfl ha_v23 (Nat.le_of_ble_eq_true rfl) ?_
  refine mm_hp (fun h24 e24 => ?_)
  have ha_v24 : h24 m = some (.inr (8, [.int 0, .int 0, .int 0, .int 0, .ref (m + 1), .ref (m + 2), .ref (m + 3), .ref (m + 4), .ref (m + 5), .ref (m + 6), .ref (m + 7), .ref (m + 8), .ref (m + 9), .ref (m + 10), .ref (m + 11), .ref (m + 12), .null, .null, .null, .null, .null, .null, .int 0, .int 0, .int 0])) := by rw [e24]; exact va_up_self _ _ _
  refine mm_aload_n d_Model_init_103 rfl ?_
  refine mm_sipush (v := 768) d_Model_init_104 (by decide) ?_
  refine mm_newa (t := 0) (N := 768) (a0 := (768, .inl (fun _ => 0))) (kc := 5) (ks := 80) d_Model_init_107 (by decide) rfl m_52 (fun _ => rfl) (by decide) rfl (by decide) ?_
  refine mm_hp (fun h25 e25 => ?_)
  have ha_v25 : h25 m = some (.inr (8, [.int 0, .int 0, .int 0, .int 0, .ref (m + 1), .ref (m + 2), .ref (m + 3), .ref (m + 4), .ref (m + 5), .ref (m + 6), .ref (m + 7), .ref (m + 8), .ref (m + 9), .ref (m + 10), .ref (m + 11), .ref (m + 12), .null, .null, .null, .null, .null, .null, .int 0, .int 0, .int 0])) := by rw [e25, va_up_ne _ _ (by omega)]; exact ha_v24
  refine mm_putfF (k := 16) d_Model_init_109 cl_Model ty_Model m_687 (by decide) rfl rfl rfl rfl rfl ha_v25 (Nat.le_of_ble_eq_true rfl) ?_
  refine mm_hp (fun h26 e26 => ?_)
  have ha_v26 : h26 m = some (.inr (8, [.int 0, .int 0, .int 0, .int 0, .ref (m + 1), .ref (m + 2), .ref (m + 3), .ref (m + 4), .ref (m + 5), .ref (m + 6), .ref (m + 7), .ref (m + 8), .ref (m + 9), .ref (m + 10), .ref (m + 11), .ref (m + 12), .ref (m + 13), .null, .null, .null, .null, .null, .int 0, .int 0, .int 0])) := by rw [e26]; exact va_up_self _ _ _
  refine mm_aload_n d_Model_init_112 rfl ?_
  refine mm_bipush (v := 16) d_Model_init_113 (by decide) ?_
  refine mm_newa (t := 0) (N := 16) (a0 := (16, .inl (fun _ => 0))) (kc := 4) (ks := 64) d_Model_init_115 (by decide) rfl m_52 (fun _ => rfl) (by decide) rfl (by decide) ?_
  refine mm_hp (fun h27 e27 => ?_)
  have ha_v27 : h27 m = some (.inr (8, [.int 0, .int 0, .int 0, .int 0, .ref (m + 1), .ref (m + 2), .ref (m + 3), .ref (m + 4), .ref (m + 5), .ref (m + 6), .ref (m + 7), .ref (m + 8), .ref (m + 9), .ref (m + 10), .ref (m + 11), .ref (m + 12), .ref (m + 13), .null, .null, .null, .null, .null, .int 0, .int 0, .int 0])) := by rw [e27, va_up_ne _ _ (by omega)]; exact ha_v26
  refine mm_putfF (k := 17) d_Model_init_117 cl_Model ty_Model m_688 (by decide) rfl rfl rfl rfl rfl ha_v27 (Nat.le_of_ble_eq_true rfl) ?_
  refine mm_hp (fun h28 e28 => ?_)
  have ha_v28 : h28 m = some (.inr (8, [.int 0, .int 0, .int 0, .int 0, .ref (m + 1), .ref (m + 2), .ref (m + 3), .ref (m + 4), .ref (m + 5), .ref (m + 6), .ref (m + 7), .ref (m + 8), .ref (m + 9), .ref (m + 10), .ref (m + 11), .ref (m + 12), .ref (m + 13), .ref (m + 14), .null, .null, .null, .null, .int 0, .int 0, .int 0])) := by rw [e28]; exact va_up_self _ _ _
  refine mm_aload_n d_Model_init_120 rfl ?_
  refine mm_bipush (v := 16) d_Model_init_121 (by decide) ?_
  refine mm_newa (t := 0) (N := 16) (a0 := (16, .inl (fun _ => 0))) (kc := 3) (ks := 48) d_Model_init_123 (by decide) rfl m_52 (fun _ => rfl) (by decide) rfl (by decide) ?_
  refine mm_hp (fun h29 e29 => ?_)
  have ha_v29 : h29 m = some (.inr (8, [.int 0, .int 0, .int 0, .int 0, .ref (m + 1), .ref (m + 2), .ref (m + 3), .ref (m + 4), .ref (m + 5), .ref (m + 6), .ref (m + 7), .ref (m + 8), .ref (m + 9), .ref (m + 10), .ref (m + 11), .ref (m + 12), .ref (m + 13), .ref (m + 14), .null, .null, .null, .null, .int 0, .int 0, .int 0])) := by rw [e29, va_up_ne _ _ (by omega)]; exact ha_v28
  refine mm_putfF (k := 18) d_Model_init_125 cl_Model ty_Model m_689 (by decide) rfl rfl rfl rfl rfl ha_v29 (Nat.le_of_ble_eq_true rfl) ?_
  refine mm_hp (fun h30 e30 => ?_)
  have ha_v30 : h30 m = some (.inr (8, [.int 0, .int 0, .int 0, .int 0, .ref (m + 1), .ref (m + 2), .ref (m + 3), .ref (m + 4), .ref (m + 5), .ref (m + 6), .ref (m + 7), .ref (m + 8), .ref (m + 9), .ref (m + 10), .ref (m + 11), .ref (m + 12), .ref (m + 13), .ref (m + 14), .ref (m + 15), .null, .null, .null, .int 0, .int 0, .int 0])) := by rw [e30]; exact va_up_self _ _ _
  refine mm_aload_n d_Model_init_128 rfl ?_
  refine mm_bipush (v := 16) d_Model_init_129 (by decide) ?_
  refine mm_newa (t := 2) (N := 16) (a0 := (16, .inl (fun _ => 0))) (kc := 2) (ks := 32) d_Model_init_131 (by decide) rfl m_747 (fun _ => rfl) (by decide) rfl (by decide) ?_
  refine mm_hp (fun h31 e31 => ?_)
  have ha_v31 : h31 m = some (.inr (8, [.int 0, .int 0, .int 0, .int 0, .ref (m + 1), .ref (m + 2), .ref (m + 3), .ref (m + 4), .ref (m + 5), .ref (m + 6), .ref (m + 7), .ref (m + 8), .ref (m + 9), .ref (m + 10), .ref (m + 11), .ref (m + 12), .ref (m + 13), .ref (m + 14), .ref (m + 15), .null, .null, .null, .int 0, .int 0, .int 0])) := by rw [e31, va_up_ne _ _ (by omega)]; exact ha_v30
  refine mm_putfF (k := 19) d_Model_init_133 cl_Model ty_Model m_690 (by decide) rfl rfl rfl rfl rfl ha_v31 (Nat.le_of_ble_eq_true rfl) ?_
  refine mm_hp (fun h32 e32 => ?_)
  have ha_v32 : h32 m = some (.inr (8, [.int 0, .int 0, .int 0, .int 0, .ref (m + 1), .ref (m + 2), .ref (m + 3), .ref (m + 4), .ref (m + 5), .ref (m + 6), .ref (m + 7), .ref (m + 8), .ref (m + 9), .ref (m + 10), .ref (m + 11), .ref (m + 12), .ref (m + 13), .ref (m + 14), .ref (m + 15), .ref (m + 16), .null, .null, .int 0, .int 0, .int 0])) := by rw [e32]; exact va_up_self _ _ _
  refine mm_aload_n d_Model_init_136 rfl ?_
  refine mm_bipush (v := 16) d_Model_init_137 (by decide) ?_
  refine mm_newa (t := 2) (N := 16) (a0 := (16, .inl (fun _ => 0))) (kc := 1) (ks := 16) d_Model_init_139 (by decide) rfl m_747 (fun _ => rfl) (by decide) rfl (by decide) ?_
  refine mm_hp (fun h33 e33 => ?_)
  have ha_v33 : h33 m = some (.inr (8, [.int 0, .int 0, .int 0, .int 0, .ref (m + 1), .ref (m + 2), .ref (m + 3), .ref (m + 4), .ref (m + 5), .ref (m + 6), .ref (m + 7), .ref (m + 8), .ref (m + 9), .ref (m + 10), .ref (m + 11), .ref (m + 12), .ref (m + 13), .ref (m + 14), .ref (m + 15), .ref (m + 16), .null, .null, .int 0, .int 0, .int 0])) := by rw [e33, va_up_ne _ _ (by omega)]; exact ha_v32
  refine mm_putfF (k := 20) d_Model_init_141 cl_Model ty_Model m_691 (by decide) rfl rfl rfl rfl rfl ha_v33 (Nat.le_of_ble_eq_true rfl) ?_
  refine mm_hp (fun h34 e34 => ?_)
  have ha_v34 : h34 m = some (.inr (8, [.int 0, .int 0, .int 0, .int 0, .ref (m + 1), .ref (m + 2), .ref (m + 3), .ref (m + 4), .ref (m + 5), .ref (m + 6), .ref (m + 7), .ref (m + 8), .ref (m + 9), .ref (m + 10), .ref (m + 11), .ref (m + 12), .ref (m + 13), .ref (m + 14), .ref (m + 15), .ref (m + 16), .ref (m + 17), .null, .int 0, .int 0, .int 0])) := by rw [e34]; exact va_up_self _ _ _
  refine mm_aload_n d_Model_init_144 rfl ?_
  refine mm_bipush (v := 16) d_Model_init_145 (by decide) ?_
  refine mm_newa (t := 2) (N := 16) (a0 := (16, .inl (fun _ => 0))) (kc := 0) (ks := 0) d_Model_init_147 (by decide) rfl m_747 (fun _ => rfl) (by decide) rfl (by decide) ?_
  refine mm_hp (fun h35 e35 => ?_)
  have ha_v35 : h35 m = some (.inr (8, [.int 0, .int 0, .int 0, .int 0, .ref (m + 1), .ref (m + 2), .ref (m + 3), .ref (m + 4), .ref (m + 5), .ref (m + 6), .ref (m + 7), .ref (m + 8), .ref (m + 9), .ref (m + 10), .ref (m + 11), .ref (m + 12), .ref (m + 13), .ref (m + 14), .ref (m + 15), .ref (m + 16), .ref (m + 17), .null, .int 0, .int 0, .int 0])) := by rw [e35, va_up_ne _ _ (by omega)]; exact ha_v34
  refine mm_putfF (k := 21) d_Model_init_149 cl_Model ty_Model m_692 (by decide) rfl rfl rfl rfl rfl ha_v35 (Nat.le_of_ble_eq_true rfl) ?_
  refine mm_hp (fun h36 e36 => ?_)
  have ha_v36 : h36 m = some (.inr (8, [.int 0, .int 0, .int 0, .int 0, .ref (m + 1), .ref (m + 2), .ref (m + 3), .ref (m + 4), .ref (m + 5), .ref (m + 6), .ref (m + 7), .ref (m + 8), .ref (m + 9), .ref (m + 10), .ref (m + 11), .ref (m + 12), .ref (m + 13), .ref (m + 14), .ref (m + 15), .ref (m + 16), .ref (m + 17), .ref (m + 18), .int 0, .int 0, .int 0])) := by rw [e36]; exact va_up_self _ _ _
  exact mm_return d_Model_init_152 rfl ⟨rfl, rfl, ⟨ha_v36, fun j hj => by
      subst e1 e2 e3 e4 e5 e6 e7 e8 e9 e10 e11 e12 e13 e14 e15 e16 e17 e18 e19 e20 e21 e22 e23 e24 e25 e26 e27 e28 e29 e30 e31 e32 e33 e34 e35 e36
      match j, hj with
      | 0, _ => simp [va_up, ml_tag, ml_len]
      | 1, _ => simp [va_up, ml_tag, ml_len]
      | 2, _ => simp [va_up, ml_tag, ml_len]
      | 3, _ => simp [va_up, ml_tag, ml_len]
      | 4, _ => simp [va_up, ml_tag, ml_len]
      | 5, _ => simp [va_up, ml_tag, ml_len]
      | 6, _ => simp [va_up, ml_tag, ml_len]
      | 7, _ => simp [va_up, ml_tag, ml_len]
      | 8, _ => simp [va_up, ml_tag, ml_len]
      | 9, _ => simp [va_up, ml_tag, ml_len]
      | 10, _ => simp [va_up, ml_tag, ml_len]
      | 11, _ => simp [va_up, ml_tag, ml_len]
      | 12, _ => simp [va_up, ml_tag, ml_len]
      | 13, _ => simp [va_up, ml_tag, ml_len]
      | 14, _ => simp [va_up, ml_tag, ml_len]
      | 15, _ => simp [va_up, ml_tag, ml_len]
      | 16, _ => simp [va_up, ml_tag, ml_len]
      | 17, _ => simp [va_up, ml_tag, ml_len]
      | j + 18, hj => exact absurd hj (by omega)⟩, fun i hi => by
      subst e1 e2 e3 e4 e5 e6 e7 e8 e9 e10 e11 e12 e13 e14 e15 e16 e17 e18 e19 e20 e21 e22 e23 e24 e25 e26 e27 e28 e29 e30 e31 e32 e33 e34 e35 e36
      simp [va_up, show ¬ i = m + 1 by omega, show ¬ i = m + 2 by omega, show ¬ i = m + 3 by omega, show ¬ i = m + 4 by omega, show ¬ i = m + 5 by omega, show ¬ i = m + 6 by omega, show ¬ i = m + 7 by omega, show ¬ i = m + 8 by omega, show ¬ i = m + 9 by omega, show ¬ i = m + 10 by omega, show ¬ i = m + 11 by omega, show ¬ i = m + 12 by omega, show ¬ i = m + 13 by omega, show ¬ i = m + 14 by omega, show ¬ i = m + 15 by omega, show ¬ i = m + 16 by omega, show ¬ i = m + 17 by omega, show ¬ i = m + 18 by omega, show ¬ i = m by omega]⟩
theorem MR_0 (I : Nat → Int32) (hI : ∀ k, I k = 0) : MR 0 c_0 I (fun _ _ => 0) := by
  have hb : (0 : Int32) = m_bits (fun _ => 0) 16 := by decide +kernel
  refine ⟨hI 2, by decide, hI 1, hI 3, ⟨hI 4, hI 5, hI 6⟩, fun p hp => absurd hp (Nat.not_lt_zero _), fun p _ _ => ⟨fun _ _ => rfl, rfl, rfl, rfl, rfl, fun _ _ => rfl⟩, hb, hb, hb, fun l hl => ⟨rfl, Or.inl rfl, rfl, (show ¬ (0 : Int32) < 0 by decide), Or.inl rfl, Or.inl rfl, Or.inl rfl, fun _ => rfl⟩⟩
