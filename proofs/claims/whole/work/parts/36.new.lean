theorem mm_newq2 {sc : mm_Sc} {y : mm_M} {d pc : Nat} {l : mm_L} {st : List Value} {n : Nat} {h : mm_H} {kc ks : Nat} {Q : mm_O → Nat → mm_H → Prop} {N idx : Nat} {i : Int32} (hd : decode y.2.1 pc = .ok (.anewarray idx, 3)) (hl : Cond.classLink y.1.cls idx mm_elem ∈ lw_tbl) (hw : Cond.arrayOver (.object mm_elem) ∈ lw_tbl) (hn : ¬ i < 0) (hN : i.toNatClampNeg = N) (hb : N * 4 ≤ 536870912)
    (k : mm_G sc y d (pc + 3) l (.ref n :: st) (n + 1) (va_up h n (some (.inl (3, N, .inr (.inr (.inr (.inr (fun _ => none)))))))) kc ks Q) : mm_G sc y d pc l (.int i :: st) n h (kc + 1) (ks + N) Q := fun X P Z S R E => by
  subst hN
  have hc1 : Z.cells + 1 ≤ P.R.cells := by have := R.2.1; omega
  have hs1 : Z.slots + i.toNatClampNeg ≤ P.R.slots := by have := R.2.2.1; omega
  obtain ⟨kA', comp', -, -, -, hA⟩ := (S.arr (t := 3) (by decide)).2
  refine W.anew S.1 S.2.1 S.own (S.w hl rfl) (Jvm.Free.AList.arrayOver_alike S.warm.alike (S.K.1 _ hw)) rfl hd rfl hn hb hc1 hs1 fun cA kA comp f1 f2 f3 f4 => ?_
  cases Option.some.inj (f1.symm.trans hA)
  generalize hH1 : Z.H.push ({ cls := X.dA 3, slots := Array.replicate i.toNatClampNeg .null, vm := .none } : Cell) = H1
  have hz := R.1.1
  have z1 : H1.size = n + 1 := by rw [← hH1, Array.size_push, hz]
  have e1 : H1[n]? = some (arrV (X.dA 3) i.toNatClampNeg (fun _ => .null)) := by rw [← hH1, ← hz, Array.getElem?_push_size, ← arrV_new]
  have o1 : ∀ q : Nat, q < n → H1[q]? = Z.H[q]? := fun q hq => by rw [← hH1, Array.getElem?_push, if_neg (by omega)]
  rw [hz]
  exact k X P (H1, Z.locs, Z.cells + 1, Z.slots + i.toNatClampNeg, Z.ls) S (R.new (c := .inl (3, i.toNatClampNeg, .inr (.inr (.inr (.inr (fun _ => none)))))) (show H1[n]? = some (vp_cell (X.dA 3) (i.toNatClampNeg, .inr (.inr (.inr (.inr (fun _ => none)))))) from e1) z1 o1) E
set_option maxRecDepth 100000 in
set_option maxHeartbeats 4000000 in
theorem J_Lines_init {sc : mm_Sc} {h : mm_H} {a : Nat} (ha : h a = some (.inr (1, [.null, .null, .int 0, .int 0, .int 0])))  : mm_J sc y_Lines_init 2 [.ref a] (a + 1) h 2 (32) (fun o n' h' => o = .inl none ∧ n' = a + 3 ∧ h' = va_up (va_up (va_up h (a + 1) (some (.inl (0, 16, .inl (fun _ => 0))))) (a + 2) (some (.inl (0, 16, .inl (fun _ => 0))))) a (some (.inr (1, [.ref (a + 1), .ref (a + 2), .int 0, .int 0, .int 0])))) := by
  refine mm_J.of (show mm_G sc y_Lines_init 2 0 [some (.ref a)] [] (a + 1) h 2 (32) _ from ?_) ce_Lines_init.2.2.2.2.1 (Nat.le_of_ble_eq_true rfl) (by simp [Value.category])
  refine mm_aload_n d_Lines_init_0 rfl ?_
  refine mm_objInit d_Lines_init_1 m_34 m_25 m_26 (by decide) (Nat.le_of_ble_eq_true rfl) ?_
  refine mm_aload_n d_Lines_init_4 rfl ?_
  refine mm_bipush (v := 16) d_Lines_init_5 (by decide) ?_
  refine mm_newa (t := 0) (N := 16) (a0 := (16, .inl (fun _ => 0))) (kc := 1) (ks := 16) d_Lines_init_7 (by decide) rfl m_52 (fun _ => rfl) (by decide) rfl (by decide) ?_
  refine mm_hp (fun h1 e1 => ?_)
  have ha_v1 : h1 a = some (.inr (1, [.null, .null, .int 0, .int 0, .int 0])) := by rw [e1, va_up_ne _ _ (by omega)]; exact ha
  have f1_v1 : h1 (a + 1) = some (.inl (0, 16, .inl (fun _ => 0))) := by rw [e1]; exact va_up_self _ _ _
  refine mm_putfF (k := 0) d_Lines_init_9 cl_Lines ty_Lines m_35 (by decide) rfl rfl rfl rfl rfl ha_v1 (Nat.le_of_ble_eq_true rfl) ?_
  refine mm_hp (fun h2 e2 => ?_)
  have ha_v2 : h2 a = some (.inr (1, [.ref (a + 1), .null, .int 0, .int 0, .int 0])) := by rw [e2]; exact va_up_self _ _ _
  have f1_v2 : h2 (a + 1) = some (.inl (0, 16, .inl (fun _ => 0))) := by rw [e2, va_up_ne _ _ (by omega)]; exact f1_v1
  refine mm_aload_n d_Lines_init_12 rfl ?_
  refine mm_bipush (v := 16) d_Lines_init_13 (by decide) ?_
  refine mm_newa (t := 0) (N := 16) (a0 := (16, .inl (fun _ => 0))) (kc := 0) (ks := 0) d_Lines_init_15 (by decide) rfl m_52 (fun _ => rfl) (by decide) rfl (by decide) ?_
  refine mm_hp (fun h3 e3 => ?_)
  have ha_v3 : h3 a = some (.inr (1, [.ref (a + 1), .null, .int 0, .int 0, .int 0])) := by rw [e3, va_up_ne _ _ (by omega)]; exact ha_v2
  have f1_v3 : h3 (a + 1) = some (.inl (0, 16, .inl (fun _ => 0))) := by rw [e3, va_up_ne _ _ (by omega)]; exact f1_v2
  have f2_v3 : h3 (a + 2) = some (.inl (0, 16, .inl (fun _ => 0))) := by rw [e3]; exact va_up_self _ _ _
  refine mm_putfF (k := 1) d_Lines_init_17 cl_Lines ty_Lines m_36 (by decide) rfl rfl rfl rfl rfl ha_v3 (Nat.le_of_ble_eq_true rfl) ?_
  refine mm_hp (fun h4 e4 => ?_)
  have ha_v4 : h4 a = some (.inr (1, [.ref (a + 1), .ref (a + 2), .int 0, .int 0, .int 0])) := by rw [e4]; exact va_up_self _ _ _
  have f1_v4 : h4 (a + 1) = some (.inl (0, 16, .inl (fun _ => 0))) := by rw [e4, va_up_ne _ _ (by omega)]; exact f1_v3
  have f2_v4 : h4 (a + 2) = some (.inl (0, 16, .inl (fun _ => 0))) := by rw [e4, va_up_ne _ _ (by omega)]; exact f2_v3
  refine mm_aload_n d_Lines_init_20 rfl ?_
  refine mm_iconst (v := 0) d_Lines_init_21 (by decide) ?_
  refine mm_putf d_Lines_init_22 cl_Lines ty_Lines fl_Lines_18_Lines (by decide) rfl rfl rfl ha_v4 (Nat.le_of_ble_eq_true rfl) ?_
  refine mm_hp (fun h5 e5 => ?_)
  have ha_v5 : h5 a = some (.inr (1, [.ref (a + 1), .ref (a + 2), .int 0, .int 0, .int 0])) := by rw [e5]; exact va_up_self _ _ _
  have f1_v5 : h5 (a + 1) = some (.inl (0, 16, .inl (fun _ => 0))) := by rw [e5, va_up_ne _ _ (by omega)]; exact f1_v4
  have f2_v5 : h5 (a + 2) = some (.inl (0, 16, .inl (fun _ => 0))) := by rw [e5, va_up_ne _ _ (by omega)]; exact f2_v4
  refine mm_aload_n d_Lines_init_25 rfl ?_
  refine mm_iconst (v := 0) d_Lines_init_26 (by decide) ?_
  refine mm_putf d_Lines_init_27 cl_Lines ty_Lines fl_Lines_22_Lines (by decide) rfl rfl rfl ha_v5 (Nat.le_of_ble_eq_true rfl) ?_
  refine mm_hp (fun h6 e6 => ?_)
  have ha_v6 : h6 a = some (.inr (1, [.ref (a + 1), .ref (a + 2), .int 0, .int 0, .int 0])) := by rw [e6]; exact va_up_self _ _ _
  have f1_v6 : h6 (a + 1) = some (.inl (0, 16, .inl (fun _ => 0))) := by rw [e6, va_up_ne _ _ (by omega)]; exact f1_v5
  have f2_v6 : h6 (a + 2) = some (.inl (0, 16, .inl (fun _ => 0))) := by rw [e6, va_up_ne _ _ (by omega)]; exact f2_v5
  refine mm_aload_n d_Lines_init_30 rfl ?_
  refine mm_iconst (v := 0) d_Lines_init_31 (by decide) ?_
  refine mm_putf d_Lines_init_32 cl_Lines ty_Lines fl_Lines_25_Lines (by decide) rfl rfl rfl ha_v6 (Nat.le_of_ble_eq_true rfl) ?_
  refine mm_hp (fun h7 e7 => ?_)
  have ha_v7 : h7 a = some (.inr (1, [.ref (a + 1), .ref (a + 2), .int 0, .int 0, .int 0])) := by rw [e7]; exact va_up_self _ _ _
  have f1_v7 : h7 (a + 1) = some (.inl (0, 16, .inl (fun _ => 0))) := by rw [e7, va_up_ne _ _ (by omega)]; exact f1_v6
  have f2_v7 : h7 (a + 2) = some (.inl (0, 16, .inl (fun _ => 0))) := by rw [e7, va_up_ne _ _ (by omega)]; exact f2_v6
  exact mm_return d_Lines_init_35 rfl ⟨rfl, rfl, by subst e1 e2 e3 e4 e5 e6 e7; funext j; simp only [va_up]; (repeat' split) <;> first | rfl | omega⟩
set_option maxRecDepth 100000 in
set_option maxHeartbeats 4000000 in
theorem J_Timer_init {sc : mm_Sc} {h : mm_H} {a : Nat} {f le li w : Int32} (hs : h a = some (.inr (2, [.int f, .int le, .int li, .int w]))) (ha : h (a + 1) = some (.inr (4, [.int 0, .int 0, .int 0, .int 0, .null])))  : mm_J sc y_Timer_init 3 [.ref (a + 1), .ref a] (a + 2) h 0 (0) (fun o n' h' => o = .inl none ∧ n' = a + 2 ∧ h' = va_up h (a + 1) (some (.inr (4, [.int 0, .int 0, .int 0, .int 0, .ref a])))) := by
  refine mm_J.of (show mm_G sc y_Timer_init 3 0 [some (.ref (a + 1)), some (.ref a)] [] (a + 2) h 0 (0) _ from ?_) ce_Timer_init.2.2.2.2.1 (Nat.le_of_ble_eq_true rfl) (by simp [Value.category])
  refine mm_aload_n d_Timer_init_0 rfl ?_
  refine mm_aload_n d_Timer_init_1 rfl ?_
  refine mm_callD (kc := 0) (ks := 0) (kc' := 0) (ks' := 0) d_Timer_init_2 (mm_Inv.sp (as := [.ref a]) d_Timer_init_2 (Or.inl m_299) m_278 ce_Part_init.2.1 rfl ce_Part_init.2.2.2.2.2 rfl ln_Part_init rfl) (J_Part_init_Timer ha) (by decide) ce_Part_init.1 ce_Part_init.2.1 ce_Part_init.2.2.1 ce_Part_init.2.2.2.1 (Nat.le_of_ble_eq_true rfl) ?_
  refine mm_hp (fun h1 e1 => ?_)
  have hs_v1 : h1 a = some (.inr (2, [.int f, .int le, .int li, .int w])) := by rw [e1, va_up_ne _ _ (by omega)]; exact hs
  have ha_v1 : h1 (a + 1) = some (.inr (4, [.int 0, .int 0, .int 0, .int 0, .ref a])) := by rw [e1]; exact va_up_self _ _ _
  refine mm_aload_n d_Timer_init_5 rfl ?_
  refine mm_iconst (v := 0) d_Timer_init_6 (by decide) ?_
  refine mm_putf d_Timer_init_7 cl_Timer ty_Timer fl_Timer_7_Timer (by decide) rfl rfl rfl ha_v1 (Nat.le_of_ble_eq_true rfl) ?_
  refine mm_hp (fun h2 e2 => ?_)
  have hs_v2 : h2 a = some (.inr (2, [.int f, .int le, .int li, .int w])) := by rw [e2, va_up_ne _ _ (by omega)]; exact hs_v1
  have ha_v2 : h2 (a + 1) = some (.inr (4, [.int 0, .int 0, .int 0, .int 0, .ref a])) := by rw [e2]; exact va_up_self _ _ _
  refine mm_aload_n d_Timer_init_10 rfl ?_
  refine mm_iconst (v := 0) d_Timer_init_11 (by decide) ?_
  refine mm_putf d_Timer_init_12 cl_Timer ty_Timer fl_Timer_13_Timer (by decide) rfl rfl rfl ha_v2 (Nat.le_of_ble_eq_true rfl) ?_
  refine mm_hp (fun h3 e3 => ?_)
  have hs_v3 : h3 a = some (.inr (2, [.int f, .int le, .int li, .int w])) := by rw [e3, va_up_ne _ _ (by omega)]; exact hs_v2
  have ha_v3 : h3 (a + 1) = some (.inr (4, [.int 0, .int 0, .int 0, .int 0, .ref a])) := by rw [e3]; exact va_up_self _ _ _
  refine mm_aload_n d_Timer_init_15 rfl ?_
  refine mm_iconst (v := 0) d_Timer_init_16 (by decide) ?_
  refine mm_putf d_Timer_init_17 cl_Timer ty_Timer fl_Timer_16_Timer (by decide) rfl rfl rfl ha_v3 (Nat.le_of_ble_eq_true rfl) ?_
  refine mm_hp (fun h4 e4 => ?_)
  have hs_v4 : h4 a = some (.inr (2, [.int f, .int le, .int li, .int w])) := by rw [e4, va_up_ne _ _ (by omega)]; exact hs_v3
  have ha_v4 : h4 (a + 1) = some (.inr (4, [.int 0, .int 0, .int 0, .int 0, .ref a])) := by rw [e4]; exact va_up_self _ _ _
  refine mm_aload_n d_Timer_init_20 rfl ?_
  refine mm_iconst (v := 0) d_Timer_init_21 (by decide) ?_
  refine mm_putf d_Timer_init_22 cl_Timer ty_Timer fl_Timer_19_Timer (by decide) rfl rfl rfl ha_v4 (Nat.le_of_ble_eq_true rfl) ?_
  refine mm_hp (fun h5 e5 => ?_)
  have hs_v5 : h5 a = some (.inr (2, [.int f, .int le, .int li, .int w])) := by rw [e5, va_up_ne _ _ (by omega)]; exact hs_v4
  have ha_v5 : h5 (a + 1) = some (.inr (4, [.int 0, .int 0, .int 0, .int 0, .ref a])) := by rw [e5]; exact va_up_self _ _ _
  exact mm_return d_Timer_init_25 rfl ⟨rfl, rfl, by subst e1 e2 e3 e4 e5; funext j; simp only [va_up]; (repeat' split) <;> first | rfl | omega⟩
set_option maxRecDepth 100000 in
set_option maxHeartbeats 4000000 in
theorem J_Serial_init {sc : mm_Sc} {h : mm_H} {a : Nat} {f le li w : Int32} (hs : h a = some (.inr (2, [.int f, .int le, .int li, .int w]))) (ha : h (a + 1) = some (.inr (5, [.null, .int 0, .int 0, .null, .int 0, .int 0, .int 0, .int 0, .null])))  : mm_J sc y_Serial_init 3 [.ref (a + 1), .ref a] (a + 2) h 2 (64) (fun o n' h' => o = .inl none ∧ n' = a + 4 ∧ h' = va_up (va_up (va_up h (a + 2) (some (.inl (0, 32, .inl (fun _ => 0))))) (a + 3) (some (.inl (0, 32, .inl (fun _ => 0))))) (a + 1) (some (.inr (5, [.ref (a + 2), .int 0, .int 0, .ref (a + 3), .int 0, .int 0, .int 0, .int 0, .ref a])))) := by
  refine mm_J.of (show mm_G sc y_Serial_init 3 0 [some (.ref (a + 1)), some (.ref a)] [] (a + 2) h 2 (64) _ from ?_) ce_Serial_init.2.2.2.2.1 (Nat.le_of_ble_eq_true rfl) (by simp [Value.category])
  refine mm_aload_n d_Serial_init_0 rfl ?_
  refine mm_aload_n d_Serial_init_1 rfl ?_
  refine mm_callD (kc := 2) (ks := 64) (kc' := 0) (ks' := 0) d_Serial_init_2 (mm_Inv.sp (as := [.ref a]) d_Serial_init_2 (Or.inl m_318) m_278 ce_Part_init.2.1 rfl ce_Part_init.2.2.2.2.2 rfl ln_Part_init rfl) (J_Part_init_Serial ha) (by decide) ce_Part_init.1 ce_Part_init.2.1 ce_Part_init.2.2.1 ce_Part_init.2.2.2.1 (Nat.le_of_ble_eq_true rfl) ?_
  refine mm_hp (fun h1 e1 => ?_)
  have hs_v1 : h1 a = some (.inr (2, [.int f, .int le, .int li, .int w])) := by rw [e1, va_up_ne _ _ (by omega)]; exact hs
  have ha_v1 : h1 (a + 1) = some (.inr (5, [.null, .int 0, .int 0, .null, .int 0, .int 0, .int 0, .int 0, .ref a])) := by rw [e1]; exact va_up_self _ _ _
  refine mm_aload_n d_Serial_init_5 rfl ?_
  refine mm_bipush (v := 32) d_Serial_init_6 (by decide) ?_
  refine mm_newa (t := 0) (N := 32) (a0 := (32, .inl (fun _ => 0))) (kc := 1) (ks := 32) d_Serial_init_8 (by decide) rfl m_52 (fun _ => rfl) (by decide) rfl (by decide) ?_
  refine mm_hp (fun h2 e2 => ?_)
  have hs_v2 : h2 a = some (.inr (2, [.int f, .int le, .int li, .int w])) := by rw [e2, va_up_ne _ _ (by omega)]; exact hs_v1
  have ha_v2 : h2 (a + 1) = some (.inr (5, [.null, .int 0, .int 0, .null, .int 0, .int 0, .int 0, .int 0, .ref a])) := by rw [e2, va_up_ne _ _ (by omega)]; exact ha_v1
  have f2_v2 : h2 (a + 2) = some (.inl (0, 32, .inl (fun _ => 0))) := by rw [e2]; exact va_up_self _ _ _
  refine mm_putfF (k := 0) d_Serial_init_10 cl_Serial ty_Serial m_319 (by decide) rfl rfl rfl rfl rfl ha_v2 (Nat.le_of_ble_eq_true rfl) ?_
  refine mm_hp (fun h3 e3 => ?_)
  have hs_v3 : h3 a = some (.inr (2, [.int f, .int le, .int li, .int w])) := by rw [e3, va_up_ne _ _ (by omega)]; exact hs_v2
  have ha_v3 : h3 (a + 1) = some (.inr (5, [.ref (a + 2), .int 0, .int 0, .null, .int 0, .int 0, .int 0, .int 0, .ref a])) := by rw [e3]; exact va_up_self _ _ _
  have f2_v3 : h3 (a + 2) = some (.inl (0, 32, .inl (fun _ => 0))) := by rw [e3, va_up_ne _ _ (by omega)]; exact f2_v2
  refine mm_aload_n d_Serial_init_13 rfl ?_
  refine mm_iconst (v := 0) d_Serial_init_14 (by decide) ?_
  refine mm_putf d_Serial_init_15 cl_Serial ty_Serial fl_Serial_13_Serial (by decide) rfl rfl rfl ha_v3 (Nat.le_of_ble_eq_true rfl) ?_
  refine mm_hp (fun h4 e4 => ?_)
  have hs_v4 : h4 a = some (.inr (2, [.int f, .int le, .int li, .int w])) := by rw [e4, va_up_ne _ _ (by omega)]; exact hs_v3
  have ha_v4 : h4 (a + 1) = some (.inr (5, [.ref (a + 2), .int 0, .int 0, .null, .int 0, .int 0, .int 0, .int 0, .ref a])) := by rw [e4]; exact va_up_self _ _ _
  have f2_v4 : h4 (a + 2) = some (.inl (0, 32, .inl (fun _ => 0))) := by rw [e4, va_up_ne _ _ (by omega)]; exact f2_v3
  refine mm_aload_n d_Serial_init_18 rfl ?_
  refine mm_iconst (v := 0) d_Serial_init_19 (by decide) ?_
  refine mm_putf d_Serial_init_20 cl_Serial ty_Serial fl_Serial_17_Serial (by decide) rfl rfl rfl ha_v4 (Nat.le_of_ble_eq_true rfl) ?_
  refine mm_hp (fun h5 e5 => ?_)
  have hs_v5 : h5 a = some (.inr (2, [.int f, .int le, .int li, .int w])) := by rw [e5, va_up_ne _ _ (by omega)]; exact hs_v4
  have ha_v5 : h5 (a + 1) = some (.inr (5, [.ref (a + 2), .int 0, .int 0, .null, .int 0, .int 0, .int 0, .int 0, .ref a])) := by rw [e5]; exact va_up_self _ _ _
  have f2_v5 : h5 (a + 2) = some (.inl (0, 32, .inl (fun _ => 0))) := by rw [e5, va_up_ne _ _ (by omega)]; exact f2_v4
  refine mm_aload_n d_Serial_init_23 rfl ?_
  refine mm_bipush (v := 32) d_Serial_init_24 (by decide) ?_
  refine mm_newa (t := 0) (N := 32) (a0 := (32, .inl (fun _ => 0))) (kc := 0) (ks := 0) d_Serial_init_26 (by decide) rfl m_52 (fun _ => rfl) (by decide) rfl (by decide) ?_
  refine mm_hp (fun h6 e6 => ?_)
  have hs_v6 : h6 a = some (.inr (2, [.int f, .int le, .int li, .int w])) := by rw [e6, va_up_ne _ _ (by omega)]; exact hs_v5
  have ha_v6 : h6 (a + 1) = some (.inr (5, [.ref (a + 2), .int 0, .int 0, .null, .int 0, .int 0, .int 0, .int 0, .ref a])) := by rw [e6, va_up_ne _ _ (by omega)]; exact ha_v5
  have f2_v6 : h6 (a + 2) = some (.inl (0, 32, .inl (fun _ => 0))) := by rw [e6, va_up_ne _ _ (by omega)]; exact f2_v5
  have f3_v6 : h6 (a + 3) = some (.inl (0, 32, .inl (fun _ => 0))) := by rw [e6]; exact va_up_self _ _ _
  refine mm_putfF (k := 3) d_Serial_init_28 cl_Serial ty_Serial m_323 (by decide) rfl rfl rfl rfl rfl ha_v6 (Nat.le_of_ble_eq_true rfl) ?_
  refine mm_hp (fun h7 e7 => ?_)
  have hs_v7 : h7 a = some (.inr (2, [.int f, .int le, .int li, .int w])) := by rw [e7, va_up_ne _ _ (by omega)]; exact hs_v6
  have ha_v7 : h7 (a + 1) = some (.inr (5, [.ref (a + 2), .int 0, .int 0, .ref (a + 3), .int 0, .int 0, .int 0, .int 0, .ref a])) := by rw [e7]; exact va_up_self _ _ _
  have f2_v7 : h7 (a + 2) = some (.inl (0, 32, .inl (fun _ => 0))) := by rw [e7, va_up_ne _ _ (by omega)]; exact f2_v6
  have f3_v7 : h7 (a + 3) = some (.inl (0, 32, .inl (fun _ => 0))) := by rw [e7, va_up_ne _ _ (by omega)]; exact f3_v6
  refine mm_aload_n d_Serial_init_31 rfl ?_
  refine mm_iconst (v := 0) d_Serial_init_32 (by decide) ?_
  refine mm_putf d_Serial_init_33 cl_Serial ty_Serial fl_Serial_23_Serial (by decide) rfl rfl rfl ha_v7 (Nat.le_of_ble_eq_true rfl) ?_
  refine mm_hp (fun h8 e8 => ?_)
  have hs_v8 : h8 a = some (.inr (2, [.int f, .int le, .int li, .int w])) := by rw [e8, va_up_ne _ _ (by omega)]; exact hs_v7
  have ha_v8 : h8 (a + 1) = some (.inr (5, [.ref (a + 2), .int 0, .int 0, .ref (a + 3), .int 0, .int 0, .int 0, .int 0, .ref a])) := by rw [e8]; exact va_up_self _ _ _
  have f2_v8 : h8 (a + 2) = some (.inl (0, 32, .inl (fun _ => 0))) := by rw [e8, va_up_ne _ _ (by omega)]; exact f2_v7
  have f3_v8 : h8 (a + 3) = some (.inl (0, 32, .inl (fun _ => 0))) := by rw [e8, va_up_ne _ _ (by omega)]; exact f3_v7
  refine mm_aload_n d_Serial_init_36 rfl ?_
  refine mm_iconst (v := 0) d_Serial_init_37 (by decide) ?_
  refine mm_putf d_Serial_init_38 cl_Serial ty_Serial fl_Serial_26_Serial (by decide) rfl rfl rfl ha_v8 (Nat.le_of_ble_eq_true rfl) ?_
  refine mm_hp (fun h9 e9 => ?_)
  have hs_v9 : h9 a = some (.inr (2, [.int f, .int le, .int li, .int w])) := by rw [e9, va_up_ne _ _ (by omega)]; exact hs_v8
  have ha_v9 : h9 (a + 1) = some (.inr (5, [.ref (a + 2), .int 0, .int 0, .ref (a + 3), .int 0, .int 0, .int 0, .int 0, .ref a])) := by rw [e9]; exact va_up_self _ _ _
  have f2_v9 : h9 (a + 2) = some (.inl (0, 32, .inl (fun _ => 0))) := by rw [e9, va_up_ne _ _ (by omega)]; exact f2_v8
  have f3_v9 : h9 (a + 3) = some (.inl (0, 32, .inl (fun _ => 0))) := by rw [e9, va_up_ne _ _ (by omega)]; exact f3_v8
  refine mm_aload_n d_Serial_init_41 rfl ?_
  refine mm_iconst (v := 0) d_Serial_init_42 (by decide) ?_
  refine mm_putf d_Serial_init_43 cl_Serial ty_Serial fl_Serial_29_Serial (by decide) rfl rfl rfl ha_v9 (Nat.le_of_ble_eq_true rfl) ?_
  refine mm_hp (fun h10 e10 => ?_)
  have hs_v10 : h10 a = some (.inr (2, [.int f, .int le, .int li, .int w])) := by rw [e10, va_up_ne _ _ (by omega)]; exact hs_v9
  have ha_v10 : h10 (a + 1) = some (.inr (5, [.ref (a + 2), .int 0, .int 0, .ref (a + 3), .int 0, .int 0, .int 0, .int 0, .ref a])) := by rw [e10]; exact va_up_self _ _ _
  have f2_v10 : h10 (a + 2) = some (.inl (0, 32, .inl (fun _ => 0))) := by rw [e10, va_up_ne _ _ (by omega)]; exact f2_v9
  have f3_v10 : h10 (a + 3) = some (.inl (0, 32, .inl (fun _ => 0))) := by rw [e10, va_up_ne _ _ (by omega)]; exact f3_v9
  refine mm_aload_n d_Serial_init_46 rfl ?_
  refine mm_iconst (v := 0) d_Serial_init_47 (by decide) ?_
  refine mm_putf d_Serial_init_48 cl_Serial ty_Serial fl_Serial_32_Serial (by decide) rfl rfl rfl ha_v10 (Nat.le_of_ble_eq_true rfl) ?_
  refine mm_hp (fun h11 e11 => ?_)
  have hs_v11 : h11 a = some (.inr (2, [.int f, .int le, .int li, .int w])) := by rw [e11, va_up_ne _ _ (by omega)]; exact hs_v10
  have ha_v11 : h11 (a + 1) = some (.inr (5, [.ref (a + 2), .int 0, .int 0, .ref (a + 3), .int 0, .int 0, .int 0, .int 0, .ref a])) := by rw [e11]; exact va_up_self _ _ _
  have f2_v11 : h11 (a + 2) = some (.inl (0, 32, .inl (fun _ => 0))) := by rw [e11, va_up_ne _ _ (by omega)]; exact f2_v10
  have f3_v11 : h11 (a + 3) = some (.inl (0, 32, .inl (fun _ => 0))) := by rw [e11, va_up_ne _ _ (by omega)]; exact f3_v10
  exact mm_return d_Serial_init_51 rfl ⟨rfl, rfl, by subst e1 e2 e3 e4 e5 e6 e7 e8 e9 e10 e11; funext j; simp only [va_up]; (repeat' split) <;> first | rfl | omega⟩
set_option maxRecDepth 100000 in
set_option maxHeartbeats 4000000 in
theorem J_Rows_init {sc : mm_Sc} {h : mm_H} {a : Nat} {f le li w : Int32} (hs : h a = some (.inr (2, [.int f, .int le, .int li, .int w]))) (ha : h (a + 1) = some (.inr (6, [.null, .null, .int 0, .int 0, .int 0, .int 0, .int 0, .null])))  : mm_J sc y_Rows_init 3 [.ref (a + 1), .ref a] (a + 2) h 2 (72) (fun o n' h' => o = .inl none ∧ n' = a + 4 ∧ h' = va_up (va_up (va_up h (a + 2) (some (.inl (0, 64, .inl (fun _ => 0))))) (a + 3) (some (.inl (0, 8, .inl (fun _ => 0))))) (a + 1) (some (.inr (6, [.ref (a + 2), .ref (a + 3), .int 0, .int 0, .int 0, .int 0, .int 0, .ref a])))) := by
  refine mm_J.of (show mm_G sc y_Rows_init 3 0 [some (.ref (a + 1)), some (.ref a)] [] (a + 2) h 2 (72) _ from ?_) ce_Rows_init.2.2.2.2.1 (Nat.le_of_ble_eq_true rfl) (by simp [Value.category])
  refine mm_aload_n d_Rows_init_0 rfl ?_
  refine mm_aload_n d_Rows_init_1 rfl ?_
  refine mm_callD (kc := 2) (ks := 72) (kc' := 0) (ks' := 0) d_Rows_init_2 (mm_Inv.sp (as := [.ref a]) d_Rows_init_2 (Or.inl m_352) m_278 ce_Part_init.2.1 rfl ce_Part_init.2.2.2.2.2 rfl ln_Part_init rfl) (J_Part_init_Rows ha) (by decide) ce_Part_init.1 ce_Part_init.2.1 ce_Part_init.2.2.1 ce_Part_init.2.2.2.1 (Nat.le_of_ble_eq_true rfl) ?_
  refine mm_hp (fun h1 e1 => ?_)
  have hs_v1 : h1 a = some (.inr (2, [.int f, .int le, .int li, .int w])) := by rw [e1, va_up_ne _ _ (by omega)]; exact hs
  have ha_v1 : h1 (a + 1) = some (.inr (6, [.null, .null, .int 0, .int 0, .int 0, .int 0, .int 0, .ref a])) := by rw [e1]; exact va_up_self _ _ _
  refine mm_aload_n d_Rows_init_5 rfl ?_
  refine mm_bipush (v := 64) d_Rows_init_6 (by decide) ?_
  refine mm_newa (t := 0) (N := 64) (a0 := (64, .inl (fun _ => 0))) (kc := 1) (ks := 8) d_Rows_init_8 (by decide) rfl m_52 (fun _ => rfl) (by decide) rfl (by decide) ?_
  refine mm_hp (fun h2 e2 => ?_)
  have hs_v2 : h2 a = some (.inr (2, [.int f, .int le, .int li, .int w])) := by rw [e2, va_up_ne _ _ (by omega)]; exact hs_v1
  have ha_v2 : h2 (a + 1) = some (.inr (6, [.null, .null, .int 0, .int 0, .int 0, .int 0, .int 0, .ref a])) := by rw [e2, va_up_ne _ _ (by omega)]; exact ha_v1
  have f2_v2 : h2 (a + 2) = some (.inl (0, 64, .inl (fun _ => 0))) := by rw [e2]; exact va_up_self _ _ _
  refine mm_putfF (k := 0) d_Rows_init_10 cl_Rows ty_Rows m_353 (by decide) rfl rfl rfl rfl rfl ha_v2 (Nat.le_of_ble_eq_true rfl) ?_
  refine mm_hp (fun h3 e3 => ?_)
  have hs_v3 : h3 a = some (.inr (2, [.int f, .int le, .int li, .int w])) := by rw [e3, va_up_ne _ _ (by omega)]; exact hs_v2
  have ha_v3 : h3 (a + 1) = some (.inr (6, [.ref (a + 2), .null, .int 0, .int 0, .int 0, .int 0, .int 0, .ref a])) := by rw [e3]; exact va_up_self _ _ _
  have f2_v3 : h3 (a + 2) = some (.inl (0, 64, .inl (fun _ => 0))) := by rw [e3, va_up_ne _ _ (by omega)]; exact f2_v2
  refine mm_aload_n d_Rows_init_13 rfl ?_
  refine mm_bipush (v := 8) d_Rows_init_14 (by decide) ?_
  refine mm_newa (t := 0) (N := 8) (a0 := (8, .inl (fun _ => 0))) (kc := 0) (ks := 0) d_Rows_init_16 (by decide) rfl m_52 (fun _ => rfl) (by decide) rfl (by decide) ?_
  refine mm_hp (fun h4 e4 => ?_)
  have hs_v4 : h4 a = some (.inr (2, [.int f, .int le, .int li, .int w])) := by rw [e4, va_up_ne _ _ (by omega)]; exact hs_v3
  have ha_v4 : h4 (a + 1) = some (.inr (6, [.ref (a + 2), .null, .int 0, .int 0, .int 0, .int 0, .int 0, .ref a])) := by rw [e4, va_up_ne _ _ (by omega)]; exact ha_v3
  have f2_v4 : h4 (a + 2) = some (.inl (0, 64, .inl (fun _ => 0))) := by rw [e4, va_up_ne _ _ (by omega)]; exact f2_v3
  have f3_v4 : h4 (a + 3) = some (.inl (0, 8, .inl (fun _ => 0))) := by rw [e4]; exact va_up_self _ _ _
  refine mm_putfF (k := 1) d_Rows_init_18 cl_Rows ty_Rows m_354 (by decide) rfl rfl rfl rfl rfl ha_v4 (Nat.le_of_ble_eq_true rfl) ?_
  refine mm_hp (fun h5 e5 => ?_)
  have hs_v5 : h5 a = some (.inr (2, [.int f, .int le, .int li, .int w])) := by rw [e5, va_up_ne _ _ (by omega)]; exact hs_v4
  have ha_v5 : h5 (a + 1) = some (.inr (6, [.ref (a + 2), .ref (a + 3), .int 0, .int 0, .int 0, .int 0, .int 0, .ref a])) := by rw [e5]; exact va_up_self _ _ _
  have f2_v5 : h5 (a + 2) = some (.inl (0, 64, .inl (fun _ => 0))) := by rw [e5, va_up_ne _ _ (by omega)]; exact f2_v4
  have f3_v5 : h5 (a + 3) = some (.inl (0, 8, .inl (fun _ => 0))) := by rw [e5, va_up_ne _ _ (by omega)]; exact f3_v4
  refine mm_aload_n d_Rows_init_21 rfl ?_
  refine mm_iconst (v := 0) d_Rows_init_22 (by decide) ?_
  refine mm_putf d_Rows_init_23 cl_Rows ty_Rows fl_Rows_16_Rows (by decide) rfl rfl rfl ha_v5 (Nat.le_of_ble_eq_true rfl) ?_
  refine mm_hp (fun h6 e6 => ?_)
  have hs_v6 : h6 a = some (.inr (2, [.int f, .int le, .int li, .int w])) := by rw [e6, va_up_ne _ _ (by omega)]; exact hs_v5
  have ha_v6 : h6 (a + 1) = some (.inr (6, [.ref (a + 2), .ref (a + 3), .int 0, .int 0, .int 0, .int 0, .int 0, .ref a])) := by rw [e6]; exact va_up_self _ _ _
  have f2_v6 : h6 (a + 2) = some (.inl (0, 64, .inl (fun _ => 0))) := by rw [e6, va_up_ne _ _ (by omega)]; exact f2_v5
  have f3_v6 : h6 (a + 3) = some (.inl (0, 8, .inl (fun _ => 0))) := by rw [e6, va_up_ne _ _ (by omega)]; exact f3_v5
  refine mm_aload_n d_Rows_init_26 rfl ?_
  refine mm_iconst (v := 0) d_Rows_init_27 (by decide) ?_
  refine mm_putf d_Rows_init_28 cl_Rows ty_Rows fl_Rows_20_Rows (by decide) rfl rfl rfl ha_v6 (Nat.le_of_ble_eq_true rfl) ?_
  refine mm_hp (fun h7 e7 => ?_)
  have hs_v7 : h7 a = some (.inr (2, [.int f, .int le, .int li, .int w])) := by rw [e7, va_up_ne _ _ (by omega)]; exact hs_v6
  have ha_v7 : h7 (a + 1) = some (.inr (6, [.ref (a + 2), .ref (a + 3), .int 0, .int 0, .int 0, .int 0, .int 0, .ref a])) := by rw [e7]; exact va_up_self _ _ _
  have f2_v7 : h7 (a + 2) = some (.inl (0, 64, .inl (fun _ => 0))) := by rw [e7, va_up_ne _ _ (by omega)]; exact f2_v6
  have f3_v7 : h7 (a + 3) = some (.inl (0, 8, .inl (fun _ => 0))) := by rw [e7, va_up_ne _ _ (by omega)]; exact f3_v6
  refine mm_aload_n d_Rows_init_31 rfl ?_
  refine mm_iconst (v := 0) d_Rows_init_32 (by decide) ?_
  refine mm_putf d_Rows_init_33 cl_Rows ty_Rows fl_Rows_23_Rows (by decide) rfl rfl rfl ha_v7 (Nat.le_of_ble_eq_true rfl) ?_
  refine mm_hp (fun h8 e8 => ?_)
  have hs_v8 : h8 a = some (.inr (2, [.int f, .int le, .int li, .int w])) := by rw [e8, va_up_ne _ _ (by omega)]; exact hs_v7
  have ha_v8 : h8 (a + 1) = some (.inr (6, [.ref (a + 2), .ref (a + 3), .int 0, .int 0, .int 0, .int 0, .int 0, .ref a])) := by rw [e8]; exact va_up_self _ _ _
  have f2_v8 : h8 (a + 2) = some (.inl (0, 64, .inl (fun _ => 0))) := by rw [e8, va_up_ne _ _ (by omega)]; exact f2_v7
  have f3_v8 : h8 (a + 3) = some (.inl (0, 8, .inl (fun _ => 0))) := by rw [e8, va_up_ne _ _ (by omega)]; exact f3_v7
  refine mm_aload_n d_Rows_init_36 rfl ?_
  refine mm_iconst (v := 0) d_Rows_init_37 (by decide) ?_
  refine mm_putf d_Rows_init_38 cl_Rows ty_Rows fl_Rows_26_Rows (by decide) rfl rfl rfl ha_v8 (Nat.le_of_ble_eq_true rfl) ?_
  refine mm_hp (fun h9 e9 => ?_)
  have hs_v9 : h9 a = some (.inr (2, [.int f, .int le, .int li, .int w])) := by rw [e9, va_up_ne _ _ (by omega)]; exact hs_v8
  have ha_v9 : h9 (a + 1) = some (.inr (6, [.ref (a + 2), .ref (a + 3), .int 0, .int 0, .int 0, .int 0, .int 0, .ref a])) := by rw [e9]; exact va_up_self _ _ _
  have f2_v9 : h9 (a + 2) = some (.inl (0, 64, .inl (fun _ => 0))) := by rw [e9, va_up_ne _ _ (by omega)]; exact f2_v8
  have f3_v9 : h9 (a + 3) = some (.inl (0, 8, .inl (fun _ => 0))) := by rw [e9, va_up_ne _ _ (by omega)]; exact f3_v8
  refine mm_aload_n d_Rows_init_41 rfl ?_
  refine mm_iconst (v := 0) d_Rows_init_42 (by decide) ?_
  refine mm_putf d_Rows_init_43 cl_Rows ty_Rows fl_Rows_29_Rows (by decide) rfl rfl rfl ha_v9 (Nat.le_of_ble_eq_true rfl) ?_
  refine mm_hp (fun h10 e10 => ?_)
  have hs_v10 : h10 a = some (.inr (2, [.int f, .int le, .int li, .int w])) := by rw [e10, va_up_ne _ _ (by omega)]; exact hs_v9
  have ha_v10 : h10 (a + 1) = some (.inr (6, [.ref (a + 2), .ref (a + 3), .int 0, .int 0, .int 0, .int 0, .int 0, .ref a])) := by rw [e10]; exact va_up_self _ _ _
  have f2_v10 : h10 (a + 2) = some (.inl (0, 64, .inl (fun _ => 0))) := by rw [e10, va_up_ne _ _ (by omega)]; exact f2_v9
  have f3_v10 : h10 (a + 3) = some (.inl (0, 8, .inl (fun _ => 0))) := by rw [e10, va_up_ne _ _ (by omega)]; exact f3_v9
  exact mm_return d_Rows_init_46 rfl ⟨rfl, rfl, by subst e1 e2 e3 e4 e5 e6 e7 e8 e9 e10; funext j; simp only [va_up]; (repeat' split) <;> first | rfl | omega⟩
set_option maxRecDepth 100000 in
set_option maxHeartbeats 4000000 in
theorem J_Counts_init {sc : mm_Sc} {h : mm_H} {a : Nat} {f le li w : Int32} (hs : h a = some (.inr (2, [.int f, .int le, .int li, .int w]))) (ha : h (a + 1) = some (.inr (7, [.null, .null])))  : mm_J sc y_Counts_init 3 [.ref (a + 1), .ref a] (a + 2) h 1 (4) (fun o n' h' => o = .inl none ∧ n' = a + 3 ∧ h' = va_up (va_up h (a + 2) (some (.inl (0, 4, .inl (fun _ => 0))))) (a + 1) (some (.inr (7, [.ref (a + 2), .ref a])))) := by
  refine mm_J.of (show mm_G sc y_Counts_init 3 0 [some (.ref (a + 1)), some (.ref a)] [] (a + 2) h 1 (4) _ from ?_) ce_Counts_init.2.2.2.2.1 (Nat.le_of_ble_eq_true rfl) (by simp [Value.category])
  refine mm_aload_n d_Counts_init_0 rfl ?_
  refine mm_aload_n d_Counts_init_1 rfl ?_
  refine mm_callD (kc := 1) (ks := 4) (kc' := 0) (ks' := 0) d_Counts_init_2 (mm_Inv.sp (as := [.ref a]) d_Counts_init_2 (Or.inl m_381) m_278 ce_Part_init.2.1 rfl ce_Part_init.2.2.2.2.2 rfl ln_Part_init rfl) (J_Part_init_Counts ha) (by decide) ce_Part_init.1 ce_Part_init.2.1 ce_Part_init.2.2.1 ce_Part_init.2.2.2.1 (Nat.le_of_ble_eq_true rfl) ?_
  refine mm_hp (fun h1 e1 => ?_)
  have hs_v1 : h1 a = some (.inr (2, [.int f, .int le, .int li, .int w])) := by rw [e1, va_up_ne _ _ (by omega)]; exact hs
  have ha_v1 : h1 (a + 1) = some (.inr (7, [.null, .ref a])) := by rw [e1]; exact va_up_self _ _ _
  refine mm_aload_n d_Counts_init_5 rfl ?_
  refine mm_iconst (v := 4) d_Counts_init_6 (by decide) ?_
  refine mm_newa (t := 0) (N := 4) (a0 := (4, .inl (fun _ => 0))) (kc := 0) (ks := 0) d_Counts_init_7 (by decide) rfl m_52 (fun _ => rfl) (by decide) rfl (by decide) ?_
  refine mm_hp (fun h2 e2 => ?_)
  have hs_v2 : h2 a = some (.inr (2, [.int f, .int le, .int li, .int w])) := by rw [e2, va_up_ne _ _ (by omega)]; exact hs_v1
  have ha_v2 : h2 (a + 1) = some (.inr (7, [.null, .ref a])) := by rw [e2, va_up_ne _ _ (by omega)]; exact ha_v1
  have f2_v2 : h2 (a + 2) = some (.inl (0, 4, .inl (fun _ => 0))) := by rw [e2]; exact va_up_self _ _ _
  refine mm_putfF (k := 0) d_Counts_init_9 cl_Counts ty_Counts m_382 (by decide) rfl rfl rfl rfl rfl ha_v2 (Nat.le_of_ble_eq_true rfl) ?_
  refine mm_hp (fun h3 e3 => ?_)
  have hs_v3 : h3 a = some (.inr (2, [.int f, .int le, .int li, .int w])) := by rw [e3, va_up_ne _ _ (by omega)]; exact hs_v2
  have ha_v3 : h3 (a + 1) = some (.inr (7, [.ref (a + 2), .ref a])) := by rw [e3]; exact va_up_self _ _ _
  have f2_v3 : h3 (a + 2) = some (.inl (0, 4, .inl (fun _ => 0))) := by rw [e3, va_up_ne _ _ (by omega)]; exact f2_v2
  exact mm_return d_Counts_init_12 rfl ⟨rfl, rfl, by subst e1 e2 e3; funext j; simp only [va_up]; (repeat' split) <;> first | rfl | omega⟩
set_option maxRecDepth 100000 in
set_option maxHeartbeats 4000000 in
theorem J_Cells_init {sc : mm_Sc} {h : mm_H} {a : Nat} {f le li w : Int32} {fx : Int32} (hs : h a = some (.inr (2, [.int f, .int le, .int li, .int w]))) (ha : h (a + 1) = some (.inr (3, [.null, .int 0, .null]))) (hl0 : ¬ le < 0) (hl1 : le.toNatClampNeg ≤ 1000) (hz : narrow .boolean (.int fx) = .int fx) (hft : fits .boolean (.int fx) = true) : mm_J sc y_Cells_init 3 [.ref (a + 1), .ref a, .int fx] (a + 2) h 1 (0 + le.toNatClampNeg) (fun o n' h' => o = .inl none ∧ n' = a + 3 ∧ h' = va_up (va_up h (a + 2) (some (.inl (0, le.toNatClampNeg, .inl (fun _ => 0))))) (a + 1) (some (.inr (3, [.ref (a + 2), .int fx, .ref a])))) := by
  refine mm_J.of (show mm_G sc y_Cells_init 3 0 [some (.ref (a + 1)), some (.ref a), some (.int fx)] [] (a + 2) h 1 (0 + le.toNatClampNeg) _ from ?_) ce_Cells_init.2.2.2.2.1 (Nat.le_of_ble_eq_true rfl) (by simp [Value.category])
  refine mm_aload_n d_Cells_init_0 rfl ?_
  refine mm_aload_n d_Cells_init_1 rfl ?_
  refine mm_callD (kc := 1) (ks := 0 + le.toNatClampNeg) (kc' := 0) (ks' := 0) d_Cells_init_2 (mm_Inv.sp (as := [.ref a]) d_Cells_init_2 (Or.inl m_277) m_278 ce_Part_init.2.1 rfl ce_Part_init.2.2.2.2.2 rfl ln_Part_init rfl) (J_Part_init_Cells ha) (by decide) ce_Part_init.1 ce_Part_init.2.1 ce_Part_init.2.2.1 ce_Part_init.2.2.2.1 (Nat.le_of_ble_eq_true rfl) ?_
  refine mm_hp (fun h1 e1 => ?_)
  have hs_v1 : h1 a = some (.inr (2, [.int f, .int le, .int li, .int w])) := by rw [e1, va_up_ne _ _ (by omega)]; exact hs
  have ha_v1 : h1 (a + 1) = some (.inr (3, [.null, .int 0, .ref a])) := by rw [e1]; exact va_up_self _ _ _
  refine mm_aload_n d_Cells_init_5 rfl ?_
  refine mm_aload_n d_Cells_init_6 rfl ?_
  refine mm_getf d_Cells_init_7 cl_Seat fl_Cells_7_Seat (by decide) hs_v1 rfl ?_
  refine mm_if_lt (tgt := 20) d_Cells_init_10 (by decide) (fun c_10 => absurd c_10 hl0) (fun c_10 => ?_)
  refine mm_aload_n d_Cells_init_13 rfl ?_
  refine mm_getf d_Cells_init_14 cl_Seat fl_Cells_7_Seat (by decide) hs_v1 rfl ?_
  refine mm_goto (tgt := 21) d_Cells_init_17 (by decide) ?_
  refine mm_newa (t := 0) (N := (le).toNatClampNeg) (a0 := ((le).toNatClampNeg, .inl (fun _ => 0))) (kc := 0) (ks := 0) d_Cells_init_21 (by decide) rfl m_52 (fun _ => rfl) hl0 rfl (by show le.toNatClampNeg * 4 ≤ _; omega) ?_
  refine mm_hp (fun h2 e2 => ?_)
  have hs_v2 : h2 a = some (.inr (2, [.int f, .int le, .int li, .int w])) := by rw [e2, va_up_ne _ _ (by omega)]; exact hs_v1
  have ha_v2 : h2 (a + 1) = some (.inr (3, [.null, .int 0, .ref a])) := by rw [e2, va_up_ne _ _ (by omega)]; exact ha_v1
  have f2_v2 : h2 (a + 2) = some (.inl (0, (le).toNatClampNeg, .inl (fun _ => 0))) := by rw [e2]; exact va_up_self _ _ _
  refine mm_putfF (k := 0) d_Cells_init_23 cl_Cells ty_Cells m_281 (by decide) rfl rfl rfl rfl rfl ha_v2 (Nat.le_of_ble_eq_true rfl) ?_
  refine mm_hp (fun h3 e3 => ?_)
  have hs_v3 : h3 a = some (.inr (2, [.int f, .int le, .int li, .int w])) := by rw [e3, va_up_ne _ _ (by omega)]; exact hs_v2
  have ha_v3 : h3 (a + 1) = some (.inr (3, [.ref (a + 2), .int 0, .ref a])) := by rw [e3]; exact va_up_self _ _ _
  have f2_v3 : h3 (a + 2) = some (.inl (0, (le).toNatClampNeg, .inl (fun _ => 0))) := by rw [e3, va_up_ne _ _ (by omega)]; exact f2_v2
  refine mm_aload_n d_Cells_init_26 rfl ?_
  refine mm_iload_n d_Cells_init_27 rfl ?_
  refine mm_putfF (k := 1) d_Cells_init_28 cl_Cells ty_Cells m_282 (by decide) rfl rfl rfl hz hft ha_v3 (Nat.le_of_ble_eq_true rfl) ?_
  refine mm_hp (fun h4 e4 => ?_)
  have hs_v4 : h4 a = some (.inr (2, [.int f, .int le, .int li, .int w])) := by rw [e4, va_up_ne _ _ (by omega)]; exact hs_v3
  have ha_v4 : h4 (a + 1) = some (.inr (3, [.ref (a + 2), .int fx, .ref a])) := by rw [e4]; exact va_up_self _ _ _
  have f2_v4 : h4 (a + 2) = some (.inl (0, (le).toNatClampNeg, .inl (fun _ => 0))) := by rw [e4, va_up_ne _ _ (by omega)]; exact f2_v3
  exact mm_return d_Cells_init_31 rfl ⟨rfl, rfl, by subst e1 e2 e3 e4; funext j; simp only [va_up]; (repeat' split) <;> first | rfl | omega⟩

set_option maxRecDepth 100000 in
set_option maxHeartbeats 4000000 in
theorem J_SP_newPart0 {sc : mm_Sc} {h : mm_H} {a : Nat} {f le li w : Int32} (hs : h a = some (.inr (2, [.int f, .int le, .int li, .int w]))) (hl0 : ¬ le < 0) (hl1 : le.toNatClampNeg ≤ 64) : mm_J sc y_SP_newPart 5 [.int 0, .ref a] (a + 1) h 3 100 (fun o n' h' => o = .inl (some (.ref (a + 1))) ∧ n' = a + 3 ∧ h' = p_put h a ((0, (f, le, li, w), fun _ => 0, fun _ => 0, fun _ => 0) : pS)) := by
  refine mm_J.of (show mm_G sc y_SP_newPart 5 0 [some (.int 0), some (.ref a)] [] (a + 1) h 3 100 _ from ?_) ce_SP_newPart.2.2.2.2.1 (Nat.le_of_ble_eq_true rfl) (by simp [Value.category])
  refine mm_G.less (kc' := (0 + 1) + 1) (ks' := (0 + (0 + le.toNatClampNeg)) + 3) ?_ (by omega) (by omega)
  refine mm_iload_n d_SP_newPart_0 rfl ?_
  refine mm_tableIn (tgt := 36) (off := 35) d_SP_newPart_1 (by decide) (by decide) (by decide) (by decide) ?_
  refine mm_new (kc := 1) (ks := (0 + (0 + le.toNatClampNeg))) (fs := [.null, .int 0, .null]) d_SP_newPart_36 cl_Cells ty_Cells m_272 m_273 m_11 (fun j hj => match j, hj with | 0, _ => rfl | 1, _ => rfl | 2, _ => rfl | j + 3, hj => absurd hj (by omega)) ?_
  refine mm_hp (fun h1 e1 => ?_)
  have hs_v1 : h1 a = some (.inr (2, [.int f, .int le, .int li, .int w])) := by rw [e1, va_up_ne _ _ (by omega)]; exact hs
  have f1_v1 : h1 (a + 1) = some (.inr (3, [.null, .int 0, .null])) := by rw [e1]; exact va_up_self _ _ _
  refine mm_dup d_SP_newPart_39 rfl ?_
  refine mm_aload_n d_SP_newPart_40 rfl ?_
  refine mm_iconst (v := 0) d_SP_newPart_41 (by decide) ?_
  refine mm_callD (kc := 0) (ks := 0) (kc' := 1) (ks' := 0 + le.toNatClampNeg) d_SP_newPart_42 (mm_Inv.sp (as := [.ref a, .int 0]) d_SP_newPart_42 (Or.inl m_274) m_275 ce_Cells_init.2.1 rfl ce_Cells_init.2.2.2.2.2 rfl ln_Cells_init rfl) (J_Cells_init hs_v1 f1_v1 hl0 (by omega) rfl rfl) (by decide) ce_Cells_init.1 ce_Cells_init.2.1 ce_Cells_init.2.2.1 ce_Cells_init.2.2.2.1 (Nat.le_of_ble_eq_true rfl) ?_
  exact mm_areturn d_SP_newPart_45 rfl (Or.inr ⟨_, rfl⟩) ⟨rfl, rfl, by
        subst e1
        funext j
        by_cases j1 : j = a + 1
        · subst j1; simp [p_put, va_up, p_obj]
        · by_cases j2 : j = a + 2
          · subst j2; simp [p_put, va_up, p_len]
          · by_cases j3 : j = a + 3
            · subst j3; simp [p_put, va_up]
            · simp [p_put, va_up, j1, j2, j3]⟩
set_option maxRecDepth 100000 in
set_option maxHeartbeats 4000000 in
theorem J_SP_newPart1 {sc : mm_Sc} {h : mm_H} {a : Nat} {f le li w : Int32} (hs : h a = some (.inr (2, [.int f, .int le, .int li, .int w]))) (hl0 : ¬ le < 0) (hl1 : le.toNatClampNeg ≤ 64) : mm_J sc y_SP_newPart 5 [.int 1, .ref a] (a + 1) h 3 100 (fun o n' h' => o = .inl (some (.ref (a + 1))) ∧ n' = a + 3 ∧ h' = p_put h a ((1, (f, le, li, w), fun _ => 0, fun _ => 0, fun _ => 0) : pS)) := by
  refine mm_J.of (show mm_G sc y_SP_newPart 5 0 [some (.int 1), some (.ref a)] [] (a + 1) h 3 100 _ from ?_) ce_SP_newPart.2.2.2.2.1 (Nat.le_of_ble_eq_true rfl) (by simp [Value.category])
  refine mm_G.less (kc' := (0 + 1) + 1) (ks' := (0 + (0 + le.toNatClampNeg)) + 3) ?_ (by omega) (by omega)
  refine mm_iload_n d_SP_newPart_0 rfl ?_
  refine mm_tableIn (tgt := 46) (off := 45) d_SP_newPart_1 (by decide) (by decide) (by decide) (by decide) ?_
  refine mm_new (kc := 1) (ks := (0 + (0 + le.toNatClampNeg))) (fs := [.null, .int 0, .null]) d_SP_newPart_46 cl_Cells ty_Cells m_272 m_273 m_11 (fun j hj => match j, hj with | 0, _ => rfl | 1, _ => rfl | 2, _ => rfl | j + 3, hj => absurd hj (by omega)) ?_
  refine mm_hp (fun h1 e1 => ?_)
  have hs_v1 : h1 a = some (.inr (2, [.int f, .int le, .int li, .int w])) := by rw [e1, va_up_ne _ _ (by omega)]; exact hs
  have f1_v1 : h1 (a + 1) = some (.inr (3, [.null, .int 0, .null])) := by rw [e1]; exact va_up_self _ _ _
  refine mm_dup d_SP_newPart_49 rfl ?_
  refine mm_aload_n d_SP_newPart_50 rfl ?_
  refine mm_iconst (v := 1) d_SP_newPart_51 (by decide) ?_
  refine mm_callD (kc := 0) (ks := 0) (kc' := 1) (ks' := 0 + le.toNatClampNeg) d_SP_newPart_52 (mm_Inv.sp (as := [.ref a, .int 1]) d_SP_newPart_52 (Or.inl m_274) m_275 ce_Cells_init.2.1 rfl ce_Cells_init.2.2.2.2.2 rfl ln_Cells_init rfl) (J_Cells_init hs_v1 f1_v1 hl0 (by omega) rfl rfl) (by decide) ce_Cells_init.1 ce_Cells_init.2.1 ce_Cells_init.2.2.1 ce_Cells_init.2.2.2.1 (Nat.le_of_ble_eq_true rfl) ?_
  exact mm_areturn d_SP_newPart_55 rfl (Or.inr ⟨_, rfl⟩) ⟨rfl, rfl, by
        subst e1
        funext j
        by_cases j1 : j = a + 1
        · subst j1; simp [p_put, va_up, p_obj]
        · by_cases j2 : j = a + 2
          · subst j2; simp [p_put, va_up, p_len]
          · by_cases j3 : j = a + 3
            · subst j3; simp [p_put, va_up]
            · simp [p_put, va_up, j1, j2, j3]⟩
set_option maxRecDepth 100000 in
set_option maxHeartbeats 4000000 in
theorem J_SP_newPart2 {sc : mm_Sc} {h : mm_H} {a : Nat} {f le li w : Int32} (hs : h a = some (.inr (2, [.int f, .int le, .int li, .int w]))) (hl0 : ¬ le < 0) (hl1 : le.toNatClampNeg ≤ 64) : mm_J sc y_SP_newPart 5 [.int 2, .ref a] (a + 1) h 3 100 (fun o n' h' => o = .inl (some (.ref (a + 1))) ∧ n' = a + 2 ∧ h' = p_put h a ((2, (f, le, li, w), fun _ => 0, fun _ => 0, fun _ => 0) : pS)) := by
  refine mm_J.of (show mm_G sc y_SP_newPart 5 0 [some (.int 2), some (.ref a)] [] (a + 1) h 3 100 _ from ?_) ce_SP_newPart.2.2.2.2.1 (Nat.le_of_ble_eq_true rfl) (by simp [Value.category])
  refine mm_G.less (kc' := (0 + 0) + 1) (ks' := (0 + 0) + 5) ?_ (by omega) (by omega)
  refine mm_iload_n d_SP_newPart_0 rfl ?_
  refine mm_tableIn (tgt := 56) (off := 55) d_SP_newPart_1 (by decide) (by decide) (by decide) (by decide) ?_
  refine mm_new (kc := 0) (ks := (0 + 0)) (fs := [.int 0, .int 0, .int 0, .int 0, .null]) d_SP_newPart_56 cl_Timer ty_Timer m_294 m_295 m_12 (fun j hj => match j, hj with | 0, _ => rfl | 1, _ => rfl | 2, _ => rfl | 3, _ => rfl | 4, _ => rfl | j + 5, hj => absurd hj (by omega)) ?_
  refine mm_hp (fun h1 e1 => ?_)
  have hs_v1 : h1 a = some (.inr (2, [.int f, .int le, .int li, .int w])) := by rw [e1, va_up_ne _ _ (by omega)]; exact hs
  have f1_v1 : h1 (a + 1) = some (.inr (4, [.int 0, .int 0, .int 0, .int 0, .null])) := by rw [e1]; exact va_up_self _ _ _
  refine mm_dup d_SP_newPart_59 rfl ?_
  refine mm_aload_n d_SP_newPart_60 rfl ?_
  refine mm_callD (kc := 0) (ks := 0) (kc' := 0) (ks' := 0) d_SP_newPart_61 (mm_Inv.sp (as := [.ref a]) d_SP_newPart_61 (Or.inl m_296) m_297 ce_Timer_init.2.1 rfl ce_Timer_init.2.2.2.2.2 rfl ln_Timer_init rfl) (J_Timer_init hs_v1 f1_v1) (by decide) ce_Timer_init.1 ce_Timer_init.2.1 ce_Timer_init.2.2.1 ce_Timer_init.2.2.2.1 (Nat.le_of_ble_eq_true rfl) ?_
  exact mm_areturn d_SP_newPart_64 rfl (Or.inr ⟨_, rfl⟩) ⟨rfl, rfl, by
        subst e1
        funext j
        by_cases j1 : j = a + 1
        · subst j1; simp [p_put, va_up, p_obj]
        · by_cases j2 : j = a + 2
          · subst j2; simp [p_put, va_up, p_len]
          · by_cases j3 : j = a + 3
            · subst j3; simp [p_put, va_up]
            · simp [p_put, va_up, j1, j2, j3]⟩
set_option maxRecDepth 100000 in
set_option maxHeartbeats 4000000 in
theorem J_SP_newPart3 {sc : mm_Sc} {h : mm_H} {a : Nat} {f le li w : Int32} (hs : h a = some (.inr (2, [.int f, .int le, .int li, .int w]))) (hl0 : ¬ le < 0) (hl1 : le.toNatClampNeg ≤ 64) : mm_J sc y_SP_newPart 5 [.int 3, .ref a] (a + 1) h 3 100 (fun o n' h' => o = .inl (some (.ref (a + 1))) ∧ n' = a + 4 ∧ h' = p_put h a ((3, (f, le, li, w), fun _ => 0, fun _ => 0, fun _ => 0) : pS)) := by
  refine mm_J.of (show mm_G sc y_SP_newPart 5 0 [some (.int 3), some (.ref a)] [] (a + 1) h 3 100 _ from ?_) ce_SP_newPart.2.2.2.2.1 (Nat.le_of_ble_eq_true rfl) (by simp [Value.category])
  refine mm_G.less (kc' := (0 + 2) + 1) (ks' := (0 + 64) + 9) ?_ (by omega) (by omega)
  refine mm_iload_n d_SP_newPart_0 rfl ?_
  refine mm_tableIn (tgt := 65) (off := 64) d_SP_newPart_1 (by decide) (by decide) (by decide) (by decide) ?_
  refine mm_new (kc := 2) (ks := (0 + 64)) (fs := [.null, .int 0, .int 0, .null, .int 0, .int 0, .int 0, .int 0, .null]) d_SP_newPart_65 cl_Serial ty_Serial m_130 m_314 m_13 (fun j hj => match j, hj with | 0, _ => rfl | 1, _ => rfl | 2, _ => rfl | 3, _ => rfl | 4, _ => rfl | 5, _ => rfl | 6, _ => rfl | 7, _ => rfl | 8, _ => rfl | j + 9, hj => absurd hj (by omega)) ?_
  refine mm_hp (fun h1 e1 => ?_)
  have hs_v1 : h1 a = some (.inr (2, [.int f, .int le, .int li, .int w])) := by rw [e1, va_up_ne _ _ (by omega)]; exact hs
  have f1_v1 : h1 (a + 1) = some (.inr (5, [.null, .int 0, .int 0, .null, .int 0, .int 0, .int 0, .int 0, .null])) := by rw [e1]; exact va_up_self _ _ _
  refine mm_dup d_SP_newPart_68 rfl ?_
  refine mm_aload_n d_SP_newPart_69 rfl ?_
  refine mm_callD (kc := 0) (ks := 0) (kc' := 2) (ks' := 64) d_SP_newPart_70 (mm_Inv.sp (as := [.ref a]) d_SP_newPart_70 (Or.inl m_315) m_316 ce_Serial_init.2.1 rfl ce_Serial_init.2.2.2.2.2 rfl ln_Serial_init rfl) (J_Serial_init hs_v1 f1_v1) (by decide) ce_Serial_init.1 ce_Serial_init.2.1 ce_Serial_init.2.2.1 ce_Serial_init.2.2.2.1 (Nat.le_of_ble_eq_true rfl) ?_
  exact mm_areturn d_SP_newPart_73 rfl (Or.inr ⟨_, rfl⟩) ⟨rfl, rfl, by
        subst e1
        funext j
        by_cases j1 : j = a + 1
        · subst j1; simp [p_put, va_up, p_obj]
        · by_cases j2 : j = a + 2
          · subst j2; simp [p_put, va_up, p_len]
          · by_cases j3 : j = a + 3
            · subst j3; simp [p_put, va_up]
            · simp [p_put, va_up, j1, j2, j3]⟩
set_option maxRecDepth 100000 in
set_option maxHeartbeats 4000000 in
theorem J_SP_newPart4 {sc : mm_Sc} {h : mm_H} {a : Nat} {f le li w : Int32} (hs : h a = some (.inr (2, [.int f, .int le, .int li, .int w]))) (hl0 : ¬ le < 0) (hl1 : le.toNatClampNeg ≤ 64) : mm_J sc y_SP_newPart 5 [.int 4, .ref a] (a + 1) h 3 100 (fun o n' h' => o = .inl (some (.ref (a + 1))) ∧ n' = a + 4 ∧ h' = p_put h a ((4, (f, le, li, w), fun _ => 0, fun _ => 0, fun _ => 0) : pS)) := by
  refine mm_J.of (show mm_G sc y_SP_newPart 5 0 [some (.int 4), some (.ref a)] [] (a + 1) h 3 100 _ from ?_) ce_SP_newPart.2.2.2.2.1 (Nat.le_of_ble_eq_true rfl) (by simp [Value.category])
  refine mm_G.less (kc' := (0 + 2) + 1) (ks' := (0 + 72) + 8) ?_ (by omega) (by omega)
  refine mm_iload_n d_SP_newPart_0 rfl ?_
  refine mm_tableIn (tgt := 74) (off := 73) d_SP_newPart_1 (by decide) (by decide) (by decide) (by decide) ?_
  refine mm_new (kc := 2) (ks := (0 + 72)) (fs := [.null, .null, .int 0, .int 0, .int 0, .int 0, .int 0, .null]) d_SP_newPart_74 cl_Rows ty_Rows m_347 m_348 m_14 (fun j hj => match j, hj with | 0, _ => rfl | 1, _ => rfl | 2, _ => rfl | 3, _ => rfl | 4, _ => rfl | 5, _ => rfl | 6, _ => rfl | 7, _ => rfl | j + 8, hj => absurd hj (by omega)) ?_
  refine mm_hp (fun h1 e1 => ?_)
  have hs_v1 : h1 a = some (.inr (2, [.int f, .int le, .int li, .int w])) := by rw [e1, va_up_ne _ _ (by omega)]; exact hs
  have f1_v1 : h1 (a + 1) = some (.inr (6, [.null, .null, .int 0, .int 0, .int 0, .int 0, .int 0, .null])) := by rw [e1]; exact va_up_self _ _ _
  refine mm_dup d_SP_newPart_77 rfl ?_
  refine mm_aload_n d_SP_newPart_78 rfl ?_
  refine mm_callD (kc := 0) (ks := 0) (kc' := 2) (ks' := 72) d_SP_newPart_79 (mm_Inv.sp (as := [.ref a]) d_SP_newPart_79 (Or.inl m_349) m_350 ce_Rows_init.2.1 rfl ce_Rows_init.2.2.2.2.2 rfl ln_Rows_init rfl) (J_Rows_init hs_v1 f1_v1) (by decide) ce_Rows_init.1 ce_Rows_init.2.1 ce_Rows_init.2.2.1 ce_Rows_init.2.2.2.1 (Nat.le_of_ble_eq_true rfl) ?_
  exact mm_areturn d_SP_newPart_82 rfl (Or.inr ⟨_, rfl⟩) ⟨rfl, rfl, by
        subst e1
        funext j
        by_cases j1 : j = a + 1
        · subst j1; simp [p_put, va_up, p_obj]
        · by_cases j2 : j = a + 2
          · subst j2; simp [p_put, va_up, p_len]
          · by_cases j3 : j = a + 3
            · subst j3; simp [p_put, va_up]
            · simp [p_put, va_up, j1, j2, j3]⟩
set_option maxRecDepth 100000 in
set_option maxHeartbeats 4000000 in
theorem J_SP_newPart5 {sc : mm_Sc} {h : mm_H} {a : Nat} {f le li w : Int32} (hs : h a = some (.inr (2, [.int f, .int le, .int li, .int w]))) (hl0 : ¬ le < 0) (hl1 : le.toNatClampNeg ≤ 64) : mm_J sc y_SP_newPart 5 [.int 5, .ref a] (a + 1) h 3 100 (fun o n' h' => o = .inl (some (.ref (a + 1))) ∧ n' = a + 3 ∧ h' = p_put h a ((5, (f, le, li, w), fun _ => 0, fun _ => 0, fun _ => 0) : pS)) := by
  refine mm_J.of (show mm_G sc y_SP_newPart 5 0 [some (.int 5), some (.ref a)] [] (a + 1) h 3 100 _ from ?_) ce_SP_newPart.2.2.2.2.1 (Nat.le_of_ble_eq_true rfl) (by simp [Value.category])
  refine mm_G.less (kc' := (0 + 1) + 1) (ks' := (0 + 4) + 2) ?_ (by omega) (by omega)
  refine mm_iload_n d_SP_newPart_0 rfl ?_
  refine mm_tableOut (tgt := 83) d_SP_newPart_1 (by decide) (by decide) ?_
  refine mm_new (kc := 1) (ks := (0 + 4)) (fs := [.null, .null]) d_SP_newPart_83 cl_Counts ty_Counts m_376 m_377 m_15 (fun j hj => match j, hj with | 0, _ => rfl | 1, _ => rfl | j + 2, hj => absurd hj (by omega)) ?_
  refine mm_hp (fun h1 e1 => ?_)
  have hs_v1 : h1 a = some (.inr (2, [.int f, .int le, .int li, .int w])) := by rw [e1, va_up_ne _ _ (by omega)]; exact hs
  have f1_v1 : h1 (a + 1) = some (.inr (7, [.null, .null])) := by rw [e1]; exact va_up_self _ _ _
  refine mm_dup d_SP_newPart_86 rfl ?_
  refine mm_aload_n d_SP_newPart_87 rfl ?_
  refine mm_callD (kc := 0) (ks := 0) (kc' := 1) (ks' := 4) d_SP_newPart_88 (mm_Inv.sp (as := [.ref a]) d_SP_newPart_88 (Or.inl m_378) m_379 ce_Counts_init.2.1 rfl ce_Counts_init.2.2.2.2.2 rfl ln_Counts_init rfl) (J_Counts_init hs_v1 f1_v1) (by decide) ce_Counts_init.1 ce_Counts_init.2.1 ce_Counts_init.2.2.1 ce_Counts_init.2.2.2.1 (Nat.le_of_ble_eq_true rfl) ?_
  exact mm_areturn d_SP_newPart_91 rfl (Or.inr ⟨_, rfl⟩) ⟨rfl, rfl, by
        subst e1
        funext j
        by_cases j1 : j = a + 1
        · subst j1; simp [p_put, va_up, p_obj]
        · by_cases j2 : j = a + 2
          · subst j2; simp [p_put, va_up, p_len]
          · by_cases j3 : j = a + 3
            · subst j3; simp [p_put, va_up]
            · simp [p_put, va_up, j1, j2, j3]⟩
theorem J_SP_newPart {sc : mm_Sc} {h : mm_H} {a kd : Nat} {f le li w : Int32} (hkd : kd < 6) (hs : h a = some (.inr (2, [.int f, .int le, .int li, .int w]))) (hl0 : ¬ le < 0) (hl1 : le.toNatClampNeg ≤ 64) : mm_J sc y_SP_newPart 5 [.int (nI kd), .ref a] (a + 1) h 3 100 (fun o n' h' => o = .inl (some (.ref (a + 1))) ∧ n' = a + p_sz kd ∧ h' = p_put h a ((kd, (f, le, li, w), fun _ => 0, fun _ => 0, fun _ => 0) : pS)) := by
  match kd, hkd with
  | 0, _ => exact J_SP_newPart0 hs hl0 hl1
  | 1, _ => exact J_SP_newPart1 hs hl0 hl1
  | 2, _ => exact J_SP_newPart2 hs hl0 hl1
  | 3, _ => exact J_SP_newPart3 hs hl0 hl1
  | 4, _ => exact J_SP_newPart4 hs hl0 hl1
  | 5, _ => exact J_SP_newPart5 hs hl0 hl1
def c_0 : cS := (0, (fun _ => (0, (0, 0, 0, 0), fun _ => 0, fun _ => 0, fun _ => 0)), (fun _ => 0), (fun _ => 0), (fun _ => 0), 0, 0, 0, 0, 0)
set_option maxRecDepth 100000 in
set_option maxHeartbeats 4000000 in
theorem J_SP_init {sc : mm_Sc} {h : mm_H} {x : Nat} {pa : Nat → Nat} (ha : h x = some (.inr (0, [.null, .null, .null, .int 0, .int 0, .int 0]))) : mm_J sc y_SP_init 3 [.ref x] (x + 1) h 5 53 (fun o n' h' => o = .inl none ∧ n' = x + 6 ∧ CH h' x pa c_0 ∧ ∀ i, i < x ∨ x + 6 ≤ i → h' i = h i) := by
  refine mm_J.of (show mm_G sc y_SP_init 3 0 [some (.ref x)] [] (x + 1) h 5 53 _ from ?_) ce_SP_init.2.2.2.2.1 (Nat.le_of_ble_eq_true rfl) (by simp [Value.category])
  refine mm_aload_n d_SP_init_0 rfl ?_
  refine mm_objInit d_SP_init_1 m_24 m_25 m_26 (by decide) (Nat.le_of_ble_eq_true rfl) ?_
  refine mm_aload_n d_SP_init_4 rfl ?_
  refine mm_bipush (v := 12) d_SP_init_5 (by decide) ?_
  refine mm_newq2 (N := 12) (kc := 4) (ks := 41) d_SP_init_7 m_27 m_28 (by decide) rfl (by decide) ?_
  refine mm_hp (fun h1 e1 => ?_)
  have ha_v1 : h1 x = some (.inr (0, [.null, .null, .null, .int 0, .int 0, .int 0])) := by rw [e1, va_up_ne _ _ (by omega)]; exact ha
  have f1_v1 : h1 (x + 1) = some (.inl (3, 12, .inr (.inr (.inr (.inr (fun _ => none)))))) := by rw [e1]; exact va_up_self _ _ _
  refine mm_putfF (k := 0) d_SP_init_10 cl_SP ty_SP m_53 (by decide) rfl rfl rfl rfl rfl ha_v1 (Nat.le_of_ble_eq_true rfl) ?_
  refine mm_hp (fun h2 e2 => ?_)
  have ha_v2 : h2 x = some (.inr (0, [.ref (x + 1), .null, .null, .int 0, .int 0, .int 0])) := by rw [e2]; exact va_up_self _ _ _
  have f1_v2 : h2 (x + 1) = some (.inl (3, 12, .inr (.inr (.inr (.inr (fun _ => none)))))) := by rw [e2, va_up_ne _ _ (by omega)]; exact f1_v1
  refine mm_aload_n d_SP_init_13 rfl ?_
  refine mm_new (kc := 3) (ks := 36) (fs := [.null, .null, .int 0, .int 0, .int 0]) d_SP_init_14 cl_Lines ty_Lines m_29 m_30 m_2 (fun j hj => match j, hj with | 0, _ => rfl | 1, _ => rfl | 2, _ => rfl | 3, _ => rfl | 4, _ => rfl | j + 5, hj => absurd hj (by omega)) ?_
  refine mm_hp (fun h3 e3 => ?_)
  have ha_v3 : h3 x = some (.inr (0, [.ref (x + 1), .null, .null, .int 0, .int 0, .int 0])) := by rw [e3, va_up_ne _ _ (by omega)]; exact ha_v2
  have f1_v3 : h3 (x + 1) = some (.inl (3, 12, .inr (.inr (.inr (.inr (fun _ => none)))))) := by rw [e3, va_up_ne _ _ (by omega)]; exact f1_v2
  have f2_v3 : h3 (x + 2) = some (.inr (1, [.null, .null, .int 0, .int 0, .int 0])) := by rw [e3]; exact va_up_self _ _ _
  refine mm_dup d_SP_init_17 rfl ?_
  refine mm_callD (kc := 1) (ks := 4) (kc' := 2) (ks' := 32) d_SP_init_18 (mm_Inv.sp (as := []) d_SP_init_18 (Or.inr ⟨_, m_31⟩) m_32 ce_Lines_init.2.1 rfl ce_Lines_init.2.2.2.2.2 rfl ln_Lines_init rfl) (J_Lines_init f2_v3) (by decide) ce_Lines_init.1 ce_Lines_init.2.1 ce_Lines_init.2.2.1 ce_Lines_init.2.2.2.1 (Nat.le_of_ble_eq_true rfl) ?_
  refine mm_hp (fun h4 e4 => ?_)
  have ha_v4 : h4 x = some (.inr (0, [.ref (x + 1), .null, .null, .int 0, .int 0, .int 0])) := by rw [e4, va_up_ne _ _ (by omega), va_up_ne _ _ (by omega), va_up_ne _ _ (by omega)]; exact ha_v3
  have f1_v4 : h4 (x + 1) = some (.inl (3, 12, .inr (.inr (.inr (.inr (fun _ => none)))))) := by rw [e4, va_up_ne _ _ (by omega), va_up_ne _ _ (by omega), va_up_ne _ _ (by omega)]; exact f1_v3
  have f2_v4 : h4 (x + 2) = some (.inr (1, [.ref (x + 3), .ref (x + 4), .int 0, .int 0, .int 0])) := by rw [e4]; exact va_up_self _ _ _
  have f8_v4 : h4 (x + 3) = some (.inl (0, 16, .inl (fun _ => 0))) := by rw [e4, va_up_ne _ _ (by omega), va_up_ne _ _ (by omega)]; exact va_up_self _ _ _
  have f9_v4 : h4 (x + 4) = some (.inl (0, 16, .inl (fun _ => 0))) := by rw [e4, va_up_ne _ _ (by omega)]; exact va_up_self _ _ _
  refine mm_putfF (k := 1) d_SP_init_21 cl_SP ty_SP m_54 (by decide) rfl rfl rfl rfl rfl ha_v4 (Nat.le_of_ble_eq_true rfl) ?_
  refine mm_hp (fun h5 e5 => ?_)
  have ha_v5 : h5 x = some (.inr (0, [.ref (x + 1), .ref (x + 2), .null, .int 0, .int 0, .int 0])) := by rw [e5]; exact va_up_self _ _ _
  have f1_v5 : h5 (x + 1) = some (.inl (3, 12, .inr (.inr (.inr (.inr (fun _ => none)))))) := by rw [e5, va_up_ne _ _ (by omega)]; exact f1_v4
  have f2_v5 : h5 (x + 2) = some (.inr (1, [.ref (x + 3), .ref (x + 4), .int 0, .int 0, .int 0])) := by rw [e5, va_up_ne _ _ (by omega)]; exact f2_v4
  have f8_v5 : h5 (x + 3) = some (.inl (0, 16, .inl (fun _ => 0))) := by rw [e5, va_up_ne _ _ (by omega)]; exact f8_v4
  have f9_v5 : h5 (x + 4) = some (.inl (0, 16, .inl (fun _ => 0))) := by rw [e5, va_up_ne _ _ (by omega)]; exact f9_v4
  refine mm_aload_n d_SP_init_24 rfl ?_
  refine mm_iconst (v := 4) d_SP_init_25 (by decide) ?_
  refine mm_newa (t := 0) (N := 4) (a0 := (4, .inl (fun _ => 0))) (kc := 0) (ks := 0) d_SP_init_26 (by decide) rfl m_52 (fun _ => rfl) (by decide) rfl (by decide) ?_
  refine mm_hp (fun h6 e6 => ?_)
  have ha_v6 : h6 x = some (.inr (0, [.ref (x + 1), .ref (x + 2), .null, .int 0, .int 0, .int 0])) := by rw [e6, va_up_ne _ _ (by omega)]; exact ha_v5
  have f1_v6 : h6 (x + 1) = some (.inl (3, 12, .inr (.inr (.inr (.inr (fun _ => none)))))) := by rw [e6, va_up_ne _ _ (by omega)]; exact f1_v5
  have f2_v6 : h6 (x + 2) = some (.inr (1, [.ref (x + 3), .ref (x + 4), .int 0, .int 0, .int 0])) := by rw [e6, va_up_ne _ _ (by omega)]; exact f2_v5
  have f8_v6 : h6 (x + 3) = some (.inl (0, 16, .inl (fun _ => 0))) := by rw [e6, va_up_ne _ _ (by omega)]; exact f8_v5
  have f9_v6 : h6 (x + 4) = some (.inl (0, 16, .inl (fun _ => 0))) := by rw [e6, va_up_ne _ _ (by omega)]; exact f9_v5
  have f5_v6 : h6 (x + 5) = some (.inl (0, 4, .inl (fun _ => 0))) := by rw [e6]; exact va_up_self _ _ _
  refine mm_putfF (k := 2) d_SP_init_28 cl_SP ty_SP m_55 (by decide) rfl rfl rfl rfl rfl ha_v6 (Nat.le_of_ble_eq_true rfl) ?_
  refine mm_hp (fun h7 e7 => ?_)
  have ha_v7 : h7 x = some (.inr (0, [.ref (x + 1), .ref (x + 2), .ref (x + 5), .int 0, .int 0, .int 0])) := by rw [e7]; exact va_up_self _ _ _
  have f1_v7 : h7 (x + 1) = some (.inl (3, 12, .inr (.inr (.inr (.inr (fun _ => none)))))) := by rw [e7, va_up_ne _ _ (by omega)]; exact f1_v6
  have f2_v7 : h7 (x + 2) = some (.inr (1, [.ref (x + 3), .ref (x + 4), .int 0, .int 0, .int 0])) := by rw [e7, va_up_ne _ _ (by omega)]; exact f2_v6
  have f8_v7 : h7 (x + 3) = some (.inl (0, 16, .inl (fun _ => 0))) := by rw [e7, va_up_ne _ _ (by omega)]; exact f8_v6
  have f9_v7 : h7 (x + 4) = some (.inl (0, 16, .inl (fun _ => 0))) := by rw [e7, va_up_ne _ _ (by omega)]; exact f9_v6
  have f5_v7 : h7 (x + 5) = some (.inl (0, 4, .inl (fun _ => 0))) := by rw [e7, va_up_ne _ _ (by omega)]; exact f5_v6
  refine mm_aload_n d_SP_init_31 rfl ?_
  refine mm_iconst (v := 0) d_SP_init_32 (by decide) ?_
  refine mm_putf d_SP_init_33 cl_SP ty_SP fl_SP_26_SP (by decide) rfl rfl rfl ha_v7 (Nat.le_of_ble_eq_true rfl) ?_
  refine mm_hp (fun h8 e8 => ?_)
  have ha_v8 : h8 x = some (.inr (0, [.ref (x + 1), .ref (x + 2), .ref (x + 5), .int 0, .int 0, .int 0])) := by rw [e8]; exact va_up_self _ _ _
  have f1_v8 : h8 (x + 1) = some (.inl (3, 12, .inr (.inr (.inr (.inr (fun _ => none)))))) := by rw [e8, va_up_ne _ _ (by omega)]; exact f1_v7
  have f2_v8 : h8 (x + 2) = some (.inr (1, [.ref (x + 3), .ref (x + 4), .int 0, .int 0, .int 0])) := by rw [e8, va_up_ne _ _ (by omega)]; exact f2_v7
  have f8_v8 : h8 (x + 3) = some (.inl (0, 16, .inl (fun _ => 0))) := by rw [e8, va_up_ne _ _ (by omega)]; exact f8_v7
  have f9_v8 : h8 (x + 4) = some (.inl (0, 16, .inl (fun _ => 0))) := by rw [e8, va_up_ne _ _ (by omega)]; exact f9_v7
  have f5_v8 : h8 (x + 5) = some (.inl (0, 4, .inl (fun _ => 0))) := by rw [e8, va_up_ne _ _ (by omega)]; exact f5_v7
  refine mm_aload_n d_SP_init_36 rfl ?_
  refine mm_iconst (v := 0) d_SP_init_37 (by decide) ?_
  refine mm_putf d_SP_init_38 cl_SP ty_SP fl_SP_30_SP (by decide) rfl rfl rfl ha_v8 (Nat.le_of_ble_eq_true rfl) ?_
  refine mm_hp (fun h9 e9 => ?_)
  have ha_v9 : h9 x = some (.inr (0, [.ref (x + 1), .ref (x + 2), .ref (x + 5), .int 0, .int 0, .int 0])) := by rw [e9]; exact va_up_self _ _ _
  have f1_v9 : h9 (x + 1) = some (.inl (3, 12, .inr (.inr (.inr (.inr (fun _ => none)))))) := by rw [e9, va_up_ne _ _ (by omega)]; exact f1_v8
  have f2_v9 : h9 (x + 2) = some (.inr (1, [.ref (x + 3), .ref (x + 4), .int 0, .int 0, .int 0])) := by rw [e9, va_up_ne _ _ (by omega)]; exact f2_v8
  have f8_v9 : h9 (x + 3) = some (.inl (0, 16, .inl (fun _ => 0))) := by rw [e9, va_up_ne _ _ (by omega)]; exact f8_v8
  have f9_v9 : h9 (x + 4) = some (.inl (0, 16, .inl (fun _ => 0))) := by rw [e9, va_up_ne _ _ (by omega)]; exact f9_v8
  have f5_v9 : h9 (x + 5) = some (.inl (0, 4, .inl (fun _ => 0))) := by rw [e9, va_up_ne _ _ (by omega)]; exact f5_v8
  refine mm_aload_n d_SP_init_41 rfl ?_
  refine mm_iconst (v := 0) d_SP_init_42 (by decide) ?_
  refine mm_putf d_SP_init_43 cl_SP ty_SP fl_SP_33_SP (by decide) rfl rfl rfl ha_v9 (Nat.le_of_ble_eq_true rfl) ?_
  refine mm_hp (fun h10 e10 => ?_)
  have ha_v10 : h10 x = some (.inr (0, [.ref (x + 1), .ref (x + 2), .ref (x + 5), .int 0, .int 0, .int 0])) := by rw [e10]; exact va_up_self _ _ _
  have f1_v10 : h10 (x + 1) = some (.inl (3, 12, .inr (.inr (.inr (.inr (fun _ => none)))))) := by rw [e10, va_up_ne _ _ (by omega)]; exact f1_v9
  have f2_v10 : h10 (x + 2) = some (.inr (1, [.ref (x + 3), .ref (x + 4), .int 0, .int 0, .int 0])) := by rw [e10, va_up_ne _ _ (by omega)]; exact f2_v9
  have f8_v10 : h10 (x + 3) = some (.inl (0, 16, .inl (fun _ => 0))) := by rw [e10, va_up_ne _ _ (by omega)]; exact f8_v9
  have f9_v10 : h10 (x + 4) = some (.inl (0, 16, .inl (fun _ => 0))) := by rw [e10, va_up_ne _ _ (by omega)]; exact f9_v9
  have f5_v10 : h10 (x + 5) = some (.inl (0, 4, .inl (fun _ => 0))) := by rw [e10, va_up_ne _ _ (by omega)]; exact f5_v9
  exact mm_return d_SP_init_46 rfl ⟨rfl, rfl, ⟨ha_v10, (by rw [f1_v10]; rw [show c_refs c_0.1 pa = fun _ => none from funext fun i => if_neg (Nat.not_lt_zero _)]), f2_v10, f8_v10, f9_v10, f5_v10, (by decide), (fun i hi => absurd hi (Nat.not_lt_zero _)), (fun i j hi hj => absurd hj (Nat.not_lt_zero _))⟩, by intro i hi; subst e1 e2 e3 e4 e5 e6 e7 e8 e9 e10; simp only [va_up]; (repeat' split) <;> first | rfl | omega⟩
