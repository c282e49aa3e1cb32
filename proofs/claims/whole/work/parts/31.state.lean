set_option maxRecDepth 100000 in
set_option maxHeartbeats 4000000 in
theorem vc_look {sc : mm_Sc} {n d kc ks a : Nat} {l : mm_L} {st : List Value} {h : mm_H} {Q : mm_O → Nat → mm_H → Prop} {p : pS} {k0 : Int32} (hp : PH h a p) (hd : 4 ≤ d) (hst : (st.map fun v => v.category).sum ≤ 8) (kk : mm_G sc y_SP_read d 24 l (.int ((p_look p k0).2) :: st) n (p_put h a ((p_look p k0).1)) kc ks Q) : mm_G sc y_SP_read d 21 l (.int k0 :: .ref (a + 1) :: st) n h kc ks Q := by
  obtain ⟨k, ⟨f, le, li, w⟩, u, A, B⟩ := p
  obtain ⟨h1, h2, h3, h4, h5, h6, h7⟩ := hp
  simp only at h3 h4 h5 h6
  match k, h6 with
  | 0, _ =>
    have hA := h3 (by omega)
    have eq : p_put h a ((p_look ((0, (f, le, li, w), u, A, B) : pS) k0).1) = h := by
      funext j
      by_cases j1 : j = a + 1
      · subst j1; simp [p_put, va_up, p_obj, p_with, p_look, h2, p_obj]
      · by_cases j2 : j = a + 2
        · subst j2; simp [p_put, va_up, p_with, p_len, p_look, h2, p_obj, hA]
        · by_cases j3 : j = a + 3
          · subst j3; simp [p_put, va_up, p_with, p_look, h2, p_obj]
          · simp [p_put, va_up, p_with, j1, j2, j3, p_look, h2, p_obj]
    rw [eq] at kk
    exact mm_callD (kc' := 0) (ks' := 0) d_SP_read_21 (mm_Inv.up (as := [.int k0]) d_SP_read_21 m_517 m_519 (Or.inl m_518) (by decide +kernel) m_399 m_520 ln_Cells_look cl_Cells h2 rfl) (J_Cells_look (v := 0) h7 h2 hA) (Nat.lt_of_lt_of_le (by decide) hd) ce_Cells_look.1 ce_Cells_look.2.1 ce_Cells_look.2.2.1 ce_Cells_look.2.2.2.1 hst kk
  | 1, _ =>
    have hA := h3 (by omega)
    have eq : p_put h a ((p_look ((1, (f, le, li, w), u, A, B) : pS) k0).1) = h := by
      funext j
      by_cases j1 : j = a + 1
      · subst j1; simp [p_put, va_up, p_obj, p_with, p_look, h2, p_obj]
      · by_cases j2 : j = a + 2
        · subst j2; simp [p_put, va_up, p_with, p_len, p_look, h2, p_obj, hA]
        · by_cases j3 : j = a + 3
          · subst j3; simp [p_put, va_up, p_with, p_look, h2, p_obj]
          · simp [p_put, va_up, p_with, j1, j2, j3, p_look, h2, p_obj]
    rw [eq] at kk
    exact mm_callD (kc' := 0) (ks' := 0) d_SP_read_21 (mm_Inv.up (as := [.int k0]) d_SP_read_21 m_517 m_519 (Or.inl m_518) (by decide +kernel) m_399 m_520 ln_Cells_look cl_Cells h2 rfl) (J_Cells_look (v := 0) h7 h2 hA) (Nat.lt_of_lt_of_le (by decide) hd) ce_Cells_look.1 ce_Cells_look.2.1 ce_Cells_look.2.2.1 ce_Cells_look.2.2.2.1 hst kk
  | 2, _ =>
    have eq : p_put h a ((p_look ((2, (f, le, li, w), u, A, B) : pS) k0).1) = h := by
      funext j
      by_cases j1 : j = a + 1
      · subst j1; simp [p_put, va_up, p_obj, p_with, p_look, h2, p_obj]
      · by_cases j2 : j = a + 2
        · subst j2; simp [p_put, va_up, p_with, p_len, p_look, h2, p_obj]
        · by_cases j3 : j = a + 3
          · subst j3; simp [p_put, va_up, p_with, p_look, h2, p_obj]
          · simp [p_put, va_up, p_with, j1, j2, j3, p_look, h2, p_obj]
    rw [eq] at kk
    exact mm_callD (kc' := 0) (ks' := 0) d_SP_read_21 (mm_Inv.up (as := [.int k0]) d_SP_read_21 m_517 m_519 (Or.inl m_518) (by decide +kernel) m_539 m_538 ln_Timer_look cl_Timer h2 rfl) (J_Timer_look h2) (Nat.lt_of_lt_of_le (by decide) hd) ce_Timer_look.1 ce_Timer_look.2.1 ce_Timer_look.2.2.1 ce_Timer_look.2.2.2.1 hst kk
  | 3, _ =>
    have hA := h3 (by omega)
    have hB := h4 rfl
    have hbc : a + 2 ≠ a + 3 := by omega
    have eq : p_put h a ((p_look ((3, (f, le, li, w), u, A, B) : pS) k0).1) = va_up h (a + 1) (some (.inr (5, [.ref (a + 2), .int (if k0 = 0 then (if u 1 ≤ 0 then u 0 else u 0 + 1 &&& 31) else u 0), .int (if k0 = 0 then (if u 1 ≤ 0 then u 1 else u 1 - 1) else u 1), .ref (a + 3), .int (u 2), .int (u 3), .int (u 4), .int (u 5), .ref a]))) := by
      funext j
      by_cases j1 : j = a + 1
      · subst j1; simp [p_put, va_up, p_obj, p_with, p_look]
      · by_cases j2 : j = a + 2
        · subst j2; simp [p_put, va_up, p_with, p_len, p_look, hA]
        · by_cases j3 : j = a + 3
          · subst j3; simp [p_put, va_up, p_with, p_look, hB]
          · simp [p_put, va_up, p_with, j1, j2, j3, p_look]
    rw [eq] at kk
    exact mm_callD (kc' := 0) (ks' := 0) d_SP_read_21 (mm_Inv.up (as := [.int k0]) d_SP_read_21 m_517 m_519 (Or.inl m_518) (by decide +kernel) m_532 m_531 ln_Serial_look cl_Serial h2 rfl) (J_Serial_look hbc h2 hA hB) (Nat.lt_of_lt_of_le (by decide) hd) ce_Serial_look.1 ce_Serial_look.2.1 ce_Serial_look.2.2.1 ce_Serial_look.2.2.2.1 hst kk
  | 4, _ =>
    have hA := h3 (by omega)
    have hB := h5 rfl
    have hbc : a + 2 ≠ a + 3 := by omega
    have eq : p_put h a ((p_look ((4, (f, le, li, w), u, A, B) : pS) k0).1) = h := by
      funext j
      by_cases j1 : j = a + 1
      · subst j1; simp [p_put, va_up, p_obj, p_with, p_look, h2, p_obj]
      · by_cases j2 : j = a + 2
        · subst j2; simp [p_put, va_up, p_with, p_len, p_look, h2, p_obj, hA]
        · by_cases j3 : j = a + 3
          · subst j3; simp [p_put, va_up, p_with, p_look, h2, p_obj, hB]
          · simp [p_put, va_up, p_with, j1, j2, j3, p_look, h2, p_obj]
    rw [eq] at kk
    exact mm_callD (kc' := 0) (ks' := 0) d_SP_read_21 (mm_Inv.up (as := [.int k0]) d_SP_read_21 m_517 m_519 (Or.inl m_518) (by decide +kernel) m_525 m_524 ln_Rows_look cl_Rows h2 rfl) (J_Rows_look hbc h2 hA hB) (Nat.lt_of_lt_of_le (by decide) hd) ce_Rows_look.1 ce_Rows_look.2.1 ce_Rows_look.2.2.1 ce_Rows_look.2.2.2.1 hst kk
  | 5, _ =>
    have hA := h3 (by omega)
    have eq : p_put h a ((p_look ((5, (f, le, li, w), u, A, B) : pS) k0).1) = h := by
      funext j
      by_cases j1 : j = a + 1
      · subst j1; simp [p_put, va_up, p_obj, p_with, p_look, h2, p_obj]
      · by_cases j2 : j = a + 2
        · subst j2; simp [p_put, va_up, p_with, p_len, p_look, h2, p_obj, hA]
        · by_cases j3 : j = a + 3
          · subst j3; simp [p_put, va_up, p_with, p_look, h2, p_obj]
          · simp [p_put, va_up, p_with, j1, j2, j3, p_look, h2, p_obj]
    rw [eq] at kk
    exact mm_callD (kc' := 0) (ks' := 0) d_SP_read_21 (mm_Inv.up (as := [.int k0]) d_SP_read_21 m_517 m_519 (Or.inl m_518) (by decide +kernel) m_522 m_521 ln_Counts_look cl_Counts h2 rfl) (J_Counts_look (v := 0) (len := 4) (by omega) h2 hA) (Nat.lt_of_lt_of_le (by decide) hd) ce_Counts_look.1 ce_Counts_look.2.1 ce_Counts_look.2.2.1 ce_Counts_look.2.2.2.1 hst kk
set_option maxRecDepth 100000 in
set_option maxHeartbeats 4000000 in
theorem vc_put {sc : mm_Sc} {n d kc ks a : Nat} {l : mm_L} {st : List Value} {h : mm_H} {Q : mm_O → Nat → mm_H → Prop} {p : pS} {k0 v0 : Int32} (hp : PH h a p) (hd : 4 ≤ d) (hst : (st.map fun v => v.category).sum ≤ 8) (kk : mm_G sc y_SP_write d 47 l (st) n (p_put h a (p_set p k0 v0)) kc ks Q) : mm_G sc y_SP_write d 44 l (.int v0 :: .int k0 :: .ref (a + 1) :: st) n h kc ks Q := by
  obtain ⟨k, ⟨f, le, li, w⟩, u, A, B⟩ := p
  obtain ⟨h1, h2, h3, h4, h5, h6, h7⟩ := hp
  simp only at h3 h4 h5 h6
  match k, h6 with
  | 0, _ =>
    have hA := h3 (by omega)
    have eq : p_put h a (p_set ((0, (f, le, li, w), u, A, B) : pS) k0 v0) = va_up h (a + 2) (some (.inl (0, le.toNatClampNeg, .inl (ar_put A le.toNatClampNeg k0 v0)))) := by
      funext j
      by_cases j1 : j = a + 1
      · subst j1; simp [p_put, va_up, p_obj, p_with, p_set, h2, p_obj]
      · by_cases j2 : j = a + 2
        · subst j2; simp [p_put, va_up, p_with, p_len, p_set, h2, p_obj, hA]
        · by_cases j3 : j = a + 3
          · subst j3; simp [p_put, va_up, p_with, p_set, h2, p_obj]
          · simp [p_put, va_up, p_with, j1, j2, j3, p_set, h2, p_obj]
    rw [eq] at kk
    exact mm_callD (kc' := 0) (ks' := 0) d_SP_write_44 (mm_Inv.up (as := [.int k0, .int v0]) d_SP_write_44 m_560 m_562 (Or.inl m_561) (by decide +kernel) m_403 m_563 ln_Cells_put cl_Cells h2 rfl) (J_Cells_put h7 h2 hA) (Nat.lt_of_lt_of_le (by decide) hd) ce_Cells_put.1 ce_Cells_put.2.1 ce_Cells_put.2.2.1 ce_Cells_put.2.2.2.1 hst kk
  | 1, _ =>
    have hA := h3 (by omega)
    have eq : p_put h a (p_set ((1, (f, le, li, w), u, A, B) : pS) k0 v0) = va_up h (a + 2) (some (.inl (0, le.toNatClampNeg, .inl (ar_put A le.toNatClampNeg k0 v0)))) := by
      funext j
      by_cases j1 : j = a + 1
      · subst j1; simp [p_put, va_up, p_obj, p_with, p_set, h2, p_obj]
      · by_cases j2 : j = a + 2
        · subst j2; simp [p_put, va_up, p_with, p_len, p_set, h2, p_obj, hA]
        · by_cases j3 : j = a + 3
          · subst j3; simp [p_put, va_up, p_with, p_set, h2, p_obj]
          · simp [p_put, va_up, p_with, j1, j2, j3, p_set, h2, p_obj]
    rw [eq] at kk
    exact mm_callD (kc' := 0) (ks' := 0) d_SP_write_44 (mm_Inv.up (as := [.int k0, .int v0]) d_SP_write_44 m_560 m_562 (Or.inl m_561) (by decide +kernel) m_403 m_563 ln_Cells_put cl_Cells h2 rfl) (J_Cells_put h7 h2 hA) (Nat.lt_of_lt_of_le (by decide) hd) ce_Cells_put.1 ce_Cells_put.2.1 ce_Cells_put.2.2.1 ce_Cells_put.2.2.2.1 hst kk
  | 2, _ =>
    have eq : p_put h a (p_set ((2, (f, le, li, w), u, A, B) : pS) k0 v0) = va_up h (a + 1) (some (.inr (4, [.int (if k0 = 0 then v0 else u 0), .int (if k0 = 1 then v0 else u 1), .int (if k0 = 2 then v0 &&& 15 else u 2), .int (if k0 = 3 then 0 else u 3), .ref a]))) := by
      funext j
      by_cases j1 : j = a + 1
      · subst j1; simp [p_put, va_up, p_obj, p_with, p_set]
      · by_cases j2 : j = a + 2
        · subst j2; simp [p_put, va_up, p_with, p_len, p_set]
        · by_cases j3 : j = a + 3
          · subst j3; simp [p_put, va_up, p_with, p_set]
          · simp [p_put, va_up, p_with, j1, j2, j3, p_set]
    rw [eq] at kk
    exact mm_callD (kc' := 0) (ks' := 0) d_SP_write_44 (mm_Inv.up (as := [.int k0, .int v0]) d_SP_write_44 m_560 m_562 (Or.inl m_561) (by decide +kernel) m_578 m_577 ln_Timer_put cl_Timer h2 rfl) (J_Timer_put h2) (Nat.lt_of_lt_of_le (by decide) hd) ce_Timer_put.1 ce_Timer_put.2.1 ce_Timer_put.2.2.1 ce_Timer_put.2.2.2.1 hst kk
  | 3, _ =>
    have hA := h3 (by omega)
    have hB := h4 rfl
    have hbc : a + 2 ≠ a + 3 := by omega
    have eq : p_put h a (p_set ((3, (f, le, li, w), u, A, B) : pS) k0 v0) = va_up h (a + 1) (some (.inr (5, [.ref (a + 2), .int (u 0), .int (u 1), .ref (a + 3), .int (u 2), .int (if k0 = 0 then (if u 4 = 0 then v0 &&& 255 else u 3) else u 3), .int (if k0 = 0 then (if u 4 = 0 then 4 else u 4) else u 4), .int (if k0 = 2 then v0 &&& 3 else u 5), .ref a]))) := by
      funext j
      by_cases j1 : j = a + 1
      · subst j1; simp [p_put, va_up, p_obj, p_with, p_set]
      · by_cases j2 : j = a + 2
        · subst j2; simp [p_put, va_up, p_with, p_len, p_set, hA]
        · by_cases j3 : j = a + 3
          · subst j3; simp [p_put, va_up, p_with, p_set, hB]
          · simp [p_put, va_up, p_with, j1, j2, j3, p_set]
    rw [eq] at kk
    exact mm_callD (kc' := 0) (ks' := 0) d_SP_write_44 (mm_Inv.up (as := [.int k0, .int v0]) d_SP_write_44 m_560 m_562 (Or.inl m_561) (by decide +kernel) m_575 m_574 ln_Serial_put cl_Serial h2 rfl) (J_Serial_put hbc h2 hA hB) (Nat.lt_of_lt_of_le (by decide) hd) ce_Serial_put.1 ce_Serial_put.2.1 ce_Serial_put.2.2.1 ce_Serial_put.2.2.2.1 hst kk
  | 4, _ =>
    have hA := h3 (by omega)
    have hB := h5 rfl
    have hbc : a + 2 ≠ a + 3 := by omega
    have eq : p_put h a (p_set ((4, (f, le, li, w), u, A, B) : pS) k0 v0) = va_up (va_up h (a + 3) (some (.inl (0, 8, .inl (rw_putW B (u 1) k0 v0))))) (a + 1) (some (.inr (6, [.ref (a + 2), .ref (a + 3), .int (if k0 = 0 then v0 &&& 7 else u 0), .int (if k0 = 1 then (if rw_ok (u 1) v0 then v0 else u 1) else u 1), .int (if k0 = 1 then (if rw_ok (u 1) v0 then u 0 else u 2) else u 2), .int (if k0 = 1 then (if rw_ok (u 1) v0 then 10 else u 3) else u 3), .int (if k0 = 2 then 0 else u 4), .ref a]))) := by
      funext j
      by_cases j1 : j = a + 1
      · subst j1; simp [p_put, va_up, p_obj, p_with, p_set]
      · by_cases j2 : j = a + 2
        · subst j2; simp [p_put, va_up, p_with, p_len, p_set, hA]
        · by_cases j3 : j = a + 3
          · subst j3; simp [p_put, va_up, p_with, p_set, hB]
          · simp [p_put, va_up, p_with, j1, j2, j3, p_set]
    rw [eq] at kk
    exact mm_callD (kc' := 0) (ks' := 0) d_SP_write_44 (mm_Inv.up (as := [.int k0, .int v0]) d_SP_write_44 m_560 m_562 (Or.inl m_561) (by decide +kernel) m_568 m_567 ln_Rows_put cl_Rows h2 rfl) (J_Rows_put hbc h2 hA hB) (Nat.lt_of_lt_of_le (by decide) hd) ce_Rows_put.1 ce_Rows_put.2.1 ce_Rows_put.2.2.1 ce_Rows_put.2.2.2.1 hst kk
  | 5, _ =>
    have hA := h3 (by omega)
    have eq : p_put h a (p_set ((5, (f, le, li, w), u, A, B) : pS) k0 v0) = va_up h (a + 2) (some (.inl (0, 4, .inl (ar_put A 4 k0 0)))) := by
      funext j
      by_cases j1 : j = a + 1
      · subst j1; simp [p_put, va_up, p_obj, p_with, p_set, h2, p_obj]
      · by_cases j2 : j = a + 2
        · subst j2; simp [p_put, va_up, p_with, p_len, p_set, h2, p_obj, hA]
        · by_cases j3 : j = a + 3
          · subst j3; simp [p_put, va_up, p_with, p_set, h2, p_obj]
          · simp [p_put, va_up, p_with, j1, j2, j3, p_set, h2, p_obj]
    rw [eq] at kk
    exact mm_callD (kc' := 0) (ks' := 0) d_SP_write_44 (mm_Inv.up (as := [.int k0, .int v0]) d_SP_write_44 m_560 m_562 (Or.inl m_561) (by decide +kernel) m_565 m_564 ln_Counts_put cl_Counts h2 rfl) (J_Counts_put (len := 4) (by omega) h2 hA) (Nat.lt_of_lt_of_le (by decide) hd) ce_Counts_put.1 ce_Counts_put.2.1 ce_Counts_put.2.2.1 ce_Counts_put.2.2.2.1 hst kk
def p_ref (p : pS) : Int32 := if p.1 = 1 then 1 else 0
set_option maxRecDepth 100000 in
set_option maxHeartbeats 4000000 in
theorem vc_refuses {sc : mm_Sc} {n d kc ks a : Nat} {l : mm_L} {st : List Value} {h : mm_H} {Q : mm_O → Nat → mm_H → Prop} {p : pS}  (hp : PH h a p) (hd : 4 ≤ d) (hst : (st.map fun v => v.category).sum ≤ 8) (kk : mm_G sc y_SP_write d 10 l (.int (p_ref p) :: st) n h kc ks Q) : mm_G sc y_SP_write d 7 l (.ref (a + 1) :: st) n h kc ks Q := by
  obtain ⟨k, ⟨f, le, li, w⟩, u, A, B⟩ := p
  obtain ⟨h1, h2, h3, h4, h5, h6, h7⟩ := hp
  simp only at h3 h4 h5 h6
  match k, h6 with
  | 0, _ =>
    have hA := h3 (by omega)
    exact mm_callD (kc' := 0) (ks' := 0) d_SP_write_7 (mm_Inv.up (as := []) d_SP_write_7 m_548 m_550 (Or.inr ⟨m_549, _, _, _, m_558⟩) (by decide +kernel) m_552 m_551 ln_Cells_refusesWrites cl_Cells h2 rfl) (J_Cells_refusesWrites rfl h2) (Nat.lt_of_lt_of_le (by decide) hd) ce_Cells_refusesWrites.1 ce_Cells_refusesWrites.2.1 ce_Cells_refusesWrites.2.2.1 ce_Cells_refusesWrites.2.2.2.1 hst kk
  | 1, _ =>
    have hA := h3 (by omega)
    exact mm_callD (kc' := 0) (ks' := 0) d_SP_write_7 (mm_Inv.up (as := []) d_SP_write_7 m_548 m_550 (Or.inr ⟨m_549, _, _, _, m_558⟩) (by decide +kernel) m_552 m_551 ln_Cells_refusesWrites cl_Cells h2 rfl) (J_Cells_refusesWrites rfl h2) (Nat.lt_of_lt_of_le (by decide) hd) ce_Cells_refusesWrites.1 ce_Cells_refusesWrites.2.1 ce_Cells_refusesWrites.2.2.1 ce_Cells_refusesWrites.2.2.2.1 hst kk
  | 2, _ =>
    exact mm_callD (kc' := 0) (ks' := 0) d_SP_write_7 (mm_Inv.up (as := []) d_SP_write_7 m_548 m_550 (Or.inr ⟨m_549, _, _, _, m_558⟩) (by decide +kernel) m_549 m_557 ln_Part_refusesWrites cl_Timer h2 rfl) J_Part_refusesWrites (Nat.lt_of_lt_of_le (by decide) hd) ce_Part_refusesWrites.1 ce_Part_refusesWrites.2.1 ce_Part_refusesWrites.2.2.1 ce_Part_refusesWrites.2.2.2.1 hst kk
  | 3, _ =>
    have hA := h3 (by omega)
    have hB := h4 rfl
    have hbc : a + 2 ≠ a + 3 := by omega
    exact mm_callD (kc' := 0) (ks' := 0) d_SP_write_7 (mm_Inv.up (as := []) d_SP_write_7 m_548 m_550 (Or.inr ⟨m_549, _, _, _, m_558⟩) (by decide +kernel) m_549 m_556 ln_Part_refusesWrites cl_Serial h2 rfl) J_Part_refusesWrites (Nat.lt_of_lt_of_le (by decide) hd) ce_Part_refusesWrites.1 ce_Part_refusesWrites.2.1 ce_Part_refusesWrites.2.2.1 ce_Part_refusesWrites.2.2.2.1 hst kk
  | 4, _ =>
    have hA := h3 (by omega)
    have hB := h5 rfl
    have hbc : a + 2 ≠ a + 3 := by omega
    exact mm_callD (kc' := 0) (ks' := 0) d_SP_write_7 (mm_Inv.up (as := []) d_SP_write_7 m_548 m_550 (Or.inr ⟨m_549, _, _, _, m_558⟩) (by decide +kernel) m_549 m_555 ln_Part_refusesWrites cl_Rows h2 rfl) J_Part_refusesWrites (Nat.lt_of_lt_of_le (by decide) hd) ce_Part_refusesWrites.1 ce_Part_refusesWrites.2.1 ce_Part_refusesWrites.2.2.1 ce_Part_refusesWrites.2.2.2.1 hst kk
  | 5, _ =>
    have hA := h3 (by omega)
    exact mm_callD (kc' := 0) (ks' := 0) d_SP_write_7 (mm_Inv.up (as := []) d_SP_write_7 m_548 m_550 (Or.inr ⟨m_549, _, _, _, m_558⟩) (by decide +kernel) m_549 m_554 ln_Part_refusesWrites cl_Counts h2 rfl) J_Part_refusesWrites (Nat.lt_of_lt_of_le (by decide) hd) ce_Part_refusesWrites.1 ce_Part_refusesWrites.2.1 ce_Part_refusesWrites.2.2.1 ce_Part_refusesWrites.2.2.2.1 hst kk
set_option maxRecDepth 100000 in
theorem g_seat {sc : mm_Sc} {y : mm_M} {n d pc kc ks a : Nat} {l : mm_L} {st : List Value} {h : mm_H} {Q : mm_O → Nat → mm_H → Prop} {p : pS} (hy : y.1.cls = "SystemParts") (hd : decode y.2.1 pc = .ok (.getfield 99, 3)) (hp : PH h a p) (kk : mm_G sc y d (pc + 3) l (.ref a :: st) n h kc ks Q) : mm_G sc y d pc l (.ref (a + 1) :: st) n h kc ks Q := by
  obtain ⟨k, s4, u, A, B⟩ := p
  obtain ⟨h1, h2, h3, h4, h5, h6, h7⟩ := hp
  simp only at h6
  match k, h6 with
  | 0, _ => exact mm_getf hd cl_Cells (by rw [hy]; exact fl_SP_99_Cells) (by decide) h2 rfl kk
  | 1, _ => exact mm_getf hd cl_Cells (by rw [hy]; exact fl_SP_99_Cells) (by decide) h2 rfl kk
  | 2, _ => exact mm_getf hd cl_Timer (by rw [hy]; exact fl_SP_99_Timer) (by decide) h2 rfl kk
  | 3, _ => exact mm_getf hd cl_Serial (by rw [hy]; exact fl_SP_99_Serial) (by decide) h2 rfl kk
  | 4, _ => exact mm_getf hd cl_Rows (by rw [hy]; exact fl_SP_99_Rows) (by decide) h2 rfl kk
  | 5, _ => exact mm_getf hd cl_Counts (by rw [hy]; exact fl_SP_99_Counts) (by decide) h2 rfl kk
set_option maxRecDepth 100000 in
theorem g_isCounts {sc : mm_Sc} {y : mm_M} {n d pc kc ks a : Nat} {l : mm_L} {st : List Value} {h : mm_H} {Q : mm_O → Nat → mm_H → Prop} {p : pS} (hy : y.1.cls = "SystemParts") (hd : decode y.2.1 pc = .ok (.instanceof 196, 3)) (hp : PH h a p) (k1 : (p.1 = 5) → mm_G sc y d (pc + 3) l (.int 1 :: st) n h kc ks Q) (k0 : ¬ (p.1 = 5) → mm_G sc y d (pc + 3) l (.int 0 :: st) n h kc ks Q) : mm_G sc y d pc l (.ref (a + 1) :: st) n h kc ks Q := by
  obtain ⟨k, s4, u, A, B⟩ := p
  obtain ⟨h1, h2, h3, h4, h5, h6, h7⟩ := hp
  simp only at h6
  match k, h6 with
  | 0, _ => exact mm_instNo hd h2 cl_Cells (by rw [hy]; exact m_376) nc_Cells_Counts (k0 (by simp))
  | 1, _ => exact mm_instNo hd h2 cl_Cells (by rw [hy]; exact m_376) nc_Cells_Counts (k0 (by simp))
  | 2, _ => exact mm_instNo hd h2 cl_Timer (by rw [hy]; exact m_376) nc_Timer_Counts (k0 (by simp))
  | 3, _ => exact mm_instNo hd h2 cl_Serial (by rw [hy]; exact m_376) nc_Serial_Counts (k0 (by simp))
  | 4, _ => exact mm_instNo hd h2 cl_Rows (by rw [hy]; exact m_376) nc_Rows_Counts (k0 (by simp))
  | 5, _ => exact mm_instY hd h2 cl_Counts (by rw [hy]; exact m_376) (Or.inl rfl) (k1 (by simp))
set_option maxRecDepth 100000 in
theorem g_isSerial {sc : mm_Sc} {y : mm_M} {n d pc kc ks a : Nat} {l : mm_L} {st : List Value} {h : mm_H} {Q : mm_O → Nat → mm_H → Prop} {p : pS} (hy : y.1.cls = "SystemParts") (hd : decode y.2.1 pc = .ok (.instanceof 131, 3)) (hp : PH h a p) (k1 : (p.1 = 3) → mm_G sc y d (pc + 3) l (.int 1 :: st) n h kc ks Q) (k0 : ¬ (p.1 = 3) → mm_G sc y d (pc + 3) l (.int 0 :: st) n h kc ks Q) : mm_G sc y d pc l (.ref (a + 1) :: st) n h kc ks Q := by
  obtain ⟨k, s4, u, A, B⟩ := p
  obtain ⟨h1, h2, h3, h4, h5, h6, h7⟩ := hp
  simp only at h6
  match k, h6 with
  | 0, _ => exact mm_instNo hd h2 cl_Cells (by rw [hy]; exact m_130) nc_Cells_Serial (k0 (by simp))
  | 1, _ => exact mm_instNo hd h2 cl_Cells (by rw [hy]; exact m_130) nc_Cells_Serial (k0 (by simp))
  | 2, _ => exact mm_instNo hd h2 cl_Timer (by rw [hy]; exact m_130) nc_Timer_Serial (k0 (by simp))
  | 3, _ => exact mm_instY hd h2 cl_Serial (by rw [hy]; exact m_130) (Or.inl rfl) (k1 (by simp))
  | 4, _ => exact mm_instNo hd h2 cl_Rows (by rw [hy]; exact m_130) nc_Rows_Serial (k0 (by simp))
  | 5, _ => exact mm_instNo hd h2 cl_Counts (by rw [hy]; exact m_130) nc_Counts_Serial (k0 (by simp))
set_option maxRecDepth 100000 in
theorem g_isCells {sc : mm_Sc} {y : mm_M} {n d pc kc ks a : Nat} {l : mm_L} {st : List Value} {h : mm_H} {Q : mm_O → Nat → mm_H → Prop} {p : pS} (hy : y.1.cls = "SystemParts") (hd : decode y.2.1 pc = .ok (.instanceof 73, 3)) (hp : PH h a p) (k1 : (p.1 = 0 ∨ p.1 = 1) → mm_G sc y d (pc + 3) l (.int 1 :: st) n h kc ks Q) (k0 : ¬ (p.1 = 0 ∨ p.1 = 1) → mm_G sc y d (pc + 3) l (.int 0 :: st) n h kc ks Q) : mm_G sc y d pc l (.ref (a + 1) :: st) n h kc ks Q := by
  obtain ⟨k, s4, u, A, B⟩ := p
  obtain ⟨h1, h2, h3, h4, h5, h6, h7⟩ := hp
  simp only at h6
  match k, h6 with
  | 0, _ => exact mm_instY hd h2 cl_Cells (by rw [hy]; exact m_272) (Or.inl rfl) (k1 (by simp))
  | 1, _ => exact mm_instY hd h2 cl_Cells (by rw [hy]; exact m_272) (Or.inl rfl) (k1 (by simp))
  | 2, _ => exact mm_instNo hd h2 cl_Timer (by rw [hy]; exact m_272) nc_Timer_Cells (k0 (by simp))
  | 3, _ => exact mm_instNo hd h2 cl_Serial (by rw [hy]; exact m_272) nc_Serial_Cells (k0 (by simp))
  | 4, _ => exact mm_instNo hd h2 cl_Rows (by rw [hy]; exact m_272) nc_Rows_Cells (k0 (by simp))
  | 5, _ => exact mm_instNo hd h2 cl_Counts (by rw [hy]; exact m_272) nc_Counts_Cells (k0 (by simp))
/-- the class's state: how many parts, the parts, ways, ranks, tally, hidden, up, kept, time, cause -/
abbrev cS : Type := Nat × (Nat → pS) × (Nat → Int32) × (Nat → Int32) × (Nat → Int32) × Int32 × Int32 × Int32 × Int32 × Int32
def c_refs (N : Nat) (pa : Nat → Nat) : Nat → Option Nat := fun i => if i < N then some (pa i + 1) else none
/-- the object lies in h from x on, its parts at pa -/
def CH (h : mm_H) (x : Nat) (pa : Nat → Nat) (c : cS) : Prop :=
  h x = some (.inr (0, [.ref (x + 1), .ref (x + 2), .ref (x + 5), .int (nI c.1), .int c.2.2.2.2.2.2.2.2.1, .int c.2.2.2.2.2.2.2.2.2])) ∧
  h (x + 1) = some (.inl (3, 12, .inr (.inr (.inr (.inr (c_refs c.1 pa)))))) ∧
  h (x + 2) = some (.inr (1, [.ref (x + 3), .ref (x + 4), .int c.2.2.2.2.2.1, .int c.2.2.2.2.2.2.1, .int c.2.2.2.2.2.2.2.1])) ∧
  h (x + 3) = some (.inl (0, 16, .inl c.2.2.1)) ∧ h (x + 4) = some (.inl (0, 16, .inl c.2.2.2.1)) ∧ h (x + 5) = some (.inl (0, 4, .inl c.2.2.2.2.1)) ∧
  c.1 ≤ 12 ∧ (∀ i, i < c.1 → PH h (pa i) (c.2.1 i) ∧ x + 6 ≤ pa i) ∧ ∀ i j, i < j → j < c.1 → pa i + p_sz (c.2.1 i).1 ≤ pa j
/-- the places of the object -/
def CF (x : Nat) (pa : Nat → Nat) (c : cS) (i : Nat) : Prop := (x ≤ i ∧ i < x + 6) ∨ ∃ j, j < c.1 ∧ pa j ≤ i ∧ i < pa j + p_sz (c.2.1 j).1
def CFr (h h' : mm_H) (x : Nat) (pa : Nat → Nat) (c : cS) : Prop := ∀ i, ¬ CF x pa c i → h' i = h i
/-- the same parts in the same places -/
def CE (c c' : cS) : Prop := c'.1 = c.1 ∧ ∀ j, j < c.1 → (c'.2.1 j).1 = (c.2.1 j).1
theorem CE.rf (c : cS) : CE c c := ⟨rfl, fun _ _ => rfl⟩
theorem CE.tr {a b c : cS} (h1 : CE a b) (h2 : CE b c) : CE a c := ⟨h2.1.trans h1.1, fun j hj => (h2.2 j (by rw [h1.1]; exact hj)).trans (h1.2 j hj)⟩
theorem CFr.rf {h : mm_H} {x : Nat} {pa : Nat → Nat} {c : cS} : CFr h h x pa c := fun _ _ => rfl
theorem CFr.tr {h1 h2 h3 : mm_H} {x : Nat} {pa : Nat → Nat} {c c' : cS} (e : CE c c') (a : CFr h1 h2 x pa c) (b : CFr h2 h3 x pa c') : CFr h1 h3 x pa c := fun i hi => by
  rw [b i ?_]
  · exact a i hi
  · rintro (q | ⟨j, q1, q2, q3⟩)
    · exact hi (Or.inl q)
    · rw [e.1] at q1
      rw [e.2 j q1] at q3
      exact hi (Or.inr ⟨j, q1, q2, q3⟩)
theorem PH_up {h : mm_H} {a b : Nat} {p : pS} {o : Option mm_C} (hp : PH h a p) (hb : b < a) : PH (va_up h b o) a p := by
  obtain ⟨h1, h2, h3, h4, h5, h6, h7⟩ := hp
  refine ⟨?_, ?_, fun hk => ?_, fun hk => ?_, fun hk => ?_, h6, h7⟩
  · rw [va_up_ne _ _ (by omega)]; exact h1
  · rw [va_up_ne _ _ (by omega)]; exact h2
  · rw [va_up_ne _ _ (by omega)]; exact h3 hk
  · rw [va_up_ne _ _ (by omega)]; exact h4 hk
  · rw [va_up_ne _ _ (by omega)]; exact h5 hk
theorem CH_time {h : mm_H} {x N : Nat} {pa : Nat → Nat} {P : Nat → pS} {Wy Rk tl : Nat → Int32} {hi u kp ti ca : Int32} {ti2 : Int32} (H : CH h x pa (N, P, Wy, Rk, tl, hi, u, kp, ti, ca)) : CH (va_up h (x) (some (.inr (0, [.ref (x + 1), .ref (x + 2), .ref (x + 5), .int (nI N), .int ti2, .int ca])))) x pa (N, P, Wy, Rk, tl, hi, u, kp, ti2, ca) ∧ CFr h (va_up h (x) (some (.inr (0, [.ref (x + 1), .ref (x + 2), .ref (x + 5), .int (nI N), .int ti2, .int ca])))) x pa (N, P, Wy, Rk, tl, hi, u, kp, ti, ca) ∧ CE (N, P, Wy, Rk, tl, hi, u, kp, ti, ca) (N, P, Wy, Rk, tl, hi, u, kp, ti2, ca) := by
  obtain ⟨q0, q1, q2, q3, q4, q5, q6, q7, q8⟩ := H
  refine ⟨⟨?_, ?_, ?_, ?_, ?_, ?_, q6, fun i hi9 => ⟨PH_up (q7 i hi9).1 (by have := (q7 i hi9).2; omega), (q7 i hi9).2⟩, q8⟩, fun i hi9 => va_up_ne _ _ (fun e => hi9 (Or.inl (by omega))), rfl, fun _ _ => rfl⟩
  · exact va_up_self _ _ _
  · rw [va_up_ne _ _ (by omega)]; exact q1
  · rw [va_up_ne _ _ (by omega)]; exact q2
  · rw [va_up_ne _ _ (by omega)]; exact q3
  · rw [va_up_ne _ _ (by omega)]; exact q4
  · rw [va_up_ne _ _ (by omega)]; exact q5
theorem CH_cause {h : mm_H} {x N : Nat} {pa : Nat → Nat} {P : Nat → pS} {Wy Rk tl : Nat → Int32} {hi u kp ti ca : Int32} {ca2 : Int32} (H : CH h x pa (N, P, Wy, Rk, tl, hi, u, kp, ti, ca)) : CH (va_up h (x) (some (.inr (0, [.ref (x + 1), .ref (x + 2), .ref (x + 5), .int (nI N), .int ti, .int ca2])))) x pa (N, P, Wy, Rk, tl, hi, u, kp, ti, ca2) ∧ CFr h (va_up h (x) (some (.inr (0, [.ref (x + 1), .ref (x + 2), .ref (x + 5), .int (nI N), .int ti, .int ca2])))) x pa (N, P, Wy, Rk, tl, hi, u, kp, ti, ca) ∧ CE (N, P, Wy, Rk, tl, hi, u, kp, ti, ca) (N, P, Wy, Rk, tl, hi, u, kp, ti, ca2) := by
  obtain ⟨q0, q1, q2, q3, q4, q5, q6, q7, q8⟩ := H
  refine ⟨⟨?_, ?_, ?_, ?_, ?_, ?_, q6, fun i hi9 => ⟨PH_up (q7 i hi9).1 (by have := (q7 i hi9).2; omega), (q7 i hi9).2⟩, q8⟩, fun i hi9 => va_up_ne _ _ (fun e => hi9 (Or.inl (by omega))), rfl, fun _ _ => rfl⟩
  · exact va_up_self _ _ _
  · rw [va_up_ne _ _ (by omega)]; exact q1
  · rw [va_up_ne _ _ (by omega)]; exact q2
  · rw [va_up_ne _ _ (by omega)]; exact q3
  · rw [va_up_ne _ _ (by omega)]; exact q4
  · rw [va_up_ne _ _ (by omega)]; exact q5
theorem CH_tally {h : mm_H} {x N : Nat} {pa : Nat → Nat} {P : Nat → pS} {Wy Rk tl : Nat → Int32} {hi u kp ti ca : Int32} {tl2 : Nat → Int32} (H : CH h x pa (N, P, Wy, Rk, tl, hi, u, kp, ti, ca)) : CH (va_up h (x + 5) (some (.inl (0, 4, .inl tl2)))) x pa (N, P, Wy, Rk, tl2, hi, u, kp, ti, ca) ∧ CFr h (va_up h (x + 5) (some (.inl (0, 4, .inl tl2)))) x pa (N, P, Wy, Rk, tl, hi, u, kp, ti, ca) ∧ CE (N, P, Wy, Rk, tl, hi, u, kp, ti, ca) (N, P, Wy, Rk, tl2, hi, u, kp, ti, ca) := by
  obtain ⟨q0, q1, q2, q3, q4, q5, q6, q7, q8⟩ := H
  refine ⟨⟨?_, ?_, ?_, ?_, ?_, ?_, q6, fun i hi9 => ⟨PH_up (q7 i hi9).1 (by have := (q7 i hi9).2; omega), (q7 i hi9).2⟩, q8⟩, fun i hi9 => va_up_ne _ _ (fun e => hi9 (Or.inl (by omega))), rfl, fun _ _ => rfl⟩
  · rw [va_up_ne _ _ (by omega)]; exact q0
  · rw [va_up_ne _ _ (by omega)]; exact q1
  · rw [va_up_ne _ _ (by omega)]; exact q2
  · rw [va_up_ne _ _ (by omega)]; exact q3
  · rw [va_up_ne _ _ (by omega)]; exact q4
  · exact va_up_self _ _ _
theorem CH_ways {h : mm_H} {x N : Nat} {pa : Nat → Nat} {P : Nat → pS} {Wy Rk tl : Nat → Int32} {hi u kp ti ca : Int32} {Wy2 : Nat → Int32} (H : CH h x pa (N, P, Wy, Rk, tl, hi, u, kp, ti, ca)) : CH (va_up h (x + 3) (some (.inl (0, 16, .inl Wy2)))) x pa (N, P, Wy2, Rk, tl, hi, u, kp, ti, ca) ∧ CFr h (va_up h (x + 3) (some (.inl (0, 16, .inl Wy2)))) x pa (N, P, Wy, Rk, tl, hi, u, kp, ti, ca) ∧ CE (N, P, Wy, Rk, tl, hi, u, kp, ti, ca) (N, P, Wy2, Rk, tl, hi, u, kp, ti, ca) := by
  obtain ⟨q0, q1, q2, q3, q4, q5, q6, q7, q8⟩ := H
  refine ⟨⟨?_, ?_, ?_, ?_, ?_, ?_, q6, fun i hi9 => ⟨PH_up (q7 i hi9).1 (by have := (q7 i hi9).2; omega), (q7 i hi9).2⟩, q8⟩, fun i hi9 => va_up_ne _ _ (fun e => hi9 (Or.inl (by omega))), rfl, fun _ _ => rfl⟩
  · rw [va_up_ne _ _ (by omega)]; exact q0
  · rw [va_up_ne _ _ (by omega)]; exact q1
  · rw [va_up_ne _ _ (by omega)]; exact q2
  · exact va_up_self _ _ _
  · rw [va_up_ne _ _ (by omega)]; exact q4
  · rw [va_up_ne _ _ (by omega)]; exact q5
theorem CH_ranks {h : mm_H} {x N : Nat} {pa : Nat → Nat} {P : Nat → pS} {Wy Rk tl : Nat → Int32} {hi u kp ti ca : Int32} {Rk2 : Nat → Int32} (H : CH h x pa (N, P, Wy, Rk, tl, hi, u, kp, ti, ca)) : CH (va_up h (x + 4) (some (.inl (0, 16, .inl Rk2)))) x pa (N, P, Wy, Rk2, tl, hi, u, kp, ti, ca) ∧ CFr h (va_up h (x + 4) (some (.inl (0, 16, .inl Rk2)))) x pa (N, P, Wy, Rk, tl, hi, u, kp, ti, ca) ∧ CE (N, P, Wy, Rk, tl, hi, u, kp, ti, ca) (N, P, Wy, Rk2, tl, hi, u, kp, ti, ca) := by
  obtain ⟨q0, q1, q2, q3, q4, q5, q6, q7, q8⟩ := H
  refine ⟨⟨?_, ?_, ?_, ?_, ?_, ?_, q6, fun i hi9 => ⟨PH_up (q7 i hi9).1 (by have := (q7 i hi9).2; omega), (q7 i hi9).2⟩, q8⟩, fun i hi9 => va_up_ne _ _ (fun e => hi9 (Or.inl (by omega))), rfl, fun _ _ => rfl⟩
  · rw [va_up_ne _ _ (by omega)]; exact q0
  · rw [va_up_ne _ _ (by omega)]; exact q1
  · rw [va_up_ne _ _ (by omega)]; exact q2
  · rw [va_up_ne _ _ (by omega)]; exact q3
  · exact va_up_self _ _ _
  · rw [va_up_ne _ _ (by omega)]; exact q5
theorem CH_lines {h : mm_H} {x N : Nat} {pa : Nat → Nat} {P : Nat → pS} {Wy Rk tl : Nat → Int32} {hi u kp ti ca : Int32} {hi2 : Int32} {u2 : Int32} {kp2 : Int32} (H : CH h x pa (N, P, Wy, Rk, tl, hi, u, kp, ti, ca)) : CH (va_up h (x + 2) (some (.inr (1, [.ref (x + 3), .ref (x + 4), .int hi2, .int u2, .int kp2])))) x pa (N, P, Wy, Rk, tl, hi2, u2, kp2, ti, ca) ∧ CFr h (va_up h (x + 2) (some (.inr (1, [.ref (x + 3), .ref (x + 4), .int hi2, .int u2, .int kp2])))) x pa (N, P, Wy, Rk, tl, hi, u, kp, ti, ca) ∧ CE (N, P, Wy, Rk, tl, hi, u, kp, ti, ca) (N, P, Wy, Rk, tl, hi2, u2, kp2, ti, ca) := by
  obtain ⟨q0, q1, q2, q3, q4, q5, q6, q7, q8⟩ := H
  refine ⟨⟨?_, ?_, ?_, ?_, ?_, ?_, q6, fun i hi9 => ⟨PH_up (q7 i hi9).1 (by have := (q7 i hi9).2; omega), (q7 i hi9).2⟩, q8⟩, fun i hi9 => va_up_ne _ _ (fun e => hi9 (Or.inl (by omega))), rfl, fun _ _ => rfl⟩
  · rw [va_up_ne _ _ (by omega)]; exact q0
  · rw [va_up_ne _ _ (by omega)]; exact q1
  · exact va_up_self _ _ _
  · rw [va_up_ne _ _ (by omega)]; exact q3
  · rw [va_up_ne _ _ (by omega)]; exact q4
  · rw [va_up_ne _ _ (by omega)]; exact q5
/-- one part is another -/
def c_set (P : Nat → pS) (i : Nat) (q : pS) : Nat → pS := fun j => if j = i then q else P j
theorem p_sz_le (k : Nat) : 2 ≤ p_sz k ∧ p_sz k ≤ 4 := by unfold p_sz; split <;> omega
theorem CH_part {h : mm_H} {x N : Nat} {pa : Nat → Nat} {P : Nat → pS} {Wy Rk tl : Nat → Int32} {hi u kp ti ca : Int32} {i : Nat} {q : pS} (H : CH h x pa (N, P, Wy, Rk, tl, hi, u, kp, ti, ca)) (hi9 : i < N) (hq : ∃ u' A B, q = p_with (P i) u' A B) :
    CH (p_put h (pa i) q) x pa (N, c_set P i q, Wy, Rk, tl, hi, u, kp, ti, ca) ∧ CFr h (p_put h (pa i) q) x pa (N, P, Wy, Rk, tl, hi, u, kp, ti, ca) ∧ CE (N, P, Wy, Rk, tl, hi, u, kp, ti, ca) (N, c_set P i q, Wy, Rk, tl, hi, u, kp, ti, ca) := by
  obtain ⟨u', A, B, rfl⟩ := hq
  obtain ⟨q0, q1, q2, q3, q4, q5, q6, q7, q8⟩ := H
  have hk : ∀ j, (c_set P i (p_with (P i) u' A B) j).1 = (P j).1 := fun j => by
    unfold c_set
    split
    · rename_i e; subst e; rfl
    · rfl
  have hx := (q7 i hi9).2
  have far : ∀ b, b < x + 6 → p_put h (pa i) (p_with (P i) u' A B) b = h b := fun b hb => p_put_ne (Or.inl (by omega))
  refine ⟨⟨?_, ?_, ?_, ?_, ?_, ?_, q6, fun j hj => ⟨?_, (q7 j hj).2⟩, fun a b hab hb => ?_⟩, fun b hb => p_put_ne ?_, rfl, fun j _ => hk j⟩
  · rw [far _ (by omega)]; exact q0
  · rw [far _ (by omega)]; exact q1
  · rw [far _ (by omega)]; exact q2
  · rw [far _ (by omega)]; exact q3
  · rw [far _ (by omega)]; exact q4
  · rw [far _ (by omega)]; exact q5
  · show PH _ (pa j) (c_set P i (p_with (P i) u' A B) j)
    by_cases e : j = i
    · subst e
      simp only [c_set, if_true]
      exact PH_put (q7 j hj).1 u' A B
    · simp only [c_set, if_neg e]
      refine PH_far (q7 j hj).1 ?_
      rcases Nat.lt_or_gt_of_ne e with z | z
      · exact Or.inl (q8 j i z hi9)
      · exact Or.inr (q8 i j z hj)
  · show pa a + p_sz (c_set P i (p_with (P i) u' A B) a).1 ≤ pa b
    rw [hk a]
    exact q8 a b hab hb
  · rcases Nat.lt_or_ge b (pa i) with z | z
    · exact Or.inl z
    · refine Or.inr (Nat.not_lt.mp fun z2 => hb (Or.inr ⟨i, hi9, z, z2⟩))
theorem p_eta (p : pS) : ∃ u A B, p = p_with p u A B := ⟨p.2.2.1, p.2.2.2.1, p.2.2.2.2, rfl⟩
theorem p_go_w (p : pS) : ∃ u A B, (p_go p).1 = p_with p u A B := by
  unfold p_go
  split <;> first | exact ⟨_, _, _, rfl⟩ | exact p_eta p
theorem p_new_w (p : pS) : ∃ u A B, p_new p = p_with p u A B := by
  unfold p_new
  split <;> first | exact ⟨_, _, _, rfl⟩ | exact p_eta p
theorem p_look_w (p : pS) (k : Int32) : ∃ u A B, (p_look p k).1 = p_with p u A B := by
  unfold p_look
  split <;> first | exact ⟨_, _, _, rfl⟩ | exact p_eta p
theorem p_set_w (p : pS) (k v : Int32) : ∃ u A B, p_set p k v = p_with p u A B := by
  unfold p_set
  split <;> exact ⟨_, _, _, rfl⟩
/-- what a call of the object's own does: an answer, a new state, nothing elsewhere -/
def CQ (v : Option Value) (n : Nat) (h : mm_H) (x : Nat) (pa : Nat → Nat) (c c' : cS) : mm_O → Nat → mm_H → Prop := fun o n' h' => o = .inl v ∧ n' = n ∧ CH h' x pa c' ∧ CFr h h' x pa c ∧ CE c c'
