/-- a part: its kind, its seat (from, length, line, waits), its numbers, its two arrays -/
abbrev pS : Type := Nat × (Int32 × Int32 × Int32 × Int32) × (Nat → Int32) × (Nat → Int32) × (Nat → Int32)
def p_seat (p : pS) : mm_C := .inr (2, [.int p.2.1.1, .int p.2.1.2.1, .int p.2.1.2.2.1, .int p.2.1.2.2.2])
def p_obj (a : Nat) (p : pS) : mm_C := match p.1 with
  | 0 => .inr (3, [.ref (a + 2), .int 0, .ref a])
  | 1 => .inr (3, [.ref (a + 2), .int 1, .ref a])
  | 2 => .inr (4, [.int (p.2.2.1 0), .int (p.2.2.1 1), .int (p.2.2.1 2), .int (p.2.2.1 3), .ref a])
  | 3 => .inr (5, [.ref (a + 2), .int (p.2.2.1 0), .int (p.2.2.1 1), .ref (a + 3), .int (p.2.2.1 2), .int (p.2.2.1 3), .int (p.2.2.1 4), .int (p.2.2.1 5), .ref a])
  | 4 => .inr (6, [.ref (a + 2), .ref (a + 3), .int (p.2.2.1 0), .int (p.2.2.1 1), .int (p.2.2.1 2), .int (p.2.2.1 3), .int (p.2.2.1 4), .ref a])
  | _ => .inr (7, [.ref (a + 2), .ref a])
def p_len (p : pS) : Nat := match p.1 with
  | 0 => p.2.1.2.1.toNatClampNeg
  | 1 => p.2.1.2.1.toNatClampNeg
  | 3 => 32
  | 4 => 64
  | _ => 4
/-- how many cells a part has -/
def p_sz (k : Nat) : Nat := match k with
  | 2 => 2
  | 3 => 4
  | 4 => 4
  | _ => 3
/-- the part's cells lie in h from a on -/
def PH (h : mm_H) (a : Nat) (p : pS) : Prop :=
  h a = some (p_seat p) ∧ h (a + 1) = some (p_obj a p) ∧ (p.1 ≠ 2 → h (a + 2) = some (.inl (0, p_len p, .inl p.2.2.2.1))) ∧ (p.1 = 3 → h (a + 3) = some (.inl (0, 32, .inl p.2.2.2.2))) ∧ (p.1 = 4 → h (a + 3) = some (.inl (0, 8, .inl p.2.2.2.2))) ∧ p.1 < 6 ∧ p_len p < 2 ^ 31
/-- h with the part's cells as q has them -/
def p_put (h : mm_H) (a : Nat) (q : pS) : mm_H := fun i => if i = a + 1 then some (p_obj a q) else if i = a + 2 ∧ q.1 ≠ 2 then some (.inl (0, p_len q, .inl q.2.2.2.1)) else if i = a + 3 ∧ q.1 = 3 then some (.inl (0, 32, .inl q.2.2.2.2)) else if i = a + 3 ∧ q.1 = 4 then some (.inl (0, 8, .inl q.2.2.2.2)) else h i
/-- the same part with other numbers and arrays -/
def p_with (p : pS) (u A B : Nat → Int32) : pS := (p.1, p.2.1, u, A, B)
theorem PH_put {h : mm_H} {a : Nat} {p : pS} (hp : PH h a p) (u A B : Nat → Int32) : PH (p_put h a (p_with p u A B)) a (p_with p u A B) := by
  obtain ⟨h1, h2, h3, h4, h5, h6, h7⟩ := hp
  have e1 : (p_with p u A B).1 = p.1 := rfl
  refine ⟨?_, ?_, fun hk => ?_, fun hk => ?_, fun hk => ?_, h6, h7⟩
  · simp [p_put]; exact h1
  · simp [p_put]
  · have hk2 : (p_with p u A B).1 ≠ 2 := hk
    simp [p_put, hk2]
  · simp [p_put, hk]
  · simp [p_put, hk]
theorem p_put_ne {h : mm_H} {a i : Nat} {q : pS} (hi : i < a ∨ a + p_sz q.1 ≤ i) : p_put h a q i = h i := by
  obtain ⟨k, q⟩ := q
  have h1 : i ≠ a + 1 := by
    have : 2 ≤ p_sz k := by unfold p_sz; split <;> omega
    have := hi; simp only at this; omega
  unfold p_put
  rw [if_neg h1]
  by_cases h2 : i = a + 2 ∧ k ≠ 2
  · exfalso
    have : 3 ≤ p_sz k := by unfold p_sz; split <;> omega
    have := hi; simp only at this; omega
  · rw [if_neg h2]
    by_cases h3 : i = a + 3 ∧ k = 3
    · exfalso; obtain ⟨h3, rfl⟩ := h3; have := hi; simp [p_sz] at this; omega
    · rw [if_neg h3]
      by_cases h4 : i = a + 3 ∧ k = 4
      · exfalso; obtain ⟨h4, rfl⟩ := h4; have := hi; simp [p_sz] at this; omega
      · rw [if_neg h4]
theorem PH_far {h : mm_H} {a b : Nat} {p q : pS} (hp : PH h a p) (hd : a + p_sz p.1 ≤ b ∨ b + p_sz q.1 ≤ a) : PH (p_put h b q) a p := by
  obtain ⟨h1, h2, h3, h4, h5, h6, h7⟩ := hp
  have s2 : 2 ≤ p_sz p.1 := by unfold p_sz; split <;> omega
  refine ⟨?_, ?_, fun hk => ?_, fun hk => ?_, fun hk => ?_, h6, h7⟩
  · rw [p_put_ne (by omega)]; exact h1
  · rw [p_put_ne (by omega)]; exact h2
  · have s3 : 3 ≤ p_sz p.1 := by unfold p_sz; split <;> omega
    rw [p_put_ne (by omega)]; exact h3 hk
  · have s3 : p_sz p.1 = 4 := by rw [hk]; rfl
    rw [p_put_ne (by omega)]; exact h4 hk
  · have s3 : p_sz p.1 = 4 := by rw [hk]; rfl
    rw [p_put_ne (by omega)]; exact h5 hk
def p_go (p : pS) : pS × Int32 := match p.1 with
  | 2 => (p_with p (fun j => if j = 0 then (tm_go (p.2.2.1 0) (p.2.2.1 1) (p.2.2.1 2) (p.2.2.1 3)).1 else if j = 1 then p.2.2.1 1 else if j = 2 then (tm_go (p.2.2.1 0) (p.2.2.1 1) (p.2.2.1 2) (p.2.2.1 3)).2.1 else (tm_go (p.2.2.1 0) (p.2.2.1 1) (p.2.2.1 2) (p.2.2.1 3)).2.2.1) p.2.2.2.1 p.2.2.2.2, (tm_go (p.2.2.1 0) (p.2.2.1 1) (p.2.2.1 2) (p.2.2.1 3)).2.2.2)
  | 3 => (p_with p (fun j => if j = 2 then (if 0 < p.2.2.1 4 then (if p.2.2.1 4 - 1 = 0 then p.2.2.1 2 + 1 else p.2.2.1 2) else p.2.2.1 2) else if j = 4 then (if 0 < p.2.2.1 4 then p.2.2.1 4 - 1 else p.2.2.1 4) else p.2.2.1 j) p.2.2.2.1 (if 0 < p.2.2.1 4 then (if p.2.2.1 4 - 1 = 0 then upd p.2.2.2.2 (p.2.2.1 2 &&& 31).toNatClampNeg (p.2.2.1 3) else p.2.2.2.2) else p.2.2.2.2), 0)
  | 4 => (p_with p (fun j => if j = 1 then (if rw_end (p.2.2.1 1) (p.2.2.1 3) then 0 else p.2.2.1 1) else if j = 3 then (if p.2.2.1 1 = 0 then p.2.2.1 3 else p.2.2.1 3 - 1) else if j = 4 then (if rw_end (p.2.2.1 1) (p.2.2.1 3) then 1 else p.2.2.1 4) else p.2.2.1 j)
      (if rw_end (p.2.2.1 1) (p.2.2.1 3) then (if p.2.2.1 1 = 1 then p.2.2.2.1 else va_cpy p.2.2.2.2 p.2.2.2.1 0 (rw_q (p.2.2.1 2) * 8) 8) else p.2.2.2.1) (if rw_end (p.2.2.1 1) (p.2.2.1 3) then (if p.2.2.1 1 = 1 then va_cpy p.2.2.2.1 p.2.2.2.2 (rw_q (p.2.2.1 2) * 8) 0 8 else p.2.2.2.2) else p.2.2.2.2), 0)
  | 5 => (p_with p p.2.2.1 (ct_add p.2.2.2.1 4 0) p.2.2.2.2, 0)
  | _ => (p, 0)
def p_wants (p : pS) : Int32 := match p.1 with
  | 2 => tm_asks (p.2.2.1 2) (p.2.2.1 3)
  | 3 => sr_asks (p.2.2.1 1) (p.2.2.1 4) (p.2.2.1 5)
  | 4 => if p.2.2.1 4 = 1 then 1 else 0
  | _ => 0
def p_new (p : pS) : pS := match p.1 with
  | 2 => p_with p (fun _ => 0) p.2.2.2.1 p.2.2.2.2
  | 3 => p_with p (fun _ => 0) p.2.2.2.1 p.2.2.2.2
  | 4 => p_with p (fun _ => 0) p.2.2.2.1 (za p.2.2.2.2 8)
  | 5 => p_with p p.2.2.1 (za p.2.2.2.1 4) p.2.2.2.2
  | _ => p
def p_look (p : pS) (k : Int32) : pS × Int32 := match p.1 with
  | 2 => (p, tm_look (p.2.2.1 0) (p.2.2.1 1) (p.2.2.1 2) (p.2.2.1 3) k)
  | 3 => (p_with p (fun j => if j = 0 then (if k = 0 then (if p.2.2.1 1 ≤ 0 then p.2.2.1 0 else p.2.2.1 0 + 1 &&& 31) else p.2.2.1 0) else if j = 1 then (if k = 0 then (if p.2.2.1 1 ≤ 0 then p.2.2.1 1 else p.2.2.1 1 - 1) else p.2.2.1 1) else p.2.2.1 j) p.2.2.2.1 p.2.2.2.2, sr_look p.2.2.2.1 (p.2.2.1 0) (p.2.2.1 1) (p.2.2.1 4) (p.2.2.1 5) k)
  | 4 => (p, rw_look p.2.2.2.2 (p.2.2.1 0) (p.2.2.1 1) (p.2.2.1 4) k)
  | _ => (p, ar_look p.2.2.2.1 (p_len p) k)
def p_set (p : pS) (k v : Int32) : pS := match p.1 with
  | 2 => p_with p (fun j => if j = 0 then (if k = 0 then v else p.2.2.1 0) else if j = 1 then (if k = 1 then v else p.2.2.1 1) else if j = 2 then (if k = 2 then v &&& 15 else p.2.2.1 2) else (if k = 3 then 0 else p.2.2.1 3)) p.2.2.2.1 p.2.2.2.2
  | 3 => p_with p (fun j => if j = 3 then (if k = 0 then (if p.2.2.1 4 = 0 then v &&& 255 else p.2.2.1 3) else p.2.2.1 3) else if j = 4 then (if k = 0 then (if p.2.2.1 4 = 0 then 4 else p.2.2.1 4) else p.2.2.1 4) else if j = 5 then (if k = 2 then v &&& 3 else p.2.2.1 5) else p.2.2.1 j) p.2.2.2.1 p.2.2.2.2
  | 4 => p_with p (fun j => if j = 0 then (if k = 0 then v &&& 7 else p.2.2.1 0) else if j = 1 then (if k = 1 then (if rw_ok (p.2.2.1 1) v then v else p.2.2.1 1) else p.2.2.1 1) else if j = 2 then (if k = 1 then (if rw_ok (p.2.2.1 1) v then p.2.2.1 0 else p.2.2.1 2) else p.2.2.1 2) else if j = 3 then (if k = 1 then (if rw_ok (p.2.2.1 1) v then 10 else p.2.2.1 3) else p.2.2.1 3) else (if k = 2 then 0 else p.2.2.1 4)) p.2.2.2.1 (rw_putW p.2.2.2.2 (p.2.2.1 1) k v)
  | 5 => p_with p p.2.2.1 (ar_put p.2.2.2.1 4 k 0) p.2.2.2.2
  | _ => p_with p p.2.2.1 (ar_put p.2.2.2.1 (p_len p) k v) p.2.2.2.2
set_option maxRecDepth 100000 in
set_option maxHeartbeats 4000000 in
theorem vc_goOn {sc : mm_Sc} {n d kc ks a : Nat} {l : mm_L} {st : List Value} {h : mm_H} {Q : mm_O → Nat → mm_H → Prop} {p : pS}  (hp : PH h a p) (hd : 4 ≤ d) (hst : (st.map fun v => v.category).sum ≤ 8) (kk : mm_G sc y_SP_oneStep d 36 l (.int ((p_go p).2) :: st) n (p_put h a ((p_go p).1)) kc ks Q) : mm_G sc y_SP_oneStep d 33 l (.ref (a + 1) :: st) n h kc ks Q := by
  obtain ⟨k, ⟨f, le, li, w⟩, u, A, B⟩ := p
  obtain ⟨h1, h2, h3, h4, h5, h6, h7⟩ := hp
  simp only at h3 h4 h5 h6
  match k, h6 with
  | 0, _ =>
    have hA := h3 (by omega)
    have eq : p_put h a ((p_go ((0, (f, le, li, w), u, A, B) : pS)).1) = h := by
      funext j
      by_cases j1 : j = a + 1
      · subst j1; simp [p_put, va_up, p_obj, p_with, p_go, h2, p_obj]
      · by_cases j2 : j = a + 2
        · subst j2; simp [p_put, va_up, p_with, p_len, p_go, h2, p_obj, hA]
        · by_cases j3 : j = a + 3
          · subst j3; simp [p_put, va_up, p_with, p_go, h2, p_obj]
          · simp [p_put, va_up, p_with, j1, j2, j3, p_go, h2, p_obj]
    rw [eq] at kk
    exact mm_callD (kc' := 0) (ks' := 0) d_SP_oneStep_33 (mm_Inv.up (as := []) d_SP_oneStep_33 m_472 m_474 (Or.inr ⟨m_473, _, _, _, m_493⟩) (by decide +kernel) m_473 m_475 ln_Part_goOn cl_Cells h2 rfl) J_Part_goOn (Nat.lt_of_lt_of_le (by decide) hd) ce_Part_goOn.1 ce_Part_goOn.2.1 ce_Part_goOn.2.2.1 ce_Part_goOn.2.2.2.1 hst kk
  | 1, _ =>
    have hA := h3 (by omega)
    have eq : p_put h a ((p_go ((1, (f, le, li, w), u, A, B) : pS)).1) = h := by
      funext j
      by_cases j1 : j = a + 1
      · subst j1; simp [p_put, va_up, p_obj, p_with, p_go, h2, p_obj]
      · by_cases j2 : j = a + 2
        · subst j2; simp [p_put, va_up, p_with, p_len, p_go, h2, p_obj, hA]
        · by_cases j3 : j = a + 3
          · subst j3; simp [p_put, va_up, p_with, p_go, h2, p_obj]
          · simp [p_put, va_up, p_with, j1, j2, j3, p_go, h2, p_obj]
    rw [eq] at kk
    exact mm_callD (kc' := 0) (ks' := 0) d_SP_oneStep_33 (mm_Inv.up (as := []) d_SP_oneStep_33 m_472 m_474 (Or.inr ⟨m_473, _, _, _, m_493⟩) (by decide +kernel) m_473 m_475 ln_Part_goOn cl_Cells h2 rfl) J_Part_goOn (Nat.lt_of_lt_of_le (by decide) hd) ce_Part_goOn.1 ce_Part_goOn.2.1 ce_Part_goOn.2.2.1 ce_Part_goOn.2.2.2.1 hst kk
  | 2, _ =>
    have eq : p_put h a ((p_go ((2, (f, le, li, w), u, A, B) : pS)).1) = va_up h (a + 1) (some (.inr (4, [.int ((tm_go (u 0) (u 1) (u 2) (u 3)).1), .int (u 1), .int ((tm_go (u 0) (u 1) (u 2) (u 3)).2.1), .int ((tm_go (u 0) (u 1) (u 2) (u 3)).2.2.1), .ref a]))) := by
      funext j
      by_cases j1 : j = a + 1
      · subst j1; simp [p_put, va_up, p_obj, p_with, p_go]
      · by_cases j2 : j = a + 2
        · subst j2; simp [p_put, va_up, p_with, p_len, p_go]
        · by_cases j3 : j = a + 3
          · subst j3; simp [p_put, va_up, p_with, p_go]
          · simp [p_put, va_up, p_with, j1, j2, j3, p_go]
    rw [eq] at kk
    exact mm_callD (kc' := 0) (ks' := 0) d_SP_oneStep_33 (mm_Inv.up (as := []) d_SP_oneStep_33 m_472 m_474 (Or.inr ⟨m_473, _, _, _, m_493⟩) (by decide +kernel) m_491 m_490 ln_Timer_goOn cl_Timer h2 rfl) (J_Timer_goOn h2) (Nat.lt_of_lt_of_le (by decide) hd) ce_Timer_goOn.1 ce_Timer_goOn.2.1 ce_Timer_goOn.2.2.1 ce_Timer_goOn.2.2.2.1 hst kk
  | 3, _ =>
    have hA := h3 (by omega)
    have hB := h4 rfl
    have hbc : a + 2 ≠ a + 3 := by omega
    have eq : p_put h a ((p_go ((3, (f, le, li, w), u, A, B) : pS)).1) = va_up (va_up h (a + 3) (some (.inl (0, 32, .inl (if 0 < u 4 then (if u 4 - 1 = 0 then upd B (u 2 &&& 31).toNatClampNeg (u 3) else B) else B))))) (a + 1) (some (.inr (5, [.ref (a + 2), .int (u 0), .int (u 1), .ref (a + 3), .int (if 0 < u 4 then (if u 4 - 1 = 0 then u 2 + 1 else u 2) else u 2), .int (u 3), .int (if 0 < u 4 then u 4 - 1 else u 4), .int (u 5), .ref a]))) := by
      funext j
      by_cases j1 : j = a + 1
      · subst j1; simp [p_put, va_up, p_obj, p_with, p_go]
      · by_cases j2 : j = a + 2
        · subst j2; simp [p_put, va_up, p_with, p_len, p_go, hA]
        · by_cases j3 : j = a + 3
          · subst j3; simp [p_put, va_up, p_with, p_go, hB]
          · simp [p_put, va_up, p_with, j1, j2, j3, p_go]
    rw [eq] at kk
    exact mm_callD (kc' := 0) (ks' := 0) d_SP_oneStep_33 (mm_Inv.up (as := []) d_SP_oneStep_33 m_472 m_474 (Or.inr ⟨m_473, _, _, _, m_493⟩) (by decide +kernel) m_488 m_487 ln_Serial_goOn cl_Serial h2 rfl) (J_Serial_goOn hbc h2 hA hB) (Nat.lt_of_lt_of_le (by decide) hd) ce_Serial_goOn.1 ce_Serial_goOn.2.1 ce_Serial_goOn.2.2.1 ce_Serial_goOn.2.2.2.1 hst kk
  | 4, _ =>
    have hA := h3 (by omega)
    have hB := h5 rfl
    have hbc : a + 2 ≠ a + 3 := by omega
    have eq : p_put h a ((p_go ((4, (f, le, li, w), u, A, B) : pS)).1) = va_up (va_up (va_up h (a + 2) (some (.inl (0, 64, .inl (if rw_end (u 1) (u 3) then (if u 1 = 1 then A else va_cpy B A 0 (rw_q (u 2) * 8) 8) else A))))) (a + 3) (some (.inl (0, 8, .inl (if rw_end (u 1) (u 3) then (if u 1 = 1 then va_cpy A B (rw_q (u 2) * 8) 0 8 else B) else B))))) (a + 1) (some (.inr (6, [.ref (a + 2), .ref (a + 3), .int (u 0), .int (if rw_end (u 1) (u 3) then 0 else u 1), .int (u 2), .int (if u 1 = 0 then u 3 else u 3 - 1), .int (if rw_end (u 1) (u 3) then 1 else u 4), .ref a]))) := by
      funext j
      by_cases j1 : j = a + 1
      · subst j1; simp [p_put, va_up, p_obj, p_with, p_go]
      · by_cases j2 : j = a + 2
        · subst j2; simp [p_put, va_up, p_with, p_len, p_go, hA]
        · by_cases j3 : j = a + 3
          · subst j3; simp [p_put, va_up, p_with, p_go, hB]
          · simp [p_put, va_up, p_with, j1, j2, j3, p_go]
    rw [eq] at kk
    exact mm_callD (kc' := 0) (ks' := 0) d_SP_oneStep_33 (mm_Inv.up (as := []) d_SP_oneStep_33 m_472 m_474 (Or.inr ⟨m_473, _, _, _, m_493⟩) (by decide +kernel) m_481 m_480 ln_Rows_goOn cl_Rows h2 rfl) (J_Rows_goOn hbc h2 hA hB) (Nat.lt_of_lt_of_le (by decide) hd) ce_Rows_goOn.1 ce_Rows_goOn.2.1 ce_Rows_goOn.2.2.1 ce_Rows_goOn.2.2.2.1 hst kk
  | 5, _ =>
    have hA := h3 (by omega)
    have eq : p_put h a ((p_go ((5, (f, le, li, w), u, A, B) : pS)).1) = va_up h (a + 2) (some (.inl (0, 4, .inl (ct_add A 4 0)))) := by
      funext j
      by_cases j1 : j = a + 1
      · subst j1; simp [p_put, va_up, p_obj, p_with, p_go, h2, p_obj]
      · by_cases j2 : j = a + 2
        · subst j2; simp [p_put, va_up, p_with, p_len, p_go, h2, p_obj, hA]
        · by_cases j3 : j = a + 3
          · subst j3; simp [p_put, va_up, p_with, p_go, h2, p_obj]
          · simp [p_put, va_up, p_with, j1, j2, j3, p_go, h2, p_obj]
    rw [eq] at kk
    exact mm_callD (kc' := 0) (ks' := 0) d_SP_oneStep_33 (mm_Inv.up (as := []) d_SP_oneStep_33 m_472 m_474 (Or.inr ⟨m_473, _, _, _, m_493⟩) (by decide +kernel) m_477 m_476 ln_Counts_goOn cl_Counts h2 rfl) (J_Counts_goOn (len := 4) (by omega) h2 hA) (Nat.lt_of_lt_of_le (by decide) hd) ce_Counts_goOn.1 ce_Counts_goOn.2.1 ce_Counts_goOn.2.2.1 ce_Counts_goOn.2.2.2.1 hst kk
set_option maxRecDepth 100000 in
set_option maxHeartbeats 4000000 in
theorem vc_wants {sc : mm_Sc} {n d kc ks a : Nat} {l : mm_L} {st : List Value} {h : mm_H} {Q : mm_O → Nat → mm_H → Prop} {p : pS}  (hp : PH h a p) (hd : 4 ≤ d) (hst : (st.map fun v => v.category).sum ≤ 8) (kk : mm_G sc y_SP_askingLines d 28 l (.int (p_wants p) :: st) n h kc ks Q) : mm_G sc y_SP_askingLines d 25 l (.ref (a + 1) :: st) n h kc ks Q := by
  obtain ⟨k, ⟨f, le, li, w⟩, u, A, B⟩ := p
  obtain ⟨h1, h2, h3, h4, h5, h6, h7⟩ := hp
  simp only at h3 h4 h5 h6
  match k, h6 with
  | 0, _ =>
    have hA := h3 (by omega)
    exact mm_callD (kc' := 0) (ks' := 0) d_SP_askingLines_25 (mm_Inv.up (as := []) d_SP_askingLines_25 m_498 m_500 (Or.inr ⟨m_499, _, _, _, m_512⟩) (by decide +kernel) m_499 m_501 ln_Part_wantsAttention cl_Cells h2 rfl) J_Part_wantsAttention (Nat.lt_of_lt_of_le (by decide) hd) ce_Part_wantsAttention.1 ce_Part_wantsAttention.2.1 ce_Part_wantsAttention.2.2.1 ce_Part_wantsAttention.2.2.2.1 hst kk
  | 1, _ =>
    have hA := h3 (by omega)
    exact mm_callD (kc' := 0) (ks' := 0) d_SP_askingLines_25 (mm_Inv.up (as := []) d_SP_askingLines_25 m_498 m_500 (Or.inr ⟨m_499, _, _, _, m_512⟩) (by decide +kernel) m_499 m_501 ln_Part_wantsAttention cl_Cells h2 rfl) J_Part_wantsAttention (Nat.lt_of_lt_of_le (by decide) hd) ce_Part_wantsAttention.1 ce_Part_wantsAttention.2.1 ce_Part_wantsAttention.2.2.1 ce_Part_wantsAttention.2.2.2.1 hst kk
  | 2, _ =>
    exact mm_callD (kc' := 0) (ks' := 0) d_SP_askingLines_25 (mm_Inv.up (as := []) d_SP_askingLines_25 m_498 m_500 (Or.inr ⟨m_499, _, _, _, m_512⟩) (by decide +kernel) m_510 m_509 ln_Timer_wantsAttention cl_Timer h2 rfl) (J_Timer_wantsAttention h2) (Nat.lt_of_lt_of_le (by decide) hd) ce_Timer_wantsAttention.1 ce_Timer_wantsAttention.2.1 ce_Timer_wantsAttention.2.2.1 ce_Timer_wantsAttention.2.2.2.1 hst kk
  | 3, _ =>
    have hA := h3 (by omega)
    have hB := h4 rfl
    have hbc : a + 2 ≠ a + 3 := by omega
    exact mm_callD (kc' := 0) (ks' := 0) d_SP_askingLines_25 (mm_Inv.up (as := []) d_SP_askingLines_25 m_498 m_500 (Or.inr ⟨m_499, _, _, _, m_512⟩) (by decide +kernel) m_507 m_506 ln_Serial_wantsAttention cl_Serial h2 rfl) (J_Serial_wantsAttention hbc h2 hA hB) (Nat.lt_of_lt_of_le (by decide) hd) ce_Serial_wantsAttention.1 ce_Serial_wantsAttention.2.1 ce_Serial_wantsAttention.2.2.1 ce_Serial_wantsAttention.2.2.2.1 hst kk
  | 4, _ =>
    have hA := h3 (by omega)
    have hB := h5 rfl
    have hbc : a + 2 ≠ a + 3 := by omega
    exact mm_callD (kc' := 0) (ks' := 0) d_SP_askingLines_25 (mm_Inv.up (as := []) d_SP_askingLines_25 m_498 m_500 (Or.inr ⟨m_499, _, _, _, m_512⟩) (by decide +kernel) m_504 m_503 ln_Rows_wantsAttention cl_Rows h2 rfl) (J_Rows_wantsAttention hbc h2 hA hB) (Nat.lt_of_lt_of_le (by decide) hd) ce_Rows_wantsAttention.1 ce_Rows_wantsAttention.2.1 ce_Rows_wantsAttention.2.2.1 ce_Rows_wantsAttention.2.2.2.1 hst kk
  | 5, _ =>
    have hA := h3 (by omega)
    exact mm_callD (kc' := 0) (ks' := 0) d_SP_askingLines_25 (mm_Inv.up (as := []) d_SP_askingLines_25 m_498 m_500 (Or.inr ⟨m_499, _, _, _, m_512⟩) (by decide +kernel) m_499 m_502 ln_Part_wantsAttention cl_Counts h2 rfl) J_Part_wantsAttention (Nat.lt_of_lt_of_le (by decide) hd) ce_Part_wantsAttention.1 ce_Part_wantsAttention.2.1 ce_Part_wantsAttention.2.2.1 ce_Part_wantsAttention.2.2.2.1 hst kk
set_option maxRecDepth 100000 in
set_option maxHeartbeats 4000000 in
theorem vc_anew {sc : mm_Sc} {n d kc ks a : Nat} {l : mm_L} {st : List Value} {h : mm_H} {Q : mm_O → Nat → mm_H → Prop} {p : pS}  (hp : PH h a p) (hd : 4 ≤ d) (hst : (st.map fun v => v.category).sum ≤ 8) (kk : mm_G sc y_SP_resetAll d 55 l (st) n (p_put h a (p_new p)) kc ks Q) : mm_G sc y_SP_resetAll d 52 l (.ref (a + 1) :: st) n h kc ks Q := by
  obtain ⟨k, ⟨f, le, li, w⟩, u, A, B⟩ := p
  obtain ⟨h1, h2, h3, h4, h5, h6, h7⟩ := hp
  simp only at h3 h4 h5 h6
  match k, h6 with
  | 0, _ =>
    have hA := h3 (by omega)
    have eq : p_put h a (p_new ((0, (f, le, li, w), u, A, B) : pS)) = h := by
      funext j
      by_cases j1 : j = a + 1
      · subst j1; simp [p_put, va_up, p_obj, p_with, p_new, h2, p_obj]
      · by_cases j2 : j = a + 2
        · subst j2; simp [p_put, va_up, p_with, p_len, p_new, h2, p_obj, hA]
        · by_cases j3 : j = a + 3
          · subst j3; simp [p_put, va_up, p_with, p_new, h2, p_obj]
          · simp [p_put, va_up, p_with, j1, j2, j3, p_new, h2, p_obj]
    rw [eq] at kk
    exact mm_callD (kc' := 0) (ks' := 0) d_SP_resetAll_52 (mm_Inv.up (as := []) d_SP_resetAll_52 m_100 m_102 (Or.inr ⟨m_101, _, _, _, m_116⟩) (by decide +kernel) m_101 m_103 ln_Part_beginAnew cl_Cells h2 rfl) J_Part_beginAnew (Nat.lt_of_lt_of_le (by decide) hd) ce_Part_beginAnew.1 ce_Part_beginAnew.2.1 ce_Part_beginAnew.2.2.1 ce_Part_beginAnew.2.2.2.1 hst kk
  | 1, _ =>
    have hA := h3 (by omega)
    have eq : p_put h a (p_new ((1, (f, le, li, w), u, A, B) : pS)) = h := by
      funext j
      by_cases j1 : j = a + 1
      · subst j1; simp [p_put, va_up, p_obj, p_with, p_new, h2, p_obj]
      · by_cases j2 : j = a + 2
        · subst j2; simp [p_put, va_up, p_with, p_len, p_new, h2, p_obj, hA]
        · by_cases j3 : j = a + 3
          · subst j3; simp [p_put, va_up, p_with, p_new, h2, p_obj]
          · simp [p_put, va_up, p_with, j1, j2, j3, p_new, h2, p_obj]
    rw [eq] at kk
    exact mm_callD (kc' := 0) (ks' := 0) d_SP_resetAll_52 (mm_Inv.up (as := []) d_SP_resetAll_52 m_100 m_102 (Or.inr ⟨m_101, _, _, _, m_116⟩) (by decide +kernel) m_101 m_103 ln_Part_beginAnew cl_Cells h2 rfl) J_Part_beginAnew (Nat.lt_of_lt_of_le (by decide) hd) ce_Part_beginAnew.1 ce_Part_beginAnew.2.1 ce_Part_beginAnew.2.2.1 ce_Part_beginAnew.2.2.2.1 hst kk
  | 2, _ =>
    have eq : p_put h a (p_new ((2, (f, le, li, w), u, A, B) : pS)) = va_up h (a + 1) (some (.inr (4, [.int (0), .int (0), .int (0), .int (0), .ref a]))) := by
      funext j
      by_cases j1 : j = a + 1
      · subst j1; simp [p_put, va_up, p_obj, p_with, p_new]
      · by_cases j2 : j = a + 2
        · subst j2; simp [p_put, va_up, p_with, p_len, p_new]
        · by_cases j3 : j = a + 3
          · subst j3; simp [p_put, va_up, p_with, p_new]
          · simp [p_put, va_up, p_with, j1, j2, j3, p_new]
    rw [eq] at kk
    exact mm_callD (kc' := 0) (ks' := 0) d_SP_resetAll_52 (mm_Inv.up (as := []) d_SP_resetAll_52 m_100 m_102 (Or.inr ⟨m_101, _, _, _, m_116⟩) (by decide +kernel) m_114 m_113 ln_Timer_beginAnew cl_Timer h2 rfl) (J_Timer_beginAnew h2) (Nat.lt_of_lt_of_le (by decide) hd) ce_Timer_beginAnew.1 ce_Timer_beginAnew.2.1 ce_Timer_beginAnew.2.2.1 ce_Timer_beginAnew.2.2.2.1 hst kk
  | 3, _ =>
    have hA := h3 (by omega)
    have hB := h4 rfl
    have hbc : a + 2 ≠ a + 3 := by omega
    have eq : p_put h a (p_new ((3, (f, le, li, w), u, A, B) : pS)) = va_up h (a + 1) (some (.inr (5, [.ref (a + 2), .int 0, .int 0, .ref (a + 3), .int 0, .int 0, .int 0, .int 0, .ref a]))) := by
      funext j
      by_cases j1 : j = a + 1
      · subst j1; simp [p_put, va_up, p_obj, p_with, p_new]
      · by_cases j2 : j = a + 2
        · subst j2; simp [p_put, va_up, p_with, p_len, p_new, hA]
        · by_cases j3 : j = a + 3
          · subst j3; simp [p_put, va_up, p_with, p_new, hB]
          · simp [p_put, va_up, p_with, j1, j2, j3, p_new]
    rw [eq] at kk
    exact mm_callD (kc' := 0) (ks' := 0) d_SP_resetAll_52 (mm_Inv.up (as := []) d_SP_resetAll_52 m_100 m_102 (Or.inr ⟨m_101, _, _, _, m_116⟩) (by decide +kernel) m_111 m_110 ln_Serial_beginAnew cl_Serial h2 rfl) (J_Serial_beginAnew hbc h2 hA hB) (Nat.lt_of_lt_of_le (by decide) hd) ce_Serial_beginAnew.1 ce_Serial_beginAnew.2.1 ce_Serial_beginAnew.2.2.1 ce_Serial_beginAnew.2.2.2.1 hst kk
  | 4, _ =>
    have hA := h3 (by omega)
    have hB := h5 rfl
    have hbc : a + 2 ≠ a + 3 := by omega
    have eq : p_put h a (p_new ((4, (f, le, li, w), u, A, B) : pS)) = va_up (va_up h (a + 3) (some (.inl (0, 8, .inl (za B 8))))) (a + 1) (some (.inr (6, [.ref (a + 2), .ref (a + 3), .int 0, .int 0, .int 0, .int 0, .int 0, .ref a]))) := by
      funext j
      by_cases j1 : j = a + 1
      · subst j1; simp [p_put, va_up, p_obj, p_with, p_new]
      · by_cases j2 : j = a + 2
        · subst j2; simp [p_put, va_up, p_with, p_len, p_new, hA]
        · by_cases j3 : j = a + 3
          · subst j3; simp [p_put, va_up, p_with, p_new, hB]
          · simp [p_put, va_up, p_with, j1, j2, j3, p_new]
    rw [eq] at kk
    exact mm_callD (kc' := 0) (ks' := 0) d_SP_resetAll_52 (mm_Inv.up (as := []) d_SP_resetAll_52 m_100 m_102 (Or.inr ⟨m_101, _, _, _, m_116⟩) (by decide +kernel) m_108 m_107 ln_Rows_beginAnew cl_Rows h2 rfl) (J_Rows_beginAnew hbc h2 hA hB) (Nat.lt_of_lt_of_le (by decide) hd) ce_Rows_beginAnew.1 ce_Rows_beginAnew.2.1 ce_Rows_beginAnew.2.2.1 ce_Rows_beginAnew.2.2.2.1 hst kk
  | 5, _ =>
    have hA := h3 (by omega)
    have eq : p_put h a (p_new ((5, (f, le, li, w), u, A, B) : pS)) = va_up h (a + 2) (some (.inl (0, 4, .inl (za A 4)))) := by
      funext j
      by_cases j1 : j = a + 1
      · subst j1; simp [p_put, va_up, p_obj, p_with, p_new, h2, p_obj]
      · by_cases j2 : j = a + 2
        · subst j2; simp [p_put, va_up, p_with, p_len, p_new, h2, p_obj, hA]
        · by_cases j3 : j = a + 3
          · subst j3; simp [p_put, va_up, p_with, p_new, h2, p_obj]
          · simp [p_put, va_up, p_with, j1, j2, j3, p_new, h2, p_obj]
    rw [eq] at kk
    exact mm_callD (kc' := 0) (ks' := 0) d_SP_resetAll_52 (mm_Inv.up (as := []) d_SP_resetAll_52 m_100 m_102 (Or.inr ⟨m_101, _, _, _, m_116⟩) (by decide +kernel) m_105 m_104 ln_Counts_beginAnew cl_Counts h2 rfl) (J_Counts_beginAnew (len := 4) (by omega) h2 hA) (Nat.lt_of_lt_of_le (by decide) hd) ce_Counts_beginAnew.1 ce_Counts_beginAnew.2.1 ce_Counts_beginAnew.2.2.1 ce_Counts_beginAnew.2.2.2.1 hst kk
