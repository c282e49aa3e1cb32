/-- the lines by which the class's parts ask are the reference's -/
theorem ask_bit {T N : Nat} {P : Nat → pS} {A : Nat → Nat → Int32} (hP : ∀ p, p < N → MP T (P p) A p) {l : Nat} (hl : l < 32) : ∀ i, tb (c_ask N P i) l = !decide (m_now A l (min i N) = 0)
  | 0 => by simp [c_ask, tb_0, m_now]
  | i + 1 => by
    have ih := ask_bit hP hl i
    unfold c_ask
    by_cases h1 : i < N
    · have m1 : min i N = i := by omega
      have m2 : min (i + 1) N = i + 1 := by omega
      rw [m1] at ih
      rw [if_pos h1, m2]
      have hp := hP i h1
      have ha := ask_eq hp
      obtain ⟨f, z, l', w, e, -, -, -, hl', -⟩ := hp.1.2.2.2.2.2.2
      have hline : (P i).2.1.2.2.1 = nI l' := by rw [e]
      have h3 : A 3 i = nI l' := hp.1.2.2.2.2.1.trans hline
      rw [ha]
      unfold m_now
      by_cases h2 : m_ask A i = 0
      · rw [if_pos h2, ih]
        by_cases h4 : m_now A l i = 0
        · simp [h4, h2]
        · simp [h4]
      · rw [if_neg h2, tb_or, ih, hline, tb_1shl (by omega) hl, h3]
        by_cases h4 : m_now A l i = 0
        · by_cases h5 : l = l'
          · subst h5; simp [h2]
          · have h6 : ¬ nI l' = nI l := fun z => h5 ((nI_eq (by omega) (by omega)).mp z).symm
            simp [h4, h5, h6]
        · simp [h4]
    · rw [if_neg h1, ih, show min (i + 1) N = min i N by omega]
theorem now_hi {T N : Nat} {P : Nat → pS} {A : Nat → Nat → Int32} (hP : ∀ p, p < N → MP T (P p) A p) {l : Nat} (hl : l < 32) (h16 : ¬ l < 16) : ∀ i, i ≤ N → m_now A l i = 0
  | 0, _ => rfl
  | i + 1, hi => by
    obtain ⟨f, z, l', w, e, -, -, -, hl', -⟩ := (hP i (by omega)).1.2.2.2.2.2.2
    have h3 : A 3 i = nI l' := (hP i (by omega)).1.2.2.2.2.1.trans (by rw [e])
    unfold m_now
    rw [now_hi hP hl h16 i (by omega), h3, if_pos rfl, if_neg (fun z => by have := (nI_eq (by omega) (by omega)).mp z; omega)]
theorem ask_all {T N : Nat} {P : Nat → pS} {A : Nat → Nat → Int32} (hP : ∀ p, p < N → MP T (P p) A p) (h12 : N ≤ 12) : c_ask N P 12 = m_bits (fun l => m_now A l N) 16 := by
  apply bits_of
  intro l hl
  rw [ask_bit hP hl 12, show min 12 N = N by omega]
  by_cases h16 : l < 16
  · simp [h16]
  · simp [h16, now_hi hP hl h16 N (Nat.le_refl _)]
theorem look_agr (A : Nat → Nat → Int32) (N p : Nat) : agr A (m_look A N) p := agr.tr (agr_hi (k := 17) (by decide) p) (agr_hi (A := ma A 17 (m_no A N 16)) (k := 16) (by decide) p)
theorem follow_MR {T : Nat} {c : cS} {I : Nat → Int32} {A : Nat → Nat → Int32} (R : MR T c I A) : MR T (c_follow c) I (m_look A c.1) := by
  obtain ⟨r1, r2, r3, r4, r5, r6, r7, r8⟩ := R
  exact ⟨r1, r2, r3, r4, r5, fun p hp => (r6 p hp).agr (look_agr A c.1 p), fun p h1 h2 => (r7 p h1 h2).agr (look_agr A c.1 p), look_ML r8 (ask_all r6 r2)⟩
/-- in the middle of a step: the parts before i have stepped, the COUNTS all -/
def MRi (T i : Nat) (c : cS) (I : Nat → Int32) (A : Nat → Nat → Int32) : Prop := I 2 = nI c.1 ∧ c.1 ≤ 12 ∧ I 1 = c.2.2.2.2.2.2.2.2.1 ∧ I 3 = c.2.2.2.2.2.2.2.2.2 ∧ (I 4 = c.2.2.2.2.1 1 ∧ I 5 = c.2.2.2.2.1 2 ∧ I 6 = c.2.2.2.2.1 3) ∧ (∀ p, p < c.1 → (p < i → MP (T + 1) (c.2.1 p) A p) ∧ (i ≤ p → (c.2.1 p).1 = 5 → MP (T + 1) (p_go (c.2.1 p)).1 A p) ∧ (i ≤ p → (c.2.1 p).1 ≠ 5 → MP T (c.2.1 p) A p)) ∧ (∀ p, c.1 ≤ p → p < 12 → MZ A p) ∧ ML c.2.2.1 c.2.2.2.1 c.2.2.2.2.2.1 c.2.2.2.2.2.2.1 c.2.2.2.2.2.2.2.1 A
theorem MRi.end_ {T : Nat} {c : cS} {I : Nat → Int32} {A : Nat → Nat → Int32} (R : MRi T c.1 c I A) : MR (T + 1) c I A := by
  obtain ⟨r1, r2, r3, r4, r5, r6, r7, r8⟩ := R
  exact ⟨r1, r2, r3, r4, r5, fun p hp => (r6 p hp).1 hp, r7, r8⟩
theorem go5 {q : pS} (h : q.1 = 5) : p_go q = (p_with q q.2.2.1 (ct_add q.2.2.2.1 4 0) q.2.2.2.2, 0) := by
  obtain ⟨k, s4, u, X, Y⟩ := q
  simp only at h
  subst h
  rfl
theorem go01 {q : pS} (h : q.1 < 2) : p_go q = (q, 0) := by
  obtain ⟨k, s4, u, X, Y⟩ := q
  simp only at h
  have : k = 0 ∨ k = 1 := by omega
  rcases this with rfl | rfl <;> rfl
theorem MRi.step {T i : Nat} {c : cS} {I : Nat → Int32} {A A' : Nat → Nat → Int32} (R : MRi T i c I A) (hi : i < c.1) (hm : MP (T + 1) (p_go (c.2.1 i)).1 A' i) (ha : ∀ j, j ≠ i → agr A A' j) (hl : ∀ k, 13 ≤ k → A' k = A k) : MRi T (i + 1) (c_setP c i (p_go (c.2.1 i)).1) I A' := by
  obtain ⟨r1, r2, r3, r4, r5, r6, r7, r8⟩ := R
  have e : ∀ p, p ≠ i → (c_setP c i (p_go (c.2.1 i)).1).2.1 p = c.2.1 p := fun p hp => if_neg hp
  have ei : (c_setP c i (p_go (c.2.1 i)).1).2.1 i = (p_go (c.2.1 i)).1 := if_pos rfl
  refine ⟨r1, r2, r3, r4, r5, fun p hp => ?_, fun p h1 h2 => (r7 p h1 h2).agr (ha p (by have : c.1 ≤ p := h1; omega)), ?_⟩
  · by_cases h1 : p = i
    · subst h1
      rw [ei]
      exact ⟨fun _ => hm, fun z => absurd z (by omega), fun z => absurd z (by omega)⟩
    · rw [e p h1]
      obtain ⟨a1, a2, a3⟩ := r6 p hp
      exact ⟨fun z => (a1 (by omega)).agr (ha p h1), fun z z2 => (a2 (by omega) z2).agr (ha p h1), fun z z2 => (a3 (by omega) z2).agr (ha p h1)⟩
  · unfold ML at r8 ⊢
    rw [hl 13 (by decide), hl 14 (by decide), hl 15 (by decide), hl 16 (by decide), hl 17 (by decide)]
    exact r8
theorem MRi.reset {T i : Nat} {c : cS} {I : Nat → Int32} {A A' : Nat → Nat → Int32} (R : MRi T i c I A) (hi : i < c.1) (hm : MP (T + 1) (p_go (c.2.1 i)).1 A' i) (ha : ∀ j, j ≠ i → agr A A' j) (hl : ∀ k, 13 ≤ k → A' k = A k) : MR (T + 1) (c_reset 2 (c_setP c i (p_go (c.2.1 i)).1)) (m_ri I 2) (m_reset A' c.1) := by
  obtain ⟨r1, r2, r3, r4, r5, r6, r7, r8⟩ := MRi.step R hi hm ha hl
  refine reset_MR (c := c_setP c i (p_go (c.2.1 i)).1) r1 r2 r3 (fun p hp => ?_) r7 r8
  obtain ⟨a1, a2, a3⟩ := r6 p hp
  by_cases h1 : p < i + 1
  · exact (a1 h1).weak
  · by_cases h5 : ((c_setP c i (p_go (c.2.1 i)).1).2.1 p).1 = 5
    · have hq := (a2 (by omega) h5).1
      rw [go5 h5] at hq
      exact ⟨hq, fun z => absurd z (by omega), fun z => absurd z (by omega)⟩
    · exact (a3 (by omega) h5).weak
theorem c_loop_end : ∀ (m i : Nat) (c : cS), c.1 ≤ i → c_loop m i c = (c_follow c, 0)
  | 0, _, _, _ => rfl
  | m + 1, i, c, h => by
    unfold c_loop
    rw [if_neg (by omega)]
    exact c_loop_end m (i + 1) c (by omega)
theorem c_loop_s {i : Nat} {c : cS} (h : i < c.1) (h12 : c.1 ≤ 12) : c_loop (12 - i) i c = if (p_go (c.2.1 i)).2 = 0 then c_loop (12 - (i + 1)) (i + 1) (c_setP c i (p_go (c.2.1 i)).1) else (c_reset 2 (c_setP c i (p_go (c.2.1 i)).1), 1) := by
  rw [show 12 - i = (12 - (i + 1)) + 1 by omega]
  conv => lhs; unfold c_loop
  rw [if_pos h]
theorem MRi.start {T : Nat} {c : cS} {I : Nat → Int32} {A : Nat → Nat → Int32} (R : MR T c I A) : MRi T 0 (c.1, c.2.1, c.2.2.1, c.2.2.2.1, c.2.2.2.2.1, c.2.2.2.2.2.1, c.2.2.2.2.2.2.1, c.2.2.2.2.2.2.2.1, c.2.2.2.2.2.2.2.2.1 + 1, c.2.2.2.2.2.2.2.2.2) (mi I 1 (I 1 + 1)) (ma A 5 (m_bump A 0 c.1)) := by
  obtain ⟨r1, r2, r3, r4, r5, r6, r7, r8⟩ := R
  refine ⟨r1, r2, by show I 1 + 1 = _; rw [r3], r4, r5, fun p hp => ⟨fun z => absurd z (Nat.not_lt_zero _), fun _ h5 => ?_, fun _ h5 => (r6 p hp).agr (bump_agr (Or.inl ?_))⟩, fun p h1 h2 => (r7 p h1 h2).agr (bump_agr (Or.inr h1)), r8⟩
  · rw [go5 h5]
    exact (bump_5 (r6 p hp) h5 hp (by decide)).mono (Nat.le_succ _)
  · rw [(r6 p hp).1.2.1]
    exact fun z => h5 ((nI_eq (a := (c.2.1 p).1) (b := 5) (by have := (r6 p hp).1.1; omega) (by decide)).mp z)
/-- what a call of the reference does, by a relation -/
def MY (R : mm_O → (Nat → Int32) → (Nat → Nat → Int32) → Prop) (n : Nat) (h0 : mm_H) (m : Nat) : mm_O → Nat → mm_H → Prop := fun o n' h' => n' = n ∧ MF h0 h' m ∧ ∃ I A, MH h' m I A ∧ R o I A
set_option maxRecDepth 100000 in
set_option maxHeartbeats 4000000 in
theorem lp_cb {sc : mm_Sc} {n d kc ks : Nat} {h0 : mm_H} {m : Nat} {I : Nat → Int32} {A : Nat → Nat → Int32} {Q : mm_O → Nat → mm_H → Prop} {N : Nat} (hN : I 2 = nI N) (h12 : N ≤ 12) (hq : ∀ h, MH h m I (ma A 5 (m_bump A 0 N)) → MF h0 h m → mm_G sc y_Model_stepOnce d 49 [some (.ref m), some (.int (nI N))] [] n h kc ks Q) : ∀ (q i : Nat) (h : mm_H), i + q = N → MH h m I (ma A 5 (m_bump A 0 i)) → MF h0 h m → mm_G sc y_Model_stepOnce d 12 [some (.ref m), some (.int (nI i))] [] n h kc ks Q := by
  intro q
  induction q with
  | zero =>
    intro i h hi9 H F
    obtain rfl : N = i := by omega
    refine mm_iload_n d_Model_stepOnce_12 rfl ?_
    refine mm_aload_n d_Model_stepOnce_13 rfl ?_
    refine mx_get (k := 2) (v := nI N) d_Model_stepOnce_14 cl_Model fl_Model_78_Model (by decide) H.1 (congrArg (fun z => some (Value.int z)) hN) ?_
    refine mx_icmp_ge (a := N) (b := N) (tgt := 49) d_Model_stepOnce_17 (by decide) (by omega) (by omega) (fun c_17 => ?_) (fun c_17 => absurd c_17 (by omega))
    exact hq _ H F
  | succ q ih =>
    intro i h hi9 H F
    refine mm_iload_n d_Model_stepOnce_12 rfl ?_
    refine mm_aload_n d_Model_stepOnce_13 rfl ?_
    refine mx_get (k := 2) (v := nI N) d_Model_stepOnce_14 cl_Model fl_Model_78_Model (by decide) H.1 (congrArg (fun z => some (Value.int z)) hN) ?_
    refine mx_icmp_ge (a := i) (b := N) (tgt := 49) d_Model_stepOnce_17 (by decide) (by omega) (by omega) (fun c_17 => absurd c_17 (by omega)) (fun c_17 => ?_)
    refine mm_aload_n d_Model_stepOnce_20 rfl ?_
    refine mm_getf (v := .ref (m + 1)) d_Model_stepOnce_21 cl_Model fl_Model_7_Model (by decide) H.1 rfl ?_
    refine mm_iload_n d_Model_stepOnce_24 rfl ?_
    refine mx_ald (E := i) (v := (A 0) i) d_Model_stepOnce_25 (mh_0 H) (by omega) (by decide) (show (A 0) i = (A 0) i from rfl) ?_
    refine mm_iconst (v := 5) d_Model_stepOnce_26 (by decide) ?_
    refine mm_icmp_ne (tgt := 43) d_Model_stepOnce_27 (by decide) (fun c_27 => ?_) (fun c_27 => ?_)
    · refine mx_inc (a := i) (b := i + 1) d_Model_stepOnce_43 rfl rfl (by decide) ?_
      refine mm_goto (tgt := 12) d_Model_stepOnce_46 (by decide) ?_
      refine ih (i + 1) h (by omega) (H.cast rfl (congrArg (ma A 5) (m_bump_n c_27))) F
    · refine mm_aload_n d_Model_stepOnce_30 rfl ?_
      refine mm_getf (v := .ref (m + 6)) d_Model_stepOnce_31 cl_Model fl_Model_25_Model (by decide) H.1 rfl ?_
      refine mm_bipush (v := 64) d_Model_stepOnce_34 (by decide) ?_
      refine mm_iload_n d_Model_stepOnce_36 rfl ?_
      refine mx_mul (a := 64) (b := i) d_Model_stepOnce_37 ?_
      refine mm_dup2 d_Model_stepOnce_38 rfl rfl ?_
      refine mx_ald (E := 64 * i) (v := (m_bump A 0 i) (64 * i)) d_Model_stepOnce_39 (mh_5 H) (by omega) (by decide) (show (m_bump A 0 i) (64 * i) = (m_bump A 0 i) (64 * i) from rfl) ?_
      refine mm_iconst (v := 1) d_Model_stepOnce_40 (by decide) ?_
      refine mm_iadd d_Model_stepOnce_41 ?_
      refine mx_ast (E := 64 * i) d_Model_stepOnce_42 (mh_5 H) (by omega) (by decide) ?_
      refine mh_a (j := 5) (f := (upd (m_bump A 0 i) (64 * i) (((m_bump A 0 i) (64 * i)) + 1))) (by decide) H F (fun h H F => ?_)
      refine mx_inc (a := i) (b := i + 1) d_Model_stepOnce_43 rfl rfl (by decide) ?_
      refine mm_goto (tgt := 12) d_Model_stepOnce_46 (by decide) ?_
      refine ih (i + 1) h (by omega) (H.cast rfl (by rw [ma_ma]; exact congrArg (ma A 5) (m_bump_1 (k := 0) (by decide) (by omega) c_27))) F
theorem m_send_lo (A : Nat → Nat → Int32) (p g : Nat) : ∀ k, k < 5 → m_send A p g k = A k := fun k hk => by
  unfold m_send
  split
  · rfl
  · split
    · rw [ma_ne _ _ (by omega), ma_ne _ _ (by omega), ma_ne _ _ (by omega)]
    · rw [ma_ne _ _ (by omega)]
theorem m_send_hi (A : Nat → Nat → Int32) (p g : Nat) : ∀ k, 13 ≤ k → m_send A p g k = A k := fun k hk => by
  unfold m_send
  split
  · rfl
  · split
    · rw [ma_ne _ _ (by omega), ma_ne _ _ (by omega), ma_ne _ _ (by omega)]
    · rw [ma_ne _ _ (by omega)]
theorem m_row_hi (A : Nat → Nat → Int32) (p v : Nat) : ∀ k, 13 ≤ k → m_row A p v k = A k := fun k hk => by
  unfold m_row
  split
  · rfl
  · split
    · split
      · rw [ma_ne _ _ (by omega), ma_ne _ _ (by omega)]
      · rw [ma_ne _ _ (by omega), ma_ne _ _ (by omega), ma_ne _ _ (by omega)]
    · rw [ma_ne _ _ (by omega)]
set_option maxRecDepth 100000 in
set_option maxHeartbeats 4000000 in
theorem lp_st {sc : mm_Sc} {n d kc ks T : Nat} {h0 : mm_H} {m : Nat} {Q : mm_O → Nat → mm_H → Prop} {I0 : Int32} (hd : 3 ≤ d) (hT : T < 2 ^ 29) : ∀ (q i : Nat) (c : cS) (I : Nat → Int32) (A : Nat → Nat → Int32) (h : mm_H), i + q = c.1 → MRi T i c I A → MH h m I A → MF h0 h m → I 0 = I0 → (∀ h' I' A', MH h' m I' A' → MF h0 h' m → MR (T + 1) (c_loop (12 - i) i c).1 I' A' → I' 0 = I0 → Q (.inl (some (.int (c_loop (12 - i) i c).2))) n h') → mm_G sc y_Model_stepOnce d 51 [some (.ref m), some (.int (nI i))] [] n h kc ks Q := by
  intro q
  induction q with
  | zero =>
    intro i c I A h hi9 R H F hI0 hq
    obtain rfl : i = c.1 := by omega
    have hN := R.1
    have h12 := R.2.1
    refine mm_iload_n d_Model_stepOnce_51 rfl ?_
    refine mm_aload_n d_Model_stepOnce_52 rfl ?_
    refine mx_get (k := 2) (v := nI c.1) d_Model_stepOnce_53 cl_Model fl_Model_78_Model (by decide) H.1 (congrArg (fun z => some (Value.int z)) hN) ?_
    refine mx_icmp_ge (a := c.1) (b := c.1) (tgt := 123) d_Model_stepOnce_56 (by decide) (by omega) (by omega) (fun c_56 => ?_) (fun c_56 => absurd c_56 (by omega))
    refine mm_aload_n d_Model_stepOnce_123 rfl ?_
    refine mx_call d_Model_stepOnce_124 (mm_Inv.vi (as := []) d_Model_stepOnce_124 (Or.inl m_799) m_801 ce_Model_lookAtLines.2.1 ce_Model_lookAtLines.2.2.1 mp_26 ce_Model_lookAtLines.2.2.2.2.2 ln_Model_lookAtLines cl_Model H.1 rfl) (J_Model_lookAtLines (N := c.1) H hN h12) (Nat.lt_of_lt_of_le (by decide) hd) ce_Model_lookAtLines.1 ce_Model_lookAtLines.2.1 ce_Model_lookAtLines.2.2.1 ce_Model_lookAtLines.2.2.2.1 (Nat.le_of_ble_eq_true rfl) F (fun h H F => ?_)
    refine mm_iconst (v := 0) d_Model_stepOnce_127 (by decide) ?_
    exact mm_zreturn d_Model_stepOnce_128 rfl rfl (by have e := c_loop_end (12 - c.1) c.1 c (Nat.le_refl _); have h9 := hq h I (m_look A c.1) H F (by rw [e]; exact follow_MR R.end_) hI0; rw [e] at h9; exact h9)
  | succ q ih =>
    intro i c I A h hi9 R H F hI0 hq
    have hN := R.1
    have h12 := R.2.1
    have hic : i < c.1 := by omega
    have hP := R.2.2.2.2.2.1 i hic
    have hcl := c_loop_s hic h12
    have hkd : ∃ kd, (c.2.1 i).1 = kd ∧ kd < 6 := by
      by_cases h5 : (c.2.1 i).1 = 5
      · exact ⟨5, h5, by decide⟩
      · exact ⟨_, rfl, (hP.2.2 (Nat.le_refl _) h5).1.1⟩
    obtain ⟨kd, hk, hk6⟩ := hkd
    match kd, hk6 with
    | 0, _ =>
      have hmp := hP.2.2 (Nat.le_refl _) (by rw [hk]; decide)
      have h0k : A 0 i = 0 := by rw [hmp.1.2.1, hk]; rfl
      refine mm_iload_n d_Model_stepOnce_51 rfl ?_
      refine mm_aload_n d_Model_stepOnce_52 rfl ?_
      refine mx_get (k := 2) (v := nI c.1) d_Model_stepOnce_53 cl_Model fl_Model_78_Model (by decide) H.1 (congrArg (fun z => some (Value.int z)) hN) ?_
      refine mx_icmp_ge (a := i) (b := c.1) (tgt := 123) d_Model_stepOnce_56 (by decide) (by omega) (by omega) (fun c_56 => absurd c_56 (by omega)) (fun c_56 => ?_)
      refine mm_aload_n d_Model_stepOnce_59 rfl ?_
      refine mm_getf (v := .ref (m + 1)) d_Model_stepOnce_60 cl_Model fl_Model_7_Model (by decide) H.1 rfl ?_
      refine mm_iload_n d_Model_stepOnce_63 rfl ?_
      refine mx_ald (E := i) (v := 0) d_Model_stepOnce_64 (mh_0 H) (by omega) (by decide) (show (A 0) i = 0 from h0k) ?_
      refine mm_iconst (v := 2) d_Model_stepOnce_65 (by decide) ?_
      refine mm_icmp_ne (tgt := 87) d_Model_stepOnce_66 (by decide) (fun _ => ?_) (fun c9 => absurd c9 (by decide))
      refine mm_aload_n d_Model_stepOnce_87 rfl ?_
      refine mm_getf (v := .ref (m + 1)) d_Model_stepOnce_88 cl_Model fl_Model_7_Model (by decide) H.1 rfl ?_
      refine mm_iload_n d_Model_stepOnce_91 rfl ?_
      refine mx_ald (E := i) (v := 0) d_Model_stepOnce_92 (mh_0 H) (by omega) (by decide) (show (A 0) i = 0 from h0k) ?_
      refine mm_iconst (v := 3) d_Model_stepOnce_93 (by decide) ?_
      refine mm_icmp_ne (tgt := 102) d_Model_stepOnce_94 (by decide) (fun _ => ?_) (fun c9 => absurd c9 (by decide))
      refine mm_aload_n d_Model_stepOnce_102 rfl ?_
      refine mm_getf (v := .ref (m + 1)) d_Model_stepOnce_103 cl_Model fl_Model_7_Model (by decide) H.1 rfl ?_
      refine mm_iload_n d_Model_stepOnce_106 rfl ?_
      refine mx_ald (E := i) (v := 0) d_Model_stepOnce_107 (mh_0 H) (by omega) (by decide) (show (A 0) i = 0 from h0k) ?_
      refine mm_iconst (v := 4) d_Model_stepOnce_108 (by decide) ?_
      refine mm_icmp_ne (tgt := 117) d_Model_stepOnce_109 (by decide) (fun _ => ?_) (fun c9 => absurd c9 (by decide))
      refine mx_inc (a := i) (b := i + 1) d_Model_stepOnce_117 rfl rfl (by decide) ?_
      refine mm_goto (tgt := 51) d_Model_stepOnce_120 (by decide) ?_
      have hz : (p_go (c.2.1 i)).2 = 0 := (by rw [go01 (by omega)])
      rw [if_pos hz] at hcl
      exact ih (i + 1) (c_setP c i (p_go (c.2.1 i)).1) I A h (by show i + 1 + q = c.1; omega) (R.step hic (by rw [go01 (by omega)]; exact hmp.mono (Nat.le_succ _)) (fun j _ => agr.rf A j) (fun _ _ => rfl)) H F hI0 (by rw [← hcl]; exact hq)
    | 1, _ =>
      have hmp := hP.2.2 (Nat.le_refl _) (by rw [hk]; decide)
      have h0k : A 0 i = 1 := by rw [hmp.1.2.1, hk]; rfl
      refine mm_iload_n d_Model_stepOnce_51 rfl ?_
      refine mm_aload_n d_Model_stepOnce_52 rfl ?_
      refine mx_get (k := 2) (v := nI c.1) d_Model_stepOnce_53 cl_Model fl_Model_78_Model (by decide) H.1 (congrArg (fun z => some (Value.int z)) hN) ?_
      refine mx_icmp_ge (a := i) (b := c.1) (tgt := 123) d_Model_stepOnce_56 (by decide) (by omega) (by omega) (fun c_56 => absurd c_56 (by omega)) (fun c_56 => ?_)
      refine mm_aload_n d_Model_stepOnce_59 rfl ?_
      refine mm_getf (v := .ref (m + 1)) d_Model_stepOnce_60 cl_Model fl_Model_7_Model (by decide) H.1 rfl ?_
      refine mm_iload_n d_Model_stepOnce_63 rfl ?_
      refine mx_ald (E := i) (v := 1) d_Model_stepOnce_64 (mh_0 H) (by omega) (by decide) (show (A 0) i = 1 from h0k) ?_
      refine mm_iconst (v := 2) d_Model_stepOnce_65 (by decide) ?_
      refine mm_icmp_ne (tgt := 87) d_Model_stepOnce_66 (by decide) (fun _ => ?_) (fun c9 => absurd c9 (by decide))
      refine mm_aload_n d_Model_stepOnce_87 rfl ?_
      refine mm_getf (v := .ref (m + 1)) d_Model_stepOnce_88 cl_Model fl_Model_7_Model (by decide) H.1 rfl ?_
      refine mm_iload_n d_Model_stepOnce_91 rfl ?_
      refine mx_ald (E := i) (v := 1) d_Model_stepOnce_92 (mh_0 H) (by omega) (by decide) (show (A 0) i = 1 from h0k) ?_
      refine mm_iconst (v := 3) d_Model_stepOnce_93 (by decide) ?_
      refine mm_icmp_ne (tgt := 102) d_Model_stepOnce_94 (by decide) (fun _ => ?_) (fun c9 => absurd c9 (by decide))
      refine mm_aload_n d_Model_stepOnce_102 rfl ?_
      refine mm_getf (v := .ref (m + 1)) d_Model_stepOnce_103 cl_Model fl_Model_7_Model (by decide) H.1 rfl ?_
      refine mm_iload_n d_Model_stepOnce_106 rfl ?_
      refine mx_ald (E := i) (v := 1) d_Model_stepOnce_107 (mh_0 H) (by omega) (by decide) (show (A 0) i = 1 from h0k) ?_
      refine mm_iconst (v := 4) d_Model_stepOnce_108 (by decide) ?_
      refine mm_icmp_ne (tgt := 117) d_Model_stepOnce_109 (by decide) (fun _ => ?_) (fun c9 => absurd c9 (by decide))
      refine mx_inc (a := i) (b := i + 1) d_Model_stepOnce_117 rfl rfl (by decide) ?_
      refine mm_goto (tgt := 51) d_Model_stepOnce_120 (by decide) ?_
      have hz : (p_go (c.2.1 i)).2 = 0 := (by rw [go01 (by omega)])
      rw [if_pos hz] at hcl
      exact ih (i + 1) (c_setP c i (p_go (c.2.1 i)).1) I A h (by show i + 1 + q = c.1; omega) (R.step hic (by rw [go01 (by omega)]; exact hmp.mono (Nat.le_succ _)) (fun j _ => agr.rf A j) (fun _ _ => rfl)) H F hI0 (by rw [← hcl]; exact hq)
    | 2, _ =>
      have hmp := hP.2.2 (Nat.le_refl _) (by rw [hk]; decide)
      have h0k : A 0 i = 2 := by rw [hmp.1.2.1, hk]; rfl
      obtain ⟨t1, t2, t3⟩ := tim_rel hmp hk
      refine mm_iload_n d_Model_stepOnce_51 rfl ?_
      refine mm_aload_n d_Model_stepOnce_52 rfl ?_
      refine mx_get (k := 2) (v := nI c.1) d_Model_stepOnce_53 cl_Model fl_Model_78_Model (by decide) H.1 (congrArg (fun z => some (Value.int z)) hN) ?_
      refine mx_icmp_ge (a := i) (b := c.1) (tgt := 123) d_Model_stepOnce_56 (by decide) (by omega) (by omega) (fun c_56 => absurd c_56 (by omega)) (fun c_56 => ?_)
      refine mm_aload_n d_Model_stepOnce_59 rfl ?_
      refine mm_getf (v := .ref (m + 1)) d_Model_stepOnce_60 cl_Model fl_Model_7_Model (by decide) H.1 rfl ?_
      refine mm_iload_n d_Model_stepOnce_63 rfl ?_
      refine mx_ald (E := i) (v := 2) d_Model_stepOnce_64 (mh_0 H) (by omega) (by decide) (show (A 0) i = 2 from h0k) ?_
      refine mm_iconst (v := 2) d_Model_stepOnce_65 (by decide) ?_
      refine mm_icmp_ne (tgt := 87) d_Model_stepOnce_66 (by decide) (fun c9 => absurd c9 (by decide)) (fun _ => ?_)
      refine mm_aload_n d_Model_stepOnce_69 rfl ?_
      refine mm_bipush (v := 64) d_Model_stepOnce_70 (by decide) ?_
      refine mm_iload_n d_Model_stepOnce_72 rfl ?_
      refine mx_mul (a := 64) (b := i) d_Model_stepOnce_73 ?_
      refine mx_call d_Model_stepOnce_74 (mm_Inv.vi (as := [.int (nI (64 * i))]) d_Model_stepOnce_74 (Or.inl m_783) m_785 ce_Model_timerStep.2.1 ce_Model_timerStep.2.2.1 mp_22 ce_Model_timerStep.2.2.2.2.2 ln_Model_timerStep cl_Model H.1 rfl) (J_Model_timerStep H (by omega)) (Nat.lt_of_lt_of_le (by decide) hd) ce_Model_timerStep.1 ce_Model_timerStep.2.1 ce_Model_timerStep.2.2.1 ce_Model_timerStep.2.2.2.1 (Nat.le_of_ble_eq_true rfl) F (fun h H F => ?_)
      refine mm_if_eq (tgt := 87) d_Model_stepOnce_77 (by decide) (fun c_77 => ?_) (fun c_77 => ?_)
      · refine mm_aload_n d_Model_stepOnce_87 rfl ?_
        refine mm_getf (v := .ref (m + 1)) d_Model_stepOnce_88 cl_Model fl_Model_7_Model (by decide) H.1 rfl ?_
        refine mm_iload_n d_Model_stepOnce_91 rfl ?_
        refine mx_ald (E := i) (v := 2) d_Model_stepOnce_92 (mh_0 H) (by omega) (by decide) (show ((ma A 5 (m_tim (A 5) (64 * i)).1) 0) i = 2 from h0k) ?_
        refine mm_iconst (v := 3) d_Model_stepOnce_93 (by decide) ?_
        refine mm_icmp_ne (tgt := 102) d_Model_stepOnce_94 (by decide) (fun _ => ?_) (fun c9 => absurd c9 (by decide))
        refine mm_aload_n d_Model_stepOnce_102 rfl ?_
        refine mm_getf (v := .ref (m + 1)) d_Model_stepOnce_103 cl_Model fl_Model_7_Model (by decide) H.1 rfl ?_
        refine mm_iload_n d_Model_stepOnce_106 rfl ?_
        refine mx_ald (E := i) (v := 2) d_Model_stepOnce_107 (mh_0 H) (by omega) (by decide) (show ((ma A 5 (m_tim (A 5) (64 * i)).1) 0) i = 2 from h0k) ?_
        refine mm_iconst (v := 4) d_Model_stepOnce_108 (by decide) ?_
        refine mm_icmp_ne (tgt := 117) d_Model_stepOnce_109 (by decide) (fun _ => ?_) (fun c9 => absurd c9 (by decide))
        refine mx_inc (a := i) (b := i + 1) d_Model_stepOnce_117 rfl rfl (by decide) ?_
        refine mm_goto (tgt := 51) d_Model_stepOnce_120 (by decide) ?_
        have hz : (p_go (c.2.1 i)).2 = 0 := (t2.trans c_77)
        rw [if_pos hz] at hcl
        exact ih (i + 1) (c_setP c i (p_go (c.2.1 i)).1) I (ma A 5 (m_tim (A 5) (64 * i)).1) h (by show i + 1 + q = c.1; omega) (R.step hic (t1.mono (Nat.le_succ _)) t3 (fun k hk9 => ma_ne _ _ (by omega))) H F hI0 (by rw [← hcl]; exact hq)
      · refine mm_aload_n d_Model_stepOnce_80 rfl ?_
        refine mm_iconst (v := 2) d_Model_stepOnce_81 (by decide) ?_
        refine mx_call d_Model_stepOnce_82 (mm_Inv.vi (as := [.int 2]) d_Model_stepOnce_82 (Or.inl m_787) m_789 ce_Model_resetAll.2.1 ce_Model_resetAll.2.2.1 mp_23 ce_Model_resetAll.2.2.2.2.2 ln_Model_resetAll cl_Model H.1 rfl) (J_Model_resetAll (N := c.1) (e := 2) H hN h12) (Nat.lt_of_lt_of_le (by decide) hd) ce_Model_resetAll.1 ce_Model_resetAll.2.1 ce_Model_resetAll.2.2.1 ce_Model_resetAll.2.2.2.1 (Nat.le_of_ble_eq_true rfl) F (fun h H F => ?_)
        refine mm_iconst (v := 1) d_Model_stepOnce_85 (by decide) ?_
        exact mm_zreturn d_Model_stepOnce_86 rfl rfl (by rw [if_neg (fun z => c_77 (t2.symm.trans z))] at hcl; have h9 := hq h _ _ H F (by rw [hcl]; exact R.reset hic (t1.mono (Nat.le_succ _)) t3 (fun k hk9 => ma_ne _ _ (by omega))) hI0; rw [hcl] at h9; exact h9)
    | 3, _ =>
      have hmp := hP.2.2 (Nat.le_refl _) (by rw [hk]; decide)
      have h0k : A 0 i = 3 := by rw [hmp.1.2.1, hk]; rfl
      obtain ⟨g, hg, hgT, t1, t2, t3⟩ := send_rel hmp hk
      refine mm_iload_n d_Model_stepOnce_51 rfl ?_
      refine mm_aload_n d_Model_stepOnce_52 rfl ?_
      refine mx_get (k := 2) (v := nI c.1) d_Model_stepOnce_53 cl_Model fl_Model_78_Model (by decide) H.1 (congrArg (fun z => some (Value.int z)) hN) ?_
      refine mx_icmp_ge (a := i) (b := c.1) (tgt := 123) d_Model_stepOnce_56 (by decide) (by omega) (by omega) (fun c_56 => absurd c_56 (by omega)) (fun c_56 => ?_)
      refine mm_aload_n d_Model_stepOnce_59 rfl ?_
      refine mm_getf (v := .ref (m + 1)) d_Model_stepOnce_60 cl_Model fl_Model_7_Model (by decide) H.1 rfl ?_
      refine mm_iload_n d_Model_stepOnce_63 rfl ?_
      refine mx_ald (E := i) (v := 3) d_Model_stepOnce_64 (mh_0 H) (by omega) (by decide) (show (A 0) i = 3 from (by first | exact h0k | (rw [m_send_lo A i g 0 (by decide)]; exact h0k))) ?_
      refine mm_iconst (v := 2) d_Model_stepOnce_65 (by decide) ?_
      refine mm_icmp_ne (tgt := 87) d_Model_stepOnce_66 (by decide) (fun _ => ?_) (fun c9 => absurd c9 (by decide))
      refine mm_aload_n d_Model_stepOnce_87 rfl ?_
      refine mm_getf (v := .ref (m + 1)) d_Model_stepOnce_88 cl_Model fl_Model_7_Model (by decide) H.1 rfl ?_
      refine mm_iload_n d_Model_stepOnce_91 rfl ?_
      refine mx_ald (E := i) (v := 3) d_Model_stepOnce_92 (mh_0 H) (by omega) (by decide) (show (A 0) i = 3 from (by first | exact h0k | (rw [m_send_lo A i g 0 (by decide)]; exact h0k))) ?_
      refine mm_iconst (v := 3) d_Model_stepOnce_93 (by decide) ?_
      refine mm_icmp_ne (tgt := 102) d_Model_stepOnce_94 (by decide) (fun c9 => absurd c9 (by decide)) (fun _ => ?_)
      refine mm_aload_n d_Model_stepOnce_97 rfl ?_
      refine mm_iload_n d_Model_stepOnce_98 rfl ?_
      refine mx_call d_Model_stepOnce_99 (mm_Inv.vi (as := [.int (nI i)]) d_Model_stepOnce_99 (Or.inl m_791) m_793 ce_Model_sendStep.2.1 ce_Model_sendStep.2.2.1 mp_24 ce_Model_sendStep.2.2.2.2.2 ln_Model_sendStep cl_Model H.1 rfl) (J_Model_sendStep H (by omega) hg (by omega)) (Nat.lt_of_lt_of_le (by decide) hd) ce_Model_sendStep.1 ce_Model_sendStep.2.1 ce_Model_sendStep.2.2.1 ce_Model_sendStep.2.2.2.1 (Nat.le_of_ble_eq_true rfl) F (fun h H F => ?_)
      refine mm_aload_n d_Model_stepOnce_102 rfl ?_
      refine mm_getf (v := .ref (m + 1)) d_Model_stepOnce_103 cl_Model fl_Model_7_Model (by decide) H.1 rfl ?_
      refine mm_iload_n d_Model_stepOnce_106 rfl ?_
      refine mx_ald (E := i) (v := 3) d_Model_stepOnce_107 (mh_0 H) (by omega) (by decide) (show ((m_send A i g) 0) i = 3 from (by first | exact h0k | (rw [m_send_lo A i g 0 (by decide)]; exact h0k))) ?_
      refine mm_iconst (v := 4) d_Model_stepOnce_108 (by decide) ?_
      refine mm_icmp_ne (tgt := 117) d_Model_stepOnce_109 (by decide) (fun _ => ?_) (fun c9 => absurd c9 (by decide))
      refine mx_inc (a := i) (b := i + 1) d_Model_stepOnce_117 rfl rfl (by decide) ?_
      refine mm_goto (tgt := 51) d_Model_stepOnce_120 (by decide) ?_
      have hz : (p_go (c.2.1 i)).2 = 0 := t2
      rw [if_pos hz] at hcl
      exact ih (i + 1) (c_setP c i (p_go (c.2.1 i)).1) I (m_send A i g) h (by show i + 1 + q = c.1; omega) (R.step hic t1 t3 (m_send_hi A i g)) H F hI0 (by rw [← hcl]; exact hq)
    | 4, _ =>
      have hmp := hP.2.2 (Nat.le_refl _) (by rw [hk]; decide)
      have h0k : A 0 i = 4 := by rw [hmp.1.2.1, hk]; rfl
      obtain ⟨v, hv, hv8, t1, t2, t3⟩ := row_rel hmp hk
      refine mm_iload_n d_Model_stepOnce_51 rfl ?_
      refine mm_aload_n d_Model_stepOnce_52 rfl ?_
      refine mx_get (k := 2) (v := nI c.1) d_Model_stepOnce_53 cl_Model fl_Model_78_Model (by decide) H.1 (congrArg (fun z => some (Value.int z)) hN) ?_
      refine mx_icmp_ge (a := i) (b := c.1) (tgt := 123) d_Model_stepOnce_56 (by decide) (by omega) (by omega) (fun c_56 => absurd c_56 (by omega)) (fun c_56 => ?_)
      refine mm_aload_n d_Model_stepOnce_59 rfl ?_
      refine mm_getf (v := .ref (m + 1)) d_Model_stepOnce_60 cl_Model fl_Model_7_Model (by decide) H.1 rfl ?_
      refine mm_iload_n d_Model_stepOnce_63 rfl ?_
      refine mx_ald (E := i) (v := 4) d_Model_stepOnce_64 (mh_0 H) (by omega) (by decide) (show (A 0) i = 4 from h0k) ?_
      refine mm_iconst (v := 2) d_Model_stepOnce_65 (by decide) ?_
      refine mm_icmp_ne (tgt := 87) d_Model_stepOnce_66 (by decide) (fun _ => ?_) (fun c9 => absurd c9 (by decide))
      refine mm_aload_n d_Model_stepOnce_87 rfl ?_
      refine mm_getf (v := .ref (m + 1)) d_Model_stepOnce_88 cl_Model fl_Model_7_Model (by decide) H.1 rfl ?_
      refine mm_iload_n d_Model_stepOnce_91 rfl ?_
      refine mx_ald (E := i) (v := 4) d_Model_stepOnce_92 (mh_0 H) (by omega) (by decide) (show (A 0) i = 4 from h0k) ?_
      refine mm_iconst (v := 3) d_Model_stepOnce_93 (by decide) ?_
      refine mm_icmp_ne (tgt := 102) d_Model_stepOnce_94 (by decide) (fun _ => ?_) (fun c9 => absurd c9 (by decide))
      refine mm_aload_n d_Model_stepOnce_102 rfl ?_
      refine mm_getf (v := .ref (m + 1)) d_Model_stepOnce_103 cl_Model fl_Model_7_Model (by decide) H.1 rfl ?_
      refine mm_iload_n d_Model_stepOnce_106 rfl ?_
      refine mx_ald (E := i) (v := 4) d_Model_stepOnce_107 (mh_0 H) (by omega) (by decide) (show (A 0) i = 4 from h0k) ?_
      refine mm_iconst (v := 4) d_Model_stepOnce_108 (by decide) ?_
      refine mm_icmp_ne (tgt := 117) d_Model_stepOnce_109 (by decide) (fun c9 => absurd c9 (by decide)) (fun _ => ?_)
      refine mm_aload_n d_Model_stepOnce_112 rfl ?_
      refine mm_iload_n d_Model_stepOnce_113 rfl ?_
      refine mx_call d_Model_stepOnce_114 (mm_Inv.vi (as := [.int (nI i)]) d_Model_stepOnce_114 (Or.inl m_795) m_797 ce_Model_rowStep.2.1 ce_Model_rowStep.2.2.1 mp_25 ce_Model_rowStep.2.2.2.2.2 ln_Model_rowStep cl_Model H.1 rfl) (J_Model_rowStep H (by omega) hv hv8) (Nat.lt_of_lt_of_le (by decide) hd) ce_Model_rowStep.1 ce_Model_rowStep.2.1 ce_Model_rowStep.2.2.1 ce_Model_rowStep.2.2.2.1 (Nat.le_of_ble_eq_true rfl) F (fun h H F => ?_)
      refine mx_inc (a := i) (b := i + 1) d_Model_stepOnce_117 rfl rfl (by decide) ?_
      refine mm_goto (tgt := 51) d_Model_stepOnce_120 (by decide) ?_
      have hz : (p_go (c.2.1 i)).2 = 0 := t2
      rw [if_pos hz] at hcl
      exact ih (i + 1) (c_setP c i (p_go (c.2.1 i)).1) I (m_row A i v) h (by show i + 1 + q = c.1; omega) (R.step hic (t1.mono (Nat.le_succ _)) t3 (m_row_hi A i v)) H F hI0 (by rw [← hcl]; exact hq)
    | 5, _ =>
      have hm5 := hP.2.1 (Nat.le_refl _) hk
      have h0k : A 0 i = 5 := by have := hm5.1.2.1; rw [go5 hk] at this; rw [this]; show nI (c.2.1 i).1 = 5; rw [hk]; rfl
      refine mm_iload_n d_Model_stepOnce_51 rfl ?_
      refine mm_aload_n d_Model_stepOnce_52 rfl ?_
      refine mx_get (k := 2) (v := nI c.1) d_Model_stepOnce_53 cl_Model fl_Model_78_Model (by decide) H.1 (congrArg (fun z => some (Value.int z)) hN) ?_
      refine mx_icmp_ge (a := i) (b := c.1) (tgt := 123) d_Model_stepOnce_56 (by decide) (by omega) (by omega) (fun c_56 => absurd c_56 (by omega)) (fun c_56 => ?_)
      refine mm_aload_n d_Model_stepOnce_59 rfl ?_
      refine mm_getf (v := .ref (m + 1)) d_Model_stepOnce_60 cl_Model fl_Model_7_Model (by decide) H.1 rfl ?_
      refine mm_iload_n d_Model_stepOnce_63 rfl ?_
      refine mx_ald (E := i) (v := 5) d_Model_stepOnce_64 (mh_0 H) (by omega) (by decide) (show (A 0) i = 5 from h0k) ?_
      refine mm_iconst (v := 2) d_Model_stepOnce_65 (by decide) ?_
      refine mm_icmp_ne (tgt := 87) d_Model_stepOnce_66 (by decide) (fun _ => ?_) (fun c9 => absurd c9 (by decide))
      refine mm_aload_n d_Model_stepOnce_87 rfl ?_
      refine mm_getf (v := .ref (m + 1)) d_Model_stepOnce_88 cl_Model fl_Model_7_Model (by decide) H.1 rfl ?_
      refine mm_iload_n d_Model_stepOnce_91 rfl ?_
      refine mx_ald (E := i) (v := 5) d_Model_stepOnce_92 (mh_0 H) (by omega) (by decide) (show (A 0) i = 5 from h0k) ?_
      refine mm_iconst (v := 3) d_Model_stepOnce_93 (by decide) ?_
      refine mm_icmp_ne (tgt := 102) d_Model_stepOnce_94 (by decide) (fun _ => ?_) (fun c9 => absurd c9 (by decide))
      refine mm_aload_n d_Model_stepOnce_102 rfl ?_
      refine mm_getf (v := .ref (m + 1)) d_Model_stepOnce_103 cl_Model fl_Model_7_Model (by decide) H.1 rfl ?_
      refine mm_iload_n d_Model_stepOnce_106 rfl ?_
      refine mx_ald (E := i) (v := 5) d_Model_stepOnce_107 (mh_0 H) (by omega) (by decide) (show (A 0) i = 5 from h0k) ?_
      refine mm_iconst (v := 4) d_Model_stepOnce_108 (by decide) ?_
      refine mm_icmp_ne (tgt := 117) d_Model_stepOnce_109 (by decide) (fun _ => ?_) (fun c9 => absurd c9 (by decide))
      refine mx_inc (a := i) (b := i + 1) d_Model_stepOnce_117 rfl rfl (by decide) ?_
      refine mm_goto (tgt := 51) d_Model_stepOnce_120 (by decide) ?_
      have hz : (p_go (c.2.1 i)).2 = 0 := (by rw [go5 hk])
      rw [if_pos hz] at hcl
      exact ih (i + 1) (c_setP c i (p_go (c.2.1 i)).1) I A h (by show i + 1 + q = c.1; omega) (R.step hic hm5 (fun j _ => agr.rf A j) (fun _ _ => rfl)) H F hI0 (by rw [← hcl]; exact hq)
set_option maxRecDepth 100000 in
set_option maxHeartbeats 4000000 in
theorem J_Model_stepOnce {sc : mm_Sc} {n : Nat} {h : mm_H} {m : Nat} {I : Nat → Int32} {A : Nat → Nat → Int32} {T : Nat} {c : cS} (H : MH h m I A) (R : MR T c I A) (hT : T < 2 ^ 29) : mm_J sc y_Model_stepOnce 3 [.ref m] n h 0 0 (MY (fun o I' A' => o = .inl (some (.int (c_step c).2)) ∧ MR (T + 1) (c_step c).1 I' A' ∧ I' 0 = I 0) n h m) := by
  refine mm_J.of (show mm_G sc y_Model_stepOnce 3 0 [some (.ref m), none] [] n h 0 0 _ from ?_) ce_Model_stepOnce.2.2.2.2.1 (Nat.le_of_ble_eq_true rfl) (by simp [Value.category])
  have F : MF h h m := fun _ _ => rfl
  refine mm_aload_n d_Model_stepOnce_0 rfl ?_
  refine mm_dup d_Model_stepOnce_1 rfl ?_
  refine mx_get (k := 1) (v := I 1) d_Model_stepOnce_2 cl_Model fl_Model_104_Model (by decide) H.1 rfl ?_
  refine mm_iconst (v := 1) d_Model_stepOnce_5 (by decide) ?_
  refine mm_iadd d_Model_stepOnce_6 ?_
  refine mm_putf d_Model_stepOnce_7 cl_Model ty_Model fl_Model_104_Model (by decide) rfl rfl rfl H.1 (Nat.le_of_ble_eq_true rfl) ?_
  refine mh_i1 H F (fun h H F => ?_)
  refine mm_iconst (v := 0) d_Model_stepOnce_10 (by decide) ?_
  refine mm_istore_n d_Model_stepOnce_11 (by decide) ?_
  refine lp_cb (I := mi I 1 (I 1 + 1)) (A := A) (N := c.1) R.1 R.2.1 (fun h H F => ?_) c.1 0 h (by omega) (H.cast rfl (ma_idE A (m_bump_0 A _)).symm) F
  refine mm_iconst (v := 0) d_Model_stepOnce_49 (by decide) ?_
  refine mm_istore_n d_Model_stepOnce_50 (by decide) ?_
  exact lp_st (T := T) (by decide) hT c.1 0 _ _ _ h (by show 0 + c.1 = c.1; omega) (MRi.start R) H F rfl (fun h' I' A' H' F' R' e' => ⟨rfl, F', I', A', H', rfl, R', e'⟩)
