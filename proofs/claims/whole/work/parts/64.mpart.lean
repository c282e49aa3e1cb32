/-- a new part in both -/
def m_more (A : Nat → Nat → Int32) (N : Nat) (k f z l w : Int32) : Nat → Nat → Int32 := ma (ma (ma (ma (ma A 0 (upd (A 0) N k)) 1 (upd (A 1) N f)) 2 (upd (A 2) N z)) 3 (upd (A 3) N l)) 4 (upd (A 4) N w)
theorem more_MR {T kd a b l w : Nat} {c : cS} {I : Nat → Int32} {A : Nat → Nat → Int32} (R : MR T c I A) (h12 : c.1 < 12) (hkd : kd < 6) (hab : a + b ≤ 65536) (hb : 1 ≤ b) (hb64 : b ≤ 64) (hl : l < 16) (hw : w < 8) (z2 : kd = 2 → b = 4) (z3 : kd = 3 → b = 3) (z4 : kd = 4 → b = 11) (z5 : kd = 5 → b = 4) : MR T (c_more c (p_fresh kd (nI a) (nI b) (nI l) (nI w))) (mi (mi I 0 0) 2 (nI (c.1 + 1))) (m_more A c.1 (nI kd) (nI a) (nI b) (nI l) (nI w)) := by
  obtain ⟨r1, r2, r3, r4, r5, r6, r7, r8⟩ := R
  have ag : ∀ p, p ≠ c.1 → agr A (m_more A c.1 (nI kd) (nI a) (nI b) (nI l) (nI w)) p := fun p hp => ⟨if_neg hp, if_neg hp, if_neg hp, if_neg hp, if_neg hp, fun _ _ => rfl, rfl, rfl, rfl, fun _ _ => rfl, rfl, fun _ _ => rfl, fun _ _ => rfl⟩
  refine ⟨rfl, h12, r3, r4, r5, fun p hp => ?_, fun p h1 h2 => (r7 p (by have : c.1 + 1 ≤ p := h1; omega) h2).agr (ag p (by have : c.1 + 1 ≤ p := h1; omega)), r8⟩
  have hp1 : p < c.1 + 1 := hp
  show MP T (if p = c.1 then p_fresh kd (nI a) (nI b) (nI l) (nI w) else c.2.1 p) _ p
  by_cases hc : p = c.1
  · rw [if_pos hc]
    subst hc
    obtain ⟨q1, q2, q3, q4, q5, q6⟩ := r7 c.1 (Nat.le_refl _) h12
    have hs : MS (p_fresh kd (nI a) (nI b) (nI l) (nI w)) (m_more A c.1 (nI kd) (nI a) (nI b) (nI l) (nI w)) c.1 := ⟨hkd, if_pos rfl, if_pos rfl, if_pos rfl, if_pos rfl, if_pos rfl, a, b, l, w, rfl, hab, hb, hb64, hl, hw, z2, z3, z4, z5⟩
    have hlen := hs.len
    refine ⟨hs, fun z k hk => q1 k (by have := (hlen z).1; omega), fun z => ⟨q1 0 (by decide), q1 1 (by decide), q1 2 (by decide), q1 3 (by decide), 0, by decide, rfl⟩, fun z => ⟨q1 2 (by decide), 0, 0, 0, 0, rfl, by decide, rfl, by decide, rfl, Nat.zero_le _, rfl, by decide, q2, q3, q4, fun z9 => absurd rfl z9, fun k hk => absurd hk (Nat.not_lt_zero _), fun k hk => absurd hk (Nat.not_lt_zero _)⟩, fun z => ⟨q1 0 (by decide), q1 1 (by decide), q1 2 (by decide), fun k hk => by rw [Nat.add_assoc]; exact q1 (3 + k) (by omega), q6, 0, 0, 0, rfl, by decide, q5, by decide, rfl, by decide, q2, fun _ => rfl, fun z9 => absurd rfl z9⟩, fun z k hk => q1 k (by omega), fun _ => ⟨q3, q4⟩⟩
  · rw [if_neg hc]
    exact (r6 p (by omega)).agr (ag p hc)
theorem c_free_end {N : Nat} {P : Nat → pS} {f l : Int32} (h : c_free N P f l N = true) : ∀ m, c_free N P f l (N + m) = true
  | 0 => h
  | m + 1 => by
    show (c_free N P f l (N + m) && _) = true
    rw [c_free_end h m]
    simp
set_option maxRecDepth 100000 in
set_option maxHeartbeats 4000000 in
theorem lp_free {sc : mm_Sc} {n d kc ks T : Nat} {h : mm_H} {m : Nat} {I : Nat → Int32} {A : Nat → Nat → Int32} {Q : mm_O → Nat → mm_H → Prop} {c : cS} {a b : Nat} {k z l w : Int32} (H : MH h m I A) (R : MR T c I A) (hab : a + b ≤ 65536) (hb : 1 ≤ b) (hq1 : c_free c.1 c.2.1 (nI a) (nI b) 12 = true → mm_G sc y_Model_part d 162 [some (.ref m), some (.int k), some (.int (nI a)), some (.int z), some (.int l), some (.int w), some (.int 1), some (.int (nI b)), some (.int (nI c.1))] [] n h kc ks Q) (hq0 : ∀ i, c_free c.1 c.2.1 (nI a) (nI b) 12 = false → mm_G sc y_Model_part d 162 [some (.ref m), some (.int k), some (.int (nI a)), some (.int z), some (.int l), some (.int w), some (.int 0), some (.int (nI b)), some (.int (nI i))] [] n h kc ks Q) : ∀ (q i : Nat), i + q = c.1 → c_free c.1 c.2.1 (nI a) (nI b) i = true → mm_G sc y_Model_part d 102 [some (.ref m), some (.int k), some (.int (nI a)), some (.int z), some (.int l), some (.int w), some (.int 1), some (.int (nI b)), some (.int (nI i))] [] n h kc ks Q := by
  have hN := R.1
  have h12 := R.2.1
  intro q
  induction q with
  | zero =>
    intro i hi9 hf
    obtain rfl : i = c.1 := by omega
    refine mm_iload d_Model_part_102 rfl ?_
    refine mm_aload_n d_Model_part_104 rfl ?_
    refine mx_get (k := 2) (v := nI c.1) d_Model_part_105 cl_Model fl_Model_78_Model (by decide) H.1 (congrArg (fun z => some (Value.int z)) hN) ?_
    refine mx_icmp_ge (a := c.1) (b := c.1) (tgt := 162) d_Model_part_108 (by decide) (by omega) (by omega) (fun c_108 => ?_) (fun c_108 => absurd c_108 (by omega))
    exact hq1 (by have h9 := c_free_end hf (12 - c.1); rw [show c.1 + (12 - c.1) = 12 by omega] at h9; exact h9)
  | succ q ih =>
    intro i hi9 hf
    obtain ⟨b1, b2, b3, b4, b5, b6, fi, zi, li, wi, e, e1, e2, e3, -⟩ := (R.2.2.2.2.2.1 i (by omega)).1
    have f1 : (c.2.1 i).2.1.1 = nI fi := by rw [e]
    have f2 : (c.2.1 i).2.1.2.1 = nI zi := by rw [e]
    have g1 : A 1 i = nI fi := b3.trans f1
    have g2 : A 2 i = nI zi := b4.trans f2
    have hmt := meets_2 (f := fi) (z := zi) (a := a) (b := b) e1 hab e2 hb
    refine mm_iload d_Model_part_102 rfl ?_
    refine mm_aload_n d_Model_part_104 rfl ?_
    refine mx_get (k := 2) (v := nI c.1) d_Model_part_105 cl_Model fl_Model_78_Model (by decide) H.1 (congrArg (fun z => some (Value.int z)) hN) ?_
    refine mx_icmp_ge (a := i) (b := c.1) (tgt := 162) d_Model_part_108 (by decide) (by omega) (by omega) (fun c_108 => absurd c_108 (by omega)) (fun c_108 => ?_)
    refine mm_iload d_Model_part_111 rfl ?_
    refine mm_if_eq (tgt := 162) d_Model_part_113 (by decide) (fun c9 => absurd c9 (by decide)) (fun _ => ?_)
    refine mm_iload_n d_Model_part_116 rfl ?_
    refine mm_iload d_Model_part_117 rfl ?_
    refine mx_add (a := a) (b := b) (c := a + b) d_Model_part_119 (by omega) ?_
    refine mm_aload_n d_Model_part_120 rfl ?_
    refine mm_getf (v := .ref (m + 2)) d_Model_part_121 cl_Model fl_Model_13_Model (by decide) H.1 rfl ?_
    refine mm_iload d_Model_part_124 rfl ?_
    refine mx_ald (E := i) (v := nI fi) d_Model_part_126 (mh_1 H) (by omega) (by decide) (show (A 1) i = nI fi from g1) ?_
    refine mx_icmp_le (a := a + b) (b := fi) (tgt := 149) d_Model_part_127 (by decide) (by omega) (by omega) (fun c_127 => ?_) (fun c_127 => ?_)
    · refine mm_iconst (v := 1) d_Model_part_149 (by decide) ?_
      refine mm_goto (tgt := 154) d_Model_part_150 (by decide) ?_
      refine mm_istore d_Model_part_154 (by decide) ?_
      refine mx_inc (a := i) (b := i + 1) d_Model_part_156 rfl rfl (by decide) ?_
      refine mm_goto (tgt := 102) d_Model_part_159 (by decide) ?_
      refine ih (i + 1) (by omega) ?_
      show (c_free c.1 c.2.1 (nI a) (nI b) i && _) = true
      rw [hf, f1, f2, hmt.mpr (Or.inl c_127)]
      simp
    · refine mm_aload_n d_Model_part_130 rfl ?_
      refine mm_getf (v := .ref (m + 2)) d_Model_part_131 cl_Model fl_Model_13_Model (by decide) H.1 rfl ?_
      refine mm_iload d_Model_part_134 rfl ?_
      refine mx_ald (E := i) (v := nI fi) d_Model_part_136 (mh_1 H) (by omega) (by decide) (show (A 1) i = nI fi from g1) ?_
      refine mm_aload_n d_Model_part_137 rfl ?_
      refine mm_getf (v := .ref (m + 3)) d_Model_part_138 cl_Model fl_Model_16_Model (by decide) H.1 rfl ?_
      refine mm_iload d_Model_part_141 rfl ?_
      refine mx_ald (E := i) (v := nI zi) d_Model_part_143 (mh_2 H) (by omega) (by decide) (show (A 2) i = nI zi from g2) ?_
      refine mx_add (a := fi) (b := zi) (c := fi + zi) d_Model_part_144 (by omega) ?_
      refine mm_iload_n d_Model_part_145 rfl ?_
      refine mx_icmp_gt (a := fi + zi) (b := a) (tgt := 153) d_Model_part_146 (by decide) (by omega) (by omega) (fun c_146 => ?_) (fun c_146 => ?_)
      · refine mm_iconst (v := 0) d_Model_part_153 (by decide) ?_
        refine mm_istore d_Model_part_154 (by decide) ?_
        refine mx_inc (a := i) (b := i + 1) d_Model_part_156 rfl rfl (by decide) ?_
        refine mm_goto (tgt := 102) d_Model_part_159 (by decide) ?_
        have hff : c_free c.1 c.2.1 (nI a) (nI b) 12 = false := by have h9 := c_free_f (N := c.1) (P := c.2.1) (f := nI a) (l := nI b) (i := i) (by omega) (by rw [f1, f2]; exact fun z9 => by rcases hmt.mp z9 with z8 | z8 <;> omega) (12 - (i + 1)); rw [show i + 1 + (12 - (i + 1)) = 12 by omega] at h9; exact h9
        refine mm_iload d_Model_part_102 rfl ?_
        refine mm_aload_n d_Model_part_104 rfl ?_
        refine mx_get (k := 2) (v := nI c.1) d_Model_part_105 cl_Model fl_Model_78_Model (by decide) H.1 (congrArg (fun z => some (Value.int z)) hN) ?_
        refine mx_icmp_ge (a := i + 1) (b := c.1) (tgt := 162) d_Model_part_108 (by decide) (by omega) (by omega) (fun c_108 => ?_) (fun c_108 => ?_)
        · exact hq0 (i + 1) hff
        · refine mm_iload d_Model_part_111 rfl ?_
          refine mm_if_eq (tgt := 162) d_Model_part_113 (by decide) (fun _ => ?_) (fun c9 => absurd c9 (by decide))
          exact hq0 (i + 1) hff
      · refine mm_iconst (v := 1) d_Model_part_149 (by decide) ?_
        refine mm_goto (tgt := 154) d_Model_part_150 (by decide) ?_
        refine mm_istore d_Model_part_154 (by decide) ?_
        refine mx_inc (a := i) (b := i + 1) d_Model_part_156 rfl rfl (by decide) ?_
        refine mm_goto (tgt := 102) d_Model_part_159 (by decide) ?_
        refine ih (i + 1) (by omega) ?_
        show (c_free c.1 c.2.1 (nI a) (nI b) i && _) = true
        rw [hf, f1, f2, hmt.mpr (Or.inr c_146)]
        simp
theorem size_nI {k z : Int32} (h1 : ¬ w_in k 0 5 = 0) (h2 : 1 < k ∨ ¬ w_in z 1 64 = 0) : ∃ kd b, kd < 6 ∧ k = nI kd ∧ m_size k z = nI b ∧ sp_len k z = nI b ∧ 1 ≤ b ∧ b ≤ 64 ∧ (kd = 2 → b = 4) ∧ (kd = 3 → b = 3) ∧ (kd = 4 → b = 11) ∧ (kd = 5 → b = 4) := by
  have hl := len_iff.mpr ⟨h1, h2⟩
  have hs := len_size hl
  obtain ⟨⟨kd, hkd, rfl⟩, h3, hl64⟩ := sp_len_k hl
  obtain ⟨b, hb, eb⟩ := nI_of h3
  rw [eb, nI_clamp hb] at hl64
  refine ⟨kd, b, hkd, rfl, hs ▸ eb, eb, Nat.not_lt.mp (fun z9 => hl (by rw [eb, show b = 0 by omega]; decide)), hl64, ?_, ?_, ?_, ?_⟩
  · rintro rfl; rw [hs] at eb; exact ((nI_eq (a := 4) (by decide) hb).mp eb).symm
  · rintro rfl; rw [hs] at eb; exact ((nI_eq (a := 3) (by decide) hb).mp eb).symm
  · rintro rfl; rw [hs] at eb; exact ((nI_eq (a := 11) (by decide) hb).mp eb).symm
  · rintro rfl; rw [hs] at eb; exact ((nI_eq (a := 4) (by decide) hb).mp eb).symm
theorem wait_in {l : Int32} (h : ¬ w_in l 0 7 = 0) : ∃ j, j < 8 ∧ l = nI j := by
  rw [w_in_iff] at h
  obtain ⟨j, hj, rfl⟩ := nI_of h.1
  exact ⟨j, Nat.not_le.mp (fun z => h.2 (nI_lt (a := 7) (by omega) hj)), rfl⟩
set_option maxRecDepth 100000 in
set_option maxHeartbeats 4000000 in
theorem J_Model_part {sc : mm_Sc} {n : Nat} {h : mm_H} {m : Nat} {I : Nat → Int32} {A : Nat → Nat → Int32} {T : Nat} {c : cS} {k f z l w : Int32} (H : MH h m I A) (R : MR T c I A) (hT : T + 1000 < 2 ^ 29)  : mm_J sc y_Model_part 6 [.ref m, .int k, .int f, .int z, .int l, .int w] n h 0 0 (MY (MC cd_01 (c_part k f z l w c) (T + 1000)) n h m) := by
  refine mm_J.of (show mm_G sc y_Model_part 6 0 [some (.ref m), some (.int k), some (.int f), some (.int z), some (.int l), some (.int w), none, none, none] [] n h 0 0 _ from ?_) ce_Model_part.2.2.2.2.1 (Nat.le_of_ble_eq_true rfl) (by simp [Value.category])
  have F : MF h h m := fun _ _ => rfl
  have hN := R.1
  have h12 := R.2.1
  refine mm_aload_n d_Model_part_0 rfl ?_
  refine mm_iconst (v := 0) d_Model_part_1 (by decide) ?_
  refine mm_putf d_Model_part_2 cl_Model ty_Model fl_Model_65_Model (by decide) rfl rfl rfl H.1 (Nat.le_of_ble_eq_true rfl) ?_
  refine mh_i0 H F (fun h H F => ?_)
  refine mm_iload_n d_Model_part_5 rfl ?_
  refine mm_iconst (v := 0) d_Model_part_6 (by decide) ?_
  refine mm_iconst (v := 5) d_Model_part_7 (by decide) ?_
  refine mm_callD (kc' := 0) (ks' := 0) d_Model_part_8 (mm_Inv.sta (as := [.int k, .int 0, .int 5]) d_Model_part_8 (Or.inl m_756) m_757 ce_Model_within.2.1 ce_Model_within.2.2.1 ce_Model_within.2.2.2.1 ce_Model_within.2.2.2.2.2 ln_Model_within rfl) J_Model_within (by decide) ce_Model_within.1 ce_Model_within.2.1 ce_Model_within.2.2.1 ce_Model_within.2.2.2.1 (Nat.le_of_ble_eq_true rfl) ?_
  refine mm_if_eq (tgt := 55) d_Model_part_11 (by decide) (fun c_11 => ?_) (fun c_11 => ?_)
  · refine mm_iconst (v := 0) d_Model_part_55 (by decide) ?_
    refine mm_istore d_Model_part_56 (by decide) ?_
    refine mm_iload d_Model_part_58 rfl ?_
    refine mm_if_eq (tgt := 71) d_Model_part_60 (by decide) (fun _ => ?_) (fun c9 => absurd c9 (by decide))
    refine mm_iconst (v := 0) d_Model_part_71 (by decide) ?_
    refine mm_istore d_Model_part_72 (by decide) ?_
    refine mm_iload d_Model_part_74 rfl ?_
    refine mm_if_eq (tgt := 96) d_Model_part_76 (by decide) (fun _ => ?_) (fun c9 => absurd c9 (by decide))
    refine mm_iconst (v := 0) d_Model_part_96 (by decide) ?_
    refine mm_istore d_Model_part_97 (by decide) ?_
    refine mm_iconst (v := 0) d_Model_part_99 (by decide) ?_
    refine mm_istore d_Model_part_100 (by decide) ?_
    refine mm_iload d_Model_part_102 rfl ?_
    refine mm_aload_n d_Model_part_104 rfl ?_
    refine mx_get (k := 2) (v := nI c.1) d_Model_part_105 cl_Model fl_Model_78_Model (by decide) H.1 (congrArg (fun z => some (Value.int z)) hN) ?_
    refine mx_icmp_ge (a := 0) (b := c.1) (tgt := 162) d_Model_part_108 (by decide) (by omega) (by omega) (fun c_108 => ?_) (fun c_108 => ?_)
    · refine mm_iload d_Model_part_162 rfl ?_
      refine mm_if_ne (tgt := 173) d_Model_part_164 (by decide) (fun c9 => absurd c9 (by decide)) (fun _ => ?_)
      refine mm_aload_n d_Model_part_167 rfl ?_
      refine mm_iconst (v := 1) d_Model_part_168 (by decide) ?_
      refine mx_call d_Model_part_169 (mm_Inv.vi (as := [.int 1]) d_Model_part_169 (Or.inl m_763) m_765 ce_Model_fail.2.1 ce_Model_fail.2.2.1 mp_19 ce_Model_fail.2.2.2.2.2 ln_Model_fail cl_Model H.1 rfl) (J_Model_fail H) (by decide) ce_Model_fail.1 ce_Model_fail.2.1 ce_Model_fail.2.2.1 ce_Model_fail.2.2.2.1 (Nat.le_of_ble_eq_true rfl) F (fun h H F => ?_)
      exact mm_ireturn d_Model_part_172 rfl ⟨rfl, F, _, _, H, MC.inr (c := c) (e := 0) (by unfold c_part; rw [if_neg (fun z9 => (good_iff.mp z9).1.1 c_11)]) R (by omega) rfl⟩
    · refine mm_iload d_Model_part_111 rfl ?_
      refine mm_if_eq (tgt := 162) d_Model_part_113 (by decide) (fun _ => ?_) (fun c9 => absurd c9 (by decide))
      refine mm_iload d_Model_part_162 rfl ?_
      refine mm_if_ne (tgt := 173) d_Model_part_164 (by decide) (fun c9 => absurd c9 (by decide)) (fun _ => ?_)
      refine mm_aload_n d_Model_part_167 rfl ?_
      refine mm_iconst (v := 1) d_Model_part_168 (by decide) ?_
      refine mx_call d_Model_part_169 (mm_Inv.vi (as := [.int 1]) d_Model_part_169 (Or.inl m_763) m_765 ce_Model_fail.2.1 ce_Model_fail.2.2.1 mp_19 ce_Model_fail.2.2.2.2.2 ln_Model_fail cl_Model H.1 rfl) (J_Model_fail H) (by decide) ce_Model_fail.1 ce_Model_fail.2.1 ce_Model_fail.2.2.1 ce_Model_fail.2.2.2.1 (Nat.le_of_ble_eq_true rfl) F (fun h H F => ?_)
      exact mm_ireturn d_Model_part_172 rfl ⟨rfl, F, _, _, H, MC.inr (c := c) (e := 0) (by unfold c_part; rw [if_neg (fun z9 => (good_iff.mp z9).1.1 c_11)]) R (by omega) rfl⟩
  · refine mm_iload d_Model_part_14 rfl ?_
    refine mm_iconst (v := 0) d_Model_part_16 (by decide) ?_
    refine mm_bipush (v := 15) d_Model_part_17 (by decide) ?_
    refine mm_callD (kc' := 0) (ks' := 0) d_Model_part_19 (mm_Inv.sta (as := [.int l, .int 0, .int 15]) d_Model_part_19 (Or.inl m_756) m_757 ce_Model_within.2.1 ce_Model_within.2.2.1 ce_Model_within.2.2.2.1 ce_Model_within.2.2.2.2.2 ln_Model_within rfl) J_Model_within (by decide) ce_Model_within.1 ce_Model_within.2.1 ce_Model_within.2.2.1 ce_Model_within.2.2.2.1 (Nat.le_of_ble_eq_true rfl) ?_
    refine mm_if_eq (tgt := 55) d_Model_part_22 (by decide) (fun c_22 => ?_) (fun c_22 => ?_)
    · refine mm_iconst (v := 0) d_Model_part_55 (by decide) ?_
      refine mm_istore d_Model_part_56 (by decide) ?_
      refine mm_iload d_Model_part_58 rfl ?_
      refine mm_if_eq (tgt := 71) d_Model_part_60 (by decide) (fun _ => ?_) (fun c9 => absurd c9 (by decide))
      refine mm_iconst (v := 0) d_Model_part_71 (by decide) ?_
      refine mm_istore d_Model_part_72 (by decide) ?_
      refine mm_iload d_Model_part_74 rfl ?_
      refine mm_if_eq (tgt := 96) d_Model_part_76 (by decide) (fun _ => ?_) (fun c9 => absurd c9 (by decide))
      refine mm_iconst (v := 0) d_Model_part_96 (by decide) ?_
      refine mm_istore d_Model_part_97 (by decide) ?_
      refine mm_iconst (v := 0) d_Model_part_99 (by decide) ?_
      refine mm_istore d_Model_part_100 (by decide) ?_
      refine mm_iload d_Model_part_102 rfl ?_
      refine mm_aload_n d_Model_part_104 rfl ?_
      refine mx_get (k := 2) (v := nI c.1) d_Model_part_105 cl_Model fl_Model_78_Model (by decide) H.1 (congrArg (fun z => some (Value.int z)) hN) ?_
      refine mx_icmp_ge (a := 0) (b := c.1) (tgt := 162) d_Model_part_108 (by decide) (by omega) (by omega) (fun c_108 => ?_) (fun c_108 => ?_)
      · refine mm_iload d_Model_part_162 rfl ?_
        refine mm_if_ne (tgt := 173) d_Model_part_164 (by decide) (fun c9 => absurd c9 (by decide)) (fun _ => ?_)
        refine mm_aload_n d_Model_part_167 rfl ?_
        refine mm_iconst (v := 1) d_Model_part_168 (by decide) ?_
        refine mx_call d_Model_part_169 (mm_Inv.vi (as := [.int 1]) d_Model_part_169 (Or.inl m_763) m_765 ce_Model_fail.2.1 ce_Model_fail.2.2.1 mp_19 ce_Model_fail.2.2.2.2.2 ln_Model_fail cl_Model H.1 rfl) (J_Model_fail H) (by decide) ce_Model_fail.1 ce_Model_fail.2.1 ce_Model_fail.2.2.1 ce_Model_fail.2.2.2.1 (Nat.le_of_ble_eq_true rfl) F (fun h H F => ?_)
        exact mm_ireturn d_Model_part_172 rfl ⟨rfl, F, _, _, H, MC.inr (c := c) (e := 0) (by unfold c_part; rw [if_neg (fun z9 => (good_iff.mp z9).1.2.1 c_22)]) R (by omega) rfl⟩
      · refine mm_iload d_Model_part_111 rfl ?_
        refine mm_if_eq (tgt := 162) d_Model_part_113 (by decide) (fun _ => ?_) (fun c9 => absurd c9 (by decide))
        refine mm_iload d_Model_part_162 rfl ?_
        refine mm_if_ne (tgt := 173) d_Model_part_164 (by decide) (fun c9 => absurd c9 (by decide)) (fun _ => ?_)
        refine mm_aload_n d_Model_part_167 rfl ?_
        refine mm_iconst (v := 1) d_Model_part_168 (by decide) ?_
        refine mx_call d_Model_part_169 (mm_Inv.vi (as := [.int 1]) d_Model_part_169 (Or.inl m_763) m_765 ce_Model_fail.2.1 ce_Model_fail.2.2.1 mp_19 ce_Model_fail.2.2.2.2.2 ln_Model_fail cl_Model H.1 rfl) (J_Model_fail H) (by decide) ce_Model_fail.1 ce_Model_fail.2.1 ce_Model_fail.2.2.1 ce_Model_fail.2.2.2.1 (Nat.le_of_ble_eq_true rfl) F (fun h H F => ?_)
        exact mm_ireturn d_Model_part_172 rfl ⟨rfl, F, _, _, H, MC.inr (c := c) (e := 0) (by unfold c_part; rw [if_neg (fun z9 => (good_iff.mp z9).1.2.1 c_22)]) R (by omega) rfl⟩
    · refine mm_iload d_Model_part_25 rfl ?_
      refine mm_iconst (v := 0) d_Model_part_27 (by decide) ?_
      refine mm_bipush (v := 7) d_Model_part_28 (by decide) ?_
      refine mm_callD (kc' := 0) (ks' := 0) d_Model_part_30 (mm_Inv.sta (as := [.int w, .int 0, .int 7]) d_Model_part_30 (Or.inl m_756) m_757 ce_Model_within.2.1 ce_Model_within.2.2.1 ce_Model_within.2.2.2.1 ce_Model_within.2.2.2.2.2 ln_Model_within rfl) J_Model_within (by decide) ce_Model_within.1 ce_Model_within.2.1 ce_Model_within.2.2.1 ce_Model_within.2.2.2.1 (Nat.le_of_ble_eq_true rfl) ?_
      refine mm_if_eq (tgt := 55) d_Model_part_33 (by decide) (fun c_33 => ?_) (fun c_33 => ?_)
      · refine mm_iconst (v := 0) d_Model_part_55 (by decide) ?_
        refine mm_istore d_Model_part_56 (by decide) ?_
        refine mm_iload d_Model_part_58 rfl ?_
        refine mm_if_eq (tgt := 71) d_Model_part_60 (by decide) (fun _ => ?_) (fun c9 => absurd c9 (by decide))
        refine mm_iconst (v := 0) d_Model_part_71 (by decide) ?_
        refine mm_istore d_Model_part_72 (by decide) ?_
        refine mm_iload d_Model_part_74 rfl ?_
        refine mm_if_eq (tgt := 96) d_Model_part_76 (by decide) (fun _ => ?_) (fun c9 => absurd c9 (by decide))
        refine mm_iconst (v := 0) d_Model_part_96 (by decide) ?_
        refine mm_istore d_Model_part_97 (by decide) ?_
        refine mm_iconst (v := 0) d_Model_part_99 (by decide) ?_
        refine mm_istore d_Model_part_100 (by decide) ?_
        refine mm_iload d_Model_part_102 rfl ?_
        refine mm_aload_n d_Model_part_104 rfl ?_
        refine mx_get (k := 2) (v := nI c.1) d_Model_part_105 cl_Model fl_Model_78_Model (by decide) H.1 (congrArg (fun z => some (Value.int z)) hN) ?_
        refine mx_icmp_ge (a := 0) (b := c.1) (tgt := 162) d_Model_part_108 (by decide) (by omega) (by omega) (fun c_108 => ?_) (fun c_108 => ?_)
        · refine mm_iload d_Model_part_162 rfl ?_
          refine mm_if_ne (tgt := 173) d_Model_part_164 (by decide) (fun c9 => absurd c9 (by decide)) (fun _ => ?_)
          refine mm_aload_n d_Model_part_167 rfl ?_
          refine mm_iconst (v := 1) d_Model_part_168 (by decide) ?_
          refine mx_call d_Model_part_169 (mm_Inv.vi (as := [.int 1]) d_Model_part_169 (Or.inl m_763) m_765 ce_Model_fail.2.1 ce_Model_fail.2.2.1 mp_19 ce_Model_fail.2.2.2.2.2 ln_Model_fail cl_Model H.1 rfl) (J_Model_fail H) (by decide) ce_Model_fail.1 ce_Model_fail.2.1 ce_Model_fail.2.2.1 ce_Model_fail.2.2.2.1 (Nat.le_of_ble_eq_true rfl) F (fun h H F => ?_)
          exact mm_ireturn d_Model_part_172 rfl ⟨rfl, F, _, _, H, MC.inr (c := c) (e := 0) (by unfold c_part; rw [if_neg (fun z9 => (good_iff.mp z9).1.2.2.1 c_33)]) R (by omega) rfl⟩
        · refine mm_iload d_Model_part_111 rfl ?_
          refine mm_if_eq (tgt := 162) d_Model_part_113 (by decide) (fun _ => ?_) (fun c9 => absurd c9 (by decide))
          refine mm_iload d_Model_part_162 rfl ?_
          refine mm_if_ne (tgt := 173) d_Model_part_164 (by decide) (fun c9 => absurd c9 (by decide)) (fun _ => ?_)
          refine mm_aload_n d_Model_part_167 rfl ?_
          refine mm_iconst (v := 1) d_Model_part_168 (by decide) ?_
          refine mx_call d_Model_part_169 (mm_Inv.vi (as := [.int 1]) d_Model_part_169 (Or.inl m_763) m_765 ce_Model_fail.2.1 ce_Model_fail.2.2.1 mp_19 ce_Model_fail.2.2.2.2.2 ln_Model_fail cl_Model H.1 rfl) (J_Model_fail H) (by decide) ce_Model_fail.1 ce_Model_fail.2.1 ce_Model_fail.2.2.1 ce_Model_fail.2.2.2.1 (Nat.le_of_ble_eq_true rfl) F (fun h H F => ?_)
          exact mm_ireturn d_Model_part_172 rfl ⟨rfl, F, _, _, H, MC.inr (c := c) (e := 0) (by unfold c_part; rw [if_neg (fun z9 => (good_iff.mp z9).1.2.2.1 c_33)]) R (by omega) rfl⟩
      · refine mm_iload_n d_Model_part_36 rfl ?_
        refine mm_iconst (v := 1) d_Model_part_37 (by decide) ?_
        refine mm_icmp_gt (tgt := 51) d_Model_part_38 (by decide) (fun c_38 => ?_) (fun c_38 => ?_)
        · refine mm_iconst (v := 1) d_Model_part_51 (by decide) ?_
          refine mm_goto (tgt := 56) d_Model_part_52 (by decide) ?_
          refine mm_istore d_Model_part_56 (by decide) ?_
          refine mm_iload d_Model_part_58 rfl ?_
          refine mm_if_eq (tgt := 71) d_Model_part_60 (by decide) (fun c9 => absurd c9 (by decide)) (fun _ => ?_)
          refine mm_iload_n d_Model_part_63 rfl ?_
          refine mm_iload_n d_Model_part_64 rfl ?_
          refine mm_callD (kc' := 0) (ks' := 0) d_Model_part_65 (mm_Inv.sta (as := [.int k, .int z]) d_Model_part_65 (Or.inl m_759) m_760 ce_Model_sizeOf.2.1 ce_Model_sizeOf.2.2.1 ce_Model_sizeOf.2.2.2.1 ce_Model_sizeOf.2.2.2.2.2 ln_Model_sizeOf rfl) J_Model_sizeOf (by decide) ce_Model_sizeOf.1 ce_Model_sizeOf.2.1 ce_Model_sizeOf.2.2.1 ce_Model_sizeOf.2.2.2.1 (Nat.le_of_ble_eq_true rfl) ?_
          refine mm_goto (tgt := 72) d_Model_part_68 (by decide) ?_
          refine mm_istore d_Model_part_72 (by decide) ?_
          refine mm_iload d_Model_part_74 rfl ?_
          refine mm_if_eq (tgt := 96) d_Model_part_76 (by decide) (fun c9 => absurd c9 (by decide)) (fun _ => ?_)
          refine mm_iload_n d_Model_part_79 rfl ?_
          refine mm_if_lt (tgt := 96) d_Model_part_80 (by decide) (fun c_80 => ?_) (fun c_80 => ?_)
          · refine mm_iconst (v := 0) d_Model_part_96 (by decide) ?_
            refine mm_istore d_Model_part_97 (by decide) ?_
            refine mm_iconst (v := 0) d_Model_part_99 (by decide) ?_
            refine mm_istore d_Model_part_100 (by decide) ?_
            refine mm_iload d_Model_part_102 rfl ?_
            refine mm_aload_n d_Model_part_104 rfl ?_
            refine mx_get (k := 2) (v := nI c.1) d_Model_part_105 cl_Model fl_Model_78_Model (by decide) H.1 (congrArg (fun z => some (Value.int z)) hN) ?_
            refine mx_icmp_ge (a := 0) (b := c.1) (tgt := 162) d_Model_part_108 (by decide) (by omega) (by omega) (fun c_108 => ?_) (fun c_108 => ?_)
            · refine mm_iload d_Model_part_162 rfl ?_
              refine mm_if_ne (tgt := 173) d_Model_part_164 (by decide) (fun c9 => absurd c9 (by decide)) (fun _ => ?_)
              refine mm_aload_n d_Model_part_167 rfl ?_
              refine mm_iconst (v := 1) d_Model_part_168 (by decide) ?_
              refine mx_call d_Model_part_169 (mm_Inv.vi (as := [.int 1]) d_Model_part_169 (Or.inl m_763) m_765 ce_Model_fail.2.1 ce_Model_fail.2.2.1 mp_19 ce_Model_fail.2.2.2.2.2 ln_Model_fail cl_Model H.1 rfl) (J_Model_fail H) (by decide) ce_Model_fail.1 ce_Model_fail.2.1 ce_Model_fail.2.2.1 ce_Model_fail.2.2.2.1 (Nat.le_of_ble_eq_true rfl) F (fun h H F => ?_)
              exact mm_ireturn d_Model_part_172 rfl ⟨rfl, F, _, _, H, MC.inr (c := c) (e := 0) (by unfold c_part; rw [if_neg (fun z9 => (good_iff.mp z9).2.1 c_80)]) R (by omega) rfl⟩
            · refine mm_iload d_Model_part_111 rfl ?_
              refine mm_if_eq (tgt := 162) d_Model_part_113 (by decide) (fun _ => ?_) (fun c9 => absurd c9 (by decide))
              refine mm_iload d_Model_part_162 rfl ?_
              refine mm_if_ne (tgt := 173) d_Model_part_164 (by decide) (fun c9 => absurd c9 (by decide)) (fun _ => ?_)
              refine mm_aload_n d_Model_part_167 rfl ?_
              refine mm_iconst (v := 1) d_Model_part_168 (by decide) ?_
              refine mx_call d_Model_part_169 (mm_Inv.vi (as := [.int 1]) d_Model_part_169 (Or.inl m_763) m_765 ce_Model_fail.2.1 ce_Model_fail.2.2.1 mp_19 ce_Model_fail.2.2.2.2.2 ln_Model_fail cl_Model H.1 rfl) (J_Model_fail H) (by decide) ce_Model_fail.1 ce_Model_fail.2.1 ce_Model_fail.2.2.1 ce_Model_fail.2.2.2.1 (Nat.le_of_ble_eq_true rfl) F (fun h H F => ?_)
              exact mm_ireturn d_Model_part_172 rfl ⟨rfl, F, _, _, H, MC.inr (c := c) (e := 0) (by unfold c_part; rw [if_neg (fun z9 => (good_iff.mp z9).2.1 c_80)]) R (by omega) rfl⟩
          · refine mm_iload_n d_Model_part_83 rfl ?_
            refine mm_ldc d_Model_part_84 m_762 rfl ?_
            refine mm_iload d_Model_part_86 rfl ?_
            refine mm_isub d_Model_part_88 ?_
            refine mm_icmp_gt (tgt := 96) d_Model_part_89 (by decide) (fun c_89 => ?_) (fun c_89 => ?_)
            · refine mm_iconst (v := 0) d_Model_part_96 (by decide) ?_
              refine mm_istore d_Model_part_97 (by decide) ?_
              refine mm_iconst (v := 0) d_Model_part_99 (by decide) ?_
              refine mm_istore d_Model_part_100 (by decide) ?_
              refine mm_iload d_Model_part_102 rfl ?_
              refine mm_aload_n d_Model_part_104 rfl ?_
              refine mx_get (k := 2) (v := nI c.1) d_Model_part_105 cl_Model fl_Model_78_Model (by decide) H.1 (congrArg (fun z => some (Value.int z)) hN) ?_
              refine mx_icmp_ge (a := 0) (b := c.1) (tgt := 162) d_Model_part_108 (by decide) (by omega) (by omega) (fun c_108 => ?_) (fun c_108 => ?_)
              · refine mm_iload d_Model_part_162 rfl ?_
                refine mm_if_ne (tgt := 173) d_Model_part_164 (by decide) (fun c9 => absurd c9 (by decide)) (fun _ => ?_)
                refine mm_aload_n d_Model_part_167 rfl ?_
                refine mm_iconst (v := 1) d_Model_part_168 (by decide) ?_
                refine mx_call d_Model_part_169 (mm_Inv.vi (as := [.int 1]) d_Model_part_169 (Or.inl m_763) m_765 ce_Model_fail.2.1 ce_Model_fail.2.2.1 mp_19 ce_Model_fail.2.2.2.2.2 ln_Model_fail cl_Model H.1 rfl) (J_Model_fail H) (by decide) ce_Model_fail.1 ce_Model_fail.2.1 ce_Model_fail.2.2.1 ce_Model_fail.2.2.2.1 (Nat.le_of_ble_eq_true rfl) F (fun h H F => ?_)
                exact mm_ireturn d_Model_part_172 rfl ⟨rfl, F, _, _, H, MC.inr (c := c) (e := 0) (by unfold c_part; rw [if_neg (fun z9 => absurd c_89 (Int32.not_lt.mpr (good_iff.mp z9).2.2.1))]) R (by omega) rfl⟩
              · refine mm_iload d_Model_part_111 rfl ?_
                refine mm_if_eq (tgt := 162) d_Model_part_113 (by decide) (fun _ => ?_) (fun c9 => absurd c9 (by decide))
                refine mm_iload d_Model_part_162 rfl ?_
                refine mm_if_ne (tgt := 173) d_Model_part_164 (by decide) (fun c9 => absurd c9 (by decide)) (fun _ => ?_)
                refine mm_aload_n d_Model_part_167 rfl ?_
                refine mm_iconst (v := 1) d_Model_part_168 (by decide) ?_
                refine mx_call d_Model_part_169 (mm_Inv.vi (as := [.int 1]) d_Model_part_169 (Or.inl m_763) m_765 ce_Model_fail.2.1 ce_Model_fail.2.2.1 mp_19 ce_Model_fail.2.2.2.2.2 ln_Model_fail cl_Model H.1 rfl) (J_Model_fail H) (by decide) ce_Model_fail.1 ce_Model_fail.2.1 ce_Model_fail.2.2.1 ce_Model_fail.2.2.2.1 (Nat.le_of_ble_eq_true rfl) F (fun h H F => ?_)
                exact mm_ireturn d_Model_part_172 rfl ⟨rfl, F, _, _, H, MC.inr (c := c) (e := 0) (by unfold c_part; rw [if_neg (fun z9 => absurd c_89 (Int32.not_lt.mpr (good_iff.mp z9).2.2.1))]) R (by omega) rfl⟩
            · refine mm_iconst (v := 1) d_Model_part_92 (by decide) ?_
              refine mm_goto (tgt := 97) d_Model_part_93 (by decide) ?_
              refine mm_istore d_Model_part_97 (by decide) ?_
              refine mm_iconst (v := 0) d_Model_part_99 (by decide) ?_
              refine mm_istore d_Model_part_100 (by decide) ?_
              obtain ⟨kd, b, hkd, rfl, hsz, hsl, hb1, hb64, z2, z3, z4, z5⟩ := size_nI c_11 (Or.inl c_38)
              obtain ⟨a, ha, rfl⟩ := nI_of c_80
              rw [hsz] at c_89
              have hab : a + b ≤ 65536 := by have h9 := Int32.not_lt.mp c_89; rw [show (65536 : Int32) - nI b = nI (65536 - b) from nI_sub (a := 65536) (by omega)] at h9; have := (nI_leI ha (by omega)).mp h9; omega
              obtain ⟨jl, hjl, rfl⟩ := line_in c_22
              obtain ⟨jw, hjw, rfl⟩ := wait_in c_33
              have hgd : ∀ bb, c_free c.1 c.2.1 (nI a) (nI b) 12 = bb → c_good (nI kd) (nI a) z (nI jl) (nI jw) c = bb := fun bb hbb => by
                cases bb with
                | true => exact good_iff.mpr ⟨⟨c_11, c_22, c_33, (Or.inl c_38)⟩, c_80, by rw [hsz]; exact Int32.not_lt.mp c_89, by rw [hsz]; exact hbb⟩
                | false => exact Bool.eq_false_iff.mpr (fun z9 => by have h9 := (good_iff.mp z9).2.2.2; rw [hsz, hbb] at h9; exact absurd h9 (by decide))
              refine mm_G.cast (l' := [some (.ref m), some (.int (nI kd)), some (.int (nI a)), some (.int z), some (.int (nI jl)), some (.int (nI jw)), some (.int 1), some (.int (nI b)), some (.int (nI 0))]) (by rw [hsz]; rfl) rfl rfl ?_
              refine lp_free (T := T) H R hab hb1 (fun hfr => ?_) (fun i hfr => ?_) c.1 0 (by omega) rfl
              · refine mm_iload d_Model_part_162 rfl ?_
                refine mm_if_ne (tgt := 173) d_Model_part_164 (by decide) (fun _ => ?_) (fun c9 => absurd c9 (by decide))
                refine mm_aload_n d_Model_part_173 rfl ?_
                refine mx_get (k := 2) (v := nI c.1) d_Model_part_174 cl_Model fl_Model_78_Model (by decide) H.1 (congrArg (fun z => some (Value.int z)) hN) ?_
                refine mm_bipush (v := 12) d_Model_part_177 (by decide) ?_
                refine mx_icmp_ne (a := c.1) (b := 12) (tgt := 188) d_Model_part_179 (by decide) (by omega) (by omega) (fun c_179 => ?_) (fun c_179 => ?_)
                · refine mm_aload_n d_Model_part_188 rfl ?_
                  refine mm_getf (v := .ref (m + 1)) d_Model_part_189 cl_Model fl_Model_7_Model (by decide) H.1 rfl ?_
                  refine mm_aload_n d_Model_part_192 rfl ?_
                  refine mx_get (k := 2) (v := nI c.1) d_Model_part_193 cl_Model fl_Model_78_Model (by decide) H.1 (congrArg (fun z => some (Value.int z)) hN) ?_
                  refine mm_iload_n d_Model_part_196 rfl ?_
                  refine mx_ast (E := c.1) d_Model_part_197 (mh_0 H) (by omega) (by decide) ?_
                  refine mh_a (j := 0) (f := (upd (A 0) c.1 (nI kd))) (by decide) H F (fun h H F => ?_)
                  refine mm_aload_n d_Model_part_198 rfl ?_
                  refine mm_getf (v := .ref (m + 2)) d_Model_part_199 cl_Model fl_Model_13_Model (by decide) H.1 rfl ?_
                  refine mm_aload_n d_Model_part_202 rfl ?_
                  refine mx_get (k := 2) (v := nI c.1) d_Model_part_203 cl_Model fl_Model_78_Model (by decide) H.1 (congrArg (fun z => some (Value.int z)) hN) ?_
                  refine mm_iload_n d_Model_part_206 rfl ?_
                  refine mx_ast (E := c.1) d_Model_part_207 (mh_1 H) (by omega) (by decide) ?_
                  refine mh_a (j := 1) (f := (upd (A 1) c.1 (nI a))) (by decide) H F (fun h H F => ?_)
                  refine mm_aload_n d_Model_part_208 rfl ?_
                  refine mm_getf (v := .ref (m + 3)) d_Model_part_209 cl_Model fl_Model_16_Model (by decide) H.1 rfl ?_
                  refine mm_aload_n d_Model_part_212 rfl ?_
                  refine mx_get (k := 2) (v := nI c.1) d_Model_part_213 cl_Model fl_Model_78_Model (by decide) H.1 (congrArg (fun z => some (Value.int z)) hN) ?_
                  refine mm_iload d_Model_part_216 rfl ?_
                  refine mx_ast (E := c.1) d_Model_part_218 (mh_2 H) (by omega) (by decide) ?_
                  refine mh_a (j := 2) (f := (upd (A 2) c.1 (nI b))) (by decide) H F (fun h H F => ?_)
                  refine mm_aload_n d_Model_part_219 rfl ?_
                  refine mm_getf (v := .ref (m + 4)) d_Model_part_220 cl_Model fl_Model_19_Model (by decide) H.1 rfl ?_
                  refine mm_aload_n d_Model_part_223 rfl ?_
                  refine mx_get (k := 2) (v := nI c.1) d_Model_part_224 cl_Model fl_Model_78_Model (by decide) H.1 (congrArg (fun z => some (Value.int z)) hN) ?_
                  refine mm_iload d_Model_part_227 rfl ?_
                  refine mx_ast (E := c.1) d_Model_part_229 (mh_3 H) (by omega) (by decide) ?_
                  refine mh_a (j := 3) (f := (upd (A 3) c.1 (nI jl))) (by decide) H F (fun h H F => ?_)
                  refine mm_aload_n d_Model_part_230 rfl ?_
                  refine mm_getf (v := .ref (m + 5)) d_Model_part_231 cl_Model fl_Model_22_Model (by decide) H.1 rfl ?_
                  refine mm_aload_n d_Model_part_234 rfl ?_
                  refine mx_get (k := 2) (v := nI c.1) d_Model_part_235 cl_Model fl_Model_78_Model (by decide) H.1 (congrArg (fun z => some (Value.int z)) hN) ?_
                  refine mm_iload d_Model_part_238 rfl ?_
                  refine mx_ast (E := c.1) d_Model_part_240 (mh_4 H) (by omega) (by decide) ?_
                  refine mh_a (j := 4) (f := (upd (A 4) c.1 (nI jw))) (by decide) H F (fun h H F => ?_)
                  refine mm_aload_n d_Model_part_241 rfl ?_
                  refine mm_dup d_Model_part_242 rfl ?_
                  refine mx_get (k := 2) (v := nI c.1) d_Model_part_243 cl_Model fl_Model_78_Model (by decide) H.1 (congrArg (fun z => some (Value.int z)) hN) ?_
                  refine mm_iconst (v := 1) d_Model_part_246 (by decide) ?_
                  refine mx_add (a := c.1) (b := 1) (c := c.1 + 1) d_Model_part_247 (by omega) ?_
                  refine mm_putf d_Model_part_248 cl_Model ty_Model fl_Model_78_Model (by decide) rfl rfl rfl H.1 (Nat.le_of_ble_eq_true rfl) ?_
                  refine mh_i2 H F (fun h H F => ?_)
                  refine mm_aload_n d_Model_part_251 rfl ?_
                  refine mx_get (k := 2) (v := nI (c.1 + 1)) d_Model_part_252 cl_Model fl_Model_78_Model (by decide) H.1 rfl ?_
                  refine mm_iconst (v := 1) d_Model_part_255 (by decide) ?_
                  refine mx_sub (a := c.1 + 1) (b := 1) (c := c.1) d_Model_part_256 (by omega) (by omega) ?_
                  exact mm_ireturn d_Model_part_257 rfl ⟨rfl, F, _, _, H, MC.inl (c := c_more c (p_fresh kd (nI a) (nI b) (nI jl) (nI jw))) (v := nI c.1) (by unfold c_part; rw [if_pos (hgd true hfr), if_pos (by omega), nI_clamp (by omega), hsl]) (more_MR R (by omega) hkd hab hb1 hb64 hjl hjw z2 z3 z4 z5) (by omega) rfl rfl⟩
                · refine mm_aload_n d_Model_part_182 rfl ?_
                  refine mm_iconst (v := 2) d_Model_part_183 (by decide) ?_
                  refine mx_call d_Model_part_184 (mm_Inv.vi (as := [.int 2]) d_Model_part_184 (Or.inl m_763) m_765 ce_Model_fail.2.1 ce_Model_fail.2.2.1 mp_19 ce_Model_fail.2.2.2.2.2 ln_Model_fail cl_Model H.1 rfl) (J_Model_fail H) (by decide) ce_Model_fail.1 ce_Model_fail.2.1 ce_Model_fail.2.2.1 ce_Model_fail.2.2.2.1 (Nat.le_of_ble_eq_true rfl) F (fun h H F => ?_)
                  exact mm_ireturn d_Model_part_187 rfl ⟨rfl, F, _, _, H, MC.inr (c := c) (e := 1) (by unfold c_part; rw [if_pos (hgd true hfr), if_neg (by omega)]) R (by omega) rfl⟩
              · refine mm_iload d_Model_part_162 rfl ?_
                refine mm_if_ne (tgt := 173) d_Model_part_164 (by decide) (fun c9 => absurd c9 (by decide)) (fun _ => ?_)
                refine mm_aload_n d_Model_part_167 rfl ?_
                refine mm_iconst (v := 1) d_Model_part_168 (by decide) ?_
                refine mx_call d_Model_part_169 (mm_Inv.vi (as := [.int 1]) d_Model_part_169 (Or.inl m_763) m_765 ce_Model_fail.2.1 ce_Model_fail.2.2.1 mp_19 ce_Model_fail.2.2.2.2.2 ln_Model_fail cl_Model H.1 rfl) (J_Model_fail H) (by decide) ce_Model_fail.1 ce_Model_fail.2.1 ce_Model_fail.2.2.1 ce_Model_fail.2.2.2.1 (Nat.le_of_ble_eq_true rfl) F (fun h H F => ?_)
                exact mm_ireturn d_Model_part_172 rfl ⟨rfl, F, _, _, H, MC.inr (c := c) (e := 0) (by unfold c_part; rw [if_neg (by rw [hgd false hfr]; decide)]) R (by omega) rfl⟩
        · refine mm_iload_n d_Model_part_41 rfl ?_
          refine mm_iconst (v := 1) d_Model_part_42 (by decide) ?_
          refine mm_bipush (v := 64) d_Model_part_43 (by decide) ?_
          refine mm_callD (kc' := 0) (ks' := 0) d_Model_part_45 (mm_Inv.sta (as := [.int z, .int 1, .int 64]) d_Model_part_45 (Or.inl m_756) m_757 ce_Model_within.2.1 ce_Model_within.2.2.1 ce_Model_within.2.2.2.1 ce_Model_within.2.2.2.2.2 ln_Model_within rfl) J_Model_within (by decide) ce_Model_within.1 ce_Model_within.2.1 ce_Model_within.2.2.1 ce_Model_within.2.2.2.1 (Nat.le_of_ble_eq_true rfl) ?_
          refine mm_if_eq (tgt := 55) d_Model_part_48 (by decide) (fun c_48 => ?_) (fun c_48 => ?_)
          · refine mm_iconst (v := 0) d_Model_part_55 (by decide) ?_
            refine mm_istore d_Model_part_56 (by decide) ?_
            refine mm_iload d_Model_part_58 rfl ?_
            refine mm_if_eq (tgt := 71) d_Model_part_60 (by decide) (fun _ => ?_) (fun c9 => absurd c9 (by decide))
            refine mm_iconst (v := 0) d_Model_part_71 (by decide) ?_
            refine mm_istore d_Model_part_72 (by decide) ?_
            refine mm_iload d_Model_part_74 rfl ?_
            refine mm_if_eq (tgt := 96) d_Model_part_76 (by decide) (fun _ => ?_) (fun c9 => absurd c9 (by decide))
            refine mm_iconst (v := 0) d_Model_part_96 (by decide) ?_
            refine mm_istore d_Model_part_97 (by decide) ?_
            refine mm_iconst (v := 0) d_Model_part_99 (by decide) ?_
            refine mm_istore d_Model_part_100 (by decide) ?_
            refine mm_iload d_Model_part_102 rfl ?_
            refine mm_aload_n d_Model_part_104 rfl ?_
            refine mx_get (k := 2) (v := nI c.1) d_Model_part_105 cl_Model fl_Model_78_Model (by decide) H.1 (congrArg (fun z => some (Value.int z)) hN) ?_
            refine mx_icmp_ge (a := 0) (b := c.1) (tgt := 162) d_Model_part_108 (by decide) (by omega) (by omega) (fun c_108 => ?_) (fun c_108 => ?_)
            · refine mm_iload d_Model_part_162 rfl ?_
              refine mm_if_ne (tgt := 173) d_Model_part_164 (by decide) (fun c9 => absurd c9 (by decide)) (fun _ => ?_)
              refine mm_aload_n d_Model_part_167 rfl ?_
              refine mm_iconst (v := 1) d_Model_part_168 (by decide) ?_
              refine mx_call d_Model_part_169 (mm_Inv.vi (as := [.int 1]) d_Model_part_169 (Or.inl m_763) m_765 ce_Model_fail.2.1 ce_Model_fail.2.2.1 mp_19 ce_Model_fail.2.2.2.2.2 ln_Model_fail cl_Model H.1 rfl) (J_Model_fail H) (by decide) ce_Model_fail.1 ce_Model_fail.2.1 ce_Model_fail.2.2.1 ce_Model_fail.2.2.2.1 (Nat.le_of_ble_eq_true rfl) F (fun h H F => ?_)
              exact mm_ireturn d_Model_part_172 rfl ⟨rfl, F, _, _, H, MC.inr (c := c) (e := 0) (by unfold c_part; rw [if_neg (fun z9 => ((good_iff.mp z9).1.2.2.2).elim c_38 (fun z8 => z8 c_48))]) R (by omega) rfl⟩
            · refine mm_iload d_Model_part_111 rfl ?_
              refine mm_if_eq (tgt := 162) d_Model_part_113 (by decide) (fun _ => ?_) (fun c9 => absurd c9 (by decide))
              refine mm_iload d_Model_part_162 rfl ?_
              refine mm_if_ne (tgt := 173) d_Model_part_164 (by decide) (fun c9 => absurd c9 (by decide)) (fun _ => ?_)
              refine mm_aload_n d_Model_part_167 rfl ?_
              refine mm_iconst (v := 1) d_Model_part_168 (by decide) ?_
              refine mx_call d_Model_part_169 (mm_Inv.vi (as := [.int 1]) d_Model_part_169 (Or.inl m_763) m_765 ce_Model_fail.2.1 ce_Model_fail.2.2.1 mp_19 ce_Model_fail.2.2.2.2.2 ln_Model_fail cl_Model H.1 rfl) (J_Model_fail H) (by decide) ce_Model_fail.1 ce_Model_fail.2.1 ce_Model_fail.2.2.1 ce_Model_fail.2.2.2.1 (Nat.le_of_ble_eq_true rfl) F (fun h H F => ?_)
              exact mm_ireturn d_Model_part_172 rfl ⟨rfl, F, _, _, H, MC.inr (c := c) (e := 0) (by unfold c_part; rw [if_neg (fun z9 => ((good_iff.mp z9).1.2.2.2).elim c_38 (fun z8 => z8 c_48))]) R (by omega) rfl⟩
          · refine mm_iconst (v := 1) d_Model_part_51 (by decide) ?_
            refine mm_goto (tgt := 56) d_Model_part_52 (by decide) ?_
            refine mm_istore d_Model_part_56 (by decide) ?_
            refine mm_iload d_Model_part_58 rfl ?_
            refine mm_if_eq (tgt := 71) d_Model_part_60 (by decide) (fun c9 => absurd c9 (by decide)) (fun _ => ?_)
            refine mm_iload_n d_Model_part_63 rfl ?_
            refine mm_iload_n d_Model_part_64 rfl ?_
            refine mm_callD (kc' := 0) (ks' := 0) d_Model_part_65 (mm_Inv.sta (as := [.int k, .int z]) d_Model_part_65 (Or.inl m_759) m_760 ce_Model_sizeOf.2.1 ce_Model_sizeOf.2.2.1 ce_Model_sizeOf.2.2.2.1 ce_Model_sizeOf.2.2.2.2.2 ln_Model_sizeOf rfl) J_Model_sizeOf (by decide) ce_Model_sizeOf.1 ce_Model_sizeOf.2.1 ce_Model_sizeOf.2.2.1 ce_Model_sizeOf.2.2.2.1 (Nat.le_of_ble_eq_true rfl) ?_
            refine mm_goto (tgt := 72) d_Model_part_68 (by decide) ?_
            refine mm_istore d_Model_part_72 (by decide) ?_
            refine mm_iload d_Model_part_74 rfl ?_
            refine mm_if_eq (tgt := 96) d_Model_part_76 (by decide) (fun c9 => absurd c9 (by decide)) (fun _ => ?_)
            refine mm_iload_n d_Model_part_79 rfl ?_
            refine mm_if_lt (tgt := 96) d_Model_part_80 (by decide) (fun c_80 => ?_) (fun c_80 => ?_)
            · refine mm_iconst (v := 0) d_Model_part_96 (by decide) ?_
              refine mm_istore d_Model_part_97 (by decide) ?_
              refine mm_iconst (v := 0) d_Model_part_99 (by decide) ?_
              refine mm_istore d_Model_part_100 (by decide) ?_
              refine mm_iload d_Model_part_102 rfl ?_
              refine mm_aload_n d_Model_part_104 rfl ?_
              refine mx_get (k := 2) (v := nI c.1) d_Model_part_105 cl_Model fl_Model_78_Model (by decide) H.1 (congrArg (fun z => some (Value.int z)) hN) ?_
              refine mx_icmp_ge (a := 0) (b := c.1) (tgt := 162) d_Model_part_108 (by decide) (by omega) (by omega) (fun c_108 => ?_) (fun c_108 => ?_)
              · refine mm_iload d_Model_part_162 rfl ?_
                refine mm_if_ne (tgt := 173) d_Model_part_164 (by decide) (fun c9 => absurd c9 (by decide)) (fun _ => ?_)
                refine mm_aload_n d_Model_part_167 rfl ?_
                refine mm_iconst (v := 1) d_Model_part_168 (by decide) ?_
                refine mx_call d_Model_part_169 (mm_Inv.vi (as := [.int 1]) d_Model_part_169 (Or.inl m_763) m_765 ce_Model_fail.2.1 ce_Model_fail.2.2.1 mp_19 ce_Model_fail.2.2.2.2.2 ln_Model_fail cl_Model H.1 rfl) (J_Model_fail H) (by decide) ce_Model_fail.1 ce_Model_fail.2.1 ce_Model_fail.2.2.1 ce_Model_fail.2.2.2.1 (Nat.le_of_ble_eq_true rfl) F (fun h H F => ?_)
                exact mm_ireturn d_Model_part_172 rfl ⟨rfl, F, _, _, H, MC.inr (c := c) (e := 0) (by unfold c_part; rw [if_neg (fun z9 => (good_iff.mp z9).2.1 c_80)]) R (by omega) rfl⟩
              · refine mm_iload d_Model_part_111 rfl ?_
                refine mm_if_eq (tgt := 162) d_Model_part_113 (by decide) (fun _ => ?_) (fun c9 => absurd c9 (by decide))
                refine mm_iload d_Model_part_162 rfl ?_
                refine mm_if_ne (tgt := 173) d_Model_part_164 (by decide) (fun c9 => absurd c9 (by decide)) (fun _ => ?_)
                refine mm_aload_n d_Model_part_167 rfl ?_
                refine mm_iconst (v := 1) d_Model_part_168 (by decide) ?_
                refine mx_call d_Model_part_169 (mm_Inv.vi (as := [.int 1]) d_Model_part_169 (Or.inl m_763) m_765 ce_Model_fail.2.1 ce_Model_fail.2.2.1 mp_19 ce_Model_fail.2.2.2.2.2 ln_Model_fail cl_Model H.1 rfl) (J_Model_fail H) (by decide) ce_Model_fail.1 ce_Model_fail.2.1 ce_Model_fail.2.2.1 ce_Model_fail.2.2.2.1 (Nat.le_of_ble_eq_true rfl) F (fun h H F => ?_)
                exact mm_ireturn d_Model_part_172 rfl ⟨rfl, F, _, _, H, MC.inr (c := c) (e := 0) (by unfold c_part; rw [if_neg (fun z9 => (good_iff.mp z9).2.1 c_80)]) R (by omega) rfl⟩
            · refine mm_iload_n d_Model_part_83 rfl ?_
              refine mm_ldc d_Model_part_84 m_762 rfl ?_
              refine mm_iload d_Model_part_86 rfl ?_
              refine mm_isub d_Model_part_88 ?_
              refine mm_icmp_gt (tgt := 96) d_Model_part_89 (by decide) (fun c_89 => ?_) (fun c_89 => ?_)
              · refine mm_iconst (v := 0) d_Model_part_96 (by decide) ?_
                refine mm_istore d_Model_part_97 (by decide) ?_
                refine mm_iconst (v := 0) d_Model_part_99 (by decide) ?_
                refine mm_istore d_Model_part_100 (by decide) ?_
                refine mm_iload d_Model_part_102 rfl ?_
                refine mm_aload_n d_Model_part_104 rfl ?_
                refine mx_get (k := 2) (v := nI c.1) d_Model_part_105 cl_Model fl_Model_78_Model (by decide) H.1 (congrArg (fun z => some (Value.int z)) hN) ?_
                refine mx_icmp_ge (a := 0) (b := c.1) (tgt := 162) d_Model_part_108 (by decide) (by omega) (by omega) (fun c_108 => ?_) (fun c_108 => ?_)
                · refine mm_iload d_Model_part_162 rfl ?_
                  refine mm_if_ne (tgt := 173) d_Model_part_164 (by decide) (fun c9 => absurd c9 (by decide)) (fun _ => ?_)
                  refine mm_aload_n d_Model_part_167 rfl ?_
                  refine mm_iconst (v := 1) d_Model_part_168 (by decide) ?_
                  refine mx_call d_Model_part_169 (mm_Inv.vi (as := [.int 1]) d_Model_part_169 (Or.inl m_763) m_765 ce_Model_fail.2.1 ce_Model_fail.2.2.1 mp_19 ce_Model_fail.2.2.2.2.2 ln_Model_fail cl_Model H.1 rfl) (J_Model_fail H) (by decide) ce_Model_fail.1 ce_Model_fail.2.1 ce_Model_fail.2.2.1 ce_Model_fail.2.2.2.1 (Nat.le_of_ble_eq_true rfl) F (fun h H F => ?_)
                  exact mm_ireturn d_Model_part_172 rfl ⟨rfl, F, _, _, H, MC.inr (c := c) (e := 0) (by unfold c_part; rw [if_neg (fun z9 => absurd c_89 (Int32.not_lt.mpr (good_iff.mp z9).2.2.1))]) R (by omega) rfl⟩
                · refine mm_iload d_Model_part_111 rfl ?_
                  refine mm_if_eq (tgt := 162) d_Model_part_113 (by decide) (fun _ => ?_) (fun c9 => absurd c9 (by decide))
                  refine mm_iload d_Model_part_162 rfl ?_
                  refine mm_if_ne (tgt := 173) d_Model_part_164 (by decide) (fun c9 => absurd c9 (by decide)) (fun _ => ?_)
                  refine mm_aload_n d_Model_part_167 rfl ?_
                  refine mm_iconst (v := 1) d_Model_part_168 (by decide) ?_
                  refine mx_call d_Model_part_169 (mm_Inv.vi (as := [.int 1]) d_Model_part_169 (Or.inl m_763) m_765 ce_Model_fail.2.1 ce_Model_fail.2.2.1 mp_19 ce_Model_fail.2.2.2.2.2 ln_Model_fail cl_Model H.1 rfl) (J_Model_fail H) (by decide) ce_Model_fail.1 ce_Model_fail.2.1 ce_Model_fail.2.2.1 ce_Model_fail.2.2.2.1 (Nat.le_of_ble_eq_true rfl) F (fun h H F => ?_)
                  exact mm_ireturn d_Model_part_172 rfl ⟨rfl, F, _, _, H, MC.inr (c := c) (e := 0) (by unfold c_part; rw [if_neg (fun z9 => absurd c_89 (Int32.not_lt.mpr (good_iff.mp z9).2.2.1))]) R (by omega) rfl⟩
              · refine mm_iconst (v := 1) d_Model_part_92 (by decide) ?_
                refine mm_goto (tgt := 97) d_Model_part_93 (by decide) ?_
                refine mm_istore d_Model_part_97 (by decide) ?_
                refine mm_iconst (v := 0) d_Model_part_99 (by decide) ?_
                refine mm_istore d_Model_part_100 (by decide) ?_
                obtain ⟨kd, b, hkd, rfl, hsz, hsl, hb1, hb64, z2, z3, z4, z5⟩ := size_nI c_11 (Or.inr c_48)
                obtain ⟨a, ha, rfl⟩ := nI_of c_80
                rw [hsz] at c_89
                have hab : a + b ≤ 65536 := by have h9 := Int32.not_lt.mp c_89; rw [show (65536 : Int32) - nI b = nI (65536 - b) from nI_sub (a := 65536) (by omega)] at h9; have := (nI_leI ha (by omega)).mp h9; omega
                obtain ⟨jl, hjl, rfl⟩ := line_in c_22
                obtain ⟨jw, hjw, rfl⟩ := wait_in c_33
                have hgd : ∀ bb, c_free c.1 c.2.1 (nI a) (nI b) 12 = bb → c_good (nI kd) (nI a) z (nI jl) (nI jw) c = bb := fun bb hbb => by
                  cases bb with
                  | true => exact good_iff.mpr ⟨⟨c_11, c_22, c_33, (Or.inr c_48)⟩, c_80, by rw [hsz]; exact Int32.not_lt.mp c_89, by rw [hsz]; exact hbb⟩
                  | false => exact Bool.eq_false_iff.mpr (fun z9 => by have h9 := (good_iff.mp z9).2.2.2; rw [hsz, hbb] at h9; exact absurd h9 (by decide))
                refine mm_G.cast (l' := [some (.ref m), some (.int (nI kd)), some (.int (nI a)), some (.int z), some (.int (nI jl)), some (.int (nI jw)), some (.int 1), some (.int (nI b)), some (.int (nI 0))]) (by rw [hsz]; rfl) rfl rfl ?_
                refine lp_free (T := T) H R hab hb1 (fun hfr => ?_) (fun i hfr => ?_) c.1 0 (by omega) rfl
                · refine mm_iload d_Model_part_162 rfl ?_
                  refine mm_if_ne (tgt := 173) d_Model_part_164 (by decide) (fun _ => ?_) (fun c9 => absurd c9 (by decide))
                  refine mm_aload_n d_Model_part_173 rfl ?_
                  refine mx_get (k := 2) (v := nI c.1) d_Model_part_174 cl_Model fl_Model_78_Model (by decide) H.1 (congrArg (fun z => some (Value.int z)) hN) ?_
                  refine mm_bipush (v := 12) d_Model_part_177 (by decide) ?_
                  refine mx_icmp_ne (a := c.1) (b := 12) (tgt := 188) d_Model_part_179 (by decide) (by omega) (by omega) (fun c_179 => ?_) (fun c_179 => ?_)
                  · refine mm_aload_n d_Model_part_188 rfl ?_
                    refine mm_getf (v := .ref (m + 1)) d_Model_part_189 cl_Model fl_Model_7_Model (by decide) H.1 rfl ?_
                    refine mm_aload_n d_Model_part_192 rfl ?_
                    refine mx_get (k := 2) (v := nI c.1) d_Model_part_193 cl_Model fl_Model_78_Model (by decide) H.1 (congrArg (fun z => some (Value.int z)) hN) ?_
                    refine mm_iload_n d_Model_part_196 rfl ?_
                    refine mx_ast (E := c.1) d_Model_part_197 (mh_0 H) (by omega) (by decide) ?_
                    refine mh_a (j := 0) (f := (upd (A 0) c.1 (nI kd))) (by decide) H F (fun h H F => ?_)
                    refine mm_aload_n d_Model_part_198 rfl ?_
                    refine mm_getf (v := .ref (m + 2)) d_Model_part_199 cl_Model fl_Model_13_Model (by decide) H.1 rfl ?_
                    refine mm_aload_n d_Model_part_202 rfl ?_
                    refine mx_get (k := 2) (v := nI c.1) d_Model_part_203 cl_Model fl_Model_78_Model (by decide) H.1 (congrArg (fun z => some (Value.int z)) hN) ?_
                    refine mm_iload_n d_Model_part_206 rfl ?_
                    refine mx_ast (E := c.1) d_Model_part_207 (mh_1 H) (by omega) (by decide) ?_
                    refine mh_a (j := 1) (f := (upd (A 1) c.1 (nI a))) (by decide) H F (fun h H F => ?_)
                    refine mm_aload_n d_Model_part_208 rfl ?_
                    refine mm_getf (v := .ref (m + 3)) d_Model_part_209 cl_Model fl_Model_16_Model (by decide) H.1 rfl ?_
                    refine mm_aload_n d_Model_part_212 rfl ?_
                    refine mx_get (k := 2) (v := nI c.1) d_Model_part_213 cl_Model fl_Model_78_Model (by decide) H.1 (congrArg (fun z => some (Value.int z)) hN) ?_
                    refine mm_iload d_Model_part_216 rfl ?_
                    refine mx_ast (E := c.1) d_Model_part_218 (mh_2 H) (by omega) (by decide) ?_
                    refine mh_a (j := 2) (f := (upd (A 2) c.1 (nI b))) (by decide) H F (fun h H F => ?_)
                    refine mm_aload_n d_Model_part_219 rfl ?_
                    refine mm_getf (v := .ref (m + 4)) d_Model_part_220 cl_Model fl_Model_19_Model (by decide) H.1 rfl ?_
                    refine mm_aload_n d_Model_part_223 rfl ?_
                    refine mx_get (k := 2) (v := nI c.1) d_Model_part_224 cl_Model fl_Model_78_Model (by decide) H.1 (congrArg (fun z => some (Value.int z)) hN) ?_
                    refine mm_iload d_Model_part_227 rfl ?_
                    refine mx_ast (E := c.1) d_Model_part_229 (mh_3 H) (by omega) (by decide) ?_
                    refine mh_a (j := 3) (f := (upd (A 3) c.1 (nI jl))) (by decide) H F (fun h H F => ?_)
                    refine mm_aload_n d_Model_part_230 rfl ?_
                    refine mm_getf (v := .ref (m + 5)) d_Model_part_231 cl_Model fl_Model_22_Model (by decide) H.1 rfl ?_
                    refine mm_aload_n d_Model_part_234 rfl ?_
                    refine mx_get (k := 2) (v := nI c.1) d_Model_part_235 cl_Model fl_Model_78_Model (by decide) H.1 (congrArg (fun z => some (Value.int z)) hN) ?_
                    refine mm_iload d_Model_part_238 rfl ?_
                    refine mx_ast (E := c.1) d_Model_part_240 (mh_4 H) (by omega) (by decide) ?_
                    refine mh_a (j := 4) (f := (upd (A 4) c.1 (nI jw))) (by decide) H F (fun h H F => ?_)
                    refine mm_aload_n d_Model_part_241 rfl ?_
                    refine mm_dup d_Model_part_242 rfl ?_
                    refine mx_get (k := 2) (v := nI c.1) d_Model_part_243 cl_Model fl_Model_78_Model (by decide) H.1 (congrArg (fun z => some (Value.int z)) hN) ?_
                    refine mm_iconst (v := 1) d_Model_part_246 (by decide) ?_
                    refine mx_add (a := c.1) (b := 1) (c := c.1 + 1) d_Model_part_247 (by omega) ?_
                    refine mm_putf d_Model_part_248 cl_Model ty_Model fl_Model_78_Model (by decide) rfl rfl rfl H.1 (Nat.le_of_ble_eq_true rfl) ?_
                    refine mh_i2 H F (fun h H F => ?_)
                    refine mm_aload_n d_Model_part_251 rfl ?_
                    refine mx_get (k := 2) (v := nI (c.1 + 1)) d_Model_part_252 cl_Model fl_Model_78_Model (by decide) H.1 rfl ?_
                    refine mm_iconst (v := 1) d_Model_part_255 (by decide) ?_
                    refine mx_sub (a := c.1 + 1) (b := 1) (c := c.1) d_Model_part_256 (by omega) (by omega) ?_
                    exact mm_ireturn d_Model_part_257 rfl ⟨rfl, F, _, _, H, MC.inl (c := c_more c (p_fresh kd (nI a) (nI b) (nI jl) (nI jw))) (v := nI c.1) (by unfold c_part; rw [if_pos (hgd true hfr), if_pos (by omega), nI_clamp (by omega), hsl]) (more_MR R (by omega) hkd hab hb1 hb64 hjl hjw z2 z3 z4 z5) (by omega) rfl rfl⟩
                  · refine mm_aload_n d_Model_part_182 rfl ?_
                    refine mm_iconst (v := 2) d_Model_part_183 (by decide) ?_
                    refine mx_call d_Model_part_184 (mm_Inv.vi (as := [.int 2]) d_Model_part_184 (Or.inl m_763) m_765 ce_Model_fail.2.1 ce_Model_fail.2.2.1 mp_19 ce_Model_fail.2.2.2.2.2 ln_Model_fail cl_Model H.1 rfl) (J_Model_fail H) (by decide) ce_Model_fail.1 ce_Model_fail.2.1 ce_Model_fail.2.2.1 ce_Model_fail.2.2.2.1 (Nat.le_of_ble_eq_true rfl) F (fun h H F => ?_)
                    exact mm_ireturn d_Model_part_187 rfl ⟨rfl, F, _, _, H, MC.inr (c := c) (e := 1) (by unfold c_part; rw [if_pos (hgd true hfr), if_neg (by omega)]) R (by omega) rfl⟩
                · refine mm_iload d_Model_part_162 rfl ?_
                  refine mm_if_ne (tgt := 173) d_Model_part_164 (by decide) (fun c9 => absurd c9 (by decide)) (fun _ => ?_)
                  refine mm_aload_n d_Model_part_167 rfl ?_
                  refine mm_iconst (v := 1) d_Model_part_168 (by decide) ?_
                  refine mx_call d_Model_part_169 (mm_Inv.vi (as := [.int 1]) d_Model_part_169 (Or.inl m_763) m_765 ce_Model_fail.2.1 ce_Model_fail.2.2.1 mp_19 ce_Model_fail.2.2.2.2.2 ln_Model_fail cl_Model H.1 rfl) (J_Model_fail H) (by decide) ce_Model_fail.1 ce_Model_fail.2.1 ce_Model_fail.2.2.1 ce_Model_fail.2.2.2.1 (Nat.le_of_ble_eq_true rfl) F (fun h H F => ?_)
                  exact mm_ireturn d_Model_part_172 rfl ⟨rfl, F, _, _, H, MC.inr (c := c) (e := 0) (by unfold c_part; rw [if_neg (by rw [hgd false hfr]; decide)]) R (by omega) rfl⟩
