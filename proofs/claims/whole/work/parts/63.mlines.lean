theorem line_in {l : Int32} (h : ¬ w_in l 0 15 = 0) : ∃ j, j < 16 ∧ l = nI j := by
  rw [w_in_iff] at h
  obtain ⟨j, hj, rfl⟩ := nI_of h.1
  exact ⟨j, Nat.not_le.mp (fun z => h.2 (nI_lt (a := 15) (by omega) hj)), rfl⟩
theorem bit_up {x : Int32} {f : Nat → Int32} {j : Nat} (h : x = m_bits f 16) (hj : j < 16) : (x >>> (nI j &&& 31)) &&& 1 = if f j = 0 then 0 else 1 := by
  rw [tb_shr _ (by omega), h, tb_bits _ 16 j (by decide) (by omega)]
  by_cases c : f j = 0
  · simp [c]
  · simp [c, hj]
/-- the lines are others, the rest stays -/
theorem MR.lines {T : Nat} {c : cS} {I I' : Nat → Int32} {A A' : Nat → Nat → Int32} {Wy Rk : Nat → Int32} {hi u kp : Int32} (R : MR T c I A) (hI : ∀ k, k ≠ 0 → I' k = I k) (ha : ∀ k, k < 13 → A' k = A k) (M : ML Wy Rk hi u kp A') : MR T (c.1, c.2.1, Wy, Rk, c.2.2.2.2.1, hi, u, kp, c.2.2.2.2.2.2.2.2.1, c.2.2.2.2.2.2.2.2.2) I' A' := by
  obtain ⟨r1, r2, r3, r4, ⟨r51, r52, r53⟩, r6, r7, r8⟩ := R
  have e : ∀ p, agr A A' p := fun p => by
    unfold agr
    rw [ha 0 (by decide), ha 1 (by decide), ha 2 (by decide), ha 3 (by decide), ha 4 (by decide), ha 5 (by decide), ha 6 (by decide), ha 7 (by decide), ha 8 (by decide), ha 9 (by decide), ha 10 (by decide), ha 11 (by decide), ha 12 (by decide)]
    exact agr.rf A p
  exact ⟨(hI 2 (by decide)).trans r1, r2, (hI 1 (by decide)).trans r3, (hI 3 (by decide)).trans r4, ⟨(hI 4 (by decide)).trans r51, (hI 5 (by decide)).trans r52, (hI 6 (by decide)).trans r53⟩, fun p hp => (r6 p hp).agr (e p), fun p h1 h2 => (r7 p h1 h2).agr (e p), M⟩
theorem upd_self9 (f : Nat → Int32) (k : Nat) : upd f k (f k) = f := by
  funext j
  unfold upd
  split
  · rename_i e; subst e; rfl
  · rfl
def cd_20 : Nat → Int32 := fun e => if e = 2 then 1 else 2
def cd_2 : Nat → Int32 := fun _ => 1
set_option maxRecDepth 100000 in
set_option maxHeartbeats 4000000 in
theorem J_Model_asks {sc : mm_Sc} {n : Nat} {h : mm_H} {m : Nat} {I : Nat → Int32} {A : Nat → Nat → Int32} {T : Nat} {c : cS} {l : Int32} (H : MH h m I A) (R : MR T c I A) (hT : T + 1000 < 2 ^ 29)  : mm_J sc y_Model_asks 6 [.ref m, .int l] n h 0 0 (MY (MC cd_2 (c_asks l c) (T + 1000)) n h m) := by
  refine mm_J.of (show mm_G sc y_Model_asks 6 0 [some (.ref m), some (.int l)] [] n h 0 0 _ from ?_) ce_Model_asks.2.2.2.2.1 (Nat.le_of_ble_eq_true rfl) (by simp [Value.category])
  have F : MF h h m := fun _ _ => rfl
  have hN := R.1
  have h12 := R.2.1
  have M := R.2.2.2.2.2.2.2
  have hb := M.b01
  refine mm_aload_n d_Model_asks_0 rfl ?_
  refine mm_iconst (v := 0) d_Model_asks_1 (by decide) ?_
  refine mm_putf d_Model_asks_2 cl_Model ty_Model fl_Model_65_Model (by decide) rfl rfl rfl H.1 (Nat.le_of_ble_eq_true rfl) ?_
  refine mh_i0 H F (fun h H F => ?_)
  refine mm_iload_n d_Model_asks_5 rfl ?_
  refine mm_iconst (v := 0) d_Model_asks_6 (by decide) ?_
  refine mm_bipush (v := 15) d_Model_asks_7 (by decide) ?_
  refine mm_callD (kc' := 0) (ks' := 0) d_Model_asks_9 (mm_Inv.sta (as := [.int l, .int 0, .int 15]) d_Model_asks_9 (Or.inl m_756) m_757 ce_Model_within.2.1 ce_Model_within.2.2.1 ce_Model_within.2.2.2.1 ce_Model_within.2.2.2.2.2 ln_Model_within rfl) J_Model_within (by decide) ce_Model_within.1 ce_Model_within.2.1 ce_Model_within.2.2.1 ce_Model_within.2.2.2.1 (Nat.le_of_ble_eq_true rfl) ?_
  refine mm_if_ne (tgt := 21) d_Model_asks_12 (by decide) (fun c_12 => ?_) (fun c_12 => ?_)
  · obtain ⟨j, hj, rfl⟩ := line_in c_12
    refine mm_aload_n d_Model_asks_21 rfl ?_
    refine mm_getf (v := .ref (m + 17)) d_Model_asks_22 cl_Model fl_Model_59_Model (by decide) H.1 rfl ?_
    refine mm_iload_n d_Model_asks_25 rfl ?_
    refine mx_zld (E := j) (v := (A 16) j) d_Model_asks_26 (mh_16 H) (by omega) (by decide) (show (A 16) j = (A 16) j from rfl) ?_
    refine mm_if_eq (tgt := 34) d_Model_asks_27 (by decide) (fun c_27 => ?_) (fun c_27 => ?_)
    · refine mm_iconst (v := 0) d_Model_asks_34 (by decide) ?_
      refine mm_aload_n d_Model_asks_35 rfl ?_
      refine mm_iload_n d_Model_asks_36 rfl ?_
      refine mx_call d_Model_asks_37 (mm_Inv.vi (as := [.int (nI j)]) d_Model_asks_37 (Or.inl m_860) m_862 ce_Model_isPending.2.1 ce_Model_isPending.2.2.1 mp_35 ce_Model_isPending.2.2.2.2.2 ln_Model_isPending cl_Model H.1 rfl) (J_Model_isPending H (by omega) (hb _ (by omega)).2.1 (hb _ (by omega)).2.2) (by decide) ce_Model_isPending.1 ce_Model_isPending.2.1 ce_Model_isPending.2.2.1 ce_Model_isPending.2.2.2.1 (Nat.le_of_ble_eq_true rfl) F (fun h H F => ?_)
      refine mm_if_eq (tgt := 47) d_Model_asks_40 (by decide) (fun c_40 => ?_) (fun c_40 => ?_)
      · refine mm_iconst (v := 0) d_Model_asks_47 (by decide) ?_
        refine mm_iadd d_Model_asks_48 ?_
        exact mm_ireturn d_Model_asks_49 rfl ⟨rfl, F, _, _, H, MC.inl (c := c) (v := (if A 16 j = 0 then 0 else 1) + 2 * (if m_pen A j = 0 then 0 else 1)) (by unfold c_asks c_pend; rw [if_neg (by rw [isLine_eq]; exact c_12), pen_eq M, bit_up M.2.1 hj, bit_up (f := m_pen A) rfl hj]) R (by omega) rfl (by rw [if_pos c_27, if_pos c_40]; rfl)⟩
      · refine mm_iconst (v := 2) d_Model_asks_43 (by decide) ?_
        refine mm_goto (tgt := 48) d_Model_asks_44 (by decide) ?_
        refine mm_iadd d_Model_asks_48 ?_
        exact mm_ireturn d_Model_asks_49 rfl ⟨rfl, F, _, _, H, MC.inl (c := c) (v := (if A 16 j = 0 then 0 else 1) + 2 * (if m_pen A j = 0 then 0 else 1)) (by unfold c_asks c_pend; rw [if_neg (by rw [isLine_eq]; exact c_12), pen_eq M, bit_up M.2.1 hj, bit_up (f := m_pen A) rfl hj]) R (by omega) rfl (by rw [if_pos c_27, if_neg c_40]; rfl)⟩
    · refine mm_iconst (v := 1) d_Model_asks_30 (by decide) ?_
      refine mm_goto (tgt := 35) d_Model_asks_31 (by decide) ?_
      refine mm_aload_n d_Model_asks_35 rfl ?_
      refine mm_iload_n d_Model_asks_36 rfl ?_
      refine mx_call d_Model_asks_37 (mm_Inv.vi (as := [.int (nI j)]) d_Model_asks_37 (Or.inl m_860) m_862 ce_Model_isPending.2.1 ce_Model_isPending.2.2.1 mp_35 ce_Model_isPending.2.2.2.2.2 ln_Model_isPending cl_Model H.1 rfl) (J_Model_isPending H (by omega) (hb _ (by omega)).2.1 (hb _ (by omega)).2.2) (by decide) ce_Model_isPending.1 ce_Model_isPending.2.1 ce_Model_isPending.2.2.1 ce_Model_isPending.2.2.2.1 (Nat.le_of_ble_eq_true rfl) F (fun h H F => ?_)
      refine mm_if_eq (tgt := 47) d_Model_asks_40 (by decide) (fun c_40 => ?_) (fun c_40 => ?_)
      · refine mm_iconst (v := 0) d_Model_asks_47 (by decide) ?_
        refine mm_iadd d_Model_asks_48 ?_
        exact mm_ireturn d_Model_asks_49 rfl ⟨rfl, F, _, _, H, MC.inl (c := c) (v := (if A 16 j = 0 then 0 else 1) + 2 * (if m_pen A j = 0 then 0 else 1)) (by unfold c_asks c_pend; rw [if_neg (by rw [isLine_eq]; exact c_12), pen_eq M, bit_up M.2.1 hj, bit_up (f := m_pen A) rfl hj]) R (by omega) rfl (by rw [if_neg c_27, if_pos c_40]; rfl)⟩
      · refine mm_iconst (v := 2) d_Model_asks_43 (by decide) ?_
        refine mm_goto (tgt := 48) d_Model_asks_44 (by decide) ?_
        refine mm_iadd d_Model_asks_48 ?_
        exact mm_ireturn d_Model_asks_49 rfl ⟨rfl, F, _, _, H, MC.inl (c := c) (v := (if A 16 j = 0 then 0 else 1) + 2 * (if m_pen A j = 0 then 0 else 1)) (by unfold c_asks c_pend; rw [if_neg (by rw [isLine_eq]; exact c_12), pen_eq M, bit_up M.2.1 hj, bit_up (f := m_pen A) rfl hj]) R (by omega) rfl (by rw [if_neg c_27, if_neg c_40]; rfl)⟩
  · refine mm_aload_n d_Model_asks_15 rfl ?_
    refine mm_iconst (v := 1) d_Model_asks_16 (by decide) ?_
    refine mx_call d_Model_asks_17 (mm_Inv.vi (as := [.int 1]) d_Model_asks_17 (Or.inl m_763) m_765 ce_Model_fail.2.1 ce_Model_fail.2.2.1 mp_19 ce_Model_fail.2.2.2.2.2 ln_Model_fail cl_Model H.1 rfl) (J_Model_fail H) (by decide) ce_Model_fail.1 ce_Model_fail.2.1 ce_Model_fail.2.2.1 ce_Model_fail.2.2.2.1 (Nat.le_of_ble_eq_true rfl) F (fun h H F => ?_)
    exact mm_ireturn d_Model_asks_20 rfl ⟨rfl, F, _, _, H, MC.inr (c := c) (e := 2) (by unfold c_asks; rw [if_pos (by rw [isLine_eq]; exact c_12)]) R (by omega) rfl⟩
set_option maxRecDepth 100000 in
set_option maxHeartbeats 4000000 in
theorem J_Model_chosen {sc : mm_Sc} {n : Nat} {h : mm_H} {m : Nat} {I : Nat → Int32} {A : Nat → Nat → Int32} {T : Nat} {c : cS}  (H : MH h m I A) (R : MR T c I A) (hT : T + 1000 < 2 ^ 29)  : mm_J sc y_Model_chosen 6 [.ref m] n h 0 0 (MY (MC cd_2 (c_chosen c) (T + 1000)) n h m) := by
  refine mm_J.of (show mm_G sc y_Model_chosen 6 0 [some (.ref m)] [] n h 0 0 _ from ?_) ce_Model_chosen.2.2.2.2.1 (Nat.le_of_ble_eq_true rfl) (by simp [Value.category])
  have F : MF h h m := fun _ _ => rfl
  have hN := R.1
  have h12 := R.2.1
  have M := R.2.2.2.2.2.2.2
  have hb := M.b01
  refine mm_aload_n d_Model_chosen_0 rfl ?_
  refine mm_iconst (v := 0) d_Model_chosen_1 (by decide) ?_
  refine mm_putf d_Model_chosen_2 cl_Model ty_Model fl_Model_65_Model (by decide) rfl rfl rfl H.1 (Nat.le_of_ble_eq_true rfl) ?_
  refine mh_i0 H F (fun h H F => ?_)
  refine mm_aload_n d_Model_chosen_5 rfl ?_
  refine mx_call d_Model_chosen_6 (mm_Inv.vi (as := []) d_Model_chosen_6 (Or.inl m_868) m_870 ce_Model_choose.2.1 ce_Model_choose.2.2.1 mp_36 ce_Model_choose.2.2.2.2.2 ln_Model_choose cl_Model H.1 rfl) (J_Model_choose H hb) (by decide) ce_Model_choose.1 ce_Model_choose.2.1 ce_Model_choose.2.2.1 ce_Model_choose.2.2.2.1 (Nat.le_of_ble_eq_true rfl) F (fun h H F => ?_)
  exact mm_ireturn d_Model_chosen_9 rfl ⟨rfl, F, _, _, H, MC.inl (c := c) (v := c_best c) rfl R (by omega) rfl (best_eq' M).symm⟩
theorem forget_ML {Wy Rk : Nat → Int32} {hi u kp : Int32} {A : Nat → Nat → Int32} {j : Nat} (M : ML Wy Rk hi u kp A) (hj : j < 16) : ML Wy Rk hi u (ln_forget kp (nI j)) (ma A 17 (upd (A 17) j 0)) := by
  refine ⟨M.1, M.2.1, by rw [M.2.2.1]; exact forget_bits hj, fun l hl => ?_⟩
  obtain ⟨w1, w2, w3, w4, w5, w6, w7, w8⟩ := M.2.2.2 l hl
  refine ⟨w1, w2, w3, w4, w5, w6, ?_, fun z => ?_⟩
  · show upd (A 17) j 0 l = 0 ∨ upd (A 17) j 0 l = 1
    unfold upd; split
    · exact Or.inl rfl
    · exact w7
  · show upd (A 17) j 0 l = 0
    unfold upd; split
    · rfl
    · exact w8 z
theorem nI_nm1 {b : Nat} (h : b < 2 ^ 31) : ¬ nI b = -1 := fun z => by
  have h1 := nI_pos h
  rw [z] at h1
  exact h1 (by decide)
set_option maxRecDepth 100000 in
set_option maxHeartbeats 4000000 in
theorem J_Model_take {sc : mm_Sc} {n : Nat} {h : mm_H} {m : Nat} {I : Nat → Int32} {A : Nat → Nat → Int32} {T : Nat} {c : cS}  (H : MH h m I A) (R : MR T c I A) (hT : T + 1000 < 2 ^ 29)  : mm_J sc y_Model_take 6 [.ref m] n h 0 0 (MY (MC cd_2 (c_take c) (T + 1000)) n h m) := by
  refine mm_J.of (show mm_G sc y_Model_take 6 0 [some (.ref m), none] [] n h 0 0 _ from ?_) ce_Model_take.2.2.2.2.1 (Nat.le_of_ble_eq_true rfl) (by simp [Value.category])
  have F : MF h h m := fun _ _ => rfl
  have hN := R.1
  have h12 := R.2.1
  have M := R.2.2.2.2.2.2.2
  have hb := M.b01
  refine mm_aload_n d_Model_take_0 rfl ?_
  refine mm_iconst (v := 0) d_Model_take_1 (by decide) ?_
  refine mm_putf d_Model_take_2 cl_Model ty_Model fl_Model_65_Model (by decide) rfl rfl rfl H.1 (Nat.le_of_ble_eq_true rfl) ?_
  refine mh_i0 H F (fun h H F => ?_)
  refine mm_aload_n d_Model_take_5 rfl ?_
  refine mx_call d_Model_take_6 (mm_Inv.vi (as := []) d_Model_take_6 (Or.inl m_868) m_870 ce_Model_choose.2.1 ce_Model_choose.2.2.1 mp_36 ce_Model_choose.2.2.2.2.2 ln_Model_choose cl_Model H.1 rfl) (J_Model_choose H hb) (by decide) ce_Model_choose.1 ce_Model_choose.2.1 ce_Model_choose.2.2.1 ce_Model_choose.2.2.2.1 (Nat.le_of_ble_eq_true rfl) F (fun h H F => ?_)
  refine mm_istore_n d_Model_take_9 (by decide) ?_
  refine mm_iload_n d_Model_take_10 rfl ?_
  have hbe := best_eq' M
  rcases hb9 : m_best A 16 with _ | b
  · rw [hb9] at hbe
    refine mm_if_lt (tgt := 21) d_Model_take_11 (by decide) (fun _ => ?_) (fun c9 => absurd (show oI none < 0 by decide) c9)
    refine mm_iload_n d_Model_take_21 rfl ?_
    exact mm_ireturn d_Model_take_22 rfl ⟨rfl, F, _, _, H, MC.inl (c := c) (v := c_best c) (by unfold c_take; rw [if_pos (show c_best c = -1 from hbe)]) R (by omega) rfl hbe.symm⟩
  · rw [hb9] at hbe
    have hbi := m_best_lt hb9
    refine mm_if_lt (tgt := 21) d_Model_take_11 (by decide) (fun c9 => absurd c9 (nI_pos (by omega))) (fun _ => ?_)
    refine mm_aload_n d_Model_take_14 rfl ?_
    refine mm_getf (v := .ref (m + 18)) d_Model_take_15 cl_Model fl_Model_62_Model (by decide) H.1 rfl ?_
    refine mm_iload_n d_Model_take_18 rfl ?_
    refine mm_iconst (v := 0) d_Model_take_19 (by decide) ?_
    refine mx_zst (E := b) d_Model_take_20 (mh_17 H) (by omega) (by decide) rfl ?_
    refine mh_a (j := 17) (f := (upd (A 17) b 0)) (by decide) H F (fun h H F => ?_)
    refine mm_iload_n d_Model_take_21 rfl ?_
    exact mm_ireturn d_Model_take_22 rfl ⟨rfl, F, _, _, H, MC.inl (v := c_best c) (by unfold c_take; rw [if_neg (show ¬ c_best c = -1 from fun z => nI_nm1 (b := b) (by omega) ((show c_best c = nI b from hbe) ▸ z))]) (MR.lines (I' := mi I 0 0) R (fun k hk => mi_ne _ _ hk) (fun k hk => ma_ne _ _ (by omega)) (by rw [show c_best c = nI b from hbe]; exact forget_ML M hbi)) (by omega) rfl hbe.symm⟩
set_option maxRecDepth 100000 in
set_option maxHeartbeats 4000000 in
theorem J_Model_reset {sc : mm_Sc} {n : Nat} {h : mm_H} {m : Nat} {I : Nat → Int32} {A : Nat → Nat → Int32} {T : Nat} {c : cS}  (H : MH h m I A) (R : MR T c I A) (hT : T + 1000 < 2 ^ 29)  : mm_J sc y_Model_reset 6 [.ref m] n h 0 0 (MY (MC cd_2 (c_resetN c) (T + 1000)) n h m) := by
  refine mm_J.of (show mm_G sc y_Model_reset 6 0 [some (.ref m), none] [] n h 0 0 _ from ?_) ce_Model_reset.2.2.2.2.1 (Nat.le_of_ble_eq_true rfl) (by simp [Value.category])
  have F : MF h h m := fun _ _ => rfl
  have hN := R.1
  have h12 := R.2.1
  have M := R.2.2.2.2.2.2.2
  have hb := M.b01
  refine mm_aload_n d_Model_reset_0 rfl ?_
  refine mm_iconst (v := 0) d_Model_reset_1 (by decide) ?_
  refine mm_putf d_Model_reset_2 cl_Model ty_Model fl_Model_65_Model (by decide) rfl rfl rfl H.1 (Nat.le_of_ble_eq_true rfl) ?_
  refine mh_i0 H F (fun h H F => ?_)
  refine mm_aload_n d_Model_reset_5 rfl ?_
  refine mx_get (k := 3) (v := I 3) d_Model_reset_6 cl_Model fl_Model_88_Model (by decide) H.1 rfl ?_
  refine mm_istore_n d_Model_reset_9 (by decide) ?_
  refine mm_aload_n d_Model_reset_10 rfl ?_
  refine mm_iconst (v := 1) d_Model_reset_11 (by decide) ?_
  refine mx_call d_Model_reset_12 (mm_Inv.vi (as := [.int 1]) d_Model_reset_12 (Or.inl m_787) m_789 ce_Model_resetAll.2.1 ce_Model_resetAll.2.2.1 mp_23 ce_Model_resetAll.2.2.2.2.2 ln_Model_resetAll cl_Model H.1 rfl) (J_Model_resetAll (N := c.1) (e := 1) H hN h12) (by decide) ce_Model_resetAll.1 ce_Model_resetAll.2.1 ce_Model_resetAll.2.2.1 ce_Model_resetAll.2.2.2.1 (Nat.le_of_ble_eq_true rfl) F (fun h H F => ?_)
  refine mm_iload_n d_Model_reset_15 rfl ?_
  exact mm_ireturn d_Model_reset_16 rfl ⟨rfl, F, _, _, H, MC.inl (c := c_reset 1 c) (v := c.2.2.2.2.2.2.2.2.2) rfl (reset_MR (T := T) (I := mi I 0 0) R.1 h12 R.2.2.1 (fun p hp => (R.2.2.2.2.2.1 p hp).weak) R.2.2.2.2.2.2.1 M) (by omega) rfl R.2.2.2.1⟩
theorem mm_J.mono {sc : mm_Sc} {y : mm_M} {d : Nat} {as : List Value} {n : Nat} {h : mm_H} {kc ks : Nat} {Q Q' : mm_O → Nat → mm_H → Prop} (J : mm_J sc y d as n h kc ks Q) (hq : ∀ o n' h', Q o n' h' → Q' o n' h') : mm_J sc y d as n h kc ks Q' := by
  intro X K
  refine MetFree.mono (J X K) (fun _ _ h9 => h9) (fun _ _ _ _ _ h9 => h9) (fun a s o t _ hE => ?_)
  obtain ⟨mo, n', h', q1, q2, q3⟩ := hE
  exact ⟨mo, n', h', q1, hq mo n' h' q2, q3⟩
theorem K_Model_count {sc : mm_Sc} {n : Nat} {h : mm_H} {m : Nat} {I : Nat → Int32} {A : Nat → Nat → Int32} {T : Nat} {c : cS} {k : Int32} (H : MH h m I A) (R : MR T c I A) (hT : T + 1000 < 2 ^ 29) : mm_J sc y_Model_count 3 [.ref m, .int k] n h 0 0 (MY (MC cd_2 (c_count k c) (T + 1000)) n h m) := by
  have J := J_Model_count (sc := sc) (n := n) (k := k) H R.1 R.2.1 R.2.2.2.2.2.2.2.b01
  refine mm_J.mono J (fun o n' h' hq => ?_)
  obtain ⟨e1, e2, e3, e4⟩ := hq
  subst e1
  exact ⟨e2, e4, _, _, e3, MC.inl (count_eq R) (T0 := T) R (by omega) rfl rfl⟩
theorem w_in02 {w : Int32} (h : ¬ w_in w 0 2 = 0) : w = 0 ∨ w = 1 ∨ w = 2 := by
  rw [w_in_iff] at h
  obtain ⟨j, hj, rfl⟩ := nI_of h.1
  have : j < 3 := Nat.not_le.mp (fun z => h.2 (nI_lt (a := 2) (by omega) hj))
  have : j = 0 ∨ j = 1 ∨ j = 2 := by omega
  rcases this with rfl | rfl | rfl
  · exact Or.inl rfl
  · exact Or.inr (Or.inl rfl)
  · exact Or.inr (Or.inr rfl)
theorem w_in02' {w : Int32} (h : w_in w 0 2 = 0) : ln_max w = -1 := by
  have h1 : ¬ (w = 0 ∨ w = 1 ∨ w = 2) := by
    rintro (rfl | rfl | rfl) <;> exact absurd h (by decide)
  unfold ln_max
  rw [if_neg (fun z => h1 (Or.inl z)), if_neg (fun z => h1 (Or.inr (Or.inl z))), if_neg (fun z => h1 (Or.inr (Or.inr z)))]
theorem way_ML {Wy Rk : Nat → Int32} {hi u kp v : Int32} {A : Nat → Nat → Int32} {j : Nat} (M : ML Wy Rk hi u kp A) (hj : j < 16) (hv : ¬ w_in v 0 2 = 0) (h17 : v = 0 → A 17 j = 0) : ML (upd Wy j v) Rk hi u kp (ma A 13 (upd (A 13) j v)) := by
  refine ⟨M.1, M.2.1, M.2.2.1, fun l hl => ?_⟩
  obtain ⟨w1, w2, w3, w4, w5, w6, w7, w8⟩ := M.2.2.2 l hl
  show upd (A 13) j v l = upd Wy j v l ∧ _
  unfold upd
  by_cases c : l = j
  · subst c
    rw [if_pos rfl, if_pos rfl]
    exact ⟨rfl, w_in02 hv, w3, w4, w5, w6, w7, h17⟩
  · rw [if_neg c, if_neg c]
    exact ⟨w1, w2, w3, w4, w5, w6, w7, w8⟩
theorem rank_ML {Wy Rk : Nat → Int32} {hi u kp v : Int32} {A : Nat → Nat → Int32} {j : Nat} (M : ML Wy Rk hi u kp A) (hv : ¬ v < 0) : ML Wy (upd Rk j v) hi u kp (ma A 14 (upd (A 14) j v)) := by
  refine ⟨M.1, M.2.1, M.2.2.1, fun l hl => ?_⟩
  obtain ⟨w1, w2, w3, w4, w5, w6, w7, w8⟩ := M.2.2.2 l hl
  refine ⟨w1, w2, ?_, ?_, w5, w6, w7, w8⟩
  · show upd (A 14) j v l = upd Rk j v l
    unfold upd; rw [w3]
  · unfold upd; split
    · exact hv
    · exact w4
theorem hide_ML {Wy Rk : Nat → Int32} {hi u kp v : Int32} {A : Nat → Nat → Int32} {j : Nat} (M : ML Wy Rk hi u kp A) (hj : j < 16) (hv : v = 0 ∨ v = 1) : ML Wy Rk (ln_hide hi (nI j) v) u kp (ma A 15 (upd (A 15) j v)) := by
  refine ⟨by rw [M.1]; exact hide_bits hj hv, M.2.1, M.2.2.1, fun l hl => ?_⟩
  obtain ⟨w1, w2, w3, w4, w5, w6, w7, w8⟩ := M.2.2.2 l hl
  refine ⟨w1, w2, w3, w4, ?_, w6, w7, w8⟩
  show upd (A 15) j v l = 0 ∨ upd (A 15) j v l = 1
  unfold upd; split
  · exact hv
  · exact w5
theorem v01 {v : Int32} (h : ¬ w_in v 0 1 = 0) : v = 0 ∨ v = 1 := by
  rw [w_in_iff] at h
  obtain ⟨j, hj, rfl⟩ := nI_of h.1
  have : j < 2 := Nat.not_le.mp (fun z => h.2 (nI_lt (a := 1) (by omega) hj))
  have : j = 0 ∨ j = 1 := by omega
  rcases this with rfl | rfl
  · exact Or.inl rfl
  · exact Or.inr rfl
theorem isL_nI {j : Nat} (h : j < 16) : ¬ sp_isLine (nI j) = 0 := by
  rw [isLine_eq, w_in_iff]
  exact ⟨nI_pos (by omega), nI_nlt (a := 15) (by omega) (by decide)⟩
theorem c_line0 {j : Nat} {v : Int32} {c : cS} (hj : j < 16) (hv : ¬ w_in v 0 2 = 0) : c_line (nI j) 0 v c = (.inl (c.2.2.1 j), (c.1, c.2.1, (if v = c.2.2.1 j then c.2.2.1 else upd c.2.2.1 j v), c.2.2.2.1, c.2.2.2.2.1, c.2.2.2.2.2.1, c.2.2.2.2.2.2.1, (if v = c.2.2.1 j then c.2.2.2.2.2.2.2.1 else ln_forget c.2.2.2.2.2.2.2.1 (nI j)), c.2.2.2.2.2.2.2.2.1, c.2.2.2.2.2.2.2.2.2)) := by
  have hv9 := w_in_iff.mp hv
  unfold c_line ln_was
  rw [if_neg (isL_nI hj), show ln_max 0 = 2 from rfl, if_neg hv9.1, if_pos (Int32.not_lt.mp hv9.2), nI_clamp (by omega)]
  simp
theorem c_line1 {j : Nat} {v : Int32} {c : cS} (hj : j < 16) (hv : ¬ w_in v 0 15 = 0) : c_line (nI j) 1 v c = (.inl (c.2.2.2.1 j), (c.1, c.2.1, c.2.2.1, upd c.2.2.2.1 j v, c.2.2.2.2.1, c.2.2.2.2.2.1, c.2.2.2.2.2.2.1, c.2.2.2.2.2.2.2.1, c.2.2.2.2.2.2.2.2.1, c.2.2.2.2.2.2.2.2.2)) := by
  have hv9 := w_in_iff.mp hv
  have n1 : ¬ (1 : Int32) = 0 := by decide
  unfold c_line ln_was
  rw [if_neg (isL_nI hj), show ln_max 1 = 15 from rfl, if_neg hv9.1, if_pos (Int32.not_lt.mp hv9.2), nI_clamp (by omega)]
  simp
theorem c_line2 {j : Nat} {v : Int32} {c : cS} (hj : j < 16) (hv : ¬ w_in v 0 1 = 0) : c_line (nI j) 2 v c = (.inl ((c.2.2.2.2.2.1 >>> (nI j &&& 31)) &&& 1), (c.1, c.2.1, c.2.2.1, c.2.2.2.1, c.2.2.2.2.1, ln_hide c.2.2.2.2.2.1 (nI j) v, c.2.2.2.2.2.2.1, c.2.2.2.2.2.2.2.1, c.2.2.2.2.2.2.2.2.1, c.2.2.2.2.2.2.2.2.2)) := by
  have hv9 := w_in_iff.mp hv
  have n1 : ¬ (2 : Int32) = 0 := by decide
  have n2 : ¬ (2 : Int32) = 1 := by decide
  unfold c_line ln_was
  rw [if_neg (isL_nI hj), show ln_max 2 = 1 from rfl, if_neg hv9.1, if_pos (Int32.not_lt.mp hv9.2), nI_clamp (by omega)]
  simp [n1, n2]
set_option maxRecDepth 100000 in
set_option maxHeartbeats 4000000 in
theorem J_Model_line {sc : mm_Sc} {n : Nat} {h : mm_H} {m : Nat} {I : Nat → Int32} {A : Nat → Nat → Int32} {T : Nat} {c : cS} {l w v : Int32} (H : MH h m I A) (R : MR T c I A) (hT : T + 1000 < 2 ^ 29)  : mm_J sc y_Model_line 6 [.ref m, .int l, .int w, .int v] n h 0 0 (MY (MC cd_20 (c_line l w v c) (T + 1000)) n h m) := by
  refine mm_J.of (show mm_G sc y_Model_line 6 0 [some (.ref m), some (.int l), some (.int w), some (.int v), none] [] n h 0 0 _ from ?_) ce_Model_line.2.2.2.2.1 (Nat.le_of_ble_eq_true rfl) (by simp [Value.category])
  have F : MF h h m := fun _ _ => rfl
  have hN := R.1
  have h12 := R.2.1
  have M := R.2.2.2.2.2.2.2
  have hb := M.b01
  refine mm_aload_n d_Model_line_0 rfl ?_
  refine mm_iconst (v := 0) d_Model_line_1 (by decide) ?_
  refine mm_putf d_Model_line_2 cl_Model ty_Model fl_Model_65_Model (by decide) rfl rfl rfl H.1 (Nat.le_of_ble_eq_true rfl) ?_
  refine mh_i0 H F (fun h H F => ?_)
  refine mm_iload_n d_Model_line_5 rfl ?_
  refine mm_iconst (v := 0) d_Model_line_6 (by decide) ?_
  refine mm_bipush (v := 15) d_Model_line_7 (by decide) ?_
  refine mm_callD (kc' := 0) (ks' := 0) d_Model_line_9 (mm_Inv.sta (as := [.int l, .int 0, .int 15]) d_Model_line_9 (Or.inl m_756) m_757 ce_Model_within.2.1 ce_Model_within.2.2.1 ce_Model_within.2.2.2.1 ce_Model_within.2.2.2.2.2 ln_Model_within rfl) J_Model_within (by decide) ce_Model_within.1 ce_Model_within.2.1 ce_Model_within.2.2.1 ce_Model_within.2.2.2.1 (Nat.le_of_ble_eq_true rfl) ?_
  refine mm_if_ne (tgt := 21) d_Model_line_12 (by decide) (fun c_12 => ?_) (fun c_12 => ?_)
  · obtain ⟨j, hj, rfl⟩ := line_in c_12
    refine mm_iload_n d_Model_line_21 rfl ?_
    refine mm_iconst (v := 0) d_Model_line_22 (by decide) ?_
    refine mm_iconst (v := 2) d_Model_line_23 (by decide) ?_
    refine mm_callD (kc' := 0) (ks' := 0) d_Model_line_24 (mm_Inv.sta (as := [.int w, .int 0, .int 2]) d_Model_line_24 (Or.inl m_756) m_757 ce_Model_within.2.1 ce_Model_within.2.2.1 ce_Model_within.2.2.2.1 ce_Model_within.2.2.2.2.2 ln_Model_within rfl) J_Model_within (by decide) ce_Model_within.1 ce_Model_within.2.1 ce_Model_within.2.2.1 ce_Model_within.2.2.2.1 (Nat.le_of_ble_eq_true rfl) ?_
    refine mm_if_eq (tgt := 57) d_Model_line_27 (by decide) (fun c_27 => ?_) (fun c_27 => ?_)
    · refine mm_aload_n d_Model_line_57 rfl ?_
      refine mm_iconst (v := 2) d_Model_line_58 (by decide) ?_
      refine mx_call d_Model_line_59 (mm_Inv.vi (as := [.int 2]) d_Model_line_59 (Or.inl m_763) m_765 ce_Model_fail.2.1 ce_Model_fail.2.2.1 mp_19 ce_Model_fail.2.2.2.2.2 ln_Model_fail cl_Model H.1 rfl) (J_Model_fail H) (by decide) ce_Model_fail.1 ce_Model_fail.2.1 ce_Model_fail.2.2.1 ce_Model_fail.2.2.2.1 (Nat.le_of_ble_eq_true rfl) F (fun h H F => ?_)
      exact mm_ireturn d_Model_line_62 rfl ⟨rfl, F, _, _, H, MC.inr (c := c) (e := 0) (by unfold c_line; rw [if_neg (by rw [isLine_eq]; exact c_12), w_in02' c_27]; by_cases z : v < 0; rw [if_pos z]; rw [if_neg z, if_neg (fun z9 => z (Int32.lt_of_le_of_lt z9 (by decide)))]) R (by omega) rfl⟩
    · rcases w_in02 c_27 with rfl | rfl | rfl
      · refine mm_iload_n d_Model_line_30 rfl ?_
        refine mm_iconst (v := 0) d_Model_line_31 (by decide) ?_
        refine mm_iload_n d_Model_line_32 rfl ?_
        refine mm_if_ne (tgt := 40) d_Model_line_33 (by decide) (fun c9 => absurd c9 (by decide)) (fun _ => ?_)
        refine mm_iconst (v := 2) d_Model_line_36 (by decide) ?_
        refine mm_goto (tgt := 51) d_Model_line_37 (by decide) ?_
        refine mm_callD (kc' := 0) (ks' := 0) d_Model_line_51 (mm_Inv.sta (as := [.int v, .int 0, .int 2]) d_Model_line_51 (Or.inl m_756) m_757 ce_Model_within.2.1 ce_Model_within.2.2.1 ce_Model_within.2.2.2.1 ce_Model_within.2.2.2.2.2 ln_Model_within rfl) J_Model_within (by decide) ce_Model_within.1 ce_Model_within.2.1 ce_Model_within.2.2.1 ce_Model_within.2.2.2.1 (Nat.le_of_ble_eq_true rfl) ?_
        refine mm_if_ne (tgt := 63) d_Model_line_54 (by decide) (fun c_54 => ?_) (fun c_54 => ?_)
        · refine mm_iload_n d_Model_line_63 rfl ?_
          refine mm_if_ne (tgt := 76) d_Model_line_64 (by decide) (fun c9 => absurd c9 (by decide)) (fun _ => ?_)
          refine mm_aload_n d_Model_line_67 rfl ?_
          refine mm_getf (v := .ref (m + 14)) d_Model_line_68 cl_Model fl_Model_49_Model (by decide) H.1 rfl ?_
          refine mm_iload_n d_Model_line_71 rfl ?_
          refine mx_ald (E := j) (v := (A 13) j) d_Model_line_72 (mh_13 H) (by omega) (by decide) (show (A 13) j = (A 13) j from rfl) ?_
          refine mm_goto (tgt := 104) d_Model_line_73 (by decide) ?_
          refine mm_istore d_Model_line_104 (by decide) ?_
          refine mm_iload_n d_Model_line_106 rfl ?_
          refine mm_if_ne (tgt := 127) d_Model_line_107 (by decide) (fun c9 => absurd c9 (by decide)) (fun _ => ?_)
          refine mm_iload_n d_Model_line_110 rfl ?_
          refine mm_aload_n d_Model_line_111 rfl ?_
          refine mm_getf (v := .ref (m + 14)) d_Model_line_112 cl_Model fl_Model_49_Model (by decide) H.1 rfl ?_
          refine mm_iload_n d_Model_line_115 rfl ?_
          refine mx_ald (E := j) (v := (A 13) j) d_Model_line_116 (mh_13 H) (by omega) (by decide) (show (A 13) j = (A 13) j from rfl) ?_
          refine mm_icmp_eq (tgt := 127) d_Model_line_117 (by decide) (fun c_117 => ?_) (fun c_117 => ?_)
          · refine mm_iload_n d_Model_line_127 rfl ?_
            refine mm_if_ne (tgt := 138) d_Model_line_128 (by decide) (fun c9 => absurd c9 (by decide)) (fun _ => ?_)
            refine mm_aload_n d_Model_line_131 rfl ?_
            refine mm_getf (v := .ref (m + 14)) d_Model_line_132 cl_Model fl_Model_49_Model (by decide) H.1 rfl ?_
            refine mm_iload_n d_Model_line_135 rfl ?_
            refine mm_iload_n d_Model_line_136 rfl ?_
            refine mx_ast (E := j) d_Model_line_137 (mh_13 H) (by omega) (by decide) ?_
            refine mh_a (j := 13) (f := (upd (A 13) j v)) (by decide) H F (fun h H F => ?_)
            refine mm_iload_n d_Model_line_138 rfl ?_
            refine mm_iconst (v := 1) d_Model_line_139 (by decide) ?_
            refine mm_icmp_ne (tgt := 150) d_Model_line_140 (by decide) (fun _ => ?_) (fun c9 => absurd c9 (by decide))
            refine mm_iload_n d_Model_line_150 rfl ?_
            refine mm_iconst (v := 2) d_Model_line_151 (by decide) ?_
            refine mm_icmp_ne (tgt := 171) d_Model_line_152 (by decide) (fun _ => ?_) (fun c9 => absurd c9 (by decide))
            refine mm_iload d_Model_line_171 rfl ?_
            exact mm_ireturn d_Model_line_173 rfl (by have hv9 := w_in_iff.mp c_54; have hcl := c_line0 (c := c) hj c_54; have hw13 := (M.2.2.2 j hj).1; exact ⟨rfl, F, _, _, H, MC.inl (v := c.2.2.1 j) (by rw [hcl, if_pos (c_117.trans hw13), if_pos (c_117.trans hw13)]) (MR.lines (I' := mi I 0 0) R (fun k hk => mi_ne _ _ hk) (fun k hk => (by first | exact ma_ne _ _ (by omega) | (rw [ma_ne _ _ (by omega), ma_ne _ _ (by omega)]))) (by have h9 := way_ML M hj c_54 (fun z => (M.2.2.2 j hj).2.2.2.2.2.2.2 (by rw [← hw13, ← c_117]; exact z)); rw [c_117.trans hw13, upd_self9] at h9; rw [c_117.trans hw13]; exact h9)) (by omega) rfl hw13⟩)
          · refine mm_aload_n d_Model_line_120 rfl ?_
            refine mm_getf (v := .ref (m + 18)) d_Model_line_121 cl_Model fl_Model_62_Model (by decide) H.1 rfl ?_
            refine mm_iload_n d_Model_line_124 rfl ?_
            refine mm_iconst (v := 0) d_Model_line_125 (by decide) ?_
            refine mx_zst (E := j) d_Model_line_126 (mh_17 H) (by omega) (by decide) rfl ?_
            refine mh_a (j := 17) (f := (upd (A 17) j 0)) (by decide) H F (fun h H F => ?_)
            refine mm_iload_n d_Model_line_127 rfl ?_
            refine mm_if_ne (tgt := 138) d_Model_line_128 (by decide) (fun c9 => absurd c9 (by decide)) (fun _ => ?_)
            refine mm_aload_n d_Model_line_131 rfl ?_
            refine mm_getf (v := .ref (m + 14)) d_Model_line_132 cl_Model fl_Model_49_Model (by decide) H.1 rfl ?_
            refine mm_iload_n d_Model_line_135 rfl ?_
            refine mm_iload_n d_Model_line_136 rfl ?_
            refine mx_ast (E := j) d_Model_line_137 (mh_13 H) (by omega) (by decide) ?_
            refine mh_a (j := 13) (f := (upd (A 13) j v)) (by decide) H F (fun h H F => ?_)
            refine mm_iload_n d_Model_line_138 rfl ?_
            refine mm_iconst (v := 1) d_Model_line_139 (by decide) ?_
            refine mm_icmp_ne (tgt := 150) d_Model_line_140 (by decide) (fun _ => ?_) (fun c9 => absurd c9 (by decide))
            refine mm_iload_n d_Model_line_150 rfl ?_
            refine mm_iconst (v := 2) d_Model_line_151 (by decide) ?_
            refine mm_icmp_ne (tgt := 171) d_Model_line_152 (by decide) (fun _ => ?_) (fun c9 => absurd c9 (by decide))
            refine mm_iload d_Model_line_171 rfl ?_
            exact mm_ireturn d_Model_line_173 rfl (by have hv9 := w_in_iff.mp c_54; have hcl := c_line0 (c := c) hj c_54; have hw13 := (M.2.2.2 j hj).1; have hne : ¬ v = c.2.2.1 j := fun z => c_117 (z.trans hw13.symm); exact ⟨rfl, F, _, _, H, MC.inl (v := c.2.2.1 j) (by rw [hcl, if_neg hne, if_neg hne]) (MR.lines (I' := mi I 0 0) R (fun k hk => mi_ne _ _ hk) (fun k hk => (by first | exact ma_ne _ _ (by omega) | (rw [ma_ne _ _ (by omega), ma_ne _ _ (by omega)]))) (way_ML (forget_ML M hj) hj c_54 (fun _ => if_pos rfl))) (by omega) rfl hw13⟩)
        · refine mm_aload_n d_Model_line_57 rfl ?_
          refine mm_iconst (v := 2) d_Model_line_58 (by decide) ?_
          refine mx_call d_Model_line_59 (mm_Inv.vi (as := [.int 2]) d_Model_line_59 (Or.inl m_763) m_765 ce_Model_fail.2.1 ce_Model_fail.2.2.1 mp_19 ce_Model_fail.2.2.2.2.2 ln_Model_fail cl_Model H.1 rfl) (J_Model_fail H) (by decide) ce_Model_fail.1 ce_Model_fail.2.1 ce_Model_fail.2.2.1 ce_Model_fail.2.2.2.1 (Nat.le_of_ble_eq_true rfl) F (fun h H F => ?_)
          exact mm_ireturn d_Model_line_62 rfl ⟨rfl, F, _, _, H, MC.inr (c := c) (e := 0) (by unfold c_line; rw [if_neg (by rw [isLine_eq]; exact c_12), show ln_max 0 = 2 from rfl]; by_cases z : v < 0; rw [if_pos z]; rw [if_neg z, if_neg (fun z9 => absurd c_54 (w_in_iff.mpr ⟨z, Int32.not_lt.mpr z9⟩))]) R (by omega) rfl⟩
      · refine mm_iload_n d_Model_line_30 rfl ?_
        refine mm_iconst (v := 0) d_Model_line_31 (by decide) ?_
        refine mm_iload_n d_Model_line_32 rfl ?_
        refine mm_if_ne (tgt := 40) d_Model_line_33 (by decide) (fun _ => ?_) (fun c9 => absurd c9 (by decide))
        refine mm_iload_n d_Model_line_40 rfl ?_
        refine mm_iconst (v := 1) d_Model_line_41 (by decide) ?_
        refine mm_icmp_ne (tgt := 50) d_Model_line_42 (by decide) (fun c9 => absurd c9 (by decide)) (fun _ => ?_)
        refine mm_bipush (v := 15) d_Model_line_45 (by decide) ?_
        refine mm_goto (tgt := 51) d_Model_line_47 (by decide) ?_
        refine mm_callD (kc' := 0) (ks' := 0) d_Model_line_51 (mm_Inv.sta (as := [.int v, .int 0, .int 15]) d_Model_line_51 (Or.inl m_756) m_757 ce_Model_within.2.1 ce_Model_within.2.2.1 ce_Model_within.2.2.2.1 ce_Model_within.2.2.2.2.2 ln_Model_within rfl) J_Model_within (by decide) ce_Model_within.1 ce_Model_within.2.1 ce_Model_within.2.2.1 ce_Model_within.2.2.2.1 (Nat.le_of_ble_eq_true rfl) ?_
        refine mm_if_ne (tgt := 63) d_Model_line_54 (by decide) (fun c_54 => ?_) (fun c_54 => ?_)
        · refine mm_iload_n d_Model_line_63 rfl ?_
          refine mm_if_ne (tgt := 76) d_Model_line_64 (by decide) (fun _ => ?_) (fun c9 => absurd c9 (by decide))
          refine mm_iload_n d_Model_line_76 rfl ?_
          refine mm_iconst (v := 1) d_Model_line_77 (by decide) ?_
          refine mm_icmp_ne (tgt := 90) d_Model_line_78 (by decide) (fun c9 => absurd c9 (by decide)) (fun _ => ?_)
          refine mm_aload_n d_Model_line_81 rfl ?_
          refine mm_getf (v := .ref (m + 15)) d_Model_line_82 cl_Model fl_Model_52_Model (by decide) H.1 rfl ?_
          refine mm_iload_n d_Model_line_85 rfl ?_
          refine mx_ald (E := j) (v := (A 14) j) d_Model_line_86 (mh_14 H) (by omega) (by decide) (show (A 14) j = (A 14) j from rfl) ?_
          refine mm_goto (tgt := 104) d_Model_line_87 (by decide) ?_
          refine mm_istore d_Model_line_104 (by decide) ?_
          refine mm_iload_n d_Model_line_106 rfl ?_
          refine mm_if_ne (tgt := 127) d_Model_line_107 (by decide) (fun _ => ?_) (fun c9 => absurd c9 (by decide))
          refine mm_iload_n d_Model_line_127 rfl ?_
          refine mm_if_ne (tgt := 138) d_Model_line_128 (by decide) (fun _ => ?_) (fun c9 => absurd c9 (by decide))
          refine mm_iload_n d_Model_line_138 rfl ?_
          refine mm_iconst (v := 1) d_Model_line_139 (by decide) ?_
          refine mm_icmp_ne (tgt := 150) d_Model_line_140 (by decide) (fun c9 => absurd c9 (by decide)) (fun _ => ?_)
          refine mm_aload_n d_Model_line_143 rfl ?_
          refine mm_getf (v := .ref (m + 15)) d_Model_line_144 cl_Model fl_Model_52_Model (by decide) H.1 rfl ?_
          refine mm_iload_n d_Model_line_147 rfl ?_
          refine mm_iload_n d_Model_line_148 rfl ?_
          refine mx_ast (E := j) d_Model_line_149 (mh_14 H) (by omega) (by decide) ?_
          refine mh_a (j := 14) (f := (upd (A 14) j v)) (by decide) H F (fun h H F => ?_)
          refine mm_iload_n d_Model_line_150 rfl ?_
          refine mm_iconst (v := 2) d_Model_line_151 (by decide) ?_
          refine mm_icmp_ne (tgt := 171) d_Model_line_152 (by decide) (fun _ => ?_) (fun c9 => absurd c9 (by decide))
          refine mm_iload d_Model_line_171 rfl ?_
          exact mm_ireturn d_Model_line_173 rfl (by have hv9 := w_in_iff.mp c_54; have hcl := c_line1 (c := c) hj c_54; have hw14 := (M.2.2.2 j hj).2.2.1; exact ⟨rfl, F, _, _, H, MC.inl (v := c.2.2.2.1 j) hcl (MR.lines (I' := mi I 0 0) R (fun k hk => mi_ne _ _ hk) (fun k hk => (by first | exact ma_ne _ _ (by omega) | (rw [ma_ne _ _ (by omega), ma_ne _ _ (by omega)]))) (rank_ML M hv9.1)) (by omega) rfl hw14⟩)
        · refine mm_aload_n d_Model_line_57 rfl ?_
          refine mm_iconst (v := 2) d_Model_line_58 (by decide) ?_
          refine mx_call d_Model_line_59 (mm_Inv.vi (as := [.int 2]) d_Model_line_59 (Or.inl m_763) m_765 ce_Model_fail.2.1 ce_Model_fail.2.2.1 mp_19 ce_Model_fail.2.2.2.2.2 ln_Model_fail cl_Model H.1 rfl) (J_Model_fail H) (by decide) ce_Model_fail.1 ce_Model_fail.2.1 ce_Model_fail.2.2.1 ce_Model_fail.2.2.2.1 (Nat.le_of_ble_eq_true rfl) F (fun h H F => ?_)
          exact mm_ireturn d_Model_line_62 rfl ⟨rfl, F, _, _, H, MC.inr (c := c) (e := 0) (by unfold c_line; rw [if_neg (by rw [isLine_eq]; exact c_12), show ln_max 1 = 15 from rfl]; by_cases z : v < 0; rw [if_pos z]; rw [if_neg z, if_neg (fun z9 => absurd c_54 (w_in_iff.mpr ⟨z, Int32.not_lt.mpr z9⟩))]) R (by omega) rfl⟩
      · refine mm_iload_n d_Model_line_30 rfl ?_
        refine mm_iconst (v := 0) d_Model_line_31 (by decide) ?_
        refine mm_iload_n d_Model_line_32 rfl ?_
        refine mm_if_ne (tgt := 40) d_Model_line_33 (by decide) (fun _ => ?_) (fun c9 => absurd c9 (by decide))
        refine mm_iload_n d_Model_line_40 rfl ?_
        refine mm_iconst (v := 1) d_Model_line_41 (by decide) ?_
        refine mm_icmp_ne (tgt := 50) d_Model_line_42 (by decide) (fun _ => ?_) (fun c9 => absurd c9 (by decide))
        refine mm_iconst (v := 1) d_Model_line_50 (by decide) ?_
        refine mm_callD (kc' := 0) (ks' := 0) d_Model_line_51 (mm_Inv.sta (as := [.int v, .int 0, .int 1]) d_Model_line_51 (Or.inl m_756) m_757 ce_Model_within.2.1 ce_Model_within.2.2.1 ce_Model_within.2.2.2.1 ce_Model_within.2.2.2.2.2 ln_Model_within rfl) J_Model_within (by decide) ce_Model_within.1 ce_Model_within.2.1 ce_Model_within.2.2.1 ce_Model_within.2.2.2.1 (Nat.le_of_ble_eq_true rfl) ?_
        refine mm_if_ne (tgt := 63) d_Model_line_54 (by decide) (fun c_54 => ?_) (fun c_54 => ?_)
        · refine mm_iload_n d_Model_line_63 rfl ?_
          refine mm_if_ne (tgt := 76) d_Model_line_64 (by decide) (fun _ => ?_) (fun c9 => absurd c9 (by decide))
          refine mm_iload_n d_Model_line_76 rfl ?_
          refine mm_iconst (v := 1) d_Model_line_77 (by decide) ?_
          refine mm_icmp_ne (tgt := 90) d_Model_line_78 (by decide) (fun _ => ?_) (fun c9 => absurd c9 (by decide))
          refine mm_aload_n d_Model_line_90 rfl ?_
          refine mm_getf (v := .ref (m + 16)) d_Model_line_91 cl_Model fl_Model_55_Model (by decide) H.1 rfl ?_
          refine mm_iload_n d_Model_line_94 rfl ?_
          refine mx_zld (E := j) (v := (A 15) j) d_Model_line_95 (mh_15 H) (by omega) (by decide) (show (A 15) j = (A 15) j from rfl) ?_
          refine mm_if_eq (tgt := 103) d_Model_line_96 (by decide) (fun c_96 => ?_) (fun c_96 => ?_)
          · refine mm_iconst (v := 0) d_Model_line_103 (by decide) ?_
            refine mm_istore d_Model_line_104 (by decide) ?_
            refine mm_iload_n d_Model_line_106 rfl ?_
            refine mm_if_ne (tgt := 127) d_Model_line_107 (by decide) (fun _ => ?_) (fun c9 => absurd c9 (by decide))
            refine mm_iload_n d_Model_line_127 rfl ?_
            refine mm_if_ne (tgt := 138) d_Model_line_128 (by decide) (fun _ => ?_) (fun c9 => absurd c9 (by decide))
            refine mm_iload_n d_Model_line_138 rfl ?_
            refine mm_iconst (v := 1) d_Model_line_139 (by decide) ?_
            refine mm_icmp_ne (tgt := 150) d_Model_line_140 (by decide) (fun _ => ?_) (fun c9 => absurd c9 (by decide))
            refine mm_iload_n d_Model_line_150 rfl ?_
            refine mm_iconst (v := 2) d_Model_line_151 (by decide) ?_
            refine mm_icmp_ne (tgt := 171) d_Model_line_152 (by decide) (fun c9 => absurd c9 (by decide)) (fun _ => ?_)
            refine mm_aload_n d_Model_line_155 rfl ?_
            refine mm_getf (v := .ref (m + 16)) d_Model_line_156 cl_Model fl_Model_55_Model (by decide) H.1 rfl ?_
            refine mm_iload_n d_Model_line_159 rfl ?_
            refine mm_iload_n d_Model_line_160 rfl ?_
            refine mm_iconst (v := 1) d_Model_line_161 (by decide) ?_
            refine mm_icmp_ne (tgt := 169) d_Model_line_162 (by decide) (fun c_162 => ?_) (fun c_162 => ?_)
            · refine mm_iconst (v := 0) d_Model_line_169 (by decide) ?_
              refine mx_zst (E := j) d_Model_line_170 (mh_15 H) (by omega) (by decide) rfl ?_
              refine mh_a (j := 15) (f := (upd (A 15) j 0)) (by decide) H F (fun h H F => ?_)
              refine mm_iload d_Model_line_171 rfl ?_
              exact mm_ireturn d_Model_line_173 rfl (by have hv9 := w_in_iff.mp c_54; have hcl := c_line2 (c := c) hj c_54; have hvv : v = 0 := ((v01 c_54).resolve_right c_162); subst hvv; exact ⟨rfl, F, _, _, H, MC.inl (v := if A 15 j = 0 then 0 else 1) (by rw [hcl, bit_up M.1 hj]) (MR.lines (I' := mi I 0 0) R (fun k hk => mi_ne _ _ hk) (fun k hk => (by first | exact ma_ne _ _ (by omega) | (rw [ma_ne _ _ (by omega), ma_ne _ _ (by omega)]))) (hide_ML M hj (Or.inl rfl))) (by omega) rfl (by rw [if_pos c_96])⟩)
            · refine mm_iconst (v := 1) d_Model_line_165 (by decide) ?_
              refine mm_goto (tgt := 170) d_Model_line_166 (by decide) ?_
              refine mx_zst (E := j) d_Model_line_170 (mh_15 H) (by omega) (by decide) rfl ?_
              refine mh_a (j := 15) (f := (upd (A 15) j 1)) (by decide) H F (fun h H F => ?_)
              refine mm_iload d_Model_line_171 rfl ?_
              exact mm_ireturn d_Model_line_173 rfl (by have hv9 := w_in_iff.mp c_54; have hcl := c_line2 (c := c) hj c_54; have hvv : v = 1 := c_162; subst hvv; exact ⟨rfl, F, _, _, H, MC.inl (v := if A 15 j = 0 then 0 else 1) (by rw [hcl, bit_up M.1 hj]) (MR.lines (I' := mi I 0 0) R (fun k hk => mi_ne _ _ hk) (fun k hk => (by first | exact ma_ne _ _ (by omega) | (rw [ma_ne _ _ (by omega), ma_ne _ _ (by omega)]))) (hide_ML M hj (Or.inr rfl))) (by omega) rfl (by rw [if_pos c_96])⟩)
          · refine mm_iconst (v := 1) d_Model_line_99 (by decide) ?_
            refine mm_goto (tgt := 104) d_Model_line_100 (by decide) ?_
            refine mm_istore d_Model_line_104 (by decide) ?_
            refine mm_iload_n d_Model_line_106 rfl ?_
            refine mm_if_ne (tgt := 127) d_Model_line_107 (by decide) (fun _ => ?_) (fun c9 => absurd c9 (by decide))
            refine mm_iload_n d_Model_line_127 rfl ?_
            refine mm_if_ne (tgt := 138) d_Model_line_128 (by decide) (fun _ => ?_) (fun c9 => absurd c9 (by decide))
            refine mm_iload_n d_Model_line_138 rfl ?_
            refine mm_iconst (v := 1) d_Model_line_139 (by decide) ?_
            refine mm_icmp_ne (tgt := 150) d_Model_line_140 (by decide) (fun _ => ?_) (fun c9 => absurd c9 (by decide))
            refine mm_iload_n d_Model_line_150 rfl ?_
            refine mm_iconst (v := 2) d_Model_line_151 (by decide) ?_
            refine mm_icmp_ne (tgt := 171) d_Model_line_152 (by decide) (fun c9 => absurd c9 (by decide)) (fun _ => ?_)
            refine mm_aload_n d_Model_line_155 rfl ?_
            refine mm_getf (v := .ref (m + 16)) d_Model_line_156 cl_Model fl_Model_55_Model (by decide) H.1 rfl ?_
            refine mm_iload_n d_Model_line_159 rfl ?_
            refine mm_iload_n d_Model_line_160 rfl ?_
            refine mm_iconst (v := 1) d_Model_line_161 (by decide) ?_
            refine mm_icmp_ne (tgt := 169) d_Model_line_162 (by decide) (fun c_162 => ?_) (fun c_162 => ?_)
            · refine mm_iconst (v := 0) d_Model_line_169 (by decide) ?_
              refine mx_zst (E := j) d_Model_line_170 (mh_15 H) (by omega) (by decide) rfl ?_
              refine mh_a (j := 15) (f := (upd (A 15) j 0)) (by decide) H F (fun h H F => ?_)
              refine mm_iload d_Model_line_171 rfl ?_
              exact mm_ireturn d_Model_line_173 rfl (by have hv9 := w_in_iff.mp c_54; have hcl := c_line2 (c := c) hj c_54; have hvv : v = 0 := ((v01 c_54).resolve_right c_162); subst hvv; exact ⟨rfl, F, _, _, H, MC.inl (v := if A 15 j = 0 then 0 else 1) (by rw [hcl, bit_up M.1 hj]) (MR.lines (I' := mi I 0 0) R (fun k hk => mi_ne _ _ hk) (fun k hk => (by first | exact ma_ne _ _ (by omega) | (rw [ma_ne _ _ (by omega), ma_ne _ _ (by omega)]))) (hide_ML M hj (Or.inl rfl))) (by omega) rfl (by rw [if_neg c_96])⟩)
            · refine mm_iconst (v := 1) d_Model_line_165 (by decide) ?_
              refine mm_goto (tgt := 170) d_Model_line_166 (by decide) ?_
              refine mx_zst (E := j) d_Model_line_170 (mh_15 H) (by omega) (by decide) rfl ?_
              refine mh_a (j := 15) (f := (upd (A 15) j 1)) (by decide) H F (fun h H F => ?_)
              refine mm_iload d_Model_line_171 rfl ?_
              exact mm_ireturn d_Model_line_173 rfl (by have hv9 := w_in_iff.mp c_54; have hcl := c_line2 (c := c) hj c_54; have hvv : v = 1 := c_162; subst hvv; exact ⟨rfl, F, _, _, H, MC.inl (v := if A 15 j = 0 then 0 else 1) (by rw [hcl, bit_up M.1 hj]) (MR.lines (I' := mi I 0 0) R (fun k hk => mi_ne _ _ hk) (fun k hk => (by first | exact ma_ne _ _ (by omega) | (rw [ma_ne _ _ (by omega), ma_ne _ _ (by omega)]))) (hide_ML M hj (Or.inr rfl))) (by omega) rfl (by rw [if_neg c_96])⟩)
        · refine mm_aload_n d_Model_line_57 rfl ?_
          refine mm_iconst (v := 2) d_Model_line_58 (by decide) ?_
          refine mx_call d_Model_line_59 (mm_Inv.vi (as := [.int 2]) d_Model_line_59 (Or.inl m_763) m_765 ce_Model_fail.2.1 ce_Model_fail.2.2.1 mp_19 ce_Model_fail.2.2.2.2.2 ln_Model_fail cl_Model H.1 rfl) (J_Model_fail H) (by decide) ce_Model_fail.1 ce_Model_fail.2.1 ce_Model_fail.2.2.1 ce_Model_fail.2.2.2.1 (Nat.le_of_ble_eq_true rfl) F (fun h H F => ?_)
          exact mm_ireturn d_Model_line_62 rfl ⟨rfl, F, _, _, H, MC.inr (c := c) (e := 0) (by unfold c_line; rw [if_neg (by rw [isLine_eq]; exact c_12), show ln_max 2 = 1 from rfl]; by_cases z : v < 0; rw [if_pos z]; rw [if_neg z, if_neg (fun z9 => absurd c_54 (w_in_iff.mpr ⟨z, Int32.not_lt.mpr z9⟩))]) R (by omega) rfl⟩
  · refine mm_aload_n d_Model_line_15 rfl ?_
    refine mm_iconst (v := 1) d_Model_line_16 (by decide) ?_
    refine mx_call d_Model_line_17 (mm_Inv.vi (as := [.int 1]) d_Model_line_17 (Or.inl m_763) m_765 ce_Model_fail.2.1 ce_Model_fail.2.2.1 mp_19 ce_Model_fail.2.2.2.2.2 ln_Model_fail cl_Model H.1 rfl) (J_Model_fail H) (by decide) ce_Model_fail.1 ce_Model_fail.2.1 ce_Model_fail.2.2.1 ce_Model_fail.2.2.2.1 (Nat.le_of_ble_eq_true rfl) F (fun h H F => ?_)
    exact mm_ireturn d_Model_line_20 rfl ⟨rfl, F, _, _, H, MC.inr (c := c) (e := 2) (by unfold c_line; rw [if_pos (by rw [isLine_eq]; exact c_12)]) R (by omega) rfl⟩
