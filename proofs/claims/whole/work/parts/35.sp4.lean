def c_reach (k : Int32) (c : cS) : (Nat ⊕ Nat) × cS := if sp_isPlace k = 0 then (.inr 2, c) else match c_with c.1 c.2.1 k 12 0 with
  | none => (.inr 3, c_tally 3 c)
  | some i => (.inl i, (c_steps (1 + (c.2.1 i).2.1.2.2.2).toNatClampNeg c 0).1)
theorem c_reach_lt {k : Int32} {c c' : cS} {i : Nat} (h : c_reach k c = (.inl i, c')) : i < c.1 := by
  unfold c_reach at h
  split at h
  · cases h
  · split at h
    · cases h
    · rename_i j hj
      cases h
      exact c_with_lt _ _ _ hj
set_option maxRecDepth 100000 in
set_option maxHeartbeats 4000000 in
theorem J_SP_reachPart {sc : mm_Sc} {n : Nat} {h : mm_H} {x : Nat} {pa : Nat → Nat} {c : cS} {k : Int32} (H : CH h x pa c)  : mm_J sc y_SP_reachPart 8 [.ref x, .int k] n h 1 6 (CP (c_reach k c) n h x pa c) := by
  refine mm_J.of (show mm_G sc y_SP_reachPart 8 0 [some (.ref x), some (.int k), none] [] n h 1 6 _ from ?_) ce_SP_reachPart.2.2.2.2.1 (Nat.le_of_ble_eq_true rfl) (by simp [Value.category])
  have q0 : h x = some (.inr (0, [.ref (x + 1), .ref (x + 2), .ref (x + 5), .int (nI c.1), .int c.2.2.2.2.2.2.2.2.1, .int c.2.2.2.2.2.2.2.2.2])) := H.1
  have q1 : h (x + 1) = some (.inl (3, 12, .inr (.inr (.inr (.inr (c_refs c.1 pa)))))) := H.2.1
  have q2 : h (x + 2) = some (.inr (1, [.ref (x + 3), .ref (x + 4), .int c.2.2.2.2.2.1, .int c.2.2.2.2.2.2.1, .int c.2.2.2.2.2.2.2.1])) := H.2.2.1
  have q3 : h (x + 3) = some (.inl (0, 16, .inl c.2.2.1)) := H.2.2.2.1
  have q4 : h (x + 4) = some (.inl (0, 16, .inl c.2.2.2.1)) := H.2.2.2.2.1
  have q5 : h (x + 5) = some (.inl (0, 4, .inl c.2.2.2.2.1)) := H.2.2.2.2.2.1
  have q6 : c.1 ≤ 12 := H.2.2.2.2.2.2.1
  have q7 : ∀ j9, j9 < c.1 → PH h (pa j9) (c.2.1 j9) ∧ x + 6 ≤ pa j9 := H.2.2.2.2.2.2.2.1
  refine mm_iload_n d_SP_reachPart_0 rfl ?_
  refine mm_callD (kc' := 0) (ks' := 0) d_SP_reachPart_1 (mm_Inv.sta (as := [.int k]) d_SP_reachPart_1 (Or.inl m_154) m_155 ce_SP_isPlace.2.1 ce_SP_isPlace.2.2.1 ce_SP_isPlace.2.2.2.1 ce_SP_isPlace.2.2.2.2.2 ln_SP_isPlace rfl) J_SP_isPlace (by decide) ce_SP_isPlace.1 ce_SP_isPlace.2.1 ce_SP_isPlace.2.2.1 ce_SP_isPlace.2.2.2.1 (Nat.le_of_ble_eq_true rfl) ?_
  refine mm_if_ne (tgt := 17) d_SP_reachPart_4 (by decide) (fun c_4 => ?_) (fun c_4 => ?_)
  · refine mm_aload_n d_SP_reachPart_17 rfl ?_
    refine mm_iload_n d_SP_reachPart_18 rfl ?_
    refine mm_callD (kc' := 0) (ks' := 0) d_SP_reachPart_19 (mm_Inv.vi (as := [.int k]) d_SP_reachPart_19 (Or.inl m_394) m_396 ce_SP_partWith.2.1 ce_SP_partWith.2.2.1 mp_5 ce_SP_partWith.2.2.2.2.2 ln_SP_partWith cl_SP q0 rfl) (K_partWith H) (by decide) ce_SP_partWith.1 ce_SP_partWith.2.1 ce_SP_partWith.2.2.1 ce_SP_partWith.2.2.2.1 (Nat.le_of_ble_eq_true rfl) ?_
    rcases hw : c_with c.1 c.2.1 k 12 0 with _ | i
    · refine mm_G.cast (st' := .null :: []) rfl rfl rfl ?_
      refine mm_astore_nN d_SP_reachPart_22 (by decide) ?_
      refine mm_aload_nN d_SP_reachPart_23 rfl ?_
      refine mm_ifnonnullN d_SP_reachPart_24 ?_
      refine mm_aload_n d_SP_reachPart_27 rfl ?_
      refine mm_iconst (v := 3) d_SP_reachPart_28 (by decide) ?_
      refine mm_call (kc' := 0) (ks' := 0) d_SP_reachPart_29 (mm_Inv.vi (as := [.int 3]) d_SP_reachPart_29 (Or.inl m_436) m_438 ce_SP_tallyOne.2.1 ce_SP_tallyOne.2.2.1 mp_7 ce_SP_tallyOne.2.2.2.2.2 ln_SP_tallyOne cl_SP q0 rfl) (K_tallyOne H (by decide) (by decide)) (by decide) ce_SP_tallyOne.1 ce_SP_tallyOne.2.1 ce_SP_tallyOne.2.2.1 ce_SP_tallyOne.2.2.2.1 (Nat.le_of_ble_eq_true rfl) (fun v9 n9 h7 hq9 => ?_) (fun k9 n9 h9 hq9 => by cases hq9.1)
      obtain ⟨e9, rfl, H7, hF7, hE7⟩ := hq9
      cases e9
      have hT8 := CFr.tr (CE.rf _) CFr.rf hF7
      have hS8 := CE.tr (CE.rf _) hE7
      generalize gc8 : c_tally 3 c = c8 at H7 hT8 hS8 hE7
      have q0_8 : h7 x = some (.inr (0, [.ref (x + 1), .ref (x + 2), .ref (x + 5), .int (nI c8.1), .int c8.2.2.2.2.2.2.2.2.1, .int c8.2.2.2.2.2.2.2.2.2])) := H7.1
      have q1_8 : h7 (x + 1) = some (.inl (3, 12, .inr (.inr (.inr (.inr (c_refs c8.1 pa)))))) := H7.2.1
      have q2_8 : h7 (x + 2) = some (.inr (1, [.ref (x + 3), .ref (x + 4), .int c8.2.2.2.2.2.1, .int c8.2.2.2.2.2.2.1, .int c8.2.2.2.2.2.2.2.1])) := H7.2.2.1
      have q3_8 : h7 (x + 3) = some (.inl (0, 16, .inl c8.2.2.1)) := H7.2.2.2.1
      have q4_8 : h7 (x + 4) = some (.inl (0, 16, .inl c8.2.2.2.1)) := H7.2.2.2.2.1
      have q5_8 : h7 (x + 5) = some (.inl (0, 4, .inl c8.2.2.2.2.1)) := H7.2.2.2.2.2.1
      have q6_8 : c8.1 ≤ 12 := H7.2.2.2.2.2.2.1
      have q7_8 : ∀ j9, j9 < c8.1 → PH h7 (pa j9) (c8.2.1 j9) ∧ x + 6 ≤ pa j9 := H7.2.2.2.2.2.2.2.1
      exact mm_throw (kc := 0) (ks := 0) xs_ok xo_SP_reachPart_32 d_SP_reachPart_32 d_SP_reachPart_35 d_SP_reachPart_36 d_SP_reachPart_38 d_SP_reachPart_41 rfl (by decide) (Nat.le_of_ble_eq_true rfl) (fun n8 hn8 => (CP.of (a := .inr 3) (c' := c8) (by simp [c_reach, c_4, hw, gc8]) rfl (by omega) H7 hT8 hS8))
    · refine mm_G.cast (st' := .ref (pa i + 1) :: []) rfl rfl rfl ?_
      have hiN := c_with_lt _ _ _ hw
      have hPH := (q7 i hiN).1
      refine mm_astore_n d_SP_reachPart_22 (by decide) ?_
      refine mm_aload_n d_SP_reachPart_23 rfl ?_
      refine mm_ifnonnull (tgt := 42) d_SP_reachPart_24 (by decide) ?_
      refine mm_aload_n d_SP_reachPart_42 rfl ?_
      refine mm_aload_n d_SP_reachPart_43 rfl ?_
      refine g_seat rfl d_SP_reachPart_44 hPH ?_
      refine mm_callD (kc' := 0) (ks' := 0) d_SP_reachPart_47 (mm_Inv.vi (as := []) d_SP_reachPart_47 (Or.inl m_460) m_461 ce_Seat_accessSteps.2.1 ce_Seat_accessSteps.2.2.1 m_462 ce_Seat_accessSteps.2.2.2.2.2 ln_Seat_accessSteps cl_Seat (hPH).1 rfl) (J_Seat_accessSteps (hPH).1) (by decide) ce_Seat_accessSteps.1 ce_Seat_accessSteps.2.1 ce_Seat_accessSteps.2.2.1 ce_Seat_accessSteps.2.2.2.1 (Nat.le_of_ble_eq_true rfl) ?_
      refine mm_call (kc' := 0) (ks' := 0) d_SP_reachPart_50 (mm_Inv.vi (as := [.int (1 + (c.2.1 i).2.1.2.2.2)]) d_SP_reachPart_50 (Or.inl m_464) m_466 ce_SP_runSteps.2.1 ce_SP_runSteps.2.2.1 mp_8 ce_SP_runSteps.2.2.2.2.2 ln_SP_runSteps cl_SP q0 rfl) (J_SP_runSteps H) (by decide) ce_SP_runSteps.1 ce_SP_runSteps.2.1 ce_SP_runSteps.2.2.1 ce_SP_runSteps.2.2.2.1 (Nat.le_of_ble_eq_true rfl) (fun v9 n9 h9 hq9 => ?_) (fun k9 n9 h9 hq9 => by cases hq9.1)
      obtain ⟨e9, rfl, H9, hF9, hE9⟩ := hq9
      cases e9
      have hT10 := CFr.tr (CE.rf _) CFr.rf hF9
      have hS10 := CE.tr (CE.rf _) hE9
      generalize gc10 : (c_steps (1 + (c.2.1 i).2.1.2.2.2).toNatClampNeg c 0).1 = c10 at H9 hT10 hS10 hE9
      have q0_10 : h9 x = some (.inr (0, [.ref (x + 1), .ref (x + 2), .ref (x + 5), .int (nI c10.1), .int c10.2.2.2.2.2.2.2.2.1, .int c10.2.2.2.2.2.2.2.2.2])) := H9.1
      have q1_10 : h9 (x + 1) = some (.inl (3, 12, .inr (.inr (.inr (.inr (c_refs c10.1 pa)))))) := H9.2.1
      have q2_10 : h9 (x + 2) = some (.inr (1, [.ref (x + 3), .ref (x + 4), .int c10.2.2.2.2.2.1, .int c10.2.2.2.2.2.2.1, .int c10.2.2.2.2.2.2.2.1])) := H9.2.2.1
      have q3_10 : h9 (x + 3) = some (.inl (0, 16, .inl c10.2.2.1)) := H9.2.2.2.1
      have q4_10 : h9 (x + 4) = some (.inl (0, 16, .inl c10.2.2.2.1)) := H9.2.2.2.2.1
      have q5_10 : h9 (x + 5) = some (.inl (0, 4, .inl c10.2.2.2.2.1)) := H9.2.2.2.2.2.1
      have q6_10 : c10.1 ≤ 12 := H9.2.2.2.2.2.2.1
      have q7_10 : ∀ j9, j9 < c10.1 → PH h9 (pa j9) (c10.2.1 j9) ∧ x + 6 ≤ pa j9 := H9.2.2.2.2.2.2.2.1
      refine mm_pop d_SP_reachPart_53 rfl ?_
      refine mm_aload_n d_SP_reachPart_54 rfl ?_
      exact mm_areturn d_SP_reachPart_55 rfl (Or.inr ⟨_, rfl⟩) (CP.of (a := .inl i) (c' := c10) (by simp [c_reach, c_4, hw]; exact gc10) rfl (by omega) H9 hT10 hS10)
  · exact mm_throw (kc := 0) (ks := 0) xs_ok xo_SP_reachPart_7 d_SP_reachPart_7 d_SP_reachPart_10 d_SP_reachPart_11 d_SP_reachPart_13 d_SP_reachPart_16 rfl (by decide) (Nat.le_of_ble_eq_true rfl) (fun n8 hn8 => (CP.of (a := .inr 2) (c' := c) (by simp [c_reach, c_4]) rfl (by omega) H CFr.rf (CE.rf _)))
def c_ser (k : Int32) (c : cS) : (Nat ⊕ Nat) × cS := if k < 0 then (.inr 0, c) else if 12 ≤ k then (.inr 0, c) else if k.toNatClampNeg < c.1 then (if (c.2.1 k.toNatClampNeg).1 = 3 then (.inl k.toNatClampNeg, c) else (.inr 0, c)) else (.inr 0, c)
theorem c_ser_lt {k : Int32} {c c' : cS} {i : Nat} (h : c_ser k c = (.inl i, c')) : i < c.1 ∧ (c.2.1 i).1 = 3 ∧ c' = c := by
  unfold c_ser at h
  repeat' split at h
  all_goals first | (cases h; refine ⟨?_, ?_, rfl⟩ <;> assumption) | cases h
theorem c_ser_no {k : Int32} {c : cS} (h : k < 0 ∨ 12 ≤ k ∨ ¬ k.toNatClampNeg < c.1 ∨ ¬ (c.2.1 k.toNatClampNeg).1 = 3) : c_ser k c = (.inr 0, c) := by
  unfold c_ser
  repeat' split
  all_goals first | rfl | (exfalso; simp_all)
set_option maxRecDepth 100000 in
set_option maxHeartbeats 4000000 in
theorem J_SP_serialAt {sc : mm_Sc} {n : Nat} {h : mm_H} {x : Nat} {pa : Nat → Nat} {c : cS} {k : Int32} (H : CH h x pa c)  : mm_J sc y_SP_serialAt 6 [.ref x, .int k] n h 1 6 (CP (c_ser k c) n h x pa c) := by
  refine mm_J.of (show mm_G sc y_SP_serialAt 6 0 [some (.ref x), some (.int k), none, none] [] n h 1 6 _ from ?_) ce_SP_serialAt.2.2.2.2.1 (Nat.le_of_ble_eq_true rfl) (by simp [Value.category])
  have q0 : h x = some (.inr (0, [.ref (x + 1), .ref (x + 2), .ref (x + 5), .int (nI c.1), .int c.2.2.2.2.2.2.2.2.1, .int c.2.2.2.2.2.2.2.2.2])) := H.1
  have q1 : h (x + 1) = some (.inl (3, 12, .inr (.inr (.inr (.inr (c_refs c.1 pa)))))) := H.2.1
  have q2 : h (x + 2) = some (.inr (1, [.ref (x + 3), .ref (x + 4), .int c.2.2.2.2.2.1, .int c.2.2.2.2.2.2.1, .int c.2.2.2.2.2.2.2.1])) := H.2.2.1
  have q3 : h (x + 3) = some (.inl (0, 16, .inl c.2.2.1)) := H.2.2.2.1
  have q4 : h (x + 4) = some (.inl (0, 16, .inl c.2.2.2.1)) := H.2.2.2.2.1
  have q5 : h (x + 5) = some (.inl (0, 4, .inl c.2.2.2.2.1)) := H.2.2.2.2.2.1
  have q6 : c.1 ≤ 12 := H.2.2.2.2.2.2.1
  have q7 : ∀ j9, j9 < c.1 → PH h (pa j9) (c.2.1 j9) ∧ x + 6 ≤ pa j9 := H.2.2.2.2.2.2.2.1
  refine mm_iload_n d_SP_serialAt_0 rfl ?_
  refine mm_if_lt (tgt := 34) d_SP_serialAt_1 (by decide) (fun c_1 => ?_) (fun c_1 => ?_)
  · exact mm_throw (kc := 0) (ks := 0) xs_ok xo_SP_serialAt_34 d_SP_serialAt_34 d_SP_serialAt_37 d_SP_serialAt_38 d_SP_serialAt_40 d_SP_serialAt_43 rfl (by decide) (Nat.le_of_ble_eq_true rfl) (fun n8 hn8 => (CP.of (a := .inr 0) (c' := c) (c_ser_no (Or.inl c_1)) rfl (by omega) H CFr.rf (CE.rf c)))
  · refine mm_iload_n d_SP_serialAt_4 rfl ?_
    refine mm_aload_n d_SP_serialAt_5 rfl ?_
    refine mm_getf d_SP_serialAt_6 cl_SP fl_SP_11_SP (by decide) q0 rfl ?_
    refine mm_alen d_SP_serialAt_9 q1 (by decide) ?_
    refine mm_icmp_ge (tgt := 34) d_SP_serialAt_10 (by decide) (fun c_10 => ?_) (fun c_10 => ?_)
    · exact mm_throw (kc := 0) (ks := 0) xs_ok xo_SP_serialAt_34 d_SP_serialAt_34 d_SP_serialAt_37 d_SP_serialAt_38 d_SP_serialAt_40 d_SP_serialAt_43 rfl (by decide) (Nat.le_of_ble_eq_true rfl) (fun n8 hn8 => (CP.of (a := .inr 0) (c' := c) (c_ser_no (Or.inr (Or.inl c_10))) rfl (by omega) H CFr.rf (CE.rf c)))
    · refine mm_aload_n d_SP_serialAt_13 rfl ?_
      refine mm_getf d_SP_serialAt_14 cl_SP fl_SP_11_SP (by decide) q0 rfl ?_
      refine mm_iload_n d_SP_serialAt_17 rfl ?_
      refine mm_aald d_SP_serialAt_18 q1 (mm_inb (len := 12) (by omega) c_1 c_10) ?_
      by_cases hN : k.toNatClampNeg < c.1
      · refine mm_G.cast (st' := .ref (pa k.toNatClampNeg + 1) :: []) rfl (by simp [c_refs, hN, va_rf]) rfl ?_
        refine mm_astore_n d_SP_serialAt_19 (by decide) ?_
        refine mm_aload_n d_SP_serialAt_20 rfl ?_
        refine g_isSerial rfl d_SP_serialAt_21 (q7 k.toNatClampNeg hN).1 (fun hk3 => ?_) (fun hk3 => ?_)
        · refine mm_if_eq (tgt := 34) d_SP_serialAt_24 (by decide) (fun c9 => absurd c9 (by decide)) (fun _ => ?_)
          refine mm_aload_n d_SP_serialAt_27 rfl ?_
          have hob := p_obj3 (q7 k.toNatClampNeg hN).1 hk3
          refine mm_castY d_SP_serialAt_28 hob cl_Serial m_130 (Or.inl rfl) ?_
          refine mm_astore_n d_SP_serialAt_31 (by decide) ?_
          refine mm_aload_n d_SP_serialAt_32 rfl ?_
          exact mm_areturn d_SP_serialAt_33 rfl (Or.inr ⟨_, rfl⟩) (CP.of (a := .inl k.toNatClampNeg) (c' := c) (by have c_10' : ¬ (12 : Int32) ≤ k := c_10; unfold c_ser; rw [if_neg c_1, if_neg c_10', if_pos hN, if_pos hk3]) rfl (by omega) H CFr.rf (CE.rf c))
        · refine mm_if_eq (tgt := 34) d_SP_serialAt_24 (by decide) (fun _ => ?_) (fun c9 => absurd rfl c9)
          exact mm_throw (kc := 0) (ks := 0) xs_ok xo_SP_serialAt_34 d_SP_serialAt_34 d_SP_serialAt_37 d_SP_serialAt_38 d_SP_serialAt_40 d_SP_serialAt_43 rfl (by decide) (Nat.le_of_ble_eq_true rfl) (fun n8 hn8 => (CP.of (a := .inr 0) (c' := c) (c_ser_no (Or.inr (Or.inr (Or.inr hk3)))) rfl (by omega) H CFr.rf (CE.rf c)))
      · refine mm_G.cast (st' := .null :: []) rfl (by simp [c_refs, hN, va_rf]) rfl ?_
        refine mm_astore_nN d_SP_serialAt_19 (by decide) ?_
        refine mm_aload_nN d_SP_serialAt_20 rfl ?_
        refine mm_instN d_SP_serialAt_21 ?_
        refine mm_if_eq (tgt := 34) d_SP_serialAt_24 (by decide) (fun _ => ?_) (fun c9 => absurd rfl c9)
        exact mm_throw (kc := 0) (ks := 0) xs_ok xo_SP_serialAt_34 d_SP_serialAt_34 d_SP_serialAt_37 d_SP_serialAt_38 d_SP_serialAt_40 d_SP_serialAt_43 rfl (by decide) (Nat.le_of_ble_eq_true rfl) (fun n8 hn8 => (CP.of (a := .inr 0) (c' := c) (c_ser_no (Or.inr (Or.inr (Or.inl hN)))) rfl (by omega) H CFr.rf (CE.rf c)))
def c_read (k : Int32) (c : cS) : cA × cS := match c_reach k c with
  | (.inr e, c') => (.inr e, c')
  | (.inl i, c') => (.inl (p_look ((c_tally 1 c').2.1 i) (k - ((c_tally 1 c').2.1 i).2.1.1)).2, c_follow (c_setP (c_tally 1 c') i (p_look ((c_tally 1 c').2.1 i) (k - ((c_tally 1 c').2.1 i).2.1.1)).1))
def c_write (k v : Int32) (c : cS) : cA × cS := match c_reach k c with
  | (.inr e, c') => (.inr e, c')
  | (.inl i, c') => if p_ref (c'.2.1 i) = 0 then (.inl (1 + ((c_follow (c_setP (c_tally 2 c') i (p_set ((c_tally 2 c').2.1 i) (k - ((c_tally 2 c').2.1 i).2.1.1) v))).2.1 i).2.1.2.2.2), c_follow (c_setP (c_tally 2 c') i (p_set ((c_tally 2 c').2.1 i) (k - ((c_tally 2 c').2.1 i).2.1.1) v))) else (.inr 3, c_tally 3 c')
set_option maxRecDepth 100000 in
set_option maxHeartbeats 4000000 in
theorem J_SP_read {sc : mm_Sc} {n : Nat} {h : mm_H} {x : Nat} {pa : Nat → Nat} {c : cS} {k : Int32} (H : CH h x pa c)  : mm_J sc y_SP_read 9 [.ref x, .int k] n h 1 6 (CI (c_read k c) n h x pa c) := by
  refine mm_J.of (show mm_G sc y_SP_read 9 0 [some (.ref x), some (.int k), none, none] [] n h 1 6 _ from ?_) ce_SP_read.2.2.2.2.1 (Nat.le_of_ble_eq_true rfl) (by simp [Value.category])
  have q0 : h x = some (.inr (0, [.ref (x + 1), .ref (x + 2), .ref (x + 5), .int (nI c.1), .int c.2.2.2.2.2.2.2.2.1, .int c.2.2.2.2.2.2.2.2.2])) := H.1
  have q1 : h (x + 1) = some (.inl (3, 12, .inr (.inr (.inr (.inr (c_refs c.1 pa)))))) := H.2.1
  have q2 : h (x + 2) = some (.inr (1, [.ref (x + 3), .ref (x + 4), .int c.2.2.2.2.2.1, .int c.2.2.2.2.2.2.1, .int c.2.2.2.2.2.2.2.1])) := H.2.2.1
  have q3 : h (x + 3) = some (.inl (0, 16, .inl c.2.2.1)) := H.2.2.2.1
  have q4 : h (x + 4) = some (.inl (0, 16, .inl c.2.2.2.1)) := H.2.2.2.2.1
  have q5 : h (x + 5) = some (.inl (0, 4, .inl c.2.2.2.2.1)) := H.2.2.2.2.2.1
  have q6 : c.1 ≤ 12 := H.2.2.2.2.2.2.1
  have q7 : ∀ j9, j9 < c.1 → PH h (pa j9) (c.2.1 j9) ∧ x + 6 ≤ pa j9 := H.2.2.2.2.2.2.2.1
  refine mm_aload_n d_SP_read_0 rfl ?_
  refine mm_iload_n d_SP_read_1 rfl ?_
  rcases hr : c_reach k c with ⟨i | e, c1⟩
  · refine mm_call (kc := 0) (ks := 0) (kc' := 1) (ks' := 6) d_SP_read_2 (mm_Inv.vi (as := [.int k]) d_SP_read_2 (Or.inl m_416) m_418 ce_SP_reachPart.2.1 ce_SP_reachPart.2.2.1 mp_6 ce_SP_reachPart.2.2.2.2.2 ln_SP_reachPart cl_SP q0 rfl) (J_SP_reachPart H) (by decide) ce_SP_reachPart.1 ce_SP_reachPart.2.1 ce_SP_reachPart.2.2.1 ce_SP_reachPart.2.2.2.1 (Nat.le_of_ble_eq_true rfl) (fun v9 n9 h1 hq9 => ?_) (fun k9 n9 h9 hq9 => by rw [hr] at hq9; cases hq9.1)
    rw [hr] at hq9
    obtain ⟨e9, hn9, H1, hF1, hE1⟩ := hq9
    cases e9
    have hiN0 := c_reach_lt hr
    have hT101 := CFr.tr (CE.rf _) CFr.rf hF1
    have hS101 := CE.tr (CE.rf _) hE1
    have q0_101 : h1 x = some (.inr (0, [.ref (x + 1), .ref (x + 2), .ref (x + 5), .int (nI c1.1), .int c1.2.2.2.2.2.2.2.2.1, .int c1.2.2.2.2.2.2.2.2.2])) := H1.1
    have q1_101 : h1 (x + 1) = some (.inl (3, 12, .inr (.inr (.inr (.inr (c_refs c1.1 pa)))))) := H1.2.1
    have q2_101 : h1 (x + 2) = some (.inr (1, [.ref (x + 3), .ref (x + 4), .int c1.2.2.2.2.2.1, .int c1.2.2.2.2.2.2.1, .int c1.2.2.2.2.2.2.2.1])) := H1.2.2.1
    have q3_101 : h1 (x + 3) = some (.inl (0, 16, .inl c1.2.2.1)) := H1.2.2.2.1
    have q4_101 : h1 (x + 4) = some (.inl (0, 16, .inl c1.2.2.2.1)) := H1.2.2.2.2.1
    have q5_101 : h1 (x + 5) = some (.inl (0, 4, .inl c1.2.2.2.2.1)) := H1.2.2.2.2.2.1
    have q6_101 : c1.1 ≤ 12 := H1.2.2.2.2.2.2.1
    have q7_101 : ∀ j9, j9 < c1.1 → PH h1 (pa j9) (c1.2.1 j9) ∧ x + 6 ≤ pa j9 := H1.2.2.2.2.2.2.2.1
    have hiN : i < c1.1 := by have hz9 : c1.1 = c.1 := hE1.1; omega
    have hPH := (H1.2.2.2.2.2.2.2.1 i hiN).1
    refine mm_astore_n d_SP_read_5 (by decide) ?_
    refine mm_aload_n d_SP_read_6 rfl ?_
    refine mm_iconst (v := 1) d_SP_read_7 (by decide) ?_
    refine mm_call (kc' := 0) (ks' := 0) d_SP_read_8 (mm_Inv.vi (as := [.int 1]) d_SP_read_8 (Or.inl m_436) m_438 ce_SP_tallyOne.2.1 ce_SP_tallyOne.2.2.1 mp_7 ce_SP_tallyOne.2.2.2.2.2 ln_SP_tallyOne cl_SP q0_101 rfl) (K_tallyOne H1 (by decide) (by decide)) (by decide) ce_SP_tallyOne.1 ce_SP_tallyOne.2.1 ce_SP_tallyOne.2.2.1 ce_SP_tallyOne.2.2.2.1 (Nat.le_of_ble_eq_true rfl) (fun v9 n9 h102 hq9 => ?_) (fun k9 n9 h9 hq9 => by cases hq9.1)
    obtain ⟨e9, rfl, H102, hF102, hE102⟩ := hq9
    cases e9
    have hT103 := CFr.tr hS101 hT101 hF102
    have hS103 := CE.tr hS101 hE102
    generalize gc103 : c_tally 1 c1 = c103 at H102 hT103 hS103 hE102
    have q0_103 : h102 x = some (.inr (0, [.ref (x + 1), .ref (x + 2), .ref (x + 5), .int (nI c103.1), .int c103.2.2.2.2.2.2.2.2.1, .int c103.2.2.2.2.2.2.2.2.2])) := H102.1
    have q1_103 : h102 (x + 1) = some (.inl (3, 12, .inr (.inr (.inr (.inr (c_refs c103.1 pa)))))) := H102.2.1
    have q2_103 : h102 (x + 2) = some (.inr (1, [.ref (x + 3), .ref (x + 4), .int c103.2.2.2.2.2.1, .int c103.2.2.2.2.2.2.1, .int c103.2.2.2.2.2.2.2.1])) := H102.2.2.1
    have q3_103 : h102 (x + 3) = some (.inl (0, 16, .inl c103.2.2.1)) := H102.2.2.2.1
    have q4_103 : h102 (x + 4) = some (.inl (0, 16, .inl c103.2.2.2.1)) := H102.2.2.2.2.1
    have q5_103 : h102 (x + 5) = some (.inl (0, 4, .inl c103.2.2.2.2.1)) := H102.2.2.2.2.2.1
    have q6_103 : c103.1 ≤ 12 := H102.2.2.2.2.2.2.1
    have q7_103 : ∀ j9, j9 < c103.1 → PH h102 (pa j9) (c103.2.1 j9) ∧ x + 6 ≤ pa j9 := H102.2.2.2.2.2.2.2.1
    have hiN : i < c103.1 := by have := (hS103).1; omega
    have hPH104 := (H102.2.2.2.2.2.2.2.1 i hiN).1
    refine mm_aload_n d_SP_read_11 rfl ?_
    refine mm_iload_n d_SP_read_12 rfl ?_
    refine mm_aload_n d_SP_read_13 rfl ?_
    refine g_seat rfl d_SP_read_14 hPH104 ?_
    refine mm_getf d_SP_read_17 cl_Seat fl_SP_79_Seat (by decide) (hPH104).1 rfl ?_
    refine mm_isub d_SP_read_20 ?_
    refine vc_look hPH104 (by decide) (Nat.le_of_ble_eq_true rfl) ?_
    obtain ⟨H105, hF105, hE105⟩ := CH_part' H102 hiN (p_look_w (c103.2.1 i) (k - ((c103.2.1 i).2.1.1)))
    have hT106 := CFr.tr hS103 hT103 hF105
    have hS106 := CE.tr hS103 hE105
    generalize gc106 : c_setP c103 i (p_look (c103.2.1 i) (k - ((c103.2.1 i).2.1.1))).1 = c106 at H105 hT106 hS106 hE105
    have q0_106 : (p_put h102 (pa i) (p_look (c103.2.1 i) (k - ((c103.2.1 i).2.1.1))).1) x = some (.inr (0, [.ref (x + 1), .ref (x + 2), .ref (x + 5), .int (nI c106.1), .int c106.2.2.2.2.2.2.2.2.1, .int c106.2.2.2.2.2.2.2.2.2])) := H105.1
    have q1_106 : (p_put h102 (pa i) (p_look (c103.2.1 i) (k - ((c103.2.1 i).2.1.1))).1) (x + 1) = some (.inl (3, 12, .inr (.inr (.inr (.inr (c_refs c106.1 pa)))))) := H105.2.1
    have q2_106 : (p_put h102 (pa i) (p_look (c103.2.1 i) (k - ((c103.2.1 i).2.1.1))).1) (x + 2) = some (.inr (1, [.ref (x + 3), .ref (x + 4), .int c106.2.2.2.2.2.1, .int c106.2.2.2.2.2.2.1, .int c106.2.2.2.2.2.2.2.1])) := H105.2.2.1
    have q3_106 : (p_put h102 (pa i) (p_look (c103.2.1 i) (k - ((c103.2.1 i).2.1.1))).1) (x + 3) = some (.inl (0, 16, .inl c106.2.2.1)) := H105.2.2.2.1
    have q4_106 : (p_put h102 (pa i) (p_look (c103.2.1 i) (k - ((c103.2.1 i).2.1.1))).1) (x + 4) = some (.inl (0, 16, .inl c106.2.2.2.1)) := H105.2.2.2.2.1
    have q5_106 : (p_put h102 (pa i) (p_look (c103.2.1 i) (k - ((c103.2.1 i).2.1.1))).1) (x + 5) = some (.inl (0, 4, .inl c106.2.2.2.2.1)) := H105.2.2.2.2.2.1
    have q6_106 : c106.1 ≤ 12 := H105.2.2.2.2.2.2.1
    have q7_106 : ∀ j9, j9 < c106.1 → PH (p_put h102 (pa i) (p_look (c103.2.1 i) (k - ((c103.2.1 i).2.1.1))).1) (pa j9) (c106.2.1 j9) ∧ x + 6 ≤ pa j9 := H105.2.2.2.2.2.2.2.1
    refine mm_istore_n d_SP_read_24 (by decide) ?_
    refine mm_aload_n d_SP_read_25 rfl ?_
    refine mm_getf d_SP_read_26 cl_SP fl_SP_18_SP (by decide) q0_106 rfl ?_
    refine mm_aload_n d_SP_read_29 rfl ?_
    refine mm_callD (kc' := 0) (ks' := 0) d_SP_read_30 (mm_Inv.vi (as := []) d_SP_read_30 (Or.inl m_494) m_496 ce_SP_askingLines.2.1 ce_SP_askingLines.2.2.1 mp_11 ce_SP_askingLines.2.2.2.2.2 ln_SP_askingLines cl_SP q0_106 rfl) (K_askingLines H105) (by decide) ce_SP_askingLines.1 ce_SP_askingLines.2.1 ce_SP_askingLines.2.2.1 ce_SP_askingLines.2.2.2.1 (Nat.le_of_ble_eq_true rfl) ?_
    refine mm_callD (kc' := 0) (ks' := 0) d_SP_read_33 (mm_Inv.vi (as := [.int (c_ask c106.1 c106.2.1 12)]) d_SP_read_33 (Or.inl m_513) m_514 ce_Lines_follow.2.1 ce_Lines_follow.2.2.1 m_515 ce_Lines_follow.2.2.2.2.2 ln_Lines_follow cl_Lines q2_106 rfl) (J_Lines_follow (show x + 3 ≠ x + 4 by omega) q2_106 q3_106 q4_106) (by decide) ce_Lines_follow.1 ce_Lines_follow.2.1 ce_Lines_follow.2.2.1 ce_Lines_follow.2.2.2.1 (Nat.le_of_ble_eq_true rfl) ?_
    obtain ⟨H107, hF107, hE107⟩ := CH_lines' (hi2 := c106.2.2.2.2.2.1) (u2 := c_ask c106.1 c106.2.1 12) (kp2 := ln_keep c106.2.2.1 c106.2.2.2.2.2.2.1 c106.2.2.2.2.2.2.2.1 (c_ask c106.1 c106.2.1 12)) H105
    have hT108 := CFr.tr hS106 hT106 hF107
    have hS108 := CE.tr hS106 hE107
    have q0_108 : (va_up (p_put h102 (pa i) (p_look (c103.2.1 i) (k - ((c103.2.1 i).2.1.1))).1) (x + 2) (some (.inr (1, [.ref (x + 3), .ref (x + 4), .int c106.2.2.2.2.2.1, .int (c_ask c106.1 c106.2.1 12), .int (ln_keep c106.2.2.1 c106.2.2.2.2.2.2.1 c106.2.2.2.2.2.2.2.1 (c_ask c106.1 c106.2.1 12))])))) x = some (.inr (0, [.ref (x + 1), .ref (x + 2), .ref (x + 5), .int (nI (c106.1, c106.2.1, c106.2.2.1, c106.2.2.2.1, c106.2.2.2.2.1, c106.2.2.2.2.2.1, c_ask c106.1 c106.2.1 12, ln_keep c106.2.2.1 c106.2.2.2.2.2.2.1 c106.2.2.2.2.2.2.2.1 (c_ask c106.1 c106.2.1 12), c106.2.2.2.2.2.2.2.2.1, c106.2.2.2.2.2.2.2.2.2).1), .int ((c106.1, c106.2.1, c106.2.2.1, c106.2.2.2.1, c106.2.2.2.2.1, c106.2.2.2.2.2.1, c_ask c106.1 c106.2.1 12, ln_keep c106.2.2.1 c106.2.2.2.2.2.2.1 c106.2.2.2.2.2.2.2.1 (c_ask c106.1 c106.2.1 12), c106.2.2.2.2.2.2.2.2.1, c106.2.2.2.2.2.2.2.2.2).2.2.2.2.2.2.2.2.1), .int ((c106.1, c106.2.1, c106.2.2.1, c106.2.2.2.1, c106.2.2.2.2.1, c106.2.2.2.2.2.1, c_ask c106.1 c106.2.1 12, ln_keep c106.2.2.1 c106.2.2.2.2.2.2.1 c106.2.2.2.2.2.2.2.1 (c_ask c106.1 c106.2.1 12), c106.2.2.2.2.2.2.2.2.1, c106.2.2.2.2.2.2.2.2.2).2.2.2.2.2.2.2.2.2)])) := H107.1
    have q1_108 : (va_up (p_put h102 (pa i) (p_look (c103.2.1 i) (k - ((c103.2.1 i).2.1.1))).1) (x + 2) (some (.inr (1, [.ref (x + 3), .ref (x + 4), .int c106.2.2.2.2.2.1, .int (c_ask c106.1 c106.2.1 12), .int (ln_keep c106.2.2.1 c106.2.2.2.2.2.2.1 c106.2.2.2.2.2.2.2.1 (c_ask c106.1 c106.2.1 12))])))) (x + 1) = some (.inl (3, 12, .inr (.inr (.inr (.inr (c_refs (c106.1, c106.2.1, c106.2.2.1, c106.2.2.2.1, c106.2.2.2.2.1, c106.2.2.2.2.2.1, c_ask c106.1 c106.2.1 12, ln_keep c106.2.2.1 c106.2.2.2.2.2.2.1 c106.2.2.2.2.2.2.2.1 (c_ask c106.1 c106.2.1 12), c106.2.2.2.2.2.2.2.2.1, c106.2.2.2.2.2.2.2.2.2).1 pa)))))) := H107.2.1
    have q2_108 : (va_up (p_put h102 (pa i) (p_look (c103.2.1 i) (k - ((c103.2.1 i).2.1.1))).1) (x + 2) (some (.inr (1, [.ref (x + 3), .ref (x + 4), .int c106.2.2.2.2.2.1, .int (c_ask c106.1 c106.2.1 12), .int (ln_keep c106.2.2.1 c106.2.2.2.2.2.2.1 c106.2.2.2.2.2.2.2.1 (c_ask c106.1 c106.2.1 12))])))) (x + 2) = some (.inr (1, [.ref (x + 3), .ref (x + 4), .int ((c106.1, c106.2.1, c106.2.2.1, c106.2.2.2.1, c106.2.2.2.2.1, c106.2.2.2.2.2.1, c_ask c106.1 c106.2.1 12, ln_keep c106.2.2.1 c106.2.2.2.2.2.2.1 c106.2.2.2.2.2.2.2.1 (c_ask c106.1 c106.2.1 12), c106.2.2.2.2.2.2.2.2.1, c106.2.2.2.2.2.2.2.2.2).2.2.2.2.2.1), .int ((c106.1, c106.2.1, c106.2.2.1, c106.2.2.2.1, c106.2.2.2.2.1, c106.2.2.2.2.2.1, c_ask c106.1 c106.2.1 12, ln_keep c106.2.2.1 c106.2.2.2.2.2.2.1 c106.2.2.2.2.2.2.2.1 (c_ask c106.1 c106.2.1 12), c106.2.2.2.2.2.2.2.2.1, c106.2.2.2.2.2.2.2.2.2).2.2.2.2.2.2.1), .int ((c106.1, c106.2.1, c106.2.2.1, c106.2.2.2.1, c106.2.2.2.2.1, c106.2.2.2.2.2.1, c_ask c106.1 c106.2.1 12, ln_keep c106.2.2.1 c106.2.2.2.2.2.2.1 c106.2.2.2.2.2.2.2.1 (c_ask c106.1 c106.2.1 12), c106.2.2.2.2.2.2.2.2.1, c106.2.2.2.2.2.2.2.2.2).2.2.2.2.2.2.2.1)])) := H107.2.2.1
    have q3_108 : (va_up (p_put h102 (pa i) (p_look (c103.2.1 i) (k - ((c103.2.1 i).2.1.1))).1) (x + 2) (some (.inr (1, [.ref (x + 3), .ref (x + 4), .int c106.2.2.2.2.2.1, .int (c_ask c106.1 c106.2.1 12), .int (ln_keep c106.2.2.1 c106.2.2.2.2.2.2.1 c106.2.2.2.2.2.2.2.1 (c_ask c106.1 c106.2.1 12))])))) (x + 3) = some (.inl (0, 16, .inl ((c106.1, c106.2.1, c106.2.2.1, c106.2.2.2.1, c106.2.2.2.2.1, c106.2.2.2.2.2.1, c_ask c106.1 c106.2.1 12, ln_keep c106.2.2.1 c106.2.2.2.2.2.2.1 c106.2.2.2.2.2.2.2.1 (c_ask c106.1 c106.2.1 12), c106.2.2.2.2.2.2.2.2.1, c106.2.2.2.2.2.2.2.2.2).2.2.1))) := H107.2.2.2.1
    have q4_108 : (va_up (p_put h102 (pa i) (p_look (c103.2.1 i) (k - ((c103.2.1 i).2.1.1))).1) (x + 2) (some (.inr (1, [.ref (x + 3), .ref (x + 4), .int c106.2.2.2.2.2.1, .int (c_ask c106.1 c106.2.1 12), .int (ln_keep c106.2.2.1 c106.2.2.2.2.2.2.1 c106.2.2.2.2.2.2.2.1 (c_ask c106.1 c106.2.1 12))])))) (x + 4) = some (.inl (0, 16, .inl ((c106.1, c106.2.1, c106.2.2.1, c106.2.2.2.1, c106.2.2.2.2.1, c106.2.2.2.2.2.1, c_ask c106.1 c106.2.1 12, ln_keep c106.2.2.1 c106.2.2.2.2.2.2.1 c106.2.2.2.2.2.2.2.1 (c_ask c106.1 c106.2.1 12), c106.2.2.2.2.2.2.2.2.1, c106.2.2.2.2.2.2.2.2.2).2.2.2.1))) := H107.2.2.2.2.1
    have q5_108 : (va_up (p_put h102 (pa i) (p_look (c103.2.1 i) (k - ((c103.2.1 i).2.1.1))).1) (x + 2) (some (.inr (1, [.ref (x + 3), .ref (x + 4), .int c106.2.2.2.2.2.1, .int (c_ask c106.1 c106.2.1 12), .int (ln_keep c106.2.2.1 c106.2.2.2.2.2.2.1 c106.2.2.2.2.2.2.2.1 (c_ask c106.1 c106.2.1 12))])))) (x + 5) = some (.inl (0, 4, .inl ((c106.1, c106.2.1, c106.2.2.1, c106.2.2.2.1, c106.2.2.2.2.1, c106.2.2.2.2.2.1, c_ask c106.1 c106.2.1 12, ln_keep c106.2.2.1 c106.2.2.2.2.2.2.1 c106.2.2.2.2.2.2.2.1 (c_ask c106.1 c106.2.1 12), c106.2.2.2.2.2.2.2.2.1, c106.2.2.2.2.2.2.2.2.2).2.2.2.2.1))) := H107.2.2.2.2.2.1
    have q6_108 : (c106.1, c106.2.1, c106.2.2.1, c106.2.2.2.1, c106.2.2.2.2.1, c106.2.2.2.2.2.1, c_ask c106.1 c106.2.1 12, ln_keep c106.2.2.1 c106.2.2.2.2.2.2.1 c106.2.2.2.2.2.2.2.1 (c_ask c106.1 c106.2.1 12), c106.2.2.2.2.2.2.2.2.1, c106.2.2.2.2.2.2.2.2.2).1 ≤ 12 := H107.2.2.2.2.2.2.1
    have q7_108 : ∀ j9, j9 < (c106.1, c106.2.1, c106.2.2.1, c106.2.2.2.1, c106.2.2.2.2.1, c106.2.2.2.2.2.1, c_ask c106.1 c106.2.1 12, ln_keep c106.2.2.1 c106.2.2.2.2.2.2.1 c106.2.2.2.2.2.2.2.1 (c_ask c106.1 c106.2.1 12), c106.2.2.2.2.2.2.2.2.1, c106.2.2.2.2.2.2.2.2.2).1 → PH (va_up (p_put h102 (pa i) (p_look (c103.2.1 i) (k - ((c103.2.1 i).2.1.1))).1) (x + 2) (some (.inr (1, [.ref (x + 3), .ref (x + 4), .int c106.2.2.2.2.2.1, .int (c_ask c106.1 c106.2.1 12), .int (ln_keep c106.2.2.1 c106.2.2.2.2.2.2.1 c106.2.2.2.2.2.2.2.1 (c_ask c106.1 c106.2.1 12))])))) (pa j9) ((c106.1, c106.2.1, c106.2.2.1, c106.2.2.2.1, c106.2.2.2.2.1, c106.2.2.2.2.2.1, c_ask c106.1 c106.2.1 12, ln_keep c106.2.2.1 c106.2.2.2.2.2.2.1 c106.2.2.2.2.2.2.2.1 (c_ask c106.1 c106.2.1 12), c106.2.2.2.2.2.2.2.2.1, c106.2.2.2.2.2.2.2.2.2).2.1 j9) ∧ x + 6 ≤ pa j9 := H107.2.2.2.2.2.2.2.1
    refine mm_iload_n d_SP_read_36 rfl ?_
    exact mm_ireturn d_SP_read_37 rfl (CI.of (a := .inl ((p_look (c103.2.1 i) (k - ((c103.2.1 i).2.1.1))).2)) (c' := (c106.1, c106.2.1, c106.2.2.1, c106.2.2.2.1, c106.2.2.2.2.1, c106.2.2.2.2.2.1, c_ask c106.1 c106.2.1 12, ln_keep c106.2.2.1 c106.2.2.2.2.2.2.1 c106.2.2.2.2.2.2.2.1 (c_ask c106.1 c106.2.1 12), c106.2.2.2.2.2.2.2.2.1, c106.2.2.2.2.2.2.2.2.2)) (by simp only [c_read, hr]; subst gc103 gc106; rfl) rfl (by omega) H107 hT108 hS108)
  · refine mm_call (kc := 0) (ks := 0) (kc' := 1) (ks' := 6) d_SP_read_2 (mm_Inv.vi (as := [.int k]) d_SP_read_2 (Or.inl m_416) m_418 ce_SP_reachPart.2.1 ce_SP_reachPart.2.2.1 mp_6 ce_SP_reachPart.2.2.2.2.2 ln_SP_reachPart cl_SP q0 rfl) (J_SP_reachPart H) (by decide) ce_SP_reachPart.1 ce_SP_reachPart.2.1 ce_SP_reachPart.2.2.1 ce_SP_reachPart.2.2.2.1 (Nat.le_of_ble_eq_true rfl) (fun v9 n9 h1 hq9 => by rw [hr] at hq9; cases hq9.1) (fun k9 n9 h1 hq9 => ?_)
    rw [hr] at hq9
    obtain ⟨e9, hn9, H1, hF1, hE1⟩ := hq9
    cases e9
    exact mm_Th.out rfl (CI.of (a := .inr e) (c' := c1) (by simp only [c_read, hr]) rfl (by omega) H1 hF1 hE1)
set_option maxRecDepth 100000 in
set_option maxHeartbeats 4000000 in
theorem J_SP_write {sc : mm_Sc} {n : Nat} {h : mm_H} {x : Nat} {pa : Nat → Nat} {c : cS} {k v : Int32} (H : CH h x pa c)  : mm_J sc y_SP_write 9 [.ref x, .int k, .int v] n h 2 12 (CI (c_write k v c) n h x pa c) := by
  refine mm_J.of (show mm_G sc y_SP_write 9 0 [some (.ref x), some (.int k), some (.int v), none] [] n h 2 12 _ from ?_) ce_SP_write.2.2.2.2.1 (Nat.le_of_ble_eq_true rfl) (by simp [Value.category])
  have q0 : h x = some (.inr (0, [.ref (x + 1), .ref (x + 2), .ref (x + 5), .int (nI c.1), .int c.2.2.2.2.2.2.2.2.1, .int c.2.2.2.2.2.2.2.2.2])) := H.1
  have q1 : h (x + 1) = some (.inl (3, 12, .inr (.inr (.inr (.inr (c_refs c.1 pa)))))) := H.2.1
  have q2 : h (x + 2) = some (.inr (1, [.ref (x + 3), .ref (x + 4), .int c.2.2.2.2.2.1, .int c.2.2.2.2.2.2.1, .int c.2.2.2.2.2.2.2.1])) := H.2.2.1
  have q3 : h (x + 3) = some (.inl (0, 16, .inl c.2.2.1)) := H.2.2.2.1
  have q4 : h (x + 4) = some (.inl (0, 16, .inl c.2.2.2.1)) := H.2.2.2.2.1
  have q5 : h (x + 5) = some (.inl (0, 4, .inl c.2.2.2.2.1)) := H.2.2.2.2.2.1
  have q6 : c.1 ≤ 12 := H.2.2.2.2.2.2.1
  have q7 : ∀ j9, j9 < c.1 → PH h (pa j9) (c.2.1 j9) ∧ x + 6 ≤ pa j9 := H.2.2.2.2.2.2.2.1
  refine mm_aload_n d_SP_write_0 rfl ?_
  refine mm_iload_n d_SP_write_1 rfl ?_
  rcases hr : c_reach k c with ⟨i | e, c1⟩
  · refine mm_call (kc := 1) (ks := 6) (kc' := 1) (ks' := 6) d_SP_write_2 (mm_Inv.vi (as := [.int k]) d_SP_write_2 (Or.inl m_416) m_418 ce_SP_reachPart.2.1 ce_SP_reachPart.2.2.1 mp_6 ce_SP_reachPart.2.2.2.2.2 ln_SP_reachPart cl_SP q0 rfl) (J_SP_reachPart H) (by decide) ce_SP_reachPart.1 ce_SP_reachPart.2.1 ce_SP_reachPart.2.2.1 ce_SP_reachPart.2.2.2.1 (Nat.le_of_ble_eq_true rfl) (fun v9 n9 h1 hq9 => ?_) (fun k9 n9 h9 hq9 => by rw [hr] at hq9; cases hq9.1)
    rw [hr] at hq9
    obtain ⟨e9, hn9, H1, hF1, hE1⟩ := hq9
    cases e9
    have hiN0 := c_reach_lt hr
    have hT101 := CFr.tr (CE.rf _) CFr.rf hF1
    have hS101 := CE.tr (CE.rf _) hE1
    have q0_101 : h1 x = some (.inr (0, [.ref (x + 1), .ref (x + 2), .ref (x + 5), .int (nI c1.1), .int c1.2.2.2.2.2.2.2.2.1, .int c1.2.2.2.2.2.2.2.2.2])) := H1.1
    have q1_101 : h1 (x + 1) = some (.inl (3, 12, .inr (.inr (.inr (.inr (c_refs c1.1 pa)))))) := H1.2.1
    have q2_101 : h1 (x + 2) = some (.inr (1, [.ref (x + 3), .ref (x + 4), .int c1.2.2.2.2.2.1, .int c1.2.2.2.2.2.2.1, .int c1.2.2.2.2.2.2.2.1])) := H1.2.2.1
    have q3_101 : h1 (x + 3) = some (.inl (0, 16, .inl c1.2.2.1)) := H1.2.2.2.1
    have q4_101 : h1 (x + 4) = some (.inl (0, 16, .inl c1.2.2.2.1)) := H1.2.2.2.2.1
    have q5_101 : h1 (x + 5) = some (.inl (0, 4, .inl c1.2.2.2.2.1)) := H1.2.2.2.2.2.1
    have q6_101 : c1.1 ≤ 12 := H1.2.2.2.2.2.2.1
    have q7_101 : ∀ j9, j9 < c1.1 → PH h1 (pa j9) (c1.2.1 j9) ∧ x + 6 ≤ pa j9 := H1.2.2.2.2.2.2.2.1
    have hiN : i < c1.1 := by have hz9 : c1.1 = c.1 := hE1.1; omega
    have hPH := (H1.2.2.2.2.2.2.2.1 i hiN).1
    refine mm_astore_n d_SP_write_5 (by decide) ?_
    refine mm_aload_n d_SP_write_6 rfl ?_
    refine vc_refuses hPH (by decide) (Nat.le_of_ble_eq_true rfl) ?_
    refine mm_if_eq (tgt := 28) d_SP_write_10 (by decide) (fun c_10 => ?_) (fun c_10 => ?_)
    · refine mm_aload_n d_SP_write_28 rfl ?_
      refine mm_iconst (v := 2) d_SP_write_29 (by decide) ?_
      refine mm_call (kc' := 0) (ks' := 0) d_SP_write_30 (mm_Inv.vi (as := [.int 2]) d_SP_write_30 (Or.inl m_436) m_438 ce_SP_tallyOne.2.1 ce_SP_tallyOne.2.2.1 mp_7 ce_SP_tallyOne.2.2.2.2.2 ln_SP_tallyOne cl_SP q0_101 rfl) (K_tallyOne H1 (by decide) (by decide)) (by decide) ce_SP_tallyOne.1 ce_SP_tallyOne.2.1 ce_SP_tallyOne.2.2.1 ce_SP_tallyOne.2.2.2.1 (Nat.le_of_ble_eq_true rfl) (fun v9 n9 h102 hq9 => ?_) (fun k9 n9 h9 hq9 => by cases hq9.1)
      obtain ⟨e9, rfl, H102, hF102, hE102⟩ := hq9
      cases e9
      have hT103 := CFr.tr hS101 hT101 hF102
      have hS103 := CE.tr hS101 hE102
      generalize gc103 : c_tally 2 c1 = c103 at H102 hT103 hS103 hE102
      have q0_103 : h102 x = some (.inr (0, [.ref (x + 1), .ref (x + 2), .ref (x + 5), .int (nI c103.1), .int c103.2.2.2.2.2.2.2.2.1, .int c103.2.2.2.2.2.2.2.2.2])) := H102.1
      have q1_103 : h102 (x + 1) = some (.inl (3, 12, .inr (.inr (.inr (.inr (c_refs c103.1 pa)))))) := H102.2.1
      have q2_103 : h102 (x + 2) = some (.inr (1, [.ref (x + 3), .ref (x + 4), .int c103.2.2.2.2.2.1, .int c103.2.2.2.2.2.2.1, .int c103.2.2.2.2.2.2.2.1])) := H102.2.2.1
      have q3_103 : h102 (x + 3) = some (.inl (0, 16, .inl c103.2.2.1)) := H102.2.2.2.1
      have q4_103 : h102 (x + 4) = some (.inl (0, 16, .inl c103.2.2.2.1)) := H102.2.2.2.2.1
      have q5_103 : h102 (x + 5) = some (.inl (0, 4, .inl c103.2.2.2.2.1)) := H102.2.2.2.2.2.1
      have q6_103 : c103.1 ≤ 12 := H102.2.2.2.2.2.2.1
      have q7_103 : ∀ j9, j9 < c103.1 → PH h102 (pa j9) (c103.2.1 j9) ∧ x + 6 ≤ pa j9 := H102.2.2.2.2.2.2.2.1
      have hiN : i < c103.1 := by have := (hS103).1; omega
      have hPH104 := (H102.2.2.2.2.2.2.2.1 i hiN).1
      refine mm_aload_n d_SP_write_33 rfl ?_
      refine mm_iload_n d_SP_write_34 rfl ?_
      refine mm_aload_n d_SP_write_35 rfl ?_
      refine g_seat rfl d_SP_write_36 hPH104 ?_
      refine mm_getf d_SP_write_39 cl_Seat fl_SP_79_Seat (by decide) (hPH104).1 rfl ?_
      refine mm_isub d_SP_write_42 ?_
      refine mm_iload_n d_SP_write_43 rfl ?_
      refine vc_put hPH104 (by decide) (Nat.le_of_ble_eq_true rfl) ?_
      obtain ⟨H105, hF105, hE105⟩ := CH_part' H102 hiN (p_set_w (c103.2.1 i) (k - ((c103.2.1 i).2.1.1)) v)
      have hT106 := CFr.tr hS103 hT103 hF105
      have hS106 := CE.tr hS103 hE105
      generalize gc106 : c_setP c103 i (p_set (c103.2.1 i) (k - ((c103.2.1 i).2.1.1)) v) = c106 at H105 hT106 hS106 hE105
      have q0_106 : (p_put h102 (pa i) (p_set (c103.2.1 i) (k - ((c103.2.1 i).2.1.1)) v)) x = some (.inr (0, [.ref (x + 1), .ref (x + 2), .ref (x + 5), .int (nI c106.1), .int c106.2.2.2.2.2.2.2.2.1, .int c106.2.2.2.2.2.2.2.2.2])) := H105.1
      have q1_106 : (p_put h102 (pa i) (p_set (c103.2.1 i) (k - ((c103.2.1 i).2.1.1)) v)) (x + 1) = some (.inl (3, 12, .inr (.inr (.inr (.inr (c_refs c106.1 pa)))))) := H105.2.1
      have q2_106 : (p_put h102 (pa i) (p_set (c103.2.1 i) (k - ((c103.2.1 i).2.1.1)) v)) (x + 2) = some (.inr (1, [.ref (x + 3), .ref (x + 4), .int c106.2.2.2.2.2.1, .int c106.2.2.2.2.2.2.1, .int c106.2.2.2.2.2.2.2.1])) := H105.2.2.1
      have q3_106 : (p_put h102 (pa i) (p_set (c103.2.1 i) (k - ((c103.2.1 i).2.1.1)) v)) (x + 3) = some (.inl (0, 16, .inl c106.2.2.1)) := H105.2.2.2.1
      have q4_106 : (p_put h102 (pa i) (p_set (c103.2.1 i) (k - ((c103.2.1 i).2.1.1)) v)) (x + 4) = some (.inl (0, 16, .inl c106.2.2.2.1)) := H105.2.2.2.2.1
      have q5_106 : (p_put h102 (pa i) (p_set (c103.2.1 i) (k - ((c103.2.1 i).2.1.1)) v)) (x + 5) = some (.inl (0, 4, .inl c106.2.2.2.2.1)) := H105.2.2.2.2.2.1
      have q6_106 : c106.1 ≤ 12 := H105.2.2.2.2.2.2.1
      have q7_106 : ∀ j9, j9 < c106.1 → PH (p_put h102 (pa i) (p_set (c103.2.1 i) (k - ((c103.2.1 i).2.1.1)) v)) (pa j9) (c106.2.1 j9) ∧ x + 6 ≤ pa j9 := H105.2.2.2.2.2.2.2.1
      refine mm_aload_n d_SP_write_47 rfl ?_
      refine mm_getf d_SP_write_48 cl_SP fl_SP_18_SP (by decide) q0_106 rfl ?_
      refine mm_aload_n d_SP_write_51 rfl ?_
      refine mm_callD (kc' := 0) (ks' := 0) d_SP_write_52 (mm_Inv.vi (as := []) d_SP_write_52 (Or.inl m_494) m_496 ce_SP_askingLines.2.1 ce_SP_askingLines.2.2.1 mp_11 ce_SP_askingLines.2.2.2.2.2 ln_SP_askingLines cl_SP q0_106 rfl) (K_askingLines H105) (by decide) ce_SP_askingLines.1 ce_SP_askingLines.2.1 ce_SP_askingLines.2.2.1 ce_SP_askingLines.2.2.2.1 (Nat.le_of_ble_eq_true rfl) ?_
      refine mm_callD (kc' := 0) (ks' := 0) d_SP_write_55 (mm_Inv.vi (as := [.int (c_ask c106.1 c106.2.1 12)]) d_SP_write_55 (Or.inl m_513) m_514 ce_Lines_follow.2.1 ce_Lines_follow.2.2.1 m_515 ce_Lines_follow.2.2.2.2.2 ln_Lines_follow cl_Lines q2_106 rfl) (J_Lines_follow (show x + 3 ≠ x + 4 by omega) q2_106 q3_106 q4_106) (by decide) ce_Lines_follow.1 ce_Lines_follow.2.1 ce_Lines_follow.2.2.1 ce_Lines_follow.2.2.2.1 (Nat.le_of_ble_eq_true rfl) ?_
      obtain ⟨H107, hF107, hE107⟩ := CH_lines' (hi2 := c106.2.2.2.2.2.1) (u2 := c_ask c106.1 c106.2.1 12) (kp2 := ln_keep c106.2.2.1 c106.2.2.2.2.2.2.1 c106.2.2.2.2.2.2.2.1 (c_ask c106.1 c106.2.1 12)) H105
      have hT108 := CFr.tr hS106 hT106 hF107
      have hS108 := CE.tr hS106 hE107
      have q0_108 : (va_up (p_put h102 (pa i) (p_set (c103.2.1 i) (k - ((c103.2.1 i).2.1.1)) v)) (x + 2) (some (.inr (1, [.ref (x + 3), .ref (x + 4), .int c106.2.2.2.2.2.1, .int (c_ask c106.1 c106.2.1 12), .int (ln_keep c106.2.2.1 c106.2.2.2.2.2.2.1 c106.2.2.2.2.2.2.2.1 (c_ask c106.1 c106.2.1 12))])))) x = some (.inr (0, [.ref (x + 1), .ref (x + 2), .ref (x + 5), .int (nI (c106.1, c106.2.1, c106.2.2.1, c106.2.2.2.1, c106.2.2.2.2.1, c106.2.2.2.2.2.1, c_ask c106.1 c106.2.1 12, ln_keep c106.2.2.1 c106.2.2.2.2.2.2.1 c106.2.2.2.2.2.2.2.1 (c_ask c106.1 c106.2.1 12), c106.2.2.2.2.2.2.2.2.1, c106.2.2.2.2.2.2.2.2.2).1), .int ((c106.1, c106.2.1, c106.2.2.1, c106.2.2.2.1, c106.2.2.2.2.1, c106.2.2.2.2.2.1, c_ask c106.1 c106.2.1 12, ln_keep c106.2.2.1 c106.2.2.2.2.2.2.1 c106.2.2.2.2.2.2.2.1 (c_ask c106.1 c106.2.1 12), c106.2.2.2.2.2.2.2.2.1, c106.2.2.2.2.2.2.2.2.2).2.2.2.2.2.2.2.2.1), .int ((c106.1, c106.2.1, c106.2.2.1, c106.2.2.2.1, c106.2.2.2.2.1, c106.2.2.2.2.2.1, c_ask c106.1 c106.2.1 12, ln_keep c106.2.2.1 c106.2.2.2.2.2.2.1 c106.2.2.2.2.2.2.2.1 (c_ask c106.1 c106.2.1 12), c106.2.2.2.2.2.2.2.2.1, c106.2.2.2.2.2.2.2.2.2).2.2.2.2.2.2.2.2.2)])) := H107.1
      have q1_108 : (va_up (p_put h102 (pa i) (p_set (c103.2.1 i) (k - ((c103.2.1 i).2.1.1)) v)) (x + 2) (some (.inr (1, [.ref (x + 3), .ref (x + 4), .int c106.2.2.2.2.2.1, .int (c_ask c106.1 c106.2.1 12), .int (ln_keep c106.2.2.1 c106.2.2.2.2.2.2.1 c106.2.2.2.2.2.2.2.1 (c_ask c106.1 c106.2.1 12))])))) (x + 1) = some (.inl (3, 12, .inr (.inr (.inr (.inr (c_refs (c106.1, c106.2.1, c106.2.2.1, c106.2.2.2.1, c106.2.2.2.2.1, c106.2.2.2.2.2.1, c_ask c106.1 c106.2.1 12, ln_keep c106.2.2.1 c106.2.2.2.2.2.2.1 c106.2.2.2.2.2.2.2.1 (c_ask c106.1 c106.2.1 12), c106.2.2.2.2.2.2.2.2.1, c106.2.2.2.2.2.2.2.2.2).1 pa)))))) := H107.2.1
      have q2_108 : (va_up (p_put h102 (pa i) (p_set (c103.2.1 i) (k - ((c103.2.1 i).2.1.1)) v)) (x + 2) (some (.inr (1, [.ref (x + 3), .ref (x + 4), .int c106.2.2.2.2.2.1, .int (c_ask c106.1 c106.2.1 12), .int (ln_keep c106.2.2.1 c106.2.2.2.2.2.2.1 c106.2.2.2.2.2.2.2.1 (c_ask c106.1 c106.2.1 12))])))) (x + 2) = some (.inr (1, [.ref (x + 3), .ref (x + 4), .int ((c106.1, c106.2.1, c106.2.2.1, c106.2.2.2.1, c106.2.2.2.2.1, c106.2.2.2.2.2.1, c_ask c106.1 c106.2.1 12, ln_keep c106.2.2.1 c106.2.2.2.2.2.2.1 c106.2.2.2.2.2.2.2.1 (c_ask c106.1 c106.2.1 12), c106.2.2.2.2.2.2.2.2.1, c106.2.2.2.2.2.2.2.2.2).2.2.2.2.2.1), .int ((c106.1, c106.2.1, c106.2.2.1, c106.2.2.2.1, c106.2.2.2.2.1, c106.2.2.2.2.2.1, c_ask c106.1 c106.2.1 12, ln_keep c106.2.2.1 c106.2.2.2.2.2.2.1 c106.2.2.2.2.2.2.2.1 (c_ask c106.1 c106.2.1 12), c106.2.2.2.2.2.2.2.2.1, c106.2.2.2.2.2.2.2.2.2).2.2.2.2.2.2.1), .int ((c106.1, c106.2.1, c106.2.2.1, c106.2.2.2.1, c106.2.2.2.2.1, c106.2.2.2.2.2.1, c_ask c106.1 c106.2.1 12, ln_keep c106.2.2.1 c106.2.2.2.2.2.2.1 c106.2.2.2.2.2.2.2.1 (c_ask c106.1 c106.2.1 12), c106.2.2.2.2.2.2.2.2.1, c106.2.2.2.2.2.2.2.2.2).2.2.2.2.2.2.2.1)])) := H107.2.2.1
      have q3_108 : (va_up (p_put h102 (pa i) (p_set (c103.2.1 i) (k - ((c103.2.1 i).2.1.1)) v)) (x + 2) (some (.inr (1, [.ref (x + 3), .ref (x + 4), .int c106.2.2.2.2.2.1, .int (c_ask c106.1 c106.2.1 12), .int (ln_keep c106.2.2.1 c106.2.2.2.2.2.2.1 c106.2.2.2.2.2.2.2.1 (c_ask c106.1 c106.2.1 12))])))) (x + 3) = some (.inl (0, 16, .inl ((c106.1, c106.2.1, c106.2.2.1, c106.2.2.2.1, c106.2.2.2.2.1, c106.2.2.2.2.2.1, c_ask c106.1 c106.2.1 12, ln_keep c106.2.2.1 c106.2.2.2.2.2.2.1 c106.2.2.2.2.2.2.2.1 (c_ask c106.1 c106.2.1 12), c106.2.2.2.2.2.2.2.2.1, c106.2.2.2.2.2.2.2.2.2).2.2.1))) := H107.2.2.2.1
      have q4_108 : (va_up (p_put h102 (pa i) (p_set (c103.2.1 i) (k - ((c103.2.1 i).2.1.1)) v)) (x + 2) (some (.inr (1, [.ref (x + 3), .ref (x + 4), .int c106.2.2.2.2.2.1, .int (c_ask c106.1 c106.2.1 12), .int (ln_keep c106.2.2.1 c106.2.2.2.2.2.2.1 c106.2.2.2.2.2.2.2.1 (c_ask c106.1 c106.2.1 12))])))) (x + 4) = some (.inl (0, 16, .inl ((c106.1, c106.2.1, c106.2.2.1, c106.2.2.2.1, c106.2.2.2.2.1, c106.2.2.2.2.2.1, c_ask c106.1 c106.2.1 12, ln_keep c106.2.2.1 c106.2.2.2.2.2.2.1 c106.2.2.2.2.2.2.2.1 (c_ask c106.1 c106.2.1 12), c106.2.2.2.2.2.2.2.2.1, c106.2.2.2.2.2.2.2.2.2).2.2.2.1))) := H107.2.2.2.2.1
      have q5_108 : (va_up (p_put h102 (pa i) (p_set (c103.2.1 i) (k - ((c103.2.1 i).2.1.1)) v)) (x + 2) (some (.inr (1, [.ref (x + 3), .ref (x + 4), .int c106.2.2.2.2.2.1, .int (c_ask c106.1 c106.2.1 12), .int (ln_keep c106.2.2.1 c106.2.2.2.2.2.2.1 c106.2.2.2.2.2.2.2.1 (c_ask c106.1 c106.2.1 12))])))) (x + 5) = some (.inl (0, 4, .inl ((c106.1, c106.2.1, c106.2.2.1, c106.2.2.2.1, c106.2.2.2.2.1, c106.2.2.2.2.2.1, c_ask c106.1 c106.2.1 12, ln_keep c106.2.2.1 c106.2.2.2.2.2.2.1 c106.2.2.2.2.2.2.2.1 (c_ask c106.1 c106.2.1 12), c106.2.2.2.2.2.2.2.2.1, c106.2.2.2.2.2.2.2.2.2).2.2.2.2.1))) := H107.2.2.2.2.2.1
      have q6_108 : (c106.1, c106.2.1, c106.2.2.1, c106.2.2.2.1, c106.2.2.2.2.1, c106.2.2.2.2.2.1, c_ask c106.1 c106.2.1 12, ln_keep c106.2.2.1 c106.2.2.2.2.2.2.1 c106.2.2.2.2.2.2.2.1 (c_ask c106.1 c106.2.1 12), c106.2.2.2.2.2.2.2.2.1, c106.2.2.2.2.2.2.2.2.2).1 ≤ 12 := H107.2.2.2.2.2.2.1
      have q7_108 : ∀ j9, j9 < (c106.1, c106.2.1, c106.2.2.1, c106.2.2.2.1, c106.2.2.2.2.1, c106.2.2.2.2.2.1, c_ask c106.1 c106.2.1 12, ln_keep c106.2.2.1 c106.2.2.2.2.2.2.1 c106.2.2.2.2.2.2.2.1 (c_ask c106.1 c106.2.1 12), c106.2.2.2.2.2.2.2.2.1, c106.2.2.2.2.2.2.2.2.2).1 → PH (va_up (p_put h102 (pa i) (p_set (c103.2.1 i) (k - ((c103.2.1 i).2.1.1)) v)) (x + 2) (some (.inr (1, [.ref (x + 3), .ref (x + 4), .int c106.2.2.2.2.2.1, .int (c_ask c106.1 c106.2.1 12), .int (ln_keep c106.2.2.1 c106.2.2.2.2.2.2.1 c106.2.2.2.2.2.2.2.1 (c_ask c106.1 c106.2.1 12))])))) (pa j9) ((c106.1, c106.2.1, c106.2.2.1, c106.2.2.2.1, c106.2.2.2.2.1, c106.2.2.2.2.2.1, c_ask c106.1 c106.2.1 12, ln_keep c106.2.2.1 c106.2.2.2.2.2.2.1 c106.2.2.2.2.2.2.2.1 (c_ask c106.1 c106.2.1 12), c106.2.2.2.2.2.2.2.2.1, c106.2.2.2.2.2.2.2.2.2).2.1 j9) ∧ x + 6 ≤ pa j9 := H107.2.2.2.2.2.2.2.1
      have hiN : i < (c106.1, c106.2.1, c106.2.2.1, c106.2.2.2.1, c106.2.2.2.2.1, c106.2.2.2.2.2.1, c_ask c106.1 c106.2.1 12, ln_keep c106.2.2.1 c106.2.2.2.2.2.2.1 c106.2.2.2.2.2.2.2.1 (c_ask c106.1 c106.2.1 12), c106.2.2.2.2.2.2.2.2.1, c106.2.2.2.2.2.2.2.2.2).1 := by have := (hS108).1; omega
      have hPH109 := (H107.2.2.2.2.2.2.2.1 i hiN).1
      refine mm_aload_n d_SP_write_58 rfl ?_
      refine g_seat rfl d_SP_write_59 hPH109 ?_
      refine mm_callD (kc' := 0) (ks' := 0) d_SP_write_62 (mm_Inv.vi (as := []) d_SP_write_62 (Or.inl m_460) m_461 ce_Seat_accessSteps.2.1 ce_Seat_accessSteps.2.2.1 m_462 ce_Seat_accessSteps.2.2.2.2.2 ln_Seat_accessSteps cl_Seat (hPH109).1 rfl) (J_Seat_accessSteps (hPH109).1) (by decide) ce_Seat_accessSteps.1 ce_Seat_accessSteps.2.1 ce_Seat_accessSteps.2.2.1 ce_Seat_accessSteps.2.2.2.1 (Nat.le_of_ble_eq_true rfl) ?_
      exact mm_ireturn d_SP_write_65 rfl (CI.of (a := .inl (1 + ((c106.1, c106.2.1, c106.2.2.1, c106.2.2.2.1, c106.2.2.2.2.1, c106.2.2.2.2.2.1, c_ask c106.1 c106.2.1 12, ln_keep c106.2.2.1 c106.2.2.2.2.2.2.1 c106.2.2.2.2.2.2.2.1 (c_ask c106.1 c106.2.1 12), c106.2.2.2.2.2.2.2.2.1, c106.2.2.2.2.2.2.2.2.2).2.1 i).2.1.2.2.2)) (c' := (c106.1, c106.2.1, c106.2.2.1, c106.2.2.2.1, c106.2.2.2.2.1, c106.2.2.2.2.2.1, c_ask c106.1 c106.2.1 12, ln_keep c106.2.2.1 c106.2.2.2.2.2.2.1 c106.2.2.2.2.2.2.2.1 (c_ask c106.1 c106.2.1 12), c106.2.2.2.2.2.2.2.2.1, c106.2.2.2.2.2.2.2.2.2)) (by simp only [c_write, hr]; rw [if_pos c_10]; subst gc103 gc106; rfl) rfl (by omega) H107 hT108 hS108)
    · refine mm_aload_n d_SP_write_13 rfl ?_
      refine mm_iconst (v := 3) d_SP_write_14 (by decide) ?_
      refine mm_call (kc' := 0) (ks' := 0) d_SP_write_15 (mm_Inv.vi (as := [.int 3]) d_SP_write_15 (Or.inl m_436) m_438 ce_SP_tallyOne.2.1 ce_SP_tallyOne.2.2.1 mp_7 ce_SP_tallyOne.2.2.2.2.2 ln_SP_tallyOne cl_SP q0_101 rfl) (K_tallyOne H1 (by decide) (by decide)) (by decide) ce_SP_tallyOne.1 ce_SP_tallyOne.2.1 ce_SP_tallyOne.2.2.1 ce_SP_tallyOne.2.2.2.1 (Nat.le_of_ble_eq_true rfl) (fun v9 n9 h110 hq9 => ?_) (fun k9 n9 h9 hq9 => by cases hq9.1)
      obtain ⟨e9, rfl, H110, hF110, hE110⟩ := hq9
      cases e9
      have hT111 := CFr.tr hS101 hT101 hF110
      have hS111 := CE.tr hS101 hE110
      generalize gc111 : c_tally 3 c1 = c111 at H110 hT111 hS111 hE110
      have q0_111 : h110 x = some (.inr (0, [.ref (x + 1), .ref (x + 2), .ref (x + 5), .int (nI c111.1), .int c111.2.2.2.2.2.2.2.2.1, .int c111.2.2.2.2.2.2.2.2.2])) := H110.1
      have q1_111 : h110 (x + 1) = some (.inl (3, 12, .inr (.inr (.inr (.inr (c_refs c111.1 pa)))))) := H110.2.1
      have q2_111 : h110 (x + 2) = some (.inr (1, [.ref (x + 3), .ref (x + 4), .int c111.2.2.2.2.2.1, .int c111.2.2.2.2.2.2.1, .int c111.2.2.2.2.2.2.2.1])) := H110.2.2.1
      have q3_111 : h110 (x + 3) = some (.inl (0, 16, .inl c111.2.2.1)) := H110.2.2.2.1
      have q4_111 : h110 (x + 4) = some (.inl (0, 16, .inl c111.2.2.2.1)) := H110.2.2.2.2.1
      have q5_111 : h110 (x + 5) = some (.inl (0, 4, .inl c111.2.2.2.2.1)) := H110.2.2.2.2.2.1
      have q6_111 : c111.1 ≤ 12 := H110.2.2.2.2.2.2.1
      have q7_111 : ∀ j9, j9 < c111.1 → PH h110 (pa j9) (c111.2.1 j9) ∧ x + 6 ≤ pa j9 := H110.2.2.2.2.2.2.2.1
      exact mm_throw (kc := 0) (ks := 0) xs_ok xo_SP_write_18 d_SP_write_18 d_SP_write_21 d_SP_write_22 d_SP_write_24 d_SP_write_27 rfl (by decide) (Nat.le_of_ble_eq_true rfl) (fun n8 hn8 => (CI.of (a := .inr 3) (c' := c111) (by simp only [c_write, hr]; rw [if_neg c_10]; subst gc111; rfl) rfl (by omega) H110 hT111 hS111))
  · refine mm_call (kc := 1) (ks := 6) (kc' := 1) (ks' := 6) d_SP_write_2 (mm_Inv.vi (as := [.int k]) d_SP_write_2 (Or.inl m_416) m_418 ce_SP_reachPart.2.1 ce_SP_reachPart.2.2.1 mp_6 ce_SP_reachPart.2.2.2.2.2 ln_SP_reachPart cl_SP q0 rfl) (J_SP_reachPart H) (by decide) ce_SP_reachPart.1 ce_SP_reachPart.2.1 ce_SP_reachPart.2.2.1 ce_SP_reachPart.2.2.2.1 (Nat.le_of_ble_eq_true rfl) (fun v9 n9 h1 hq9 => by rw [hr] at hq9; cases hq9.1) (fun k9 n9 h1 hq9 => ?_)
    rw [hr] at hq9
    obtain ⟨e9, hn9, H1, hF1, hE1⟩ := hq9
    cases e9
    exact mm_Th.out rfl (CI.of (a := .inr e) (c' := c1) (by simp only [c_write, hr]) rfl (by omega) H1 hF1 hE1)
theorem p_put01 {h : mm_H} {a : Nat} {p : pS} {A' : Nat → Int32} (hp : PH h a p) (hk : p.1 = 0 ∨ p.1 = 1) : va_up h (a + 2) (some (.inl (0, p_len p, .inl A'))) = p_put h a (p_with p p.2.2.1 A' p.2.2.2.2) := by
  obtain ⟨k, s4, u, A, B⟩ := p
  obtain ⟨h1, h2, h3, h4, h5, h6, h7⟩ := hp
  simp only at hk
  funext j
  by_cases j1 : j = a + 1
  · subst j1; rcases hk with hk | hk <;> subst hk <;> simp [p_put, va_up, p_obj, p_with, h2]
  · by_cases j2 : j = a + 2
    · subst j2; rcases hk with hk | hk <;> subst hk <;> simp [p_put, va_up, p_with, p_len]
    · rcases hk with hk | hk <;> subst hk <;> simp [p_put, va_up, p_with, j1, j2]
theorem p_put3 {h : mm_H} {a : Nat} {p : pS} {A' : Nat → Int32} {w : Int32} (hp : PH h a p) (hk : p.1 = 3) : va_up (va_up h (a + 2) (some (.inl (0, 32, .inl A')))) (a + 1) (some (.inr (5, [.ref (a + 2), .int (p.2.2.1 0), .int w, .ref (a + 3), .int (p.2.2.1 2), .int (p.2.2.1 3), .int (p.2.2.1 4), .int (p.2.2.1 5), .ref a]))) = p_put h a (p_with p (fun j => if j = 1 then w else p.2.2.1 j) A' p.2.2.2.2) := by
  obtain ⟨k, s4, u, A, B⟩ := p
  simp only at hk
  subst hk
  obtain ⟨h1, h2, h3, h4, h5, h6, h7⟩ := hp
  have hB := h4 rfl
  funext j
  by_cases j1 : j = a + 1
  · subst j1; simp [p_put, va_up, p_obj, p_with]
  · by_cases j2 : j = a + 2
    · subst j2; simp [p_put, va_up, p_with, p_len]
    · by_cases j3 : j = a + 3
      · subst j3; simp [p_put, va_up, p_with, hB]
      · simp [p_put, va_up, p_with, j1, j2, j3]
theorem PH_A01 {h : mm_H} {a : Nat} {p : pS} (hp : PH h a p) (hk : p.1 = 0 ∨ p.1 = 1) : h (a + 2) = some (.inl (0, p_len p, .inl p.2.2.2.1)) := hp.2.2.1 (by omega)
theorem PH_A3 {h : mm_H} {a : Nat} {p : pS} (hp : PH h a p) (hk : p.1 = 3) : h (a + 2) = some (.inl (0, 32, .inl p.2.2.2.1)) ∧ h (a + 3) = some (.inl (0, 32, .inl p.2.2.2.2)) := by
  refine ⟨?_, hp.2.2.2.1 hk⟩
  have h9 := hp.2.2.1 (by omega)
  rw [h9]; unfold p_len; rw [hk]; rfl
def c_load (k v : Int32) (c : cS) : cA × cS := match c_with c.1 c.2.1 k 12 0 with
  | none => (.inr 0, c)
  | some i => if (c.2.1 i).1 = 0 ∨ (c.2.1 i).1 = 1 then (.inl (ar_look (c.2.1 i).2.2.2.1 (p_len (c.2.1 i)) (k - (c.2.1 i).2.1.1)), c_setP c i (p_with (c.2.1 i) (c.2.1 i).2.2.1 (ar_put (c.2.1 i).2.2.2.1 (p_len (c.2.1 i)) (k - (c.2.1 i).2.1.1) v) (c.2.1 i).2.2.2.2)) else (.inr 0, c)
def c_recv (k v : Int32) (c : cS) : cA × cS := match c_ser k c with
  | (.inr e, c') => (.inr e, c')
  | (.inl i, c') => if (c'.2.1 i).2.2.1 1 < 32 then (.inl ((c'.2.1 i).2.2.1 1 + 1), c_setP c' i (p_with (c'.2.1 i) (fun j => if j = 1 then (c'.2.1 i).2.2.1 1 + 1 else (c'.2.1 i).2.2.1 j) (upd (c'.2.1 i).2.2.2.1 ((c'.2.1 i).2.2.1 0 + (c'.2.1 i).2.2.1 1 &&& 31).toNatClampNeg v) (c'.2.1 i).2.2.2.2)) else (.inr 1, c')
def c_sent (k j : Int32) (c : cS) : cA × cS := match c_ser k c with
  | (.inr e, c') => (.inr e, c')
  | (.inl i, c') => if j < 0 then (.inr 2, c') else if j < sr_kept ((c'.2.1 i).2.2.1 2) then (.inl ((c'.2.1 i).2.2.2.2 ((c'.2.1 i).2.2.1 2 - sr_kept ((c'.2.1 i).2.2.1 2) + j &&& 31).toNatClampNeg), c') else (.inr 2, c')
set_option maxRecDepth 100000 in
set_option maxHeartbeats 4000000 in
theorem J_SP_load {sc : mm_Sc} {n : Nat} {h : mm_H} {x : Nat} {pa : Nat → Nat} {c : cS} {k v : Int32} (H : CH h x pa c)  : mm_J sc y_SP_load 8 [.ref x, .int k, .int v] n h 1 6 (CI (c_load k v c) n h x pa c) := by
  refine mm_J.of (show mm_G sc y_SP_load 8 0 [some (.ref x), some (.int k), some (.int v), none, none, none] [] n h 1 6 _ from ?_) ce_SP_load.2.2.2.2.1 (Nat.le_of_ble_eq_true rfl) (by simp [Value.category])
  have q0 : h x = some (.inr (0, [.ref (x + 1), .ref (x + 2), .ref (x + 5), .int (nI c.1), .int c.2.2.2.2.2.2.2.2.1, .int c.2.2.2.2.2.2.2.2.2])) := H.1
  have q1 : h (x + 1) = some (.inl (3, 12, .inr (.inr (.inr (.inr (c_refs c.1 pa)))))) := H.2.1
  have q2 : h (x + 2) = some (.inr (1, [.ref (x + 3), .ref (x + 4), .int c.2.2.2.2.2.1, .int c.2.2.2.2.2.2.1, .int c.2.2.2.2.2.2.2.1])) := H.2.2.1
  have q3 : h (x + 3) = some (.inl (0, 16, .inl c.2.2.1)) := H.2.2.2.1
  have q4 : h (x + 4) = some (.inl (0, 16, .inl c.2.2.2.1)) := H.2.2.2.2.1
  have q5 : h (x + 5) = some (.inl (0, 4, .inl c.2.2.2.2.1)) := H.2.2.2.2.2.1
  have q6 : c.1 ≤ 12 := H.2.2.2.2.2.2.1
  have q7 : ∀ j9, j9 < c.1 → PH h (pa j9) (c.2.1 j9) ∧ x + 6 ≤ pa j9 := H.2.2.2.2.2.2.2.1
  refine mm_aload_n d_SP_load_0 rfl ?_
  refine mm_iload_n d_SP_load_1 rfl ?_
  refine mm_callD (kc' := 0) (ks' := 0) d_SP_load_2 (mm_Inv.vi (as := [.int k]) d_SP_load_2 (Or.inl m_394) m_396 ce_SP_partWith.2.1 ce_SP_partWith.2.2.1 mp_5 ce_SP_partWith.2.2.2.2.2 ln_SP_partWith cl_SP q0 rfl) (K_partWith H) (by decide) ce_SP_partWith.1 ce_SP_partWith.2.1 ce_SP_partWith.2.2.1 ce_SP_partWith.2.2.2.1 (Nat.le_of_ble_eq_true rfl) ?_
  rcases hw : c_with c.1 c.2.1 k 12 0 with _ | i
  · refine mm_G.cast (st' := .null :: []) rfl rfl rfl ?_
    refine mm_astoreN d_SP_load_5 (by decide) ?_
    refine mm_aloadN d_SP_load_7 rfl ?_
    refine mm_instN d_SP_load_9 ?_
    refine mm_if_eq (tgt := 50) d_SP_load_12 (by decide) (fun _ => ?_) (fun c9 => absurd rfl c9)
    exact mm_throw (kc := 0) (ks := 0) xs_ok xo_SP_load_50 d_SP_load_50 d_SP_load_53 d_SP_load_54 d_SP_load_56 d_SP_load_59 rfl (by decide) (Nat.le_of_ble_eq_true rfl) (fun n8 hn8 => (CI.of (a := .inr 0) (c' := c) (by simp [c_load, hw]) rfl (by omega) H CFr.rf (CE.rf _)))
  · refine mm_G.cast (st' := .ref (pa i + 1) :: []) rfl rfl rfl ?_
    have hiN := c_with_lt _ _ _ hw
    have hPH := (q7 i hiN).1
    refine mm_astore d_SP_load_5 (by decide) ?_
    refine mm_aload d_SP_load_7 rfl ?_
    refine g_isCells rfl d_SP_load_9 hPH (fun hk01 => ?_) (fun hk01 => ?_)
    · refine mm_if_eq (tgt := 50) d_SP_load_12 (by decide) (fun c9 => absurd c9 (by decide)) (fun _ => ?_)
      refine mm_aload d_SP_load_15 rfl ?_
      have hob := p_obj01 hPH hk01
      have hA := PH_A01 hPH hk01
      refine mm_castY d_SP_load_17 hob cl_Cells m_272 (Or.inl rfl) ?_
      refine mm_astore_n d_SP_load_20 (by decide) ?_
      refine mm_iload_n d_SP_load_21 rfl ?_
      refine mm_aload_n d_SP_load_22 rfl ?_
      refine mm_getf d_SP_load_23 cl_Cells fl_SP_75_Cells (by decide) hob rfl ?_
      refine mm_getf d_SP_load_26 cl_Seat fl_SP_79_Seat (by decide) (hPH).1 rfl ?_
      refine mm_isub d_SP_load_29 ?_
      refine mm_istore d_SP_load_30 (by decide) ?_
      refine mm_aload_n d_SP_load_32 rfl ?_
      refine mm_iload d_SP_load_33 rfl ?_
      refine mm_callD (kc' := 0) (ks' := 0) d_SP_load_35 (mm_Inv.vi (as := [.int (k - ((c.2.1 i).2.1.1))]) d_SP_load_35 (Or.inl m_398) m_399 ce_Cells_look.2.1 ce_Cells_look.2.2.1 m_400 ce_Cells_look.2.2.2.2.2 ln_Cells_look cl_Cells hob rfl) (J_Cells_look (v := 0) hPH.2.2.2.2.2.2 hob hA) (by decide) ce_Cells_look.1 ce_Cells_look.2.1 ce_Cells_look.2.2.1 ce_Cells_look.2.2.2.1 (Nat.le_of_ble_eq_true rfl) ?_
      refine mm_istore d_SP_load_38 (by decide) ?_
      refine mm_aload_n d_SP_load_40 rfl ?_
      refine mm_iload d_SP_load_41 rfl ?_
      refine mm_iload_n d_SP_load_43 rfl ?_
      refine mm_callD (kc' := 0) (ks' := 0) d_SP_load_44 (mm_Inv.vi (as := [.int (k - ((c.2.1 i).2.1.1)), .int v]) d_SP_load_44 (Or.inl m_402) m_403 ce_Cells_put.2.1 ce_Cells_put.2.2.1 m_404 ce_Cells_put.2.2.2.2.2 ln_Cells_put cl_Cells hob rfl) (J_Cells_put hPH.2.2.2.2.2.2 hob hA) (by decide) ce_Cells_put.1 ce_Cells_put.2.1 ce_Cells_put.2.2.1 ce_Cells_put.2.2.2.1 (Nat.le_of_ble_eq_true rfl) ?_
      rw [p_put01 hPH hk01]
      obtain ⟨H112, hF112, hE112⟩ := CH_part' (q := (p_with (c.2.1 i) (c.2.1 i).2.2.1 (ar_put (c.2.1 i).2.2.2.1 (p_len (c.2.1 i)) (k - ((c.2.1 i).2.1.1)) v) (c.2.1 i).2.2.2.2)) H hiN ⟨_, _, _, rfl⟩
      have hT113 := CFr.tr (CE.rf _) CFr.rf hF112
      have hS113 := CE.tr (CE.rf _) hE112
      generalize gc113 : c_setP c i (p_with (c.2.1 i) (c.2.1 i).2.2.1 (ar_put (c.2.1 i).2.2.2.1 (p_len (c.2.1 i)) (k - ((c.2.1 i).2.1.1)) v) (c.2.1 i).2.2.2.2) = c113 at H112 hT113 hS113 hE112
      have q0_113 : (p_put h (pa i) (p_with (c.2.1 i) (c.2.1 i).2.2.1 (ar_put (c.2.1 i).2.2.2.1 (p_len (c.2.1 i)) (k - ((c.2.1 i).2.1.1)) v) (c.2.1 i).2.2.2.2)) x = some (.inr (0, [.ref (x + 1), .ref (x + 2), .ref (x + 5), .int (nI c113.1), .int c113.2.2.2.2.2.2.2.2.1, .int c113.2.2.2.2.2.2.2.2.2])) := H112.1
      have q1_113 : (p_put h (pa i) (p_with (c.2.1 i) (c.2.1 i).2.2.1 (ar_put (c.2.1 i).2.2.2.1 (p_len (c.2.1 i)) (k - ((c.2.1 i).2.1.1)) v) (c.2.1 i).2.2.2.2)) (x + 1) = some (.inl (3, 12, .inr (.inr (.inr (.inr (c_refs c113.1 pa)))))) := H112.2.1
      have q2_113 : (p_put h (pa i) (p_with (c.2.1 i) (c.2.1 i).2.2.1 (ar_put (c.2.1 i).2.2.2.1 (p_len (c.2.1 i)) (k - ((c.2.1 i).2.1.1)) v) (c.2.1 i).2.2.2.2)) (x + 2) = some (.inr (1, [.ref (x + 3), .ref (x + 4), .int c113.2.2.2.2.2.1, .int c113.2.2.2.2.2.2.1, .int c113.2.2.2.2.2.2.2.1])) := H112.2.2.1
      have q3_113 : (p_put h (pa i) (p_with (c.2.1 i) (c.2.1 i).2.2.1 (ar_put (c.2.1 i).2.2.2.1 (p_len (c.2.1 i)) (k - ((c.2.1 i).2.1.1)) v) (c.2.1 i).2.2.2.2)) (x + 3) = some (.inl (0, 16, .inl c113.2.2.1)) := H112.2.2.2.1
      have q4_113 : (p_put h (pa i) (p_with (c.2.1 i) (c.2.1 i).2.2.1 (ar_put (c.2.1 i).2.2.2.1 (p_len (c.2.1 i)) (k - ((c.2.1 i).2.1.1)) v) (c.2.1 i).2.2.2.2)) (x + 4) = some (.inl (0, 16, .inl c113.2.2.2.1)) := H112.2.2.2.2.1
      have q5_113 : (p_put h (pa i) (p_with (c.2.1 i) (c.2.1 i).2.2.1 (ar_put (c.2.1 i).2.2.2.1 (p_len (c.2.1 i)) (k - ((c.2.1 i).2.1.1)) v) (c.2.1 i).2.2.2.2)) (x + 5) = some (.inl (0, 4, .inl c113.2.2.2.2.1)) := H112.2.2.2.2.2.1
      have q6_113 : c113.1 ≤ 12 := H112.2.2.2.2.2.2.1
      have q7_113 : ∀ j9, j9 < c113.1 → PH (p_put h (pa i) (p_with (c.2.1 i) (c.2.1 i).2.2.1 (ar_put (c.2.1 i).2.2.2.1 (p_len (c.2.1 i)) (k - ((c.2.1 i).2.1.1)) v) (c.2.1 i).2.2.2.2)) (pa j9) (c113.2.1 j9) ∧ x + 6 ≤ pa j9 := H112.2.2.2.2.2.2.2.1
      refine mm_iload d_SP_load_47 rfl ?_
      exact mm_ireturn d_SP_load_49 rfl (CI.of (a := .inl (ar_look (c.2.1 i).2.2.2.1 (p_len (c.2.1 i)) (k - ((c.2.1 i).2.1.1)))) (c' := c113) (by simp only [c_load, hw]; rw [if_pos hk01]; subst gc113; rfl) rfl (by omega) H112 hT113 hS113)
    · refine mm_if_eq (tgt := 50) d_SP_load_12 (by decide) (fun _ => ?_) (fun c9 => absurd rfl c9)
      exact mm_throw (kc := 0) (ks := 0) xs_ok xo_SP_load_50 d_SP_load_50 d_SP_load_53 d_SP_load_54 d_SP_load_56 d_SP_load_59 rfl (by decide) (Nat.le_of_ble_eq_true rfl) (fun n8 hn8 => (CI.of (a := .inr 0) (c' := c) (by simp [c_load, hw, hk01]) rfl (by omega) H CFr.rf (CE.rf _)))
set_option maxRecDepth 100000 in
set_option maxHeartbeats 4000000 in
theorem J_SP_receive {sc : mm_Sc} {n : Nat} {h : mm_H} {x : Nat} {pa : Nat → Nat} {c : cS} {k v : Int32} (H : CH h x pa c)  : mm_J sc y_SP_receive 8 [.ref x, .int k, .int v] n h 2 12 (CI (c_recv k v c) n h x pa c) := by
  refine mm_J.of (show mm_G sc y_SP_receive 8 0 [some (.ref x), some (.int k), some (.int v), none] [] n h 2 12 _ from ?_) ce_SP_receive.2.2.2.2.1 (Nat.le_of_ble_eq_true rfl) (by simp [Value.category])
  have q0 : h x = some (.inr (0, [.ref (x + 1), .ref (x + 2), .ref (x + 5), .int (nI c.1), .int c.2.2.2.2.2.2.2.2.1, .int c.2.2.2.2.2.2.2.2.2])) := H.1
  have q1 : h (x + 1) = some (.inl (3, 12, .inr (.inr (.inr (.inr (c_refs c.1 pa)))))) := H.2.1
  have q2 : h (x + 2) = some (.inr (1, [.ref (x + 3), .ref (x + 4), .int c.2.2.2.2.2.1, .int c.2.2.2.2.2.2.1, .int c.2.2.2.2.2.2.2.1])) := H.2.2.1
  have q3 : h (x + 3) = some (.inl (0, 16, .inl c.2.2.1)) := H.2.2.2.1
  have q4 : h (x + 4) = some (.inl (0, 16, .inl c.2.2.2.1)) := H.2.2.2.2.1
  have q5 : h (x + 5) = some (.inl (0, 4, .inl c.2.2.2.2.1)) := H.2.2.2.2.2.1
  have q6 : c.1 ≤ 12 := H.2.2.2.2.2.2.1
  have q7 : ∀ j9, j9 < c.1 → PH h (pa j9) (c.2.1 j9) ∧ x + 6 ≤ pa j9 := H.2.2.2.2.2.2.2.1
  refine mm_aload_n d_SP_receive_0 rfl ?_
  refine mm_iload_n d_SP_receive_1 rfl ?_
  rcases hr : c_ser k c with ⟨i | e, c1⟩
  · refine mm_call (kc := 1) (ks := 6) (kc' := 1) (ks' := 6) d_SP_receive_2 (mm_Inv.vi (as := [.int k]) d_SP_receive_2 (Or.inl m_595) m_597 ce_SP_serialAt.2.1 ce_SP_serialAt.2.2.1 mp_15 ce_SP_serialAt.2.2.2.2.2 ln_SP_serialAt cl_SP q0 rfl) (J_SP_serialAt H) (by decide) ce_SP_serialAt.1 ce_SP_serialAt.2.1 ce_SP_serialAt.2.2.1 ce_SP_serialAt.2.2.2.1 (Nat.le_of_ble_eq_true rfl) (fun v9 n9 h1 hq9 => ?_) (fun k9 n9 h9 hq9 => by rw [hr] at hq9; cases hq9.1)
    rw [hr] at hq9
    obtain ⟨e9, hn9, H1, hF1, hE1⟩ := hq9
    cases e9
    obtain ⟨hiN, hk3, rfl⟩ := c_ser_lt hr
    have hT101 := CFr.tr (CE.rf _) CFr.rf hF1
    have hS101 := CE.tr (CE.rf _) hE1
    have q0_101 : h1 x = some (.inr (0, [.ref (x + 1), .ref (x + 2), .ref (x + 5), .int (nI c1.1), .int c1.2.2.2.2.2.2.2.2.1, .int c1.2.2.2.2.2.2.2.2.2])) := H1.1
    have q1_101 : h1 (x + 1) = some (.inl (3, 12, .inr (.inr (.inr (.inr (c_refs c1.1 pa)))))) := H1.2.1
    have q2_101 : h1 (x + 2) = some (.inr (1, [.ref (x + 3), .ref (x + 4), .int c1.2.2.2.2.2.1, .int c1.2.2.2.2.2.2.1, .int c1.2.2.2.2.2.2.2.1])) := H1.2.2.1
    have q3_101 : h1 (x + 3) = some (.inl (0, 16, .inl c1.2.2.1)) := H1.2.2.2.1
    have q4_101 : h1 (x + 4) = some (.inl (0, 16, .inl c1.2.2.2.1)) := H1.2.2.2.2.1
    have q5_101 : h1 (x + 5) = some (.inl (0, 4, .inl c1.2.2.2.2.1)) := H1.2.2.2.2.2.1
    have q6_101 : c1.1 ≤ 12 := H1.2.2.2.2.2.2.1
    have q7_101 : ∀ j9, j9 < c1.1 → PH h1 (pa j9) (c1.2.1 j9) ∧ x + 6 ≤ pa j9 := H1.2.2.2.2.2.2.2.1
    have hPH := (H1.2.2.2.2.2.2.2.1 i hiN).1
    have hob := p_obj3 hPH hk3
    have hA := (PH_A3 hPH hk3).1
    have hB := (PH_A3 hPH hk3).2
    have hbc : pa i + 2 ≠ pa i + 3 := by omega
    refine mm_astore_n d_SP_receive_5 (by decide) ?_
    refine mm_aload_n d_SP_receive_6 rfl ?_
    refine mm_callD (kc' := 0) (ks' := 0) d_SP_receive_7 (mm_Inv.vi (as := []) d_SP_receive_7 (Or.inl m_600) m_601 ce_Serial_isFull.2.1 ce_Serial_isFull.2.2.1 m_602 ce_Serial_isFull.2.2.2.2.2 ln_Serial_isFull cl_Serial hob rfl) (J_Serial_isFull hbc hob hA hB) (by decide) ce_Serial_isFull.1 ce_Serial_isFull.2.1 ce_Serial_isFull.2.2.1 ce_Serial_isFull.2.2.2.1 (Nat.le_of_ble_eq_true rfl) ?_
    refine mm_if_eq (tgt := 23) d_SP_receive_10 (by decide) (fun c9 => ?_) (fun c9 => ?_)
    · have hf : (c1.2.1 i).2.2.1 1 < 32 := Classical.byContradiction (fun hz => by rw [if_neg hz] at c9; exact absurd c9 (by decide))
      refine mm_aload_n d_SP_receive_23 rfl ?_
      refine mm_iload_n d_SP_receive_24 rfl ?_
      refine mm_callD (kc' := 0) (ks' := 0) d_SP_receive_25 (mm_Inv.vi (as := [.int v]) d_SP_receive_25 (Or.inl m_605) m_606 ce_Serial_accept.2.1 ce_Serial_accept.2.2.1 m_607 ce_Serial_accept.2.2.2.2.2 ln_Serial_accept cl_Serial hob rfl) (J_Serial_accept hbc hob hA hB) (by decide) ce_Serial_accept.1 ce_Serial_accept.2.1 ce_Serial_accept.2.2.1 ce_Serial_accept.2.2.2.1 (Nat.le_of_ble_eq_true rfl) ?_
      rw [p_put3 hPH hk3]
      obtain ⟨H102, hF102, hE102⟩ := CH_part' (q := (p_with (c1.2.1 i) (fun j => if j = 1 then (c1.2.1 i).2.2.1 1 + 1 else (c1.2.1 i).2.2.1 j) (upd (c1.2.1 i).2.2.2.1 ((c1.2.1 i).2.2.1 0 + (c1.2.1 i).2.2.1 1 &&& 31).toNatClampNeg v) (c1.2.1 i).2.2.2.2)) H1 hiN ⟨_, _, _, rfl⟩
      have hT103 := CFr.tr hS101 hT101 hF102
      have hS103 := CE.tr hS101 hE102
      generalize gc103 : c_setP c1 i (p_with (c1.2.1 i) (fun j => if j = 1 then (c1.2.1 i).2.2.1 1 + 1 else (c1.2.1 i).2.2.1 j) (upd (c1.2.1 i).2.2.2.1 ((c1.2.1 i).2.2.1 0 + (c1.2.1 i).2.2.1 1 &&& 31).toNatClampNeg v) (c1.2.1 i).2.2.2.2) = c103 at H102 hT103 hS103 hE102
      have q0_103 : (p_put h1 (pa i) (p_with (c1.2.1 i) (fun j => if j = 1 then (c1.2.1 i).2.2.1 1 + 1 else (c1.2.1 i).2.2.1 j) (upd (c1.2.1 i).2.2.2.1 ((c1.2.1 i).2.2.1 0 + (c1.2.1 i).2.2.1 1 &&& 31).toNatClampNeg v) (c1.2.1 i).2.2.2.2)) x = some (.inr (0, [.ref (x + 1), .ref (x + 2), .ref (x + 5), .int (nI c103.1), .int c103.2.2.2.2.2.2.2.2.1, .int c103.2.2.2.2.2.2.2.2.2])) := H102.1
      have q1_103 : (p_put h1 (pa i) (p_with (c1.2.1 i) (fun j => if j = 1 then (c1.2.1 i).2.2.1 1 + 1 else (c1.2.1 i).2.2.1 j) (upd (c1.2.1 i).2.2.2.1 ((c1.2.1 i).2.2.1 0 + (c1.2.1 i).2.2.1 1 &&& 31).toNatClampNeg v) (c1.2.1 i).2.2.2.2)) (x + 1) = some (.inl (3, 12, .inr (.inr (.inr (.inr (c_refs c103.1 pa)))))) := H102.2.1
      have q2_103 : (p_put h1 (pa i) (p_with (c1.2.1 i) (fun j => if j = 1 then (c1.2.1 i).2.2.1 1 + 1 else (c1.2.1 i).2.2.1 j) (upd (c1.2.1 i).2.2.2.1 ((c1.2.1 i).2.2.1 0 + (c1.2.1 i).2.2.1 1 &&& 31).toNatClampNeg v) (c1.2.1 i).2.2.2.2)) (x + 2) = some (.inr (1, [.ref (x + 3), .ref (x + 4), .int c103.2.2.2.2.2.1, .int c103.2.2.2.2.2.2.1, .int c103.2.2.2.2.2.2.2.1])) := H102.2.2.1
      have q3_103 : (p_put h1 (pa i) (p_with (c1.2.1 i) (fun j => if j = 1 then (c1.2.1 i).2.2.1 1 + 1 else (c1.2.1 i).2.2.1 j) (upd (c1.2.1 i).2.2.2.1 ((c1.2.1 i).2.2.1 0 + (c1.2.1 i).2.2.1 1 &&& 31).toNatClampNeg v) (c1.2.1 i).2.2.2.2)) (x + 3) = some (.inl (0, 16, .inl c103.2.2.1)) := H102.2.2.2.1
      have q4_103 : (p_put h1 (pa i) (p_with (c1.2.1 i) (fun j => if j = 1 then (c1.2.1 i).2.2.1 1 + 1 else (c1.2.1 i).2.2.1 j) (upd (c1.2.1 i).2.2.2.1 ((c1.2.1 i).2.2.1 0 + (c1.2.1 i).2.2.1 1 &&& 31).toNatClampNeg v) (c1.2.1 i).2.2.2.2)) (x + 4) = some (.inl (0, 16, .inl c103.2.2.2.1)) := H102.2.2.2.2.1
      have q5_103 : (p_put h1 (pa i) (p_with (c1.2.1 i) (fun j => if j = 1 then (c1.2.1 i).2.2.1 1 + 1 else (c1.2.1 i).2.2.1 j) (upd (c1.2.1 i).2.2.2.1 ((c1.2.1 i).2.2.1 0 + (c1.2.1 i).2.2.1 1 &&& 31).toNatClampNeg v) (c1.2.1 i).2.2.2.2)) (x + 5) = some (.inl (0, 4, .inl c103.2.2.2.2.1)) := H102.2.2.2.2.2.1
      have q6_103 : c103.1 ≤ 12 := H102.2.2.2.2.2.2.1
      have q7_103 : ∀ j9, j9 < c103.1 → PH (p_put h1 (pa i) (p_with (c1.2.1 i) (fun j => if j = 1 then (c1.2.1 i).2.2.1 1 + 1 else (c1.2.1 i).2.2.1 j) (upd (c1.2.1 i).2.2.2.1 ((c1.2.1 i).2.2.1 0 + (c1.2.1 i).2.2.1 1 &&& 31).toNatClampNeg v) (c1.2.1 i).2.2.2.2)) (pa j9) (c103.2.1 j9) ∧ x + 6 ≤ pa j9 := H102.2.2.2.2.2.2.2.1
      exact mm_ireturn d_SP_receive_28 rfl (CI.of (a := .inl ((c1.2.1 i).2.2.1 1 + 1)) (c' := c103) (by simp only [c_recv, hr]; rw [if_pos hf]; subst gc103; rfl) rfl (by omega) H102 hT103 hS103)
    · have hf : ¬ (c1.2.1 i).2.2.1 1 < 32 := fun hz => c9 (if_pos hz)
      exact mm_throw (kc := 0) (ks := 0) xs_ok xo_SP_receive_13 d_SP_receive_13 d_SP_receive_16 d_SP_receive_17 d_SP_receive_19 d_SP_receive_22 rfl (by decide) (Nat.le_of_ble_eq_true rfl) (fun n8 hn8 => (CI.of (a := .inr 1) (c' := c1) (by simp only [c_recv, hr]; rw [if_neg hf]) rfl (by omega) H1 hT101 hS101))
  · refine mm_call (kc := 1) (ks := 6) (kc' := 1) (ks' := 6) d_SP_receive_2 (mm_Inv.vi (as := [.int k]) d_SP_receive_2 (Or.inl m_595) m_597 ce_SP_serialAt.2.1 ce_SP_serialAt.2.2.1 mp_15 ce_SP_serialAt.2.2.2.2.2 ln_SP_serialAt cl_SP q0 rfl) (J_SP_serialAt H) (by decide) ce_SP_serialAt.1 ce_SP_serialAt.2.1 ce_SP_serialAt.2.2.1 ce_SP_serialAt.2.2.2.1 (Nat.le_of_ble_eq_true rfl) (fun v9 n9 h1 hq9 => by rw [hr] at hq9; cases hq9.1) (fun k9 n9 h1 hq9 => ?_)
    rw [hr] at hq9
    obtain ⟨e9, hn9, H1, hF1, hE1⟩ := hq9
    cases e9
    exact mm_Th.out rfl (CI.of (a := .inr e) (c' := c1) (by simp only [c_recv, hr]) rfl (by omega) H1 hF1 hE1)
set_option maxRecDepth 100000 in
set_option maxHeartbeats 4000000 in
theorem J_SP_sent {sc : mm_Sc} {n : Nat} {h : mm_H} {x : Nat} {pa : Nat → Nat} {c : cS} {k j : Int32} (H : CH h x pa c)  : mm_J sc y_SP_sent 8 [.ref x, .int k, .int j] n h 2 12 (CI (c_sent k j c) n h x pa c) := by
  refine mm_J.of (show mm_G sc y_SP_sent 8 0 [some (.ref x), some (.int k), some (.int j), none] [] n h 2 12 _ from ?_) ce_SP_sent.2.2.2.2.1 (Nat.le_of_ble_eq_true rfl) (by simp [Value.category])
  have q0 : h x = some (.inr (0, [.ref (x + 1), .ref (x + 2), .ref (x + 5), .int (nI c.1), .int c.2.2.2.2.2.2.2.2.1, .int c.2.2.2.2.2.2.2.2.2])) := H.1
  have q1 : h (x + 1) = some (.inl (3, 12, .inr (.inr (.inr (.inr (c_refs c.1 pa)))))) := H.2.1
  have q2 : h (x + 2) = some (.inr (1, [.ref (x + 3), .ref (x + 4), .int c.2.2.2.2.2.1, .int c.2.2.2.2.2.2.1, .int c.2.2.2.2.2.2.2.1])) := H.2.2.1
  have q3 : h (x + 3) = some (.inl (0, 16, .inl c.2.2.1)) := H.2.2.2.1
  have q4 : h (x + 4) = some (.inl (0, 16, .inl c.2.2.2.1)) := H.2.2.2.2.1
  have q5 : h (x + 5) = some (.inl (0, 4, .inl c.2.2.2.2.1)) := H.2.2.2.2.2.1
  have q6 : c.1 ≤ 12 := H.2.2.2.2.2.2.1
  have q7 : ∀ j9, j9 < c.1 → PH h (pa j9) (c.2.1 j9) ∧ x + 6 ≤ pa j9 := H.2.2.2.2.2.2.2.1
  refine mm_aload_n d_SP_sent_0 rfl ?_
  refine mm_iload_n d_SP_sent_1 rfl ?_
  rcases hr : c_ser k c with ⟨i | e, c1⟩
  · refine mm_call (kc := 1) (ks := 6) (kc' := 1) (ks' := 6) d_SP_sent_2 (mm_Inv.vi (as := [.int k]) d_SP_sent_2 (Or.inl m_595) m_597 ce_SP_serialAt.2.1 ce_SP_serialAt.2.2.1 mp_15 ce_SP_serialAt.2.2.2.2.2 ln_SP_serialAt cl_SP q0 rfl) (J_SP_serialAt H) (by decide) ce_SP_serialAt.1 ce_SP_serialAt.2.1 ce_SP_serialAt.2.2.1 ce_SP_serialAt.2.2.2.1 (Nat.le_of_ble_eq_true rfl) (fun v9 n9 h1 hq9 => ?_) (fun k9 n9 h9 hq9 => by rw [hr] at hq9; cases hq9.1)
    rw [hr] at hq9
    obtain ⟨e9, hn9, H1, hF1, hE1⟩ := hq9
    cases e9
    obtain ⟨hiN, hk3, rfl⟩ := c_ser_lt hr
    have hT101 := CFr.tr (CE.rf _) CFr.rf hF1
    have hS101 := CE.tr (CE.rf _) hE1
    have q0_101 : h1 x = some (.inr (0, [.ref (x + 1), .ref (x + 2), .ref (x + 5), .int (nI c1.1), .int c1.2.2.2.2.2.2.2.2.1, .int c1.2.2.2.2.2.2.2.2.2])) := H1.1
    have q1_101 : h1 (x + 1) = some (.inl (3, 12, .inr (.inr (.inr (.inr (c_refs c1.1 pa)))))) := H1.2.1
    have q2_101 : h1 (x + 2) = some (.inr (1, [.ref (x + 3), .ref (x + 4), .int c1.2.2.2.2.2.1, .int c1.2.2.2.2.2.2.1, .int c1.2.2.2.2.2.2.2.1])) := H1.2.2.1
    have q3_101 : h1 (x + 3) = some (.inl (0, 16, .inl c1.2.2.1)) := H1.2.2.2.1
    have q4_101 : h1 (x + 4) = some (.inl (0, 16, .inl c1.2.2.2.1)) := H1.2.2.2.2.1
    have q5_101 : h1 (x + 5) = some (.inl (0, 4, .inl c1.2.2.2.2.1)) := H1.2.2.2.2.2.1
    have q6_101 : c1.1 ≤ 12 := H1.2.2.2.2.2.2.1
    have q7_101 : ∀ j9, j9 < c1.1 → PH h1 (pa j9) (c1.2.1 j9) ∧ x + 6 ≤ pa j9 := H1.2.2.2.2.2.2.2.1
    have hPH := (H1.2.2.2.2.2.2.2.1 i hiN).1
    have hob := p_obj3 hPH hk3
    have hA := (PH_A3 hPH hk3).1
    have hB := (PH_A3 hPH hk3).2
    have hbc : pa i + 2 ≠ pa i + 3 := by omega
    refine mm_astore_n d_SP_sent_5 (by decide) ?_
    refine mm_iload_n d_SP_sent_6 rfl ?_
    refine mm_if_lt (tgt := 18) d_SP_sent_7 (by decide) (fun c_7 => ?_) (fun c_7 => ?_)
    · exact mm_throw (kc := 0) (ks := 0) xs_ok xo_SP_sent_18 d_SP_sent_18 d_SP_sent_21 d_SP_sent_22 d_SP_sent_24 d_SP_sent_27 rfl (by decide) (Nat.le_of_ble_eq_true rfl) (fun n8 hn8 => (CI.of (a := .inr 2) (c' := c1) (by simp only [c_sent, hr]; rw [if_pos c_7]) rfl (by omega) H1 hT101 hS101))
    · refine mm_iload_n d_SP_sent_10 rfl ?_
      refine mm_aload_n d_SP_sent_11 rfl ?_
      refine mm_callD (kc' := 0) (ks' := 0) d_SP_sent_12 (mm_Inv.vi (as := []) d_SP_sent_12 (Or.inl m_616) m_617 ce_Serial_goneKept.2.1 ce_Serial_goneKept.2.2.1 m_618 ce_Serial_goneKept.2.2.2.2.2 ln_Serial_goneKept cl_Serial hob rfl) (J_Serial_goneKept hbc hob hA hB) (by decide) ce_Serial_goneKept.1 ce_Serial_goneKept.2.1 ce_Serial_goneKept.2.2.1 ce_Serial_goneKept.2.2.2.1 (Nat.le_of_ble_eq_true rfl) ?_
      refine mm_icmp_lt (tgt := 28) d_SP_sent_15 (by decide) (fun c_15 => ?_) (fun c_15 => ?_)
      · refine mm_aload_n d_SP_sent_28 rfl ?_
        refine mm_iload_n d_SP_sent_29 rfl ?_
        refine mm_callD (kc' := 0) (ks' := 0) d_SP_sent_30 (mm_Inv.vi (as := [.int j]) d_SP_sent_30 (Or.inl m_624) m_625 ce_Serial_goneAt.2.1 ce_Serial_goneAt.2.2.1 m_626 ce_Serial_goneAt.2.2.2.2.2 ln_Serial_goneAt cl_Serial hob rfl) (J_Serial_goneAt hbc hob hA hB) (by decide) ce_Serial_goneAt.1 ce_Serial_goneAt.2.1 ce_Serial_goneAt.2.2.1 ce_Serial_goneAt.2.2.2.1 (Nat.le_of_ble_eq_true rfl) ?_
        exact mm_ireturn d_SP_sent_33 rfl (CI.of (a := .inl ((c1.2.1 i).2.2.2.2 ((c1.2.1 i).2.2.1 2 - sr_kept ((c1.2.1 i).2.2.1 2) + j &&& 31).toNatClampNeg)) (c' := c1) (by simp only [c_sent, hr]; rw [if_neg c_7, if_pos c_15]) rfl (by omega) H1 hT101 hS101)
      · exact mm_throw (kc := 0) (ks := 0) xs_ok xo_SP_sent_18 d_SP_sent_18 d_SP_sent_21 d_SP_sent_22 d_SP_sent_24 d_SP_sent_27 rfl (by decide) (Nat.le_of_ble_eq_true rfl) (fun n8 hn8 => (CI.of (a := .inr 2) (c' := c1) (by simp only [c_sent, hr]; rw [if_neg c_7, if_neg c_15]) rfl (by omega) H1 hT101 hS101))
  · refine mm_call (kc := 1) (ks := 6) (kc' := 1) (ks' := 6) d_SP_sent_2 (mm_Inv.vi (as := [.int k]) d_SP_sent_2 (Or.inl m_595) m_597 ce_SP_serialAt.2.1 ce_SP_serialAt.2.2.1 mp_15 ce_SP_serialAt.2.2.2.2.2 ln_SP_serialAt cl_SP q0 rfl) (J_SP_serialAt H) (by decide) ce_SP_serialAt.1 ce_SP_serialAt.2.1 ce_SP_serialAt.2.2.1 ce_SP_serialAt.2.2.2.1 (Nat.le_of_ble_eq_true rfl) (fun v9 n9 h1 hq9 => by rw [hr] at hq9; cases hq9.1) (fun k9 n9 h1 hq9 => ?_)
    rw [hr] at hq9
    obtain ⟨e9, hn9, H1, hF1, hE1⟩ := hq9
    cases e9
    exact mm_Th.out rfl (CI.of (a := .inr e) (c' := c1) (by simp only [c_sent, hr]) rfl (by omega) H1 hF1 hE1)
