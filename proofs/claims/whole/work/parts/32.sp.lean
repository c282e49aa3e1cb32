/-- a local is forgotten -/
theorem mm_G.drop {sc : mm_Sc} {y : mm_M} {d pc : Nat} {l : mm_L} {st : List Value} {n : Nat} {h : mm_H} {kc ks : Nat} {Q : mm_O → Nat → mm_H → Prop} (j : Nat) (k : mm_G sc y d pc (l.set j none) st n h kc ks Q) : mm_G sc y d pc l st n h kc ks Q := fun X P Z S R E => by
  have key : ∀ q ∈ mm_lv (l.set j none), q ∈ mm_lv l := by
    rintro ⟨i, w⟩ hq
    rw [mm_lv_mem] at hq ⊢
    by_cases hj : i = j
    · subst hj
      rw [List.getElem?_set, if_pos rfl] at hq
      split at hq <;> cases hq
    · rw [List.getElem?_set, if_neg (Ne.symm hj)] at hq
      exact hq
  exact k X P Z S R ⟨⟨E.1.1, E.1.2.1, fun q hq => E.1.2.2 q (key q hq)⟩, fun q hq => E.2 q (key q hq)⟩
def sp_isPlace (k : Int32) : Int32 := if k < 0 then 0 else if 65536 ≤ k then 0 else 1
set_option maxRecDepth 100000 in
theorem J_SP_isPlace {sc : mm_Sc} {n : Nat} {h : mm_H} {k : Int32}  : mm_J sc y_SP_isPlace 1 [.int k] n h 0 0 (fun o n' h' => o = .inl (some (.int (sp_isPlace k))) ∧ n' = n ∧ h' = h) := by
  refine mm_J.of (show mm_G sc y_SP_isPlace 1 0 [some (.int k)] [] n h 0 0 _ from ?_) ce_SP_isPlace.2.2.2.2.1 (Nat.le_of_ble_eq_true rfl) (by simp [Value.category])
  refine mm_iload_n d_SP_isPlace_0 rfl ?_
  refine mm_if_lt (tgt := 14) d_SP_isPlace_1 (by decide) (fun c_1 => ?_) (fun c_1 => ?_)
  · refine mm_iconst (v := 0) d_SP_isPlace_14 (by decide) ?_
    exact mm_zreturn d_SP_isPlace_15 rfl rfl ⟨by simp [sp_isPlace, c_1, Int32.not_le.mpr c_1], rfl, rfl⟩
  · refine mm_iload_n d_SP_isPlace_4 rfl ?_
    refine mm_ldc d_SP_isPlace_5 m_157 rfl ?_
    refine mm_icmp_ge (tgt := 14) d_SP_isPlace_7 (by decide) (fun c_7 => ?_) (fun c_7 => ?_)
    · refine mm_iconst (v := 0) d_SP_isPlace_14 (by decide) ?_
      exact mm_zreturn d_SP_isPlace_15 rfl rfl ⟨by simp [sp_isPlace, c_1, Int32.not_lt.mp c_1, c_7, Int32.not_lt.mpr c_7], rfl, rfl⟩
    · refine mm_iconst (v := 1) d_SP_isPlace_10 (by decide) ?_
      refine mm_goto (tgt := 15) d_SP_isPlace_11 (by decide) ?_
      exact mm_zreturn d_SP_isPlace_15 rfl rfl ⟨by simp [sp_isPlace, c_1, Int32.not_lt.mp c_1, c_7, Int32.not_le.mp c_7], rfl, rfl⟩
def sp_isLine (k : Int32) : Int32 := if k < 0 then 0 else if 16 ≤ k then 0 else 1
set_option maxRecDepth 100000 in
theorem J_SP_isLine {sc : mm_Sc} {n : Nat} {h : mm_H} {k : Int32}  : mm_J sc y_SP_isLine 1 [.int k] n h 0 0 (fun o n' h' => o = .inl (some (.int (sp_isLine k))) ∧ n' = n ∧ h' = h) := by
  refine mm_J.of (show mm_G sc y_SP_isLine 1 0 [some (.int k)] [] n h 0 0 _ from ?_) ce_SP_isLine.2.2.2.2.1 (Nat.le_of_ble_eq_true rfl) (by simp [Value.category])
  refine mm_iload_n d_SP_isLine_0 rfl ?_
  refine mm_if_lt (tgt := 14) d_SP_isLine_1 (by decide) (fun c_1 => ?_) (fun c_1 => ?_)
  · refine mm_iconst (v := 0) d_SP_isLine_14 (by decide) ?_
    exact mm_zreturn d_SP_isLine_15 rfl rfl ⟨by simp [sp_isLine, c_1, Int32.not_le.mpr c_1], rfl, rfl⟩
  · refine mm_iload_n d_SP_isLine_4 rfl ?_
    refine mm_bipush (v := 16) d_SP_isLine_5 (by decide) ?_
    refine mm_icmp_ge (tgt := 14) d_SP_isLine_7 (by decide) (fun c_7 => ?_) (fun c_7 => ?_)
    · refine mm_iconst (v := 0) d_SP_isLine_14 (by decide) ?_
      exact mm_zreturn d_SP_isLine_15 rfl rfl ⟨by simp [sp_isLine, c_1, Int32.not_lt.mp c_1, c_7, Int32.not_lt.mpr c_7], rfl, rfl⟩
    · refine mm_iconst (v := 1) d_SP_isLine_10 (by decide) ?_
      refine mm_goto (tgt := 15) d_SP_isLine_11 (by decide) ?_
      exact mm_zreturn d_SP_isLine_15 rfl rfl ⟨by simp [sp_isLine, c_1, Int32.not_lt.mp c_1, c_7, Int32.not_le.mp c_7], rfl, rfl⟩
def sp_len (k z : Int32) : Int32 := if k = 0 ∨ k = 1 then (if z < 1 then 0 else if 64 < z then 0 else z) else if k = 2 then 4 else if k = 3 then 3 else if k = 4 then 11 else if k = 5 then 4 else 0
set_option maxRecDepth 100000 in
theorem J_SP_lengthOf {sc : mm_Sc} {n : Nat} {h : mm_H} {k z : Int32}  : mm_J sc y_SP_lengthOf 1 [.int k, .int z] n h 0 0 (fun o n' h' => o = .inl (some (.int (sp_len k z))) ∧ n' = n ∧ h' = h) := by
  refine mm_J.of (show mm_G sc y_SP_lengthOf 1 0 [some (.int k), some (.int z)] [] n h 0 0 _ from ?_) ce_SP_lengthOf.2.2.2.2.1 (Nat.le_of_ble_eq_true rfl) (by simp [Value.category])
  refine mm_iload_n d_SP_lengthOf_0 rfl ?_
  by_cases c_1_0 : k = 0
  · refine mm_tableIn (tgt := 40) (off := 39) d_SP_lengthOf_1 (by rw [c_1_0]; decide) (by rw [c_1_0]; decide) (by rw [c_1_0]; decide) (by decide) ?_
    refine mm_iload_n d_SP_lengthOf_40 rfl ?_
    refine mm_iconst (v := 1) d_SP_lengthOf_41 (by decide) ?_
    refine mm_icmp_lt (tgt := 55) d_SP_lengthOf_42 (by decide) (fun c_42 => ?_) (fun c_42 => ?_)
    · refine mm_iconst (v := 0) d_SP_lengthOf_55 (by decide) ?_
      exact mm_ireturn d_SP_lengthOf_56 rfl ⟨by simp [sp_len, c_1_0, c_42, Int32.not_le.mpr c_42], rfl, rfl⟩
    · refine mm_iload_n d_SP_lengthOf_45 rfl ?_
      refine mm_bipush (v := 64) d_SP_lengthOf_46 (by decide) ?_
      refine mm_icmp_gt (tgt := 55) d_SP_lengthOf_48 (by decide) (fun c_48 => ?_) (fun c_48 => ?_)
      · refine mm_iconst (v := 0) d_SP_lengthOf_55 (by decide) ?_
        exact mm_ireturn d_SP_lengthOf_56 rfl ⟨by simp [sp_len, c_1_0, c_42, Int32.not_lt.mp c_42, c_48, Int32.not_le.mpr c_48], rfl, rfl⟩
      · refine mm_iload_n d_SP_lengthOf_51 rfl ?_
        refine mm_goto (tgt := 56) d_SP_lengthOf_52 (by decide) ?_
        exact mm_ireturn d_SP_lengthOf_56 rfl ⟨by simp [sp_len, c_1_0, c_42, Int32.not_lt.mp c_42, c_48, Int32.not_lt.mp c_48], rfl, rfl⟩
  by_cases c_1_1 : k = 1
  · refine mm_tableIn (tgt := 40) (off := 39) d_SP_lengthOf_1 (by rw [c_1_1]; decide) (by rw [c_1_1]; decide) (by rw [c_1_1]; decide) (by decide) ?_
    refine mm_iload_n d_SP_lengthOf_40 rfl ?_
    refine mm_iconst (v := 1) d_SP_lengthOf_41 (by decide) ?_
    refine mm_icmp_lt (tgt := 55) d_SP_lengthOf_42 (by decide) (fun c_42 => ?_) (fun c_42 => ?_)
    · refine mm_iconst (v := 0) d_SP_lengthOf_55 (by decide) ?_
      exact mm_ireturn d_SP_lengthOf_56 rfl ⟨by simp [sp_len, c_1_0, c_1_1, c_42, Int32.not_le.mpr c_42], rfl, rfl⟩
    · refine mm_iload_n d_SP_lengthOf_45 rfl ?_
      refine mm_bipush (v := 64) d_SP_lengthOf_46 (by decide) ?_
      refine mm_icmp_gt (tgt := 55) d_SP_lengthOf_48 (by decide) (fun c_48 => ?_) (fun c_48 => ?_)
      · refine mm_iconst (v := 0) d_SP_lengthOf_55 (by decide) ?_
        exact mm_ireturn d_SP_lengthOf_56 rfl ⟨by simp [sp_len, c_1_0, c_1_1, c_42, Int32.not_lt.mp c_42, c_48, Int32.not_le.mpr c_48], rfl, rfl⟩
      · refine mm_iload_n d_SP_lengthOf_51 rfl ?_
        refine mm_goto (tgt := 56) d_SP_lengthOf_52 (by decide) ?_
        exact mm_ireturn d_SP_lengthOf_56 rfl ⟨by simp [sp_len, c_1_0, c_1_1, c_42, Int32.not_lt.mp c_42, c_48, Int32.not_lt.mp c_48], rfl, rfl⟩
  by_cases c_1_2 : k = 2
  · refine mm_tableIn (tgt := 57) (off := 56) d_SP_lengthOf_1 (by rw [c_1_2]; decide) (by rw [c_1_2]; decide) (by rw [c_1_2]; decide) (by decide) ?_
    refine mm_iconst (v := 4) d_SP_lengthOf_57 (by decide) ?_
    exact mm_ireturn d_SP_lengthOf_58 rfl ⟨by simp [sp_len, c_1_0, c_1_1, c_1_2], rfl, rfl⟩
  by_cases c_1_3 : k = 3
  · refine mm_tableIn (tgt := 59) (off := 58) d_SP_lengthOf_1 (by rw [c_1_3]; decide) (by rw [c_1_3]; decide) (by rw [c_1_3]; decide) (by decide) ?_
    refine mm_iconst (v := 3) d_SP_lengthOf_59 (by decide) ?_
    exact mm_ireturn d_SP_lengthOf_60 rfl ⟨by simp [sp_len, c_1_0, c_1_1, c_1_2, c_1_3], rfl, rfl⟩
  by_cases c_1_4 : k = 4
  · refine mm_tableIn (tgt := 61) (off := 60) d_SP_lengthOf_1 (by rw [c_1_4]; decide) (by rw [c_1_4]; decide) (by rw [c_1_4]; decide) (by decide) ?_
    refine mm_bipush (v := 11) d_SP_lengthOf_61 (by decide) ?_
    exact mm_ireturn d_SP_lengthOf_63 rfl ⟨by simp [sp_len, c_1_0, c_1_1, c_1_2, c_1_3, c_1_4], rfl, rfl⟩
  by_cases c_1_5 : k = 5
  · refine mm_tableIn (tgt := 64) (off := 63) d_SP_lengthOf_1 (by rw [c_1_5]; decide) (by rw [c_1_5]; decide) (by rw [c_1_5]; decide) (by decide) ?_
    refine mm_iconst (v := 4) d_SP_lengthOf_64 (by decide) ?_
    exact mm_ireturn d_SP_lengthOf_65 rfl ⟨by simp [sp_len, c_1_0, c_1_1, c_1_2, c_1_3, c_1_4, c_1_5], rfl, rfl⟩
  refine mm_tableOut (tgt := 66) d_SP_lengthOf_1 (mm_tsw6 c_1_0 c_1_1 c_1_2 c_1_3 c_1_4 c_1_5) (by decide) ?_
  refine mm_iconst (v := 0) d_SP_lengthOf_66 (by decide) ?_
  exact mm_ireturn d_SP_lengthOf_67 rfl ⟨by simp [sp_len, c_1_0, c_1_1, c_1_2, c_1_3, c_1_4, c_1_5], rfl, rfl⟩
/-- the lines by which the first i places ask -/
def c_ask (N : Nat) (P : Nat → pS) : Nat → Int32
  | 0 => 0
  | i + 1 => if i < N then (if p_wants (P i) = 0 then c_ask N P i else c_ask N P i ||| (1 <<< ((P i).2.1.2.2.1 &&& 31))) else c_ask N P i
set_option maxRecDepth 100000 in
set_option maxHeartbeats 4000000 in
theorem lp_ask {sc : mm_Sc} {n d kc ks : Nat} {h : mm_H} {Q : mm_O → Nat → mm_H → Prop} {x N : Nat} {pa : Nat → Nat} {P : Nat → pS} {Wy Rk tl : Nat → Int32} {hi u kp ti ca : Int32}  (H : CH h x pa (N, P, Wy, Rk, tl, hi, u, kp, ti, ca)) (hd : 4 ≤ d) (hq : mm_G sc y_SP_askingLines d 49 [some (.ref x), some (.int (c_ask N P 12)), some (.int (nI 12)), none] [] n h kc ks Q) : ∀ (m i : Nat), i + m = 12 → mm_G sc y_SP_askingLines d 4 [some (.ref x), some (.int (c_ask N P i)), some (.int (nI i)), none] [] n h kc ks Q := by
  have q0 : h x = some (.inr (0, [.ref (x + 1), .ref (x + 2), .ref (x + 5), .int (nI N), .int ti, .int ca])) := H.1
  have q1 : h (x + 1) = some (.inl (3, 12, .inr (.inr (.inr (.inr (c_refs N pa)))))) := H.2.1
  have q2 : h (x + 2) = some (.inr (1, [.ref (x + 3), .ref (x + 4), .int hi, .int u, .int kp])) := H.2.2.1
  have q3 : h (x + 3) = some (.inl (0, 16, .inl Wy)) := H.2.2.2.1
  have q4 : h (x + 4) = some (.inl (0, 16, .inl Rk)) := H.2.2.2.2.1
  have q5 : h (x + 5) = some (.inl (0, 4, .inl tl)) := H.2.2.2.2.2.1
  have q6 : N ≤ 12 := H.2.2.2.2.2.2.1
  have q7 : ∀ j9, j9 < N → PH h (pa j9) ((P) j9) ∧ x + 6 ≤ pa j9 := H.2.2.2.2.2.2.2.1
  intro m
  induction m with
  | zero =>
    intro i hi9
    obtain rfl : i = 12 := by omega
    refine mm_iload_n d_SP_askingLines_4 rfl ?_
    refine mm_aload_n d_SP_askingLines_5 rfl ?_
    refine mm_getf d_SP_askingLines_6 cl_SP fl_SP_11_SP (by decide) q0 rfl ?_
    refine mm_alen d_SP_askingLines_9 q1 (by decide) ?_
    refine mm_icmp_ge (tgt := 49) d_SP_askingLines_10 (by decide) (fun c_10 => ?_) (fun c_10 => absurd (show nI 12 ≤ nI 12 from Int32.le_refl _) c_10)
    exact hq
  | succ m ih =>
    intro i hi9
    refine mm_iload_n d_SP_askingLines_4 rfl ?_
    refine mm_aload_n d_SP_askingLines_5 rfl ?_
    refine mm_getf d_SP_askingLines_6 cl_SP fl_SP_11_SP (by decide) q0 rfl ?_
    refine mm_alen d_SP_askingLines_9 q1 (by decide) ?_
    refine mm_icmp_ge (tgt := 49) d_SP_askingLines_10 (by decide) (fun c_10 => absurd c_10 (show ¬ nI 12 ≤ nI i from nI_ge (by omega) (by omega))) (fun c_10 => ?_)
    refine mm_aload_n d_SP_askingLines_13 rfl ?_
    refine mm_getf d_SP_askingLines_14 cl_SP fl_SP_11_SP (by decide) q0 rfl ?_
    refine mm_iload_n d_SP_askingLines_17 rfl ?_
    refine mm_aald d_SP_askingLines_18 q1 (vp_in_nI (by omega) (by omega)) ?_
    have hk9 := nI_clamp (n := i) (by omega)
    by_cases hN : i < N
    · refine mm_G.cast (st' := .ref (pa i + 1) :: []) rfl (by rw [hk9]; simp [c_refs, hN, va_rf]) rfl ?_
      refine mm_astore_n d_SP_askingLines_19 (by decide) ?_
      refine mm_aload_n d_SP_askingLines_20 rfl ?_
      refine mm_ifnull d_SP_askingLines_21 ?_
      refine mm_aload_n d_SP_askingLines_24 rfl ?_
      refine vc_wants (q7 i hN).1 hd (Nat.le_of_ble_eq_true rfl) ?_
      refine mm_if_eq (tgt := 43) d_SP_askingLines_28 (by decide) (fun c_28 => ?_) (fun c_28 => ?_)
      · refine mm_iinc (v := (nI i) + 1) d_SP_askingLines_43 rfl rfl (by decide) ?_
        refine mm_goto (tgt := 4) d_SP_askingLines_46 (by decide) ?_
        refine mm_G.drop 3 ?_
        refine mm_G.cast (l' := [some (.ref x), some (.int (c_ask N P (i + 1))), some (.int (nI (i + 1))), none]) ?_ rfl rfl (ih (i + 1) (by omega))
        all_goals (simp [nI_1, c_ask, hk9, hN, c_10, c_28] <;> try rfl)
      · refine mm_iload_n d_SP_askingLines_31 rfl ?_
        refine mm_iconst (v := 1) d_SP_askingLines_32 (by decide) ?_
        refine mm_aload_n d_SP_askingLines_33 rfl ?_
        refine g_seat rfl d_SP_askingLines_34 (q7 i hN).1 ?_
        refine mm_getf d_SP_askingLines_37 cl_Seat fl_SP_220_Seat (by decide) ((q7 i hN).1).1 rfl ?_
        refine mm_ishl d_SP_askingLines_40 ?_
        refine mm_ior d_SP_askingLines_41 ?_
        refine mm_istore_n d_SP_askingLines_42 (by decide) ?_
        refine mm_iinc (v := (nI i) + 1) d_SP_askingLines_43 rfl rfl (by decide) ?_
        refine mm_goto (tgt := 4) d_SP_askingLines_46 (by decide) ?_
        refine mm_G.drop 3 ?_
        refine mm_G.cast (l' := [some (.ref x), some (.int (c_ask N P (i + 1))), some (.int (nI (i + 1))), none]) ?_ rfl rfl (ih (i + 1) (by omega))
        all_goals (simp [nI_1, c_ask, hk9, hN, c_10, c_28] <;> try rfl)
    · refine mm_G.cast (st' := .null :: []) rfl (by rw [hk9]; simp [c_refs, hN, va_rf]) rfl ?_
      refine mm_astore_nN d_SP_askingLines_19 (by decide) ?_
      refine mm_aload_nN d_SP_askingLines_20 rfl ?_
      refine mm_ifnullN (tgt := 43) d_SP_askingLines_21 (by decide) ?_
      refine mm_iinc (v := (nI i) + 1) d_SP_askingLines_43 rfl rfl (by decide) ?_
      refine mm_goto (tgt := 4) d_SP_askingLines_46 (by decide) ?_
      refine mm_G.drop 3 ?_
      refine mm_G.cast (l' := [some (.ref x), some (.int (c_ask N P (i + 1))), some (.int (nI (i + 1))), none]) ?_ rfl rfl (ih (i + 1) (by omega))
      all_goals (simp [nI_1, c_ask, hk9, hN, c_10] <;> try rfl)
set_option maxRecDepth 100000 in
set_option maxHeartbeats 4000000 in
theorem J_SP_askingLines {sc : mm_Sc} {n : Nat} {h : mm_H} {x N : Nat} {pa : Nat → Nat} {P : Nat → pS} {Wy Rk tl : Nat → Int32} {hi u kp ti ca : Int32}  (H : CH h x pa (N, P, Wy, Rk, tl, hi, u, kp, ti, ca))  : mm_J sc y_SP_askingLines 5 [.ref x] n h 0 0 (fun o n' h' => o = .inl (some (.int (c_ask N P 12))) ∧ n' = n ∧ h' = h) := by
  refine mm_J.of (show mm_G sc y_SP_askingLines 5 0 [some (.ref x), none, none, none] [] n h 0 0 _ from ?_) ce_SP_askingLines.2.2.2.2.1 (Nat.le_of_ble_eq_true rfl) (by simp [Value.category])
  have q0 : h x = some (.inr (0, [.ref (x + 1), .ref (x + 2), .ref (x + 5), .int (nI N), .int ti, .int ca])) := H.1
  have q1 : h (x + 1) = some (.inl (3, 12, .inr (.inr (.inr (.inr (c_refs N pa)))))) := H.2.1
  have q2 : h (x + 2) = some (.inr (1, [.ref (x + 3), .ref (x + 4), .int hi, .int u, .int kp])) := H.2.2.1
  have q3 : h (x + 3) = some (.inl (0, 16, .inl Wy)) := H.2.2.2.1
  have q4 : h (x + 4) = some (.inl (0, 16, .inl Rk)) := H.2.2.2.2.1
  have q5 : h (x + 5) = some (.inl (0, 4, .inl tl)) := H.2.2.2.2.2.1
  have q6 : N ≤ 12 := H.2.2.2.2.2.2.1
  have q7 : ∀ j9, j9 < N → PH h (pa j9) ((P) j9) ∧ x + 6 ≤ pa j9 := H.2.2.2.2.2.2.2.1
  refine mm_iconst (v := 0) d_SP_askingLines_0 (by decide) ?_
  refine mm_istore_n d_SP_askingLines_1 (by decide) ?_
  refine mm_iconst (v := 0) d_SP_askingLines_2 (by decide) ?_
  refine mm_istore_n d_SP_askingLines_3 (by decide) ?_
  exact lp_ask H (by decide) (mm_iload_n d_SP_askingLines_49 rfl (mm_ireturn d_SP_askingLines_50 rfl ⟨rfl, rfl, rfl⟩)) 12 0 (by omega)
def c_allWaiting (N : Nat) (P : Nat → pS) : Nat → Int32
  | 0 => 0
  | i + 1 => if i < N then (if (P i).1 = 3 then c_allWaiting N P i + (P i).2.2.1 1 else c_allWaiting N P i) else c_allWaiting N P i
theorem p_obj3 {h : mm_H} {a : Nat} {p : pS} (hp : PH h a p) (hk : p.1 = 3) : h (a + 1) = some (.inr (5, [.ref (a + 2), .int (p.2.2.1 0), .int (p.2.2.1 1), .ref (a + 3), .int (p.2.2.1 2), .int (p.2.2.1 3), .int (p.2.2.1 4), .int (p.2.2.1 5), .ref a])) := by
  rw [hp.2.1]; unfold p_obj; rw [hk]; rfl
theorem p_obj5 {h : mm_H} {a : Nat} {p : pS} (hp : PH h a p) (hk : p.1 = 5) : h (a + 1) = some (.inr (7, [.ref (a + 2), .ref a])) := by
  rw [hp.2.1]; unfold p_obj; rw [hk]; rfl
theorem p_obj01 {h : mm_H} {a : Nat} {p : pS} (hp : PH h a p) (hk : p.1 = 0 ∨ p.1 = 1) : h (a + 1) = some (.inr (3, [.ref (a + 2), .int (if p.1 = 1 then 1 else 0), .ref a])) := by
  rw [hp.2.1]; unfold p_obj
  rcases hk with hk | hk <;> rw [hk] <;> rfl
set_option maxRecDepth 100000 in
set_option maxHeartbeats 4000000 in
theorem lp_allWaiting {sc : mm_Sc} {n d kc ks : Nat} {h : mm_H} {Q : mm_O → Nat → mm_H → Prop} {x N : Nat} {pa : Nat → Nat} {P : Nat → pS} {Wy Rk tl : Nat → Int32} {hi u kp ti ca : Int32}  (H : CH h x pa (N, P, Wy, Rk, tl, hi, u, kp, ti, ca))  (hq : mm_G sc y_SP_allWaiting d 48 [some (.ref x), some (.int (c_allWaiting N P 12)), some (.int (nI 12)), none, none] [] n h kc ks Q) : ∀ (m i : Nat), i + m = 12 → mm_G sc y_SP_allWaiting d 4 [some (.ref x), some (.int (c_allWaiting N P i)), some (.int (nI i)), none, none] [] n h kc ks Q := by
  have q0 : h x = some (.inr (0, [.ref (x + 1), .ref (x + 2), .ref (x + 5), .int (nI N), .int ti, .int ca])) := H.1
  have q1 : h (x + 1) = some (.inl (3, 12, .inr (.inr (.inr (.inr (c_refs N pa)))))) := H.2.1
  have q2 : h (x + 2) = some (.inr (1, [.ref (x + 3), .ref (x + 4), .int hi, .int u, .int kp])) := H.2.2.1
  have q3 : h (x + 3) = some (.inl (0, 16, .inl Wy)) := H.2.2.2.1
  have q4 : h (x + 4) = some (.inl (0, 16, .inl Rk)) := H.2.2.2.2.1
  have q5 : h (x + 5) = some (.inl (0, 4, .inl tl)) := H.2.2.2.2.2.1
  have q6 : N ≤ 12 := H.2.2.2.2.2.2.1
  have q7 : ∀ j9, j9 < N → PH h (pa j9) ((P) j9) ∧ x + 6 ≤ pa j9 := H.2.2.2.2.2.2.2.1
  intro m
  induction m with
  | zero =>
    intro i hi9
    obtain rfl : i = 12 := by omega
    refine mm_iload_n d_SP_allWaiting_4 rfl ?_
    refine mm_aload_n d_SP_allWaiting_5 rfl ?_
    refine mm_getf d_SP_allWaiting_6 cl_SP fl_SP_11_SP (by decide) q0 rfl ?_
    refine mm_alen d_SP_allWaiting_9 q1 (by decide) ?_
    refine mm_icmp_ge (tgt := 48) d_SP_allWaiting_10 (by decide) (fun c_10 => ?_) (fun c_10 => absurd (show nI 12 ≤ nI 12 from Int32.le_refl _) c_10)
    exact hq
  | succ m ih =>
    intro i hi9
    refine mm_iload_n d_SP_allWaiting_4 rfl ?_
    refine mm_aload_n d_SP_allWaiting_5 rfl ?_
    refine mm_getf d_SP_allWaiting_6 cl_SP fl_SP_11_SP (by decide) q0 rfl ?_
    refine mm_alen d_SP_allWaiting_9 q1 (by decide) ?_
    refine mm_icmp_ge (tgt := 48) d_SP_allWaiting_10 (by decide) (fun c_10 => absurd c_10 (show ¬ nI 12 ≤ nI i from nI_ge (by omega) (by omega))) (fun c_10 => ?_)
    refine mm_aload_n d_SP_allWaiting_13 rfl ?_
    refine mm_getf d_SP_allWaiting_14 cl_SP fl_SP_11_SP (by decide) q0 rfl ?_
    refine mm_iload_n d_SP_allWaiting_17 rfl ?_
    refine mm_aald d_SP_allWaiting_18 q1 (vp_in_nI (by omega) (by omega)) ?_
    have hk9 := nI_clamp (n := i) (by omega)
    by_cases hN : i < N
    · refine mm_G.cast (st' := .ref (pa i + 1) :: []) rfl (by rw [hk9]; simp [c_refs, hN, va_rf]) rfl ?_
      refine mm_astore d_SP_allWaiting_19 (by decide) ?_
      refine mm_aload d_SP_allWaiting_21 rfl ?_
      refine g_isSerial rfl d_SP_allWaiting_23 (q7 i hN).1 (fun hk3 => ?_) (fun hk3 => ?_)
      · refine mm_if_eq (tgt := 42) d_SP_allWaiting_26 (by decide) (fun c9 => absurd c9 (by decide)) (fun _ => ?_)
        refine mm_aload d_SP_allWaiting_29 rfl ?_
        have hob := p_obj3 (q7 i hN).1 hk3
        refine mm_castY d_SP_allWaiting_31 hob cl_Serial m_130 (Or.inl rfl) ?_
        refine mm_astore_n d_SP_allWaiting_34 (by decide) ?_
        refine mm_iload_n d_SP_allWaiting_35 rfl ?_
        refine mm_aload_n d_SP_allWaiting_36 rfl ?_
        refine mm_getf d_SP_allWaiting_37 cl_Serial fl_SP_232_Serial (by decide) hob rfl ?_
        refine mm_iadd d_SP_allWaiting_40 ?_
        refine mm_istore_n d_SP_allWaiting_41 (by decide) ?_
        refine mm_iinc (v := (nI i) + 1) d_SP_allWaiting_42 rfl rfl (by decide) ?_
        refine mm_goto (tgt := 4) d_SP_allWaiting_45 (by decide) ?_
        refine mm_G.drop 3 ?_
        refine mm_G.drop 4 ?_
        refine mm_G.cast (l' := [some (.ref x), some (.int (c_allWaiting N P (i + 1))), some (.int (nI (i + 1))), none, none]) ?_ rfl rfl (ih (i + 1) (by omega))
        all_goals (simp [nI_1, c_allWaiting, hk9, hN, c_10, hk3] <;> try rfl)
      · refine mm_if_eq (tgt := 42) d_SP_allWaiting_26 (by decide) (fun _ => ?_) (fun c9 => absurd rfl c9)
        refine mm_iinc (v := (nI i) + 1) d_SP_allWaiting_42 rfl rfl (by decide) ?_
        refine mm_goto (tgt := 4) d_SP_allWaiting_45 (by decide) ?_
        refine mm_G.drop 3 ?_
        refine mm_G.drop 4 ?_
        refine mm_G.cast (l' := [some (.ref x), some (.int (c_allWaiting N P (i + 1))), some (.int (nI (i + 1))), none, none]) ?_ rfl rfl (ih (i + 1) (by omega))
        all_goals (simp [nI_1, c_allWaiting, hk9, hN, c_10, hk3] <;> try rfl)
    · refine mm_G.cast (st' := .null :: []) rfl (by rw [hk9]; simp [c_refs, hN, va_rf]) rfl ?_
      refine mm_astoreN d_SP_allWaiting_19 (by decide) ?_
      refine mm_aloadN d_SP_allWaiting_21 rfl ?_
      refine mm_instN d_SP_allWaiting_23 ?_
      refine mm_if_eq (tgt := 42) d_SP_allWaiting_26 (by decide) (fun _ => ?_) (fun c9 => absurd rfl c9)
      refine mm_iinc (v := (nI i) + 1) d_SP_allWaiting_42 rfl rfl (by decide) ?_
      refine mm_goto (tgt := 4) d_SP_allWaiting_45 (by decide) ?_
      refine mm_G.drop 3 ?_
      refine mm_G.drop 4 ?_
      refine mm_G.cast (l' := [some (.ref x), some (.int (c_allWaiting N P (i + 1))), some (.int (nI (i + 1))), none, none]) ?_ rfl rfl (ih (i + 1) (by omega))
      all_goals (simp [nI_1, c_allWaiting, hk9, hN, c_10] <;> try rfl)
set_option maxRecDepth 100000 in
set_option maxHeartbeats 4000000 in
theorem J_SP_allWaiting {sc : mm_Sc} {n : Nat} {h : mm_H} {x N : Nat} {pa : Nat → Nat} {P : Nat → pS} {Wy Rk tl : Nat → Int32} {hi u kp ti ca : Int32}  (H : CH h x pa (N, P, Wy, Rk, tl, hi, u, kp, ti, ca))  : mm_J sc y_SP_allWaiting 2 [.ref x] n h 0 0 (fun o n' h' => o = .inl (some (.int (c_allWaiting N P 12))) ∧ n' = n ∧ h' = h) := by
  refine mm_J.of (show mm_G sc y_SP_allWaiting 2 0 [some (.ref x), none, none, none, none] [] n h 0 0 _ from ?_) ce_SP_allWaiting.2.2.2.2.1 (Nat.le_of_ble_eq_true rfl) (by simp [Value.category])
  have q0 : h x = some (.inr (0, [.ref (x + 1), .ref (x + 2), .ref (x + 5), .int (nI N), .int ti, .int ca])) := H.1
  have q1 : h (x + 1) = some (.inl (3, 12, .inr (.inr (.inr (.inr (c_refs N pa)))))) := H.2.1
  have q2 : h (x + 2) = some (.inr (1, [.ref (x + 3), .ref (x + 4), .int hi, .int u, .int kp])) := H.2.2.1
  have q3 : h (x + 3) = some (.inl (0, 16, .inl Wy)) := H.2.2.2.1
  have q4 : h (x + 4) = some (.inl (0, 16, .inl Rk)) := H.2.2.2.2.1
  have q5 : h (x + 5) = some (.inl (0, 4, .inl tl)) := H.2.2.2.2.2.1
  have q6 : N ≤ 12 := H.2.2.2.2.2.2.1
  have q7 : ∀ j9, j9 < N → PH h (pa j9) ((P) j9) ∧ x + 6 ≤ pa j9 := H.2.2.2.2.2.2.2.1
  refine mm_iconst (v := 0) d_SP_allWaiting_0 (by decide) ?_
  refine mm_istore_n d_SP_allWaiting_1 (by decide) ?_
  refine mm_iconst (v := 0) d_SP_allWaiting_2 (by decide) ?_
  refine mm_istore_n d_SP_allWaiting_3 (by decide) ?_
  exact lp_allWaiting H (mm_iload_n d_SP_allWaiting_48 rfl (mm_ireturn d_SP_allWaiting_49 rfl ⟨rfl, rfl, rfl⟩)) 12 0 (by omega)
def c_allGone (N : Nat) (P : Nat → pS) : Nat → Int32
  | 0 => 0
  | i + 1 => if i < N then (if (P i).1 = 3 then c_allGone N P i + (P i).2.2.1 2 else c_allGone N P i) else c_allGone N P i
set_option maxRecDepth 100000 in
set_option maxHeartbeats 4000000 in
theorem lp_allGone {sc : mm_Sc} {n d kc ks : Nat} {h : mm_H} {Q : mm_O → Nat → mm_H → Prop} {x N : Nat} {pa : Nat → Nat} {P : Nat → pS} {Wy Rk tl : Nat → Int32} {hi u kp ti ca : Int32}  (H : CH h x pa (N, P, Wy, Rk, tl, hi, u, kp, ti, ca))  (hq : mm_G sc y_SP_allGone d 48 [some (.ref x), some (.int (c_allGone N P 12)), some (.int (nI 12)), none, none] [] n h kc ks Q) : ∀ (m i : Nat), i + m = 12 → mm_G sc y_SP_allGone d 4 [some (.ref x), some (.int (c_allGone N P i)), some (.int (nI i)), none, none] [] n h kc ks Q := by
  have q0 : h x = some (.inr (0, [.ref (x + 1), .ref (x + 2), .ref (x + 5), .int (nI N), .int ti, .int ca])) := H.1
  have q1 : h (x + 1) = some (.inl (3, 12, .inr (.inr (.inr (.inr (c_refs N pa)))))) := H.2.1
  have q2 : h (x + 2) = some (.inr (1, [.ref (x + 3), .ref (x + 4), .int hi, .int u, .int kp])) := H.2.2.1
  have q3 : h (x + 3) = some (.inl (0, 16, .inl Wy)) := H.2.2.2.1
  have q4 : h (x + 4) = some (.inl (0, 16, .inl Rk)) := H.2.2.2.2.1
  have q5 : h (x + 5) = some (.inl (0, 4, .inl tl)) := H.2.2.2.2.2.1
  have q6 : N ≤ 12 := H.2.2.2.2.2.2.1
  have q7 : ∀ j9, j9 < N → PH h (pa j9) ((P) j9) ∧ x + 6 ≤ pa j9 := H.2.2.2.2.2.2.2.1
  intro m
  induction m with
  | zero =>
    intro i hi9
    obtain rfl : i = 12 := by omega
    refine mm_iload_n d_SP_allGone_4 rfl ?_
    refine mm_aload_n d_SP_allGone_5 rfl ?_
    refine mm_getf d_SP_allGone_6 cl_SP fl_SP_11_SP (by decide) q0 rfl ?_
    refine mm_alen d_SP_allGone_9 q1 (by decide) ?_
    refine mm_icmp_ge (tgt := 48) d_SP_allGone_10 (by decide) (fun c_10 => ?_) (fun c_10 => absurd (show nI 12 ≤ nI 12 from Int32.le_refl _) c_10)
    exact hq
  | succ m ih =>
    intro i hi9
    refine mm_iload_n d_SP_allGone_4 rfl ?_
    refine mm_aload_n d_SP_allGone_5 rfl ?_
    refine mm_getf d_SP_allGone_6 cl_SP fl_SP_11_SP (by decide) q0 rfl ?_
    refine mm_alen d_SP_allGone_9 q1 (by decide) ?_
    refine mm_icmp_ge (tgt := 48) d_SP_allGone_10 (by decide) (fun c_10 => absurd c_10 (show ¬ nI 12 ≤ nI i from nI_ge (by omega) (by omega))) (fun c_10 => ?_)
    refine mm_aload_n d_SP_allGone_13 rfl ?_
    refine mm_getf d_SP_allGone_14 cl_SP fl_SP_11_SP (by decide) q0 rfl ?_
    refine mm_iload_n d_SP_allGone_17 rfl ?_
    refine mm_aald d_SP_allGone_18 q1 (vp_in_nI (by omega) (by omega)) ?_
    have hk9 := nI_clamp (n := i) (by omega)
    by_cases hN : i < N
    · refine mm_G.cast (st' := .ref (pa i + 1) :: []) rfl (by rw [hk9]; simp [c_refs, hN, va_rf]) rfl ?_
      refine mm_astore d_SP_allGone_19 (by decide) ?_
      refine mm_aload d_SP_allGone_21 rfl ?_
      refine g_isSerial rfl d_SP_allGone_23 (q7 i hN).1 (fun hk3 => ?_) (fun hk3 => ?_)
      · refine mm_if_eq (tgt := 42) d_SP_allGone_26 (by decide) (fun c9 => absurd c9 (by decide)) (fun _ => ?_)
        refine mm_aload d_SP_allGone_29 rfl ?_
        have hob := p_obj3 (q7 i hN).1 hk3
        refine mm_castY d_SP_allGone_31 hob cl_Serial m_130 (Or.inl rfl) ?_
        refine mm_astore_n d_SP_allGone_34 (by decide) ?_
        refine mm_iload_n d_SP_allGone_35 rfl ?_
        refine mm_aload_n d_SP_allGone_36 rfl ?_
        refine mm_getf d_SP_allGone_37 cl_Serial fl_SP_235_Serial (by decide) hob rfl ?_
        refine mm_iadd d_SP_allGone_40 ?_
        refine mm_istore_n d_SP_allGone_41 (by decide) ?_
        refine mm_iinc (v := (nI i) + 1) d_SP_allGone_42 rfl rfl (by decide) ?_
        refine mm_goto (tgt := 4) d_SP_allGone_45 (by decide) ?_
        refine mm_G.drop 3 ?_
        refine mm_G.drop 4 ?_
        refine mm_G.cast (l' := [some (.ref x), some (.int (c_allGone N P (i + 1))), some (.int (nI (i + 1))), none, none]) ?_ rfl rfl (ih (i + 1) (by omega))
        all_goals (simp [nI_1, c_allGone, hk9, hN, c_10, hk3] <;> try rfl)
      · refine mm_if_eq (tgt := 42) d_SP_allGone_26 (by decide) (fun _ => ?_) (fun c9 => absurd rfl c9)
        refine mm_iinc (v := (nI i) + 1) d_SP_allGone_42 rfl rfl (by decide) ?_
        refine mm_goto (tgt := 4) d_SP_allGone_45 (by decide) ?_
        refine mm_G.drop 3 ?_
        refine mm_G.drop 4 ?_
        refine mm_G.cast (l' := [some (.ref x), some (.int (c_allGone N P (i + 1))), some (.int (nI (i + 1))), none, none]) ?_ rfl rfl (ih (i + 1) (by omega))
        all_goals (simp [nI_1, c_allGone, hk9, hN, c_10, hk3] <;> try rfl)
    · refine mm_G.cast (st' := .null :: []) rfl (by rw [hk9]; simp [c_refs, hN, va_rf]) rfl ?_
      refine mm_astoreN d_SP_allGone_19 (by decide) ?_
      refine mm_aloadN d_SP_allGone_21 rfl ?_
      refine mm_instN d_SP_allGone_23 ?_
      refine mm_if_eq (tgt := 42) d_SP_allGone_26 (by decide) (fun _ => ?_) (fun c9 => absurd rfl c9)
      refine mm_iinc (v := (nI i) + 1) d_SP_allGone_42 rfl rfl (by decide) ?_
      refine mm_goto (tgt := 4) d_SP_allGone_45 (by decide) ?_
      refine mm_G.drop 3 ?_
      refine mm_G.drop 4 ?_
      refine mm_G.cast (l' := [some (.ref x), some (.int (c_allGone N P (i + 1))), some (.int (nI (i + 1))), none, none]) ?_ rfl rfl (ih (i + 1) (by omega))
      all_goals (simp [nI_1, c_allGone, hk9, hN, c_10] <;> try rfl)
set_option maxRecDepth 100000 in
set_option maxHeartbeats 4000000 in
theorem J_SP_allGone {sc : mm_Sc} {n : Nat} {h : mm_H} {x N : Nat} {pa : Nat → Nat} {P : Nat → pS} {Wy Rk tl : Nat → Int32} {hi u kp ti ca : Int32}  (H : CH h x pa (N, P, Wy, Rk, tl, hi, u, kp, ti, ca))  : mm_J sc y_SP_allGone 2 [.ref x] n h 0 0 (fun o n' h' => o = .inl (some (.int (c_allGone N P 12))) ∧ n' = n ∧ h' = h) := by
  refine mm_J.of (show mm_G sc y_SP_allGone 2 0 [some (.ref x), none, none, none, none] [] n h 0 0 _ from ?_) ce_SP_allGone.2.2.2.2.1 (Nat.le_of_ble_eq_true rfl) (by simp [Value.category])
  have q0 : h x = some (.inr (0, [.ref (x + 1), .ref (x + 2), .ref (x + 5), .int (nI N), .int ti, .int ca])) := H.1
  have q1 : h (x + 1) = some (.inl (3, 12, .inr (.inr (.inr (.inr (c_refs N pa)))))) := H.2.1
  have q2 : h (x + 2) = some (.inr (1, [.ref (x + 3), .ref (x + 4), .int hi, .int u, .int kp])) := H.2.2.1
  have q3 : h (x + 3) = some (.inl (0, 16, .inl Wy)) := H.2.2.2.1
  have q4 : h (x + 4) = some (.inl (0, 16, .inl Rk)) := H.2.2.2.2.1
  have q5 : h (x + 5) = some (.inl (0, 4, .inl tl)) := H.2.2.2.2.2.1
  have q6 : N ≤ 12 := H.2.2.2.2.2.2.1
  have q7 : ∀ j9, j9 < N → PH h (pa j9) ((P) j9) ∧ x + 6 ≤ pa j9 := H.2.2.2.2.2.2.2.1
  refine mm_iconst (v := 0) d_SP_allGone_0 (by decide) ?_
  refine mm_istore_n d_SP_allGone_1 (by decide) ?_
  refine mm_iconst (v := 0) d_SP_allGone_2 (by decide) ?_
  refine mm_istore_n d_SP_allGone_3 (by decide) ?_
  exact lp_allGone H (mm_iload_n d_SP_allGone_48 rfl (mm_ireturn d_SP_allGone_49 rfl ⟨rfl, rfl, rfl⟩)) 12 0 (by omega)
/-- none of the first i parts meets -/
def c_free (N : Nat) (P : Nat → pS) (f l : Int32) : Nat → Bool
  | 0 => true
  | i + 1 => c_free N P f l i && (decide (N ≤ i) || decide (st_meets (P i).2.1.1 (P i).2.1.2.1 f l = 0))
theorem c_free_f {N : Nat} {P : Nat → pS} {f l : Int32} {i : Nat} (hN : i < N) (hm : ¬ st_meets (P i).2.1.1 (P i).2.1.2.1 f l = 0) : ∀ m, c_free N P f l (i + 1 + m) = false
  | 0 => by simp [c_free, hm, Nat.not_le.mpr hN]
  | m + 1 => by
    show (c_free N P f l (i + 1 + m) && _) = false
    rw [c_free_f hN hm m]
    rfl
/-- the first part that has the place, from i on, m places to look at -/
def c_with (N : Nat) (P : Nat → pS) (k : Int32) : Nat → Nat → Option Nat
  | 0, _ => none
  | m + 1, i => if i < N then (if st_meets (P i).2.1.1 (P i).2.1.2.1 k 1 = 0 then c_with N P k m (i + 1) else some i) else c_with N P k m (i + 1)
set_option maxRecDepth 100000 in
set_option maxHeartbeats 4000000 in
theorem lp_isFree {sc : mm_Sc} {n d kc ks : Nat} {h : mm_H} {Q : mm_O → Nat → mm_H → Prop} {x N : Nat} {pa : Nat → Nat} {P : Nat → pS} {Wy Rk tl : Nat → Int32} {hi u kp ti ca : Int32} {f l : Int32} (H : CH h x pa (N, P, Wy, Rk, tl, hi, u, kp, ti, ca)) (hd : 2 ≤ d) (hq : ∀ b : Bool, b = c_free N P f l 12 → Q (.inl (some (.int (if b then 1 else 0)))) n h) : ∀ (m i : Nat), i + m = 12 → c_free N P f l i = true → mm_G sc y_SP_isFree d 19 [some (.ref x), some (.int f), some (.int l), some (.int (nI i)), none] [] n h kc ks Q := by
  have q0 : h x = some (.inr (0, [.ref (x + 1), .ref (x + 2), .ref (x + 5), .int (nI N), .int ti, .int ca])) := H.1
  have q1 : h (x + 1) = some (.inl (3, 12, .inr (.inr (.inr (.inr (c_refs N pa)))))) := H.2.1
  have q2 : h (x + 2) = some (.inr (1, [.ref (x + 3), .ref (x + 4), .int hi, .int u, .int kp])) := H.2.2.1
  have q3 : h (x + 3) = some (.inl (0, 16, .inl Wy)) := H.2.2.2.1
  have q4 : h (x + 4) = some (.inl (0, 16, .inl Rk)) := H.2.2.2.2.1
  have q5 : h (x + 5) = some (.inl (0, 4, .inl tl)) := H.2.2.2.2.2.1
  have q6 : N ≤ 12 := H.2.2.2.2.2.2.1
  have q7 : ∀ j9, j9 < N → PH h (pa j9) ((P) j9) ∧ x + 6 ≤ pa j9 := H.2.2.2.2.2.2.2.1
  intro m
  induction m with
  | zero =>
    intro i hi9 hf
    obtain rfl : i = 12 := by omega
    refine mm_iload_n d_SP_isFree_19 rfl ?_
    refine mm_aload_n d_SP_isFree_20 rfl ?_
    refine mm_getf d_SP_isFree_21 cl_SP fl_SP_11_SP (by decide) q0 rfl ?_
    refine mm_alen d_SP_isFree_24 q1 (by decide) ?_
    refine mm_icmp_ge (tgt := 62) d_SP_isFree_25 (by decide) (fun c_25 => ?_) (fun c_25 => absurd (show nI 12 ≤ nI 12 from Int32.le_refl _) c_25)
    refine mm_iconst (v := 1) d_SP_isFree_62 (by decide) ?_
    exact mm_zreturn d_SP_isFree_63 rfl rfl (hq true hf.symm)
  | succ m ih =>
    intro i hi9 hf
    refine mm_iload_n d_SP_isFree_19 rfl ?_
    refine mm_aload_n d_SP_isFree_20 rfl ?_
    refine mm_getf d_SP_isFree_21 cl_SP fl_SP_11_SP (by decide) q0 rfl ?_
    refine mm_alen d_SP_isFree_24 q1 (by decide) ?_
    refine mm_icmp_ge (tgt := 62) d_SP_isFree_25 (by decide) (fun c_25 => absurd c_25 (show ¬ nI 12 ≤ nI i from nI_ge (by omega) (by omega))) (fun c_25 => ?_)
    refine mm_aload_n d_SP_isFree_28 rfl ?_
    refine mm_getf d_SP_isFree_29 cl_SP fl_SP_11_SP (by decide) q0 rfl ?_
    refine mm_iload_n d_SP_isFree_32 rfl ?_
    refine mm_aald d_SP_isFree_33 q1 (vp_in_nI (by omega) (by omega)) ?_
    have hk9 := nI_clamp (n := i) (by omega)
    by_cases hN : i < N
    · refine mm_G.cast (st' := .ref (pa i + 1) :: []) rfl (by rw [hk9]; simp [c_refs, hN, va_rf]) rfl ?_
      refine mm_astore d_SP_isFree_34 (by decide) ?_
      refine mm_aload d_SP_isFree_36 rfl ?_
      refine mm_ifnull d_SP_isFree_38 ?_
      refine mm_aload d_SP_isFree_41 rfl ?_
      refine g_seat rfl d_SP_isFree_43 (q7 i hN).1 ?_
      refine mm_iload_n d_SP_isFree_46 rfl ?_
      refine mm_iload_n d_SP_isFree_47 rfl ?_
      refine mm_callD (kc' := 0) (ks' := 0) d_SP_isFree_48 (mm_Inv.vi (as := [.int f, .int l]) d_SP_isFree_48 (Or.inl m_158) m_159 ce_Seat_meets.2.1 ce_Seat_meets.2.2.1 m_160 ce_Seat_meets.2.2.2.2.2 ln_Seat_meets cl_Seat ((q7 i hN).1).1 rfl) (J_Seat_meets ((q7 i hN).1).1) (Nat.lt_of_lt_of_le (by decide) hd) ce_Seat_meets.1 ce_Seat_meets.2.1 ce_Seat_meets.2.2.1 ce_Seat_meets.2.2.2.1 (Nat.le_of_ble_eq_true rfl) ?_
      refine mm_if_eq (tgt := 56) d_SP_isFree_51 (by decide) (fun c_51 => ?_) (fun c_51 => ?_)
      · refine mm_iinc (v := (nI i) + 1) d_SP_isFree_56 rfl rfl (by decide) ?_
        refine mm_goto (tgt := 19) d_SP_isFree_59 (by decide) ?_
        refine mm_G.drop 4 ?_
        refine mm_G.cast (l' := [some (.ref x), some (.int f), some (.int l), some (.int (nI (i + 1))), none]) (by rw [nI_1]; rfl) rfl rfl (ih (i + 1) (by omega) (by simp [c_free, hf, c_51]))
      · refine mm_iconst (v := 0) d_SP_isFree_54 (by decide) ?_
        exact mm_zreturn d_SP_isFree_55 rfl rfl (hq false (by have h8 := c_free_f (f := f) (l := l) hN c_51 m; rw [show i + 1 + m = 12 by omega] at h8; exact h8.symm))
    · refine mm_G.cast (st' := .null :: []) rfl (by rw [hk9]; simp [c_refs, hN, va_rf]) rfl ?_
      refine mm_astoreN d_SP_isFree_34 (by decide) ?_
      refine mm_aloadN d_SP_isFree_36 rfl ?_
      refine mm_ifnullN (tgt := 56) d_SP_isFree_38 (by decide) ?_
      refine mm_iinc (v := (nI i) + 1) d_SP_isFree_56 rfl rfl (by decide) ?_
      refine mm_goto (tgt := 19) d_SP_isFree_59 (by decide) ?_
      refine mm_G.drop 4 ?_
      refine mm_G.cast (l' := [some (.ref x), some (.int f), some (.int l), some (.int (nI (i + 1))), none]) (by rw [nI_1]; rfl) rfl rfl (ih (i + 1) (by omega) (by simp [c_free, hf, Nat.not_lt.mp hN]))
def sp_free (N : Nat) (P : Nat → pS) (f l : Int32) : Int32 := if sp_isPlace f = 0 then 0 else if l ≤ 65536 - f then (if c_free N P f l 12 then 1 else 0) else 0
set_option maxRecDepth 100000 in
set_option maxHeartbeats 4000000 in
theorem J_SP_isFree {sc : mm_Sc} {n : Nat} {h : mm_H} {x N : Nat} {pa : Nat → Nat} {P : Nat → pS} {Wy Rk tl : Nat → Int32} {hi u kp ti ca : Int32} {f l : Int32} (H : CH h x pa (N, P, Wy, Rk, tl, hi, u, kp, ti, ca))  : mm_J sc y_SP_isFree 3 [.ref x, .int f, .int l] n h 0 0 (fun o n' h' => o = .inl (some (.int (sp_free N P f l))) ∧ n' = n ∧ h' = h) := by
  refine mm_J.of (show mm_G sc y_SP_isFree 3 0 [some (.ref x), some (.int f), some (.int l), none, none] [] n h 0 0 _ from ?_) ce_SP_isFree.2.2.2.2.1 (Nat.le_of_ble_eq_true rfl) (by simp [Value.category])
  have q0 : h x = some (.inr (0, [.ref (x + 1), .ref (x + 2), .ref (x + 5), .int (nI N), .int ti, .int ca])) := H.1
  have q1 : h (x + 1) = some (.inl (3, 12, .inr (.inr (.inr (.inr (c_refs N pa)))))) := H.2.1
  have q2 : h (x + 2) = some (.inr (1, [.ref (x + 3), .ref (x + 4), .int hi, .int u, .int kp])) := H.2.2.1
  have q3 : h (x + 3) = some (.inl (0, 16, .inl Wy)) := H.2.2.2.1
  have q4 : h (x + 4) = some (.inl (0, 16, .inl Rk)) := H.2.2.2.2.1
  have q5 : h (x + 5) = some (.inl (0, 4, .inl tl)) := H.2.2.2.2.2.1
  have q6 : N ≤ 12 := H.2.2.2.2.2.2.1
  have q7 : ∀ j9, j9 < N → PH h (pa j9) ((P) j9) ∧ x + 6 ≤ pa j9 := H.2.2.2.2.2.2.2.1
  refine mm_iload_n d_SP_isFree_0 rfl ?_
  refine mm_callD d_SP_isFree_1 (mm_Inv.sta (as := [.int f]) d_SP_isFree_1 (Or.inl m_154) m_155 ce_SP_isPlace.2.1 ce_SP_isPlace.2.2.1 ce_SP_isPlace.2.2.2.1 ce_SP_isPlace.2.2.2.2.2 ln_SP_isPlace rfl) J_SP_isPlace (by decide) ce_SP_isPlace.1 ce_SP_isPlace.2.1 ce_SP_isPlace.2.2.1 ce_SP_isPlace.2.2.2.1 (Nat.le_of_ble_eq_true rfl) ?_
  refine mm_if_eq (tgt := 15) d_SP_isFree_4 (by decide) (fun c_4 => ?_) (fun c_4 => ?_)
  · refine mm_iconst (v := 0) d_SP_isFree_15 (by decide) ?_
    exact mm_zreturn d_SP_isFree_16 rfl rfl ⟨by simp [sp_free, c_4], rfl, rfl⟩
  · refine mm_iload_n d_SP_isFree_7 rfl ?_
    refine mm_ldc d_SP_isFree_8 m_157 rfl ?_
    refine mm_iload_n d_SP_isFree_10 rfl ?_
    refine mm_isub d_SP_isFree_11 ?_
    refine mm_icmp_le (tgt := 17) d_SP_isFree_12 (by decide) (fun c_12 => ?_) (fun c_12 => ?_)
    · refine mm_iconst (v := 0) d_SP_isFree_17 (by decide) ?_
      refine mm_istore_n d_SP_isFree_18 (by decide) ?_
      exact lp_isFree H (by decide) (fun b hb => ⟨by simp [sp_free, c_4, c_12, hb], rfl, rfl⟩) 12 0 (by omega) rfl
    · refine mm_iconst (v := 0) d_SP_isFree_15 (by decide) ?_
      exact mm_zreturn d_SP_isFree_16 rfl rfl ⟨by simp [sp_free, c_4, c_12, Int32.not_le.mp c_12], rfl, rfl⟩
set_option maxRecDepth 100000 in
set_option maxHeartbeats 4000000 in
theorem lp_with {sc : mm_Sc} {n d kc ks : Nat} {h : mm_H} {Q : mm_O → Nat → mm_H → Prop} {x N : Nat} {pa : Nat → Nat} {P : Nat → pS} {Wy Rk tl : Nat → Int32} {hi u kp ti ca : Int32} {k : Int32} (H : CH h x pa (N, P, Wy, Rk, tl, hi, u, kp, ti, ca)) (hd : 2 ≤ d) (hq : ∀ r, r = c_with N P k 12 0 → Q (.inl (some (va_rf (r.map (fun i => pa i + 1))))) n h) : ∀ (m i : Nat), i + m = 12 → c_with N P k m i = c_with N P k 12 0 → mm_G sc y_SP_partWith d 2 [some (.ref x), some (.int k), some (.int (nI i)), none] [] n h kc ks Q := by
  have q0 : h x = some (.inr (0, [.ref (x + 1), .ref (x + 2), .ref (x + 5), .int (nI N), .int ti, .int ca])) := H.1
  have q1 : h (x + 1) = some (.inl (3, 12, .inr (.inr (.inr (.inr (c_refs N pa)))))) := H.2.1
  have q2 : h (x + 2) = some (.inr (1, [.ref (x + 3), .ref (x + 4), .int hi, .int u, .int kp])) := H.2.2.1
  have q3 : h (x + 3) = some (.inl (0, 16, .inl Wy)) := H.2.2.2.1
  have q4 : h (x + 4) = some (.inl (0, 16, .inl Rk)) := H.2.2.2.2.1
  have q5 : h (x + 5) = some (.inl (0, 4, .inl tl)) := H.2.2.2.2.2.1
  have q6 : N ≤ 12 := H.2.2.2.2.2.2.1
  have q7 : ∀ j9, j9 < N → PH h (pa j9) ((P) j9) ∧ x + 6 ≤ pa j9 := H.2.2.2.2.2.2.2.1
  intro m
  induction m with
  | zero =>
    intro i hi9 hf
    obtain rfl : i = 12 := by omega
    refine mm_iload_n d_SP_partWith_2 rfl ?_
    refine mm_aload_n d_SP_partWith_3 rfl ?_
    refine mm_getf d_SP_partWith_4 cl_SP fl_SP_11_SP (by decide) q0 rfl ?_
    refine mm_alen d_SP_partWith_7 q1 (by decide) ?_
    refine mm_icmp_ge (tgt := 42) d_SP_partWith_8 (by decide) (fun c_8 => ?_) (fun c_8 => absurd (show nI 12 ≤ nI 12 from Int32.le_refl _) c_8)
    refine mm_null d_SP_partWith_42 ?_
    exact mm_areturn d_SP_partWith_43 rfl (Or.inl rfl) (hq none hf)
  | succ m ih =>
    intro i hi9 hf
    refine mm_iload_n d_SP_partWith_2 rfl ?_
    refine mm_aload_n d_SP_partWith_3 rfl ?_
    refine mm_getf d_SP_partWith_4 cl_SP fl_SP_11_SP (by decide) q0 rfl ?_
    refine mm_alen d_SP_partWith_7 q1 (by decide) ?_
    refine mm_icmp_ge (tgt := 42) d_SP_partWith_8 (by decide) (fun c_8 => absurd c_8 (show ¬ nI 12 ≤ nI i from nI_ge (by omega) (by omega))) (fun c_8 => ?_)
    refine mm_aload_n d_SP_partWith_11 rfl ?_
    refine mm_getf d_SP_partWith_12 cl_SP fl_SP_11_SP (by decide) q0 rfl ?_
    refine mm_iload_n d_SP_partWith_15 rfl ?_
    refine mm_aald d_SP_partWith_16 q1 (vp_in_nI (by omega) (by omega)) ?_
    have hk9 := nI_clamp (n := i) (by omega)
    by_cases hN : i < N
    · refine mm_G.cast (st' := .ref (pa i + 1) :: []) rfl (by rw [hk9]; simp [c_refs, hN, va_rf]) rfl ?_
      refine mm_astore_n d_SP_partWith_17 (by decide) ?_
      refine mm_aload_n d_SP_partWith_18 rfl ?_
      refine mm_ifnull d_SP_partWith_19 ?_
      refine mm_aload_n d_SP_partWith_22 rfl ?_
      refine g_seat rfl d_SP_partWith_23 (q7 i hN).1 ?_
      refine mm_iload_n d_SP_partWith_26 rfl ?_
      refine mm_iconst (v := 1) d_SP_partWith_27 (by decide) ?_
      refine mm_callD (kc' := 0) (ks' := 0) d_SP_partWith_28 (mm_Inv.vi (as := [.int k, .int 1]) d_SP_partWith_28 (Or.inl m_158) m_159 ce_Seat_meets.2.1 ce_Seat_meets.2.2.1 m_160 ce_Seat_meets.2.2.2.2.2 ln_Seat_meets cl_Seat ((q7 i hN).1).1 rfl) (J_Seat_meets ((q7 i hN).1).1) (Nat.lt_of_lt_of_le (by decide) hd) ce_Seat_meets.1 ce_Seat_meets.2.1 ce_Seat_meets.2.2.1 ce_Seat_meets.2.2.2.1 (Nat.le_of_ble_eq_true rfl) ?_
      refine mm_if_eq (tgt := 36) d_SP_partWith_31 (by decide) (fun c_31 => ?_) (fun c_31 => ?_)
      · refine mm_iinc (v := (nI i) + 1) d_SP_partWith_36 rfl rfl (by decide) ?_
        refine mm_goto (tgt := 2) d_SP_partWith_39 (by decide) ?_
        refine mm_G.drop 3 ?_
        refine mm_G.cast (l' := [some (.ref x), some (.int k), some (.int (nI (i + 1))), none]) (by rw [nI_1]; rfl) rfl rfl (ih (i + 1) (by omega) (by rw [← hf]; simp [c_with, hN, c_31]))
      · refine mm_aload_n d_SP_partWith_34 rfl ?_
        exact mm_areturn d_SP_partWith_35 rfl (Or.inr ⟨_, rfl⟩) (hq (some i) (by rw [← hf]; simp [c_with, hN, c_31]))
    · refine mm_G.cast (st' := .null :: []) rfl (by rw [hk9]; simp [c_refs, hN, va_rf]) rfl ?_
      refine mm_astore_nN d_SP_partWith_17 (by decide) ?_
      refine mm_aload_nN d_SP_partWith_18 rfl ?_
      refine mm_ifnullN (tgt := 36) d_SP_partWith_19 (by decide) ?_
      refine mm_iinc (v := (nI i) + 1) d_SP_partWith_36 rfl rfl (by decide) ?_
      refine mm_goto (tgt := 2) d_SP_partWith_39 (by decide) ?_
      refine mm_G.drop 3 ?_
      refine mm_G.cast (l' := [some (.ref x), some (.int k), some (.int (nI (i + 1))), none]) (by rw [nI_1]; rfl) rfl rfl (ih (i + 1) (by omega) (by rw [← hf]; simp [c_with, hN]))
set_option maxRecDepth 100000 in
set_option maxHeartbeats 4000000 in
theorem J_SP_partWith {sc : mm_Sc} {n : Nat} {h : mm_H} {x N : Nat} {pa : Nat → Nat} {P : Nat → pS} {Wy Rk tl : Nat → Int32} {hi u kp ti ca : Int32} {k : Int32} (H : CH h x pa (N, P, Wy, Rk, tl, hi, u, kp, ti, ca))  : mm_J sc y_SP_partWith 3 [.ref x, .int k] n h 0 0 (fun o n' h' => o = .inl (some (va_rf ((c_with N P k 12 0).map (fun i => pa i + 1)))) ∧ n' = n ∧ h' = h) := by
  refine mm_J.of (show mm_G sc y_SP_partWith 3 0 [some (.ref x), some (.int k), none, none] [] n h 0 0 _ from ?_) ce_SP_partWith.2.2.2.2.1 (Nat.le_of_ble_eq_true rfl) (by simp [Value.category])
  have q0 : h x = some (.inr (0, [.ref (x + 1), .ref (x + 2), .ref (x + 5), .int (nI N), .int ti, .int ca])) := H.1
  have q1 : h (x + 1) = some (.inl (3, 12, .inr (.inr (.inr (.inr (c_refs N pa)))))) := H.2.1
  have q2 : h (x + 2) = some (.inr (1, [.ref (x + 3), .ref (x + 4), .int hi, .int u, .int kp])) := H.2.2.1
  have q3 : h (x + 3) = some (.inl (0, 16, .inl Wy)) := H.2.2.2.1
  have q4 : h (x + 4) = some (.inl (0, 16, .inl Rk)) := H.2.2.2.2.1
  have q5 : h (x + 5) = some (.inl (0, 4, .inl tl)) := H.2.2.2.2.2.1
  have q6 : N ≤ 12 := H.2.2.2.2.2.2.1
  have q7 : ∀ j9, j9 < N → PH h (pa j9) ((P) j9) ∧ x + 6 ≤ pa j9 := H.2.2.2.2.2.2.2.1
  refine mm_iconst (v := 0) d_SP_partWith_0 (by decide) ?_
  refine mm_istore_n d_SP_partWith_1 (by decide) ?_
  exact lp_with H (by decide) (fun r hr => ⟨by rw [hr], rfl, rfl⟩) 12 0 (by omega) rfl
