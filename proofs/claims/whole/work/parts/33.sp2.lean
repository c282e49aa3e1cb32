/-- the COUNTS among the places from i on (m of them) are told of one more k -/
def c_add (N : Nat) (k : Int32) : Nat → Nat → (Nat → pS) → (Nat → pS)
  | 0, _, P => P
  | m + 1, i, P => if i < N then (if (P i).1 = 5 then c_add N k m (i + 1) (c_set P i (p_with (P i) (P i).2.2.1 (ct_add (P i).2.2.2.1 4 k) (P i).2.2.2.2)) else c_add N k m (i + 1) P) else c_add N k m (i + 1) P
theorem p_put5 {h : mm_H} {a : Nat} {p : pS} {A' : Nat → Int32} (hp : PH h a p) (hk : p.1 = 5) : va_up h (a + 2) (some (.inl (0, 4, .inl A'))) = p_put h a (p_with p p.2.2.1 A' p.2.2.2.2) := by
  obtain ⟨k, s4, u, A, B⟩ := p
  simp only at hk
  subst hk
  obtain ⟨h1, h2, h3, h4, h5, h6, h7⟩ := hp
  funext j
  by_cases j1 : j = a + 1
  · subst j1; simp [p_put, va_up, p_obj, p_with, h2]
  · by_cases j2 : j = a + 2
    · subst j2; simp [p_put, va_up, p_with, p_len]
    · simp [p_put, va_up, p_with, j1, j2]
theorem PH_A5 {h : mm_H} {a : Nat} {p : pS} (hp : PH h a p) (hk : p.1 = 5) : h (a + 2) = some (.inl (0, 4, .inl p.2.2.2.1)) := by
  have h9 := hp.2.2.1 (by omega)
  rw [h9]; unfold p_len; rw [hk]
set_option maxRecDepth 100000 in
set_option maxHeartbeats 4000000 in
theorem lp_tally {sc : mm_Sc} {n d kc ks : Nat} {h0 : mm_H} {c0 : cS} {Q : mm_O → Nat → mm_H → Prop} {x N : Nat} {pa : Nat → Nat} {Wy Rk tl : Nat → Int32} {hi u kp ti ca : Int32} {k : Int32} (hd : 3 ≤ d) : ∀ (m i : Nat) (P : Nat → pS) (h : mm_H), i + m = 12 → CH h x pa (N, P, Wy, Rk, tl, hi, u, kp, ti, ca) → CFr h0 h x pa c0 → CE c0 (N, P, Wy, Rk, tl, hi, u, kp, ti, ca) → (∀ h', CH h' x pa (N, c_add N k m i P, Wy, Rk, tl, hi, u, kp, ti, ca) → CFr h0 h' x pa c0 → CE c0 (N, c_add N k m i P, Wy, Rk, tl, hi, u, kp, ti, ca) → Q (.inl none) n h') → mm_G sc y_SP_tallyOne d 26 [some (.ref x), some (.int k), some (.int (nI i)), none, none] [] n h kc ks Q := by
  intro m
  induction m with
  | zero =>
    intro i P h hi9 H hF hE hq
    obtain rfl : i = 12 := by omega
    have q0 : h x = some (.inr (0, [.ref (x + 1), .ref (x + 2), .ref (x + 5), .int (nI N), .int ti, .int ca])) := H.1
    have q1 : h (x + 1) = some (.inl (3, 12, .inr (.inr (.inr (.inr (c_refs N pa)))))) := H.2.1
    have q2 : h (x + 2) = some (.inr (1, [.ref (x + 3), .ref (x + 4), .int hi, .int u, .int kp])) := H.2.2.1
    have q3 : h (x + 3) = some (.inl (0, 16, .inl Wy)) := H.2.2.2.1
    have q4 : h (x + 4) = some (.inl (0, 16, .inl Rk)) := H.2.2.2.2.1
    have q5 : h (x + 5) = some (.inl (0, 4, .inl tl)) := H.2.2.2.2.2.1
    have q6 : N ≤ 12 := H.2.2.2.2.2.2.1
    have q7 : ∀ i, i < N → PH h (pa i) (P i) ∧ x + 6 ≤ pa i := H.2.2.2.2.2.2.2.1
    refine mm_iload_n d_SP_tallyOne_26 rfl ?_
    refine mm_aload_n d_SP_tallyOne_27 rfl ?_
    refine mm_getf d_SP_tallyOne_28 cl_SP fl_SP_11_SP (by decide) q0 rfl ?_
    refine mm_alen d_SP_tallyOne_31 q1 (by decide) ?_
    refine mm_icmp_ge (tgt := 68) d_SP_tallyOne_32 (by decide) (fun c_32 => ?_) (fun c_32 => absurd (show nI 12 ≤ nI 12 from Int32.le_refl _) c_32)
    exact mm_return d_SP_tallyOne_68 rfl (hq h H hF hE)
  | succ m ih =>
    intro i P h hi9 H hF hE hq
    have q0 : h x = some (.inr (0, [.ref (x + 1), .ref (x + 2), .ref (x + 5), .int (nI N), .int ti, .int ca])) := H.1
    have q1 : h (x + 1) = some (.inl (3, 12, .inr (.inr (.inr (.inr (c_refs N pa)))))) := H.2.1
    have q2 : h (x + 2) = some (.inr (1, [.ref (x + 3), .ref (x + 4), .int hi, .int u, .int kp])) := H.2.2.1
    have q3 : h (x + 3) = some (.inl (0, 16, .inl Wy)) := H.2.2.2.1
    have q4 : h (x + 4) = some (.inl (0, 16, .inl Rk)) := H.2.2.2.2.1
    have q5 : h (x + 5) = some (.inl (0, 4, .inl tl)) := H.2.2.2.2.2.1
    have q6 : N ≤ 12 := H.2.2.2.2.2.2.1
    have q7 : ∀ i, i < N → PH h (pa i) (P i) ∧ x + 6 ≤ pa i := H.2.2.2.2.2.2.2.1
    refine mm_iload_n d_SP_tallyOne_26 rfl ?_
    refine mm_aload_n d_SP_tallyOne_27 rfl ?_
    refine mm_getf d_SP_tallyOne_28 cl_SP fl_SP_11_SP (by decide) q0 rfl ?_
    refine mm_alen d_SP_tallyOne_31 q1 (by decide) ?_
    refine mm_icmp_ge (tgt := 68) d_SP_tallyOne_32 (by decide) (fun c_32 => absurd c_32 (show ¬ nI 12 ≤ nI i from nI_ge (by omega) (by omega))) (fun c_32 => ?_)
    refine mm_aload_n d_SP_tallyOne_35 rfl ?_
    refine mm_getf d_SP_tallyOne_36 cl_SP fl_SP_11_SP (by decide) q0 rfl ?_
    refine mm_iload_n d_SP_tallyOne_39 rfl ?_
    refine mm_aald d_SP_tallyOne_40 q1 (vp_in_nI (by omega) (by omega)) ?_
    have hk9 := nI_clamp (n := i) (by omega)
    by_cases hN : i < N
    · refine mm_G.cast (st' := .ref (pa i + 1) :: []) rfl (by rw [hk9]; simp [c_refs, hN, va_rf]) rfl ?_
      refine mm_astore d_SP_tallyOne_41 (by decide) ?_
      refine mm_aload d_SP_tallyOne_43 rfl ?_
      refine g_isCounts rfl d_SP_tallyOne_45 (q7 i hN).1 (fun hk5 => ?_) (fun hk5 => ?_)
      · refine mm_if_eq (tgt := 62) d_SP_tallyOne_48 (by decide) (fun c9 => absurd c9 (by decide)) (fun _ => ?_)
        refine mm_aload d_SP_tallyOne_51 rfl ?_
        have hob := p_obj5 (q7 i hN).1 hk5
        have hoA := PH_A5 (q7 i hN).1 hk5
        refine mm_castY d_SP_tallyOne_53 hob cl_Counts m_376 (Or.inl rfl) ?_
        refine mm_astore_n d_SP_tallyOne_56 (by decide) ?_
        refine mm_aload_n d_SP_tallyOne_57 rfl ?_
        refine mm_iload_n d_SP_tallyOne_58 rfl ?_
        refine mm_callD (kc' := 0) (ks' := 0) d_SP_tallyOne_59 (mm_Inv.vi (as := [.int k]) d_SP_tallyOne_59 (Or.inl m_440) m_441 ce_Counts_add.2.1 ce_Counts_add.2.2.1 m_442 ce_Counts_add.2.2.2.2.2 ln_Counts_add cl_Counts hob rfl) (J_Counts_add (len := 4) (by omega) hob hoA) (Nat.lt_of_lt_of_le (by decide) hd) ce_Counts_add.1 ce_Counts_add.2.1 ce_Counts_add.2.2.1 ce_Counts_add.2.2.2.1 (Nat.le_of_ble_eq_true rfl) ?_
        rw [p_put5 (q7 i hN).1 hk5]
        obtain ⟨H2, hF2, hE2⟩ := CH_part (q := (p_with (P i) (P i).2.2.1 (ct_add (P i).2.2.2.1 4 k) (P i).2.2.2.2)) H hN ⟨_, _, _, rfl⟩
        refine mm_iinc (v := (nI i) + 1) d_SP_tallyOne_62 rfl rfl (by decide) ?_
        refine mm_goto (tgt := 26) d_SP_tallyOne_65 (by decide) ?_
        refine mm_G.drop 3 ?_
        refine mm_G.drop 4 ?_
        refine mm_G.cast (l' := [some (.ref x), some (.int k), some (.int (nI (i + 1))), none, none]) (by rw [nI_1]; rfl) rfl rfl (ih (i + 1) (c_set P i (p_with (P i) (P i).2.2.1 (ct_add (P i).2.2.2.1 4 k) (P i).2.2.2.2)) _ (by omega) H2 (CFr.tr hE hF hF2) (CE.tr hE hE2) (by simpa [c_add, hN, hk5] using hq))
      · refine mm_if_eq (tgt := 62) d_SP_tallyOne_48 (by decide) (fun _ => ?_) (fun c9 => absurd rfl c9)
        refine mm_iinc (v := (nI i) + 1) d_SP_tallyOne_62 rfl rfl (by decide) ?_
        refine mm_goto (tgt := 26) d_SP_tallyOne_65 (by decide) ?_
        refine mm_G.drop 3 ?_
        refine mm_G.drop 4 ?_
        refine mm_G.cast (l' := [some (.ref x), some (.int k), some (.int (nI (i + 1))), none, none]) (by rw [nI_1]; rfl) rfl rfl (ih (i + 1) P h (by omega) H hF hE (by simpa [c_add, hN, hk5] using hq))
    · refine mm_G.cast (st' := .null :: []) rfl (by rw [hk9]; simp [c_refs, hN, va_rf]) rfl ?_
      refine mm_astoreN d_SP_tallyOne_41 (by decide) ?_
      refine mm_aloadN d_SP_tallyOne_43 rfl ?_
      refine mm_instN d_SP_tallyOne_45 ?_
      refine mm_if_eq (tgt := 62) d_SP_tallyOne_48 (by decide) (fun _ => ?_) (fun c9 => absurd rfl c9)
      refine mm_iinc (v := (nI i) + 1) d_SP_tallyOne_62 rfl rfl (by decide) ?_
      refine mm_goto (tgt := 26) d_SP_tallyOne_65 (by decide) ?_
      refine mm_G.drop 3 ?_
      refine mm_G.drop 4 ?_
      refine mm_G.cast (l' := [some (.ref x), some (.int k), some (.int (nI (i + 1))), none, none]) (by rw [nI_1]; rfl) rfl rfl (ih (i + 1) P h (by omega) H hF hE (by simpa [c_add, hN] using hq))
def c_tally (k : Int32) : cS → cS := fun (N, P, Wy, Rk, tl, hi, u, kp, ti, ca) => (N, c_add N k 12 0 P, Wy, Rk, upd tl k.toNatClampNeg (tl k.toNatClampNeg + 1), hi, u, kp, ti, ca)
set_option maxRecDepth 100000 in
set_option maxHeartbeats 4000000 in
theorem J_SP_tallyOne {sc : mm_Sc} {n : Nat} {h : mm_H} {x N : Nat} {pa : Nat → Nat} {P : Nat → pS} {Wy Rk tl : Nat → Int32} {hi u kp ti ca : Int32} {k : Int32} (H : CH h x pa (N, P, Wy, Rk, tl, hi, u, kp, ti, ca)) (hk1 : ¬ k < 0) (hk2 : k < 4) : mm_J sc y_SP_tallyOne 4 [.ref x, .int k] n h 0 0 (CQ none n h x pa (N, P, Wy, Rk, tl, hi, u, kp, ti, ca) (c_tally k (N, P, Wy, Rk, tl, hi, u, kp, ti, ca))) := by
  refine mm_J.of (show mm_G sc y_SP_tallyOne 4 0 [some (.ref x), some (.int k), none, none, none] [] n h 0 0 _ from ?_) ce_SP_tallyOne.2.2.2.2.1 (Nat.le_of_ble_eq_true rfl) (by simp [Value.category])
  have q0 : h x = some (.inr (0, [.ref (x + 1), .ref (x + 2), .ref (x + 5), .int (nI N), .int ti, .int ca])) := H.1
  have q1 : h (x + 1) = some (.inl (3, 12, .inr (.inr (.inr (.inr (c_refs N pa)))))) := H.2.1
  have q2 : h (x + 2) = some (.inr (1, [.ref (x + 3), .ref (x + 4), .int hi, .int u, .int kp])) := H.2.2.1
  have q3 : h (x + 3) = some (.inl (0, 16, .inl Wy)) := H.2.2.2.1
  have q4 : h (x + 4) = some (.inl (0, 16, .inl Rk)) := H.2.2.2.2.1
  have q5 : h (x + 5) = some (.inl (0, 4, .inl tl)) := H.2.2.2.2.2.1
  have q6 : N ≤ 12 := H.2.2.2.2.2.2.1
  have q7 : ∀ i, i < N → PH h (pa i) (P i) ∧ x + 6 ≤ pa i := H.2.2.2.2.2.2.2.1
  refine mm_iload_n d_SP_tallyOne_0 rfl ?_
  refine mm_if_lt (tgt := 13) d_SP_tallyOne_1 (by decide) (fun c_1 => absurd c_1 hk1) (fun c_1 => ?_)
  refine mm_iload_n d_SP_tallyOne_4 rfl ?_
  refine mm_aload_n d_SP_tallyOne_5 rfl ?_
  refine mm_getf d_SP_tallyOne_6 cl_SP fl_SP_22_SP (by decide) q0 rfl ?_
  refine mm_alen d_SP_tallyOne_9 q5 (by decide) ?_
  refine mm_icmp_lt (tgt := 14) d_SP_tallyOne_10 (by decide) (fun c_10 => ?_) (fun c_10 => absurd hk2 c_10)
  refine mm_aload_n d_SP_tallyOne_14 rfl ?_
  refine mm_getf d_SP_tallyOne_15 cl_SP fl_SP_22_SP (by decide) q0 rfl ?_
  refine mm_iload_n d_SP_tallyOne_18 rfl ?_
  refine mm_dup2 d_SP_tallyOne_19 rfl rfl ?_
  refine mm_iald d_SP_tallyOne_20 q5 (mm_inb' (len := 4) (by omega) hk1 hk2) ?_
  refine mm_iconst (v := 1) d_SP_tallyOne_21 (by decide) ?_
  refine mm_iadd d_SP_tallyOne_22 ?_
  refine mm_iast d_SP_tallyOne_23 q5 (mm_inb' (len := 4) (by omega) hk1 hk2) ?_
  refine mm_hp (fun h1 e1 => ?_)
  have q0_v1 : h1 x = some (.inr (0, [.ref (x + 1), .ref (x + 2), .ref (x + 5), .int (nI N), .int ti, .int ca])) := by rw [e1, va_up_ne _ _ (by omega)]; exact q0
  have q1_v1 : h1 (x + 1) = some (.inl (3, 12, .inr (.inr (.inr (.inr (c_refs N pa)))))) := by rw [e1, va_up_ne _ _ (by omega)]; exact q1
  have q2_v1 : h1 (x + 2) = some (.inr (1, [.ref (x + 3), .ref (x + 4), .int hi, .int u, .int kp])) := by rw [e1, va_up_ne _ _ (by omega)]; exact q2
  have q3_v1 : h1 (x + 3) = some (.inl (0, 16, .inl Wy)) := by rw [e1, va_up_ne _ _ (by omega)]; exact q3
  have q4_v1 : h1 (x + 4) = some (.inl (0, 16, .inl Rk)) := by rw [e1, va_up_ne _ _ (by omega)]; exact q4
  have q5_v1 : h1 (x + 5) = some (.inl (0, 4, .inl (upd tl k.toNatClampNeg ((tl k.toNatClampNeg) + 1)))) := by rw [e1]; exact va_up_self _ _ _
  refine mm_iconst (v := 0) d_SP_tallyOne_24 (by decide) ?_
  refine mm_istore_n d_SP_tallyOne_25 (by decide) ?_
  obtain ⟨H2, hF2, hE2⟩ := CH_tally (tl2 := upd tl k.toNatClampNeg (tl k.toNatClampNeg + 1)) H
  rw [← e1] at H2 hF2
  exact lp_tally (by decide) 12 0 P h1 (by omega) H2 hF2 hE2 (fun h' a b c => ⟨rfl, rfl, a, b, c⟩)
