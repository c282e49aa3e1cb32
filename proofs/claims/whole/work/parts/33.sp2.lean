/-- the COUNTS among the places from i on (m of them) are told of one more k -/
def c_add (N : Nat) (k : Int32) : Nat → Nat → (Nat → pS) → (Nat → pS)
  | 0, _, P => P
  | m + 1, i, P => if i < N then (if (P i).1 = 5 then c_add N k m (i + 1) (c_set P i (p_with (P i) (P i).2.2.1 (ct_add (P i).2.2.2.1 4 k) (P i).2.2.2.2)) else c_add N k m (i + 1) P) else c_add N k m (i + 1) P
theorem p_put5 {h : mm_H} {a : Nat} {p : pS} {A' : Nat → Int32} (hp : PH h a p) (hk : p.1 = 5) : va_up h (a + 2) (some (.inl (0, 4, .inl A'))) = p_put h a (p_with p p.2.2.1 A' p.2.2.2.2) := by
  obtain ⟨k, s4, u, A, B⟩ := p
  simp only at hk
  subst hk
  obtain ⟨h1, h2, h3, h4, h5, h6, h7⟩ := hp
  funext j
  by_cases j1 : j = a + 1
  · subst j1; simp [p_put, va_up, p_obj, p_with, h2]
  · by_cases j2 : j = a + 2
    · subst j2; simp [p_put, va_up, p_with, p_len]
    · simp [p_put, va_up, p_with, j1, j2]
theorem PH_A5 {h : mm_H} {a : Nat} {p : pS} (hp : PH h a p) (hk : p.1 = 5) : h (a + 2) = some (.inl (0, 4, .inl p.2.2.2.1)) := by
  have h9 := hp.2.2.1 (by omega)
  rw [h9]; unfold p_len; rw [hk]; rfl
set_option maxRecDepth 100000 in
set_option maxHeartbeats 4000000 in
theorem lp_tally {sc : mm_Sc} {n d kc ks : Nat} {h0 : mm_H} {c0 : cS} {Q : mm_O → Nat → mm_H → Prop} {x N : Nat} {pa : Nat → Nat} {Wy Rk tl : Nat → Int32} {hi u kp ti ca : Int32} {k : Int32} (hd : 3 ≤ d) : ∀ (m i : Nat) (P : Nat → pS) (h : mm_H), i + m = 12 → CH h x pa (N, P, Wy, Rk, tl, hi, u, kp, ti, ca) → CFr h0 h x pa c0 → CE c0 (N, P, Wy, Rk, tl, hi, u, kp, ti, ca) → (∀ h', CH h' x pa (N, c_add N k m i P, Wy, Rk, tl, hi, u, kp, ti, ca) → CFr h0 h' x pa c0 → CE c0 (N, c_add N k m i P, Wy, Rk, tl, hi, u, kp, ti, ca) → Q (.inl none) n h') → mm_G sc y_SP_tallyOne d 26 [some (.ref x), some (.int k), some (.int (nI i)), none, none] [] n h kc ks Q := by
  intro m
  induction m with
  | zero =>
    intro i P h hi9 H hF hE hq
    obtain rfl : i = 12 := by omega
    have q0 : h x = some (.inr (0, [.ref (x + 1), .ref (x + 2), .ref (x + 5), .int (nI N), .int ti, .int ca])) := H.1
    have q1 : h (x + 1) = some (.inl (3, 12, .inr (.inr (.inr (.inr (c_refs N pa)))))) := H.2.1
    have q2 : h (x + 2) = some (.inr (1, [.ref (x + 3), .ref (x + 4), .int hi, .int u, .int kp])) := H.2.2.1
    have q3 : h (x + 3) = some (.inl (0, 16, .inl Wy)) := H.2.2.2.1
    have q4 : h (x + 4) = some (.inl (0, 16, .inl Rk)) := H.2.2.2.2.1
    have q5 : h (x + 5) = some (.inl (0, 4, .inl tl)) := H.2.2.2.2.2.1
    have q6 : N ≤ 12 := H.2.2.2.2.2.2.1
    have q7 : ∀ j9, j9 < N → PH h (pa j9) ((P) j9) ∧ x + 6 ≤ pa j9 := H.2.2.2.2.2.2.2.1
    refine mm_iload_n d_SP_tallyOne_26 rfl ?_
    refine mm_aload_n d_SP_tallyOne_27 rfl ?_
    refine mm_getf d_SP_tallyOne_28 cl_SP fl_SP_11_SP (by decide) q0 rfl ?_
    refine mm_alen d_SP_tallyOne_31 q1 (by decide) ?_
    refine mm_icmp_ge (tgt := 68) d_SP_tallyOne_32 (by decide) (fun c_32 => ?_) (fun c_32 => absurd (show nI 12 ≤ nI 12 from Int32.le_refl _) c_32)
    exact mm_return d_SP_tallyOne_68 rfl (hq h H hF hE)
  | succ m ih =>
    intro i P h hi9 H hF hE hq
    have q0 : h x = some (.inr (0, [.ref (x + 1), .ref (x + 2), .ref (x + 5), .int (nI N), .int ti, .int ca])) := H.1
    have q1 : h (x + 1) = some (.inl (3, 12, .inr (.inr (.inr (.inr (c_refs N pa)))))) := H.2.1
    have q2 : h (x + 2) = some (.inr (1, [.ref (x + 3), .ref (x + 4), .int hi, .int u, .int kp])) := H.2.2.1
    have q3 : h (x + 3) = some (.inl (0, 16, .inl Wy)) := H.2.2.2.1
    have q4 : h (x + 4) = some (.inl (0, 16, .inl Rk)) := H.2.2.2.2.1
    have q5 : h (x + 5) = some (.inl (0, 4, .inl tl)) := H.2.2.2.2.2.1
    have q6 : N ≤ 12 := H.2.2.2.2.2.2.1
    have q7 : ∀ j9, j9 < N → PH h (pa j9) ((P) j9) ∧ x + 6 ≤ pa j9 := H.2.2.2.2.2.2.2.1
    refine mm_iload_n d_SP_tallyOne_26 rfl ?_
    refine mm_aload_n d_SP_tallyOne_27 rfl ?_
    refine mm_getf d_SP_tallyOne_28 cl_SP fl_SP_11_SP (by decide) q0 rfl ?_
    refine mm_alen d_SP_tallyOne_31 q1 (by decide) ?_
    refine mm_icmp_ge (tgt := 68) d_SP_tallyOne_32 (by decide) (fun c_32 => absurd c_32 (show ¬ nI 12 ≤ nI i from nI_ge (by omega) (by omega))) (fun c_32 => ?_)
    refine mm_aload_n d_SP_tallyOne_35 rfl ?_
    refine mm_getf d_SP_tallyOne_36 cl_SP fl_SP_11_SP (by decide) q0 rfl ?_
    refine mm_iload_n d_SP_tallyOne_39 rfl ?_
    refine mm_aald d_SP_tallyOne_40 q1 (vp_in_nI (by omega) (by omega)) ?_
    have hk9 := nI_clamp (n := i) (by omega)
    by_cases hN : i < N
    · refine mm_G.cast (st' := .ref (pa i + 1) :: []) rfl (by rw [hk9]; simp [c_refs, hN, va_rf]) rfl ?_
      refine mm_astore d_SP_tallyOne_41 (by decide) ?_
      refine mm_aload d_SP_tallyOne_43 rfl ?_
      refine g_isCounts rfl d_SP_tallyOne_45 (q7 i hN).1 (fun hk5 => ?_) (fun hk5 => ?_)
      · refine mm_if_eq (tgt := 62) d_SP_tallyOne_48 (by decide) (fun c9 => absurd c9 (by decide)) (fun _ => ?_)
        refine mm_aload d_SP_tallyOne_51 rfl ?_
        have hob := p_obj5 (q7 i hN).1 hk5
        have hoA := PH_A5 (q7 i hN).1 hk5
        refine mm_castY d_SP_tallyOne_53 hob cl_Counts m_376 (Or.inl rfl) ?_
        refine mm_astore_n d_SP_tallyOne_56 (by decide) ?_
        refine mm_aload_n d_SP_tallyOne_57 rfl ?_
        refine mm_iload_n d_SP_tallyOne_58 rfl ?_
        refine mm_callD (kc' := 0) (ks' := 0) d_SP_tallyOne_59 (mm_Inv.vi (as := [.int k]) d_SP_tallyOne_59 (Or.inl m_440) m_441 ce_Counts_add.2.1 ce_Counts_add.2.2.1 m_442 ce_Counts_add.2.2.2.2.2 ln_Counts_add cl_Counts hob rfl) (J_Counts_add (len := 4) (by omega) hob hoA) (Nat.lt_of_lt_of_le (by decide) hd) ce_Counts_add.1 ce_Counts_add.2.1 ce_Counts_add.2.2.1 ce_Counts_add.2.2.2.1 (Nat.le_of_ble_eq_true rfl) ?_
        rw [p_put5 (q7 i hN).1 hk5]
        obtain ⟨H2, hF2, hE2⟩ := CH_part (q := (p_with (P i) (P i).2.2.1 (ct_add (P i).2.2.2.1 4 k) (P i).2.2.2.2)) H hN ⟨_, _, _, rfl⟩
        refine mm_iinc (v := (nI i) + 1) d_SP_tallyOne_62 rfl rfl (by decide) ?_
        refine mm_goto (tgt := 26) d_SP_tallyOne_65 (by decide) ?_
        refine mm_G.drop 3 ?_
        refine mm_G.drop 4 ?_
        refine mm_G.cast (l' := [some (.ref x), some (.int k), some (.int (nI (i + 1))), none, none]) (by rw [nI_1]; rfl) rfl rfl (ih (i + 1) (c_set P i (p_with (P i) (P i).2.2.1 (ct_add (P i).2.2.2.1 4 k) (P i).2.2.2.2)) _ (by omega) H2 (CFr.tr hE hF hF2) (CE.tr hE hE2) (by simpa [c_add, hN, hk5] using hq))
      · refine mm_if_eq (tgt := 62) d_SP_tallyOne_48 (by decide) (fun _ => ?_) (fun c9 => absurd rfl c9)
        refine mm_iinc (v := (nI i) + 1) d_SP_tallyOne_62 rfl rfl (by decide) ?_
        refine mm_goto (tgt := 26) d_SP_tallyOne_65 (by decide) ?_
        refine mm_G.drop 3 ?_
        refine mm_G.drop 4 ?_
        refine mm_G.cast (l' := [some (.ref x), some (.int k), some (.int (nI (i + 1))), none, none]) (by rw [nI_1]; rfl) rfl rfl (ih (i + 1) P h (by omega) H hF hE (by simpa [c_add, hN, hk5] using hq))
    · refine mm_G.cast (st' := .null :: []) rfl (by rw [hk9]; simp [c_refs, hN, va_rf]) rfl ?_
      refine mm_astoreN d_SP_tallyOne_41 (by decide) ?_
      refine mm_aloadN d_SP_tallyOne_43 rfl ?_
      refine mm_instN d_SP_tallyOne_45 ?_
      refine mm_if_eq (tgt := 62) d_SP_tallyOne_48 (by decide) (fun _ => ?_) (fun c9 => absurd rfl c9)
      refine mm_iinc (v := (nI i) + 1) d_SP_tallyOne_62 rfl rfl (by decide) ?_
      refine mm_goto (tgt := 26) d_SP_tallyOne_65 (by decide) ?_
      refine mm_G.drop 3 ?_
      refine mm_G.drop 4 ?_
      refine mm_G.cast (l' := [some (.ref x), some (.int k), some (.int (nI (i + 1))), none, none]) (by rw [nI_1]; rfl) rfl rfl (ih (i + 1) P h (by omega) H hF hE (by simpa [c_add, hN] using hq))
def c_tally (k : Int32) : cS → cS := fun (N, P, Wy, Rk, tl, hi, u, kp, ti, ca) => (N, c_add N k 12 0 P, Wy, Rk, upd tl k.toNatClampNeg (tl k.toNatClampNeg + 1), hi, u, kp, ti, ca)
set_option maxRecDepth 100000 in
set_option maxHeartbeats 4000000 in
theorem J_SP_tallyOne {sc : mm_Sc} {n : Nat} {h : mm_H} {x N : Nat} {pa : Nat → Nat} {P : Nat → pS} {Wy Rk tl : Nat → Int32} {hi u kp ti ca : Int32} {k : Int32} (H : CH h x pa (N, P, Wy, Rk, tl, hi, u, kp, ti, ca)) (hk1 : ¬ k < 0) (hk2 : k < 4) : mm_J sc y_SP_tallyOne 4 [.ref x, .int k] n h 0 0 (CQ none n h x pa (N, P, Wy, Rk, tl, hi, u, kp, ti, ca) (c_tally k (N, P, Wy, Rk, tl, hi, u, kp, ti, ca))) := by
  refine mm_J.of (show mm_G sc y_SP_tallyOne 4 0 [some (.ref x), some (.int k), none, none, none] [] n h 0 0 _ from ?_) ce_SP_tallyOne.2.2.2.2.1 (Nat.le_of_ble_eq_true rfl) (by simp [Value.category])
  have q0 : h x = some (.inr (0, [.ref (x + 1), .ref (x + 2), .ref (x + 5), .int (nI N), .int ti, .int ca])) := H.1
  have q1 : h (x + 1) = some (.inl (3, 12, .inr (.inr (.inr (.inr (c_refs N pa)))))) := H.2.1
  have q2 : h (x + 2) = some (.inr (1, [.ref (x + 3), .ref (x + 4), .int hi, .int u, .int kp])) := H.2.2.1
  have q3 : h (x + 3) = some (.inl (0, 16, .inl Wy)) := H.2.2.2.1
  have q4 : h (x + 4) = some (.inl (0, 16, .inl Rk)) := H.2.2.2.2.1
  have q5 : h (x + 5) = some (.inl (0, 4, .inl tl)) := H.2.2.2.2.2.1
  have q6 : N ≤ 12 := H.2.2.2.2.2.2.1
  have q7 : ∀ j9, j9 < N → PH h (pa j9) ((P) j9) ∧ x + 6 ≤ pa j9 := H.2.2.2.2.2.2.2.1
  refine mm_iload_n d_SP_tallyOne_0 rfl ?_
  refine mm_if_lt (tgt := 13) d_SP_tallyOne_1 (by decide) (fun c_1 => absurd c_1 hk1) (fun c_1 => ?_)
  refine mm_iload_n d_SP_tallyOne_4 rfl ?_
  refine mm_aload_n d_SP_tallyOne_5 rfl ?_
  refine mm_getf d_SP_tallyOne_6 cl_SP fl_SP_22_SP (by decide) q0 rfl ?_
  refine mm_alen d_SP_tallyOne_9 q5 (by decide) ?_
  refine mm_icmp_lt (tgt := 14) d_SP_tallyOne_10 (by decide) (fun c_10 => ?_) (fun c_10 => absurd hk2 c_10)
  refine mm_aload_n d_SP_tallyOne_14 rfl ?_
  refine mm_getf d_SP_tallyOne_15 cl_SP fl_SP_22_SP (by decide) q0 rfl ?_
  refine mm_iload_n d_SP_tallyOne_18 rfl ?_
  refine mm_dup2 d_SP_tallyOne_19 rfl rfl ?_
  refine mm_iald d_SP_tallyOne_20 q5 (mm_inb' (len := 4) (by omega) hk1 hk2) ?_
  refine mm_iconst (v := 1) d_SP_tallyOne_21 (by decide) ?_
  refine mm_iadd d_SP_tallyOne_22 ?_
  refine mm_iast d_SP_tallyOne_23 q5 (mm_inb' (len := 4) (by omega) hk1 hk2) ?_
  refine mm_hp (fun h1 e1 => ?_)
  have q0_v1 : h1 x = some (.inr (0, [.ref (x + 1), .ref (x + 2), .ref (x + 5), .int (nI N), .int ti, .int ca])) := by rw [e1, va_up_ne _ _ (by omega)]; exact q0
  have q1_v1 : h1 (x + 1) = some (.inl (3, 12, .inr (.inr (.inr (.inr (c_refs N pa)))))) := by rw [e1, va_up_ne _ _ (by omega)]; exact q1
  have q2_v1 : h1 (x + 2) = some (.inr (1, [.ref (x + 3), .ref (x + 4), .int hi, .int u, .int kp])) := by rw [e1, va_up_ne _ _ (by omega)]; exact q2
  have q3_v1 : h1 (x + 3) = some (.inl (0, 16, .inl Wy)) := by rw [e1, va_up_ne _ _ (by omega)]; exact q3
  have q4_v1 : h1 (x + 4) = some (.inl (0, 16, .inl Rk)) := by rw [e1, va_up_ne _ _ (by omega)]; exact q4
  have q5_v1 : h1 (x + 5) = some (.inl (0, 4, .inl (upd tl k.toNatClampNeg ((tl k.toNatClampNeg) + 1)))) := by rw [e1]; exact va_up_self _ _ _
  refine mm_iconst (v := 0) d_SP_tallyOne_24 (by decide) ?_
  refine mm_istore_n d_SP_tallyOne_25 (by decide) ?_
  obtain ⟨H2, hF2, hE2⟩ := CH_tally (tl2 := upd tl k.toNatClampNeg (tl k.toNatClampNeg + 1)) H
  rw [← e1] at H2 hF2
  exact lp_tally (by decide) 12 0 P h1 (by omega) H2 hF2 hE2 (fun h' a b c => ⟨rfl, rfl, a, b, c⟩)
set_option maxRecDepth 100000 in
theorem lp_rtally {sc : mm_Sc} {n d kc ks : Nat} {h : mm_H} {Q : mm_O → Nat → mm_H → Prop} {x N : Nat} {tl : Nat → Int32} {nc ti ca : Int32} (ha : h x = some (.inr (0, [.ref (x + 1), .ref (x + 2), .ref (x + 5), .int (nI N), .int ti, .int ca]))) (hb : h (x + 5) = some (.inl (0, 4, .inl tl))) (hq : mm_G sc y_SP_resetAll d 29 [some (.ref x), some (.int nc), some (.int (nI 4)), none] [] n (va_up h (x + 5) (some (.inl (0, 4, .inl (za tl 4))))) kc ks Q) : ∀ (m i : Nat), i + m = 4 → mm_G sc y_SP_resetAll d 7 [some (.ref x), some (.int nc), some (.int (nI i)), none] [] n (va_up h (x + 5) (some (.inl (0, 4, .inl (za tl i))))) kc ks Q := by
  intro m
  induction m with
  | zero =>
    intro i hi9
    obtain rfl : i = 4 := by omega
    refine mm_hp (fun g0 e0 => ?_)
    have ha_g : g0 x = some (.inr (0, [.ref (x + 1), .ref (x + 2), .ref (x + 5), .int (nI N), .int ti, .int ca])) := by rw [e0, va_up_ne _ _ (mm_neq ha hb (by simp))]; exact ha
    have hb_g : g0 (x + 5) = some (.inl (0, 4, .inl (za tl 4))) := by rw [e0]; exact va_up_self _ _ _
    refine mm_iload_n d_SP_resetAll_7 rfl ?_
    refine mm_aload_n d_SP_resetAll_8 rfl ?_
    refine mm_getf d_SP_resetAll_9 cl_SP fl_SP_22_SP (by decide) ha_g rfl ?_
    refine mm_alen d_SP_resetAll_12 hb_g (by decide) ?_
    refine mm_icmp_ge (tgt := 29) d_SP_resetAll_13 (by decide) (fun c_13 => ?_) (fun c_13 => absurd (nI_le (Nat.le_refl _) (by omega)) c_13)
    rw [e0]
    exact hq
  | succ m ih =>
    intro i hi9
    refine mm_hp (fun g0 e0 => ?_)
    have ha_g : g0 x = some (.inr (0, [.ref (x + 1), .ref (x + 2), .ref (x + 5), .int (nI N), .int ti, .int ca])) := by rw [e0, va_up_ne _ _ (mm_neq ha hb (by simp))]; exact ha
    have hb_g : g0 (x + 5) = some (.inl (0, 4, .inl (za tl i))) := by rw [e0]; exact va_up_self _ _ _
    refine mm_iload_n d_SP_resetAll_7 rfl ?_
    refine mm_aload_n d_SP_resetAll_8 rfl ?_
    refine mm_getf d_SP_resetAll_9 cl_SP fl_SP_22_SP (by decide) ha_g rfl ?_
    refine mm_alen d_SP_resetAll_12 hb_g (by decide) ?_
    refine mm_icmp_ge (tgt := 29) d_SP_resetAll_13 (by decide) (fun c_13 => absurd c_13 (nI_ge (by omega) (by omega))) (fun c_13 => ?_)
    refine mm_aload_n d_SP_resetAll_16 rfl ?_
    refine mm_getf d_SP_resetAll_17 cl_SP fl_SP_22_SP (by decide) ha_g rfl ?_
    refine mm_iload_n d_SP_resetAll_20 rfl ?_
    refine mm_iconst (v := 0) d_SP_resetAll_21 (by decide) ?_
    refine mm_iast d_SP_resetAll_22 hb_g (vp_in_nI (by omega) (by omega)) ?_
    refine mm_hp (fun h1 e1 => ?_)
    have ha_g_v1 : h1 x = some (.inr (0, [.ref (x + 1), .ref (x + 2), .ref (x + 5), .int (nI N), .int ti, .int ca])) := by rw [e1, va_up_ne _ _ (mm_neq ha_g hb_g (by simp))]; exact ha_g
    have hb_g_v1 : h1 (x + 5) = some (.inl (0, 4, .inl (upd (za tl i) (nI i).toNatClampNeg 0))) := by rw [e1]; exact va_up_self _ _ _
    refine mm_iinc (v := (nI i) + 1) d_SP_resetAll_23 rfl rfl (by decide) ?_
    refine mm_goto (tgt := 7) d_SP_resetAll_26 (by decide) ?_
    exact mm_G.cast (by rw [nI_1]; rfl) rfl (by rw [e1, e0, bx_uu, nI_clamp (by omega), za_s]) (ih (i + 1) (by omega))
/-- the parts at the places from i on (m of them) begin anew -/
def c_anew (N : Nat) : Nat → Nat → (Nat → pS) → (Nat → pS)
  | 0, _, P => P
  | m + 1, i, P => if i < N then c_anew N m (i + 1) (c_set P i (p_new (P i))) else c_anew N m (i + 1) P
def c_reset (k : Int32) : cS → cS := fun (N, P, Wy, Rk, tl, hi, u, kp, ti, ca) => (N, c_anew N 12 0 P, Wy, Rk, za tl 4, hi, 0, 0, ti, k)
def c_follow : cS → cS := fun (N, P, Wy, Rk, tl, hi, u, kp, ti, ca) => (N, P, Wy, Rk, tl, hi, c_ask N P 12, ln_keep Wy u kp (c_ask N P 12), ti, ca)
def c_setP (c : cS) (i : Nat) (q : pS) : cS := (c.1, c_set c.2.1 i q, c.2.2)
/-- a step's way through the places: the state behind it, whether it ended in a reset -/
def c_loop : Nat → Nat → cS → cS × Int32
  | 0, _, c => (c_follow c, 0)
  | m + 1, i, c => if i < c.1 then (if (p_go (c.2.1 i)).2 = 0 then c_loop m (i + 1) (c_setP c i (p_go (c.2.1 i)).1) else (c_reset 2 (c_setP c i (p_go (c.2.1 i)).1), 1)) else c_loop m (i + 1) c
def c_step : cS → cS × Int32 := fun (N, P, Wy, Rk, tl, hi, u, kp, ti, ca) => c_loop 12 0 (N, P, Wy, Rk, tl, hi, u, kp, ti + 1, ca)
/-- n steps: the state, whether there was a reset -/
def c_steps : Nat → cS → Int32 → cS × Int32
  | 0, c, r => (c, r)
  | m + 1, c, r => c_steps m (c_step c).1 (if (c_step c).2 = 0 then r else 1)
set_option maxRecDepth 100000 in
set_option maxHeartbeats 4000000 in
theorem lp_anew {sc : mm_Sc} {n d kc ks : Nat} {h0 : mm_H} {c0 : cS} {Q : mm_O → Nat → mm_H → Prop} {x N : Nat} {pa : Nat → Nat} {Wy Rk tl : Nat → Int32} {hi u kp ti ca : Int32} {nc : Int32} (hd : 4 ≤ d) : ∀ (m i : Nat) (P : Nat → pS) (h : mm_H), i + m = 12 → CH h x pa (N, P, Wy, Rk, tl, hi, u, kp, ti, ca) → CFr h0 h x pa c0 → CE c0 (N, P, Wy, Rk, tl, hi, u, kp, ti, ca) → (∀ h', CH h' x pa (N, c_anew N m i P, Wy, Rk, tl, hi, 0, 0, ti, ca) → CFr h0 h' x pa c0 → CE c0 (N, c_anew N m i P, Wy, Rk, tl, hi, 0, 0, ti, ca) → Q (.inl none) n h') → mm_G sc y_SP_resetAll d 31 [some (.ref x), some (.int nc), some (.int (nI i)), none] [] n h kc ks Q := by
  intro m
  induction m with
  | zero =>
    intro i P h hi9 H hF hE hq
    obtain rfl : i = 12 := by omega
    have q0 : h x = some (.inr (0, [.ref (x + 1), .ref (x + 2), .ref (x + 5), .int (nI N), .int ti, .int ca])) := H.1
    have q1 : h (x + 1) = some (.inl (3, 12, .inr (.inr (.inr (.inr (c_refs N pa)))))) := H.2.1
    have q2 : h (x + 2) = some (.inr (1, [.ref (x + 3), .ref (x + 4), .int hi, .int u, .int kp])) := H.2.2.1
    have q3 : h (x + 3) = some (.inl (0, 16, .inl Wy)) := H.2.2.2.1
    have q4 : h (x + 4) = some (.inl (0, 16, .inl Rk)) := H.2.2.2.2.1
    have q5 : h (x + 5) = some (.inl (0, 4, .inl tl)) := H.2.2.2.2.2.1
    have q6 : N ≤ 12 := H.2.2.2.2.2.2.1
    have q7 : ∀ j9, j9 < N → PH h (pa j9) ((P) j9) ∧ x + 6 ≤ pa j9 := H.2.2.2.2.2.2.2.1
    refine mm_iload_n d_SP_resetAll_31 rfl ?_
    refine mm_aload_n d_SP_resetAll_32 rfl ?_
    refine mm_getf d_SP_resetAll_33 cl_SP fl_SP_11_SP (by decide) q0 rfl ?_
    refine mm_alen d_SP_resetAll_36 q1 (by decide) ?_
    refine mm_icmp_ge (tgt := 61) d_SP_resetAll_37 (by decide) (fun c_37 => ?_) (fun c_37 => absurd (show nI 12 ≤ nI 12 from Int32.le_refl _) c_37)
    refine mm_aload_n d_SP_resetAll_61 rfl ?_
    refine mm_getf d_SP_resetAll_62 cl_SP fl_SP_18_SP (by decide) q0 rfl ?_
    refine mm_callD (kc' := 0) (ks' := 0) d_SP_resetAll_65 (mm_Inv.vi (as := []) d_SP_resetAll_65 (Or.inl m_117) m_118 ce_Lines_allDown.2.1 ce_Lines_allDown.2.2.1 m_119 ce_Lines_allDown.2.2.2.2.2 ln_Lines_allDown cl_Lines q2 rfl) (J_Lines_allDown (show x + 3 ≠ x + 4 by omega) q2 q3 q4) (Nat.lt_of_lt_of_le (by decide) hd) ce_Lines_allDown.1 ce_Lines_allDown.2.1 ce_Lines_allDown.2.2.1 ce_Lines_allDown.2.2.2.1 (Nat.le_of_ble_eq_true rfl) ?_
    obtain ⟨H2, hF2, hE2⟩ := CH_lines (hi2 := hi) (u2 := 0) (kp2 := 0) H
    exact mm_return d_SP_resetAll_68 rfl (hq _ H2 (CFr.tr hE hF hF2) (CE.tr hE hE2))
  | succ m ih =>
    intro i P h hi9 H hF hE hq
    have q0 : h x = some (.inr (0, [.ref (x + 1), .ref (x + 2), .ref (x + 5), .int (nI N), .int ti, .int ca])) := H.1
    have q1 : h (x + 1) = some (.inl (3, 12, .inr (.inr (.inr (.inr (c_refs N pa)))))) := H.2.1
    have q2 : h (x + 2) = some (.inr (1, [.ref (x + 3), .ref (x + 4), .int hi, .int u, .int kp])) := H.2.2.1
    have q3 : h (x + 3) = some (.inl (0, 16, .inl Wy)) := H.2.2.2.1
    have q4 : h (x + 4) = some (.inl (0, 16, .inl Rk)) := H.2.2.2.2.1
    have q5 : h (x + 5) = some (.inl (0, 4, .inl tl)) := H.2.2.2.2.2.1
    have q6 : N ≤ 12 := H.2.2.2.2.2.2.1
    have q7 : ∀ j9, j9 < N → PH h (pa j9) ((P) j9) ∧ x + 6 ≤ pa j9 := H.2.2.2.2.2.2.2.1
    refine mm_iload_n d_SP_resetAll_31 rfl ?_
    refine mm_aload_n d_SP_resetAll_32 rfl ?_
    refine mm_getf d_SP_resetAll_33 cl_SP fl_SP_11_SP (by decide) q0 rfl ?_
    refine mm_alen d_SP_resetAll_36 q1 (by decide) ?_
    refine mm_icmp_ge (tgt := 61) d_SP_resetAll_37 (by decide) (fun c_37 => absurd c_37 (show ¬ nI 12 ≤ nI i from nI_ge (by omega) (by omega))) (fun c_37 => ?_)
    refine mm_aload_n d_SP_resetAll_40 rfl ?_
    refine mm_getf d_SP_resetAll_41 cl_SP fl_SP_11_SP (by decide) q0 rfl ?_
    refine mm_iload_n d_SP_resetAll_44 rfl ?_
    refine mm_aald d_SP_resetAll_45 q1 (vp_in_nI (by omega) (by omega)) ?_
    have hk9 := nI_clamp (n := i) (by omega)
    by_cases hN : i < N
    · refine mm_G.cast (st' := .ref (pa i + 1) :: []) rfl (by rw [hk9]; simp [c_refs, hN, va_rf]) rfl ?_
      refine mm_astore_n d_SP_resetAll_46 (by decide) ?_
      refine mm_aload_n d_SP_resetAll_47 rfl ?_
      refine mm_ifnull d_SP_resetAll_48 ?_
      refine mm_aload_n d_SP_resetAll_51 rfl ?_
      refine vc_anew (q7 i hN).1 hd (Nat.le_of_ble_eq_true rfl) ?_
      obtain ⟨H2, hF2, hE2⟩ := CH_part H hN (p_new_w (P i))
      refine mm_iinc (v := (nI i) + 1) d_SP_resetAll_55 rfl rfl (by decide) ?_
      refine mm_goto (tgt := 31) d_SP_resetAll_58 (by decide) ?_
      refine mm_G.drop 3 ?_
      refine mm_G.cast (l' := [some (.ref x), some (.int nc), some (.int (nI (i + 1))), none]) (by rw [nI_1]; rfl) rfl rfl (ih (i + 1) (c_set P i (p_new (P i))) _ (by omega) H2 (CFr.tr hE hF hF2) (CE.tr hE hE2) (by simpa [c_anew, hN] using hq))
    · refine mm_G.cast (st' := .null :: []) rfl (by rw [hk9]; simp [c_refs, hN, va_rf]) rfl ?_
      refine mm_astore_nN d_SP_resetAll_46 (by decide) ?_
      refine mm_aload_nN d_SP_resetAll_47 rfl ?_
      refine mm_ifnullN (tgt := 55) d_SP_resetAll_48 (by decide) ?_
      refine mm_iinc (v := (nI i) + 1) d_SP_resetAll_55 rfl rfl (by decide) ?_
      refine mm_goto (tgt := 31) d_SP_resetAll_58 (by decide) ?_
      refine mm_G.drop 3 ?_
      refine mm_G.cast (l' := [some (.ref x), some (.int nc), some (.int (nI (i + 1))), none]) (by rw [nI_1]; rfl) rfl rfl (ih (i + 1) P h (by omega) H hF hE (by simpa [c_anew, hN] using hq))
set_option maxRecDepth 100000 in
set_option maxHeartbeats 4000000 in
theorem J_SP_resetAll {sc : mm_Sc} {n : Nat} {h : mm_H} {x N : Nat} {pa : Nat → Nat} {P : Nat → pS} {Wy Rk tl : Nat → Int32} {hi u kp ti ca : Int32} {nc : Int32} (H : CH h x pa (N, P, Wy, Rk, tl, hi, u, kp, ti, ca))  : mm_J sc y_SP_resetAll 5 [.ref x, .int nc] n h 0 0 (CQ none n h x pa (N, P, Wy, Rk, tl, hi, u, kp, ti, ca) (c_reset nc (N, P, Wy, Rk, tl, hi, u, kp, ti, ca))) := by
  refine mm_J.of (show mm_G sc y_SP_resetAll 5 0 [some (.ref x), some (.int nc), none, none] [] n h 0 0 _ from ?_) ce_SP_resetAll.2.2.2.2.1 (Nat.le_of_ble_eq_true rfl) (by simp [Value.category])
  have q0 : h x = some (.inr (0, [.ref (x + 1), .ref (x + 2), .ref (x + 5), .int (nI N), .int ti, .int ca])) := H.1
  have q1 : h (x + 1) = some (.inl (3, 12, .inr (.inr (.inr (.inr (c_refs N pa)))))) := H.2.1
  have q2 : h (x + 2) = some (.inr (1, [.ref (x + 3), .ref (x + 4), .int hi, .int u, .int kp])) := H.2.2.1
  have q3 : h (x + 3) = some (.inl (0, 16, .inl Wy)) := H.2.2.2.1
  have q4 : h (x + 4) = some (.inl (0, 16, .inl Rk)) := H.2.2.2.2.1
  have q5 : h (x + 5) = some (.inl (0, 4, .inl tl)) := H.2.2.2.2.2.1
  have q6 : N ≤ 12 := H.2.2.2.2.2.2.1
  have q7 : ∀ j9, j9 < N → PH h (pa j9) ((P) j9) ∧ x + 6 ≤ pa j9 := H.2.2.2.2.2.2.2.1
  refine mm_aload_n d_SP_resetAll_0 rfl ?_
  refine mm_iload_n d_SP_resetAll_1 rfl ?_
  refine mm_putf d_SP_resetAll_2 cl_SP ty_SP fl_SP_33_SP (by decide) rfl rfl rfl q0 (Nat.le_of_ble_eq_true rfl) ?_
  refine mm_hp (fun h1 e1 => ?_)
  have q0_v1 : h1 x = some (.inr (0, [.ref (x + 1), .ref (x + 2), .ref (x + 5), .int (nI N), .int ti, .int nc])) := by rw [e1]; exact va_up_self _ _ _
  have q1_v1 : h1 (x + 1) = some (.inl (3, 12, .inr (.inr (.inr (.inr (c_refs N pa)))))) := by rw [e1, va_up_ne _ _ (by omega)]; exact q1
  have q2_v1 : h1 (x + 2) = some (.inr (1, [.ref (x + 3), .ref (x + 4), .int hi, .int u, .int kp])) := by rw [e1, va_up_ne _ _ (by omega)]; exact q2
  have q3_v1 : h1 (x + 3) = some (.inl (0, 16, .inl Wy)) := by rw [e1, va_up_ne _ _ (by omega)]; exact q3
  have q4_v1 : h1 (x + 4) = some (.inl (0, 16, .inl Rk)) := by rw [e1, va_up_ne _ _ (by omega)]; exact q4
  have q5_v1 : h1 (x + 5) = some (.inl (0, 4, .inl tl)) := by rw [e1, va_up_ne _ _ (by omega)]; exact q5
  refine mm_iconst (v := 0) d_SP_resetAll_5 (by decide) ?_
  refine mm_istore_n d_SP_resetAll_6 (by decide) ?_
  have H9 := CH_cause (ca2 := nc) H
  obtain ⟨H2, hF2, hE2⟩ : CH h1 x pa (N, P, Wy, Rk, tl, hi, u, kp, ti, nc) ∧ CFr h h1 x pa (N, P, Wy, Rk, tl, hi, u, kp, ti, ca) ∧ CE (N, P, Wy, Rk, tl, hi, u, kp, ti, ca) (N, P, Wy, Rk, tl, hi, u, kp, ti, nc) := by rw [e1]; exact H9
  refine mm_G.cast rfl rfl (by rw [za_0, mm_up_id q5_v1]) (lp_rtally q0_v1 q5_v1 ?_ 4 0 (by omega))
  obtain ⟨H3, hF3, hE3⟩ := CH_tally (tl2 := za tl 4) H2
  refine mm_iconst (v := 0) d_SP_resetAll_29 (by decide) ?_
  refine mm_istore_n d_SP_resetAll_30 (by decide) ?_
  exact lp_anew (by decide) 12 0 P _ (by omega) H3 (CFr.tr hE2 hF2 hF3) (CE.tr hE2 hE3) (fun h' a b c => ⟨rfl, rfl, a, b, c⟩)
set_option maxRecDepth 100000 in
set_option maxHeartbeats 4000000 in
theorem lp_step {sc : mm_Sc} {n d kc ks : Nat} {h0 : mm_H} {c0 : cS} {Q : mm_O → Nat → mm_H → Prop} {x N : Nat} {pa : Nat → Nat} {Wy Rk tl : Nat → Int32} {hi u kp ti ca : Int32}  (hd : 6 ≤ d) : ∀ (m i : Nat) (P : Nat → pS) (h : mm_H), i + m = 12 → CH h x pa (N, P, Wy, Rk, tl, hi, u, kp, ti, ca) → CFr h0 h x pa c0 → CE c0 (N, P, Wy, Rk, tl, hi, u, kp, ti, ca) → (∀ h', CH h' x pa (c_loop m i (N, P, Wy, Rk, tl, hi, u, kp, ti, ca)).1 → CFr h0 h' x pa c0 → CE c0 (c_loop m i (N, P, Wy, Rk, tl, hi, u, kp, ti, ca)).1 → Q (.inl (some (.int (c_loop m i (N, P, Wy, Rk, tl, hi, u, kp, ti, ca)).2))) n h') → mm_G sc y_SP_oneStep d 12 [some (.ref x), some (.int (nI i)), none] [] n h kc ks Q := by
  intro m
  induction m with
  | zero =>
    intro i P h hi9 H hF hE hq
    obtain rfl : i = 12 := by omega
    have q0 : h x = some (.inr (0, [.ref (x + 1), .ref (x + 2), .ref (x + 5), .int (nI N), .int ti, .int ca])) := H.1
    have q1 : h (x + 1) = some (.inl (3, 12, .inr (.inr (.inr (.inr (c_refs N pa)))))) := H.2.1
    have q2 : h (x + 2) = some (.inr (1, [.ref (x + 3), .ref (x + 4), .int hi, .int u, .int kp])) := H.2.2.1
    have q3 : h (x + 3) = some (.inl (0, 16, .inl Wy)) := H.2.2.2.1
    have q4 : h (x + 4) = some (.inl (0, 16, .inl Rk)) := H.2.2.2.2.1
    have q5 : h (x + 5) = some (.inl (0, 4, .inl tl)) := H.2.2.2.2.2.1
    have q6 : N ≤ 12 := H.2.2.2.2.2.2.1
    have q7 : ∀ j9, j9 < N → PH h (pa j9) ((P) j9) ∧ x + 6 ≤ pa j9 := H.2.2.2.2.2.2.2.1
    refine mm_iload_n d_SP_oneStep_12 rfl ?_
    refine mm_aload_n d_SP_oneStep_13 rfl ?_
    refine mm_getf d_SP_oneStep_14 cl_SP fl_SP_11_SP (by decide) q0 rfl ?_
    refine mm_alen d_SP_oneStep_17 q1 (by decide) ?_
    refine mm_icmp_ge (tgt := 52) d_SP_oneStep_18 (by decide) (fun c_18 => ?_) (fun c_18 => absurd (show nI 12 ≤ nI 12 from Int32.le_refl _) c_18)
    refine mm_aload_n d_SP_oneStep_52 rfl ?_
    refine mm_getf d_SP_oneStep_53 cl_SP fl_SP_18_SP (by decide) q0 rfl ?_
    refine mm_aload_n d_SP_oneStep_56 rfl ?_
    refine mm_callD (kc' := 0) (ks' := 0) d_SP_oneStep_57 (mm_Inv.vi (as := []) d_SP_oneStep_57 (Or.inl m_494) m_496 ce_SP_askingLines.2.1 ce_SP_askingLines.2.2.1 mp_11 ce_SP_askingLines.2.2.2.2.2 ln_SP_askingLines cl_SP q0 rfl) (J_SP_askingLines H) (Nat.lt_of_lt_of_le (by decide) hd) ce_SP_askingLines.1 ce_SP_askingLines.2.1 ce_SP_askingLines.2.2.1 ce_SP_askingLines.2.2.2.1 (Nat.le_of_ble_eq_true rfl) ?_
    refine mm_callD (kc' := 0) (ks' := 0) d_SP_oneStep_60 (mm_Inv.vi (as := [.int (c_ask N P 12)]) d_SP_oneStep_60 (Or.inl m_513) m_514 ce_Lines_follow.2.1 ce_Lines_follow.2.2.1 m_515 ce_Lines_follow.2.2.2.2.2 ln_Lines_follow cl_Lines q2 rfl) (J_Lines_follow (show x + 3 ≠ x + 4 by omega) q2 q3 q4) (Nat.lt_of_lt_of_le (by decide) hd) ce_Lines_follow.1 ce_Lines_follow.2.1 ce_Lines_follow.2.2.1 ce_Lines_follow.2.2.2.1 (Nat.le_of_ble_eq_true rfl) ?_
    obtain ⟨H2, hF2, hE2⟩ := CH_lines (hi2 := hi) (u2 := c_ask N P 12) (kp2 := ln_keep Wy u kp (c_ask N P 12)) H
    refine mm_iconst (v := 0) d_SP_oneStep_63 (by decide) ?_
    exact mm_zreturn d_SP_oneStep_64 rfl rfl (hq _ H2 (CFr.tr hE hF hF2) (CE.tr hE hE2))
  | succ m ih =>
    intro i P h hi9 H hF hE hq
    have q0 : h x = some (.inr (0, [.ref (x + 1), .ref (x + 2), .ref (x + 5), .int (nI N), .int ti, .int ca])) := H.1
    have q1 : h (x + 1) = some (.inl (3, 12, .inr (.inr (.inr (.inr (c_refs N pa)))))) := H.2.1
    have q2 : h (x + 2) = some (.inr (1, [.ref (x + 3), .ref (x + 4), .int hi, .int u, .int kp])) := H.2.2.1
    have q3 : h (x + 3) = some (.inl (0, 16, .inl Wy)) := H.2.2.2.1
    have q4 : h (x + 4) = some (.inl (0, 16, .inl Rk)) := H.2.2.2.2.1
    have q5 : h (x + 5) = some (.inl (0, 4, .inl tl)) := H.2.2.2.2.2.1
    have q6 : N ≤ 12 := H.2.2.2.2.2.2.1
    have q7 : ∀ j9, j9 < N → PH h (pa j9) ((P) j9) ∧ x + 6 ≤ pa j9 := H.2.2.2.2.2.2.2.1
    refine mm_iload_n d_SP_oneStep_12 rfl ?_
    refine mm_aload_n d_SP_oneStep_13 rfl ?_
    refine mm_getf d_SP_oneStep_14 cl_SP fl_SP_11_SP (by decide) q0 rfl ?_
    refine mm_alen d_SP_oneStep_17 q1 (by decide) ?_
    refine mm_icmp_ge (tgt := 52) d_SP_oneStep_18 (by decide) (fun c_18 => absurd c_18 (show ¬ nI 12 ≤ nI i from nI_ge (by omega) (by omega))) (fun c_18 => ?_)
    refine mm_aload_n d_SP_oneStep_21 rfl ?_
    refine mm_getf d_SP_oneStep_22 cl_SP fl_SP_11_SP (by decide) q0 rfl ?_
    refine mm_iload_n d_SP_oneStep_25 rfl ?_
    refine mm_aald d_SP_oneStep_26 q1 (vp_in_nI (by omega) (by omega)) ?_
    have hk9 := nI_clamp (n := i) (by omega)
    by_cases hN : i < N
    · refine mm_G.cast (st' := .ref (pa i + 1) :: []) rfl (by rw [hk9]; simp [c_refs, hN, va_rf]) rfl ?_
      refine mm_astore_n d_SP_oneStep_27 (by decide) ?_
      refine mm_aload_n d_SP_oneStep_28 rfl ?_
      refine mm_ifnull d_SP_oneStep_29 ?_
      refine mm_aload_n d_SP_oneStep_32 rfl ?_
      refine vc_goOn (q7 i hN).1 (by omega) (Nat.le_of_ble_eq_true rfl) ?_
      obtain ⟨H2, hF2, hE2⟩ := CH_part H hN (p_go_w (P i))
      have q0b : (p_put h (pa i) (p_go (P i)).1) x = some (.inr (0, [.ref (x + 1), .ref (x + 2), .ref (x + 5), .int (nI N), .int ti, .int ca])) := H2.1
      have q1b : (p_put h (pa i) (p_go (P i)).1) (x + 1) = some (.inl (3, 12, .inr (.inr (.inr (.inr (c_refs N pa)))))) := H2.2.1
      have q2b : (p_put h (pa i) (p_go (P i)).1) (x + 2) = some (.inr (1, [.ref (x + 3), .ref (x + 4), .int hi, .int u, .int kp])) := H2.2.2.1
      have q3b : (p_put h (pa i) (p_go (P i)).1) (x + 3) = some (.inl (0, 16, .inl Wy)) := H2.2.2.2.1
      have q4b : (p_put h (pa i) (p_go (P i)).1) (x + 4) = some (.inl (0, 16, .inl Rk)) := H2.2.2.2.2.1
      have q5b : (p_put h (pa i) (p_go (P i)).1) (x + 5) = some (.inl (0, 4, .inl tl)) := H2.2.2.2.2.2.1
      have q6b : N ≤ 12 := H2.2.2.2.2.2.2.1
      have q7b : ∀ j9, j9 < N → PH (p_put h (pa i) (p_go (P i)).1) (pa j9) ((c_set P i (p_go (P i)).1) j9) ∧ x + 6 ≤ pa j9 := H2.2.2.2.2.2.2.2.1
      refine mm_if_eq (tgt := 46) d_SP_oneStep_36 (by decide) (fun c_36 => ?_) (fun c_36 => ?_)
      · refine mm_iinc (v := (nI i) + 1) d_SP_oneStep_46 rfl rfl (by decide) ?_
        refine mm_goto (tgt := 12) d_SP_oneStep_49 (by decide) ?_
        refine mm_G.drop 2 ?_
        refine mm_G.cast (l' := [some (.ref x), some (.int (nI (i + 1))), none]) (by rw [nI_1]; rfl) rfl rfl (ih (i + 1) (c_set P i (p_go (P i)).1) _ (by omega) H2 (CFr.tr hE hF hF2) (CE.tr hE hE2) (by simpa [c_loop, c_setP, hN, c_36] using hq))
      · refine mm_aload_n d_SP_oneStep_39 rfl ?_
        refine mm_iconst (v := 2) d_SP_oneStep_40 (by decide) ?_
        refine mm_call (kc' := 0) (ks' := 0) d_SP_oneStep_41 (mm_Inv.vi (as := [.int 2]) d_SP_oneStep_41 (Or.inl m_96) m_98 ce_SP_resetAll.2.1 ce_SP_resetAll.2.2.1 mp_0 ce_SP_resetAll.2.2.2.2.2 ln_SP_resetAll cl_SP q0b rfl) (J_SP_resetAll H2) (Nat.lt_of_lt_of_le (by decide) hd) ce_SP_resetAll.1 ce_SP_resetAll.2.1 ce_SP_resetAll.2.2.1 ce_SP_resetAll.2.2.2.1 (Nat.le_of_ble_eq_true rfl) (fun v9 n9 h9 hq9 => ?_) (fun k9 n9 h9 hq9 => by cases hq9.1)
        obtain ⟨e9, rfl, H3, hF3, hE3⟩ := hq9
        cases e9
        refine mm_iconst (v := 1) d_SP_oneStep_44 (by decide) ?_
        exact mm_zreturn d_SP_oneStep_45 rfl rfl (by have h8 := hq _ (by simpa [c_loop, c_setP, hN, c_36] using H3) (CFr.tr (CE.tr hE hE2) (CFr.tr hE hF hF2) hF3) (by simpa [c_loop, c_setP, hN, c_36] using CE.tr (CE.tr hE hE2) hE3); simpa [c_loop, c_setP, hN, c_36] using h8)
    · refine mm_G.cast (st' := .null :: []) rfl (by rw [hk9]; simp [c_refs, hN, va_rf]) rfl ?_
      refine mm_astore_nN d_SP_oneStep_27 (by decide) ?_
      refine mm_aload_nN d_SP_oneStep_28 rfl ?_
      refine mm_ifnullN (tgt := 46) d_SP_oneStep_29 (by decide) ?_
      refine mm_iinc (v := (nI i) + 1) d_SP_oneStep_46 rfl rfl (by decide) ?_
      refine mm_goto (tgt := 12) d_SP_oneStep_49 (by decide) ?_
      refine mm_G.drop 2 ?_
      refine mm_G.cast (l' := [some (.ref x), some (.int (nI (i + 1))), none]) (by rw [nI_1]; rfl) rfl rfl (ih (i + 1) P h (by omega) H hF hE (by simpa [c_loop, hN] using hq))
set_option maxRecDepth 100000 in
set_option maxHeartbeats 4000000 in
theorem J_SP_oneStep {sc : mm_Sc} {n : Nat} {h : mm_H} {x N : Nat} {pa : Nat → Nat} {P : Nat → pS} {Wy Rk tl : Nat → Int32} {hi u kp ti ca : Int32}  (H : CH h x pa (N, P, Wy, Rk, tl, hi, u, kp, ti, ca))  : mm_J sc y_SP_oneStep 6 [.ref x] n h 0 0 (CQ (some (.int (c_step (N, P, Wy, Rk, tl, hi, u, kp, ti, ca)).2)) n h x pa (N, P, Wy, Rk, tl, hi, u, kp, ti, ca) (c_step (N, P, Wy, Rk, tl, hi, u, kp, ti, ca)).1) := by
  refine mm_J.of (show mm_G sc y_SP_oneStep 6 0 [some (.ref x), none, none] [] n h 0 0 _ from ?_) ce_SP_oneStep.2.2.2.2.1 (Nat.le_of_ble_eq_true rfl) (by simp [Value.category])
  have q0 : h x = some (.inr (0, [.ref (x + 1), .ref (x + 2), .ref (x + 5), .int (nI N), .int ti, .int ca])) := H.1
  have q1 : h (x + 1) = some (.inl (3, 12, .inr (.inr (.inr (.inr (c_refs N pa)))))) := H.2.1
  have q2 : h (x + 2) = some (.inr (1, [.ref (x + 3), .ref (x + 4), .int hi, .int u, .int kp])) := H.2.2.1
  have q3 : h (x + 3) = some (.inl (0, 16, .inl Wy)) := H.2.2.2.1
  have q4 : h (x + 4) = some (.inl (0, 16, .inl Rk)) := H.2.2.2.2.1
  have q5 : h (x + 5) = some (.inl (0, 4, .inl tl)) := H.2.2.2.2.2.1
  have q6 : N ≤ 12 := H.2.2.2.2.2.2.1
  have q7 : ∀ j9, j9 < N → PH h (pa j9) ((P) j9) ∧ x + 6 ≤ pa j9 := H.2.2.2.2.2.2.2.1
  refine mm_aload_n d_SP_oneStep_0 rfl ?_
  refine mm_dup d_SP_oneStep_1 rfl ?_
  refine mm_getf d_SP_oneStep_2 cl_SP fl_SP_30_SP (by decide) q0 rfl ?_
  refine mm_iconst (v := 1) d_SP_oneStep_5 (by decide) ?_
  refine mm_iadd d_SP_oneStep_6 ?_
  refine mm_putf d_SP_oneStep_7 cl_SP ty_SP fl_SP_30_SP (by decide) rfl rfl rfl q0 (Nat.le_of_ble_eq_true rfl) ?_
  refine mm_hp (fun h1 e1 => ?_)
  have q0_v1 : h1 x = some (.inr (0, [.ref (x + 1), .ref (x + 2), .ref (x + 5), .int (nI N), .int (ti + 1), .int ca])) := by rw [e1]; exact va_up_self _ _ _
  have q1_v1 : h1 (x + 1) = some (.inl (3, 12, .inr (.inr (.inr (.inr (c_refs N pa)))))) := by rw [e1, va_up_ne _ _ (by omega)]; exact q1
  have q2_v1 : h1 (x + 2) = some (.inr (1, [.ref (x + 3), .ref (x + 4), .int hi, .int u, .int kp])) := by rw [e1, va_up_ne _ _ (by omega)]; exact q2
  have q3_v1 : h1 (x + 3) = some (.inl (0, 16, .inl Wy)) := by rw [e1, va_up_ne _ _ (by omega)]; exact q3
  have q4_v1 : h1 (x + 4) = some (.inl (0, 16, .inl Rk)) := by rw [e1, va_up_ne _ _ (by omega)]; exact q4
  have q5_v1 : h1 (x + 5) = some (.inl (0, 4, .inl tl)) := by rw [e1, va_up_ne _ _ (by omega)]; exact q5
  refine mm_iconst (v := 0) d_SP_oneStep_10 (by decide) ?_
  refine mm_istore_n d_SP_oneStep_11 (by decide) ?_
  have H9 := CH_time (ti2 := ti + 1) H
  obtain ⟨H2, hF2, hE2⟩ : CH h1 x pa (N, P, Wy, Rk, tl, hi, u, kp, ti + 1, ca) ∧ CFr h h1 x pa (N, P, Wy, Rk, tl, hi, u, kp, ti, ca) ∧ CE (N, P, Wy, Rk, tl, hi, u, kp, ti, ca) (N, P, Wy, Rk, tl, hi, u, kp, ti + 1, ca) := by rw [e1]; exact H9
  exact lp_step (by decide) 12 0 P h1 (by omega) H2 hF2 hE2 (fun h' a b c => ⟨rfl, rfl, a, b, c⟩)
