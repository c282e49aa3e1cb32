/-- an answer, or a throw by number -/
abbrev cA : Type := Int32 ⊕ Nat
def o_i : cA → mm_O
  | .inl v => .inl (some (.int v))
  | .inr k => .inr k
/-- what a call does: an answer or a throw, a new state, nothing elsewhere -/
def CI (r : cA × cS) (n : Nat) (h : mm_H) (x : Nat) (pa : Nat → Nat) (c : cS) : mm_O → Nat → mm_H → Prop := fun o n' h' => o = o_i r.1 ∧ n ≤ n' ∧ CH h' x pa r.2 ∧ CFr h h' x pa c ∧ CE c r.2
theorem CI.of {r : cA × cS} {n : Nat} {h : mm_H} {x : Nat} {pa : Nat → Nat} {c c' : cS} {a : cA} {o : mm_O} {n' : Nat} {h' : mm_H} (hv : r = (a, c')) (ho : o = o_i a) (hn : n ≤ n') (H : CH h' x pa c') (hF : CFr h h' x pa c) (hE : CE c c') : CI r n h x pa c o n' h' := by
  subst hv
  exact ⟨ho, hn, H, hF, hE⟩
/-- the same with a part for the answer -/
def o_p (pa : Nat → Nat) : Nat ⊕ Nat → mm_O
  | .inl i => .inl (some (.ref (pa i + 1)))
  | .inr k => .inr k
def CP (r : (Nat ⊕ Nat) × cS) (n : Nat) (h : mm_H) (x : Nat) (pa : Nat → Nat) (c : cS) : mm_O → Nat → mm_H → Prop := fun o n' h' => o = o_p pa r.1 ∧ n ≤ n' ∧ CH h' x pa r.2 ∧ CFr h h' x pa c ∧ CE c r.2
theorem CP.of {r : (Nat ⊕ Nat) × cS} {n : Nat} {h : mm_H} {x : Nat} {pa : Nat → Nat} {c c' : cS} {a : Nat ⊕ Nat} {o : mm_O} {n' : Nat} {h' : mm_H} (hv : r = (a, c')) (ho : o = o_p pa a) (hn : n ≤ n') (H : CH h' x pa c') (hF : CFr h h' x pa c) (hE : CE c c') : CP r n h x pa c o n' h' := by
  subst hv
  exact ⟨ho, hn, H, hF, hE⟩
theorem CFr.tr2 {h1 h2 h3 : mm_H} {x : Nat} {pa : Nat → Nat} {c c' : cS} (e : CE c c') (a : CFr h1 h2 x pa c) (b : CFr h2 h3 x pa c') : CFr h1 h3 x pa c := CFr.tr e a b
theorem c_with_lt {N : Nat} {P : Nat → pS} {k : Int32} : ∀ (m i j : Nat), c_with N P k m i = some j → j < N
  | 0, _, _, h => by cases h
  | m + 1, i, j, h => by
    unfold c_with at h
    split at h
    · split at h
      · exact c_with_lt m (i + 1) j h
      · cases h; assumption
    · exact c_with_lt m (i + 1) j h
theorem nI_le_v {v : Int32} {i : Nat} (hi : i = v.toNatClampNeg) : v ≤ nI i := by
  subst hi
  rw [Int32.le_iff_toInt_le]
  have h1 : (nI v.toNatClampNeg).toInt = (v.toNatClampNeg : Int) := by
    have h2 : v.toNatClampNeg < 2 ^ 31 := by have := Int32.toInt_lt v; unfold Int32.toNatClampNeg; omega
    exact nI_toInt h2
  rw [h1]
  unfold Int32.toNatClampNeg
  omega
theorem nI_nle_v {v : Int32} {i : Nat} (hi : i < v.toNatClampNeg) : ¬ v ≤ nI i := by
  rw [Int32.le_iff_toInt_le]
  have h2 : v.toNatClampNeg < 2 ^ 31 := by have := Int32.toInt_lt v; unfold Int32.toNatClampNeg; omega
  have h1 : (nI i).toInt = (i : Int) := nI_toInt (by omega)
  rw [h1]
  unfold Int32.toNatClampNeg at hi
  omega
theorem K_tallyOne {sc : mm_Sc} {n : Nat} {h : mm_H} {x : Nat} {pa : Nat → Nat} {c : cS} {k : Int32} (H : CH h x pa c) (hk1 : ¬ k < 0) (hk2 : k < 4) : mm_J sc y_SP_tallyOne 4 [.ref x, .int k] n h 0 0 (CQ none n h x pa c (c_tally k c)) := J_SP_tallyOne (N := c.1) H hk1 hk2
theorem K_resetAll {sc : mm_Sc} {n : Nat} {h : mm_H} {x : Nat} {pa : Nat → Nat} {c : cS} {k : Int32} (H : CH h x pa c) : mm_J sc y_SP_resetAll 5 [.ref x, .int k] n h 0 0 (CQ none n h x pa c (c_reset k c)) := J_SP_resetAll (N := c.1) H
theorem K_oneStep {sc : mm_Sc} {n : Nat} {h : mm_H} {x : Nat} {pa : Nat → Nat} {c : cS} (H : CH h x pa c) : mm_J sc y_SP_oneStep 6 [.ref x] n h 0 0 (CQ (some (.int (c_step c).2)) n h x pa c (c_step c).1) := J_SP_oneStep (N := c.1) H
theorem K_partWith {sc : mm_Sc} {n : Nat} {h : mm_H} {x : Nat} {pa : Nat → Nat} {c : cS} {k : Int32} (H : CH h x pa c) : mm_J sc y_SP_partWith 3 [.ref x, .int k] n h 0 0 (fun o n' h' => o = .inl (some (va_rf ((c_with c.1 c.2.1 k 12 0).map (fun i => pa i + 1)))) ∧ n' = n ∧ h' = h) := J_SP_partWith (N := c.1) H
theorem K_askingLines {sc : mm_Sc} {n : Nat} {h : mm_H} {x : Nat} {pa : Nat → Nat} {c : cS} (H : CH h x pa c) : mm_J sc y_SP_askingLines 5 [.ref x] n h 0 0 (fun o n' h' => o = .inl (some (.int (c_ask c.1 c.2.1 12))) ∧ n' = n ∧ h' = h) := J_SP_askingLines (N := c.1) H
theorem CH_lines' {h : mm_H} {x : Nat} {pa : Nat → Nat} {c : cS} {hi2 u2 kp2 : Int32} (H : CH h x pa c) : CH (va_up h (x + 2) (some (.inr (1, [.ref (x + 3), .ref (x + 4), .int hi2, .int u2, .int kp2])))) x pa (c.1, c.2.1, c.2.2.1, c.2.2.2.1, c.2.2.2.2.1, hi2, u2, kp2, c.2.2.2.2.2.2.2.2.1, c.2.2.2.2.2.2.2.2.2) ∧ CFr h (va_up h (x + 2) (some (.inr (1, [.ref (x + 3), .ref (x + 4), .int hi2, .int u2, .int kp2])))) x pa c ∧ CE c (c.1, c.2.1, c.2.2.1, c.2.2.2.1, c.2.2.2.2.1, hi2, u2, kp2, c.2.2.2.2.2.2.2.2.1, c.2.2.2.2.2.2.2.2.2) := CH_lines (N := c.1) H
theorem CH_part' {h : mm_H} {x : Nat} {pa : Nat → Nat} {c : cS} {i : Nat} {q : pS} (H : CH h x pa c) (hi9 : i < c.1) (hq : ∃ u' A B, q = p_with (c.2.1 i) u' A B) : CH (p_put h (pa i) q) x pa (c_setP c i q) ∧ CFr h (p_put h (pa i) q) x pa c ∧ CE c (c_setP c i q) := CH_part (N := c.1) H hi9 hq
theorem c_step_01 : ∀ (m i : Nat) (c : cS), (c_loop m i c).2 = 0 ∨ (c_loop m i c).2 = 1
  | 0, _, _ => Or.inl rfl
  | m + 1, i, c => by
    unfold c_loop
    split
    · split
      · exact c_step_01 m (i + 1) _
      · exact Or.inr rfl
    · exact c_step_01 m (i + 1) _
theorem c_steps_01 : ∀ (m : Nat) (c : cS) (r : Int32), r = 0 ∨ r = 1 → (c_steps m c r).2 = 0 ∨ (c_steps m c r).2 = 1
  | 0, _, _, h => h
  | m + 1, c, r, h => by
    unfold c_steps
    refine c_steps_01 m _ _ ?_
    split
    · exact h
    · exact Or.inr rfl
theorem z01 {r : Int32} (h : r = 0 ∨ r = 1) : narrow .boolean (.int r) = .int r := by rcases h with rfl | rfl <;> rfl
set_option maxRecDepth 100000 in
set_option maxHeartbeats 4000000 in
theorem lp_run {sc : mm_Sc} {n d kc ks : Nat} {h0 : mm_H} {x : Nat} {pa : Nat → Nat} {c0 : cS} {Q : mm_O → Nat → mm_H → Prop} {v : Int32} (hd : 7 ≤ d) : ∀ (m i : Nat) (c : cS) (r : Int32) (h : mm_H), i + m = v.toNatClampNeg → CH h x pa c → CFr h0 h x pa c0 → CE c0 c → (r = 0 ∨ r = 1) → (∀ h', CH h' x pa (c_steps m c r).1 → CFr h0 h' x pa c0 → CE c0 (c_steps m c r).1 → Q (.inl (some (.int (c_steps m c r).2))) n h') → mm_G sc y_SP_runSteps d 4 [some (.ref x), some (.int v), some (.int r), some (.int (nI i))] [] n h kc ks Q := by
  intro m
  induction m with
  | zero =>
    intro i c r h hi9 H hF hE hr hq
    refine mm_iload_n d_SP_runSteps_4 rfl ?_
    refine mm_iload_n d_SP_runSteps_5 rfl ?_
    refine mm_icmp_ge (tgt := 24) d_SP_runSteps_6 (by decide) (fun c_6 => ?_) (fun c_6 => absurd (nI_le_v hi9) c_6)
    refine mm_iload_n d_SP_runSteps_24 rfl ?_
    exact mm_zreturn d_SP_runSteps_25 rfl (z01 hr) (hq h H hF hE)
  | succ m ih =>
    intro i c r h hi9 H hF hE hr hq
    have q0 : h x = some (.inr (0, [.ref (x + 1), .ref (x + 2), .ref (x + 5), .int (nI c.1), .int c.2.2.2.2.2.2.2.2.1, .int c.2.2.2.2.2.2.2.2.2])) := H.1
    refine mm_iload_n d_SP_runSteps_4 rfl ?_
    refine mm_iload_n d_SP_runSteps_5 rfl ?_
    refine mm_icmp_ge (tgt := 24) d_SP_runSteps_6 (by decide) (fun c_6 => absurd c_6 (nI_nle_v (by omega))) (fun c_6 => ?_)
    refine mm_aload_n d_SP_runSteps_9 rfl ?_
    refine mm_call (kc' := 0) (ks' := 0) d_SP_runSteps_10 (mm_Inv.vi (as := []) d_SP_runSteps_10 (Or.inl m_468) m_470 ce_SP_oneStep.2.1 ce_SP_oneStep.2.2.1 mp_9 ce_SP_oneStep.2.2.2.2.2 ln_SP_oneStep cl_SP q0 rfl) (K_oneStep H) (Nat.lt_of_lt_of_le (by decide) hd) ce_SP_oneStep.1 ce_SP_oneStep.2.1 ce_SP_oneStep.2.2.1 ce_SP_oneStep.2.2.2.1 (Nat.le_of_ble_eq_true rfl) (fun v9 n9 h9 hq9 => ?_) (fun k9 n9 h9 hq9 => by cases hq9.1)
    obtain ⟨e9, rfl, H2, hF2, hE2⟩ := hq9
    cases e9
    refine mm_if_eq (tgt := 18) d_SP_runSteps_13 (by decide) (fun c_13 => ?_) (fun c_13 => ?_)
    · refine mm_iinc (v := (nI i) + 1) d_SP_runSteps_18 rfl rfl (by decide) ?_
      refine mm_goto (tgt := 4) d_SP_runSteps_21 (by decide) ?_
      refine mm_G.cast (l' := [some (.ref x), some (.int v), some (.int r), some (.int (nI (i + 1)))]) (by rw [nI_1]; rfl) rfl rfl (ih (i + 1) (c_step c).1 r h9 (by omega) H2 (CFr.tr hE hF hF2) (CE.tr hE hE2) hr (by simpa [c_steps, c_13] using hq))
    · refine mm_iconst (v := 1) d_SP_runSteps_16 (by decide) ?_
      refine mm_istore_n d_SP_runSteps_17 (by decide) ?_
      refine mm_iinc (v := (nI i) + 1) d_SP_runSteps_18 rfl rfl (by decide) ?_
      refine mm_goto (tgt := 4) d_SP_runSteps_21 (by decide) ?_
      refine mm_G.cast (l' := [some (.ref x), some (.int v), some (.int 1), some (.int (nI (i + 1)))]) (by rw [nI_1]; rfl) rfl rfl (ih (i + 1) (c_step c).1 1 h9 (by omega) H2 (CFr.tr hE hF hF2) (CE.tr hE hE2) (Or.inr rfl) (by simpa [c_steps, c_13] using hq))
set_option maxRecDepth 100000 in
set_option maxHeartbeats 4000000 in
theorem J_SP_runSteps {sc : mm_Sc} {n : Nat} {h : mm_H} {x : Nat} {pa : Nat → Nat} {c : cS} {v : Int32} (H : CH h x pa c)  : mm_J sc y_SP_runSteps 7 [.ref x, .int v] n h 0 0 (CQ (some (.int (c_steps v.toNatClampNeg c 0).2)) n h x pa c (c_steps v.toNatClampNeg c 0).1) := by
  refine mm_J.of (show mm_G sc y_SP_runSteps 7 0 [some (.ref x), some (.int v), none, none] [] n h 0 0 _ from ?_) ce_SP_runSteps.2.2.2.2.1 (Nat.le_of_ble_eq_true rfl) (by simp [Value.category])
  have q0 : h x = some (.inr (0, [.ref (x + 1), .ref (x + 2), .ref (x + 5), .int (nI c.1), .int c.2.2.2.2.2.2.2.2.1, .int c.2.2.2.2.2.2.2.2.2])) := H.1
  have q1 : h (x + 1) = some (.inl (3, 12, .inr (.inr (.inr (.inr (c_refs c.1 pa)))))) := H.2.1
  have q2 : h (x + 2) = some (.inr (1, [.ref (x + 3), .ref (x + 4), .int c.2.2.2.2.2.1, .int c.2.2.2.2.2.2.1, .int c.2.2.2.2.2.2.2.1])) := H.2.2.1
  have q3 : h (x + 3) = some (.inl (0, 16, .inl c.2.2.1)) := H.2.2.2.1
  have q4 : h (x + 4) = some (.inl (0, 16, .inl c.2.2.2.1)) := H.2.2.2.2.1
  have q5 : h (x + 5) = some (.inl (0, 4, .inl c.2.2.2.2.1)) := H.2.2.2.2.2.1
  have q6 : c.1 ≤ 12 := H.2.2.2.2.2.2.1
  have q7 : ∀ j9, j9 < c.1 → PH h (pa j9) (c.2.1 j9) ∧ x + 6 ≤ pa j9 := H.2.2.2.2.2.2.2.1
  refine mm_iconst (v := 0) d_SP_runSteps_0 (by decide) ?_
  refine mm_istore_n d_SP_runSteps_1 (by decide) ?_
  refine mm_iconst (v := 0) d_SP_runSteps_2 (by decide) ?_
  refine mm_istore_n d_SP_runSteps_3 (by decide) ?_
  exact lp_run (by decide) v.toNatClampNeg 0 c 0 h (by omega) H CFr.rf (CE.rf c) (Or.inl rfl) (fun h' a b c => ⟨rfl, rfl, a, b, c⟩)
def c_stepN (k : Int32) (c : cS) : cA × cS := if k < 1 then (.inr 0, c) else if 1000 < k then (.inr 0, c) else (.inl (c_steps k.toNatClampNeg c 0).2, (c_steps k.toNatClampNeg c 0).1)
set_option maxRecDepth 100000 in
set_option maxHeartbeats 4000000 in
theorem J_SP_step {sc : mm_Sc} {n : Nat} {h : mm_H} {x : Nat} {pa : Nat → Nat} {c : cS} {k : Int32} (H : CH h x pa c)  : mm_J sc y_SP_step 8 [.ref x, .int k] n h 1 6 (CI (c_stepN k c) n h x pa c) := by
  refine mm_J.of (show mm_G sc y_SP_step 8 0 [some (.ref x), some (.int k)] [] n h 1 6 _ from ?_) ce_SP_step.2.2.2.2.1 (Nat.le_of_ble_eq_true rfl) (by simp [Value.category])
  have q0 : h x = some (.inr (0, [.ref (x + 1), .ref (x + 2), .ref (x + 5), .int (nI c.1), .int c.2.2.2.2.2.2.2.2.1, .int c.2.2.2.2.2.2.2.2.2])) := H.1
  have q1 : h (x + 1) = some (.inl (3, 12, .inr (.inr (.inr (.inr (c_refs c.1 pa)))))) := H.2.1
  have q2 : h (x + 2) = some (.inr (1, [.ref (x + 3), .ref (x + 4), .int c.2.2.2.2.2.1, .int c.2.2.2.2.2.2.1, .int c.2.2.2.2.2.2.2.1])) := H.2.2.1
  have q3 : h (x + 3) = some (.inl (0, 16, .inl c.2.2.1)) := H.2.2.2.1
  have q4 : h (x + 4) = some (.inl (0, 16, .inl c.2.2.2.1)) := H.2.2.2.2.1
  have q5 : h (x + 5) = some (.inl (0, 4, .inl c.2.2.2.2.1)) := H.2.2.2.2.2.1
  have q6 : c.1 ≤ 12 := H.2.2.2.2.2.2.1
  have q7 : ∀ j9, j9 < c.1 → PH h (pa j9) (c.2.1 j9) ∧ x + 6 ≤ pa j9 := H.2.2.2.2.2.2.2.1
  refine mm_iload_n d_SP_step_0 rfl ?_
  refine mm_iconst (v := 1) d_SP_step_1 (by decide) ?_
  refine mm_icmp_lt (tgt := 12) d_SP_step_2 (by decide) (fun c_2 => ?_) (fun c_2 => ?_)
  · exact mm_throw (kc := 0) (ks := 0) xs_ok xo_SP_step_12 d_SP_step_12 d_SP_step_15 d_SP_step_16 d_SP_step_18 d_SP_step_21 rfl (by decide) (Nat.le_of_ble_eq_true rfl) (fun n8 hn8 => (CI.of (a := .inr 0) (c' := c) (by simp [c_stepN, c_2, Int32.not_le.mpr c_2]) rfl (by omega) H CFr.rf (CE.rf _)))
  · refine mm_iload_n d_SP_step_5 rfl ?_
    refine mm_sipush (v := 1000) d_SP_step_6 (by decide) ?_
    refine mm_icmp_le (tgt := 22) d_SP_step_9 (by decide) (fun c_9 => ?_) (fun c_9 => ?_)
    · refine mm_aload_n d_SP_step_22 rfl ?_
      refine mm_iload_n d_SP_step_23 rfl ?_
      refine mm_call (kc' := 0) (ks' := 0) d_SP_step_24 (mm_Inv.vi (as := [.int k]) d_SP_step_24 (Or.inl m_464) m_466 ce_SP_runSteps.2.1 ce_SP_runSteps.2.2.1 mp_8 ce_SP_runSteps.2.2.2.2.2 ln_SP_runSteps cl_SP q0 rfl) (J_SP_runSteps H) (by decide) ce_SP_runSteps.1 ce_SP_runSteps.2.1 ce_SP_runSteps.2.2.1 ce_SP_runSteps.2.2.2.1 (Nat.le_of_ble_eq_true rfl) (fun v9 n9 h1 hq9 => ?_) (fun k9 n9 h9 hq9 => by cases hq9.1)
      obtain ⟨e9, rfl, H1, hF1, hE1⟩ := hq9
      cases e9
      have hT2 := CFr.tr (CE.rf _) CFr.rf hF1
      have hS2 := CE.tr (CE.rf _) hE1
      generalize gc2 : (c_steps k.toNatClampNeg c 0).1 = c2 at H1 hT2 hS2 hE1
      have q0_2 : h1 x = some (.inr (0, [.ref (x + 1), .ref (x + 2), .ref (x + 5), .int (nI c2.1), .int c2.2.2.2.2.2.2.2.2.1, .int c2.2.2.2.2.2.2.2.2.2])) := H1.1
      have q1_2 : h1 (x + 1) = some (.inl (3, 12, .inr (.inr (.inr (.inr (c_refs c2.1 pa)))))) := H1.2.1
      have q2_2 : h1 (x + 2) = some (.inr (1, [.ref (x + 3), .ref (x + 4), .int c2.2.2.2.2.2.1, .int c2.2.2.2.2.2.2.1, .int c2.2.2.2.2.2.2.2.1])) := H1.2.2.1
      have q3_2 : h1 (x + 3) = some (.inl (0, 16, .inl c2.2.2.1)) := H1.2.2.2.1
      have q4_2 : h1 (x + 4) = some (.inl (0, 16, .inl c2.2.2.2.1)) := H1.2.2.2.2.1
      have q5_2 : h1 (x + 5) = some (.inl (0, 4, .inl c2.2.2.2.2.1)) := H1.2.2.2.2.2.1
      have q6_2 : c2.1 ≤ 12 := H1.2.2.2.2.2.2.1
      have q7_2 : ∀ j9, j9 < c2.1 → PH h1 (pa j9) (c2.2.1 j9) ∧ x + 6 ≤ pa j9 := H1.2.2.2.2.2.2.2.1
      exact mm_zreturn d_SP_step_27 rfl (z01 (c_steps_01 _ _ _ (Or.inl rfl))) (CI.of (a := .inl ((c_steps k.toNatClampNeg c 0).2)) (c' := c2) (by simp [c_stepN, c_2, Int32.not_lt.mp c_2, c_9, Int32.not_lt.mpr c_9]; exact gc2) rfl (by omega) H1 hT2 hS2)
    · exact mm_throw (kc := 0) (ks := 0) xs_ok xo_SP_step_12 d_SP_step_12 d_SP_step_15 d_SP_step_16 d_SP_step_18 d_SP_step_21 rfl (by decide) (Nat.le_of_ble_eq_true rfl) (fun n8 hn8 => (CI.of (a := .inr 0) (c' := c) (by simp [c_stepN, c_2, Int32.not_lt.mp c_2, c_9, Int32.not_le.mp c_9]) rfl (by omega) H CFr.rf (CE.rf _)))
def c_pend (c : cS) : Int32 := ln_pen c.2.2.1 c.2.2.2.2.2.2.1 c.2.2.2.2.2.2.2.1 16
def c_best (c : cS) : Int32 := (ln_bst c.2.2.2.1 (c_pend c &&& (c.2.2.2.2.2.1 ^^^ (-1))) 16).1
def c_asks (l : Int32) (c : cS) : cA × cS := if sp_isLine l = 0 then (.inr 2, c) else (.inl (((c.2.2.2.2.2.2.1 >>> (l &&& 31)) &&& 1) + 2 * ((c_pend c >>> (l &&& 31)) &&& 1)), c)
set_option maxRecDepth 100000 in
set_option maxHeartbeats 4000000 in
theorem J_SP_asks {sc : mm_Sc} {n : Nat} {h : mm_H} {x : Nat} {pa : Nat → Nat} {c : cS} {l : Int32} (H : CH h x pa c)  : mm_J sc y_SP_asks 8 [.ref x, .int l] n h 1 6 (CI (c_asks l c) n h x pa c) := by
  refine mm_J.of (show mm_G sc y_SP_asks 8 0 [some (.ref x), some (.int l), none, none] [] n h 1 6 _ from ?_) ce_SP_asks.2.2.2.2.1 (Nat.le_of_ble_eq_true rfl) (by simp [Value.category])
  have q0 : h x = some (.inr (0, [.ref (x + 1), .ref (x + 2), .ref (x + 5), .int (nI c.1), .int c.2.2.2.2.2.2.2.2.1, .int c.2.2.2.2.2.2.2.2.2])) := H.1
  have q1 : h (x + 1) = some (.inl (3, 12, .inr (.inr (.inr (.inr (c_refs c.1 pa)))))) := H.2.1
  have q2 : h (x + 2) = some (.inr (1, [.ref (x + 3), .ref (x + 4), .int c.2.2.2.2.2.1, .int c.2.2.2.2.2.2.1, .int c.2.2.2.2.2.2.2.1])) := H.2.2.1
  have q3 : h (x + 3) = some (.inl (0, 16, .inl c.2.2.1)) := H.2.2.2.1
  have q4 : h (x + 4) = some (.inl (0, 16, .inl c.2.2.2.1)) := H.2.2.2.2.1
  have q5 : h (x + 5) = some (.inl (0, 4, .inl c.2.2.2.2.1)) := H.2.2.2.2.2.1
  have q6 : c.1 ≤ 12 := H.2.2.2.2.2.2.1
  have q7 : ∀ j9, j9 < c.1 → PH h (pa j9) (c.2.1 j9) ∧ x + 6 ≤ pa j9 := H.2.2.2.2.2.2.2.1
  refine mm_iload_n d_SP_asks_0 rfl ?_
  refine mm_callD (kc' := 0) (ks' := 0) d_SP_asks_1 (mm_Inv.sta (as := [.int l]) d_SP_asks_1 (Or.inl m_147) m_148 ce_SP_isLine.2.1 ce_SP_isLine.2.2.1 ce_SP_isLine.2.2.2.1 ce_SP_isLine.2.2.2.2.2 ln_SP_isLine rfl) J_SP_isLine (by decide) ce_SP_isLine.1 ce_SP_isLine.2.1 ce_SP_isLine.2.2.1 ce_SP_isLine.2.2.2.1 (Nat.le_of_ble_eq_true rfl) ?_
  refine mm_if_ne (tgt := 17) d_SP_asks_4 (by decide) (fun c_4 => ?_) (fun c_4 => ?_)
  · refine mm_aload_n d_SP_asks_17 rfl ?_
    refine mm_getf d_SP_asks_18 cl_SP fl_SP_18_SP (by decide) q0 rfl ?_
    refine mm_getf d_SP_asks_21 cl_Lines fl_SP_162_Lines (by decide) q2 rfl ?_
    refine mm_iload_n d_SP_asks_24 rfl ?_
    refine mm_ishr d_SP_asks_25 ?_
    refine mm_iconst (v := 1) d_SP_asks_26 (by decide) ?_
    refine mm_iand d_SP_asks_27 ?_
    refine mm_istore_n d_SP_asks_28 (by decide) ?_
    refine mm_aload_n d_SP_asks_29 rfl ?_
    refine mm_getf d_SP_asks_30 cl_SP fl_SP_18_SP (by decide) q0 rfl ?_
    refine mm_callD (kc' := 0) (ks' := 0) d_SP_asks_33 (mm_Inv.vi (as := []) d_SP_asks_33 (Or.inl m_125) m_81 ce_Lines_pending.2.1 ce_Lines_pending.2.2.1 m_82 ce_Lines_pending.2.2.2.2.2 ln_Lines_pending cl_Lines q2 rfl) (J_Lines_pending (show x + 3 ≠ x + 4 by omega) q2 q3 q4) (by decide) ce_Lines_pending.1 ce_Lines_pending.2.1 ce_Lines_pending.2.2.1 ce_Lines_pending.2.2.2.1 (Nat.le_of_ble_eq_true rfl) ?_
    refine mm_iload_n d_SP_asks_36 rfl ?_
    refine mm_ishr d_SP_asks_37 ?_
    refine mm_iconst (v := 1) d_SP_asks_38 (by decide) ?_
    refine mm_iand d_SP_asks_39 ?_
    refine mm_istore_n d_SP_asks_40 (by decide) ?_
    refine mm_iload_n d_SP_asks_41 rfl ?_
    refine mm_iconst (v := 2) d_SP_asks_42 (by decide) ?_
    refine mm_iload_n d_SP_asks_43 rfl ?_
    refine mm_imul d_SP_asks_44 ?_
    refine mm_iadd d_SP_asks_45 ?_
    exact mm_ireturn d_SP_asks_46 rfl (CI.of (a := .inl (((c.2.2.2.2.2.2.1 >>> (l &&& 31)) &&& 1) + (2 * (((c_pend c) >>> (l &&& 31)) &&& 1)))) (c' := c) (by simp [c_asks, c_4] <;> rfl) rfl (by omega) H CFr.rf (CE.rf _))
  · exact mm_throw (kc := 0) (ks := 0) xs_ok xo_SP_asks_7 d_SP_asks_7 d_SP_asks_10 d_SP_asks_11 d_SP_asks_13 d_SP_asks_16 rfl (by decide) (Nat.le_of_ble_eq_true rfl) (fun n8 hn8 => (CI.of (a := .inr 2) (c' := c) (by simp [c_asks, c_4]) rfl (by omega) H CFr.rf (CE.rf _)))
def c_chosen (c : cS) : cA × cS := (.inl (c_best c), c)
set_option maxRecDepth 100000 in
set_option maxHeartbeats 4000000 in
theorem J_SP_chosen {sc : mm_Sc} {n : Nat} {h : mm_H} {x : Nat} {pa : Nat → Nat} {c : cS}  (H : CH h x pa c)  : mm_J sc y_SP_chosen 8 [.ref x] n h 0 0 (CI (c_chosen c) n h x pa c) := by
  refine mm_J.of (show mm_G sc y_SP_chosen 8 0 [some (.ref x)] [] n h 0 0 _ from ?_) ce_SP_chosen.2.2.2.2.1 (Nat.le_of_ble_eq_true rfl) (by simp [Value.category])
  have q0 : h x = some (.inr (0, [.ref (x + 1), .ref (x + 2), .ref (x + 5), .int (nI c.1), .int c.2.2.2.2.2.2.2.2.1, .int c.2.2.2.2.2.2.2.2.2])) := H.1
  have q1 : h (x + 1) = some (.inl (3, 12, .inr (.inr (.inr (.inr (c_refs c.1 pa)))))) := H.2.1
  have q2 : h (x + 2) = some (.inr (1, [.ref (x + 3), .ref (x + 4), .int c.2.2.2.2.2.1, .int c.2.2.2.2.2.2.1, .int c.2.2.2.2.2.2.2.1])) := H.2.2.1
  have q3 : h (x + 3) = some (.inl (0, 16, .inl c.2.2.1)) := H.2.2.2.1
  have q4 : h (x + 4) = some (.inl (0, 16, .inl c.2.2.2.1)) := H.2.2.2.2.1
  have q5 : h (x + 5) = some (.inl (0, 4, .inl c.2.2.2.2.1)) := H.2.2.2.2.2.1
  have q6 : c.1 ≤ 12 := H.2.2.2.2.2.2.1
  have q7 : ∀ j9, j9 < c.1 → PH h (pa j9) (c.2.1 j9) ∧ x + 6 ≤ pa j9 := H.2.2.2.2.2.2.2.1
  refine mm_aload_n d_SP_chosen_0 rfl ?_
  refine mm_getf d_SP_chosen_1 cl_SP fl_SP_18_SP (by decide) q0 rfl ?_
  refine mm_callD (kc' := 0) (ks' := 0) d_SP_chosen_4 (mm_Inv.vi (as := []) d_SP_chosen_4 (Or.inl m_76) m_77 ce_Lines_best.2.1 ce_Lines_best.2.2.1 m_78 ce_Lines_best.2.2.2.2.2 ln_Lines_best cl_Lines q2 rfl) (J_Lines_best (show x + 3 ≠ x + 4 by omega) q2 q3 q4) (by decide) ce_Lines_best.1 ce_Lines_best.2.1 ce_Lines_best.2.2.1 ce_Lines_best.2.2.2.1 (Nat.le_of_ble_eq_true rfl) ?_
  exact mm_ireturn d_SP_chosen_7 rfl (CI.of (a := .inl (c_best c)) (c' := c) (by simp [c_chosen] <;> rfl) rfl (by omega) H CFr.rf (CE.rf _))
def c_take (c : cS) : cA × cS := (.inl (c_best c), if c_best c = -1 then c else (c.1, c.2.1, c.2.2.1, c.2.2.2.1, c.2.2.2.2.1, c.2.2.2.2.2.1, c.2.2.2.2.2.2.1, ln_forget c.2.2.2.2.2.2.2.1 (c_best c), c.2.2.2.2.2.2.2.2.1, c.2.2.2.2.2.2.2.2.2))
set_option maxRecDepth 100000 in
set_option maxHeartbeats 4000000 in
theorem J_SP_take {sc : mm_Sc} {n : Nat} {h : mm_H} {x : Nat} {pa : Nat → Nat} {c : cS}  (H : CH h x pa c)  : mm_J sc y_SP_take 8 [.ref x] n h 0 0 (CI (c_take c) n h x pa c) := by
  refine mm_J.of (show mm_G sc y_SP_take 8 0 [some (.ref x), none] [] n h 0 0 _ from ?_) ce_SP_take.2.2.2.2.1 (Nat.le_of_ble_eq_true rfl) (by simp [Value.category])
  have q0 : h x = some (.inr (0, [.ref (x + 1), .ref (x + 2), .ref (x + 5), .int (nI c.1), .int c.2.2.2.2.2.2.2.2.1, .int c.2.2.2.2.2.2.2.2.2])) := H.1
  have q1 : h (x + 1) = some (.inl (3, 12, .inr (.inr (.inr (.inr (c_refs c.1 pa)))))) := H.2.1
  have q2 : h (x + 2) = some (.inr (1, [.ref (x + 3), .ref (x + 4), .int c.2.2.2.2.2.1, .int c.2.2.2.2.2.2.1, .int c.2.2.2.2.2.2.2.1])) := H.2.2.1
  have q3 : h (x + 3) = some (.inl (0, 16, .inl c.2.2.1)) := H.2.2.2.1
  have q4 : h (x + 4) = some (.inl (0, 16, .inl c.2.2.2.1)) := H.2.2.2.2.1
  have q5 : h (x + 5) = some (.inl (0, 4, .inl c.2.2.2.2.1)) := H.2.2.2.2.2.1
  have q6 : c.1 ≤ 12 := H.2.2.2.2.2.2.1
  have q7 : ∀ j9, j9 < c.1 → PH h (pa j9) (c.2.1 j9) ∧ x + 6 ≤ pa j9 := H.2.2.2.2.2.2.2.1
  refine mm_aload_n d_SP_take_0 rfl ?_
  refine mm_getf d_SP_take_1 cl_SP fl_SP_18_SP (by decide) q0 rfl ?_
  refine mm_callD (kc' := 0) (ks' := 0) d_SP_take_4 (mm_Inv.vi (as := []) d_SP_take_4 (Or.inl m_76) m_77 ce_Lines_best.2.1 ce_Lines_best.2.2.1 m_78 ce_Lines_best.2.2.2.2.2 ln_Lines_best cl_Lines q2 rfl) (J_Lines_best (show x + 3 ≠ x + 4 by omega) q2 q3 q4) (by decide) ce_Lines_best.1 ce_Lines_best.2.1 ce_Lines_best.2.2.1 ce_Lines_best.2.2.2.1 (Nat.le_of_ble_eq_true rfl) ?_
  refine mm_istore_n d_SP_take_7 (by decide) ?_
  refine mm_iload_n d_SP_take_8 rfl ?_
  refine mm_iconst (v := (-1)) d_SP_take_9 (by decide) ?_
  refine mm_icmp_eq (tgt := 21) d_SP_take_10 (by decide) (fun c_10 => ?_) (fun c_10 => ?_)
  · refine mm_iload_n d_SP_take_21 rfl ?_
    exact mm_ireturn d_SP_take_22 rfl (CI.of (a := .inl (c_best c)) (c' := c) (by have c9 : c_best c = -1 := c_10; unfold c_take; rw [if_pos c9]) rfl (by omega) H CFr.rf (CE.rf _))
  · refine mm_aload_n d_SP_take_13 rfl ?_
    refine mm_getf d_SP_take_14 cl_SP fl_SP_18_SP (by decide) q0 rfl ?_
    refine mm_iload_n d_SP_take_17 rfl ?_
    refine mm_callD (kc' := 0) (ks' := 0) d_SP_take_18 (mm_Inv.vi (as := [.int (c_best c)]) d_SP_take_18 (Or.inl m_88) m_89 ce_Lines_forget.2.1 ce_Lines_forget.2.2.1 m_90 ce_Lines_forget.2.2.2.2.2 ln_Lines_forget cl_Lines q2 rfl) (J_Lines_forget (show x + 3 ≠ x + 4 by omega) q2 q3 q4) (by decide) ce_Lines_forget.1 ce_Lines_forget.2.1 ce_Lines_forget.2.2.1 ce_Lines_forget.2.2.2.1 (Nat.le_of_ble_eq_true rfl) ?_
    obtain ⟨H3, hF3, hE3⟩ := CH_lines' (hi2 := c.2.2.2.2.2.1) (u2 := c.2.2.2.2.2.2.1) (kp2 := ln_forget c.2.2.2.2.2.2.2.1 (c_best c)) H
    have hT4 := CFr.tr (CE.rf _) CFr.rf hF3
    have hS4 := CE.tr (CE.rf _) hE3
    have q0_4 : (va_up h (x + 2) (some (.inr (1, [.ref (x + 3), .ref (x + 4), .int c.2.2.2.2.2.1, .int c.2.2.2.2.2.2.1, .int (ln_forget c.2.2.2.2.2.2.2.1 (c_best c))])))) x = some (.inr (0, [.ref (x + 1), .ref (x + 2), .ref (x + 5), .int (nI (c.1, c.2.1, c.2.2.1, c.2.2.2.1, c.2.2.2.2.1, c.2.2.2.2.2.1, c.2.2.2.2.2.2.1, ln_forget c.2.2.2.2.2.2.2.1 (c_best c), c.2.2.2.2.2.2.2.2.1, c.2.2.2.2.2.2.2.2.2).1), .int ((c.1, c.2.1, c.2.2.1, c.2.2.2.1, c.2.2.2.2.1, c.2.2.2.2.2.1, c.2.2.2.2.2.2.1, ln_forget c.2.2.2.2.2.2.2.1 (c_best c), c.2.2.2.2.2.2.2.2.1, c.2.2.2.2.2.2.2.2.2).2.2.2.2.2.2.2.2.1), .int ((c.1, c.2.1, c.2.2.1, c.2.2.2.1, c.2.2.2.2.1, c.2.2.2.2.2.1, c.2.2.2.2.2.2.1, ln_forget c.2.2.2.2.2.2.2.1 (c_best c), c.2.2.2.2.2.2.2.2.1, c.2.2.2.2.2.2.2.2.2).2.2.2.2.2.2.2.2.2)])) := H3.1
    have q1_4 : (va_up h (x + 2) (some (.inr (1, [.ref (x + 3), .ref (x + 4), .int c.2.2.2.2.2.1, .int c.2.2.2.2.2.2.1, .int (ln_forget c.2.2.2.2.2.2.2.1 (c_best c))])))) (x + 1) = some (.inl (3, 12, .inr (.inr (.inr (.inr (c_refs (c.1, c.2.1, c.2.2.1, c.2.2.2.1, c.2.2.2.2.1, c.2.2.2.2.2.1, c.2.2.2.2.2.2.1, ln_forget c.2.2.2.2.2.2.2.1 (c_best c), c.2.2.2.2.2.2.2.2.1, c.2.2.2.2.2.2.2.2.2).1 pa)))))) := H3.2.1
    have q2_4 : (va_up h (x + 2) (some (.inr (1, [.ref (x + 3), .ref (x + 4), .int c.2.2.2.2.2.1, .int c.2.2.2.2.2.2.1, .int (ln_forget c.2.2.2.2.2.2.2.1 (c_best c))])))) (x + 2) = some (.inr (1, [.ref (x + 3), .ref (x + 4), .int ((c.1, c.2.1, c.2.2.1, c.2.2.2.1, c.2.2.2.2.1, c.2.2.2.2.2.1, c.2.2.2.2.2.2.1, ln_forget c.2.2.2.2.2.2.2.1 (c_best c), c.2.2.2.2.2.2.2.2.1, c.2.2.2.2.2.2.2.2.2).2.2.2.2.2.1), .int ((c.1, c.2.1, c.2.2.1, c.2.2.2.1, c.2.2.2.2.1, c.2.2.2.2.2.1, c.2.2.2.2.2.2.1, ln_forget c.2.2.2.2.2.2.2.1 (c_best c), c.2.2.2.2.2.2.2.2.1, c.2.2.2.2.2.2.2.2.2).2.2.2.2.2.2.1), .int ((c.1, c.2.1, c.2.2.1, c.2.2.2.1, c.2.2.2.2.1, c.2.2.2.2.2.1, c.2.2.2.2.2.2.1, ln_forget c.2.2.2.2.2.2.2.1 (c_best c), c.2.2.2.2.2.2.2.2.1, c.2.2.2.2.2.2.2.2.2).2.2.2.2.2.2.2.1)])) := H3.2.2.1
    have q3_4 : (va_up h (x + 2) (some (.inr (1, [.ref (x + 3), .ref (x + 4), .int c.2.2.2.2.2.1, .int c.2.2.2.2.2.2.1, .int (ln_forget c.2.2.2.2.2.2.2.1 (c_best c))])))) (x + 3) = some (.inl (0, 16, .inl ((c.1, c.2.1, c.2.2.1, c.2.2.2.1, c.2.2.2.2.1, c.2.2.2.2.2.1, c.2.2.2.2.2.2.1, ln_forget c.2.2.2.2.2.2.2.1 (c_best c), c.2.2.2.2.2.2.2.2.1, c.2.2.2.2.2.2.2.2.2).2.2.1))) := H3.2.2.2.1
    have q4_4 : (va_up h (x + 2) (some (.inr (1, [.ref (x + 3), .ref (x + 4), .int c.2.2.2.2.2.1, .int c.2.2.2.2.2.2.1, .int (ln_forget c.2.2.2.2.2.2.2.1 (c_best c))])))) (x + 4) = some (.inl (0, 16, .inl ((c.1, c.2.1, c.2.2.1, c.2.2.2.1, c.2.2.2.2.1, c.2.2.2.2.2.1, c.2.2.2.2.2.2.1, ln_forget c.2.2.2.2.2.2.2.1 (c_best c), c.2.2.2.2.2.2.2.2.1, c.2.2.2.2.2.2.2.2.2).2.2.2.1))) := H3.2.2.2.2.1
    have q5_4 : (va_up h (x + 2) (some (.inr (1, [.ref (x + 3), .ref (x + 4), .int c.2.2.2.2.2.1, .int c.2.2.2.2.2.2.1, .int (ln_forget c.2.2.2.2.2.2.2.1 (c_best c))])))) (x + 5) = some (.inl (0, 4, .inl ((c.1, c.2.1, c.2.2.1, c.2.2.2.1, c.2.2.2.2.1, c.2.2.2.2.2.1, c.2.2.2.2.2.2.1, ln_forget c.2.2.2.2.2.2.2.1 (c_best c), c.2.2.2.2.2.2.2.2.1, c.2.2.2.2.2.2.2.2.2).2.2.2.2.1))) := H3.2.2.2.2.2.1
    have q6_4 : (c.1, c.2.1, c.2.2.1, c.2.2.2.1, c.2.2.2.2.1, c.2.2.2.2.2.1, c.2.2.2.2.2.2.1, ln_forget c.2.2.2.2.2.2.2.1 (c_best c), c.2.2.2.2.2.2.2.2.1, c.2.2.2.2.2.2.2.2.2).1 ≤ 12 := H3.2.2.2.2.2.2.1
    have q7_4 : ∀ j9, j9 < (c.1, c.2.1, c.2.2.1, c.2.2.2.1, c.2.2.2.2.1, c.2.2.2.2.2.1, c.2.2.2.2.2.2.1, ln_forget c.2.2.2.2.2.2.2.1 (c_best c), c.2.2.2.2.2.2.2.2.1, c.2.2.2.2.2.2.2.2.2).1 → PH (va_up h (x + 2) (some (.inr (1, [.ref (x + 3), .ref (x + 4), .int c.2.2.2.2.2.1, .int c.2.2.2.2.2.2.1, .int (ln_forget c.2.2.2.2.2.2.2.1 (c_best c))])))) (pa j9) ((c.1, c.2.1, c.2.2.1, c.2.2.2.1, c.2.2.2.2.1, c.2.2.2.2.2.1, c.2.2.2.2.2.2.1, ln_forget c.2.2.2.2.2.2.2.1 (c_best c), c.2.2.2.2.2.2.2.2.1, c.2.2.2.2.2.2.2.2.2).2.1 j9) ∧ x + 6 ≤ pa j9 := H3.2.2.2.2.2.2.2.1
    refine mm_iload_n d_SP_take_21 rfl ?_
    exact mm_ireturn d_SP_take_22 rfl (CI.of (a := .inl (c_best c)) (c' := (c.1, c.2.1, c.2.2.1, c.2.2.2.1, c.2.2.2.2.1, c.2.2.2.2.2.1, c.2.2.2.2.2.2.1, ln_forget c.2.2.2.2.2.2.2.1 (c_best c), c.2.2.2.2.2.2.2.2.1, c.2.2.2.2.2.2.2.2.2)) (by have c9 : ¬ c_best c = -1 := c_10; unfold c_take; rw [if_neg c9]) rfl (by omega) H3 hT4 hS4)
def c_resetN (c : cS) : cA × cS := (.inl c.2.2.2.2.2.2.2.2.2, c_reset 1 c)
set_option maxRecDepth 100000 in
set_option maxHeartbeats 4000000 in
theorem J_SP_reset {sc : mm_Sc} {n : Nat} {h : mm_H} {x : Nat} {pa : Nat → Nat} {c : cS}  (H : CH h x pa c)  : mm_J sc y_SP_reset 8 [.ref x] n h 0 0 (CI (c_resetN c) n h x pa c) := by
  refine mm_J.of (show mm_G sc y_SP_reset 8 0 [some (.ref x), none] [] n h 0 0 _ from ?_) ce_SP_reset.2.2.2.2.1 (Nat.le_of_ble_eq_true rfl) (by simp [Value.category])
  have q0 : h x = some (.inr (0, [.ref (x + 1), .ref (x + 2), .ref (x + 5), .int (nI c.1), .int c.2.2.2.2.2.2.2.2.1, .int c.2.2.2.2.2.2.2.2.2])) := H.1
  have q1 : h (x + 1) = some (.inl (3, 12, .inr (.inr (.inr (.inr (c_refs c.1 pa)))))) := H.2.1
  have q2 : h (x + 2) = some (.inr (1, [.ref (x + 3), .ref (x + 4), .int c.2.2.2.2.2.1, .int c.2.2.2.2.2.2.1, .int c.2.2.2.2.2.2.2.1])) := H.2.2.1
  have q3 : h (x + 3) = some (.inl (0, 16, .inl c.2.2.1)) := H.2.2.2.1
  have q4 : h (x + 4) = some (.inl (0, 16, .inl c.2.2.2.1)) := H.2.2.2.2.1
  have q5 : h (x + 5) = some (.inl (0, 4, .inl c.2.2.2.2.1)) := H.2.2.2.2.2.1
  have q6 : c.1 ≤ 12 := H.2.2.2.2.2.2.1
  have q7 : ∀ j9, j9 < c.1 → PH h (pa j9) (c.2.1 j9) ∧ x + 6 ≤ pa j9 := H.2.2.2.2.2.2.2.1
  refine mm_aload_n d_SP_reset_0 rfl ?_
  refine mm_getf d_SP_reset_1 cl_SP fl_SP_33_SP (by decide) q0 rfl ?_
  refine mm_istore_n d_SP_reset_4 (by decide) ?_
  refine mm_aload_n d_SP_reset_5 rfl ?_
  refine mm_iconst (v := 1) d_SP_reset_6 (by decide) ?_
  refine mm_call (kc' := 0) (ks' := 0) d_SP_reset_7 (mm_Inv.vi (as := [.int 1]) d_SP_reset_7 (Or.inl m_96) m_98 ce_SP_resetAll.2.1 ce_SP_resetAll.2.2.1 mp_0 ce_SP_resetAll.2.2.2.2.2 ln_SP_resetAll cl_SP q0 rfl) (K_resetAll H) (by decide) ce_SP_resetAll.1 ce_SP_resetAll.2.1 ce_SP_resetAll.2.2.1 ce_SP_resetAll.2.2.2.1 (Nat.le_of_ble_eq_true rfl) (fun v9 n9 h5 hq9 => ?_) (fun k9 n9 h9 hq9 => by cases hq9.1)
  obtain ⟨e9, rfl, H5, hF5, hE5⟩ := hq9
  cases e9
  have hT6 := CFr.tr (CE.rf _) CFr.rf hF5
  have hS6 := CE.tr (CE.rf _) hE5
  generalize gc6 : c_reset 1 c = c6 at H5 hT6 hS6 hE5
  have q0_6 : h5 x = some (.inr (0, [.ref (x + 1), .ref (x + 2), .ref (x + 5), .int (nI c6.1), .int c6.2.2.2.2.2.2.2.2.1, .int c6.2.2.2.2.2.2.2.2.2])) := H5.1
  have q1_6 : h5 (x + 1) = some (.inl (3, 12, .inr (.inr (.inr (.inr (c_refs c6.1 pa)))))) := H5.2.1
  have q2_6 : h5 (x + 2) = some (.inr (1, [.ref (x + 3), .ref (x + 4), .int c6.2.2.2.2.2.1, .int c6.2.2.2.2.2.2.1, .int c6.2.2.2.2.2.2.2.1])) := H5.2.2.1
  have q3_6 : h5 (x + 3) = some (.inl (0, 16, .inl c6.2.2.1)) := H5.2.2.2.1
  have q4_6 : h5 (x + 4) = some (.inl (0, 16, .inl c6.2.2.2.1)) := H5.2.2.2.2.1
  have q5_6 : h5 (x + 5) = some (.inl (0, 4, .inl c6.2.2.2.2.1)) := H5.2.2.2.2.2.1
  have q6_6 : c6.1 ≤ 12 := H5.2.2.2.2.2.2.1
  have q7_6 : ∀ j9, j9 < c6.1 → PH h5 (pa j9) (c6.2.1 j9) ∧ x + 6 ≤ pa j9 := H5.2.2.2.2.2.2.2.1
  refine mm_iload_n d_SP_reset_10 rfl ?_
  exact mm_ireturn d_SP_reset_11 rfl (CI.of (a := .inl c.2.2.2.2.2.2.2.2.2) (c' := c6) (by simp [c_resetN]; exact gc6) rfl (by omega) H5 hT6 hS6)
def c_line (l k v : Int32) (c : cS) : cA × cS := if sp_isLine l = 0 then (.inr 2, c) else if v < 0 then (.inr 0, c) else if v ≤ ln_max k then (.inl (ln_was c.2.2.1 c.2.2.2.1 c.2.2.2.2.2.1 l k),
  (c.1, c.2.1, (if k = 0 then (if v = c.2.2.1 l.toNatClampNeg then c.2.2.1 else upd c.2.2.1 l.toNatClampNeg v) else c.2.2.1), (if k = 1 then upd c.2.2.2.1 l.toNatClampNeg v else c.2.2.2.1), c.2.2.2.2.1, (if k = 0 then c.2.2.2.2.2.1 else if k = 1 then c.2.2.2.2.2.1 else ln_hide c.2.2.2.2.2.1 l v), c.2.2.2.2.2.2.1, (if k = 0 then (if v = c.2.2.1 l.toNatClampNeg then c.2.2.2.2.2.2.2.1 else ln_forget c.2.2.2.2.2.2.2.1 l) else c.2.2.2.2.2.2.2.1), c.2.2.2.2.2.2.2.2.1, c.2.2.2.2.2.2.2.2.2)) else (.inr 0, c)
theorem isLine_in {l : Int32} (h : ¬ sp_isLine l = 0) : ¬ l < 0 ∧ l < 16 := by
  unfold sp_isLine at h
  split at h
  · exact absurd rfl h
  · rename_i h1
    split at h
    · exact absurd rfl h
    · rename_i h2; exact ⟨h1, Int32.not_le.mp h2⟩
set_option maxRecDepth 100000 in
set_option maxHeartbeats 4000000 in
theorem J_SP_line {sc : mm_Sc} {n : Nat} {h : mm_H} {x : Nat} {pa : Nat → Nat} {c : cS} {l k v : Int32} (H : CH h x pa c)  : mm_J sc y_SP_line 8 [.ref x, .int l, .int k, .int v] n h 1 6 (CI (c_line l k v c) n h x pa c) := by
  refine mm_J.of (show mm_G sc y_SP_line 8 0 [some (.ref x), some (.int l), some (.int k), some (.int v)] [] n h 1 6 _ from ?_) ce_SP_line.2.2.2.2.1 (Nat.le_of_ble_eq_true rfl) (by simp [Value.category])
  have q0 : h x = some (.inr (0, [.ref (x + 1), .ref (x + 2), .ref (x + 5), .int (nI c.1), .int c.2.2.2.2.2.2.2.2.1, .int c.2.2.2.2.2.2.2.2.2])) := H.1
  have q1 : h (x + 1) = some (.inl (3, 12, .inr (.inr (.inr (.inr (c_refs c.1 pa)))))) := H.2.1
  have q2 : h (x + 2) = some (.inr (1, [.ref (x + 3), .ref (x + 4), .int c.2.2.2.2.2.1, .int c.2.2.2.2.2.2.1, .int c.2.2.2.2.2.2.2.1])) := H.2.2.1
  have q3 : h (x + 3) = some (.inl (0, 16, .inl c.2.2.1)) := H.2.2.2.1
  have q4 : h (x + 4) = some (.inl (0, 16, .inl c.2.2.2.1)) := H.2.2.2.2.1
  have q5 : h (x + 5) = some (.inl (0, 4, .inl c.2.2.2.2.1)) := H.2.2.2.2.2.1
  have q6 : c.1 ≤ 12 := H.2.2.2.2.2.2.1
  have q7 : ∀ j9, j9 < c.1 → PH h (pa j9) (c.2.1 j9) ∧ x + 6 ≤ pa j9 := H.2.2.2.2.2.2.2.1
  refine mm_iload_n d_SP_line_0 rfl ?_
  refine mm_callD (kc' := 0) (ks' := 0) d_SP_line_1 (mm_Inv.sta (as := [.int l]) d_SP_line_1 (Or.inl m_147) m_148 ce_SP_isLine.2.1 ce_SP_isLine.2.2.1 ce_SP_isLine.2.2.2.1 ce_SP_isLine.2.2.2.2.2 ln_SP_isLine rfl) J_SP_isLine (by decide) ce_SP_isLine.1 ce_SP_isLine.2.1 ce_SP_isLine.2.2.1 ce_SP_isLine.2.2.2.1 (Nat.le_of_ble_eq_true rfl) ?_
  refine mm_if_ne (tgt := 17) d_SP_line_4 (by decide) (fun c_4 => ?_) (fun c_4 => ?_)
  · refine mm_iload_n d_SP_line_17 rfl ?_
    refine mm_if_lt (tgt := 29) d_SP_line_18 (by decide) (fun c_18 => ?_) (fun c_18 => ?_)
    · exact mm_throw (kc := 0) (ks := 0) xs_ok xo_SP_line_29 d_SP_line_29 d_SP_line_32 d_SP_line_33 d_SP_line_35 d_SP_line_38 rfl (by decide) (Nat.le_of_ble_eq_true rfl) (fun n8 hn8 => (CI.of (a := .inr 0) (c' := c) (by simp [c_line, c_4, c_18, Int32.not_le.mpr c_18]) rfl (by omega) H CFr.rf (CE.rf _)))
    · refine mm_iload_n d_SP_line_21 rfl ?_
      refine mm_iload_n d_SP_line_22 rfl ?_
      refine mm_callD (kc' := 0) (ks' := 0) d_SP_line_23 (mm_Inv.sta (as := [.int k]) d_SP_line_23 (Or.inl m_637) m_638 ce_Lines_greatest.2.1 ce_Lines_greatest.2.2.1 ce_Lines_greatest.2.2.2.1 ce_Lines_greatest.2.2.2.2.2 ln_Lines_greatest rfl) J_Lines_greatest (by decide) ce_Lines_greatest.1 ce_Lines_greatest.2.1 ce_Lines_greatest.2.2.1 ce_Lines_greatest.2.2.2.1 (Nat.le_of_ble_eq_true rfl) ?_
      refine mm_icmp_le (tgt := 39) d_SP_line_26 (by decide) (fun c_26 => ?_) (fun c_26 => ?_)
      · refine mm_aload_n d_SP_line_39 rfl ?_
        refine mm_getf d_SP_line_40 cl_SP fl_SP_18_SP (by decide) q0 rfl ?_
        refine mm_iload_n d_SP_line_43 rfl ?_
        refine mm_iload_n d_SP_line_44 rfl ?_
        refine mm_iload_n d_SP_line_45 rfl ?_
        refine mm_callD (kc' := 0) (ks' := 0) d_SP_line_46 (mm_Inv.vi (as := [.int l, .int k, .int v]) d_SP_line_46 (Or.inl m_641) m_642 ce_Lines_change.2.1 ce_Lines_change.2.2.1 m_643 ce_Lines_change.2.2.2.2.2 ln_Lines_change cl_Lines q2 rfl) (J_Lines_change (show x + 3 ≠ x + 4 by omega) (isLine_in c_4).1 (isLine_in c_4).2 q2 q3 q4) (by decide) ce_Lines_change.1 ce_Lines_change.2.1 ce_Lines_change.2.2.1 ce_Lines_change.2.2.2.1 (Nat.le_of_ble_eq_true rfl) ?_
        obtain ⟨HA, hFA, hEA⟩ := CH_ranks (Rk2 := (if k = 1 then upd c.2.2.2.1 l.toNatClampNeg v else c.2.2.2.1)) (N := c.1) H
        obtain ⟨HB, hFB, hEB⟩ := CH_ways (Wy2 := (if k = 0 then (if v = c.2.2.1 l.toNatClampNeg then c.2.2.1 else upd c.2.2.1 l.toNatClampNeg v) else c.2.2.1)) (N := c.1) HA
        obtain ⟨HC, hFC, hEC⟩ := CH_lines (hi2 := (if k = 0 then c.2.2.2.2.2.1 else if k = 1 then c.2.2.2.2.2.1 else ln_hide c.2.2.2.2.2.1 l v)) (u2 := c.2.2.2.2.2.2.1) (kp2 := (if k = 0 then (if v = c.2.2.1 l.toNatClampNeg then c.2.2.2.2.2.2.2.1 else ln_forget c.2.2.2.2.2.2.2.1 l) else c.2.2.2.2.2.2.2.1)) (N := c.1) HB
        exact mm_ireturn d_SP_line_49 rfl (CI.of (a := .inl (ln_was c.2.2.1 c.2.2.2.1 c.2.2.2.2.2.1 l k)) (c' := _) (by simp [c_line, c_4, c_18, Int32.not_lt.mp c_18, c_26, Int32.not_lt.mpr c_26] <;> rfl) rfl (by omega) HC (CFr.tr (CE.tr hEA hEB) (CFr.tr hEA hFA hFB) hFC) (CE.tr (CE.tr hEA hEB) hEC))
      · exact mm_throw (kc := 0) (ks := 0) xs_ok xo_SP_line_29 d_SP_line_29 d_SP_line_32 d_SP_line_33 d_SP_line_35 d_SP_line_38 rfl (by decide) (Nat.le_of_ble_eq_true rfl) (fun n8 hn8 => (CI.of (a := .inr 0) (c' := c) (by simp [c_line, c_4, c_18, Int32.not_lt.mp c_18, c_26, Int32.not_le.mp c_26]) rfl (by omega) H CFr.rf (CE.rf _)))
  · exact mm_throw (kc := 0) (ks := 0) xs_ok xo_SP_line_7 d_SP_line_7 d_SP_line_10 d_SP_line_11 d_SP_line_13 d_SP_line_16 rfl (by decide) (Nat.le_of_ble_eq_true rfl) (fun n8 hn8 => (CI.of (a := .inr 2) (c' := c) (by simp [c_line, c_4]) rfl (by omega) H CFr.rf (CE.rf _)))
def c_count (k : Int32) (c : cS) : cA × cS := (.inl (if k = 0 then c.2.2.2.2.2.2.2.2.1 else if k = 1 then nI c.1 else if k = 2 then c.2.2.2.2.1 1 else if k = 3 then c.2.2.2.2.1 2 else if k = 4 then c.2.2.2.2.1 3 else if k = 5 then c.2.2.2.2.2.2.2.2.2 else if k = 6 then c.2.2.2.2.2.2.1 else if k = 7 then c_pend c else if k = 8 then c_allWaiting c.1 c.2.1 12 else if k = 9 then c_allGone c.1 c.2.1 12 else -1), c)
set_option maxRecDepth 100000 in
set_option maxHeartbeats 4000000 in
theorem J_SP_count {sc : mm_Sc} {n : Nat} {h : mm_H} {x : Nat} {pa : Nat → Nat} {c : cS} {k : Int32} (H : CH h x pa c)  : mm_J sc y_SP_count 8 [.ref x, .int k] n h 0 0 (CI (c_count k c) n h x pa c) := by
  refine mm_J.of (show mm_G sc y_SP_count 8 0 [some (.ref x), some (.int k)] [] n h 0 0 _ from ?_) ce_SP_count.2.2.2.2.1 (Nat.le_of_ble_eq_true rfl) (by simp [Value.category])
  have q0 : h x = some (.inr (0, [.ref (x + 1), .ref (x + 2), .ref (x + 5), .int (nI c.1), .int c.2.2.2.2.2.2.2.2.1, .int c.2.2.2.2.2.2.2.2.2])) := H.1
  have q1 : h (x + 1) = some (.inl (3, 12, .inr (.inr (.inr (.inr (c_refs c.1 pa)))))) := H.2.1
  have q2 : h (x + 2) = some (.inr (1, [.ref (x + 3), .ref (x + 4), .int c.2.2.2.2.2.1, .int c.2.2.2.2.2.2.1, .int c.2.2.2.2.2.2.2.1])) := H.2.2.1
  have q3 : h (x + 3) = some (.inl (0, 16, .inl c.2.2.1)) := H.2.2.2.1
  have q4 : h (x + 4) = some (.inl (0, 16, .inl c.2.2.2.1)) := H.2.2.2.2.1
  have q5 : h (x + 5) = some (.inl (0, 4, .inl c.2.2.2.2.1)) := H.2.2.2.2.2.1
  have q6 : c.1 ≤ 12 := H.2.2.2.2.2.2.1
  have q7 : ∀ j9, j9 < c.1 → PH h (pa j9) (c.2.1 j9) ∧ x + 6 ≤ pa j9 := H.2.2.2.2.2.2.2.1
  refine mm_iload_n d_SP_count_0 rfl ?_
  by_cases c_1_0 : k = 0
  · refine mm_tableIn (tgt := 56) (off := 55) d_SP_count_1 (by rw [c_1_0]; decide) (by rw [c_1_0]; decide) (by rw [c_1_0]; decide) (by decide) ?_
    refine mm_aload_n d_SP_count_56 rfl ?_
    refine mm_getf d_SP_count_57 cl_SP fl_SP_30_SP (by decide) q0 rfl ?_
    exact mm_ireturn d_SP_count_60 rfl (CI.of (a := .inl c.2.2.2.2.2.2.2.2.1) (c' := c) (by simp [c_count, c_1_0] <;> rfl) rfl (by omega) H CFr.rf (CE.rf _))
  by_cases c_1_1 : k = 1
  · refine mm_tableIn (tgt := 61) (off := 60) d_SP_count_1 (by rw [c_1_1]; decide) (by rw [c_1_1]; decide) (by rw [c_1_1]; decide) (by decide) ?_
    refine mm_aload_n d_SP_count_61 rfl ?_
    refine mm_getf d_SP_count_62 cl_SP fl_SP_26_SP (by decide) q0 rfl ?_
    exact mm_ireturn d_SP_count_65 rfl (CI.of (a := .inl (nI c.1)) (c' := c) (by simp [c_count, c_1_0, c_1_1] <;> rfl) rfl (by omega) H CFr.rf (CE.rf _))
  by_cases c_1_2 : k = 2
  · refine mm_tableIn (tgt := 66) (off := 65) d_SP_count_1 (by rw [c_1_2]; decide) (by rw [c_1_2]; decide) (by rw [c_1_2]; decide) (by decide) ?_
    refine mm_aload_n d_SP_count_66 rfl ?_
    refine mm_getf d_SP_count_67 cl_SP fl_SP_22_SP (by decide) q0 rfl ?_
    refine mm_iconst (v := 1) d_SP_count_70 (by decide) ?_
    refine mm_iald d_SP_count_71 q5 (show vp_in (nI 1) 4 from vp_in_nI (by decide) (by decide)) ?_
    exact mm_ireturn d_SP_count_72 rfl (CI.of (a := .inl (c.2.2.2.2.1 (1 : Int32).toNatClampNeg)) (c' := c) (by simp [c_count, c_1_0, c_1_1, c_1_2] <;> rfl) rfl (by omega) H CFr.rf (CE.rf _))
  by_cases c_1_3 : k = 3
  · refine mm_tableIn (tgt := 73) (off := 72) d_SP_count_1 (by rw [c_1_3]; decide) (by rw [c_1_3]; decide) (by rw [c_1_3]; decide) (by decide) ?_
    refine mm_aload_n d_SP_count_73 rfl ?_
    refine mm_getf d_SP_count_74 cl_SP fl_SP_22_SP (by decide) q0 rfl ?_
    refine mm_iconst (v := 2) d_SP_count_77 (by decide) ?_
    refine mm_iald d_SP_count_78 q5 (show vp_in (nI 2) 4 from vp_in_nI (by decide) (by decide)) ?_
    exact mm_ireturn d_SP_count_79 rfl (CI.of (a := .inl (c.2.2.2.2.1 (2 : Int32).toNatClampNeg)) (c' := c) (by simp [c_count, c_1_0, c_1_1, c_1_2, c_1_3] <;> rfl) rfl (by omega) H CFr.rf (CE.rf _))
  by_cases c_1_4 : k = 4
  · refine mm_tableIn (tgt := 80) (off := 79) d_SP_count_1 (by rw [c_1_4]; decide) (by rw [c_1_4]; decide) (by rw [c_1_4]; decide) (by decide) ?_
    refine mm_aload_n d_SP_count_80 rfl ?_
    refine mm_getf d_SP_count_81 cl_SP fl_SP_22_SP (by decide) q0 rfl ?_
    refine mm_iconst (v := 3) d_SP_count_84 (by decide) ?_
    refine mm_iald d_SP_count_85 q5 (show vp_in (nI 3) 4 from vp_in_nI (by decide) (by decide)) ?_
    exact mm_ireturn d_SP_count_86 rfl (CI.of (a := .inl (c.2.2.2.2.1 (3 : Int32).toNatClampNeg)) (c' := c) (by simp [c_count, c_1_0, c_1_1, c_1_2, c_1_3, c_1_4] <;> rfl) rfl (by omega) H CFr.rf (CE.rf _))
  by_cases c_1_5 : k = 5
  · refine mm_tableIn (tgt := 87) (off := 86) d_SP_count_1 (by rw [c_1_5]; decide) (by rw [c_1_5]; decide) (by rw [c_1_5]; decide) (by decide) ?_
    refine mm_aload_n d_SP_count_87 rfl ?_
    refine mm_getf d_SP_count_88 cl_SP fl_SP_33_SP (by decide) q0 rfl ?_
    exact mm_ireturn d_SP_count_91 rfl (CI.of (a := .inl c.2.2.2.2.2.2.2.2.2) (c' := c) (by simp [c_count, c_1_0, c_1_1, c_1_2, c_1_3, c_1_4, c_1_5] <;> rfl) rfl (by omega) H CFr.rf (CE.rf _))
  by_cases c_1_6 : k = 6
  · refine mm_tableIn (tgt := 92) (off := 91) d_SP_count_1 (by rw [c_1_6]; decide) (by rw [c_1_6]; decide) (by rw [c_1_6]; decide) (by decide) ?_
    refine mm_aload_n d_SP_count_92 rfl ?_
    refine mm_getf d_SP_count_93 cl_SP fl_SP_18_SP (by decide) q0 rfl ?_
    refine mm_getf d_SP_count_96 cl_Lines fl_SP_162_Lines (by decide) q2 rfl ?_
    exact mm_ireturn d_SP_count_99 rfl (CI.of (a := .inl c.2.2.2.2.2.2.1) (c' := c) (by simp [c_count, c_1_0, c_1_1, c_1_2, c_1_3, c_1_4, c_1_5, c_1_6] <;> rfl) rfl (by omega) H CFr.rf (CE.rf _))
  by_cases c_1_7 : k = 7
  · refine mm_tableIn (tgt := 100) (off := 99) d_SP_count_1 (by rw [c_1_7]; decide) (by rw [c_1_7]; decide) (by rw [c_1_7]; decide) (by decide) ?_
    refine mm_aload_n d_SP_count_100 rfl ?_
    refine mm_getf d_SP_count_101 cl_SP fl_SP_18_SP (by decide) q0 rfl ?_
    refine mm_callD (kc' := 0) (ks' := 0) d_SP_count_104 (mm_Inv.vi (as := []) d_SP_count_104 (Or.inl m_125) m_81 ce_Lines_pending.2.1 ce_Lines_pending.2.2.1 m_82 ce_Lines_pending.2.2.2.2.2 ln_Lines_pending cl_Lines q2 rfl) (J_Lines_pending (show x + 3 ≠ x + 4 by omega) q2 q3 q4) (by decide) ce_Lines_pending.1 ce_Lines_pending.2.1 ce_Lines_pending.2.2.1 ce_Lines_pending.2.2.2.1 (Nat.le_of_ble_eq_true rfl) ?_
    exact mm_ireturn d_SP_count_107 rfl (CI.of (a := .inl (c_pend c)) (c' := c) (by simp [c_count, c_1_0, c_1_1, c_1_2, c_1_3, c_1_4, c_1_5, c_1_6, c_1_7] <;> rfl) rfl (by omega) H CFr.rf (CE.rf _))
  by_cases c_1_8 : k = 8
  · refine mm_tableIn (tgt := 108) (off := 107) d_SP_count_1 (by rw [c_1_8]; decide) (by rw [c_1_8]; decide) (by rw [c_1_8]; decide) (by decide) ?_
    refine mm_aload_n d_SP_count_108 rfl ?_
    refine mm_callD (kc' := 0) (ks' := 0) d_SP_count_109 (mm_Inv.vi (as := []) d_SP_count_109 (Or.inl m_126) m_128 ce_SP_allWaiting.2.1 ce_SP_allWaiting.2.2.1 mp_1 ce_SP_allWaiting.2.2.2.2.2 ln_SP_allWaiting cl_SP q0 rfl) (J_SP_allWaiting (N := c.1) H) (by decide) ce_SP_allWaiting.1 ce_SP_allWaiting.2.1 ce_SP_allWaiting.2.2.1 ce_SP_allWaiting.2.2.2.1 (Nat.le_of_ble_eq_true rfl) ?_
    exact mm_ireturn d_SP_count_112 rfl (CI.of (a := .inl (c_allWaiting c.1 c.2.1 12)) (c' := c) (by simp [c_count, c_1_0, c_1_1, c_1_2, c_1_3, c_1_4, c_1_5, c_1_6, c_1_7, c_1_8] <;> rfl) rfl (by omega) H CFr.rf (CE.rf _))
  by_cases c_1_9 : k = 9
  · refine mm_tableIn (tgt := 113) (off := 112) d_SP_count_1 (by rw [c_1_9]; decide) (by rw [c_1_9]; decide) (by rw [c_1_9]; decide) (by decide) ?_
    refine mm_aload_n d_SP_count_113 rfl ?_
    refine mm_callD (kc' := 0) (ks' := 0) d_SP_count_114 (mm_Inv.vi (as := []) d_SP_count_114 (Or.inl m_131) m_133 ce_SP_allGone.2.1 ce_SP_allGone.2.2.1 mp_2 ce_SP_allGone.2.2.2.2.2 ln_SP_allGone cl_SP q0 rfl) (J_SP_allGone (N := c.1) H) (by decide) ce_SP_allGone.1 ce_SP_allGone.2.1 ce_SP_allGone.2.2.1 ce_SP_allGone.2.2.2.1 (Nat.le_of_ble_eq_true rfl) ?_
    exact mm_ireturn d_SP_count_117 rfl (CI.of (a := .inl (c_allGone c.1 c.2.1 12)) (c' := c) (by simp [c_count, c_1_0, c_1_1, c_1_2, c_1_3, c_1_4, c_1_5, c_1_6, c_1_7, c_1_8, c_1_9] <;> rfl) rfl (by omega) H CFr.rf (CE.rf _))
  refine mm_tableOut (tgt := 118) d_SP_count_1 (mm_tsw10 c_1_0 c_1_1 c_1_2 c_1_3 c_1_4 c_1_5 c_1_6 c_1_7 c_1_8 c_1_9) (by decide) ?_
  refine mm_iconst (v := (-1)) d_SP_count_118 (by decide) ?_
  exact mm_ireturn d_SP_count_119 rfl (CI.of (a := .inl (-1)) (c' := c) (by simp [c_count, c_1_0, c_1_1, c_1_2, c_1_3, c_1_4, c_1_5, c_1_6, c_1_7, c_1_8, c_1_9] <;> rfl) rfl (by omega) H CFr.rf (CE.rf _))
