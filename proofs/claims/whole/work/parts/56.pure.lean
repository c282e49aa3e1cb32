theorem MR.mono {T T' : Nat} {c : cS} {I : Nat → Int32} {A : Nat → Nat → Int32} (R : MR T c I A) (h : T ≤ T') : MR T' c I A := by
  obtain ⟨r1, r2, r3, r4, r5, r6, r7, r8⟩ := R
  exact ⟨r1, r2, r3, r4, r5, fun p hp => (r6 p hp).mono h, r7, r8⟩
/-- one part is another, the rest stays -/
theorem MR.part {T : Nat} {c : cS} {I : Nat → Int32} {A A' : Nat → Nat → Int32} {i : Nat} {q : pS} (R : MR T c I A) (hi : i < c.1) (hm : MP T q A' i) (ha : ∀ j, j ≠ i → agr A A' j) (hl : ∀ k, 13 ≤ k → A' k = A k) : MR T (c_setP c i q) I A' := by
  obtain ⟨r1, r2, r3, r4, r5, r6, r7, r8⟩ := R
  refine ⟨r1, r2, r3, r4, r5, fun p hp => ?_, fun p h1 h2 => (r7 p h1 h2).agr (ha p (by have : c.1 ≤ p := h1; omega)), ?_⟩
  · by_cases h1 : p = i
    · subst h1
      show MP T (if p = p then q else c.2.1 p) A' p
      rw [if_pos rfl]; exact hm
    · show MP T (if p = i then q else c.2.1 p) A' p
      rw [if_neg h1]; exact (r6 p hp).agr (ha p h1)
  · unfold ML at r8 ⊢
    rw [hl 13 (by decide), hl 14 (by decide), hl 15 (by decide), hl 16 (by decide), hl 17 (by decide)]
    exact r8
theorem c_add_eq {N : Nat} {k : Int32} : ∀ (m i : Nat) (P : Nat → pS) (p : Nat), c_add N k m i P p = if i ≤ p ∧ p < i + m ∧ p < N ∧ (P p).1 = 5 then p_with (P p) (P p).2.2.1 (ct_add (P p).2.2.2.1 4 k) (P p).2.2.2.2 else P p
  | 0, i, P, p => by rw [if_neg (by omega)]; rfl
  | m + 1, i, P, p => by
    unfold c_add
    by_cases h1 : i < N
    · rw [if_pos h1]
      by_cases h5 : (P i).1 = 5
      · rw [if_pos h5, c_add_eq m (i + 1) _ p]
        unfold c_set
        by_cases h2 : p = i
        · subst h2; rw [if_neg (by omega), if_pos rfl, if_pos ⟨by omega, by omega, h1, h5⟩]
        · rw [if_neg h2]
          by_cases h3 : i + 1 ≤ p ∧ p < i + 1 + m ∧ p < N ∧ (P p).1 = 5
          · rw [if_pos h3, if_pos (by omega)]
          · rw [if_neg h3, if_neg (by omega)]
      · rw [if_neg h5, c_add_eq m (i + 1) _ p]
        by_cases h2 : p = i
        · subst h2; rw [if_neg (by omega), if_neg (fun z => h5 z.2.2.2)]
        · by_cases h3 : i + 1 ≤ p ∧ p < i + 1 + m ∧ p < N ∧ (P p).1 = 5
          · rw [if_pos h3, if_pos (by omega)]
          · rw [if_neg h3, if_neg (by omega)]
    · rw [if_neg h1, c_add_eq m (i + 1) _ p, if_neg (by omega), if_neg (by omega)]
theorem tally_MR {T w : Nat} {c : cS} {I : Nat → Int32} {A : Nat → Nat → Int32} (R : MR T c I A) (hw : w = 1 ∨ w = 2 ∨ w = 3) : MR T (c_tally (nI w) c) (mi I (w + 3) (I (w + 3) + 1)) (ma A 5 (m_bump A w c.1)) := by
  obtain ⟨r1, r2, r3, r4, ⟨r51, r52, r53⟩, r6, r7, r8⟩ := R
  have hw4 : w < 4 := by omega
  refine ⟨by rw [mi_ne _ _ (by omega)]; exact r1, r2, by rw [mi_ne _ _ (by omega)]; exact r3, by rw [mi_ne _ _ (by omega)]; exact r4, ?_, fun p hp => ?_, fun p h1 h2 => (r7 p h1 h2).agr (bump_agr (Or.inr h1)), r8⟩
  · show _ = upd c.2.2.2.2.1 (nI w).toNatClampNeg (c.2.2.2.2.1 (nI w).toNatClampNeg + 1) 1 ∧ _ = upd c.2.2.2.2.1 (nI w).toNatClampNeg (c.2.2.2.2.1 (nI w).toNatClampNeg + 1) 2 ∧ _ = upd c.2.2.2.2.1 (nI w).toNatClampNeg (c.2.2.2.2.1 (nI w).toNatClampNeg + 1) 3
    rw [nI_clamp (by omega)]
    rcases hw with rfl | rfl | rfl
    · exact ⟨congrArg (· + 1) r51, r52, r53⟩
    · exact ⟨r51, congrArg (· + 1) r52, r53⟩
    · exact ⟨r51, r52, congrArg (· + 1) r53⟩
  · have hp2 : p < c.1 := hp
    show MP T (c_add c.1 (nI w) 12 0 c.2.1 p) _ p
    rw [c_add_eq]
    by_cases h5 : (c.2.1 p).1 = 5
    · rw [if_pos ⟨by omega, by omega, hp2, h5⟩]
      exact bump_5 (r6 p hp2) h5 hp2 hw4
    · rw [if_neg (fun z => h5 z.2.2.2)]
      refine (r6 p hp2).agr (bump_agr (Or.inl ?_))
      rw [(r6 p hp2).1.2.1]
      exact fun z => h5 ((nI_eq (a := (c.2.1 p).1) (b := 5) (by have := (r6 p hp2).1.1; omega) (by decide)).mp z)
/-- seats and kinds stay -/
def c_keep (c c' : cS) : Prop := c'.1 = c.1 ∧ ∀ p, (c'.2.1 p).1 = (c.2.1 p).1 ∧ (c'.2.1 p).2.1 = (c.2.1 p).2.1
theorem c_keep.rf (c : cS) : c_keep c c := ⟨rfl, fun _ => ⟨rfl, rfl⟩⟩
theorem c_keep.tr {a b c : cS} (h : c_keep a b) (g : c_keep b c) : c_keep a c := ⟨g.1.trans h.1, fun p => ⟨(g.2 p).1.trans (h.2 p).1, (g.2 p).2.trans (h.2 p).2⟩⟩
theorem c_keep.setP {c : cS} {i : Nat} {q : pS} (hq : ∃ u A B, q = p_with (c.2.1 i) u A B) : c_keep c (c_setP c i q) := by
  obtain ⟨u, A, B, rfl⟩ := hq
  refine ⟨rfl, fun p => ?_⟩
  show (if p = i then p_with (c.2.1 i) u A B else c.2.1 p).1 = _ ∧ (if p = i then p_with (c.2.1 i) u A B else c.2.1 p).2.1 = _
  split
  · rename_i e; subst e; exact ⟨rfl, rfl⟩
  · exact ⟨rfl, rfl⟩
theorem c_keep.follow (c : cS) : c_keep c (c_follow c) := ⟨rfl, fun _ => ⟨rfl, rfl⟩⟩
theorem c_keep.reset (k : Int32) (c : cS) : c_keep c (c_reset k c) := by
  refine ⟨rfl, fun p => ?_⟩
  show (c_anew c.1 12 0 c.2.1 p).1 = _ ∧ (c_anew c.1 12 0 c.2.1 p).2.1 = _
  rw [c_anew_eq]
  split
  · obtain ⟨u, A, B, e⟩ := p_new_w (c.2.1 p); rw [e]; exact ⟨rfl, rfl⟩
  · exact ⟨rfl, rfl⟩
theorem c_keep.tally (k : Int32) (c : cS) : c_keep c (c_tally k c) := by
  refine ⟨rfl, fun p => ?_⟩
  show (c_add c.1 k 12 0 c.2.1 p).1 = _ ∧ (c_add c.1 k 12 0 c.2.1 p).2.1 = _
  rw [c_add_eq]
  split
  · exact ⟨rfl, rfl⟩
  · exact ⟨rfl, rfl⟩
theorem c_keep.loop : ∀ (m i : Nat) (c : cS), c_keep c (c_loop m i c).1
  | 0, _, c => c_keep.follow c
  | m + 1, i, c => by
    unfold c_loop
    split
    · split
      · exact (c_keep.setP (p_go_w _)).tr (c_keep.loop m (i + 1) _)
      · exact (c_keep.setP (p_go_w _)).tr (c_keep.reset 2 _)
    · exact c_keep.loop m (i + 1) c
theorem c_keep.step (c : cS) : c_keep c (c_step c).1 := c_keep.tr (b := (c.1, c.2.1, c.2.2.1, c.2.2.2.1, c.2.2.2.2.1, c.2.2.2.2.2.1, c.2.2.2.2.2.2.1, c.2.2.2.2.2.2.2.1, c.2.2.2.2.2.2.2.2.1 + 1, c.2.2.2.2.2.2.2.2.2)) ⟨rfl, fun _ => ⟨rfl, rfl⟩⟩ (c_keep.loop 12 0 _)
theorem c_keep.steps : ∀ (m : Nat) (c : cS) (r : Int32), c_keep c (c_steps m c r).1
  | 0, c, _ => c_keep.rf c
  | m + 1, c, r => (c_keep.step c).tr (c_keep.steps m (c_step c).1 _)
/-- a place is met alike -/
theorem meets_eq {f z : Nat} {k : Int32} (hf : f + z ≤ 65536) (hz : 1 ≤ z) : st_meets (nI f) (nI z) k 1 = 0 ↔ w_in k (nI f) (nI f + nI z - 1) = 0 := by
  have e1 : nI f + nI z - 1 = nI (f + z - 1) := by rw [nI_add]; exact nI_sub (b := 1) (by omega)
  rw [e1]
  unfold st_meets w_in
  by_cases h1 : k < nI f
  · rw [if_pos h1, if_pos h1]
    by_cases h2 : k < 0
    · rw [if_pos h2]
    · rw [if_neg h2]
      obtain ⟨j, hj, rfl⟩ := nI_of h2
      have h3 := (nI_ltI hj (by omega)).mp h1
      rw [nI_sub (by omega), if_neg (show ¬ nI (f - j) < 1 from nI_nlt (b := 1) (by omega) (by omega))]
  · rw [if_neg h1, if_neg h1]
    obtain ⟨j, hj, rfl⟩ := nI_of (x := k) (fun z9 => h1 (Int32.lt_of_lt_of_le z9 (nI_pos' (by omega))))
    have h3 : f ≤ j := Nat.not_lt.mp (fun z9 => h1 (nI_lt z9 (by omega)))
    rw [nI_sub h3]
    by_cases h4 : j - f < z
    · rw [if_pos (nI_lt h4 (by omega)), if_neg (nI_nlt (by omega) (by omega))]
    · rw [if_neg (nI_nlt (by omega) (by omega)), if_pos (nI_lt (by omega) hj)]
theorem with_at {T : Nat} {N : Nat} {P : Nat → pS} {A : Nat → Nat → Int32} {k : Int32} (hP : ∀ p, p < N → MP T (P p) A p) : ∀ (m i : Nat), N ≤ i + m → c_with N P k m i = m_at (A 1) (A 2) k (N - i) i
  | 0, i, h => by rw [show N - i = 0 by omega]; rfl
  | m + 1, i, h => by
    unfold c_with
    by_cases h1 : i < N
    · rw [if_pos h1, show N - i = (N - (i + 1)) + 1 by omega]
      obtain ⟨b1, b2, b3, b4, b5, b6, f, z, l, w, e, e1, e2, -⟩ := (hP i h1).1
      have hm := meets_eq (k := k) e1 e2
      unfold m_at
      have f1 : (P i).2.1.1 = nI f := by rw [e]
      have f2 : (P i).2.1.2.1 = nI z := by rw [e]
      rw [b3, b4, f1, f2]
      by_cases h2 : st_meets (nI f) (nI z) k 1 = 0
      · rw [if_pos h2, if_pos (hm.mp h2)]
        exact with_at hP m (i + 1) (by omega)
      · rw [if_neg h2, if_neg (fun z9 => h2 (hm.mpr z9))]
    · rw [if_neg h1, show N - i = 0 by omega, with_at hP m (i + 1) (by omega), show N - (i + 1) = 0 by omega]
      rfl
theorem at_in {f z : Nat → Int32} {k : Int32} : ∀ (q i j : Nat), m_at f z k q i = some j → ¬ w_in k (f j) (f j + z j - 1) = 0
  | 0, _, _, h => by cases h
  | q + 1, i, j, h => by
    unfold m_at at h
    split at h
    · exact at_in q (i + 1) j h
    · cases h; assumption
/-- the register that a place names -/
theorem place_k {f z : Nat} {k : Int32} (hf : f + z ≤ 65536) (hz : 1 ≤ z) (h : ¬ w_in k (nI f) (nI f + nI z - 1) = 0) : ∃ kk, kk < z ∧ k = nI (f + kk) ∧ k - nI f = nI kk := by
  have e1 : nI f + nI z - 1 = nI (f + z - 1) := by rw [nI_add]; exact nI_sub (b := 1) (by omega)
  rw [e1] at h
  unfold w_in at h
  by_cases h1 : k < nI f
  · rw [if_pos h1] at h; exact absurd rfl h
  · rw [if_neg h1] at h
    obtain ⟨j, hj, rfl⟩ := nI_of (x := k) (fun z9 => h1 (Int32.lt_of_lt_of_le z9 (nI_pos' (by omega))))
    have h3 : f ≤ j := Nat.not_lt.mp (fun z9 => h1 (nI_lt z9 (by omega)))
    by_cases h4 : nI (f + z - 1) < nI j
    · rw [if_pos h4] at h; exact absurd rfl h
    · have h5 : j ≤ f + z - 1 := Nat.not_lt.mp (fun z9 => h4 (nI_lt z9 hj))
      exact ⟨j - f, by omega, by rw [show f + (j - f) = j by omega], nI_sub h3⟩
theorem isPlace_eq {k : Int32} : sp_isPlace k = w_in k 0 65535 := by
  unfold sp_isPlace w_in
  by_cases h1 : k < 0
  · rw [if_pos h1, if_pos h1]
  · rw [if_neg h1, if_neg h1]
    obtain ⟨j, hj, rfl⟩ := nI_of h1
    by_cases h2 : 65536 ≤ j
    · rw [if_pos (show (65536 : Int32) ≤ nI j from nI_le (a := 65536) h2 hj), if_pos (show (65535 : Int32) < nI j from nI_lt (a := 65535) (by omega) hj)]
    · rw [if_neg (show ¬ (65536 : Int32) ≤ nI j from nI_ge (b := 65536) (by omega) (by decide)), if_neg (show ¬ (65535 : Int32) < nI j from nI_nlt (a := 65535) (by omega) (by decide))]
theorem isLine_eq {k : Int32} : sp_isLine k = w_in k 0 15 := by
  unfold sp_isLine w_in
  by_cases h1 : k < 0
  · rw [if_pos h1, if_pos h1]
  · rw [if_neg h1, if_neg h1]
    obtain ⟨j, hj, rfl⟩ := nI_of h1
    by_cases h2 : 16 ≤ j
    · rw [if_pos (show (16 : Int32) ≤ nI j from nI_le (a := 16) h2 hj), if_pos (show (15 : Int32) < nI j from nI_lt (a := 15) (by omega) hj)]
    · rw [if_neg (show ¬ (16 : Int32) ≤ nI j from nI_ge (b := 16) (by omega) (by decide)), if_neg (show ¬ (15 : Int32) < nI j from nI_nlt (a := 15) (by omega) (by decide))]
