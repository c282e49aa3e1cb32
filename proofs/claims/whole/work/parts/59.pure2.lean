theorem sr_kept_nI {g : Nat} (h : g < 2 ^ 31) : sr_kept (nI g) = nI (min g 32) := by
  unfold sr_kept
  by_cases c : 32 < g
  · rw [if_pos (show (32 : Int32) < nI g from nI_lt (a := 32) c h), show min g 32 = 32 by omega]; rfl
  · rw [if_neg (show ¬ (32 : Int32) < nI g from nI_nlt (a := 32) (by omega) (by decide)), show min g 32 = g by omega]
/-- a number comes in, in both -/
theorem recv_rel {T : Nat} {q : pS} {A : Nat → Nat → Int32} {p b : Nat} {v : Int32} (h : MP T q A p) (hk : q.1 = 3) (hb : q.2.2.1 1 = nI b) (hb32 : b < 32) : MP T (p_with q (fun j => if j = 1 then q.2.2.1 1 + 1 else q.2.2.1 j) (upd q.2.2.2.1 (q.2.2.1 0 + q.2.2.1 1 &&& 31).toNatClampNeg v) q.2.2.2.2) (ma (ma A 9 (upd (A 9) (32 * p + b) v)) 8 (upd (A 8) p (nI (b + 1)))) p ∧ ∀ j, j ≠ p → agr A (ma (ma A 9 (upd (A 9) (32 * p + b) v)) 8 (upd (A 8) p (nI (b + 1)))) j := by
  obtain ⟨kd, s4, u, X, Y⟩ := q
  simp only at hk hb
  subst hk
  obtain ⟨hs, -, -, h3, -⟩ := h
  obtain ⟨a0, a, b', g, s, a1, a2, a3, a4, a5, a6, a7, a8, a9, a10, a11, a12, a13, a14⟩ := h3 rfl
  simp only at a0 a1 a3 a5 a7 a12 a13 a14
  obtain rfl : b = b' := (nI_eq (by omega) (by omega)).mp (hb.symm.trans a3)
  refine ⟨⟨hs.of5 (fun k hk => by rw [ma_ne _ _ (by omega), ma_ne _ _ (by omega)]), fun z => absurd (show 3 < 2 from z) (by decide), fun z => absurd (show 3 = 2 from z) (by decide), fun _ => ⟨a0, a, b + 1, g, s, a1, a2, by show u 1 + 1 = _; rw [a3, nI_1], by omega, a5, a6, a7, a8, a9, if_pos rfl, a11, a12, fun k hk => ?_, a14⟩, fun z => absurd (show 3 = 4 from z) (by decide), fun z => absurd (show 3 = 5 from z) (by decide), fun z => absurd (show 3 = 3 from rfl) z⟩, fun j hj => agr.tr (agr9 (A := A) (p := p) (fun i hi => if_neg (by omega)) j hj) (agr_p (A := ma A 9 (upd (A 9) (32 * p + b) v)) (p := p) (k := 8) (Or.inr (Or.inr (Or.inl rfl))) j hj)⟩
  show upd (A 9) (32 * p + b) v (32 * p + k) = upd X (u 0 + u 1 &&& 31).toNatClampNeg v ((a + k) % 32)
  rw [a1, a3, nI_add, and31_clamp]
  unfold upd
  by_cases c : k = b
  · subst c; rw [if_pos rfl, if_pos rfl]
  · rw [if_neg (by omega), if_neg (by omega)]; exact a13 k (by omega)
theorem sent_rel {T : Nat} {q : pS} {A : Nat → Nat → Int32} {p : Nat} (h : MP T q A p) (hk : q.1 = 3) (hT : T < 2 ^ 30) : ∃ g, q.2.2.1 2 = nI g ∧ g ≤ T ∧ A 10 p = nI g ∧ ∀ k, k < min g 32 → q.2.2.2.2 (q.2.2.1 2 - sr_kept (q.2.2.1 2) + nI k &&& 31).toNatClampNeg = A 11 (32 * p + k) := by
  obtain ⟨kd, s4, u, X, Y⟩ := q
  simp only at hk
  subst hk
  obtain ⟨hs, -, -, h3, -⟩ := h
  obtain ⟨a0, a, b', g, s, a1, a2, a3, a4, a5, a6, a7, a8, a9, a10, a11, a12, a13, a14⟩ := h3 rfl
  simp only at a0 a1 a3 a5 a7 a12 a13 a14
  refine ⟨g, a5, a6, a11, fun k hk => ?_⟩
  show Y (u 2 - sr_kept (u 2) + nI k &&& 31).toNatClampNeg = _
  rw [a5, sr_kept_nI (by omega), nI_sub (by omega), nI_add, and31_clamp]
  exact (a14 k (by omega) (by omega)).symm
theorem sum8 {T N : Nat} {P : Nat → pS} {A : Nat → Nat → Int32} (hP : ∀ p, p < N → MP T (P p) A p) : ∀ i, c_allWaiting N P i = m_sum (A 8) (min i N)
  | 0 => by rw [Nat.zero_min]; rfl
  | i + 1 => by
    unfold c_allWaiting
    by_cases h1 : i < N
    · rw [if_pos h1, sum8 hP i, show min i N = i by omega, show min (i + 1) N = i + 1 by omega]
      show _ = m_sum (A 8) i + A 8 i
      by_cases h3 : (P i).1 = 3
      · rw [if_pos h3]
        obtain ⟨a0, a, b', g, s, a1, a2, a3, a4, a5, a6, a7, a8, a9, a10, -⟩ := (hP i h1).2.2.2.1 h3
        rw [a10, a3]
      · rw [if_neg h3, ((hP i h1).2.2.2.2.2.2 h3).1, Int32.add_zero]
    · rw [if_neg h1, sum8 hP i, show min (i + 1) N = min i N by omega]
theorem sum9 {T N : Nat} {P : Nat → pS} {A : Nat → Nat → Int32} (hP : ∀ p, p < N → MP T (P p) A p) : ∀ i, c_allGone N P i = m_sum (A 10) (min i N)
  | 0 => by rw [Nat.zero_min]; rfl
  | i + 1 => by
    unfold c_allGone
    by_cases h1 : i < N
    · rw [if_pos h1, sum9 hP i, show min i N = i by omega, show min (i + 1) N = i + 1 by omega]
      show _ = m_sum (A 10) i + A 10 i
      by_cases h3 : (P i).1 = 3
      · rw [if_pos h3]
        obtain ⟨a0, a, b', g, s, a1, a2, a3, a4, a5, a6, a7, a8, a9, a10, a11, -⟩ := (hP i h1).2.2.2.1 h3
        rw [a11, a5]
      · rw [if_neg h3, ((hP i h1).2.2.2.2.2.2 h3).2, Int32.add_zero]
    · rw [if_neg h1, sum9 hP i, show min (i + 1) N = min i N by omega]
theorem count_eq {T : Nat} {c : cS} {I : Nat → Int32} {A : Nat → Nat → Int32} {k : Int32} (R : MR T c I A) : c_count k c = (.inl (m_count I A c.1 k), c) := by
  obtain ⟨r1, r2, r3, r4, ⟨r51, r52, r53⟩, r6, r7, r8⟩ := R
  unfold c_count m_count c_pend
  rw [pen_eq r8, r1, r3, r4, r51, r52, r53, ← r8.2.1, sum8 r6 12, sum9 r6 12, show min 12 c.1 = c.1 by omega]
/-- two stretches of places do not meet -/
theorem meets_2 {f z a b : Nat} (hf : f + z ≤ 65536) (ha : a + b ≤ 65536) (hz : 1 ≤ z) (hb : 1 ≤ b) : st_meets (nI f) (nI z) (nI a) (nI b) = 0 ↔ (a + b ≤ f ∨ f + z ≤ a) := by
  unfold st_meets
  by_cases h1 : a < f
  · rw [if_pos (nI_lt h1 (by omega)), if_neg (nI_pos (by omega)), nI_sub (by omega)]
    by_cases h2 : f - a < b
    · rw [if_pos (nI_lt h2 (by omega))]
      exact ⟨fun z9 => absurd z9 (by decide), fun z9 => by omega⟩
    · rw [if_neg (nI_nlt (by omega) (by omega))]
      exact ⟨fun _ => by omega, fun _ => rfl⟩
  · rw [if_neg (nI_nlt (by omega) (by omega)), nI_sub (by omega)]
    by_cases h2 : a - f < z
    · rw [if_pos (nI_lt h2 (by omega))]
      exact ⟨fun z9 => absurd z9 (by decide), fun z9 => by omega⟩
    · rw [if_neg (nI_nlt (by omega) (by omega))]
      exact ⟨fun _ => by omega, fun _ => rfl⟩
theorem w_in_iff {v lo hi : Int32} : ¬ w_in v lo hi = 0 ↔ (¬ v < lo ∧ ¬ hi < v) := by
  unfold w_in
  by_cases h1 : v < lo
  · simp [h1]
  · by_cases h2 : hi < v
    · simp [h1, h2]
    · simp [h1, h2]
theorem len_iff {k z : Int32} : ¬ sp_len k z ≤ 0 ↔ (¬ w_in k 0 5 = 0 ∧ (1 < k ∨ ¬ w_in z 1 64 = 0)) := by
  constructor
  · intro h
    obtain ⟨⟨kd, hkd, rfl⟩, -⟩ := sp_len_k h
    refine ⟨?_, ?_⟩
    · have : ∀ j : Fin 6, ¬ w_in (nI j.val) 0 5 = 0 := by decide +kernel
      exact this ⟨kd, hkd⟩
    · by_cases h1 : kd < 2
      · right
        rw [w_in_iff]
        have hk : nI kd = 0 ∨ nI kd = 1 := by
          have : kd = 0 ∨ kd = 1 := by omega
          rcases this with rfl | rfl
          · exact Or.inl rfl
          · exact Or.inr rfl
        unfold sp_len at h
        rw [if_pos hk] at h
        refine ⟨fun z9 => h ?_, fun z9 => h ?_⟩
        · rw [if_pos z9]; decide
        · simp only [z9, if_true, ite_self]; decide
      · exact Or.inl (nI_lt (a := 1) (by omega) (by omega))
  · rintro ⟨h1, h2⟩
    rw [w_in_iff] at h1
    obtain ⟨j, hj, rfl⟩ := nI_of h1.1
    have hj6 : j < 6 := by
      exact Nat.not_le.mp (fun z9 => h1.2 (nI_lt (a := 5) (b := j) (by omega) hj))
    unfold sp_len
    have : j = 0 ∨ j = 1 ∨ j = 2 ∨ j = 3 ∨ j = 4 ∨ j = 5 := by omega
    rcases this with rfl | rfl | rfl | rfl | rfl | rfl
    · rcases h2 with h2 | h2
      · exact absurd h2 (by decide)
      · rw [w_in_iff] at h2
        rw [if_pos (by decide), if_neg h2.1, if_neg h2.2]
        exact fun z9 => h2.1 (Int32.lt_of_le_of_lt z9 (by decide))
    · rcases h2 with h2 | h2
      · exact absurd h2 (by decide)
      · rw [w_in_iff] at h2
        rw [if_pos (by decide), if_neg h2.1, if_neg h2.2]
        exact fun z9 => h2.1 (Int32.lt_of_le_of_lt z9 (by decide))
    · show ¬ (4 : Int32) ≤ 0; decide
    · show ¬ (3 : Int32) ≤ 0; decide
    · show ¬ (11 : Int32) ≤ 0; decide
    · show ¬ (4 : Int32) ≤ 0; decide
theorem len_size {k z : Int32} (h : ¬ sp_len k z ≤ 0) : sp_len k z = m_size k z := by
  obtain ⟨h1, h2⟩ := len_iff.mp h
  obtain ⟨⟨kd, hkd, rfl⟩, -⟩ := sp_len_k h
  have : kd = 0 ∨ kd = 1 ∨ kd = 2 ∨ kd = 3 ∨ kd = 4 ∨ kd = 5 := by omega
  unfold sp_len m_size
  rcases this with rfl | rfl | rfl | rfl | rfl | rfl
  · rcases h2 with h2 | h2
    · exact absurd h2 (by decide)
    · rw [w_in_iff] at h2
      rw [if_pos (by decide), if_neg h2.1, if_neg h2.2, if_pos (by decide)]
  · rcases h2 with h2 | h2
    · exact absurd h2 (by decide)
    · rw [w_in_iff] at h2
      rw [if_pos (by decide), if_neg h2.1, if_neg h2.2, if_pos (by decide)]
  · rfl
  · rfl
  · rfl
  · rfl
theorem good_iff {k f z l w : Int32} {c : cS} : c_good k f z l w c = true ↔ (¬ w_in k 0 5 = 0 ∧ ¬ w_in l 0 15 = 0 ∧ ¬ w_in w 0 7 = 0 ∧ (1 < k ∨ ¬ w_in z 1 64 = 0)) ∧ ¬ f < 0 ∧ f ≤ 65536 - m_size k z ∧ c_free c.1 c.2.1 f (m_size k z) 12 = true := by
  unfold c_good
  rw [decide_eq_true_iff]
  constructor
  · rintro ⟨h1, h2, h3, h4, h5⟩
    have h6 := len_iff.mp h1
    have hs := len_size h1
    obtain ⟨-, -, hl64⟩ := sp_len_k h1
    obtain ⟨n, hn, en⟩ := nI_of (x := sp_len k z) (fun z9 => h1 (Int32.le_of_lt z9))
    rw [en, nI_clamp hn] at hl64
    have hn1 : 1 ≤ n := Nat.not_lt.mp (fun z9 => h1 (by rw [en, show n = 0 by omega]; decide))
    refine ⟨⟨h6.1, by rw [← isLine_eq]; exact h2, w_in_iff.mpr ⟨h3, h4⟩, h6.2⟩, ?_⟩
    unfold sp_free at h5
    rw [← hs]
    split at h5
    · exact absurd rfl h5
    · rename_i hp
      rw [isPlace_eq, w_in_iff] at hp
      refine ⟨hp.1, ?_⟩
      split at h5
      · rename_i hq
        split at h5
        · rename_i hr
          refine ⟨?_, hr⟩
          obtain ⟨a, ha, rfl⟩ := nI_of hp.1
          have ha2 : a ≤ 65535 := Nat.not_lt.mp (fun z9 => hp.2 (nI_lt (a := 65535) z9 ha))
          rw [en] at hq ⊢
          rw [show (65536 : Int32) = nI 65536 from rfl, nI_sub (by omega)] at hq ⊢
          have := (nI_leI hn (by omega)).mp hq
          exact nI_le (by omega) (by omega)
        · exact absurd rfl h5
      · exact absurd rfl h5
  · rintro ⟨⟨h1, h2, h3, h4⟩, h5, h6, h7⟩
    have hl := len_iff.mpr ⟨h1, h4⟩
    have hs := len_size hl
    obtain ⟨-, -, hl64⟩ := sp_len_k hl
    obtain ⟨n, hn, en⟩ := nI_of (x := sp_len k z) (fun z9 => hl (Int32.le_of_lt z9))
    rw [en, nI_clamp hn] at hl64
    have hn1 : 1 ≤ n := Nat.not_lt.mp (fun z9 => hl (by rw [en, show n = 0 by omega]; decide))
    rw [w_in_iff] at h3
    refine ⟨hl, by rw [isLine_eq]; exact h2, h3.1, h3.2, ?_⟩
    obtain ⟨a, ha, rfl⟩ := nI_of h5
    rw [← hs, en, show (65536 : Int32) = nI 65536 from rfl, nI_sub (by omega)] at h6
    have h8 := (nI_leI ha (by omega)).mp h6
    unfold sp_free
    rw [if_neg (by rw [isPlace_eq, w_in_iff]; exact ⟨h5, nI_nlt (a := 65535) (by omega) (by decide)⟩), if_pos (by rw [en, show (65536 : Int32) = nI 65536 from rfl, nI_sub (by omega)]; exact nI_le (by omega) (by omega)), hs, if_pos h7]
    decide
