theorem agr5 {A : Nat → Nat → Int32} {R' : Nat → Int32} {p : Nat} (h : ∀ i, i < 64 * p ∨ 64 * p + 64 ≤ i → R' i = A 5 i) : ∀ j, j ≠ p → agr A (ma A 5 R') j := fun j hj =>
  ⟨rfl, rfl, rfl, rfl, rfl, fun k hk => h _ (by omega), rfl, rfl, rfl, fun _ _ => rfl, rfl, fun _ _ => rfl, fun _ _ => rfl⟩
theorem agr.tr {A B C : Nat → Nat → Int32} {p : Nat} (h : agr A B p) (g : agr B C p) : agr A C p := by
  obtain ⟨h0, h1, h2, h3, h4, h5, h6, h7, h8, h9, h10, h11, h12⟩ := h
  obtain ⟨g0, g1, g2, g3, g4, g5, g6, g7, g8, g9, g10, g11, g12⟩ := g
  exact ⟨g0.trans h0, g1.trans h1, g2.trans h2, g3.trans h3, g4.trans h4, fun k hk => (g5 k hk).trans (h5 k hk), g6.trans h6, g7.trans h7, g8.trans h8, fun k hk => (g9 k hk).trans (h9 k hk), g10.trans h10, fun k hk => (g11 k hk).trans (h11 k hk), fun k hk => (g12 k hk).trans (h12 k hk)⟩
theorem agr_p {A : Nat → Nat → Int32} {p k : Nat} {v : Int32} (hk : k = 6 ∨ k = 7 ∨ k = 8 ∨ k = 10) : ∀ j, j ≠ p → agr A (ma A k (upd (A k) p v)) j := fun j hj => by
  rcases hk with rfl | rfl | rfl | rfl <;>
  exact ⟨rfl, rfl, rfl, rfl, rfl, fun _ _ => rfl, by first | rfl | exact if_neg hj, by first | rfl | exact if_neg hj, by first | rfl | exact if_neg hj, fun _ _ => rfl, by first | rfl | exact if_neg hj, fun _ _ => rfl, fun _ _ => rfl⟩
theorem agr11 {A : Nat → Nat → Int32} {R' : Nat → Int32} {p : Nat} (h : ∀ i, i < 32 * p ∨ 32 * p + 32 ≤ i → R' i = A 11 i) : ∀ j, j ≠ p → agr A (ma A 11 R') j := fun j hj =>
  ⟨rfl, rfl, rfl, rfl, rfl, fun _ _ => rfl, rfl, rfl, rfl, fun _ _ => rfl, rfl, fun k hk => h _ (by omega), fun _ _ => rfl⟩
theorem agr9 {A : Nat → Nat → Int32} {R' : Nat → Int32} {p : Nat} (h : ∀ i, i < 32 * p ∨ 32 * p + 32 ≤ i → R' i = A 9 i) : ∀ j, j ≠ p → agr A (ma A 9 R') j := fun j hj =>
  ⟨rfl, rfl, rfl, rfl, rfl, fun _ _ => rfl, rfl, rfl, rfl, fun k hk => h _ (by omega), rfl, fun _ _ => rfl, fun _ _ => rfl⟩
theorem agr12 {A : Nat → Nat → Int32} {R' : Nat → Int32} {p : Nat} (h : ∀ i, i < 64 * p ∨ 64 * p + 64 ≤ i → R' i = A 12 i) : ∀ j, j ≠ p → agr A (ma A 12 R') j := fun j hj =>
  ⟨rfl, rfl, rfl, rfl, rfl, fun _ _ => rfl, rfl, rfl, rfl, fun _ _ => rfl, rfl, fun _ _ => rfl, fun k hk => h _ (by omega)⟩
theorem agr_hi {A : Nat → Nat → Int32} {k : Nat} {f : Nat → Int32} (hk : 13 ≤ k) (j : Nat) : agr A (ma A k f) j := by
  have e : ∀ a, a < 13 → ma A k f a = A a := fun a ha => ma_ne _ _ (by omega)
  unfold agr
  rw [e 0 (by decide), e 1 (by decide), e 2 (by decide), e 3 (by decide), e 4 (by decide), e 5 (by decide), e 6 (by decide), e 7 (by decide), e 8 (by decide), e 9 (by decide), e 10 (by decide), e 11 (by decide), e 12 (by decide)]
  exact agr.rf A j
/-- the timer's step is the same in both -/
theorem tim_rel {T : Nat} {q : pS} {A : Nat → Nat → Int32} {p : Nat} (h : MP T q A p) (hk : q.1 = 2) : MP T (p_go q).1 (ma A 5 (m_tim (A 5) (64 * p)).1) p ∧ (p_go q).2 = (m_tim (A 5) (64 * p)).2 ∧ ∀ j, j ≠ p → agr A (ma A 5 (m_tim (A 5) (64 * p)).1) j := by
  obtain ⟨k, s4, u, X, Y⟩ := q
  simp only at hk
  subst hk
  obtain ⟨hs, -, h2, -, -, h6⟩ := h
  obtain ⟨a1, a2, a3, a4, j, hj, a5⟩ := h2 rfl
  simp only at a1 a2 a3 a4 a5
  have e14 : u 2 &&& (-2) = u 2 &&& 14 := by
    rw [a5]; exact (by decide +kernel : ∀ j : Fin 16, nI j.val &&& (-2) = nI j.val &&& 14) ⟨j, hj⟩
  obtain ⟨j', hj', e15⟩ : ∃ j', j' < 16 ∧ u 2 &&& 14 = nI j' := by
    obtain ⟨j', h1⟩ := (by decide +kernel : ∀ j : Fin 16, ∃ j' : Fin 16, nI j.val &&& 14 = nI j'.val) ⟨j, hj⟩
    exact ⟨j'.val, j'.isLt, by rw [a5]; exact h1⟩
  have hR : ∀ (R' : Nat → Int32) (t0 t2 t3 b : Int32), m_tim (A 5) (64 * p) = (R', b) → tm_go (u 0) (u 1) (u 2) (u 3) = (t0, t2, t3, b) → (∀ i, i < 64 * p ∨ 64 * p + 64 ≤ i → R' i = A 5 i) → R' (64 * p) = t0 → R' (64 * p + 1) = u 1 → R' (64 * p + 2) = t2 → R' (64 * p + 3) = t3 → (∃ j, j < 16 ∧ t2 = nI j) →
      MP T (p_go ((2, s4, u, X, Y) : pS)).1 (ma A 5 (m_tim (A 5) (64 * p)).1) p ∧ (p_go ((2, s4, u, X, Y) : pS)).2 = (m_tim (A 5) (64 * p)).2 ∧ ∀ j, j ≠ p → agr A (ma A 5 (m_tim (A 5) (64 * p)).1) j := by
    intro R' t0 t2 t3 b e1 e3 e2 r0 r1 r2 r3 r4
    have g : p_go ((2, s4, u, X, Y) : pS) = (p_with (2, s4, u, X, Y) (fun j => if j = 0 then t0 else if j = 1 then u 1 else if j = 2 then t2 else t3) X Y, b) := by
      show (p_with _ _ _ _, _) = _
      simp only [e3]
    rw [e1, g]
    refine ⟨⟨hs, fun z => absurd (show 2 < 2 from z) (by decide), fun _ => ⟨r0, r1, r2, r3, r4⟩, fun z => absurd (show 2 = 3 from z) (by decide), fun z => absurd (show 2 = 4 from z) (by decide), fun z => absurd (show 2 = 5 from z) (by decide), h6.2⟩, rfl, agr5 e2⟩
  by_cases c1 : u 2 &&& 1 = 0
  · exact hR (A 5) _ _ _ _ (by unfold m_tim; rw [a3, if_pos c1]) (by unfold tm_go; rw [if_pos c1]) (fun _ _ => rfl) a1 a2 a3 a4 ⟨j, hj, a5⟩
  · by_cases c2 : u 0 + 1 = u 1
    · by_cases c3 : u 2 &&& 2 = 0
      · exact hR _ _ _ _ _ (by unfold m_tim; rw [a3, if_neg c1, a1, a2, if_pos c2, if_pos c3]) (by unfold tm_go; rw [if_neg c1, if_pos c2, if_pos c3, e14]) (fun i hi => by simp [upd, show ¬ i = 64 * p + 2 by omega, show ¬ i = 64 * p + 3 by omega, show ¬ i = 64 * p by omega]) (by simp [upd]) (by simp [upd]; exact a2) (by simp [upd]) (by simp [upd]) ⟨j', hj', e15⟩
      · exact hR _ _ _ _ _ (by unfold m_tim; rw [a3, if_neg c1, a1, a2, if_pos c2, if_neg c3]) (by unfold tm_go; rw [if_neg c1, if_pos c2, if_neg c3]) (fun i hi => by simp [upd, show ¬ i = 64 * p + 3 by omega, show ¬ i = 64 * p by omega]) (by simp [upd]) (by simp [upd]; exact a2) (by simp [upd]; exact a3) (by simp [upd]) ⟨j, hj, a5⟩
    · exact hR _ _ _ _ _ (by unfold m_tim; rw [a3, if_neg c1, a1, a2, if_neg c2]) (by unfold tm_go; rw [if_neg c1, if_neg c2]) (fun i hi => by simp [upd, show ¬ i = 64 * p by omega]) (by simp [upd]) (by simp [upd]; exact a2) (by simp [upd]; exact a3) (by simp [upd]; exact a4) ⟨j, hj, a5⟩
theorem nI_m1 {s : Nat} (h : s ≠ 0) : nI s - 1 = nI (s - 1) := by
  obtain ⟨t, rfl⟩ : ∃ t, s = t + 1 := ⟨s - 1, by omega⟩
  exact nI_pred t
theorem and31_clamp (g : Nat) : (nI g &&& 31).toNatClampNeg = g % 32 := by
  rw [pk_and (nI g) 5 (by decide), nI_clamp (by have := Nat.mod_lt (nI g).toBitVec.toNat (show 0 < 2 ^ 5 by decide); omega)]
  show (BitVec.ofNat 32 g).toNat % 2 ^ 5 = g % 32
  rw [BitVec.toNat_ofNat]
  omega
/-- the serial's step is the same in both -/
theorem send_rel {T : Nat} {q : pS} {A : Nat → Nat → Int32} {p : Nat} (h : MP T q A p) (hk : q.1 = 3) : ∃ g, A 10 p = nI g ∧ g ≤ T ∧ MP (T + 1) (p_go q).1 (m_send A p g) p ∧ (p_go q).2 = 0 ∧ ∀ j, j ≠ p → agr A (m_send A p g) j := by
  obtain ⟨k, s4, u, X, Y⟩ := q
  simp only at hk
  subst hk
  obtain ⟨hs, -, -, h3, -⟩ := h
  obtain ⟨a0, a, b, g, s, a1, a2, a3, a4, a5, a6, a7, a8, a9, a10, a11, a12, a13, a14⟩ := h3 rfl
  simp only at a0 a1 a3 a5 a7 a12 a13 a14
  refine ⟨g, a11, a6, ?_⟩
  -- the parts of the relation that a step of another number leaves alone
  have fin : ∀ (A' : Nat → Nat → Int32) (g' s' : Nat) (u' Y' : Nat → Int32), (∀ k, k < 5 → A' k = A k) → A' 5 = A 5 → A' 8 = A 8 → A' 9 = A 9 → u' 0 = u 0 → u' 1 = u 1 → u' 3 = u 3 → u' 5 = u 5 → u' 2 = nI g' → g' ≤ T + 1 → u' 4 = nI s' → s' ≤ 4 → A' 6 p = nI s' → A' 10 p = nI g' → (s' ≠ 0 → A' 7 p = u 3) → (∀ k, k < g' → k < 32 → A' 11 (32 * p + k) = Y' ((g' - min g' 32 + k) % 32)) → MP (T + 1) (p_with (3, s4, u, X, Y) u' X Y') A' p := by
    intro A' g' s' u' Y' k1 k5 k8 k9 w0 w1 w3 w5 w2 hg' w4 hs' k6 k10 k7 k11
    refine ⟨?_, fun z => absurd (show 3 < 2 from z) (by decide), fun z => absurd (show 3 = 2 from z) (by decide), fun _ => ?_, fun z => absurd (show 3 = 4 from z) (by decide), fun z => absurd (show 3 = 5 from z) (by decide), fun z => absurd (show 3 = 3 from rfl) z⟩
    · obtain ⟨b1, b2, b3, b4, b5, b6, b7⟩ := hs
      exact ⟨b1, by rw [k1 0 (by decide)]; exact b2, by rw [k1 1 (by decide)]; exact b3, by rw [k1 2 (by decide)]; exact b4, by rw [k1 3 (by decide)]; exact b5, by rw [k1 4 (by decide)]; exact b6, b7⟩
    · exact ⟨by rw [k5]; exact a0.trans w5.symm, a, b, g', s', w0.trans a1, a2, w1.trans a3, a4, w2, hg', w4, hs', k6, by rw [k8]; exact a10, k10, fun z => (k7 z).trans w3.symm, fun k hk => by rw [k9]; exact a13 k hk, k11⟩
  by_cases c0 : s = 0
  · subst c0
    have e1 : m_send A p g = A := by unfold m_send; rw [a9, if_pos (by decide)]
    have e2 : ¬ (0 : Int32) < u 4 := by rw [a7]; decide
    rw [e1]
    refine ⟨?_, rfl, fun j _ => agr.rf A j⟩
    have e3 : (p_go ((3, s4, u, X, Y) : pS)).1 = p_with (3, s4, u, X, Y) (fun j => if j = 2 then u 2 else if j = 4 then u 4 else u j) X Y := by
      show p_with _ _ _ _ = _
      simp only [e2, if_false]
    rw [e3]
    exact fin A g 0 _ Y (fun _ _ => rfl) rfl rfl rfl rfl rfl rfl rfl a5 (by omega) a7 (by decide) a9 a11 (fun z => absurd rfl z) a14
  · have e2 : (0 : Int32) < u 4 := by rw [a7]; exact nI_lt (a := 0) (by omega) (by omega)
    have e4 : u 4 - 1 = nI (s - 1) := by rw [a7, nI_m1 c0]
    have e5 : A 6 p - 1 = nI (s - 1) := by rw [a9, nI_m1 c0]
    have n0 : ¬ A 6 p = 0 := by rw [a9]; exact nI_ne0 (by omega) (by omega)
    by_cases c1 : s = 1
    · subst c1
      have e6 : (u 4 - 1 = 0) := by rw [e4]; rfl
      have e3 : (p_go ((3, s4, u, X, Y) : pS)).1 = p_with (3, s4, u, X, Y) (fun j => if j = 2 then u 2 + 1 else if j = 4 then u 4 - 1 else u j) X (upd Y (u 2 &&& 31).toNatClampNeg (u 3)) := by
        show p_with _ _ _ _ = _
        simp only [e2, e6, if_true]
      have e1 : m_send A p g = ma (ma (ma A 6 (upd (A 6) p (A 6 p - 1))) 11 (m_gone A p g)) 10 (upd (A 10) p (nI (g + 1))) := by
        unfold m_send; rw [if_neg n0, if_pos (by rw [e5]; decide)]
      rw [e1, e3]
      have e7 := a12 (by decide)
      refine ⟨fin _ (g + 1) 0 _ _ (fun k hk => ?_) rfl rfl rfl rfl rfl rfl rfl (by rw [← nI_1, ← a5]; rfl) (by omega) (by show u 4 - 1 = _; rw [e4]) (by decide) (by show upd (A 6) p (A 6 p - 1) p = _; rw [e5]; exact if_pos rfl) (by show upd (A 10) p (nI (g + 1)) p = _; exact if_pos rfl) (fun z => absurd rfl z) (fun k hk hk2 => ?_), rfl, fun j hj => ?_⟩
      · rw [ma_ne _ _ (by omega), ma_ne _ _ (by omega), ma_ne _ _ (by omega)]
      · show m_gone A p g (32 * p + k) = upd Y (u 2 &&& 31).toNatClampNeg (u 3) _
        rw [a5, and31_clamp]
        unfold m_gone
        by_cases c2 : g < 32
        · rw [if_pos c2]
          have m1 : min (g + 1) 32 = g + 1 := by omega
          have m2 : min g 32 = g := by omega
          rw [m1]
          unfold upd
          by_cases c3 : k = g
          · subst c3; rw [if_pos rfl, if_pos (by omega), e7]
          · rw [if_neg (by omega), if_neg (by omega), a14 k (by omega) hk2, m2]
            congr 1; omega
        · rw [if_neg c2]
          have m1 : min (g + 1) 32 = 32 := by omega
          have m2 : min g 32 = 32 := by omega
          rw [m1]
          unfold upd
          by_cases c3 : k = 31
          · subst c3; rw [if_pos rfl, if_pos (by omega), e7]
          · rw [if_neg (by omega), if_neg (by omega)]
            unfold m_shift
            rw [if_pos (by omega), show 32 * p + k + 1 = 32 * p + (k + 1) by omega, a14 (k + 1) (by omega) (by omega), m2]
            congr 1; omega
      · refine agr.tr (agr_p (A := A) (p := p) (v := A 6 p - 1) (Or.inl rfl) j hj) (agr.tr (agr11 (A := ma A 6 (upd (A 6) p (A 6 p - 1))) (p := p) (R' := m_gone A p g) (fun i hi => ?_) j hj) (agr_p (A := ma (ma A 6 (upd (A 6) p (A 6 p - 1))) 11 (m_gone A p g)) (k := 10) (Or.inr (Or.inr (Or.inr rfl))) j hj))
        show m_gone A p g i = A 11 i
        unfold m_gone
        split
        · exact if_neg (by omega)
        · unfold upd m_shift
          rw [if_neg (by omega), if_neg (by omega)]
    · have e6 : ¬ (u 4 - 1 = 0) := by rw [e4]; exact nI_ne0 (by omega) (by omega)
      have e3 : (p_go ((3, s4, u, X, Y) : pS)).1 = p_with (3, s4, u, X, Y) (fun j => if j = 2 then u 2 else if j = 4 then u 4 - 1 else u j) X Y := by
        show p_with _ _ _ _ = _
        simp only [e2, e6, if_true, if_false]
      have e1 : m_send A p g = ma A 6 (upd (A 6) p (A 6 p - 1)) := by
        unfold m_send; rw [if_neg n0, if_neg (by rw [e5]; exact nI_nle (by omega) (by omega))]
      rw [e1, e3]
      refine ⟨fin _ g (s - 1) _ Y (fun k hk => ma_ne _ _ (by omega)) rfl rfl rfl rfl rfl rfl rfl a5 (by omega) e4 (by omega) (by show upd (A 6) p (A 6 p - 1) p = _; rw [e5]; exact if_pos rfl) a11 (fun _ => a12 c0) a14, rfl, agr_p (Or.inl rfl)⟩
