theorem rw_q_nI {v : Nat} (h : v < 8) : rw_q (nI v) = v := by
  have : ∀ j : Fin 8, rw_q (nI j.val) = j.val := by decide +kernel
  exact this ⟨v, h⟩
/-- the rows' step is the same in both -/
theorem row_rel {T : Nat} {q : pS} {A : Nat → Nat → Int32} {p : Nat} (h : MP T q A p) (hk : q.1 = 4) : ∃ v, A 7 p = nI v ∧ v < 8 ∧ MP T (p_go q).1 (m_row A p v) p ∧ (p_go q).2 = 0 ∧ ∀ j, j ≠ p → agr A (m_row A p v) j := by
  obtain ⟨k, s4, u, X, Y⟩ := q
  simp only at hk
  subst hk
  obtain ⟨hs, -, -, -, h4, -, h6⟩ := h
  obtain ⟨a1, a2, a3, a4, a5, r, v, s, b1, b2, b3, b4, b5, b6, b7, b8, b9⟩ := h4 rfl
  simp only at a1 a2 a3 a4 a5 b1 b5 b8 b9 h6
  have h6' := h6 (show ¬ 4 = 3 by decide)
  refine ⟨v, b3, b4, ?_⟩
  have fin : ∀ (A' : Nat → Nat → Int32) (s' : Nat) (u' X' Y' : Nat → Int32), (∀ k, k < 5 → A' k = A k) → A' 7 = A 7 → A' 8 = A 8 → A' 10 = A 10 → A' 5 (64 * p) = u' 0 → A' 5 (64 * p + 1) = u' 1 → A' 5 (64 * p + 2) = u' 4 → (∀ k, k < 8 → A' 5 (64 * p + 3 + k) = Y' k) → (∀ k, k < 64 → A' 12 (64 * p + k) = X' k) → u' 0 = u 0 → u' 3 = nI s' → s' ≤ 10 → A' 6 p = nI s' → (s' = 0 → u' 1 = 0) → (s' ≠ 0 → (u' 1 = 1 ∨ u' 1 = 2) ∧ u' 2 = nI v) → MP T (p_with (4, s4, u, X, Y) u' X' Y') A' p := by
    intro A' s' u' X' Y' k1 k7 k8 k10 w0 w1 w2 w3 w4 w5 w6 hs' k6 w7 w8
    refine ⟨?_, fun z => absurd (show 4 < 2 from z) (by decide), fun z => absurd (show 4 = 2 from z) (by decide), fun z => absurd (show 4 = 3 from z) (by decide), fun _ => ⟨w0, w1, w2, w3, w4, r, v, s', w5.trans b1, b2, by rw [k7]; exact b3, b4, w6, hs', k6, w7, w8⟩, fun z => absurd (show 4 = 5 from z) (by decide), fun _ => ⟨by rw [k8]; exact h6'.1, by rw [k10]; exact h6'.2⟩⟩
    obtain ⟨c1, c2, c3, c4, c5, c6, c7⟩ := hs
    exact ⟨c1, by rw [k1 0 (by decide)]; exact c2, by rw [k1 1 (by decide)]; exact c3, by rw [k1 2 (by decide)]; exact c4, by rw [k1 3 (by decide)]; exact c5, by rw [k1 4 (by decide)]; exact c6, c7⟩
  by_cases c0 : s = 0
  · have e0 := b8 c0
    subst c0
    have e1 : m_row A p v = A := by unfold m_row; rw [b7, if_pos (by decide)]
    have e2 : rw_end (u 1) (u 3) = false := by unfold rw_end; rw [e0]; rfl
    rw [e1]
    refine ⟨?_, rfl, fun j _ => agr.rf A j⟩
    have e3 : (p_go ((4, s4, u, X, Y) : pS)).1 = p_with (4, s4, u, X, Y) (fun j => if j = 1 then u 1 else if j = 3 then u 3 else if j = 4 then u 4 else u j) X Y := by
      show p_with _ _ _ _ = _
      simp only [e2, Bool.false_eq_true, if_false]; simp [e0]
    rw [e3]
    exact fin A 0 _ X Y (fun _ _ => rfl) rfl rfl rfl a1 a2 a3 a4 a5 rfl b5 (by decide) b7 (fun _ => e0) (fun z => absurd rfl z)
  · obtain ⟨e0, e0'⟩ := b9 c0
    have e5 : A 6 p - 1 = nI (s - 1) := by rw [b7, nI_m1 c0]
    have e6 : u 3 - 1 = nI (s - 1) := by rw [b5, nI_m1 c0]
    have n0 : ¬ A 6 p = 0 := by rw [b7]; exact nI_ne0 (by omega) (by omega)
    have w0 : ¬ u 1 = 0 := by rcases e0 with z | z <;> rw [z] <;> decide
    by_cases c1 : s = 1
    · subst c1
      have e2 : rw_end (u 1) (u 3) = true := by unfold rw_end; rw [e6]; simp [w0]; rfl
      by_cases c2 : u 1 = 1
      · have e3 : (p_go ((4, s4, u, X, Y) : pS)).1 = p_with (4, s4, u, X, Y) (fun j => if j = 1 then 0 else if j = 3 then u 3 - 1 else if j = 4 then 1 else u j) X (va_cpy X Y (v * 8) 0 8) := by
          show p_with _ _ _ _ = _
          simp only [e2, if_true]; simp [c2, e0', rw_q_nI b4]
        have e1 : m_row A p v = ma (ma A 6 (upd (A 6) p (A 6 p - 1))) 5 (upd (upd (va_cpy (A 12) (A 5) (64 * p + 8 * v) (64 * p + 3) 8) (64 * p + 1) 0) (64 * p + 2) 1) := by
          unfold m_row; rw [if_neg n0, if_pos (by rw [e5]; decide), a2, if_pos c2]
        rw [e1, e3]
        refine ⟨fin _ 0 _ _ _ (fun k hk => by rw [ma_ne _ _ (by omega), ma_ne _ _ (by omega)]) rfl rfl rfl ?_ ?_ ?_ (fun k hk => ?_) a5 rfl (by show u 3 - 1 = _; rw [e6]) (by decide) (by show upd (A 6) p (A 6 p - 1) p = _; rw [e5]; exact if_pos rfl) (fun _ => rfl) (fun z => absurd rfl z), rfl, fun j hj => agr.tr (agr_p (A := A) (p := p) (v := A 6 p - 1) (Or.inl rfl) j hj) (agr5 (A := ma A 6 (upd (A 6) p (A 6 p - 1))) (p := p) (fun i hi => ?_) j hj)⟩
        · show upd (upd (va_cpy (A 12) (A 5) (64 * p + 8 * v) (64 * p + 3) 8) (64 * p + 1) 0) (64 * p + 2) 1 (64 * p) = u 0
          unfold upd va_cpy
          rw [if_neg (by omega), if_neg (by omega), if_neg (by omega)]; exact a1
        · show upd (upd (va_cpy (A 12) (A 5) (64 * p + 8 * v) (64 * p + 3) 8) (64 * p + 1) 0) (64 * p + 2) 1 (64 * p + 1) = 0
          unfold upd
          rw [if_neg (by omega), if_pos rfl]
        · show upd (upd (va_cpy (A 12) (A 5) (64 * p + 8 * v) (64 * p + 3) 8) (64 * p + 1) 0) (64 * p + 2) 1 (64 * p + 2) = 1
          unfold upd
          rw [if_pos rfl]
        · show upd (upd (va_cpy (A 12) (A 5) (64 * p + 8 * v) (64 * p + 3) 8) (64 * p + 1) 0) (64 * p + 2) 1 (64 * p + 3 + k) = va_cpy X Y (v * 8) 0 8 k
          unfold upd va_cpy
          rw [if_neg (by omega), if_neg (by omega), if_pos (by omega), if_pos (by omega), show 64 * p + 8 * v + (64 * p + 3 + k - (64 * p + 3)) = 64 * p + (8 * v + k) by omega, a5 _ (by omega)]
          congr 1; omega
        · show upd (upd (va_cpy (A 12) (A 5) (64 * p + 8 * v) (64 * p + 3) 8) (64 * p + 1) 0) (64 * p + 2) 1 i = A 5 i
          unfold upd va_cpy
          rw [if_neg (by omega), if_neg (by omega), if_neg (by omega)]
      · have e3 : (p_go ((4, s4, u, X, Y) : pS)).1 = p_with (4, s4, u, X, Y) (fun j => if j = 1 then 0 else if j = 3 then u 3 - 1 else if j = 4 then 1 else u j) (va_cpy Y X 0 (v * 8) 8) Y := by
          show p_with _ _ _ _ = _
          simp only [e2, if_true]; simp [c2, w0, e0', rw_q_nI b4]
        have e1 : m_row A p v = ma (ma (ma A 6 (upd (A 6) p (A 6 p - 1))) 12 (va_cpy (A 5) (A 12) (64 * p + 3) (64 * p + 8 * v) 8)) 5 (upd (upd (A 5) (64 * p + 1) 0) (64 * p + 2) 1) := by
          unfold m_row; rw [if_neg n0, if_pos (by rw [e5]; decide), a2, if_neg c2]
        rw [e1, e3]
        refine ⟨fin _ 0 _ _ _ (fun k hk => by rw [ma_ne _ _ (by omega), ma_ne _ _ (by omega), ma_ne _ _ (by omega)]) rfl rfl rfl ?_ ?_ ?_ (fun k hk => ?_) (fun k hk => ?_) rfl (by show u 3 - 1 = _; rw [e6]) (by decide) (by show upd (A 6) p (A 6 p - 1) p = _; rw [e5]; exact if_pos rfl) (fun _ => rfl) (fun z => absurd rfl z), rfl, fun j hj => agr.tr (agr_p (A := A) (p := p) (v := A 6 p - 1) (Or.inl rfl) j hj) (agr.tr (agr12 (A := ma A 6 (upd (A 6) p (A 6 p - 1))) (p := p) (R' := va_cpy (A 5) (A 12) (64 * p + 3) (64 * p + 8 * v) 8) (fun i hi => ?_) j hj) (agr5 (A := ma (ma A 6 (upd (A 6) p (A 6 p - 1))) 12 (va_cpy (A 5) (A 12) (64 * p + 3) (64 * p + 8 * v) 8)) (p := p) (fun i hi => ?_) j hj))⟩
        · show upd (upd (A 5) (64 * p + 1) 0) (64 * p + 2) 1 (64 * p) = u 0
          unfold upd
          rw [if_neg (by omega), if_neg (by omega)]; exact a1
        · show upd (upd (A 5) (64 * p + 1) 0) (64 * p + 2) 1 (64 * p + 1) = 0
          unfold upd
          rw [if_neg (by omega), if_pos rfl]
        · show upd (upd (A 5) (64 * p + 1) 0) (64 * p + 2) 1 (64 * p + 2) = 1
          unfold upd
          rw [if_pos rfl]
        · show upd (upd (A 5) (64 * p + 1) 0) (64 * p + 2) 1 (64 * p + 3 + k) = Y k
          unfold upd
          rw [if_neg (by omega), if_neg (by omega)]; exact a4 k hk
        · show va_cpy (A 5) (A 12) (64 * p + 3) (64 * p + 8 * v) 8 (64 * p + k) = va_cpy Y X 0 (v * 8) 8 k
          unfold va_cpy
          by_cases c3 : v * 8 ≤ k ∧ k < v * 8 + 8
          · rw [if_pos (by omega), if_pos c3, a4 _ (by omega)]
            congr 1; omega
          · rw [if_neg (by omega), if_neg c3]; exact a5 k hk
        · show va_cpy (A 5) (A 12) (64 * p + 3) (64 * p + 8 * v) 8 i = A 12 i
          unfold va_cpy
          rw [if_neg (by omega)]
        · show upd (upd (A 5) (64 * p + 1) 0) (64 * p + 2) 1 i = A 5 i
          unfold upd
          rw [if_neg (by omega), if_neg (by omega)]
    · have e7 : ¬ u 3 - 1 = 0 := by rw [e6]; exact nI_ne0 (by omega) (by omega)
      have e2 : rw_end (u 1) (u 3) = false := by unfold rw_end; simp [e7]
      have e3 : (p_go ((4, s4, u, X, Y) : pS)).1 = p_with (4, s4, u, X, Y) (fun j => if j = 1 then u 1 else if j = 3 then u 3 - 1 else if j = 4 then u 4 else u j) X Y := by
        show p_with _ _ _ _ = _
        simp [e2, w0]
      have e1 : m_row A p v = ma A 6 (upd (A 6) p (A 6 p - 1)) := by
        unfold m_row; rw [if_neg n0, if_neg (by rw [e5]; exact nI_nle (by omega) (by omega))]
      rw [e1, e3]
      exact ⟨fin _ (s - 1) _ X Y (fun k hk => ma_ne _ _ (by omega)) rfl rfl rfl a1 a2 a3 a4 a5 rfl e6 (by omega) (by show upd (A 6) p (A 6 p - 1) p = _; rw [e5]; exact if_pos rfl) (fun z => absurd z (by omega)) (fun _ => ⟨e0, e0'⟩), rfl, agr_p (Or.inl rfl)⟩
/-- the COUNTS in both -/
theorem bump_agr {A : Nat → Nat → Int32} {k N p : Nat} (h : ¬ A 0 p = 5 ∨ N ≤ p) : agr A (ma A 5 (m_bump A k N)) p := by
  refine ⟨rfl, rfl, rfl, rfl, rfl, fun i hi => ?_, rfl, rfl, rfl, fun _ _ => rfl, rfl, fun _ _ => rfl, fun _ _ => rfl⟩
  show m_bump A k N (64 * p + i) = _
  unfold m_bump
  have e : (64 * p + i) / 64 = p := by omega
  rw [e]
  refine if_neg (fun z => ?_)
  rcases h with h | h
  · exact h z.2.2
  · have := z.2.1; omega
theorem ct_add_nI {X : Nat → Int32} {k : Nat} (h : k < 4) : ct_add X 4 (nI k) = upd X k (X k + 1) := by
  unfold ct_add
  rw [if_neg (nI_pos (by omega)), if_neg (show ¬ Int32.ofNat 4 ≤ nI k from nI_ge h (by decide)), nI_clamp (by omega)]
theorem bump_5 {T : Nat} {q : pS} {A : Nat → Nat → Int32} {k N p : Nat} (h : MP T q A p) (h5 : q.1 = 5) (hp : p < N) (hk : k < 4) : MP T (p_with q q.2.2.1 (ct_add q.2.2.2.1 4 (nI k)) q.2.2.2.2) (ma A 5 (m_bump A k N)) p := by
  obtain ⟨kd, s4, u, X, Y⟩ := q
  simp only at h5
  subst h5
  obtain ⟨hs, -, -, -, -, h5, h6⟩ := h
  have a5 := h5 rfl
  refine ⟨hs, fun z => absurd (show 5 < 2 from z) (by decide), fun z => absurd (show 5 = 2 from z) (by decide), fun z => absurd (show 5 = 3 from z) (by decide), fun z => absurd (show 5 = 4 from z) (by decide), fun _ i hi => ?_, h6⟩
  show m_bump A k N (64 * p + i) = ct_add X 4 (nI k) i
  rw [ct_add_nI hk]
  unfold m_bump upd
  have e : (64 * p + i) / 64 = p := by omega
  have e2 : (64 * p + i) % 64 = i := by omega
  rw [e, e2, a5 i hi]
  by_cases c : i = k
  · subst c; rw [if_pos rfl, if_pos ⟨rfl, hp, by rw [hs.2.1]; rfl⟩]
  · rw [if_neg c, if_neg (fun z => c z.1)]
/-- what a reset leaves of a part -/
def MW (q : pS) (A : Nat → Nat → Int32) (p : Nat) : Prop := MS q A p ∧ (q.1 < 2 → ∀ k, k < p_len q → A 5 (64 * p + k) = q.2.2.2.1 k) ∧ (q.1 = 4 → (∀ k, k < 64 → A 12 (64 * p + k) = q.2.2.2.1 k) ∧ ∃ v, v < 8 ∧ A 7 p = nI v)
theorem MP.weak {T : Nat} {q : pS} {A : Nat → Nat → Int32} {p : Nat} (h : MP T q A p) : MW q A p := by
  obtain ⟨hs, h1, -, -, h4, -⟩ := h
  refine ⟨hs, h1, fun hk => ?_⟩
  obtain ⟨-, -, -, -, a5, r, v, s, -, -, b3, b4, -⟩ := h4 hk
  exact ⟨a5, v, b4, b3⟩
theorem reset_rel {T : Nat} {q : pS} {A : Nat → Nat → Int32} {p N : Nat} (h : MW q A p) (hp : p < N) : MP T (p_new q) (m_reset A N) p := by
  obtain ⟨kd, s4, u, X, Y⟩ := q
  obtain ⟨hs, h1, h4⟩ := h
  have hk := hs.1
  have h0 := hs.2.1
  simp only at hk h0
  have z6 : m_reset A N 6 p = 0 := if_pos hp
  have z8 : m_reset A N 8 p = 0 := if_pos hp
  have z10 : m_reset A N 10 p = 0 := if_pos hp
  have z5 : ∀ k, k < 64 → 1 < A 0 p → m_reset A N 5 (64 * p + k) = 0 := fun k hk h9 => by
    show m_rg A N (64 * p + k) = 0
    have e : (64 * p + k) / 64 = p := by omega
    unfold m_rg
    rw [e, if_pos ⟨hp, h9⟩]
  have n5 : ∀ k, k < 64 → ¬ 1 < A 0 p → m_reset A N 5 (64 * p + k) = A 5 (64 * p + k) := fun k hk h9 => by
    show m_rg A N (64 * p + k) = _
    have e : (64 * p + k) / 64 = p := by omega
    unfold m_rg
    rw [e, if_neg (fun z => h9 z.2)]
  match kd, hk with
  | 0, _ => exact ⟨hs, fun _ k hk2 => by have hk3 : k < p_len ((0, s4, u, X, Y) : pS) := hk2; rw [n5 k (by have := (hs.len (show 0 < 2 by decide)).1; omega) (by rw [h0]; decide)]; exact h1 (show 0 < 2 by decide) k hk2, fun z => absurd (show 0 = 2 from z) (by decide), fun z => absurd (show 0 = 3 from z) (by decide), fun z => absurd (show 0 = 4 from z) (by decide), fun z => absurd (show 0 = 5 from z) (by decide), fun _ => ⟨z8, z10⟩⟩
  | 1, _ => exact ⟨hs, fun _ k hk2 => by have hk3 : k < p_len ((1, s4, u, X, Y) : pS) := hk2; rw [n5 k (by have := (hs.len (show 1 < 2 by decide)).1; omega) (by rw [h0]; decide)]; exact h1 (show 1 < 2 by decide) k hk2, fun z => absurd (show 1 = 2 from z) (by decide), fun z => absurd (show 1 = 3 from z) (by decide), fun z => absurd (show 1 = 4 from z) (by decide), fun z => absurd (show 1 = 5 from z) (by decide), fun _ => ⟨z8, z10⟩⟩
  | 2, _ =>
    have g : 1 < A 0 p := by rw [h0]; decide
    exact ⟨hs, fun z => absurd (show 2 < 2 from z) (by decide), fun _ => ⟨z5 0 (by decide) g, z5 1 (by decide) g, z5 2 (by decide) g, z5 3 (by decide) g, 0, by decide, rfl⟩, fun z => absurd (show 2 = 3 from z) (by decide), fun z => absurd (show 2 = 4 from z) (by decide), fun z => absurd (show 2 = 5 from z) (by decide), fun _ => ⟨z8, z10⟩⟩
  | 3, _ =>
    have g : 1 < A 0 p := by rw [h0]; decide
    exact ⟨hs, fun z => absurd (show 3 < 2 from z) (by decide), fun z => absurd (show 3 = 2 from z) (by decide), fun _ => ⟨z5 2 (by decide) g, 0, 0, 0, 0, rfl, by decide, rfl, by decide, rfl, Nat.zero_le _, rfl, by decide, z6, z8, z10, fun z => absurd rfl z, fun k hk => absurd hk (Nat.not_lt_zero _), fun k hk => absurd hk (Nat.not_lt_zero _)⟩, fun z => absurd (show 3 = 4 from z) (by decide), fun z => absurd (show 3 = 5 from z) (by decide), fun z => absurd (show 3 = 3 from rfl) z⟩
  | 4, _ =>
    have g : 1 < A 0 p := by rw [h0]; decide
    obtain ⟨a5, v, hv, b3⟩ := h4 rfl
    exact ⟨hs, fun z => absurd (show 4 < 2 from z) (by decide), fun z => absurd (show 4 = 2 from z) (by decide), fun z => absurd (show 4 = 3 from z) (by decide), fun _ => ⟨z5 0 (by decide) g, z5 1 (by decide) g, z5 2 (by decide) g, fun k hk => by rw [Nat.add_assoc, z5 (3 + k) (by omega) g]; exact (if_pos hk).symm, a5, 0, v, 0, rfl, by decide, b3, hv, rfl, by decide, z6, fun _ => rfl, fun z => absurd rfl z⟩, fun z => absurd (show 4 = 5 from z) (by decide), fun _ => ⟨z8, z10⟩⟩
  | 5, _ =>
    have g : 1 < A 0 p := by rw [h0]; decide
    exact ⟨hs, fun z => absurd (show 5 < 2 from z) (by decide), fun z => absurd (show 5 = 2 from z) (by decide), fun z => absurd (show 5 = 3 from z) (by decide), fun z => absurd (show 5 = 4 from z) (by decide), fun _ k hk => by rw [z5 k (by omega) g]; exact (if_pos hk).symm, fun _ => ⟨z8, z10⟩⟩
theorem reset_MZ {A : Nat → Nat → Int32} {p N : Nat} (h : MZ A p) (hp : N ≤ p) : MZ (m_reset A N) p := by
  obtain ⟨h1, h2, h3, h4, h5, h6⟩ := h
  refine ⟨fun k hk => ?_, (if_neg (by omega)).trans h2, (if_neg (by omega)).trans h3, (if_neg (by omega)).trans h4, h5, h6⟩
  show m_rg A N (64 * p + k) = 0
  unfold m_rg
  rw [if_neg (fun z => by have := z.1; omega)]
  exact h1 k hk
theorem reset_ML {Wy Rk : Nat → Int32} {hi u kp : Int32} {A : Nat → Nat → Int32} {N : Nat} (M : ML Wy Rk hi u kp A) : ML Wy Rk hi 0 0 (m_reset A N) := by
  refine ⟨M.1, bits_za (A 16), bits_za (A 17), fun l hl => ?_⟩
  obtain ⟨w1, w2, w3, w4, w5, w6, w7, w8⟩ := M.2.2.2 l hl
  exact ⟨w1, w2, w3, w4, w5, Or.inl (if_pos hl), Or.inl (if_pos hl), fun _ => if_pos hl⟩
theorem c_anew_eq {N : Nat} : ∀ (m i : Nat) (P : Nat → pS) (p : Nat), c_anew N m i P p = if i ≤ p ∧ p < i + m ∧ p < N then p_new (P p) else P p
  | 0, i, P, p => by rw [if_neg (by omega)]; rfl
  | m + 1, i, P, p => by
    unfold c_anew
    by_cases h1 : i < N
    · rw [if_pos h1, c_anew_eq m (i + 1) _ p]
      unfold c_set
      by_cases h2 : p = i
      · subst h2; rw [if_neg (by omega), if_pos rfl, if_pos (by omega)]
      · rw [if_neg h2]
        by_cases h3 : i + 1 ≤ p ∧ p < i + 1 + m ∧ p < N
        · rw [if_pos h3, if_pos (by omega)]
        · rw [if_neg h3, if_neg (by omega)]
    · rw [if_neg h1, c_anew_eq m (i + 1) _ p, if_neg (by omega), if_neg (by omega)]
/-- a reset brings both together again -/
theorem reset_MR {T : Nat} {c : cS} {I : Nat → Int32} {A : Nat → Nat → Int32} {e : Int32} (h2 : I 2 = nI c.1) (h12 : c.1 ≤ 12) (h1 : I 1 = c.2.2.2.2.2.2.2.2.1) (hp : ∀ p, p < c.1 → MW (c.2.1 p) A p) (hz : ∀ p, c.1 ≤ p → p < 12 → MZ A p) (hM : ML c.2.2.1 c.2.2.2.1 c.2.2.2.2.2.1 c.2.2.2.2.2.2.1 c.2.2.2.2.2.2.2.1 A) : MR T (c_reset e c) (m_ri I e) (m_reset A c.1) := by
  refine ⟨h2, h12, h1, rfl, ⟨rfl, rfl, rfl⟩, fun p hp2 => ?_, fun p hp2 hp3 => reset_MZ (hz p hp2 hp3) hp2, reset_ML hM⟩
  have hp3 : p < c.1 := hp2
  show MP T (c_anew c.1 12 0 c.2.1 p) _ p
  rw [c_anew_eq, if_pos (by omega)]
  exact reset_rel (hp p hp3) hp3
