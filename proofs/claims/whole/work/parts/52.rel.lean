/-- where a part lies, in both -/
def MS (q : pS) (A : Nat → Nat → Int32) (p : Nat) : Prop := q.1 < 6 ∧ A 0 p = nI q.1 ∧ A 1 p = q.2.1.1 ∧ A 2 p = q.2.1.2.1 ∧ A 3 p = q.2.1.2.2.1 ∧ A 4 p = q.2.1.2.2.2 ∧
  ∃ f z l w : Nat, q.2.1 = (nI f, nI z, nI l, nI w) ∧ f + z ≤ 65536 ∧ 1 ≤ z ∧ z ≤ 64 ∧ l < 16 ∧ w < 8 ∧ (q.1 = 2 → z = 4) ∧ (q.1 = 3 → z = 3) ∧ (q.1 = 4 → z = 11) ∧ (q.1 = 5 → z = 4)
def MV2 (u : Nat → Int32) (A : Nat → Nat → Int32) (p : Nat) : Prop := A 5 (64 * p) = u 0 ∧ A 5 (64 * p + 1) = u 1 ∧ A 5 (64 * p + 2) = u 2 ∧ A 5 (64 * p + 3) = u 3 ∧ ∃ j, j < 16 ∧ u 2 = nI j
def MV3 (T : Nat) (u X Y : Nat → Int32) (A : Nat → Nat → Int32) (p : Nat) : Prop := A 5 (64 * p + 2) = u 5 ∧ ∃ a b g s : Nat, u 0 = nI a ∧ a < 32 ∧ u 1 = nI b ∧ b ≤ 32 ∧ u 2 = nI g ∧ g ≤ T ∧ u 4 = nI s ∧ s ≤ 4 ∧ A 6 p = nI s ∧ A 8 p = nI b ∧ A 10 p = nI g ∧ (s ≠ 0 → A 7 p = u 3) ∧
  (∀ k, k < b → A 9 (32 * p + k) = X ((a + k) % 32)) ∧ ∀ k, k < g → k < 32 → A 11 (32 * p + k) = Y ((g - min g 32 + k) % 32)
def MV4 (u X Y : Nat → Int32) (A : Nat → Nat → Int32) (p : Nat) : Prop := A 5 (64 * p) = u 0 ∧ A 5 (64 * p + 1) = u 1 ∧ A 5 (64 * p + 2) = u 4 ∧ (∀ k, k < 8 → A 5 (64 * p + 3 + k) = Y k) ∧ (∀ k, k < 64 → A 12 (64 * p + k) = X k) ∧
  ∃ r v s : Nat, u 0 = nI r ∧ r < 8 ∧ A 7 p = nI v ∧ v < 8 ∧ u 3 = nI s ∧ s ≤ 10 ∧ A 6 p = nI s ∧ (s = 0 → u 1 = 0) ∧ (s ≠ 0 → (u 1 = 1 ∨ u 1 = 2) ∧ u 2 = nI v)
/-- what a part holds, in both -/
def MV (T : Nat) (q : pS) (A : Nat → Nat → Int32) (p : Nat) : Prop :=
  (q.1 < 2 → ∀ k, k < p_len q → A 5 (64 * p + k) = q.2.2.2.1 k) ∧ (q.1 = 2 → MV2 q.2.2.1 A p) ∧ (q.1 = 3 → MV3 T q.2.2.1 q.2.2.2.1 q.2.2.2.2 A p) ∧ (q.1 = 4 → MV4 q.2.2.1 q.2.2.2.1 q.2.2.2.2 A p) ∧ (q.1 = 5 → ∀ k, k < 4 → A 5 (64 * p + k) = q.2.2.2.1 k) ∧ (q.1 ≠ 3 → A 8 p = 0 ∧ A 10 p = 0)
def MP (T : Nat) (q : pS) (A : Nat → Nat → Int32) (p : Nat) : Prop := MS q A p ∧ MV T q A p
/-- both families are alike where part p reads -/
def agr (A A' : Nat → Nat → Int32) (p : Nat) : Prop := A' 0 p = A 0 p ∧ A' 1 p = A 1 p ∧ A' 2 p = A 2 p ∧ A' 3 p = A 3 p ∧ A' 4 p = A 4 p ∧ (∀ k, k < 64 → A' 5 (64 * p + k) = A 5 (64 * p + k)) ∧ A' 6 p = A 6 p ∧ A' 7 p = A 7 p ∧ A' 8 p = A 8 p ∧ (∀ k, k < 32 → A' 9 (32 * p + k) = A 9 (32 * p + k)) ∧ A' 10 p = A 10 p ∧ (∀ k, k < 32 → A' 11 (32 * p + k) = A 11 (32 * p + k)) ∧ ∀ k, k < 64 → A' 12 (64 * p + k) = A 12 (64 * p + k)
theorem agr.rf (A : Nat → Nat → Int32) (p : Nat) : agr A A p := ⟨rfl, rfl, rfl, rfl, rfl, fun _ _ => rfl, rfl, rfl, rfl, fun _ _ => rfl, rfl, fun _ _ => rfl, fun _ _ => rfl⟩
theorem MS.agr {q : pS} {A A' : Nat → Nat → Int32} {p : Nat} (h : MS q A p) (e : agr A A' p) : MS q A' p := by
  obtain ⟨h1, h2, h3, h4, h5, h6, h7⟩ := h
  obtain ⟨e0, e1, e2, e3, e4, -⟩ := e
  exact ⟨h1, e0.trans h2, e1.trans h3, e2.trans h4, e3.trans h5, e4.trans h6, h7⟩
theorem MS.len {q : pS} {A : Nat → Nat → Int32} {p : Nat} (h : MS q A p) : q.1 < 2 → p_len q ≤ 64 ∧ q.2.1.2.1 = nI (p_len q) := by
  obtain ⟨h1, h2, h3, h4, h5, h6, f, z, l, w, h7, h8, h9, h10, -⟩ := h
  obtain ⟨k, s4, u, X, Y⟩ := q
  simp only at h7 ⊢
  subst h7
  intro hk
  have e : p_len ((k, (nI f, nI z, nI l, nI w), u, X, Y) : pS) = z := by
    have : k = 0 ∨ k = 1 := by omega
    rcases this with rfl | rfl <;> exact nI_clamp (by omega)
  rw [e]
  exact ⟨h10, rfl⟩
theorem MV.agr {T : Nat} {q : pS} {A A' : Nat → Nat → Int32} {p : Nat} (hs : MS q A p) (h : MV T q A p) (e : agr A A' p) : MV T q A' p := by
  obtain ⟨h1, h2, h3, h4, h5, h6⟩ := h
  obtain ⟨-, -, -, -, -, e5, e6, e7, e8, e9, e10, e11, e12⟩ := e
  refine ⟨fun hk k hk2 => ?_, fun hk => ?_, fun hk => ?_, fun hk => ?_, fun hk k hk2 => ?_, fun hk => ?_⟩
  · rw [e5 k (Nat.lt_of_lt_of_le hk2 (hs.len hk).1)]; exact h1 hk k hk2
  · obtain ⟨a1, a2, a3, a4, a5⟩ := h2 hk
    exact ⟨(e5 0 (by decide)).trans a1, (e5 1 (by decide)).trans a2, (e5 2 (by decide)).trans a3, (e5 3 (by decide)).trans a4, a5⟩
  · obtain ⟨a0, a, b, g, s, a1, a2, a3, a4, a5, a6, a7, a8, a9, a10, a11, a12, a13, a14⟩ := h3 hk
    exact ⟨(e5 2 (by decide)).trans a0, a, b, g, s, a1, a2, a3, a4, a5, a6, a7, a8, e6.trans a9, e8.trans a10, e10.trans a11, fun z => e7.trans (a12 z), fun k hk => (e9 k (by omega)).trans (a13 k hk), fun k hk hk2 => (e11 k hk2).trans (a14 k hk hk2)⟩
  · obtain ⟨a1, a2, a3, a4, a5, r, v, s, b1, b2, b3, b4, b5, b6, b7, b8, b9⟩ := h4 hk
    exact ⟨(e5 0 (by decide)).trans a1, (e5 1 (by decide)).trans a2, (e5 2 (by decide)).trans a3, fun k hk => by have := e5 (3 + k) (by omega); rw [← Nat.add_assoc] at this; rw [this]; exact a4 k hk, fun k hk => (e12 k hk).trans (a5 k hk), r, v, s, b1, b2, e7.trans b3, b4, b5, b6, e6.trans b7, b8, b9⟩
  · rw [e5 k (by omega)]; exact h5 hk k hk2
  · exact ⟨e8.trans (h6 hk).1, e10.trans (h6 hk).2⟩
theorem MP.agr {T : Nat} {q : pS} {A A' : Nat → Nat → Int32} {p : Nat} (h : MP T q A p) (e : agr A A' p) : MP T q A' p := ⟨h.1.agr e, h.2.agr h.1 e⟩
theorem MP.mono {T T' : Nat} {q : pS} {A : Nat → Nat → Int32} {p : Nat} (h : MP T q A p) (hT : T ≤ T') : MP T' q A p := by
  obtain ⟨hs, h1, h2, h3, h4, h5, h6⟩ := h
  refine ⟨hs, h1, h2, fun hk => ?_, h4, h5, h6⟩
  obtain ⟨a0, a, b, g, s, a1, a2, a3, a4, a5, a6, a7⟩ := h3 hk
  exact ⟨a0, a, b, g, s, a1, a2, a3, a4, a5, Nat.le_trans a6 hT, a7⟩
/-- the same seat and kind -/
theorem MS.with_ {q : pS} {A : Nat → Nat → Int32} {p : Nat} (h : MS q A p) (u X Y : Nat → Int32) : MS (p_with q u X Y) A p := h
/-- a place no part has yet -/
def MZ (A : Nat → Nat → Int32) (p : Nat) : Prop := (∀ k, k < 64 → A 5 (64 * p + k) = 0) ∧ A 6 p = 0 ∧ A 8 p = 0 ∧ A 10 p = 0 ∧ A 7 p = 0 ∧ ∀ k, k < 64 → A 12 (64 * p + k) = 0
theorem MZ.agr {A A' : Nat → Nat → Int32} {p : Nat} (h : MZ A p) (e : agr A A' p) : MZ A' p := by
  obtain ⟨h1, h2, h3, h4, h5, h6⟩ := h
  obtain ⟨-, -, -, -, -, e5, e6, e7, e8, e9, e10, e11, e12⟩ := e
  exact ⟨fun k hk => (e5 k hk).trans (h1 k hk), e6.trans h2, e8.trans h3, e10.trans h4, e7.trans h5, fun k hk => (e12 k hk).trans (h6 k hk)⟩
/-- THE RELATION -/
def MR (T : Nat) (c : cS) (I : Nat → Int32) (A : Nat → Nat → Int32) : Prop := I 2 = nI c.1 ∧ c.1 ≤ 12 ∧ I 1 = c.2.2.2.2.2.2.2.2.1 ∧ I 3 = c.2.2.2.2.2.2.2.2.2 ∧ (I 4 = c.2.2.2.2.1 1 ∧ I 5 = c.2.2.2.2.1 2 ∧ I 6 = c.2.2.2.2.1 3) ∧ (∀ p, p < c.1 → MP T (c.2.1 p) A p) ∧ (∀ p, c.1 ≤ p → p < 12 → MZ A p) ∧ ML c.2.2.1 c.2.2.2.1 c.2.2.2.2.2.1 c.2.2.2.2.2.2.1 c.2.2.2.2.2.2.2.1 A
theorem nI_and {j : Nat} {m : Int32} {n : Nat} : True := trivial
/-- whether a part asks is the same in both -/
theorem ask_eq {T : Nat} {q : pS} {A : Nat → Nat → Int32} {p : Nat} (h : MP T q A p) : p_wants q = m_ask A p := by
  obtain ⟨hs, h1, h2, h3, h4, h5, h6⟩ := h
  obtain ⟨k, s4, u, X, Y⟩ := q
  have hk := hs.1
  have h0 := hs.2.1
  simp only at hk h0 h2 h3 h4
  unfold m_ask m_ask2
  rw [h0]
  match k, hk with
  | 0, _ => rw [if_neg (by decide), if_neg (by decide), if_neg (by decide)]; rfl
  | 1, _ => rw [if_neg (by decide), if_neg (by decide), if_neg (by decide)]; rfl
  | 2, _ =>
    obtain ⟨a1, a2, a3, a4, a5⟩ := h2 rfl
    rw [if_pos (by decide), a3, a4]; rfl
  | 3, _ =>
    obtain ⟨a0, a, b, g, s, a1, a2, a3, a4, a5, a6, a7, a8, a9, a10, -⟩ := h3 rfl
    rw [if_neg (by decide), if_pos (by decide), a0, a9, a10]
    show sr_asks (u 1) (u 4) (u 5) = _
    unfold sr_asks
    rw [a3, a7]
    by_cases h9 : u 5 &&& 1 = 0
    · rw [if_pos h9, if_pos h9]
    · rw [if_neg h9, if_neg h9]
      by_cases h8 : nI b ≤ 0
      · rw [if_pos h8, if_neg (Int32.not_lt.mpr h8)]
      · rw [if_neg h8, if_pos (Int32.not_le.mp h8)]
  | 4, _ =>
    obtain ⟨a1, a2, a3, -⟩ := h4 rfl
    rw [if_neg (by decide), if_neg (by decide), if_pos (by decide), a3]; rfl
  | 5, _ => rw [if_neg (by decide), if_neg (by decide), if_neg (by decide)]; rfl
