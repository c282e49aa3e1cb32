theorem MV3.of {T : Nat} {u u' X Y : Nat → Int32} {A A' : Nat → Nat → Int32} {p : Nat} (h : MV3 T u X Y A p) : True := trivial
/-- a write of a SERIAL's register -/
theorem ws_rel {T : Nat} {q : pS} {A : Nat → Nat → Int32} {p kk : Nat} {v : Int32} (h : MP T q A p) (hk : q.1 = 3) (h3 : kk < 3) : MP T (p_set q (nI kk) v) (m_ws A p kk v) p ∧ (∀ j, j ≠ p → agr A (m_ws A p kk v) j) ∧ ∀ k, 13 ≤ k → m_ws A p kk v k = A k := by
  obtain ⟨kd, s4, u, X, Y⟩ := q
  simp only at hk
  subst hk
  obtain ⟨hs, h1, h2, h3', h4, h5, h6⟩ := h
  obtain ⟨a0, a, b, g, s, a1, a2, a3, a4, a5, a6, a7, a8, a9, a10, a11, a12, a13, a14⟩ := h3' rfl
  simp only at a0 a1 a3 a5 a7 a12 a13 a14
  have fin : ∀ (A' : Nat → Nat → Int32) (u' : Nat → Int32) (s' : Nat), (∀ k, k < 5 → A' k = A k) → A' 5 (64 * p + 2) = u' 5 → A' 8 = A 8 → A' 9 = A 9 → A' 10 = A 10 → A' 11 = A 11 → u' 0 = u 0 → u' 1 = u 1 → u' 2 = u 2 → u' 4 = nI s' → s' ≤ 4 → A' 6 p = nI s' → (s' ≠ 0 → A' 7 p = u' 3) → MP T (p_with (3, s4, u, X, Y) u' X Y) A' p := by
    intro A' u' s' k1 k5 k8 k9 k10 k11 w0 w1 w2 w4 hs' k6 k7
    exact ⟨hs.of5 k1, fun z => absurd (show 3 < 2 from z) (by decide), fun z => absurd (show 3 = 2 from z) (by decide), fun _ => ⟨k5, a, b, g, s', w0.trans a1, a2, w1.trans a3, a4, w2.trans a5, a6, w4, hs', k6, by rw [k8]; exact a10, by rw [k10]; exact a11, k7, fun k hk => by rw [k9]; exact a13 k hk, fun k hk hk2 => by rw [k11]; exact a14 k hk hk2⟩, fun z => absurd (show 3 = 4 from z) (by decide), fun z => absurd (show 3 = 5 from z) (by decide), fun z => absurd (show 3 = 3 from rfl) z⟩
  have hset : ∀ V3 V4 V5 : Int32, (if nI kk = 0 then (if u 4 = 0 then v &&& 255 else u 3) else u 3) = V3 → (if nI kk = 0 then (if u 4 = 0 then 4 else u 4) else u 4) = V4 → (if nI kk = 2 then v &&& 3 else u 5) = V5 → p_set ((3, s4, u, X, Y) : pS) (nI kk) v = p_with (3, s4, u, X, Y) (fun j => if j = 3 then V3 else if j = 4 then V4 else if j = 5 then V5 else u j) X Y := by
    rintro V3 V4 V5 rfl rfl rfl
    rfl
  have e : kk = 0 ∨ kk = 1 ∨ kk = 2 := by omega
  rcases e with rfl | rfl | rfl
  · by_cases c : s = 0
    · subst c
      have z4 : u 4 = 0 := a7
      rw [show m_ws A p 0 v = ma (ma A 6 (upd (A 6) p 4)) 7 (upd (A 7) p (v &&& 255)) from by unfold m_ws; rw [if_neg (by decide), if_pos rfl, if_pos (show A 6 p = 0 from a9)], hset (v &&& 255) 4 (u 5) (by rw [if_pos (by decide), if_pos z4]) (by rw [if_pos (by decide), if_pos z4]) (by rw [if_neg (by decide)])]
      exact ⟨fin _ _ 4 (fun k hk => by rw [ma_ne _ _ (by omega), ma_ne _ _ (by omega)]) a0 rfl rfl rfl rfl rfl rfl rfl rfl (by decide) (by exact if_pos rfl) (fun _ => if_pos rfl), fun j hj => agr.tr (agr_p (A := A) (p := p) (k := 6) (Or.inl rfl) j hj) (agr_p (A := ma A 6 (upd (A 6) p 4)) (k := 7) (Or.inr (Or.inl rfl)) j hj), fun k hk => by rw [ma_ne _ _ (by omega), ma_ne _ _ (by omega)]⟩
    · have n0 : ¬ A 6 p = 0 := by rw [a9]; exact nI_ne0 (by omega) (by omega)
      have n1 : ¬ u 4 = 0 := by rw [a7]; exact nI_ne0 (by omega) (by omega)
      rw [show m_ws A p 0 v = A from by unfold m_ws; rw [if_neg (by decide), if_pos rfl, if_neg n0], hset (u 3) (u 4) (u 5) (by rw [if_pos (by decide), if_neg n1]) (by rw [if_pos (by decide), if_neg n1]) (by rw [if_neg (by decide)])]
      exact ⟨fin A _ s (fun _ _ => rfl) a0 rfl rfl rfl rfl rfl rfl rfl a7 a8 a9 a12, fun j _ => agr.rf A j, fun _ _ => rfl⟩
  · rw [show m_ws A p 1 v = A from by unfold m_ws; rw [if_neg (by decide), if_neg (by decide)], hset (u 3) (u 4) (u 5) (by rw [if_neg (by decide)]) (by rw [if_neg (by decide)]) (by rw [if_neg (by decide)])]
    exact ⟨fin A _ s (fun _ _ => rfl) a0 rfl rfl rfl rfl rfl rfl rfl a7 a8 a9 a12, fun j _ => agr.rf A j, fun _ _ => rfl⟩
  · rw [show m_ws A p 2 v = ma A 5 (upd (A 5) (64 * p + 2) (v &&& 3)) from by unfold m_ws; rw [if_pos rfl], hset (u 3) (u 4) (v &&& 3) (by rw [if_neg (by decide)]) (by rw [if_neg (by decide)]) (by rw [if_pos (by decide)])]
    exact ⟨fin _ _ s (fun k hk => ma_ne _ _ (by omega)) (if_pos rfl) rfl rfl rfl rfl rfl rfl rfl a7 a8 a9 a12, agr5 (fun i hi => if_neg (by omega)), fun k hk => ma_ne _ _ (by omega)⟩
/-- a write of a ROWS' register -/
theorem wr_rel {T : Nat} {q : pS} {A : Nat → Nat → Int32} {p kk : Nat} {x : Int32} (h : MP T q A p) (hk : q.1 = 4) (h11 : kk < 11) : MP T (p_set q (nI kk) x) (m_wr A p kk x) p ∧ (∀ j, j ≠ p → agr A (m_wr A p kk x) j) ∧ ∀ k, 13 ≤ k → m_wr A p kk x k = A k := by
  obtain ⟨kd, s4, u, X, Y⟩ := q
  simp only at hk
  subst hk
  obtain ⟨hs, -, -, -, h4, -, h6⟩ := h
  obtain ⟨a1, a2, a3, a4, a5, r, v, s, b1, b2, b3, b4, b5, b6, b7, b8, b9⟩ := h4 rfl
  simp only at a1 a2 a3 a4 a5 b1 b5 b8 b9 h6
  have h6' := h6 (show ¬ 4 = 3 by decide)
  have fin : ∀ (A' : Nat → Nat → Int32) (r' v' s' : Nat) (u' Y' : Nat → Int32), (∀ k, k < 5 → A' k = A k) → A' 8 = A 8 → A' 10 = A 10 → A' 12 = A 12 → A' 5 (64 * p) = u' 0 → A' 5 (64 * p + 1) = u' 1 → A' 5 (64 * p + 2) = u' 4 → (∀ k, k < 8 → A' 5 (64 * p + 3 + k) = Y' k) → u' 0 = nI r' → r' < 8 → A' 7 p = nI v' → v' < 8 → u' 3 = nI s' → s' ≤ 10 → A' 6 p = nI s' → (s' = 0 → u' 1 = 0) → (s' ≠ 0 → (u' 1 = 1 ∨ u' 1 = 2) ∧ u' 2 = nI v') → MP T (p_with (4, s4, u, X, Y) u' X Y') A' p := by
    intro A' r' v' s' u' Y' k1 k8 k10 k12 w0 w1 w2 w3 w4 hr' k7 hv' w6 hs' k6 w7 w8
    exact ⟨hs.of5 k1, fun z => absurd (show 4 < 2 from z) (by decide), fun z => absurd (show 4 = 2 from z) (by decide), fun z => absurd (show 4 = 3 from z) (by decide), fun _ => ⟨w0, w1, w2, w3, fun k hk => by rw [k12]; exact a5 k hk, r', v', s', w4, hr', k7, hv', w6, hs', k6, w7, w8⟩, fun z => absurd (show 4 = 5 from z) (by decide), fun _ => ⟨by rw [k8]; exact h6'.1, by rw [k10]; exact h6'.2⟩⟩
  have hset : ∀ (V0 V1 V2 V3 V4 : Int32) (W : Nat → Int32), (if nI kk = 0 then x &&& 7 else u 0) = V0 → (if nI kk = 1 then (if rw_ok (u 1) x then x else u 1) else u 1) = V1 → (if nI kk = 1 then (if rw_ok (u 1) x then u 0 else u 2) else u 2) = V2 → (if nI kk = 1 then (if rw_ok (u 1) x then 10 else u 3) else u 3) = V3 → (if nI kk = 2 then 0 else u 4) = V4 → rw_putW Y (u 1) (nI kk) x = W → p_set ((4, s4, u, X, Y) : pS) (nI kk) x = p_with (4, s4, u, X, Y) (fun j => if j = 0 then V0 else if j = 1 then V1 else if j = 2 then V2 else if j = 3 then V3 else V4) X W := by
    rintro V0 V1 V2 V3 V4 W rfl rfl rfl rfl rfl rfl
    rfl
  have ew : ∀ k, k < 3 → rw_putW Y (u 1) (nI k) x = Y := fun k hk => by
    have : k = 0 ∨ k = 1 ∨ k = 2 := by omega
    unfold rw_putW
    rcases this with rfl | rfl | rfl
    · rw [if_pos (by decide)]
    · rw [if_neg (by decide), if_pos (by decide)]
    · rw [if_neg (by decide), if_neg (by decide), if_pos (by decide)]
  have hwork : A 6 p ≤ 0 ↔ s = 0 := by
    rw [b7]
    constructor
    · intro z; exact Classical.byContradiction (fun c => nI_nle (by omega) (by omega) z)
    · rintro rfl; decide
  have e : kk = 0 ∨ kk = 1 ∨ kk = 2 ∨ 2 < kk := by omega
  rcases e with rfl | rfl | rfl | e
  · obtain ⟨r', hr', e7⟩ := pk_andE x (m := 7) 3 (by decide)
    rw [show m_wr A p 0 x = ma A 5 (upd (A 5) (64 * p) (x &&& 7)) from by unfold m_wr; rw [if_pos rfl], hset (x &&& 7) (u 1) (u 2) (u 3) (u 4) Y (by rw [if_pos (by decide)]) (by rw [if_neg (by decide)]) (by rw [if_neg (by decide)]) (by rw [if_neg (by decide)]) (by rw [if_neg (by decide)]) (ew 0 (by decide))]
    exact ⟨fin _ r' v s _ Y (fun k hk => ma_ne _ _ (by omega)) rfl rfl rfl (if_pos rfl) ((if_neg (by omega)).trans a2) ((if_neg (by omega)).trans a3) (fun k hk => (if_neg (by omega)).trans (a4 k hk)) e7 hr' b3 b4 b5 b6 b7 b8 b9, agr5 (fun i hi => if_neg (by omega)), fun k hk => ma_ne _ _ (by omega)⟩
  · by_cases c : s = 0
    · have u1 := b8 c
      by_cases c2 : x = 1 ∨ x = 2
      · have ok : rw_ok (u 1) x = true := by unfold rw_ok; rw [u1]; rcases c2 with rfl | rfl <;> rfl
        rw [show m_wr A p 1 x = ma (ma (ma A 5 (upd (A 5) (64 * p + 1) x)) 6 (upd (A 6) p 10)) 7 (upd (A 7) p (A 5 (64 * p))) from by unfold m_wr; rw [if_neg (by decide), if_neg (by decide), if_pos (hwork.mpr c), if_neg (by decide), if_pos c2], hset (u 0) x (u 0) 10 (u 4) Y (by rw [if_neg (by decide)]) (by rw [if_pos (by decide), if_pos ok]) (by rw [if_pos (by decide), if_pos ok]) (by rw [if_pos (by decide), if_pos ok]) (by rw [if_neg (by decide)]) (ew 1 (by decide))]
        exact ⟨fin _ r r 10 _ Y (fun k hk => by rw [ma_ne _ _ (by omega), ma_ne _ _ (by omega), ma_ne _ _ (by omega)]) rfl rfl rfl ((if_neg (by omega)).trans a1) (if_pos rfl) ((if_neg (by omega)).trans a3) (fun k hk => (if_neg (by omega)).trans (a4 k hk)) b1 b2 (by show upd (A 7) p (A 5 (64 * p)) p = _; rw [a1, b1]; exact if_pos rfl) b2 rfl (by decide) (by exact if_pos rfl) (fun z => absurd z (by decide)) (fun _ => ⟨c2, b1⟩), fun j hj => agr.tr (agr5 (A := A) (p := p) (fun i hi => if_neg (by omega)) j hj) (agr.tr (agr_p (A := ma A 5 (upd (A 5) (64 * p + 1) x)) (p := p) (k := 6) (Or.inl rfl) j hj) (agr_p (A := ma (ma A 5 (upd (A 5) (64 * p + 1) x)) 6 (upd (A 6) p 10)) (p := p) (k := 7) (Or.inr (Or.inl rfl)) j hj)), fun k hk => by rw [ma_ne _ _ (by omega), ma_ne _ _ (by omega), ma_ne _ _ (by omega)]⟩
      · have ok : ¬ rw_ok (u 1) x = true := by
          unfold rw_ok
          have n1 : ¬ x = 1 := fun z => c2 (Or.inl z)
          have n2 : ¬ x = 2 := fun z => c2 (Or.inr z)
          simp [n1, n2]
        rw [show m_wr A p 1 x = A from by unfold m_wr; rw [if_neg (by decide), if_neg (by decide), if_pos (hwork.mpr c), if_neg (by decide), if_neg c2], hset (u 0) (u 1) (u 2) (u 3) (u 4) Y (by rw [if_neg (by decide)]) (by rw [if_pos (by decide), if_neg ok]) (by rw [if_pos (by decide), if_neg ok]) (by rw [if_pos (by decide), if_neg ok]) (by rw [if_neg (by decide)]) (ew 1 (by decide))]
        exact ⟨fin A r v s _ Y (fun _ _ => rfl) rfl rfl rfl a1 a2 a3 a4 b1 b2 b3 b4 b5 b6 b7 b8 b9, fun j _ => agr.rf A j, fun _ _ => rfl⟩
    · have u1 : ¬ u 1 = 0 := by rcases (b9 c).1 with z | z <;> rw [z] <;> decide
      have ok : ¬ rw_ok (u 1) x = true := by unfold rw_ok; simp [u1]
      rw [show m_wr A p 1 x = A from by unfold m_wr; rw [if_neg (by decide), if_neg (by decide), if_neg (fun z => c (hwork.mp z))], hset (u 0) (u 1) (u 2) (u 3) (u 4) Y (by rw [if_neg (by decide)]) (by rw [if_pos (by decide), if_neg ok]) (by rw [if_pos (by decide), if_neg ok]) (by rw [if_pos (by decide), if_neg ok]) (by rw [if_neg (by decide)]) (ew 1 (by decide))]
      exact ⟨fin A r v s _ Y (fun _ _ => rfl) rfl rfl rfl a1 a2 a3 a4 b1 b2 b3 b4 b5 b6 b7 b8 b9, fun j _ => agr.rf A j, fun _ _ => rfl⟩
  · rw [show m_wr A p 2 x = ma A 5 (upd (A 5) (64 * p + 2) 0) from by unfold m_wr; rw [if_neg (by decide), if_pos rfl], hset (u 0) (u 1) (u 2) (u 3) 0 Y (by rw [if_neg (by decide)]) (by rw [if_neg (by decide)]) (by rw [if_neg (by decide)]) (by rw [if_neg (by decide)]) (by rw [if_pos (by decide)]) (ew 2 (by decide))]
    exact ⟨fin _ r v s _ Y (fun k hk => ma_ne _ _ (by omega)) rfl rfl rfl ((if_neg (by omega)).trans a1) ((if_neg (by omega)).trans a2) (if_pos rfl) (fun k hk => (if_neg (by omega)).trans (a4 k hk)) b1 b2 b3 b4 b5 b6 b7 b8 b9, agr5 (fun i hi => if_neg (by omega)), fun k hk => ma_ne _ _ (by omega)⟩
  · have n0 : ¬ nI kk = 0 := nI_ne0 (by omega) (by omega)
    have n1 : ¬ nI kk = 1 := fun z9 => by have := (nI_eq (b := 1) (by omega) (by decide)).mp z9; omega
    have n2 : ¬ nI kk = 2 := fun z9 => by have := (nI_eq (b := 2) (by omega) (by decide)).mp z9; omega
    have hin : ¬ rw_in (nI kk) = 0 := by
      unfold rw_in
      rw [if_neg (show ¬ nI kk < 3 from nI_nlt (b := 3) (by omega) (by omega)), if_neg (show ¬ (11 : Int32) ≤ nI kk from nI_ge (b := 11) (by omega) (by decide))]
      decide
    have hsub : (nI kk - 3).toNatClampNeg = kk - 3 := by
      rw [show nI kk - 3 = nI (kk - 3) from nI_sub (b := 3) (by omega), nI_clamp (by omega)]
    have hpw : rw_putW Y (u 1) (nI kk) x = if u 1 = 0 then upd Y (kk - 3) x else Y := by
      unfold rw_putW
      rw [if_neg n0, if_neg n1, if_neg n2, if_neg hin, hsub]
    rw [hset (u 0) (u 1) (u 2) (u 3) (u 4) _ (by rw [if_neg n0]) (by rw [if_neg n1]) (by rw [if_neg n1]) (by rw [if_neg n1]) (by rw [if_neg n2]) hpw]
    by_cases c : s = 0
    · rw [show m_wr A p kk x = ma A 5 (upd (A 5) (64 * p + kk) x) from by unfold m_wr; rw [if_neg (by omega), if_neg (by omega), if_pos (hwork.mpr c), if_pos e], if_pos (b8 c)]
      refine ⟨fin _ r v s _ _ (fun k hk => ma_ne _ _ (by omega)) rfl rfl rfl ((if_neg (by omega)).trans a1) ((if_neg (by omega)).trans a2) ((if_neg (by omega)).trans a3) (fun k hk => ?_) b1 b2 b3 b4 b5 b6 b7 b8 b9, agr5 (fun i hi => if_neg (by omega)), fun k hk => ma_ne _ _ (by omega)⟩
      show upd (A 5) (64 * p + kk) x (64 * p + 3 + k) = upd Y (kk - 3) x k
      unfold upd
      by_cases c2 : k = kk - 3
      · rw [if_pos (by omega), if_pos c2]
      · rw [if_neg (by omega), if_neg c2]; exact a4 k hk
    · have u1 : ¬ u 1 = 0 := by rcases (b9 c).1 with z | z <;> rw [z] <;> decide
      rw [show m_wr A p kk x = A from by unfold m_wr; rw [if_neg (by omega), if_neg (by omega), if_neg (fun z => c (hwork.mp z))], if_neg u1]
      exact ⟨fin A r v s _ Y (fun _ _ => rfl) rfl rfl rfl a1 a2 a3 a4 b1 b2 b3 b4 b5 b6 b7 b8 b9, fun j _ => agr.rf A j, fun _ _ => rfl⟩
