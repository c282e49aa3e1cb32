/-- the part that a call of part makes -/
def p_fresh (kd : Nat) (f le li w : Int32) : pS := (kd, (f, le, li, w), fun _ => 0, fun _ => 0, fun _ => 0)
def c_good (k f z l w : Int32) (c : cS) : Bool := decide (¬ sp_len k z ≤ 0 ∧ ¬ sp_isLine l = 0 ∧ ¬ w < 0 ∧ ¬ 7 < w ∧ ¬ sp_free c.1 c.2.1 f (sp_len k z) = 0)
def c_more (c : cS) (q : pS) : cS := (c.1 + 1, c_set c.2.1 c.1 q, c.2.2)
def c_part (k f z l w : Int32) (c : cS) : cA × cS := if c_good k f z l w c then (if c.1 < 12 then (.inl (nI c.1), c_more c (p_fresh k.toNatClampNeg f (sp_len k z) l w)) else (.inr 1, c)) else (.inr 0, c)
/-- what part does: the parts before stay where they are, a new one lies behind all -/
def CN (r : cA × cS) (n : Nat) (h : mm_H) (x : Nat) (pa : Nat → Nat) (c : cS) : mm_O → Nat → mm_H → Prop := fun o n' h' => o = o_i r.1 ∧ n ≤ n' ∧ ∃ pa' : Nat → Nat, CH h' x pa' r.2 ∧ (∀ i, i < c.1 → pa' i = pa i) ∧ (∀ i, i < r.2.1 → i < c.1 ∨ n ≤ pa' i) ∧ (∀ i, i < r.2.1 → pa' i + p_sz (r.2.2.1 i).1 ≤ n') ∧ ∀ i, ¬ CF x pa c i → i < n → h' i = h i
theorem CN.same {r : cA × cS} {n n' : Nat} {h : mm_H} {x : Nat} {pa : Nat → Nat} {c : cS} {a : cA} {o : mm_O} (hv : r = (a, c)) (ho : o = o_i a) (hn : n ≤ n') (H : CH h x pa c) (hB : ∀ i, i < c.1 → pa i + p_sz (c.2.1 i).1 ≤ n) : CN r n h x pa c o n' h := by
  subst hv
  exact ⟨ho, hn, pa, H, fun _ _ => rfl, fun i hi => Or.inl hi, fun i hi => Nat.le_trans (hB i hi) hn, fun _ _ _ => rfl⟩
theorem sp_len_k {k z : Int32} (h : ¬ sp_len k z ≤ 0) : (∃ kd, kd < 6 ∧ k = nI kd) ∧ ¬ sp_len k z < 0 ∧ (sp_len k z).toNatClampNeg ≤ 64 := by
  unfold sp_len at h ⊢
  split at h
  · rename_i hk
    split at h
    · exact absurd (by decide) h
    · rename_i h1
      split at h
      · exact absurd (by decide) h
      · rename_i h2
        rw [if_pos hk, if_neg h1, if_neg h2]
        refine ⟨?_, ?_, ?_⟩
        · rcases hk with hk | hk
          · exact ⟨0, by decide, hk⟩
          · exact ⟨1, by decide, hk⟩
        · intro h3; exact h1 (Int32.lt_of_lt_of_le h3 (by decide))
        · have h3 := Int32.not_lt.mp h2
          rw [Int32.le_iff_toInt_le] at h3
          have h4 : (64 : Int32).toInt = 64 := by decide
          unfold Int32.toNatClampNeg
          omega
  · rename_i hk
    rw [if_neg hk]
    split at h
    · rename_i h2; rw [if_pos h2]; exact ⟨⟨2, by decide, h2⟩, by decide, by decide⟩
    · rename_i h2; rw [if_neg h2]
      split at h
      · rename_i h3; rw [if_pos h3]; exact ⟨⟨3, by decide, h3⟩, by decide, by decide⟩
      · rename_i h3; rw [if_neg h3]
        split at h
        · rename_i h4; rw [if_pos h4]; exact ⟨⟨4, by decide, h4⟩, by decide, by decide⟩
        · rename_i h4; rw [if_neg h4]
          split at h
          · rename_i h5; rw [if_pos h5]; exact ⟨⟨5, by decide, h5⟩, by decide, by decide⟩
          · exact absurd (by decide) h
theorem K_isFree {sc : mm_Sc} {n : Nat} {h : mm_H} {x : Nat} {pa : Nat → Nat} {c : cS} {f l : Int32} (H : CH h x pa c) : mm_J sc y_SP_isFree 3 [.ref x, .int f, .int l] n h 0 0 (fun o n' h' => o = .inl (some (.int (sp_free c.1 c.2.1 f l))) ∧ n' = n ∧ h' = h) := J_SP_isFree (N := c.1) H
/-- a part into the array of parts -/
theorem g_aast {sc : mm_Sc} {y : mm_M} {n d pc kc ks a b len : Nat} {l : mm_L} {st : List Value} {h : mm_H} {Q : mm_O → Nat → mm_H → Prop} {p : pS} {f : Nat → Option Nat} {i : Int32} (hd : decode y.2.1 pc = .ok (.aastore, 1)) (hc : h b = some (.inl (3, len, .inr (.inr (.inr (.inr f)))))) (hp : h (a + 1) = some (p_obj a p)) (hk : p.1 < 6) (hi : vp_in i len)
    (kk : mm_G sc y d (pc + 1) l st n (va_up h b (some (.inl (3, len, .inr (.inr (.inr (.inr (va_up f i.toNatClampNeg (some (a + 1)))))))))) kc ks Q) : mm_G sc y d pc l (.ref (a + 1) :: .int i :: .ref b :: st) n h kc ks Q := by
  obtain ⟨k, s4, u, A, B⟩ := p
  simp only at hk
  match k, hk with
  | 0, _ => exact mm_aast hd hc hp cl_Cells m_889 hi kk
  | 1, _ => exact mm_aast hd hc hp cl_Cells m_889 hi kk
  | 2, _ => exact mm_aast hd hc hp cl_Timer m_893 hi kk
  | 3, _ => exact mm_aast hd hc hp cl_Serial m_892 hi kk
  | 4, _ => exact mm_aast hd hc hp cl_Rows m_891 hi kk
  | 5, _ => exact mm_aast hd hc hp cl_Counts m_890 hi kk
theorem CH_more {h : mm_H} {x n : Nat} {pa : Nat → Nat} {c : cS} {q : pS} (H : CH h x pa c) (hx : x + 6 ≤ n) (hB : ∀ i, i < c.1 → pa i + p_sz (c.2.1 i).1 ≤ n) (h12 : c.1 < 12) (hk : q.1 < 6) (hl : p_len q < 2 ^ 31) :
    CN (.inl (nI c.1), c_more c q) n h x pa c (.inl (some (.int (nI c.1)))) (n + p_sz q.1) (va_up (va_up (p_put (va_up h n (some (p_seat q))) n q) (x + 1) (some (.inl (3, 12, .inr (.inr (.inr (.inr (va_up (c_refs c.1 pa) c.1 (some (n + 1)))))))))) x (some (.inr (0, [.ref (x + 1), .ref (x + 2), .ref (x + 5), .int (nI (c.1 + 1)), .int c.2.2.2.2.2.2.2.2.1, .int c.2.2.2.2.2.2.2.2.2])))) := by
  obtain ⟨q0, q1, q2, q3, q4, q5, q6, q7, q8⟩ := H
  have hsz := p_sz_le q.1
  -- everything below n but x and x + 1 is as before
  have low : ∀ i, i < n → i ≠ x → i ≠ x + 1 → va_up (va_up (p_put (va_up h n (some (p_seat q))) n q) (x + 1) (some (.inl (3, 12, .inr (.inr (.inr (.inr (va_up (c_refs c.1 pa) c.1 (some (n + 1)))))))))) x (some (.inr (0, [.ref (x + 1), .ref (x + 2), .ref (x + 5), .int (nI (c.1 + 1)), .int c.2.2.2.2.2.2.2.2.1, .int c.2.2.2.2.2.2.2.2.2]))) i = h i := fun i h1 h2 h3 => by
    rw [va_up_ne _ _ h2, va_up_ne _ _ h3, p_put_ne (Or.inl h1), va_up_ne _ _ (by omega)]
  have hi9 : ∀ i, n ≤ i → va_up (va_up (p_put (va_up h n (some (p_seat q))) n q) (x + 1) (some (.inl (3, 12, .inr (.inr (.inr (.inr (va_up (c_refs c.1 pa) c.1 (some (n + 1)))))))))) x (some (.inr (0, [.ref (x + 1), .ref (x + 2), .ref (x + 5), .int (nI (c.1 + 1)), .int c.2.2.2.2.2.2.2.2.1, .int c.2.2.2.2.2.2.2.2.2]))) i = p_put (va_up h n (some (p_seat q))) n q i := fun i h1 => by
    rw [va_up_ne _ _ (by omega), va_up_ne _ _ (by omega)]
  have hpn : ∀ i, i < c.1 → (fun i => if i = c.1 then n else pa i) i = pa i := fun i hi => if_neg (by omega)
  have hqn : ∀ i, i < c.1 → (c_more c q).2.1 i = c.2.1 i := fun i hi => if_neg (by omega)
  have hpN : (fun i => if i = c.1 then n else pa i) c.1 = n := if_pos rfl
  have hqN : (c_more c q).2.1 c.1 = q := if_pos rfl
  refine ⟨rfl, Nat.le_add_right _ _, fun i => if i = c.1 then n else pa i, ⟨va_up_self _ _ _, ?_, ?_, ?_, ?_, ?_, h12, ?_, ?_⟩, hpn, ?_, ?_, ?_⟩
  · rw [va_up_ne _ _ (by omega), va_up_self]
    congr 1
    have e : va_up (c_refs c.1 pa) c.1 (some (n + 1)) = c_refs (c.1 + 1) (fun i => if i = c.1 then n else pa i) := by
      funext i
      by_cases h1 : i = c.1
      · subst h1; simp [va_up, c_refs]
      · simp only [va_up, c_refs, if_neg h1]
        by_cases h2 : i < c.1
        · rw [if_pos h2, if_pos (by omega)]
        · rw [if_neg h2, if_neg (by omega)]
    rw [e]
    rfl
  · rw [low _ (by omega) (by omega) (by omega)]; exact q2
  · rw [low _ (by omega) (by omega) (by omega)]; exact q3
  · rw [low _ (by omega) (by omega) (by omega)]; exact q4
  · rw [low _ (by omega) (by omega) (by omega)]; exact q5
  · intro i hi
    by_cases h1 : i = c.1
    · subst h1
      rw [hpN, hqN]
      refine ⟨⟨?_, ?_, fun hk2 => ?_, fun hk2 => ?_, fun hk2 => ?_, hk, hl⟩, hx⟩
      · rw [hi9 _ (Nat.le_refl _)]; simp [p_put, va_up]
      · rw [hi9 _ (by omega)]; simp [p_put]
      · rw [hi9 _ (by omega)]; simp [p_put, hk2]
      · rw [hi9 _ (by omega)]; simp [p_put, hk2]
      · rw [hi9 _ (by omega)]; simp [p_put, hk2]
    · have hi2 : i < c.1 := by have : i < c.1 + 1 := hi; omega
      rw [hpn i hi2, hqn i hi2]
      have h9 := q7 i hi2
      have hb := hB i hi2
      have hs := p_sz_le (c.2.1 i).1
      refine ⟨?_, h9.2⟩
      obtain ⟨⟨r1, r2, r3, r4, r5, r6, r7⟩, r8⟩ := h9
      refine ⟨?_, ?_, fun hk2 => ?_, fun hk2 => ?_, fun hk2 => ?_, r6, r7⟩
      · rw [low _ (by omega) (by omega) (by omega)]; exact r1
      · rw [low _ (by omega) (by omega) (by omega)]; exact r2
      · have : 3 ≤ p_sz (c.2.1 i).1 := by unfold p_sz; split <;> omega
        rw [low _ (by omega) (by omega) (by omega)]; exact r3 hk2
      · have : p_sz (c.2.1 i).1 = 4 := by rw [hk2]; rfl
        rw [low _ (by omega) (by omega) (by omega)]; exact r4 hk2
      · have : p_sz (c.2.1 i).1 = 4 := by rw [hk2]; rfl
        rw [low _ (by omega) (by omega) (by omega)]; exact r5 hk2
  · intro i j hij hj
    have hj2 : j < c.1 + 1 := hj
    have hi2 : i < c.1 := by omega
    rw [hpn i hi2, hqn i hi2]
    by_cases h1 : j = c.1
    · subst h1; rw [hpN]; exact hB i hi2
    · rw [hpn j (by omega)]; exact q8 i j hij (by omega)
  · intro i hi
    have hi1 : i < c.1 + 1 := hi
    by_cases h1 : i = c.1
    · subst h1; exact Or.inr (Nat.le_of_eq hpN.symm)
    · exact Or.inl (by omega)
  · intro i hi
    have hi1 : i < c.1 + 1 := hi
    by_cases h1 : i = c.1
    · subst h1; rw [hpN, hqN]; exact Nat.le_refl _
    · rw [hpn i (by omega), hqn i (by omega)]; have := hB i (by omega); omega
  · intro i hi hn
    refine low i hn (fun e => hi (Or.inl (by omega))) (fun e => hi (Or.inl (by omega)))
theorem mm_cast9 {Q : mm_O → Nat → mm_H → Prop} {o : mm_O} {n : Nat} {h h' : mm_H} (k : Q o n h) (e : h = h') : Q o n h' := e ▸ k
theorem p_len_f {kd : Nat} {f le li w : Int32} (hkd : kd < 6) (hl : le.toNatClampNeg ≤ 64) : p_len (p_fresh kd f le li w) < 2 ^ 31 := by
  match kd, hkd with
  | 0, _ => show le.toNatClampNeg < _; omega
  | 1, _ => show le.toNatClampNeg < _; omega
  | 2, _ => show (4 : Nat) < 2 ^ 31; decide
  | 3, _ => show (32 : Nat) < 2 ^ 31; decide
  | 4, _ => show (64 : Nat) < 2 ^ 31; decide
  | 5, _ => show (4 : Nat) < 2 ^ 31; decide
theorem nI_ge9 {N : Nat} (h : 12 ≤ N) (h2 : N ≤ 12) : ¬ nI N < Int32.ofNat 12 := by
  obtain rfl : N = 12 := by omega
  decide
theorem nI_lt9 {a b : Nat} (h : a < b) (hb : b < 2 ^ 31) : nI a < Int32.ofNat b := Int32.not_le.mp (nI_ge h hb)
theorem nI_nneg {N : Nat} (h : N < 2 ^ 31) : ¬ nI N < 0 := by
  rw [Int32.lt_iff_toInt_lt, nI_toInt h]
  have : (0 : Int32).toInt = 0 := by decide
  omega
set_option maxRecDepth 100000 in
set_option maxHeartbeats 4000000 in
theorem J_SP_part {sc : mm_Sc} {n : Nat} {h : mm_H} {x : Nat} {pa : Nat → Nat} {c : cS} {k f z l w : Int32} (H : CH h x pa c) (hx : x + 6 ≤ n) (hB : ∀ i, i < c.1 → pa i + p_sz (c.2.1 i).1 ≤ n) : mm_J sc y_SP_part 9 [.ref x, .int k, .int f, .int z, .int l, .int w] n h 4 104 (CN (c_part k f z l w c) n h x pa c) := by
  refine mm_J.of (show mm_G sc y_SP_part 9 0 [some (.ref x), some (.int k), some (.int f), some (.int z), some (.int l), some (.int w), none, none, none] [] n h 4 104 _ from ?_) ce_SP_part.2.2.2.2.1 (Nat.le_of_ble_eq_true rfl) (by simp [Value.category])
  have q0 : h x = some (.inr (0, [.ref (x + 1), .ref (x + 2), .ref (x + 5), .int (nI c.1), .int c.2.2.2.2.2.2.2.2.1, .int c.2.2.2.2.2.2.2.2.2])) := H.1
  have q1 : h (x + 1) = some (.inl (3, 12, .inr (.inr (.inr (.inr (c_refs c.1 pa)))))) := H.2.1
  have q2 : h (x + 2) = some (.inr (1, [.ref (x + 3), .ref (x + 4), .int c.2.2.2.2.2.1, .int c.2.2.2.2.2.2.1, .int c.2.2.2.2.2.2.2.1])) := H.2.2.1
  have q3 : h (x + 3) = some (.inl (0, 16, .inl c.2.2.1)) := H.2.2.2.1
  have q4 : h (x + 4) = some (.inl (0, 16, .inl c.2.2.2.1)) := H.2.2.2.2.1
  have q5 : h (x + 5) = some (.inl (0, 4, .inl c.2.2.2.2.1)) := H.2.2.2.2.2.1
  have q6 : c.1 ≤ 12 := H.2.2.2.2.2.2.1
  have q7 : ∀ j9, j9 < c.1 → PH h (pa j9) (c.2.1 j9) ∧ x + 6 ≤ pa j9 := H.2.2.2.2.2.2.2.1
  refine mm_iload_n d_SP_part_0 rfl ?_
  refine mm_iload_n d_SP_part_1 rfl ?_
  refine mm_callD (kc' := 0) (ks' := 0) d_SP_part_2 (mm_Inv.sta (as := [.int k, .int z]) d_SP_part_2 (Or.inl m_144) m_145 ce_SP_lengthOf.2.1 ce_SP_lengthOf.2.2.1 ce_SP_lengthOf.2.2.2.1 ce_SP_lengthOf.2.2.2.2.2 ln_SP_lengthOf rfl) J_SP_lengthOf (by decide) ce_SP_lengthOf.1 ce_SP_lengthOf.2.1 ce_SP_lengthOf.2.2.1 ce_SP_lengthOf.2.2.2.1 (Nat.le_of_ble_eq_true rfl) ?_
  refine mm_istore d_SP_part_5 (by decide) ?_
  refine mm_iload d_SP_part_7 rfl ?_
  refine mm_if_le (tgt := 46) d_SP_part_9 (by decide) (fun c_9 => ?_) (fun c_9 => ?_)
  · refine mm_iconst (v := 0) d_SP_part_46 (by decide) ?_
    refine mm_istore d_SP_part_47 (by decide) ?_
    refine mm_iload d_SP_part_49 rfl ?_
    refine mm_if_ne (tgt := 64) d_SP_part_51 (by decide) (fun c9 => absurd rfl c9) (fun _ => ?_)
    exact mm_throw (kc := 3) (ks := 98) xs_ok xo_SP_part_54 d_SP_part_54 d_SP_part_57 d_SP_part_58 d_SP_part_60 d_SP_part_63 rfl (by decide) (Nat.le_of_ble_eq_true rfl) (fun n8 hn8 => (CN.same (a := .inr 0) (by unfold c_part c_good; rw [if_neg (fun z8 => absurd (of_decide_eq_true z8) (fun z9 => z9.1 c_9))]) rfl (by omega) H hB))
  · refine mm_iload d_SP_part_12 rfl ?_
    refine mm_callD (kc' := 0) (ks' := 0) d_SP_part_14 (mm_Inv.sta (as := [.int l]) d_SP_part_14 (Or.inl m_147) m_148 ce_SP_isLine.2.1 ce_SP_isLine.2.2.1 ce_SP_isLine.2.2.2.1 ce_SP_isLine.2.2.2.2.2 ln_SP_isLine rfl) J_SP_isLine (by decide) ce_SP_isLine.1 ce_SP_isLine.2.1 ce_SP_isLine.2.2.1 ce_SP_isLine.2.2.2.1 (Nat.le_of_ble_eq_true rfl) ?_
    refine mm_if_eq (tgt := 46) d_SP_part_17 (by decide) (fun c_17 => ?_) (fun c_17 => ?_)
    · refine mm_iconst (v := 0) d_SP_part_46 (by decide) ?_
      refine mm_istore d_SP_part_47 (by decide) ?_
      refine mm_iload d_SP_part_49 rfl ?_
      refine mm_if_ne (tgt := 64) d_SP_part_51 (by decide) (fun c9 => absurd rfl c9) (fun _ => ?_)
      exact mm_throw (kc := 3) (ks := 98) xs_ok xo_SP_part_54 d_SP_part_54 d_SP_part_57 d_SP_part_58 d_SP_part_60 d_SP_part_63 rfl (by decide) (Nat.le_of_ble_eq_true rfl) (fun n8 hn8 => (CN.same (a := .inr 0) (by unfold c_part c_good; rw [if_neg (fun z8 => absurd (of_decide_eq_true z8) (fun z9 => z9.2.1 c_17))]) rfl (by omega) H hB))
    · refine mm_iload d_SP_part_20 rfl ?_
      refine mm_if_lt (tgt := 46) d_SP_part_22 (by decide) (fun c_22 => ?_) (fun c_22 => ?_)
      · refine mm_iconst (v := 0) d_SP_part_46 (by decide) ?_
        refine mm_istore d_SP_part_47 (by decide) ?_
        refine mm_iload d_SP_part_49 rfl ?_
        refine mm_if_ne (tgt := 64) d_SP_part_51 (by decide) (fun c9 => absurd rfl c9) (fun _ => ?_)
        exact mm_throw (kc := 3) (ks := 98) xs_ok xo_SP_part_54 d_SP_part_54 d_SP_part_57 d_SP_part_58 d_SP_part_60 d_SP_part_63 rfl (by decide) (Nat.le_of_ble_eq_true rfl) (fun n8 hn8 => (CN.same (a := .inr 0) (by unfold c_part c_good; rw [if_neg (fun z8 => absurd (of_decide_eq_true z8) (fun z9 => z9.2.2.1 c_22))]) rfl (by omega) H hB))
      · refine mm_iload d_SP_part_25 rfl ?_
        refine mm_bipush (v := 7) d_SP_part_27 (by decide) ?_
        refine mm_icmp_gt (tgt := 46) d_SP_part_29 (by decide) (fun c_29 => ?_) (fun c_29 => ?_)
        · refine mm_iconst (v := 0) d_SP_part_46 (by decide) ?_
          refine mm_istore d_SP_part_47 (by decide) ?_
          refine mm_iload d_SP_part_49 rfl ?_
          refine mm_if_ne (tgt := 64) d_SP_part_51 (by decide) (fun c9 => absurd rfl c9) (fun _ => ?_)
          exact mm_throw (kc := 3) (ks := 98) xs_ok xo_SP_part_54 d_SP_part_54 d_SP_part_57 d_SP_part_58 d_SP_part_60 d_SP_part_63 rfl (by decide) (Nat.le_of_ble_eq_true rfl) (fun n8 hn8 => (CN.same (a := .inr 0) (by unfold c_part c_good; rw [if_neg (fun z8 => absurd (of_decide_eq_true z8) (fun z9 => z9.2.2.2.1 c_29))]) rfl (by omega) H hB))
        · refine mm_aload_n d_SP_part_32 rfl ?_
          refine mm_iload_n d_SP_part_33 rfl ?_
          refine mm_iload d_SP_part_34 rfl ?_
          refine mm_callD (kc' := 0) (ks' := 0) d_SP_part_36 (mm_Inv.vi (as := [.int f, .int (sp_len k z)]) d_SP_part_36 (Or.inl m_150) m_152 ce_SP_isFree.2.1 ce_SP_isFree.2.2.1 mp_3 ce_SP_isFree.2.2.2.2.2 ln_SP_isFree cl_SP q0 rfl) (K_isFree H) (by decide) ce_SP_isFree.1 ce_SP_isFree.2.1 ce_SP_isFree.2.2.1 ce_SP_isFree.2.2.2.1 (Nat.le_of_ble_eq_true rfl) ?_
          refine mm_if_eq (tgt := 46) d_SP_part_39 (by decide) (fun c_39 => ?_) (fun c_39 => ?_)
          · refine mm_iconst (v := 0) d_SP_part_46 (by decide) ?_
            refine mm_istore d_SP_part_47 (by decide) ?_
            refine mm_iload d_SP_part_49 rfl ?_
            refine mm_if_ne (tgt := 64) d_SP_part_51 (by decide) (fun c9 => absurd rfl c9) (fun _ => ?_)
            exact mm_throw (kc := 3) (ks := 98) xs_ok xo_SP_part_54 d_SP_part_54 d_SP_part_57 d_SP_part_58 d_SP_part_60 d_SP_part_63 rfl (by decide) (Nat.le_of_ble_eq_true rfl) (fun n8 hn8 => (CN.same (a := .inr 0) (by unfold c_part c_good; rw [if_neg (fun z8 => absurd (of_decide_eq_true z8) (fun z9 => z9.2.2.2.2 c_39))]) rfl (by omega) H hB))
          · refine mm_iconst (v := 1) d_SP_part_42 (by decide) ?_
            refine mm_goto (tgt := 47) d_SP_part_43 (by decide) ?_
            refine mm_istore d_SP_part_47 (by decide) ?_
            refine mm_iload d_SP_part_49 rfl ?_
            refine mm_if_ne (tgt := 64) d_SP_part_51 (by decide) (fun _ => ?_) (fun c9 => absurd c9 (by decide))
            refine mm_aload_n d_SP_part_64 rfl ?_
            refine mm_getf d_SP_part_65 cl_SP fl_SP_26_SP (by decide) q0 rfl ?_
            refine mm_if_lt (tgt := 83) d_SP_part_68 (by decide) (fun c_68 => absurd c_68 (nI_nneg (by omega))) (fun c_68 => ?_)
            refine mm_aload_n d_SP_part_71 rfl ?_
            refine mm_getf d_SP_part_72 cl_SP fl_SP_26_SP (by decide) q0 rfl ?_
            refine mm_aload_n d_SP_part_75 rfl ?_
            refine mm_getf d_SP_part_76 cl_SP fl_SP_11_SP (by decide) q0 rfl ?_
            refine mm_alen d_SP_part_79 q1 (by decide) ?_
            refine mm_icmp_lt (tgt := 93) d_SP_part_80 (by decide) (fun c_80 => ?_) (fun c_80 => ?_)
            · refine mm_aload_n d_SP_part_93 rfl ?_
              refine mm_getf d_SP_part_94 cl_SP fl_SP_26_SP (by decide) q0 rfl ?_
              refine mm_istore d_SP_part_97 (by decide) ?_
              refine mm_aload_n d_SP_part_99 rfl ?_
              refine mm_getf d_SP_part_100 cl_SP fl_SP_11_SP (by decide) q0 rfl ?_
              refine mm_iload d_SP_part_103 rfl ?_
              refine mm_iload_n d_SP_part_105 rfl ?_
              obtain ⟨⟨kd, hkd, rfl⟩, hl0, hl1⟩ := sp_len_k c_9
              have h12 : c.1 < 12 := Nat.not_le.mp (fun z9 => absurd c_80 (nI_ge9 z9 q6))
              refine mm_new (kc := 3) (ks := 100) (fs := [.int 0, .int 0, .int 0, .int 0]) d_SP_part_106 cl_Seat ty_Seat m_247 m_248 m_9 (fun j hj => match j, hj with | 0, _ => rfl | 1, _ => rfl | 2, _ => rfl | 3, _ => rfl | j + 4, hj => absurd hj (by omega)) ?_
              have hs0 : va_up h n (some (.inr (2, [.int 0, .int 0, .int 0, .int 0]))) n = some (.inr (2, [.int 0, .int 0, .int 0, .int 0])) := va_up_self _ _ _
              refine mm_dup d_SP_part_109 rfl ?_
              refine mm_iload_n d_SP_part_110 rfl ?_
              refine mm_iload d_SP_part_111 rfl ?_
              refine mm_iload d_SP_part_113 rfl ?_
              refine mm_iload d_SP_part_115 rfl ?_
              refine mm_callD (kc := 3) (ks := 100) (kc' := 0) (ks' := 0) d_SP_part_117 (mm_Inv.sp (as := [.int f, .int (sp_len (nI kd) z), .int l, .int w]) d_SP_part_117 (Or.inl m_249) m_250 ce_Seat_init.2.1 rfl ce_Seat_init.2.2.2.2.2 rfl ln_Seat_init rfl) (J_Seat_init hs0) (by decide) ce_Seat_init.1 ce_Seat_init.2.1 ce_Seat_init.2.2.1 ce_Seat_init.2.2.2.1 (Nat.le_of_ble_eq_true rfl) ?_
              rw [bx_uu]
              have hs1 : va_up h n (some (.inr (2, [.int f, .int (sp_len (nI kd) z), .int l, .int w]))) n = some (.inr (2, [.int f, .int (sp_len (nI kd) z), .int l, .int w])) := va_up_self _ _ _
              refine mm_callD (kc := 0) (ks := 0) (kc' := 3) (ks' := 100) d_SP_part_120 (mm_Inv.sta (as := [.int (nI kd), .ref n]) d_SP_part_120 (Or.inl m_269) m_270 ce_SP_newPart.2.1 ce_SP_newPart.2.2.1 ce_SP_newPart.2.2.2.1 ce_SP_newPart.2.2.2.2.2 ln_SP_newPart rfl) (J_SP_newPart hkd hs1 hl0 hl1) (by decide) ce_SP_newPart.1 ce_SP_newPart.2.1 ce_SP_newPart.2.2.1 ce_SP_newPart.2.2.2.1 (Nat.le_of_ble_eq_true rfl) ?_
              refine mm_G.cast (h' := (p_put (va_up h n (some (p_seat (p_fresh kd f (sp_len (nI kd) z) l w)))) n (p_fresh kd f (sp_len (nI kd) z) l w))) rfl rfl rfl ?_
              have r1 : (p_put (va_up h n (some (p_seat (p_fresh kd f (sp_len (nI kd) z) l w)))) n (p_fresh kd f (sp_len (nI kd) z) l w)) (x + 1) = some (.inl (3, 12, .inr (.inr (.inr (.inr (c_refs c.1 pa)))))) := by rw [p_put_ne (Or.inl (by omega)), va_up_ne _ _ (by omega)]; exact q1
              have r0 : (p_put (va_up h n (some (p_seat (p_fresh kd f (sp_len (nI kd) z) l w)))) n (p_fresh kd f (sp_len (nI kd) z) l w)) x = some (.inr (0, [.ref (x + 1), .ref (x + 2), .ref (x + 5), .int (nI c.1), .int c.2.2.2.2.2.2.2.2.1, .int c.2.2.2.2.2.2.2.2.2])) := by rw [p_put_ne (Or.inl (by omega)), va_up_ne _ _ (by omega)]; exact q0
              have rn : (p_put (va_up h n (some (p_seat (p_fresh kd f (sp_len (nI kd) z) l w)))) n (p_fresh kd f (sp_len (nI kd) z) l w)) (n + 1) = some (p_obj n (p_fresh kd f (sp_len (nI kd) z) l w)) := if_pos rfl
              refine g_aast (p := (p_fresh kd f (sp_len (nI kd) z) l w)) d_SP_part_123 r1 rn hkd (vp_in_nI h12 (by decide)) ?_
              rw [nI_clamp (by omega)]
              have r0b : (va_up (p_put (va_up h n (some (p_seat (p_fresh kd f (sp_len (nI kd) z) l w)))) n (p_fresh kd f (sp_len (nI kd) z) l w)) (x + 1) (some (.inl (3, 12, .inr (.inr (.inr (.inr (va_up (c_refs c.1 pa) c.1 (some (n + 1)))))))))) x = some (.inr (0, [.ref (x + 1), .ref (x + 2), .ref (x + 5), .int (nI c.1), .int c.2.2.2.2.2.2.2.2.1, .int c.2.2.2.2.2.2.2.2.2])) := by rw [va_up_ne _ _ (by omega)]; exact r0
              refine mm_aload_n d_SP_part_124 rfl ?_
              refine mm_iload d_SP_part_125 rfl ?_
              refine mm_iconst (v := 1) d_SP_part_127 (by decide) ?_
              refine mm_iadd d_SP_part_128 ?_
              refine mm_putf d_SP_part_129 cl_SP ty_SP fl_SP_26_SP (by decide) rfl rfl rfl r0b (Nat.le_of_ble_eq_true rfl) ?_
              refine mm_hp (fun h1 e1 => ?_)
              have r0b_v1 : h1 x = some (.inr (0, [.ref (x + 1), .ref (x + 2), .ref (x + 5), .int ((nI c.1) + 1), .int c.2.2.2.2.2.2.2.2.1, .int c.2.2.2.2.2.2.2.2.2])) := by rw [e1]; exact va_up_self _ _ _
              refine mm_iload d_SP_part_132 rfl ?_
              exact mm_ireturn d_SP_part_134 rfl (by subst e1; rw [show c_part (nI kd) f z l w c = (.inl (nI c.1), c_more c (p_fresh kd f (sp_len (nI kd) z) l w)) from by unfold c_part c_good; rw [if_pos (decide_eq_true ⟨c_9, c_17, c_22, c_29, c_39⟩), if_pos h12, nI_clamp (by omega)]]; exact mm_cast9 (CH_more H hx hB h12 hkd (p_len_f hkd hl1)) (by rw [nI_1]; rfl))
            · exact mm_throw (kc := 3) (ks := 98) xs_ok xo_SP_part_83 d_SP_part_83 d_SP_part_86 d_SP_part_87 d_SP_part_89 d_SP_part_92 rfl (by decide) (Nat.le_of_ble_eq_true rfl) (fun n8 hn8 => (CN.same (a := .inr 1) (by unfold c_part c_good; rw [if_pos (decide_eq_true ⟨c_9, c_17, c_22, c_29, c_39⟩), if_neg (fun z9 => c_80 (nI_lt9 (b := 12) z9 (by decide)))]) rfl (by omega) H hB))
