/-- the lines: ways, ranks, and the three bit numbers -/
def ML (Wy Rk : Nat → Int32) (hi u kp : Int32) (A : Nat → Nat → Int32) : Prop := hi = m_bits (A 15) 16 ∧ u = m_bits (A 16) 16 ∧ kp = m_bits (A 17) 16 ∧
  ∀ l, l < 16 → A 13 l = Wy l ∧ (Wy l = 0 ∨ Wy l = 1 ∨ Wy l = 2) ∧ A 14 l = Rk l ∧ ¬ Rk l < 0 ∧ (A 15 l = 0 ∨ A 15 l = 1) ∧ (A 16 l = 0 ∨ A 16 l = 1) ∧ (A 17 l = 0 ∨ A 17 l = 1) ∧ (Wy l = 0 → A 17 l = 0)
theorem ML.b01 {Wy Rk : Nat → Int32} {hi u kp : Int32} {A : Nat → Nat → Int32} (M : ML Wy Rk hi u kp A) : m_01 A := fun l hl => ⟨(M.2.2.2 l hl).2.2.2.2.1, (M.2.2.2 l hl).2.2.2.2.2.1, (M.2.2.2 l hl).2.2.2.2.2.2.1⟩
theorem tb_pen (Wy : Nat → Int32) (u kp : Int32) {l : Nat} (hl : l < 32) : ∀ N, N ≤ 16 → tb (ln_pen Wy u kp N) l = (tb kp l || (decide (l < N) && decide (Wy l = 0) && tb u l))
  | 0, _ => by simp [ln_pen]
  | N + 1, hN => by
    unfold ln_pen
    have ih := tb_pen Wy u kp hl N (by omega)
    by_cases h1 : l = N
    · subst h1
      by_cases h0 : Wy l = 0
      · rw [if_pos h0, tb_or, ih, tb_and, tb_1shl hl hl]; simp [h0]
      · rw [if_neg h0, ih]; simp [h0]
    · have e : decide (l < N + 1) = decide (l < N) := by
        by_cases h2 : l < N
        · simp [h2, show l < N + 1 by omega]
        · simp [h2, show ¬ l < N + 1 by omega]
      rw [e]
      by_cases h0 : Wy N = 0
      · rw [if_pos h0, tb_or, ih, tb_and, tb_1shl (by omega) hl]; simp [h1]
      · rw [if_neg h0, ih]
theorem tb_fol (Wy : Nat → Int32) (ch ro kp : Int32) {l : Nat} (hl : l < 32) : ∀ N, N ≤ 16 → tb (ln_fol Wy ch ro kp N) l = (tb kp l || (decide (l < N) && !decide (Wy l = 0) && (if Wy l = 2 then tb ch l else tb ro l)))
  | 0, _ => by simp [ln_fol]
  | N + 1, hN => by
    unfold ln_fol
    have ih := tb_fol Wy ch ro kp hl N (by omega)
    by_cases h1 : l = N
    · subst h1
      by_cases h0 : Wy l = 0
      · rw [if_pos h0, ih]; simp [h0]
      · rw [if_neg h0, tb_or, ih, tb_and, tb_1shl hl hl]
        by_cases h2 : Wy l = 2
        · simp [h2]
        · simp [h0, h2]
    · have e : decide (l < N + 1) = decide (l < N) := by
        by_cases h2 : l < N
        · simp [h2, show l < N + 1 by omega]
        · simp [h2, show ¬ l < N + 1 by omega]
      rw [e]
      by_cases h0 : Wy N = 0
      · rw [if_pos h0, ih]
      · rw [if_neg h0, tb_or, ih, tb_and, tb_1shl (by omega) hl]; simp [h1]
theorem pen_eq {Wy Rk : Nat → Int32} {hi u kp : Int32} {A : Nat → Nat → Int32} (M : ML Wy Rk hi u kp A) : ln_pen Wy u kp 16 = m_bits (m_pen A) 16 := by
  apply bits_of
  intro l hl
  rw [tb_pen Wy u kp hl 16 (by decide), M.2.1, M.2.2.1, tb_bits _ 16 l (by decide) hl, tb_bits _ 16 l (by decide) hl]
  by_cases h16 : l < 16
  · obtain ⟨w1, w2, -, -, -, -, -, w8⟩ := M.2.2.2 l h16
    unfold m_pen
    rw [w1]
    by_cases h0 : Wy l = 0
    · simp [h0, h16, w8 h0]
    · simp [h0, h16]
  · simp [h16]
theorem best_eq {Wy Rk : Nat → Int32} {hi u kp : Int32} {A : Nat → Nat → Int32} (M : ML Wy Rk hi u kp A) : ∀ i, i ≤ 16 → ln_bst Rk (ln_pen Wy u kp 16 &&& (hi ^^^ (-1))) i = (match m_best A i with
    | none => (-1, -1)
    | some b => (nI b, Rk b))
  | 0, _ => rfl
  | i + 1, hi9 => by
    have ih := best_eq M i (by omega)
    have hb : ((ln_pen Wy u kp 16 &&& (hi ^^^ (-1))) >>> (nI i &&& 31)) &&& 1 = if (!decide (m_pen A i = 0) && decide (A 15 i = 0)) then 1 else 0 := by
      rw [tb_shr _ (by omega), tb_and, tb_xor, tb_m1 (by omega), pen_eq M, M.1, tb_bits _ 16 i (by decide) (by omega), tb_bits _ 16 i (by decide) (by omega)]
      simp [show i < 16 by omega]
    unfold ln_bst m_best
    rw [hb, ih]
    obtain ⟨-, -, r1, r2, -⟩ := M.2.2.2 i (by omega)
    by_cases h1 : m_pen A i = 0
    · simp [h1]
    · by_cases h2 : A 15 i = 0
      · simp only [h1, h2]
        cases hm : m_best A i with
        | none =>
          have : ¬ Rk i ≤ -1 := fun z => r2 (Int32.lt_of_le_of_lt z (by decide))
          simp [this]
        | some b =>
          have hbl := m_best_lt hm
          have rb := (M.2.2.2 b (by omega)).2.2.1
          by_cases h3 : Rk i ≤ Rk b
          · simp [r1, rb, h3]
          · simp [r1, rb, h3]
      · simp [h1, h2]
theorem best_eq' {Wy Rk : Nat → Int32} {hi u kp : Int32} {A : Nat → Nat → Int32} (M : ML Wy Rk hi u kp A) : (ln_bst Rk (ln_pen Wy u kp 16 &&& (hi ^^^ (-1))) 16).1 = oI (m_best A 16) := by
  rw [best_eq M 16 (by decide)]
  cases m_best A 16 <;> rfl
/-- the lines follow what asks now -/
theorem look_ML {Wy Rk : Nat → Int32} {hi u kp w : Int32} {A : Nat → Nat → Int32} {N : Nat} (M : ML Wy Rk hi u kp A) (hw : w = m_bits (fun l => m_now A l N) 16) : ML Wy Rk hi w (ln_keep Wy u kp w) (m_look A N) := by
  have key : ∀ l, l < 16 → m_note A N l = 0 ∨ m_note A N l = 1 := fun l hl => by
    have := (M.2.2.2 l hl).2.2.2.2.2.2.1
    unfold m_note
    repeat' split
    all_goals first | exact Or.inr rfl | exact this
  refine ⟨M.1, ?_, ?_, fun l hl => ?_⟩
  · rw [hw]
    apply bits_of
    intro l hl
    rw [tb_bits _ 16 l (by decide) hl]
    by_cases h16 : l < 16
    · show _ = (_ && !decide (m_uu A N 16 l = 0)); simp [m_uu, h16]
    · simp [h16]
  · apply bits_of
    intro l hl
    show tb (ln_keep Wy u kp w) l = (_ && !decide (m_no A N 16 l = 0))
    have hu : tb u l = (decide (l < 16) && !decide (A 16 l = 0)) := by rw [M.2.1, tb_bits _ 16 l (by decide) hl]
    have hk : tb kp l = (decide (l < 16) && !decide (A 17 l = 0)) := by rw [M.2.2.1, tb_bits _ 16 l (by decide) hl]
    have hw2 : tb w l = (decide (l < 16) && !decide (m_now A l N = 0)) := by rw [hw, tb_bits _ 16 l (by decide) hl]
    have hx : w ^^^ u = 0 → tb w l = tb u l := fun z => by rw [ln_xor0 z]
    unfold ln_keep
    by_cases h16 : l < 16
    · obtain ⟨w1, w2, -, -, -, w6, w7, w8⟩ := M.2.2.2 l h16
      have hn := m_now_01 A l N
      have e : m_no A N 16 l = m_note A N l := if_pos h16
      rw [e]
      unfold m_note
      rw [w1]
      simp only [h16, decide_true, Bool.true_and] at hu hk hw2 ⊢
      split
      · rename_i hz
        have hz2 := hx hz
        rw [hu, hw2] at hz2
        rw [hk]
        rcases hn with hn | hn <;> rcases w6 with w6 | w6 <;> rw [hn, w6] at hz2 <;> rw [hn, w6] <;> first | (exact absurd hz2 (by decide)) | simp
      · rw [tb_fol _ _ _ _ hl 16 (by decide), tb_and, tb_xor, hk, hu, hw2]
        simp only [h16, decide_true, Bool.true_and]
        rcases hn with hn | hn <;> rcases w6 with w6 | w6 <;> rcases w2 with w2 | w2 | w2 <;> rcases w7 with w7 | w7 <;> simp [hn, w6, w2, w7] <;> simp_all
    · have hk' : tb kp l = false := by rw [hk]; simp [h16]
      have hu' : tb u l = false := by rw [hu]; simp [h16]
      have hw' : tb w l = false := by rw [hw2]; simp [h16]
      split
      · rw [hk']; simp [h16]
      · rw [tb_fol _ _ _ _ hl 16 (by decide), hk']; simp [h16]
  · obtain ⟨w1, w2, w3, w4, w5, w6, w7, w8⟩ := M.2.2.2 l hl
    have e : m_look A N 17 l = m_note A N l := if_pos hl
    have e2 : m_look A N 16 l = m_now A l N := if_pos hl
    refine ⟨w1, w2, w3, w4, w5, ?_, ?_, fun h0 => ?_⟩
    · rw [e2]; exact m_now_01 A l N
    · rw [e]; exact key l hl
    · rw [e]; unfold m_note; rw [w1, h0]; simp; exact w8 h0
theorem tb_forget {kp : Int32} {l k : Nat} (hl : l < 32) (hk : k < 32) : tb (ln_forget kp (nI l)) k = (tb kp k && !decide (k = l)) := by
  unfold ln_forget
  rw [tb_and, tb_xor, tb_1shl hl hk, tb_m1 hk]; simp
theorem forget_bits {f : Nat → Int32} {l : Nat} (hl : l < 16) : ln_forget (m_bits f 16) (nI l) = m_bits (upd f l 0) 16 := by
  apply bits_of
  intro k hk
  rw [tb_forget (by omega) hk, tb_bits _ 16 k (by decide) hk]
  by_cases h : k = l
  · subst h; simp [upd]
  · simp [upd, h]
theorem hide_bits {f : Nat → Int32} {l : Nat} {v : Int32} (hl : l < 16) (hv : v = 0 ∨ v = 1) : ln_hide (m_bits f 16) (nI l) v = m_bits (upd f l v) 16 := by
  apply bits_of
  intro k hk
  have e : tb (v <<< (nI l &&& 31)) k = (!decide (v = 0) && decide (k = l)) := by
    rcases hv with rfl | rfl
    · have : (0 : Int32) <<< (nI l &&& 31) = 0 := by
        have : ∀ j : Fin 16, (0 : Int32) <<< (nI j.val &&& 31) = 0 := by decide +kernel
        exact this ⟨l, hl⟩
      rw [this, tb_0]; simp
    · rw [tb_1shl (by omega) hk]; simp
  unfold ln_hide
  rw [tb_or, tb_and, tb_xor, tb_1shl (by omega) hk, tb_m1 hk, tb_bits _ 16 k (by decide) hk, e]
  by_cases h : k = l
  · subst h; simp [upd, hl]
  · simp [upd, h]
theorem bits_za (f : Nat → Int32) : (0 : Int32) = m_bits (za f 16) 16 := by
  apply bits_of
  intro l hl
  rw [tb_0]
  by_cases h : l < 16
  · simp [za, h]
  · simp [h]
