/-! The relation of the class's state and the reference's arrays. -/
/-- bit l of x -/
def tb (x : Int32) (l : Nat) : Bool := x.toBitVec.getLsbD l
theorem tb_or (x y : Int32) (l : Nat) : tb (x ||| y) l = (tb x l || tb y l) := by simp [tb]
theorem tb_and (x y : Int32) (l : Nat) : tb (x &&& y) l = (tb x l && tb y l) := by simp [tb]
theorem tb_xor (x y : Int32) (l : Nat) : tb (x ^^^ y) l = (tb x l ^^ tb y l) := by simp [tb]
theorem tb_0 (l : Nat) : tb 0 l = false := by simp [tb]
theorem tb_m1 {l : Nat} (h : l < 32) : tb (-1) l = true := by
  have : ((-1 : Int32)).toBitVec = BitVec.allOnes 32 := by decide
  unfold tb
  rw [this, BitVec.getLsbD_allOnes]
  simp [h]
theorem tb_ext {x y : Int32} (h : ∀ l, l < 32 → tb x l = tb y l) : x = y := Int32.toBitVec_inj.mp (BitVec.eq_of_getLsbD_eq fun i hi => h i hi)
theorem nI_and31 {i : Nat} (h : i < 32) : nI i &&& 31 = nI i := by
  have : ∀ j : Fin 32, nI j.val &&& 31 = nI j.val := by decide +kernel
  exact this ⟨i, h⟩
theorem tb_1shl {i l : Nat} (hi : i < 32) (hl : l < 32) : tb ((1 : Int32) <<< (nI i &&& 31)) l = decide (l = i) := by
  have : ∀ (j k : Fin 32), tb ((1 : Int32) <<< (nI j.val &&& 31)) k.val = decide (k.val = j.val) := by decide +kernel
  exact this ⟨i, hi⟩ ⟨l, hl⟩
theorem tb_shr (x : Int32) {l : Nat} (hl : l < 32) : (x >>> (nI l &&& 31)) &&& 1 = if tb x l then 1 else 0 := by
  rw [nI_and31 hl]
  apply tb_ext
  intro k hk
  rw [tb_and]
  have h1 : tb (1 : Int32) k = decide (k = 0) := by
    have : ∀ (k : Fin 32), tb (1 : Int32) k.val = decide (k.val = 0) := by decide +kernel
    exact this ⟨k, hk⟩
  have h2 : tb (if tb x l = true then (1 : Int32) else 0) k = (tb x l && decide (k = 0)) := by
    cases tb x l
    · simp [tb_0]
    · simp [h1]
  rw [h1, h2]
  by_cases h0 : k = 0
  · subst h0
    simp only [decide_true, Bool.and_true]
    have h3 : (nI l).toBitVec.toNat = l := by
      show (BitVec.ofNat 32 l).toNat = l
      rw [BitVec.toNat_ofNat]
      omega
    unfold tb
    rw [Int32.toBitVec_shiftRight, BitVec.getLsbD_sshiftRight']
    have h4 : ((nI l).toBitVec.smod 32).toNat = l := by
      have : ∀ (k : Fin 32), ((nI k.val).toBitVec.smod 32).toNat = k.val := by decide +kernel
      exact this ⟨l, hl⟩
    rw [h4]
    simp [hl]
  · simp [h0]
theorem tb_bits (f : Nat → Int32) : ∀ (N l : Nat), N ≤ 32 → l < 32 → tb (m_bits f N) l = (decide (l < N) && !decide (f l = 0))
  | 0, l, _, _ => by simp [m_bits, tb_0]
  | N + 1, l, hN, hl => by
    show tb (m_bits f N ||| (if f N = 0 then (0 : Int32) else (1 : Int32) <<< (nI N &&& 31))) l = _
    rw [tb_or, tb_bits f N l (by omega) hl]
    have h1 : tb (if f N = 0 then (0 : Int32) else (1 : Int32) <<< (nI N &&& 31)) l = (decide (l = N) && !decide (f N = 0)) := by
      by_cases h0 : f N = 0
      · simp [h0, tb_0]
      · simp [h0]; rw [tb_1shl (by omega) hl]
    rw [h1]
    by_cases h2 : l = N
    · subst h2; simp
    · by_cases h3 : l < N
      · simp [h2, h3, show l < N + 1 by omega]
      · simp [h2, h3, show ¬ l < N + 1 by omega]
/-- bits of a class's number are the reference's booleans -/
theorem bits_of {x : Int32} {f : Nat → Int32} (h : ∀ l, l < 32 → tb x l = (decide (l < 16) && !decide (f l = 0))) : x = m_bits f 16 := tb_ext fun l hl => by rw [h l hl, tb_bits f 16 l (by decide) hl]
