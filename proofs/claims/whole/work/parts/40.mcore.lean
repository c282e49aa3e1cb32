/-- how long the reference's arrays are, and of which kind -/
def ml_len : Nat → Nat
  | 5 => 768
  | 9 => 384
  | 11 => 384
  | 12 => 768
  | 13 => 16
  | 14 => 16
  | 15 => 16
  | 16 => 16
  | 17 => 16
  | _ => 12
def ml_tag : Nat → Nat
  | 15 => 2
  | 16 => 2
  | 17 => 2
  | _ => 0
/-- the reference lies in h from m on: its numbers I, its arrays A -/
def MH (h : mm_H) (m : Nat) (I : Nat → Int32) (A : Nat → Nat → Int32) : Prop :=
  h m = some (.inr (8, [.int (I 0), .int (I 1), .int (I 2), .int (I 3), .ref (m + 1), .ref (m + 2), .ref (m + 3), .ref (m + 4), .ref (m + 5), .ref (m + 6), .ref (m + 7), .ref (m + 8), .ref (m + 9), .ref (m + 10), .ref (m + 11), .ref (m + 12), .ref (m + 13), .ref (m + 14), .ref (m + 15), .ref (m + 16), .ref (m + 17), .ref (m + 18), .int (I 4), .int (I 5), .int (I 6)])) ∧ ∀ j, j < 18 → h (m + (j + 1)) = some (.inl (ml_tag j, ml_len j, .inl (A j)))
/-- nothing else is touched -/
def MF (h0 h : mm_H) (m : Nat) : Prop := ∀ i, i < m ∨ m + 19 ≤ i → h i = h0 i
def mi (I : Nat → Int32) (k : Nat) (v : Int32) : Nat → Int32 := fun a => cond (Nat.beq a k) v (I a)
def ma (A : Nat → Nat → Int32) (k : Nat) (f : Nat → Int32) : Nat → Nat → Int32 := fun a => cond (Nat.beq a k) f (A a)
theorem mi_eq (I : Nat → Int32) (k : Nat) (v : Int32) : mi I k v k = v := by simp [mi]
theorem ma_eq (A : Nat → Nat → Int32) (k : Nat) (f : Nat → Int32) : ma A k f k = f := by simp [ma]
theorem ma_ne (A : Nat → Nat → Int32) {k a : Nat} (f : Nat → Int32) (h : a ≠ k) : ma A k f a = A a := by
  unfold ma
  cases e : Nat.beq a k with
  | true => exact absurd (Nat.eq_of_beq_eq_true e) h
  | false => rfl
theorem mi_ne (I : Nat → Int32) {k a : Nat} (v : Int32) (h : a ≠ k) : mi I k v a = I a := by
  unfold mi
  cases e : Nat.beq a k with
  | true => exact absurd (Nat.eq_of_beq_eq_true e) h
  | false => rfl
theorem ma_ma (A : Nat → Nat → Int32) (k : Nat) (f g : Nat → Int32) : ma (ma A k f) k g = ma A k g := by
  funext a
  by_cases h : a = k
  · subst h; rw [ma_eq, ma_eq]
  · rw [ma_ne _ _ h, ma_ne _ _ h, ma_ne _ _ h]
theorem ma_comm (A : Nat → Nat → Int32) {k j : Nat} (f g : Nat → Int32) (h : k ≠ j) : ma (ma A k f) j g = ma (ma A j g) k f := by
  funext a
  by_cases h1 : a = k
  · subst h1; rw [ma_ne _ _ h, ma_eq, ma_eq]
  · by_cases h2 : a = j
    · subst h2; rw [ma_eq, ma_ne _ _ h1, ma_eq]
    · rw [ma_ne _ _ h2, ma_ne _ _ h1, ma_ne _ _ h1, ma_ne _ _ h2]
theorem ma_id (A : Nat → Nat → Int32) (k : Nat) : ma A k (A k) = A := by
  funext a
  by_cases h1 : a = k
  · subst h1; rw [ma_eq]
  · rw [ma_ne _ _ h1]
theorem MH.cast {h : mm_H} {m : Nat} {I I' : Nat → Int32} {A A' : Nat → Nat → Int32} (H : MH h m I A) (hI : I = I') (hA : A = A') : MH h m I' A' := hI ▸ hA ▸ H

theorem mh_i0 {sc : mm_Sc} {y : mm_M} {d pc : Nat} {l : mm_L} {st : List Value} {n : Nat} {h : mm_H} {kc ks : Nat} {Q : mm_O → Nat → mm_H → Prop} {h0 : mm_H} {m : Nat} {I : Nat → Int32} {A : Nat → Nat → Int32} {v : Int32} (H : MH h m I A) (F : MF h0 h m) (k : ∀ h', MH h' m (mi I 0 v) A → MF h0 h' m → mm_G sc y d pc l st n h' kc ks Q) : mm_G sc y d pc l st n (va_up h m (some (.inr (8, [.int (I 0), .int (I 1), .int (I 2), .int (I 3), .ref (m + 1), .ref (m + 2), .ref (m + 3), .ref (m + 4), .ref (m + 5), .ref (m + 6), .ref (m + 7), .ref (m + 8), .ref (m + 9), .ref (m + 10), .ref (m + 11), .ref (m + 12), .ref (m + 13), .ref (m + 14), .ref (m + 15), .ref (m + 16), .ref (m + 17), .ref (m + 18), .int (I 4), .int (I 5), .int (I 6)].set 0 (.int v))))) kc ks Q := by
  refine k _ ⟨?_, fun j hj => ?_⟩ (fun i hi => ?_)
  · rw [va_up_self]; rfl
  · rw [va_up_ne _ _ (by omega)]; exact H.2 j hj
  · rw [va_up_ne _ _ (by omega)]; exact F i hi
theorem mh_i1 {sc : mm_Sc} {y : mm_M} {d pc : Nat} {l : mm_L} {st : List Value} {n : Nat} {h : mm_H} {kc ks : Nat} {Q : mm_O → Nat → mm_H → Prop} {h0 : mm_H} {m : Nat} {I : Nat → Int32} {A : Nat → Nat → Int32} {v : Int32} (H : MH h m I A) (F : MF h0 h m) (k : ∀ h', MH h' m (mi I 1 v) A → MF h0 h' m → mm_G sc y d pc l st n h' kc ks Q) : mm_G sc y d pc l st n (va_up h m (some (.inr (8, [.int (I 0), .int (I 1), .int (I 2), .int (I 3), .ref (m + 1), .ref (m + 2), .ref (m + 3), .ref (m + 4), .ref (m + 5), .ref (m + 6), .ref (m + 7), .ref (m + 8), .ref (m + 9), .ref (m + 10), .ref (m + 11), .ref (m + 12), .ref (m + 13), .ref (m + 14), .ref (m + 15), .ref (m + 16), .ref (m + 17), .ref (m + 18), .int (I 4), .int (I 5), .int (I 6)].set 1 (.int v))))) kc ks Q := by
  refine k _ ⟨?_, fun j hj => ?_⟩ (fun i hi => ?_)
  · rw [va_up_self]; rfl
  · rw [va_up_ne _ _ (by omega)]; exact H.2 j hj
  · rw [va_up_ne _ _ (by omega)]; exact F i hi
theorem mh_i2 {sc : mm_Sc} {y : mm_M} {d pc : Nat} {l : mm_L} {st : List Value} {n : Nat} {h : mm_H} {kc ks : Nat} {Q : mm_O → Nat → mm_H → Prop} {h0 : mm_H} {m : Nat} {I : Nat → Int32} {A : Nat → Nat → Int32} {v : Int32} (H : MH h m I A) (F : MF h0 h m) (k : ∀ h', MH h' m (mi I 2 v) A → MF h0 h' m → mm_G sc y d pc l st n h' kc ks Q) : mm_G sc y d pc l st n (va_up h m (some (.inr (8, [.int (I 0), .int (I 1), .int (I 2), .int (I 3), .ref (m + 1), .ref (m + 2), .ref (m + 3), .ref (m + 4), .ref (m + 5), .ref (m + 6), .ref (m + 7), .ref (m + 8), .ref (m + 9), .ref (m + 10), .ref (m + 11), .ref (m + 12), .ref (m + 13), .ref (m + 14), .ref (m + 15), .ref (m + 16), .ref (m + 17), .ref (m + 18), .int (I 4), .int (I 5), .int (I 6)].set 2 (.int v))))) kc ks Q := by
  refine k _ ⟨?_, fun j hj => ?_⟩ (fun i hi => ?_)
  · rw [va_up_self]; rfl
  · rw [va_up_ne _ _ (by omega)]; exact H.2 j hj
  · rw [va_up_ne _ _ (by omega)]; exact F i hi
theorem mh_i3 {sc : mm_Sc} {y : mm_M} {d pc : Nat} {l : mm_L} {st : List Value} {n : Nat} {h : mm_H} {kc ks : Nat} {Q : mm_O → Nat → mm_H → Prop} {h0 : mm_H} {m : Nat} {I : Nat → Int32} {A : Nat → Nat → Int32} {v : Int32} (H : MH h m I A) (F : MF h0 h m) (k : ∀ h', MH h' m (mi I 3 v) A → MF h0 h' m → mm_G sc y d pc l st n h' kc ks Q) : mm_G sc y d pc l st n (va_up h m (some (.inr (8, [.int (I 0), .int (I 1), .int (I 2), .int (I 3), .ref (m + 1), .ref (m + 2), .ref (m + 3), .ref (m + 4), .ref (m + 5), .ref (m + 6), .ref (m + 7), .ref (m + 8), .ref (m + 9), .ref (m + 10), .ref (m + 11), .ref (m + 12), .ref (m + 13), .ref (m + 14), .ref (m + 15), .ref (m + 16), .ref (m + 17), .ref (m + 18), .int (I 4), .int (I 5), .int (I 6)].set 3 (.int v))))) kc ks Q := by
  refine k _ ⟨?_, fun j hj => ?_⟩ (fun i hi => ?_)
  · rw [va_up_self]; rfl
  · rw [va_up_ne _ _ (by omega)]; exact H.2 j hj
  · rw [va_up_ne _ _ (by omega)]; exact F i hi
theorem mh_i4 {sc : mm_Sc} {y : mm_M} {d pc : Nat} {l : mm_L} {st : List Value} {n : Nat} {h : mm_H} {kc ks : Nat} {Q : mm_O → Nat → mm_H → Prop} {h0 : mm_H} {m : Nat} {I : Nat → Int32} {A : Nat → Nat → Int32} {v : Int32} (H : MH h m I A) (F : MF h0 h m) (k : ∀ h', MH h' m (mi I 4 v) A → MF h0 h' m → mm_G sc y d pc l st n h' kc ks Q) : mm_G sc y d pc l st n (va_up h m (some (.inr (8, [.int (I 0), .int (I 1), .int (I 2), .int (I 3), .ref (m + 1), .ref (m + 2), .ref (m + 3), .ref (m + 4), .ref (m + 5), .ref (m + 6), .ref (m + 7), .ref (m + 8), .ref (m + 9), .ref (m + 10), .ref (m + 11), .ref (m + 12), .ref (m + 13), .ref (m + 14), .ref (m + 15), .ref (m + 16), .ref (m + 17), .ref (m + 18), .int (I 4), .int (I 5), .int (I 6)].set 22 (.int v))))) kc ks Q := by
  refine k _ ⟨?_, fun j hj => ?_⟩ (fun i hi => ?_)
  · rw [va_up_self]; rfl
  · rw [va_up_ne _ _ (by omega)]; exact H.2 j hj
  · rw [va_up_ne _ _ (by omega)]; exact F i hi
theorem mh_i5 {sc : mm_Sc} {y : mm_M} {d pc : Nat} {l : mm_L} {st : List Value} {n : Nat} {h : mm_H} {kc ks : Nat} {Q : mm_O → Nat → mm_H → Prop} {h0 : mm_H} {m : Nat} {I : Nat → Int32} {A : Nat → Nat → Int32} {v : Int32} (H : MH h m I A) (F : MF h0 h m) (k : ∀ h', MH h' m (mi I 5 v) A → MF h0 h' m → mm_G sc y d pc l st n h' kc ks Q) : mm_G sc y d pc l st n (va_up h m (some (.inr (8, [.int (I 0), .int (I 1), .int (I 2), .int (I 3), .ref (m + 1), .ref (m + 2), .ref (m + 3), .ref (m + 4), .ref (m + 5), .ref (m + 6), .ref (m + 7), .ref (m + 8), .ref (m + 9), .ref (m + 10), .ref (m + 11), .ref (m + 12), .ref (m + 13), .ref (m + 14), .ref (m + 15), .ref (m + 16), .ref (m + 17), .ref (m + 18), .int (I 4), .int (I 5), .int (I 6)].set 23 (.int v))))) kc ks Q := by
  refine k _ ⟨?_, fun j hj => ?_⟩ (fun i hi => ?_)
  · rw [va_up_self]; rfl
  · rw [va_up_ne _ _ (by omega)]; exact H.2 j hj
  · rw [va_up_ne _ _ (by omega)]; exact F i hi
theorem mh_i6 {sc : mm_Sc} {y : mm_M} {d pc : Nat} {l : mm_L} {st : List Value} {n : Nat} {h : mm_H} {kc ks : Nat} {Q : mm_O → Nat → mm_H → Prop} {h0 : mm_H} {m : Nat} {I : Nat → Int32} {A : Nat → Nat → Int32} {v : Int32} (H : MH h m I A) (F : MF h0 h m) (k : ∀ h', MH h' m (mi I 6 v) A → MF h0 h' m → mm_G sc y d pc l st n h' kc ks Q) : mm_G sc y d pc l st n (va_up h m (some (.inr (8, [.int (I 0), .int (I 1), .int (I 2), .int (I 3), .ref (m + 1), .ref (m + 2), .ref (m + 3), .ref (m + 4), .ref (m + 5), .ref (m + 6), .ref (m + 7), .ref (m + 8), .ref (m + 9), .ref (m + 10), .ref (m + 11), .ref (m + 12), .ref (m + 13), .ref (m + 14), .ref (m + 15), .ref (m + 16), .ref (m + 17), .ref (m + 18), .int (I 4), .int (I 5), .int (I 6)].set 24 (.int v))))) kc ks Q := by
  refine k _ ⟨?_, fun j hj => ?_⟩ (fun i hi => ?_)
  · rw [va_up_self]; rfl
  · rw [va_up_ne _ _ (by omega)]; exact H.2 j hj
  · rw [va_up_ne _ _ (by omega)]; exact F i hi
theorem mh_a {sc : mm_Sc} {y : mm_M} {d pc : Nat} {l : mm_L} {st : List Value} {n : Nat} {h : mm_H} {kc ks : Nat} {Q : mm_O → Nat → mm_H → Prop} {h0 : mm_H} {m j : Nat} {I : Nat → Int32} {A : Nat → Nat → Int32} {f : Nat → Int32} (hj : j < 18) (H : MH h m I A) (F : MF h0 h m) (k : ∀ h', MH h' m I (ma A j f) → MF h0 h' m → mm_G sc y d pc l st n h' kc ks Q) : mm_G sc y d pc l st n (va_up h (m + (j + 1)) (some (.inl (ml_tag j, ml_len j, .inl f)))) kc ks Q := by
  refine k _ ⟨?_, fun q hq => ?_⟩ (fun i hi => ?_)
  · rw [va_up_ne _ _ (by omega)]; exact H.1
  · by_cases e : q = j
    · subst e; rw [va_up_self, ma_eq]
    · rw [va_up_ne _ _ (by omega), ma_ne _ _ e]; exact H.2 q hq
  · rw [va_up_ne _ _ (by omega)]; exact F i hi
theorem mh_0 {h : mm_H} {m : Nat} {I : Nat → Int32} {A : Nat → Nat → Int32} (H : MH h m I A) : h (m + 1) = some (.inl (0, 12, .inl (A 0))) := H.2 0 (by decide)
theorem mh_1 {h : mm_H} {m : Nat} {I : Nat → Int32} {A : Nat → Nat → Int32} (H : MH h m I A) : h (m + 2) = some (.inl (0, 12, .inl (A 1))) := H.2 1 (by decide)
theorem mh_2 {h : mm_H} {m : Nat} {I : Nat → Int32} {A : Nat → Nat → Int32} (H : MH h m I A) : h (m + 3) = some (.inl (0, 12, .inl (A 2))) := H.2 2 (by decide)
theorem mh_3 {h : mm_H} {m : Nat} {I : Nat → Int32} {A : Nat → Nat → Int32} (H : MH h m I A) : h (m + 4) = some (.inl (0, 12, .inl (A 3))) := H.2 3 (by decide)
theorem mh_4 {h : mm_H} {m : Nat} {I : Nat → Int32} {A : Nat → Nat → Int32} (H : MH h m I A) : h (m + 5) = some (.inl (0, 12, .inl (A 4))) := H.2 4 (by decide)
theorem mh_5 {h : mm_H} {m : Nat} {I : Nat → Int32} {A : Nat → Nat → Int32} (H : MH h m I A) : h (m + 6) = some (.inl (0, 768, .inl (A 5))) := H.2 5 (by decide)
theorem mh_6 {h : mm_H} {m : Nat} {I : Nat → Int32} {A : Nat → Nat → Int32} (H : MH h m I A) : h (m + 7) = some (.inl (0, 12, .inl (A 6))) := H.2 6 (by decide)
theorem mh_7 {h : mm_H} {m : Nat} {I : Nat → Int32} {A : Nat → Nat → Int32} (H : MH h m I A) : h (m + 8) = some (.inl (0, 12, .inl (A 7))) := H.2 7 (by decide)
theorem mh_8 {h : mm_H} {m : Nat} {I : Nat → Int32} {A : Nat → Nat → Int32} (H : MH h m I A) : h (m + 9) = some (.inl (0, 12, .inl (A 8))) := H.2 8 (by decide)
theorem mh_9 {h : mm_H} {m : Nat} {I : Nat → Int32} {A : Nat → Nat → Int32} (H : MH h m I A) : h (m + 10) = some (.inl (0, 384, .inl (A 9))) := H.2 9 (by decide)
theorem mh_10 {h : mm_H} {m : Nat} {I : Nat → Int32} {A : Nat → Nat → Int32} (H : MH h m I A) : h (m + 11) = some (.inl (0, 12, .inl (A 10))) := H.2 10 (by decide)
theorem mh_11 {h : mm_H} {m : Nat} {I : Nat → Int32} {A : Nat → Nat → Int32} (H : MH h m I A) : h (m + 12) = some (.inl (0, 384, .inl (A 11))) := H.2 11 (by decide)
theorem mh_12 {h : mm_H} {m : Nat} {I : Nat → Int32} {A : Nat → Nat → Int32} (H : MH h m I A) : h (m + 13) = some (.inl (0, 768, .inl (A 12))) := H.2 12 (by decide)
theorem mh_13 {h : mm_H} {m : Nat} {I : Nat → Int32} {A : Nat → Nat → Int32} (H : MH h m I A) : h (m + 14) = some (.inl (0, 16, .inl (A 13))) := H.2 13 (by decide)
theorem mh_14 {h : mm_H} {m : Nat} {I : Nat → Int32} {A : Nat → Nat → Int32} (H : MH h m I A) : h (m + 15) = some (.inl (0, 16, .inl (A 14))) := H.2 14 (by decide)
theorem mh_15 {h : mm_H} {m : Nat} {I : Nat → Int32} {A : Nat → Nat → Int32} (H : MH h m I A) : h (m + 16) = some (.inl (2, 16, .inl (A 15))) := H.2 15 (by decide)
theorem mh_16 {h : mm_H} {m : Nat} {I : Nat → Int32} {A : Nat → Nat → Int32} (H : MH h m I A) : h (m + 17) = some (.inl (2, 16, .inl (A 16))) := H.2 16 (by decide)
theorem mh_17 {h : mm_H} {m : Nat} {I : Nat → Int32} {A : Nat → Nat → Int32} (H : MH h m I A) : h (m + 18) = some (.inl (2, 16, .inl (A 17))) := H.2 17 (by decide)
theorem mx_add {sc : mm_Sc} {y : mm_M} {d pc : Nat} {l : mm_L} {st : List Value} {n : Nat} {h : mm_H} {kc ks : Nat} {Q : mm_O → Nat → mm_H → Prop} {a b c : Nat} (hd : decode y.2.1 pc = .ok (.iadd, 1)) (hc : a + b = c) (k : mm_G sc y d (pc + 1) l (.int (nI c) :: st) n h kc ks Q) : mm_G sc y d pc l (.int (nI b) :: .int (nI a) :: st) n h kc ks Q := mm_iadd hd (by rw [nI_add, hc]; exact k)
theorem nI_mul (a b : Nat) : nI a * nI b = nI (a * b) := (Int32.ofNat_mul a b).symm
theorem mx_mul {sc : mm_Sc} {y : mm_M} {d pc : Nat} {l : mm_L} {st : List Value} {n : Nat} {h : mm_H} {kc ks : Nat} {Q : mm_O → Nat → mm_H → Prop} {a b : Nat} (hd : decode y.2.1 pc = .ok (.imul, 1)) (k : mm_G sc y d (pc + 1) l (.int (nI (a * b)) :: st) n h kc ks Q) : mm_G sc y d pc l (.int (nI b) :: .int (nI a) :: st) n h kc ks Q := mm_imul hd (by rw [nI_mul]; exact k)
theorem nI_sub {a b : Nat} (h : b ≤ a) : nI a - nI b = nI (a - b) := by
  obtain ⟨c, rfl⟩ : ∃ c, a = b + c := ⟨a - b, by omega⟩
  rw [← nI_add, Nat.add_sub_cancel_left, Int32.add_comm, Int32.add_sub_cancel]
theorem mx_sub {sc : mm_Sc} {y : mm_M} {d pc : Nat} {l : mm_L} {st : List Value} {n : Nat} {h : mm_H} {kc ks : Nat} {Q : mm_O → Nat → mm_H → Prop} {a b c : Nat} (hd : decode y.2.1 pc = .ok (.isub, 1)) (hb : b ≤ a) (hc : a - b = c) (k : mm_G sc y d (pc + 1) l (.int (nI c) :: st) n h kc ks Q) : mm_G sc y d pc l (.int (nI b) :: .int (nI a) :: st) n h kc ks Q := mm_isub hd (by rw [nI_sub hb, hc]; exact k)
theorem mx_inc {sc : mm_Sc} {y : mm_M} {d pc : Nat} {l : mm_L} {st : List Value} {n : Nat} {h : mm_H} {kc ks : Nat} {Q : mm_O → Nat → mm_H → Prop} {i a b : Nat} (hd : decode y.2.1 pc = .ok (.iinc i 1, 3)) (hl : l[i]? = some (some (.int (nI a)))) (hb : a + 1 = b) (hn : i < y.2.2.1) (k : mm_G sc y d (pc + 3) (l.set i (some (.int (nI b)))) st n h kc ks Q) : mm_G sc y d pc l st n h kc ks Q := mm_iinc (v := nI b) hd hl (by rw [← hb, ← nI_1]; rfl) hn k
theorem mx_get {sc : mm_Sc} {y : mm_M} {d pc : Nat} {l : mm_L} {st : List Value} {n : Nat} {h : mm_H} {kc ks : Nat} {Q : mm_O → Nat → mm_H → Prop} {a ci N k i : Nat} {C : String} {T : u_T} {fs : List Value} {v : Int32} (hd : decode y.2.1 pc = .ok (.getfield i, 3)) (hC : mm_Cl ci C T N) (hF : mm_Fl y.1.cls i T k) (hk : k < N) (hc : h a = some (.inr (ci, fs))) (hv : fs[k]? = some (.int v)) (kk : mm_G sc y d (pc + 3) l (.int v :: st) n h kc ks Q) : mm_G sc y d pc l (.ref a :: st) n h kc ks Q := mm_getf hd hC hF hk hc hv kk
theorem mx_ald {sc : mm_Sc} {y : mm_M} {d pc : Nat} {l : mm_L} {st : List Value} {n : Nat} {h : mm_H} {kc ks : Nat} {Q : mm_O → Nat → mm_H → Prop} {a len E : Nat} {f : Nat → Int32} {v : Int32} (hd : decode y.2.1 pc = .ok (.iaload, 1)) (ha : h a = some (.inl (0, len, .inl f))) (hE : E < len) (hl : len < 2 ^ 31) (hv : f E = v) (k : mm_G sc y d (pc + 1) l (.int v :: st) n h kc ks Q) : mm_G sc y d pc l (.int (nI E) :: .ref a :: st) n h kc ks Q := mm_iald hd ha (vp_in_nI hE hl) (by rw [nI_clamp (Nat.lt_trans hE hl), hv]; exact k)
theorem mx_zld {sc : mm_Sc} {y : mm_M} {d pc : Nat} {l : mm_L} {st : List Value} {n : Nat} {h : mm_H} {kc ks : Nat} {Q : mm_O → Nat → mm_H → Prop} {a len E : Nat} {f : Nat → Int32} {v : Int32} (hd : decode y.2.1 pc = .ok (.baload, 1)) (ha : h a = some (.inl (2, len, .inl f))) (hE : E < len) (hl : len < 2 ^ 31) (hv : f E = v) (k : mm_G sc y d (pc + 1) l (.int v :: st) n h kc ks Q) : mm_G sc y d pc l (.int (nI E) :: .ref a :: st) n h kc ks Q := mm_zald hd ha (vp_in_nI hE hl) (by rw [nI_clamp (Nat.lt_trans hE hl), hv]; exact k)
theorem mx_ast {sc : mm_Sc} {y : mm_M} {d pc : Nat} {l : mm_L} {st : List Value} {n : Nat} {h : mm_H} {kc ks : Nat} {Q : mm_O → Nat → mm_H → Prop} {a len E : Nat} {f : Nat → Int32} {x : Int32} (hd : decode y.2.1 pc = .ok (.iastore, 1)) (ha : h a = some (.inl (0, len, .inl f))) (hE : E < len) (hl : len < 2 ^ 31) (k : mm_G sc y d (pc + 1) l st n (va_up h a (some (.inl (0, len, .inl (upd f E x))))) kc ks Q) : mm_G sc y d pc l (.int x :: .int (nI E) :: .ref a :: st) n h kc ks Q := mm_iast hd ha (vp_in_nI hE hl) (by rw [nI_clamp (Nat.lt_trans hE hl)]; exact k)
theorem mx_zst {sc : mm_Sc} {y : mm_M} {d pc : Nat} {l : mm_L} {st : List Value} {n : Nat} {h : mm_H} {kc ks : Nat} {Q : mm_O → Nat → mm_H → Prop} {a len E : Nat} {f : Nat → Int32} {x : Int32} (hd : decode y.2.1 pc = .ok (.bastore, 1)) (ha : h a = some (.inl (2, len, .inl f))) (hE : E < len) (hl : len < 2 ^ 31) (hx : narrow .boolean (.int x) = .int x) (k : mm_G sc y d (pc + 1) l st n (va_up h a (some (.inl (2, len, .inl (upd f E x))))) kc ks Q) : mm_G sc y d pc l (.int x :: .int (nI E) :: .ref a :: st) n h kc ks Q := mm_zast hd ha (vp_in_nI hE hl) hx (by rw [nI_clamp (Nat.lt_trans hE hl)]; exact k)
theorem mx_icmp_eq {sc : mm_Sc} {y : mm_M} {d pc : Nat} {l : mm_L} {st : List Value} {n : Nat} {h : mm_H} {kc ks : Nat} {Q : mm_O → Nat → mm_H → Prop} {a b : Nat} {off : Int} {tgt : Nat} (hd : decode y.2.1 pc = .ok (.if_icmp .eq off, 3)) (ht : (pc : Int) + off = (tgt : Int)) (ha : a < 2 ^ 31) (hb : b < 2 ^ 31) (kt : a = b → mm_G sc y d tgt l st n h kc ks Q) (kf : ¬ a = b → mm_G sc y d (pc + 3) l st n h kc ks Q) : mm_G sc y d pc l (.int (nI b) :: .int (nI a) :: st) n h kc ks Q := mm_icmp_eq hd ht (fun z => kt ((nI_eq ha hb).mp z)) (fun z => kf (fun w => z ((nI_eq ha hb).mpr w)))
theorem mx_if_eq {sc : mm_Sc} {y : mm_M} {d pc : Nat} {l : mm_L} {st : List Value} {n : Nat} {h : mm_H} {kc ks : Nat} {Q : mm_O → Nat → mm_H → Prop} {a : Nat} {off : Int} {tgt : Nat} (hd : decode y.2.1 pc = .ok (.ifCond .eq off, 3)) (ht : (pc : Int) + off = (tgt : Int)) (ha : a < 2 ^ 31) (kt : a = 0 → mm_G sc y d tgt l st n h kc ks Q) (kf : ¬ a = 0 → mm_G sc y d (pc + 3) l st n h kc ks Q) : mm_G sc y d pc l (.int (nI a) :: st) n h kc ks Q := mm_if_eq hd ht (fun z => kt ((nI_eq ha (show 0 < 2 ^ 31 by decide)).mp z)) (fun z => kf (fun w => z ((nI_eq ha (show 0 < 2 ^ 31 by decide)).mpr w)))
theorem mx_icmp_ne {sc : mm_Sc} {y : mm_M} {d pc : Nat} {l : mm_L} {st : List Value} {n : Nat} {h : mm_H} {kc ks : Nat} {Q : mm_O → Nat → mm_H → Prop} {a b : Nat} {off : Int} {tgt : Nat} (hd : decode y.2.1 pc = .ok (.if_icmp .ne off, 3)) (ht : (pc : Int) + off = (tgt : Int)) (ha : a < 2 ^ 31) (hb : b < 2 ^ 31) (kt : ¬ a = b → mm_G sc y d tgt l st n h kc ks Q) (kf : a = b → mm_G sc y d (pc + 3) l st n h kc ks Q) : mm_G sc y d pc l (.int (nI b) :: .int (nI a) :: st) n h kc ks Q := mm_icmp_ne hd ht (fun z => kt (fun w => z ((nI_eq ha hb).mpr w))) (fun z => kf ((nI_eq ha hb).mp z))
theorem mx_if_ne {sc : mm_Sc} {y : mm_M} {d pc : Nat} {l : mm_L} {st : List Value} {n : Nat} {h : mm_H} {kc ks : Nat} {Q : mm_O → Nat → mm_H → Prop} {a : Nat} {off : Int} {tgt : Nat} (hd : decode y.2.1 pc = .ok (.ifCond .ne off, 3)) (ht : (pc : Int) + off = (tgt : Int)) (ha : a < 2 ^ 31) (kt : ¬ a = 0 → mm_G sc y d tgt l st n h kc ks Q) (kf : a = 0 → mm_G sc y d (pc + 3) l st n h kc ks Q) : mm_G sc y d pc l (.int (nI a) :: st) n h kc ks Q := mm_if_ne hd ht (fun z => kt (fun w => z ((nI_eq ha (show 0 < 2 ^ 31 by decide)).mpr w))) (fun z => kf ((nI_eq ha (show 0 < 2 ^ 31 by decide)).mp z))
theorem mx_icmp_lt {sc : mm_Sc} {y : mm_M} {d pc : Nat} {l : mm_L} {st : List Value} {n : Nat} {h : mm_H} {kc ks : Nat} {Q : mm_O → Nat → mm_H → Prop} {a b : Nat} {off : Int} {tgt : Nat} (hd : decode y.2.1 pc = .ok (.if_icmp .lt off, 3)) (ht : (pc : Int) + off = (tgt : Int)) (ha : a < 2 ^ 31) (hb : b < 2 ^ 31) (kt : a < b → mm_G sc y d tgt l st n h kc ks Q) (kf : b ≤ a → mm_G sc y d (pc + 3) l st n h kc ks Q) : mm_G sc y d pc l (.int (nI b) :: .int (nI a) :: st) n h kc ks Q := mm_icmp_lt hd ht (fun z => kt ((nI_ltI ha hb).mp z)) (fun z => kf (Nat.not_lt.mp (fun w => z ((nI_ltI ha hb).mpr w))))
theorem mx_if_lt {sc : mm_Sc} {y : mm_M} {d pc : Nat} {l : mm_L} {st : List Value} {n : Nat} {h : mm_H} {kc ks : Nat} {Q : mm_O → Nat → mm_H → Prop} {a : Nat} {off : Int} {tgt : Nat} (hd : decode y.2.1 pc = .ok (.ifCond .lt off, 3)) (ht : (pc : Int) + off = (tgt : Int)) (ha : a < 2 ^ 31) (kt : a < 0 → mm_G sc y d tgt l st n h kc ks Q) (kf : 0 ≤ a → mm_G sc y d (pc + 3) l st n h kc ks Q) : mm_G sc y d pc l (.int (nI a) :: st) n h kc ks Q := mm_if_lt hd ht (fun z => kt ((nI_ltI ha (show 0 < 2 ^ 31 by decide)).mp z)) (fun z => kf (Nat.not_lt.mp (fun w => z ((nI_ltI ha (show 0 < 2 ^ 31 by decide)).mpr w))))
theorem mx_icmp_ge {sc : mm_Sc} {y : mm_M} {d pc : Nat} {l : mm_L} {st : List Value} {n : Nat} {h : mm_H} {kc ks : Nat} {Q : mm_O → Nat → mm_H → Prop} {a b : Nat} {off : Int} {tgt : Nat} (hd : decode y.2.1 pc = .ok (.if_icmp .ge off, 3)) (ht : (pc : Int) + off = (tgt : Int)) (ha : a < 2 ^ 31) (hb : b < 2 ^ 31) (kt : b ≤ a → mm_G sc y d tgt l st n h kc ks Q) (kf : a < b → mm_G sc y d (pc + 3) l st n h kc ks Q) : mm_G sc y d pc l (.int (nI b) :: .int (nI a) :: st) n h kc ks Q := mm_icmp_ge hd ht (fun z => kt ((nI_leI hb ha).mp z)) (fun z => kf (Nat.not_le.mp (fun w => z ((nI_leI hb ha).mpr w))))
theorem mx_if_ge {sc : mm_Sc} {y : mm_M} {d pc : Nat} {l : mm_L} {st : List Value} {n : Nat} {h : mm_H} {kc ks : Nat} {Q : mm_O → Nat → mm_H → Prop} {a : Nat} {off : Int} {tgt : Nat} (hd : decode y.2.1 pc = .ok (.ifCond .ge off, 3)) (ht : (pc : Int) + off = (tgt : Int)) (ha : a < 2 ^ 31) (kt : 0 ≤ a → mm_G sc y d tgt l st n h kc ks Q) (kf : a < 0 → mm_G sc y d (pc + 3) l st n h kc ks Q) : mm_G sc y d pc l (.int (nI a) :: st) n h kc ks Q := mm_if_ge hd ht (fun z => kt ((nI_leI (show 0 < 2 ^ 31 by decide) ha).mp z)) (fun z => kf (Nat.not_le.mp (fun w => z ((nI_leI (show 0 < 2 ^ 31 by decide) ha).mpr w))))
theorem mx_icmp_gt {sc : mm_Sc} {y : mm_M} {d pc : Nat} {l : mm_L} {st : List Value} {n : Nat} {h : mm_H} {kc ks : Nat} {Q : mm_O → Nat → mm_H → Prop} {a b : Nat} {off : Int} {tgt : Nat} (hd : decode y.2.1 pc = .ok (.if_icmp .gt off, 3)) (ht : (pc : Int) + off = (tgt : Int)) (ha : a < 2 ^ 31) (hb : b < 2 ^ 31) (kt : b < a → mm_G sc y d tgt l st n h kc ks Q) (kf : a ≤ b → mm_G sc y d (pc + 3) l st n h kc ks Q) : mm_G sc y d pc l (.int (nI b) :: .int (nI a) :: st) n h kc ks Q := mm_icmp_gt hd ht (fun z => kt ((nI_ltI hb ha).mp z)) (fun z => kf (Nat.not_lt.mp (fun w => z ((nI_ltI hb ha).mpr w))))
theorem mx_if_gt {sc : mm_Sc} {y : mm_M} {d pc : Nat} {l : mm_L} {st : List Value} {n : Nat} {h : mm_H} {kc ks : Nat} {Q : mm_O → Nat → mm_H → Prop} {a : Nat} {off : Int} {tgt : Nat} (hd : decode y.2.1 pc = .ok (.ifCond .gt off, 3)) (ht : (pc : Int) + off = (tgt : Int)) (ha : a < 2 ^ 31) (kt : 0 < a → mm_G sc y d tgt l st n h kc ks Q) (kf : a ≤ 0 → mm_G sc y d (pc + 3) l st n h kc ks Q) : mm_G sc y d pc l (.int (nI a) :: st) n h kc ks Q := mm_if_gt hd ht (fun z => kt ((nI_ltI (show 0 < 2 ^ 31 by decide) ha).mp z)) (fun z => kf (Nat.not_lt.mp (fun w => z ((nI_ltI (show 0 < 2 ^ 31 by decide) ha).mpr w))))
theorem mx_icmp_le {sc : mm_Sc} {y : mm_M} {d pc : Nat} {l : mm_L} {st : List Value} {n : Nat} {h : mm_H} {kc ks : Nat} {Q : mm_O → Nat → mm_H → Prop} {a b : Nat} {off : Int} {tgt : Nat} (hd : decode y.2.1 pc = .ok (.if_icmp .le off, 3)) (ht : (pc : Int) + off = (tgt : Int)) (ha : a < 2 ^ 31) (hb : b < 2 ^ 31) (kt : a ≤ b → mm_G sc y d tgt l st n h kc ks Q) (kf : b < a → mm_G sc y d (pc + 3) l st n h kc ks Q) : mm_G sc y d pc l (.int (nI b) :: .int (nI a) :: st) n h kc ks Q := mm_icmp_le hd ht (fun z => kt ((nI_leI ha hb).mp z)) (fun z => kf (Nat.not_le.mp (fun w => z ((nI_leI ha hb).mpr w))))
theorem mx_if_le {sc : mm_Sc} {y : mm_M} {d pc : Nat} {l : mm_L} {st : List Value} {n : Nat} {h : mm_H} {kc ks : Nat} {Q : mm_O → Nat → mm_H → Prop} {a : Nat} {off : Int} {tgt : Nat} (hd : decode y.2.1 pc = .ok (.ifCond .le off, 3)) (ht : (pc : Int) + off = (tgt : Int)) (ha : a < 2 ^ 31) (kt : a ≤ 0 → mm_G sc y d tgt l st n h kc ks Q) (kf : 0 < a → mm_G sc y d (pc + 3) l st n h kc ks Q) : mm_G sc y d pc l (.int (nI a) :: st) n h kc ks Q := mm_if_le hd ht (fun z => kt ((nI_leI ha (show 0 < 2 ^ 31 by decide)).mp z)) (fun z => kf (Nat.not_le.mp (fun w => z ((nI_leI ha (show 0 < 2 ^ 31 by decide)).mpr w))))
/-- what an exact call of the reference does -/
def MX (v : Option Value) (n : Nat) (h0 : mm_H) (m : Nat) (I : Nat → Int32) (A : Nat → Nat → Int32) : mm_O → Nat → mm_H → Prop := fun o n' h' => o = .inl v ∧ n' = n ∧ MH h' m I A ∧ MF h0 h' m
theorem MX.of {v : Option Value} {n : Nat} {h0 h : mm_H} {m : Nat} {I I' : Nat → Int32} {A A' : Nat → Nat → Int32} {v' : Option Value} (hv : v' = v) (hI : I = I') (hA : A = A') (H : MH h m I A) (F : MF h0 h m) : MX v n h0 m I' A' (.inl v') n h := ⟨congrArg _ hv, rfl, H.cast hI hA, F⟩
theorem MF.tr {h1 h2 h3 : mm_H} {m : Nat} (a : MF h1 h2 m) (b : MF h2 h3 m) : MF h1 h3 m := fun i hi => (b i hi).trans (a i hi)
theorem mx_call {sc : mm_Sc} {y : mm_M} {d pc : Nat} {l : mm_L} {st : List Value} {n : Nat} {h : mm_H} {kc ks : Nat} {Q : mm_O → Nat → mm_H → Prop} {y' : mm_M} {d' : Nat} {v : Option Value} {st0 as : List Value} {ig : Instr} {h0 : mm_H} {m : Nat} {I' : Nat → Int32} {A' : Nat → Nat → Int32} (hd : decode y.2.1 pc = .ok (ig, 3)) (hI : mm_Inv sc y d pc n h st0 st as y') (J : mm_J sc y' d' as n h 0 0 (MX v n h m I' A')) (hd' : d' < d) (hm : y'.2.2.1 ≤ 16) (hw : mm_code y' ∈ lw_tbl) (hok : mm_ok (mm_code y') = true) (hini : Cond.initialized y'.1.cls ∈ lw_tbl) (hst : (st.map fun v => v.category).sum ≤ 8) (F : MF h0 h m)
    (kr : ∀ h', MH h' m I' A' → MF h0 h' m → mm_G sc y d (pc + 3) l (v.toList ++ st) n h' kc ks Q) : mm_G sc y d pc l st0 n h kc ks Q :=
  mm_call (kc' := 0) (ks' := 0) hd hI J hd' hm hw hok hini hst (fun w n' h' hq => by obtain ⟨e1, rfl, h2, h3⟩ := hq; cases e1; exact kr h' h2 (F.tr h3)) (fun k n' h' hq => by cases hq.1)
