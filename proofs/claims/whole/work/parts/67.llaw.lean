/-! The law's body: each call is made on both sides, the answers agree. -/
/-- both states lie in h, related -/
def LSt (T : Nat) (h : mm_H) (x n : Nat) (c : cS) : Prop := LA h x n c ∧ ∃ I A, MH h (x + 6) I A ∧ MR T c I A
theorem LSt.mono {T T' : Nat} {h : mm_H} {x n : Nat} {c : cS} (S : LSt T h x n c) (e : T ≤ T') : LSt T' h x n c := by
  obtain ⟨B, I, A, H, R⟩ := S
  exact ⟨B, I, A, H, R.mono e⟩
theorem LA_keep {h1 h2 : mm_H} {x n : Nat} {c : cS} (L : LA h1 x n c) (F : MF h1 h2 (x + 6)) : LA h2 x n c := by
  obtain ⟨pa, f, H, B, ho⟩ := L
  refine ⟨pa, f, CH_frame H (fun i hi => F i ?_), B, (F _ (Or.inr (by omega))).trans ho⟩
  rcases hi with z | ⟨j, z1, z2, z3⟩
  · exact Or.inl (by omega)
  · have := (B.2 j z1).1
    exact Or.inr (by omega)
theorem LN.la {code : Nat → Int32} {r : cA × cS} {x n n' : Nat} {h h' : mm_H} {o : mm_O} (L : LN code r x n h o n' h') : LA h' x n' r.2 := by
  obtain ⟨-, -, ⟨pa, f, h1, h2, h3, -⟩, -⟩ := L
  exact ⟨pa, f, h1, h2, h3⟩
theorem LN.out {code : Nat → Int32} {r : cA × cS} {x n n' : Nat} {h h' h2 : mm_H} {o : mm_O} (L : LN code r x n h o n' h') (F : MF h' h2 (x + 6)) : ∃ f, h2 (x + 25) = some (.inl (1, 1, .inr (.inl f))) ∧ ∀ v, r.1 = .inl v → f 0 = v.toInt64 := by
  obtain ⟨-, -, ⟨pa, f, -, -, h3, h4⟩, -⟩ := L
  exact ⟨f, (F _ (Or.inr (by omega))).trans h3, h4⟩
theorem LN.mh {code : Nat → Int32} {r : cA × cS} {x n n' : Nat} {h h' : mm_H} {o : mm_O} {I : Nat → Int32} {A : Nat → Nat → Int32} (L : LN code r x n h o n' h') (H : MH h (x + 6) I A) : MH h' (x + 6) I A := MH_frame H (fun i z1 z2 => L.2.2.2.1 i z1 (by omega))
theorem LN.zero {code : Nat → Int32} {r : cA × cS} {x n n' : Nat} {h h' : mm_H} {o : mm_O} (L : LN code r x n h o n' h') (e : l_code code r.1 = 0) : ∃ v, r.1 = .inl v := by
  rcases hr : r.1 with v | k
  · exact ⟨v, rfl⟩
  · rw [hr] at e
    exact absurd e (L.2.2.2.2 k hr)
theorem MC_nr {code : Nat → Int32} {r : cA × cS} {T : Nat} (k : Nat) (I : Nat → Int32) (A : Nat → Nat → Int32) : ¬ MC code r T (.inr k) I A := by
  rintro ⟨-, q⟩
  rcases hr : r.1 with v | e <;> rw [hr] at q
  · cases q.1
  · obtain ⟨⟨z, hz⟩, -⟩ := q
    cases hz
theorem MC_out {code : Nat → Int32} {r : cA × cS} {T : Nat} {w : Option Value} {I : Nat → Int32} {A : Nat → Nat → Int32} (q : MC code r T (.inl w) I A) : ∃ z, w = some (.int z) ∧ (∀ v, r.1 = .inl v → z = v) ∧ I 0 = l_code code r.1 := by
  obtain ⟨-, q⟩ := q
  rcases hr : r.1 with v | e <;> rw [hr] at q
  · obtain ⟨q1, q2⟩ := q
    cases q1
    exact ⟨v, rfl, fun v' hv => by cases hv; rfl, q2⟩
  · obtain ⟨⟨z, hz⟩, q2⟩ := q
    cases hz
    exact ⟨z, rfl, fun v' hv => (by cases hv), q2⟩
theorem l_cmp (a : Int64) : lg_cmp a a = 0 := by simp [lg_cmp]
theorem ls_in {a len : Nat} (h : a < len) (hl : len ≤ 3072) : vp_in (nI a) len := vp_in_nI h (by omega)
def l_val : cA → Int32
  | .inl v => v
  | .inr _ => 0
theorem law_end {len i : Nat} (hl : len ≤ 3072) (hi : i ≤ 3078) : Int32.ofNat len - 6 < nI i ↔ len < i + 6 := by
  have e1 : (Int32.ofNat len).toInt = len := Int32.toInt_ofNat_of_lt (by omega)
  have e2 : (nI i).toInt = i := Int32.toInt_ofNat_of_lt (by omega)
  rw [Int32.lt_iff_toInt_lt, Int32.toInt_sub, e1, e2, show (6 : Int32).toInt = 6 from rfl, Int.bmod_eq_of_le (by omega) (by omega)]
  omega
/-- script[i + j] comes onto the stack -/
theorem law_arg {sc : mm_Sc} {y : mm_M} {d pc : Nat} {l : mm_L} {st : List Value} {n : Nat} {h : mm_H} {kc ks : Nat} {Q : mm_O → Nat → mm_H → Prop} {i j : Nat} {jz : Int} (h0 : l[0]? = some (some (.ref sc.1))) (h4 : l[4]? = some (some (.int (nI i)))) (d0 : decode y.2.1 pc = .ok (.aload_n 0, 1)) (d1 : decode y.2.1 (pc + 1) = .ok (.iload 4, 2)) (d3 : decode y.2.1 (pc + 3) = .ok (.iconst jz, 1)) (hj : Int32.ofInt jz = nI j) (d4 : decode y.2.1 (pc + 4) = .ok (.iadd, 1)) (d5 : decode y.2.1 (pc + 5) = .ok (.iaload, 1)) (hi : i + j < sc.2.1) (hl : sc.2.1 ≤ 3072) (k : mm_G sc y d (pc + 6) l (.int (sc.2.2 (i + j)) :: st) n h kc ks Q) : mm_G sc y d pc l st n h kc ks Q := by
  refine mm_aload_n d0 h0 ?_
  refine mm_iload d1 h4 ?_
  refine mm_iconst (v := nI j) d3 hj ?_
  refine mx_add d4 (c := i + j) rfl ?_
  have hc := nI_clamp (n := i + j) (by omega)
  refine mm_sld d5 (ls_in hi hl) ?_
  rw [hc]
  exact k

set_option maxRecDepth 100000 in
theorem law_part {sc : mm_Sc} {n : Nat} {h : mm_H} {x i T : Nat} {c : cS} {a5 a6 : Option Value} {kc ks : Nat} {Q : mm_O → Nat → mm_H → Prop} (S : LSt T h x n c) (hT : T + 1000 < 2 ^ 29) (hi : i + 6 ≤ sc.2.1) (hl : sc.2.1 ≤ 3072) (k9 : ∀ n' h' c' b5 b6, LSt (T + 1000) h' x n' c' → mm_G sc y_Law_law 11 803 [some (.ref sc.1), some (.ref x), some (.ref (x + 6)), some (.ref (x + 25)), some (.int (nI i)), b5, b6] [] n' h' kc ks Q) : mm_G sc y_Law_law 11 108 [some (.ref sc.1), some (.ref x), some (.ref (x + 6)), some (.ref (x + 25)), some (.int (nI i)), a5, a6] [] n h (kc + 4) (ks + 104) Q := by
  obtain ⟨B, I, A, HM, R⟩ := S
  refine mm_G.less (kc' := kc + 4) (ks' := ks + 104) ?_ (by omega) (by omega)
  refine mm_aload_n d_Law_law_108 rfl ?_
  refine law_arg (j := 1) rfl rfl d_Law_law_109 d_Law_law_110 d_Law_law_112 rfl d_Law_law_113 d_Law_law_114 (by omega) hl ?_
  refine law_arg (j := 2) rfl rfl d_Law_law_115 d_Law_law_116 d_Law_law_118 rfl d_Law_law_119 d_Law_law_120 (by omega) hl ?_
  refine law_arg (j := 3) rfl rfl d_Law_law_121 d_Law_law_122 d_Law_law_124 rfl d_Law_law_125 d_Law_law_126 (by omega) hl ?_
  refine law_arg (j := 4) rfl rfl d_Law_law_127 d_Law_law_128 d_Law_law_130 rfl d_Law_law_131 d_Law_law_132 (by omega) hl ?_
  refine law_arg (j := 5) rfl rfl d_Law_law_133 d_Law_law_134 d_Law_law_136 rfl d_Law_law_137 d_Law_law_138 (by omega) hl ?_
  refine mm_aload_n d_Law_law_139 rfl ?_
  refine mm_call (kc := kc) (ks := ks) d_Law_law_140 (mm_Inv.sta (as := [.ref x, .int (sc.2.2 (i + 1)), .int (sc.2.2 (i + 2)), .int (sc.2.2 (i + 3)), .int (sc.2.2 (i + 4)), .int (sc.2.2 (i + 5)), .ref (x + 25)]) d_Law_law_140 (Or.inl m_135) m_136 ce_Law_part.2.1 ce_Law_part.2.2.1 ce_Law_part.2.2.2.1 ce_Law_part.2.2.2.2.2 ln_Law_part rfl) (J_Law_part B) (by decide) ce_Law_part.1 ce_Law_part.2.1 ce_Law_part.2.2.1 ce_Law_part.2.2.2.1 (Nat.le_of_ble_eq_true rfl) (fun w n1 h1 hq => ?_) (fun e n1 h1 hq => by cases hq.1)
  obtain rfl := Sum.inl.inj hq.1
  refine mm_G.cast (st' := .int (l_code cd_01 (c_part (sc.2.2 (i + 1)) (sc.2.2 (i + 2)) (sc.2.2 (i + 3)) (sc.2.2 (i + 4)) (sc.2.2 (i + 5)) c).1) :: []) rfl rfl rfl ?_
  have HM1 := hq.mh HM
  refine mm_istore d_Law_law_143 (by decide) ?_
  refine mm_aload_n d_Law_law_145 rfl ?_
  refine law_arg (j := 1) rfl rfl d_Law_law_146 d_Law_law_147 d_Law_law_149 rfl d_Law_law_150 d_Law_law_151 (by omega) hl ?_
  refine law_arg (j := 2) rfl rfl d_Law_law_152 d_Law_law_153 d_Law_law_155 rfl d_Law_law_156 d_Law_law_157 (by omega) hl ?_
  refine law_arg (j := 3) rfl rfl d_Law_law_158 d_Law_law_159 d_Law_law_161 rfl d_Law_law_162 d_Law_law_163 (by omega) hl ?_
  refine law_arg (j := 4) rfl rfl d_Law_law_164 d_Law_law_165 d_Law_law_167 rfl d_Law_law_168 d_Law_law_169 (by omega) hl ?_
  refine law_arg (j := 5) rfl rfl d_Law_law_170 d_Law_law_171 d_Law_law_173 rfl d_Law_law_174 d_Law_law_175 (by omega) hl ?_
  refine mx_callY (h0 := h1) d_Law_law_176 (mm_Inv.vi (as := [.int (sc.2.2 (i + 1)), .int (sc.2.2 (i + 2)), .int (sc.2.2 (i + 3)), .int (sc.2.2 (i + 4)), .int (sc.2.2 (i + 5))]) d_Law_law_176 (Or.inl m_752) m_753 ce_Model_part.2.1 ce_Model_part.2.2.1 m_754 ce_Model_part.2.2.2.2.2 ln_Model_part cl_Model HM1.1 rfl) (J_Model_part HM1 R hT) (by decide) ce_Model_part.1 ce_Model_part.2.1 ce_Model_part.2.2.1 ce_Model_part.2.2.2.1 (Nat.le_of_ble_eq_true rfl) (fun _ _ => rfl) (fun k I A => MC_nr k I A) (fun w h2 I2 A2 HM2 F2 q => ?_)
  obtain ⟨z, rfl, hz, h0⟩ := MC_out q
  refine mm_G.cast (st' := .int z :: []) rfl rfl rfl ?_
  refine mm_istore d_Law_law_179 (by decide) ?_
  refine mm_aload_n d_Law_law_181 rfl ?_
  refine mx_call (h0 := h1) d_Law_law_182 (mm_Inv.vi (as := []) d_Law_law_182 (Or.inl m_748) m_749 ce_Model_thrown.2.1 ce_Model_thrown.2.2.1 m_750 ce_Model_thrown.2.2.2.2.2 ln_Model_thrown cl_Model HM2.1 rfl) (J_Model_thrown HM2) (by decide) ce_Model_thrown.1 ce_Model_thrown.2.1 ce_Model_thrown.2.2.1 ce_Model_thrown.2.2.2.1 (Nat.le_of_ble_eq_true rfl) F2 (fun h3 HM3 F3 => ?_)
  have S3 : LSt (T + 1000) h3 x n1 (c_part (sc.2.2 (i + 1)) (sc.2.2 (i + 2)) (sc.2.2 (i + 3)) (sc.2.2 (i + 4)) (sc.2.2 (i + 5)) c).2 := ⟨LA_keep hq.la F3, I2, A2, HM3, q.1⟩
  obtain ⟨f3, hO3, hf3⟩ := hq.out F3
  refine mm_G.cast (st' := .int (I2 0) :: []) rfl rfl rfl ?_
  refine mm_iload d_Law_law_185 rfl ?_
  refine mm_icmp_eq (tgt := 192) d_Law_law_187 (by decide) (fun _ => ?_) (fun z9 => absurd h0 z9)
  refine mm_iload d_Law_law_192 rfl ?_
  refine mm_if_ne (tgt := 209) d_Law_law_194 (by decide) (fun _ => mm_goto (tgt := 803) d_Law_law_209 (by decide) (mm_G.cast (l' := [some (.ref sc.1), some (.ref x), some (.ref (x + 6)), some (.ref (x + 25)), some (.int (nI i)), some (.int (l_code cd_01 (c_part (sc.2.2 (i + 1)) (sc.2.2 (i + 2)) (sc.2.2 (i + 3)) (sc.2.2 (i + 4)) (sc.2.2 (i + 5)) c).1)), some (.int z)]) rfl rfl rfl (k9 _ _ _ _ _ S3))) (fun e9 => ?_)
  obtain ⟨v, hv⟩ := hq.zero e9
  obtain rfl := hz v hv
  refine mm_aload_n d_Law_law_197 rfl ?_
  refine mm_iconst (v := 0) d_Law_law_198 (by decide) ?_
  refine mm_lald d_Law_law_199 hO3 vp_in01 ?_
  refine mm_iload d_Law_law_200 rfl ?_
  refine mm_i2l d_Law_law_202 ?_
  refine mm_lcmp d_Law_law_203 ?_
  exact mm_if_eq (tgt := 209) d_Law_law_204 (by decide) (fun _ => mm_goto (tgt := 803) d_Law_law_209 (by decide) (mm_G.cast (l' := [some (.ref sc.1), some (.ref x), some (.ref (x + 6)), some (.ref (x + 25)), some (.int (nI i)), some (.int (l_code cd_01 (c_part (sc.2.2 (i + 1)) (sc.2.2 (i + 2)) (sc.2.2 (i + 3)) (sc.2.2 (i + 4)) (sc.2.2 (i + 5)) c).1)), some (.int z)]) rfl rfl rfl (k9 _ _ _ _ _ S3))) (fun z9 => absurd (by rw [show f3 (0 : Int32).toNatClampNeg = z.toInt64 from hf3 z hv]; exact l_cmp _) z9)
set_option maxRecDepth 100000 in
theorem law_load {sc : mm_Sc} {n : Nat} {h : mm_H} {x i T : Nat} {c : cS} {a5 a6 : Option Value} {kc ks : Nat} {Q : mm_O → Nat → mm_H → Prop} (S : LSt T h x n c) (hT : T + 1000 < 2 ^ 29) (hi : i + 6 ≤ sc.2.1) (hl : sc.2.1 ≤ 3072) (k9 : ∀ n' h' c' b5 b6, LSt (T + 1000) h' x n' c' → mm_G sc y_Law_law 11 803 [some (.ref sc.1), some (.ref x), some (.ref (x + 6)), some (.ref (x + 25)), some (.int (nI i)), b5, b6] [] n' h' kc ks Q) : mm_G sc y_Law_law 11 212 [some (.ref sc.1), some (.ref x), some (.ref (x + 6)), some (.ref (x + 25)), some (.int (nI i)), a5, a6] [] n h (kc + 4) (ks + 104) Q := by
  obtain ⟨B, I, A, HM, R⟩ := S
  refine mm_G.less (kc' := kc + 1) (ks' := ks + 6) ?_ (by omega) (by omega)
  refine mm_aload_n d_Law_law_212 rfl ?_
  refine law_arg (j := 1) rfl rfl d_Law_law_213 d_Law_law_214 d_Law_law_216 rfl d_Law_law_217 d_Law_law_218 (by omega) hl ?_
  refine law_arg (j := 2) rfl rfl d_Law_law_219 d_Law_law_220 d_Law_law_222 rfl d_Law_law_223 d_Law_law_224 (by omega) hl ?_
  refine mm_aload_n d_Law_law_225 rfl ?_
  refine mm_call (kc := kc) (ks := ks) d_Law_law_226 (mm_Inv.sta (as := [.ref x, .int (sc.2.2 (i + 1)), .int (sc.2.2 (i + 2)), .ref (x + 25)]) d_Law_law_226 (Or.inl m_387) m_388 ce_Law_load.2.1 ce_Law_load.2.2.1 ce_Law_load.2.2.2.1 ce_Law_load.2.2.2.2.2 ln_Law_load rfl) (J_Law_load B) (by decide) ce_Law_load.1 ce_Law_load.2.1 ce_Law_load.2.2.1 ce_Law_load.2.2.2.1 (Nat.le_of_ble_eq_true rfl) (fun w n1 h1 hq => ?_) (fun e n1 h1 hq => by cases hq.1)
  obtain rfl := Sum.inl.inj hq.1
  refine mm_G.cast (st' := .int (l_code cd_01 (c_load (sc.2.2 (i + 1)) (sc.2.2 (i + 2)) c).1) :: []) rfl rfl rfl ?_
  have HM1 := hq.mh HM
  refine mm_istore d_Law_law_229 (by decide) ?_
  refine mm_aload_n d_Law_law_231 rfl ?_
  refine law_arg (j := 1) rfl rfl d_Law_law_232 d_Law_law_233 d_Law_law_235 rfl d_Law_law_236 d_Law_law_237 (by omega) hl ?_
  refine law_arg (j := 2) rfl rfl d_Law_law_238 d_Law_law_239 d_Law_law_241 rfl d_Law_law_242 d_Law_law_243 (by omega) hl ?_
  refine mx_callY (h0 := h1) d_Law_law_244 (mm_Inv.vi (as := [.int (sc.2.2 (i + 1)), .int (sc.2.2 (i + 2))]) d_Law_law_244 (Or.inl m_767) m_768 ce_Model_load.2.1 ce_Model_load.2.2.1 m_769 ce_Model_load.2.2.2.2.2 ln_Model_load cl_Model HM1.1 rfl) (J_Model_load HM1 R hT) (by decide) ce_Model_load.1 ce_Model_load.2.1 ce_Model_load.2.2.1 ce_Model_load.2.2.2.1 (Nat.le_of_ble_eq_true rfl) (fun _ _ => rfl) (fun k I A => MC_nr k I A) (fun w h2 I2 A2 HM2 F2 q => ?_)
  obtain ⟨z, rfl, hz, h0⟩ := MC_out q
  refine mm_G.cast (st' := .int z :: []) rfl rfl rfl ?_
  refine mm_istore d_Law_law_247 (by decide) ?_
  refine mm_aload_n d_Law_law_249 rfl ?_
  refine mx_call (h0 := h1) d_Law_law_250 (mm_Inv.vi (as := []) d_Law_law_250 (Or.inl m_748) m_749 ce_Model_thrown.2.1 ce_Model_thrown.2.2.1 m_750 ce_Model_thrown.2.2.2.2.2 ln_Model_thrown cl_Model HM2.1 rfl) (J_Model_thrown HM2) (by decide) ce_Model_thrown.1 ce_Model_thrown.2.1 ce_Model_thrown.2.2.1 ce_Model_thrown.2.2.2.1 (Nat.le_of_ble_eq_true rfl) F2 (fun h3 HM3 F3 => ?_)
  have S3 : LSt (T + 1000) h3 x n1 (c_load (sc.2.2 (i + 1)) (sc.2.2 (i + 2)) c).2 := ⟨LA_keep hq.la F3, I2, A2, HM3, q.1⟩
  obtain ⟨f3, hO3, hf3⟩ := hq.out F3
  refine mm_G.cast (st' := .int (I2 0) :: []) rfl rfl rfl ?_
  refine mm_iload d_Law_law_253 rfl ?_
  refine mm_icmp_eq (tgt := 260) d_Law_law_255 (by decide) (fun _ => ?_) (fun z9 => absurd h0 z9)
  refine mm_iload d_Law_law_260 rfl ?_
  refine mm_if_ne (tgt := 277) d_Law_law_262 (by decide) (fun _ => mm_goto (tgt := 803) d_Law_law_277 (by decide) (mm_G.cast (l' := [some (.ref sc.1), some (.ref x), some (.ref (x + 6)), some (.ref (x + 25)), some (.int (nI i)), some (.int (l_code cd_01 (c_load (sc.2.2 (i + 1)) (sc.2.2 (i + 2)) c).1)), some (.int z)]) rfl rfl rfl (k9 _ _ _ _ _ S3))) (fun e9 => ?_)
  obtain ⟨v, hv⟩ := hq.zero e9
  obtain rfl := hz v hv
  refine mm_aload_n d_Law_law_265 rfl ?_
  refine mm_iconst (v := 0) d_Law_law_266 (by decide) ?_
  refine mm_lald d_Law_law_267 hO3 vp_in01 ?_
  refine mm_iload d_Law_law_268 rfl ?_
  refine mm_i2l d_Law_law_270 ?_
  refine mm_lcmp d_Law_law_271 ?_
  exact mm_if_eq (tgt := 277) d_Law_law_272 (by decide) (fun _ => mm_goto (tgt := 803) d_Law_law_277 (by decide) (mm_G.cast (l' := [some (.ref sc.1), some (.ref x), some (.ref (x + 6)), some (.ref (x + 25)), some (.int (nI i)), some (.int (l_code cd_01 (c_load (sc.2.2 (i + 1)) (sc.2.2 (i + 2)) c).1)), some (.int z)]) rfl rfl rfl (k9 _ _ _ _ _ S3))) (fun z9 => absurd (by rw [show f3 (0 : Int32).toNatClampNeg = z.toInt64 from hf3 z hv]; exact l_cmp _) z9)
set_option maxRecDepth 100000 in
theorem law_read {sc : mm_Sc} {n : Nat} {h : mm_H} {x i T : Nat} {c : cS} {a5 a6 : Option Value} {kc ks : Nat} {Q : mm_O → Nat → mm_H → Prop} (S : LSt T h x n c) (hT : T + 1000 < 2 ^ 29) (hi : i + 6 ≤ sc.2.1) (hl : sc.2.1 ≤ 3072) (k9 : ∀ n' h' c' b5 b6, LSt (T + 1000) h' x n' c' → mm_G sc y_Law_law 11 803 [some (.ref sc.1), some (.ref x), some (.ref (x + 6)), some (.ref (x + 25)), some (.int (nI i)), b5, b6] [] n' h' kc ks Q) : mm_G sc y_Law_law 11 280 [some (.ref sc.1), some (.ref x), some (.ref (x + 6)), some (.ref (x + 25)), some (.int (nI i)), a5, a6] [] n h (kc + 4) (ks + 104) Q := by
  obtain ⟨B, I, A, HM, R⟩ := S
  refine mm_G.less (kc' := kc + 1) (ks' := ks + 6) ?_ (by omega) (by omega)
  refine mm_aload_n d_Law_law_280 rfl ?_
  refine law_arg (j := 1) rfl rfl d_Law_law_281 d_Law_law_282 d_Law_law_284 rfl d_Law_law_285 d_Law_law_286 (by omega) hl ?_
  refine mm_aload_n d_Law_law_287 rfl ?_
  refine mm_call (kc := kc) (ks := ks) d_Law_law_288 (mm_Inv.sta (as := [.ref x, .int (sc.2.2 (i + 1)), .ref (x + 25)]) d_Law_law_288 (Or.inl m_407) m_408 ce_Law_read.2.1 ce_Law_read.2.2.1 ce_Law_read.2.2.2.1 ce_Law_read.2.2.2.2.2 ln_Law_read rfl) (J_Law_read B) (by decide) ce_Law_read.1 ce_Law_read.2.1 ce_Law_read.2.2.1 ce_Law_read.2.2.2.1 (Nat.le_of_ble_eq_true rfl) (fun w n1 h1 hq => ?_) (fun e n1 h1 hq => by cases hq.1)
  obtain rfl := Sum.inl.inj hq.1
  refine mm_G.cast (st' := .int (l_code cd_23 (c_read (sc.2.2 (i + 1)) c).1) :: []) rfl rfl rfl ?_
  have HM1 := hq.mh HM
  refine mm_istore d_Law_law_291 (by decide) ?_
  refine mm_aload_n d_Law_law_293 rfl ?_
  refine law_arg (j := 1) rfl rfl d_Law_law_294 d_Law_law_295 d_Law_law_297 rfl d_Law_law_298 d_Law_law_299 (by omega) hl ?_
  refine mx_callY (h0 := h1) d_Law_law_300 (mm_Inv.vi (as := [.int (sc.2.2 (i + 1))]) d_Law_law_300 (Or.inl m_807) m_808 ce_Model_read.2.1 ce_Model_read.2.2.1 m_809 ce_Model_read.2.2.2.2.2 ln_Model_read cl_Model HM1.1 rfl) (J_Model_read HM1 R hT) (by decide) ce_Model_read.1 ce_Model_read.2.1 ce_Model_read.2.2.1 ce_Model_read.2.2.2.1 (Nat.le_of_ble_eq_true rfl) (fun _ _ => rfl) (fun k I A => MC_nr k I A) (fun w h2 I2 A2 HM2 F2 q => ?_)
  obtain ⟨z, rfl, hz, h0⟩ := MC_out q
  refine mm_G.cast (st' := .int z :: []) rfl rfl rfl ?_
  refine mm_istore d_Law_law_303 (by decide) ?_
  refine mm_aload_n d_Law_law_305 rfl ?_
  refine mx_call (h0 := h1) d_Law_law_306 (mm_Inv.vi (as := []) d_Law_law_306 (Or.inl m_748) m_749 ce_Model_thrown.2.1 ce_Model_thrown.2.2.1 m_750 ce_Model_thrown.2.2.2.2.2 ln_Model_thrown cl_Model HM2.1 rfl) (J_Model_thrown HM2) (by decide) ce_Model_thrown.1 ce_Model_thrown.2.1 ce_Model_thrown.2.2.1 ce_Model_thrown.2.2.2.1 (Nat.le_of_ble_eq_true rfl) F2 (fun h3 HM3 F3 => ?_)
  have S3 : LSt (T + 1000) h3 x n1 (c_read (sc.2.2 (i + 1)) c).2 := ⟨LA_keep hq.la F3, I2, A2, HM3, q.1⟩
  obtain ⟨f3, hO3, hf3⟩ := hq.out F3
  refine mm_G.cast (st' := .int (I2 0) :: []) rfl rfl rfl ?_
  refine mm_iload d_Law_law_309 rfl ?_
  refine mm_icmp_eq (tgt := 316) d_Law_law_311 (by decide) (fun _ => ?_) (fun z9 => absurd h0 z9)
  refine mm_iload d_Law_law_316 rfl ?_
  refine mm_if_ne (tgt := 333) d_Law_law_318 (by decide) (fun _ => mm_goto (tgt := 803) d_Law_law_333 (by decide) (mm_G.cast (l' := [some (.ref sc.1), some (.ref x), some (.ref (x + 6)), some (.ref (x + 25)), some (.int (nI i)), some (.int (l_code cd_23 (c_read (sc.2.2 (i + 1)) c).1)), some (.int z)]) rfl rfl rfl (k9 _ _ _ _ _ S3))) (fun e9 => ?_)
  obtain ⟨v, hv⟩ := hq.zero e9
  obtain rfl := hz v hv
  refine mm_aload_n d_Law_law_321 rfl ?_
  refine mm_iconst (v := 0) d_Law_law_322 (by decide) ?_
  refine mm_lald d_Law_law_323 hO3 vp_in01 ?_
  refine mm_iload d_Law_law_324 rfl ?_
  refine mm_i2l d_Law_law_326 ?_
  refine mm_lcmp d_Law_law_327 ?_
  exact mm_if_eq (tgt := 333) d_Law_law_328 (by decide) (fun _ => mm_goto (tgt := 803) d_Law_law_333 (by decide) (mm_G.cast (l' := [some (.ref sc.1), some (.ref x), some (.ref (x + 6)), some (.ref (x + 25)), some (.int (nI i)), some (.int (l_code cd_23 (c_read (sc.2.2 (i + 1)) c).1)), some (.int z)]) rfl rfl rfl (k9 _ _ _ _ _ S3))) (fun z9 => absurd (by rw [show f3 (0 : Int32).toNatClampNeg = z.toInt64 from hf3 z hv]; exact l_cmp _) z9)
set_option maxRecDepth 100000 in
theorem law_write {sc : mm_Sc} {n : Nat} {h : mm_H} {x i T : Nat} {c : cS} {a5 a6 : Option Value} {kc ks : Nat} {Q : mm_O → Nat → mm_H → Prop} (S : LSt T h x n c) (hT : T + 1000 < 2 ^ 29) (hi : i + 6 ≤ sc.2.1) (hl : sc.2.1 ≤ 3072) (k9 : ∀ n' h' c' b5 b6, LSt (T + 1000) h' x n' c' → mm_G sc y_Law_law 11 803 [some (.ref sc.1), some (.ref x), some (.ref (x + 6)), some (.ref (x + 25)), some (.int (nI i)), b5, b6] [] n' h' kc ks Q) : mm_G sc y_Law_law 11 336 [some (.ref sc.1), some (.ref x), some (.ref (x + 6)), some (.ref (x + 25)), some (.int (nI i)), a5, a6] [] n h (kc + 4) (ks + 104) Q := by
  obtain ⟨B, I, A, HM, R⟩ := S
  refine mm_G.less (kc' := kc + 2) (ks' := ks + 12) ?_ (by omega) (by omega)
  refine mm_aload_n d_Law_law_336 rfl ?_
  refine law_arg (j := 1) rfl rfl d_Law_law_337 d_Law_law_338 d_Law_law_340 rfl d_Law_law_341 d_Law_law_342 (by omega) hl ?_
  refine law_arg (j := 2) rfl rfl d_Law_law_343 d_Law_law_344 d_Law_law_346 rfl d_Law_law_347 d_Law_law_348 (by omega) hl ?_
  refine mm_aload_n d_Law_law_349 rfl ?_
  refine mm_call (kc := kc) (ks := ks) d_Law_law_350 (mm_Inv.sta (as := [.ref x, .int (sc.2.2 (i + 1)), .int (sc.2.2 (i + 2)), .ref (x + 25)]) d_Law_law_350 (Or.inl m_541) m_542 ce_Law_write.2.1 ce_Law_write.2.2.1 ce_Law_write.2.2.2.1 ce_Law_write.2.2.2.2.2 ln_Law_write rfl) (J_Law_write B) (by decide) ce_Law_write.1 ce_Law_write.2.1 ce_Law_write.2.2.1 ce_Law_write.2.2.2.1 (Nat.le_of_ble_eq_true rfl) (fun w n1 h1 hq => ?_) (fun e n1 h1 hq => by cases hq.1)
  obtain rfl := Sum.inl.inj hq.1
  refine mm_G.cast (st' := .int (l_code cd_23 (c_write (sc.2.2 (i + 1)) (sc.2.2 (i + 2)) c).1) :: []) rfl rfl rfl ?_
  have HM1 := hq.mh HM
  refine mm_istore d_Law_law_353 (by decide) ?_
  refine mm_aload_n d_Law_law_355 rfl ?_
  refine law_arg (j := 1) rfl rfl d_Law_law_356 d_Law_law_357 d_Law_law_359 rfl d_Law_law_360 d_Law_law_361 (by omega) hl ?_
  refine law_arg (j := 2) rfl rfl d_Law_law_362 d_Law_law_363 d_Law_law_365 rfl d_Law_law_366 d_Law_law_367 (by omega) hl ?_
  refine mx_callY (h0 := h1) d_Law_law_368 (mm_Inv.vi (as := [.int (sc.2.2 (i + 1)), .int (sc.2.2 (i + 2))]) d_Law_law_368 (Or.inl m_824) m_825 ce_Model_write.2.1 ce_Model_write.2.2.1 m_826 ce_Model_write.2.2.2.2.2 ln_Model_write cl_Model HM1.1 rfl) (J_Model_write HM1 R hT) (by decide) ce_Model_write.1 ce_Model_write.2.1 ce_Model_write.2.2.1 ce_Model_write.2.2.2.1 (Nat.le_of_ble_eq_true rfl) (fun _ _ => rfl) (fun k I A => MC_nr k I A) (fun w h2 I2 A2 HM2 F2 q => ?_)
  obtain ⟨z, rfl, hz, h0⟩ := MC_out q
  refine mm_G.cast (st' := .int z :: []) rfl rfl rfl ?_
  refine mm_istore d_Law_law_371 (by decide) ?_
  refine mm_aload_n d_Law_law_373 rfl ?_
  refine mx_call (h0 := h1) d_Law_law_374 (mm_Inv.vi (as := []) d_Law_law_374 (Or.inl m_748) m_749 ce_Model_thrown.2.1 ce_Model_thrown.2.2.1 m_750 ce_Model_thrown.2.2.2.2.2 ln_Model_thrown cl_Model HM2.1 rfl) (J_Model_thrown HM2) (by decide) ce_Model_thrown.1 ce_Model_thrown.2.1 ce_Model_thrown.2.2.1 ce_Model_thrown.2.2.2.1 (Nat.le_of_ble_eq_true rfl) F2 (fun h3 HM3 F3 => ?_)
  have S3 : LSt (T + 1000) h3 x n1 (c_write (sc.2.2 (i + 1)) (sc.2.2 (i + 2)) c).2 := ⟨LA_keep hq.la F3, I2, A2, HM3, q.1⟩
  obtain ⟨f3, hO3, hf3⟩ := hq.out F3
  refine mm_G.cast (st' := .int (I2 0) :: []) rfl rfl rfl ?_
  refine mm_iload d_Law_law_377 rfl ?_
  refine mm_icmp_eq (tgt := 384) d_Law_law_379 (by decide) (fun _ => ?_) (fun z9 => absurd h0 z9)
  refine mm_iload d_Law_law_384 rfl ?_
  refine mm_if_ne (tgt := 401) d_Law_law_386 (by decide) (fun _ => mm_goto (tgt := 803) d_Law_law_401 (by decide) (mm_G.cast (l' := [some (.ref sc.1), some (.ref x), some (.ref (x + 6)), some (.ref (x + 25)), some (.int (nI i)), some (.int (l_code cd_23 (c_write (sc.2.2 (i + 1)) (sc.2.2 (i + 2)) c).1)), some (.int z)]) rfl rfl rfl (k9 _ _ _ _ _ S3))) (fun e9 => ?_)
  obtain ⟨v, hv⟩ := hq.zero e9
  obtain rfl := hz v hv
  refine mm_aload_n d_Law_law_389 rfl ?_
  refine mm_iconst (v := 0) d_Law_law_390 (by decide) ?_
  refine mm_lald d_Law_law_391 hO3 vp_in01 ?_
  refine mm_iload d_Law_law_392 rfl ?_
  refine mm_i2l d_Law_law_394 ?_
  refine mm_lcmp d_Law_law_395 ?_
  exact mm_if_eq (tgt := 401) d_Law_law_396 (by decide) (fun _ => mm_goto (tgt := 803) d_Law_law_401 (by decide) (mm_G.cast (l' := [some (.ref sc.1), some (.ref x), some (.ref (x + 6)), some (.ref (x + 25)), some (.int (nI i)), some (.int (l_code cd_23 (c_write (sc.2.2 (i + 1)) (sc.2.2 (i + 2)) c).1)), some (.int z)]) rfl rfl rfl (k9 _ _ _ _ _ S3))) (fun z9 => absurd (by rw [show f3 (0 : Int32).toNatClampNeg = z.toInt64 from hf3 z hv]; exact l_cmp _) z9)
set_option maxRecDepth 100000 in
theorem law_step {sc : mm_Sc} {n : Nat} {h : mm_H} {x i T : Nat} {c : cS} {a5 a6 : Option Value} {kc ks : Nat} {Q : mm_O → Nat → mm_H → Prop} (S : LSt T h x n c) (hT : T + 1000 < 2 ^ 29) (hi : i + 6 ≤ sc.2.1) (hl : sc.2.1 ≤ 3072) (k9 : ∀ n' h' c' b5 b6, LSt (T + 1000) h' x n' c' → mm_G sc y_Law_law 11 803 [some (.ref sc.1), some (.ref x), some (.ref (x + 6)), some (.ref (x + 25)), some (.int (nI i)), b5, b6] [] n' h' kc ks Q) : mm_G sc y_Law_law 11 404 [some (.ref sc.1), some (.ref x), some (.ref (x + 6)), some (.ref (x + 25)), some (.int (nI i)), a5, a6] [] n h (kc + 4) (ks + 104) Q := by
  obtain ⟨B, I, A, HM, R⟩ := S
  refine mm_G.less (kc' := kc + 1) (ks' := ks + 6) ?_ (by omega) (by omega)
  refine mm_aload_n d_Law_law_404 rfl ?_
  refine law_arg (j := 1) rfl rfl d_Law_law_405 d_Law_law_406 d_Law_law_408 rfl d_Law_law_409 d_Law_law_410 (by omega) hl ?_
  refine mm_aload_n d_Law_law_411 rfl ?_
  refine mm_call (kc := kc) (ks := ks) d_Law_law_412 (mm_Inv.sta (as := [.ref x, .int (sc.2.2 (i + 1)), .ref (x + 25)]) d_Law_law_412 (Or.inl m_580) m_581 ce_Law_step.2.1 ce_Law_step.2.2.1 ce_Law_step.2.2.2.1 ce_Law_step.2.2.2.2.2 ln_Law_step rfl) (J_Law_step B) (by decide) ce_Law_step.1 ce_Law_step.2.1 ce_Law_step.2.2.1 ce_Law_step.2.2.2.1 (Nat.le_of_ble_eq_true rfl) (fun w n1 h1 hq => ?_) (fun e n1 h1 hq => by cases hq.1)
  obtain rfl := Sum.inl.inj hq.1
  refine mm_G.cast (st' := .int (l_code cd_01 (c_stepN (sc.2.2 (i + 1)) c).1) :: []) rfl rfl rfl ?_
  have HM1 := hq.mh HM
  refine mm_istore d_Law_law_415 (by decide) ?_
  refine mm_aload_n d_Law_law_417 rfl ?_
  refine law_arg (j := 1) rfl rfl d_Law_law_418 d_Law_law_419 d_Law_law_421 rfl d_Law_law_422 d_Law_law_423 (by omega) hl ?_
  refine mx_callY (h0 := h1) d_Law_law_424 (mm_Inv.vi (as := [.int (sc.2.2 (i + 1))]) d_Law_law_424 (Or.inl m_775) m_776 ce_Model_step.2.1 ce_Model_step.2.2.1 m_777 ce_Model_step.2.2.2.2.2 ln_Model_step cl_Model HM1.1 rfl) (J_Model_step HM1 R hT) (by decide) ce_Model_step.1 ce_Model_step.2.1 ce_Model_step.2.2.1 ce_Model_step.2.2.2.1 (Nat.le_of_ble_eq_true rfl) (fun _ _ => rfl) (fun k I A => MC_nr k I A) (fun w h2 I2 A2 HM2 F2 q => ?_)
  obtain ⟨z, rfl, hz, h0⟩ := MC_out q
  refine mm_G.cast (st' := .int z :: []) rfl rfl rfl ?_
  refine mm_istore d_Law_law_427 (by decide) ?_
  refine mm_aload_n d_Law_law_429 rfl ?_
  refine mx_call (h0 := h1) d_Law_law_430 (mm_Inv.vi (as := []) d_Law_law_430 (Or.inl m_748) m_749 ce_Model_thrown.2.1 ce_Model_thrown.2.2.1 m_750 ce_Model_thrown.2.2.2.2.2 ln_Model_thrown cl_Model HM2.1 rfl) (J_Model_thrown HM2) (by decide) ce_Model_thrown.1 ce_Model_thrown.2.1 ce_Model_thrown.2.2.1 ce_Model_thrown.2.2.2.1 (Nat.le_of_ble_eq_true rfl) F2 (fun h3 HM3 F3 => ?_)
  have S3 : LSt (T + 1000) h3 x n1 (c_stepN (sc.2.2 (i + 1)) c).2 := ⟨LA_keep hq.la F3, I2, A2, HM3, q.1⟩
  obtain ⟨f3, hO3, hf3⟩ := hq.out F3
  refine mm_G.cast (st' := .int (I2 0) :: []) rfl rfl rfl ?_
  refine mm_iload d_Law_law_433 rfl ?_
  refine mm_icmp_eq (tgt := 440) d_Law_law_435 (by decide) (fun _ => ?_) (fun z9 => absurd h0 z9)
  refine mm_iload d_Law_law_440 rfl ?_
  refine mm_if_ne (tgt := 464) d_Law_law_442 (by decide) (fun _ => mm_goto (tgt := 803) d_Law_law_464 (by decide) (mm_G.cast (l' := [some (.ref sc.1), some (.ref x), some (.ref (x + 6)), some (.ref (x + 25)), some (.int (nI i)), some (.int (l_code cd_01 (c_stepN (sc.2.2 (i + 1)) c).1)), some (.int z)]) rfl rfl rfl (k9 _ _ _ _ _ S3))) (fun e9 => ?_)
  obtain ⟨v, hv⟩ := hq.zero e9
  obtain rfl := hz v hv
  refine mm_aload_n d_Law_law_445 rfl ?_
  refine mm_iconst (v := 0) d_Law_law_446 (by decide) ?_
  refine mm_lald d_Law_law_447 hO3 vp_in01 ?_
  refine mm_iload d_Law_law_448 rfl ?_
  refine mm_if_eq (tgt := 457) d_Law_law_450 (by decide) (fun z0 => ?_) (fun z0 => ?_)
  · refine mm_lconst (v := 0) d_Law_law_457 (by decide) ?_
    refine mm_lcmp d_Law_law_458 ?_
    exact mm_if_eq (tgt := 464) d_Law_law_459 (by decide) (fun _ => mm_goto (tgt := 803) d_Law_law_464 (by decide) (mm_G.cast (l' := [some (.ref sc.1), some (.ref x), some (.ref (x + 6)), some (.ref (x + 25)), some (.int (nI i)), some (.int (l_code cd_01 (c_stepN (sc.2.2 (i + 1)) c).1)), some (.int z)]) rfl rfl rfl (k9 _ _ _ _ _ S3))) (fun z9 => absurd (by rw [show f3 (0 : Int32).toNatClampNeg = z.toInt64 from hf3 z hv, z0]; exact l_cmp _) z9)
  · have z1 : z = 1 := (step_01 (k := sc.2.2 (i + 1)) (c := c) (c1 := (c_stepN (sc.2.2 (i + 1)) c).2) (Prod.ext hv rfl)).resolve_left z0
    refine mm_lconst (v := 1) d_Law_law_453 (by decide) ?_
    refine mm_goto (tgt := 458) d_Law_law_454 (by decide) ?_
    refine mm_lcmp d_Law_law_458 ?_
    exact mm_if_eq (tgt := 464) d_Law_law_459 (by decide) (fun _ => mm_goto (tgt := 803) d_Law_law_464 (by decide) (mm_G.cast (l' := [some (.ref sc.1), some (.ref x), some (.ref (x + 6)), some (.ref (x + 25)), some (.int (nI i)), some (.int (l_code cd_01 (c_stepN (sc.2.2 (i + 1)) c).1)), some (.int z)]) rfl rfl rfl (k9 _ _ _ _ _ S3))) (fun z9 => absurd (by rw [show f3 (0 : Int32).toNatClampNeg = z.toInt64 from hf3 z hv, z1]; exact l_cmp _) z9)
set_option maxRecDepth 100000 in
theorem law_receive {sc : mm_Sc} {n : Nat} {h : mm_H} {x i T : Nat} {c : cS} {a5 a6 : Option Value} {kc ks : Nat} {Q : mm_O → Nat → mm_H → Prop} (S : LSt T h x n c) (hT : T + 1000 < 2 ^ 29) (hi : i + 6 ≤ sc.2.1) (hl : sc.2.1 ≤ 3072) (k9 : ∀ n' h' c' b5 b6, LSt (T + 1000) h' x n' c' → mm_G sc y_Law_law 11 803 [some (.ref sc.1), some (.ref x), some (.ref (x + 6)), some (.ref (x + 25)), some (.int (nI i)), b5, b6] [] n' h' kc ks Q) : mm_G sc y_Law_law 11 467 [some (.ref sc.1), some (.ref x), some (.ref (x + 6)), some (.ref (x + 25)), some (.int (nI i)), a5, a6] [] n h (kc + 4) (ks + 104) Q := by
  obtain ⟨B, I, A, HM, R⟩ := S
  refine mm_G.less (kc' := kc + 2) (ks' := ks + 12) ?_ (by omega) (by omega)
  refine mm_aload_n d_Law_law_467 rfl ?_
  refine law_arg (j := 1) rfl rfl d_Law_law_468 d_Law_law_469 d_Law_law_471 rfl d_Law_law_472 d_Law_law_473 (by omega) hl ?_
  refine law_arg (j := 2) rfl rfl d_Law_law_474 d_Law_law_475 d_Law_law_477 rfl d_Law_law_478 d_Law_law_479 (by omega) hl ?_
  refine mm_aload_n d_Law_law_480 rfl ?_
  refine mm_call (kc := kc) (ks := ks) d_Law_law_481 (mm_Inv.sta (as := [.ref x, .int (sc.2.2 (i + 1)), .int (sc.2.2 (i + 2)), .ref (x + 25)]) d_Law_law_481 (Or.inl m_588) m_589 ce_Law_receive.2.1 ce_Law_receive.2.2.1 ce_Law_receive.2.2.2.1 ce_Law_receive.2.2.2.2.2 ln_Law_receive rfl) (J_Law_receive B) (by decide) ce_Law_receive.1 ce_Law_receive.2.1 ce_Law_receive.2.2.1 ce_Law_receive.2.2.2.1 (Nat.le_of_ble_eq_true rfl) (fun w n1 h1 hq => ?_) (fun e n1 h1 hq => by cases hq.1)
  obtain rfl := Sum.inl.inj hq.1
  refine mm_G.cast (st' := .int (l_code cd_01 (c_recv (sc.2.2 (i + 1)) (sc.2.2 (i + 2)) c).1) :: []) rfl rfl rfl ?_
  have HM1 := hq.mh HM
  refine mm_istore d_Law_law_484 (by decide) ?_
  refine mm_aload_n d_Law_law_486 rfl ?_
  refine law_arg (j := 1) rfl rfl d_Law_law_487 d_Law_law_488 d_Law_law_490 rfl d_Law_law_491 d_Law_law_492 (by omega) hl ?_
  refine law_arg (j := 2) rfl rfl d_Law_law_493 d_Law_law_494 d_Law_law_496 rfl d_Law_law_497 d_Law_law_498 (by omega) hl ?_
  refine mx_callY (h0 := h1) d_Law_law_499 (mm_Inv.vi (as := [.int (sc.2.2 (i + 1)), .int (sc.2.2 (i + 2))]) d_Law_law_499 (Or.inl m_840) m_841 ce_Model_receive.2.1 ce_Model_receive.2.2.1 m_842 ce_Model_receive.2.2.2.2.2 ln_Model_receive cl_Model HM1.1 rfl) (J_Model_receive HM1 R hT) (by decide) ce_Model_receive.1 ce_Model_receive.2.1 ce_Model_receive.2.2.1 ce_Model_receive.2.2.2.1 (Nat.le_of_ble_eq_true rfl) (fun _ _ => rfl) (fun k I A => MC_nr k I A) (fun w h2 I2 A2 HM2 F2 q => ?_)
  obtain ⟨z, rfl, hz, h0⟩ := MC_out q
  refine mm_G.cast (st' := .int z :: []) rfl rfl rfl ?_
  refine mm_istore d_Law_law_502 (by decide) ?_
  refine mm_aload_n d_Law_law_504 rfl ?_
  refine mx_call (h0 := h1) d_Law_law_505 (mm_Inv.vi (as := []) d_Law_law_505 (Or.inl m_748) m_749 ce_Model_thrown.2.1 ce_Model_thrown.2.2.1 m_750 ce_Model_thrown.2.2.2.2.2 ln_Model_thrown cl_Model HM2.1 rfl) (J_Model_thrown HM2) (by decide) ce_Model_thrown.1 ce_Model_thrown.2.1 ce_Model_thrown.2.2.1 ce_Model_thrown.2.2.2.1 (Nat.le_of_ble_eq_true rfl) F2 (fun h3 HM3 F3 => ?_)
  have S3 : LSt (T + 1000) h3 x n1 (c_recv (sc.2.2 (i + 1)) (sc.2.2 (i + 2)) c).2 := ⟨LA_keep hq.la F3, I2, A2, HM3, q.1⟩
  obtain ⟨f3, hO3, hf3⟩ := hq.out F3
  refine mm_G.cast (st' := .int (I2 0) :: []) rfl rfl rfl ?_
  refine mm_iload d_Law_law_508 rfl ?_
  refine mm_icmp_eq (tgt := 515) d_Law_law_510 (by decide) (fun _ => ?_) (fun z9 => absurd h0 z9)
  refine mm_iload d_Law_law_515 rfl ?_
  refine mm_if_ne (tgt := 532) d_Law_law_517 (by decide) (fun _ => mm_goto (tgt := 803) d_Law_law_532 (by decide) (mm_G.cast (l' := [some (.ref sc.1), some (.ref x), some (.ref (x + 6)), some (.ref (x + 25)), some (.int (nI i)), some (.int (l_code cd_01 (c_recv (sc.2.2 (i + 1)) (sc.2.2 (i + 2)) c).1)), some (.int z)]) rfl rfl rfl (k9 _ _ _ _ _ S3))) (fun e9 => ?_)
  obtain ⟨v, hv⟩ := hq.zero e9
  obtain rfl := hz v hv
  refine mm_aload_n d_Law_law_520 rfl ?_
  refine mm_iconst (v := 0) d_Law_law_521 (by decide) ?_
  refine mm_lald d_Law_law_522 hO3 vp_in01 ?_
  refine mm_iload d_Law_law_523 rfl ?_
  refine mm_i2l d_Law_law_525 ?_
  refine mm_lcmp d_Law_law_526 ?_
  exact mm_if_eq (tgt := 532) d_Law_law_527 (by decide) (fun _ => mm_goto (tgt := 803) d_Law_law_532 (by decide) (mm_G.cast (l' := [some (.ref sc.1), some (.ref x), some (.ref (x + 6)), some (.ref (x + 25)), some (.int (nI i)), some (.int (l_code cd_01 (c_recv (sc.2.2 (i + 1)) (sc.2.2 (i + 2)) c).1)), some (.int z)]) rfl rfl rfl (k9 _ _ _ _ _ S3))) (fun z9 => absurd (by rw [show f3 (0 : Int32).toNatClampNeg = z.toInt64 from hf3 z hv]; exact l_cmp _) z9)
set_option maxRecDepth 100000 in
theorem law_sent {sc : mm_Sc} {n : Nat} {h : mm_H} {x i T : Nat} {c : cS} {a5 a6 : Option Value} {kc ks : Nat} {Q : mm_O → Nat → mm_H → Prop} (S : LSt T h x n c) (hT : T + 1000 < 2 ^ 29) (hi : i + 6 ≤ sc.2.1) (hl : sc.2.1 ≤ 3072) (k9 : ∀ n' h' c' b5 b6, LSt (T + 1000) h' x n' c' → mm_G sc y_Law_law 11 803 [some (.ref sc.1), some (.ref x), some (.ref (x + 6)), some (.ref (x + 25)), some (.int (nI i)), b5, b6] [] n' h' kc ks Q) : mm_G sc y_Law_law 11 535 [some (.ref sc.1), some (.ref x), some (.ref (x + 6)), some (.ref (x + 25)), some (.int (nI i)), a5, a6] [] n h (kc + 4) (ks + 104) Q := by
  obtain ⟨B, I, A, HM, R⟩ := S
  refine mm_G.less (kc' := kc + 2) (ks' := ks + 12) ?_ (by omega) (by omega)
  refine mm_aload_n d_Law_law_535 rfl ?_
  refine law_arg (j := 1) rfl rfl d_Law_law_536 d_Law_law_537 d_Law_law_539 rfl d_Law_law_540 d_Law_law_541 (by omega) hl ?_
  refine law_arg (j := 2) rfl rfl d_Law_law_542 d_Law_law_543 d_Law_law_545 rfl d_Law_law_546 d_Law_law_547 (by omega) hl ?_
  refine mm_aload_n d_Law_law_548 rfl ?_
  refine mm_call (kc := kc) (ks := ks) d_Law_law_549 (mm_Inv.sta (as := [.ref x, .int (sc.2.2 (i + 1)), .int (sc.2.2 (i + 2)), .ref (x + 25)]) d_Law_law_549 (Or.inl m_609) m_610 ce_Law_sent.2.1 ce_Law_sent.2.2.1 ce_Law_sent.2.2.2.1 ce_Law_sent.2.2.2.2.2 ln_Law_sent rfl) (J_Law_sent B) (by decide) ce_Law_sent.1 ce_Law_sent.2.1 ce_Law_sent.2.2.1 ce_Law_sent.2.2.2.1 (Nat.le_of_ble_eq_true rfl) (fun w n1 h1 hq => ?_) (fun e n1 h1 hq => by cases hq.1)
  obtain rfl := Sum.inl.inj hq.1
  refine mm_G.cast (st' := .int (l_code cd_02 (c_sent (sc.2.2 (i + 1)) (sc.2.2 (i + 2)) c).1) :: []) rfl rfl rfl ?_
  have HM1 := hq.mh HM
  refine mm_istore d_Law_law_552 (by decide) ?_
  refine mm_aload_n d_Law_law_554 rfl ?_
  refine law_arg (j := 1) rfl rfl d_Law_law_555 d_Law_law_556 d_Law_law_558 rfl d_Law_law_559 d_Law_law_560 (by omega) hl ?_
  refine law_arg (j := 2) rfl rfl d_Law_law_561 d_Law_law_562 d_Law_law_564 rfl d_Law_law_565 d_Law_law_566 (by omega) hl ?_
  refine mx_callY (h0 := h1) d_Law_law_567 (mm_Inv.vi (as := [.int (sc.2.2 (i + 1)), .int (sc.2.2 (i + 2))]) d_Law_law_567 (Or.inl m_848) m_849 ce_Model_sent.2.1 ce_Model_sent.2.2.1 m_850 ce_Model_sent.2.2.2.2.2 ln_Model_sent cl_Model HM1.1 rfl) (J_Model_sent HM1 R hT) (by decide) ce_Model_sent.1 ce_Model_sent.2.1 ce_Model_sent.2.2.1 ce_Model_sent.2.2.2.1 (Nat.le_of_ble_eq_true rfl) (fun _ _ => rfl) (fun k I A => MC_nr k I A) (fun w h2 I2 A2 HM2 F2 q => ?_)
  obtain ⟨z, rfl, hz, h0⟩ := MC_out q
  refine mm_G.cast (st' := .int z :: []) rfl rfl rfl ?_
  refine mm_istore d_Law_law_570 (by decide) ?_
  refine mm_aload_n d_Law_law_572 rfl ?_
  refine mx_call (h0 := h1) d_Law_law_573 (mm_Inv.vi (as := []) d_Law_law_573 (Or.inl m_748) m_749 ce_Model_thrown.2.1 ce_Model_thrown.2.2.1 m_750 ce_Model_thrown.2.2.2.2.2 ln_Model_thrown cl_Model HM2.1 rfl) (J_Model_thrown HM2) (by decide) ce_Model_thrown.1 ce_Model_thrown.2.1 ce_Model_thrown.2.2.1 ce_Model_thrown.2.2.2.1 (Nat.le_of_ble_eq_true rfl) F2 (fun h3 HM3 F3 => ?_)
  have S3 : LSt (T + 1000) h3 x n1 (c_sent (sc.2.2 (i + 1)) (sc.2.2 (i + 2)) c).2 := ⟨LA_keep hq.la F3, I2, A2, HM3, q.1⟩
  obtain ⟨f3, hO3, hf3⟩ := hq.out F3
  refine mm_G.cast (st' := .int (I2 0) :: []) rfl rfl rfl ?_
  refine mm_iload d_Law_law_576 rfl ?_
  refine mm_icmp_eq (tgt := 583) d_Law_law_578 (by decide) (fun _ => ?_) (fun z9 => absurd h0 z9)
  refine mm_iload d_Law_law_583 rfl ?_
  refine mm_if_ne (tgt := 600) d_Law_law_585 (by decide) (fun _ => mm_goto (tgt := 803) d_Law_law_600 (by decide) (mm_G.cast (l' := [some (.ref sc.1), some (.ref x), some (.ref (x + 6)), some (.ref (x + 25)), some (.int (nI i)), some (.int (l_code cd_02 (c_sent (sc.2.2 (i + 1)) (sc.2.2 (i + 2)) c).1)), some (.int z)]) rfl rfl rfl (k9 _ _ _ _ _ S3))) (fun e9 => ?_)
  obtain ⟨v, hv⟩ := hq.zero e9
  obtain rfl := hz v hv
  refine mm_aload_n d_Law_law_588 rfl ?_
  refine mm_iconst (v := 0) d_Law_law_589 (by decide) ?_
  refine mm_lald d_Law_law_590 hO3 vp_in01 ?_
  refine mm_iload d_Law_law_591 rfl ?_
  refine mm_i2l d_Law_law_593 ?_
  refine mm_lcmp d_Law_law_594 ?_
  exact mm_if_eq (tgt := 600) d_Law_law_595 (by decide) (fun _ => mm_goto (tgt := 803) d_Law_law_600 (by decide) (mm_G.cast (l' := [some (.ref sc.1), some (.ref x), some (.ref (x + 6)), some (.ref (x + 25)), some (.int (nI i)), some (.int (l_code cd_02 (c_sent (sc.2.2 (i + 1)) (sc.2.2 (i + 2)) c).1)), some (.int z)]) rfl rfl rfl (k9 _ _ _ _ _ S3))) (fun z9 => absurd (by rw [show f3 (0 : Int32).toNatClampNeg = z.toInt64 from hf3 z hv]; exact l_cmp _) z9)
set_option maxRecDepth 100000 in
theorem law_line {sc : mm_Sc} {n : Nat} {h : mm_H} {x i T : Nat} {c : cS} {a5 a6 : Option Value} {kc ks : Nat} {Q : mm_O → Nat → mm_H → Prop} (S : LSt T h x n c) (hT : T + 1000 < 2 ^ 29) (hi : i + 6 ≤ sc.2.1) (hl : sc.2.1 ≤ 3072) (k9 : ∀ n' h' c' b5 b6, LSt (T + 1000) h' x n' c' → mm_G sc y_Law_law 11 803 [some (.ref sc.1), some (.ref x), some (.ref (x + 6)), some (.ref (x + 25)), some (.int (nI i)), b5, b6] [] n' h' kc ks Q) : mm_G sc y_Law_law 11 603 [some (.ref sc.1), some (.ref x), some (.ref (x + 6)), some (.ref (x + 25)), some (.int (nI i)), a5, a6] [] n h (kc + 4) (ks + 104) Q := by
  obtain ⟨B, I, A, HM, R⟩ := S
  refine mm_G.less (kc' := kc + 1) (ks' := ks + 6) ?_ (by omega) (by omega)
  refine mm_aload_n d_Law_law_603 rfl ?_
  refine law_arg (j := 1) rfl rfl d_Law_law_604 d_Law_law_605 d_Law_law_607 rfl d_Law_law_608 d_Law_law_609 (by omega) hl ?_
  refine law_arg (j := 2) rfl rfl d_Law_law_610 d_Law_law_611 d_Law_law_613 rfl d_Law_law_614 d_Law_law_615 (by omega) hl ?_
  refine law_arg (j := 3) rfl rfl d_Law_law_616 d_Law_law_617 d_Law_law_619 rfl d_Law_law_620 d_Law_law_621 (by omega) hl ?_
  refine mm_aload_n d_Law_law_622 rfl ?_
  refine mm_call (kc := kc) (ks := ks) d_Law_law_623 (mm_Inv.sta (as := [.ref x, .int (sc.2.2 (i + 1)), .int (sc.2.2 (i + 2)), .int (sc.2.2 (i + 3)), .ref (x + 25)]) d_Law_law_623 (Or.inl m_629) m_630 ce_Law_line.2.1 ce_Law_line.2.2.1 ce_Law_line.2.2.2.1 ce_Law_line.2.2.2.2.2 ln_Law_line rfl) (J_Law_line B) (by decide) ce_Law_line.1 ce_Law_line.2.1 ce_Law_line.2.2.1 ce_Law_line.2.2.2.1 (Nat.le_of_ble_eq_true rfl) (fun w n1 h1 hq => ?_) (fun e n1 h1 hq => by cases hq.1)
  obtain rfl := Sum.inl.inj hq.1
  refine mm_G.cast (st' := .int (l_code cd_20 (c_line (sc.2.2 (i + 1)) (sc.2.2 (i + 2)) (sc.2.2 (i + 3)) c).1) :: []) rfl rfl rfl ?_
  have HM1 := hq.mh HM
  refine mm_istore d_Law_law_626 (by decide) ?_
  refine mm_aload_n d_Law_law_628 rfl ?_
  refine law_arg (j := 1) rfl rfl d_Law_law_629 d_Law_law_630 d_Law_law_632 rfl d_Law_law_633 d_Law_law_634 (by omega) hl ?_
  refine law_arg (j := 2) rfl rfl d_Law_law_635 d_Law_law_636 d_Law_law_638 rfl d_Law_law_639 d_Law_law_640 (by omega) hl ?_
  refine law_arg (j := 3) rfl rfl d_Law_law_641 d_Law_law_642 d_Law_law_644 rfl d_Law_law_645 d_Law_law_646 (by omega) hl ?_
  refine mx_callY (h0 := h1) d_Law_law_647 (mm_Inv.vi (as := [.int (sc.2.2 (i + 1)), .int (sc.2.2 (i + 2)), .int (sc.2.2 (i + 3))]) d_Law_law_647 (Or.inl m_852) m_853 ce_Model_line.2.1 ce_Model_line.2.2.1 m_854 ce_Model_line.2.2.2.2.2 ln_Model_line cl_Model HM1.1 rfl) (J_Model_line HM1 R hT) (by decide) ce_Model_line.1 ce_Model_line.2.1 ce_Model_line.2.2.1 ce_Model_line.2.2.2.1 (Nat.le_of_ble_eq_true rfl) (fun _ _ => rfl) (fun k I A => MC_nr k I A) (fun w h2 I2 A2 HM2 F2 q => ?_)
  obtain ⟨z, rfl, hz, h0⟩ := MC_out q
  refine mm_G.cast (st' := .int z :: []) rfl rfl rfl ?_
  refine mm_istore d_Law_law_650 (by decide) ?_
  refine mm_aload_n d_Law_law_652 rfl ?_
  refine mx_call (h0 := h1) d_Law_law_653 (mm_Inv.vi (as := []) d_Law_law_653 (Or.inl m_748) m_749 ce_Model_thrown.2.1 ce_Model_thrown.2.2.1 m_750 ce_Model_thrown.2.2.2.2.2 ln_Model_thrown cl_Model HM2.1 rfl) (J_Model_thrown HM2) (by decide) ce_Model_thrown.1 ce_Model_thrown.2.1 ce_Model_thrown.2.2.1 ce_Model_thrown.2.2.2.1 (Nat.le_of_ble_eq_true rfl) F2 (fun h3 HM3 F3 => ?_)
  have S3 : LSt (T + 1000) h3 x n1 (c_line (sc.2.2 (i + 1)) (sc.2.2 (i + 2)) (sc.2.2 (i + 3)) c).2 := ⟨LA_keep hq.la F3, I2, A2, HM3, q.1⟩
  obtain ⟨f3, hO3, hf3⟩ := hq.out F3
  refine mm_G.cast (st' := .int (I2 0) :: []) rfl rfl rfl ?_
  refine mm_iload d_Law_law_656 rfl ?_
  refine mm_icmp_eq (tgt := 663) d_Law_law_658 (by decide) (fun _ => ?_) (fun z9 => absurd h0 z9)
  refine mm_iload d_Law_law_663 rfl ?_
  refine mm_if_ne (tgt := 680) d_Law_law_665 (by decide) (fun _ => mm_goto (tgt := 803) d_Law_law_680 (by decide) (mm_G.cast (l' := [some (.ref sc.1), some (.ref x), some (.ref (x + 6)), some (.ref (x + 25)), some (.int (nI i)), some (.int (l_code cd_20 (c_line (sc.2.2 (i + 1)) (sc.2.2 (i + 2)) (sc.2.2 (i + 3)) c).1)), some (.int z)]) rfl rfl rfl (k9 _ _ _ _ _ S3))) (fun e9 => ?_)
  obtain ⟨v, hv⟩ := hq.zero e9
  obtain rfl := hz v hv
  refine mm_aload_n d_Law_law_668 rfl ?_
  refine mm_iconst (v := 0) d_Law_law_669 (by decide) ?_
  refine mm_lald d_Law_law_670 hO3 vp_in01 ?_
  refine mm_iload d_Law_law_671 rfl ?_
  refine mm_i2l d_Law_law_673 ?_
  refine mm_lcmp d_Law_law_674 ?_
  exact mm_if_eq (tgt := 680) d_Law_law_675 (by decide) (fun _ => mm_goto (tgt := 803) d_Law_law_680 (by decide) (mm_G.cast (l' := [some (.ref sc.1), some (.ref x), some (.ref (x + 6)), some (.ref (x + 25)), some (.int (nI i)), some (.int (l_code cd_20 (c_line (sc.2.2 (i + 1)) (sc.2.2 (i + 2)) (sc.2.2 (i + 3)) c).1)), some (.int z)]) rfl rfl rfl (k9 _ _ _ _ _ S3))) (fun z9 => absurd (by rw [show f3 (0 : Int32).toNatClampNeg = z.toInt64 from hf3 z hv]; exact l_cmp _) z9)
set_option maxRecDepth 100000 in
theorem law_asks {sc : mm_Sc} {n : Nat} {h : mm_H} {x i T : Nat} {c : cS} {a5 a6 : Option Value} {kc ks : Nat} {Q : mm_O → Nat → mm_H → Prop} (S : LSt T h x n c) (hT : T + 1000 < 2 ^ 29) (hi : i + 6 ≤ sc.2.1) (hl : sc.2.1 ≤ 3072) (k9 : ∀ n' h' c' b5 b6, LSt (T + 1000) h' x n' c' → mm_G sc y_Law_law 11 803 [some (.ref sc.1), some (.ref x), some (.ref (x + 6)), some (.ref (x + 25)), some (.int (nI i)), b5, b6] [] n' h' kc ks Q) : mm_G sc y_Law_law 11 683 [some (.ref sc.1), some (.ref x), some (.ref (x + 6)), some (.ref (x + 25)), some (.int (nI i)), a5, a6] [] n h (kc + 4) (ks + 104) Q := by
  obtain ⟨B, I, A, HM, R⟩ := S
  refine mm_G.less (kc' := kc + 1) (ks' := ks + 6) ?_ (by omega) (by omega)
  refine mm_aload_n d_Law_law_683 rfl ?_
  refine law_arg (j := 1) rfl rfl d_Law_law_684 d_Law_law_685 d_Law_law_687 rfl d_Law_law_688 d_Law_law_689 (by omega) hl ?_
  refine mm_aload_n d_Law_law_690 rfl ?_
  refine mm_call (kc := kc) (ks := ks) d_Law_law_691 (mm_Inv.sta (as := [.ref x, .int (sc.2.2 (i + 1)), .ref (x + 25)]) d_Law_law_691 (Or.inl m_658) m_659 ce_Law_asks.2.1 ce_Law_asks.2.2.1 ce_Law_asks.2.2.2.1 ce_Law_asks.2.2.2.2.2 ln_Law_asks rfl) (J_Law_asks B) (by decide) ce_Law_asks.1 ce_Law_asks.2.1 ce_Law_asks.2.2.1 ce_Law_asks.2.2.2.1 (Nat.le_of_ble_eq_true rfl) (fun w n1 h1 hq => ?_) (fun e n1 h1 hq => by cases hq.1)
  obtain rfl := Sum.inl.inj hq.1
  refine mm_G.cast (st' := .int (l_code cd_2 (c_asks (sc.2.2 (i + 1)) c).1) :: []) rfl rfl rfl ?_
  have HM1 := hq.mh HM
  refine mm_istore d_Law_law_694 (by decide) ?_
  refine mm_aload_n d_Law_law_696 rfl ?_
  refine law_arg (j := 1) rfl rfl d_Law_law_697 d_Law_law_698 d_Law_law_700 rfl d_Law_law_701 d_Law_law_702 (by omega) hl ?_
  refine mx_callY (h0 := h1) d_Law_law_703 (mm_Inv.vi (as := [.int (sc.2.2 (i + 1))]) d_Law_law_703 (Or.inl m_856) m_857 ce_Model_asks.2.1 ce_Model_asks.2.2.1 m_858 ce_Model_asks.2.2.2.2.2 ln_Model_asks cl_Model HM1.1 rfl) (J_Model_asks HM1 R hT) (by decide) ce_Model_asks.1 ce_Model_asks.2.1 ce_Model_asks.2.2.1 ce_Model_asks.2.2.2.1 (Nat.le_of_ble_eq_true rfl) (fun _ _ => rfl) (fun k I A => MC_nr k I A) (fun w h2 I2 A2 HM2 F2 q => ?_)
  obtain ⟨z, rfl, hz, h0⟩ := MC_out q
  refine mm_G.cast (st' := .int z :: []) rfl rfl rfl ?_
  refine mm_istore d_Law_law_706 (by decide) ?_
  refine mm_aload_n d_Law_law_708 rfl ?_
  refine mx_call (h0 := h1) d_Law_law_709 (mm_Inv.vi (as := []) d_Law_law_709 (Or.inl m_748) m_749 ce_Model_thrown.2.1 ce_Model_thrown.2.2.1 m_750 ce_Model_thrown.2.2.2.2.2 ln_Model_thrown cl_Model HM2.1 rfl) (J_Model_thrown HM2) (by decide) ce_Model_thrown.1 ce_Model_thrown.2.1 ce_Model_thrown.2.2.1 ce_Model_thrown.2.2.2.1 (Nat.le_of_ble_eq_true rfl) F2 (fun h3 HM3 F3 => ?_)
  have S3 : LSt (T + 1000) h3 x n1 (c_asks (sc.2.2 (i + 1)) c).2 := ⟨LA_keep hq.la F3, I2, A2, HM3, q.1⟩
  obtain ⟨f3, hO3, hf3⟩ := hq.out F3
  refine mm_G.cast (st' := .int (I2 0) :: []) rfl rfl rfl ?_
  refine mm_iload d_Law_law_712 rfl ?_
  refine mm_icmp_eq (tgt := 719) d_Law_law_714 (by decide) (fun _ => ?_) (fun z9 => absurd h0 z9)
  refine mm_iload d_Law_law_719 rfl ?_
  refine mm_if_ne (tgt := 736) d_Law_law_721 (by decide) (fun _ => mm_goto (tgt := 803) d_Law_law_736 (by decide) (mm_G.cast (l' := [some (.ref sc.1), some (.ref x), some (.ref (x + 6)), some (.ref (x + 25)), some (.int (nI i)), some (.int (l_code cd_2 (c_asks (sc.2.2 (i + 1)) c).1)), some (.int z)]) rfl rfl rfl (k9 _ _ _ _ _ S3))) (fun e9 => ?_)
  obtain ⟨v, hv⟩ := hq.zero e9
  obtain rfl := hz v hv
  refine mm_aload_n d_Law_law_724 rfl ?_
  refine mm_iconst (v := 0) d_Law_law_725 (by decide) ?_
  refine mm_lald d_Law_law_726 hO3 vp_in01 ?_
  refine mm_iload d_Law_law_727 rfl ?_
  refine mm_i2l d_Law_law_729 ?_
  refine mm_lcmp d_Law_law_730 ?_
  exact mm_if_eq (tgt := 736) d_Law_law_731 (by decide) (fun _ => mm_goto (tgt := 803) d_Law_law_736 (by decide) (mm_G.cast (l' := [some (.ref sc.1), some (.ref x), some (.ref (x + 6)), some (.ref (x + 25)), some (.int (nI i)), some (.int (l_code cd_2 (c_asks (sc.2.2 (i + 1)) c).1)), some (.int z)]) rfl rfl rfl (k9 _ _ _ _ _ S3))) (fun z9 => absurd (by rw [show f3 (0 : Int32).toNatClampNeg = z.toInt64 from hf3 z hv]; exact l_cmp _) z9)
set_option maxRecDepth 100000 in
theorem law_chosen {sc : mm_Sc} {n : Nat} {h : mm_H} {x i T : Nat} {c : cS} {a5 a6 : Option Value} {kc ks : Nat} {Q : mm_O → Nat → mm_H → Prop} (S : LSt T h x n c) (hT : T + 1000 < 2 ^ 29) (hi : i + 6 ≤ sc.2.1) (hl : sc.2.1 ≤ 3072) (k9 : ∀ n' h' c' b5 b6, LSt (T + 1000) h' x n' c' → mm_G sc y_Law_law 11 803 [some (.ref sc.1), some (.ref x), some (.ref (x + 6)), some (.ref (x + 25)), some (.int (nI i)), b5, b6] [] n' h' kc ks Q) : mm_G sc y_Law_law 11 739 [some (.ref sc.1), some (.ref x), some (.ref (x + 6)), some (.ref (x + 25)), some (.int (nI i)), a5, a6] [] n h (kc + 4) (ks + 104) Q := by
  obtain ⟨⟨pa, f0, H, B, ho⟩, I, A, HM, R⟩ := S
  refine mm_G.less (kc' := kc + 0) (ks' := ks + 0) ?_ (by omega) (by omega)
  have hv : (c_chosen c).1 = .inl (l_val (c_chosen c).1) := rfl
  refine mm_aload_n d_Law_law_739 rfl ?_
  refine mm_call (kc := kc) (ks := ks) d_Law_law_740 (mm_Inv.vi (as := []) d_Law_law_740 (Or.inl m_72) m_73 ce_SP_chosen.2.1 ce_SP_chosen.2.2.1 m_74 ce_SP_chosen.2.2.2.2.2 ln_SP_chosen cl_SP H.1 rfl) (J_SP_chosen H) (by decide) ce_SP_chosen.1 ce_SP_chosen.2.1 ce_SP_chosen.2.2.1 ce_SP_chosen.2.2.2.1 (Nat.le_of_ble_eq_true rfl) (fun w n1 h1 hq => ?_) (fun e n1 h1 hq => by have e0 := (LB.ofCI B hq).1; rw [hv] at e0; cases e0)
  obtain ⟨e0, hle, pa1, H1, B1, F1⟩ := LB.ofCI B hq
  rw [hv] at e0
  obtain rfl := Sum.inl.inj e0
  refine mm_G.cast (st' := .int (l_val (c_chosen c).1) :: []) rfl rfl rfl ?_
  have HM1 : MH h1 (x + 6) I A := MH_frame HM (fun i z1 z2 => F1 i z1 (by omega))
  have LA1 : LA h1 x n1 (c_chosen c).2 := ⟨pa1, f0, H1, B1, (F1 _ (by omega) (by omega)).trans ho⟩
  refine mm_aload_n d_Law_law_743 rfl ?_
  refine mx_callY (h0 := h1) d_Law_law_744 (mm_Inv.vi (as := []) d_Law_law_744 (Or.inl m_864) m_865 ce_Model_chosen.2.1 ce_Model_chosen.2.2.1 m_866 ce_Model_chosen.2.2.2.2.2 ln_Model_chosen cl_Model HM1.1 rfl) (J_Model_chosen HM1 R hT) (by decide) ce_Model_chosen.1 ce_Model_chosen.2.1 ce_Model_chosen.2.2.1 ce_Model_chosen.2.2.2.1 (Nat.le_of_ble_eq_true rfl) (fun _ _ => rfl) (fun k I A => MC_nr k I A) (fun w h2 I2 A2 HM2 F2 q => ?_)
  obtain ⟨z, rfl, hz, h0⟩ := MC_out q
  have S3 : LSt (T + 1000) h2 x n1 (c_chosen c).2 := ⟨LA_keep LA1 F2, I2, A2, HM2, q.1⟩
  refine mm_G.cast (st' := .int z :: .int (l_val (c_chosen c).1) :: []) rfl rfl rfl ?_
  exact mm_icmp_eq (tgt := 803) d_Law_law_747 (by decide) (fun _ => k9 _ _ _ _ _ S3) (fun z9 => absurd (hz _ hv).symm z9)
set_option maxRecDepth 100000 in
theorem law_take {sc : mm_Sc} {n : Nat} {h : mm_H} {x i T : Nat} {c : cS} {a5 a6 : Option Value} {kc ks : Nat} {Q : mm_O → Nat → mm_H → Prop} (S : LSt T h x n c) (hT : T + 1000 < 2 ^ 29) (hi : i + 6 ≤ sc.2.1) (hl : sc.2.1 ≤ 3072) (k9 : ∀ n' h' c' b5 b6, LSt (T + 1000) h' x n' c' → mm_G sc y_Law_law 11 803 [some (.ref sc.1), some (.ref x), some (.ref (x + 6)), some (.ref (x + 25)), some (.int (nI i)), b5, b6] [] n' h' kc ks Q) : mm_G sc y_Law_law 11 752 [some (.ref sc.1), some (.ref x), some (.ref (x + 6)), some (.ref (x + 25)), some (.int (nI i)), a5, a6] [] n h (kc + 4) (ks + 104) Q := by
  obtain ⟨⟨pa, f0, H, B, ho⟩, I, A, HM, R⟩ := S
  refine mm_G.less (kc' := kc + 0) (ks' := ks + 0) ?_ (by omega) (by omega)
  have hv : (c_take c).1 = .inl (l_val (c_take c).1) := rfl
  refine mm_aload_n d_Law_law_752 rfl ?_
  refine mm_call (kc := kc) (ks := ks) d_Law_law_753 (mm_Inv.vi (as := []) d_Law_law_753 (Or.inl m_84) m_85 ce_SP_take.2.1 ce_SP_take.2.2.1 m_86 ce_SP_take.2.2.2.2.2 ln_SP_take cl_SP H.1 rfl) (J_SP_take H) (by decide) ce_SP_take.1 ce_SP_take.2.1 ce_SP_take.2.2.1 ce_SP_take.2.2.2.1 (Nat.le_of_ble_eq_true rfl) (fun w n1 h1 hq => ?_) (fun e n1 h1 hq => by have e0 := (LB.ofCI B hq).1; rw [hv] at e0; cases e0)
  obtain ⟨e0, hle, pa1, H1, B1, F1⟩ := LB.ofCI B hq
  rw [hv] at e0
  obtain rfl := Sum.inl.inj e0
  refine mm_G.cast (st' := .int (l_val (c_take c).1) :: []) rfl rfl rfl ?_
  have HM1 : MH h1 (x + 6) I A := MH_frame HM (fun i z1 z2 => F1 i z1 (by omega))
  have LA1 : LA h1 x n1 (c_take c).2 := ⟨pa1, f0, H1, B1, (F1 _ (by omega) (by omega)).trans ho⟩
  refine mm_aload_n d_Law_law_756 rfl ?_
  refine mx_callY (h0 := h1) d_Law_law_757 (mm_Inv.vi (as := []) d_Law_law_757 (Or.inl m_872) m_873 ce_Model_take.2.1 ce_Model_take.2.2.1 m_874 ce_Model_take.2.2.2.2.2 ln_Model_take cl_Model HM1.1 rfl) (J_Model_take HM1 R hT) (by decide) ce_Model_take.1 ce_Model_take.2.1 ce_Model_take.2.2.1 ce_Model_take.2.2.2.1 (Nat.le_of_ble_eq_true rfl) (fun _ _ => rfl) (fun k I A => MC_nr k I A) (fun w h2 I2 A2 HM2 F2 q => ?_)
  obtain ⟨z, rfl, hz, h0⟩ := MC_out q
  have S3 : LSt (T + 1000) h2 x n1 (c_take c).2 := ⟨LA_keep LA1 F2, I2, A2, HM2, q.1⟩
  refine mm_G.cast (st' := .int z :: .int (l_val (c_take c).1) :: []) rfl rfl rfl ?_
  exact mm_icmp_eq (tgt := 803) d_Law_law_760 (by decide) (fun _ => k9 _ _ _ _ _ S3) (fun z9 => absurd (hz _ hv).symm z9)
set_option maxRecDepth 100000 in
theorem law_reset {sc : mm_Sc} {n : Nat} {h : mm_H} {x i T : Nat} {c : cS} {a5 a6 : Option Value} {kc ks : Nat} {Q : mm_O → Nat → mm_H → Prop} (S : LSt T h x n c) (hT : T + 1000 < 2 ^ 29) (hi : i + 6 ≤ sc.2.1) (hl : sc.2.1 ≤ 3072) (k9 : ∀ n' h' c' b5 b6, LSt (T + 1000) h' x n' c' → mm_G sc y_Law_law 11 803 [some (.ref sc.1), some (.ref x), some (.ref (x + 6)), some (.ref (x + 25)), some (.int (nI i)), b5, b6] [] n' h' kc ks Q) : mm_G sc y_Law_law 11 765 [some (.ref sc.1), some (.ref x), some (.ref (x + 6)), some (.ref (x + 25)), some (.int (nI i)), a5, a6] [] n h (kc + 4) (ks + 104) Q := by
  obtain ⟨⟨pa, f0, H, B, ho⟩, I, A, HM, R⟩ := S
  refine mm_G.less (kc' := kc + 0) (ks' := ks + 0) ?_ (by omega) (by omega)
  have hv : (c_resetN c).1 = .inl (l_val (c_resetN c).1) := rfl
  refine mm_aload_n d_Law_law_765 rfl ?_
  refine mm_call (kc := kc) (ks := ks) d_Law_law_766 (mm_Inv.vi (as := []) d_Law_law_766 (Or.inl m_92) m_93 ce_SP_reset.2.1 ce_SP_reset.2.2.1 m_94 ce_SP_reset.2.2.2.2.2 ln_SP_reset cl_SP H.1 rfl) (J_SP_reset H) (by decide) ce_SP_reset.1 ce_SP_reset.2.1 ce_SP_reset.2.2.1 ce_SP_reset.2.2.2.1 (Nat.le_of_ble_eq_true rfl) (fun w n1 h1 hq => ?_) (fun e n1 h1 hq => by have e0 := (LB.ofCI B hq).1; rw [hv] at e0; cases e0)
  obtain ⟨e0, hle, pa1, H1, B1, F1⟩ := LB.ofCI B hq
  rw [hv] at e0
  obtain rfl := Sum.inl.inj e0
  refine mm_G.cast (st' := .int (l_val (c_resetN c).1) :: []) rfl rfl rfl ?_
  have HM1 : MH h1 (x + 6) I A := MH_frame HM (fun i z1 z2 => F1 i z1 (by omega))
  have LA1 : LA h1 x n1 (c_resetN c).2 := ⟨pa1, f0, H1, B1, (F1 _ (by omega) (by omega)).trans ho⟩
  refine mm_aload_n d_Law_law_769 rfl ?_
  refine mx_callY (h0 := h1) d_Law_law_770 (mm_Inv.vi (as := []) d_Law_law_770 (Or.inl m_876) m_877 ce_Model_reset.2.1 ce_Model_reset.2.2.1 m_878 ce_Model_reset.2.2.2.2.2 ln_Model_reset cl_Model HM1.1 rfl) (J_Model_reset HM1 R hT) (by decide) ce_Model_reset.1 ce_Model_reset.2.1 ce_Model_reset.2.2.1 ce_Model_reset.2.2.2.1 (Nat.le_of_ble_eq_true rfl) (fun _ _ => rfl) (fun k I A => MC_nr k I A) (fun w h2 I2 A2 HM2 F2 q => ?_)
  obtain ⟨z, rfl, hz, h0⟩ := MC_out q
  have S3 : LSt (T + 1000) h2 x n1 (c_resetN c).2 := ⟨LA_keep LA1 F2, I2, A2, HM2, q.1⟩
  refine mm_G.cast (st' := .int z :: .int (l_val (c_resetN c).1) :: []) rfl rfl rfl ?_
  exact mm_icmp_eq (tgt := 803) d_Law_law_773 (by decide) (fun _ => k9 _ _ _ _ _ S3) (fun z9 => absurd (hz _ hv).symm z9)
set_option maxRecDepth 100000 in
theorem law_count {sc : mm_Sc} {n : Nat} {h : mm_H} {x i T : Nat} {c : cS} {a5 a6 : Option Value} {kc ks : Nat} {Q : mm_O → Nat → mm_H → Prop} (S : LSt T h x n c) (hT : T + 1000 < 2 ^ 29) (hi : i + 6 ≤ sc.2.1) (hl : sc.2.1 ≤ 3072) (k9 : ∀ n' h' c' b5 b6, LSt (T + 1000) h' x n' c' → mm_G sc y_Law_law 11 803 [some (.ref sc.1), some (.ref x), some (.ref (x + 6)), some (.ref (x + 25)), some (.int (nI i)), b5, b6] [] n' h' kc ks Q) : mm_G sc y_Law_law 11 778 [some (.ref sc.1), some (.ref x), some (.ref (x + 6)), some (.ref (x + 25)), some (.int (nI i)), a5, a6] [] n h (kc + 4) (ks + 104) Q := by
  obtain ⟨⟨pa, f0, H, B, ho⟩, I, A, HM, R⟩ := S
  refine mm_G.less (kc' := kc + 0) (ks' := ks + 0) ?_ (by omega) (by omega)
  have hv : (c_count (sc.2.2 (i + 1)) c).1 = .inl (l_val (c_count (sc.2.2 (i + 1)) c).1) := rfl
  refine mm_aload_n d_Law_law_778 rfl ?_
  refine law_arg (j := 1) rfl rfl d_Law_law_779 d_Law_law_780 d_Law_law_782 rfl d_Law_law_783 d_Law_law_784 (by omega) hl ?_
  refine mm_call (kc := kc) (ks := ks) d_Law_law_785 (mm_Inv.vi (as := [.int (sc.2.2 (i + 1))]) d_Law_law_785 (Or.inl m_121) m_122 ce_SP_count.2.1 ce_SP_count.2.2.1 m_123 ce_SP_count.2.2.2.2.2 ln_SP_count cl_SP H.1 rfl) (J_SP_count H) (by decide) ce_SP_count.1 ce_SP_count.2.1 ce_SP_count.2.2.1 ce_SP_count.2.2.2.1 (Nat.le_of_ble_eq_true rfl) (fun w n1 h1 hq => ?_) (fun e n1 h1 hq => by have e0 := (LB.ofCI B hq).1; rw [hv] at e0; cases e0)
  obtain ⟨e0, hle, pa1, H1, B1, F1⟩ := LB.ofCI B hq
  rw [hv] at e0
  obtain rfl := Sum.inl.inj e0
  refine mm_G.cast (st' := .int (l_val (c_count (sc.2.2 (i + 1)) c).1) :: []) rfl rfl rfl ?_
  have HM1 : MH h1 (x + 6) I A := MH_frame HM (fun i z1 z2 => F1 i z1 (by omega))
  have LA1 : LA h1 x n1 (c_count (sc.2.2 (i + 1)) c).2 := ⟨pa1, f0, H1, B1, (F1 _ (by omega) (by omega)).trans ho⟩
  refine mm_aload_n d_Law_law_788 rfl ?_
  refine law_arg (j := 1) rfl rfl d_Law_law_789 d_Law_law_790 d_Law_law_792 rfl d_Law_law_793 d_Law_law_794 (by omega) hl ?_
  refine mx_callY (h0 := h1) d_Law_law_795 (mm_Inv.vi (as := [.int (sc.2.2 (i + 1))]) d_Law_law_795 (Or.inl m_880) m_881 ce_Model_count.2.1 ce_Model_count.2.2.1 m_882 ce_Model_count.2.2.2.2.2 ln_Model_count cl_Model HM1.1 rfl) (K_Model_count HM1 R hT) (by decide) ce_Model_count.1 ce_Model_count.2.1 ce_Model_count.2.2.1 ce_Model_count.2.2.2.1 (Nat.le_of_ble_eq_true rfl) (fun _ _ => rfl) (fun k I A => MC_nr k I A) (fun w h2 I2 A2 HM2 F2 q => ?_)
  obtain ⟨z, rfl, hz, h0⟩ := MC_out q
  have S3 : LSt (T + 1000) h2 x n1 (c_count (sc.2.2 (i + 1)) c).2 := ⟨LA_keep LA1 F2, I2, A2, HM2, q.1⟩
  refine mm_G.cast (st' := .int z :: .int (l_val (c_count (sc.2.2 (i + 1)) c).1) :: []) rfl rfl rfl ?_
  exact mm_icmp_eq (tgt := 803) d_Law_law_798 (by decide) (fun _ => k9 _ _ _ _ _ S3) (fun z9 => absurd (hz _ hv).symm z9)
set_option maxRecDepth 100000 in
theorem law_loop {sc : mm_Sc} {x : Nat} {Q : mm_O → Nat → mm_H → Prop} (hl : sc.2.1 ≤ 3072) (hq : ∀ n h, Q (.inl (some (.int 1))) n h) : ∀ (m t i n : Nat) (h : mm_H) (c : cS) (a5 a6 : Option Value), t + m ≤ 512 → sc.2.1 < i + 6 * m + 6 → i ≤ 3078 → LSt (1000 * t) h x n c → mm_G sc y_Law_law 11 23 [some (.ref sc.1), some (.ref x), some (.ref (x + 6)), some (.ref (x + 25)), some (.int (nI i)), a5, a6] [] n h (4 * m) (104 * m) Q := by
  intro m
  induction m with
  | zero =>
    intro t i n h c a5 a6 ht hm hi S
    refine mm_iload d_Law_law_23 rfl ?_
    refine mm_aload_n d_Law_law_25 rfl ?_
    refine mm_slen d_Law_law_26 ?_
    refine mm_bipush (v := 6) d_Law_law_27 (by decide) ?_
    refine mm_isub d_Law_law_29 ?_
    exact mm_icmp_gt (tgt := 809) d_Law_law_30 (by decide) (fun _ => mm_iconst (v := 1) d_Law_law_809 (by decide) (mm_zreturn d_Law_law_810 rfl rfl (hq _ _))) (fun z => absurd ((law_end hl hi).mpr (by omega)) z)
  | succ m ih =>
    intro t i n h c a5 a6 ht hm hi S
    refine mm_iload d_Law_law_23 rfl ?_
    refine mm_aload_n d_Law_law_25 rfl ?_
    refine mm_slen d_Law_law_26 ?_
    refine mm_bipush (v := 6) d_Law_law_27 (by decide) ?_
    refine mm_isub d_Law_law_29 ?_
    refine mm_icmp_gt (tgt := 809) d_Law_law_30 (by decide) (fun _ => mm_iconst (v := 1) d_Law_law_809 (by decide) (mm_zreturn d_Law_law_810 rfl rfl (hq _ _))) (fun z => ?_)
    have hi6 : i + 6 ≤ sc.2.1 := by
      rcases Nat.lt_or_ge sc.2.1 (i + 6) with q | q
      · exact absurd ((law_end hl hi).mpr q) z
      · exact q
    refine mm_aload_n d_Law_law_33 rfl ?_
    refine mm_iload d_Law_law_34 rfl ?_
    refine mm_sld d_Law_law_36 (ls_in (by omega) hl) ?_
    refine mm_bipush (v := 15) d_Law_law_37 (by decide) ?_
    refine mm_iand d_Law_law_39 ?_
    have hT : 1000 * t + 1000 < 2 ^ 29 := by omega
    have k9 : ∀ n' h' c' b5 b6, LSt (1000 * t + 1000) h' x n' c' → mm_G sc y_Law_law 11 803 [some (.ref sc.1), some (.ref x), some (.ref (x + 6)), some (.ref (x + 25)), some (.int (nI i)), b5, b6] [] n' h' (4 * m) (104 * m) Q := by
      intro n' h' c' b5 b6 S'
      refine mm_iinc (v := nI (i + 6)) d_Law_law_803 rfl (nI_add i 6) (by decide) ?_
      refine mm_goto (tgt := 23) d_Law_law_806 (by decide) ?_
      exact ih (t + 1) (i + 6) n' h' c' b5 b6 (by omega) (by omega) (by omega) (S'.mono (by omega))
    refine mm_G.less (kc' := 4 * m + 4) (ks' := 104 * m + 104) ?_ (by omega) (by omega)
    obtain ⟨j, hj, e⟩ := pk_andE (sc.2.2 (nI i).toNatClampNeg) (m := 15) 4 (by decide)
    rw [e]
    clear e z
    match j, hj with
    | 0, _ => exact mm_tableIn (tgt := 108) d_Law_law_40 (by decide) (by decide) rfl (by decide) (law_part S hT hi6 hl k9)
    | 1, _ => exact mm_tableIn (tgt := 212) d_Law_law_40 (by decide) (by decide) rfl (by decide) (law_load S hT hi6 hl k9)
    | 2, _ => exact mm_tableIn (tgt := 280) d_Law_law_40 (by decide) (by decide) rfl (by decide) (law_read S hT hi6 hl k9)
    | 3, _ => exact mm_tableIn (tgt := 336) d_Law_law_40 (by decide) (by decide) rfl (by decide) (law_write S hT hi6 hl k9)
    | 4, _ => exact mm_tableIn (tgt := 404) d_Law_law_40 (by decide) (by decide) rfl (by decide) (law_step S hT hi6 hl k9)
    | 5, _ => exact mm_tableIn (tgt := 467) d_Law_law_40 (by decide) (by decide) rfl (by decide) (law_receive S hT hi6 hl k9)
    | 6, _ => exact mm_tableIn (tgt := 535) d_Law_law_40 (by decide) (by decide) rfl (by decide) (law_sent S hT hi6 hl k9)
    | 7, _ => exact mm_tableIn (tgt := 603) d_Law_law_40 (by decide) (by decide) rfl (by decide) (law_line S hT hi6 hl k9)
    | 8, _ => exact mm_tableIn (tgt := 683) d_Law_law_40 (by decide) (by decide) rfl (by decide) (law_asks S hT hi6 hl k9)
    | 9, _ => exact mm_tableIn (tgt := 739) d_Law_law_40 (by decide) (by decide) rfl (by decide) (law_chosen S hT hi6 hl k9)
    | 10, _ => exact mm_tableIn (tgt := 752) d_Law_law_40 (by decide) (by decide) rfl (by decide) (law_take S hT hi6 hl k9)
    | 11, _ => exact mm_tableIn (tgt := 765) d_Law_law_40 (by decide) (by decide) rfl (by decide) (law_reset S hT hi6 hl k9)
    | 12, _ => exact mm_tableIn (tgt := 778) d_Law_law_40 (by decide) (by decide) rfl (by decide) (law_count S hT hi6 hl k9)
    | 13, _ => exact mm_tableOut (tgt := 803) d_Law_law_40 (Or.inr (by decide)) (by decide) (mm_G.less (k9 _ _ _ _ _ (S.mono (by omega))) (by omega) (by omega))
    | 14, _ => exact mm_tableOut (tgt := 803) d_Law_law_40 (Or.inr (by decide)) (by decide) (mm_G.less (k9 _ _ _ _ _ (S.mono (by omega))) (by omega) (by omega))
    | 15, _ => exact mm_tableOut (tgt := 803) d_Law_law_40 (Or.inr (by decide)) (by decide) (mm_G.less (k9 _ _ _ _ _ (S.mono (by omega))) (by omega) (by omega))
    | j + 16, hj => exact absurd hj (by omega)
set_option maxRecDepth 100000 in
theorem law_start {sc : mm_Sc} {n : Nat} {Q : mm_O → Nat → mm_H → Prop} (hl : sc.2.1 ≤ 3072) (hq : ∀ n h, Q (.inl (some (.int 1))) n h) : mm_G sc y_Law_law 11 0 [some (.ref sc.1), none, none, none, none, none, none] [] n (fun _ => none) 2074 55825 Q := by
  refine mm_new (kc := 2073) (ks := 55819) (fs := [.null, .null, .null, .int 0, .int 0, .int 0]) d_Law_law_0 cl_SP ty_SP m_19 m_20 m_1 (fun j hj => match j, hj with | 0, _ => rfl | 1, _ => rfl | 2, _ => rfl | 3, _ => rfl | 4, _ => rfl | 5, _ => rfl | j + 6, hj => absurd hj (by omega)) ?_
  refine mm_hp (fun h1 e1 => ?_)
  have f1 : h1 n = some (.inr (0, [.null, .null, .null, .int 0, .int 0, .int 0])) := by rw [e1]; exact va_up_self _ _ _
  refine mm_dup d_Law_law_3 rfl ?_
  refine mm_call (kc := 2068) (ks := 55766) (kc' := 5) (ks' := 53) d_Law_law_4 (mm_Inv.sp (as := []) d_Law_law_4 (Or.inl m_21) m_22 ce_SP_init.2.1 rfl ce_SP_init.2.2.2.2.2 rfl ln_SP_init rfl) (J_SP_init (pa := fun _ => 0) f1) (by decide) ce_SP_init.1 ce_SP_init.2.1 ce_SP_init.2.2.1 ce_SP_init.2.2.2.1 (Nat.le_of_ble_eq_true rfl) (fun w n2 h2 hq2 => ?_) (fun e n2 h2 hq2 => by cases hq2.1)
  obtain ⟨e0, rfl, H2, F2⟩ := hq2
  obtain rfl := Sum.inl.inj e0
  refine mm_G.cast (st' := .ref n :: []) rfl rfl rfl ?_
  refine mm_astore_n d_Law_law_7 (by decide) ?_
  refine mm_new (kc := 2067) (ks := 55741) (fs := [.int 0, .int 0, .int 0, .int 0, .null, .null, .null, .null, .null, .null, .null, .null, .null, .null, .null, .null, .null, .null, .null, .null, .null, .null, .int 0, .int 0, .int 0]) d_Law_law_8 cl_Model ty_Model m_665 m_666 m_3 (fun j hj => match j, hj with | 0, _ => rfl | 1, _ => rfl | 2, _ => rfl | 3, _ => rfl | 4, _ => rfl | 5, _ => rfl | 6, _ => rfl | 7, _ => rfl | 8, _ => rfl | 9, _ => rfl | 10, _ => rfl | 11, _ => rfl | 12, _ => rfl | 13, _ => rfl | 14, _ => rfl | 15, _ => rfl | 16, _ => rfl | 17, _ => rfl | 18, _ => rfl | 19, _ => rfl | 20, _ => rfl | 21, _ => rfl | 22, _ => rfl | 23, _ => rfl | 24, _ => rfl | j + 25, hj => absurd hj (by omega)) ?_
  refine mm_hp (fun h3 e3 => ?_)
  have f3 : h3 (n + 6) = some (.inr (8, [.int 0, .int 0, .int 0, .int 0, .null, .null, .null, .null, .null, .null, .null, .null, .null, .null, .null, .null, .null, .null, .null, .null, .null, .null, .int 0, .int 0, .int 0])) := by rw [e3]; exact va_up_self _ _ _
  refine mm_dup d_Law_law_11 rfl ?_
  refine mm_call (kc := 2049) (ks := 53249) (kc' := 18) (ks' := 2492) d_Law_law_12 (mm_Inv.sp (as := []) d_Law_law_12 (Or.inl m_667) m_668 ce_Model_init.2.1 rfl ce_Model_init.2.2.2.2.2 rfl ln_Model_init rfl) (J_Model_init f3) (by decide) ce_Model_init.1 ce_Model_init.2.1 ce_Model_init.2.2.1 ce_Model_init.2.2.2.1 (Nat.le_of_ble_eq_true rfl) (fun w n4 h4 hq4 => ?_) (fun e n4 h4 hq4 => by cases hq4.1)
  obtain ⟨e0, rfl, H4, F4⟩ := hq4
  obtain rfl := Sum.inl.inj e0
  refine mm_G.cast (st' := .ref (n + 6) :: []) rfl rfl rfl ?_
  refine mm_astore_n d_Law_law_15 (by decide) ?_
  refine mm_iconst (v := 1) d_Law_law_16 (by decide) ?_
  refine mm_newa (t := 1) (N := 1) (a0 := (1, .inr (.inl (fun _ => 0)))) (kc := 2048) (ks := 53248) d_Law_law_17 (by decide) rfl m_884 (fun _ => rfl) (by decide) rfl (by decide) ?_
  refine mm_hp (fun h5 e5 => ?_)
  refine mm_astore_n d_Law_law_19 (by decide) ?_
  refine mm_iconst (v := nI 0) d_Law_law_20 (by decide) ?_
  refine mm_istore d_Law_law_21 (by decide) ?_
  have hcf : ∀ i, CF n (fun _ => 0) c_0 i → n ≤ i ∧ i < n + 6 := fun i hi => by
    rcases hi with z | ⟨j, z, -⟩
    · exact z
    · exact absurd z (Nat.not_lt_zero _)
  have H5 : CH h5 n (fun _ => 0) c_0 := CH_frame H2 (fun i hi => by
    have := hcf i hi
    rw [e5, va_up_ne _ _ (by omega), F4 i (Or.inl (by omega)), e3, va_up_ne _ _ (by omega)])
  have M5 : MH h5 (n + 6) (fun _ => 0) (fun _ _ => 0) := MH_frame H4 (fun i z1 z2 => by rw [e5, va_up_ne _ _ (by omega)])
  have O5 : LO h5 n (fun _ => 0) := by
    show h5 (n + 25) = _
    rw [e5]
    exact va_up_self _ _ _
  have S5 : LSt (1000 * 0) h5 n (n + 26) c_0 := ⟨⟨_, _, H5, ⟨Nat.le_refl _, fun i hi => absurd hi (Nat.not_lt_zero _)⟩, O5⟩, _, _, M5, MR_0 _ (fun _ => rfl)⟩
  exact law_loop (x := n) hl hq 512 0 0 (n + 26) h5 c_0 none none (by decide) (by omega) (by decide) S5
