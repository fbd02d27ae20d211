def isH (r : Nat) : Prop := r = 233 ∨ r = 239
def hmW (w : Nat → Option Nat) (r : Nat) : Option Nat := if r = 233 then w 7 else w 8
def swW (w : Nat → Option Nat) (r v : Nat) : Nat → Option Nat := va_up w (if r = 233 then 7 else 8) (some (19 + v))
/-- a set of cells as the class holds it: rows of bits -/
def HB (row : Nat → Int32) (S : Nat → Prop) : Prop := ∀ y, y < 12 → ∃ h, row y = nI h ∧ h < 4096 ∧ ∀ x, x < 12 → (h.testBit x = true ↔ S (12 * y + x))
def opS (N : Nat → Nat → Nat) (v : Nat) : Nat → Prop := fun c => c % 12 < N 0 0 ∧ c / 12 < N 0 1 ∧ N 3 v ≤ N 7 c
def opn (N : Nat → Nat → Nat) (v cy cx : Nat) : Nat → Prop := fun c => opS N v c ∧ (c / 12 < cy ∨ (c / 12 = cy ∧ c % 12 < cx))
def psh (dx : Int) (h : Nat) : Nat := if dx = 0 then h else if 0 < dx then h * 2 else h / 2
def PL (N : Nat → Nat → Nat) (S : Nat → Prop) : Prop := ∀ c, S c → c % 12 < N 0 0 ∧ c / 12 < N 0 1
section RCH2
variable {d : Nat} {k : am_k} {I I' : Nat → Nat → Int32} {J : Nat → Nat → Int64} {a b e f : Int32} {L : Nat} {w w' : Nat → Option Nat} {v p q n u x y z r t m l o s c i j h g : Nat} {N : Nat → Nat → Nat} {Z : Nat → Nat → Int32} {S T M : Nat → Prop} {dx dy : Int} {row row' : Nat → Int32}
theorem rc_s (hr : isH r) : shF L r = (104, 0) ∧ okO (gF L) 4 r = True ∧ shF L (r + 1) = (0, 12) ∧ shF L (r + 2) = (0, 12) ∧ shF L (r + 3) = (0, 12) ∧ shF L (r + 4) = (0, 12) ∧ shF L (r + 5) = (0, 12) := by
  rcases hr with rfl | rfl <;> exact ⟨rfl, eq_true ⟨rfl, by decide⟩, rfl, rfl, rfl, rfl, rfl⟩
theorem rc_r (hr : isH r) : rF w r 0 = some (r + 1) ∧ rF w r 1 = some (r + 2) ∧ rF w r 2 = some (r + 3) ∧ rF w r 3 = some (r + 4) ∧ rF w r 4 = some (r + 5) ∧ rF w r 5 = some 9 ∧ rF w r 6 = hmW w r := by
  rcases hr with rfl | rfl <;> exact ⟨rfl, rfl, rfl, rfl, rfl, rfl, rfl⟩
theorem rF_h (hr : isH r) : am_up (rF w) r 6 (some (19 + v)) = rF (swW w r v) := by
  have key : ∀ (q : Nat) (x : Option Nat) (b : Nat), (q = 7 ∧ b ≠ 233) ∨ (q = 8 ∧ b ≠ 239) → rF (va_up w q x) b = rF w b := by
    intro q x b hq
    funext j
    have e4 : va_up w q x 4 = w 4 := vu_n (by omega)
    have e5 : va_up w q x 5 = w 5 := vu_n (by omega)
    have e6 : va_up w q x 6 = w 6 := vu_n (by omega)
    unfold rF
    rw [e4, e5, e6]
    rcases hq with ⟨rfl, hb⟩ | ⟨rfl, hb⟩
    · have e8 : va_up w 7 x 8 = w 8 := vu_n (by omega)
      rw [e8]
      by_cases h18 : b = 18
      · subst h18
        by_cases h4 : j < 4
        · have ej : va_up w 7 x j = w j := vu_n (by omega)
          simp [h4, ej]
        · simp [h4]
      · simp [h18, hb]
    · have e7 : va_up w 8 x 7 = w 7 := vu_n (by omega)
      rw [e7]
      by_cases h18 : b = 18
      · subst h18
        by_cases h4 : j < 4
        · have ej : va_up w 8 x j = w j := vu_n (by omega)
          simp [h4, ej]
        · simp [h4]
      · simp [h18, hb]
  funext b
  by_cases e : b = r
  · subst e
    funext j
    by_cases ej : j = 6
    · subst ej
      rw [upS]
      rcases hr with rfl | rfl
      · show _ = swW w 233 v 7
        unfold swW; rw [if_pos rfl]; exact vu_s.symm
      · show _ = swW w 239 v 8
        unfold swW; rw [if_neg (by decide)]; exact vu_s.symm
    · rw [upI ej]
      rcases hr with rfl | rfl
      · show rRe (w 7) 233 j = rRe (swW w 233 v 7) 233 j
        unfold rRe
        rw [if_neg ej, if_neg ej]
      · show rRe (w 8) 239 j = rRe (swW w 239 v 8) 239 j
        unfold rRe
        rw [if_neg ej, if_neg ej]
  · rw [upR e]
    unfold swW
    rcases hr with rfl | rfl
    · rw [if_pos rfl]; exact (key 7 _ b (by omega)).symm
    · rw [if_neg (by decide)]; exact (key 8 _ b (by omega)).symm
theorem hmW_s (hr : isH r) : hmW (swW w r v) r = some (19 + v) := by
  unfold hmW swW
  rcases hr with rfl | rfl
  · rw [if_pos rfl, if_pos rfl]; exact vu_s
  · rw [if_neg (by decide), if_neg (by decide)]; exact vu_s
theorem orN (ha : p < 4294967296) (hb : q < 4294967296) : nI p ||| nI q = nI (p ||| q) := by
  apply Int32.toBitVec_inj.mp
  apply BitVec.eq_of_toNat_eq
  rw [Int32.toBitVec_or, BitVec.toNat_or, pk_tn (by omega), pk_tn (by omega), pk_tn]
  exact Nat.or_lt_two_pow (n := 32) ha hb
theorem andN (ha : p < 4294967296) (hb : q < 4294967296) : nI p &&& nI q = nI (p &&& q) := by
  apply Int32.toBitVec_inj.mp
  apply BitVec.eq_of_toNat_eq
  rw [Int32.toBitVec_and, BitVec.toNat_and, pk_tn (by omega), pk_tn (by omega), pk_tn]
  exact Nat.and_lt_two_pow (n := 32) p hb
theorem xnN (ha : p < 4294967296) (hb : q < 4294967296) : nI p &&& (nI (p &&& q) ^^^ -1) = nI (p ^^^ (p &&& q)) := by
  apply Int32.toBitVec_inj.mp
  have hpq : p &&& q < 2 ^ 32 := Nat.and_lt_two_pow (n := 32) p hb
  have hx : p ^^^ (p &&& q) < 2 ^ 32 := Nat.xor_lt_two_pow ha hpq
  have t1 : (nI p).toBitVec = BitVec.ofNat 32 p := rfl
  have t2 : (nI (p &&& q)).toBitVec = BitVec.ofNat 32 (p &&& q) := rfl
  have t3 : (nI (p ^^^ (p &&& q))).toBitVec = BitVec.ofNat 32 (p ^^^ (p &&& q)) := rfl
  have t4 : (-1 : Int32).toBitVec = BitVec.allOnes 32 := by decide
  rw [Int32.toBitVec_and, Int32.toBitVec_xor, t1, t2, t3, t4]
  apply BitVec.eq_of_getLsbD_eq
  intro i hi
  simp only [BitVec.getLsbD_and, BitVec.getLsbD_xor, BitVec.getLsbD_ofNat, BitVec.getLsbD_allOnes, Nat.testBit_xor, Nat.testBit_and, hi, decide_true, Bool.true_and]
  cases p.testBit i <;> cases q.testBit i <;> rfl
theorem shl1N (h : p < 2147483648) : nI p <<< ((1 : Int32) &&& nI 31) = nI (p * 2) := pk_shlN _ 1 (by decide) (by omega)
theorem shr1N (h : p < 2147483648) : nI p >>> ((1 : Int32) &&& nI 31) = nI (p / 2) := pk_shrN (by omega) _ 1 (by decide)
theorem pow12 (h : x < 12) : 2 ^ x < 4096 := by
  have q : ∀ x, x < 12 → 2 ^ x < 4096 := by decide
  exact q x h
theorem shlx (h : x < 12) : (1 : Int32) <<< (nI x &&& nI 31) = nI (2 ^ x) := by
  have := pk_shlN (n := 1) (nI x &&& nI 31) x (shl31 x (by omega)) (by rw [Nat.one_mul]; exact Nat.pow_lt_pow_right (by decide) (by omega))
  rw [Nat.one_mul] at this
  exact this
theorem c_pushed (h : p < 8192) (hd : dx = -1 ∨ dx = 0 ∨ dx = 1) : ac (d + 1) mX4_pushed [.int (nI p), .int (Int32.ofInt dx)] (gF L) I J (rF w) k = k (some (.int (nI (psh dx p)))) (gF L) I J (rF w) := by
  rw [e_X4_pushed]
  rcases hd with rfl | rfl | rfl
  · have e1 : ¬ Int32.ofInt (-1) = 0 := by decide
    have e2 : Int32.ofInt (-1) ≤ 0 := by decide
    simp (disch := omega) only [x_X4_pushed_0, x_X4_pushed_1, x_X4_pushed_4, x_X4_pushed_5, x_X4_pushed_6, x_X4_pushed_7, x_X4_pushed_10, x_X4_pushed_11, x_X4_pushed_12, x_X4_pushed_13, x_X4_pushed_16, x_X4_pushed_17, x_X4_pushed_18, x_X4_pushed_19, Bool.false_eq_true, am_cl_i, am_cl_r, am_cl_n, am_cl_l, am_cl_0, va_rf_s, va_rf_0, tl_s, tl_n, bi_0, bi_1, bi_z, true_and, and_true, false_and, and_false, true_implies, false_implies, implies_true, not_true_eq_false, not_false_eq_true, and_self, true_or, or_true, false_or, or_false, eq_self, Nat.reduceAdd, Nat.reduceMul, Nat.reduceSub, Nat.reduceDiv, Nat.reduceMod, Nat.reduceLeDiff, Nat.reduceEqDiff, Nat.reduceLT, ix0, ix1, in0, in1, gF_2, sh_8, ok_8, sh_9, ok_9, sh_10, sh_11, sh_12, sh_13, sh_14, sh_15, sh_16, sh_17, sh_18, sh_49, ok_49, sh_50, sh_51, sh_52, sh_53, sh_54, ok_54, sh_55, sh_56, sh_57, sh_58, sh_59, ok_59, sh_60, sh_61, sh_62, sh_63, sh_64, ok_64, sh_65, sh_66, sh_67, sh_68, sh_69, ok_69, sh_70, sh_71, sh_72, sh_73, sh_74, sh_75, sh_76, sh_77, sh_78, sh_109, ok_109, sh_110, sh_111, sh_112, sh_113, sh_114, ok_114, sh_115, sh_116, sh_117, sh_118, sh_119, ok_119, sh_120, sh_121, sh_122, sh_123, sh_124, ok_124, sh_125, sh_126, sh_127, sh_128, sh_129, ok_129, sh_130, sh_131, ok_131, sh_132, sh_133, sh_134, sh_135, sh_146, ok_146, sh_147, sh_148, sh_149, sh_150, sh_161, ok_161, sh_162, sh_163, sh_164, sh_165, sh_176, ok_176, sh_177, sh_178, sh_179, sh_180, sh_191, ok_191, sh_192, sh_193, sh_194, sh_195, sh_206, ok_206, sh_207, sh_208, sh_209, sh_210, sh_221, ok_221, sh_222, sh_223, ok_223, sh_224, sh_225, sh_226, sh_227, ok_227, sh_228, ok_228, sh_229, sh_230, sh_231, sh_232, sh_233, ok_233, sh_234, sh_235, sh_236, sh_237, sh_238, sh_239, ok_239, sh_240, sh_241, sh_242, sh_243, sh_244, sh_245, sh_246, ok_246, sh_247, sh_248, sh_249, ok_249, sh_250, sh_251, sh_252, sh_253, sh_254, sh_255, sh_256, sh_257, sh_258, sh_259, sh_260, sh_261, sh_262, sh_263, sh_264, sh_265, sh_266, sh_267, sh_268, sh_269, sh_270, sh_271, sh_272, sh_273, sh_274, sh_275, sh_276, sh_277, sh_278, sh_279, sh_1, sh_2, sh_3, sh_4, gv_s, gv_o, kv_s, kv_o, gr_s, gr_o, kr_s, kr_o, r_8_0, r_8_1, r_8_3, r_8_4, r_8_5, r_8_6, r_8_7, r_8_8, r_8_9, r_8_10, r_9_7, r_9_8, r_9_9, r_9_10, r_9_11, r_9_12, r_9_13, r_9_14, r_9_15, r_49_2, r_49_3, r_49_4, r_49_6, r_54_2, r_54_3, r_54_4, r_54_6, r_59_2, r_59_3, r_59_4, r_59_6, r_64_2, r_64_3, r_64_4, r_64_6, r_69_7, r_69_8, r_69_9, r_69_10, r_69_11, r_69_12, r_69_13, r_69_14, r_69_15, r_109_2, r_109_3, r_109_4, r_109_6, r_114_2, r_114_3, r_114_4, r_114_6, r_119_2, r_119_3, r_119_4, r_119_6, r_124_2, r_124_3, r_124_4, r_124_6, r_129_0, r_131_2, r_131_3, r_131_4, r_131_5, r_146_2, r_146_3, r_146_4, r_146_5, r_161_2, r_161_3, r_161_4, r_161_5, r_176_2, r_176_3, r_176_4, r_176_5, r_191_2, r_191_3, r_191_4, r_191_5, r_206_2, r_206_3, r_206_4, r_206_5, r_221_0, r_221_1, r_223_0, r_223_2, r_223_3, r_227_0, r_228_2, r_228_3, r_228_4, r_228_6, r_233_0, r_233_1, r_233_2, r_233_3, r_233_4, r_233_5, r_239_0, r_239_1, r_239_2, r_239_3, r_239_4, r_239_5, r_246_2, r_246_3, r_249_1, r_249_2, r_249_6, r_249_7, r_249_8, r_249_9, r_249_11, r_249_12, r_249_13, r_249_14, r_249_17, r_249_18, r_249_19, r_249_20, r_249_21, r_249_22, r_249_28, r_249_29, r_249_30, r_249_31, r_249_32, r_249_33, r_249_34, r_249_37, r_249_43, r_249_44, r_249_45, r_249_46, r_249_47, r_249_51, r_227_1, r_233_6, r_239_6, r_246_0, r_246_1, r_15, r_75, r_16, r_76, r_18, r_78, r_130, ltr2, ltr3, ltr4, ltr5, ltr6, ltr7, ltr8, ltr9, ltr10, ltr11, ltr12, ltr13, ltr14, ltr15, ltr16, ltr17, ltr20, ltr22, ltr23, ltr24, ltr25, ltr31, ltr32, ltr40, ltr41, ltr42, ltr43, ltr45, ltr47, ltr48, ltr50, ltr52, ltr57, ltr59, ltr60, ltr61, ltr62, ltr64, ltr65, ltr72, ltr77, ltr90, ltr91, ltr97, ltr99, ltr100, ltr122, ltr144, ltr216, ltr236, ltr240, ltr255, ltr256, ltr257, ltr258, ltr259, ltr260, ltr261, ltr262, ltr271, ltr272, ltr273, ltr288, ltr336, ltr380, ltr400, ltr1000, ltr1600, ltr9999, ltr10000, ixN, inN, ltN, leN, eqN, lt0N, le0N, eq0N, eq1N, addN, add1N, mulN, divN, remN, modS, rdN, inCN, inR0, inR1, inRN, inVN, upS, upA, upI, upR, rwS, rwA, i10, biT, biF, rd1, rd2, ofn8, e1, e2, shr1N]
    rfl
  · have e1 : Int32.ofInt 0 = 0 := by decide
    simp (disch := omega) only [x_X4_pushed_0, x_X4_pushed_1, x_X4_pushed_4, x_X4_pushed_5, x_X4_pushed_6, x_X4_pushed_7, x_X4_pushed_10, x_X4_pushed_11, x_X4_pushed_12, x_X4_pushed_13, x_X4_pushed_16, x_X4_pushed_17, x_X4_pushed_18, x_X4_pushed_19, Bool.false_eq_true, am_cl_i, am_cl_r, am_cl_n, am_cl_l, am_cl_0, va_rf_s, va_rf_0, tl_s, tl_n, bi_0, bi_1, bi_z, true_and, and_true, false_and, and_false, true_implies, false_implies, implies_true, not_true_eq_false, not_false_eq_true, and_self, true_or, or_true, false_or, or_false, eq_self, Nat.reduceAdd, Nat.reduceMul, Nat.reduceSub, Nat.reduceDiv, Nat.reduceMod, Nat.reduceLeDiff, Nat.reduceEqDiff, Nat.reduceLT, ix0, ix1, in0, in1, gF_2, sh_8, ok_8, sh_9, ok_9, sh_10, sh_11, sh_12, sh_13, sh_14, sh_15, sh_16, sh_17, sh_18, sh_49, ok_49, sh_50, sh_51, sh_52, sh_53, sh_54, ok_54, sh_55, sh_56, sh_57, sh_58, sh_59, ok_59, sh_60, sh_61, sh_62, sh_63, sh_64, ok_64, sh_65, sh_66, sh_67, sh_68, sh_69, ok_69, sh_70, sh_71, sh_72, sh_73, sh_74, sh_75, sh_76, sh_77, sh_78, sh_109, ok_109, sh_110, sh_111, sh_112, sh_113, sh_114, ok_114, sh_115, sh_116, sh_117, sh_118, sh_119, ok_119, sh_120, sh_121, sh_122, sh_123, sh_124, ok_124, sh_125, sh_126, sh_127, sh_128, sh_129, ok_129, sh_130, sh_131, ok_131, sh_132, sh_133, sh_134, sh_135, sh_146, ok_146, sh_147, sh_148, sh_149, sh_150, sh_161, ok_161, sh_162, sh_163, sh_164, sh_165, sh_176, ok_176, sh_177, sh_178, sh_179, sh_180, sh_191, ok_191, sh_192, sh_193, sh_194, sh_195, sh_206, ok_206, sh_207, sh_208, sh_209, sh_210, sh_221, ok_221, sh_222, sh_223, ok_223, sh_224, sh_225, sh_226, sh_227, ok_227, sh_228, ok_228, sh_229, sh_230, sh_231, sh_232, sh_233, ok_233, sh_234, sh_235, sh_236, sh_237, sh_238, sh_239, ok_239, sh_240, sh_241, sh_242, sh_243, sh_244, sh_245, sh_246, ok_246, sh_247, sh_248, sh_249, ok_249, sh_250, sh_251, sh_252, sh_253, sh_254, sh_255, sh_256, sh_257, sh_258, sh_259, sh_260, sh_261, sh_262, sh_263, sh_264, sh_265, sh_266, sh_267, sh_268, sh_269, sh_270, sh_271, sh_272, sh_273, sh_274, sh_275, sh_276, sh_277, sh_278, sh_279, sh_1, sh_2, sh_3, sh_4, gv_s, gv_o, kv_s, kv_o, gr_s, gr_o, kr_s, kr_o, r_8_0, r_8_1, r_8_3, r_8_4, r_8_5, r_8_6, r_8_7, r_8_8, r_8_9, r_8_10, r_9_7, r_9_8, r_9_9, r_9_10, r_9_11, r_9_12, r_9_13, r_9_14, r_9_15, r_49_2, r_49_3, r_49_4, r_49_6, r_54_2, r_54_3, r_54_4, r_54_6, r_59_2, r_59_3, r_59_4, r_59_6, r_64_2, r_64_3, r_64_4, r_64_6, r_69_7, r_69_8, r_69_9, r_69_10, r_69_11, r_69_12, r_69_13, r_69_14, r_69_15, r_109_2, r_109_3, r_109_4, r_109_6, r_114_2, r_114_3, r_114_4, r_114_6, r_119_2, r_119_3, r_119_4, r_119_6, r_124_2, r_124_3, r_124_4, r_124_6, r_129_0, r_131_2, r_131_3, r_131_4, r_131_5, r_146_2, r_146_3, r_146_4, r_146_5, r_161_2, r_161_3, r_161_4, r_161_5, r_176_2, r_176_3, r_176_4, r_176_5, r_191_2, r_191_3, r_191_4, r_191_5, r_206_2, r_206_3, r_206_4, r_206_5, r_221_0, r_221_1, r_223_0, r_223_2, r_223_3, r_227_0, r_228_2, r_228_3, r_228_4, r_228_6, r_233_0, r_233_1, r_233_2, r_233_3, r_233_4, r_233_5, r_239_0, r_239_1, r_239_2, r_239_3, r_239_4, r_239_5, r_246_2, r_246_3, r_249_1, r_249_2, r_249_6, r_249_7, r_249_8, r_249_9, r_249_11, r_249_12, r_249_13, r_249_14, r_249_17, r_249_18, r_249_19, r_249_20, r_249_21, r_249_22, r_249_28, r_249_29, r_249_30, r_249_31, r_249_32, r_249_33, r_249_34, r_249_37, r_249_43, r_249_44, r_249_45, r_249_46, r_249_47, r_249_51, r_227_1, r_233_6, r_239_6, r_246_0, r_246_1, r_15, r_75, r_16, r_76, r_18, r_78, r_130, ltr2, ltr3, ltr4, ltr5, ltr6, ltr7, ltr8, ltr9, ltr10, ltr11, ltr12, ltr13, ltr14, ltr15, ltr16, ltr17, ltr20, ltr22, ltr23, ltr24, ltr25, ltr31, ltr32, ltr40, ltr41, ltr42, ltr43, ltr45, ltr47, ltr48, ltr50, ltr52, ltr57, ltr59, ltr60, ltr61, ltr62, ltr64, ltr65, ltr72, ltr77, ltr90, ltr91, ltr97, ltr99, ltr100, ltr122, ltr144, ltr216, ltr236, ltr240, ltr255, ltr256, ltr257, ltr258, ltr259, ltr260, ltr261, ltr262, ltr271, ltr272, ltr273, ltr288, ltr336, ltr380, ltr400, ltr1000, ltr1600, ltr9999, ltr10000, ixN, inN, ltN, leN, eqN, lt0N, le0N, eq0N, eq1N, addN, add1N, mulN, divN, remN, modS, rdN, inCN, inR0, inR1, inRN, inVN, upS, upA, upI, upR, rwS, rwA, i10, biT, biF, rd1, rd2, ofn8, e1]
    rfl
  · have e1 : ¬ Int32.ofInt 1 = 0 := by decide
    have e2 : ¬ Int32.ofInt 1 ≤ 0 := by decide
    simp (disch := omega) only [x_X4_pushed_0, x_X4_pushed_1, x_X4_pushed_4, x_X4_pushed_5, x_X4_pushed_6, x_X4_pushed_7, x_X4_pushed_10, x_X4_pushed_11, x_X4_pushed_12, x_X4_pushed_13, x_X4_pushed_16, x_X4_pushed_17, x_X4_pushed_18, x_X4_pushed_19, Bool.false_eq_true, am_cl_i, am_cl_r, am_cl_n, am_cl_l, am_cl_0, va_rf_s, va_rf_0, tl_s, tl_n, bi_0, bi_1, bi_z, true_and, and_true, false_and, and_false, true_implies, false_implies, implies_true, not_true_eq_false, not_false_eq_true, and_self, true_or, or_true, false_or, or_false, eq_self, Nat.reduceAdd, Nat.reduceMul, Nat.reduceSub, Nat.reduceDiv, Nat.reduceMod, Nat.reduceLeDiff, Nat.reduceEqDiff, Nat.reduceLT, ix0, ix1, in0, in1, gF_2, sh_8, ok_8, sh_9, ok_9, sh_10, sh_11, sh_12, sh_13, sh_14, sh_15, sh_16, sh_17, sh_18, sh_49, ok_49, sh_50, sh_51, sh_52, sh_53, sh_54, ok_54, sh_55, sh_56, sh_57, sh_58, sh_59, ok_59, sh_60, sh_61, sh_62, sh_63, sh_64, ok_64, sh_65, sh_66, sh_67, sh_68, sh_69, ok_69, sh_70, sh_71, sh_72, sh_73, sh_74, sh_75, sh_76, sh_77, sh_78, sh_109, ok_109, sh_110, sh_111, sh_112, sh_113, sh_114, ok_114, sh_115, sh_116, sh_117, sh_118, sh_119, ok_119, sh_120, sh_121, sh_122, sh_123, sh_124, ok_124, sh_125, sh_126, sh_127, sh_128, sh_129, ok_129, sh_130, sh_131, ok_131, sh_132, sh_133, sh_134, sh_135, sh_146, ok_146, sh_147, sh_148, sh_149, sh_150, sh_161, ok_161, sh_162, sh_163, sh_164, sh_165, sh_176, ok_176, sh_177, sh_178, sh_179, sh_180, sh_191, ok_191, sh_192, sh_193, sh_194, sh_195, sh_206, ok_206, sh_207, sh_208, sh_209, sh_210, sh_221, ok_221, sh_222, sh_223, ok_223, sh_224, sh_225, sh_226, sh_227, ok_227, sh_228, ok_228, sh_229, sh_230, sh_231, sh_232, sh_233, ok_233, sh_234, sh_235, sh_236, sh_237, sh_238, sh_239, ok_239, sh_240, sh_241, sh_242, sh_243, sh_244, sh_245, sh_246, ok_246, sh_247, sh_248, sh_249, ok_249, sh_250, sh_251, sh_252, sh_253, sh_254, sh_255, sh_256, sh_257, sh_258, sh_259, sh_260, sh_261, sh_262, sh_263, sh_264, sh_265, sh_266, sh_267, sh_268, sh_269, sh_270, sh_271, sh_272, sh_273, sh_274, sh_275, sh_276, sh_277, sh_278, sh_279, sh_1, sh_2, sh_3, sh_4, gv_s, gv_o, kv_s, kv_o, gr_s, gr_o, kr_s, kr_o, r_8_0, r_8_1, r_8_3, r_8_4, r_8_5, r_8_6, r_8_7, r_8_8, r_8_9, r_8_10, r_9_7, r_9_8, r_9_9, r_9_10, r_9_11, r_9_12, r_9_13, r_9_14, r_9_15, r_49_2, r_49_3, r_49_4, r_49_6, r_54_2, r_54_3, r_54_4, r_54_6, r_59_2, r_59_3, r_59_4, r_59_6, r_64_2, r_64_3, r_64_4, r_64_6, r_69_7, r_69_8, r_69_9, r_69_10, r_69_11, r_69_12, r_69_13, r_69_14, r_69_15, r_109_2, r_109_3, r_109_4, r_109_6, r_114_2, r_114_3, r_114_4, r_114_6, r_119_2, r_119_3, r_119_4, r_119_6, r_124_2, r_124_3, r_124_4, r_124_6, r_129_0, r_131_2, r_131_3, r_131_4, r_131_5, r_146_2, r_146_3, r_146_4, r_146_5, r_161_2, r_161_3, r_161_4, r_161_5, r_176_2, r_176_3, r_176_4, r_176_5, r_191_2, r_191_3, r_191_4, r_191_5, r_206_2, r_206_3, r_206_4, r_206_5, r_221_0, r_221_1, r_223_0, r_223_2, r_223_3, r_227_0, r_228_2, r_228_3, r_228_4, r_228_6, r_233_0, r_233_1, r_233_2, r_233_3, r_233_4, r_233_5, r_239_0, r_239_1, r_239_2, r_239_3, r_239_4, r_239_5, r_246_2, r_246_3, r_249_1, r_249_2, r_249_6, r_249_7, r_249_8, r_249_9, r_249_11, r_249_12, r_249_13, r_249_14, r_249_17, r_249_18, r_249_19, r_249_20, r_249_21, r_249_22, r_249_28, r_249_29, r_249_30, r_249_31, r_249_32, r_249_33, r_249_34, r_249_37, r_249_43, r_249_44, r_249_45, r_249_46, r_249_47, r_249_51, r_227_1, r_233_6, r_239_6, r_246_0, r_246_1, r_15, r_75, r_16, r_76, r_18, r_78, r_130, ltr2, ltr3, ltr4, ltr5, ltr6, ltr7, ltr8, ltr9, ltr10, ltr11, ltr12, ltr13, ltr14, ltr15, ltr16, ltr17, ltr20, ltr22, ltr23, ltr24, ltr25, ltr31, ltr32, ltr40, ltr41, ltr42, ltr43, ltr45, ltr47, ltr48, ltr50, ltr52, ltr57, ltr59, ltr60, ltr61, ltr62, ltr64, ltr65, ltr72, ltr77, ltr90, ltr91, ltr97, ltr99, ltr100, ltr122, ltr144, ltr216, ltr236, ltr240, ltr255, ltr256, ltr257, ltr258, ltr259, ltr260, ltr261, ltr262, ltr271, ltr272, ltr273, ltr288, ltr336, ltr380, ltr400, ltr1000, ltr1600, ltr9999, ltr10000, ixN, inN, ltN, leN, eqN, lt0N, le0N, eq0N, eq1N, addN, add1N, mulN, divN, remN, modS, rdN, inCN, inR0, inR1, inRN, inVN, upS, upA, upI, upR, rwS, rwA, i10, biT, biF, rd1, rd2, ofn8, e1, e2, shl1N]
    rfl
theorem psh_t (hd : dx = -1 ∨ dx = 0 ∨ dx = 1) : (psh dx h).testBit x = true ↔ ∃ z : Nat, (z : Int) + dx = x ∧ h.testBit z = true := by
  rcases hd with rfl | rfl | rfl
  · have e : psh (-1) h = h / 2 := rfl
    rw [e, ← Nat.testBit_succ]
    constructor
    · exact fun q => ⟨x + 1, by omega, q⟩
    · rintro ⟨z, h1, h2⟩
      have : z = x + 1 := by omega
      subst this
      exact h2
  · have e : psh 0 h = h := rfl
    rw [e]
    constructor
    · exact fun q => ⟨x, by omega, q⟩
    · rintro ⟨z, h1, h2⟩
      have : z = x := by omega
      rw [← this]; exact h2
  · have e : psh 1 h = h * 2 := rfl
    rw [e]
    cases x with
    | zero =>
      constructor
      · intro q
        rw [Nat.testBit_zero, decide_eq_true_eq] at q
        omega
      · rintro ⟨z, h1, h2⟩
        omega
    | succ x =>
      rw [Nat.testBit_succ, Nat.mul_div_cancel h (by decide)]
      constructor
      · exact fun q => ⟨x, by omega, q⟩
      · rintro ⟨z, h1, h2⟩
        have : z = x := by omega
        rw [← this]; exact h2
theorem HB_c (h : HB row S) (he : ∀ y, y < 12 → row' y = row y) : HB row' S := by
  intro y hy
  rw [he y hy]
  exact h y hy
theorem HB_S (h : HB row S) (he : ∀ c, c < 144 → (S c ↔ T c)) : HB row T := by
  intro y hy
  obtain ⟨q, h1, h2, h3⟩ := h y hy
  exact ⟨q, h1, h2, fun x hx => (h3 x hx).trans (he _ (by omega))⟩
theorem bit_b (hp : p < 4096) (ht : p.testBit x = true) : x < 12 := by
  apply Classical.byContradiction
  intro hx
  have h1 := Nat.ge_two_pow_of_testBit ht
  have h2 : 2 ^ 12 ≤ 2 ^ x := Nat.pow_le_pow_right (by decide) (by omega)
  omega
theorem lt_bit (h : ∀ x, 12 ≤ x → p.testBit x = false) : p < 4096 := Nat.lt_pow_two_of_testBit p h
theorem l_beg2 (hr : isH r) (hR : RG I N Z) (hs : SW N) (hd : DW N Z) (hv : v < N 0 4) (hy : y < N 0 1) {l2 : Option Value} : ∀ m x I', x + m = N 0 0 → (∀ a, a ≠ r + 1 → a ≠ r + 2 → I' a = I a) → HB (I' (r + 1)) (opn N v y x) → (∀ I2, HB (I2 (r + 1)) (opn N v y (N 0 0)) → (∀ a, a ≠ r + 1 → I2 a = I' a) → aw (d + 2) mX4_begin k 93 [some (.ref r), some (.ref (19 + v)), l2, some (.int b), some (.int (nI y)), some (.int (nI (N 0 0)))] [] (gF L) I2 J (rF w) 0 0) → aw (d + 2) mX4_begin k 39 [some (.ref r), some (.ref (19 + v)), l2, some (.int b), some (.int (nI y)), some (.int (nI x))] [] (gF L) I' J (rF w) 0 0 := by
  obtain ⟨r0, rk, r1, r2, r3, r4, r5⟩ := rc_s (L := L) hr
  obtain ⟨q0, q1, q2, q3, q4, q5, q6⟩ := rc_r (w := w) hr
  have hr' := hr
  unfold isH at hr'
  have n7 : 7 ≤ r := by omega
  have n6 : 6 ≤ r := by omega
  obtain ⟨pW, pH, pT, pS, pL, pV, pR, pCr, pWl, pWy, pFo, pSh, pNo, pX, pY, pWe, pSa, pKi, pAn, pDg, pTh, pDr, pSp, pSk, pS0, pSx, pSy, pSt, pRa, pRb, pRl, pRt, pMe, pBa, pBt⟩ := hR
  obtain ⟨sW3, sW, sH3, sH, sL, sV, sR, sv, sh, sr, sw, ss, so⟩ := hs
  intro m
  induction m with
  | zero =>
    intro x I' hx fr hB hk
    have e : x = N 0 0 := by omega
    have w9 : I' 9 0 = nI (N 0 0) := by rw [fr 9 (by omega) (by omega)]; exact pW
    subst e
    rw [x_X4_begin_39]
    simp (disch := omega) only [x_X4_begin_0, x_X4_begin_1, x_X4_begin_1N, x_X4_begin_2, x_X4_begin_5, x_X4_begin_6, x_X4_begin_9, x_X4_begin_10, x_X4_begin_13, x_X4_begin_14, x_X4_begin_17, x_X4_begin_18, x_X4_begin_21, x_X4_begin_22, x_X4_begin_26, x_X4_begin_27, x_X4_begin_30, x_X4_begin_33, x_X4_begin_36, x_X4_begin_37, x_X4_begin_41, x_X4_begin_42, x_X4_begin_45, x_X4_begin_48, x_X4_begin_51, x_X4_begin_52, x_X4_begin_55, x_X4_begin_58, x_X4_begin_60, x_X4_begin_62, x_X4_begin_65, x_X4_begin_66, x_X4_begin_66N, x_X4_begin_67, x_X4_begin_70, x_X4_begin_73, x_X4_begin_74, x_X4_begin_77, x_X4_begin_79, x_X4_begin_80, x_X4_begin_81, x_X4_begin_82, x_X4_begin_84, x_X4_begin_85, x_X4_begin_86, x_X4_begin_87, x_X4_begin_90, x_X4_begin_96, x_X4_begin_99, x_X4_begin_100, x_X4_begin_103, x_X4_begin_104, x_X4_begin_105, x_X4_begin_108, x_X4_begin_111, x_X4_begin_112, x_X4_begin_115, x_X4_begin_116, x_X4_begin_117, x_X4_begin_118, x_X4_begin_119, x_X4_begin_120, Bool.false_eq_true, am_cl_i, am_cl_r, am_cl_n, am_cl_l, am_cl_0, va_rf_s, va_rf_0, tl_s, tl_n, bi_0, bi_1, bi_z, true_and, and_true, false_and, and_false, true_implies, false_implies, implies_true, not_true_eq_false, not_false_eq_true, and_self, true_or, or_true, false_or, or_false, eq_self, Nat.reduceAdd, Nat.reduceMul, Nat.reduceSub, Nat.reduceDiv, Nat.reduceMod, Nat.reduceLeDiff, Nat.reduceEqDiff, Nat.reduceLT, ix0, ix1, in0, in1, gF_2, sh_8, ok_8, sh_9, ok_9, sh_10, sh_11, sh_12, sh_13, sh_14, sh_15, sh_16, sh_17, sh_18, sh_49, ok_49, sh_50, sh_51, sh_52, sh_53, sh_54, ok_54, sh_55, sh_56, sh_57, sh_58, sh_59, ok_59, sh_60, sh_61, sh_62, sh_63, sh_64, ok_64, sh_65, sh_66, sh_67, sh_68, sh_69, ok_69, sh_70, sh_71, sh_72, sh_73, sh_74, sh_75, sh_76, sh_77, sh_78, sh_109, ok_109, sh_110, sh_111, sh_112, sh_113, sh_114, ok_114, sh_115, sh_116, sh_117, sh_118, sh_119, ok_119, sh_120, sh_121, sh_122, sh_123, sh_124, ok_124, sh_125, sh_126, sh_127, sh_128, sh_129, ok_129, sh_130, sh_131, ok_131, sh_132, sh_133, sh_134, sh_135, sh_146, ok_146, sh_147, sh_148, sh_149, sh_150, sh_161, ok_161, sh_162, sh_163, sh_164, sh_165, sh_176, ok_176, sh_177, sh_178, sh_179, sh_180, sh_191, ok_191, sh_192, sh_193, sh_194, sh_195, sh_206, ok_206, sh_207, sh_208, sh_209, sh_210, sh_221, ok_221, sh_222, sh_223, ok_223, sh_224, sh_225, sh_226, sh_227, ok_227, sh_228, ok_228, sh_229, sh_230, sh_231, sh_232, sh_233, ok_233, sh_234, sh_235, sh_236, sh_237, sh_238, sh_239, ok_239, sh_240, sh_241, sh_242, sh_243, sh_244, sh_245, sh_246, ok_246, sh_247, sh_248, sh_249, ok_249, sh_250, sh_251, sh_252, sh_253, sh_254, sh_255, sh_256, sh_257, sh_258, sh_259, sh_260, sh_261, sh_262, sh_263, sh_264, sh_265, sh_266, sh_267, sh_268, sh_269, sh_270, sh_271, sh_272, sh_273, sh_274, sh_275, sh_276, sh_277, sh_278, sh_279, sh_1, sh_2, sh_3, sh_4, gv_s, gv_o, kv_s, kv_o, gr_s, gr_o, kr_s, kr_o, r_8_0, r_8_1, r_8_3, r_8_4, r_8_5, r_8_6, r_8_7, r_8_8, r_8_9, r_8_10, r_9_7, r_9_8, r_9_9, r_9_10, r_9_11, r_9_12, r_9_13, r_9_14, r_9_15, r_49_2, r_49_3, r_49_4, r_49_6, r_54_2, r_54_3, r_54_4, r_54_6, r_59_2, r_59_3, r_59_4, r_59_6, r_64_2, r_64_3, r_64_4, r_64_6, r_69_7, r_69_8, r_69_9, r_69_10, r_69_11, r_69_12, r_69_13, r_69_14, r_69_15, r_109_2, r_109_3, r_109_4, r_109_6, r_114_2, r_114_3, r_114_4, r_114_6, r_119_2, r_119_3, r_119_4, r_119_6, r_124_2, r_124_3, r_124_4, r_124_6, r_129_0, r_131_2, r_131_3, r_131_4, r_131_5, r_146_2, r_146_3, r_146_4, r_146_5, r_161_2, r_161_3, r_161_4, r_161_5, r_176_2, r_176_3, r_176_4, r_176_5, r_191_2, r_191_3, r_191_4, r_191_5, r_206_2, r_206_3, r_206_4, r_206_5, r_221_0, r_221_1, r_223_0, r_223_2, r_223_3, r_227_0, r_228_2, r_228_3, r_228_4, r_228_6, r_233_0, r_233_1, r_233_2, r_233_3, r_233_4, r_233_5, r_239_0, r_239_1, r_239_2, r_239_3, r_239_4, r_239_5, r_246_2, r_246_3, r_249_1, r_249_2, r_249_6, r_249_7, r_249_8, r_249_9, r_249_11, r_249_12, r_249_13, r_249_14, r_249_17, r_249_18, r_249_19, r_249_20, r_249_21, r_249_22, r_249_28, r_249_29, r_249_30, r_249_31, r_249_32, r_249_33, r_249_34, r_249_37, r_249_43, r_249_44, r_249_45, r_249_46, r_249_47, r_249_51, r_227_1, r_233_6, r_239_6, r_246_0, r_246_1, r_15, r_75, r_16, r_76, r_18, r_78, r_130, ltr2, ltr3, ltr4, ltr5, ltr6, ltr7, ltr8, ltr9, ltr10, ltr11, ltr12, ltr13, ltr14, ltr15, ltr16, ltr17, ltr20, ltr22, ltr23, ltr24, ltr25, ltr31, ltr32, ltr40, ltr41, ltr42, ltr43, ltr45, ltr47, ltr48, ltr50, ltr52, ltr57, ltr59, ltr60, ltr61, ltr62, ltr64, ltr65, ltr72, ltr77, ltr90, ltr91, ltr97, ltr99, ltr100, ltr122, ltr144, ltr216, ltr236, ltr240, ltr255, ltr256, ltr257, ltr258, ltr259, ltr260, ltr261, ltr262, ltr271, ltr272, ltr273, ltr288, ltr336, ltr380, ltr400, ltr1000, ltr1600, ltr9999, ltr10000, ixN, inN, ltN, leN, eqN, lt0N, le0N, eq0N, eq1N, addN, add1N, mulN, divN, remN, modS, rdN, inCN, inR0, inR1, inRN, inVN, upS, upA, upI, upR, rwS, rwA, i10, biT, biF, rd1, rd2, ofn8, rk, q5, w9, Nat.le_refl]
    exact hk I' hB (fun _ _ => rfl)
  | succ m ih =>
    intro x I' hx fr hB hk
    have h1 : ¬ N 0 0 ≤ x := by omega
    have w9 : I' 9 0 = nI (N 0 0) := by rw [fr 9 (by omega) (by omega)]; exact pW
    have ec : y * 12 + x < 144 := by omega
    have c9 : I' 10 (y * 12 + x) = nI (N 7 (y * 12 + x)) := by rw [fr 10 (by omega) (by omega)]; exact pCr _ ec
    have v9 : I' (19 + v) 3 = nI (N 3 v) := by rw [fr _ (by omega) (by omega)]; exact pWe v hv
    have b1 := hd.2.1 _ ec
    have b2 := sv v (by omega)
    obtain ⟨p, g1, g2, g3⟩ := hB y (by omega)
    rw [x_X4_begin_39]
    by_cases g : N 7 (y * 12 + x) < N 3 v
    · simp (disch := omega) only [x_X4_begin_0, x_X4_begin_1, x_X4_begin_1N, x_X4_begin_2, x_X4_begin_5, x_X4_begin_6, x_X4_begin_9, x_X4_begin_10, x_X4_begin_13, x_X4_begin_14, x_X4_begin_17, x_X4_begin_18, x_X4_begin_21, x_X4_begin_22, x_X4_begin_26, x_X4_begin_27, x_X4_begin_30, x_X4_begin_33, x_X4_begin_36, x_X4_begin_37, x_X4_begin_41, x_X4_begin_42, x_X4_begin_45, x_X4_begin_48, x_X4_begin_51, x_X4_begin_52, x_X4_begin_55, x_X4_begin_58, x_X4_begin_60, x_X4_begin_62, x_X4_begin_65, x_X4_begin_66, x_X4_begin_66N, x_X4_begin_67, x_X4_begin_70, x_X4_begin_73, x_X4_begin_74, x_X4_begin_77, x_X4_begin_79, x_X4_begin_80, x_X4_begin_81, x_X4_begin_82, x_X4_begin_84, x_X4_begin_85, x_X4_begin_86, x_X4_begin_87, x_X4_begin_90, x_X4_begin_96, x_X4_begin_99, x_X4_begin_100, x_X4_begin_103, x_X4_begin_104, x_X4_begin_105, x_X4_begin_108, x_X4_begin_111, x_X4_begin_112, x_X4_begin_115, x_X4_begin_116, x_X4_begin_117, x_X4_begin_118, x_X4_begin_119, x_X4_begin_120, Bool.false_eq_true, am_cl_i, am_cl_r, am_cl_n, am_cl_l, am_cl_0, va_rf_s, va_rf_0, tl_s, tl_n, bi_0, bi_1, bi_z, true_and, and_true, false_and, and_false, true_implies, false_implies, implies_true, not_true_eq_false, not_false_eq_true, and_self, true_or, or_true, false_or, or_false, eq_self, Nat.reduceAdd, Nat.reduceMul, Nat.reduceSub, Nat.reduceDiv, Nat.reduceMod, Nat.reduceLeDiff, Nat.reduceEqDiff, Nat.reduceLT, ix0, ix1, in0, in1, gF_2, sh_8, ok_8, sh_9, ok_9, sh_10, sh_11, sh_12, sh_13, sh_14, sh_15, sh_16, sh_17, sh_18, sh_49, ok_49, sh_50, sh_51, sh_52, sh_53, sh_54, ok_54, sh_55, sh_56, sh_57, sh_58, sh_59, ok_59, sh_60, sh_61, sh_62, sh_63, sh_64, ok_64, sh_65, sh_66, sh_67, sh_68, sh_69, ok_69, sh_70, sh_71, sh_72, sh_73, sh_74, sh_75, sh_76, sh_77, sh_78, sh_109, ok_109, sh_110, sh_111, sh_112, sh_113, sh_114, ok_114, sh_115, sh_116, sh_117, sh_118, sh_119, ok_119, sh_120, sh_121, sh_122, sh_123, sh_124, ok_124, sh_125, sh_126, sh_127, sh_128, sh_129, ok_129, sh_130, sh_131, ok_131, sh_132, sh_133, sh_134, sh_135, sh_146, ok_146, sh_147, sh_148, sh_149, sh_150, sh_161, ok_161, sh_162, sh_163, sh_164, sh_165, sh_176, ok_176, sh_177, sh_178, sh_179, sh_180, sh_191, ok_191, sh_192, sh_193, sh_194, sh_195, sh_206, ok_206, sh_207, sh_208, sh_209, sh_210, sh_221, ok_221, sh_222, sh_223, ok_223, sh_224, sh_225, sh_226, sh_227, ok_227, sh_228, ok_228, sh_229, sh_230, sh_231, sh_232, sh_233, ok_233, sh_234, sh_235, sh_236, sh_237, sh_238, sh_239, ok_239, sh_240, sh_241, sh_242, sh_243, sh_244, sh_245, sh_246, ok_246, sh_247, sh_248, sh_249, ok_249, sh_250, sh_251, sh_252, sh_253, sh_254, sh_255, sh_256, sh_257, sh_258, sh_259, sh_260, sh_261, sh_262, sh_263, sh_264, sh_265, sh_266, sh_267, sh_268, sh_269, sh_270, sh_271, sh_272, sh_273, sh_274, sh_275, sh_276, sh_277, sh_278, sh_279, sh_1, sh_2, sh_3, sh_4, gv_s, gv_o, kv_s, kv_o, gr_s, gr_o, kr_s, kr_o, r_8_0, r_8_1, r_8_3, r_8_4, r_8_5, r_8_6, r_8_7, r_8_8, r_8_9, r_8_10, r_9_7, r_9_8, r_9_9, r_9_10, r_9_11, r_9_12, r_9_13, r_9_14, r_9_15, r_49_2, r_49_3, r_49_4, r_49_6, r_54_2, r_54_3, r_54_4, r_54_6, r_59_2, r_59_3, r_59_4, r_59_6, r_64_2, r_64_3, r_64_4, r_64_6, r_69_7, r_69_8, r_69_9, r_69_10, r_69_11, r_69_12, r_69_13, r_69_14, r_69_15, r_109_2, r_109_3, r_109_4, r_109_6, r_114_2, r_114_3, r_114_4, r_114_6, r_119_2, r_119_3, r_119_4, r_119_6, r_124_2, r_124_3, r_124_4, r_124_6, r_129_0, r_131_2, r_131_3, r_131_4, r_131_5, r_146_2, r_146_3, r_146_4, r_146_5, r_161_2, r_161_3, r_161_4, r_161_5, r_176_2, r_176_3, r_176_4, r_176_5, r_191_2, r_191_3, r_191_4, r_191_5, r_206_2, r_206_3, r_206_4, r_206_5, r_221_0, r_221_1, r_223_0, r_223_2, r_223_3, r_227_0, r_228_2, r_228_3, r_228_4, r_228_6, r_233_0, r_233_1, r_233_2, r_233_3, r_233_4, r_233_5, r_239_0, r_239_1, r_239_2, r_239_3, r_239_4, r_239_5, r_246_2, r_246_3, r_249_1, r_249_2, r_249_6, r_249_7, r_249_8, r_249_9, r_249_11, r_249_12, r_249_13, r_249_14, r_249_17, r_249_18, r_249_19, r_249_20, r_249_21, r_249_22, r_249_28, r_249_29, r_249_30, r_249_31, r_249_32, r_249_33, r_249_34, r_249_37, r_249_43, r_249_44, r_249_45, r_249_46, r_249_47, r_249_51, r_227_1, r_233_6, r_239_6, r_246_0, r_246_1, r_15, r_75, r_16, r_76, r_18, r_78, r_130, ltr2, ltr3, ltr4, ltr5, ltr6, ltr7, ltr8, ltr9, ltr10, ltr11, ltr12, ltr13, ltr14, ltr15, ltr16, ltr17, ltr20, ltr22, ltr23, ltr24, ltr25, ltr31, ltr32, ltr40, ltr41, ltr42, ltr43, ltr45, ltr47, ltr48, ltr50, ltr52, ltr57, ltr59, ltr60, ltr61, ltr62, ltr64, ltr65, ltr72, ltr77, ltr90, ltr91, ltr97, ltr99, ltr100, ltr122, ltr144, ltr216, ltr236, ltr240, ltr255, ltr256, ltr257, ltr258, ltr259, ltr260, ltr261, ltr262, ltr271, ltr272, ltr273, ltr288, ltr336, ltr380, ltr400, ltr1000, ltr1600, ltr9999, ltr10000, ixN, inN, ltN, leN, eqN, lt0N, le0N, eq0N, eq1N, addN, add1N, mulN, divN, remN, modS, rdN, inCN, inR0, inR1, inRN, inVN, upS, upA, upI, upR, rwS, rwA, i10, biT, biF, rd1, rd2, ofn8, rk, q5, w9, h1, c_cell, c9, v9, g]
      refine ih (x + 1) I' (by omega) fr (HB_S hB ?_) hk
      intro c hc
      unfold opn
      constructor
      · rintro ⟨z1, z2⟩; exact ⟨z1, by omega⟩
      · rintro ⟨z1, z2⟩
        refine ⟨z1, ?_⟩
        by_cases ee : c = y * 12 + x
        · subst ee; exact absurd z1.2.2 (by omega)
        · omega
    · simp (disch := omega) only [x_X4_begin_0, x_X4_begin_1, x_X4_begin_1N, x_X4_begin_2, x_X4_begin_5, x_X4_begin_6, x_X4_begin_9, x_X4_begin_10, x_X4_begin_13, x_X4_begin_14, x_X4_begin_17, x_X4_begin_18, x_X4_begin_21, x_X4_begin_22, x_X4_begin_26, x_X4_begin_27, x_X4_begin_30, x_X4_begin_33, x_X4_begin_36, x_X4_begin_37, x_X4_begin_41, x_X4_begin_42, x_X4_begin_45, x_X4_begin_48, x_X4_begin_51, x_X4_begin_52, x_X4_begin_55, x_X4_begin_58, x_X4_begin_60, x_X4_begin_62, x_X4_begin_65, x_X4_begin_66, x_X4_begin_66N, x_X4_begin_67, x_X4_begin_70, x_X4_begin_73, x_X4_begin_74, x_X4_begin_77, x_X4_begin_79, x_X4_begin_80, x_X4_begin_81, x_X4_begin_82, x_X4_begin_84, x_X4_begin_85, x_X4_begin_86, x_X4_begin_87, x_X4_begin_90, x_X4_begin_96, x_X4_begin_99, x_X4_begin_100, x_X4_begin_103, x_X4_begin_104, x_X4_begin_105, x_X4_begin_108, x_X4_begin_111, x_X4_begin_112, x_X4_begin_115, x_X4_begin_116, x_X4_begin_117, x_X4_begin_118, x_X4_begin_119, x_X4_begin_120, Bool.false_eq_true, am_cl_i, am_cl_r, am_cl_n, am_cl_l, am_cl_0, va_rf_s, va_rf_0, tl_s, tl_n, bi_0, bi_1, bi_z, true_and, and_true, false_and, and_false, true_implies, false_implies, implies_true, not_true_eq_false, not_false_eq_true, and_self, true_or, or_true, false_or, or_false, eq_self, Nat.reduceAdd, Nat.reduceMul, Nat.reduceSub, Nat.reduceDiv, Nat.reduceMod, Nat.reduceLeDiff, Nat.reduceEqDiff, Nat.reduceLT, ix0, ix1, in0, in1, gF_2, sh_8, ok_8, sh_9, ok_9, sh_10, sh_11, sh_12, sh_13, sh_14, sh_15, sh_16, sh_17, sh_18, sh_49, ok_49, sh_50, sh_51, sh_52, sh_53, sh_54, ok_54, sh_55, sh_56, sh_57, sh_58, sh_59, ok_59, sh_60, sh_61, sh_62, sh_63, sh_64, ok_64, sh_65, sh_66, sh_67, sh_68, sh_69, ok_69, sh_70, sh_71, sh_72, sh_73, sh_74, sh_75, sh_76, sh_77, sh_78, sh_109, ok_109, sh_110, sh_111, sh_112, sh_113, sh_114, ok_114, sh_115, sh_116, sh_117, sh_118, sh_119, ok_119, sh_120, sh_121, sh_122, sh_123, sh_124, ok_124, sh_125, sh_126, sh_127, sh_128, sh_129, ok_129, sh_130, sh_131, ok_131, sh_132, sh_133, sh_134, sh_135, sh_146, ok_146, sh_147, sh_148, sh_149, sh_150, sh_161, ok_161, sh_162, sh_163, sh_164, sh_165, sh_176, ok_176, sh_177, sh_178, sh_179, sh_180, sh_191, ok_191, sh_192, sh_193, sh_194, sh_195, sh_206, ok_206, sh_207, sh_208, sh_209, sh_210, sh_221, ok_221, sh_222, sh_223, ok_223, sh_224, sh_225, sh_226, sh_227, ok_227, sh_228, ok_228, sh_229, sh_230, sh_231, sh_232, sh_233, ok_233, sh_234, sh_235, sh_236, sh_237, sh_238, sh_239, ok_239, sh_240, sh_241, sh_242, sh_243, sh_244, sh_245, sh_246, ok_246, sh_247, sh_248, sh_249, ok_249, sh_250, sh_251, sh_252, sh_253, sh_254, sh_255, sh_256, sh_257, sh_258, sh_259, sh_260, sh_261, sh_262, sh_263, sh_264, sh_265, sh_266, sh_267, sh_268, sh_269, sh_270, sh_271, sh_272, sh_273, sh_274, sh_275, sh_276, sh_277, sh_278, sh_279, sh_1, sh_2, sh_3, sh_4, gv_s, gv_o, kv_s, kv_o, gr_s, gr_o, kr_s, kr_o, r_8_0, r_8_1, r_8_3, r_8_4, r_8_5, r_8_6, r_8_7, r_8_8, r_8_9, r_8_10, r_9_7, r_9_8, r_9_9, r_9_10, r_9_11, r_9_12, r_9_13, r_9_14, r_9_15, r_49_2, r_49_3, r_49_4, r_49_6, r_54_2, r_54_3, r_54_4, r_54_6, r_59_2, r_59_3, r_59_4, r_59_6, r_64_2, r_64_3, r_64_4, r_64_6, r_69_7, r_69_8, r_69_9, r_69_10, r_69_11, r_69_12, r_69_13, r_69_14, r_69_15, r_109_2, r_109_3, r_109_4, r_109_6, r_114_2, r_114_3, r_114_4, r_114_6, r_119_2, r_119_3, r_119_4, r_119_6, r_124_2, r_124_3, r_124_4, r_124_6, r_129_0, r_131_2, r_131_3, r_131_4, r_131_5, r_146_2, r_146_3, r_146_4, r_146_5, r_161_2, r_161_3, r_161_4, r_161_5, r_176_2, r_176_3, r_176_4, r_176_5, r_191_2, r_191_3, r_191_4, r_191_5, r_206_2, r_206_3, r_206_4, r_206_5, r_221_0, r_221_1, r_223_0, r_223_2, r_223_3, r_227_0, r_228_2, r_228_3, r_228_4, r_228_6, r_233_0, r_233_1, r_233_2, r_233_3, r_233_4, r_233_5, r_239_0, r_239_1, r_239_2, r_239_3, r_239_4, r_239_5, r_246_2, r_246_3, r_249_1, r_249_2, r_249_6, r_249_7, r_249_8, r_249_9, r_249_11, r_249_12, r_249_13, r_249_14, r_249_17, r_249_18, r_249_19, r_249_20, r_249_21, r_249_22, r_249_28, r_249_29, r_249_30, r_249_31, r_249_32, r_249_33, r_249_34, r_249_37, r_249_43, r_249_44, r_249_45, r_249_46, r_249_47, r_249_51, r_227_1, r_233_6, r_239_6, r_246_0, r_246_1, r_15, r_75, r_16, r_76, r_18, r_78, r_130, ltr2, ltr3, ltr4, ltr5, ltr6, ltr7, ltr8, ltr9, ltr10, ltr11, ltr12, ltr13, ltr14, ltr15, ltr16, ltr17, ltr20, ltr22, ltr23, ltr24, ltr25, ltr31, ltr32, ltr40, ltr41, ltr42, ltr43, ltr45, ltr47, ltr48, ltr50, ltr52, ltr57, ltr59, ltr60, ltr61, ltr62, ltr64, ltr65, ltr72, ltr77, ltr90, ltr91, ltr97, ltr99, ltr100, ltr122, ltr144, ltr216, ltr236, ltr240, ltr255, ltr256, ltr257, ltr258, ltr259, ltr260, ltr261, ltr262, ltr271, ltr272, ltr273, ltr288, ltr336, ltr380, ltr400, ltr1000, ltr1600, ltr9999, ltr10000, ixN, inN, ltN, leN, eqN, lt0N, le0N, eq0N, eq1N, addN, add1N, mulN, divN, remN, modS, rdN, inCN, inR0, inR1, inRN, inVN, upS, upA, upI, upR, rwS, rwA, i10, biT, biF, rd1, rd2, ofn8, rk, r1, q0, q5, w9, h1, c_cell, c9, v9, g, g1, shlx, n7]
      have h2x : 2 ^ x < 4096 := pow12 (by omega)
      rw [orN (by omega) (by omega)]
      refine ih (x + 1) _ (by omega) (fun a z1 z2 => by rw [upR z1]; exact fr a z1 z2) ?_ ?_
      · intro y' hy'
        by_cases ey : y' = y
        · subst ey
          refine ⟨p ||| 2 ^ x, upS, Nat.or_lt_two_pow (n := 12) g2 h2x, fun x' hx' => ?_⟩
          rw [Nat.testBit_or, Bool.or_eq_true, g3 x' hx', Nat.testBit_two_pow, decide_eq_true_eq]
          unfold opn opS
          constructor
          · rintro (⟨z1, z2⟩ | z)
            · exact ⟨z1, by omega⟩
            · subst z
              rw [show 12 * y' + x = y' * 12 + x by omega]
              exact ⟨⟨by omega, by omega, by omega⟩, by omega⟩
          · rintro ⟨z1, z2⟩
            by_cases ee : x = x'
            · exact Or.inr ee
            · exact Or.inl ⟨z1, by omega⟩
        · obtain ⟨p', f1, f2, f3⟩ := hB y' hy'
          refine ⟨p', by rw [upI ey]; exact f1, f2, fun x' hx' => (f3 x' hx').trans ?_⟩
          unfold opn
          constructor
          · rintro ⟨z1, z2⟩; exact ⟨z1, by omega⟩
          · rintro ⟨z1, z2⟩; exact ⟨z1, by omega⟩
      · intro I2 z1 z2
        exact hk I2 z1 (fun a ha => by rw [z2 a ha, upR ha])
theorem l_beg1 (hr : isH r) (hR : RG I N Z) (hs : SW N) (hd : DW N Z) (hv : v < N 0 4) {l2 : Option Value} : ∀ m y I' (l5 : Option Value), y + m = N 0 1 → (∀ a, a ≠ r + 1 → a ≠ r + 2 → I' a = I a) → HB (I' (r + 1)) (opn N v y 0) → (∀ I2 (l5 : Option Value), HB (I2 (r + 1)) (opS N v) → (∀ a, a ≠ r + 1 → I2 a = I' a) → aw (d + 2) mX4_begin k 99 [some (.ref r), some (.ref (19 + v)), l2, some (.int b), some (.int (nI (N 0 1))), l5] [] (gF L) I2 J (rF w) 0 0) → aw (d + 2) mX4_begin k 24 [some (.ref r), some (.ref (19 + v)), l2, some (.int b), some (.int (nI y)), l5] [] (gF L) I' J (rF w) 0 0 := by
  obtain ⟨r0, rk, r1, r2, r3, r4, r5⟩ := rc_s (L := L) hr
  obtain ⟨q0, q1, q2, q3, q4, q5, q6⟩ := rc_r (w := w) hr
  have hr' := hr
  unfold isH at hr'
  have n7 : 7 ≤ r := by omega
  have n6 : 6 ≤ r := by omega
  have pH := hR.2.1
  have hs2 := hs
  obtain ⟨sW3, sW, sH3, sH, sL, sV, sR, sv, sh, sr, sw, ss, so⟩ := hs
  intro m
  induction m with
  | zero =>
    intro y I' l5 hy fr hB hk
    have e : y = N 0 1 := by omega
    have w9 : I' 9 1 = nI (N 0 1) := by rw [fr 9 (by omega) (by omega)]; exact pH
    subst e
    rw [x_X4_begin_24]
    simp (disch := omega) only [x_X4_begin_0, x_X4_begin_1, x_X4_begin_1N, x_X4_begin_2, x_X4_begin_5, x_X4_begin_6, x_X4_begin_9, x_X4_begin_10, x_X4_begin_13, x_X4_begin_14, x_X4_begin_17, x_X4_begin_18, x_X4_begin_21, x_X4_begin_22, x_X4_begin_26, x_X4_begin_27, x_X4_begin_30, x_X4_begin_33, x_X4_begin_36, x_X4_begin_37, x_X4_begin_41, x_X4_begin_42, x_X4_begin_45, x_X4_begin_48, x_X4_begin_51, x_X4_begin_52, x_X4_begin_55, x_X4_begin_58, x_X4_begin_60, x_X4_begin_62, x_X4_begin_65, x_X4_begin_66, x_X4_begin_66N, x_X4_begin_67, x_X4_begin_70, x_X4_begin_73, x_X4_begin_74, x_X4_begin_77, x_X4_begin_79, x_X4_begin_80, x_X4_begin_81, x_X4_begin_82, x_X4_begin_84, x_X4_begin_85, x_X4_begin_86, x_X4_begin_87, x_X4_begin_90, x_X4_begin_96, x_X4_begin_100, x_X4_begin_103, x_X4_begin_104, x_X4_begin_105, x_X4_begin_108, x_X4_begin_111, x_X4_begin_112, x_X4_begin_115, x_X4_begin_116, x_X4_begin_117, x_X4_begin_118, x_X4_begin_119, x_X4_begin_120, Bool.false_eq_true, am_cl_i, am_cl_r, am_cl_n, am_cl_l, am_cl_0, va_rf_s, va_rf_0, tl_s, tl_n, bi_0, bi_1, bi_z, true_and, and_true, false_and, and_false, true_implies, false_implies, implies_true, not_true_eq_false, not_false_eq_true, and_self, true_or, or_true, false_or, or_false, eq_self, Nat.reduceAdd, Nat.reduceMul, Nat.reduceSub, Nat.reduceDiv, Nat.reduceMod, Nat.reduceLeDiff, Nat.reduceEqDiff, Nat.reduceLT, ix0, ix1, in0, in1, gF_2, sh_8, ok_8, sh_9, ok_9, sh_10, sh_11, sh_12, sh_13, sh_14, sh_15, sh_16, sh_17, sh_18, sh_49, ok_49, sh_50, sh_51, sh_52, sh_53, sh_54, ok_54, sh_55, sh_56, sh_57, sh_58, sh_59, ok_59, sh_60, sh_61, sh_62, sh_63, sh_64, ok_64, sh_65, sh_66, sh_67, sh_68, sh_69, ok_69, sh_70, sh_71, sh_72, sh_73, sh_74, sh_75, sh_76, sh_77, sh_78, sh_109, ok_109, sh_110, sh_111, sh_112, sh_113, sh_114, ok_114, sh_115, sh_116, sh_117, sh_118, sh_119, ok_119, sh_120, sh_121, sh_122, sh_123, sh_124, ok_124, sh_125, sh_126, sh_127, sh_128, sh_129, ok_129, sh_130, sh_131, ok_131, sh_132, sh_133, sh_134, sh_135, sh_146, ok_146, sh_147, sh_148, sh_149, sh_150, sh_161, ok_161, sh_162, sh_163, sh_164, sh_165, sh_176, ok_176, sh_177, sh_178, sh_179, sh_180, sh_191, ok_191, sh_192, sh_193, sh_194, sh_195, sh_206, ok_206, sh_207, sh_208, sh_209, sh_210, sh_221, ok_221, sh_222, sh_223, ok_223, sh_224, sh_225, sh_226, sh_227, ok_227, sh_228, ok_228, sh_229, sh_230, sh_231, sh_232, sh_233, ok_233, sh_234, sh_235, sh_236, sh_237, sh_238, sh_239, ok_239, sh_240, sh_241, sh_242, sh_243, sh_244, sh_245, sh_246, ok_246, sh_247, sh_248, sh_249, ok_249, sh_250, sh_251, sh_252, sh_253, sh_254, sh_255, sh_256, sh_257, sh_258, sh_259, sh_260, sh_261, sh_262, sh_263, sh_264, sh_265, sh_266, sh_267, sh_268, sh_269, sh_270, sh_271, sh_272, sh_273, sh_274, sh_275, sh_276, sh_277, sh_278, sh_279, sh_1, sh_2, sh_3, sh_4, gv_s, gv_o, kv_s, kv_o, gr_s, gr_o, kr_s, kr_o, r_8_0, r_8_1, r_8_3, r_8_4, r_8_5, r_8_6, r_8_7, r_8_8, r_8_9, r_8_10, r_9_7, r_9_8, r_9_9, r_9_10, r_9_11, r_9_12, r_9_13, r_9_14, r_9_15, r_49_2, r_49_3, r_49_4, r_49_6, r_54_2, r_54_3, r_54_4, r_54_6, r_59_2, r_59_3, r_59_4, r_59_6, r_64_2, r_64_3, r_64_4, r_64_6, r_69_7, r_69_8, r_69_9, r_69_10, r_69_11, r_69_12, r_69_13, r_69_14, r_69_15, r_109_2, r_109_3, r_109_4, r_109_6, r_114_2, r_114_3, r_114_4, r_114_6, r_119_2, r_119_3, r_119_4, r_119_6, r_124_2, r_124_3, r_124_4, r_124_6, r_129_0, r_131_2, r_131_3, r_131_4, r_131_5, r_146_2, r_146_3, r_146_4, r_146_5, r_161_2, r_161_3, r_161_4, r_161_5, r_176_2, r_176_3, r_176_4, r_176_5, r_191_2, r_191_3, r_191_4, r_191_5, r_206_2, r_206_3, r_206_4, r_206_5, r_221_0, r_221_1, r_223_0, r_223_2, r_223_3, r_227_0, r_228_2, r_228_3, r_228_4, r_228_6, r_233_0, r_233_1, r_233_2, r_233_3, r_233_4, r_233_5, r_239_0, r_239_1, r_239_2, r_239_3, r_239_4, r_239_5, r_246_2, r_246_3, r_249_1, r_249_2, r_249_6, r_249_7, r_249_8, r_249_9, r_249_11, r_249_12, r_249_13, r_249_14, r_249_17, r_249_18, r_249_19, r_249_20, r_249_21, r_249_22, r_249_28, r_249_29, r_249_30, r_249_31, r_249_32, r_249_33, r_249_34, r_249_37, r_249_43, r_249_44, r_249_45, r_249_46, r_249_47, r_249_51, r_227_1, r_233_6, r_239_6, r_246_0, r_246_1, r_15, r_75, r_16, r_76, r_18, r_78, r_130, ltr2, ltr3, ltr4, ltr5, ltr6, ltr7, ltr8, ltr9, ltr10, ltr11, ltr12, ltr13, ltr14, ltr15, ltr16, ltr17, ltr20, ltr22, ltr23, ltr24, ltr25, ltr31, ltr32, ltr40, ltr41, ltr42, ltr43, ltr45, ltr47, ltr48, ltr50, ltr52, ltr57, ltr59, ltr60, ltr61, ltr62, ltr64, ltr65, ltr72, ltr77, ltr90, ltr91, ltr97, ltr99, ltr100, ltr122, ltr144, ltr216, ltr236, ltr240, ltr255, ltr256, ltr257, ltr258, ltr259, ltr260, ltr261, ltr262, ltr271, ltr272, ltr273, ltr288, ltr336, ltr380, ltr400, ltr1000, ltr1600, ltr9999, ltr10000, ixN, inN, ltN, leN, eqN, lt0N, le0N, eq0N, eq1N, addN, add1N, mulN, divN, remN, modS, rdN, inCN, inR0, inR1, inRN, inVN, upS, upA, upI, upR, rwS, rwA, i10, biT, biF, rd1, rd2, ofn8, rk, q5, w9, Nat.le_refl]
    refine hk I' l5 (HB_S hB ?_) (fun _ _ => rfl)
    intro c hc
    unfold opn opS
    constructor
    · rintro ⟨z1, z2⟩; exact z1
    · intro z; exact ⟨z, by omega⟩
  | succ m ih =>
    intro y I' l5 hy fr hB hk
    have h1 : ¬ N 0 1 ≤ y := by omega
    have w9 : I' 9 1 = nI (N 0 1) := by rw [fr 9 (by omega) (by omega)]; exact pH
    rw [x_X4_begin_24]
    simp (disch := omega) only [x_X4_begin_0, x_X4_begin_1, x_X4_begin_1N, x_X4_begin_2, x_X4_begin_5, x_X4_begin_6, x_X4_begin_9, x_X4_begin_10, x_X4_begin_13, x_X4_begin_14, x_X4_begin_17, x_X4_begin_18, x_X4_begin_21, x_X4_begin_22, x_X4_begin_26, x_X4_begin_27, x_X4_begin_30, x_X4_begin_33, x_X4_begin_36, x_X4_begin_37, x_X4_begin_41, x_X4_begin_42, x_X4_begin_45, x_X4_begin_48, x_X4_begin_51, x_X4_begin_52, x_X4_begin_55, x_X4_begin_58, x_X4_begin_60, x_X4_begin_62, x_X4_begin_65, x_X4_begin_66, x_X4_begin_66N, x_X4_begin_67, x_X4_begin_70, x_X4_begin_73, x_X4_begin_74, x_X4_begin_77, x_X4_begin_79, x_X4_begin_80, x_X4_begin_81, x_X4_begin_82, x_X4_begin_84, x_X4_begin_85, x_X4_begin_86, x_X4_begin_87, x_X4_begin_90, x_X4_begin_96, x_X4_begin_100, x_X4_begin_103, x_X4_begin_104, x_X4_begin_105, x_X4_begin_108, x_X4_begin_111, x_X4_begin_112, x_X4_begin_115, x_X4_begin_116, x_X4_begin_117, x_X4_begin_118, x_X4_begin_119, x_X4_begin_120, Bool.false_eq_true, am_cl_i, am_cl_r, am_cl_n, am_cl_l, am_cl_0, va_rf_s, va_rf_0, tl_s, tl_n, bi_0, bi_1, bi_z, true_and, and_true, false_and, and_false, true_implies, false_implies, implies_true, not_true_eq_false, not_false_eq_true, and_self, true_or, or_true, false_or, or_false, eq_self, Nat.reduceAdd, Nat.reduceMul, Nat.reduceSub, Nat.reduceDiv, Nat.reduceMod, Nat.reduceLeDiff, Nat.reduceEqDiff, Nat.reduceLT, ix0, ix1, in0, in1, gF_2, sh_8, ok_8, sh_9, ok_9, sh_10, sh_11, sh_12, sh_13, sh_14, sh_15, sh_16, sh_17, sh_18, sh_49, ok_49, sh_50, sh_51, sh_52, sh_53, sh_54, ok_54, sh_55, sh_56, sh_57, sh_58, sh_59, ok_59, sh_60, sh_61, sh_62, sh_63, sh_64, ok_64, sh_65, sh_66, sh_67, sh_68, sh_69, ok_69, sh_70, sh_71, sh_72, sh_73, sh_74, sh_75, sh_76, sh_77, sh_78, sh_109, ok_109, sh_110, sh_111, sh_112, sh_113, sh_114, ok_114, sh_115, sh_116, sh_117, sh_118, sh_119, ok_119, sh_120, sh_121, sh_122, sh_123, sh_124, ok_124, sh_125, sh_126, sh_127, sh_128, sh_129, ok_129, sh_130, sh_131, ok_131, sh_132, sh_133, sh_134, sh_135, sh_146, ok_146, sh_147, sh_148, sh_149, sh_150, sh_161, ok_161, sh_162, sh_163, sh_164, sh_165, sh_176, ok_176, sh_177, sh_178, sh_179, sh_180, sh_191, ok_191, sh_192, sh_193, sh_194, sh_195, sh_206, ok_206, sh_207, sh_208, sh_209, sh_210, sh_221, ok_221, sh_222, sh_223, ok_223, sh_224, sh_225, sh_226, sh_227, ok_227, sh_228, ok_228, sh_229, sh_230, sh_231, sh_232, sh_233, ok_233, sh_234, sh_235, sh_236, sh_237, sh_238, sh_239, ok_239, sh_240, sh_241, sh_242, sh_243, sh_244, sh_245, sh_246, ok_246, sh_247, sh_248, sh_249, ok_249, sh_250, sh_251, sh_252, sh_253, sh_254, sh_255, sh_256, sh_257, sh_258, sh_259, sh_260, sh_261, sh_262, sh_263, sh_264, sh_265, sh_266, sh_267, sh_268, sh_269, sh_270, sh_271, sh_272, sh_273, sh_274, sh_275, sh_276, sh_277, sh_278, sh_279, sh_1, sh_2, sh_3, sh_4, gv_s, gv_o, kv_s, kv_o, gr_s, gr_o, kr_s, kr_o, r_8_0, r_8_1, r_8_3, r_8_4, r_8_5, r_8_6, r_8_7, r_8_8, r_8_9, r_8_10, r_9_7, r_9_8, r_9_9, r_9_10, r_9_11, r_9_12, r_9_13, r_9_14, r_9_15, r_49_2, r_49_3, r_49_4, r_49_6, r_54_2, r_54_3, r_54_4, r_54_6, r_59_2, r_59_3, r_59_4, r_59_6, r_64_2, r_64_3, r_64_4, r_64_6, r_69_7, r_69_8, r_69_9, r_69_10, r_69_11, r_69_12, r_69_13, r_69_14, r_69_15, r_109_2, r_109_3, r_109_4, r_109_6, r_114_2, r_114_3, r_114_4, r_114_6, r_119_2, r_119_3, r_119_4, r_119_6, r_124_2, r_124_3, r_124_4, r_124_6, r_129_0, r_131_2, r_131_3, r_131_4, r_131_5, r_146_2, r_146_3, r_146_4, r_146_5, r_161_2, r_161_3, r_161_4, r_161_5, r_176_2, r_176_3, r_176_4, r_176_5, r_191_2, r_191_3, r_191_4, r_191_5, r_206_2, r_206_3, r_206_4, r_206_5, r_221_0, r_221_1, r_223_0, r_223_2, r_223_3, r_227_0, r_228_2, r_228_3, r_228_4, r_228_6, r_233_0, r_233_1, r_233_2, r_233_3, r_233_4, r_233_5, r_239_0, r_239_1, r_239_2, r_239_3, r_239_4, r_239_5, r_246_2, r_246_3, r_249_1, r_249_2, r_249_6, r_249_7, r_249_8, r_249_9, r_249_11, r_249_12, r_249_13, r_249_14, r_249_17, r_249_18, r_249_19, r_249_20, r_249_21, r_249_22, r_249_28, r_249_29, r_249_30, r_249_31, r_249_32, r_249_33, r_249_34, r_249_37, r_249_43, r_249_44, r_249_45, r_249_46, r_249_47, r_249_51, r_227_1, r_233_6, r_239_6, r_246_0, r_246_1, r_15, r_75, r_16, r_76, r_18, r_78, r_130, ltr2, ltr3, ltr4, ltr5, ltr6, ltr7, ltr8, ltr9, ltr10, ltr11, ltr12, ltr13, ltr14, ltr15, ltr16, ltr17, ltr20, ltr22, ltr23, ltr24, ltr25, ltr31, ltr32, ltr40, ltr41, ltr42, ltr43, ltr45, ltr47, ltr48, ltr50, ltr52, ltr57, ltr59, ltr60, ltr61, ltr62, ltr64, ltr65, ltr72, ltr77, ltr90, ltr91, ltr97, ltr99, ltr100, ltr122, ltr144, ltr216, ltr236, ltr240, ltr255, ltr256, ltr257, ltr258, ltr259, ltr260, ltr261, ltr262, ltr271, ltr272, ltr273, ltr288, ltr336, ltr380, ltr400, ltr1000, ltr1600, ltr9999, ltr10000, ixN, inN, ltN, leN, eqN, lt0N, le0N, eq0N, eq1N, addN, add1N, mulN, divN, remN, modS, rdN, inCN, inR0, inR1, inRN, inVN, upS, upA, upI, upR, rwS, rwA, i10, biT, biF, rd1, rd2, ofn8, rk, q5, w9, h1]
    rw [← nI_0]
    refine l_beg2 hr hR hs2 hd hv (by omega) (N 0 0) 0 I' (by omega) fr hB ?_
    intro I2 z1 z2
    rw [x_X4_begin_93, x_X4_begin_96]
    simp only [am_cl_i, am_cl_l, add1N]
    refine ih (y + 1) I2 _ (by omega) (fun a y1 y2 => by rw [z2 a y1]; exact fr a y1 y2) (HB_S z1 ?_) (fun I3 l5 y1 y2 => hk I3 l5 y1 (fun a ha => by rw [y2 a ha, z2 a ha]))
    intro c hc
    unfold opn opS
    constructor
    · rintro ⟨y1, y2⟩; exact ⟨y1, by omega⟩
    · rintro ⟨y1, y2⟩; exact ⟨y1, by omega⟩
theorem c_begin (hr : isH r) (hR : RG I N Z) (hs : SW N) (hd : DW N Z) (hv : v < N 0 4) (hx : x < N 0 0) (hy : y < N 0 1) (hk : ∀ I', HB (I' (r + 1)) (opS N v) → HB (I' (r + 2)) (fun c => c = 12 * y + x) → (∀ a, a ≠ r + 1 → a ≠ r + 2 → I' a = I a) → k none (gF L) I' J (rF (swW w r v))) : ac (d + 3) mX4_begin [.ref r, .ref (19 + v), .int (nI x), .int (nI y)] (gF L) I J (rF w) k := by
  obtain ⟨r0, rk, r1, r2, r3, r4, r5⟩ := rc_s (L := L) hr
  obtain ⟨q0, q1, q2, q3, q4, q5, q6⟩ := rc_r (w := swW w r v) hr
  have hr' := hr
  unfold isH at hr'
  have n7 : 7 ≤ r := by omega
  have n6 : 6 ≤ r := by omega
  have hR2 := hR
  have hs2 := hs
  obtain ⟨pW, pH, pT, pS, pL, pV, pR, pCr, pWl, pWy, pFo, pSh, pNo, pX, pY, pWe, pSa, pKi, pAn, pDg, pTh, pDr, pSp, pSk, pS0, pSx, pSy, pSt, pRa, pRb, pRl, pRt, pMe, pBa, pBt⟩ := hR
  obtain ⟨sW3, sW, sH3, sH, sL, sV, sR, sv, sh, sr, sw, ss, so⟩ := hs
  rw [e_X4_begin]
  simp (disch := omega) only [x_X4_begin_0, x_X4_begin_1, x_X4_begin_1N, x_X4_begin_2, x_X4_begin_5, x_X4_begin_6, x_X4_begin_9, x_X4_begin_10, x_X4_begin_13, x_X4_begin_14, x_X4_begin_17, x_X4_begin_18, x_X4_begin_21, x_X4_begin_22, x_X4_begin_26, x_X4_begin_27, x_X4_begin_30, x_X4_begin_33, x_X4_begin_36, x_X4_begin_37, x_X4_begin_41, x_X4_begin_42, x_X4_begin_45, x_X4_begin_48, x_X4_begin_51, x_X4_begin_52, x_X4_begin_55, x_X4_begin_58, x_X4_begin_60, x_X4_begin_62, x_X4_begin_65, x_X4_begin_66, x_X4_begin_66N, x_X4_begin_67, x_X4_begin_70, x_X4_begin_73, x_X4_begin_74, x_X4_begin_77, x_X4_begin_79, x_X4_begin_80, x_X4_begin_81, x_X4_begin_82, x_X4_begin_84, x_X4_begin_85, x_X4_begin_86, x_X4_begin_87, x_X4_begin_90, x_X4_begin_96, x_X4_begin_100, x_X4_begin_103, x_X4_begin_104, x_X4_begin_105, x_X4_begin_108, x_X4_begin_111, x_X4_begin_112, x_X4_begin_115, x_X4_begin_116, x_X4_begin_117, x_X4_begin_118, x_X4_begin_119, x_X4_begin_120, Bool.false_eq_true, am_cl_i, am_cl_r, am_cl_n, am_cl_l, am_cl_0, va_rf_s, va_rf_0, tl_s, tl_n, bi_0, bi_1, bi_z, true_and, and_true, false_and, and_false, true_implies, false_implies, implies_true, not_true_eq_false, not_false_eq_true, and_self, true_or, or_true, false_or, or_false, eq_self, Nat.reduceAdd, Nat.reduceMul, Nat.reduceSub, Nat.reduceDiv, Nat.reduceMod, Nat.reduceLeDiff, Nat.reduceEqDiff, Nat.reduceLT, ix0, ix1, in0, in1, gF_2, sh_8, ok_8, sh_9, ok_9, sh_10, sh_11, sh_12, sh_13, sh_14, sh_15, sh_16, sh_17, sh_18, sh_49, ok_49, sh_50, sh_51, sh_52, sh_53, sh_54, ok_54, sh_55, sh_56, sh_57, sh_58, sh_59, ok_59, sh_60, sh_61, sh_62, sh_63, sh_64, ok_64, sh_65, sh_66, sh_67, sh_68, sh_69, ok_69, sh_70, sh_71, sh_72, sh_73, sh_74, sh_75, sh_76, sh_77, sh_78, sh_109, ok_109, sh_110, sh_111, sh_112, sh_113, sh_114, ok_114, sh_115, sh_116, sh_117, sh_118, sh_119, ok_119, sh_120, sh_121, sh_122, sh_123, sh_124, ok_124, sh_125, sh_126, sh_127, sh_128, sh_129, ok_129, sh_130, sh_131, ok_131, sh_132, sh_133, sh_134, sh_135, sh_146, ok_146, sh_147, sh_148, sh_149, sh_150, sh_161, ok_161, sh_162, sh_163, sh_164, sh_165, sh_176, ok_176, sh_177, sh_178, sh_179, sh_180, sh_191, ok_191, sh_192, sh_193, sh_194, sh_195, sh_206, ok_206, sh_207, sh_208, sh_209, sh_210, sh_221, ok_221, sh_222, sh_223, ok_223, sh_224, sh_225, sh_226, sh_227, ok_227, sh_228, ok_228, sh_229, sh_230, sh_231, sh_232, sh_233, ok_233, sh_234, sh_235, sh_236, sh_237, sh_238, sh_239, ok_239, sh_240, sh_241, sh_242, sh_243, sh_244, sh_245, sh_246, ok_246, sh_247, sh_248, sh_249, ok_249, sh_250, sh_251, sh_252, sh_253, sh_254, sh_255, sh_256, sh_257, sh_258, sh_259, sh_260, sh_261, sh_262, sh_263, sh_264, sh_265, sh_266, sh_267, sh_268, sh_269, sh_270, sh_271, sh_272, sh_273, sh_274, sh_275, sh_276, sh_277, sh_278, sh_279, sh_1, sh_2, sh_3, sh_4, gv_s, gv_o, kv_s, kv_o, gr_s, gr_o, kr_s, kr_o, r_8_0, r_8_1, r_8_3, r_8_4, r_8_5, r_8_6, r_8_7, r_8_8, r_8_9, r_8_10, r_9_7, r_9_8, r_9_9, r_9_10, r_9_11, r_9_12, r_9_13, r_9_14, r_9_15, r_49_2, r_49_3, r_49_4, r_49_6, r_54_2, r_54_3, r_54_4, r_54_6, r_59_2, r_59_3, r_59_4, r_59_6, r_64_2, r_64_3, r_64_4, r_64_6, r_69_7, r_69_8, r_69_9, r_69_10, r_69_11, r_69_12, r_69_13, r_69_14, r_69_15, r_109_2, r_109_3, r_109_4, r_109_6, r_114_2, r_114_3, r_114_4, r_114_6, r_119_2, r_119_3, r_119_4, r_119_6, r_124_2, r_124_3, r_124_4, r_124_6, r_129_0, r_131_2, r_131_3, r_131_4, r_131_5, r_146_2, r_146_3, r_146_4, r_146_5, r_161_2, r_161_3, r_161_4, r_161_5, r_176_2, r_176_3, r_176_4, r_176_5, r_191_2, r_191_3, r_191_4, r_191_5, r_206_2, r_206_3, r_206_4, r_206_5, r_221_0, r_221_1, r_223_0, r_223_2, r_223_3, r_227_0, r_228_2, r_228_3, r_228_4, r_228_6, r_233_0, r_233_1, r_233_2, r_233_3, r_233_4, r_233_5, r_239_0, r_239_1, r_239_2, r_239_3, r_239_4, r_239_5, r_246_2, r_246_3, r_249_1, r_249_2, r_249_6, r_249_7, r_249_8, r_249_9, r_249_11, r_249_12, r_249_13, r_249_14, r_249_17, r_249_18, r_249_19, r_249_20, r_249_21, r_249_22, r_249_28, r_249_29, r_249_30, r_249_31, r_249_32, r_249_33, r_249_34, r_249_37, r_249_43, r_249_44, r_249_45, r_249_46, r_249_47, r_249_51, r_227_1, r_233_6, r_239_6, r_246_0, r_246_1, r_15, r_75, r_16, r_76, r_18, r_78, r_130, ltr2, ltr3, ltr4, ltr5, ltr6, ltr7, ltr8, ltr9, ltr10, ltr11, ltr12, ltr13, ltr14, ltr15, ltr16, ltr17, ltr20, ltr22, ltr23, ltr24, ltr25, ltr31, ltr32, ltr40, ltr41, ltr42, ltr43, ltr45, ltr47, ltr48, ltr50, ltr52, ltr57, ltr59, ltr60, ltr61, ltr62, ltr64, ltr65, ltr72, ltr77, ltr90, ltr91, ltr97, ltr99, ltr100, ltr122, ltr144, ltr216, ltr236, ltr240, ltr255, ltr256, ltr257, ltr258, ltr259, ltr260, ltr261, ltr262, ltr271, ltr272, ltr273, ltr288, ltr336, ltr380, ltr400, ltr1000, ltr1600, ltr9999, ltr10000, ixN, inN, ltN, leN, eqN, lt0N, le0N, eq0N, eq1N, addN, add1N, mulN, divN, remN, modS, rdN, inCN, inR0, inR1, inRN, inVN, upS, upA, upI, upR, rwS, rwA, i10, biT, biF, rd1, rd2, ofn8, rk, rF_h hr, q0, q1, c_fill r1, c_fill r2]
  rw [← nI_0]
  refine l_beg1 hr hR2 hs2 hd hv (N 0 1) 0 _ _ (by omega) (fun a z1 z2 => by rw [fl_o z2, fl_o z1]) ?_ ?_
  · intro y' hy'
    refine ⟨0, ?_, by omega, fun x' hx' => ?_⟩
    · rw [fl_o (by omega), fl_s hy']
    · rw [Nat.zero_testBit]
      unfold opn
      constructor
      · intro z; cases z
      · rintro ⟨z1, z2⟩; omega
  · intro I2 l5 z1 z2
    have fr : ∀ a, a ≠ r + 1 → a ≠ r + 2 → I2 a = I a := fun a y1 y2 => by rw [z2 a y1, fl_o y2, fl_o y1]
    have w0 : I2 9 0 = nI (N 0 0) := by rw [fr 9 (by omega) (by omega)]; exact pW
    have w1 : I2 9 1 = nI (N 0 1) := by rw [fr 9 (by omega) (by omega)]; exact pH
    have h2r : ∀ y', y' < 12 → I2 (r + 2) y' = 0 := fun y' hy' => by rw [z2 (r + 2) (by omega), fl_s hy', ← nI_0]
    simp (disch := omega) only [x_X4_begin_0, x_X4_begin_1, x_X4_begin_1N, x_X4_begin_2, x_X4_begin_5, x_X4_begin_6, x_X4_begin_9, x_X4_begin_10, x_X4_begin_13, x_X4_begin_14, x_X4_begin_17, x_X4_begin_18, x_X4_begin_21, x_X4_begin_22, x_X4_begin_26, x_X4_begin_27, x_X4_begin_30, x_X4_begin_33, x_X4_begin_36, x_X4_begin_37, x_X4_begin_41, x_X4_begin_42, x_X4_begin_45, x_X4_begin_48, x_X4_begin_51, x_X4_begin_52, x_X4_begin_55, x_X4_begin_58, x_X4_begin_60, x_X4_begin_62, x_X4_begin_65, x_X4_begin_66, x_X4_begin_66N, x_X4_begin_67, x_X4_begin_70, x_X4_begin_73, x_X4_begin_74, x_X4_begin_77, x_X4_begin_79, x_X4_begin_80, x_X4_begin_81, x_X4_begin_82, x_X4_begin_84, x_X4_begin_85, x_X4_begin_86, x_X4_begin_87, x_X4_begin_90, x_X4_begin_96, x_X4_begin_99, x_X4_begin_100, x_X4_begin_103, x_X4_begin_104, x_X4_begin_105, x_X4_begin_108, x_X4_begin_111, x_X4_begin_112, x_X4_begin_115, x_X4_begin_116, x_X4_begin_117, x_X4_begin_118, x_X4_begin_119, x_X4_begin_120, Bool.false_eq_true, am_cl_i, am_cl_r, am_cl_n, am_cl_l, am_cl_0, va_rf_s, va_rf_0, tl_s, tl_n, bi_0, bi_1, bi_z, true_and, and_true, false_and, and_false, true_implies, false_implies, implies_true, not_true_eq_false, not_false_eq_true, and_self, true_or, or_true, false_or, or_false, eq_self, Nat.reduceAdd, Nat.reduceMul, Nat.reduceSub, Nat.reduceDiv, Nat.reduceMod, Nat.reduceLeDiff, Nat.reduceEqDiff, Nat.reduceLT, ix0, ix1, in0, in1, gF_2, sh_8, ok_8, sh_9, ok_9, sh_10, sh_11, sh_12, sh_13, sh_14, sh_15, sh_16, sh_17, sh_18, sh_49, ok_49, sh_50, sh_51, sh_52, sh_53, sh_54, ok_54, sh_55, sh_56, sh_57, sh_58, sh_59, ok_59, sh_60, sh_61, sh_62, sh_63, sh_64, ok_64, sh_65, sh_66, sh_67, sh_68, sh_69, ok_69, sh_70, sh_71, sh_72, sh_73, sh_74, sh_75, sh_76, sh_77, sh_78, sh_109, ok_109, sh_110, sh_111, sh_112, sh_113, sh_114, ok_114, sh_115, sh_116, sh_117, sh_118, sh_119, ok_119, sh_120, sh_121, sh_122, sh_123, sh_124, ok_124, sh_125, sh_126, sh_127, sh_128, sh_129, ok_129, sh_130, sh_131, ok_131, sh_132, sh_133, sh_134, sh_135, sh_146, ok_146, sh_147, sh_148, sh_149, sh_150, sh_161, ok_161, sh_162, sh_163, sh_164, sh_165, sh_176, ok_176, sh_177, sh_178, sh_179, sh_180, sh_191, ok_191, sh_192, sh_193, sh_194, sh_195, sh_206, ok_206, sh_207, sh_208, sh_209, sh_210, sh_221, ok_221, sh_222, sh_223, ok_223, sh_224, sh_225, sh_226, sh_227, ok_227, sh_228, ok_228, sh_229, sh_230, sh_231, sh_232, sh_233, ok_233, sh_234, sh_235, sh_236, sh_237, sh_238, sh_239, ok_239, sh_240, sh_241, sh_242, sh_243, sh_244, sh_245, sh_246, ok_246, sh_247, sh_248, sh_249, ok_249, sh_250, sh_251, sh_252, sh_253, sh_254, sh_255, sh_256, sh_257, sh_258, sh_259, sh_260, sh_261, sh_262, sh_263, sh_264, sh_265, sh_266, sh_267, sh_268, sh_269, sh_270, sh_271, sh_272, sh_273, sh_274, sh_275, sh_276, sh_277, sh_278, sh_279, sh_1, sh_2, sh_3, sh_4, gv_s, gv_o, kv_s, kv_o, gr_s, gr_o, kr_s, kr_o, r_8_0, r_8_1, r_8_3, r_8_4, r_8_5, r_8_6, r_8_7, r_8_8, r_8_9, r_8_10, r_9_7, r_9_8, r_9_9, r_9_10, r_9_11, r_9_12, r_9_13, r_9_14, r_9_15, r_49_2, r_49_3, r_49_4, r_49_6, r_54_2, r_54_3, r_54_4, r_54_6, r_59_2, r_59_3, r_59_4, r_59_6, r_64_2, r_64_3, r_64_4, r_64_6, r_69_7, r_69_8, r_69_9, r_69_10, r_69_11, r_69_12, r_69_13, r_69_14, r_69_15, r_109_2, r_109_3, r_109_4, r_109_6, r_114_2, r_114_3, r_114_4, r_114_6, r_119_2, r_119_3, r_119_4, r_119_6, r_124_2, r_124_3, r_124_4, r_124_6, r_129_0, r_131_2, r_131_3, r_131_4, r_131_5, r_146_2, r_146_3, r_146_4, r_146_5, r_161_2, r_161_3, r_161_4, r_161_5, r_176_2, r_176_3, r_176_4, r_176_5, r_191_2, r_191_3, r_191_4, r_191_5, r_206_2, r_206_3, r_206_4, r_206_5, r_221_0, r_221_1, r_223_0, r_223_2, r_223_3, r_227_0, r_228_2, r_228_3, r_228_4, r_228_6, r_233_0, r_233_1, r_233_2, r_233_3, r_233_4, r_233_5, r_239_0, r_239_1, r_239_2, r_239_3, r_239_4, r_239_5, r_246_2, r_246_3, r_249_1, r_249_2, r_249_6, r_249_7, r_249_8, r_249_9, r_249_11, r_249_12, r_249_13, r_249_14, r_249_17, r_249_18, r_249_19, r_249_20, r_249_21, r_249_22, r_249_28, r_249_29, r_249_30, r_249_31, r_249_32, r_249_33, r_249_34, r_249_37, r_249_43, r_249_44, r_249_45, r_249_46, r_249_47, r_249_51, r_227_1, r_233_6, r_239_6, r_246_0, r_246_1, r_15, r_75, r_16, r_76, r_18, r_78, r_130, ltr2, ltr3, ltr4, ltr5, ltr6, ltr7, ltr8, ltr9, ltr10, ltr11, ltr12, ltr13, ltr14, ltr15, ltr16, ltr17, ltr20, ltr22, ltr23, ltr24, ltr25, ltr31, ltr32, ltr40, ltr41, ltr42, ltr43, ltr45, ltr47, ltr48, ltr50, ltr52, ltr57, ltr59, ltr60, ltr61, ltr62, ltr64, ltr65, ltr72, ltr77, ltr90, ltr91, ltr97, ltr99, ltr100, ltr122, ltr144, ltr216, ltr236, ltr240, ltr255, ltr256, ltr257, ltr258, ltr259, ltr260, ltr261, ltr262, ltr271, ltr272, ltr273, ltr288, ltr336, ltr380, ltr400, ltr1000, ltr1600, ltr9999, ltr10000, ixN, inN, ltN, leN, eqN, lt0N, le0N, eq0N, eq1N, addN, add1N, mulN, divN, remN, modS, rdN, inCN, inR0, inR1, inRN, inVN, upS, upA, upI, upR, rwS, rwA, i10, biT, biF, rd1, rd2, ofn8, rk, q1, q5, r2, c_has w0 w1 (by omega) sW (by omega) sH, hx, hy, shlx, n6]
    refine hk _ ?_ ?_ ?_
    rotate_left
    rotate_left
    · intro a y1 y2; rw [upR y2]; exact fr a y1 y2
    · rw [upR (by omega)]; exact z1
    · intro y' hy'
      by_cases ey : y' = y
      · subst ey
        refine ⟨2 ^ x, upS, pow12 (by omega), fun x' hx' => ?_⟩
        rw [Nat.testBit_two_pow, decide_eq_true_eq]
        constructor
        · intro z; omega
        · intro z; omega
      · refine ⟨0, by rw [upI ey, h2r y' hy']; exact nI_0.symm, by omega, fun x' hx' => ?_⟩
        rw [Nat.zero_testBit]
        constructor
        · intro z; cases z
        · intro z; omega
end RCH2
