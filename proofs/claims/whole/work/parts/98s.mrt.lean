section MRT
variable {d : Nat} {k : am_k} {I I' I1 : Nat → Nat → Int32} {J : Nat → Nat → Int64} {a b fk fp : Int32} {L : Nat} {w : Nat → Option Nat} {v p q n u x z r t m l o s i j h lv op D tk c dep α β : Nat} {Y : Nat → Nat} {C E : List (Nat × Nat)} {e : Nat × Nat} {f : Nat → List (Nat × Nat) → Rs} {Q R : List Nat} {τ : Bool}
theorem ca_cl (hY : ∀ i, i < t → Y i < 256) (n4 : n ≤ 400) (hn : ∀ j, n ≤ j → toT t Y j = 272) : ∀ D o, D + o = 8 → CA L J w t Y n d k (clF (toT t Y) (D + 1) o) o := by
  have hT : ∀ j, toT t Y j < 11000 := fun j => to_b hY
  intro D
  induction D with
  | zero =>
    intro o ho I j C Q c dep b hM hP hQ hc hl hC hd kf kr
    have el : clF (toT t Y) (0 + 1) o j C = if toT t Y j = 261 ∨ toT t Y j = 40 then (if 8 ≤ o then .inl (3, j) else if toT t Y j = 261 then (match clF (toT t Y) 0 (o + 1) (j + 1) C with
      | .inl e => .inl e
      | .inr p => .inr (p.1, p.2 ++ [(9, 0)])) else (match jnF (toT t Y) (jnF (toT t Y) (clF (toT t Y) 0 (o + 1)) 1) 0 (j + 1) C with
      | .inl e => .inl e
      | .inr p => if toT t Y p.1 = 41 then .inr (p.1 + 1, p.2) else .inl (1, p.1))) else cpF (toT t Y) j C := rfl
    rw [el] at kf kr
    have o8 : o = 8 := by omega
    by_cases g : toT t Y j = 261 ∨ toT t Y j = 40
    · rw [if_pos g, if_pos (by omega)] at kf
      rw [o8] at hP
      exact ca_full hY hM hP (by omega) g (fun I' x y => kf _ rfl I' x y)
    · rw [if_neg g] at kf kr
      exact ca_cmp hY n4 hn (by omega) hM hP hQ hc hl hC g kf kr
  | succ D ih =>
    intro o ho I j C Q c dep b hM hP hQ hc hl hC hd kf kr
    have el : clF (toT t Y) (D + 1 + 1) o j C = if toT t Y j = 261 ∨ toT t Y j = 40 then (if 8 ≤ o then .inl (3, j) else if toT t Y j = 261 then (match clF (toT t Y) (D + 1) (o + 1) (j + 1) C with
      | .inl e => .inl e
      | .inr p => .inr (p.1, p.2 ++ [(9, 0)])) else (match jnF (toT t Y) (jnF (toT t Y) (clF (toT t Y) (D + 1) (o + 1)) 1) 0 (j + 1) C with
      | .inl e => .inl e
      | .inr p => if toT t Y p.1 = 41 then .inr (p.1 + 1, p.2) else .inl (1, p.1))) else cpF (toT t Y) j C := rfl
    rw [el] at kf kr
    by_cases g : toT t Y j = 261 ∨ toT t Y j = 40
    rotate_left
    · rw [if_neg g] at kf kr
      exact ca_cmp hY n4 hn (by omega) hM hP hQ hc hl hC g kf kr
    rw [if_pos g, if_neg (by omega)] at kf kr
    by_cases g1 : toT t Y j = 261
    · rw [if_pos g1] at kf kr
      refine ca_not hY hn (ih (o + 1) (by omega)) (by omega) hM hP hQ hc hl hC hd g1 ?_ ?_
      · intro e he
        rw [he] at kf
        exact kf e rfl
      · intro p hp I' b' u1 u2 u3
        rw [hp] at kr
        exact kr _ rfl I' b' u1 u2 u3
    · rw [if_neg g1] at kf kr
      refine ca_par hY n4 hn (al_of hY n4 hn (ih (o + 1) (by omega)) (GD_cl hT hn (D + 1) (o + 1) (by omega)) (by omega)) (GD_al hT hn (by omega) (by omega)) (GD_an hT hn (by omega) (by omega)) (by omega) hM hP hQ hc hl hC hd (by omega) ?_ ?_ ?_
      · intro e he
        rw [he] at kf
        exact kf e rfl
      · intro p hp g4 I' u1 u2
        rw [hp] at kf
        dsimp only at kf
        rw [if_neg g4] at kf
        exact kf _ rfl I' u1 u2
      · intro p hp g4 I' b' u1 u2 u3
        rw [hp] at kr
        dsimp only at kr
        rw [if_pos g4] at kr
        exact kr _ rfl I' b' u1 u2 u3
theorem QB_n : QB [] x := by
  intro y hy
  simp at hy
theorem m_readAny (hY : ∀ i, i < t → Y i < 256) (n4 : n ≤ 400) (hn : ∀ j, n ≤ j → toT t Y j = 272) (hM : MS I t Y n j C) (h36 : I 249 36 = nI 0) (hC : C.length ≤ j) (kf : ∀ e, anF (toT t Y) 9 0 j C = .inl e → ∀ I', ME I' t Y e → FrN I I' → k (some (.int (-1))) (gF L) I' J (rF w)) (kr : ∀ p, anF (toT t Y) 9 0 j C = .inr p → ∀ I', MS I' t Y n p.1 p.2 → I' 249 36 = nI 0 → p.2.length ≤ p.1 → FrN I I' → k (some (.int (nI 0))) (gF L) I' J (rF w)) : ac (d + 10) mX12_readAny [.ref 249] (gF L) I J (rF w) k := by
  have hT : ∀ j, toT t Y j < 11000 := fun j => to_b hY
  have tb := hT j
  have tr := to_r (j := j) hY
  have hP : MP (am_up I 249 38 (nI 0)) [] 0 := ⟨upS, fun i x hi => by simp at hi, by rw [upI (by decide)]; exact h36⟩
  have hM1 : MS (am_up I 249 38 (nI 0)) t Y n j C := MS_p hM (fun a x _ => upR x) (fun j _ y => upI y)
  have F1 : FrN I (am_up I 249 38 (nI 0)) := ⟨fun a x _ _ _ => upR x, fun i _ => ⟨by rw [upA (by decide)], by rw [upA (by decide)]⟩, fun j _ _ _ _ _ _ y _ _ => upI y⟩
  have m4 := hM1.2.2.2.1
  have go := an_of (d := d) (dep := 0) (b := 0) (R := []) (o := 0) (J := J) (L := L) (w := w) (k := k) hY n4 hn (al_of hY n4 hn (ca_cl hY n4 hn 8 0 rfl) (GD_cl hT hn 9 0 (by omega)) (by omega)) (GD_al hT hn (by omega) (by omega)) (by omega) QB_n QB_n QB_n (by simp) (by omega) hM1 hP (by simpa using hC) (fun e he I' x1 x2 => kf e he I' x1 (FrN_t F1 x2)) (fun p hp I' b' x1 x2 x3 x4 => by
    have fin := kr p hp I' x1 x2.2.2 (by simpa using x3) (FrN_t F1 x4)
    simp (disch := omega) only [x_X12_readAny_0, x_X12_readAny_1, x_X12_readAny_2, x_X12_readAny_3, x_X12_readAny_4, x_X12_readAny_7, x_X12_readAny_8, x_X12_readAny_10, x_X12_readAny_13, x_X12_readAny_14, x_X12_readAny_15, x_X12_readAny_18, x_X12_readAny_19, x_X12_readAny_20, x_X12_readAny_23, x_X12_readAny_24, x_X12_readAny_26, x_X12_readAny_29, x_X12_readAny_32, x_X12_readAny_33, x_X12_readAny_36, x_X12_readAny_38, x_X12_readAny_41, x_X12_readAny_42, x_X12_readAny_43, x_X12_readAny_46, x_X12_readAny_47, x_X12_readAny_48, x_X12_readAny_49, x_X12_readAny_52, x_X12_readAny_53, x_X12_readAny_54, x_X12_readAny_57, x_X12_readAny_58, x_X12_readAny_61, x_X12_readAny_62, x_X12_readAny_63, x_X12_readAny_64, x_X12_readAny_65, x_X12_readAny_66, x_X12_readAny_67, x_X12_readAny_70, x_X12_readAny_72, x_X12_readAny_75, x_X12_readAny_77, x_X12_readAny_80, x_X12_readAny_81, x_X12_readAny_84, x_X12_readAny_87, x_X12_readAny_88, x_X12_readAny_91, x_X12_readAny_92, x_X12_readAny_95, x_X12_readAny_96, x_X12_readAny_97, x_X12_readAny_98, x_X12_readAny_100, x_X12_readAny_103, x_X12_readAny_104, x_X12_readAny_105, x_X12_readAny_108, x_X12_readAny_109, x_X12_readAny_110, x_X12_readAny_113, x_X12_readAny_116, x_X12_readAny_117, x_X12_readAny_119, x_X12_readAny_122, x_X12_readAny_123, x_X12_readAny_125, x_X12_readAny_128, x_X12_readAny_129, x_X12_readAny_132, x_X12_readAny_133, x_X12_readAny_134, x_X12_readAny_137, x_X12_readAny_138, x_X12_readAny_139, x_X12_readAny_142, x_X12_readAny_145, x_X12_readAny_146, x_X12_readAny_148, x_X12_readAny_151, x_X12_readAny_152, x_X12_readAny_154, x_X12_readAny_157, x_X12_readAny_158, x_X12_readAny_160, x_X12_readAny_163, x_X12_readAny_164, x_X12_readAny_167, x_X12_readAny_168, x_X12_readAny_169, x_X12_readAny_172, x_X12_readAny_173, x_X12_readAny_175, x_X12_readAny_178, x_X12_readAny_179, x_X12_readAny_181, x_X12_readAny_184, x_X12_readAny_185, x_X12_readAny_188, x_X12_readAny_189, x_X12_readAny_190, x_X12_readAny_191, x_X12_readAny_193, x_X12_readAny_196, x_X12_readAny_199, x_X12_readAny_200, x_X12_readAny_201, x_X12_readAny_204, x_X12_readAny_205, x_X12_readAny_206, x_X12_readAny_207, x_X12_readAny_210, x_X12_readAny_211, x_X12_readAny_212, x_X12_readAny_215, x_X12_readAny_216, x_X12_readAny_217, x_X12_readAny_218, x_X12_readAny_219, x_X12_readAny_220, x_X12_readAny_221, x_X12_readAny_224, x_X12_readAny_225, x_X12_readAny_226, x_X12_readAny_229, x_X12_readAny_230, x_X12_readAny_232, x_X12_readAny_235, x_X12_readAny_236, x_X12_readAny_239, Bool.false_eq_true, am_cl_i, am_cl_r, am_cl_n, am_cl_l, am_cl_0, va_rf_s, va_rf_0, tl_s, tl_n, bi_0, bi_1, bi_z, true_and, and_true, false_and, and_false, true_implies, false_implies, implies_true, not_true_eq_false, not_false_eq_true, and_self, true_or, or_true, false_or, or_false, eq_self, Nat.reduceAdd, Nat.reduceMul, Nat.reduceSub, Nat.reduceDiv, Nat.reduceMod, Nat.reduceLeDiff, Nat.reduceEqDiff, Nat.reduceLT, ix0, ix1, in0, in1, gF_2, sh_8, ok_8, sh_9, ok_9, sh_10, sh_11, sh_12, sh_13, sh_14, sh_15, sh_16, sh_17, sh_18, sh_49, ok_49, sh_50, sh_51, sh_52, sh_53, sh_54, ok_54, sh_55, sh_56, sh_57, sh_58, sh_59, ok_59, sh_60, sh_61, sh_62, sh_63, sh_64, ok_64, sh_65, sh_66, sh_67, sh_68, sh_69, ok_69, sh_70, sh_71, sh_72, sh_73, sh_74, sh_75, sh_76, sh_77, sh_78, sh_109, ok_109, sh_110, sh_111, sh_112, sh_113, sh_114, ok_114, sh_115, sh_116, sh_117, sh_118, sh_119, ok_119, sh_120, sh_121, sh_122, sh_123, sh_124, ok_124, sh_125, sh_126, sh_127, sh_128, sh_129, ok_129, sh_130, sh_131, ok_131, sh_132, sh_133, sh_134, sh_135, sh_146, ok_146, sh_147, sh_148, sh_149, sh_150, sh_161, ok_161, sh_162, sh_163, sh_164, sh_165, sh_176, ok_176, sh_177, sh_178, sh_179, sh_180, sh_191, ok_191, sh_192, sh_193, sh_194, sh_195, sh_206, ok_206, sh_207, sh_208, sh_209, sh_210, sh_221, ok_221, sh_222, sh_223, ok_223, sh_224, sh_225, sh_226, sh_227, ok_227, sh_228, ok_228, sh_229, sh_230, sh_231, sh_232, sh_233, ok_233, sh_234, sh_235, sh_236, sh_237, sh_238, sh_239, ok_239, sh_240, sh_241, sh_242, sh_243, sh_244, sh_245, sh_246, ok_246, sh_247, sh_248, sh_249, ok_249, sh_250, sh_251, sh_252, sh_253, sh_254, sh_255, sh_256, sh_257, sh_258, sh_259, sh_260, sh_261, sh_262, sh_263, sh_264, sh_265, sh_266, sh_267, sh_268, sh_269, sh_270, sh_271, sh_272, sh_273, sh_274, sh_275, sh_276, sh_277, sh_278, sh_279, sh_1, sh_2, sh_3, sh_4, gv_s, gv_o, kv_s, kv_o, gr_s, gr_o, kr_s, kr_o, r_8_0, r_8_1, r_8_3, r_8_4, r_8_5, r_8_6, r_8_7, r_8_8, r_8_9, r_8_10, r_9_7, r_9_8, r_9_9, r_9_10, r_9_11, r_9_12, r_9_13, r_9_14, r_9_15, r_49_2, r_49_3, r_49_4, r_49_6, r_54_2, r_54_3, r_54_4, r_54_6, r_59_2, r_59_3, r_59_4, r_59_6, r_64_2, r_64_3, r_64_4, r_64_6, r_69_7, r_69_8, r_69_9, r_69_10, r_69_11, r_69_12, r_69_13, r_69_14, r_69_15, r_109_2, r_109_3, r_109_4, r_109_6, r_114_2, r_114_3, r_114_4, r_114_6, r_119_2, r_119_3, r_119_4, r_119_6, r_124_2, r_124_3, r_124_4, r_124_6, r_129_0, r_131_2, r_131_3, r_131_4, r_131_5, r_146_2, r_146_3, r_146_4, r_146_5, r_161_2, r_161_3, r_161_4, r_161_5, r_176_2, r_176_3, r_176_4, r_176_5, r_191_2, r_191_3, r_191_4, r_191_5, r_206_2, r_206_3, r_206_4, r_206_5, r_221_0, r_221_1, r_223_0, r_223_2, r_223_3, r_227_0, r_228_2, r_228_3, r_228_4, r_228_6, r_233_0, r_233_1, r_233_2, r_233_3, r_233_4, r_233_5, r_239_0, r_239_1, r_239_2, r_239_3, r_239_4, r_239_5, r_246_2, r_246_3, r_249_1, r_249_2, r_249_6, r_249_7, r_249_8, r_249_9, r_249_11, r_249_12, r_249_13, r_249_14, r_249_17, r_249_18, r_249_19, r_249_20, r_249_21, r_249_22, r_249_28, r_249_29, r_249_30, r_249_31, r_249_32, r_249_33, r_249_34, r_249_37, r_249_43, r_249_44, r_249_45, r_249_46, r_249_47, r_249_51, r_227_1, r_233_6, r_239_6, r_246_0, r_246_1, r_15, r_75, r_16, r_76, r_18, r_78, r_130, ltr2, ltr3, ltr4, ltr5, ltr6, ltr7, ltr8, ltr9, ltr10, ltr11, ltr12, ltr13, ltr14, ltr15, ltr16, ltr17, ltr20, ltr22, ltr23, ltr24, ltr25, ltr31, ltr32, ltr40, ltr41, ltr42, ltr43, ltr45, ltr47, ltr48, ltr50, ltr52, ltr57, ltr59, ltr60, ltr61, ltr62, ltr64, ltr65, ltr72, ltr77, ltr90, ltr91, ltr97, ltr99, ltr100, ltr122, ltr144, ltr216, ltr236, ltr240, ltr255, ltr256, ltr257, ltr258, ltr259, ltr260, ltr261, ltr262, ltr271, ltr272, ltr273, ltr288, ltr336, ltr380, ltr400, ltr1000, ltr1600, ltr9999, ltr10000, ixN, inN, ltN, leN, eqN, lt0N, le0N, eq0N, eq1N, addN, add1N, mulN, divN, remN, modS, rdN, inCN, inR0, inR1, inRN, inVN, upS, upA, upI, upR, rwS, rwA, i10, biT, biF, rd1, rd2, ofn8]
    exact fin)
  rw [e_X12_readAny]
  simp (disch := omega) only [x_X12_readAny_0, x_X12_readAny_1, x_X12_readAny_2, x_X12_readAny_3, x_X12_readAny_4, x_X12_readAny_7, x_X12_readAny_8, x_X12_readAny_9, x_X12_readAny_10, x_X12_readAny_13, x_X12_readAny_14, x_X12_readAny_15, x_X12_readAny_18, Bool.false_eq_true, am_cl_i, am_cl_r, am_cl_n, am_cl_l, am_cl_0, va_rf_s, va_rf_0, tl_s, tl_n, bi_0, bi_1, bi_z, true_and, and_true, false_and, and_false, true_implies, false_implies, implies_true, not_true_eq_false, not_false_eq_true, and_self, true_or, or_true, false_or, or_false, eq_self, Nat.reduceAdd, Nat.reduceMul, Nat.reduceSub, Nat.reduceDiv, Nat.reduceMod, Nat.reduceLeDiff, Nat.reduceEqDiff, Nat.reduceLT, ix0, ix1, in0, in1, gF_2, sh_8, ok_8, sh_9, ok_9, sh_10, sh_11, sh_12, sh_13, sh_14, sh_15, sh_16, sh_17, sh_18, sh_49, ok_49, sh_50, sh_51, sh_52, sh_53, sh_54, ok_54, sh_55, sh_56, sh_57, sh_58, sh_59, ok_59, sh_60, sh_61, sh_62, sh_63, sh_64, ok_64, sh_65, sh_66, sh_67, sh_68, sh_69, ok_69, sh_70, sh_71, sh_72, sh_73, sh_74, sh_75, sh_76, sh_77, sh_78, sh_109, ok_109, sh_110, sh_111, sh_112, sh_113, sh_114, ok_114, sh_115, sh_116, sh_117, sh_118, sh_119, ok_119, sh_120, sh_121, sh_122, sh_123, sh_124, ok_124, sh_125, sh_126, sh_127, sh_128, sh_129, ok_129, sh_130, sh_131, ok_131, sh_132, sh_133, sh_134, sh_135, sh_146, ok_146, sh_147, sh_148, sh_149, sh_150, sh_161, ok_161, sh_162, sh_163, sh_164, sh_165, sh_176, ok_176, sh_177, sh_178, sh_179, sh_180, sh_191, ok_191, sh_192, sh_193, sh_194, sh_195, sh_206, ok_206, sh_207, sh_208, sh_209, sh_210, sh_221, ok_221, sh_222, sh_223, ok_223, sh_224, sh_225, sh_226, sh_227, ok_227, sh_228, ok_228, sh_229, sh_230, sh_231, sh_232, sh_233, ok_233, sh_234, sh_235, sh_236, sh_237, sh_238, sh_239, ok_239, sh_240, sh_241, sh_242, sh_243, sh_244, sh_245, sh_246, ok_246, sh_247, sh_248, sh_249, ok_249, sh_250, sh_251, sh_252, sh_253, sh_254, sh_255, sh_256, sh_257, sh_258, sh_259, sh_260, sh_261, sh_262, sh_263, sh_264, sh_265, sh_266, sh_267, sh_268, sh_269, sh_270, sh_271, sh_272, sh_273, sh_274, sh_275, sh_276, sh_277, sh_278, sh_279, sh_1, sh_2, sh_3, sh_4, gv_s, gv_o, kv_s, kv_o, gr_s, gr_o, kr_s, kr_o, r_8_0, r_8_1, r_8_3, r_8_4, r_8_5, r_8_6, r_8_7, r_8_8, r_8_9, r_8_10, r_9_7, r_9_8, r_9_9, r_9_10, r_9_11, r_9_12, r_9_13, r_9_14, r_9_15, r_49_2, r_49_3, r_49_4, r_49_6, r_54_2, r_54_3, r_54_4, r_54_6, r_59_2, r_59_3, r_59_4, r_59_6, r_64_2, r_64_3, r_64_4, r_64_6, r_69_7, r_69_8, r_69_9, r_69_10, r_69_11, r_69_12, r_69_13, r_69_14, r_69_15, r_109_2, r_109_3, r_109_4, r_109_6, r_114_2, r_114_3, r_114_4, r_114_6, r_119_2, r_119_3, r_119_4, r_119_6, r_124_2, r_124_3, r_124_4, r_124_6, r_129_0, r_131_2, r_131_3, r_131_4, r_131_5, r_146_2, r_146_3, r_146_4, r_146_5, r_161_2, r_161_3, r_161_4, r_161_5, r_176_2, r_176_3, r_176_4, r_176_5, r_191_2, r_191_3, r_191_4, r_191_5, r_206_2, r_206_3, r_206_4, r_206_5, r_221_0, r_221_1, r_223_0, r_223_2, r_223_3, r_227_0, r_228_2, r_228_3, r_228_4, r_228_6, r_233_0, r_233_1, r_233_2, r_233_3, r_233_4, r_233_5, r_239_0, r_239_1, r_239_2, r_239_3, r_239_4, r_239_5, r_246_2, r_246_3, r_249_1, r_249_2, r_249_6, r_249_7, r_249_8, r_249_9, r_249_11, r_249_12, r_249_13, r_249_14, r_249_17, r_249_18, r_249_19, r_249_20, r_249_21, r_249_22, r_249_28, r_249_29, r_249_30, r_249_31, r_249_32, r_249_33, r_249_34, r_249_37, r_249_43, r_249_44, r_249_45, r_249_46, r_249_47, r_249_51, r_227_1, r_233_6, r_239_6, r_246_0, r_246_1, r_15, r_75, r_16, r_76, r_18, r_78, r_130, ltr2, ltr3, ltr4, ltr5, ltr6, ltr7, ltr8, ltr9, ltr10, ltr11, ltr12, ltr13, ltr14, ltr15, ltr16, ltr17, ltr20, ltr22, ltr23, ltr24, ltr25, ltr31, ltr32, ltr40, ltr41, ltr42, ltr43, ltr45, ltr47, ltr48, ltr50, ltr52, ltr57, ltr59, ltr60, ltr61, ltr62, ltr64, ltr65, ltr72, ltr77, ltr90, ltr91, ltr97, ltr99, ltr100, ltr122, ltr144, ltr216, ltr236, ltr240, ltr255, ltr256, ltr257, ltr258, ltr259, ltr260, ltr261, ltr262, ltr271, ltr272, ltr273, ltr288, ltr336, ltr380, ltr400, ltr1000, ltr1600, ltr9999, ltr10000, ixN, inN, ltN, leN, eqN, lt0N, le0N, eq0N, eq1N, addN, add1N, mulN, divN, remN, modS, rdN, inCN, inR0, inR1, inRN, inVN, upS, upA, upI, upR, rwS, rwA, i10, biT, biF, rd1, rd2, ofn8, m_isWord m4 tr tb] at go ⊢
  exact go
end MRT
