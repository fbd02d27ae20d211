section MAK3
variable {d : Nat} {k : am_k} {g : am_G} {I I' I1 : Nat → Nat → Int32} {J : Nat → Nat → Int64} {R R' R1 : Nat → Nat → Option Nat} {a x y : Int32} {L : Nat} {b c e p q n u t m l o s i j ci : Nat}
theorem sh_p (hn : n = 2 ∨ n = 62) : shF L (n + 7) = (103, 0) ∧ shF L (n + 8) = (0, 144) ∧ shF L (n + 9) = (0, 144) ∧ shF L (n + 10) = (0, 24) ∧ shF L (n + 11) = (0, 24) ∧ shF L (n + 12) = (0, 24) ∧ shF L (n + 13) = (19, 10) ∧ shF L (n + 14) = (16, 20) ∧ shF L (n + 15) = (0, 100) ∧ shF L (n + 16) = (11, 4) ∧ (∀ v, v < 10 → shF L (n + 17 + v) = (109, 0)) ∧ (∀ v, v < 20 → shF L (n + 27 + v) = (106, 0)) ∧ ∀ u, u < 4 → shF L (n + 47 + 5 * u) = (101, 0) ∧ shF L (n + 48 + 5 * u) = (0, 16) ∧ shF L (n + 49 + 5 * u) = (0, 16) ∧ shF L (n + 50 + 5 * u) = (0, 400) ∧ shF L (n + 51 + 5 * u) = (0, 32) := by
  have key1 : ∀ v, v < 10 → shT.getD (11 + v) (999, 0) = (109, 0) ∧ shT.getD (71 + v) (999, 0) = (109, 0) := by decide
  have key2 : ∀ v, v < 20 → shT.getD (21 + v) (999, 0) = (106, 0) ∧ shT.getD (81 + v) (999, 0) = (106, 0) := by decide
  have key3 : ∀ u, u < 4 → (shT.getD (41 + 5 * u) (999, 0) = (101, 0) ∧ shT.getD (42 + 5 * u) (999, 0) = (0, 16) ∧ shT.getD (43 + 5 * u) (999, 0) = (0, 16) ∧ shT.getD (44 + 5 * u) (999, 0) = (0, 400) ∧ shT.getD (45 + 5 * u) (999, 0) = (0, 32)) ∧ shT.getD (101 + 5 * u) (999, 0) = (101, 0) ∧ shT.getD (102 + 5 * u) (999, 0) = (0, 16) ∧ shT.getD (103 + 5 * u) (999, 0) = (0, 16) ∧ shT.getD (104 + 5 * u) (999, 0) = (0, 400) ∧ shT.getD (105 + 5 * u) (999, 0) = (0, 32) := by decide
  rcases hn with rfl | rfl
  · refine ⟨rfl, rfl, rfl, rfl, rfl, rfl, rfl, rfl, rfl, rfl, fun v hv => ?_, fun v hv => ?_, fun u hu => ⟨?_, ?_, ?_, ?_, ?_⟩⟩
    · rw [show 2 + 17 + v = 8 + (11 + v) by omega, sh_q]; exact (key1 v hv).1
    · rw [show 2 + 27 + v = 8 + (21 + v) by omega, sh_q]; exact (key2 v hv).1
    · rw [show 2 + 47 + 5 * u = 8 + (41 + 5 * u) by omega, sh_q]; exact (key3 u hu).1.1
    · rw [show 2 + 48 + 5 * u = 8 + (42 + 5 * u) by omega, sh_q]; exact (key3 u hu).1.2.1
    · rw [show 2 + 49 + 5 * u = 8 + (43 + 5 * u) by omega, sh_q]; exact (key3 u hu).1.2.2.1
    · rw [show 2 + 50 + 5 * u = 8 + (44 + 5 * u) by omega, sh_q]; exact (key3 u hu).1.2.2.2.1
    · rw [show 2 + 51 + 5 * u = 8 + (45 + 5 * u) by omega, sh_q]; exact (key3 u hu).1.2.2.2.2
  · refine ⟨rfl, rfl, rfl, rfl, rfl, rfl, rfl, rfl, rfl, rfl, fun v hv => ?_, fun v hv => ?_, fun u hu => ⟨?_, ?_, ?_, ?_, ?_⟩⟩
    · rw [show 62 + 17 + v = 8 + (71 + v) by omega, sh_q]; exact (key1 v hv).2
    · rw [show 62 + 27 + v = 8 + (81 + v) by omega, sh_q]; exact (key2 v hv).2
    · rw [show 62 + 47 + 5 * u = 8 + (101 + 5 * u) by omega, sh_q]; exact (key3 u hu).2.1
    · rw [show 62 + 48 + 5 * u = 8 + (102 + 5 * u) by omega, sh_q]; exact (key3 u hu).2.2.1
    · rw [show 62 + 49 + 5 * u = 8 + (103 + 5 * u) by omega, sh_q]; exact (key3 u hu).2.2.2.1
    · rw [show 62 + 50 + 5 * u = 8 + (104 + 5 * u) by omega, sh_q]; exact (key3 u hu).2.2.2.2.1
    · rw [show 62 + 51 + 5 * u = 8 + (105 + 5 * u) by omega, sh_q]; exact (key3 u hu).2.2.2.2.2
/-- the villages of a Plain -/
theorem l_pv (hn : n = 2 ∨ n = 62) (hr : R1 (n + 7) 12 = some (n + 13)) (hk : ∀ J, aw (d + 3) mX3_init k 108 [some (.ref (n + 7)), some (.int (nI 10))] [] (gP L (n + 19)) (vl I1 (n + 17) 10) J (ra (zr R1 (n + 17) 10 none) (n + 13) (n + 17) 1 10) 19 644) : ∀ m i c s J, i + m = 10 → c = 9 + i → s = 494 + 15 * i → aw (d + 3) mX3_init k 82 [some (.ref (n + 7)), some (.int (nI i))] [] (gP L (n + 9 + i)) (vl I1 (n + 17) i) J (ra (zr R1 (n + 17) i none) (n + 13) (n + 17) 1 i) c s := by
  obtain ⟨h0, h1, h2, h3, h4, h5, h6, h7, h8, h9, hv, hp, ho⟩ := sh_p (L := L) hn
  intro m
  induction m with
  | zero =>
    intro i c s J hi hc hs
    have e : i = 10 := by omega
    subst e
    have c1 : c = 19 := hc
    have s1 : s = 644 := hs
    rw [x_X3_init_82]
    simp (disch := omega) only [x_X3_init_83, x_X3_init_85, Bool.false_eq_true, am_cl_i, am_cl_r, am_cl_n, am_cl_l, am_cl_0, va_rf_s, va_rf_0, tl_s, tl_n, bi_0, bi_1, bi_z, true_and, and_true, false_and, and_false, true_implies, false_implies, implies_true, not_true_eq_false, not_false_eq_true, and_self, true_or, or_true, false_or, or_false, eq_self, Nat.reduceAdd, Nat.reduceMul, Nat.reduceSub, Nat.reduceDiv, Nat.reduceMod, Nat.reduceLeDiff, Nat.reduceEqDiff, Nat.reduceLT, ix0, ix1, in0, in1, ltr2, ltr3, ltr4, ltr5, ltr6, ltr7, ltr8, ltr9, ltr10, ltr11, ltr12, ltr13, ltr14, ltr15, ltr16, ltr17, ltr20, ltr22, ltr23, ltr24, ltr25, ltr31, ltr32, ltr40, ltr41, ltr42, ltr43, ltr45, ltr47, ltr48, ltr50, ltr52, ltr57, ltr59, ltr60, ltr61, ltr62, ltr64, ltr65, ltr72, ltr77, ltr90, ltr91, ltr97, ltr99, ltr100, ltr122, ltr144, ltr216, ltr236, ltr240, ltr255, ltr256, ltr257, ltr258, ltr259, ltr260, ltr261, ltr262, ltr271, ltr272, ltr273, ltr288, ltr336, ltr380, ltr400, ltr1000, ltr1600, ltr9999, ltr10000, ixN, inN, ltN, leN, eqN, lt0N, le0N, eq0N, eq1N, addN, add1N, mulN, divN, remN, modS, rdN, inCN, inR0, inR1, inRN, inVN, Nat.le_refl, c1, s1]
    exact hk J
  | succ m ih =>
    intro i c s J hi hc hs
    have i1 : ¬ 10 ≤ i := by omega
    have c1 : c + 1 ≤ 59 := by omega
    have s1 : s + 15 ≤ 2612 := by omega
    have o1 : okO (gP L (n + 9 + i)) 3 (n + 7) := gP_ok h0 (by omega) (by omega)
    have g1 : mkG (gP L (n + 9 + i)) 109 0 = gP L (n + 9 + i + 1) := gP_mk (by rw [show 8 + (n + 9 + i) = n + 17 + i by omega]; exact hv i (by omega))
    have o2 : okO (gP L (n + 9 + i + 1)) 9 (n + 17 + i) := gP_ok (hv i (by omega)) (by omega) (by omega)
    have g2 : (gP L (n + 9 + i + 1)).2 (n + 13) = (19, 10) := by rw [gP_2 (by omega), h6]
    have g3 : (gP L (n + 9 + i + 1)).2 (n + 17 + i) = (109, 0) := by rw [gP_2 (by omega), hv i (by omega)]
    have r1 : ra (zr R1 (n + 17) i none) (n + 13) (n + 17) 1 i (n + 7) 12 = some (n + 13) := by rw [ra_o (by omega), zr_o (by omega)]; exact hr
    have b1 : 8 ≤ n + 13 := by omega
    have b2 : 8 ≤ n + 17 + i := by omega
    have go := fun J => ih (i + 1) (c + 1) (s + 15) J (by omega) (by omega) (by omega)
    rw [x_X3_init_82]
    simp (disch := omega) only [x_X3_init_0, x_X3_init_1, x_X3_init_4, x_X3_init_5, x_X3_init_8, x_X3_init_10, x_X3_init_13, x_X3_init_14, x_X3_init_17, x_X3_init_19, x_X3_init_22, x_X3_init_23, x_X3_init_25, x_X3_init_27, x_X3_init_30, x_X3_init_31, x_X3_init_33, x_X3_init_35, x_X3_init_38, x_X3_init_39, x_X3_init_41, x_X3_init_43, x_X3_init_46, x_X3_init_47, x_X3_init_49, x_X3_init_52, x_X3_init_55, x_X3_init_56, x_X3_init_58, x_X3_init_61, x_X3_init_64, x_X3_init_65, x_X3_init_67, x_X3_init_69, x_X3_init_72, x_X3_init_73, x_X3_init_74, x_X3_init_77, x_X3_init_80, x_X3_init_81, x_X3_init_83, x_X3_init_85, x_X3_init_88, x_X3_init_89, x_X3_init_92, x_X3_init_93, x_X3_init_96, x_X3_init_97, x_X3_init_98, x_X3_init_101, x_X3_init_102, x_X3_init_105, x_X3_init_109, x_X3_init_110, x_X3_init_111, x_X3_init_113, x_X3_init_116, x_X3_init_117, x_X3_init_120, x_X3_init_121, x_X3_init_124, x_X3_init_125, x_X3_init_128, x_X3_init_129, x_X3_init_132, x_X3_init_135, x_X3_init_136, x_X3_init_137, x_X3_init_138, x_X3_init_139, x_X3_init_142, x_X3_init_143, x_X3_init_146, x_X3_init_147, x_X3_init_150, x_X3_init_151, x_X3_init_154, x_X3_init_155, x_X3_init_158, x_X3_init_161, x_X3_init_162, x_X3_init_164, x_X3_init_166, x_X3_init_169, Bool.false_eq_true, am_cl_i, am_cl_r, am_cl_n, am_cl_l, am_cl_0, va_rf_s, va_rf_0, tl_s, tl_n, bi_0, bi_1, bi_z, true_and, and_true, false_and, and_false, true_implies, false_implies, implies_true, not_true_eq_false, not_false_eq_true, and_self, true_or, or_true, false_or, or_false, eq_self, Nat.reduceAdd, Nat.reduceMul, Nat.reduceSub, Nat.reduceDiv, Nat.reduceMod, Nat.reduceLeDiff, Nat.reduceEqDiff, Nat.reduceLT, ix0, ix1, in0, in1, ltr2, ltr3, ltr4, ltr5, ltr6, ltr7, ltr8, ltr9, ltr10, ltr11, ltr12, ltr13, ltr14, ltr15, ltr16, ltr17, ltr20, ltr22, ltr23, ltr24, ltr25, ltr31, ltr32, ltr40, ltr41, ltr42, ltr43, ltr45, ltr47, ltr48, ltr50, ltr52, ltr57, ltr59, ltr60, ltr61, ltr62, ltr64, ltr65, ltr72, ltr77, ltr90, ltr91, ltr97, ltr99, ltr100, ltr122, ltr144, ltr216, ltr236, ltr240, ltr255, ltr256, ltr257, ltr258, ltr259, ltr260, ltr261, ltr262, ltr271, ltr272, ltr273, ltr288, ltr336, ltr380, ltr400, ltr1000, ltr1600, ltr9999, ltr10000, ixN, inN, ltN, leN, eqN, lt0N, le0N, eq0N, eq1N, addN, add1N, mulN, divN, remN, modS, rdN, inCN, inR0, inR1, inRN, inVN, Nat.add_zero, gP_1, i1, c1, s1, o1, g1, g2, g3, r1, b1, b2, k_vInit o2, mkR_e (L := L) (show 8 + (n + 9 + i) = n + 17 + i by omega), show 8 + (n + 9 + i) = n + 17 + i by omega, ra_z (show n + 13 ≠ n + 17 + i by omega), zr_s (show n + 17 + i = n + 17 + i from rfl), vl_s, ra_s (show n + 17 + i = n + 17 + 1 * i by omega)]
    exact go _
/-- its ropes -/
theorem l_prp (hn : n = 2 ∨ n = 62) (hr : R1 (n + 7) 13 = some (n + 14)) (hk : ∀ J, aw (d + 3) mX3_init k 135 [some (.ref (n + 7)), some (.int (nI 20))] [] (gP L (n + 39)) (zr I1 (n + 27) 20 0) J (ra (zr R1 (n + 27) 20 none) (n + 14) (n + 27) 1 20) 39 724) : ∀ m i c s J, i + m = 20 → c = 19 + i → s = 644 + 4 * i → aw (d + 3) mX3_init k 110 [some (.ref (n + 7)), some (.int (nI i))] [] (gP L (n + 19 + i)) (zr I1 (n + 27) i 0) J (ra (zr R1 (n + 27) i none) (n + 14) (n + 27) 1 i) c s := by
  obtain ⟨h0, h1, h2, h3, h4, h5, h6, h7, h8, h9, hv, hp, ho⟩ := sh_p (L := L) hn
  intro m
  induction m with
  | zero =>
    intro i c s J hi hc hs
    have e : i = 20 := by omega
    subst e
    have c1 : c = 39 := hc
    have s1 : s = 724 := hs
    rw [x_X3_init_110]
    simp (disch := omega) only [x_X3_init_111, x_X3_init_113, Bool.false_eq_true, am_cl_i, am_cl_r, am_cl_n, am_cl_l, am_cl_0, va_rf_s, va_rf_0, tl_s, tl_n, bi_0, bi_1, bi_z, true_and, and_true, false_and, and_false, true_implies, false_implies, implies_true, not_true_eq_false, not_false_eq_true, and_self, true_or, or_true, false_or, or_false, eq_self, Nat.reduceAdd, Nat.reduceMul, Nat.reduceSub, Nat.reduceDiv, Nat.reduceMod, Nat.reduceLeDiff, Nat.reduceEqDiff, Nat.reduceLT, ix0, ix1, in0, in1, ltr2, ltr3, ltr4, ltr5, ltr6, ltr7, ltr8, ltr9, ltr10, ltr11, ltr12, ltr13, ltr14, ltr15, ltr16, ltr17, ltr20, ltr22, ltr23, ltr24, ltr25, ltr31, ltr32, ltr40, ltr41, ltr42, ltr43, ltr45, ltr47, ltr48, ltr50, ltr52, ltr57, ltr59, ltr60, ltr61, ltr62, ltr64, ltr65, ltr72, ltr77, ltr90, ltr91, ltr97, ltr99, ltr100, ltr122, ltr144, ltr216, ltr236, ltr240, ltr255, ltr256, ltr257, ltr258, ltr259, ltr260, ltr261, ltr262, ltr271, ltr272, ltr273, ltr288, ltr336, ltr380, ltr400, ltr1000, ltr1600, ltr9999, ltr10000, ixN, inN, ltN, leN, eqN, lt0N, le0N, eq0N, eq1N, addN, add1N, mulN, divN, remN, modS, rdN, inCN, inR0, inR1, inRN, inVN, Nat.le_refl, c1, s1]
    exact hk J
  | succ m ih =>
    intro i c s J hi hc hs
    have i1 : ¬ 20 ≤ i := by omega
    have c1 : c + 1 ≤ 59 := by omega
    have s1 : s + 4 ≤ 2612 := by omega
    have o1 : okO (gP L (n + 19 + i)) 3 (n + 7) := gP_ok h0 (by omega) (by omega)
    have g1 : mkG (gP L (n + 19 + i)) 106 0 = gP L (n + 19 + i + 1) := gP_mk (by rw [show 8 + (n + 19 + i) = n + 27 + i by omega]; exact hp i (by omega))
    have g2 : (gP L (n + 19 + i + 1)).2 (n + 14) = (16, 20) := by rw [gP_2 (by omega), h7]
    have g3 : (gP L (n + 19 + i + 1)).2 (n + 27 + i) = (106, 0) := by rw [gP_2 (by omega), hp i (by omega)]
    have r1 : ra (zr R1 (n + 27) i none) (n + 14) (n + 27) 1 i (n + 7) 13 = some (n + 14) := by rw [ra_o (by omega), zr_o (by omega)]; exact hr
    have b1 : 8 ≤ n + 14 := by omega
    have b2 : 8 ≤ n + 27 + i := by omega
    have go := fun J => ih (i + 1) (c + 1) (s + 4) J (by omega) (by omega) (by omega)
    rw [x_X3_init_110]
    simp (disch := omega) only [x_X3_init_0, x_X3_init_1, x_X3_init_4, x_X3_init_5, x_X3_init_8, x_X3_init_10, x_X3_init_13, x_X3_init_14, x_X3_init_17, x_X3_init_19, x_X3_init_22, x_X3_init_23, x_X3_init_25, x_X3_init_27, x_X3_init_30, x_X3_init_31, x_X3_init_33, x_X3_init_35, x_X3_init_38, x_X3_init_39, x_X3_init_41, x_X3_init_43, x_X3_init_46, x_X3_init_47, x_X3_init_49, x_X3_init_52, x_X3_init_55, x_X3_init_56, x_X3_init_58, x_X3_init_61, x_X3_init_64, x_X3_init_65, x_X3_init_67, x_X3_init_69, x_X3_init_72, x_X3_init_73, x_X3_init_74, x_X3_init_77, x_X3_init_80, x_X3_init_81, x_X3_init_82, x_X3_init_83, x_X3_init_85, x_X3_init_88, x_X3_init_89, x_X3_init_92, x_X3_init_93, x_X3_init_96, x_X3_init_97, x_X3_init_98, x_X3_init_101, x_X3_init_102, x_X3_init_105, x_X3_init_108, x_X3_init_109, x_X3_init_111, x_X3_init_113, x_X3_init_116, x_X3_init_117, x_X3_init_120, x_X3_init_121, x_X3_init_124, x_X3_init_125, x_X3_init_128, x_X3_init_129, x_X3_init_132, x_X3_init_136, x_X3_init_137, x_X3_init_138, x_X3_init_139, x_X3_init_142, x_X3_init_143, x_X3_init_146, x_X3_init_147, x_X3_init_150, x_X3_init_151, x_X3_init_154, x_X3_init_155, x_X3_init_158, x_X3_init_161, x_X3_init_162, x_X3_init_164, x_X3_init_166, x_X3_init_169, Bool.false_eq_true, am_cl_i, am_cl_r, am_cl_n, am_cl_l, am_cl_0, va_rf_s, va_rf_0, tl_s, tl_n, bi_0, bi_1, bi_z, true_and, and_true, false_and, and_false, true_implies, false_implies, implies_true, not_true_eq_false, not_false_eq_true, and_self, true_or, or_true, false_or, or_false, eq_self, Nat.reduceAdd, Nat.reduceMul, Nat.reduceSub, Nat.reduceDiv, Nat.reduceMod, Nat.reduceLeDiff, Nat.reduceEqDiff, Nat.reduceLT, ix0, ix1, in0, in1, ltr2, ltr3, ltr4, ltr5, ltr6, ltr7, ltr8, ltr9, ltr10, ltr11, ltr12, ltr13, ltr14, ltr15, ltr16, ltr17, ltr20, ltr22, ltr23, ltr24, ltr25, ltr31, ltr32, ltr40, ltr41, ltr42, ltr43, ltr45, ltr47, ltr48, ltr50, ltr52, ltr57, ltr59, ltr60, ltr61, ltr62, ltr64, ltr65, ltr72, ltr77, ltr90, ltr91, ltr97, ltr99, ltr100, ltr122, ltr144, ltr216, ltr236, ltr240, ltr255, ltr256, ltr257, ltr258, ltr259, ltr260, ltr261, ltr262, ltr271, ltr272, ltr273, ltr288, ltr336, ltr380, ltr400, ltr1000, ltr1600, ltr9999, ltr10000, ixN, inN, ltN, leN, eqN, lt0N, le0N, eq0N, eq1N, addN, add1N, mulN, divN, remN, modS, rdN, inCN, inR0, inR1, inRN, inVN, Nat.add_zero, gP_1, i1, c1, s1, o1, g1, g2, g3, r1, b1, b2, k_rInit, mkR_e (L := L) (show 8 + (n + 19 + i) = n + 27 + i by omega), show 8 + (n + 19 + i) = n + 27 + i by omega, ra_z (show n + 14 ≠ n + 27 + i by omega), zr_s (show n + 27 + i = n + 27 + i from rfl), ra_s (show n + 27 + i = n + 27 + 1 * i by omega)]
    exact go _
/-- i orders from b on -/
def ro (R : Nat → Nat → Option Nat) (b i : Nat) : Nat → Nat → Option Nat := fun a => if b ≤ a ∧ a < b + 5 * i then (if (a - b) % 5 = 0 then oR a else fun _ => none) else R a
theorem ro_0 : ro R b 0 = R := by
  funext a
  unfold ro
  rw [if_neg (by omega)]
theorem ro_o (h : q < b) : ro R b i q = R q := by
  unfold ro
  rw [if_neg (by omega)]
theorem ro_s (hp : p < b) : am_rw (zr (am_rw (ra (ro R b i) p b 5 i) (b + 5 * i) (fun _ => none)) (b + 5 * i + 1) 4 none) (b + 5 * i) (oR (b + 5 * i)) = ra (ro R b (i + 1)) p b 5 i := by
  funext a
  by_cases h1 : a = b + 5 * i
  · rw [h1, rwS, ra_o (by omega)]
    unfold ro
    rw [if_pos (by omega), if_pos (by omega)]
  rw [rwA h1]
  unfold zr
  by_cases h2 : b + 5 * i + 1 ≤ a ∧ a < b + 5 * i + 1 + 4
  · rw [if_pos h2, ra_o (by omega)]
    unfold ro
    rw [if_pos (by omega), if_neg (by omega)]
  rw [if_neg h2, rwA h1]
  by_cases h3 : a = p
  · subst h3
    rw [ra_p, ra_p, ro_o hp, ro_o hp]
  rw [ra_o h3, ra_o h3]
  unfold ro
  by_cases h4 : b ≤ a ∧ a < b + 5 * i
  · rw [if_pos h4, if_pos (show b ≤ a ∧ a < b + 5 * (i + 1) by omega)]
  · rw [if_neg h4, if_neg (show ¬ (b ≤ a ∧ a < b + 5 * (i + 1)) by omega)]
theorem zo_s : zr (am_rw (zr I b (5 * i) 0) (b + 5 * i) (fun _ => 0)) (b + 5 * i + 1) 4 0 = zr I b (5 * (i + 1)) 0 := by
  rw [zr_s rfl]
  rw [show b + 5 * i + 1 = b + (5 * i + 1) by omega, zr_a, show 5 * i + 1 + 4 = 5 * (i + 1) by omega]
/-- its orders -/
theorem l_po (hn : n = 2 ∨ n = 62) (hr : R1 (n + 7) 15 = some (n + 16)) (hk : ∀ J, aw (d + 3) mX3_init k 161 [some (.ref (n + 7)), some (.int (nI 4))] [] (gP L (n + 59)) (zr I1 (n + 47) 20 0) J (ra (ro R1 (n + 47) 4) (n + 16) (n + 47) 5 4) 59 2612) : ∀ m i c s J, i + m = 4 → c = 39 + 5 * i → s = 724 + 472 * i → aw (d + 3) mX3_init k 137 [some (.ref (n + 7)), some (.int (nI i))] [] (gP L (n + 39 + 5 * i)) (zr I1 (n + 47) (5 * i) 0) J (ra (ro R1 (n + 47) i) (n + 16) (n + 47) 5 i) c s := by
  obtain ⟨h0, h1, h2, h3, h4, h5, h6, h7, h8, h9, hv, hp, ho⟩ := sh_p (L := L) hn
  intro m
  induction m with
  | zero =>
    intro i c s J hi hc hs
    have e : i = 4 := by omega
    subst e
    have c1 : c = 59 := hc
    have s1 : s = 2612 := hs
    have fin := hk J
    rw [x_X3_init_137]
    simp (disch := omega) only [x_X3_init_138, x_X3_init_139, Bool.false_eq_true, am_cl_i, am_cl_r, am_cl_n, am_cl_l, am_cl_0, va_rf_s, va_rf_0, tl_s, tl_n, bi_0, bi_1, bi_z, true_and, and_true, false_and, and_false, true_implies, false_implies, implies_true, not_true_eq_false, not_false_eq_true, and_self, true_or, or_true, false_or, or_false, eq_self, Nat.reduceAdd, Nat.reduceMul, Nat.reduceSub, Nat.reduceDiv, Nat.reduceMod, Nat.reduceLeDiff, Nat.reduceEqDiff, Nat.reduceLT, ix0, ix1, in0, in1, ltr2, ltr3, ltr4, ltr5, ltr6, ltr7, ltr8, ltr9, ltr10, ltr11, ltr12, ltr13, ltr14, ltr15, ltr16, ltr17, ltr20, ltr22, ltr23, ltr24, ltr25, ltr31, ltr32, ltr40, ltr41, ltr42, ltr43, ltr45, ltr47, ltr48, ltr50, ltr52, ltr57, ltr59, ltr60, ltr61, ltr62, ltr64, ltr65, ltr72, ltr77, ltr90, ltr91, ltr97, ltr99, ltr100, ltr122, ltr144, ltr216, ltr236, ltr240, ltr255, ltr256, ltr257, ltr258, ltr259, ltr260, ltr261, ltr262, ltr271, ltr272, ltr273, ltr288, ltr336, ltr380, ltr400, ltr1000, ltr1600, ltr9999, ltr10000, ixN, inN, ltN, leN, eqN, lt0N, le0N, eq0N, eq1N, addN, add1N, mulN, divN, remN, modS, rdN, inCN, inR0, inR1, inRN, inVN, Nat.le_refl, c1, s1]
    exact fin
  | succ m ih =>
    intro i c s J hi hc hs
    have i1 : ¬ 4 ≤ i := by omega
    have c1 : c + 1 ≤ 59 := by omega
    have c2 : c + 1 + 4 ≤ 59 := by omega
    have s1 : s + 8 ≤ 2612 := by omega
    have s2 : s + 8 + 464 ≤ 2612 := by omega
    obtain ⟨u0, u1, u2, u3, u4⟩ := ho i (by omega)
    have o1 : okO (gP L (n + 39 + 5 * i)) 3 (n + 7) := gP_ok h0 (by omega) (by omega)
    have g1 : mkG (gP L (n + 39 + 5 * i)) 101 0 = gP L (n + 40 + 5 * i) := by
      have := gP_mk (L := L) (n := n + 39 + 5 * i) (t := 101) (m := 0) (by rw [show 8 + (n + 39 + 5 * i) = n + 47 + 5 * i by omega]; exact u0)
      rw [this]
      congr 1
      omega
    have g2 : (gP L (n + 44 + 5 * i)).2 (n + 16) = (11, 4) := by rw [gP_2 (by omega), h9]
    have g3 : (gP L (n + 44 + 5 * i)).2 (n + 47 + 5 * i) = (101, 0) := by rw [gP_2 (by omega), u0]
    have r1 : ra (ro R1 (n + 47) i) (n + 16) (n + 47) 5 i (n + 7) 15 = some (n + 16) := by rw [ra_o (by omega), ro_o (by omega)]; exact hr
    have b1 : 8 ≤ n + 16 := by omega
    have b2 : 8 ≤ n + 47 + 5 * i := by omega
    have go := fun J => ih (i + 1) (c + 1 + 4) (s + 8 + 464) J (by omega) (by omega) (by omega)
    have fin : ∀ J, aw (d + 3) mX3_init k 154 [some (.ref (n + 7)), some (.int (nI i))] [.ref (n + 47 + 5 * i), .int (nI i), .ref (n + 16)] (gP L (n + 44 + 5 * i)) (zr I1 (n + 47) (5 * (i + 1)) 0) J (ra (ro R1 (n + 47) (i + 1)) (n + 16) (n + 47) 5 i) (c + 1 + 4) (s + 8 + 464) := by
      intro J
      have := go J
      rw [show n + 39 + 5 * (i + 1) = n + 44 + 5 * i by omega] at this
      simp (disch := omega) only [x_X3_init_0, x_X3_init_1, x_X3_init_4, x_X3_init_5, x_X3_init_8, x_X3_init_10, x_X3_init_13, x_X3_init_14, x_X3_init_17, x_X3_init_19, x_X3_init_22, x_X3_init_23, x_X3_init_25, x_X3_init_27, x_X3_init_30, x_X3_init_31, x_X3_init_33, x_X3_init_35, x_X3_init_38, x_X3_init_39, x_X3_init_41, x_X3_init_43, x_X3_init_46, x_X3_init_47, x_X3_init_49, x_X3_init_52, x_X3_init_55, x_X3_init_56, x_X3_init_58, x_X3_init_61, x_X3_init_64, x_X3_init_65, x_X3_init_67, x_X3_init_69, x_X3_init_72, x_X3_init_73, x_X3_init_74, x_X3_init_77, x_X3_init_80, x_X3_init_81, x_X3_init_82, x_X3_init_83, x_X3_init_85, x_X3_init_88, x_X3_init_89, x_X3_init_92, x_X3_init_93, x_X3_init_96, x_X3_init_97, x_X3_init_98, x_X3_init_101, x_X3_init_102, x_X3_init_105, x_X3_init_108, x_X3_init_109, x_X3_init_110, x_X3_init_111, x_X3_init_113, x_X3_init_116, x_X3_init_117, x_X3_init_120, x_X3_init_121, x_X3_init_124, x_X3_init_125, x_X3_init_128, x_X3_init_129, x_X3_init_132, x_X3_init_135, x_X3_init_136, x_X3_init_138, x_X3_init_139, x_X3_init_142, x_X3_init_143, x_X3_init_146, x_X3_init_147, x_X3_init_150, x_X3_init_151, x_X3_init_154, x_X3_init_155, x_X3_init_158, x_X3_init_161, x_X3_init_162, x_X3_init_164, x_X3_init_166, x_X3_init_169, Bool.false_eq_true, am_cl_i, am_cl_r, am_cl_n, am_cl_l, am_cl_0, va_rf_s, va_rf_0, tl_s, tl_n, bi_0, bi_1, bi_z, true_and, and_true, false_and, and_false, true_implies, false_implies, implies_true, not_true_eq_false, not_false_eq_true, and_self, true_or, or_true, false_or, or_false, eq_self, Nat.reduceAdd, Nat.reduceMul, Nat.reduceSub, Nat.reduceDiv, Nat.reduceMod, Nat.reduceLeDiff, Nat.reduceEqDiff, Nat.reduceLT, ix0, ix1, in0, in1, ltr2, ltr3, ltr4, ltr5, ltr6, ltr7, ltr8, ltr9, ltr10, ltr11, ltr12, ltr13, ltr14, ltr15, ltr16, ltr17, ltr20, ltr22, ltr23, ltr24, ltr25, ltr31, ltr32, ltr40, ltr41, ltr42, ltr43, ltr45, ltr47, ltr48, ltr50, ltr52, ltr57, ltr59, ltr60, ltr61, ltr62, ltr64, ltr65, ltr72, ltr77, ltr90, ltr91, ltr97, ltr99, ltr100, ltr122, ltr144, ltr216, ltr236, ltr240, ltr255, ltr256, ltr257, ltr258, ltr259, ltr260, ltr261, ltr262, ltr271, ltr272, ltr273, ltr288, ltr336, ltr380, ltr400, ltr1000, ltr1600, ltr9999, ltr10000, ixN, inN, ltN, leN, eqN, lt0N, le0N, eq0N, eq1N, addN, add1N, mulN, divN, remN, modS, rdN, inCN, inR0, inR1, inRN, inVN, g2, g3, b1, b2, ra_s (show n + 47 + 5 * i = n + 47 + 5 * i from rfl)]
      exact this
    rw [x_X3_init_137]
    simp (disch := omega) only [x_X3_init_0, x_X3_init_1, x_X3_init_4, x_X3_init_5, x_X3_init_8, x_X3_init_10, x_X3_init_13, x_X3_init_14, x_X3_init_17, x_X3_init_19, x_X3_init_22, x_X3_init_23, x_X3_init_25, x_X3_init_27, x_X3_init_30, x_X3_init_31, x_X3_init_33, x_X3_init_35, x_X3_init_38, x_X3_init_39, x_X3_init_41, x_X3_init_43, x_X3_init_46, x_X3_init_47, x_X3_init_49, x_X3_init_52, x_X3_init_55, x_X3_init_56, x_X3_init_58, x_X3_init_61, x_X3_init_64, x_X3_init_65, x_X3_init_67, x_X3_init_69, x_X3_init_72, x_X3_init_73, x_X3_init_74, x_X3_init_77, x_X3_init_80, x_X3_init_81, x_X3_init_82, x_X3_init_83, x_X3_init_85, x_X3_init_88, x_X3_init_89, x_X3_init_92, x_X3_init_93, x_X3_init_96, x_X3_init_97, x_X3_init_98, x_X3_init_101, x_X3_init_102, x_X3_init_105, x_X3_init_108, x_X3_init_109, x_X3_init_110, x_X3_init_111, x_X3_init_113, x_X3_init_116, x_X3_init_117, x_X3_init_120, x_X3_init_121, x_X3_init_124, x_X3_init_125, x_X3_init_128, x_X3_init_129, x_X3_init_132, x_X3_init_135, x_X3_init_136, x_X3_init_138, x_X3_init_139, x_X3_init_142, x_X3_init_143, x_X3_init_146, x_X3_init_147, x_X3_init_150, x_X3_init_151, x_X3_init_154, x_X3_init_155, x_X3_init_158, x_X3_init_162, x_X3_init_164, x_X3_init_166, x_X3_init_169, Bool.false_eq_true, am_cl_i, am_cl_r, am_cl_n, am_cl_l, am_cl_0, va_rf_s, va_rf_0, tl_s, tl_n, bi_0, bi_1, bi_z, true_and, and_true, false_and, and_false, true_implies, false_implies, implies_true, not_true_eq_false, not_false_eq_true, and_self, true_or, or_true, false_or, or_false, eq_self, Nat.reduceAdd, Nat.reduceMul, Nat.reduceSub, Nat.reduceDiv, Nat.reduceMod, Nat.reduceLeDiff, Nat.reduceEqDiff, Nat.reduceLT, ix0, ix1, in0, in1, ltr2, ltr3, ltr4, ltr5, ltr6, ltr7, ltr8, ltr9, ltr10, ltr11, ltr12, ltr13, ltr14, ltr15, ltr16, ltr17, ltr20, ltr22, ltr23, ltr24, ltr25, ltr31, ltr32, ltr40, ltr41, ltr42, ltr43, ltr45, ltr47, ltr48, ltr50, ltr52, ltr57, ltr59, ltr60, ltr61, ltr62, ltr64, ltr65, ltr72, ltr77, ltr90, ltr91, ltr97, ltr99, ltr100, ltr122, ltr144, ltr216, ltr236, ltr240, ltr255, ltr256, ltr257, ltr258, ltr259, ltr260, ltr261, ltr262, ltr271, ltr272, ltr273, ltr288, ltr336, ltr380, ltr400, ltr1000, ltr1600, ltr9999, ltr10000, ixN, inN, ltN, leN, eqN, lt0N, le0N, eq0N, eq1N, addN, add1N, mulN, divN, remN, modS, rdN, inCN, inR0, inR1, inRN, inVN, Nat.add_zero, gP_1, i1, c1, c2, s1, s2, o1, g1, r1, mkR_e (L := L) (show 8 + (n + 39 + 5 * i) = n + 47 + 5 * i by omega), show 8 + (n + 39 + 5 * i) = n + 47 + 5 * i by omega]
    have e7 : n + 47 + 5 * i = n + 40 + 5 * i + 7 := by omega
    have e8 : n + 47 + 5 * i + 1 = n + 40 + 5 * i + 8 := by omega
    have e4 : n + 44 + 5 * i = n + 40 + 5 * i + 4 := by omega
    have q1 := zo_s (I := I1) (b := n + 47) (i := i)
    have q2 := ro_s (R := R1) (b := n + 47) (p := n + 16) (i := i) (by omega)
    rw [e8] at q1 q2
    rw [e7] at q1 q2 fin ⊢
    rw [e4] at fin
    refine k_oInit (d := d + 1) (by rw [← e7]; exact u0) (by rw [show n + 40 + 5 * i + 8 = n + 48 + 5 * i by omega]; exact u1) (by rw [show n + 40 + 5 * i + 9 = n + 49 + 5 * i by omega]; exact u2) (by rw [show n + 40 + 5 * i + 10 = n + 50 + 5 * i by omega]; exact u3) (by rw [show n + 40 + 5 * i + 11 = n + 51 + 5 * i by omega]; exact u4) (by omega) rwS ?_
    intro J2
    rw [q1, q2]
    exact fin J2
/-- a Plain started anew, in the making -/
def plP (n : Nat) (I : Nat → Nat → Int32) : Nat → Nat → Int32 := fl (fl (fl (fl (fl (fl (am_up (am_up (am_up (am_up (am_up (am_up I (n + 7) 0 (nI 8)) (n + 7) 1 (nI 8)) (n + 7) 2 0) (n + 7) 4 (nI 24)) (n + 7) 5 0) (n + 7) 6 0) (n + 8) 144 (nI 50)) (n + 9) 144 0) (n + 10) 24 0) (n + 11) 24 1) (n + 12) 24 0) (n + 15) 100 0
theorem plP_z (h : n + 16 ≤ q) : plP n I q = I q := by
  unfold plP
  rw [fl_o (by omega), fl_o (by omega), fl_o (by omega), fl_o (by omega), fl_o (by omega), fl_o (by omega), upR (by omega), upR (by omega), upR (by omega), upR (by omega), upR (by omega), upR (by omega)]
theorem k_plStart (hn : n = 2 ∨ n = 62) (hr : R (n + 7) = rPl (n + 7)) (hq : ∀ u, u < 4 → R (n + 16) u = some (n + 47 + 5 * u)) (hz : ∀ u, u < 4 → I (n + 47 + 5 * u) = fun _ => 0) : ac (d + 2) mX3_startAnew [.ref (n + 7), .int (nI 8), .int (nI 8)] (gP L (n + 59)) I J R k = k none (gP L (n + 59)) (plP n I) J R := by
  obtain ⟨h0, h1, h2, h3, h4, h5, h6, h7, h8, h9, hv, hp, ho⟩ := sh_p (L := L) hn
  have s0 : okO (gP L (n + 59)) 3 (n + 7) := gP_ok h0 (by omega) (by omega)
  have s1 : (gP L (n + 59)).2 (n + 8) = (0, 144) := by rw [gP_2 (by omega), h1]
  have s2 : (gP L (n + 59)).2 (n + 9) = (0, 144) := by rw [gP_2 (by omega), h2]
  have s3 : (gP L (n + 59)).2 (n + 10) = (0, 24) := by rw [gP_2 (by omega), h3]
  have s4 : (gP L (n + 59)).2 (n + 11) = (0, 24) := by rw [gP_2 (by omega), h4]
  have s5 : (gP L (n + 59)).2 (n + 12) = (0, 24) := by rw [gP_2 (by omega), h5]
  have s8 : (gP L (n + 59)).2 (n + 15) = (0, 100) := by rw [gP_2 (by omega), h8]
  have s9 : (gP L (n + 59)).2 (n + 16) = (11, 4) := by rw [gP_2 (by omega), h9]
  have t0 : (gP L (n + 59)).2 (n + 47) = (101, 0) := by rw [gP_2 (by omega)]; exact (ho 0 (by omega)).1
  have v0 : okO (gP L (n + 59)) 1 (n + 47) := ⟨by rw [t0], by omega⟩
  have q0 : R (n + 16) 0 = some (n + 47) := hq 0 (by omega)
  have z0 : clr (n + 47) (plP n I) = plP n I := clr_z (by rw [plP_z (by omega)]; exact hz 0 (by omega))
  have t1 : (gP L (n + 59)).2 (n + 52) = (101, 0) := by rw [gP_2 (by omega)]; exact (ho 1 (by omega)).1
  have v1 : okO (gP L (n + 59)) 1 (n + 52) := ⟨by rw [t1], by omega⟩
  have q1 : R (n + 16) 1 = some (n + 52) := hq 1 (by omega)
  have z1 : clr (n + 52) (plP n I) = plP n I := clr_z (by rw [plP_z (by omega)]; exact hz 1 (by omega))
  have t2 : (gP L (n + 59)).2 (n + 57) = (101, 0) := by rw [gP_2 (by omega)]; exact (ho 2 (by omega)).1
  have v2 : okO (gP L (n + 59)) 1 (n + 57) := ⟨by rw [t2], by omega⟩
  have q2 : R (n + 16) 2 = some (n + 57) := hq 2 (by omega)
  have z2 : clr (n + 57) (plP n I) = plP n I := clr_z (by rw [plP_z (by omega)]; exact hz 2 (by omega))
  have t3 : (gP L (n + 59)).2 (n + 62) = (101, 0) := by rw [gP_2 (by omega)]; exact (ho 3 (by omega)).1
  have v3 : okO (gP L (n + 59)) 1 (n + 62) := ⟨by rw [t3], by omega⟩
  have q3 : R (n + 16) 3 = some (n + 62) := hq 3 (by omega)
  have z3 : clr (n + 62) (plP n I) = plP n I := clr_z (by rw [plP_z (by omega)]; exact hz 3 (by omega))
  have f7 : R (n + 7) 7 = some (n + 8) := by rw [hr]; rfl
  have f8 : R (n + 7) 8 = some (n + 9) := by rw [hr]; rfl
  have f9 : R (n + 7) 9 = some (n + 10) := by rw [hr]; rfl
  have f10 : R (n + 7) 10 = some (n + 11) := by rw [hr]; rfl
  have f11 : R (n + 7) 11 = some (n + 12) := by rw [hr]; rfl
  have f14 : R (n + 7) 14 = some (n + 15) := by rw [hr]; rfl
  have f15 : R (n + 7) 15 = some (n + 16) := by rw [hr]; rfl
  have b9 : 8 ≤ n + 16 := by omega
  have pe : fl (fl (fl (fl (fl (fl (am_up (am_up (am_up (am_up (am_up (am_up I (n + 7) 0 (nI 8)) (n + 7) 1 (nI 8)) (n + 7) 2 0) (n + 7) 4 (nI 24)) (n + 7) 5 0) (n + 7) 6 0) (n + 8) 144 (nI 50)) (n + 9) 144 0) (n + 10) 24 0) (n + 11) 24 1) (n + 12) 24 0) (n + 15) 100 0 = plP n I := rfl
  rw [e_X3_startAnew]
  simp (disch := omega) only [x_X3_startAnew_0, x_X3_startAnew_1, x_X3_startAnew_2, x_X3_startAnew_5, x_X3_startAnew_6, x_X3_startAnew_7, x_X3_startAnew_10, x_X3_startAnew_11, x_X3_startAnew_12, x_X3_startAnew_15, x_X3_startAnew_16, x_X3_startAnew_18, x_X3_startAnew_21, x_X3_startAnew_22, x_X3_startAnew_23, x_X3_startAnew_26, x_X3_startAnew_27, x_X3_startAnew_28, x_X3_startAnew_31, x_X3_startAnew_32, x_X3_startAnew_35, x_X3_startAnew_37, x_X3_startAnew_40, x_X3_startAnew_41, x_X3_startAnew_44, x_X3_startAnew_45, x_X3_startAnew_48, x_X3_startAnew_49, x_X3_startAnew_52, x_X3_startAnew_53, x_X3_startAnew_56, x_X3_startAnew_57, x_X3_startAnew_60, x_X3_startAnew_61, x_X3_startAnew_64, x_X3_startAnew_65, x_X3_startAnew_68, x_X3_startAnew_69, x_X3_startAnew_72, x_X3_startAnew_73, x_X3_startAnew_76, x_X3_startAnew_77, x_X3_startAnew_80, x_X3_startAnew_81, x_X3_startAnew_83, x_X3_startAnew_84, x_X3_startAnew_87, x_X3_startAnew_88, x_X3_startAnew_91, x_X3_startAnew_92, x_X3_startAnew_93, x_X3_startAnew_96, x_X3_startAnew_99, x_X3_startAnew_102, Bool.false_eq_true, am_cl_i, am_cl_r, am_cl_n, am_cl_l, am_cl_0, va_rf_s, va_rf_0, tl_s, tl_n, bi_0, bi_1, bi_z, true_and, and_true, false_and, and_false, true_implies, false_implies, implies_true, not_true_eq_false, not_false_eq_true, and_self, true_or, or_true, false_or, or_false, eq_self, Nat.reduceAdd, Nat.reduceMul, Nat.reduceSub, Nat.reduceDiv, Nat.reduceMod, Nat.reduceLeDiff, Nat.reduceEqDiff, Nat.reduceLT, ix0, ix1, in0, in1, ltr2, ltr3, ltr4, ltr5, ltr6, ltr7, ltr8, ltr9, ltr10, ltr11, ltr12, ltr13, ltr14, ltr15, ltr16, ltr17, ltr20, ltr22, ltr23, ltr24, ltr25, ltr31, ltr32, ltr40, ltr41, ltr42, ltr43, ltr45, ltr47, ltr48, ltr50, ltr52, ltr57, ltr59, ltr60, ltr61, ltr62, ltr64, ltr65, ltr72, ltr77, ltr90, ltr91, ltr97, ltr99, ltr100, ltr122, ltr144, ltr216, ltr236, ltr240, ltr255, ltr256, ltr257, ltr258, ltr259, ltr260, ltr261, ltr262, ltr271, ltr272, ltr273, ltr288, ltr336, ltr380, ltr400, ltr1000, ltr1600, ltr9999, ltr10000, ixN, inN, ltN, leN, eqN, lt0N, le0N, eq0N, eq1N, addN, add1N, mulN, divN, remN, modS, rdN, inCN, inR0, inR1, inRN, inVN, s0, f7, f8, f9, f10, f11, f14, k_fill s1, k_fill s2, k_fill s3, k_fill s4, k_fill s5, k_fill s8, pe]
  rw [← nI_0]
  rw [x_X3_startAnew_82]
  simp (disch := omega) only [x_X3_startAnew_0, x_X3_startAnew_1, x_X3_startAnew_2, x_X3_startAnew_5, x_X3_startAnew_6, x_X3_startAnew_7, x_X3_startAnew_10, x_X3_startAnew_11, x_X3_startAnew_12, x_X3_startAnew_15, x_X3_startAnew_16, x_X3_startAnew_18, x_X3_startAnew_21, x_X3_startAnew_22, x_X3_startAnew_23, x_X3_startAnew_26, x_X3_startAnew_27, x_X3_startAnew_28, x_X3_startAnew_31, x_X3_startAnew_32, x_X3_startAnew_35, x_X3_startAnew_37, x_X3_startAnew_40, x_X3_startAnew_41, x_X3_startAnew_44, x_X3_startAnew_45, x_X3_startAnew_48, x_X3_startAnew_49, x_X3_startAnew_52, x_X3_startAnew_53, x_X3_startAnew_56, x_X3_startAnew_57, x_X3_startAnew_60, x_X3_startAnew_61, x_X3_startAnew_64, x_X3_startAnew_65, x_X3_startAnew_68, x_X3_startAnew_69, x_X3_startAnew_72, x_X3_startAnew_73, x_X3_startAnew_76, x_X3_startAnew_77, x_X3_startAnew_80, x_X3_startAnew_81, x_X3_startAnew_83, x_X3_startAnew_84, x_X3_startAnew_87, x_X3_startAnew_88, x_X3_startAnew_91, x_X3_startAnew_92, x_X3_startAnew_93, x_X3_startAnew_96, x_X3_startAnew_99, x_X3_startAnew_102, Bool.false_eq_true, am_cl_i, am_cl_r, am_cl_n, am_cl_l, am_cl_0, va_rf_s, va_rf_0, tl_s, tl_n, bi_0, bi_1, bi_z, true_and, and_true, false_and, and_false, true_implies, false_implies, implies_true, not_true_eq_false, not_false_eq_true, and_self, true_or, or_true, false_or, or_false, eq_self, Nat.reduceAdd, Nat.reduceMul, Nat.reduceSub, Nat.reduceDiv, Nat.reduceMod, Nat.reduceLeDiff, Nat.reduceEqDiff, Nat.reduceLT, ix0, ix1, in0, in1, ltr2, ltr3, ltr4, ltr5, ltr6, ltr7, ltr8, ltr9, ltr10, ltr11, ltr12, ltr13, ltr14, ltr15, ltr16, ltr17, ltr20, ltr22, ltr23, ltr24, ltr25, ltr31, ltr32, ltr40, ltr41, ltr42, ltr43, ltr45, ltr47, ltr48, ltr50, ltr52, ltr57, ltr59, ltr60, ltr61, ltr62, ltr64, ltr65, ltr72, ltr77, ltr90, ltr91, ltr97, ltr99, ltr100, ltr122, ltr144, ltr216, ltr236, ltr240, ltr255, ltr256, ltr257, ltr258, ltr259, ltr260, ltr261, ltr262, ltr271, ltr272, ltr273, ltr288, ltr336, ltr380, ltr400, ltr1000, ltr1600, ltr9999, ltr10000, ixN, inN, ltN, leN, eqN, lt0N, le0N, eq0N, eq1N, addN, add1N, mulN, divN, remN, modS, rdN, inCN, inR0, inR1, inRN, inVN, s0, s9, f15, b9, q0, t0, k_clear v0, z0]
  rw [x_X3_startAnew_82]
  simp (disch := omega) only [x_X3_startAnew_0, x_X3_startAnew_1, x_X3_startAnew_2, x_X3_startAnew_5, x_X3_startAnew_6, x_X3_startAnew_7, x_X3_startAnew_10, x_X3_startAnew_11, x_X3_startAnew_12, x_X3_startAnew_15, x_X3_startAnew_16, x_X3_startAnew_18, x_X3_startAnew_21, x_X3_startAnew_22, x_X3_startAnew_23, x_X3_startAnew_26, x_X3_startAnew_27, x_X3_startAnew_28, x_X3_startAnew_31, x_X3_startAnew_32, x_X3_startAnew_35, x_X3_startAnew_37, x_X3_startAnew_40, x_X3_startAnew_41, x_X3_startAnew_44, x_X3_startAnew_45, x_X3_startAnew_48, x_X3_startAnew_49, x_X3_startAnew_52, x_X3_startAnew_53, x_X3_startAnew_56, x_X3_startAnew_57, x_X3_startAnew_60, x_X3_startAnew_61, x_X3_startAnew_64, x_X3_startAnew_65, x_X3_startAnew_68, x_X3_startAnew_69, x_X3_startAnew_72, x_X3_startAnew_73, x_X3_startAnew_76, x_X3_startAnew_77, x_X3_startAnew_80, x_X3_startAnew_81, x_X3_startAnew_83, x_X3_startAnew_84, x_X3_startAnew_87, x_X3_startAnew_88, x_X3_startAnew_91, x_X3_startAnew_92, x_X3_startAnew_93, x_X3_startAnew_96, x_X3_startAnew_99, x_X3_startAnew_102, Bool.false_eq_true, am_cl_i, am_cl_r, am_cl_n, am_cl_l, am_cl_0, va_rf_s, va_rf_0, tl_s, tl_n, bi_0, bi_1, bi_z, true_and, and_true, false_and, and_false, true_implies, false_implies, implies_true, not_true_eq_false, not_false_eq_true, and_self, true_or, or_true, false_or, or_false, eq_self, Nat.reduceAdd, Nat.reduceMul, Nat.reduceSub, Nat.reduceDiv, Nat.reduceMod, Nat.reduceLeDiff, Nat.reduceEqDiff, Nat.reduceLT, ix0, ix1, in0, in1, ltr2, ltr3, ltr4, ltr5, ltr6, ltr7, ltr8, ltr9, ltr10, ltr11, ltr12, ltr13, ltr14, ltr15, ltr16, ltr17, ltr20, ltr22, ltr23, ltr24, ltr25, ltr31, ltr32, ltr40, ltr41, ltr42, ltr43, ltr45, ltr47, ltr48, ltr50, ltr52, ltr57, ltr59, ltr60, ltr61, ltr62, ltr64, ltr65, ltr72, ltr77, ltr90, ltr91, ltr97, ltr99, ltr100, ltr122, ltr144, ltr216, ltr236, ltr240, ltr255, ltr256, ltr257, ltr258, ltr259, ltr260, ltr261, ltr262, ltr271, ltr272, ltr273, ltr288, ltr336, ltr380, ltr400, ltr1000, ltr1600, ltr9999, ltr10000, ixN, inN, ltN, leN, eqN, lt0N, le0N, eq0N, eq1N, addN, add1N, mulN, divN, remN, modS, rdN, inCN, inR0, inR1, inRN, inVN, s0, s9, f15, b9, q1, t1, k_clear v1, z1]
  rw [x_X3_startAnew_82]
  simp (disch := omega) only [x_X3_startAnew_0, x_X3_startAnew_1, x_X3_startAnew_2, x_X3_startAnew_5, x_X3_startAnew_6, x_X3_startAnew_7, x_X3_startAnew_10, x_X3_startAnew_11, x_X3_startAnew_12, x_X3_startAnew_15, x_X3_startAnew_16, x_X3_startAnew_18, x_X3_startAnew_21, x_X3_startAnew_22, x_X3_startAnew_23, x_X3_startAnew_26, x_X3_startAnew_27, x_X3_startAnew_28, x_X3_startAnew_31, x_X3_startAnew_32, x_X3_startAnew_35, x_X3_startAnew_37, x_X3_startAnew_40, x_X3_startAnew_41, x_X3_startAnew_44, x_X3_startAnew_45, x_X3_startAnew_48, x_X3_startAnew_49, x_X3_startAnew_52, x_X3_startAnew_53, x_X3_startAnew_56, x_X3_startAnew_57, x_X3_startAnew_60, x_X3_startAnew_61, x_X3_startAnew_64, x_X3_startAnew_65, x_X3_startAnew_68, x_X3_startAnew_69, x_X3_startAnew_72, x_X3_startAnew_73, x_X3_startAnew_76, x_X3_startAnew_77, x_X3_startAnew_80, x_X3_startAnew_81, x_X3_startAnew_83, x_X3_startAnew_84, x_X3_startAnew_87, x_X3_startAnew_88, x_X3_startAnew_91, x_X3_startAnew_92, x_X3_startAnew_93, x_X3_startAnew_96, x_X3_startAnew_99, x_X3_startAnew_102, Bool.false_eq_true, am_cl_i, am_cl_r, am_cl_n, am_cl_l, am_cl_0, va_rf_s, va_rf_0, tl_s, tl_n, bi_0, bi_1, bi_z, true_and, and_true, false_and, and_false, true_implies, false_implies, implies_true, not_true_eq_false, not_false_eq_true, and_self, true_or, or_true, false_or, or_false, eq_self, Nat.reduceAdd, Nat.reduceMul, Nat.reduceSub, Nat.reduceDiv, Nat.reduceMod, Nat.reduceLeDiff, Nat.reduceEqDiff, Nat.reduceLT, ix0, ix1, in0, in1, ltr2, ltr3, ltr4, ltr5, ltr6, ltr7, ltr8, ltr9, ltr10, ltr11, ltr12, ltr13, ltr14, ltr15, ltr16, ltr17, ltr20, ltr22, ltr23, ltr24, ltr25, ltr31, ltr32, ltr40, ltr41, ltr42, ltr43, ltr45, ltr47, ltr48, ltr50, ltr52, ltr57, ltr59, ltr60, ltr61, ltr62, ltr64, ltr65, ltr72, ltr77, ltr90, ltr91, ltr97, ltr99, ltr100, ltr122, ltr144, ltr216, ltr236, ltr240, ltr255, ltr256, ltr257, ltr258, ltr259, ltr260, ltr261, ltr262, ltr271, ltr272, ltr273, ltr288, ltr336, ltr380, ltr400, ltr1000, ltr1600, ltr9999, ltr10000, ixN, inN, ltN, leN, eqN, lt0N, le0N, eq0N, eq1N, addN, add1N, mulN, divN, remN, modS, rdN, inCN, inR0, inR1, inRN, inVN, s0, s9, f15, b9, q2, t2, k_clear v2, z2]
  rw [x_X3_startAnew_82]
  simp (disch := omega) only [x_X3_startAnew_0, x_X3_startAnew_1, x_X3_startAnew_2, x_X3_startAnew_5, x_X3_startAnew_6, x_X3_startAnew_7, x_X3_startAnew_10, x_X3_startAnew_11, x_X3_startAnew_12, x_X3_startAnew_15, x_X3_startAnew_16, x_X3_startAnew_18, x_X3_startAnew_21, x_X3_startAnew_22, x_X3_startAnew_23, x_X3_startAnew_26, x_X3_startAnew_27, x_X3_startAnew_28, x_X3_startAnew_31, x_X3_startAnew_32, x_X3_startAnew_35, x_X3_startAnew_37, x_X3_startAnew_40, x_X3_startAnew_41, x_X3_startAnew_44, x_X3_startAnew_45, x_X3_startAnew_48, x_X3_startAnew_49, x_X3_startAnew_52, x_X3_startAnew_53, x_X3_startAnew_56, x_X3_startAnew_57, x_X3_startAnew_60, x_X3_startAnew_61, x_X3_startAnew_64, x_X3_startAnew_65, x_X3_startAnew_68, x_X3_startAnew_69, x_X3_startAnew_72, x_X3_startAnew_73, x_X3_startAnew_76, x_X3_startAnew_77, x_X3_startAnew_80, x_X3_startAnew_81, x_X3_startAnew_83, x_X3_startAnew_84, x_X3_startAnew_87, x_X3_startAnew_88, x_X3_startAnew_91, x_X3_startAnew_92, x_X3_startAnew_93, x_X3_startAnew_96, x_X3_startAnew_99, x_X3_startAnew_102, Bool.false_eq_true, am_cl_i, am_cl_r, am_cl_n, am_cl_l, am_cl_0, va_rf_s, va_rf_0, tl_s, tl_n, bi_0, bi_1, bi_z, true_and, and_true, false_and, and_false, true_implies, false_implies, implies_true, not_true_eq_false, not_false_eq_true, and_self, true_or, or_true, false_or, or_false, eq_self, Nat.reduceAdd, Nat.reduceMul, Nat.reduceSub, Nat.reduceDiv, Nat.reduceMod, Nat.reduceLeDiff, Nat.reduceEqDiff, Nat.reduceLT, ix0, ix1, in0, in1, ltr2, ltr3, ltr4, ltr5, ltr6, ltr7, ltr8, ltr9, ltr10, ltr11, ltr12, ltr13, ltr14, ltr15, ltr16, ltr17, ltr20, ltr22, ltr23, ltr24, ltr25, ltr31, ltr32, ltr40, ltr41, ltr42, ltr43, ltr45, ltr47, ltr48, ltr50, ltr52, ltr57, ltr59, ltr60, ltr61, ltr62, ltr64, ltr65, ltr72, ltr77, ltr90, ltr91, ltr97, ltr99, ltr100, ltr122, ltr144, ltr216, ltr236, ltr240, ltr255, ltr256, ltr257, ltr258, ltr259, ltr260, ltr261, ltr262, ltr271, ltr272, ltr273, ltr288, ltr336, ltr380, ltr400, ltr1000, ltr1600, ltr9999, ltr10000, ixN, inN, ltN, leN, eqN, lt0N, le0N, eq0N, eq1N, addN, add1N, mulN, divN, remN, modS, rdN, inCN, inR0, inR1, inRN, inVN, s0, s9, f15, b9, q3, t3, k_clear v3, z3]
  rw [x_X3_startAnew_82]
  simp (disch := omega) only [x_X3_startAnew_0, x_X3_startAnew_1, x_X3_startAnew_2, x_X3_startAnew_5, x_X3_startAnew_6, x_X3_startAnew_7, x_X3_startAnew_10, x_X3_startAnew_11, x_X3_startAnew_12, x_X3_startAnew_15, x_X3_startAnew_16, x_X3_startAnew_18, x_X3_startAnew_21, x_X3_startAnew_22, x_X3_startAnew_23, x_X3_startAnew_26, x_X3_startAnew_27, x_X3_startAnew_28, x_X3_startAnew_31, x_X3_startAnew_32, x_X3_startAnew_35, x_X3_startAnew_37, x_X3_startAnew_40, x_X3_startAnew_41, x_X3_startAnew_44, x_X3_startAnew_45, x_X3_startAnew_48, x_X3_startAnew_49, x_X3_startAnew_52, x_X3_startAnew_53, x_X3_startAnew_56, x_X3_startAnew_57, x_X3_startAnew_60, x_X3_startAnew_61, x_X3_startAnew_64, x_X3_startAnew_65, x_X3_startAnew_68, x_X3_startAnew_69, x_X3_startAnew_72, x_X3_startAnew_73, x_X3_startAnew_76, x_X3_startAnew_77, x_X3_startAnew_80, x_X3_startAnew_81, x_X3_startAnew_83, x_X3_startAnew_84, x_X3_startAnew_87, x_X3_startAnew_88, x_X3_startAnew_91, x_X3_startAnew_92, x_X3_startAnew_93, x_X3_startAnew_96, x_X3_startAnew_99, x_X3_startAnew_102, Bool.false_eq_true, am_cl_i, am_cl_r, am_cl_n, am_cl_l, am_cl_0, va_rf_s, va_rf_0, tl_s, tl_n, bi_0, bi_1, bi_z, true_and, and_true, false_and, and_false, true_implies, false_implies, implies_true, not_true_eq_false, not_false_eq_true, and_self, true_or, or_true, false_or, or_false, eq_self, Nat.reduceAdd, Nat.reduceMul, Nat.reduceSub, Nat.reduceDiv, Nat.reduceMod, Nat.reduceLeDiff, Nat.reduceEqDiff, Nat.reduceLT, ix0, ix1, in0, in1, ltr2, ltr3, ltr4, ltr5, ltr6, ltr7, ltr8, ltr9, ltr10, ltr11, ltr12, ltr13, ltr14, ltr15, ltr16, ltr17, ltr20, ltr22, ltr23, ltr24, ltr25, ltr31, ltr32, ltr40, ltr41, ltr42, ltr43, ltr45, ltr47, ltr48, ltr50, ltr52, ltr57, ltr59, ltr60, ltr61, ltr62, ltr64, ltr65, ltr72, ltr77, ltr90, ltr91, ltr97, ltr99, ltr100, ltr122, ltr144, ltr216, ltr236, ltr240, ltr255, ltr256, ltr257, ltr258, ltr259, ltr260, ltr261, ltr262, ltr271, ltr272, ltr273, ltr288, ltr336, ltr380, ltr400, ltr1000, ltr1600, ltr9999, ltr10000, ixN, inN, ltN, leN, eqN, lt0N, le0N, eq0N, eq1N, addN, add1N, mulN, divN, remN, modS, rdN, inCN, inR0, inR1, inRN, inVN]
end MAK3
