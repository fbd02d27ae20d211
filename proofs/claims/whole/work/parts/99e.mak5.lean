section MAK5
variable {d : Nat} {k : am_k} {g : am_G} {I I' I1 I0 : Nat → Nat → Int32} {J : Nat → Nat → Int64} {R R' R1 R0 : Nat → Nat → Option Nat} {r : Nat → Option Nat} {a x y : Int32} {L : Nat} {b c e p q n n' u t m l o s i j ci : Nat}
theorem ltr401 : (401 : Int32) = nI 401 := by decide
theorem k_vyInit (hI : I 221 = fun _ => 0) (hR : R 221 = fun _ => none) (hk : ∀ I' J R', MKC I I' R R' 221 223 → k none (gP L 215) I' J R') : ac (d + 2) mX10_init [.ref 221, .ref 9] (gP L 214) I J R k := by
  have g0 : mkG (gP L 214) 0 10 = gP L 215 := gP_mk rfl
  have o0 : okO (gP L 215) 10 221 := gP_ok (q := 0) rfl (by omega) (by omega)
  rw [e_X10_init]
  simp (disch := omega) only [x_X10_init_0, x_X10_init_1, x_X10_init_4, x_X10_init_5, x_X10_init_7, x_X10_init_9, x_X10_init_12, x_X10_init_13, x_X10_init_13N, x_X10_init_14, x_X10_init_17, Bool.false_eq_true, am_cl_i, am_cl_r, am_cl_n, am_cl_l, am_cl_0, va_rf_s, va_rf_0, tl_s, tl_n, bi_0, bi_1, bi_z, true_and, and_true, false_and, and_false, true_implies, false_implies, implies_true, not_true_eq_false, not_false_eq_true, and_self, true_or, or_true, false_or, or_false, eq_self, Nat.reduceAdd, Nat.reduceMul, Nat.reduceSub, Nat.reduceDiv, Nat.reduceMod, Nat.reduceLeDiff, Nat.reduceEqDiff, Nat.reduceLT, ix0, ix1, in0, in1, ltr2, ltr3, ltr4, ltr5, ltr6, ltr7, ltr8, ltr9, ltr10, ltr11, ltr12, ltr13, ltr14, ltr15, ltr16, ltr17, ltr20, ltr22, ltr23, ltr24, ltr25, ltr31, ltr32, ltr40, ltr41, ltr42, ltr43, ltr45, ltr47, ltr48, ltr50, ltr52, ltr57, ltr59, ltr60, ltr61, ltr62, ltr64, ltr65, ltr72, ltr77, ltr90, ltr91, ltr97, ltr99, ltr100, ltr122, ltr144, ltr216, ltr236, ltr240, ltr255, ltr256, ltr257, ltr258, ltr259, ltr260, ltr261, ltr262, ltr271, ltr272, ltr273, ltr288, ltr336, ltr380, ltr400, ltr1000, ltr1600, ltr9999, ltr10000, ixN, inN, ltN, leN, eqN, lt0N, le0N, eq0N, eq1N, addN, add1N, mulN, divN, remN, modS, rdN, inCN, inR0, inR1, inRN, inVN, ltr401, gP_1, Nat.le_refl, g0, o0, mkR_e (L := L) (show 8 + 214 = 222 from rfl)]
  refine hk _ _ _ ⟨fun q h => ?_, fun q h => ?_, fun q h1 h2 => ?_⟩
  · simp (disch := omega) only [rwA, upR]
  · simp (disch := omega) only [rwA, upR]
  · have hq : q = 221 ∨ q = 222 := by omega
    rcases hq with rfl | rfl
    · refine ⟨?_, ?_⟩
      · simp (disch := omega) only [rwA, upR, rwS, hI]
        rfl
      simp (disch := omega) only [rwA, upR, rwS, upW, hR]
      funext j
      by_cases e1 : j = 1
      · subst e1; rfl
      by_cases e0 : j = 0
      · subst e0; rfl
      rw [vu_n e0, vu_n e1]
      show none = (if j = 0 then some 9 else if j = 1 then some 222 else none)
      rw [if_neg e0, if_neg e1]
    · refine ⟨?_, ?_⟩
      · simp (disch := omega) only [rwA, upR, rwS]
        rfl
      simp (disch := omega) only [rwA, upR, rwS]
      rfl
theorem k_tpInit (hI : I 223 = fun _ => 0) (hR : R 223 = fun _ => none) (hk : ∀ I' J R', MKC I I' R R' 223 227 → k none (gP L 219) I' J R') : ac (d + 2) mX7_init [.ref 223] (gP L 216) I J R k := by
  have g0 : mkG (gP L 216) 2 400 = gP L 217 := gP_mk rfl
  have o0 : okO (gP L 217) 7 223 := gP_ok (q := 0) rfl (by omega) (by omega)
  have g1 : mkG (gP L 217) 0 401 = gP L 218 := gP_mk rfl
  have o1 : okO (gP L 218) 7 223 := gP_ok (q := 0) rfl (by omega) (by omega)
  have g2 : mkG (gP L 218) 0 401 = gP L 219 := gP_mk rfl
  have o2 : okO (gP L 219) 7 223 := gP_ok (q := 0) rfl (by omega) (by omega)
  rw [e_X7_init]
  simp (disch := omega) only [x_X7_init_0, x_X7_init_1, x_X7_init_4, x_X7_init_5, x_X7_init_8, x_X7_init_10, x_X7_init_13, x_X7_init_14, x_X7_init_17, x_X7_init_19, x_X7_init_22, x_X7_init_23, x_X7_init_26, x_X7_init_28, x_X7_init_31, Bool.false_eq_true, am_cl_i, am_cl_r, am_cl_n, am_cl_l, am_cl_0, va_rf_s, va_rf_0, tl_s, tl_n, bi_0, bi_1, bi_z, true_and, and_true, false_and, and_false, true_implies, false_implies, implies_true, not_true_eq_false, not_false_eq_true, and_self, true_or, or_true, false_or, or_false, eq_self, Nat.reduceAdd, Nat.reduceMul, Nat.reduceSub, Nat.reduceDiv, Nat.reduceMod, Nat.reduceLeDiff, Nat.reduceEqDiff, Nat.reduceLT, ix0, ix1, in0, in1, ltr2, ltr3, ltr4, ltr5, ltr6, ltr7, ltr8, ltr9, ltr10, ltr11, ltr12, ltr13, ltr14, ltr15, ltr16, ltr17, ltr20, ltr22, ltr23, ltr24, ltr25, ltr31, ltr32, ltr40, ltr41, ltr42, ltr43, ltr45, ltr47, ltr48, ltr50, ltr52, ltr57, ltr59, ltr60, ltr61, ltr62, ltr64, ltr65, ltr72, ltr77, ltr90, ltr91, ltr97, ltr99, ltr100, ltr122, ltr144, ltr216, ltr236, ltr240, ltr255, ltr256, ltr257, ltr258, ltr259, ltr260, ltr261, ltr262, ltr271, ltr272, ltr273, ltr288, ltr336, ltr380, ltr400, ltr1000, ltr1600, ltr9999, ltr10000, ixN, inN, ltN, leN, eqN, lt0N, le0N, eq0N, eq1N, addN, add1N, mulN, divN, remN, modS, rdN, inCN, inR0, inR1, inRN, inVN, ltr401, gP_1, Nat.le_refl, g0, o0, mkR_e (L := L) (show 8 + 216 = 224 from rfl), g1, o1, mkR_e (L := L) (show 8 + 217 = 225 from rfl), g2, o2, mkR_e (L := L) (show 8 + 218 = 226 from rfl)]
  refine hk _ _ _ ⟨fun q h => ?_, fun q h => ?_, fun q h1 h2 => ?_⟩
  · simp (disch := omega) only [rwA, upR]
  · simp (disch := omega) only [rwA, upR]
  · have hq : q = 223 ∨ q = 224 ∨ q = 225 ∨ q = 226 := by omega
    rcases hq with rfl | rfl | rfl | rfl
    · refine ⟨?_, ?_⟩
      · simp (disch := omega) only [rwA, upR, rwS, hI]
        rfl
      simp (disch := omega) only [rwA, upR, rwS, upW, hR]
      funext j
      by_cases e0 : j = 0
      · subst e0; rfl
      by_cases e2 : j = 2
      · subst e2; rfl
      by_cases e3 : j = 3
      · subst e3; rfl
      rw [vu_n e3, vu_n e2, vu_n e0]
      show none = (if j = 0 then some 224 else if j = 2 then some 225 else if j = 3 then some 226 else none)
      rw [if_neg e0, if_neg e2, if_neg e3]
    · refine ⟨?_, ?_⟩
      · simp (disch := omega) only [rwA, upR, rwS]
        rfl
      simp (disch := omega) only [rwA, upR, rwS]
      rfl
    · refine ⟨?_, ?_⟩
      · simp (disch := omega) only [rwA, upR, rwS]
        rfl
      simp (disch := omega) only [rwA, upR, rwS]
      rfl
    · refine ⟨?_, ?_⟩
      · simp (disch := omega) only [rwA, upR, rwS]
        rfl
      simp (disch := omega) only [rwA, upR, rwS]
      rfl
theorem k_r1Init (hI : I 233 = fun _ => 0) (hR : R 233 = fun _ => none) (h9 : R 9 12 = some 15) (h15 : R 15 0 = some 19) (hk : ∀ I' J R', MKC I I' R R' 233 239 → k none (gP L 231) I' J R') : ac (d + 2) mX4_init [.ref 233, .ref 9] (gP L 226) I J R k := by
  have g0 : mkG (gP L 226) 0 12 = gP L 227 := gP_mk rfl
  have o0 : okO (gP L 227) 4 233 := gP_ok (q := 0) rfl (by omega) (by omega)
  have g1 : mkG (gP L 227) 0 12 = gP L 228 := gP_mk rfl
  have o1 : okO (gP L 228) 4 233 := gP_ok (q := 0) rfl (by omega) (by omega)
  have g2 : mkG (gP L 228) 0 12 = gP L 229 := gP_mk rfl
  have o2 : okO (gP L 229) 4 233 := gP_ok (q := 0) rfl (by omega) (by omega)
  have g3 : mkG (gP L 229) 0 12 = gP L 230 := gP_mk rfl
  have o3 : okO (gP L 230) 4 233 := gP_ok (q := 0) rfl (by omega) (by omega)
  have g4 : mkG (gP L 230) 0 12 = gP L 231 := gP_mk rfl
  have o4 : okO (gP L 231) 4 233 := gP_ok (q := 0) rfl (by omega) (by omega)
  have c5 : okO (gP L 231) 3 9 := gP_ok (q := 0) rfl (by omega) (by omega)
  have g15 : (gP L 231).2 15 = (19, 10) := by rw [gP_2 (by omega)]; rfl
  rw [e_X4_init]
  simp (disch := omega) only [x_X4_init_0, x_X4_init_1, x_X4_init_4, x_X4_init_5, x_X4_init_7, x_X4_init_9, x_X4_init_12, x_X4_init_13, x_X4_init_15, x_X4_init_17, x_X4_init_20, x_X4_init_21, x_X4_init_23, x_X4_init_25, x_X4_init_28, x_X4_init_29, x_X4_init_31, x_X4_init_33, x_X4_init_36, x_X4_init_37, x_X4_init_39, x_X4_init_41, x_X4_init_44, x_X4_init_45, x_X4_init_45N, x_X4_init_46, x_X4_init_49, x_X4_init_50, x_X4_init_50N, x_X4_init_51, x_X4_init_54, x_X4_init_55, x_X4_init_56, x_X4_init_59, Bool.false_eq_true, am_cl_i, am_cl_r, am_cl_n, am_cl_l, am_cl_0, va_rf_s, va_rf_0, tl_s, tl_n, bi_0, bi_1, bi_z, true_and, and_true, false_and, and_false, true_implies, false_implies, implies_true, not_true_eq_false, not_false_eq_true, and_self, true_or, or_true, false_or, or_false, eq_self, Nat.reduceAdd, Nat.reduceMul, Nat.reduceSub, Nat.reduceDiv, Nat.reduceMod, Nat.reduceLeDiff, Nat.reduceEqDiff, Nat.reduceLT, ix0, ix1, in0, in1, ltr2, ltr3, ltr4, ltr5, ltr6, ltr7, ltr8, ltr9, ltr10, ltr11, ltr12, ltr13, ltr14, ltr15, ltr16, ltr17, ltr20, ltr22, ltr23, ltr24, ltr25, ltr31, ltr32, ltr40, ltr41, ltr42, ltr43, ltr45, ltr47, ltr48, ltr50, ltr52, ltr57, ltr59, ltr60, ltr61, ltr62, ltr64, ltr65, ltr72, ltr77, ltr90, ltr91, ltr97, ltr99, ltr100, ltr122, ltr144, ltr216, ltr236, ltr240, ltr255, ltr256, ltr257, ltr258, ltr259, ltr260, ltr261, ltr262, ltr271, ltr272, ltr273, ltr288, ltr336, ltr380, ltr400, ltr1000, ltr1600, ltr9999, ltr10000, ixN, inN, ltN, leN, eqN, lt0N, le0N, eq0N, eq1N, addN, add1N, mulN, divN, remN, modS, rdN, inCN, inR0, inR1, inRN, inVN, ltr401, gP_1, Nat.le_refl, g0, o0, mkR_e (L := L) (show 8 + 226 = 234 from rfl), g1, o1, mkR_e (L := L) (show 8 + 227 = 235 from rfl), g2, o2, mkR_e (L := L) (show 8 + 228 = 236 from rfl), g3, o3, mkR_e (L := L) (show 8 + 229 = 237 from rfl), g4, o4, mkR_e (L := L) (show 8 + 230 = 238 from rfl), c5, g15, upA, rwA, h9, h15]
  refine hk _ _ _ ⟨fun q h => ?_, fun q h => ?_, fun q h1 h2 => ?_⟩
  · simp (disch := omega) only [rwA, upR]
  · simp (disch := omega) only [rwA, upR]
  · have hq : q = 233 ∨ q = 234 ∨ q = 235 ∨ q = 236 ∨ q = 237 ∨ q = 238 := by omega
    rcases hq with rfl | rfl | rfl | rfl | rfl | rfl
    · refine ⟨?_, ?_⟩
      · simp (disch := omega) only [rwA, upR, rwS, hI]
        rfl
      simp (disch := omega) only [rwA, upR, rwS, upW, hR]
      funext j
      by_cases e0 : j = 0
      · subst e0; rfl
      by_cases e1 : j = 1
      · subst e1; rfl
      by_cases e2 : j = 2
      · subst e2; rfl
      by_cases e3 : j = 3
      · subst e3; rfl
      by_cases e4 : j = 4
      · subst e4; rfl
      by_cases e5 : j = 5
      · subst e5; rfl
      by_cases e6 : j = 6
      · subst e6; rfl
      rw [vu_n e6, vu_n e5, vu_n e4, vu_n e3, vu_n e2, vu_n e1, vu_n e0]
      show none = rRe (some 19) 233 j
      unfold rRe
      rw [if_neg (by omega), if_neg e5, if_neg e6]
    · refine ⟨?_, ?_⟩
      · simp (disch := omega) only [rwA, upR, rwS]
        rfl
      simp (disch := omega) only [rwA, upR, rwS]
      rfl
    · refine ⟨?_, ?_⟩
      · simp (disch := omega) only [rwA, upR, rwS]
        rfl
      simp (disch := omega) only [rwA, upR, rwS]
      rfl
    · refine ⟨?_, ?_⟩
      · simp (disch := omega) only [rwA, upR, rwS]
        rfl
      simp (disch := omega) only [rwA, upR, rwS]
      rfl
    · refine ⟨?_, ?_⟩
      · simp (disch := omega) only [rwA, upR, rwS]
        rfl
      simp (disch := omega) only [rwA, upR, rwS]
      rfl
    · refine ⟨?_, ?_⟩
      · simp (disch := omega) only [rwA, upR, rwS]
        rfl
      simp (disch := omega) only [rwA, upR, rwS]
      rfl
theorem k_r2Init (hI : I 239 = fun _ => 0) (hR : R 239 = fun _ => none) (h9 : R 9 12 = some 15) (h15 : R 15 0 = some 19) (hk : ∀ I' J R', MKC I I' R R' 239 245 → k none (gP L 237) I' J R') : ac (d + 2) mX4_init [.ref 239, .ref 9] (gP L 232) I J R k := by
  have g0 : mkG (gP L 232) 0 12 = gP L 233 := gP_mk rfl
  have o0 : okO (gP L 233) 4 239 := gP_ok (q := 0) rfl (by omega) (by omega)
  have g1 : mkG (gP L 233) 0 12 = gP L 234 := gP_mk rfl
  have o1 : okO (gP L 234) 4 239 := gP_ok (q := 0) rfl (by omega) (by omega)
  have g2 : mkG (gP L 234) 0 12 = gP L 235 := gP_mk rfl
  have o2 : okO (gP L 235) 4 239 := gP_ok (q := 0) rfl (by omega) (by omega)
  have g3 : mkG (gP L 235) 0 12 = gP L 236 := gP_mk rfl
  have o3 : okO (gP L 236) 4 239 := gP_ok (q := 0) rfl (by omega) (by omega)
  have g4 : mkG (gP L 236) 0 12 = gP L 237 := gP_mk rfl
  have o4 : okO (gP L 237) 4 239 := gP_ok (q := 0) rfl (by omega) (by omega)
  have c5 : okO (gP L 237) 3 9 := gP_ok (q := 0) rfl (by omega) (by omega)
  have g15 : (gP L 237).2 15 = (19, 10) := by rw [gP_2 (by omega)]; rfl
  rw [e_X4_init]
  simp (disch := omega) only [x_X4_init_0, x_X4_init_1, x_X4_init_4, x_X4_init_5, x_X4_init_7, x_X4_init_9, x_X4_init_12, x_X4_init_13, x_X4_init_15, x_X4_init_17, x_X4_init_20, x_X4_init_21, x_X4_init_23, x_X4_init_25, x_X4_init_28, x_X4_init_29, x_X4_init_31, x_X4_init_33, x_X4_init_36, x_X4_init_37, x_X4_init_39, x_X4_init_41, x_X4_init_44, x_X4_init_45, x_X4_init_45N, x_X4_init_46, x_X4_init_49, x_X4_init_50, x_X4_init_50N, x_X4_init_51, x_X4_init_54, x_X4_init_55, x_X4_init_56, x_X4_init_59, Bool.false_eq_true, am_cl_i, am_cl_r, am_cl_n, am_cl_l, am_cl_0, va_rf_s, va_rf_0, tl_s, tl_n, bi_0, bi_1, bi_z, true_and, and_true, false_and, and_false, true_implies, false_implies, implies_true, not_true_eq_false, not_false_eq_true, and_self, true_or, or_true, false_or, or_false, eq_self, Nat.reduceAdd, Nat.reduceMul, Nat.reduceSub, Nat.reduceDiv, Nat.reduceMod, Nat.reduceLeDiff, Nat.reduceEqDiff, Nat.reduceLT, ix0, ix1, in0, in1, ltr2, ltr3, ltr4, ltr5, ltr6, ltr7, ltr8, ltr9, ltr10, ltr11, ltr12, ltr13, ltr14, ltr15, ltr16, ltr17, ltr20, ltr22, ltr23, ltr24, ltr25, ltr31, ltr32, ltr40, ltr41, ltr42, ltr43, ltr45, ltr47, ltr48, ltr50, ltr52, ltr57, ltr59, ltr60, ltr61, ltr62, ltr64, ltr65, ltr72, ltr77, ltr90, ltr91, ltr97, ltr99, ltr100, ltr122, ltr144, ltr216, ltr236, ltr240, ltr255, ltr256, ltr257, ltr258, ltr259, ltr260, ltr261, ltr262, ltr271, ltr272, ltr273, ltr288, ltr336, ltr380, ltr400, ltr1000, ltr1600, ltr9999, ltr10000, ixN, inN, ltN, leN, eqN, lt0N, le0N, eq0N, eq1N, addN, add1N, mulN, divN, remN, modS, rdN, inCN, inR0, inR1, inRN, inVN, ltr401, gP_1, Nat.le_refl, g0, o0, mkR_e (L := L) (show 8 + 232 = 240 from rfl), g1, o1, mkR_e (L := L) (show 8 + 233 = 241 from rfl), g2, o2, mkR_e (L := L) (show 8 + 234 = 242 from rfl), g3, o3, mkR_e (L := L) (show 8 + 235 = 243 from rfl), g4, o4, mkR_e (L := L) (show 8 + 236 = 244 from rfl), c5, g15, upA, rwA, h9, h15]
  refine hk _ _ _ ⟨fun q h => ?_, fun q h => ?_, fun q h1 h2 => ?_⟩
  · simp (disch := omega) only [rwA, upR]
  · simp (disch := omega) only [rwA, upR]
  · have hq : q = 239 ∨ q = 240 ∨ q = 241 ∨ q = 242 ∨ q = 243 ∨ q = 244 := by omega
    rcases hq with rfl | rfl | rfl | rfl | rfl | rfl
    · refine ⟨?_, ?_⟩
      · simp (disch := omega) only [rwA, upR, rwS, hI]
        rfl
      simp (disch := omega) only [rwA, upR, rwS, upW, hR]
      funext j
      by_cases e0 : j = 0
      · subst e0; rfl
      by_cases e1 : j = 1
      · subst e1; rfl
      by_cases e2 : j = 2
      · subst e2; rfl
      by_cases e3 : j = 3
      · subst e3; rfl
      by_cases e4 : j = 4
      · subst e4; rfl
      by_cases e5 : j = 5
      · subst e5; rfl
      by_cases e6 : j = 6
      · subst e6; rfl
      rw [vu_n e6, vu_n e5, vu_n e4, vu_n e3, vu_n e2, vu_n e1, vu_n e0]
      show none = rRe (some 19) 239 j
      unfold rRe
      rw [if_neg (by omega), if_neg e5, if_neg e6]
    · refine ⟨?_, ?_⟩
      · simp (disch := omega) only [rwA, upR, rwS]
        rfl
      simp (disch := omega) only [rwA, upR, rwS]
      rfl
    · refine ⟨?_, ?_⟩
      · simp (disch := omega) only [rwA, upR, rwS]
        rfl
      simp (disch := omega) only [rwA, upR, rwS]
      rfl
    · refine ⟨?_, ?_⟩
      · simp (disch := omega) only [rwA, upR, rwS]
        rfl
      simp (disch := omega) only [rwA, upR, rwS]
      rfl
    · refine ⟨?_, ?_⟩
      · simp (disch := omega) only [rwA, upR, rwS]
        rfl
      simp (disch := omega) only [rwA, upR, rwS]
      rfl
    · refine ⟨?_, ?_⟩
      · simp (disch := omega) only [rwA, upR, rwS]
        rfl
      simp (disch := omega) only [rwA, upR, rwS]
      rfl
theorem k_chInit (hI : I 246 = fun _ => 0) (hR : R 246 = fun _ => none) (hk : ∀ I' J R', MKC I I' R R' 246 249 → k none (gP L 241) I' J R') : ac (d + 2) mX0_init [.ref 246, .ref 9, .ref 233] (gP L 239) I J R k := by
  have g0 : mkG (gP L 239) 1 144 = gP L 240 := gP_mk rfl
  have o0 : okO (gP L 240) 0 246 := gP_ok (q := 0) rfl (by omega) (by omega)
  have g1 : mkG (gP L 240) 1 144 = gP L 241 := gP_mk rfl
  have o1 : okO (gP L 241) 0 246 := gP_ok (q := 0) rfl (by omega) (by omega)
  rw [e_X0_init]
  simp (disch := omega) only [x_X0_init_0, x_X0_init_1, x_X0_init_4, x_X0_init_5, x_X0_init_8, x_X0_init_10, x_X0_init_13, x_X0_init_14, x_X0_init_17, x_X0_init_19, x_X0_init_22, x_X0_init_23, x_X0_init_23N, x_X0_init_24, x_X0_init_27, x_X0_init_28, x_X0_init_28N, x_X0_init_29, x_X0_init_32, Bool.false_eq_true, am_cl_i, am_cl_r, am_cl_n, am_cl_l, am_cl_0, va_rf_s, va_rf_0, tl_s, tl_n, bi_0, bi_1, bi_z, true_and, and_true, false_and, and_false, true_implies, false_implies, implies_true, not_true_eq_false, not_false_eq_true, and_self, true_or, or_true, false_or, or_false, eq_self, Nat.reduceAdd, Nat.reduceMul, Nat.reduceSub, Nat.reduceDiv, Nat.reduceMod, Nat.reduceLeDiff, Nat.reduceEqDiff, Nat.reduceLT, ix0, ix1, in0, in1, ltr2, ltr3, ltr4, ltr5, ltr6, ltr7, ltr8, ltr9, ltr10, ltr11, ltr12, ltr13, ltr14, ltr15, ltr16, ltr17, ltr20, ltr22, ltr23, ltr24, ltr25, ltr31, ltr32, ltr40, ltr41, ltr42, ltr43, ltr45, ltr47, ltr48, ltr50, ltr52, ltr57, ltr59, ltr60, ltr61, ltr62, ltr64, ltr65, ltr72, ltr77, ltr90, ltr91, ltr97, ltr99, ltr100, ltr122, ltr144, ltr216, ltr236, ltr240, ltr255, ltr256, ltr257, ltr258, ltr259, ltr260, ltr261, ltr262, ltr271, ltr272, ltr273, ltr288, ltr336, ltr380, ltr400, ltr1000, ltr1600, ltr9999, ltr10000, ixN, inN, ltN, leN, eqN, lt0N, le0N, eq0N, eq1N, addN, add1N, mulN, divN, remN, modS, rdN, inCN, inR0, inR1, inRN, inVN, ltr401, gP_1, Nat.le_refl, g0, o0, mkR_e (L := L) (show 8 + 239 = 247 from rfl), g1, o1, mkR_e (L := L) (show 8 + 240 = 248 from rfl)]
  refine hk _ _ _ ⟨fun q h => ?_, fun q h => ?_, fun q h1 h2 => ?_⟩
  · simp (disch := omega) only [rwA, upR]
  · simp (disch := omega) only [rwA, upR]
  · have hq : q = 246 ∨ q = 247 ∨ q = 248 := by omega
    rcases hq with rfl | rfl | rfl
    · refine ⟨?_, ?_⟩
      · simp (disch := omega) only [rwA, upR, rwS, hI]
        rfl
      simp (disch := omega) only [rwA, upR, rwS, upW, hR]
      funext j
      by_cases e0 : j = 0
      · subst e0; rfl
      by_cases e1 : j = 1
      · subst e1; rfl
      by_cases e2 : j = 2
      · subst e2; rfl
      by_cases e3 : j = 3
      · subst e3; rfl
      rw [vu_n e3, vu_n e2, vu_n e1, vu_n e0]
      show none = (if j = 0 then w0 5 else if j = 1 then w0 6 else if j = 2 then some 9 else if j = 3 then some 233 else none)
      rw [if_neg e0, if_neg e1, if_neg e2, if_neg e3]
    · refine ⟨?_, ?_⟩
      · simp (disch := omega) only [rwA, upR, rwS]
        rfl
      simp (disch := omega) only [rwA, upR, rwS]
      rfl
    · refine ⟨?_, ?_⟩
      · simp (disch := omega) only [rwA, upR, rwS]
        rfl
      simp (disch := omega) only [rwA, upR, rwS]
      rfl
theorem k_rdInit (hI : I 227 = fun _ => 0) (hR : R 227 = fun _ => none) (hk : ∀ I' J R', MKC I I' R R' 227 233 → k none (gP L 225) I' J R') : ac (d + 3) mX5_init [.ref 227, .ref 223] (gP L 220) I J R k := by
  have g0 : mkG (gP L 220) 101 0 = gP L 221 := gP_mk rfl
  have o5 : okO (gP L 225) 5 227 := gP_ok (q := 0) rfl (by omega) (by omega)
  rw [e_X5_init]
  simp (disch := omega) only [x_X5_init_0, x_X5_init_1, x_X5_init_4, x_X5_init_5, x_X5_init_8, x_X5_init_9, x_X5_init_12, x_X5_init_15, x_X5_init_16, x_X5_init_17, x_X5_init_20, x_X5_init_21, x_X5_init_21N, x_X5_init_22, x_X5_init_25, Bool.false_eq_true, am_cl_i, am_cl_r, am_cl_n, am_cl_l, am_cl_0, va_rf_s, va_rf_0, tl_s, tl_n, bi_0, bi_1, bi_z, true_and, and_true, false_and, and_false, true_implies, false_implies, implies_true, not_true_eq_false, not_false_eq_true, and_self, true_or, or_true, false_or, or_false, eq_self, Nat.reduceAdd, Nat.reduceMul, Nat.reduceSub, Nat.reduceDiv, Nat.reduceMod, Nat.reduceLeDiff, Nat.reduceEqDiff, Nat.reduceLT, ix0, ix1, in0, in1, ltr2, ltr3, ltr4, ltr5, ltr6, ltr7, ltr8, ltr9, ltr10, ltr11, ltr12, ltr13, ltr14, ltr15, ltr16, ltr17, ltr20, ltr22, ltr23, ltr24, ltr25, ltr31, ltr32, ltr40, ltr41, ltr42, ltr43, ltr45, ltr47, ltr48, ltr50, ltr52, ltr57, ltr59, ltr60, ltr61, ltr62, ltr64, ltr65, ltr72, ltr77, ltr90, ltr91, ltr97, ltr99, ltr100, ltr122, ltr144, ltr216, ltr236, ltr240, ltr255, ltr256, ltr257, ltr258, ltr259, ltr260, ltr261, ltr262, ltr271, ltr272, ltr273, ltr288, ltr336, ltr380, ltr400, ltr1000, ltr1600, ltr9999, ltr10000, ixN, inN, ltN, leN, eqN, lt0N, le0N, eq0N, eq1N, addN, add1N, mulN, divN, remN, modS, rdN, inCN, inR0, inR1, inRN, inVN, gP_1, Nat.le_refl, g0, mkR_e (L := L) (show 8 + 220 = 228 from rfl)]
  refine k_oInit (d := d) (n := 221) rfl rfl rfl rfl rfl (by omega) rwS ?_
  intro J2
  simp (disch := omega) only [x_X5_init_0, x_X5_init_1, x_X5_init_4, x_X5_init_5, x_X5_init_8, x_X5_init_9, x_X5_init_12, x_X5_init_15, x_X5_init_16, x_X5_init_17, x_X5_init_20, x_X5_init_21, x_X5_init_21N, x_X5_init_22, x_X5_init_25, Bool.false_eq_true, am_cl_i, am_cl_r, am_cl_n, am_cl_l, am_cl_0, va_rf_s, va_rf_0, tl_s, tl_n, bi_0, bi_1, bi_z, true_and, and_true, false_and, and_false, true_implies, false_implies, implies_true, not_true_eq_false, not_false_eq_true, and_self, true_or, or_true, false_or, or_false, eq_self, Nat.reduceAdd, Nat.reduceMul, Nat.reduceSub, Nat.reduceDiv, Nat.reduceMod, Nat.reduceLeDiff, Nat.reduceEqDiff, Nat.reduceLT, ix0, ix1, in0, in1, ltr2, ltr3, ltr4, ltr5, ltr6, ltr7, ltr8, ltr9, ltr10, ltr11, ltr12, ltr13, ltr14, ltr15, ltr16, ltr17, ltr20, ltr22, ltr23, ltr24, ltr25, ltr31, ltr32, ltr40, ltr41, ltr42, ltr43, ltr45, ltr47, ltr48, ltr50, ltr52, ltr57, ltr59, ltr60, ltr61, ltr62, ltr64, ltr65, ltr72, ltr77, ltr90, ltr91, ltr97, ltr99, ltr100, ltr122, ltr144, ltr216, ltr236, ltr240, ltr255, ltr256, ltr257, ltr258, ltr259, ltr260, ltr261, ltr262, ltr271, ltr272, ltr273, ltr288, ltr336, ltr380, ltr400, ltr1000, ltr1600, ltr9999, ltr10000, ixN, inN, ltN, leN, eqN, lt0N, le0N, eq0N, eq1N, addN, add1N, mulN, divN, remN, modS, rdN, inCN, inR0, inR1, inRN, inVN, Nat.le_refl, o5]
  refine hk _ _ _ ⟨fun q h => ?_, fun q h => ?_, fun q h1 h2 => ?_⟩
  · rw [upR (by omega)]
    unfold zr
    rw [if_neg (by omega), rwA (by omega)]
  · rw [upR (by omega), upR (by omega), rwA (by omega)]
    unfold zr
    rw [if_neg (by omega), rwA (by omega)]
  · by_cases e : q = 227
    · subst e
      refine ⟨?_, ?_⟩
      · rw [upW, zr_o (by omega), rwA (by omega), hI]
        rfl
      rw [upW, upW, rwA (by omega), zr_o (by omega), rwA (by omega), hR]
      funext j
      by_cases e0 : j = 0
      · subst e0; rfl
      by_cases e1 : j = 1
      · subst e1; rfl
      rw [vu_n e0, vu_n e1]
      show none = (if j = 0 then some 223 else if j = 1 then w0 4 else none)
      rw [if_neg e0, if_neg e1]
    refine ⟨?_, ?_⟩
    · rw [upR e]
      by_cases e8 : q = 228
      · subst e8
        rw [zr_o (by omega), rwS]
        rfl
      · rw [zr_i (by omega) (by omega)]
        unfold iF
        rw [if_neg (by omega), if_neg (by omega), if_neg (by omega), if_neg (by omega), if_neg (by omega), if_neg (by omega), if_neg (by omega)]
    · rw [upR e, upR e]
      by_cases e8 : q = 228
      · subst e8
        rw [rwS, oR_r]
        rfl
      · rw [rwA e8, zr_i (by omega) (by omega)]
        have hq : q = 229 ∨ q = 230 ∨ q = 231 ∨ q = 232 := by omega
        rcases hq with rfl | rfl | rfl | rfl <;> rfl
/-- while the class's object is made -/
def SX (n : Nat) (r : Nat → Option Nat) (I0 I : Nat → Nat → Int32) (R0 R : Nat → Nat → Option Nat) : Prop := (∀ a, a < 8 → I a = I0 a) ∧ (∀ a, a < 8 ∨ 8 + n ≤ a → R a = R0 a) ∧ I 8 = (fun _ => 0) ∧ R 8 = r ∧ ∀ a, 9 ≤ a → a < 8 + n → I a = iF a ∧ R a = rF w0 a
theorem SX_s (h : SX n r I0 I R0 R) (hn : 1 ≤ n) (hq : 8 + n = q) (he : 8 + n' = e) (hm : MKC (am_rw I q (fun _ => 0)) I' (am_rw R q (fun _ => none)) R' q e) (hl : q < e) : SX n' (va_up r i (some q)) I0 I' R0 (am_up R' 8 i (some q)) := by
  subst hq
  subst he
  obtain ⟨h1, h2, h3, h4, h5⟩ := h
  obtain ⟨m1, m2, m3⟩ := hm
  refine ⟨fun a ha => ?_, fun a ha => ?_, ?_, ?_, fun a g1 g2 => ?_⟩
  · rw [m1 a (by omega), rwA (by omega)]; exact h1 a ha
  · rw [upR (by omega), m2 a (by omega), rwA (by omega)]; exact h2 a (by omega)
  · rw [m1 8 (by omega), rwA (by omega)]; exact h3
  · rw [upW, m2 8 (by omega), rwA (by omega), h4]
  · rw [upR (by omega)]
    by_cases g : 8 + n ≤ a
    · exact m3 a g g2
    · rw [m1 a (by omega), rwA (by omega), m2 a (by omega), rwA (by omega)]
      exact h5 a g1 (by omega)
theorem k_xInit (hI : I 8 = fun _ => 0) (hR : R 8 = fun _ => none) (hk : ∀ I' J R', SX 241 (fun k => rT8.getD k none) I I' R R' → k none (gP L 241) I' J R') : ac (d + 7) mX11_init [.ref 8] (gP L 1) I J R k := by
  have S : SX 1 (fun _ => none) I I R R := ⟨fun _ _ => rfl, fun _ _ => rfl, hI, hR, fun a h1 h2 => by omega⟩
  rw [e_X11_init]
  have a0 : mkG (gP L 1) 103 0 = gP L 2 := gP_mk rfl
  simp (disch := omega) only [x_X11_init_0, x_X11_init_1, x_X11_init_4, x_X11_init_5, x_X11_init_8, x_X11_init_9, x_X11_init_12, x_X11_init_15, x_X11_init_16, x_X11_init_19, x_X11_init_20, x_X11_init_23, x_X11_init_26, x_X11_init_27, x_X11_init_30, x_X11_init_31, x_X11_init_34, x_X11_init_37, x_X11_init_38, x_X11_init_41, x_X11_init_42, x_X11_init_43, x_X11_init_46, x_X11_init_49, x_X11_init_52, x_X11_init_53, x_X11_init_56, x_X11_init_57, x_X11_init_60, x_X11_init_63, x_X11_init_64, x_X11_init_67, x_X11_init_68, x_X11_init_69, x_X11_init_72, x_X11_init_75, x_X11_init_78, x_X11_init_79, x_X11_init_82, x_X11_init_83, x_X11_init_84, x_X11_init_87, x_X11_init_90, x_X11_init_93, x_X11_init_94, x_X11_init_97, x_X11_init_98, x_X11_init_99, x_X11_init_102, x_X11_init_105, x_X11_init_108, x_X11_init_109, x_X11_init_112, x_X11_init_114, x_X11_init_117, x_X11_init_118, x_X11_init_121, x_X11_init_122, x_X11_init_123, x_X11_init_126, x_X11_init_127, x_X11_init_130, x_X11_init_133, x_X11_init_136, Bool.false_eq_true, am_cl_i, am_cl_r, am_cl_n, am_cl_l, am_cl_0, va_rf_s, va_rf_0, tl_s, tl_n, bi_0, bi_1, bi_z, true_and, and_true, false_and, and_false, true_implies, false_implies, implies_true, not_true_eq_false, not_false_eq_true, and_self, true_or, or_true, false_or, or_false, eq_self, Nat.reduceAdd, Nat.reduceMul, Nat.reduceSub, Nat.reduceDiv, Nat.reduceMod, Nat.reduceLeDiff, Nat.reduceEqDiff, Nat.reduceLT, ix0, ix1, in0, in1, ltr2, ltr3, ltr4, ltr5, ltr6, ltr7, ltr8, ltr9, ltr10, ltr11, ltr12, ltr13, ltr14, ltr15, ltr16, ltr17, ltr20, ltr22, ltr23, ltr24, ltr25, ltr31, ltr32, ltr40, ltr41, ltr42, ltr43, ltr45, ltr47, ltr48, ltr50, ltr52, ltr57, ltr59, ltr60, ltr61, ltr62, ltr64, ltr65, ltr72, ltr77, ltr90, ltr91, ltr97, ltr99, ltr100, ltr122, ltr144, ltr216, ltr236, ltr240, ltr255, ltr256, ltr257, ltr258, ltr259, ltr260, ltr261, ltr262, ltr271, ltr272, ltr273, ltr288, ltr336, ltr380, ltr400, ltr1000, ltr1600, ltr9999, ltr10000, ixN, inN, ltN, leN, eqN, lt0N, le0N, eq0N, eq1N, addN, add1N, mulN, divN, remN, modS, rdN, inCN, inR0, inR1, inRN, inVN, gP_1, Nat.le_refl, a0, mkR_e (L := L) (show 8 + 1 = 9 from rfl)]
  refine k_plInit (d := d + 2) (n := 2) (Or.inl rfl) rwS rwS ?_
  intro I1 J1 R1x m
  replace S := SX_s (i := 0) (n' := 61) (e := 69) S (by omega) rfl rfl m (by omega)
  have z0 : okO (gP L 61) 11 8 := gP_ok (q := 0) rfl (by omega) (by omega)
  simp (disch := omega) only [x_X11_init_0, x_X11_init_1, x_X11_init_4, x_X11_init_5, x_X11_init_8, x_X11_init_9, x_X11_init_12, x_X11_init_16, x_X11_init_19, x_X11_init_20, x_X11_init_23, x_X11_init_26, x_X11_init_27, x_X11_init_30, x_X11_init_31, x_X11_init_34, x_X11_init_37, x_X11_init_38, x_X11_init_41, x_X11_init_42, x_X11_init_43, x_X11_init_46, x_X11_init_49, x_X11_init_52, x_X11_init_53, x_X11_init_56, x_X11_init_57, x_X11_init_60, x_X11_init_63, x_X11_init_64, x_X11_init_67, x_X11_init_68, x_X11_init_69, x_X11_init_72, x_X11_init_75, x_X11_init_78, x_X11_init_79, x_X11_init_82, x_X11_init_83, x_X11_init_84, x_X11_init_87, x_X11_init_90, x_X11_init_93, x_X11_init_94, x_X11_init_97, x_X11_init_98, x_X11_init_99, x_X11_init_102, x_X11_init_105, x_X11_init_108, x_X11_init_109, x_X11_init_112, x_X11_init_114, x_X11_init_117, x_X11_init_118, x_X11_init_121, x_X11_init_122, x_X11_init_123, x_X11_init_126, x_X11_init_127, x_X11_init_130, x_X11_init_133, x_X11_init_136, Bool.false_eq_true, am_cl_i, am_cl_r, am_cl_n, am_cl_l, am_cl_0, va_rf_s, va_rf_0, tl_s, tl_n, bi_0, bi_1, bi_z, true_and, and_true, false_and, and_false, true_implies, false_implies, implies_true, not_true_eq_false, not_false_eq_true, and_self, true_or, or_true, false_or, or_false, eq_self, Nat.reduceAdd, Nat.reduceMul, Nat.reduceSub, Nat.reduceDiv, Nat.reduceMod, Nat.reduceLeDiff, Nat.reduceEqDiff, Nat.reduceLT, ix0, ix1, in0, in1, z0]
  generalize am_up R1x 8 0 (some 9) = R1 at S ⊢
  have p1 : okO (gP L 61) 11 8 := gP_ok (q := 0) rfl (by omega) (by omega)
  have a1 : mkG (gP L 61) 103 0 = gP L 62 := gP_mk rfl
  simp (disch := omega) only [x_X11_init_0, x_X11_init_1, x_X11_init_4, x_X11_init_5, x_X11_init_8, x_X11_init_9, x_X11_init_12, x_X11_init_15, x_X11_init_16, x_X11_init_19, x_X11_init_20, x_X11_init_23, x_X11_init_26, x_X11_init_27, x_X11_init_30, x_X11_init_31, x_X11_init_34, x_X11_init_37, x_X11_init_38, x_X11_init_41, x_X11_init_42, x_X11_init_43, x_X11_init_46, x_X11_init_49, x_X11_init_52, x_X11_init_53, x_X11_init_56, x_X11_init_57, x_X11_init_60, x_X11_init_63, x_X11_init_64, x_X11_init_67, x_X11_init_68, x_X11_init_69, x_X11_init_72, x_X11_init_75, x_X11_init_78, x_X11_init_79, x_X11_init_82, x_X11_init_83, x_X11_init_84, x_X11_init_87, x_X11_init_90, x_X11_init_93, x_X11_init_94, x_X11_init_97, x_X11_init_98, x_X11_init_99, x_X11_init_102, x_X11_init_105, x_X11_init_108, x_X11_init_109, x_X11_init_112, x_X11_init_114, x_X11_init_117, x_X11_init_118, x_X11_init_121, x_X11_init_122, x_X11_init_123, x_X11_init_126, x_X11_init_127, x_X11_init_130, x_X11_init_133, x_X11_init_136, Bool.false_eq_true, am_cl_i, am_cl_r, am_cl_n, am_cl_l, am_cl_0, va_rf_s, va_rf_0, tl_s, tl_n, bi_0, bi_1, bi_z, true_and, and_true, false_and, and_false, true_implies, false_implies, implies_true, not_true_eq_false, not_false_eq_true, and_self, true_or, or_true, false_or, or_false, eq_self, Nat.reduceAdd, Nat.reduceMul, Nat.reduceSub, Nat.reduceDiv, Nat.reduceMod, Nat.reduceLeDiff, Nat.reduceEqDiff, Nat.reduceLT, ix0, ix1, in0, in1, ltr2, ltr3, ltr4, ltr5, ltr6, ltr7, ltr8, ltr9, ltr10, ltr11, ltr12, ltr13, ltr14, ltr15, ltr16, ltr17, ltr20, ltr22, ltr23, ltr24, ltr25, ltr31, ltr32, ltr40, ltr41, ltr42, ltr43, ltr45, ltr47, ltr48, ltr50, ltr52, ltr57, ltr59, ltr60, ltr61, ltr62, ltr64, ltr65, ltr72, ltr77, ltr90, ltr91, ltr97, ltr99, ltr100, ltr122, ltr144, ltr216, ltr236, ltr240, ltr255, ltr256, ltr257, ltr258, ltr259, ltr260, ltr261, ltr262, ltr271, ltr272, ltr273, ltr288, ltr336, ltr380, ltr400, ltr1000, ltr1600, ltr9999, ltr10000, ixN, inN, ltN, leN, eqN, lt0N, le0N, eq0N, eq1N, addN, add1N, mulN, divN, remN, modS, rdN, inCN, inR0, inR1, inRN, inVN, gP_1, Nat.le_refl, p1, a1, mkR_e (L := L) (show 8 + 61 = 69 from rfl)]
  refine k_plInit (d := d + 2) (n := 62) (Or.inr rfl) rwS rwS ?_
  intro I2 J2 R2x m
  replace S := SX_s (i := 1) (n' := 121) (e := 129) S (by omega) rfl rfl m (by omega)
  have z1 : okO (gP L 121) 11 8 := gP_ok (q := 0) rfl (by omega) (by omega)
  simp (disch := omega) only [x_X11_init_0, x_X11_init_1, x_X11_init_4, x_X11_init_5, x_X11_init_8, x_X11_init_9, x_X11_init_12, x_X11_init_15, x_X11_init_16, x_X11_init_19, x_X11_init_20, x_X11_init_23, x_X11_init_27, x_X11_init_30, x_X11_init_31, x_X11_init_34, x_X11_init_37, x_X11_init_38, x_X11_init_41, x_X11_init_42, x_X11_init_43, x_X11_init_46, x_X11_init_49, x_X11_init_52, x_X11_init_53, x_X11_init_56, x_X11_init_57, x_X11_init_60, x_X11_init_63, x_X11_init_64, x_X11_init_67, x_X11_init_68, x_X11_init_69, x_X11_init_72, x_X11_init_75, x_X11_init_78, x_X11_init_79, x_X11_init_82, x_X11_init_83, x_X11_init_84, x_X11_init_87, x_X11_init_90, x_X11_init_93, x_X11_init_94, x_X11_init_97, x_X11_init_98, x_X11_init_99, x_X11_init_102, x_X11_init_105, x_X11_init_108, x_X11_init_109, x_X11_init_112, x_X11_init_114, x_X11_init_117, x_X11_init_118, x_X11_init_121, x_X11_init_122, x_X11_init_123, x_X11_init_126, x_X11_init_127, x_X11_init_130, x_X11_init_133, x_X11_init_136, Bool.false_eq_true, am_cl_i, am_cl_r, am_cl_n, am_cl_l, am_cl_0, va_rf_s, va_rf_0, tl_s, tl_n, bi_0, bi_1, bi_z, true_and, and_true, false_and, and_false, true_implies, false_implies, implies_true, not_true_eq_false, not_false_eq_true, and_self, true_or, or_true, false_or, or_false, eq_self, Nat.reduceAdd, Nat.reduceMul, Nat.reduceSub, Nat.reduceDiv, Nat.reduceMod, Nat.reduceLeDiff, Nat.reduceEqDiff, Nat.reduceLT, ix0, ix1, in0, in1, z1]
  generalize am_up R2x 8 1 (some 69) = R2 at S ⊢
  have p2 : okO (gP L 121) 11 8 := gP_ok (q := 0) rfl (by omega) (by omega)
  have a2 : mkG (gP L 121) 102 0 = gP L 122 := gP_mk rfl
  simp (disch := omega) only [x_X11_init_0, x_X11_init_1, x_X11_init_4, x_X11_init_5, x_X11_init_8, x_X11_init_9, x_X11_init_12, x_X11_init_15, x_X11_init_16, x_X11_init_19, x_X11_init_20, x_X11_init_23, x_X11_init_26, x_X11_init_27, x_X11_init_30, x_X11_init_31, x_X11_init_34, x_X11_init_37, x_X11_init_38, x_X11_init_41, x_X11_init_42, x_X11_init_43, x_X11_init_46, x_X11_init_49, x_X11_init_52, x_X11_init_53, x_X11_init_56, x_X11_init_57, x_X11_init_60, x_X11_init_63, x_X11_init_64, x_X11_init_67, x_X11_init_68, x_X11_init_69, x_X11_init_72, x_X11_init_75, x_X11_init_78, x_X11_init_79, x_X11_init_82, x_X11_init_83, x_X11_init_84, x_X11_init_87, x_X11_init_90, x_X11_init_93, x_X11_init_94, x_X11_init_97, x_X11_init_98, x_X11_init_99, x_X11_init_102, x_X11_init_105, x_X11_init_108, x_X11_init_109, x_X11_init_112, x_X11_init_114, x_X11_init_117, x_X11_init_118, x_X11_init_121, x_X11_init_122, x_X11_init_123, x_X11_init_126, x_X11_init_127, x_X11_init_130, x_X11_init_133, x_X11_init_136, Bool.false_eq_true, am_cl_i, am_cl_r, am_cl_n, am_cl_l, am_cl_0, va_rf_s, va_rf_0, tl_s, tl_n, bi_0, bi_1, bi_z, true_and, and_true, false_and, and_false, true_implies, false_implies, implies_true, not_true_eq_false, not_false_eq_true, and_self, true_or, or_true, false_or, or_false, eq_self, Nat.reduceAdd, Nat.reduceMul, Nat.reduceSub, Nat.reduceDiv, Nat.reduceMod, Nat.reduceLeDiff, Nat.reduceEqDiff, Nat.reduceLT, ix0, ix1, in0, in1, ltr2, ltr3, ltr4, ltr5, ltr6, ltr7, ltr8, ltr9, ltr10, ltr11, ltr12, ltr13, ltr14, ltr15, ltr16, ltr17, ltr20, ltr22, ltr23, ltr24, ltr25, ltr31, ltr32, ltr40, ltr41, ltr42, ltr43, ltr45, ltr47, ltr48, ltr50, ltr52, ltr57, ltr59, ltr60, ltr61, ltr62, ltr64, ltr65, ltr72, ltr77, ltr90, ltr91, ltr97, ltr99, ltr100, ltr122, ltr144, ltr216, ltr236, ltr240, ltr255, ltr256, ltr257, ltr258, ltr259, ltr260, ltr261, ltr262, ltr271, ltr272, ltr273, ltr288, ltr336, ltr380, ltr400, ltr1000, ltr1600, ltr9999, ltr10000, ixN, inN, ltN, leN, eqN, lt0N, le0N, eq0N, eq1N, addN, add1N, mulN, divN, remN, modS, rdN, inCN, inR0, inR1, inRN, inVN, gP_1, Nat.le_refl, p2, a2, mkR_e (L := L) (show 8 + 121 = 129 from rfl)]
  refine k_pInit (d := d + 1) rwS rwS ?_
  intro I3 J3 R3x m
  replace S := SX_s (i := 3) (n' := 213) (e := 221) S (by omega) rfl rfl m (by omega)
  have z2 : okO (gP L 213) 11 8 := gP_ok (q := 0) rfl (by omega) (by omega)
  simp (disch := omega) only [x_X11_init_0, x_X11_init_1, x_X11_init_4, x_X11_init_5, x_X11_init_8, x_X11_init_9, x_X11_init_12, x_X11_init_15, x_X11_init_16, x_X11_init_19, x_X11_init_20, x_X11_init_23, x_X11_init_26, x_X11_init_27, x_X11_init_30, x_X11_init_31, x_X11_init_34, x_X11_init_38, x_X11_init_41, x_X11_init_42, x_X11_init_43, x_X11_init_46, x_X11_init_49, x_X11_init_52, x_X11_init_53, x_X11_init_56, x_X11_init_57, x_X11_init_60, x_X11_init_63, x_X11_init_64, x_X11_init_67, x_X11_init_68, x_X11_init_69, x_X11_init_72, x_X11_init_75, x_X11_init_78, x_X11_init_79, x_X11_init_82, x_X11_init_83, x_X11_init_84, x_X11_init_87, x_X11_init_90, x_X11_init_93, x_X11_init_94, x_X11_init_97, x_X11_init_98, x_X11_init_99, x_X11_init_102, x_X11_init_105, x_X11_init_108, x_X11_init_109, x_X11_init_112, x_X11_init_114, x_X11_init_117, x_X11_init_118, x_X11_init_121, x_X11_init_122, x_X11_init_123, x_X11_init_126, x_X11_init_127, x_X11_init_130, x_X11_init_133, x_X11_init_136, Bool.false_eq_true, am_cl_i, am_cl_r, am_cl_n, am_cl_l, am_cl_0, va_rf_s, va_rf_0, tl_s, tl_n, bi_0, bi_1, bi_z, true_and, and_true, false_and, and_false, true_implies, false_implies, implies_true, not_true_eq_false, not_false_eq_true, and_self, true_or, or_true, false_or, or_false, eq_self, Nat.reduceAdd, Nat.reduceMul, Nat.reduceSub, Nat.reduceDiv, Nat.reduceMod, Nat.reduceLeDiff, Nat.reduceEqDiff, Nat.reduceLT, ix0, ix1, in0, in1, z2]
  generalize am_up R3x 8 3 (some 129) = R3 at S ⊢
  have p3 : okO (gP L 213) 11 8 := gP_ok (q := 0) rfl (by omega) (by omega)
  have a3 : mkG (gP L 213) 110 0 = gP L 214 := gP_mk rfl
  have b3 : okO (gP L 214) 11 8 := gP_ok (q := 0) rfl (by omega) (by omega)
  have r3_0 : R3 8 0 = some 9 := by rw [S.2.2.2.1]; rfl
  simp (disch := omega) only [x_X11_init_0, x_X11_init_1, x_X11_init_4, x_X11_init_5, x_X11_init_8, x_X11_init_9, x_X11_init_12, x_X11_init_15, x_X11_init_16, x_X11_init_19, x_X11_init_20, x_X11_init_23, x_X11_init_26, x_X11_init_27, x_X11_init_30, x_X11_init_31, x_X11_init_34, x_X11_init_37, x_X11_init_38, x_X11_init_41, x_X11_init_42, x_X11_init_43, x_X11_init_46, x_X11_init_49, x_X11_init_52, x_X11_init_53, x_X11_init_56, x_X11_init_57, x_X11_init_60, x_X11_init_63, x_X11_init_64, x_X11_init_67, x_X11_init_68, x_X11_init_69, x_X11_init_72, x_X11_init_75, x_X11_init_78, x_X11_init_79, x_X11_init_82, x_X11_init_83, x_X11_init_84, x_X11_init_87, x_X11_init_90, x_X11_init_93, x_X11_init_94, x_X11_init_97, x_X11_init_98, x_X11_init_99, x_X11_init_102, x_X11_init_105, x_X11_init_108, x_X11_init_109, x_X11_init_112, x_X11_init_114, x_X11_init_117, x_X11_init_118, x_X11_init_121, x_X11_init_122, x_X11_init_123, x_X11_init_126, x_X11_init_127, x_X11_init_130, x_X11_init_133, x_X11_init_136, Bool.false_eq_true, am_cl_i, am_cl_r, am_cl_n, am_cl_l, am_cl_0, va_rf_s, va_rf_0, tl_s, tl_n, bi_0, bi_1, bi_z, true_and, and_true, false_and, and_false, true_implies, false_implies, implies_true, not_true_eq_false, not_false_eq_true, and_self, true_or, or_true, false_or, or_false, eq_self, Nat.reduceAdd, Nat.reduceMul, Nat.reduceSub, Nat.reduceDiv, Nat.reduceMod, Nat.reduceLeDiff, Nat.reduceEqDiff, Nat.reduceLT, ix0, ix1, in0, in1, ltr2, ltr3, ltr4, ltr5, ltr6, ltr7, ltr8, ltr9, ltr10, ltr11, ltr12, ltr13, ltr14, ltr15, ltr16, ltr17, ltr20, ltr22, ltr23, ltr24, ltr25, ltr31, ltr32, ltr40, ltr41, ltr42, ltr43, ltr45, ltr47, ltr48, ltr50, ltr52, ltr57, ltr59, ltr60, ltr61, ltr62, ltr64, ltr65, ltr72, ltr77, ltr90, ltr91, ltr97, ltr99, ltr100, ltr122, ltr144, ltr216, ltr236, ltr240, ltr255, ltr256, ltr257, ltr258, ltr259, ltr260, ltr261, ltr262, ltr271, ltr272, ltr273, ltr288, ltr336, ltr380, ltr400, ltr1000, ltr1600, ltr9999, ltr10000, ixN, inN, ltN, leN, eqN, lt0N, le0N, eq0N, eq1N, addN, add1N, mulN, divN, remN, modS, rdN, inCN, inR0, inR1, inRN, inVN, gP_1, Nat.le_refl, p3, a3, b3, r3_0, mkR_e (L := L) (show 8 + 213 = 221 from rfl), rwA]
  refine k_vyInit (d := d + 4) rwS rwS ?_
  intro I4 J4 R4x m
  replace S := SX_s (i := 4) (n' := 215) (e := 223) S (by omega) rfl rfl m (by omega)
  have z3 : okO (gP L 215) 11 8 := gP_ok (q := 0) rfl (by omega) (by omega)
  simp (disch := omega) only [x_X11_init_0, x_X11_init_1, x_X11_init_4, x_X11_init_5, x_X11_init_8, x_X11_init_9, x_X11_init_12, x_X11_init_15, x_X11_init_16, x_X11_init_19, x_X11_init_20, x_X11_init_23, x_X11_init_26, x_X11_init_27, x_X11_init_30, x_X11_init_31, x_X11_init_34, x_X11_init_37, x_X11_init_38, x_X11_init_41, x_X11_init_42, x_X11_init_43, x_X11_init_46, x_X11_init_49, x_X11_init_53, x_X11_init_56, x_X11_init_57, x_X11_init_60, x_X11_init_63, x_X11_init_64, x_X11_init_67, x_X11_init_68, x_X11_init_69, x_X11_init_72, x_X11_init_75, x_X11_init_78, x_X11_init_79, x_X11_init_82, x_X11_init_83, x_X11_init_84, x_X11_init_87, x_X11_init_90, x_X11_init_93, x_X11_init_94, x_X11_init_97, x_X11_init_98, x_X11_init_99, x_X11_init_102, x_X11_init_105, x_X11_init_108, x_X11_init_109, x_X11_init_112, x_X11_init_114, x_X11_init_117, x_X11_init_118, x_X11_init_121, x_X11_init_122, x_X11_init_123, x_X11_init_126, x_X11_init_127, x_X11_init_130, x_X11_init_133, x_X11_init_136, Bool.false_eq_true, am_cl_i, am_cl_r, am_cl_n, am_cl_l, am_cl_0, va_rf_s, va_rf_0, tl_s, tl_n, bi_0, bi_1, bi_z, true_and, and_true, false_and, and_false, true_implies, false_implies, implies_true, not_true_eq_false, not_false_eq_true, and_self, true_or, or_true, false_or, or_false, eq_self, Nat.reduceAdd, Nat.reduceMul, Nat.reduceSub, Nat.reduceDiv, Nat.reduceMod, Nat.reduceLeDiff, Nat.reduceEqDiff, Nat.reduceLT, ix0, ix1, in0, in1, z3]
  generalize am_up R4x 8 4 (some 221) = R4 at S ⊢
  have p4 : okO (gP L 215) 11 8 := gP_ok (q := 0) rfl (by omega) (by omega)
  have a4 : mkG (gP L 215) 107 0 = gP L 216 := gP_mk rfl
  simp (disch := omega) only [x_X11_init_0, x_X11_init_1, x_X11_init_4, x_X11_init_5, x_X11_init_8, x_X11_init_9, x_X11_init_12, x_X11_init_15, x_X11_init_16, x_X11_init_19, x_X11_init_20, x_X11_init_23, x_X11_init_26, x_X11_init_27, x_X11_init_30, x_X11_init_31, x_X11_init_34, x_X11_init_37, x_X11_init_38, x_X11_init_41, x_X11_init_42, x_X11_init_43, x_X11_init_46, x_X11_init_49, x_X11_init_52, x_X11_init_53, x_X11_init_56, x_X11_init_57, x_X11_init_60, x_X11_init_63, x_X11_init_64, x_X11_init_67, x_X11_init_68, x_X11_init_69, x_X11_init_72, x_X11_init_75, x_X11_init_78, x_X11_init_79, x_X11_init_82, x_X11_init_83, x_X11_init_84, x_X11_init_87, x_X11_init_90, x_X11_init_93, x_X11_init_94, x_X11_init_97, x_X11_init_98, x_X11_init_99, x_X11_init_102, x_X11_init_105, x_X11_init_108, x_X11_init_109, x_X11_init_112, x_X11_init_114, x_X11_init_117, x_X11_init_118, x_X11_init_121, x_X11_init_122, x_X11_init_123, x_X11_init_126, x_X11_init_127, x_X11_init_130, x_X11_init_133, x_X11_init_136, Bool.false_eq_true, am_cl_i, am_cl_r, am_cl_n, am_cl_l, am_cl_0, va_rf_s, va_rf_0, tl_s, tl_n, bi_0, bi_1, bi_z, true_and, and_true, false_and, and_false, true_implies, false_implies, implies_true, not_true_eq_false, not_false_eq_true, and_self, true_or, or_true, false_or, or_false, eq_self, Nat.reduceAdd, Nat.reduceMul, Nat.reduceSub, Nat.reduceDiv, Nat.reduceMod, Nat.reduceLeDiff, Nat.reduceEqDiff, Nat.reduceLT, ix0, ix1, in0, in1, ltr2, ltr3, ltr4, ltr5, ltr6, ltr7, ltr8, ltr9, ltr10, ltr11, ltr12, ltr13, ltr14, ltr15, ltr16, ltr17, ltr20, ltr22, ltr23, ltr24, ltr25, ltr31, ltr32, ltr40, ltr41, ltr42, ltr43, ltr45, ltr47, ltr48, ltr50, ltr52, ltr57, ltr59, ltr60, ltr61, ltr62, ltr64, ltr65, ltr72, ltr77, ltr90, ltr91, ltr97, ltr99, ltr100, ltr122, ltr144, ltr216, ltr236, ltr240, ltr255, ltr256, ltr257, ltr258, ltr259, ltr260, ltr261, ltr262, ltr271, ltr272, ltr273, ltr288, ltr336, ltr380, ltr400, ltr1000, ltr1600, ltr9999, ltr10000, ixN, inN, ltN, leN, eqN, lt0N, le0N, eq0N, eq1N, addN, add1N, mulN, divN, remN, modS, rdN, inCN, inR0, inR1, inRN, inVN, gP_1, Nat.le_refl, p4, a4, mkR_e (L := L) (show 8 + 215 = 223 from rfl)]
  refine k_tpInit (d := d + 4) rwS rwS ?_
  intro I5 J5 R5x m
  replace S := SX_s (i := 5) (n' := 219) (e := 227) S (by omega) rfl rfl m (by omega)
  have z4 : okO (gP L 219) 11 8 := gP_ok (q := 0) rfl (by omega) (by omega)
  simp (disch := omega) only [x_X11_init_0, x_X11_init_1, x_X11_init_4, x_X11_init_5, x_X11_init_8, x_X11_init_9, x_X11_init_12, x_X11_init_15, x_X11_init_16, x_X11_init_19, x_X11_init_20, x_X11_init_23, x_X11_init_26, x_X11_init_27, x_X11_init_30, x_X11_init_31, x_X11_init_34, x_X11_init_37, x_X11_init_38, x_X11_init_41, x_X11_init_42, x_X11_init_43, x_X11_init_46, x_X11_init_49, x_X11_init_52, x_X11_init_53, x_X11_init_56, x_X11_init_57, x_X11_init_60, x_X11_init_64, x_X11_init_67, x_X11_init_68, x_X11_init_69, x_X11_init_72, x_X11_init_75, x_X11_init_78, x_X11_init_79, x_X11_init_82, x_X11_init_83, x_X11_init_84, x_X11_init_87, x_X11_init_90, x_X11_init_93, x_X11_init_94, x_X11_init_97, x_X11_init_98, x_X11_init_99, x_X11_init_102, x_X11_init_105, x_X11_init_108, x_X11_init_109, x_X11_init_112, x_X11_init_114, x_X11_init_117, x_X11_init_118, x_X11_init_121, x_X11_init_122, x_X11_init_123, x_X11_init_126, x_X11_init_127, x_X11_init_130, x_X11_init_133, x_X11_init_136, Bool.false_eq_true, am_cl_i, am_cl_r, am_cl_n, am_cl_l, am_cl_0, va_rf_s, va_rf_0, tl_s, tl_n, bi_0, bi_1, bi_z, true_and, and_true, false_and, and_false, true_implies, false_implies, implies_true, not_true_eq_false, not_false_eq_true, and_self, true_or, or_true, false_or, or_false, eq_self, Nat.reduceAdd, Nat.reduceMul, Nat.reduceSub, Nat.reduceDiv, Nat.reduceMod, Nat.reduceLeDiff, Nat.reduceEqDiff, Nat.reduceLT, ix0, ix1, in0, in1, z4]
  generalize am_up R5x 8 5 (some 223) = R5 at S ⊢
  have p5 : okO (gP L 219) 11 8 := gP_ok (q := 0) rfl (by omega) (by omega)
  have a5 : mkG (gP L 219) 105 0 = gP L 220 := gP_mk rfl
  have b5 : okO (gP L 220) 11 8 := gP_ok (q := 0) rfl (by omega) (by omega)
  have r5_5 : R5 8 5 = some 223 := by rw [S.2.2.2.1]; rfl
  simp (disch := omega) only [x_X11_init_0, x_X11_init_1, x_X11_init_4, x_X11_init_5, x_X11_init_8, x_X11_init_9, x_X11_init_12, x_X11_init_15, x_X11_init_16, x_X11_init_19, x_X11_init_20, x_X11_init_23, x_X11_init_26, x_X11_init_27, x_X11_init_30, x_X11_init_31, x_X11_init_34, x_X11_init_37, x_X11_init_38, x_X11_init_41, x_X11_init_42, x_X11_init_43, x_X11_init_46, x_X11_init_49, x_X11_init_52, x_X11_init_53, x_X11_init_56, x_X11_init_57, x_X11_init_60, x_X11_init_63, x_X11_init_64, x_X11_init_67, x_X11_init_68, x_X11_init_69, x_X11_init_72, x_X11_init_75, x_X11_init_78, x_X11_init_79, x_X11_init_82, x_X11_init_83, x_X11_init_84, x_X11_init_87, x_X11_init_90, x_X11_init_93, x_X11_init_94, x_X11_init_97, x_X11_init_98, x_X11_init_99, x_X11_init_102, x_X11_init_105, x_X11_init_108, x_X11_init_109, x_X11_init_112, x_X11_init_114, x_X11_init_117, x_X11_init_118, x_X11_init_121, x_X11_init_122, x_X11_init_123, x_X11_init_126, x_X11_init_127, x_X11_init_130, x_X11_init_133, x_X11_init_136, Bool.false_eq_true, am_cl_i, am_cl_r, am_cl_n, am_cl_l, am_cl_0, va_rf_s, va_rf_0, tl_s, tl_n, bi_0, bi_1, bi_z, true_and, and_true, false_and, and_false, true_implies, false_implies, implies_true, not_true_eq_false, not_false_eq_true, and_self, true_or, or_true, false_or, or_false, eq_self, Nat.reduceAdd, Nat.reduceMul, Nat.reduceSub, Nat.reduceDiv, Nat.reduceMod, Nat.reduceLeDiff, Nat.reduceEqDiff, Nat.reduceLT, ix0, ix1, in0, in1, ltr2, ltr3, ltr4, ltr5, ltr6, ltr7, ltr8, ltr9, ltr10, ltr11, ltr12, ltr13, ltr14, ltr15, ltr16, ltr17, ltr20, ltr22, ltr23, ltr24, ltr25, ltr31, ltr32, ltr40, ltr41, ltr42, ltr43, ltr45, ltr47, ltr48, ltr50, ltr52, ltr57, ltr59, ltr60, ltr61, ltr62, ltr64, ltr65, ltr72, ltr77, ltr90, ltr91, ltr97, ltr99, ltr100, ltr122, ltr144, ltr216, ltr236, ltr240, ltr255, ltr256, ltr257, ltr258, ltr259, ltr260, ltr261, ltr262, ltr271, ltr272, ltr273, ltr288, ltr336, ltr380, ltr400, ltr1000, ltr1600, ltr9999, ltr10000, ixN, inN, ltN, leN, eqN, lt0N, le0N, eq0N, eq1N, addN, add1N, mulN, divN, remN, modS, rdN, inCN, inR0, inR1, inRN, inVN, gP_1, Nat.le_refl, p5, a5, b5, r5_5, mkR_e (L := L) (show 8 + 219 = 227 from rfl), rwA]
  refine k_rdInit (d := d + 3) rwS rwS ?_
  intro I6 J6 R6x m
  replace S := SX_s (i := 6) (n' := 225) (e := 233) S (by omega) rfl rfl m (by omega)
  have z5 : okO (gP L 225) 11 8 := gP_ok (q := 0) rfl (by omega) (by omega)
  simp (disch := omega) only [x_X11_init_0, x_X11_init_1, x_X11_init_4, x_X11_init_5, x_X11_init_8, x_X11_init_9, x_X11_init_12, x_X11_init_15, x_X11_init_16, x_X11_init_19, x_X11_init_20, x_X11_init_23, x_X11_init_26, x_X11_init_27, x_X11_init_30, x_X11_init_31, x_X11_init_34, x_X11_init_37, x_X11_init_38, x_X11_init_41, x_X11_init_42, x_X11_init_43, x_X11_init_46, x_X11_init_49, x_X11_init_52, x_X11_init_53, x_X11_init_56, x_X11_init_57, x_X11_init_60, x_X11_init_63, x_X11_init_64, x_X11_init_67, x_X11_init_68, x_X11_init_69, x_X11_init_72, x_X11_init_75, x_X11_init_79, x_X11_init_82, x_X11_init_83, x_X11_init_84, x_X11_init_87, x_X11_init_90, x_X11_init_93, x_X11_init_94, x_X11_init_97, x_X11_init_98, x_X11_init_99, x_X11_init_102, x_X11_init_105, x_X11_init_108, x_X11_init_109, x_X11_init_112, x_X11_init_114, x_X11_init_117, x_X11_init_118, x_X11_init_121, x_X11_init_122, x_X11_init_123, x_X11_init_126, x_X11_init_127, x_X11_init_130, x_X11_init_133, x_X11_init_136, Bool.false_eq_true, am_cl_i, am_cl_r, am_cl_n, am_cl_l, am_cl_0, va_rf_s, va_rf_0, tl_s, tl_n, bi_0, bi_1, bi_z, true_and, and_true, false_and, and_false, true_implies, false_implies, implies_true, not_true_eq_false, not_false_eq_true, and_self, true_or, or_true, false_or, or_false, eq_self, Nat.reduceAdd, Nat.reduceMul, Nat.reduceSub, Nat.reduceDiv, Nat.reduceMod, Nat.reduceLeDiff, Nat.reduceEqDiff, Nat.reduceLT, ix0, ix1, in0, in1, z5]
  generalize am_up R6x 8 6 (some 227) = R6 at S ⊢
  have p6 : okO (gP L 225) 11 8 := gP_ok (q := 0) rfl (by omega) (by omega)
  have a6 : mkG (gP L 225) 104 0 = gP L 226 := gP_mk rfl
  have b6 : okO (gP L 226) 11 8 := gP_ok (q := 0) rfl (by omega) (by omega)
  have r6_0 : R6 8 0 = some 9 := by rw [S.2.2.2.1]; rfl
  simp (disch := omega) only [x_X11_init_0, x_X11_init_1, x_X11_init_4, x_X11_init_5, x_X11_init_8, x_X11_init_9, x_X11_init_12, x_X11_init_15, x_X11_init_16, x_X11_init_19, x_X11_init_20, x_X11_init_23, x_X11_init_26, x_X11_init_27, x_X11_init_30, x_X11_init_31, x_X11_init_34, x_X11_init_37, x_X11_init_38, x_X11_init_41, x_X11_init_42, x_X11_init_43, x_X11_init_46, x_X11_init_49, x_X11_init_52, x_X11_init_53, x_X11_init_56, x_X11_init_57, x_X11_init_60, x_X11_init_63, x_X11_init_64, x_X11_init_67, x_X11_init_68, x_X11_init_69, x_X11_init_72, x_X11_init_75, x_X11_init_78, x_X11_init_79, x_X11_init_82, x_X11_init_83, x_X11_init_84, x_X11_init_87, x_X11_init_90, x_X11_init_93, x_X11_init_94, x_X11_init_97, x_X11_init_98, x_X11_init_99, x_X11_init_102, x_X11_init_105, x_X11_init_108, x_X11_init_109, x_X11_init_112, x_X11_init_114, x_X11_init_117, x_X11_init_118, x_X11_init_121, x_X11_init_122, x_X11_init_123, x_X11_init_126, x_X11_init_127, x_X11_init_130, x_X11_init_133, x_X11_init_136, Bool.false_eq_true, am_cl_i, am_cl_r, am_cl_n, am_cl_l, am_cl_0, va_rf_s, va_rf_0, tl_s, tl_n, bi_0, bi_1, bi_z, true_and, and_true, false_and, and_false, true_implies, false_implies, implies_true, not_true_eq_false, not_false_eq_true, and_self, true_or, or_true, false_or, or_false, eq_self, Nat.reduceAdd, Nat.reduceMul, Nat.reduceSub, Nat.reduceDiv, Nat.reduceMod, Nat.reduceLeDiff, Nat.reduceEqDiff, Nat.reduceLT, ix0, ix1, in0, in1, ltr2, ltr3, ltr4, ltr5, ltr6, ltr7, ltr8, ltr9, ltr10, ltr11, ltr12, ltr13, ltr14, ltr15, ltr16, ltr17, ltr20, ltr22, ltr23, ltr24, ltr25, ltr31, ltr32, ltr40, ltr41, ltr42, ltr43, ltr45, ltr47, ltr48, ltr50, ltr52, ltr57, ltr59, ltr60, ltr61, ltr62, ltr64, ltr65, ltr72, ltr77, ltr90, ltr91, ltr97, ltr99, ltr100, ltr122, ltr144, ltr216, ltr236, ltr240, ltr255, ltr256, ltr257, ltr258, ltr259, ltr260, ltr261, ltr262, ltr271, ltr272, ltr273, ltr288, ltr336, ltr380, ltr400, ltr1000, ltr1600, ltr9999, ltr10000, ixN, inN, ltN, leN, eqN, lt0N, le0N, eq0N, eq1N, addN, add1N, mulN, divN, remN, modS, rdN, inCN, inR0, inR1, inRN, inVN, gP_1, Nat.le_refl, p6, a6, b6, r6_0, mkR_e (L := L) (show 8 + 225 = 233 from rfl), rwA]
  refine k_r1Init (d := d + 4) rwS rwS (by rw [rwA (by omega), (S.2.2.2.2 9 (by omega) (by omega)).2]; rfl) (by rw [rwA (by omega), (S.2.2.2.2 15 (by omega) (by omega)).2]; rfl) ?_
  intro I7 J7 R7x m
  replace S := SX_s (i := 7) (n' := 231) (e := 239) S (by omega) rfl rfl m (by omega)
  have z6 : okO (gP L 231) 11 8 := gP_ok (q := 0) rfl (by omega) (by omega)
  simp (disch := omega) only [x_X11_init_0, x_X11_init_1, x_X11_init_4, x_X11_init_5, x_X11_init_8, x_X11_init_9, x_X11_init_12, x_X11_init_15, x_X11_init_16, x_X11_init_19, x_X11_init_20, x_X11_init_23, x_X11_init_26, x_X11_init_27, x_X11_init_30, x_X11_init_31, x_X11_init_34, x_X11_init_37, x_X11_init_38, x_X11_init_41, x_X11_init_42, x_X11_init_43, x_X11_init_46, x_X11_init_49, x_X11_init_52, x_X11_init_53, x_X11_init_56, x_X11_init_57, x_X11_init_60, x_X11_init_63, x_X11_init_64, x_X11_init_67, x_X11_init_68, x_X11_init_69, x_X11_init_72, x_X11_init_75, x_X11_init_78, x_X11_init_79, x_X11_init_82, x_X11_init_83, x_X11_init_84, x_X11_init_87, x_X11_init_90, x_X11_init_94, x_X11_init_97, x_X11_init_98, x_X11_init_99, x_X11_init_102, x_X11_init_105, x_X11_init_108, x_X11_init_109, x_X11_init_112, x_X11_init_114, x_X11_init_117, x_X11_init_118, x_X11_init_121, x_X11_init_122, x_X11_init_123, x_X11_init_126, x_X11_init_127, x_X11_init_130, x_X11_init_133, x_X11_init_136, Bool.false_eq_true, am_cl_i, am_cl_r, am_cl_n, am_cl_l, am_cl_0, va_rf_s, va_rf_0, tl_s, tl_n, bi_0, bi_1, bi_z, true_and, and_true, false_and, and_false, true_implies, false_implies, implies_true, not_true_eq_false, not_false_eq_true, and_self, true_or, or_true, false_or, or_false, eq_self, Nat.reduceAdd, Nat.reduceMul, Nat.reduceSub, Nat.reduceDiv, Nat.reduceMod, Nat.reduceLeDiff, Nat.reduceEqDiff, Nat.reduceLT, ix0, ix1, in0, in1, z6]
  generalize am_up R7x 8 7 (some 233) = R7 at S ⊢
  have p7 : okO (gP L 231) 11 8 := gP_ok (q := 0) rfl (by omega) (by omega)
  have a7 : mkG (gP L 231) 104 0 = gP L 232 := gP_mk rfl
  have b7 : okO (gP L 232) 11 8 := gP_ok (q := 0) rfl (by omega) (by omega)
  have r7_0 : R7 8 0 = some 9 := by rw [S.2.2.2.1]; rfl
  simp (disch := omega) only [x_X11_init_0, x_X11_init_1, x_X11_init_4, x_X11_init_5, x_X11_init_8, x_X11_init_9, x_X11_init_12, x_X11_init_15, x_X11_init_16, x_X11_init_19, x_X11_init_20, x_X11_init_23, x_X11_init_26, x_X11_init_27, x_X11_init_30, x_X11_init_31, x_X11_init_34, x_X11_init_37, x_X11_init_38, x_X11_init_41, x_X11_init_42, x_X11_init_43, x_X11_init_46, x_X11_init_49, x_X11_init_52, x_X11_init_53, x_X11_init_56, x_X11_init_57, x_X11_init_60, x_X11_init_63, x_X11_init_64, x_X11_init_67, x_X11_init_68, x_X11_init_69, x_X11_init_72, x_X11_init_75, x_X11_init_78, x_X11_init_79, x_X11_init_82, x_X11_init_83, x_X11_init_84, x_X11_init_87, x_X11_init_90, x_X11_init_93, x_X11_init_94, x_X11_init_97, x_X11_init_98, x_X11_init_99, x_X11_init_102, x_X11_init_105, x_X11_init_108, x_X11_init_109, x_X11_init_112, x_X11_init_114, x_X11_init_117, x_X11_init_118, x_X11_init_121, x_X11_init_122, x_X11_init_123, x_X11_init_126, x_X11_init_127, x_X11_init_130, x_X11_init_133, x_X11_init_136, Bool.false_eq_true, am_cl_i, am_cl_r, am_cl_n, am_cl_l, am_cl_0, va_rf_s, va_rf_0, tl_s, tl_n, bi_0, bi_1, bi_z, true_and, and_true, false_and, and_false, true_implies, false_implies, implies_true, not_true_eq_false, not_false_eq_true, and_self, true_or, or_true, false_or, or_false, eq_self, Nat.reduceAdd, Nat.reduceMul, Nat.reduceSub, Nat.reduceDiv, Nat.reduceMod, Nat.reduceLeDiff, Nat.reduceEqDiff, Nat.reduceLT, ix0, ix1, in0, in1, ltr2, ltr3, ltr4, ltr5, ltr6, ltr7, ltr8, ltr9, ltr10, ltr11, ltr12, ltr13, ltr14, ltr15, ltr16, ltr17, ltr20, ltr22, ltr23, ltr24, ltr25, ltr31, ltr32, ltr40, ltr41, ltr42, ltr43, ltr45, ltr47, ltr48, ltr50, ltr52, ltr57, ltr59, ltr60, ltr61, ltr62, ltr64, ltr65, ltr72, ltr77, ltr90, ltr91, ltr97, ltr99, ltr100, ltr122, ltr144, ltr216, ltr236, ltr240, ltr255, ltr256, ltr257, ltr258, ltr259, ltr260, ltr261, ltr262, ltr271, ltr272, ltr273, ltr288, ltr336, ltr380, ltr400, ltr1000, ltr1600, ltr9999, ltr10000, ixN, inN, ltN, leN, eqN, lt0N, le0N, eq0N, eq1N, addN, add1N, mulN, divN, remN, modS, rdN, inCN, inR0, inR1, inRN, inVN, gP_1, Nat.le_refl, p7, a7, b7, r7_0, mkR_e (L := L) (show 8 + 231 = 239 from rfl), rwA]
  refine k_r2Init (d := d + 4) rwS rwS (by rw [rwA (by omega), (S.2.2.2.2 9 (by omega) (by omega)).2]; rfl) (by rw [rwA (by omega), (S.2.2.2.2 15 (by omega) (by omega)).2]; rfl) ?_
  intro I8 J8 R8x m
  replace S := SX_s (i := 8) (n' := 237) (e := 245) S (by omega) rfl rfl m (by omega)
  have z7 : okO (gP L 237) 11 8 := gP_ok (q := 0) rfl (by omega) (by omega)
  simp (disch := omega) only [x_X11_init_0, x_X11_init_1, x_X11_init_4, x_X11_init_5, x_X11_init_8, x_X11_init_9, x_X11_init_12, x_X11_init_15, x_X11_init_16, x_X11_init_19, x_X11_init_20, x_X11_init_23, x_X11_init_26, x_X11_init_27, x_X11_init_30, x_X11_init_31, x_X11_init_34, x_X11_init_37, x_X11_init_38, x_X11_init_41, x_X11_init_42, x_X11_init_43, x_X11_init_46, x_X11_init_49, x_X11_init_52, x_X11_init_53, x_X11_init_56, x_X11_init_57, x_X11_init_60, x_X11_init_63, x_X11_init_64, x_X11_init_67, x_X11_init_68, x_X11_init_69, x_X11_init_72, x_X11_init_75, x_X11_init_78, x_X11_init_79, x_X11_init_82, x_X11_init_83, x_X11_init_84, x_X11_init_87, x_X11_init_90, x_X11_init_93, x_X11_init_94, x_X11_init_97, x_X11_init_98, x_X11_init_99, x_X11_init_102, x_X11_init_105, x_X11_init_109, x_X11_init_112, x_X11_init_114, x_X11_init_117, x_X11_init_118, x_X11_init_121, x_X11_init_122, x_X11_init_123, x_X11_init_126, x_X11_init_127, x_X11_init_130, x_X11_init_133, x_X11_init_136, Bool.false_eq_true, am_cl_i, am_cl_r, am_cl_n, am_cl_l, am_cl_0, va_rf_s, va_rf_0, tl_s, tl_n, bi_0, bi_1, bi_z, true_and, and_true, false_and, and_false, true_implies, false_implies, implies_true, not_true_eq_false, not_false_eq_true, and_self, true_or, or_true, false_or, or_false, eq_self, Nat.reduceAdd, Nat.reduceMul, Nat.reduceSub, Nat.reduceDiv, Nat.reduceMod, Nat.reduceLeDiff, Nat.reduceEqDiff, Nat.reduceLT, ix0, ix1, in0, in1, z7]
  generalize am_up R8x 8 8 (some 239) = R8 at S ⊢
  have p8 : okO (gP L 237) 11 8 := gP_ok (q := 0) rfl (by omega) (by omega)
  have a8 : mkG (gP L 237) 0 144 = gP L 238 := gP_mk rfl
  have c8 : okO (gP L 238) 11 8 := gP_ok (q := 0) rfl (by omega) (by omega)
  have mA : MKC (am_rw I8 245 (fun _ => 0)) (am_rw I8 245 (fun _ => 0)) (am_rw R8 245 (fun _ => none)) (am_rw R8 245 (fun _ => none)) 245 246 := ⟨fun _ _ => rfl, fun _ _ => rfl, fun q h1 h2 => by
    have e : q = 245 := by omega
    subst e
    exact ⟨by rw [rwS]; rfl, by rw [rwS]; rfl⟩⟩
  have S2 := SX_s (i := 9) (n' := 238) (e := 246) S (by omega) rfl rfl mA (by omega)
  have p9 : okO (gP L 238) 11 8 := gP_ok (q := 0) rfl (by omega) (by omega)
  have a9 : mkG (gP L 238) 100 0 = gP L 239 := gP_mk rfl
  have b9 : okO (gP L 239) 11 8 := gP_ok (q := 0) rfl (by omega) (by omega)
  have r9_0 : am_up (am_rw R8 245 (fun _ => none)) 8 9 (some 245) 8 0 = some 9 := by rw [S2.2.2.2.1]; rfl
  have r9_7 : am_up (am_rw R8 245 (fun _ => none)) 8 9 (some 245) 8 7 = some 233 := by rw [S2.2.2.2.1]; rfl
  simp (disch := omega) only [x_X11_init_0, x_X11_init_1, x_X11_init_4, x_X11_init_5, x_X11_init_8, x_X11_init_9, x_X11_init_12, x_X11_init_15, x_X11_init_16, x_X11_init_19, x_X11_init_20, x_X11_init_23, x_X11_init_26, x_X11_init_27, x_X11_init_30, x_X11_init_31, x_X11_init_34, x_X11_init_37, x_X11_init_38, x_X11_init_41, x_X11_init_42, x_X11_init_43, x_X11_init_46, x_X11_init_49, x_X11_init_52, x_X11_init_53, x_X11_init_56, x_X11_init_57, x_X11_init_60, x_X11_init_63, x_X11_init_64, x_X11_init_67, x_X11_init_68, x_X11_init_69, x_X11_init_72, x_X11_init_75, x_X11_init_78, x_X11_init_79, x_X11_init_82, x_X11_init_83, x_X11_init_84, x_X11_init_87, x_X11_init_90, x_X11_init_93, x_X11_init_94, x_X11_init_97, x_X11_init_98, x_X11_init_99, x_X11_init_102, x_X11_init_105, x_X11_init_108, x_X11_init_109, x_X11_init_112, x_X11_init_114, x_X11_init_117, x_X11_init_118, x_X11_init_121, x_X11_init_122, x_X11_init_123, x_X11_init_126, x_X11_init_127, x_X11_init_130, x_X11_init_133, x_X11_init_136, Bool.false_eq_true, am_cl_i, am_cl_r, am_cl_n, am_cl_l, am_cl_0, va_rf_s, va_rf_0, tl_s, tl_n, bi_0, bi_1, bi_z, true_and, and_true, false_and, and_false, true_implies, false_implies, implies_true, not_true_eq_false, not_false_eq_true, and_self, true_or, or_true, false_or, or_false, eq_self, Nat.reduceAdd, Nat.reduceMul, Nat.reduceSub, Nat.reduceDiv, Nat.reduceMod, Nat.reduceLeDiff, Nat.reduceEqDiff, Nat.reduceLT, ix0, ix1, in0, in1, ltr2, ltr3, ltr4, ltr5, ltr6, ltr7, ltr8, ltr9, ltr10, ltr11, ltr12, ltr13, ltr14, ltr15, ltr16, ltr17, ltr20, ltr22, ltr23, ltr24, ltr25, ltr31, ltr32, ltr40, ltr41, ltr42, ltr43, ltr45, ltr47, ltr48, ltr50, ltr52, ltr57, ltr59, ltr60, ltr61, ltr62, ltr64, ltr65, ltr72, ltr77, ltr90, ltr91, ltr97, ltr99, ltr100, ltr122, ltr144, ltr216, ltr236, ltr240, ltr255, ltr256, ltr257, ltr258, ltr259, ltr260, ltr261, ltr262, ltr271, ltr272, ltr273, ltr288, ltr336, ltr380, ltr400, ltr1000, ltr1600, ltr9999, ltr10000, ixN, inN, ltN, leN, eqN, lt0N, le0N, eq0N, eq1N, addN, add1N, mulN, divN, remN, modS, rdN, inCN, inR0, inR1, inRN, inVN, gP_1, Nat.le_refl, p9, a9, b9, r9_0, r9_7, mkR_e (L := L) (show 8 + 238 = 246 from rfl), p8, a8, c8, mkR_e (L := L) (show 8 + 237 = 245 from rfl), rwA]
  refine k_chInit (d := d + 4) rwS rwS ?_
  intro I10 J10 R10x m
  replace S := SX_s (i := 10) (n' := 241) (e := 249) S2 (by omega) rfl rfl m (by omega)
  have z9 : okO (gP L 241) 11 8 := gP_ok (q := 0) rfl (by omega) (by omega)
  simp (disch := omega) only [x_X11_init_0, x_X11_init_1, x_X11_init_4, x_X11_init_5, x_X11_init_8, x_X11_init_9, x_X11_init_12, x_X11_init_15, x_X11_init_16, x_X11_init_19, x_X11_init_20, x_X11_init_23, x_X11_init_26, x_X11_init_27, x_X11_init_30, x_X11_init_31, x_X11_init_34, x_X11_init_37, x_X11_init_38, x_X11_init_41, x_X11_init_42, x_X11_init_43, x_X11_init_46, x_X11_init_49, x_X11_init_52, x_X11_init_53, x_X11_init_56, x_X11_init_57, x_X11_init_60, x_X11_init_63, x_X11_init_64, x_X11_init_67, x_X11_init_68, x_X11_init_69, x_X11_init_72, x_X11_init_75, x_X11_init_78, x_X11_init_79, x_X11_init_82, x_X11_init_83, x_X11_init_84, x_X11_init_87, x_X11_init_90, x_X11_init_93, x_X11_init_94, x_X11_init_97, x_X11_init_98, x_X11_init_99, x_X11_init_102, x_X11_init_105, x_X11_init_108, x_X11_init_109, x_X11_init_112, x_X11_init_114, x_X11_init_117, x_X11_init_118, x_X11_init_121, x_X11_init_122, x_X11_init_123, x_X11_init_126, x_X11_init_127, x_X11_init_130, x_X11_init_133, Bool.false_eq_true, am_cl_i, am_cl_r, am_cl_n, am_cl_l, am_cl_0, va_rf_s, va_rf_0, tl_s, tl_n, bi_0, bi_1, bi_z, true_and, and_true, false_and, and_false, true_implies, false_implies, implies_true, not_true_eq_false, not_false_eq_true, and_self, true_or, or_true, false_or, or_false, eq_self, Nat.reduceAdd, Nat.reduceMul, Nat.reduceSub, Nat.reduceDiv, Nat.reduceMod, Nat.reduceLeDiff, Nat.reduceEqDiff, Nat.reduceLT, ix0, ix1, in0, in1, z9]
  generalize am_up R10x 8 10 (some 246) = R10 at S ⊢
  simp (disch := omega) only [x_X11_init_0, x_X11_init_1, x_X11_init_4, x_X11_init_5, x_X11_init_8, x_X11_init_9, x_X11_init_12, x_X11_init_15, x_X11_init_16, x_X11_init_19, x_X11_init_20, x_X11_init_23, x_X11_init_26, x_X11_init_27, x_X11_init_30, x_X11_init_31, x_X11_init_34, x_X11_init_37, x_X11_init_38, x_X11_init_41, x_X11_init_42, x_X11_init_43, x_X11_init_46, x_X11_init_49, x_X11_init_52, x_X11_init_53, x_X11_init_56, x_X11_init_57, x_X11_init_60, x_X11_init_63, x_X11_init_64, x_X11_init_67, x_X11_init_68, x_X11_init_69, x_X11_init_72, x_X11_init_75, x_X11_init_78, x_X11_init_79, x_X11_init_82, x_X11_init_83, x_X11_init_84, x_X11_init_87, x_X11_init_90, x_X11_init_93, x_X11_init_94, x_X11_init_97, x_X11_init_98, x_X11_init_99, x_X11_init_102, x_X11_init_105, x_X11_init_108, x_X11_init_109, x_X11_init_112, x_X11_init_114, x_X11_init_117, x_X11_init_118, x_X11_init_121, x_X11_init_122, x_X11_init_123, x_X11_init_126, x_X11_init_127, x_X11_init_130, x_X11_init_133, x_X11_init_136, Bool.false_eq_true, am_cl_i, am_cl_r, am_cl_n, am_cl_l, am_cl_0, va_rf_s, va_rf_0, tl_s, tl_n, bi_0, bi_1, bi_z, true_and, and_true, false_and, and_false, true_implies, false_implies, implies_true, not_true_eq_false, not_false_eq_true, and_self, true_or, or_true, false_or, or_false, eq_self, Nat.reduceAdd, Nat.reduceMul, Nat.reduceSub, Nat.reduceDiv, Nat.reduceMod, Nat.reduceLeDiff, Nat.reduceEqDiff, Nat.reduceLT, ix0, ix1, in0, in1, Nat.le_refl]
  refine hk _ _ _ ?_
  have er : (fun k => rT8.getD k none) = va_up (va_up (va_up (va_up (va_up (va_up (va_up (va_up (va_up (va_up (fun _ => none) 0 (some 9)) 1 (some 69)) 3 (some 129)) 4 (some 221)) 5 (some 223)) 6 (some 227)) 7 (some 233)) 8 (some 239)) 9 (some 245)) 10 (some 246) := by
    funext j
    match j with
    | 0 => rfl
    | 1 => rfl
    | 2 => rfl
    | 3 => rfl
    | 4 => rfl
    | 5 => rfl
    | 6 => rfl
    | 7 => rfl
    | 8 => rfl
    | 9 => rfl
    | 10 => rfl
    | j + 11 => rfl
  rw [er]
  exact S
end MAK5
