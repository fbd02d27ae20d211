/-- the words' row, in the making -/
def wdp (m : Nat) : Nat → Int32 := fun i => if i < m then wdL.getD i 0 else 0
section MAK6
variable {d : Nat} {k : am_k} {g : am_G} {I I' I1 I0 f : Nat → Nat → Int32} {J : Nat → Nat → Int64} {R R' R1 R0 : Nat → Nat → Option Nat} {r : Nat → Option Nat} {a x y : Int32} {L : Nat} {b c e p q n n' u t m l o s i j ci : Nat}
theorem ltr18 : (18 : Int32) = nI 18 := by decide
theorem ltr19 : (19 : Int32) = nI 19 := by decide
theorem ltr21 : (21 : Int32) = nI 21 := by decide
theorem ltr26 : (26 : Int32) = nI 26 := by decide
theorem ltr27 : (27 : Int32) = nI 27 := by decide
theorem ltr28 : (28 : Int32) = nI 28 := by decide
theorem ltr29 : (29 : Int32) = nI 29 := by decide
theorem ltr30 : (30 : Int32) = nI 30 := by decide
theorem ltr33 : (33 : Int32) = nI 33 := by decide
theorem ltr34 : (34 : Int32) = nI 34 := by decide
theorem ltr35 : (35 : Int32) = nI 35 := by decide
theorem ltr36 : (36 : Int32) = nI 36 := by decide
theorem ltr37 : (37 : Int32) = nI 37 := by decide
theorem ltr38 : (38 : Int32) = nI 38 := by decide
theorem ltr39 : (39 : Int32) = nI 39 := by decide
theorem ltr44 : (44 : Int32) = nI 44 := by decide
theorem ltr46 : (46 : Int32) = nI 46 := by decide
theorem ltr49 : (49 : Int32) = nI 49 := by decide
theorem ltr51 : (51 : Int32) = nI 51 := by decide
theorem ltr53 : (53 : Int32) = nI 53 := by decide
theorem ltr54 : (54 : Int32) = nI 54 := by decide
theorem ltr55 : (55 : Int32) = nI 55 := by decide
theorem ltr56 : (56 : Int32) = nI 56 := by decide
theorem ltr58 : (58 : Int32) = nI 58 := by decide
theorem ltr63 : (63 : Int32) = nI 63 := by decide
theorem ltr66 : (66 : Int32) = nI 66 := by decide
theorem ltr67 : (67 : Int32) = nI 67 := by decide
theorem ltr68 : (68 : Int32) = nI 68 := by decide
theorem ltr69 : (69 : Int32) = nI 69 := by decide
theorem ltr70 : (70 : Int32) = nI 70 := by decide
theorem ltr71 : (71 : Int32) = nI 71 := by decide
theorem ltr73 : (73 : Int32) = nI 73 := by decide
theorem ltr74 : (74 : Int32) = nI 74 := by decide
theorem ltr75 : (75 : Int32) = nI 75 := by decide
theorem ltr76 : (76 : Int32) = nI 76 := by decide
theorem ltr80 : (80 : Int32) = nI 80 := by decide
theorem ltr101 : (101 : Int32) = nI 101 := by decide
theorem ltr102 : (102 : Int32) = nI 102 := by decide
theorem ltr103 : (103 : Int32) = nI 103 := by decide
theorem ltr104 : (104 : Int32) = nI 104 := by decide
theorem ltr105 : (105 : Int32) = nI 105 := by decide
theorem ltr108 : (108 : Int32) = nI 108 := by decide
theorem ltr110 : (110 : Int32) = nI 110 := by decide
theorem ltr111 : (111 : Int32) = nI 111 := by decide
theorem ltr114 : (114 : Int32) = nI 114 := by decide
theorem ltr115 : (115 : Int32) = nI 115 := by decide
theorem ltr116 : (116 : Int32) = nI 116 := by decide
theorem ltr117 : (117 : Int32) = nI 117 := by decide
theorem ltr118 : (118 : Int32) = nI 118 := by decide
theorem ltr119 : (119 : Int32) = nI 119 := by decide
theorem ltr120 : (120 : Int32) = nI 120 := by decide
theorem ltr121 : (121 : Int32) = nI 121 := by decide
theorem ltr420 : (420 : Int32) = nI 420 := by decide
theorem ltr432 : (432 : Int32) = nI 432 := by decide
theorem ltr1872 : (1872 : Int32) = nI 1872 := by decide
theorem ltr2000 : (2000 : Int32) = nI 2000 := by decide
theorem ltr2016 : (2016 : Int32) = nI 2016 := by decide
theorem ltr4300 : (4300 : Int32) = nI 4300 := by decide
theorem wdp_0 : (fun _ => 0) = wdp 0 := by
  funext i
  unfold wdp
  rw [if_neg (by omega)]
theorem wd_s (h : wdL.getD m 0 = y) : am_up (am_rw f 266 (wdp m)) 266 m y = am_rw f 266 (wdp (m + 1)) := by
  funext q
  by_cases e : q = 266
  · subst e
    rw [upW, rwS, rwS]
    funext i
    unfold wdp
    by_cases ei : i = m
    · subst ei
      rw [vu_s, if_pos (by omega), h]
    · rw [vu_n ei]
      by_cases g : i < m
      · rw [if_pos g, if_pos (by omega)]
      · rw [if_neg g, if_neg (by omega)]
  · rw [upR e, rwA e, rwA e]
theorem w_c (h : 266 ≠ q) : am_rw (am_rw f 266 (wdp m)) q (fun _ => 0) = am_rw (am_rw f q (fun _ => 0)) 266 (wdp m) := by
  funext b
  by_cases e : b = 266
  · subst e
    rw [rwA h, rwS, rwS]
  · rw [rwA e]
    by_cases e2 : b = q
    · subst e2; rw [rwS, rwS]
    · rw [rwA e2, rwA e2, rwA e]
theorem up_c : am_up (am_up f 249 i x) 266 m y = am_up (am_up f 266 m y) 249 i x := by
  funext b
  by_cases e : b = 266
  · subst e
    rw [upW, upR (by omega), upR (by omega), upW]
  · rw [upR e]
    by_cases e2 : b = 249
    · subst e2; rw [upW, upW, upR e]
    · rw [upR e2, upR e2, upR e]
theorem wds0 : am_up (am_rw f 266 (wdp 0)) 266 0 (nI 32) = am_rw f 266 (wdp 1) := wd_s (by decide)
theorem wds1 : am_up (am_rw f 266 (wdp 1)) 266 1 (nI 115) = am_rw f 266 (wdp 2) := wd_s (by decide)
theorem wds2 : am_up (am_rw f 266 (wdp 2)) 266 2 (nI 97) = am_rw f 266 (wdp 3) := wd_s (by decide)
theorem wds3 : am_up (am_rw f 266 (wdp 3)) 266 3 (nI 105) = am_rw f 266 (wdp 4) := wd_s (by decide)
theorem wds4 : am_up (am_rw f 266 (wdp 4)) 266 4 (nI 108) = am_rw f 266 (wdp 5) := wd_s (by decide)
theorem wds5 : am_up (am_rw f 266 (wdp 5)) 266 5 (nI 32) = am_rw f 266 (wdp 6) := wd_s (by decide)
theorem wds6 : am_up (am_rw f 266 (wdp 6)) 266 6 (nI 102) = am_rw f 266 (wdp 7) := wd_s (by decide)
theorem wds7 : am_up (am_rw f 266 (wdp 7)) 266 7 (nI 117) = am_rw f 266 (wdp 8) := wd_s (by decide)
theorem wds8 : am_up (am_rw f 266 (wdp 8)) 266 8 (nI 114) = am_rw f 266 (wdp 9) := wd_s (by decide)
theorem wds9 : am_up (am_rw f 266 (wdp 9)) 266 9 (nI 108) = am_rw f 266 (wdp 10) := wd_s (by decide)
theorem wds10 : am_up (am_rw f 266 (wdp 10)) 266 10 (nI 32) = am_rw f 266 (wdp 11) := wd_s (by decide)
theorem wds11 : am_up (am_rw f 266 (wdp 11)) 266 11 (nI 119) = am_rw f 266 (wdp 12) := wd_s (by decide)
theorem wds12 : am_up (am_rw f 266 (wdp 12)) 266 12 (nI 104) = am_rw f 266 (wdp 13) := wd_s (by decide)
theorem wds13 : am_up (am_rw f 266 (wdp 13)) 266 13 (nI 101) = am_rw f 266 (wdp 14) := wd_s (by decide)
theorem wds14 : am_up (am_rw f 266 (wdp 14)) 266 14 (nI 110) = am_rw f 266 (wdp 15) := wd_s (by decide)
theorem wds15 : am_up (am_rw f 266 (wdp 15)) 266 15 (nI 32) = am_rw f 266 (wdp 16) := wd_s (by decide)
theorem wds16 : am_up (am_rw f 266 (wdp 16)) 266 16 (nI 111) = am_rw f 266 (wdp 17) := wd_s (by decide)
theorem wds17 : am_up (am_rw f 266 (wdp 17)) 266 17 (nI 114) = am_rw f 266 (wdp 18) := wd_s (by decide)
theorem wds18 : am_up (am_rw f 266 (wdp 18)) 266 18 (nI 32) = am_rw f 266 (wdp 19) := wd_s (by decide)
theorem wds19 : am_up (am_rw f 266 (wdp 19)) 266 19 (nI 97) = am_rw f 266 (wdp 20) := wd_s (by decide)
theorem wds20 : am_up (am_rw f 266 (wdp 20)) 266 20 (nI 110) = am_rw f 266 (wdp 21) := wd_s (by decide)
theorem wds21 : am_up (am_rw f 266 (wdp 21)) 266 21 (nI 100) = am_rw f 266 (wdp 22) := wd_s (by decide)
theorem wds22 : am_up (am_rw f 266 (wdp 22)) 266 22 (nI 32) = am_rw f 266 (wdp 23) := wd_s (by decide)
theorem wds23 : am_up (am_rw f 266 (wdp 23)) 266 23 (nI 110) = am_rw f 266 (wdp 24) := wd_s (by decide)
theorem wds24 : am_up (am_rw f 266 (wdp 24)) 266 24 (nI 111) = am_rw f 266 (wdp 25) := wd_s (by decide)
theorem wds25 : am_up (am_rw f 266 (wdp 25)) 266 25 (nI 116) = am_rw f 266 (wdp 26) := wd_s (by decide)
theorem wds26 : am_up (am_rw f 266 (wdp 26)) 266 26 (nI 32) = am_rw f 266 (wdp 27) := wd_s (by decide)
theorem wds27 : am_up (am_rw f 266 (wdp 27)) 266 27 (nI 120) = am_rw f 266 (wdp 28) := wd_s (by decide)
theorem wds28 : am_up (am_rw f 266 (wdp 28)) 266 28 (nI 32) = am_rw f 266 (wdp 29) := wd_s (by decide)
theorem wds29 : am_up (am_rw f 266 (wdp 29)) 266 29 (nI 121) = am_rw f 266 (wdp 30) := wd_s (by decide)
theorem wds30 : am_up (am_rw f 266 (wdp 30)) 266 30 (nI 32) = am_rw f 266 (wdp 31) := wd_s (by decide)
theorem wds31 : am_up (am_rw f 266 (wdp 31)) 266 31 (nI 119) = am_rw f 266 (wdp 32) := wd_s (by decide)
theorem wds32 : am_up (am_rw f 266 (wdp 32)) 266 32 (nI 97) = am_rw f 266 (wdp 33) := wd_s (by decide)
theorem wds33 : am_up (am_rw f 266 (wdp 33)) 266 33 (nI 121) = am_rw f 266 (wdp 34) := wd_s (by decide)
theorem wds34 : am_up (am_rw f 266 (wdp 34)) 266 34 (nI 32) = am_rw f 266 (wdp 35) := wd_s (by decide)
theorem wds35 : am_up (am_rw f 266 (wdp 35)) 266 35 (nI 102) = am_rw f 266 (wdp 36) := wd_s (by decide)
theorem wds36 : am_up (am_rw f 266 (wdp 36)) 266 36 (nI 111) = am_rw f 266 (wdp 37) := wd_s (by decide)
theorem wds37 : am_up (am_rw f 266 (wdp 37)) 266 37 (nI 114) = am_rw f 266 (wdp 38) := wd_s (by decide)
theorem wds38 : am_up (am_rw f 266 (wdp 38)) 266 38 (nI 99) = am_rw f 266 (wdp 39) := wd_s (by decide)
theorem wds39 : am_up (am_rw f 266 (wdp 39)) 266 39 (nI 101) = am_rw f 266 (wdp 40) := wd_s (by decide)
theorem wds40 : am_up (am_rw f 266 (wdp 40)) 266 40 (nI 32) = am_rw f 266 (wdp 41) := wd_s (by decide)
theorem wds41 : am_up (am_rw f 266 (wdp 41)) 266 41 (nI 104) = am_rw f 266 (wdp 42) := wd_s (by decide)
theorem wds42 : am_up (am_rw f 266 (wdp 42)) 266 42 (nI 111) = am_rw f 266 (wdp 43) := wd_s (by decide)
theorem wds43 : am_up (am_rw f 266 (wdp 43)) 266 43 (nI 117) = am_rw f 266 (wdp 44) := wd_s (by decide)
theorem wds44 : am_up (am_rw f 266 (wdp 44)) 266 44 (nI 114) = am_rw f 266 (wdp 45) := wd_s (by decide)
theorem wds45 : am_up (am_rw f 266 (wdp 45)) 266 45 (nI 32) = am_rw f 266 (wdp 46) := wd_s (by decide)
theorem wds46 : am_up (am_rw f 266 (wdp 46)) 266 46 (nI 116) = am_rw f 266 (wdp 47) := wd_s (by decide)
theorem wds47 : am_up (am_rw f 266 (wdp 47)) 266 47 (nI 104) = am_rw f 266 (wdp 48) := wd_s (by decide)
theorem wds48 : am_up (am_rw f 266 (wdp 48)) 266 48 (nI 105) = am_rw f 266 (wdp 49) := wd_s (by decide)
theorem wds49 : am_up (am_rw f 266 (wdp 49)) 266 49 (nI 114) = am_rw f 266 (wdp 50) := wd_s (by decide)
theorem wds50 : am_up (am_rw f 266 (wdp 50)) 266 50 (nI 115) = am_rw f 266 (wdp 51) := wd_s (by decide)
theorem wds51 : am_up (am_rw f 266 (wdp 51)) 266 51 (nI 116) = am_rw f 266 (wdp 52) := wd_s (by decide)
theorem wds52 : am_up (am_rw f 266 (wdp 52)) 266 52 (nI 32) = am_rw f 266 (wdp 53) := wd_s (by decide)
theorem wds53 : am_up (am_rw f 266 (wdp 53)) 266 53 (nI 99) = am_rw f 266 (wdp 54) := wd_s (by decide)
theorem wds54 : am_up (am_rw f 266 (wdp 54)) 266 54 (nI 114) = am_rw f 266 (wdp 55) := wd_s (by decide)
theorem wds55 : am_up (am_rw f 266 (wdp 55)) 266 55 (nI 117) = am_rw f 266 (wdp 56) := wd_s (by decide)
theorem wds56 : am_up (am_rw f 266 (wdp 56)) 266 56 (nI 115) = am_rw f 266 (wdp 57) := wd_s (by decide)
theorem wds57 : am_up (am_rw f 266 (wdp 57)) 266 57 (nI 116) = am_rw f 266 (wdp 58) := wd_s (by decide)
theorem wds58 : am_up (am_rw f 266 (wdp 58)) 266 58 (nI 32) = am_rw f 266 (wdp 59) := wd_s (by decide)
theorem wds59 : am_up (am_rw f 266 (wdp 59)) 266 59 (nI 110) = am_rw f 266 (wdp 60) := wd_s (by decide)
theorem wds60 : am_up (am_rw f 266 (wdp 60)) 266 60 (nI 101) = am_rw f 266 (wdp 61) := wd_s (by decide)
theorem wds61 : am_up (am_rw f 266 (wdp 61)) 266 61 (nI 97) = am_rw f 266 (wdp 62) := wd_s (by decide)
theorem wds62 : am_up (am_rw f 266 (wdp 62)) 266 62 (nI 114) = am_rw f 266 (wdp 63) := wd_s (by decide)
theorem wds63 : am_up (am_rw f 266 (wdp 63)) 266 63 (nI 32) = am_rw f 266 (wdp 64) := wd_s (by decide)
theorem wds64 : am_up (am_rw f 266 (wdp 64)) 266 64 (nI 116) = am_rw f 266 (wdp 65) := wd_s (by decide)
theorem wds65 : am_up (am_rw f 266 (wdp 65)) 266 65 (nI 105) = am_rw f 266 (wdp 66) := wd_s (by decide)
theorem wds66 : am_up (am_rw f 266 (wdp 66)) 266 66 (nI 101) = am_rw f 266 (wdp 67) := wd_s (by decide)
theorem wds67 : am_up (am_rw f 266 (wdp 67)) 266 67 (nI 100) = am_rw f 266 (wdp 68) := wd_s (by decide)
theorem wds68 : am_up (am_rw f 266 (wdp 68)) 266 68 (nI 32) = am_rw f 266 (wdp 69) := wd_s (by decide)
theorem wds69 : am_up (am_rw f 266 (wdp 69)) 266 69 (nI 118) = am_rw f 266 (wdp 70) := wd_s (by decide)
theorem wds70 : am_up (am_rw f 266 (wdp 70)) 266 70 (nI 105) = am_rw f 266 (wdp 71) := wd_s (by decide)
theorem wds71 : am_up (am_rw f 266 (wdp 71)) 266 71 (nI 108) = am_rw f 266 (wdp 72) := wd_s (by decide)
theorem wds72 : am_up (am_rw f 266 (wdp 72)) 266 72 (nI 108) = am_rw f 266 (wdp 73) := wd_s (by decide)
theorem wds73 : am_up (am_rw f 266 (wdp 73)) 266 73 (nI 97) = am_rw f 266 (wdp 74) := wd_s (by decide)
theorem wds74 : am_up (am_rw f 266 (wdp 74)) 266 74 (nI 103) = am_rw f 266 (wdp 75) := wd_s (by decide)
theorem wds75 : am_up (am_rw f 266 (wdp 75)) 266 75 (nI 101) = am_rw f 266 (wdp 76) := wd_s (by decide)
theorem wds76 : am_up (am_rw f 266 (wdp 76)) 266 76 (nI 32) = am_rw f 266 (wdp 77) := wd_s (by decide)
theorem k_w0 {l0 : Option Value} {st : List Value} : aw d mX12_init k 159 [l0] (.ref 266 :: st) (gP L 259) (am_rw f 266 (wdp 0)) J R c s = aw d mX12_init k 273 [l0] (.ref 266 :: st) (gP L 259) (am_rw f 266 (wdp 20)) J R c s := by
  have g2 : (gP L 259).2 266 = (0, 77) := by rw [gP_2 (by omega)]; rfl
  simp (disch := omega) only [x_X12_init_159, x_X12_init_160, x_X12_init_161, x_X12_init_163, x_X12_init_164, x_X12_init_165, x_X12_init_166, x_X12_init_168, x_X12_init_169, x_X12_init_170, x_X12_init_171, x_X12_init_173, x_X12_init_174, x_X12_init_175, x_X12_init_176, x_X12_init_178, x_X12_init_179, x_X12_init_180, x_X12_init_181, x_X12_init_183, x_X12_init_184, x_X12_init_185, x_X12_init_186, x_X12_init_188, x_X12_init_189, x_X12_init_190, x_X12_init_192, x_X12_init_194, x_X12_init_195, x_X12_init_196, x_X12_init_198, x_X12_init_200, x_X12_init_201, x_X12_init_202, x_X12_init_204, x_X12_init_206, x_X12_init_207, x_X12_init_208, x_X12_init_210, x_X12_init_212, x_X12_init_213, x_X12_init_214, x_X12_init_216, x_X12_init_218, x_X12_init_219, x_X12_init_220, x_X12_init_222, x_X12_init_224, x_X12_init_225, x_X12_init_226, x_X12_init_228, x_X12_init_230, x_X12_init_231, x_X12_init_232, x_X12_init_234, x_X12_init_236, x_X12_init_237, x_X12_init_238, x_X12_init_240, x_X12_init_242, x_X12_init_243, x_X12_init_244, x_X12_init_246, x_X12_init_248, x_X12_init_249, x_X12_init_250, x_X12_init_252, x_X12_init_254, x_X12_init_255, x_X12_init_256, x_X12_init_258, x_X12_init_260, x_X12_init_261, x_X12_init_262, x_X12_init_264, x_X12_init_266, x_X12_init_267, x_X12_init_268, x_X12_init_270, x_X12_init_272, Bool.false_eq_true, am_cl_i, am_cl_r, am_cl_n, am_cl_l, am_cl_0, va_rf_s, va_rf_0, tl_s, tl_n, bi_0, bi_1, bi_z, true_and, and_true, false_and, and_false, true_implies, false_implies, implies_true, not_true_eq_false, not_false_eq_true, and_self, true_or, or_true, false_or, or_false, eq_self, Nat.reduceAdd, Nat.reduceMul, Nat.reduceSub, Nat.reduceDiv, Nat.reduceMod, Nat.reduceLeDiff, Nat.reduceEqDiff, Nat.reduceLT, ix0, ix1, in0, in1, ltr2, ltr3, ltr4, ltr5, ltr6, ltr7, ltr8, ltr9, ltr10, ltr11, ltr12, ltr13, ltr14, ltr15, ltr16, ltr17, ltr20, ltr22, ltr23, ltr24, ltr25, ltr31, ltr32, ltr40, ltr41, ltr42, ltr43, ltr45, ltr47, ltr48, ltr50, ltr52, ltr57, ltr59, ltr60, ltr61, ltr62, ltr64, ltr65, ltr72, ltr77, ltr90, ltr91, ltr97, ltr99, ltr100, ltr122, ltr144, ltr216, ltr236, ltr240, ltr255, ltr256, ltr257, ltr258, ltr259, ltr260, ltr261, ltr262, ltr271, ltr272, ltr273, ltr288, ltr336, ltr380, ltr400, ltr1000, ltr1600, ltr9999, ltr10000, ixN, inN, ltN, leN, eqN, lt0N, le0N, eq0N, eq1N, addN, add1N, mulN, divN, remN, modS, rdN, inCN, inR0, inR1, inRN, inVN, ltr18, ltr19, ltr21, ltr26, ltr27, ltr28, ltr29, ltr30, ltr33, ltr34, ltr35, ltr36, ltr37, ltr38, ltr39, ltr44, ltr46, ltr49, ltr51, ltr53, ltr54, ltr55, ltr56, ltr58, ltr63, ltr66, ltr67, ltr68, ltr69, ltr70, ltr71, ltr73, ltr74, ltr75, ltr76, ltr80, ltr101, ltr102, ltr103, ltr104, ltr105, ltr108, ltr110, ltr111, ltr114, ltr115, ltr116, ltr117, ltr118, ltr119, ltr120, ltr121, ltr420, ltr432, ltr1872, ltr2000, ltr2016, ltr4300, g2, wds0, wds1, wds2, wds3, wds4, wds5, wds6, wds7, wds8, wds9, wds10, wds11, wds12, wds13, wds14, wds15, wds16, wds17, wds18, wds19]
theorem k_w1 {l0 : Option Value} {st : List Value} : aw d mX12_init k 273 [l0] (.ref 266 :: st) (gP L 259) (am_rw f 266 (wdp 20)) J R c s = aw d mX12_init k 393 [l0] (.ref 266 :: st) (gP L 259) (am_rw f 266 (wdp 40)) J R c s := by
  have g2 : (gP L 259).2 266 = (0, 77) := by rw [gP_2 (by omega)]; rfl
  simp (disch := omega) only [x_X12_init_273, x_X12_init_274, x_X12_init_276, x_X12_init_278, x_X12_init_279, x_X12_init_280, x_X12_init_282, x_X12_init_284, x_X12_init_285, x_X12_init_286, x_X12_init_288, x_X12_init_290, x_X12_init_291, x_X12_init_292, x_X12_init_294, x_X12_init_296, x_X12_init_297, x_X12_init_298, x_X12_init_300, x_X12_init_302, x_X12_init_303, x_X12_init_304, x_X12_init_306, x_X12_init_308, x_X12_init_309, x_X12_init_310, x_X12_init_312, x_X12_init_314, x_X12_init_315, x_X12_init_316, x_X12_init_318, x_X12_init_320, x_X12_init_321, x_X12_init_322, x_X12_init_324, x_X12_init_326, x_X12_init_327, x_X12_init_328, x_X12_init_330, x_X12_init_332, x_X12_init_333, x_X12_init_334, x_X12_init_336, x_X12_init_338, x_X12_init_339, x_X12_init_340, x_X12_init_342, x_X12_init_344, x_X12_init_345, x_X12_init_346, x_X12_init_348, x_X12_init_350, x_X12_init_351, x_X12_init_352, x_X12_init_354, x_X12_init_356, x_X12_init_357, x_X12_init_358, x_X12_init_360, x_X12_init_362, x_X12_init_363, x_X12_init_364, x_X12_init_366, x_X12_init_368, x_X12_init_369, x_X12_init_370, x_X12_init_372, x_X12_init_374, x_X12_init_375, x_X12_init_376, x_X12_init_378, x_X12_init_380, x_X12_init_381, x_X12_init_382, x_X12_init_384, x_X12_init_386, x_X12_init_387, x_X12_init_388, x_X12_init_390, x_X12_init_392, Bool.false_eq_true, am_cl_i, am_cl_r, am_cl_n, am_cl_l, am_cl_0, va_rf_s, va_rf_0, tl_s, tl_n, bi_0, bi_1, bi_z, true_and, and_true, false_and, and_false, true_implies, false_implies, implies_true, not_true_eq_false, not_false_eq_true, and_self, true_or, or_true, false_or, or_false, eq_self, Nat.reduceAdd, Nat.reduceMul, Nat.reduceSub, Nat.reduceDiv, Nat.reduceMod, Nat.reduceLeDiff, Nat.reduceEqDiff, Nat.reduceLT, ix0, ix1, in0, in1, ltr2, ltr3, ltr4, ltr5, ltr6, ltr7, ltr8, ltr9, ltr10, ltr11, ltr12, ltr13, ltr14, ltr15, ltr16, ltr17, ltr20, ltr22, ltr23, ltr24, ltr25, ltr31, ltr32, ltr40, ltr41, ltr42, ltr43, ltr45, ltr47, ltr48, ltr50, ltr52, ltr57, ltr59, ltr60, ltr61, ltr62, ltr64, ltr65, ltr72, ltr77, ltr90, ltr91, ltr97, ltr99, ltr100, ltr122, ltr144, ltr216, ltr236, ltr240, ltr255, ltr256, ltr257, ltr258, ltr259, ltr260, ltr261, ltr262, ltr271, ltr272, ltr273, ltr288, ltr336, ltr380, ltr400, ltr1000, ltr1600, ltr9999, ltr10000, ixN, inN, ltN, leN, eqN, lt0N, le0N, eq0N, eq1N, addN, add1N, mulN, divN, remN, modS, rdN, inCN, inR0, inR1, inRN, inVN, ltr18, ltr19, ltr21, ltr26, ltr27, ltr28, ltr29, ltr30, ltr33, ltr34, ltr35, ltr36, ltr37, ltr38, ltr39, ltr44, ltr46, ltr49, ltr51, ltr53, ltr54, ltr55, ltr56, ltr58, ltr63, ltr66, ltr67, ltr68, ltr69, ltr70, ltr71, ltr73, ltr74, ltr75, ltr76, ltr80, ltr101, ltr102, ltr103, ltr104, ltr105, ltr108, ltr110, ltr111, ltr114, ltr115, ltr116, ltr117, ltr118, ltr119, ltr120, ltr121, ltr420, ltr432, ltr1872, ltr2000, ltr2016, ltr4300, g2, wds20, wds21, wds22, wds23, wds24, wds25, wds26, wds27, wds28, wds29, wds30, wds31, wds32, wds33, wds34, wds35, wds36, wds37, wds38, wds39]
theorem k_w2 {l0 : Option Value} {st : List Value} : aw d mX12_init k 393 [l0] (.ref 266 :: st) (gP L 259) (am_rw f 266 (wdp 40)) J R c s = aw d mX12_init k 513 [l0] (.ref 266 :: st) (gP L 259) (am_rw f 266 (wdp 60)) J R c s := by
  have g2 : (gP L 259).2 266 = (0, 77) := by rw [gP_2 (by omega)]; rfl
  simp (disch := omega) only [x_X12_init_393, x_X12_init_394, x_X12_init_396, x_X12_init_398, x_X12_init_399, x_X12_init_400, x_X12_init_402, x_X12_init_404, x_X12_init_405, x_X12_init_406, x_X12_init_408, x_X12_init_410, x_X12_init_411, x_X12_init_412, x_X12_init_414, x_X12_init_416, x_X12_init_417, x_X12_init_418, x_X12_init_420, x_X12_init_422, x_X12_init_423, x_X12_init_424, x_X12_init_426, x_X12_init_428, x_X12_init_429, x_X12_init_430, x_X12_init_432, x_X12_init_434, x_X12_init_435, x_X12_init_436, x_X12_init_438, x_X12_init_440, x_X12_init_441, x_X12_init_442, x_X12_init_444, x_X12_init_446, x_X12_init_447, x_X12_init_448, x_X12_init_450, x_X12_init_452, x_X12_init_453, x_X12_init_454, x_X12_init_456, x_X12_init_458, x_X12_init_459, x_X12_init_460, x_X12_init_462, x_X12_init_464, x_X12_init_465, x_X12_init_466, x_X12_init_468, x_X12_init_470, x_X12_init_471, x_X12_init_472, x_X12_init_474, x_X12_init_476, x_X12_init_477, x_X12_init_478, x_X12_init_480, x_X12_init_482, x_X12_init_483, x_X12_init_484, x_X12_init_486, x_X12_init_488, x_X12_init_489, x_X12_init_490, x_X12_init_492, x_X12_init_494, x_X12_init_495, x_X12_init_496, x_X12_init_498, x_X12_init_500, x_X12_init_501, x_X12_init_502, x_X12_init_504, x_X12_init_506, x_X12_init_507, x_X12_init_508, x_X12_init_510, x_X12_init_512, Bool.false_eq_true, am_cl_i, am_cl_r, am_cl_n, am_cl_l, am_cl_0, va_rf_s, va_rf_0, tl_s, tl_n, bi_0, bi_1, bi_z, true_and, and_true, false_and, and_false, true_implies, false_implies, implies_true, not_true_eq_false, not_false_eq_true, and_self, true_or, or_true, false_or, or_false, eq_self, Nat.reduceAdd, Nat.reduceMul, Nat.reduceSub, Nat.reduceDiv, Nat.reduceMod, Nat.reduceLeDiff, Nat.reduceEqDiff, Nat.reduceLT, ix0, ix1, in0, in1, ltr2, ltr3, ltr4, ltr5, ltr6, ltr7, ltr8, ltr9, ltr10, ltr11, ltr12, ltr13, ltr14, ltr15, ltr16, ltr17, ltr20, ltr22, ltr23, ltr24, ltr25, ltr31, ltr32, ltr40, ltr41, ltr42, ltr43, ltr45, ltr47, ltr48, ltr50, ltr52, ltr57, ltr59, ltr60, ltr61, ltr62, ltr64, ltr65, ltr72, ltr77, ltr90, ltr91, ltr97, ltr99, ltr100, ltr122, ltr144, ltr216, ltr236, ltr240, ltr255, ltr256, ltr257, ltr258, ltr259, ltr260, ltr261, ltr262, ltr271, ltr272, ltr273, ltr288, ltr336, ltr380, ltr400, ltr1000, ltr1600, ltr9999, ltr10000, ixN, inN, ltN, leN, eqN, lt0N, le0N, eq0N, eq1N, addN, add1N, mulN, divN, remN, modS, rdN, inCN, inR0, inR1, inRN, inVN, ltr18, ltr19, ltr21, ltr26, ltr27, ltr28, ltr29, ltr30, ltr33, ltr34, ltr35, ltr36, ltr37, ltr38, ltr39, ltr44, ltr46, ltr49, ltr51, ltr53, ltr54, ltr55, ltr56, ltr58, ltr63, ltr66, ltr67, ltr68, ltr69, ltr70, ltr71, ltr73, ltr74, ltr75, ltr76, ltr80, ltr101, ltr102, ltr103, ltr104, ltr105, ltr108, ltr110, ltr111, ltr114, ltr115, ltr116, ltr117, ltr118, ltr119, ltr120, ltr121, ltr420, ltr432, ltr1872, ltr2000, ltr2016, ltr4300, g2, wds40, wds41, wds42, wds43, wds44, wds45, wds46, wds47, wds48, wds49, wds50, wds51, wds52, wds53, wds54, wds55, wds56, wds57, wds58, wds59]
theorem k_w3 {l0 : Option Value} {st : List Value} : aw d mX12_init k 513 [l0] (.ref 266 :: st) (gP L 259) (am_rw f 266 (wdp 60)) J R c s = aw d mX12_init k 615 [l0] (.ref 266 :: st) (gP L 259) (am_rw f 266 (wdp 77)) J R c s := by
  have g2 : (gP L 259).2 266 = (0, 77) := by rw [gP_2 (by omega)]; rfl
  simp (disch := omega) only [x_X12_init_513, x_X12_init_514, x_X12_init_516, x_X12_init_518, x_X12_init_519, x_X12_init_520, x_X12_init_522, x_X12_init_524, x_X12_init_525, x_X12_init_526, x_X12_init_528, x_X12_init_530, x_X12_init_531, x_X12_init_532, x_X12_init_534, x_X12_init_536, x_X12_init_537, x_X12_init_538, x_X12_init_540, x_X12_init_542, x_X12_init_543, x_X12_init_544, x_X12_init_546, x_X12_init_548, x_X12_init_549, x_X12_init_550, x_X12_init_552, x_X12_init_554, x_X12_init_555, x_X12_init_556, x_X12_init_558, x_X12_init_560, x_X12_init_561, x_X12_init_562, x_X12_init_564, x_X12_init_566, x_X12_init_567, x_X12_init_568, x_X12_init_570, x_X12_init_572, x_X12_init_573, x_X12_init_574, x_X12_init_576, x_X12_init_578, x_X12_init_579, x_X12_init_580, x_X12_init_582, x_X12_init_584, x_X12_init_585, x_X12_init_586, x_X12_init_588, x_X12_init_590, x_X12_init_591, x_X12_init_592, x_X12_init_594, x_X12_init_596, x_X12_init_597, x_X12_init_598, x_X12_init_600, x_X12_init_602, x_X12_init_603, x_X12_init_604, x_X12_init_606, x_X12_init_608, x_X12_init_609, x_X12_init_610, x_X12_init_612, x_X12_init_614, Bool.false_eq_true, am_cl_i, am_cl_r, am_cl_n, am_cl_l, am_cl_0, va_rf_s, va_rf_0, tl_s, tl_n, bi_0, bi_1, bi_z, true_and, and_true, false_and, and_false, true_implies, false_implies, implies_true, not_true_eq_false, not_false_eq_true, and_self, true_or, or_true, false_or, or_false, eq_self, Nat.reduceAdd, Nat.reduceMul, Nat.reduceSub, Nat.reduceDiv, Nat.reduceMod, Nat.reduceLeDiff, Nat.reduceEqDiff, Nat.reduceLT, ix0, ix1, in0, in1, ltr2, ltr3, ltr4, ltr5, ltr6, ltr7, ltr8, ltr9, ltr10, ltr11, ltr12, ltr13, ltr14, ltr15, ltr16, ltr17, ltr20, ltr22, ltr23, ltr24, ltr25, ltr31, ltr32, ltr40, ltr41, ltr42, ltr43, ltr45, ltr47, ltr48, ltr50, ltr52, ltr57, ltr59, ltr60, ltr61, ltr62, ltr64, ltr65, ltr72, ltr77, ltr90, ltr91, ltr97, ltr99, ltr100, ltr122, ltr144, ltr216, ltr236, ltr240, ltr255, ltr256, ltr257, ltr258, ltr259, ltr260, ltr261, ltr262, ltr271, ltr272, ltr273, ltr288, ltr336, ltr380, ltr400, ltr1000, ltr1600, ltr9999, ltr10000, ixN, inN, ltN, leN, eqN, lt0N, le0N, eq0N, eq1N, addN, add1N, mulN, divN, remN, modS, rdN, inCN, inR0, inR1, inRN, inVN, ltr18, ltr19, ltr21, ltr26, ltr27, ltr28, ltr29, ltr30, ltr33, ltr34, ltr35, ltr36, ltr37, ltr38, ltr39, ltr44, ltr46, ltr49, ltr51, ltr53, ltr54, ltr55, ltr56, ltr58, ltr63, ltr66, ltr67, ltr68, ltr69, ltr70, ltr71, ltr73, ltr74, ltr75, ltr76, ltr80, ltr101, ltr102, ltr103, ltr104, ltr105, ltr108, ltr110, ltr111, ltr114, ltr115, ltr116, ltr117, ltr118, ltr119, ltr120, ltr121, ltr420, ltr432, ltr1872, ltr2000, ltr2016, ltr4300, g2, wds60, wds61, wds62, wds63, wds64, wds65, wds66, wds67, wds68, wds69, wds70, wds71, wds72, wds73, wds74, wds75, wds76]
theorem k_mA (hk : ∀ J, aw (d + 1) mX12_init k 159 [some (.ref 249)] [.ref 266, .ref 249] (gP L 259) (am_up (am_up (am_up (zr I 250 17 0) 249 4 (nI 8)) 249 5 (nI 8)) 249 15 (nI 24)) J (am_up (am_up (am_up (am_up (am_up (am_up (am_up (am_up (am_up (am_up (am_up (am_up (am_up (am_up (am_up (am_up (zr R 250 17 none) 249 1 (some 250)) 249 2 (some 251)) 249 6 (some 252)) 249 7 (some 253)) 249 8 (some 254)) 249 9 (some 255)) 249 11 (some 256)) 249 12 (some 257)) 249 13 (some 258)) 249 14 (some 259)) 249 17 (some 260)) 249 18 (some 261)) 249 19 (some 262)) 249 20 (some 263)) 249 21 (some 264)) 249 22 (some 265)) 17 3165) : aw (d + 1) mX12_init k 0 [some (.ref 249)] [] (gP L 242) (zr I 250 0 0) J (zr R 250 0 none) 0 0 := by
  have g0 : mkG (gP L 242) 0 336 = gP L 243 := gP_mk rfl
  have o0 : okO (gP L 243) 12 249 := gP_ok (q := 0) rfl (by omega) (by omega)
  have g1 : mkG (gP L 243) 0 2016 = gP L 244 := gP_mk rfl
  have o1 : okO (gP L 244) 12 249 := gP_ok (q := 0) rfl (by omega) (by omega)
  have g2 : mkG (gP L 244) 0 144 = gP L 245 := gP_mk rfl
  have o2 : okO (gP L 245) 12 249 := gP_ok (q := 0) rfl (by omega) (by omega)
  have g3 : mkG (gP L 245) 0 24 = gP L 246 := gP_mk rfl
  have o3 : okO (gP L 246) 12 249 := gP_ok (q := 0) rfl (by omega) (by omega)
  have g4 : mkG (gP L 246) 0 24 = gP L 247 := gP_mk rfl
  have o4 : okO (gP L 247) 12 249 := gP_ok (q := 0) rfl (by omega) (by omega)
  have g5 : mkG (gP L 247) 0 24 = gP L 248 := gP_mk rfl
  have o5 : okO (gP L 248) 12 249 := gP_ok (q := 0) rfl (by omega) (by omega)
  have g6 : mkG (gP L 248) 0 10 = gP L 249 := gP_mk rfl
  have o6 : okO (gP L 249) 12 249 := gP_ok (q := 0) rfl (by omega) (by omega)
  have g7 : mkG (gP L 249) 0 10 = gP L 250 := gP_mk rfl
  have o7 : okO (gP L 250) 12 249 := gP_ok (q := 0) rfl (by omega) (by omega)
  have g8 : mkG (gP L 250) 0 10 = gP L 251 := gP_mk rfl
  have o8 : okO (gP L 251) 12 249 := gP_ok (q := 0) rfl (by omega) (by omega)
  have g9 : mkG (gP L 251) 0 10 = gP L 252 := gP_mk rfl
  have o9 : okO (gP L 252) 12 249 := gP_ok (q := 0) rfl (by omega) (by omega)
  have g10 : mkG (gP L 252) 0 20 = gP L 253 := gP_mk rfl
  have o10 : okO (gP L 253) 12 249 := gP_ok (q := 0) rfl (by omega) (by omega)
  have g11 : mkG (gP L 253) 0 20 = gP L 254 := gP_mk rfl
  have o11 : okO (gP L 254) 12 249 := gP_ok (q := 0) rfl (by omega) (by omega)
  have g12 : mkG (gP L 254) 0 20 = gP L 255 := gP_mk rfl
  have o12 : okO (gP L 255) 12 249 := gP_ok (q := 0) rfl (by omega) (by omega)
  have g13 : mkG (gP L 255) 0 10 = gP L 256 := gP_mk rfl
  have o13 : okO (gP L 256) 12 249 := gP_ok (q := 0) rfl (by omega) (by omega)
  have g14 : mkG (gP L 256) 0 10 = gP L 257 := gP_mk rfl
  have o14 : okO (gP L 257) 12 249 := gP_ok (q := 0) rfl (by omega) (by omega)
  have g15 : mkG (gP L 257) 0 400 = gP L 258 := gP_mk rfl
  have o15 : okO (gP L 258) 12 249 := gP_ok (q := 0) rfl (by omega) (by omega)
  have g16 : mkG (gP L 258) 0 77 = gP L 259 := gP_mk rfl
  have o16 : okO (gP L 259) 12 249 := gP_ok (q := 0) rfl (by omega) (by omega)
  simp (disch := omega) only [x_X12_init_0, x_X12_init_1, x_X12_init_4, x_X12_init_5, x_X12_init_8, x_X12_init_10, x_X12_init_13, x_X12_init_14, x_X12_init_17, x_X12_init_19, x_X12_init_22, x_X12_init_23, x_X12_init_25, x_X12_init_28, x_X12_init_29, x_X12_init_31, x_X12_init_34, x_X12_init_35, x_X12_init_38, x_X12_init_40, x_X12_init_43, x_X12_init_44, x_X12_init_46, x_X12_init_48, x_X12_init_51, x_X12_init_52, x_X12_init_54, x_X12_init_56, x_X12_init_59, x_X12_init_60, x_X12_init_62, x_X12_init_64, x_X12_init_67, x_X12_init_68, x_X12_init_70, x_X12_init_72, x_X12_init_75, x_X12_init_76, x_X12_init_78, x_X12_init_80, x_X12_init_83, x_X12_init_84, x_X12_init_86, x_X12_init_88, x_X12_init_91, x_X12_init_92, x_X12_init_94, x_X12_init_96, x_X12_init_99, x_X12_init_100, x_X12_init_102, x_X12_init_105, x_X12_init_106, x_X12_init_108, x_X12_init_110, x_X12_init_113, x_X12_init_114, x_X12_init_116, x_X12_init_118, x_X12_init_121, x_X12_init_122, x_X12_init_124, x_X12_init_126, x_X12_init_129, x_X12_init_130, x_X12_init_132, x_X12_init_134, x_X12_init_137, x_X12_init_138, x_X12_init_140, x_X12_init_142, x_X12_init_145, x_X12_init_146, x_X12_init_149, x_X12_init_151, x_X12_init_154, x_X12_init_155, x_X12_init_157, Bool.false_eq_true, am_cl_i, am_cl_r, am_cl_n, am_cl_l, am_cl_0, va_rf_s, va_rf_0, tl_s, tl_n, bi_0, bi_1, bi_z, true_and, and_true, false_and, and_false, true_implies, false_implies, implies_true, not_true_eq_false, not_false_eq_true, and_self, true_or, or_true, false_or, or_false, eq_self, Nat.reduceAdd, Nat.reduceMul, Nat.reduceSub, Nat.reduceDiv, Nat.reduceMod, Nat.reduceLeDiff, Nat.reduceEqDiff, Nat.reduceLT, ix0, ix1, in0, in1, ltr2, ltr3, ltr4, ltr5, ltr6, ltr7, ltr8, ltr9, ltr10, ltr11, ltr12, ltr13, ltr14, ltr15, ltr16, ltr17, ltr20, ltr22, ltr23, ltr24, ltr25, ltr31, ltr32, ltr40, ltr41, ltr42, ltr43, ltr45, ltr47, ltr48, ltr50, ltr52, ltr57, ltr59, ltr60, ltr61, ltr62, ltr64, ltr65, ltr72, ltr77, ltr90, ltr91, ltr97, ltr99, ltr100, ltr122, ltr144, ltr216, ltr236, ltr240, ltr255, ltr256, ltr257, ltr258, ltr259, ltr260, ltr261, ltr262, ltr271, ltr272, ltr273, ltr288, ltr336, ltr380, ltr400, ltr1000, ltr1600, ltr9999, ltr10000, ixN, inN, ltN, leN, eqN, lt0N, le0N, eq0N, eq1N, addN, add1N, mulN, divN, remN, modS, rdN, inCN, inR0, inR1, inRN, inVN, ltr18, ltr19, ltr21, ltr26, ltr27, ltr28, ltr29, ltr30, ltr33, ltr34, ltr35, ltr36, ltr37, ltr38, ltr39, ltr44, ltr46, ltr49, ltr51, ltr53, ltr54, ltr55, ltr56, ltr58, ltr63, ltr66, ltr67, ltr68, ltr69, ltr70, ltr71, ltr73, ltr74, ltr75, ltr76, ltr80, ltr101, ltr102, ltr103, ltr104, ltr105, ltr108, ltr110, ltr111, ltr114, ltr115, ltr116, ltr117, ltr118, ltr119, ltr120, ltr121, ltr420, ltr432, ltr1872, ltr2000, ltr2016, ltr4300, gP_1, rw_up, zr_s, g0, o0, mkR_e (L := L) (show 8 + 242 = 250 from rfl), g1, o1, mkR_e (L := L) (show 8 + 243 = 251 from rfl), g2, o2, mkR_e (L := L) (show 8 + 244 = 252 from rfl), g3, o3, mkR_e (L := L) (show 8 + 245 = 253 from rfl), g4, o4, mkR_e (L := L) (show 8 + 246 = 254 from rfl), g5, o5, mkR_e (L := L) (show 8 + 247 = 255 from rfl), g6, o6, mkR_e (L := L) (show 8 + 248 = 256 from rfl), g7, o7, mkR_e (L := L) (show 8 + 249 = 257 from rfl), g8, o8, mkR_e (L := L) (show 8 + 250 = 258 from rfl), g9, o9, mkR_e (L := L) (show 8 + 251 = 259 from rfl), g10, o10, mkR_e (L := L) (show 8 + 252 = 260 from rfl), g11, o11, mkR_e (L := L) (show 8 + 253 = 261 from rfl), g12, o12, mkR_e (L := L) (show 8 + 254 = 262 from rfl), g13, o13, mkR_e (L := L) (show 8 + 255 = 263 from rfl), g14, o14, mkR_e (L := L) (show 8 + 256 = 264 from rfl), g15, o15, mkR_e (L := L) (show 8 + 257 = 265 from rfl), g16, o16, mkR_e (L := L) (show 8 + 258 = 266 from rfl)]
  exact hk _
theorem k_mC (hk : ∀ J, k none (gP L 272) (am_up (am_up (am_up (am_up (am_rw (zr I 250 30 0) 266 (wdp 77)) 249 4 (nI 8)) 249 5 (nI 8)) 249 15 (nI 24)) 249 42 (-1)) J (am_up (am_up (am_up (am_up (am_up (am_up (am_up (am_up (am_up (am_up (am_up (am_up (am_up (am_up (am_up (am_up (am_up (am_up (am_up (am_up (am_up (am_up (am_up (am_up (am_up (am_up (am_up (am_up (am_up (am_up (zr R 250 30 none) 249 1 (some 250)) 249 2 (some 251)) 249 6 (some 252)) 249 7 (some 253)) 249 8 (some 254)) 249 9 (some 255)) 249 11 (some 256)) 249 12 (some 257)) 249 13 (some 258)) 249 14 (some 259)) 249 17 (some 260)) 249 18 (some 261)) 249 19 (some 262)) 249 20 (some 263)) 249 21 (some 264)) 249 22 (some 265)) 249 28 (some 266)) 249 29 (some 267)) 249 30 (some 268)) 249 31 (some 269)) 249 32 (some 270)) 249 33 (some 271)) 249 34 (some 272)) 249 37 (some 273)) 249 43 (some 274)) 249 44 (some 275)) 249 45 (some 276)) 249 46 (some 277)) 249 47 (some 278)) 249 51 (some 279))) : aw (d + 1) mX12_init k 615 [some (.ref 249)] [.ref 266, .ref 249] (gP L 259) (am_up (am_up (am_up (am_rw (zr I 250 17 0) 266 (wdp 77)) 249 4 (nI 8)) 249 5 (nI 8)) 249 15 (nI 24)) J (am_up (am_up (am_up (am_up (am_up (am_up (am_up (am_up (am_up (am_up (am_up (am_up (am_up (am_up (am_up (am_up (zr R 250 17 none) 249 1 (some 250)) 249 2 (some 251)) 249 6 (some 252)) 249 7 (some 253)) 249 8 (some 254)) 249 9 (some 255)) 249 11 (some 256)) 249 12 (some 257)) 249 13 (some 258)) 249 14 (some 259)) 249 17 (some 260)) 249 18 (some 261)) 249 19 (some 262)) 249 20 (some 263)) 249 21 (some 264)) 249 22 (some 265)) 17 3165 := by
  have o0 : okO (gP L 259) 12 249 := gP_ok (q := 0) rfl (by omega) (by omega)
  have g1 : mkG (gP L 259) 0 4 = gP L 260 := gP_mk rfl
  have o1 : okO (gP L 260) 12 249 := gP_ok (q := 0) rfl (by omega) (by omega)
  have g2 : mkG (gP L 260) 0 80 = gP L 261 := gP_mk rfl
  have o2 : okO (gP L 261) 12 249 := gP_ok (q := 0) rfl (by omega) (by omega)
  have g3 : mkG (gP L 261) 0 80 = gP L 262 := gP_mk rfl
  have o3 : okO (gP L 262) 12 249 := gP_ok (q := 0) rfl (by omega) (by omega)
  have g4 : mkG (gP L 262) 0 80 = gP L 263 := gP_mk rfl
  have o4 : okO (gP L 263) 12 249 := gP_ok (q := 0) rfl (by omega) (by omega)
  have g5 : mkG (gP L 263) 0 2000 = gP L 264 := gP_mk rfl
  have o5 : okO (gP L 264) 12 249 := gP_ok (q := 0) rfl (by omega) (by omega)
  have g6 : mkG (gP L 264) 0 2000 = gP L 265 := gP_mk rfl
  have o6 : okO (gP L 265) 12 249 := gP_ok (q := 0) rfl (by omega) (by omega)
  have g7 : mkG (gP L 265) 0 40 = gP L 266 := gP_mk rfl
  have o7 : okO (gP L 266) 12 249 := gP_ok (q := 0) rfl (by omega) (by omega)
  have g8 : mkG (gP L 266) 0 10 = gP L 267 := gP_mk rfl
  have o8 : okO (gP L 267) 12 249 := gP_ok (q := 0) rfl (by omega) (by omega)
  have g9 : mkG (gP L 267) 0 420 = gP L 268 := gP_mk rfl
  have o9 : okO (gP L 268) 12 249 := gP_ok (q := 0) rfl (by omega) (by omega)
  have g10 : mkG (gP L 268) 3 432 = gP L 269 := gP_mk rfl
  have o10 : okO (gP L 269) 12 249 := gP_ok (q := 0) rfl (by omega) (by omega)
  have g11 : mkG (gP L 269) 0 144 = gP L 270 := gP_mk rfl
  have o11 : okO (gP L 270) 12 249 := gP_ok (q := 0) rfl (by omega) (by omega)
  have g12 : mkG (gP L 270) 1 1872 = gP L 271 := gP_mk rfl
  have o12 : okO (gP L 271) 12 249 := gP_ok (q := 0) rfl (by omega) (by omega)
  have g13 : mkG (gP L 271) 0 4300 = gP L 272 := gP_mk rfl
  have o13 : okO (gP L 272) 12 249 := gP_ok (q := 0) rfl (by omega) (by omega)
  simp (disch := omega) only [x_X12_init_615, x_X12_init_618, x_X12_init_619, x_X12_init_620, x_X12_init_622, x_X12_init_625, x_X12_init_626, x_X12_init_628, x_X12_init_630, x_X12_init_633, x_X12_init_634, x_X12_init_636, x_X12_init_638, x_X12_init_641, x_X12_init_642, x_X12_init_644, x_X12_init_646, x_X12_init_649, x_X12_init_650, x_X12_init_653, x_X12_init_655, x_X12_init_658, x_X12_init_659, x_X12_init_662, x_X12_init_664, x_X12_init_667, x_X12_init_668, x_X12_init_670, x_X12_init_672, x_X12_init_675, x_X12_init_676, x_X12_init_677, x_X12_init_680, x_X12_init_681, x_X12_init_683, x_X12_init_685, x_X12_init_688, x_X12_init_689, x_X12_init_692, x_X12_init_694, x_X12_init_697, x_X12_init_698, x_X12_init_701, x_X12_init_703, x_X12_init_706, x_X12_init_707, x_X12_init_710, x_X12_init_712, x_X12_init_715, x_X12_init_716, x_X12_init_719, x_X12_init_721, x_X12_init_724, x_X12_init_725, x_X12_init_728, x_X12_init_730, x_X12_init_733, Bool.false_eq_true, am_cl_i, am_cl_r, am_cl_n, am_cl_l, am_cl_0, va_rf_s, va_rf_0, tl_s, tl_n, bi_0, bi_1, bi_z, true_and, and_true, false_and, and_false, true_implies, false_implies, implies_true, not_true_eq_false, not_false_eq_true, and_self, true_or, or_true, false_or, or_false, eq_self, Nat.reduceAdd, Nat.reduceMul, Nat.reduceSub, Nat.reduceDiv, Nat.reduceMod, Nat.reduceLeDiff, Nat.reduceEqDiff, Nat.reduceLT, ix0, ix1, in0, in1, ltr2, ltr3, ltr4, ltr5, ltr6, ltr7, ltr8, ltr9, ltr10, ltr11, ltr12, ltr13, ltr14, ltr15, ltr16, ltr17, ltr20, ltr22, ltr23, ltr24, ltr25, ltr31, ltr32, ltr40, ltr41, ltr42, ltr43, ltr45, ltr47, ltr48, ltr50, ltr52, ltr57, ltr59, ltr60, ltr61, ltr62, ltr64, ltr65, ltr72, ltr77, ltr90, ltr91, ltr97, ltr99, ltr100, ltr122, ltr144, ltr216, ltr236, ltr240, ltr255, ltr256, ltr257, ltr258, ltr259, ltr260, ltr261, ltr262, ltr271, ltr272, ltr273, ltr288, ltr336, ltr380, ltr400, ltr1000, ltr1600, ltr9999, ltr10000, ixN, inN, ltN, leN, eqN, lt0N, le0N, eq0N, eq1N, addN, add1N, mulN, divN, remN, modS, rdN, inCN, inR0, inR1, inRN, inVN, ltr18, ltr19, ltr21, ltr26, ltr27, ltr28, ltr29, ltr30, ltr33, ltr34, ltr35, ltr36, ltr37, ltr38, ltr39, ltr44, ltr46, ltr49, ltr51, ltr53, ltr54, ltr55, ltr56, ltr58, ltr63, ltr66, ltr67, ltr68, ltr69, ltr70, ltr71, ltr73, ltr74, ltr75, ltr76, ltr80, ltr101, ltr102, ltr103, ltr104, ltr105, ltr108, ltr110, ltr111, ltr114, ltr115, ltr116, ltr117, ltr118, ltr119, ltr120, ltr121, ltr420, ltr432, ltr1872, ltr2000, ltr2016, ltr4300, gP_1, rw_up, zr_s, w_c, Nat.le_refl, o0, g1, o1, mkR_e (L := L) (show 8 + 259 = 267 from rfl), g2, o2, mkR_e (L := L) (show 8 + 260 = 268 from rfl), g3, o3, mkR_e (L := L) (show 8 + 261 = 269 from rfl), g4, o4, mkR_e (L := L) (show 8 + 262 = 270 from rfl), g5, o5, mkR_e (L := L) (show 8 + 263 = 271 from rfl), g6, o6, mkR_e (L := L) (show 8 + 264 = 272 from rfl), g7, o7, mkR_e (L := L) (show 8 + 265 = 273 from rfl), g8, o8, mkR_e (L := L) (show 8 + 266 = 274 from rfl), g9, o9, mkR_e (L := L) (show 8 + 267 = 275 from rfl), g10, o10, mkR_e (L := L) (show 8 + 268 = 276 from rfl), g11, o11, mkR_e (L := L) (show 8 + 269 = 277 from rfl), g12, o12, mkR_e (L := L) (show 8 + 270 = 278 from rfl), g13, o13, mkR_e (L := L) (show 8 + 271 = 279 from rfl)]
  exact hk _
theorem k_mInit (hI : I 249 = fun _ => 0) (hR : R 249 = fun _ => none) (hk : ∀ J, k none (gP L 272) (am_up (am_up (am_up (am_up (am_rw (zr I 250 30 0) 266 (wdp 77)) 249 4 (nI 8)) 249 5 (nI 8)) 249 15 (nI 24)) 249 42 (-1)) J (am_rw (zr R 250 30 none) 249 (fun k => rTm.getD k none))) : ac (d + 2) mX12_init [.ref 249] (gP L 242) I J R k := by
  have eR : (am_up (am_up (am_up (am_up (am_up (am_up (am_up (am_up (am_up (am_up (am_up (am_up (am_up (am_up (am_up (am_up (am_up (am_up (am_up (am_up (am_up (am_up (am_up (am_up (am_up (am_up (am_up (am_up (am_up (am_up (zr R 250 30 none) 249 1 (some 250)) 249 2 (some 251)) 249 6 (some 252)) 249 7 (some 253)) 249 8 (some 254)) 249 9 (some 255)) 249 11 (some 256)) 249 12 (some 257)) 249 13 (some 258)) 249 14 (some 259)) 249 17 (some 260)) 249 18 (some 261)) 249 19 (some 262)) 249 20 (some 263)) 249 21 (some 264)) 249 22 (some 265)) 249 28 (some 266)) 249 29 (some 267)) 249 30 (some 268)) 249 31 (some 269)) 249 32 (some 270)) 249 33 (some 271)) 249 34 (some 272)) 249 37 (some 273)) 249 43 (some 274)) 249 44 (some 275)) 249 45 (some 276)) 249 46 (some 277)) 249 47 (some 278)) 249 51 (some 279)) = am_rw (zr R 250 30 none) 249 (fun k => rTm.getD k none) := by
    funext q
    by_cases e : q = 249
    · subst e
      rw [upW, upW, upW, upW, upW, upW, upW, upW, upW, upW, upW, upW, upW, upW, upW, upW, upW, upW, upW, upW, upW, upW, upW, upW, upW, upW, upW, upW, upW, upW, zr_o (by omega), hR, rwS]
      funext j
      match j with
      | 0 => rfl
      | 1 => rfl
      | 2 => rfl
      | 3 => rfl
      | 4 => rfl
      | 5 => rfl
      | 6 => rfl
      | 7 => rfl
      | 8 => rfl
      | 9 => rfl
      | 10 => rfl
      | 11 => rfl
      | 12 => rfl
      | 13 => rfl
      | 14 => rfl
      | 15 => rfl
      | 16 => rfl
      | 17 => rfl
      | 18 => rfl
      | 19 => rfl
      | 20 => rfl
      | 21 => rfl
      | 22 => rfl
      | 23 => rfl
      | 24 => rfl
      | 25 => rfl
      | 26 => rfl
      | 27 => rfl
      | 28 => rfl
      | 29 => rfl
      | 30 => rfl
      | 31 => rfl
      | 32 => rfl
      | 33 => rfl
      | 34 => rfl
      | 35 => rfl
      | 36 => rfl
      | 37 => rfl
      | 38 => rfl
      | 39 => rfl
      | 40 => rfl
      | 41 => rfl
      | 42 => rfl
      | 43 => rfl
      | 44 => rfl
      | 45 => rfl
      | 46 => rfl
      | 47 => rfl
      | 48 => rfl
      | 49 => rfl
      | 50 => rfl
      | 51 => rfl
      | j + 52 => rfl
    · rw [upR e, upR e, upR e, upR e, upR e, upR e, upR e, upR e, upR e, upR e, upR e, upR e, upR e, upR e, upR e, upR e, upR e, upR e, upR e, upR e, upR e, upR e, upR e, upR e, upR e, upR e, upR e, upR e, upR e, upR e, rwA e]
  have go := k_mA (d := d) (k := k) (L := L) (I := I) (J := J) (R := R) (fun J => by
    have fin := k_mC (d := d) (k := k) (L := L) (I := I) (R := R) (J := J) (fun J => by rw [eR]; exact hk J)
    have ez : zr I 250 17 0 = am_rw (zr I 250 17 0) 266 (wdp 0) := by
      funext q
      by_cases e : q = 266
      · subst e; rw [rwS, zr_i (by omega) (by omega), wdp_0]
      · rw [rwA e]
    rw [ez]
    have mv : ∀ m, (am_up (am_up (am_up (am_rw (zr I 250 17 0) 266 (wdp m)) 249 4 (nI 8)) 249 5 (nI 8)) 249 15 (nI 24)) = am_rw (am_up (am_up (am_up (zr I 250 17 0) 249 4 (nI 8)) 249 5 (nI 8)) 249 15 (nI 24)) 266 (wdp m) := by
      intro m
      funext q
      by_cases e : q = 266
      · subst e; rw [rwS, upR (by omega), upR (by omega), upR (by omega), rwS]
      · rw [rwA e]
        by_cases e2 : q = 249
        · subst e2; rw [upW, upW, upW, upW, upW, upW, rwA e]
        · rw [upR e2, upR e2, upR e2, upR e2, upR e2, upR e2, rwA e]
    rw [mv 0, k_w0, k_w1, k_w2, k_w3, ← mv 77]
    exact fin)
  rw [zr_0, zr_0] at go
  rw [e_X12_init]
  exact go
end MAK6
