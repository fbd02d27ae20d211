def mvS (N : Nat → Nat → Nat) (v y : Nat) (M : Nat → Prop) : Nat → Prop := fun c => ∃ e, e < 144 ∧ M e ∧ sp1 N v y e = c
section RCH3
variable {d : Nat} {k : am_k} {I I' : Nat → Nat → Int32} {J : Nat → Nat → Int64} {a b e f : Int32} {L : Nat} {w w' : Nat → Option Nat} {v p q n u x y z r t m l o s c i j h g tY m1 o1 : Nat} {N : Nat → Nat → Nat} {Z : Nat → Nat → Int32} {S T M : Nat → Prop} {dx dy : Int} {row row' : Nat → Int32}
theorem sp1_g (hz : z < 12) (h1 : ((c % 12 : Nat) : Int) + dxi y = z) (h2 : ((c / 12 : Nat) : Int) + dyi y = tY) (ho : opS N v (12 * tY + z)) : sp1 N v y c = 12 * tY + z := by
  obtain ⟨o1, o2, o3⟩ := ho
  have e : nxt (N 0 0) (N 0 1) c y = some (12 * tY + z) := by
    unfold nxt
    rw [h1, h2, if_pos (by omega)]
    simp
  unfold sp1
  rw [e]
  exact if_pos o3
theorem sp1_n (hs : SW N) (h : ∀ z tY : Nat, z < 12 → ((c % 12 : Nat) : Int) + dxi y = z → ((c / 12 : Nat) : Int) + dyi y = tY → ¬ opS N v (12 * tY + z)) : sp1 N v y c = c := by
  unfold sp1
  cases hn : nxt (N 0 0) (N 0 1) c y with
  | none => rfl
  | some q =>
    show (if N 3 v ≤ N 7 q then q else c) = c
    have hb := nxt_b hn hs.2.1 hs.2.2.2.1
    unfold nxt at hn
    split at hn
    · rename_i hc
      have hq := Option.some.inj hn
      rw [if_neg]
      intro g
      have hW := hs.2.1
      refine h (((c % 12 : Nat) : Int) + dxi y).toNat (((c / 12 : Nat) : Int) + dyi y).toNat (by omega) (by omega) (by omega) ?_
      rw [hq]
      exact ⟨hb.1, hb.2.1, g⟩
    · cases hn
theorem g_a (hdx : dx = -1 ∨ dx = 0 ∨ dx = 1) (hx : dxi y = dx) (hm : m1 < 4096) (ho : o1 < 4096) (hM : ∀ x, x < 12 → (m1.testBit x = true ↔ M (12 * i + x))) (hO : ∀ x, x < 12 → (o1.testBit x = true ↔ opS N v (12 * tY + x))) (ht : ((i : Nat) : Int) + dyi y = tY) (hg : (m1 &&& psh (-dx) o1).testBit x = true) : x < 12 ∧ M (12 * i + x) ∧ ∃ z : Nat, z < 12 ∧ (z : Int) = x + dx ∧ sp1 N v y (12 * i + x) = 12 * tY + z := by
  rw [Nat.testBit_and, Bool.and_eq_true, psh_t (by omega)] at hg
  obtain ⟨h1, z, h2, h3⟩ := hg
  have hx12 := bit_b hm h1
  have hz12 := bit_b ho h3
  refine ⟨hx12, (hM x hx12).mp h1, z, hz12, by omega, ?_⟩
  have e1 : (12 * i + x) % 12 = x := by omega
  have e2 : (12 * i + x) / 12 = i := by omega
  exact sp1_g hz12 (by rw [e1, hx]; omega) (by rw [e2]; exact ht) ((hO z hz12).mp h3)
theorem g_b (hs : SW N) (hdx : dx = -1 ∨ dx = 0 ∨ dx = 1) (hx : dxi y = dx) (hm : m1 < 4096) (hO : ∀ x, x < 12 → (o1.testBit x = true ↔ opS N v (12 * tY + x))) (ht : ((i : Nat) : Int) + dyi y = tY) (h1 : m1.testBit x = true) (hg : ¬ (m1 &&& psh (-dx) o1).testBit x = true) : sp1 N v y (12 * i + x) = 12 * i + x := by
  have hx12 := bit_b hm h1
  apply sp1_n hs
  intro z t2 hz z1 z2 ho
  have e1 : (12 * i + x) % 12 = x := by omega
  have e2 : (12 * i + x) / 12 = i := by omega
  rw [e1] at z1
  rw [e2] at z2
  have e3 : t2 = tY := by omega
  subst e3
  apply hg
  rw [Nat.testBit_and, Bool.and_eq_true, psh_t (by omega)]
  exact ⟨h1, z, by omega, (hO z hz).mpr ho⟩
theorem psh_b (hp : p < 4096) : psh dx p < 8192 := by
  unfold psh
  split
  · omega
  · split <;> omega
theorem ngd (hd : dx = -1 ∨ dx = 0 ∨ dx = 1) : -(Int32.ofInt dx) = Int32.ofInt (-dx) := by
  rcases hd with rfl | rfl | rfl <;> decide
theorem xn0 (hp : p < 4096) : nI p &&& ((0 : Int32) ^^^ -1) = nI p := by
  have := xnN (p := p) (q := 0) (by omega) (by omega)
  rw [Nat.and_zero, nI_0, Nat.xor_zero] at this
  exact this
theorem l_sa (hr : isH r) (hs : SW N) (hy : y < 8) (hdx : dx = -1 ∨ dx = 0 ∨ dx = 1) (hx : dxi y = dx) (hdy : dyi y = dy) (hO : HB (I (r + 1)) (opS N v)) (hM : HB (I (r + 4)) M) : ∀ m i I' (l4 l5 : Option Value), i + m = 12 → (∀ a, a ≠ r + 5 → I' a = I a) → HB (I' (r + 5)) (fun c => ∃ e, e < 12 * i ∧ M e ∧ sp1 N v y e = c) → (∀ I2 (l4 l5 : Option Value), HB (I2 (r + 5)) (mvS N v y M) → (∀ a, a ≠ r + 5 → I2 a = I' a) → aw (d + 2) mX4_stepAll k 98 [some (.ref r), some (.int (Int32.ofInt dx)), some (.int (Int32.ofInt dy)), some (.int (nI 12)), l4, l5] [] (gF L) I2 J (rF w) 0 0) → aw (d + 2) mX4_stepAll k 10 [some (.ref r), some (.int (Int32.ofInt dx)), some (.int (Int32.ofInt dy)), some (.int (nI i)), l4, l5] [] (gF L) I' J (rF w) 0 0 := by
  obtain ⟨r0, rk, r1, r2, r3, r4, r5⟩ := rc_s (L := L) hr
  obtain ⟨q0, q1, q2, q3, q4, q5, q6⟩ := rc_r (w := w) hr
  have hr' := hr
  unfold isH at hr'
  have n3 : 3 ≤ r := by omega
  have bdy := dyi_b y
  have l11 : (11 : Int32) = nI 11 := by decide
  intro m
  induction m with
  | zero =>
    intro i I' l4 l5 hi fr hB hk
    have e : i = 12 := by omega
    subst e
    rw [x_X4_stepAll_10]
    simp (disch := omega) only [x_X4_stepAll_0, x_X4_stepAll_1, x_X4_stepAll_4, x_X4_stepAll_5, x_X4_stepAll_8, x_X4_stepAll_9, x_X4_stepAll_11, x_X4_stepAll_13, x_X4_stepAll_16, x_X4_stepAll_17, x_X4_stepAll_18, x_X4_stepAll_19, x_X4_stepAll_21, x_X4_stepAll_22, x_X4_stepAll_24, x_X4_stepAll_26, x_X4_stepAll_27, x_X4_stepAll_29, x_X4_stepAll_32, x_X4_stepAll_35, x_X4_stepAll_36, x_X4_stepAll_39, x_X4_stepAll_40, x_X4_stepAll_41, x_X4_stepAll_42, x_X4_stepAll_45, x_X4_stepAll_47, x_X4_stepAll_48, x_X4_stepAll_49, x_X4_stepAll_50, x_X4_stepAll_53, x_X4_stepAll_54, x_X4_stepAll_56, x_X4_stepAll_57, x_X4_stepAll_60, x_X4_stepAll_62, x_X4_stepAll_63, x_X4_stepAll_64, x_X4_stepAll_66, x_X4_stepAll_67, x_X4_stepAll_70, x_X4_stepAll_71, x_X4_stepAll_72, x_X4_stepAll_73, x_X4_stepAll_76, x_X4_stepAll_77, x_X4_stepAll_78, x_X4_stepAll_79, x_X4_stepAll_80, x_X4_stepAll_83, x_X4_stepAll_84, x_X4_stepAll_85, x_X4_stepAll_87, x_X4_stepAll_88, x_X4_stepAll_89, x_X4_stepAll_90, x_X4_stepAll_91, x_X4_stepAll_92, x_X4_stepAll_95, x_X4_stepAll_99, x_X4_stepAll_102, x_X4_stepAll_103, x_X4_stepAll_104, x_X4_stepAll_107, x_X4_stepAll_108, x_X4_stepAll_110, x_X4_stepAll_113, Bool.false_eq_true, am_cl_i, am_cl_r, am_cl_n, am_cl_l, am_cl_0, va_rf_s, va_rf_0, tl_s, tl_n, bi_0, bi_1, bi_z, true_and, and_true, false_and, and_false, true_implies, false_implies, implies_true, not_true_eq_false, not_false_eq_true, and_self, true_or, or_true, false_or, or_false, eq_self, Nat.reduceAdd, Nat.reduceMul, Nat.reduceSub, Nat.reduceDiv, Nat.reduceMod, Nat.reduceLeDiff, Nat.reduceEqDiff, Nat.reduceLT, ix0, ix1, in0, in1, gF_2, sh_8, ok_8, sh_9, ok_9, sh_10, sh_11, sh_12, sh_13, sh_14, sh_15, sh_16, sh_17, sh_18, sh_49, ok_49, sh_50, sh_51, sh_52, sh_53, sh_54, ok_54, sh_55, sh_56, sh_57, sh_58, sh_59, ok_59, sh_60, sh_61, sh_62, sh_63, sh_64, ok_64, sh_65, sh_66, sh_67, sh_68, sh_69, ok_69, sh_70, sh_71, sh_72, sh_73, sh_74, sh_75, sh_76, sh_77, sh_78, sh_109, ok_109, sh_110, sh_111, sh_112, sh_113, sh_114, ok_114, sh_115, sh_116, sh_117, sh_118, sh_119, ok_119, sh_120, sh_121, sh_122, sh_123, sh_124, ok_124, sh_125, sh_126, sh_127, sh_128, sh_129, ok_129, sh_130, sh_131, ok_131, sh_132, sh_133, sh_134, sh_135, sh_146, ok_146, sh_147, sh_148, sh_149, sh_150, sh_161, ok_161, sh_162, sh_163, sh_164, sh_165, sh_176, ok_176, sh_177, sh_178, sh_179, sh_180, sh_191, ok_191, sh_192, sh_193, sh_194, sh_195, sh_206, ok_206, sh_207, sh_208, sh_209, sh_210, sh_221, ok_221, sh_222, sh_223, ok_223, sh_224, sh_225, sh_226, sh_227, ok_227, sh_228, ok_228, sh_229, sh_230, sh_231, sh_232, sh_233, ok_233, sh_234, sh_235, sh_236, sh_237, sh_238, sh_239, ok_239, sh_240, sh_241, sh_242, sh_243, sh_244, sh_245, sh_246, ok_246, sh_247, sh_248, sh_249, ok_249, sh_250, sh_251, sh_252, sh_253, sh_254, sh_255, sh_256, sh_257, sh_258, sh_259, sh_260, sh_261, sh_262, sh_263, sh_264, sh_265, sh_266, sh_267, sh_268, sh_269, sh_270, sh_271, sh_272, sh_273, sh_274, sh_275, sh_276, sh_277, sh_278, sh_279, sh_1, sh_2, sh_3, sh_4, gv_s, gv_o, kv_s, kv_o, gr_s, gr_o, kr_s, kr_o, r_8_0, r_8_1, r_8_3, r_8_4, r_8_5, r_8_6, r_8_7, r_8_8, r_8_9, r_8_10, r_9_7, r_9_8, r_9_9, r_9_10, r_9_11, r_9_12, r_9_13, r_9_14, r_9_15, r_49_2, r_49_3, r_49_4, r_49_6, r_54_2, r_54_3, r_54_4, r_54_6, r_59_2, r_59_3, r_59_4, r_59_6, r_64_2, r_64_3, r_64_4, r_64_6, r_69_7, r_69_8, r_69_9, r_69_10, r_69_11, r_69_12, r_69_13, r_69_14, r_69_15, r_109_2, r_109_3, r_109_4, r_109_6, r_114_2, r_114_3, r_114_4, r_114_6, r_119_2, r_119_3, r_119_4, r_119_6, r_124_2, r_124_3, r_124_4, r_124_6, r_129_0, r_131_2, r_131_3, r_131_4, r_131_5, r_146_2, r_146_3, r_146_4, r_146_5, r_161_2, r_161_3, r_161_4, r_161_5, r_176_2, r_176_3, r_176_4, r_176_5, r_191_2, r_191_3, r_191_4, r_191_5, r_206_2, r_206_3, r_206_4, r_206_5, r_221_0, r_221_1, r_223_0, r_223_2, r_223_3, r_227_0, r_228_2, r_228_3, r_228_4, r_228_6, r_233_0, r_233_1, r_233_2, r_233_3, r_233_4, r_233_5, r_239_0, r_239_1, r_239_2, r_239_3, r_239_4, r_239_5, r_246_2, r_246_3, r_249_1, r_249_2, r_249_6, r_249_7, r_249_8, r_249_9, r_249_11, r_249_12, r_249_13, r_249_14, r_249_17, r_249_18, r_249_19, r_249_20, r_249_21, r_249_22, r_249_28, r_249_29, r_249_30, r_249_31, r_249_32, r_249_33, r_249_34, r_249_37, r_249_43, r_249_44, r_249_45, r_249_46, r_249_47, r_249_51, r_227_1, r_233_6, r_239_6, r_246_0, r_246_1, r_15, r_75, r_16, r_76, r_18, r_78, r_130, ltr2, ltr3, ltr4, ltr5, ltr6, ltr7, ltr8, ltr9, ltr10, ltr11, ltr12, ltr13, ltr14, ltr15, ltr16, ltr17, ltr20, ltr22, ltr23, ltr24, ltr25, ltr31, ltr32, ltr40, ltr41, ltr42, ltr43, ltr45, ltr47, ltr48, ltr50, ltr52, ltr57, ltr59, ltr60, ltr61, ltr62, ltr64, ltr65, ltr72, ltr77, ltr90, ltr91, ltr97, ltr99, ltr100, ltr122, ltr144, ltr216, ltr236, ltr240, ltr255, ltr256, ltr257, ltr258, ltr259, ltr260, ltr261, ltr262, ltr271, ltr272, ltr273, ltr288, ltr336, ltr380, ltr400, ltr1000, ltr1600, ltr9999, ltr10000, ixN, inN, ltN, leN, eqN, lt0N, le0N, eq0N, eq1N, addN, add1N, mulN, divN, remN, modS, rdN, inCN, inR0, inR1, inRN, inVN, upS, upA, upI, upR, rwS, rwA, i10, biT, biF, rd1, rd2, ofn8]
    exact hk I' l4 l5 hB (fun _ _ => rfl)
  | succ m ih =>
    intro i I' l4 l5 hi fr hB hk
    have h1 : ¬ 12 ≤ i := by omega
    obtain ⟨m1, a1, a2, a3⟩ := hM i (by omega)
    have a1' : I' (r + 4) i = nI m1 := by rw [fr _ (by omega)]; exact a1
    obtain ⟨b2, c1, c2, c3⟩ := hB i (by omega)
    rw [x_X4_stepAll_10]
    have nx : ∀ I2 (l4 l5 : Option Value), (∀ a, a ≠ r + 5 → I2 a = I' a) → HB (I2 (r + 5)) (fun c => ∃ e, e < 12 * (i + 1) ∧ M e ∧ sp1 N v y e = c) → aw (d + 2) mX4_stepAll k 10 [some (.ref r), some (.int (Int32.ofInt dx)), some (.int (Int32.ofInt dy)), some (.int (nI (i + 1))), l4, l5] [] (gF L) I2 J (rF w) 0 0 := by
      intro I2 l4 l5 f2 hB2
      exact ih (i + 1) I2 l4 l5 (by omega) (fun a ha => by rw [f2 a ha]; exact fr a ha) hB2 (fun I3 l4 l5 z1 z2 => hk I3 l4 l5 z1 (fun a ha => by rw [z2 a ha, f2 a ha]))
    by_cases hv : 0 ≤ (i : Int) + dy ∧ (i : Int) + dy ≤ 11
    · obtain ⟨tY, ht⟩ : ∃ tY : Nat, (i : Int) + dy = tY := ⟨((i : Int) + dy).toNat, by omega⟩
      have eto : nI i + Int32.ofInt dy = nI tY := by rw [ofI_add, ht]; rfl
      have t11 : tY ≤ 11 := by omega
      obtain ⟨o1, d1, d2, d3⟩ := hO tY (by omega)
      have d1' : I' (r + 1) tY = nI o1 := by rw [fr _ (by omega)]; exact d1
      obtain ⟨b1, f1, f2, f3⟩ := hB tY (by omega)
      have pb := psh_b (dx := -dx) d2
      have gb : m1 &&& psh (-dx) o1 < 4096 := Nat.lt_of_le_of_lt Nat.and_le_left a2
      have pb2 := psh_b (dx := dx) gb
      have GA := fun x => g_a (N := N) (v := v) (y := y) (M := M) (i := i) (tY := tY) (x := x) hdx hx a2 d2 a3 d3 (by rw [hdy]; exact ht)
      have GB := fun x => g_b (N := N) (v := v) (y := y) (i := i) (tY := tY) (x := x) hs hdx hx a2 d3 (by rw [hdy]; exact ht)
      have pl : psh dx (m1 &&& psh (-dx) o1) < 4096 := by
        apply lt_bit
        intro x hx12
        apply Bool.eq_false_iff.mpr
        intro hh
        rw [psh_t hdx] at hh
        obtain ⟨z, z1, z2⟩ := hh
        obtain ⟨_, _, z', y1, y2, _⟩ := GA z z2
        omega
      have xl : m1 ^^^ (m1 &&& psh (-dx) o1) < 4096 := Nat.xor_lt_two_pow (n := 12) a2 gb
      -- what a place of the two rows says
      have bit : ∀ yy x, x < 12 → ((yy = tY ∧ (psh dx (m1 &&& psh (-dx) o1)).testBit x = true) ∨ (yy = i ∧ (m1 ^^^ (m1 &&& psh (-dx) o1)).testBit x = true) ↔ ∃ z, z < 12 ∧ M (12 * i + z) ∧ sp1 N v y (12 * i + z) = 12 * yy + x) := by
        intro yy x hx12
        rw [psh_t hdx, Nat.testBit_xor]
        constructor
        · rintro (⟨rfl, z, z1, z2⟩ | ⟨rfl, z⟩)
          · obtain ⟨y0, y1, z', y2, y3, y4⟩ := GA z z2
            exact ⟨z, y0, y1, by rw [y4]; omega⟩
          · by_cases g1 : (m1 &&& psh (-dx) o1).testBit x = true
            · have g2 := g1
              rw [Nat.testBit_and, Bool.and_eq_true] at g2
              rw [g1, g2.1] at z
              cases z
            · have g2 : m1.testBit x = true := by
                rw [Bool.eq_false_iff.mpr g1, Bool.xor_false] at z
                exact z
              exact ⟨x, hx12, (a3 x hx12).mp g2, GB x g2 g1⟩
        · rintro ⟨z, z0, z1, z2⟩
          have mz := (a3 z z0).mpr z1
          by_cases g1 : (m1 &&& psh (-dx) o1).testBit z = true
          · obtain ⟨_, _, z', y2, y3, y4⟩ := GA z g1
            rw [y4] at z2
            exact Or.inl ⟨by omega, z, by omega, g1⟩
          · rw [GB z mz g1] at z2
            have e1 : yy = i := by omega
            have e2 : z = x := by omega
            subst e2
            refine Or.inr ⟨e1, ?_⟩
            rw [mz, Bool.eq_false_iff.mpr g1]
            rfl
      have ext : ∀ c, ((∃ e, e < 12 * (i + 1) ∧ M e ∧ sp1 N v y e = c) ↔ ((∃ e, e < 12 * i ∧ M e ∧ sp1 N v y e = c) ∨ ∃ z, z < 12 ∧ M (12 * i + z) ∧ sp1 N v y (12 * i + z) = c)) := by
        intro c
        constructor
        · rintro ⟨e, z1, z2, z3⟩
          by_cases g1 : e < 12 * i
          · exact Or.inl ⟨e, g1, z2, z3⟩
          · have ee : 12 * i + (e - 12 * i) = e := by omega
            exact Or.inr ⟨e - 12 * i, by omega, by rw [ee]; exact z2, by rw [ee]; exact z3⟩
        · rintro (⟨e, z1, z2, z3⟩ | ⟨z, z1, z2, z3⟩)
          · exact ⟨e, by omega, z2, z3⟩
          · exact ⟨12 * i + z, by omega, z2, z3⟩
      by_cases et : tY = i
      · subst et
        have ff : b1 = b2 := by
          rw [f1] at c1
          have := (eqN (a := b1) (b := b2) (by omega) (by omega)).mp c1
          exact this
        subst ff
        simp (disch := omega) only [x_X4_stepAll_0, x_X4_stepAll_1, x_X4_stepAll_4, x_X4_stepAll_5, x_X4_stepAll_8, x_X4_stepAll_9, x_X4_stepAll_11, x_X4_stepAll_13, x_X4_stepAll_16, x_X4_stepAll_17, x_X4_stepAll_18, x_X4_stepAll_19, x_X4_stepAll_21, x_X4_stepAll_22, x_X4_stepAll_24, x_X4_stepAll_26, x_X4_stepAll_27, x_X4_stepAll_29, x_X4_stepAll_32, x_X4_stepAll_35, x_X4_stepAll_36, x_X4_stepAll_39, x_X4_stepAll_40, x_X4_stepAll_41, x_X4_stepAll_42, x_X4_stepAll_45, x_X4_stepAll_47, x_X4_stepAll_48, x_X4_stepAll_49, x_X4_stepAll_50, x_X4_stepAll_53, x_X4_stepAll_54, x_X4_stepAll_56, x_X4_stepAll_57, x_X4_stepAll_60, x_X4_stepAll_62, x_X4_stepAll_63, x_X4_stepAll_64, x_X4_stepAll_66, x_X4_stepAll_67, x_X4_stepAll_70, x_X4_stepAll_71, x_X4_stepAll_72, x_X4_stepAll_73, x_X4_stepAll_76, x_X4_stepAll_77, x_X4_stepAll_78, x_X4_stepAll_79, x_X4_stepAll_80, x_X4_stepAll_83, x_X4_stepAll_84, x_X4_stepAll_85, x_X4_stepAll_87, x_X4_stepAll_88, x_X4_stepAll_89, x_X4_stepAll_90, x_X4_stepAll_91, x_X4_stepAll_92, x_X4_stepAll_95, x_X4_stepAll_99, x_X4_stepAll_102, x_X4_stepAll_103, x_X4_stepAll_104, x_X4_stepAll_107, x_X4_stepAll_108, x_X4_stepAll_110, x_X4_stepAll_113, Bool.false_eq_true, am_cl_i, am_cl_r, am_cl_n, am_cl_l, am_cl_0, va_rf_s, va_rf_0, tl_s, tl_n, bi_0, bi_1, bi_z, true_and, and_true, false_and, and_false, true_implies, false_implies, implies_true, not_true_eq_false, not_false_eq_true, and_self, true_or, or_true, false_or, or_false, eq_self, Nat.reduceAdd, Nat.reduceMul, Nat.reduceSub, Nat.reduceDiv, Nat.reduceMod, Nat.reduceLeDiff, Nat.reduceEqDiff, Nat.reduceLT, ix0, ix1, in0, in1, gF_2, sh_8, ok_8, sh_9, ok_9, sh_10, sh_11, sh_12, sh_13, sh_14, sh_15, sh_16, sh_17, sh_18, sh_49, ok_49, sh_50, sh_51, sh_52, sh_53, sh_54, ok_54, sh_55, sh_56, sh_57, sh_58, sh_59, ok_59, sh_60, sh_61, sh_62, sh_63, sh_64, ok_64, sh_65, sh_66, sh_67, sh_68, sh_69, ok_69, sh_70, sh_71, sh_72, sh_73, sh_74, sh_75, sh_76, sh_77, sh_78, sh_109, ok_109, sh_110, sh_111, sh_112, sh_113, sh_114, ok_114, sh_115, sh_116, sh_117, sh_118, sh_119, ok_119, sh_120, sh_121, sh_122, sh_123, sh_124, ok_124, sh_125, sh_126, sh_127, sh_128, sh_129, ok_129, sh_130, sh_131, ok_131, sh_132, sh_133, sh_134, sh_135, sh_146, ok_146, sh_147, sh_148, sh_149, sh_150, sh_161, ok_161, sh_162, sh_163, sh_164, sh_165, sh_176, ok_176, sh_177, sh_178, sh_179, sh_180, sh_191, ok_191, sh_192, sh_193, sh_194, sh_195, sh_206, ok_206, sh_207, sh_208, sh_209, sh_210, sh_221, ok_221, sh_222, sh_223, ok_223, sh_224, sh_225, sh_226, sh_227, ok_227, sh_228, ok_228, sh_229, sh_230, sh_231, sh_232, sh_233, ok_233, sh_234, sh_235, sh_236, sh_237, sh_238, sh_239, ok_239, sh_240, sh_241, sh_242, sh_243, sh_244, sh_245, sh_246, ok_246, sh_247, sh_248, sh_249, ok_249, sh_250, sh_251, sh_252, sh_253, sh_254, sh_255, sh_256, sh_257, sh_258, sh_259, sh_260, sh_261, sh_262, sh_263, sh_264, sh_265, sh_266, sh_267, sh_268, sh_269, sh_270, sh_271, sh_272, sh_273, sh_274, sh_275, sh_276, sh_277, sh_278, sh_279, sh_1, sh_2, sh_3, sh_4, gv_s, gv_o, kv_s, kv_o, gr_s, gr_o, kr_s, kr_o, r_8_0, r_8_1, r_8_3, r_8_4, r_8_5, r_8_6, r_8_7, r_8_8, r_8_9, r_8_10, r_9_7, r_9_8, r_9_9, r_9_10, r_9_11, r_9_12, r_9_13, r_9_14, r_9_15, r_49_2, r_49_3, r_49_4, r_49_6, r_54_2, r_54_3, r_54_4, r_54_6, r_59_2, r_59_3, r_59_4, r_59_6, r_64_2, r_64_3, r_64_4, r_64_6, r_69_7, r_69_8, r_69_9, r_69_10, r_69_11, r_69_12, r_69_13, r_69_14, r_69_15, r_109_2, r_109_3, r_109_4, r_109_6, r_114_2, r_114_3, r_114_4, r_114_6, r_119_2, r_119_3, r_119_4, r_119_6, r_124_2, r_124_3, r_124_4, r_124_6, r_129_0, r_131_2, r_131_3, r_131_4, r_131_5, r_146_2, r_146_3, r_146_4, r_146_5, r_161_2, r_161_3, r_161_4, r_161_5, r_176_2, r_176_3, r_176_4, r_176_5, r_191_2, r_191_3, r_191_4, r_191_5, r_206_2, r_206_3, r_206_4, r_206_5, r_221_0, r_221_1, r_223_0, r_223_2, r_223_3, r_227_0, r_228_2, r_228_3, r_228_4, r_228_6, r_233_0, r_233_1, r_233_2, r_233_3, r_233_4, r_233_5, r_239_0, r_239_1, r_239_2, r_239_3, r_239_4, r_239_5, r_246_2, r_246_3, r_249_1, r_249_2, r_249_6, r_249_7, r_249_8, r_249_9, r_249_11, r_249_12, r_249_13, r_249_14, r_249_17, r_249_18, r_249_19, r_249_20, r_249_21, r_249_22, r_249_28, r_249_29, r_249_30, r_249_31, r_249_32, r_249_33, r_249_34, r_249_37, r_249_43, r_249_44, r_249_45, r_249_46, r_249_47, r_249_51, r_227_1, r_233_6, r_239_6, r_246_0, r_246_1, r_15, r_75, r_16, r_76, r_18, r_78, r_130, ltr2, ltr3, ltr4, ltr5, ltr6, ltr7, ltr8, ltr9, ltr10, ltr11, ltr12, ltr13, ltr14, ltr15, ltr16, ltr17, ltr20, ltr22, ltr23, ltr24, ltr25, ltr31, ltr32, ltr40, ltr41, ltr42, ltr43, ltr45, ltr47, ltr48, ltr50, ltr52, ltr57, ltr59, ltr60, ltr61, ltr62, ltr64, ltr65, ltr72, ltr77, ltr90, ltr91, ltr97, ltr99, ltr100, ltr122, ltr144, ltr216, ltr236, ltr240, ltr255, ltr256, ltr257, ltr258, ltr259, ltr260, ltr261, ltr262, ltr271, ltr272, ltr273, ltr288, ltr336, ltr380, ltr400, ltr1000, ltr1600, ltr9999, ltr10000, ixN, inN, ltN, leN, eqN, lt0N, le0N, eq0N, eq1N, addN, add1N, mulN, divN, remN, modS, rdN, inCN, inR0, inR1, inRN, inVN, upS, upA, upI, upR, rwS, rwA, i10, biT, biF, rd1, rd2, ofn8, l11, rk, r1, r4, r5, q0, q3, q4, h1, eto, c_within, t11, a1', d1', f1, ngd hdx, c_pushed, andN, orN, xnN, n3, show 4 ≤ r by omega, show 7 ≤ r by omega]
        have bo : b1 ||| psh dx (m1 &&& psh (-dx) o1) < 4096 := Nat.or_lt_two_pow (n := 12) f2 pl
        rw [orN (by omega) (by omega)]
        refine nx _ _ _ (fun a ha => by rw [upR ha, upR ha]) ?_
        intro yy hyy
        by_cases ey : yy = tY
        · subst ey
          refine ⟨_, upS, Nat.or_lt_two_pow (n := 12) bo xl, fun x hx12 => ?_⟩
          refine Iff.trans ?_ (ext _).symm
          rw [← bit yy x hx12, Nat.testBit_or, Nat.testBit_or, Bool.or_eq_true, Bool.or_eq_true, f3 x hx12]
          constructor
          · rintro ((z | z) | z)
            · exact Or.inl z
            · exact Or.inr (Or.inl ⟨rfl, z⟩)
            · exact Or.inr (Or.inr ⟨rfl, z⟩)
          · rintro (z | ⟨_, z⟩ | ⟨_, z⟩)
            · exact Or.inl (Or.inl z)
            · exact Or.inl (Or.inr z)
            · exact Or.inr z
        · obtain ⟨b', y1, y2, y3⟩ := hB yy hyy
          refine ⟨b', by rw [upI ey, upI ey]; exact y1, y2, fun x hx12 => ?_⟩
          refine Iff.trans ?_ (ext _).symm
          rw [← bit yy x hx12, y3 x hx12]
          constructor
          · exact Or.inl
          · rintro (z | ⟨z, _⟩ | ⟨z, _⟩)
            · exact z
            · exact absurd z ey
            · exact absurd z ey
      · simp (disch := omega) only [x_X4_stepAll_0, x_X4_stepAll_1, x_X4_stepAll_4, x_X4_stepAll_5, x_X4_stepAll_8, x_X4_stepAll_9, x_X4_stepAll_11, x_X4_stepAll_13, x_X4_stepAll_16, x_X4_stepAll_17, x_X4_stepAll_18, x_X4_stepAll_19, x_X4_stepAll_21, x_X4_stepAll_22, x_X4_stepAll_24, x_X4_stepAll_26, x_X4_stepAll_27, x_X4_stepAll_29, x_X4_stepAll_32, x_X4_stepAll_35, x_X4_stepAll_36, x_X4_stepAll_39, x_X4_stepAll_40, x_X4_stepAll_41, x_X4_stepAll_42, x_X4_stepAll_45, x_X4_stepAll_47, x_X4_stepAll_48, x_X4_stepAll_49, x_X4_stepAll_50, x_X4_stepAll_53, x_X4_stepAll_54, x_X4_stepAll_56, x_X4_stepAll_57, x_X4_stepAll_60, x_X4_stepAll_62, x_X4_stepAll_63, x_X4_stepAll_64, x_X4_stepAll_66, x_X4_stepAll_67, x_X4_stepAll_70, x_X4_stepAll_71, x_X4_stepAll_72, x_X4_stepAll_73, x_X4_stepAll_76, x_X4_stepAll_77, x_X4_stepAll_78, x_X4_stepAll_79, x_X4_stepAll_80, x_X4_stepAll_83, x_X4_stepAll_84, x_X4_stepAll_85, x_X4_stepAll_87, x_X4_stepAll_88, x_X4_stepAll_89, x_X4_stepAll_90, x_X4_stepAll_91, x_X4_stepAll_92, x_X4_stepAll_95, x_X4_stepAll_99, x_X4_stepAll_102, x_X4_stepAll_103, x_X4_stepAll_104, x_X4_stepAll_107, x_X4_stepAll_108, x_X4_stepAll_110, x_X4_stepAll_113, Bool.false_eq_true, am_cl_i, am_cl_r, am_cl_n, am_cl_l, am_cl_0, va_rf_s, va_rf_0, tl_s, tl_n, bi_0, bi_1, bi_z, true_and, and_true, false_and, and_false, true_implies, false_implies, implies_true, not_true_eq_false, not_false_eq_true, and_self, true_or, or_true, false_or, or_false, eq_self, Nat.reduceAdd, Nat.reduceMul, Nat.reduceSub, Nat.reduceDiv, Nat.reduceMod, Nat.reduceLeDiff, Nat.reduceEqDiff, Nat.reduceLT, ix0, ix1, in0, in1, gF_2, sh_8, ok_8, sh_9, ok_9, sh_10, sh_11, sh_12, sh_13, sh_14, sh_15, sh_16, sh_17, sh_18, sh_49, ok_49, sh_50, sh_51, sh_52, sh_53, sh_54, ok_54, sh_55, sh_56, sh_57, sh_58, sh_59, ok_59, sh_60, sh_61, sh_62, sh_63, sh_64, ok_64, sh_65, sh_66, sh_67, sh_68, sh_69, ok_69, sh_70, sh_71, sh_72, sh_73, sh_74, sh_75, sh_76, sh_77, sh_78, sh_109, ok_109, sh_110, sh_111, sh_112, sh_113, sh_114, ok_114, sh_115, sh_116, sh_117, sh_118, sh_119, ok_119, sh_120, sh_121, sh_122, sh_123, sh_124, ok_124, sh_125, sh_126, sh_127, sh_128, sh_129, ok_129, sh_130, sh_131, ok_131, sh_132, sh_133, sh_134, sh_135, sh_146, ok_146, sh_147, sh_148, sh_149, sh_150, sh_161, ok_161, sh_162, sh_163, sh_164, sh_165, sh_176, ok_176, sh_177, sh_178, sh_179, sh_180, sh_191, ok_191, sh_192, sh_193, sh_194, sh_195, sh_206, ok_206, sh_207, sh_208, sh_209, sh_210, sh_221, ok_221, sh_222, sh_223, ok_223, sh_224, sh_225, sh_226, sh_227, ok_227, sh_228, ok_228, sh_229, sh_230, sh_231, sh_232, sh_233, ok_233, sh_234, sh_235, sh_236, sh_237, sh_238, sh_239, ok_239, sh_240, sh_241, sh_242, sh_243, sh_244, sh_245, sh_246, ok_246, sh_247, sh_248, sh_249, ok_249, sh_250, sh_251, sh_252, sh_253, sh_254, sh_255, sh_256, sh_257, sh_258, sh_259, sh_260, sh_261, sh_262, sh_263, sh_264, sh_265, sh_266, sh_267, sh_268, sh_269, sh_270, sh_271, sh_272, sh_273, sh_274, sh_275, sh_276, sh_277, sh_278, sh_279, sh_1, sh_2, sh_3, sh_4, gv_s, gv_o, kv_s, kv_o, gr_s, gr_o, kr_s, kr_o, r_8_0, r_8_1, r_8_3, r_8_4, r_8_5, r_8_6, r_8_7, r_8_8, r_8_9, r_8_10, r_9_7, r_9_8, r_9_9, r_9_10, r_9_11, r_9_12, r_9_13, r_9_14, r_9_15, r_49_2, r_49_3, r_49_4, r_49_6, r_54_2, r_54_3, r_54_4, r_54_6, r_59_2, r_59_3, r_59_4, r_59_6, r_64_2, r_64_3, r_64_4, r_64_6, r_69_7, r_69_8, r_69_9, r_69_10, r_69_11, r_69_12, r_69_13, r_69_14, r_69_15, r_109_2, r_109_3, r_109_4, r_109_6, r_114_2, r_114_3, r_114_4, r_114_6, r_119_2, r_119_3, r_119_4, r_119_6, r_124_2, r_124_3, r_124_4, r_124_6, r_129_0, r_131_2, r_131_3, r_131_4, r_131_5, r_146_2, r_146_3, r_146_4, r_146_5, r_161_2, r_161_3, r_161_4, r_161_5, r_176_2, r_176_3, r_176_4, r_176_5, r_191_2, r_191_3, r_191_4, r_191_5, r_206_2, r_206_3, r_206_4, r_206_5, r_221_0, r_221_1, r_223_0, r_223_2, r_223_3, r_227_0, r_228_2, r_228_3, r_228_4, r_228_6, r_233_0, r_233_1, r_233_2, r_233_3, r_233_4, r_233_5, r_239_0, r_239_1, r_239_2, r_239_3, r_239_4, r_239_5, r_246_2, r_246_3, r_249_1, r_249_2, r_249_6, r_249_7, r_249_8, r_249_9, r_249_11, r_249_12, r_249_13, r_249_14, r_249_17, r_249_18, r_249_19, r_249_20, r_249_21, r_249_22, r_249_28, r_249_29, r_249_30, r_249_31, r_249_32, r_249_33, r_249_34, r_249_37, r_249_43, r_249_44, r_249_45, r_249_46, r_249_47, r_249_51, r_227_1, r_233_6, r_239_6, r_246_0, r_246_1, r_15, r_75, r_16, r_76, r_18, r_78, r_130, ltr2, ltr3, ltr4, ltr5, ltr6, ltr7, ltr8, ltr9, ltr10, ltr11, ltr12, ltr13, ltr14, ltr15, ltr16, ltr17, ltr20, ltr22, ltr23, ltr24, ltr25, ltr31, ltr32, ltr40, ltr41, ltr42, ltr43, ltr45, ltr47, ltr48, ltr50, ltr52, ltr57, ltr59, ltr60, ltr61, ltr62, ltr64, ltr65, ltr72, ltr77, ltr90, ltr91, ltr97, ltr99, ltr100, ltr122, ltr144, ltr216, ltr236, ltr240, ltr255, ltr256, ltr257, ltr258, ltr259, ltr260, ltr261, ltr262, ltr271, ltr272, ltr273, ltr288, ltr336, ltr380, ltr400, ltr1000, ltr1600, ltr9999, ltr10000, ixN, inN, ltN, leN, eqN, lt0N, le0N, eq0N, eq1N, addN, add1N, mulN, divN, remN, modS, rdN, inCN, inR0, inR1, inRN, inVN, upS, upA, upI, upR, rwS, rwA, i10, biT, biF, rd1, rd2, ofn8, l11, rk, r1, r4, r5, q0, q3, q4, h1, eto, c_within, t11, a1', d1', f1, c1, ngd hdx, c_pushed, andN, orN, xnN, n3, show 4 ≤ r by omega, show 7 ≤ r by omega]
        refine nx _ _ _ (fun a ha => by rw [upR ha, upR ha]) ?_
        intro yy hyy
        by_cases ey : yy = i
        · subst ey
          refine ⟨_, upS, Nat.or_lt_two_pow (n := 12) c2 xl, fun x hx12 => ?_⟩
          refine Iff.trans ?_ (ext _).symm
          rw [← bit yy x hx12, Nat.testBit_or, Bool.or_eq_true, c3 x hx12]
          constructor
          · rintro (z | z)
            · exact Or.inl z
            · exact Or.inr (Or.inr ⟨rfl, z⟩)
          · rintro (z | ⟨z, _⟩ | ⟨_, z⟩)
            · exact Or.inl z
            · exact absurd z.symm et
            · exact Or.inr z
        · by_cases ey2 : yy = tY
          · subst ey2
            refine ⟨_, by rw [upI ey, upS], Nat.or_lt_two_pow (n := 12) f2 pl, fun x hx12 => ?_⟩
            refine Iff.trans ?_ (ext _).symm
            rw [← bit yy x hx12, Nat.testBit_or, Bool.or_eq_true, f3 x hx12]
            constructor
            · rintro (z | z)
              · exact Or.inl z
              · exact Or.inr (Or.inl ⟨rfl, z⟩)
            · rintro (z | ⟨_, z⟩ | ⟨z, _⟩)
              · exact Or.inl z
              · exact Or.inr z
              · exact absurd z ey
          · obtain ⟨b', y1, y2, y3⟩ := hB yy hyy
            refine ⟨b', by rw [upI ey, upI ey2]; exact y1, y2, fun x hx12 => ?_⟩
            refine Iff.trans ?_ (ext _).symm
            rw [← bit yy x hx12, y3 x hx12]
            constructor
            · exact Or.inl
            · rintro (z | ⟨z, _⟩ | ⟨z, _⟩)
              · exact z
              · exact absurd z ey2
              · exact absurd z ey
    · have st : ∀ x, x < 12 → sp1 N v y (12 * i + x) = 12 * i + x := by
        intro x hx12
        apply sp1_n hs
        intro z t2 hz z1 z2 ho
        have e2 : (12 * i + x) / 12 = i := by omega
        rw [e2, hdy] at z2
        have hH := hs.2.2.2.1
        have := ho.2.1
        omega
      have eto : ¬ inR (nI i + Int32.ofInt dy) 0 (nI 11) := by
        rw [ofI_add]
        unfold inR
        rw [Int32.lt_iff_toInt_lt, Int32.lt_iff_toInt_lt, nI_toInt (by omega), Int32.toInt_ofInt_of_le (by omega) (by omega)]
        have z0 : (0 : Int32).toInt = 0 := rfl
        omega
      simp (disch := omega) only [x_X4_stepAll_0, x_X4_stepAll_1, x_X4_stepAll_4, x_X4_stepAll_5, x_X4_stepAll_8, x_X4_stepAll_9, x_X4_stepAll_11, x_X4_stepAll_13, x_X4_stepAll_16, x_X4_stepAll_17, x_X4_stepAll_18, x_X4_stepAll_19, x_X4_stepAll_21, x_X4_stepAll_22, x_X4_stepAll_24, x_X4_stepAll_26, x_X4_stepAll_27, x_X4_stepAll_29, x_X4_stepAll_32, x_X4_stepAll_35, x_X4_stepAll_36, x_X4_stepAll_39, x_X4_stepAll_40, x_X4_stepAll_41, x_X4_stepAll_42, x_X4_stepAll_45, x_X4_stepAll_47, x_X4_stepAll_48, x_X4_stepAll_49, x_X4_stepAll_50, x_X4_stepAll_53, x_X4_stepAll_54, x_X4_stepAll_56, x_X4_stepAll_57, x_X4_stepAll_60, x_X4_stepAll_62, x_X4_stepAll_63, x_X4_stepAll_64, x_X4_stepAll_66, x_X4_stepAll_67, x_X4_stepAll_70, x_X4_stepAll_71, x_X4_stepAll_72, x_X4_stepAll_73, x_X4_stepAll_76, x_X4_stepAll_77, x_X4_stepAll_78, x_X4_stepAll_79, x_X4_stepAll_80, x_X4_stepAll_83, x_X4_stepAll_84, x_X4_stepAll_85, x_X4_stepAll_87, x_X4_stepAll_88, x_X4_stepAll_89, x_X4_stepAll_90, x_X4_stepAll_91, x_X4_stepAll_92, x_X4_stepAll_95, x_X4_stepAll_99, x_X4_stepAll_102, x_X4_stepAll_103, x_X4_stepAll_104, x_X4_stepAll_107, x_X4_stepAll_108, x_X4_stepAll_110, x_X4_stepAll_113, Bool.false_eq_true, am_cl_i, am_cl_r, am_cl_n, am_cl_l, am_cl_0, va_rf_s, va_rf_0, tl_s, tl_n, bi_0, bi_1, bi_z, true_and, and_true, false_and, and_false, true_implies, false_implies, implies_true, not_true_eq_false, not_false_eq_true, and_self, true_or, or_true, false_or, or_false, eq_self, Nat.reduceAdd, Nat.reduceMul, Nat.reduceSub, Nat.reduceDiv, Nat.reduceMod, Nat.reduceLeDiff, Nat.reduceEqDiff, Nat.reduceLT, ix0, ix1, in0, in1, gF_2, sh_8, ok_8, sh_9, ok_9, sh_10, sh_11, sh_12, sh_13, sh_14, sh_15, sh_16, sh_17, sh_18, sh_49, ok_49, sh_50, sh_51, sh_52, sh_53, sh_54, ok_54, sh_55, sh_56, sh_57, sh_58, sh_59, ok_59, sh_60, sh_61, sh_62, sh_63, sh_64, ok_64, sh_65, sh_66, sh_67, sh_68, sh_69, ok_69, sh_70, sh_71, sh_72, sh_73, sh_74, sh_75, sh_76, sh_77, sh_78, sh_109, ok_109, sh_110, sh_111, sh_112, sh_113, sh_114, ok_114, sh_115, sh_116, sh_117, sh_118, sh_119, ok_119, sh_120, sh_121, sh_122, sh_123, sh_124, ok_124, sh_125, sh_126, sh_127, sh_128, sh_129, ok_129, sh_130, sh_131, ok_131, sh_132, sh_133, sh_134, sh_135, sh_146, ok_146, sh_147, sh_148, sh_149, sh_150, sh_161, ok_161, sh_162, sh_163, sh_164, sh_165, sh_176, ok_176, sh_177, sh_178, sh_179, sh_180, sh_191, ok_191, sh_192, sh_193, sh_194, sh_195, sh_206, ok_206, sh_207, sh_208, sh_209, sh_210, sh_221, ok_221, sh_222, sh_223, ok_223, sh_224, sh_225, sh_226, sh_227, ok_227, sh_228, ok_228, sh_229, sh_230, sh_231, sh_232, sh_233, ok_233, sh_234, sh_235, sh_236, sh_237, sh_238, sh_239, ok_239, sh_240, sh_241, sh_242, sh_243, sh_244, sh_245, sh_246, ok_246, sh_247, sh_248, sh_249, ok_249, sh_250, sh_251, sh_252, sh_253, sh_254, sh_255, sh_256, sh_257, sh_258, sh_259, sh_260, sh_261, sh_262, sh_263, sh_264, sh_265, sh_266, sh_267, sh_268, sh_269, sh_270, sh_271, sh_272, sh_273, sh_274, sh_275, sh_276, sh_277, sh_278, sh_279, sh_1, sh_2, sh_3, sh_4, gv_s, gv_o, kv_s, kv_o, gr_s, gr_o, kr_s, kr_o, r_8_0, r_8_1, r_8_3, r_8_4, r_8_5, r_8_6, r_8_7, r_8_8, r_8_9, r_8_10, r_9_7, r_9_8, r_9_9, r_9_10, r_9_11, r_9_12, r_9_13, r_9_14, r_9_15, r_49_2, r_49_3, r_49_4, r_49_6, r_54_2, r_54_3, r_54_4, r_54_6, r_59_2, r_59_3, r_59_4, r_59_6, r_64_2, r_64_3, r_64_4, r_64_6, r_69_7, r_69_8, r_69_9, r_69_10, r_69_11, r_69_12, r_69_13, r_69_14, r_69_15, r_109_2, r_109_3, r_109_4, r_109_6, r_114_2, r_114_3, r_114_4, r_114_6, r_119_2, r_119_3, r_119_4, r_119_6, r_124_2, r_124_3, r_124_4, r_124_6, r_129_0, r_131_2, r_131_3, r_131_4, r_131_5, r_146_2, r_146_3, r_146_4, r_146_5, r_161_2, r_161_3, r_161_4, r_161_5, r_176_2, r_176_3, r_176_4, r_176_5, r_191_2, r_191_3, r_191_4, r_191_5, r_206_2, r_206_3, r_206_4, r_206_5, r_221_0, r_221_1, r_223_0, r_223_2, r_223_3, r_227_0, r_228_2, r_228_3, r_228_4, r_228_6, r_233_0, r_233_1, r_233_2, r_233_3, r_233_4, r_233_5, r_239_0, r_239_1, r_239_2, r_239_3, r_239_4, r_239_5, r_246_2, r_246_3, r_249_1, r_249_2, r_249_6, r_249_7, r_249_8, r_249_9, r_249_11, r_249_12, r_249_13, r_249_14, r_249_17, r_249_18, r_249_19, r_249_20, r_249_21, r_249_22, r_249_28, r_249_29, r_249_30, r_249_31, r_249_32, r_249_33, r_249_34, r_249_37, r_249_43, r_249_44, r_249_45, r_249_46, r_249_47, r_249_51, r_227_1, r_233_6, r_239_6, r_246_0, r_246_1, r_15, r_75, r_16, r_76, r_18, r_78, r_130, ltr2, ltr3, ltr4, ltr5, ltr6, ltr7, ltr8, ltr9, ltr10, ltr11, ltr12, ltr13, ltr14, ltr15, ltr16, ltr17, ltr20, ltr22, ltr23, ltr24, ltr25, ltr31, ltr32, ltr40, ltr41, ltr42, ltr43, ltr45, ltr47, ltr48, ltr50, ltr52, ltr57, ltr59, ltr60, ltr61, ltr62, ltr64, ltr65, ltr72, ltr77, ltr90, ltr91, ltr97, ltr99, ltr100, ltr122, ltr144, ltr216, ltr236, ltr240, ltr255, ltr256, ltr257, ltr258, ltr259, ltr260, ltr261, ltr262, ltr271, ltr272, ltr273, ltr288, ltr336, ltr380, ltr400, ltr1000, ltr1600, ltr9999, ltr10000, ixN, inN, ltN, leN, eqN, lt0N, le0N, eq0N, eq1N, addN, add1N, mulN, divN, remN, modS, rdN, inCN, inR0, inR1, inRN, inVN, upS, upA, upI, upR, rwS, rwA, i10, biT, biF, rd1, rd2, ofn8, l11, rk, r1, r4, r5, q0, q3, q4, h1, eto, c_within, a1', c1, orN, xn0 a2, n3, show 4 ≤ r by omega, show 7 ≤ r by omega]
      refine nx _ _ _ (fun a ha => upR ha) ?_
      intro yy hyy
      have ext : ∀ c, ((∃ e, e < 12 * (i + 1) ∧ M e ∧ sp1 N v y e = c) ↔ ((∃ e, e < 12 * i ∧ M e ∧ sp1 N v y e = c) ∨ ∃ z, z < 12 ∧ M (12 * i + z) ∧ 12 * i + z = c)) := by
        intro c
        constructor
        · rintro ⟨e, z1, z2, z3⟩
          by_cases g1 : e < 12 * i
          · exact Or.inl ⟨e, g1, z2, z3⟩
          · have ee : 12 * i + (e - 12 * i) = e := by omega
            have s2 := st (e - 12 * i) (by omega)
            rw [ee] at s2
            exact Or.inr ⟨e - 12 * i, by omega, by rw [ee]; exact z2, by rw [ee, ← z3, s2]⟩
        · rintro (⟨e, z1, z2, z3⟩ | ⟨z, z1, z2, z3⟩)
          · exact ⟨e, by omega, z2, z3⟩
          · exact ⟨12 * i + z, by omega, z2, by rw [st z z1]; exact z3⟩
      by_cases ey : yy = i
      · subst ey
        refine ⟨_, upS, Nat.or_lt_two_pow (n := 12) c2 a2, fun x hx12 => ?_⟩
        refine Iff.trans ?_ (ext _).symm
        rw [Nat.testBit_or, Bool.or_eq_true, c3 x hx12, a3 x hx12]
        constructor
        · rintro (z | z)
          · exact Or.inl z
          · exact Or.inr ⟨x, hx12, z, rfl⟩
        · rintro (z | ⟨z, z1, z2, z3⟩)
          · exact Or.inl z
          · have : z = x := by omega
            subst this
            exact Or.inr z2
      · obtain ⟨b', y1, y2, y3⟩ := hB yy hyy
        refine ⟨b', by rw [upI ey]; exact y1, y2, fun x hx12 => ?_⟩
        refine Iff.trans ?_ (ext _).symm
        rw [y3 x hx12]
        constructor
        · exact Or.inl
        · rintro (z | ⟨z, z1, z2, z3⟩)
          · exact z
          · omega
theorem cp12 {o2 : Nat} (h1 : shF L o = (0, 12)) (h2 : shF L o2 = (0, 12)) (h3 : 8 ≤ o) (h4 : 8 ≤ o2) : cpOk (gF L) o o2 0 0 (nI 12) = True := cp_t h1 h2 h3 h4 (by omega) (by omega) (by omega)
theorem c_stepAll (hr : isH r) (hs : SW N) (hy : y < 8) (hO : HB (I (r + 1)) (opS N v)) (hM : HB (I (r + 4)) M) (hk : ∀ I', HB (I' (r + 4)) (mvS N v y M) → (∀ a, a ≠ r + 4 → a ≠ r + 5 → I' a = I a) → k none (gF L) I' J (rF w)) : ac (d + 3) mX4_stepAll [.ref r, .int (am_dx y), .int (am_dy y)] (gF L) I J (rF w) k := by
  obtain ⟨r0, rk, r1, r2, r3, r4, r5⟩ := rc_s (L := L) hr
  obtain ⟨q0, q1, q2, q3, q4, q5, q6⟩ := rc_r (w := w) hr
  have hr' := hr
  unfold isH at hr'
  have bdx := dxi_b y
  rw [e_X4_stepAll, dx_i hy, dy_i hy]
  simp (disch := omega) only [x_X4_stepAll_0, x_X4_stepAll_1, x_X4_stepAll_4, x_X4_stepAll_5, x_X4_stepAll_8, x_X4_stepAll_9, x_X4_stepAll_11, x_X4_stepAll_13, x_X4_stepAll_16, x_X4_stepAll_17, x_X4_stepAll_18, x_X4_stepAll_19, x_X4_stepAll_21, x_X4_stepAll_22, x_X4_stepAll_24, x_X4_stepAll_26, x_X4_stepAll_27, x_X4_stepAll_29, x_X4_stepAll_32, x_X4_stepAll_35, x_X4_stepAll_36, x_X4_stepAll_39, x_X4_stepAll_40, x_X4_stepAll_41, x_X4_stepAll_42, x_X4_stepAll_45, x_X4_stepAll_47, x_X4_stepAll_48, x_X4_stepAll_49, x_X4_stepAll_50, x_X4_stepAll_53, x_X4_stepAll_54, x_X4_stepAll_56, x_X4_stepAll_57, x_X4_stepAll_60, x_X4_stepAll_62, x_X4_stepAll_63, x_X4_stepAll_64, x_X4_stepAll_66, x_X4_stepAll_67, x_X4_stepAll_70, x_X4_stepAll_71, x_X4_stepAll_72, x_X4_stepAll_73, x_X4_stepAll_76, x_X4_stepAll_77, x_X4_stepAll_78, x_X4_stepAll_79, x_X4_stepAll_80, x_X4_stepAll_83, x_X4_stepAll_84, x_X4_stepAll_85, x_X4_stepAll_87, x_X4_stepAll_88, x_X4_stepAll_89, x_X4_stepAll_90, x_X4_stepAll_91, x_X4_stepAll_92, x_X4_stepAll_95, x_X4_stepAll_99, x_X4_stepAll_102, x_X4_stepAll_103, x_X4_stepAll_104, x_X4_stepAll_107, x_X4_stepAll_108, x_X4_stepAll_110, x_X4_stepAll_113, Bool.false_eq_true, am_cl_i, am_cl_r, am_cl_n, am_cl_l, am_cl_0, va_rf_s, va_rf_0, tl_s, tl_n, bi_0, bi_1, bi_z, true_and, and_true, false_and, and_false, true_implies, false_implies, implies_true, not_true_eq_false, not_false_eq_true, and_self, true_or, or_true, false_or, or_false, eq_self, Nat.reduceAdd, Nat.reduceMul, Nat.reduceSub, Nat.reduceDiv, Nat.reduceMod, Nat.reduceLeDiff, Nat.reduceEqDiff, Nat.reduceLT, ix0, ix1, in0, in1, gF_2, sh_8, ok_8, sh_9, ok_9, sh_10, sh_11, sh_12, sh_13, sh_14, sh_15, sh_16, sh_17, sh_18, sh_49, ok_49, sh_50, sh_51, sh_52, sh_53, sh_54, ok_54, sh_55, sh_56, sh_57, sh_58, sh_59, ok_59, sh_60, sh_61, sh_62, sh_63, sh_64, ok_64, sh_65, sh_66, sh_67, sh_68, sh_69, ok_69, sh_70, sh_71, sh_72, sh_73, sh_74, sh_75, sh_76, sh_77, sh_78, sh_109, ok_109, sh_110, sh_111, sh_112, sh_113, sh_114, ok_114, sh_115, sh_116, sh_117, sh_118, sh_119, ok_119, sh_120, sh_121, sh_122, sh_123, sh_124, ok_124, sh_125, sh_126, sh_127, sh_128, sh_129, ok_129, sh_130, sh_131, ok_131, sh_132, sh_133, sh_134, sh_135, sh_146, ok_146, sh_147, sh_148, sh_149, sh_150, sh_161, ok_161, sh_162, sh_163, sh_164, sh_165, sh_176, ok_176, sh_177, sh_178, sh_179, sh_180, sh_191, ok_191, sh_192, sh_193, sh_194, sh_195, sh_206, ok_206, sh_207, sh_208, sh_209, sh_210, sh_221, ok_221, sh_222, sh_223, ok_223, sh_224, sh_225, sh_226, sh_227, ok_227, sh_228, ok_228, sh_229, sh_230, sh_231, sh_232, sh_233, ok_233, sh_234, sh_235, sh_236, sh_237, sh_238, sh_239, ok_239, sh_240, sh_241, sh_242, sh_243, sh_244, sh_245, sh_246, ok_246, sh_247, sh_248, sh_249, ok_249, sh_250, sh_251, sh_252, sh_253, sh_254, sh_255, sh_256, sh_257, sh_258, sh_259, sh_260, sh_261, sh_262, sh_263, sh_264, sh_265, sh_266, sh_267, sh_268, sh_269, sh_270, sh_271, sh_272, sh_273, sh_274, sh_275, sh_276, sh_277, sh_278, sh_279, sh_1, sh_2, sh_3, sh_4, gv_s, gv_o, kv_s, kv_o, gr_s, gr_o, kr_s, kr_o, r_8_0, r_8_1, r_8_3, r_8_4, r_8_5, r_8_6, r_8_7, r_8_8, r_8_9, r_8_10, r_9_7, r_9_8, r_9_9, r_9_10, r_9_11, r_9_12, r_9_13, r_9_14, r_9_15, r_49_2, r_49_3, r_49_4, r_49_6, r_54_2, r_54_3, r_54_4, r_54_6, r_59_2, r_59_3, r_59_4, r_59_6, r_64_2, r_64_3, r_64_4, r_64_6, r_69_7, r_69_8, r_69_9, r_69_10, r_69_11, r_69_12, r_69_13, r_69_14, r_69_15, r_109_2, r_109_3, r_109_4, r_109_6, r_114_2, r_114_3, r_114_4, r_114_6, r_119_2, r_119_3, r_119_4, r_119_6, r_124_2, r_124_3, r_124_4, r_124_6, r_129_0, r_131_2, r_131_3, r_131_4, r_131_5, r_146_2, r_146_3, r_146_4, r_146_5, r_161_2, r_161_3, r_161_4, r_161_5, r_176_2, r_176_3, r_176_4, r_176_5, r_191_2, r_191_3, r_191_4, r_191_5, r_206_2, r_206_3, r_206_4, r_206_5, r_221_0, r_221_1, r_223_0, r_223_2, r_223_3, r_227_0, r_228_2, r_228_3, r_228_4, r_228_6, r_233_0, r_233_1, r_233_2, r_233_3, r_233_4, r_233_5, r_239_0, r_239_1, r_239_2, r_239_3, r_239_4, r_239_5, r_246_2, r_246_3, r_249_1, r_249_2, r_249_6, r_249_7, r_249_8, r_249_9, r_249_11, r_249_12, r_249_13, r_249_14, r_249_17, r_249_18, r_249_19, r_249_20, r_249_21, r_249_22, r_249_28, r_249_29, r_249_30, r_249_31, r_249_32, r_249_33, r_249_34, r_249_37, r_249_43, r_249_44, r_249_45, r_249_46, r_249_47, r_249_51, r_227_1, r_233_6, r_239_6, r_246_0, r_246_1, r_15, r_75, r_16, r_76, r_18, r_78, r_130, ltr2, ltr3, ltr4, ltr5, ltr6, ltr7, ltr8, ltr9, ltr10, ltr11, ltr12, ltr13, ltr14, ltr15, ltr16, ltr17, ltr20, ltr22, ltr23, ltr24, ltr25, ltr31, ltr32, ltr40, ltr41, ltr42, ltr43, ltr45, ltr47, ltr48, ltr50, ltr52, ltr57, ltr59, ltr60, ltr61, ltr62, ltr64, ltr65, ltr72, ltr77, ltr90, ltr91, ltr97, ltr99, ltr100, ltr122, ltr144, ltr216, ltr236, ltr240, ltr255, ltr256, ltr257, ltr258, ltr259, ltr260, ltr261, ltr262, ltr271, ltr272, ltr273, ltr288, ltr336, ltr380, ltr400, ltr1000, ltr1600, ltr9999, ltr10000, ixN, inN, ltN, leN, eqN, lt0N, le0N, eq0N, eq1N, addN, add1N, mulN, divN, remN, modS, rdN, inCN, inR0, inR1, inRN, inVN, upS, upA, upI, upR, rwS, rwA, i10, biT, biF, rd1, rd2, ofn8, rk, q4, c_fill r5]
  rw [← nI_0]
  refine l_sa (v := v) (I := fl I (r + 5) 12 (nI 0)) (M := M) hr hs hy (by omega) rfl rfl ?_ ?_ 12 0 _ _ _ (by omega) (fun _ _ => rfl) ?_ ?_
  · rw [fl_o (by omega)]; exact hO
  · rw [fl_o (by omega)]; exact hM
  · intro yy hyy
    refine ⟨0, fl_s hyy, by omega, fun x hx => ?_⟩
    rw [Nat.zero_testBit]
    constructor
    · intro z; cases z
    · rintro ⟨e, z1, _⟩; omega
  · intro I2 l4 l5 z1 z2
    have cc := cp12 (L := L) (o := r + 4) (o2 := r + 5) r4 r5 (by omega) (by omega)
    simp (disch := omega) only [x_X4_stepAll_0, x_X4_stepAll_1, x_X4_stepAll_4, x_X4_stepAll_5, x_X4_stepAll_8, x_X4_stepAll_9, x_X4_stepAll_11, x_X4_stepAll_13, x_X4_stepAll_16, x_X4_stepAll_17, x_X4_stepAll_18, x_X4_stepAll_19, x_X4_stepAll_21, x_X4_stepAll_22, x_X4_stepAll_24, x_X4_stepAll_26, x_X4_stepAll_27, x_X4_stepAll_29, x_X4_stepAll_32, x_X4_stepAll_35, x_X4_stepAll_36, x_X4_stepAll_39, x_X4_stepAll_40, x_X4_stepAll_41, x_X4_stepAll_42, x_X4_stepAll_45, x_X4_stepAll_47, x_X4_stepAll_48, x_X4_stepAll_49, x_X4_stepAll_50, x_X4_stepAll_53, x_X4_stepAll_54, x_X4_stepAll_56, x_X4_stepAll_57, x_X4_stepAll_60, x_X4_stepAll_62, x_X4_stepAll_63, x_X4_stepAll_64, x_X4_stepAll_66, x_X4_stepAll_67, x_X4_stepAll_70, x_X4_stepAll_71, x_X4_stepAll_72, x_X4_stepAll_73, x_X4_stepAll_76, x_X4_stepAll_77, x_X4_stepAll_78, x_X4_stepAll_79, x_X4_stepAll_80, x_X4_stepAll_83, x_X4_stepAll_84, x_X4_stepAll_85, x_X4_stepAll_87, x_X4_stepAll_88, x_X4_stepAll_89, x_X4_stepAll_90, x_X4_stepAll_91, x_X4_stepAll_92, x_X4_stepAll_95, x_X4_stepAll_98, x_X4_stepAll_99, x_X4_stepAll_102, x_X4_stepAll_103, x_X4_stepAll_104, x_X4_stepAll_107, x_X4_stepAll_108, x_X4_stepAll_110, x_X4_stepAll_113, Bool.false_eq_true, am_cl_i, am_cl_r, am_cl_n, am_cl_l, am_cl_0, va_rf_s, va_rf_0, tl_s, tl_n, bi_0, bi_1, bi_z, true_and, and_true, false_and, and_false, true_implies, false_implies, implies_true, not_true_eq_false, not_false_eq_true, and_self, true_or, or_true, false_or, or_false, eq_self, Nat.reduceAdd, Nat.reduceMul, Nat.reduceSub, Nat.reduceDiv, Nat.reduceMod, Nat.reduceLeDiff, Nat.reduceEqDiff, Nat.reduceLT, ix0, ix1, in0, in1, gF_2, sh_8, ok_8, sh_9, ok_9, sh_10, sh_11, sh_12, sh_13, sh_14, sh_15, sh_16, sh_17, sh_18, sh_49, ok_49, sh_50, sh_51, sh_52, sh_53, sh_54, ok_54, sh_55, sh_56, sh_57, sh_58, sh_59, ok_59, sh_60, sh_61, sh_62, sh_63, sh_64, ok_64, sh_65, sh_66, sh_67, sh_68, sh_69, ok_69, sh_70, sh_71, sh_72, sh_73, sh_74, sh_75, sh_76, sh_77, sh_78, sh_109, ok_109, sh_110, sh_111, sh_112, sh_113, sh_114, ok_114, sh_115, sh_116, sh_117, sh_118, sh_119, ok_119, sh_120, sh_121, sh_122, sh_123, sh_124, ok_124, sh_125, sh_126, sh_127, sh_128, sh_129, ok_129, sh_130, sh_131, ok_131, sh_132, sh_133, sh_134, sh_135, sh_146, ok_146, sh_147, sh_148, sh_149, sh_150, sh_161, ok_161, sh_162, sh_163, sh_164, sh_165, sh_176, ok_176, sh_177, sh_178, sh_179, sh_180, sh_191, ok_191, sh_192, sh_193, sh_194, sh_195, sh_206, ok_206, sh_207, sh_208, sh_209, sh_210, sh_221, ok_221, sh_222, sh_223, ok_223, sh_224, sh_225, sh_226, sh_227, ok_227, sh_228, ok_228, sh_229, sh_230, sh_231, sh_232, sh_233, ok_233, sh_234, sh_235, sh_236, sh_237, sh_238, sh_239, ok_239, sh_240, sh_241, sh_242, sh_243, sh_244, sh_245, sh_246, ok_246, sh_247, sh_248, sh_249, ok_249, sh_250, sh_251, sh_252, sh_253, sh_254, sh_255, sh_256, sh_257, sh_258, sh_259, sh_260, sh_261, sh_262, sh_263, sh_264, sh_265, sh_266, sh_267, sh_268, sh_269, sh_270, sh_271, sh_272, sh_273, sh_274, sh_275, sh_276, sh_277, sh_278, sh_279, sh_1, sh_2, sh_3, sh_4, gv_s, gv_o, kv_s, kv_o, gr_s, gr_o, kr_s, kr_o, r_8_0, r_8_1, r_8_3, r_8_4, r_8_5, r_8_6, r_8_7, r_8_8, r_8_9, r_8_10, r_9_7, r_9_8, r_9_9, r_9_10, r_9_11, r_9_12, r_9_13, r_9_14, r_9_15, r_49_2, r_49_3, r_49_4, r_49_6, r_54_2, r_54_3, r_54_4, r_54_6, r_59_2, r_59_3, r_59_4, r_59_6, r_64_2, r_64_3, r_64_4, r_64_6, r_69_7, r_69_8, r_69_9, r_69_10, r_69_11, r_69_12, r_69_13, r_69_14, r_69_15, r_109_2, r_109_3, r_109_4, r_109_6, r_114_2, r_114_3, r_114_4, r_114_6, r_119_2, r_119_3, r_119_4, r_119_6, r_124_2, r_124_3, r_124_4, r_124_6, r_129_0, r_131_2, r_131_3, r_131_4, r_131_5, r_146_2, r_146_3, r_146_4, r_146_5, r_161_2, r_161_3, r_161_4, r_161_5, r_176_2, r_176_3, r_176_4, r_176_5, r_191_2, r_191_3, r_191_4, r_191_5, r_206_2, r_206_3, r_206_4, r_206_5, r_221_0, r_221_1, r_223_0, r_223_2, r_223_3, r_227_0, r_228_2, r_228_3, r_228_4, r_228_6, r_233_0, r_233_1, r_233_2, r_233_3, r_233_4, r_233_5, r_239_0, r_239_1, r_239_2, r_239_3, r_239_4, r_239_5, r_246_2, r_246_3, r_249_1, r_249_2, r_249_6, r_249_7, r_249_8, r_249_9, r_249_11, r_249_12, r_249_13, r_249_14, r_249_17, r_249_18, r_249_19, r_249_20, r_249_21, r_249_22, r_249_28, r_249_29, r_249_30, r_249_31, r_249_32, r_249_33, r_249_34, r_249_37, r_249_43, r_249_44, r_249_45, r_249_46, r_249_47, r_249_51, r_227_1, r_233_6, r_239_6, r_246_0, r_246_1, r_15, r_75, r_16, r_76, r_18, r_78, r_130, ltr2, ltr3, ltr4, ltr5, ltr6, ltr7, ltr8, ltr9, ltr10, ltr11, ltr12, ltr13, ltr14, ltr15, ltr16, ltr17, ltr20, ltr22, ltr23, ltr24, ltr25, ltr31, ltr32, ltr40, ltr41, ltr42, ltr43, ltr45, ltr47, ltr48, ltr50, ltr52, ltr57, ltr59, ltr60, ltr61, ltr62, ltr64, ltr65, ltr72, ltr77, ltr90, ltr91, ltr97, ltr99, ltr100, ltr122, ltr144, ltr216, ltr236, ltr240, ltr255, ltr256, ltr257, ltr258, ltr259, ltr260, ltr261, ltr262, ltr271, ltr272, ltr273, ltr288, ltr336, ltr380, ltr400, ltr1000, ltr1600, ltr9999, ltr10000, ixN, inN, ltN, leN, eqN, lt0N, le0N, eq0N, eq1N, addN, add1N, mulN, divN, remN, modS, rdN, inCN, inR0, inR1, inRN, inVN, upS, upA, upI, upR, rwS, rwA, i10, biT, biF, rd1, rd2, ofn8, rk, q3, q4, cc]
    refine hk _ ?_ ?_
    · rw [rwS]
      exact HB_c z1 (fun yy hyy => vcp hyy)
    · intro a y1 y2
      rw [rwA y1, z2 a y2, fl_o y2]
end RCH3
