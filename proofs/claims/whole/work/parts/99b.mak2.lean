def w0 (u : Nat) : Option Nat := if u < 4 then some (49 + 5 * u) else if u = 4 then some 228 else if u = 5 then some 247 else if u = 6 then some 248 else some 19
/-- what stands in the class's cells at the start -/
def iF (a : Nat) : Nat → Int32 := if a = 9 ∨ a = 69 then (fun j => if j = 0 ∨ j = 1 then nI 8 else if j = 4 then nI 24 else 0) else if a = 10 ∨ a = 70 then fil (fun _ => 0) 144 (fun _ => nI 50) else if a = 13 ∨ a = 73 then fil (fun _ => 0) 24 (fun _ => 1) else if 19 ≤ a ∧ a < 29 then vI (a - 19) else if 79 ≤ a ∧ a < 89 then vI (a - 79) else if (131 ≤ a ∧ a < 221) ∧ 5 ≤ (a - 131) % 15 then vI ((a - 131) % 15 - 5) else if a = 227 then (fun j => if j = 6 then -1 else 0) else fun _ => 0
def MKC (I I' : Nat → Nat → Int32) (R R' : Nat → Nat → Option Nat) (o e : Nat) : Prop := (∀ a, ¬ (o ≤ a ∧ a < e) → I' a = I a) ∧ (∀ a, ¬ (o ≤ a ∧ a < e) → R' a = R a) ∧ ∀ a, o ≤ a → a < e → I' a = iF a ∧ R' a = rF w0 a
def tR (o : Nat) : Nat → Option Nat := va_up (va_up (va_up (va_up (fun _ => none) 2 (some (o + 1))) 3 (some (o + 2))) 4 (some (o + 3))) 5 (some (o + 4))
section MAK2
variable {d : Nat} {k : am_k} {g : am_G} {I I' I1 : Nat → Nat → Int32} {J : Nat → Nat → Int64} {R R' R1 : Nat → Nat → Option Nat} {a x y : Int32} {L : Nat} {b c e p q n u t m l o s i j ci : Nat}
theorem sh_t (hk : l < 6) : shF L (131 + 15 * l) = (108, 0) ∧ shF L (132 + 15 * l) = (0, 144) ∧ shF L (133 + 15 * l) = (0, 100) ∧ shF L (134 + 15 * l) = (3, 20) ∧ shF L (135 + 15 * l) = (19, 10) ∧ ∀ v, v < 10 → shF L (136 + 15 * l + v) = (109, 0) := by
  have key : ∀ l, l < 6 → shT.getD (123 + 15 * l) (999, 0) = (108, 0) ∧ shT.getD (124 + 15 * l) (999, 0) = (0, 144) ∧ shT.getD (125 + 15 * l) (999, 0) = (0, 100) ∧ shT.getD (126 + 15 * l) (999, 0) = (3, 20) ∧ shT.getD (127 + 15 * l) (999, 0) = (19, 10) ∧ ∀ v, v < 10 → shT.getD (128 + 15 * l + v) (999, 0) = (109, 0) := by decide
  obtain ⟨k1, k2, k3, k4, k5, k6⟩ := key l hk
  refine ⟨?_, ?_, ?_, ?_, ?_, fun v hv => ?_⟩
  · rw [show 131 + 15 * l = 8 + (123 + 15 * l) by omega, sh_q]; exact k1
  · rw [show 132 + 15 * l = 8 + (124 + 15 * l) by omega, sh_q]; exact k2
  · rw [show 133 + 15 * l = 8 + (125 + 15 * l) by omega, sh_q]; exact k3
  · rw [show 134 + 15 * l = 8 + (126 + 15 * l) by omega, sh_q]; exact k4
  · rw [show 135 + 15 * l = 8 + (127 + 15 * l) by omega, sh_q]; exact k5
  · rw [show 136 + 15 * l + v = 8 + (128 + 15 * l + v) by omega, sh_q]; exact k6 v hv
/-- the villages of a Trace -/
theorem l_tv (hn : 1 ≤ n) (h0 : shF L (n + 7) = (108, 0)) (h4 : shF L (n + 11) = (19, 10)) (hv : ∀ v, v < 10 → shF L (n + 12 + v) = (109, 0)) (hr : R1 (n + 7) 5 = some (n + 11)) (hk : ∀ J, k none (gP L (n + 14)) (vl I1 (n + 12) 10) J (ra (zr R1 (n + 12) 10 none) (n + 11) (n + 12) 1 10)) : ∀ m i c s J, i + m = 10 → c = 4 + i → s = 274 + 15 * i → aw (d + 3) mX8_init k 40 [some (.ref (n + 7)), some (.int (nI i))] [] (gP L (n + 4 + i)) (vl I1 (n + 12) i) J (ra (zr R1 (n + 12) i none) (n + 11) (n + 12) 1 i) c s := by
  intro m
  induction m with
  | zero =>
    intro i c s J hi hc hs
    have e : i = 10 := by omega
    subst e
    have c1 : c = 14 := hc
    have s1 : s ≤ 424 := by omega
    rw [x_X8_init_40]
    simp (disch := omega) only [x_X8_init_0, x_X8_init_1, x_X8_init_4, x_X8_init_5, x_X8_init_8, x_X8_init_10, x_X8_init_13, x_X8_init_14, x_X8_init_16, x_X8_init_18, x_X8_init_21, x_X8_init_22, x_X8_init_24, x_X8_init_26, x_X8_init_29, x_X8_init_30, x_X8_init_32, x_X8_init_35, x_X8_init_38, x_X8_init_39, x_X8_init_41, x_X8_init_43, x_X8_init_46, x_X8_init_47, x_X8_init_50, x_X8_init_51, x_X8_init_54, x_X8_init_55, x_X8_init_56, x_X8_init_59, x_X8_init_60, x_X8_init_63, x_X8_init_66, Bool.false_eq_true, am_cl_i, am_cl_r, am_cl_n, am_cl_l, am_cl_0, va_rf_s, va_rf_0, tl_s, tl_n, bi_0, bi_1, bi_z, true_and, and_true, false_and, and_false, true_implies, false_implies, implies_true, not_true_eq_false, not_false_eq_true, and_self, true_or, or_true, false_or, or_false, eq_self, Nat.reduceAdd, Nat.reduceMul, Nat.reduceSub, Nat.reduceDiv, Nat.reduceMod, Nat.reduceLeDiff, Nat.reduceEqDiff, Nat.reduceLT, ix0, ix1, in0, in1, ltr2, ltr3, ltr4, ltr5, ltr6, ltr7, ltr8, ltr9, ltr10, ltr11, ltr12, ltr13, ltr14, ltr15, ltr16, ltr17, ltr20, ltr22, ltr23, ltr24, ltr25, ltr31, ltr32, ltr40, ltr41, ltr42, ltr43, ltr45, ltr47, ltr48, ltr50, ltr52, ltr57, ltr59, ltr60, ltr61, ltr62, ltr64, ltr65, ltr72, ltr77, ltr90, ltr91, ltr97, ltr99, ltr100, ltr122, ltr144, ltr216, ltr236, ltr240, ltr255, ltr256, ltr257, ltr258, ltr259, ltr260, ltr261, ltr262, ltr271, ltr272, ltr273, ltr288, ltr336, ltr380, ltr400, ltr1000, ltr1600, ltr9999, ltr10000, ixN, inN, ltN, leN, eqN, lt0N, le0N, eq0N, eq1N, addN, add1N, mulN, divN, remN, modS, rdN, inCN, inR0, inR1, inRN, inVN, Nat.le_refl, c1, s1]
    exact hk J
  | succ m ih =>
    intro i c s J hi hc hs
    have i1 : ¬ 10 ≤ i := by omega
    have c1 : c + 1 ≤ 14 := by omega
    have s1 : s + 15 ≤ 424 := by omega
    have o1 : okO (gP L (n + 4 + i)) 8 (n + 7) := gP_ok h0 (by omega) (by omega)
    have g1 : mkG (gP L (n + 4 + i)) 109 0 = gP L (n + 4 + i + 1) := gP_mk (by rw [show 8 + (n + 4 + i) = n + 12 + i by omega]; exact hv i (by omega))
    have o2 : okO (gP L (n + 4 + i + 1)) 9 (n + 12 + i) := gP_ok (hv i (by omega)) (by omega) (by omega)
    have g2 : (gP L (n + 4 + i + 1)).2 (n + 11) = (19, 10) := by rw [gP_2 (by omega), h4]
    have g3 : (gP L (n + 4 + i + 1)).2 (n + 12 + i) = (109, 0) := by rw [gP_2 (by omega), hv i (by omega)]
    have r1 : ra (zr R1 (n + 12) i none) (n + 11) (n + 12) 1 i (n + 7) 5 = some (n + 11) := by rw [ra_o (by omega), zr_o (by omega)]; exact hr
    have b1 : 8 ≤ n + 11 := by omega
    have b2 : 8 ≤ n + 12 + i := by omega
    have go := fun J => ih (i + 1) (c + 1) (s + 15) J (by omega) (by omega) (by omega)
    rw [x_X8_init_40]
    simp (disch := omega) only [x_X8_init_0, x_X8_init_1, x_X8_init_4, x_X8_init_5, x_X8_init_8, x_X8_init_10, x_X8_init_13, x_X8_init_14, x_X8_init_16, x_X8_init_18, x_X8_init_21, x_X8_init_22, x_X8_init_24, x_X8_init_26, x_X8_init_29, x_X8_init_30, x_X8_init_32, x_X8_init_35, x_X8_init_38, x_X8_init_39, x_X8_init_41, x_X8_init_43, x_X8_init_46, x_X8_init_47, x_X8_init_50, x_X8_init_51, x_X8_init_54, x_X8_init_55, x_X8_init_56, x_X8_init_59, x_X8_init_60, x_X8_init_63, x_X8_init_66, Bool.false_eq_true, am_cl_i, am_cl_r, am_cl_n, am_cl_l, am_cl_0, va_rf_s, va_rf_0, tl_s, tl_n, bi_0, bi_1, bi_z, true_and, and_true, false_and, and_false, true_implies, false_implies, implies_true, not_true_eq_false, not_false_eq_true, and_self, true_or, or_true, false_or, or_false, eq_self, Nat.reduceAdd, Nat.reduceMul, Nat.reduceSub, Nat.reduceDiv, Nat.reduceMod, Nat.reduceLeDiff, Nat.reduceEqDiff, Nat.reduceLT, ix0, ix1, in0, in1, ltr2, ltr3, ltr4, ltr5, ltr6, ltr7, ltr8, ltr9, ltr10, ltr11, ltr12, ltr13, ltr14, ltr15, ltr16, ltr17, ltr20, ltr22, ltr23, ltr24, ltr25, ltr31, ltr32, ltr40, ltr41, ltr42, ltr43, ltr45, ltr47, ltr48, ltr50, ltr52, ltr57, ltr59, ltr60, ltr61, ltr62, ltr64, ltr65, ltr72, ltr77, ltr90, ltr91, ltr97, ltr99, ltr100, ltr122, ltr144, ltr216, ltr236, ltr240, ltr255, ltr256, ltr257, ltr258, ltr259, ltr260, ltr261, ltr262, ltr271, ltr272, ltr273, ltr288, ltr336, ltr380, ltr400, ltr1000, ltr1600, ltr9999, ltr10000, ixN, inN, ltN, leN, eqN, lt0N, le0N, eq0N, eq1N, addN, add1N, mulN, divN, remN, modS, rdN, inCN, inR0, inR1, inRN, inVN, Nat.add_zero, gP_1, i1, c1, s1, o1, g1, g2, g3, r1, b1, b2, k_vInit o2, mkR_e (L := L) (show 8 + (n + 4 + i) = n + 12 + i by omega), show 8 + (n + 4 + i) = n + 12 + i by omega, ra_z (show n + 11 ≠ n + 12 + i by omega), zr_s (show n + 12 + i = n + 12 + i from rfl), vl_s, ra_s (show n + 12 + i = n + 12 + 1 * i by omega)]
    exact go _
theorem k_tInit (hn : 1 ≤ n) (h0 : shF L (n + 7) = (108, 0)) (h1 : shF L (n + 8) = (0, 144)) (h2 : shF L (n + 9) = (0, 100)) (h3 : shF L (n + 10) = (3, 20)) (h4 : shF L (n + 11) = (19, 10)) (hv : ∀ v, v < 10 → shF L (n + 12 + v) = (109, 0)) (hr : R (n + 7) = fun _ => none) (hk : ∀ J, k none (gP L (n + 14)) (vl (zr I (n + 8) 4 0) (n + 12) 10) J (ra (zr (am_rw (zr R (n + 8) 4 none) (n + 7) (tR (n + 7))) (n + 12) 10 none) (n + 11) (n + 12) 1 10)) : ac (d + 4) mX8_init [.ref (n + 7)] (gP L n) I J R k := by
  have g1 : mkG (gP L n) 0 144 = gP L (n + 1) := gP_mk (by rw [show 8 + n = n + 8 by omega]; exact h1)
  have g2 : mkG (gP L (n + 1)) 0 100 = gP L (n + 2) := gP_mk (by rw [show 8 + (n + 1) = n + 9 by omega]; exact h2)
  have g3 : mkG (gP L (n + 2)) 3 20 = gP L (n + 3) := gP_mk (by rw [show 8 + (n + 2) = n + 10 by omega]; exact h3)
  have g4 : mkG (gP L (n + 3)) 19 10 = gP L (n + 4) := gP_mk (by rw [show 8 + (n + 3) = n + 11 by omega]; exact h4)
  have o1 : okO (gP L (n + 1)) 8 (n + 7) := gP_ok h0 (by omega) (by omega)
  have o2 : okO (gP L (n + 2)) 8 (n + 7) := gP_ok h0 (by omega) (by omega)
  have o3 : okO (gP L (n + 3)) 8 (n + 7) := gP_ok h0 (by omega) (by omega)
  have o4 : okO (gP L (n + 4)) 8 (n + 7) := gP_ok h0 (by omega) (by omega)
  have eI : am_rw (am_rw (am_rw (am_rw I (n + 8) (fun _ => 0)) (n + 9) (fun _ => 0)) (n + 10) (fun _ => 0)) (n + 11) (fun _ => 0) = zr I (n + 8) 4 0 := by
    rw [← zr_s (f := I) (b := n + 8) (m := 3) (q := n + 11) rfl, ← zr_s (f := I) (b := n + 8) (m := 2) (q := n + 10) rfl, ← zr_s (f := I) (b := n + 8) (m := 1) (q := n + 9) rfl, ← zr_s (f := I) (b := n + 8) (m := 0) (q := n + 8) rfl, zr_0]
  have eR : am_up (am_rw (am_up (am_rw (am_up (am_rw (am_up (am_rw R (n + 8) (fun _ => none)) (n + 7) 2 (some (n + 8))) (n + 9) (fun _ => none)) (n + 7) 3 (some (n + 9))) (n + 10) (fun _ => none)) (n + 7) 4 (some (n + 10))) (n + 11) (fun _ => none)) (n + 7) 5 (some (n + 11)) = am_rw (zr R (n + 8) 4 none) (n + 7) (tR (n + 7)) := by
    funext a
    by_cases e : a = n + 7
    · subst e
      rw [upW, rwA (by omega), upW, rwA (by omega), upW, rwA (by omega), upW, rwA (by omega), hr, rwS]
      rfl
    · rw [upR e, rwA e]
      have z : zr R (n + 8) 4 none = am_rw (am_rw (am_rw (am_rw R (n + 8) (fun _ => none)) (n + 9) (fun _ => none)) (n + 10) (fun _ => none)) (n + 11) (fun _ => none) := by
        rw [← zr_s (f := R) (b := n + 8) (m := 3) (q := n + 11) rfl, ← zr_s (f := R) (b := n + 8) (m := 2) (q := n + 10) rfl, ← zr_s (f := R) (b := n + 8) (m := 1) (q := n + 9) rfl, ← zr_s (f := R) (b := n + 8) (m := 0) (q := n + 8) rfl, zr_0]
      rw [z]
      by_cases e1 : a = n + 11
      · rw [e1, rwS, rwS]
      rw [rwA e1, rwA e1, upR e]
      by_cases e2 : a = n + 10
      · rw [e2, rwS, rwS]
      rw [rwA e2, rwA e2, upR e]
      by_cases e3 : a = n + 9
      · rw [e3, rwS, rwS]
      rw [rwA e3, rwA e3, upR e]
  have go := l_tv (d := d) (k := k) (I1 := zr I (n + 8) 4 0) (R1 := am_rw (zr R (n + 8) 4 none) (n + 7) (tR (n + 7))) hn h0 h4 hv (by rw [rwS]; rfl) hk 10 0 4 274
  rw [e_X8_init]
  simp (disch := omega) only [x_X8_init_0, x_X8_init_1, x_X8_init_4, x_X8_init_5, x_X8_init_8, x_X8_init_10, x_X8_init_13, x_X8_init_14, x_X8_init_16, x_X8_init_18, x_X8_init_21, x_X8_init_22, x_X8_init_24, x_X8_init_26, x_X8_init_29, x_X8_init_30, x_X8_init_32, x_X8_init_35, x_X8_init_38, x_X8_init_39, x_X8_init_41, x_X8_init_43, x_X8_init_46, x_X8_init_47, x_X8_init_50, x_X8_init_51, x_X8_init_54, x_X8_init_55, x_X8_init_56, x_X8_init_59, x_X8_init_60, x_X8_init_63, x_X8_init_66, Bool.false_eq_true, am_cl_i, am_cl_r, am_cl_n, am_cl_l, am_cl_0, va_rf_s, va_rf_0, tl_s, tl_n, bi_0, bi_1, bi_z, true_and, and_true, false_and, and_false, true_implies, false_implies, implies_true, not_true_eq_false, not_false_eq_true, and_self, true_or, or_true, false_or, or_false, eq_self, Nat.reduceAdd, Nat.reduceMul, Nat.reduceSub, Nat.reduceDiv, Nat.reduceMod, Nat.reduceLeDiff, Nat.reduceEqDiff, Nat.reduceLT, ix0, ix1, in0, in1, ltr2, ltr3, ltr4, ltr5, ltr6, ltr7, ltr8, ltr9, ltr10, ltr11, ltr12, ltr13, ltr14, ltr15, ltr16, ltr17, ltr20, ltr22, ltr23, ltr24, ltr25, ltr31, ltr32, ltr40, ltr41, ltr42, ltr43, ltr45, ltr47, ltr48, ltr50, ltr52, ltr57, ltr59, ltr60, ltr61, ltr62, ltr64, ltr65, ltr72, ltr77, ltr90, ltr91, ltr97, ltr99, ltr100, ltr122, ltr144, ltr216, ltr236, ltr240, ltr255, ltr256, ltr257, ltr258, ltr259, ltr260, ltr261, ltr262, ltr271, ltr272, ltr273, ltr288, ltr336, ltr380, ltr400, ltr1000, ltr1600, ltr9999, ltr10000, ixN, inN, ltN, leN, eqN, lt0N, le0N, eq0N, eq1N, addN, add1N, mulN, divN, remN, modS, rdN, inCN, inR0, inR1, inRN, inVN, gP_1, g1, g2, g3, g4, o1, o2, o3, o4, mkR_e (L := L) (show 8 + n = n + 8 by omega), mkR_e (L := L) (show 8 + (n + 1) = n + 9 by omega), mkR_e (L := L) (show 8 + (n + 2) = n + 10 by omega), mkR_e (L := L) (show 8 + (n + 3) = n + 11 by omega), show 8 + n = n + 8 by omega, show 8 + (n + 1) = n + 9 by omega, show 8 + (n + 2) = n + 10 by omega, show 8 + (n + 3) = n + 11 by omega, eI, eR]
  have go2 := go (am_rw (am_rw (am_rw (am_rw J (n + 8) (fun _ => 0)) (n + 9) (fun _ => 0)) (n + 10) (fun _ => 0)) (n + 11) (fun _ => 0)) rfl rfl rfl
  rw [vl_0, zr_0, ra_0, nI_0] at go2
  exact go2
/-- i Traces -/
def trI (I : Nat → Nat → Int32) (i : Nat) : Nat → Nat → Int32 := fun a => if 131 ≤ a ∧ a < 131 + 15 * i then (if 5 ≤ (a - 131) % 15 then vI ((a - 131) % 15 - 5) else fun _ => 0) else I a
def trR (R : Nat → Nat → Option Nat) (i : Nat) : Nat → Nat → Option Nat := fun a => if 131 ≤ a ∧ a < 131 + 15 * i then rTr a else R a
theorem trI_s : vl (zr (am_rw (trI I i) (131 + 15 * i) (fun _ => 0)) (132 + 15 * i) 4 0) (136 + 15 * i) 10 = trI I (i + 1) := by
  funext a
  unfold vl zr
  by_cases h1 : 136 + 15 * i ≤ a ∧ a < 136 + 15 * i + 10
  · rw [if_pos h1]
    have e : (a - 131) % 15 = a - (131 + 15 * i) := by omega
    unfold trI
    rw [if_pos (by omega), if_pos (by omega), e, show a - (136 + 15 * i) = a - (131 + 15 * i) - 5 by omega]
  rw [if_neg h1]
  by_cases h2 : 132 + 15 * i ≤ a ∧ a < 132 + 15 * i + 4
  · rw [if_pos h2]
    unfold trI
    rw [if_pos (by omega), if_neg (by omega)]
  rw [if_neg h2]
  by_cases h3 : a = 131 + 15 * i
  · rw [h3, rwS]
    unfold trI
    rw [if_pos (by omega), if_neg (by omega)]
  rw [rwA h3]
  unfold trI
  by_cases h4 : 131 ≤ a ∧ a < 131 + 15 * i
  · rw [if_pos h4, if_pos (show 131 ≤ a ∧ a < 131 + 15 * (i + 1) by omega)]
  · rw [if_neg h4, if_neg (show ¬ (131 ≤ a ∧ a < 131 + 15 * (i + 1)) by omega)]
theorem tR_r (h : (o - 131) % 15 = 0) : tR o = rTr o := by
  funext k
  unfold tR rTr
  rw [h]
  by_cases h5 : k = 5
  · subst h5; rw [vu_s]; rfl
  rw [vu_n h5]
  by_cases h4 : k = 4
  · subst h4; rw [vu_s]; rfl
  rw [vu_n h4]
  by_cases h3 : k = 3
  · subst h3; rw [vu_s]; rfl
  rw [vu_n h3]
  by_cases h2 : k = 2
  · subst h2; rw [vu_s]; rfl
  rw [vu_n h2]
  match k, h5, h4, h3, h2 with
  | 0, _, _, _, _ => rfl
  | 1, _, _, _, _ => rfl
  | k + 6, _, _, _, _ => rfl
theorem rTr_4 (h : (o - 131) % 15 = 4) : rTr o = fun k => if k < 10 then some (o + (k + 1)) else none := by
  funext k
  unfold rTr
  rw [h]
  rfl
theorem rTr_n (h0 : ¬ (o - 131) % 15 = 0) (h4 : ¬ (o - 131) % 15 = 4) : rTr o = fun _ => none := by
  funext k
  unfold rTr
  split
  · omega
  · omega
  · rfl
theorem trR_s : ra (zr (am_rw (zr (am_rw (trR R i) (131 + 15 * i) (fun _ => none)) (132 + 15 * i) 4 none) (131 + 15 * i) (tR (131 + 15 * i))) (136 + 15 * i) 10 none) (135 + 15 * i) (136 + 15 * i) 1 10 = trR R (i + 1) := by
  funext a
  by_cases h1 : a = 135 + 15 * i
  · subst h1
    rw [ra_p, zr_o (by omega), rwA (by omega), zr_i (by omega) (by omega)]
    unfold trR
    rw [if_pos (by omega), rTr_4 (by omega)]
    funext k
    by_cases g : k < 10
    · rw [if_pos g, if_pos g]; congr 1; omega
    · rw [if_neg g, if_neg g]
  rw [ra_o h1]
  unfold zr
  by_cases h2 : 136 + 15 * i ≤ a ∧ a < 136 + 15 * i + 10
  · rw [if_pos h2]
    unfold trR
    rw [if_pos (by omega), rTr_n (by omega) (by omega)]
  rw [if_neg h2]
  by_cases h3 : a = 131 + 15 * i
  · rw [h3, rwS]
    unfold trR
    rw [if_pos (by omega), tR_r (by omega)]
  rw [rwA h3]
  by_cases h4 : 132 + 15 * i ≤ a ∧ a < 132 + 15 * i + 4
  · rw [if_pos h4]
    unfold trR
    rw [if_pos (by omega), rTr_n (by omega) (by omega)]
  rw [if_neg h4, rwA h3]
  unfold trR
  by_cases h5 : 131 ≤ a ∧ a < 131 + 15 * i
  · rw [if_pos h5, if_pos (by omega)]
  · rw [if_neg h5, if_neg (by omega)]
theorem trI_0 : trI I 0 = I := by
  funext a
  unfold trI
  rw [if_neg (by omega)]
theorem trR_0 : trR R 0 = R := by
  funext a
  unfold trR
  rw [if_neg (by omega)]
theorem trR_o (h : o < 131) : trR R i o = R o := by
  unfold trR
  rw [if_neg (by omega)]
theorem ra_t {f : Nat → Nat → Option Nat} : trR (ra f 130 131 15 l) i = ra (trR f i) 130 131 15 l := by
  funext a
  by_cases h : a = 130
  · subst h
    rw [trR_o (by omega), ra_p, ra_p, trR_o (by omega)]
  · rw [ra_o h]
    unfold trR
    rw [ra_o h]
theorem l_ring (hr : R1 129 0 = some 130) (hk : ∀ J, k none (gP L 213) (trI I1 6) J (ra (trR R1 6) 130 131 15 6)) : ∀ m i c s J, i + m = 6 → c = 1 + 15 * i → s = 6 + 430 * i → aw (d + 4) mX2_init k 15 [some (.ref 129), some (.int (nI i))] [] (gP L (123 + 15 * i)) (trI I1 i) J (ra (trR R1 i) 130 131 15 i) c s := by
  intro m
  induction m with
  | zero =>
    intro i c s J hi hc hs
    have e : i = 6 := by omega
    subst e
    have c1 : c = 91 := hc
    have s1 : s ≤ 2586 := by omega
    rw [x_X2_init_15]
    simp (disch := omega) only [x_X2_init_0, x_X2_init_1, x_X2_init_4, x_X2_init_5, x_X2_init_7, x_X2_init_10, x_X2_init_13, x_X2_init_14, x_X2_init_16, x_X2_init_18, x_X2_init_21, x_X2_init_22, x_X2_init_25, x_X2_init_26, x_X2_init_29, x_X2_init_30, x_X2_init_33, x_X2_init_34, x_X2_init_37, x_X2_init_40, Bool.false_eq_true, am_cl_i, am_cl_r, am_cl_n, am_cl_l, am_cl_0, va_rf_s, va_rf_0, tl_s, tl_n, bi_0, bi_1, bi_z, true_and, and_true, false_and, and_false, true_implies, false_implies, implies_true, not_true_eq_false, not_false_eq_true, and_self, true_or, or_true, false_or, or_false, eq_self, Nat.reduceAdd, Nat.reduceMul, Nat.reduceSub, Nat.reduceDiv, Nat.reduceMod, Nat.reduceLeDiff, Nat.reduceEqDiff, Nat.reduceLT, ix0, ix1, in0, in1, ltr2, ltr3, ltr4, ltr5, ltr6, ltr7, ltr8, ltr9, ltr10, ltr11, ltr12, ltr13, ltr14, ltr15, ltr16, ltr17, ltr20, ltr22, ltr23, ltr24, ltr25, ltr31, ltr32, ltr40, ltr41, ltr42, ltr43, ltr45, ltr47, ltr48, ltr50, ltr52, ltr57, ltr59, ltr60, ltr61, ltr62, ltr64, ltr65, ltr72, ltr77, ltr90, ltr91, ltr97, ltr99, ltr100, ltr122, ltr144, ltr216, ltr236, ltr240, ltr255, ltr256, ltr257, ltr258, ltr259, ltr260, ltr261, ltr262, ltr271, ltr272, ltr273, ltr288, ltr336, ltr380, ltr400, ltr1000, ltr1600, ltr9999, ltr10000, ixN, inN, ltN, leN, eqN, lt0N, le0N, eq0N, eq1N, addN, add1N, mulN, divN, remN, modS, rdN, inCN, inR0, inR1, inRN, inVN, Nat.le_refl, c1, s1]
    exact hk J
  | succ m ih =>
    intro i c s J hi hc hs
    have i1 : ¬ 6 ≤ i := by omega
    have c1 : c + 1 ≤ 91 := by omega
    have c2 : c + 1 + 14 ≤ 91 := by omega
    have s1 : s + 6 ≤ 2586 := by omega
    have s2 : s + 6 + 424 ≤ 2586 := by omega
    obtain ⟨t0, t1, t2, t3, t4, t5⟩ := sh_t (L := L) (show i < 6 by omega)
    have o1 : okO (gP L (123 + 15 * i)) 2 129 := gP_ok (q := 0) rfl (by omega) (by omega)
    have g1 : mkG (gP L (123 + 15 * i)) 108 0 = gP L (124 + 15 * i) := by
      have := gP_mk (L := L) (n := 123 + 15 * i) (t := 108) (m := 0) (by rw [show 8 + (123 + 15 * i) = 131 + 15 * i by omega]; exact t0)
      rw [this]
      congr 1
      omega
    have r1 : ra (trR R1 i) 130 131 15 i 129 0 = some 130 := by rw [ra_o (by omega), trR_o (by omega)]; exact hr
    have g2 : (gP L (138 + 15 * i)).2 130 = (18, 6) := by rw [gP_2 (by omega)]; rfl
    have g3 : (gP L (138 + 15 * i)).2 (131 + 15 * i) = (108, 0) := by rw [gP_2 (by omega), t0]
    have b2 : 8 ≤ 131 + 15 * i := by omega
    have go := fun J => ih (i + 1) (c + 1 + 14) (s + 6 + 424) J (by omega) (by omega) (by omega)
    rw [x_X2_init_15]
    simp (disch := omega) only [x_X2_init_0, x_X2_init_1, x_X2_init_4, x_X2_init_5, x_X2_init_7, x_X2_init_10, x_X2_init_13, x_X2_init_14, x_X2_init_16, x_X2_init_18, x_X2_init_21, x_X2_init_22, x_X2_init_25, x_X2_init_26, x_X2_init_29, x_X2_init_30, x_X2_init_33, x_X2_init_34, x_X2_init_37, x_X2_init_40, Bool.false_eq_true, am_cl_i, am_cl_r, am_cl_n, am_cl_l, am_cl_0, va_rf_s, va_rf_0, tl_s, tl_n, bi_0, bi_1, bi_z, true_and, and_true, false_and, and_false, true_implies, false_implies, implies_true, not_true_eq_false, not_false_eq_true, and_self, true_or, or_true, false_or, or_false, eq_self, Nat.reduceAdd, Nat.reduceMul, Nat.reduceSub, Nat.reduceDiv, Nat.reduceMod, Nat.reduceLeDiff, Nat.reduceEqDiff, Nat.reduceLT, ix0, ix1, in0, in1, ltr2, ltr3, ltr4, ltr5, ltr6, ltr7, ltr8, ltr9, ltr10, ltr11, ltr12, ltr13, ltr14, ltr15, ltr16, ltr17, ltr20, ltr22, ltr23, ltr24, ltr25, ltr31, ltr32, ltr40, ltr41, ltr42, ltr43, ltr45, ltr47, ltr48, ltr50, ltr52, ltr57, ltr59, ltr60, ltr61, ltr62, ltr64, ltr65, ltr72, ltr77, ltr90, ltr91, ltr97, ltr99, ltr100, ltr122, ltr144, ltr216, ltr236, ltr240, ltr255, ltr256, ltr257, ltr258, ltr259, ltr260, ltr261, ltr262, ltr271, ltr272, ltr273, ltr288, ltr336, ltr380, ltr400, ltr1000, ltr1600, ltr9999, ltr10000, ixN, inN, ltN, leN, eqN, lt0N, le0N, eq0N, eq1N, addN, add1N, mulN, divN, remN, modS, rdN, inCN, inR0, inR1, inRN, inVN, Nat.add_zero, gP_1, i1, c1, c2, s1, s2, o1, g1, r1, mkR_e (L := L) (show 8 + (123 + 15 * i) = 131 + 15 * i by omega), show 8 + (123 + 15 * i) = 131 + 15 * i by omega]
    have e7 : 131 + 15 * i = 124 + 15 * i + 7 := by omega
    have e8 : 132 + 15 * i = 124 + 15 * i + 8 := by omega
    have e12 : 136 + 15 * i = 124 + 15 * i + 12 := by omega
    have e11 : 135 + 15 * i = 124 + 15 * i + 11 := by omega
    have e14 : 138 + 15 * i = 124 + 15 * i + 14 := by omega
    have fin : ∀ J, aw (d + 4) mX2_init k 33 [some (.ref 129), some (.int (nI i))] [.ref (131 + 15 * i), .int (nI i), .ref 130] (gP L (138 + 15 * i)) (trI I1 (i + 1)) J (ra (trR R1 (i + 1)) 130 131 15 i) (c + 1 + 14) (s + 6 + 424) := by
      intro J
      have := go J
      rw [show 123 + 15 * (i + 1) = 138 + 15 * i by omega] at this
      simp (disch := omega) only [x_X2_init_0, x_X2_init_1, x_X2_init_4, x_X2_init_5, x_X2_init_7, x_X2_init_10, x_X2_init_13, x_X2_init_14, x_X2_init_16, x_X2_init_18, x_X2_init_21, x_X2_init_22, x_X2_init_25, x_X2_init_26, x_X2_init_29, x_X2_init_30, x_X2_init_33, x_X2_init_34, x_X2_init_37, x_X2_init_40, Bool.false_eq_true, am_cl_i, am_cl_r, am_cl_n, am_cl_l, am_cl_0, va_rf_s, va_rf_0, tl_s, tl_n, bi_0, bi_1, bi_z, true_and, and_true, false_and, and_false, true_implies, false_implies, implies_true, not_true_eq_false, not_false_eq_true, and_self, true_or, or_true, false_or, or_false, eq_self, Nat.reduceAdd, Nat.reduceMul, Nat.reduceSub, Nat.reduceDiv, Nat.reduceMod, Nat.reduceLeDiff, Nat.reduceEqDiff, Nat.reduceLT, ix0, ix1, in0, in1, ltr2, ltr3, ltr4, ltr5, ltr6, ltr7, ltr8, ltr9, ltr10, ltr11, ltr12, ltr13, ltr14, ltr15, ltr16, ltr17, ltr20, ltr22, ltr23, ltr24, ltr25, ltr31, ltr32, ltr40, ltr41, ltr42, ltr43, ltr45, ltr47, ltr48, ltr50, ltr52, ltr57, ltr59, ltr60, ltr61, ltr62, ltr64, ltr65, ltr72, ltr77, ltr90, ltr91, ltr97, ltr99, ltr100, ltr122, ltr144, ltr216, ltr236, ltr240, ltr255, ltr256, ltr257, ltr258, ltr259, ltr260, ltr261, ltr262, ltr271, ltr272, ltr273, ltr288, ltr336, ltr380, ltr400, ltr1000, ltr1600, ltr9999, ltr10000, ixN, inN, ltN, leN, eqN, lt0N, le0N, eq0N, eq1N, addN, add1N, mulN, divN, remN, modS, rdN, inCN, inR0, inR1, inRN, inVN, g2, g3, b2, ra_s (show 131 + 15 * i = 131 + 15 * i from rfl)]
      exact this
    rw [e7]
    refine k_tInit (d := d) (by omega) (by rw [← e7]; exact t0) (by rw [← e8]; exact t1) (by rw [show 124 + 15 * i + 9 = 133 + 15 * i by omega]; exact t2) (by rw [show 124 + 15 * i + 10 = 134 + 15 * i by omega]; exact t3) (by rw [← e11]; exact t4) (fun v hv => by rw [← e12]; exact t5 v hv) rwS ?_
    intro J2
    rw [← e7, ← e8, ← e11, ← e12, ← e14, trI_s, ra_z (by omega)]
    have q := trR_s (R := ra R1 130 131 15 i) (i := i)
    rw [ra_t, ra_t, ra_z (by omega)] at q
    rw [q]
    exact fin J2
theorem k_pInit (hI : I 129 = fun _ => 0) (hR : R 129 = fun _ => none) (hk : ∀ I' J R', MKC I I' R R' 129 221 → k none (gP L 213) I' J R') : ac (d + 5) mX2_init [.ref 129] (gP L 122) I J R k := by
  have g1 : mkG (gP L 122) 18 6 = gP L 123 := gP_mk rfl
  have o1 : okO (gP L 123) 2 129 := gP_ok (q := 0) rfl (by omega) (by omega)
  have go := l_ring (d := d) (k := k) (L := L) (I1 := am_rw I 130 (fun _ => 0)) (R1 := am_up (am_rw R 130 (fun _ => none)) 129 0 (some 130)) upS (fun J => hk _ J _ ⟨fun a h => ?_, fun a h => ?_, fun a h1 h2 => ⟨?_, ?_⟩⟩) 6 0 1 6 (am_rw J 130 (fun _ => 0)) rfl rfl rfl
  · rw [trI_0, trR_0, ra_0, nI_0] at go
    rw [e_X2_init]
    simp (disch := omega) only [x_X2_init_0, x_X2_init_1, x_X2_init_4, x_X2_init_5, x_X2_init_7, x_X2_init_10, x_X2_init_13, x_X2_init_14, x_X2_init_16, x_X2_init_18, x_X2_init_21, x_X2_init_22, x_X2_init_25, x_X2_init_26, x_X2_init_29, x_X2_init_30, x_X2_init_33, x_X2_init_34, x_X2_init_37, x_X2_init_40, Bool.false_eq_true, am_cl_i, am_cl_r, am_cl_n, am_cl_l, am_cl_0, va_rf_s, va_rf_0, tl_s, tl_n, bi_0, bi_1, bi_z, true_and, and_true, false_and, and_false, true_implies, false_implies, implies_true, not_true_eq_false, not_false_eq_true, and_self, true_or, or_true, false_or, or_false, eq_self, Nat.reduceAdd, Nat.reduceMul, Nat.reduceSub, Nat.reduceDiv, Nat.reduceMod, Nat.reduceLeDiff, Nat.reduceEqDiff, Nat.reduceLT, ix0, ix1, in0, in1, ltr2, ltr3, ltr4, ltr5, ltr6, ltr7, ltr8, ltr9, ltr10, ltr11, ltr12, ltr13, ltr14, ltr15, ltr16, ltr17, ltr20, ltr22, ltr23, ltr24, ltr25, ltr31, ltr32, ltr40, ltr41, ltr42, ltr43, ltr45, ltr47, ltr48, ltr50, ltr52, ltr57, ltr59, ltr60, ltr61, ltr62, ltr64, ltr65, ltr72, ltr77, ltr90, ltr91, ltr97, ltr99, ltr100, ltr122, ltr144, ltr216, ltr236, ltr240, ltr255, ltr256, ltr257, ltr258, ltr259, ltr260, ltr261, ltr262, ltr271, ltr272, ltr273, ltr288, ltr336, ltr380, ltr400, ltr1000, ltr1600, ltr9999, ltr10000, ixN, inN, ltN, leN, eqN, lt0N, le0N, eq0N, eq1N, addN, add1N, mulN, divN, remN, modS, rdN, inCN, inR0, inR1, inRN, inVN, gP_1, g1, o1, mkR_e (L := L) (show 8 + 122 = 130 from rfl)]
    exact go
  · unfold trI
    rw [if_neg (by omega), rwA (by omega)]
  · rw [ra_o (by omega)]
    unfold trR
    rw [if_neg (by omega), upR (by omega), rwA (by omega)]
  · unfold trI iF
    by_cases e : 131 ≤ a
    · rw [if_pos (by omega)]
      by_cases e5 : 5 ≤ (a - 131) % 15
      · rw [if_pos e5, if_neg (by omega), if_neg (by omega), if_neg (by omega), if_neg (by omega), if_neg (by omega), if_pos (by omega)]
      · rw [if_neg e5, if_neg (by omega), if_neg (by omega), if_neg (by omega), if_neg (by omega), if_neg (by omega), if_neg (by omega), if_neg (by omega)]
    · rw [if_neg (by omega), if_neg (by omega), if_neg (by omega), if_neg (by omega), if_neg (by omega), if_neg (by omega), if_neg (by omega), if_neg (by omega)]
      by_cases e3 : a = 130
      · rw [e3, rwS]
      · have e2 : a = 129 := by omega
        rw [rwA e3, e2, hI]
  · by_cases e3 : a = 130
    · subst e3
      rw [ra_p, trR_o (by omega), upR (by omega), rwS]
      funext j
      show _ = (if j < 6 then some (131 + 15 * j) else none)
      rfl
    rw [ra_o e3]
    by_cases e : 131 ≤ a
    · unfold trR rF
      rw [if_pos (by omega)]
      funext j
      rw [if_neg (by omega), if_neg (by omega), if_neg (by omega), if_neg (by omega), if_neg (by omega), if_neg (by omega), if_neg (by omega), if_neg (by omega), if_neg (by omega), if_neg (by omega), if_pos (by omega)]
    · have e2 : a = 129 := by omega
      subst e2
      rw [trR_o (by omega), upW, rwA (by omega), hR]
      funext j
      show _ = (if j = 0 then some 130 else none)
      by_cases j0 : j = 0
      · rw [j0, vu_s, if_pos rfl]
      · rw [vu_n j0, if_neg j0]
end MAK2
