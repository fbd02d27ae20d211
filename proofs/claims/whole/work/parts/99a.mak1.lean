/-- the first n cells are made -/
def gP (L n : Nat) : am_G := (n, fun b => if b < 8 + n then shF L b else (999, 0))
def vI (v : Nat) : Nat → Int32 := va_up (va_up (fun _ => 0) 14 (-1)) 0 (nI v)
/-- i villages from b on -/
def vl (I : Nat → Nat → Int32) (b i : Nat) : Nat → Nat → Int32 := fun a => if b ≤ a ∧ a < b + i then vI (a - b) else I a
/-- m new rows from b on -/
def zr {α : Type} (f : Nat → Nat → α) (b m : Nat) (v : α) : Nat → Nat → α := fun a => if b ≤ a ∧ a < b + m then (fun _ => v) else f a
/-- i cells of q places each from b on, named in the array p -/
def ra (R : Nat → Nat → Option Nat) (p b q i : Nat) : Nat → Nat → Option Nat := fun a => if a = p then (fun k => if k < i then some (b + q * k) else R p k) else R a
def oR (o : Nat) : Nat → Option Nat := va_up (va_up (va_up (va_up (fun _ => none) 2 (some (o + 1))) 3 (some (o + 2))) 4 (some (o + 3))) 6 (some (o + 4))
section MAK1
variable {d : Nat} {k : am_k} {g : am_G} {I I' : Nat → Nat → Int32} {J : Nat → Nat → Int64} {R : Nat → Nat → Option Nat} {a x y : Int32} {L : Nat} {b c e p q n u t m l o s i j ci : Nat}
theorem gP_1 : (gP L n).1 = n := rfl
theorem gP_2 (h : b < 8 + n) : (gP L n).2 b = shF L b := if_pos h
theorem gP_mk (h : shF L (8 + n) = (t, m)) : mkG (gP L n) t m = gP L (n + 1) := by
  show (n + 1, va_up (gP L n).2 (8 + n) (t, m)) = (n + 1, fun b => if b < 8 + (n + 1) then shF L b else (999, 0))
  congr 1
  funext b
  by_cases e : b = 8 + n
  · subst e
    rw [vu_s, if_pos (by omega), h]
  · rw [vu_n e]
    show (if b < 8 + n then shF L b else (999, 0)) = _
    by_cases g : b < 8 + n
    · rw [if_pos g, if_pos (by omega)]
    · rw [if_neg g, if_neg (by omega)]
theorem gP_ok (h : shF L o = (100 + ci, q)) (h1 : o < 8 + n) (h8 : 8 ≤ o) : okO (gP L n) ci o := ⟨by rw [gP_2 h1, h], h8⟩
theorem sh_q : shF L (8 + q) = shT.getD q (999, 0) := by
  unfold shF
  rw [if_neg (by omega), Nat.add_sub_cancel_left]
theorem gP_0 : (0, am_sh0 L) = gP L 0 := by
  show (0, am_sh0 L) = (0, fun b => if b < 8 + 0 then shF L b else (999, 0))
  congr 1
  funext b
  by_cases e : b < 8
  · rw [if_pos (by omega)]; unfold shF; rw [if_pos e]
  · rw [if_neg (by omega)]
    match b, e with
    | b + 8, _ => rfl
theorem gP_F : gP L 272 = gF L := by
  show (272, fun b => if b < 8 + 272 then shF L b else (999, 0)) = (272, shF L)
  congr 1
  funext b
  by_cases e : b < 8 + 272
  · rw [if_pos e]
  · rw [if_neg e]
    obtain ⟨q, rfl⟩ : ∃ q, b = 8 + q := ⟨b - 8, by omega⟩
    have hl : shT.length = 272 := by decide +kernel
    rw [sh_q, List.getD_eq_getElem?_getD, List.getElem?_eq_none (by omega)]
    rfl
theorem mkR_e {α : Type} {f : Nat → Nat → α} {v : α} (h : 8 + n = q) : mkR f (gP L n) v = am_rw f q (fun _ => v) := by
  subst h
  rfl
theorem upW {α : Type} {f : Nat → Nat → α} {v : α} : am_up f q i v q = va_up (f q) i v := by unfold am_up; rw [rwS]
theorem zr_0 {α : Type} {f : Nat → Nat → α} {v : α} : zr f b 0 v = f := by
  funext a
  unfold zr
  rw [if_neg (by omega)]
theorem zr_s {α : Type} {f : Nat → Nat → α} {v : α} (h : q = b + m) : am_rw (zr f b m v) q (fun _ => v) = zr f b (m + 1) v := by
  subst h
  funext a
  by_cases e : a = b + m
  · subst e
    rw [rwS]
    unfold zr
    rw [if_pos (by omega)]
  · rw [rwA e]
    unfold zr
    by_cases g : b ≤ a ∧ a < b + m
    · rw [if_pos g, if_pos (by omega)]
    · rw [if_neg g, if_neg (by omega)]
theorem zr_a {α : Type} {f : Nat → Nat → α} {v : α} : zr (zr f b m v) (b + m) n v = zr f b (m + n) v := by
  funext a
  unfold zr
  by_cases g : b ≤ a ∧ a < b + m
  · rw [if_neg (by omega), if_pos g, if_pos (by omega)]
  · by_cases g2 : b + m ≤ a ∧ a < b + m + n
    · rw [if_pos g2, if_pos (by omega)]
    · rw [if_neg g2, if_neg g, if_neg (by omega)]
theorem zr_o {α : Type} {f : Nat → Nat → α} {v : α} (h : q < b) : zr f b m v q = f q := by
  unfold zr
  rw [if_neg (by omega)]
theorem zr_i {α : Type} {f : Nat → Nat → α} {v : α} (h : b ≤ q) (h2 : q < b + m) : zr f b m v q = fun _ => v := by
  unfold zr
  rw [if_pos (by omega)]
/-- a new row beside a written one -/
theorem rw_up {α : Type} {f : Nat → Nat → α} {v w : α} (h : o ≠ q) : am_rw (am_up f o i w) q (fun _ => v) = am_up (am_rw f q (fun _ => v)) o i w := by
  funext a
  by_cases e : a = o
  · subst e
    rw [rwA h, upW, upW, rwA h]
  · rw [upR e]
    by_cases e2 : a = q
    · subst e2; rw [rwS, rwS]
    · rw [rwA e2, rwA e2, upR e]
theorem vl_0 : vl I b 0 = I := by
  funext a
  unfold vl
  rw [if_neg (by omega)]
theorem vl_s : am_up (am_up (am_rw (vl I b i) (b + i) (fun _ => 0)) (b + i) 14 (-1)) (b + i) 0 (nI i) = vl I b (i + 1) := by
  funext a
  by_cases e : a = b + i
  · subst e
    rw [upW, upW, rwS]
    unfold vl
    rw [if_pos (by omega), Nat.add_sub_cancel_left]
    rfl
  · rw [upR e, upR e, rwA e]
    unfold vl
    by_cases g : b ≤ a ∧ a < b + i
    · rw [if_pos g, if_pos (by omega)]
    · rw [if_neg g, if_neg (by omega)]
theorem ra_0 : ra R p b q 0 = R := by
  funext a
  unfold ra
  by_cases e : a = p
  · rw [if_pos e]; funext k; rw [if_neg (by omega), e]
  · rw [if_neg e]
theorem ra_s (h : c = b + q * i) : am_up (ra R p b q i) p i (some c) = ra R p b q (i + 1) := by
  subst h
  funext a
  by_cases e : a = p
  · subst e
    rw [upW]
    unfold ra
    rw [if_pos rfl, if_pos rfl]
    funext k
    by_cases ek : k = i
    · subst ek; rw [vu_s, if_pos (by omega)]
    · rw [vu_n ek]
      by_cases g : k < i
      · rw [if_pos g, if_pos (by omega)]
      · rw [if_neg g, if_neg (by omega)]
  · rw [upR e]
    unfold ra
    rw [if_neg e, if_neg e]
theorem ra_o (h : e ≠ p) : ra R p b q i e = R e := by
  unfold ra
  rw [if_neg h]
theorem ra_p : ra R p b q i p = fun k => if k < i then some (b + q * k) else R p k := by
  unfold ra
  rw [if_pos rfl]
/-- the array's row and the new rows don't meet -/
theorem ra_z {f : Nat → Nat → Option Nat} (h : p ≠ c) : am_rw (ra f p b q i) c (fun _ => none) = ra (am_rw f c (fun _ => none)) p b q i := by
  funext a
  by_cases e : a = p
  · subst e
    rw [rwA h, ra_p, ra_p, rwA h]
  · rw [ra_o e]
    by_cases e2 : a = c
    · subst e2; rw [rwS, rwS]
    · rw [rwA e2, rwA e2, ra_o e]
theorem k_vInit (h : okO g 9 o) : ac (d + 2) mX9_init [.ref o, .int a] g I J R k = k none g (am_up (am_up I o 14 (-1)) o 0 a) J R := by
  rw [e_X9_init]
  simp (disch := omega) only [x_X9_init_0, x_X9_init_1, x_X9_init_4, x_X9_init_5, x_X9_init_6, x_X9_init_9, x_X9_init_10, x_X9_init_11, x_X9_init_14, Bool.false_eq_true, am_cl_i, am_cl_r, am_cl_n, am_cl_l, am_cl_0, va_rf_s, va_rf_0, tl_s, tl_n, bi_0, bi_1, bi_z, true_and, and_true, false_and, and_false, true_implies, false_implies, implies_true, not_true_eq_false, not_false_eq_true, and_self, true_or, or_true, false_or, or_false, eq_self, Nat.reduceAdd, Nat.reduceMul, Nat.reduceSub, Nat.reduceDiv, Nat.reduceMod, Nat.reduceLeDiff, Nat.reduceEqDiff, Nat.reduceLT, ix0, ix1, in0, in1, h, Nat.le_refl]
theorem k_rInit : ac (d + 2) mX6_init [.ref o] g I J R k = k none g I J R := by
  rw [e_X6_init]
  simp (disch := omega) only [x_X6_init_0, x_X6_init_1, x_X6_init_4, Bool.false_eq_true, am_cl_i, am_cl_r, am_cl_n, am_cl_l, am_cl_0, va_rf_s, va_rf_0, tl_s, tl_n, bi_0, bi_1, bi_z, true_and, and_true, false_and, and_false, true_implies, false_implies, implies_true, not_true_eq_false, not_false_eq_true, and_self, true_or, or_true, false_or, or_false, eq_self, Nat.reduceAdd, Nat.reduceMul, Nat.reduceSub, Nat.reduceDiv, Nat.reduceMod, Nat.reduceLeDiff, Nat.reduceEqDiff, Nat.reduceLT, ix0, ix1, in0, in1, Nat.le_refl]
/-- new orders -/
theorem k_oInit (h0 : shF L (n + 7) = (101, 0)) (h1 : shF L (n + 8) = (0, 16)) (h2 : shF L (n + 9) = (0, 16)) (h3 : shF L (n + 10) = (0, 400)) (h4 : shF L (n + 11) = (0, 32)) (hn : 1 ≤ n) (hr : R (n + 7) = fun _ => none) (hk : ∀ J, k none (gP L (n + 4)) (zr I (n + 8) 4 0) J (am_rw (zr R (n + 8) 4 none) (n + 7) (oR (n + 7)))) : ac (d + 2) mX1_init [.ref (n + 7)] (gP L n) I J R k := by
  have g1 : mkG (gP L n) 0 16 = gP L (n + 1) := gP_mk (by rw [show 8 + n = n + 8 by omega]; exact h1)
  have g2 : mkG (gP L (n + 1)) 0 16 = gP L (n + 2) := gP_mk (by rw [show 8 + (n + 1) = n + 9 by omega]; exact h2)
  have g3 : mkG (gP L (n + 2)) 0 400 = gP L (n + 3) := gP_mk (by rw [show 8 + (n + 2) = n + 10 by omega]; exact h3)
  have g4 : mkG (gP L (n + 3)) 0 32 = gP L (n + 4) := gP_mk (by rw [show 8 + (n + 3) = n + 11 by omega]; exact h4)
  have o1 : okO (gP L (n + 1)) 1 (n + 7) := gP_ok h0 (by omega) (by omega)
  have o2 : okO (gP L (n + 2)) 1 (n + 7) := gP_ok h0 (by omega) (by omega)
  have o3 : okO (gP L (n + 3)) 1 (n + 7) := gP_ok h0 (by omega) (by omega)
  have o4 : okO (gP L (n + 4)) 1 (n + 7) := gP_ok h0 (by omega) (by omega)
  have eI : am_rw (am_rw (am_rw (am_rw I (n + 8) (fun _ => 0)) (n + 9) (fun _ => 0)) (n + 10) (fun _ => 0)) (n + 11) (fun _ => 0) = zr I (n + 8) 4 0 := by
    rw [← zr_s (f := I) (b := n + 8) (m := 3) (q := n + 11) rfl, ← zr_s (f := I) (b := n + 8) (m := 2) (q := n + 10) rfl, ← zr_s (f := I) (b := n + 8) (m := 1) (q := n + 9) rfl, ← zr_s (f := I) (b := n + 8) (m := 0) (q := n + 8) rfl, zr_0]
  have eR : am_up (am_rw (am_up (am_rw (am_up (am_rw (am_up (am_rw R (n + 8) (fun _ => none)) (n + 7) 2 (some (n + 8))) (n + 9) (fun _ => none)) (n + 7) 3 (some (n + 9))) (n + 10) (fun _ => none)) (n + 7) 4 (some (n + 10))) (n + 11) (fun _ => none)) (n + 7) 6 (some (n + 11)) = am_rw (zr R (n + 8) 4 none) (n + 7) (oR (n + 7)) := by
    funext a
    by_cases e : a = n + 7
    · subst e
      rw [upW, rwA (by omega), upW, rwA (by omega), upW, rwA (by omega), upW, rwA (by omega), hr, rwS]
      rfl
    · rw [upR e, rwA e]
      have z : zr R (n + 8) 4 none = am_rw (am_rw (am_rw (am_rw R (n + 8) (fun _ => none)) (n + 9) (fun _ => none)) (n + 10) (fun _ => none)) (n + 11) (fun _ => none) := by
        rw [← zr_s (f := R) (b := n + 8) (m := 3) (q := n + 11) rfl, ← zr_s (f := R) (b := n + 8) (m := 2) (q := n + 10) rfl, ← zr_s (f := R) (b := n + 8) (m := 1) (q := n + 9) rfl, ← zr_s (f := R) (b := n + 8) (m := 0) (q := n + 8) rfl, zr_0]
      rw [z]
      by_cases e1 : a = n + 11
      · rw [e1, rwS, rwS]
      rw [rwA e1, rwA e1, upR e]
      by_cases e2 : a = n + 10
      · rw [e2, rwS, rwS]
      rw [rwA e2, rwA e2, upR e]
      by_cases e3 : a = n + 9
      · rw [e3, rwS, rwS]
      rw [rwA e3, rwA e3, upR e]
  rw [e_X1_init]
  simp (disch := omega) only [x_X1_init_0, x_X1_init_1, x_X1_init_4, x_X1_init_5, x_X1_init_7, x_X1_init_9, x_X1_init_12, x_X1_init_13, x_X1_init_15, x_X1_init_17, x_X1_init_20, x_X1_init_21, x_X1_init_24, x_X1_init_26, x_X1_init_29, x_X1_init_30, x_X1_init_32, x_X1_init_34, x_X1_init_37, Bool.false_eq_true, am_cl_i, am_cl_r, am_cl_n, am_cl_l, am_cl_0, va_rf_s, va_rf_0, tl_s, tl_n, bi_0, bi_1, bi_z, true_and, and_true, false_and, and_false, true_implies, false_implies, implies_true, not_true_eq_false, not_false_eq_true, and_self, true_or, or_true, false_or, or_false, eq_self, Nat.reduceAdd, Nat.reduceMul, Nat.reduceSub, Nat.reduceDiv, Nat.reduceMod, Nat.reduceLeDiff, Nat.reduceEqDiff, Nat.reduceLT, ix0, ix1, in0, in1, ltr2, ltr3, ltr4, ltr5, ltr6, ltr7, ltr8, ltr9, ltr10, ltr11, ltr12, ltr13, ltr14, ltr15, ltr16, ltr17, ltr20, ltr22, ltr23, ltr24, ltr25, ltr31, ltr32, ltr40, ltr41, ltr42, ltr43, ltr45, ltr47, ltr48, ltr50, ltr52, ltr57, ltr59, ltr60, ltr61, ltr62, ltr64, ltr65, ltr72, ltr77, ltr90, ltr91, ltr97, ltr99, ltr100, ltr122, ltr144, ltr216, ltr236, ltr240, ltr255, ltr256, ltr257, ltr258, ltr259, ltr260, ltr261, ltr262, ltr271, ltr272, ltr273, ltr288, ltr336, ltr380, ltr400, ltr1000, ltr1600, ltr9999, ltr10000, ixN, inN, ltN, leN, eqN, lt0N, le0N, eq0N, eq1N, addN, add1N, mulN, divN, remN, modS, rdN, inCN, inR0, inR1, inRN, inVN, gP_1, g1, g2, g3, g4, o1, o2, o3, o4, mkR_e (L := L) (show 8 + n = n + 8 by omega), mkR_e (L := L) (show 8 + (n + 1) = n + 9 by omega), mkR_e (L := L) (show 8 + (n + 2) = n + 10 by omega), mkR_e (L := L) (show 8 + (n + 3) = n + 11 by omega), show 8 + n = n + 8 by omega, show 8 + (n + 1) = n + 9 by omega, show 8 + (n + 2) = n + 10 by omega, show 8 + (n + 3) = n + 11 by omega, eI, eR]
  exact hk _
/-- a row filled, in any shape -/
theorem l_fillG (hs : g.2 o = (0, n)) (h8 : 8 ≤ o) (hn : n < 2147483648) : ∀ i, i ≤ n → aw d mJ7_fill_53178 k 5 [some (.ref o), some (.int a), some (.int (nI i)), some (.int (nI n))] [] g (am_rw I o (fil (I o) i (fun _ => a))) J R 0 0 = k none g (am_rw I o (fil (I o) n (fun _ => a))) J R := by
  refine up_to ?_ ?_
  · rw [x_J7_fill_53178_5]
    simp (disch := omega) only [x_J7_fill_53178_0, x_J7_fill_53178_1, x_J7_fill_53178_2, x_J7_fill_53178_3, x_J7_fill_53178_4, x_J7_fill_53178_6, x_J7_fill_53178_7, x_J7_fill_53178_10, x_J7_fill_53178_11, x_J7_fill_53178_12, x_J7_fill_53178_13, x_J7_fill_53178_14, x_J7_fill_53178_17, x_J7_fill_53178_20, Bool.false_eq_true, am_cl_i, am_cl_r, am_cl_n, am_cl_l, am_cl_0, va_rf_s, va_rf_0, tl_s, tl_n, bi_0, bi_1, bi_z, true_and, and_true, false_and, and_false, true_implies, false_implies, implies_true, not_true_eq_false, not_false_eq_true, and_self, true_or, or_true, false_or, or_false, eq_self, Nat.reduceAdd, Nat.reduceMul, Nat.reduceSub, Nat.reduceDiv, Nat.reduceMod, Nat.reduceLeDiff, Nat.reduceEqDiff, Nat.reduceLT, ix0, ix1, in0, in1, ixN, inN, ltN, leN, eqN, lt0N, le0N, eq0N, eq1N, addN, add1N, mulN, divN, remN, modS, rdN, inCN, inR0, inR1, inRN, inVN, Nat.le_refl]
  · intro i hi ih
    rw [x_J7_fill_53178_5]
    have h1 : ¬ n ≤ i := by omega
    simp (disch := omega) only [x_J7_fill_53178_0, x_J7_fill_53178_1, x_J7_fill_53178_2, x_J7_fill_53178_3, x_J7_fill_53178_4, x_J7_fill_53178_6, x_J7_fill_53178_7, x_J7_fill_53178_10, x_J7_fill_53178_11, x_J7_fill_53178_12, x_J7_fill_53178_13, x_J7_fill_53178_14, x_J7_fill_53178_17, x_J7_fill_53178_20, Bool.false_eq_true, am_cl_i, am_cl_r, am_cl_n, am_cl_l, am_cl_0, va_rf_s, va_rf_0, tl_s, tl_n, bi_0, bi_1, bi_z, true_and, and_true, false_and, and_false, true_implies, false_implies, implies_true, not_true_eq_false, not_false_eq_true, and_self, true_or, or_true, false_or, or_false, eq_self, Nat.reduceAdd, Nat.reduceMul, Nat.reduceSub, Nat.reduceDiv, Nat.reduceMod, Nat.reduceLeDiff, Nat.reduceEqDiff, Nat.reduceLT, ix0, ix1, in0, in1, ixN, inN, ltN, leN, eqN, lt0N, le0N, eq0N, eq1N, addN, add1N, mulN, divN, remN, modS, rdN, inCN, inR0, inR1, inRN, inVN, hs, h8, h1]
    rw [← ih, ← fil_s I o i (fun _ => a)]
theorem k_fill (hs : g.2 o = (0, n)) (h8 : 8 ≤ o) (hn : n < 2147483648) : ac (d + 1) mJ7_fill_53178 [.ref o, .int a] g I J R k = k none g (fl I o n a) J R := by
  rw [e_J7_fill_53178]
  have hl := l_fillG (d := d) (k := k) (I := I) (J := J) (R := R) (a := a) hs h8 hn 0 (by omega)
  rw [fil_0, nI_0] at hl
  simp (disch := omega) only [x_J7_fill_53178_0, x_J7_fill_53178_1, x_J7_fill_53178_2, x_J7_fill_53178_3, x_J7_fill_53178_4, x_J7_fill_53178_6, x_J7_fill_53178_7, x_J7_fill_53178_10, x_J7_fill_53178_11, x_J7_fill_53178_12, x_J7_fill_53178_13, x_J7_fill_53178_14, x_J7_fill_53178_17, x_J7_fill_53178_20, Bool.false_eq_true, am_cl_i, am_cl_r, am_cl_n, am_cl_l, am_cl_0, va_rf_s, va_rf_0, tl_s, tl_n, bi_0, bi_1, bi_z, true_and, and_true, false_and, and_false, true_implies, false_implies, implies_true, not_true_eq_false, not_false_eq_true, and_self, true_or, or_true, false_or, or_false, eq_self, Nat.reduceAdd, Nat.reduceMul, Nat.reduceSub, Nat.reduceDiv, Nat.reduceMod, Nat.reduceLeDiff, Nat.reduceEqDiff, Nat.reduceLT, ix0, ix1, in0, in1, ixN, inN, ltN, leN, eqN, lt0N, le0N, eq0N, eq1N, addN, add1N, mulN, divN, remN, modS, rdN, inCN, inR0, inR1, inRN, inVN, hs, ofnN, hl]
  rfl
theorem k_clear (h : okO g 1 o) : ac (d + 1) mX1_clear [.ref o] g I J R k = k none g (clr o I) J R := by
  rw [e_X1_clear]
  simp (disch := omega) only [x_X1_clear_0, x_X1_clear_1, x_X1_clear_2, x_X1_clear_5, x_X1_clear_6, x_X1_clear_7, x_X1_clear_10, x_X1_clear_11, x_X1_clear_12, x_X1_clear_15, Bool.false_eq_true, am_cl_i, am_cl_r, am_cl_n, am_cl_l, am_cl_0, va_rf_s, va_rf_0, tl_s, tl_n, bi_0, bi_1, bi_z, true_and, and_true, false_and, and_false, true_implies, false_implies, implies_true, not_true_eq_false, not_false_eq_true, and_self, true_or, or_true, false_or, or_false, eq_self, Nat.reduceAdd, Nat.reduceMul, Nat.reduceSub, Nat.reduceDiv, Nat.reduceMod, Nat.reduceLeDiff, Nat.reduceEqDiff, Nat.reduceLT, ix0, ix1, in0, in1, ltr2, ltr3, ltr4, ltr5, ltr6, ltr7, ltr8, ltr9, ltr10, ltr11, ltr12, ltr13, ltr14, ltr15, ltr16, ltr17, ltr20, ltr22, ltr23, ltr24, ltr25, ltr31, ltr32, ltr40, ltr41, ltr42, ltr43, ltr45, ltr47, ltr48, ltr50, ltr52, ltr57, ltr59, ltr60, ltr61, ltr62, ltr64, ltr65, ltr72, ltr77, ltr90, ltr91, ltr97, ltr99, ltr100, ltr122, ltr144, ltr216, ltr236, ltr240, ltr255, ltr256, ltr257, ltr258, ltr259, ltr260, ltr261, ltr262, ltr271, ltr272, ltr273, ltr288, ltr336, ltr380, ltr400, ltr1000, ltr1600, ltr9999, ltr10000, ixN, inN, ltN, leN, eqN, lt0N, le0N, eq0N, eq1N, addN, add1N, mulN, divN, remN, modS, rdN, inCN, inR0, inR1, inRN, inVN, h]
  rfl
/-- orders that are clear already -/
theorem clr_z (h : I o = fun _ => 0) : clr o I = I := by
  unfold clr
  funext a
  by_cases e : a = o
  · subst e
    rw [upW, upW, upW, h]
    funext j
    by_cases e5 : j = 5
    · subst e5; rw [vu_s]
    rw [vu_n e5]
    by_cases e1 : j = 1
    · subst e1; rw [vu_s]
    rw [vu_n e1]
    by_cases e0 : j = 0
    · subst e0; rw [vu_s]
    rw [vu_n e0]
  · rw [upR e, upR e, upR e]
end MAK1
