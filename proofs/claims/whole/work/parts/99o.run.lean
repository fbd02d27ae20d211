section RUN
variable {L : Nat} {xs : Nat → Int32}
/-- the law's whole run -/
theorem law_W (hL : L ≤ 3072) : am_W 100 mL_law am_KL (0, [some (.ref 0), none, none, none], [], am_m0 L xs, 0, 0) := by
  show aw 100 mL_law (fun v _ _ _ _ => v = some (.int 1)) 0 [some (.ref 0), none, none, none] [] (0, am_sh0 L) (fun a j => if a = 0 then xs j else 0) (fun _ _ => 0) (fun _ _ => none) 0 0
  rw [gP_0]
  have g1 : mkG (gP L 0) 111 0 = gP L 1 := gP_mk rfl
  have g2 : mkG (gP L 241) 112 0 = gP L 242 := gP_mk rfl
  simp (disch := omega) only [x_L_law_0, x_L_law_3, x_L_law_4, Bool.false_eq_true, am_cl_i, am_cl_r, am_cl_n, am_cl_l, am_cl_0, va_rf_s, va_rf_0, tl_s, tl_n, bi_0, bi_1, bi_z, true_and, and_true, false_and, and_false, true_implies, false_implies, implies_true, not_true_eq_false, not_false_eq_true, and_self, true_or, or_true, false_or, or_false, eq_self, Nat.reduceAdd, Nat.reduceMul, Nat.reduceSub, Nat.reduceDiv, Nat.reduceMod, Nat.reduceLeDiff, Nat.reduceEqDiff, Nat.reduceLT, ix0, ix1, in0, in1, gP_1, g1, Nat.le_refl, mkR_e (L := L) (show 8 + 0 = 8 from rfl)]
  refine k_xInit (d := 93) rwS rwS ?_
  intro I1 J1 R1 S
  simp (disch := omega) only [x_L_law_7, x_L_law_8, x_L_law_11, x_L_law_12, Bool.false_eq_true, am_cl_i, am_cl_r, am_cl_n, am_cl_l, am_cl_0, va_rf_s, va_rf_0, tl_s, tl_n, bi_0, bi_1, bi_z, true_and, and_true, false_and, and_false, true_implies, false_implies, implies_true, not_true_eq_false, not_false_eq_true, and_self, true_or, or_true, false_or, or_false, eq_self, Nat.reduceAdd, Nat.reduceMul, Nat.reduceSub, Nat.reduceDiv, Nat.reduceMod, Nat.reduceLeDiff, Nat.reduceEqDiff, Nat.reduceLT, ix0, ix1, in0, in1, gP_1, g2, Nat.le_refl, mkR_e (L := L) (show 8 + 241 = 249 from rfl)]
  refine k_mInit (d := 98) rwS rwS ?_
  intro J2
  obtain ⟨e1, e2, _⟩ := mk_end rfl S
  rw [e1, gP_F]
  have go := l_law (d := 40) (k := fun v _ _ _ _ => v = some (.int 1)) (L := L) hL (fun _ _ _ _ => rfl) 512 0 _ J2 w0 (by omega) (by omega) e2
  rw [nI_0] at go
  simp (disch := omega) only [x_L_law_15, x_L_law_16, x_L_law_17, Bool.false_eq_true, am_cl_i, am_cl_r, am_cl_n, am_cl_l, am_cl_0, va_rf_s, va_rf_0, tl_s, tl_n, bi_0, bi_1, bi_z, true_and, and_true, false_and, and_false, true_implies, false_implies, implies_true, not_true_eq_false, not_false_eq_true, and_self, true_or, or_true, false_or, or_false, eq_self, Nat.reduceAdd, Nat.reduceMul, Nat.reduceSub, Nat.reduceDiv, Nat.reduceMod, Nat.reduceLeDiff, Nat.reduceEqDiff, Nat.reduceLT, ix0, ix1, in0, in1]
  exact go
end RUN
theorem whole_start {p : Program} {e : Env} {s : State} {m : MethodId} {below : List Frame} {meth : Method} {c : Code} (l : Launch) {b L : Nat} {xs : Nat → Int32} (hL : L ≤ 3072) (C0 : lw_At p s m meth c b L xs) : W p l e room_1 s m #[Value.ref b] below meth c s.heap [] 0 0 (lw_Z below #[Value.ref b] s) (entryFrame m ([Value.ref b] : List Value).toArray 4) := am_law l C0 (law_W hL)
