section MAK4
variable {d : Nat} {k : am_k} {g : am_G} {I I' I1 I0 : Nat → Nat → Int32} {J : Nat → Nat → Int64} {R R' R1 R0 : Nat → Nat → Option Nat} {r : Nat → Option Nat} {a x y : Int32} {L : Nat} {b c e p q n n' u t m l o s i j ci : Nat}
theorem rf_n (h1 : 9 < q) (h2 : q < 129) (h3 : q ≠ 69 ∧ q ≠ 15 ∧ q ≠ 75 ∧ q ≠ 16 ∧ q ≠ 76 ∧ q ≠ 18 ∧ q ≠ 78) (h4 : ¬ (49 ≤ q ∧ q < 69 ∧ (q - 49) % 5 = 0)) (h5 : ¬ (109 ≤ q ∧ (q - 109) % 5 = 0)) : rF w0 q = fun _ => none := by
  funext j
  unfold rF
  rw [if_neg (by omega), if_neg (by omega), if_neg (by omega), if_neg (by omega), if_neg (by omega), if_neg (by omega), if_neg (by omega), if_neg (by omega), if_neg (by omega), if_neg (by omega), if_neg (by omega), if_neg (by omega), if_neg (by omega), if_neg (by omega), if_neg (by omega), if_neg (by omega), if_neg (by omega)]
theorem rf_o (h : (49 ≤ q ∧ q < 69 ∧ (q - 49) % 5 = 0) ∨ (109 ≤ q ∧ q < 129 ∧ (q - 109) % 5 = 0)) : rF w0 q = rOr q := by
  funext j
  unfold rF
  rw [if_neg (by omega), if_neg (by omega), if_neg (by omega), if_neg (by omega), if_neg (by omega), if_neg (by omega), if_neg (by omega), if_pos (by omega)]
theorem oR_r : oR o = rOr o := by
  funext j
  unfold oR
  by_cases h6 : j = 6
  · subst h6; rw [vu_s]; rfl
  rw [vu_n h6]
  by_cases h4 : j = 4
  · subst h4; rw [vu_s]; rfl
  rw [vu_n h4]
  by_cases h3 : j = 3
  · subst h3; rw [vu_s]; rfl
  rw [vu_n h3]
  by_cases h2 : j = 2
  · subst h2; rw [vu_s]; rfl
  rw [vu_n h2]
  unfold rOr
  split
  · omega
  · omega
  · omega
  · omega
  · rfl
theorem vl_o (h : q < b) : vl I b i q = I q := by
  unfold vl
  rw [if_neg (by omega)]
theorem vl_i (h1 : b ≤ q) (h2 : q < b + i) : vl I b i q = vI (q - b) := by
  unfold vl
  rw [if_pos ⟨h1, h2⟩]
theorem fl_sP {X : Nat → Nat → Int32} : fl X q m x q = fil (X q) m (fun _ => x) := rwS
theorem fil_zP : fil (fun _ => 0) m (fun _ => 0) = fun _ => 0 := by
  funext j
  unfold fil
  split <;> rfl
theorem pl_I (hn : n = 2 ∨ n = 62) (hI : I (n + 7) = fun _ => 0) (h1 : n + 7 ≤ q) (h2 : q < n + 67) : plP n (zr (zr (vl (zr I (n + 8) 9 0) (n + 17) 10) (n + 27) 20 0) (n + 47) 20 0) q = iF q := by
  have z : ∀ q, n + 8 ≤ q → q < n + 17 → (zr (zr (vl (zr I (n + 8) 9 0) (n + 17) 10) (n + 27) 20 0) (n + 47) 20 0) q = fun _ => 0 := fun q a b => by
    rw [zr_o (by omega), zr_o (by omega), vl_o (by omega), zr_i (by omega) (by omega)]
  have z7 : (zr (zr (vl (zr I (n + 8) 9 0) (n + 17) 10) (n + 27) 20 0) (n + 47) 20 0) (n + 7) = fun _ => 0 := by
    rw [zr_o (by omega), zr_o (by omega), vl_o (by omega), zr_o (by omega), hI]
  have y : ∀ q, (¬ q = n + 7 ∧ ¬ q = n + 8 ∧ ¬ q = n + 9 ∧ ¬ q = n + 10 ∧ ¬ q = n + 11 ∧ ¬ q = n + 12 ∧ ¬ q = n + 15) → plP n (zr (zr (vl (zr I (n + 8) 9 0) (n + 17) 10) (n + 27) 20 0) (n + 47) 20 0) q = (zr (zr (vl (zr I (n + 8) 9 0) (n + 17) 10) (n + 27) 20 0) (n + 47) 20 0) q := fun q h => by
    unfold plP
    rw [fl_o (by omega), fl_o (by omega), fl_o (by omega), fl_o (by omega), fl_o (by omega), fl_o (by omega), upR (by omega), upR (by omega), upR (by omega), upR (by omega), upR (by omega), upR (by omega)]
  have f0 : ∀ q, (q = n + 9 ∨ q = n + 10 ∨ q = n + 12 ∨ (n + 13 ≤ q ∧ q < n + 17) ∨ (n + 27 ≤ q ∧ q < n + 67)) → iF q = fun _ => 0 := fun q h => by
    unfold iF
    rw [if_neg (by omega), if_neg (by omega), if_neg (by omega), if_neg (by omega), if_neg (by omega), if_neg (by omega), if_neg (by omega)]
  by_cases e : q = n + 7
  · subst e
    have ei : iF (n + 7) = fun j => if j = 0 ∨ j = 1 then nI 8 else if j = 4 then nI 24 else 0 := by
      rcases hn with rfl | rfl <;> rfl
    rw [ei]
    unfold plP
    rw [fl_o (by omega), fl_o (by omega), fl_o (by omega), fl_o (by omega), fl_o (by omega), fl_o (by omega), upW, upW, upW, upW, upW, upW, z7]
    funext j
    by_cases e6 : j = 6
    · subst e6; rw [vu_s, if_neg (by omega), if_neg (by omega)]
    rw [vu_n e6]
    by_cases e5 : j = 5
    · subst e5; rw [vu_s, if_neg (by omega), if_neg (by omega)]
    rw [vu_n e5]
    by_cases e4 : j = 4
    · subst e4; rw [vu_s, if_neg (by omega), if_pos (by omega)]
    rw [vu_n e4]
    by_cases e2 : j = 2
    · subst e2; rw [vu_s, if_neg (by omega), if_neg (by omega)]
    rw [vu_n e2]
    by_cases e1 : j = 1
    · subst e1; rw [vu_s, if_pos (by omega)]
    rw [vu_n e1]
    by_cases e0 : j = 0
    · subst e0; rw [vu_s, if_pos (by omega)]
    rw [vu_n e0, if_neg (by omega), if_neg (by omega)]
  by_cases e : q = n + 8
  · subst e
    unfold plP
    rw [fl_o (by omega), fl_o (by omega), fl_o (by omega), fl_o (by omega), fl_o (by omega), fl_sP, upR (by omega), upR (by omega), upR (by omega), upR (by omega), upR (by omega), upR (by omega), z (n + 8) (by omega) (by omega)]
    rcases hn with rfl | rfl <;> rfl
  by_cases e : q = n + 9
  · subst e
    unfold plP
    rw [fl_o (by omega), fl_o (by omega), fl_o (by omega), fl_o (by omega), fl_sP, fl_o (by omega), upR (by omega), upR (by omega), upR (by omega), upR (by omega), upR (by omega), upR (by omega), z (n + 9) (by omega) (by omega)]
    rw [fil_zP, f0 (n + 9) (by omega)]
  by_cases e : q = n + 10
  · subst e
    unfold plP
    rw [fl_o (by omega), fl_o (by omega), fl_o (by omega), fl_sP, fl_o (by omega), fl_o (by omega), upR (by omega), upR (by omega), upR (by omega), upR (by omega), upR (by omega), upR (by omega), z (n + 10) (by omega) (by omega)]
    rw [fil_zP, f0 (n + 10) (by omega)]
  by_cases e : q = n + 11
  · subst e
    unfold plP
    rw [fl_o (by omega), fl_o (by omega), fl_sP, fl_o (by omega), fl_o (by omega), fl_o (by omega), upR (by omega), upR (by omega), upR (by omega), upR (by omega), upR (by omega), upR (by omega), z (n + 11) (by omega) (by omega)]
    rcases hn with rfl | rfl <;> rfl
  by_cases e : q = n + 12
  · subst e
    unfold plP
    rw [fl_o (by omega), fl_sP, fl_o (by omega), fl_o (by omega), fl_o (by omega), fl_o (by omega), upR (by omega), upR (by omega), upR (by omega), upR (by omega), upR (by omega), upR (by omega), z (n + 12) (by omega) (by omega)]
    rw [fil_zP, f0 (n + 12) (by omega)]
  by_cases e : q = n + 15
  · subst e
    unfold plP
    rw [fl_sP, fl_o (by omega), fl_o (by omega), fl_o (by omega), fl_o (by omega), fl_o (by omega), upR (by omega), upR (by omega), upR (by omega), upR (by omega), upR (by omega), upR (by omega), z (n + 15) (by omega) (by omega)]
    rw [fil_zP, f0 (n + 15) (by omega)]
  rw [y q (by omega)]
  by_cases e : q < n + 17
  · rw [z q (by omega) e, f0 q (by omega)]
  by_cases e : q < n + 27
  · rw [zr_o (by omega), zr_o (by omega), vl_i (by omega) (by omega)]
    unfold iF
    rcases hn with rfl | rfl
    · rw [if_neg (by omega), if_neg (by omega), if_neg (by omega), if_pos (by omega)]
    · rw [if_neg (by omega), if_neg (by omega), if_neg (by omega), if_neg (by omega), if_pos (by omega)]
  rw [f0 q (by omega)]
  by_cases e : q < n + 47
  · rw [zr_o (by omega), zr_i (by omega) (by omega)]
  · rw [zr_i (by omega) (by omega)]
theorem pl_R (hn : n = 2 ∨ n = 62) (h1 : n + 7 ≤ q) (h2 : q < n + 67) : (ra (ro (ra (zr (ra (zr (am_rw (zr R (n + 8) 9 none) (n + 7) (rPl (n + 7))) (n + 17) 10 none) (n + 13) (n + 17) 1 10) (n + 27) 20 none) (n + 14) (n + 27) 1 20) (n + 47) 4) (n + 16) (n + 47) 5 4) q = rF w0 q := by
  by_cases e : q = n + 16
  · subst e
    rw [ra_p, ro_o (by omega), ra_o (by omega), zr_o (by omega), ra_o (by omega), zr_o (by omega), rwA (by omega), zr_i (by omega) (by omega)]
    funext j
    rcases hn with rfl | rfl
    · show _ = (if j < 4 then w0 j else none)
      by_cases g : j < 4
      · rw [if_pos g, if_pos g]
        unfold w0
        rw [if_pos g]
      · rw [if_neg g, if_neg g]
    · rfl
  rw [ra_o e]
  by_cases g : n + 47 ≤ q
  · unfold ro
    rw [if_pos (by omega)]
    by_cases g5 : (q - (n + 47)) % 5 = 0
    · rw [if_pos g5, rf_o (by omega), oR_r]
    · rw [if_neg g5, rf_n (by omega) (by omega) (by omega) (by omega) (by omega)]
  rw [ro_o (by omega)]
  by_cases e : q = n + 14
  · subst e
    rw [ra_p, zr_o (by omega), ra_o (by omega), zr_o (by omega), rwA (by omega), zr_i (by omega) (by omega)]
    funext j
    rcases hn with rfl | rfl
    · show _ = (if j < 20 then some (16 + (j + 13)) else none)
      by_cases g : j < 20
      · rw [if_pos g, if_pos g]
        exact congrArg some (by omega)
      · rw [if_neg g, if_neg g]
    · show _ = (if j < 20 then some (76 + (j + 13)) else none)
      by_cases g : j < 20
      · rw [if_pos g, if_pos g]
        exact congrArg some (by omega)
      · rw [if_neg g, if_neg g]
  rw [ra_o e]
  by_cases g : n + 27 ≤ q
  · rw [zr_i (by omega) (by omega), rf_n (by omega) (by omega) (by omega) (by omega) (by omega)]
  rw [zr_o (by omega)]
  by_cases e : q = n + 13
  · subst e
    rw [ra_p, zr_o (by omega), rwA (by omega), zr_i (by omega) (by omega)]
    funext j
    rcases hn with rfl | rfl
    · show _ = (if j < 10 then some (15 + (j + 4)) else none)
      by_cases g : j < 10
      · rw [if_pos g, if_pos g]
        exact congrArg some (by omega)
      · rw [if_neg g, if_neg g]
    · show _ = (if j < 10 then some (75 + (j + 4)) else none)
      by_cases g : j < 10
      · rw [if_pos g, if_pos g]
        exact congrArg some (by omega)
      · rw [if_neg g, if_neg g]
  rw [ra_o e]
  by_cases g : n + 17 ≤ q
  · rw [zr_i (by omega) (by omega), rf_n (by omega) (by omega) (by omega) (by omega) (by omega)]
  rw [zr_o (by omega)]
  by_cases e : q = n + 7
  · subst e
    rw [rwS]
    rcases hn with rfl | rfl <;> rfl
  rw [rwA e, zr_i (by omega) (by omega), rf_n (by omega) (by omega) (by omega) (by omega) (by omega)]
theorem pl_mkc (hn : n = 2 ∨ n = 62) (hI : I (n + 7) = fun _ => 0) : MKC I (plP n (zr (zr (vl (zr I (n + 8) 9 0) (n + 17) 10) (n + 27) 20 0) (n + 47) 20 0)) R (ra (ro (ra (zr (ra (zr (am_rw (zr R (n + 8) 9 none) (n + 7) (rPl (n + 7))) (n + 17) 10 none) (n + 13) (n + 17) 1 10) (n + 27) 20 none) (n + 14) (n + 27) 1 20) (n + 47) 4) (n + 16) (n + 47) 5 4) (n + 7) (n + 67) := by
  refine ⟨fun q h => ?_, fun q h => ?_, fun q h1 h2 => ⟨pl_I hn hI h1 h2, pl_R hn h1 h2⟩⟩
  · unfold plP
    rw [fl_o (by omega), fl_o (by omega), fl_o (by omega), fl_o (by omega), fl_o (by omega), fl_o (by omega), upR (by omega), upR (by omega), upR (by omega), upR (by omega), upR (by omega), upR (by omega)]
    unfold zr vl
    rw [if_neg (by omega), if_neg (by omega), if_neg (by omega)]
    exact if_neg (show ¬ (n + 8 ≤ q ∧ q < n + 8 + 9) by omega)
  · rw [ra_o (by omega)]
    unfold ro
    rw [if_neg (by omega), ra_o (by omega)]
    unfold zr
    rw [if_neg (by omega), ra_o (by omega), if_neg (by omega), rwA (by omega), if_neg (by omega)]
theorem zr9 {α : Type} {f : Nat → Nat → α} {v : α} : am_rw (am_rw (am_rw (am_rw (am_rw (am_rw (am_rw (am_rw (am_rw f (n + 8) (fun _ => v)) (n + 9) (fun _ => v)) (n + 10) (fun _ => v)) (n + 11) (fun _ => v)) (n + 12) (fun _ => v)) (n + 13) (fun _ => v)) (n + 14) (fun _ => v)) (n + 15) (fun _ => v)) (n + 16) (fun _ => v) = zr f (n + 8) 9 v := by
  rw [← zr_s (f := f) (b := n + 8) (m := 8) (q := n + 16) rfl, ← zr_s (f := f) (b := n + 8) (m := 7) (q := n + 15) rfl, ← zr_s (f := f) (b := n + 8) (m := 6) (q := n + 14) rfl, ← zr_s (f := f) (b := n + 8) (m := 5) (q := n + 13) rfl, ← zr_s (f := f) (b := n + 8) (m := 4) (q := n + 12) rfl, ← zr_s (f := f) (b := n + 8) (m := 3) (q := n + 11) rfl, ← zr_s (f := f) (b := n + 8) (m := 2) (q := n + 10) rfl, ← zr_s (f := f) (b := n + 8) (m := 1) (q := n + 9) rfl, ← zr_s (f := f) (b := n + 8) (m := 0) (q := n + 8) rfl, zr_0]
theorem up9 (hr : R (n + 7) = fun _ => none) : (am_up (am_up (am_up (am_up (am_up (am_up (am_up (am_up (am_up (zr R (n + 8) 9 none) (n + 7) 7 (some (n + 8))) (n + 7) 8 (some (n + 9))) (n + 7) 9 (some (n + 10))) (n + 7) 10 (some (n + 11))) (n + 7) 11 (some (n + 12))) (n + 7) 12 (some (n + 13))) (n + 7) 13 (some (n + 14))) (n + 7) 14 (some (n + 15))) (n + 7) 15 (some (n + 16))) = am_rw (zr R (n + 8) 9 none) (n + 7) (rPl (n + 7)) := by
  funext q
  by_cases e : q = n + 7
  · subst e
    rw [upW, upW, upW, upW, upW, upW, upW, upW, upW, zr_o (by omega), hr, rwS]
    funext j
    by_cases e15 : j = 15
    · subst e15; rw [vu_s]; rfl
    rw [vu_n e15]
    by_cases e14 : j = 14
    · subst e14; rw [vu_s]; rfl
    rw [vu_n e14]
    by_cases e13 : j = 13
    · subst e13; rw [vu_s]; rfl
    rw [vu_n e13]
    by_cases e12 : j = 12
    · subst e12; rw [vu_s]; rfl
    rw [vu_n e12]
    by_cases e11 : j = 11
    · subst e11; rw [vu_s]; rfl
    rw [vu_n e11]
    by_cases e10 : j = 10
    · subst e10; rw [vu_s]; rfl
    rw [vu_n e10]
    by_cases e9 : j = 9
    · subst e9; rw [vu_s]; rfl
    rw [vu_n e9]
    by_cases e8 : j = 8
    · subst e8; rw [vu_s]; rfl
    rw [vu_n e8]
    by_cases e7 : j = 7
    · subst e7; rw [vu_s]; rfl
    rw [vu_n e7]
    unfold rPl
    by_cases g : j < 7
    · rw [if_pos g]
    · rw [if_neg g, if_neg (by omega)]
  · rw [upR e, upR e, upR e, upR e, upR e, upR e, upR e, upR e, upR e, rwA e]
theorem k_plInit (hn : n = 2 ∨ n = 62) (hI : I (n + 7) = fun _ => 0) (hR : R (n + 7) = fun _ => none) (hk : ∀ I' J R', MKC I I' R R' (n + 7) (n + 67) → k none (gP L (n + 59)) I' J R') : ac (d + 4) mX3_init [.ref (n + 7)] (gP L n) I J R k := by
  obtain ⟨h0, h1, h2, h3, h4, h5, h6, h7, h8, h9, hv, hp, ho⟩ := sh_p (L := L) hn
  have g0 : mkG (gP L n) 0 144 = gP L (n + 1) := gP_mk (by rw [show 8 + n = n + 8 by omega]; exact h1)
  have o0 : okO (gP L (n + 1)) 3 (n + 7) := gP_ok h0 (by omega) (by omega)
  have g1 : mkG (gP L (n + 1)) 0 144 = gP L (n + 2) := gP_mk (by rw [show 8 + (n + 1) = n + 9 by omega]; exact h2)
  have o1 : okO (gP L (n + 2)) 3 (n + 7) := gP_ok h0 (by omega) (by omega)
  have g2 : mkG (gP L (n + 2)) 0 24 = gP L (n + 3) := gP_mk (by rw [show 8 + (n + 2) = n + 10 by omega]; exact h3)
  have o2 : okO (gP L (n + 3)) 3 (n + 7) := gP_ok h0 (by omega) (by omega)
  have g3 : mkG (gP L (n + 3)) 0 24 = gP L (n + 4) := gP_mk (by rw [show 8 + (n + 3) = n + 11 by omega]; exact h4)
  have o3 : okO (gP L (n + 4)) 3 (n + 7) := gP_ok h0 (by omega) (by omega)
  have g4 : mkG (gP L (n + 4)) 0 24 = gP L (n + 5) := gP_mk (by rw [show 8 + (n + 4) = n + 12 by omega]; exact h5)
  have o4 : okO (gP L (n + 5)) 3 (n + 7) := gP_ok h0 (by omega) (by omega)
  have g5 : mkG (gP L (n + 5)) 19 10 = gP L (n + 6) := gP_mk (by rw [show 8 + (n + 5) = n + 13 by omega]; exact h6)
  have o5 : okO (gP L (n + 6)) 3 (n + 7) := gP_ok h0 (by omega) (by omega)
  have g6 : mkG (gP L (n + 6)) 16 20 = gP L (n + 7) := gP_mk (by rw [show 8 + (n + 6) = n + 14 by omega]; exact h7)
  have o6 : okO (gP L (n + 7)) 3 (n + 7) := gP_ok h0 (by omega) (by omega)
  have g7 : mkG (gP L (n + 7)) 0 100 = gP L (n + 8) := gP_mk (by rw [show 8 + (n + 7) = n + 15 by omega]; exact h8)
  have o7 : okO (gP L (n + 8)) 3 (n + 7) := gP_ok h0 (by omega) (by omega)
  have g8 : mkG (gP L (n + 8)) 11 4 = gP L (n + 9) := gP_mk (by rw [show 8 + (n + 8) = n + 16 by omega]; exact h9)
  have o8 : okO (gP L (n + 9)) 3 (n + 7) := gP_ok h0 (by omega) (by omega)
  have c59 : okO (gP L (n + 59)) 3 (n + 7) := gP_ok h0 (by omega) (by omega)
  have d59 : ((gP L (n + 59)).2 (n + 7)).1 = 103 := c59.1
  have fin : ∀ J, aw (d + 3) mX3_init k 161 [some (.ref (n + 7)), some (.int (nI 4))] [] (gP L (n + 59)) (zr (zr (vl (zr I (n + 8) 9 0) (n + 17) 10) (n + 27) 20 0) (n + 47) 20 0) J (ra (ro (ra (zr (ra (zr (am_rw (zr R (n + 8) 9 none) (n + 7) (rPl (n + 7))) (n + 17) 10 none) (n + 13) (n + 17) 1 10) (n + 27) 20 none) (n + 14) (n + 27) 1 20) (n + 47) 4) (n + 16) (n + 47) 5 4) 59 2612 := by
    intro J
    have ks := fun (k : am_k) => k_plStart (d := d + 1) (k := k) (L := L) (J := J) (I := zr (zr (vl (zr I (n + 8) 9 0) (n + 17) 10) (n + 27) 20 0) (n + 47) 20 0) (R := ra (ro (ra (zr (ra (zr (am_rw (zr R (n + 8) 9 none) (n + 7) (rPl (n + 7))) (n + 17) 10 none) (n + 13) (n + 17) 1 10) (n + 27) 20 none) (n + 14) (n + 27) 1 20) (n + 47) 4) (n + 16) (n + 47) 5 4) hn (by rw [ra_o (by omega), ro_o (by omega), ra_o (by omega), zr_o (by omega), ra_o (by omega), zr_o (by omega), rwS]) (fun u hu => by rw [ra_p]; exact if_pos hu) (fun u hu => by rw [zr_i (by omega) (by omega)])
    simp (disch := omega) only [x_X3_init_0, x_X3_init_1, x_X3_init_4, x_X3_init_5, x_X3_init_8, x_X3_init_10, x_X3_init_13, x_X3_init_14, x_X3_init_17, x_X3_init_19, x_X3_init_22, x_X3_init_23, x_X3_init_25, x_X3_init_27, x_X3_init_30, x_X3_init_31, x_X3_init_33, x_X3_init_35, x_X3_init_38, x_X3_init_39, x_X3_init_41, x_X3_init_43, x_X3_init_46, x_X3_init_47, x_X3_init_49, x_X3_init_52, x_X3_init_55, x_X3_init_56, x_X3_init_58, x_X3_init_61, x_X3_init_64, x_X3_init_65, x_X3_init_67, x_X3_init_69, x_X3_init_72, x_X3_init_73, x_X3_init_74, x_X3_init_77, x_X3_init_80, x_X3_init_81, x_X3_init_82, x_X3_init_83, x_X3_init_85, x_X3_init_88, x_X3_init_89, x_X3_init_92, x_X3_init_93, x_X3_init_96, x_X3_init_97, x_X3_init_98, x_X3_init_101, x_X3_init_102, x_X3_init_105, x_X3_init_108, x_X3_init_109, x_X3_init_110, x_X3_init_111, x_X3_init_113, x_X3_init_116, x_X3_init_117, x_X3_init_120, x_X3_init_121, x_X3_init_124, x_X3_init_125, x_X3_init_128, x_X3_init_129, x_X3_init_132, x_X3_init_135, x_X3_init_136, x_X3_init_137, x_X3_init_138, x_X3_init_139, x_X3_init_142, x_X3_init_143, x_X3_init_146, x_X3_init_147, x_X3_init_150, x_X3_init_151, x_X3_init_154, x_X3_init_155, x_X3_init_158, x_X3_init_161, x_X3_init_162, x_X3_init_164, x_X3_init_166, x_X3_init_169, Bool.false_eq_true, am_cl_i, am_cl_r, am_cl_n, am_cl_l, am_cl_0, va_rf_s, va_rf_0, tl_s, tl_n, bi_0, bi_1, bi_z, true_and, and_true, false_and, and_false, true_implies, false_implies, implies_true, not_true_eq_false, not_false_eq_true, and_self, true_or, or_true, false_or, or_false, eq_self, Nat.reduceAdd, Nat.reduceMul, Nat.reduceSub, Nat.reduceDiv, Nat.reduceMod, Nat.reduceLeDiff, Nat.reduceEqDiff, Nat.reduceLT, ix0, ix1, in0, in1, ltr2, ltr3, ltr4, ltr5, ltr6, ltr7, ltr8, ltr9, ltr10, ltr11, ltr12, ltr13, ltr14, ltr15, ltr16, ltr17, ltr20, ltr22, ltr23, ltr24, ltr25, ltr31, ltr32, ltr40, ltr41, ltr42, ltr43, ltr45, ltr47, ltr48, ltr50, ltr52, ltr57, ltr59, ltr60, ltr61, ltr62, ltr64, ltr65, ltr72, ltr77, ltr90, ltr91, ltr97, ltr99, ltr100, ltr122, ltr144, ltr216, ltr236, ltr240, ltr255, ltr256, ltr257, ltr258, ltr259, ltr260, ltr261, ltr262, ltr271, ltr272, ltr273, ltr288, ltr336, ltr380, ltr400, ltr1000, ltr1600, ltr9999, ltr10000, ixN, inN, ltN, leN, eqN, lt0N, le0N, eq0N, eq1N, addN, add1N, mulN, divN, remN, modS, rdN, inCN, inR0, inR1, inRN, inVN, d59, ks]
    exact hk _ _ _ (pl_mkc hn hI)
  have gO : ∀ J, aw (d + 3) mX3_init k 137 [some (.ref (n + 7)), some (.int 0)] [] (gP L (n + 39)) (zr (vl (zr I (n + 8) 9 0) (n + 17) 10) (n + 27) 20 0) J ((ra (zr (ra (zr (am_rw (zr R (n + 8) 9 none) (n + 7) (rPl (n + 7))) (n + 17) 10 none) (n + 13) (n + 17) 1 10) (n + 27) 20 none) (n + 14) (n + 27) 1 20)) 39 724 := by
    intro J
    have z := l_po (d := d) (k := k) (L := L) (R1 := (ra (zr (ra (zr (am_rw (zr R (n + 8) 9 none) (n + 7) (rPl (n + 7))) (n + 17) 10 none) (n + 13) (n + 17) 1 10) (n + 27) 20 none) (n + 14) (n + 27) 1 20)) hn (by rw [ra_o (by omega), zr_o (by omega), ra_o (by omega), zr_o (by omega), rwS]; rfl) fin 4 0 39 724 J rfl rfl rfl
    rw [ro_0, ra_0, Nat.mul_zero, zr_0, nI_0] at z
    exact z
  have gR : ∀ J, aw (d + 3) mX3_init k 110 [some (.ref (n + 7)), some (.int 0)] [] (gP L (n + 19)) (vl (zr I (n + 8) 9 0) (n + 17) 10) J ((ra (zr (am_rw (zr R (n + 8) 9 none) (n + 7) (rPl (n + 7))) (n + 17) 10 none) (n + 13) (n + 17) 1 10)) 19 644 := by
    intro J
    have z := l_prp (d := d) (k := k) (L := L) (I1 := vl (zr I (n + 8) 9 0) (n + 17) 10) (R1 := (ra (zr (am_rw (zr R (n + 8) 9 none) (n + 7) (rPl (n + 7))) (n + 17) 10 none) (n + 13) (n + 17) 1 10)) hn (by rw [ra_o (by omega), zr_o (by omega), rwS]; rfl) (fun J => by
      have q := gO J
      simp (disch := omega) only [x_X3_init_135, x_X3_init_136, Bool.false_eq_true, am_cl_i, am_cl_r, am_cl_n, am_cl_l, am_cl_0, va_rf_s, va_rf_0, tl_s, tl_n, bi_0, bi_1, bi_z, true_and, and_true, false_and, and_false, true_implies, false_implies, implies_true, not_true_eq_false, not_false_eq_true, and_self, true_or, or_true, false_or, or_false, eq_self, Nat.reduceAdd, Nat.reduceMul, Nat.reduceSub, Nat.reduceDiv, Nat.reduceMod, Nat.reduceLeDiff, Nat.reduceEqDiff, Nat.reduceLT, ix0, ix1, in0, in1]
      exact q) 20 0 19 644 J rfl rfl rfl
    rw [ra_0, zr_0, zr_0, nI_0] at z
    exact z
  have gV : ∀ J, aw (d + 3) mX3_init k 82 [some (.ref (n + 7)), some (.int 0)] [] (gP L (n + 9)) (zr I (n + 8) 9 0) J (am_rw (zr R (n + 8) 9 none) (n + 7) (rPl (n + 7))) 9 494 := by
    intro J
    have z := l_pv (d := d) (k := k) (L := L) (I1 := zr I (n + 8) 9 0) (R1 := (am_rw (zr R (n + 8) 9 none) (n + 7) (rPl (n + 7)))) hn (by rw [rwS]; rfl) (fun J => by
      have q := gR J
      simp (disch := omega) only [x_X3_init_108, x_X3_init_109, Bool.false_eq_true, am_cl_i, am_cl_r, am_cl_n, am_cl_l, am_cl_0, va_rf_s, va_rf_0, tl_s, tl_n, bi_0, bi_1, bi_z, true_and, and_true, false_and, and_false, true_implies, false_implies, implies_true, not_true_eq_false, not_false_eq_true, and_self, true_or, or_true, false_or, or_false, eq_self, Nat.reduceAdd, Nat.reduceMul, Nat.reduceSub, Nat.reduceDiv, Nat.reduceMod, Nat.reduceLeDiff, Nat.reduceEqDiff, Nat.reduceLT, ix0, ix1, in0, in1]
      exact q) 10 0 9 494 J rfl rfl rfl
    rw [ra_0, zr_0, vl_0, nI_0] at z
    exact z
  rw [e_X3_init]
  simp (disch := omega) only [x_X3_init_0, x_X3_init_1, x_X3_init_4, x_X3_init_5, x_X3_init_8, x_X3_init_10, x_X3_init_13, x_X3_init_14, x_X3_init_17, x_X3_init_19, x_X3_init_22, x_X3_init_23, x_X3_init_25, x_X3_init_27, x_X3_init_30, x_X3_init_31, x_X3_init_33, x_X3_init_35, x_X3_init_38, x_X3_init_39, x_X3_init_41, x_X3_init_43, x_X3_init_46, x_X3_init_47, x_X3_init_49, x_X3_init_52, x_X3_init_55, x_X3_init_56, x_X3_init_58, x_X3_init_61, x_X3_init_64, x_X3_init_65, x_X3_init_67, x_X3_init_69, x_X3_init_72, x_X3_init_73, x_X3_init_74, x_X3_init_77, x_X3_init_80, x_X3_init_81, x_X3_init_83, x_X3_init_85, x_X3_init_88, x_X3_init_89, x_X3_init_92, x_X3_init_93, x_X3_init_96, x_X3_init_97, x_X3_init_98, x_X3_init_101, x_X3_init_102, x_X3_init_105, x_X3_init_108, x_X3_init_109, x_X3_init_110, x_X3_init_111, x_X3_init_113, x_X3_init_116, x_X3_init_117, x_X3_init_120, x_X3_init_121, x_X3_init_124, x_X3_init_125, x_X3_init_128, x_X3_init_129, x_X3_init_132, x_X3_init_135, x_X3_init_136, x_X3_init_137, x_X3_init_138, x_X3_init_139, x_X3_init_142, x_X3_init_143, x_X3_init_146, x_X3_init_147, x_X3_init_150, x_X3_init_151, x_X3_init_154, x_X3_init_155, x_X3_init_158, x_X3_init_161, x_X3_init_162, x_X3_init_164, x_X3_init_166, x_X3_init_169, Bool.false_eq_true, am_cl_i, am_cl_r, am_cl_n, am_cl_l, am_cl_0, va_rf_s, va_rf_0, tl_s, tl_n, bi_0, bi_1, bi_z, true_and, and_true, false_and, and_false, true_implies, false_implies, implies_true, not_true_eq_false, not_false_eq_true, and_self, true_or, or_true, false_or, or_false, eq_self, Nat.reduceAdd, Nat.reduceMul, Nat.reduceSub, Nat.reduceDiv, Nat.reduceMod, Nat.reduceLeDiff, Nat.reduceEqDiff, Nat.reduceLT, ix0, ix1, in0, in1, ltr2, ltr3, ltr4, ltr5, ltr6, ltr7, ltr8, ltr9, ltr10, ltr11, ltr12, ltr13, ltr14, ltr15, ltr16, ltr17, ltr20, ltr22, ltr23, ltr24, ltr25, ltr31, ltr32, ltr40, ltr41, ltr42, ltr43, ltr45, ltr47, ltr48, ltr50, ltr52, ltr57, ltr59, ltr60, ltr61, ltr62, ltr64, ltr65, ltr72, ltr77, ltr90, ltr91, ltr97, ltr99, ltr100, ltr122, ltr144, ltr216, ltr236, ltr240, ltr255, ltr256, ltr257, ltr258, ltr259, ltr260, ltr261, ltr262, ltr271, ltr272, ltr273, ltr288, ltr336, ltr380, ltr400, ltr1000, ltr1600, ltr9999, ltr10000, ixN, inN, ltN, leN, eqN, lt0N, le0N, eq0N, eq1N, addN, add1N, mulN, divN, remN, modS, rdN, inCN, inR0, inR1, inRN, inVN, gP_1, g0, g1, g2, g3, g4, g5, g6, g7, g8, o0, o1, o2, o3, o4, o5, o6, o7, o8, mkR_e (L := L) (show 8 + n = n + 8 by omega), show 8 + n = n + 8 by omega, mkR_e (L := L) (show 8 + (n + 1) = n + 9 by omega), show 8 + (n + 1) = n + 9 by omega, mkR_e (L := L) (show 8 + (n + 2) = n + 10 by omega), show 8 + (n + 2) = n + 10 by omega, mkR_e (L := L) (show 8 + (n + 3) = n + 11 by omega), show 8 + (n + 3) = n + 11 by omega, mkR_e (L := L) (show 8 + (n + 4) = n + 12 by omega), show 8 + (n + 4) = n + 12 by omega, mkR_e (L := L) (show 8 + (n + 5) = n + 13 by omega), show 8 + (n + 5) = n + 13 by omega, mkR_e (L := L) (show 8 + (n + 6) = n + 14 by omega), show 8 + (n + 6) = n + 14 by omega, mkR_e (L := L) (show 8 + (n + 7) = n + 15 by omega), show 8 + (n + 7) = n + 15 by omega, mkR_e (L := L) (show 8 + (n + 8) = n + 16 by omega), show 8 + (n + 8) = n + 16 by omega, rw_up, zr9, up9 hR]
  exact gV _
end MAK4
