section AM3
variable {p : Program} {l : Launch} {e : Env} {R : Room} {s : State} {m : MethodId} {args : Array Value} {below : List Frame} {meth : Method} {c : Code} {Q : State → Prop} {z : Nat} {xt : Nat → Nat} {D : va_G} {L : Nat} {xs : Nat → Int32} {y : mI} {d : Nat} {K : am_K}
variable {pc : Nat} {V : am_L} {μ : am_M} {ck : Nat × Nat} {r : List Value}
theorem sn_iaload {j : Int32} {a : Nat} (G : am_Gm p l e R s m args below meth c z xt L xs y d) (hd : decode (am_by y) pc = .ok (.iaload, 1)) (ht : (μ.1.2 a).1 = 0) (hin : vp_in j (μ.1.2 a).2) (h : (am_SD p l e R s m args below meth c Q z xt D L xs y (pc + 1, V, .int (am_rd μ.2.1 a j.toNatClampNeg) :: r, μ, ck))) : (am_SD p l e R s m args below meth c Q z xt D L xs y (pc, V, .int j :: .ref a :: r, μ, ck)) := by
  intro H locs ls hR hS hl hn hz
  replace hR : am_R z xt D L xs μ s H := hR
  replace hz : s.heap.size + ck.1 = z + μ.1.1 := hz
  obtain ⟨hx, hb, hml, hown, hts, hnm, hzs, hX, hfr, hlo, hmc, hms⟩ := G
  obtain ⟨r1, r2, r3, r4, ka, hP, hA⟩ := id hR
  have k := h H locs ls hR hS hl hn hz
  by_cases ha : 8 ≤ a
  · skip
    have hlt : a < 8 + μ.1.1 := am_lt r2 (by omega)
    have he := am_ws_get (z := z) (xt := xt) (ka := ka) ha hlt
    rw [am_arr (by omega)] at he
    have har : am_ar z xt μ a = .inl (μ.2.1 a) := by simp [am_ar, ht]
    rw [har] at he
    have hKK := am_K1 r4 (hA a ha (by omega))
    rw [ht] at hKK
    have hrd : am_rd μ.2.1 a j.toNatClampNeg = μ.2.1 a j.toNatClampNeg := by unfold am_rd; rw [if_neg (by omega), if_neg (by omega), if_neg (by omega)]
    rw [hrd] at k
    exact va_iald hx hb hKK hP (a - 8) 0 he rfl hin hd k
  · obtain ⟨s1, s2, s30, s31, s32, s33, s34, s35, s36, s37⟩ := r2
    obtain ⟨⟨x1, x2⟩, ⟨x3, x4⟩, x5, x6, x7, x8, x9, x10, x11, ⟨x12, x13⟩, x14, x15⟩ := hX
    have hcs : a = 0 ∨ a = 1 ∨ a = 2 ∨ a = 3 ∨ a = 4 ∨ a = 5 ∨ a = 6 ∨ a = 7 := by omega
    rcases hcs with rfl | rfl | rfl | rfl | rfl | rfl | rfl | rfl
    · rw [s30] at hin
      have hrd : am_rd μ.2.1 0 j.toNatClampNeg = xs j.toNatClampNeg := by rw [← r3]; rfl
      rw [hrd] at k
      exact va_sld hx hb x12 (Nat.lt_of_lt_of_le x13 hzs) (Nat.not_le.mpr x13) hS hin hd k
    · rw [s31] at hin
      exact va_ti hx hb x2 hS hin (v := .int (am_dx j.toNatClampNeg)) rfl hd k
    · rw [s32] at hin
      exact va_ti hx hb x4 hS hin (v := .int (am_dy j.toNatClampNeg)) rfl hd k
    · rw [s33] at ht; cases ht
    · rw [s34] at ht; cases ht
    · omega
    · omega
    · omega
theorem sn_baload {j : Int32} {a : Nat} (G : am_Gm p l e R s m args below meth c z xt L xs y d) (hd : decode (am_by y) pc = .ok (.baload, 1)) (ht0 : (μ.1.2 a).1 = 2 ∨ (μ.1.2 a).1 = 3) (hin : vp_in j (μ.1.2 a).2) (h : (am_SD p l e R s m args below meth c Q z xt D L xs y (pc + 1, V, .int (am_rd μ.2.1 a j.toNatClampNeg) :: r, μ, ck))) : (am_SD p l e R s m args below meth c Q z xt D L xs y (pc, V, .int j :: .ref a :: r, μ, ck)) := by
  intro H locs ls hR hS hl hn hz
  replace hR : am_R z xt D L xs μ s H := hR
  replace hz : s.heap.size + ck.1 = z + μ.1.1 := hz
  obtain ⟨hx, hb, hml, hown, hts, hnm, hzs, hX, hfr, hlo, hmc, hms⟩ := G
  obtain ⟨r1, r2, r3, r4, ka, hP, hA⟩ := id hR
  have k := h H locs ls hR hS hl hn hz
  by_cases ha : 8 ≤ a
  · rcases ht0 with ht | ht
    · skip
      have hlt : a < 8 + μ.1.1 := am_lt r2 (by omega)
      have he := am_ws_get (z := z) (xt := xt) (ka := ka) ha hlt
      rw [am_arr (by omega)] at he
      have har : am_ar z xt μ a = .inl (μ.2.1 a) := by simp [am_ar, ht]
      rw [har] at he
      have hKK := am_K1 r4 (hA a ha (by omega))
      rw [ht] at hKK
      have hrd : am_rd μ.2.1 a j.toNatClampNeg = μ.2.1 a j.toNatClampNeg := by unfold am_rd; rw [if_neg (by omega), if_neg (by omega), if_neg (by omega)]
      rw [hrd] at k
      exact va_bald hx hb hKK hP (a - 8) 0 he rfl hin hd k
    · skip
      have hlt : a < 8 + μ.1.1 := am_lt r2 (by omega)
      have he := am_ws_get (z := z) (xt := xt) (ka := ka) ha hlt
      rw [am_arr (by omega)] at he
      have har : am_ar z xt μ a = .inl (μ.2.1 a) := by simp [am_ar, ht]
      rw [har] at he
      have hKK := am_K1 r4 (hA a ha (by omega))
      rw [ht] at hKK
      have hrd : am_rd μ.2.1 a j.toNatClampNeg = μ.2.1 a j.toNatClampNeg := by unfold am_rd; rw [if_neg (by omega), if_neg (by omega), if_neg (by omega)]
      rw [hrd] at k
      exact va_zald hx hb hKK hP (a - 8) 0 he rfl hin hd k
  · obtain ⟨s1, s2, s30, s31, s32, s33, s34, s35, s36, s37⟩ := r2
    obtain ⟨⟨x1, x2⟩, ⟨x3, x4⟩, x5, x6, x7, x8, x9, x10, x11, ⟨x12, x13⟩, x14, x15⟩ := hX
    have hcs : a = 0 ∨ a = 1 ∨ a = 2 ∨ a = 3 ∨ a = 4 ∨ a = 5 ∨ a = 6 ∨ a = 7 := by omega
    rcases hcs with rfl | rfl | rfl | rfl | rfl | rfl | rfl | rfl
    · rw [s30] at ht0; rcases ht0 with q | q <;> cases q
    · rw [s31] at ht0; rcases ht0 with q | q <;> cases q
    · rw [s32] at ht0; rcases ht0 with q | q <;> cases q
    · rw [s33] at ht0; rcases ht0 with q | q <;> cases q
    · rw [s34] at hin
      exact va_tb hx hb x11 hS hin (v := .int (am_wb j.toNatClampNeg)) rfl hd k
    · omega
    · omega
    · omega
theorem sn_laload {j : Int32} {a : Nat} (G : am_Gm p l e R s m args below meth c z xt L xs y d) (hd : decode (am_by y) pc = .ok (.laload, 1)) (ha : 8 ≤ a) (ht : (μ.1.2 a).1 = 1) (hin : vp_in j (μ.1.2 a).2) (h : (am_SD p l e R s m args below meth c Q z xt D L xs y (pc + 1, V, .long (μ.2.2.1 a j.toNatClampNeg) :: r, μ, ck))) : (am_SD p l e R s m args below meth c Q z xt D L xs y (pc, V, .int j :: .ref a :: r, μ, ck)) := by
  intro H locs ls hR hS hl hn hz
  replace hR : am_R z xt D L xs μ s H := hR
  replace hz : s.heap.size + ck.1 = z + μ.1.1 := hz
  obtain ⟨hx, hb, hml, hown, hts, hnm, hzs, hX, hfr, hlo, hmc, hms⟩ := G
  obtain ⟨r1, r2, r3, r4, ka, hP, hA⟩ := id hR
  have hlt : a < 8 + μ.1.1 := am_lt r2 (by omega)
  have he := am_ws_get (z := z) (xt := xt) (ka := ka) ha hlt
  rw [am_arr (by omega)] at he
  have har : am_ar z xt μ a = .inr (.inl (μ.2.2.1 a)) := by simp [am_ar, ht]
  rw [har] at he
  have hKK := am_K1 r4 (hA a ha (by omega))
  rw [ht] at hKK
  exact va_lald hx hb hKK hP (a - 8) 0 he rfl hin hd (h H locs ls hR hS hl hn hz)
theorem sn_aaload {j : Int32} {a : Nat} (G : am_Gm p l e R s m args below meth c z xt L xs y d) (hd : decode (am_by y) pc = .ok (.aaload, 1)) (ha : 8 ≤ a) (ht : 10 ≤ (μ.1.2 a).1) (ht2 : (μ.1.2 a).1 < 23) (hin : vp_in j (μ.1.2 a).2) (h : (am_SD p l e R s m args below meth c Q z xt D L xs y (pc + 1, V, va_rf (μ.2.2.2 a j.toNatClampNeg) :: r, μ, ck))) : (am_SD p l e R s m args below meth c Q z xt D L xs y (pc, V, .int j :: .ref a :: r, μ, ck)) := by
  intro H locs ls hR hS hl hn hz
  replace hR : am_R z xt D L xs μ s H := hR
  replace hz : s.heap.size + ck.1 = z + μ.1.1 := hz
  obtain ⟨hx, hb, hml, hown, hts, hnm, hzs, hX, hfr, hlo, hmc, hms⟩ := G
  obtain ⟨r1, r2, r3, r4, ka, hP, hA⟩ := id hR
  have hlt : a < 8 + μ.1.1 := am_lt r2 (by omega)
  have he := am_ws_get (z := z) (xt := xt) (ka := ka) ha hlt
  rw [am_arr (by omega)] at he
  have har : am_ar z xt μ a = .inr (.inr (.inr (.inr (fun j => (μ.2.2.2 a j).map (am_ad z xt))))) := by
    unfold am_ar
    rw [if_neg (by omega), if_pos ht]
  rw [har] at he
  have hKK := am_K1 r4 (hA a ha (by omega))
  have hty : am_ty (μ.1.2 a).1 = .object (am_cn ((μ.1.2 a).1 - 10)) := by
    unfold am_ty
    rw [if_neg (by omega), if_neg (by omega), if_neg (by omega), if_neg (by omega)]
  rw [hty] at hKK
  have k := h H locs ls hR hS hl hn hz
  have k' : W p l e R s m args below meth c H locs ck.1 ck.2 Q (F0 m (pc + 1) ls (va_rf ((μ.2.2.2 a j.toNatClampNeg).map (am_ad z xt)) :: r.map (am_tr z xt))) := by
    rw [← am_tr_rf]
    exact k
  exact va_aldq hx hb hKK hP (a - 8) 0 he rfl hin hd k'
theorem sn_iastore {j : Int32} {a : Nat} {v : Int32} (G : am_Gm p l e R s m args below meth c z xt L xs y d) (hd : decode (am_by y) pc = .ok (.iastore, 1)) (ha : 8 ≤ a) (ht : (μ.1.2 a).1 = 0) (hin : vp_in j (μ.1.2 a).2) (h : (am_SD p l e R s m args below meth c Q z xt D L xs y (pc + 1, V, r, (μ.1, am_up μ.2.1 a j.toNatClampNeg v, μ.2.2), ck))) : (am_SD p l e R s m args below meth c Q z xt D L xs y (pc, V, .int v :: .int j :: .ref a :: r, μ, ck)) := by
  intro H locs ls hR hS hl hn hz
  replace hR : am_R z xt D L xs μ s H := hR
  replace hz : s.heap.size + ck.1 = z + μ.1.1 := hz
  obtain ⟨hx, hb, hml, hown, hts, hnm, hzs, hX, hfr, hlo, hmc, hms⟩ := G
  obtain ⟨r1, r2, r3, r4, ka, hP, hA⟩ := id hR
  have hlt : a < 8 + μ.1.1 := am_lt r2 (by omega)
  have he := am_ws_get (z := z) (xt := xt) (ka := ka) ha hlt
  rw [am_arr (by omega)] at he
  have har : am_ar z xt μ a = .inl (μ.2.1 a) := by simp [am_ar, ht]
  rw [har] at he
  have hKK := am_K1 r4 (hA a ha (by omega))
  rw [ht] at hKK
  have ha0 : ¬ 0 = a := by omega
  have hce : am_ce z xt ka (μ.1, am_up μ.2.1 a j.toNatClampNeg v, μ.2.2) a = .inl (ka a, (μ.1.2 a).2, .inl (va_up (μ.2.1 a) j.toNatClampNeg v)) := by
    rw [am_arr (μ := (μ.1, am_up μ.2.1 a j.toNatClampNeg v, μ.2.2)) (by show (μ.1.2 a).1 < 100; omega)]
    congr 3
    simp [am_ar, ht, am_up, am_rw]
  have ho : ∀ b', b' ≠ a → am_ce z xt ka (μ.1, am_up μ.2.1 a j.toNatClampNeg v, μ.2.2) b' = am_ce z xt ka μ b' := fun b' hb' => am_ce_congr rfl (by simp [am_up, am_rw, hb']) (by simp [am_up, am_rw, hb']) (by simp [am_up, am_rw, hb'])
  refine va_iast hx hb hKK hP (am_ws_D z xt ka μ) hS (a - 8) 0 he rfl hin hd (fun H1 locs1 hP1 hD1 hS1 => ?_)
  have hP1 : va_P D vwCl ((am_ws z xt ka μ).set (a - 8) (am_ad z xt a, .inl (ka a, (μ.1.2 a).2, .inl (va_up (μ.2.1 a) j.toNatClampNeg v)))) H1 := hP1
  rw [← hce, am_ws_set ha hlt ho rfl] at hP1
  exact am_Wsz fun hsz => h H1 locs1 ls (am_R.set (μ := μ) (μ' := (μ.1, am_up μ.2.1 a j.toNatClampNeg v, μ.2.2)) rfl (by simp [am_up, am_rw, ha0]) r2 r3 r4 hA hP1 (am_size (μ := (μ.1, am_up μ.2.1 a j.toNatClampNeg v, μ.2.2)) hP1 hS1.1 hzs hsz hz)) hS1 hl hn hz
theorem sn_bastoreB {j : Int32} {a : Nat} {v : Int32} (G : am_Gm p l e R s m args below meth c z xt L xs y d) (hd : decode (am_by y) pc = .ok (.bastore, 1)) (ha : 8 ≤ a) (ht : (μ.1.2 a).1 = 2) (hin : vp_in j (μ.1.2 a).2) (h : (am_SD p l e R s m args below meth c Q z xt D L xs y (pc + 1, V, r, (μ.1, am_up μ.2.1 a j.toNatClampNeg v.toInt8.toInt32, μ.2.2), ck))) : (am_SD p l e R s m args below meth c Q z xt D L xs y (pc, V, .int v :: .int j :: .ref a :: r, μ, ck)) := by
  intro H locs ls hR hS hl hn hz
  replace hR : am_R z xt D L xs μ s H := hR
  replace hz : s.heap.size + ck.1 = z + μ.1.1 := hz
  obtain ⟨hx, hb, hml, hown, hts, hnm, hzs, hX, hfr, hlo, hmc, hms⟩ := G
  obtain ⟨r1, r2, r3, r4, ka, hP, hA⟩ := id hR
  have hlt : a < 8 + μ.1.1 := am_lt r2 (by omega)
  have he := am_ws_get (z := z) (xt := xt) (ka := ka) ha hlt
  rw [am_arr (by omega)] at he
  have har : am_ar z xt μ a = .inl (μ.2.1 a) := by simp [am_ar, ht]
  rw [har] at he
  have hKK := am_K1 r4 (hA a ha (by omega))
  rw [ht] at hKK
  have ha0 : ¬ 0 = a := by omega
  have hce : am_ce z xt ka (μ.1, am_up μ.2.1 a j.toNatClampNeg v.toInt8.toInt32, μ.2.2) a = .inl (ka a, (μ.1.2 a).2, .inl (va_up (μ.2.1 a) j.toNatClampNeg v.toInt8.toInt32)) := by
    rw [am_arr (μ := (μ.1, am_up μ.2.1 a j.toNatClampNeg v.toInt8.toInt32, μ.2.2)) (by show (μ.1.2 a).1 < 100; omega)]
    congr 3
    simp [am_ar, ht, am_up, am_rw]
  have ho : ∀ b', b' ≠ a → am_ce z xt ka (μ.1, am_up μ.2.1 a j.toNatClampNeg v.toInt8.toInt32, μ.2.2) b' = am_ce z xt ka μ b' := fun b' hb' => am_ce_congr rfl (by simp [am_up, am_rw, hb']) (by simp [am_up, am_rw, hb']) (by simp [am_up, am_rw, hb'])
  refine va_bast hx hb hKK hP (am_ws_D z xt ka μ) hS (a - 8) 0 he rfl hin hd (fun H1 locs1 hP1 hD1 hS1 => ?_)
  have hP1 : va_P D vwCl ((am_ws z xt ka μ).set (a - 8) (am_ad z xt a, .inl (ka a, (μ.1.2 a).2, .inl (va_up (μ.2.1 a) j.toNatClampNeg v.toInt8.toInt32)))) H1 := hP1
  rw [← hce, am_ws_set ha hlt ho rfl] at hP1
  exact am_Wsz fun hsz => h H1 locs1 ls (am_R.set (μ := μ) (μ' := (μ.1, am_up μ.2.1 a j.toNatClampNeg v.toInt8.toInt32, μ.2.2)) rfl (by simp [am_up, am_rw, ha0]) r2 r3 r4 hA hP1 (am_size (μ := (μ.1, am_up μ.2.1 a j.toNatClampNeg v.toInt8.toInt32, μ.2.2)) hP1 hS1.1 hzs hsz hz)) hS1 hl hn hz
theorem sn_bastoreZ {j : Int32} {a : Nat} {v : Int32} (G : am_Gm p l e R s m args below meth c z xt L xs y d) (hd : decode (am_by y) pc = .ok (.bastore, 1)) (ha : 8 ≤ a) (ht : (μ.1.2 a).1 = 3) (hin : vp_in j (μ.1.2 a).2) (h : (am_SD p l e R s m args below meth c Q z xt D L xs y (pc + 1, V, r, (μ.1, am_up μ.2.1 a j.toNatClampNeg (v &&& 1), μ.2.2), ck))) : (am_SD p l e R s m args below meth c Q z xt D L xs y (pc, V, .int v :: .int j :: .ref a :: r, μ, ck)) := by
  intro H locs ls hR hS hl hn hz
  replace hR : am_R z xt D L xs μ s H := hR
  replace hz : s.heap.size + ck.1 = z + μ.1.1 := hz
  obtain ⟨hx, hb, hml, hown, hts, hnm, hzs, hX, hfr, hlo, hmc, hms⟩ := G
  obtain ⟨r1, r2, r3, r4, ka, hP, hA⟩ := id hR
  have hlt : a < 8 + μ.1.1 := am_lt r2 (by omega)
  have he := am_ws_get (z := z) (xt := xt) (ka := ka) ha hlt
  rw [am_arr (by omega)] at he
  have har : am_ar z xt μ a = .inl (μ.2.1 a) := by simp [am_ar, ht]
  rw [har] at he
  have hKK := am_K1 r4 (hA a ha (by omega))
  rw [ht] at hKK
  have ha0 : ¬ 0 = a := by omega
  have hce : am_ce z xt ka (μ.1, am_up μ.2.1 a j.toNatClampNeg (v &&& 1), μ.2.2) a = .inl (ka a, (μ.1.2 a).2, .inl (va_up (μ.2.1 a) j.toNatClampNeg (v &&& 1))) := by
    rw [am_arr (μ := (μ.1, am_up μ.2.1 a j.toNatClampNeg (v &&& 1), μ.2.2)) (by show (μ.1.2 a).1 < 100; omega)]
    congr 3
    simp [am_ar, ht, am_up, am_rw]
  have ho : ∀ b', b' ≠ a → am_ce z xt ka (μ.1, am_up μ.2.1 a j.toNatClampNeg (v &&& 1), μ.2.2) b' = am_ce z xt ka μ b' := fun b' hb' => am_ce_congr rfl (by simp [am_up, am_rw, hb']) (by simp [am_up, am_rw, hb']) (by simp [am_up, am_rw, hb'])
  refine va_zast hx hb hKK hP (am_ws_D z xt ka μ) hS (a - 8) 0 he rfl hin hd (fun H1 locs1 hP1 hD1 hS1 => ?_)
  have hP1 : va_P D vwCl ((am_ws z xt ka μ).set (a - 8) (am_ad z xt a, .inl (ka a, (μ.1.2 a).2, .inl (va_up (μ.2.1 a) j.toNatClampNeg (v &&& 1))))) H1 := hP1
  rw [← hce, am_ws_set ha hlt ho rfl] at hP1
  exact am_Wsz fun hsz => h H1 locs1 ls (am_R.set (μ := μ) (μ' := (μ.1, am_up μ.2.1 a j.toNatClampNeg (v &&& 1), μ.2.2)) rfl (by simp [am_up, am_rw, ha0]) r2 r3 r4 hA hP1 (am_size (μ := (μ.1, am_up μ.2.1 a j.toNatClampNeg (v &&& 1), μ.2.2)) hP1 hS1.1 hzs hsz hz)) hS1 hl hn hz
theorem sn_lastore {j : Int32} {a : Nat} {v : Int64} (G : am_Gm p l e R s m args below meth c z xt L xs y d) (hd : decode (am_by y) pc = .ok (.lastore, 1)) (ha : 8 ≤ a) (ht : (μ.1.2 a).1 = 1) (hin : vp_in j (μ.1.2 a).2) (h : (am_SD p l e R s m args below meth c Q z xt D L xs y (pc + 1, V, r, (μ.1, μ.2.1, am_up μ.2.2.1 a j.toNatClampNeg v, μ.2.2.2), ck))) : (am_SD p l e R s m args below meth c Q z xt D L xs y (pc, V, .long v :: .int j :: .ref a :: r, μ, ck)) := by
  intro H locs ls hR hS hl hn hz
  replace hR : am_R z xt D L xs μ s H := hR
  replace hz : s.heap.size + ck.1 = z + μ.1.1 := hz
  obtain ⟨hx, hb, hml, hown, hts, hnm, hzs, hX, hfr, hlo, hmc, hms⟩ := G
  obtain ⟨r1, r2, r3, r4, ka, hP, hA⟩ := id hR
  have hlt : a < 8 + μ.1.1 := am_lt r2 (by omega)
  have he := am_ws_get (z := z) (xt := xt) (ka := ka) ha hlt
  rw [am_arr (by omega)] at he
  have har : am_ar z xt μ a = .inr (.inl (μ.2.2.1 a)) := by simp [am_ar, ht]
  rw [har] at he
  have hKK := am_K1 r4 (hA a ha (by omega))
  rw [ht] at hKK
  have ha0 : ¬ 0 = a := by omega
  have hce : am_ce z xt ka (μ.1, μ.2.1, am_up μ.2.2.1 a j.toNatClampNeg v, μ.2.2.2) a = .inl (ka a, (μ.1.2 a).2, .inr (.inl (va_up (μ.2.2.1 a) j.toNatClampNeg v))) := by
    rw [am_arr (μ := (μ.1, μ.2.1, am_up μ.2.2.1 a j.toNatClampNeg v, μ.2.2.2)) (by show (μ.1.2 a).1 < 100; omega)]
    congr 3
    simp [am_ar, ht, am_up, am_rw]
  have ho : ∀ b', b' ≠ a → am_ce z xt ka (μ.1, μ.2.1, am_up μ.2.2.1 a j.toNatClampNeg v, μ.2.2.2) b' = am_ce z xt ka μ b' := fun b' hb' => am_ce_congr rfl (by simp [am_up, am_rw, hb']) (by simp [am_up, am_rw, hb']) (by simp [am_up, am_rw, hb'])
  refine va_last hx hb hKK hP (am_ws_D z xt ka μ) hS (a - 8) 0 he rfl hin hd (fun H1 locs1 hP1 hD1 hS1 => ?_)
  have hP1 : va_P D vwCl ((am_ws z xt ka μ).set (a - 8) (am_ad z xt a, .inl (ka a, (μ.1.2 a).2, .inr (.inl (va_up (μ.2.2.1 a) j.toNatClampNeg v))))) H1 := hP1
  rw [← hce, am_ws_set ha hlt ho rfl] at hP1
  exact am_Wsz fun hsz => h H1 locs1 ls (am_R.set (μ := μ) (μ' := (μ.1, μ.2.1, am_up μ.2.2.1 a j.toNatClampNeg v, μ.2.2.2)) rfl (by simp [am_up, am_rw, ha0]) r2 r3 r4 hA hP1 (am_size (μ := (μ.1, μ.2.1, am_up μ.2.2.1 a j.toNatClampNeg v, μ.2.2.2)) hP1 hS1.1 hzs hsz hz)) hS1 hl hn hz
theorem sn_aastore {j : Int32} {a : Nat} {v : Nat} (G : am_Gm p l e R s m args below meth c z xt L xs y d) (hd : decode (am_by y) pc = .ok (.aastore, 1)) (ha : 8 ≤ a) (ht : 10 ≤ (μ.1.2 a).1) (ht2 : (μ.1.2 a).1 < 23) (hv8 : 8 ≤ v) (hvt : (μ.1.2 v).1 = 90 + (μ.1.2 a).1) (hin : vp_in j (μ.1.2 a).2) (h : (am_SD p l e R s m args below meth c Q z xt D L xs y (pc + 1, V, r, (μ.1, μ.2.1, μ.2.2.1, am_up μ.2.2.2 a j.toNatClampNeg (some v)), ck))) : (am_SD p l e R s m args below meth c Q z xt D L xs y (pc, V, .ref v :: .int j :: .ref a :: r, μ, ck)) := by
  intro H locs ls hR hS hl hn hz
  replace hR : am_R z xt D L xs μ s H := hR
  replace hz : s.heap.size + ck.1 = z + μ.1.1 := hz
  obtain ⟨hx, hb, hml, hown, hts, hnm, hzs, hX, hfr, hlo, hmc, hms⟩ := G
  obtain ⟨r1, r2, r3, r4, ka, hP, hA⟩ := id hR
  have hlt : a < 8 + μ.1.1 := am_lt r2 (by omega)
  have he := am_ws_get (z := z) (xt := xt) (ka := ka) ha hlt
  rw [am_arr (by omega)] at he
  have har : am_ar z xt μ a = .inr (.inr (.inr (.inr (fun j => (μ.2.2.2 a j).map (am_ad z xt))))) := by
    unfold am_ar
    rw [if_neg (by omega), if_pos ht]
  rw [har] at he
  have hKK := am_K1 r4 (hA a ha (by omega))
  have hty : am_ty (μ.1.2 a).1 = .object (am_cn ((μ.1.2 a).1 - 10)) := by
    unfold am_ty
    rw [if_neg (by omega), if_neg (by omega), if_neg (by omega), if_neg (by omega)]
  rw [hty] at hKK
  have hci : (μ.1.2 a).1 - 10 < 13 := by omega
  obtain ⟨T, hc, hin0, hty0, hdecl, hnms, hins, hini⟩ := am_cls_ok hci
  have hvl : v < 8 + μ.1.1 := am_lt r2 (by omega)
  have hev := am_ws_get (z := z) (xt := xt) (ka := ka) hv8 hvl
  rw [am_obj (ci := (μ.1.2 a).1 - 10) (by omega)] at hev
  have ha0 : ¬ 0 = a := by omega
  have hce : am_ce z xt ka (μ.1, μ.2.1, μ.2.2.1, am_up μ.2.2.2 a j.toNatClampNeg (some v)) a = .inl (ka a, (μ.1.2 a).2, .inr (.inr (.inr (.inr (va_up (fun j => (μ.2.2.2 a j).map (am_ad z xt)) j.toNatClampNeg (some (am_ad z xt v))))))) := by
    rw [am_arr (μ := (μ.1, μ.2.1, μ.2.2.1, am_up μ.2.2.2 a j.toNatClampNeg (some v))) (by show (μ.1.2 a).1 < 100; omega)]
    congr 3
    unfold am_ar
    rw [if_neg (by show ¬ (μ.1.2 a).1 = 1; omega), if_pos ht]
    congr 4
    funext q
    by_cases hq : q = j.toNatClampNeg
    · simp [am_up, am_rw, va_up, hq]
    · simp [am_up, am_rw, va_up, hq]
  have ho : ∀ b', b' ≠ a → am_ce z xt ka (μ.1, μ.2.1, μ.2.2.1, am_up μ.2.2.2 a j.toNatClampNeg (some v)) b' = am_ce z xt ka μ b' := fun b' hb' => am_ce_congr rfl (by simp [am_up, am_rw, hb']) (by simp [am_up, am_rw, hb']) (by simp [am_up, am_rw, hb'])
  refine va_astq hx hb hKK hP (am_ws_D z xt ka μ) hS (a - 8) 0 (v - 8) ((μ.1.2 a).1 - 10) (r := (am_cn ((μ.1.2 a).1 - 10), T, am_nf ((μ.1.2 a).1 - 10))) he rfl hev hc hin hd (fun H1 locs1 hP1 hD1 hS1 => ?_)
  have hP1 : va_P D vwCl ((am_ws z xt ka μ).set (a - 8) (am_ad z xt a, .inl (ka a, (μ.1.2 a).2, .inr (.inr (.inr (.inr (va_up (fun j => (μ.2.2.2 a j).map (am_ad z xt)) j.toNatClampNeg (some (am_ad z xt v))))))))) H1 := hP1
  rw [← hce, am_ws_set ha hlt ho rfl] at hP1
  exact am_Wsz fun hsz => h H1 locs1 ls (am_R.set (μ := μ) (μ' := (μ.1, μ.2.1, μ.2.2.1, am_up μ.2.2.2 a j.toNatClampNeg (some v))) rfl (by simp [am_up, am_rw, ha0]) r2 r3 r4 hA hP1 (am_size (μ := (μ.1, μ.2.1, μ.2.2.1, am_up μ.2.2.2 a j.toNatClampNeg (some v))) hP1 hS1.1 hzs hsz hz)) hS1 hl hn hz
end AM3
