section AM5
variable {p : Program} {l : Launch} {e : Env} {R : Room} {s : State} {m : MethodId} {args : Array Value} {below : List Frame} {meth : Method} {c : Code} {Q : State → Prop} {z : Nat} {xt : Nat → Nat} {D : va_G} {L : Nat} {xs : Nat → Int32} {y : mI} {d : Nat} {K : am_K}
variable {pc : Nat} {V : am_L} {μ : am_M} {ck : Nat × Nat} {r : List Value}
theorem am_st1 : Cond.fieldLink "TownsUnderSail" 103 "TownsUnderSail" "DX" "[I" ∈ lw_tbl := by decide +kernel
theorem am_st2 : ∀ q ∈ ([(0, 105), (4, 117), (10, 152)] : List (Nat × Nat)), Cond.fieldLinkNest (am_cn q.1) q.2 "TownsUnderSail" "DX" "[I" "TownsUnderSail" ∈ lw_tbl := by decide +kernel
theorem am_st3 : ∀ q ∈ ([(0, 115), (4, 124), (10, 155)] : List (Nat × Nat)), Cond.fieldLinkNest (am_cn q.1) q.2 "TownsUnderSail" "DY" "[I" "TownsUnderSail" ∈ lw_tbl := by decide +kernel
theorem am_st4 : Cond.fieldLink "java/lang/String" 38 "java/lang/String" "COMPACT_STRINGS" "Z" ∈ lw_tbl := by decide +kernel
theorem am_st5 : Cond.fieldLink "java/lang/String" 1053 "jdk/internal/util/Preconditions" "SIOOBE_FORMATTER" "Ljava/util/function/BiFunction;" ∈ lw_tbl := by decide +kernel
theorem am_st6 : Cond.fieldLink "java/lang/String" 9 "java/lang/String" "value" "[B" ∈ lw_tbl := by decide +kernel
theorem am_st7 : Cond.fieldLink "java/lang/String" 15 "java/lang/String" "coder" "B" ∈ lw_tbl := by decide +kernel
theorem sn_dx {n : Nat} (G : am_Gm p l e R s m args below meth c z xt L xs y d) (hd : decode (am_by y) pc = .ok (.getstatic n, 3)) (hq : (am_own y, n) ∈ ([(0, 105), (4, 117), (10, 152)] : List (Nat × Nat)) ∨ (am_own y = 11 ∧ n = 103)) (h : (am_SD p l e R s m args below meth c Q z xt D L xs y (pc + 3, V, .ref 1 :: r, μ, ck))) : (am_SD p l e R s m args below meth c Q z xt D L xs y (pc, V, r, μ, ck)) := by
  intro H locs ls hR hS hl hn hz
  replace hR : am_R z xt D L xs μ s H := hR
  replace hz : s.heap.size + ck.1 = z + μ.1.1 := hz
  obtain ⟨hx, hb, hml, hown, hts, hnm, hzs, hX, hfr, hlo, hmc, hms⟩ := G
  obtain ⟨r1, r2, r3, r4, ka, hP, hA⟩ := id hR
  rcases hq with hq | ⟨hq, hq2⟩
  · exact va_getsN hx hb hX.1.1 hS hown (va_Nw.use rfl (hX.2.2.2.2.2.2.2.2.2.2.1 _ (am_st2 _ hq) rfl)) (fun _ q => q) hd (h H locs ls hR hS hl hn hz)
  · rw [hq] at hown
    rw [hq2] at hd
    exact va_gets hx hb hX.1.1 hS hown (hts _ (am_tbl_mem am_st1 rfl)) (fun _ q => q) hd (h H locs ls hR hS hl hn hz)
theorem sn_dy {n : Nat} (G : am_Gm p l e R s m args below meth c z xt L xs y d) (hd : decode (am_by y) pc = .ok (.getstatic n, 3)) (hq : (am_own y, n) ∈ ([(0, 115), (4, 124), (10, 155)] : List (Nat × Nat))) (h : (am_SD p l e R s m args below meth c Q z xt D L xs y (pc + 3, V, .ref 2 :: r, μ, ck))) : (am_SD p l e R s m args below meth c Q z xt D L xs y (pc, V, r, μ, ck)) := by
  intro H locs ls hR hS hl hn hz
  replace hR : am_R z xt D L xs μ s H := hR
  replace hz : s.heap.size + ck.1 = z + μ.1.1 := hz
  obtain ⟨hx, hb, hml, hown, hts, hnm, hzs, hX, hfr, hlo, hmc, hms⟩ := G
  obtain ⟨r1, r2, r3, r4, ka, hP, hA⟩ := id hR
  exact va_getsN hx hb hX.2.1.1 hS hown (va_Nw.use rfl (hX.2.2.2.2.2.2.2.2.2.2.1 _ (am_st3 _ hq) rfl)) (fun _ q => q) hd (h H locs ls hR hS hl hn hz)
theorem sn_cs (G : am_Gm p l e R s m args below meth c z xt L xs y d) (hd : decode (am_by y) pc = .ok (.getstatic 38, 3)) (hq : am_own y = 16) (h : (am_SD p l e R s m args below meth c Q z xt D L xs y (pc + 3, V, .int 1 :: r, μ, ck))) : (am_SD p l e R s m args below meth c Q z xt D L xs y (pc, V, r, μ, ck)) := by
  intro H locs ls hR hS hl hn hz
  replace hR : am_R z xt D L xs μ s H := hR
  replace hz : s.heap.size + ck.1 = z + μ.1.1 := hz
  obtain ⟨hx, hb, hml, hown, hts, hnm, hzs, hX, hfr, hlo, hmc, hms⟩ := G
  obtain ⟨r1, r2, r3, r4, ka, hP, hA⟩ := id hR
  rw [hq] at hown
  exact va_gets hx hb hX.2.2.1 hS hown (hts _ (am_tbl_mem am_st4 rfl)) (fun _ q => q) hd (h H locs ls hR hS hl hn hz)
theorem sn_sf (G : am_Gm p l e R s m args below meth c z xt L xs y d) (hd : decode (am_by y) pc = .ok (.getstatic 1053, 3)) (hq : am_own y = 16) (h1 : (am_SD p l e R s m args below meth c Q z xt D L xs y (pc + 3, V, .null :: r, μ, ck))) (h2 : (am_SD p l e R s m args below meth c Q z xt D L xs y (pc + 3, V, .ref 5 :: r, μ, ck))) : (am_SD p l e R s m args below meth c Q z xt D L xs y (pc, V, r, μ, ck)) := by
  intro H locs ls hR hS hl hn hz
  replace hR : am_R z xt D L xs μ s H := hR
  replace hz : s.heap.size + ck.1 = z + μ.1.1 := hz
  obtain ⟨hx, hb, hml, hown, hts, hnm, hzs, hX, hfr, hlo, hmc, hms⟩ := G
  obtain ⟨r1, r2, r3, r4, ka, hP, hA⟩ := id hR
  rw [hq] at hown
  rcases hX.2.2.2.1 with q | q
  · exact va_gets hx hb q hS hown (hts _ (am_tbl_mem am_st5 rfl)) (fun _ q => q) hd (h1 H locs ls hR hS hl hn hz)
  · exact va_gets hx hb q hS hown (hts _ (am_tbl_mem am_st5 rfl)) (fun _ q => q) hd (h2 H locs ls hR hS hl hn hz)
theorem am_is3 {L : Nat} {μ : am_M} {a : Nat} (h : am_sh L μ) (ht : (μ.1.2 a).1 = 116) : a = 3 := by
  obtain ⟨s1, s2, s30, s31, s32, s33, s34, s35, s36, s37⟩ := h
  by_cases ha : 8 ≤ a
  · by_cases hb : a < 8 + μ.1.1
    · rcases s2 a ha hb with q | q | q <;> omega
    · have := s1 a (by omega)
      omega
  · have hcs : a = 0 ∨ a = 1 ∨ a = 2 ∨ a = 3 ∨ a = 4 ∨ a = 5 ∨ a = 6 ∨ a = 7 := by omega
    rcases hcs with rfl | rfl | rfl | rfl | rfl | rfl | rfl | rfl
    · rw [s30] at ht; exact absurd (show (0 : Nat) = 116 from ht) (by decide)
    · rw [s31] at ht; exact absurd ht (by decide)
    · rw [s32] at ht; exact absurd ht (by decide)
    · rfl
    · rw [s34] at ht; exact absurd ht (by decide)
    · omega
    · omega
    · omega
theorem sn_sv {a : Nat} (G : am_Gm p l e R s m args below meth c z xt L xs y d) (hd : decode (am_by y) pc = .ok (.getfield 9, 3)) (hq : am_own y = 16) (ht : (μ.1.2 a).1 = 116) (h : (am_SD p l e R s m args below meth c Q z xt D L xs y (pc + 3, V, .ref 4 :: r, μ, ck))) : (am_SD p l e R s m args below meth c Q z xt D L xs y (pc, V, .ref a :: r, μ, ck)) := by
  intro H locs ls hR hS hl hn hz
  replace hR : am_R z xt D L xs μ s H := hR
  replace hz : s.heap.size + ck.1 = z + μ.1.1 := hz
  obtain ⟨hx, hb, hml, hown, hts, hnm, hzs, hX, hfr, hlo, hmc, hms⟩ := G
  obtain ⟨r1, r2, r3, r4, ka, hP, hA⟩ := id hR
  rw [hq] at hown
  have ha := am_is3 r2 ht
  subst ha
  exact vk_getf hx hb hX.2.2.2.2.2.2.1 hS hown (hts _ (am_tbl_mem am_st6 rfl)) (fun _ q => q) hd (h H locs ls hR hS hl hn hz)
theorem sn_sc {a : Nat} (G : am_Gm p l e R s m args below meth c z xt L xs y d) (hd : decode (am_by y) pc = .ok (.getfield 15, 3)) (hq : am_own y = 16) (ht : (μ.1.2 a).1 = 116) (h : (am_SD p l e R s m args below meth c Q z xt D L xs y (pc + 3, V, .int 0 :: r, μ, ck))) : (am_SD p l e R s m args below meth c Q z xt D L xs y (pc, V, .ref a :: r, μ, ck)) := by
  intro H locs ls hR hS hl hn hz
  replace hR : am_R z xt D L xs μ s H := hR
  replace hz : s.heap.size + ck.1 = z + μ.1.1 := hz
  obtain ⟨hx, hb, hml, hown, hts, hnm, hzs, hX, hfr, hlo, hmc, hms⟩ := G
  obtain ⟨r1, r2, r3, r4, ka, hP, hA⟩ := id hR
  rw [hq] at hown
  have ha := am_is3 r2 ht
  subst ha
  exact vk_getf hx hb hX.2.2.2.2.2.2.2.1 hS hown (hts _ (am_tbl_mem am_st7 rfl)) (fun _ q => q) hd (h H locs ls hR hS hl hn hz)
theorem sn_ldcS (G : am_Gm p l e R s m args below meth c z xt L xs y d) (hd : decode (am_by y) pc = .ok (.ldc 54, 2)) (hq : am_own y = 7) (h : (am_SD p l e R s m args below meth c Q z xt D L xs y (pc + 2, V, .ref 3 :: r, μ, ck))) : (am_SD p l e R s m args below meth c Q z xt D L xs y (pc, V, r, μ, ck)) := by
  intro H locs ls hR hS hl hn hz
  replace hR : am_R z xt D L xs μ s H := hR
  replace hz : s.heap.size + ck.1 = z + μ.1.1 := hz
  obtain ⟨hx, hb, hml, hown, hts, hnm, hzs, hX, hfr, hlo, hmc, hms⟩ := G
  obtain ⟨r1, r2, r3, r4, ka, hP, hA⟩ := id hR
  rw [hq] at hown
  exact va_ldcS hx hb hown hX.2.2.2.2.1 hd (h H locs ls hR hS hl hn hz)
theorem sn_ldc {n : Nat} {v : Int32} (G : am_Gm p l e R s m args below meth c z xt L xs y d) (hd : decode (am_by y) pc = .ok (.ldc n, 2)) (hq : (am_ics (am_own y)).lookup n = some v) (h : (am_SD p l e R s m args below meth c Q z xt D L xs y (pc + 2, V, .int v :: r, μ, ck))) : (am_SD p l e R s m args below meth c Q z xt D L xs y (pc, V, r, μ, ck)) := by
  intro H locs ls hR hS hl hn hz
  replace hR : am_R z xt D L xs μ s H := hR
  replace hz : s.heap.size + ck.1 = z + μ.1.1 := hz
  obtain ⟨hx, hb, hml, hown, hts, hnm, hzs, hX, hfr, hlo, hmc, hms⟩ := G
  obtain ⟨r1, r2, r3, r4, ka, hP, hA⟩ := id hR
  exact lv_ldc hx hb hown (hts _ (am_tbl_mem (of_decide_eq_true (am_iok hq)) rfl)) hd (h H locs ls hR hS hl hn hz)
theorem sn_ldc_w {n : Nat} {v : Int32} (G : am_Gm p l e R s m args below meth c z xt L xs y d) (hd : decode (am_by y) pc = .ok (.ldc_w n, 3)) (hq : (am_ics (am_own y)).lookup n = some v) (h : (am_SD p l e R s m args below meth c Q z xt D L xs y (pc + 3, V, .int v :: r, μ, ck))) : (am_SD p l e R s m args below meth c Q z xt D L xs y (pc, V, r, μ, ck)) := by
  intro H locs ls hR hS hl hn hz
  replace hR : am_R z xt D L xs μ s H := hR
  replace hz : s.heap.size + ck.1 = z + μ.1.1 := hz
  obtain ⟨hx, hb, hml, hown, hts, hnm, hzs, hX, hfr, hlo, hmc, hms⟩ := G
  obtain ⟨r1, r2, r3, r4, ka, hP, hA⟩ := id hR
  exact lv_ldcw hx hb hown (hts _ (am_tbl_mem (of_decide_eq_true (am_iok hq)) rfl)) hd (h H locs ls hR hS hl hn hz)
theorem sn_ldc2_w {n : Nat} {v : Int64} (G : am_Gm p l e R s m args below meth c z xt L xs y d) (hd : decode (am_by y) pc = .ok (.ldc2_w n, 3)) (hq : (am_lcs (am_own y)).lookup n = some v) (h : (am_SD p l e R s m args below meth c Q z xt D L xs y (pc + 3, V, .long v :: r, μ, ck))) : (am_SD p l e R s m args below meth c Q z xt D L xs y (pc, V, r, μ, ck)) := by
  intro H locs ls hR hS hl hn hz
  replace hR : am_R z xt D L xs μ s H := hR
  replace hz : s.heap.size + ck.1 = z + μ.1.1 := hz
  obtain ⟨hx, hb, hml, hown, hts, hnm, hzs, hX, hfr, hlo, hmc, hms⟩ := G
  obtain ⟨r1, r2, r3, r4, ka, hP, hA⟩ := id hR
  exact lv_ldc2 hx hb hown (hts _ (am_tbl_mem (of_decide_eq_true (am_jok hq)) rfl)) hd (h H locs ls hR hS hl hn hz)
theorem am_tsw_mem {x : Int32} {pc : Nat} {V : am_L} {r : List Value} {μ : am_M} {ck : Nat × Nat} : ∀ (offs : List Int) (k : Int) (i : Nat) (off : Int), offs[i]? = some off → x.toInt = k + i → (x.toInt = k + i, (((pc : Int) + off).toNat, V, r, μ, ck)) ∈ am_tsw x pc V r μ ck k offs := by
  intro offs
  induction offs with
  | nil => intro k i off h; simp at h
  | cons o t ih =>
    intro k i off h hx
    match i, h with
    | 0, h =>
      cases h
      have e : k + ((0 : Nat) : Int) = k := by omega
      rw [e]
      exact List.mem_cons_self
    | i + 1, h =>
      have e : k + ((i + 1 : Nat) : Int) = k + 1 + (i : Int) := by push_cast; omega
      rw [e]
      exact List.mem_cons_of_mem _ (ih (k + 1) i off h (by rw [hx, e]))
theorem sn_tsw {df lo hi : Int} {offs : Array Int} {n : Nat} {x : Int32} (G : am_Gm p l e R s m args below meth c z xt L xs y d) (hd : decode (am_by y) pc = .ok (.tableswitch df lo hi offs, n)) (h0 : 0 ≤ (pc : Int) + df) (h1 : ∀ o ∈ offs.toList, 0 ≤ (pc : Int) + o) (h2 : hi + 1 = lo + offs.toList.length) (h : ∀ b ∈ ((x.toInt < lo ∨ hi < x.toInt), (((pc : Int) + df).toNat, V, r, μ, ck)) :: am_tsw x pc V r μ ck lo offs.toList, b.1 → am_SD p l e R s m args below meth c Q z xt D L xs y b.2) : (am_SD p l e R s m args below meth c Q z xt D L xs y (pc, V, .int x :: r, μ, ck)) := by
  intro H locs ls hR hS hl hn hz
  replace hR : am_R z xt D L xs μ s H := hR
  replace hz : s.heap.size + ck.1 = z + μ.1.1 := hz
  obtain ⟨hx, hb, hml, hown, hts, hnm, hzs, hX, hfr, hlo, hmc, hms⟩ := G
  obtain ⟨r1, r2, r3, r4, ka, hP, hA⟩ := id hR
  by_cases hlo : x.toInt < lo ∨ hi < x.toInt
  · exact lv_tableOut hx hb hd hlo (sn_tgt h0) (h _ List.mem_cons_self hlo H locs ls hR hS hl hn hz)
  · have hl1 : ¬ x.toInt < lo := fun q => hlo (Or.inl q)
    have hl2 : ¬ hi < x.toInt := fun q => hlo (Or.inr q)
    have hi2 : (x.toInt - lo).toNat < offs.toList.length := by omega
    have he : offs.toList[(x.toInt - lo).toNat]? = some (offs.toList[(x.toInt - lo).toNat]'hi2) := List.getElem?_eq_getElem hi2
    generalize hoff : offs.toList[(x.toInt - lo).toNat]'hi2 = off at he
    have hm : off ∈ offs.toList := List.mem_of_getElem? he
    have hxx : x.toInt = lo + (((x.toInt - lo).toNat : Nat) : Int) := by omega
    have hg2 := am_tsw_mem (x := x) (pc := pc) (V := V) (r := r) (μ := μ) (ck := ck) offs.toList lo _ off he hxx
    exact lv_tableIn hx hb hd hl1 hl2 (by rw [← Array.getElem?_toList]; exact he) (sn_tgt (h1 off hm)) (h _ (List.mem_cons_of_mem _ hg2) hxx H locs ls hR hS hl hn hz)
end AM5
