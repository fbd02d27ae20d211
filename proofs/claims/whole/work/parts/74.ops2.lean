section OPS2
variable {d : Nat} {k : am_k} {I I1 I2 : Nat → Nat → Int32} {J : Nat → Nat → Int64} {a b c e f fk fp : Int32} {L : Nat} {w : Nat → Option Nat} {v p q n u W x y z r t m l o s i j : Nat} {N N' : Nat → Nat → Nat} {Z Z' : Nat → Nat → Int32} {H H' : List hT} {K : Option hT} {B : Nat → Int32}
theorem RG_9 (hs : SW N) (h : RG I N Z) : RG (am_up I 129 1 b) N Z := RG_fr h hs.2.2.2.2.2.1 hs.2.2.2.2.2.2.1 (fun a g1 g2 => upR (by omega))
theorem op_crust : OP L (d + 10) (d + 10) mX11_crust mX12_crust [.int a, .int b, .int c] := by
  rintro I J w ⟨N, Z, H, K, t, B, fk, fp, ha, hc, hm⟩
  have hs := ha.1
  have hs2 := hs
  have hd := ha.2.1
  have hR := hc.1
  have hR2 := hR
  obtain ⟨pW, pH, pT, pS, pL, pV, pR, pCr, pWl, pWy, pFo, pSh, pNo, pX, pY, pWe, pSa, pKi, pAn, pDg, pTh, pDr, pSp, pSk, pS0, pSx, pSy, pSt, pRa, pRb, pRl, pRt, pMe, pBa, pBt⟩ := hR
  obtain ⟨sW3, sW, sH3, sH, sL, sV, sR, sv, sh, sr, sw, ss, so⟩ := hs
  by_cases h : inC (nI (N 0 0)) (nI (N 0 1)) a b ∧ inR c 0 (nI 99)
  rotate_left
  · rw [c_crust_f pW pH (by omega) sW (by omega) sH h]
    refine ⟨_, w, rfl, rfl, rfl, rfl, ?_⟩
    rw [m_crust_f (by rw [hm.1.2.1, hm.1.2.2.1]; exact h)]
    exact ⟨w, rfl, rfl, rfl, ST_same ha hc hm⟩
  obtain ⟨x, y, hx, hy, rfl, rfl⟩ := inC_of (by omega) (by omega) h.1
  obtain ⟨z, hz, rfl⟩ := inR0_of (by decide) h.2
  have ec : y * 12 + x = 12 * y + x := by omega
  rw [c_crust_t pW pH (by omega) sW (by omega) sH hx hy hz, ec]
  refine ⟨_, w, rfl, rfl, by simp (disch := omega) only [upR], rfl, ?_⟩
  have hm1 := MI_fr (I' := am_up (am_up I 10 (12 * y + x) (nI z)) 129 1 0) hm (fun a h => by simp (disch := omega) only [upR])
  rw [m_crust_t hm1.1.2.1 hm1.1.2.2.1 sW sH hx hy hz, Nat.add_assoc 72]
  refine ⟨w, rfl, rfl, rfl, OP_end (AW_mod ha (SW_Cr hs2) (DW_Cr hd hz)) (CI_mod ha hc (RG_9 (SW_Cr hs2) (rg_Cr hR2 (by omega))) (fun f hf => upR (by omega)) (fun a g1 g2 => by simp (disch := omega) only [upR]) upS (by simp (disch := omega) only [upS, upA, upI, upR, rwS, rwA])) (MI_mod hm1 (RM_3 (rm_Cr (RM_0 hm1.1) (by omega))) upS (fun j hj => by simp (disch := omega) only [upA, upI]) (fun a ha => by simp (disch := omega) only [upR])) (fun a ha => by simp (disch := omega) only [upR])⟩
theorem op_well : OP L (d + 10) (d + 10) mX11_well mX12_well [.int a, .int b, .int c] := by
  rintro I J w ⟨N, Z, H, K, t, B, fk, fp, ha, hc, hm⟩
  have hs := ha.1
  have hs2 := hs
  have hd := ha.2.1
  have hR := hc.1
  have hR2 := hR
  obtain ⟨pW, pH, pT, pS, pL, pV, pR, pCr, pWl, pWy, pFo, pSh, pNo, pX, pY, pWe, pSa, pKi, pAn, pDg, pTh, pDr, pSp, pSk, pS0, pSx, pSy, pSt, pRa, pRb, pRl, pRt, pMe, pBa, pBt⟩ := hR
  obtain ⟨sW3, sW, sH3, sH, sL, sV, sR, sv, sh, sr, sw, ss, so⟩ := hs
  by_cases h : inC (nI (N 0 0)) (nI (N 0 1)) a b
  rotate_left
  · rw [c_well_f pW pH (by omega) sW (by omega) sH h]
    refine ⟨_, w, rfl, rfl, rfl, rfl, ?_⟩
    rw [m_well_f (by rw [hm.1.2.1, hm.1.2.2.1]; exact h)]
    exact ⟨w, rfl, rfl, rfl, ST_same ha hc hm⟩
  obtain ⟨x, y, hx, hy, rfl, rfl⟩ := inC_of (by omega) (by omega) h
  obtain ⟨q, hq, eq⟩ : ∃ q, q ≤ 1 ∧ bi (¬ c = 0) = nI q := by
    by_cases h0 : c = 0
    · exact ⟨0, by omega, by rw [bi_f (fun z => z h0)]; exact nI_0.symm⟩
    · exact ⟨1, by omega, by rw [bi_t h0]; rfl⟩
  have ec : y * 12 + x = 12 * y + x := by omega
  rw [c_well_t pW pH (by omega) sW (by omega) sH hx hy, ec, eq]
  refine ⟨_, w, rfl, rfl, by simp (disch := omega) only [upR], rfl, ?_⟩
  have hm1 := MI_fr (I' := am_up (am_up I 11 (12 * y + x) (nI q)) 129 1 0) hm (fun a h => by simp (disch := omega) only [upR])
  rw [m_well_t hm1.1.2.1 hm1.1.2.2.1 sW sH hx hy, eq]
  have s1 : SW (am_up N 8 (12 * y + x) q) := SW_Wl hs2 (by omega) hq (by omega) (by omega)
  refine ⟨w, rfl, rfl, rfl, OP_end (AW_mod ha s1 (DW_Wl hd)) (CI_mod ha hc (RG_9 s1 (rg_Wl hR2 (by omega))) (fun f hf => upR (by omega)) (fun a g1 g2 => by simp (disch := omega) only [upR]) upS (by simp (disch := omega) only [upS, upA, upI, upR, rwS, rwA])) (MI_mod hm1 (RM_3 (rm_Wl2 (RM_0 hm1.1) (by omega))) upS (fun j hj => by simp (disch := omega) only [upA, upI]) (fun a ha => by simp (disch := omega) only [upR])) (fun a ha => by simp (disch := omega) only [upR])⟩
theorem op_wind : OP L (d + 10) (d + 10) mX11_wind mX12_wind [.int a, .int b, .int c, .int e] := by
  rintro I J w ⟨N, Z, H, K, t, B, fk, fp, ha, hc, hm⟩
  have hs := ha.1
  have hd := ha.2.1
  have hR := hc.1
  by_cases h : windOk a b c e
  rotate_left
  · rw [c_wind_f h]
    refine ⟨_, w, rfl, rfl, rfl, rfl, ?_⟩
    rw [m_wind_f h]
    exact ⟨w, rfl, rfl, rfl, ST_same ha hc hm⟩
  obtain ⟨h1, h2, h3, h4⟩ := h
  obtain ⟨x, hx, rfl⟩ := inR0_of (by decide) h1
  obtain ⟨y, hy, rfl⟩ := inR0_of (by decide) h2
  obtain ⟨z, hz, rfl⟩ := inR0_of (by decide) h3
  obtain ⟨v, hv, rfl⟩ := inR0_of (by decide) h4
  rw [c_wind_t (by omega) (by omega) hz hv]
  refine ⟨_, w, rfl, rfl, by simp (disch := omega) only [upR], rfl, ?_⟩
  have hm1 := MI_fr (I' := am_up (am_up (am_up (am_up I 12 x (nI y)) 13 x (nI z)) 14 x (nI v)) 129 1 0) hm (fun a h => by simp (disch := omega) only [upR])
  rw [m_wind_t (by omega) (by omega) hz hv]
  have s1 : SW (am_up (am_up (am_up N 9 x y) 10 x z) 11 x v) := SW_Wi hs (by omega) hz hv
  refine ⟨w, rfl, rfl, rfl, OP_end (AW_mod ha s1 (DW_Wi hd)) (CI_mod ha hc (RG_9 s1 (rg_Sh (rg_Fo (rg_Wy hR (by omega)) (by omega)) (by omega))) (fun f hf => by simp (disch := omega) only [upR]) (fun a g1 g2 => by simp (disch := omega) only [upR]) upS (by simp (disch := omega) only [upS, upA, upI, upR, rwS, rwA])) (MI_mod hm1 (RM_3 (rm_Sh2 (rm_Fo2 (rm_Wy2 (RM_0 hm1.1) (by omega)) (by omega)) (by omega))) upS (fun j hj => by simp (disch := omega) only [upA, upI]) (fun a ha => by simp (disch := omega) only [upR])) (fun a ha => by simp (disch := omega) only [upR])⟩
theorem op_village : OP L (d + 10) (d + 10) mX11_village mX12_village [.int a, .int b, .int c, .int e, .int f] := by
  rintro I J w ⟨N, Z, H, K, t, B, fk, fp, ha, hc, hm⟩
  have hs := ha.1
  have hs2 := hs
  have hd := ha.2.1
  have hR := hc.1
  have hR2 := hR
  obtain ⟨pW, pH, pT, pS, pL, pV, pR, pCr, pWl, pWy, pFo, pSh, pNo, pX, pY, pWe, pSa, pKi, pAn, pDg, pTh, pDr, pSp, pSk, pS0, pSx, pSy, pSt, pRa, pRb, pRl, pRt, pMe, pBa, pBt⟩ := hR
  obtain ⟨sW3, sW, sH3, sH, sL, sV, sR, sv, sh, sr, sw, ss, so⟩ := hs
  have mV := hm.1.2.2.2.1
  have key : ∀ x y, x < N 0 0 → y < N 0 1 → o2i (fnd (vOn I (nI x) (nI y)) (N 0 4) 0) = o2i (fnd (vA I (-1) (nI (12 * y + x))) (N 0 4) 0) := by
    intro x y hx hy
    have e1 := c_vOn hR2 hs2 hd (c := 12 * y + x) (by omega)
    have e2 := m_vAt1 hm.1 hs2 hd (q := 12 * y + x) (by omega)
    rw [show (12 * y + x) % 12 = x by omega, show (12 * y + x) / 12 = y by omega] at e1
    rw [e1, e2]
  by_cases h : vilC I (N 0 0) (N 0 1) (N 0 4) a b c e f
  rotate_left
  · rw [c_village_f pW pH (by omega) sW (by omega) sH pV sV h]
    refine ⟨_, w, rfl, rfl, rfl, rfl, ?_⟩
    rw [m_village_f mV sV]
    · exact ⟨w, rfl, rfl, rfl, ST_same ha hc hm⟩
    · intro g
      apply h
      obtain ⟨g1, g2, g3, g4, g5, g6⟩ := g
      rw [hm.1.2.1, hm.1.2.2.1] at g1
      refine ⟨g1, g2, g3, g4, ?_, by omega⟩
      obtain ⟨x, y, hx, hy, rfl, rfl⟩ := inC_of (by omega) (by omega) g1
      rw [mulN, addN] at g6
      rw [key x y hx hy]
      exact g6
  obtain ⟨h1, h2, h3, h4, h5, h6⟩ := h
  rw [c_village_t pW pH (by omega) sW (by omega) sH pV h1 h2 h3 h4 h5 h6]
  obtain ⟨x, y, hx, hy, rfl, rfl⟩ := inC_of (by omega) (by omega) h1
  obtain ⟨z, hz, rfl⟩ := inR0_of (by decide) h2
  obtain ⟨v, hv, rfl⟩ := inR0_of (by decide) h3
  obtain ⟨q, hq, rfl⟩ := inR0_of (by decide) h4
  have fr : ∀ a, a ≠ 9 → a ≠ 129 → a ≠ 19 + N 0 4 → am_up (am_up (vilI I (N 0 4) (nI x) (nI y) (nI z) (nI v) (nI q)) 9 5 (nI (N 0 4 + 1))) 129 1 0 a = I a := by
    intro a g1 g2 g3
    unfold vilI
    simp (disch := omega) only [upR]
  refine ⟨_, w, rfl, rfl, fr 0 (by omega) (by omega) (by omega), rfl, ?_⟩
  have hm1 := MI_fr (I' := am_up (am_up (vilI I (N 0 4) (nI x) (nI y) (nI z) (nI v) (nI q)) 9 5 (nI (N 0 4 + 1))) 129 1 0) hm (fun a h => fr a (by omega) (by omega) (by omega))
  have h5' : o2i (fnd (vA (am_up (am_up (vilI I (N 0 4) (nI x) (nI y) (nI z) (nI v) (nI q)) 9 5 (nI (N 0 4 + 1))) 129 1 0) (-1) (nI (12 * y + x))) (N 0 4) 0) = -1 := by
    rw [m_vAt1 hm1.1 hs2 hd (by omega), ← m_vAt1 hm.1 hs2 hd (by omega), ← key x y hx hy]
    exact h5
  rw [m_village_t hm1.1.2.2.2.1 h6 hm1.1.2.1 hm1.1.2.2.1 sW sH hx hy hz hv hq h5']
  have dz := hd.2.2.2.2.1 (N 0 4) (Nat.le_refl _) h6
  have h16 : N 16 (N 0 4) = 0 := by
    apply Classical.byContradiction
    intro g
    have := ((ss (N 0 4) h6).1 g).1
    omega
  have s1 := SW_Vi (N := N) (n := N 0 4) (x := x) (y := y) (z := z) (v := v) (q := q) hs2 rfl h6 hz hv hq
  have r1 := RG_Vi (x := x) (y := y) (z := z) (v := v) (q := q) hR2 rfl h6 sR dz.1 dz.2.1 dz.2.2.1 dz.2.2.2.1 dz.2.2.2.2 h16
  have m1 := RM_3 (b := 0) (rm_V2 (q := N 0 4 + 1) (rm_An2 (q := 0) (rm_Ki2 (q := q) (rm_Sa2 (q := v) (rm_We2 (q := z) (rm_Y (q := y) (rm_X (q := x) (RM_0 (b := 0) hm1.1) h6) h6) h6) h6) h6) h6))
  rw [nI_0] at m1
  refine ⟨w, rfl, rfl, rfl, OP_end (AW_mod ha s1 (DW_Vi hd rfl hx hy)) (CI_mod ha hc r1 (fun f hf => by simp (disch := omega) only [upR]) (fun a g1 g2 => fr a (by omega) g2 (by omega)) upS (by unfold vilI; simp (disch := omega) only [upS, upA, upI, upR, rwS, rwA])) (MI_mod hm1 m1 upS (fun j hj => by simp (disch := omega) only [upA, upI]) (fun a ha => by simp (disch := omega) only [upR])) (fun a ha => by simp (disch := omega) only [upR])⟩
theorem op_set : OP L (d + 10) (d + 10) mX11_set mX12_set [.int a, .int b, .int c] := by
  rintro I J w ⟨N, Z, H, K, t, B, fk, fp, ha, hc, hm⟩
  have hs := ha.1
  have hs2 := hs
  have hd := ha.2.1
  have hR := hc.1
  have hR2 := hR
  obtain ⟨pW, pH, pT, pS, pL, pV, pR, pCr, pWl, pWy, pFo, pSh, pNo, pX, pY, pWe, pSa, pKi, pAn, pDg, pTh, pDr, pSp, pSk, pS0, pSx, pSy, pSt, pRa, pRb, pRl, pRt, pMe, pBa, pBt⟩ := hR
  obtain ⟨sW3, sW, sH3, sH, sL, sV, sR, sv, sh, sr, sw, ss, so⟩ := hs
  have mV := hm.1.2.2.2.1
  by_cases h : setOk (nI (N 0 4)) a b c
  rotate_left
  · rw [c_set_f pV sV h]
    refine ⟨_, w, rfl, rfl, rfl, rfl, ?_⟩
    rw [m_set_f (by rw [mV]; exact h)]
    exact ⟨w, rfl, rfl, rfl, ST_same ha hc hm⟩
  rcases h with ⟨rfl, h⟩ | ⟨hv, ⟨rfl, h⟩ | ⟨rfl, h⟩ | ⟨rfl, h⟩⟩
  · obtain ⟨z, h1, h2, rfl⟩ := inRN_of (l := 1) (m := 99) (by decide) (by decide) h
    rw [ltr3, c_set_3 h1 h2]
    refine ⟨_, w, rfl, rfl, by simp (disch := omega) only [upR], rfl, ?_⟩
    have hm1 := MI_fr (I' := am_up (am_up I 9 4 (nI z)) 129 1 0) hm (fun a h => by simp (disch := omega) only [upR])
    rw [m_set_3 h1 h2]
    have s1 : SW (am_up N 0 3 z) := SW_Li hs2 h2
    refine ⟨w, rfl, rfl, rfl, OP_end (AW_mod ha s1 (DW_Li hd)) (CI_mod ha hc (RG_9 s1 (rg_L hR2)) (fun f hf => by simp (disch := omega) only [upR]) (fun a g1 g2 => by simp (disch := omega) only [upR]) upS (by simp (disch := omega) only [upS, upA, upI, upR, rwS, rwA])) (MI_mod hm1 (RM_3 (rm_L2 (RM_0 hm1.1))) upS (fun j hj => by simp (disch := omega) only [upA, upI]) (fun a ha => by simp (disch := omega) only [upR])) (fun a ha => by simp (disch := omega) only [upR])⟩
  · obtain ⟨v, hvn, rfl⟩ := inV_of (by omega) hv
    obtain ⟨z, h2, rfl⟩ := inR0_of (m := 1) (by decide) h
    rw [← nI_0, c_set_0 pV sV hvn h2]
    refine ⟨_, w, rfl, rfl, by simp (disch := omega) only [upR], rfl, ?_⟩
    have hm1 := MI_fr (I' := am_up (am_up I (19 + v) 6 (nI z)) 129 1 0) hm (fun a h => by simp (disch := omega) only [upR])
    rw [m_set_0 hm1.1.2.2.2.1 sV hvn h]
    have s1 : SW (am_up N 6 v z) := SW_An hs2 h2
    refine ⟨w, rfl, rfl, rfl, OP_end (AW_mod ha s1 (DW_An hd)) (CI_mod ha hc (RG_9 s1 (rg_An hR2 (by omega) h2)) (fun f hf => by simp (disch := omega) only [upR]) (fun a g1 g2 => by simp (disch := omega) only [upR]) upS (by simp (disch := omega) only [upS, upA, upI, upR, rwS, rwA])) (MI_mod hm1 (RM_3 (rm_An2 (RM_0 hm1.1) (by omega))) upS (fun j hj => by simp (disch := omega) only [upA, upI]) (fun a ha => by simp (disch := omega) only [upR])) (fun a ha => by simp (disch := omega) only [upR])⟩
  · obtain ⟨v, hvn, rfl⟩ := inV_of (by omega) hv
    obtain ⟨z, h2, rfl⟩ := inR0_of (by decide) h
    rw [← n1, c_set_1 pV sV hvn h2]
    refine ⟨_, w, rfl, rfl, by simp (disch := omega) only [upR], rfl, ?_⟩
    have hm1 := MI_fr (I' := am_up (am_up I (19 + v) 4 (nI z)) 129 1 0) hm (fun a h => by simp (disch := omega) only [upR])
    rw [m_set_1 hm1.1.2.2.2.1 sV hvn h2]
    have s1 : SW (am_up N 4 v z) := SW_Sa hs2 h2
    refine ⟨w, rfl, rfl, rfl, OP_end (AW_mod ha s1 (DW_Sa hd)) (CI_mod ha hc (RG_9 s1 (rg_Sa hR2 (by omega))) (fun f hf => by simp (disch := omega) only [upR]) (fun a g1 g2 => by simp (disch := omega) only [upR]) upS (by simp (disch := omega) only [upS, upA, upI, upR, rwS, rwA])) (MI_mod hm1 (RM_3 (rm_Sa2 (RM_0 hm1.1) (by omega))) upS (fun j hj => by simp (disch := omega) only [upA, upI]) (fun a ha => by simp (disch := omega) only [upR])) (fun a ha => by simp (disch := omega) only [upR])⟩
  · obtain ⟨v, hvn, rfl⟩ := inV_of (by omega) hv
    obtain ⟨z, h2, rfl⟩ := inR0_of (by decide) h
    rw [ltr2, c_set_2 pV sV hvn h2]
    refine ⟨_, w, rfl, rfl, by simp (disch := omega) only [upR], rfl, ?_⟩
    have hm1 := MI_fr (I' := am_up (am_up I (19 + v) 3 (nI z)) 129 1 0) hm (fun a h => by simp (disch := omega) only [upR])
    rw [m_set_2 hm1.1.2.2.2.1 sV hvn h2]
    have s1 : SW (am_up N 3 v z) := SW_We hs2 h2
    refine ⟨w, rfl, rfl, rfl, OP_end (AW_mod ha s1 (DW_We hd)) (CI_mod ha hc (RG_9 s1 (rg_We hR2 (by omega))) (fun f hf => by simp (disch := omega) only [upR]) (fun a g1 g2 => by simp (disch := omega) only [upR]) upS (by simp (disch := omega) only [upS, upA, upI, upR, rwS, rwA])) (MI_mod hm1 (RM_3 (rm_We2 (RM_0 hm1.1) (by omega))) upS (fun j hj => by simp (disch := omega) only [upA, upI]) (fun a ha => by simp (disch := omega) only [upR])) (fun a ha => by simp (disch := omega) only [upR])⟩
end OPS2
