section OPS3
variable {d : Nat} {k : am_k} {I I1 I2 : Nat → Nat → Int32} {J : Nat → Nat → Int64} {a b c e f fk fp : Int32} {L : Nat} {w : Nat → Option Nat} {v p q n u W x y z r t m l o s i j : Nat} {N N' : Nat → Nat → Nat} {Z Z' : Nat → Nat → Int32} {H H' : List hT} {K : Option hT} {B : Nat → Int32}
theorem op_rope : OP L (d + 10) (d + 10) mX11_rope mX12_rope [.int a, .int b, .int c] := by
  rintro I J w ⟨N, Z, H, K, t, B, fk, fp, ha, hc, hm⟩
  have hs := ha.1
  have hs2 := hs
  have hd := ha.2.1
  have hR := hc.1
  have hR2 := hR
  obtain ⟨pW, pH, pT, pS, pL, pV, pR, pCr, pWl, pWy, pFo, pSh, pNo, pX, pY, pWe, pSa, pKi, pAn, pDg, pTh, pDr, pSp, pSk, pS0, pSx, pSy, pSt, pRa, pRb, pRl, pRt, pMe, pBa, pBt⟩ := hR
  obtain ⟨sW3, sW, sH3, sH, sL, sV, sR, sv, sh, sr, sw, ss, so⟩ := hs
  have mV := hm.1.2.2.2.1
  have mR := hm.1.2.2.2.2.2.1
  by_cases h : ropC (N 0 4) (N 0 5) a b c
  rotate_left
  · rw [c_rope_f pV sV h]
    refine ⟨_, w, rfl, rfl, rfl, rfl, ?_⟩
    rw [m_rope_f (by intro g; apply h; obtain ⟨g1, g2, g3, g4, _⟩ := g; rw [mV] at g1 g2; exact ⟨g1, g2, g3, g4⟩)]
    exact ⟨w, rfl, rfl, rfl, ST_same ha hc hm⟩
  obtain ⟨h1, h2, h3, h4⟩ := h
  obtain ⟨v, hv, rfl⟩ := inV_of (by omega) h1
  obtain ⟨u, hu, rfl⟩ := inV_of (by omega) h2
  obtain ⟨z, z1, z2, rfl⟩ := inRN_of (l := 1) (m := 12) (by decide) (by decide) h4
  have hvu : ¬ v = u := fun g => h3 (by rw [g])
  have b1 := cN_b hs2 hd hv
  have b2 := cN_b hs2 hd hu
  rw [c_rope_t pV sV hv hu hvu z1 z2 pR sR (pX v hv) (pY v hv) (pX u hu) (pY u hu) b1.1 b1.2.1 b2.1 b2.2.1]
  by_cases g : farN (12 * N 2 v + N 1 v) (12 * N 2 u + N 1 u) ≤ z ∧ N 0 5 < 20
  rotate_left
  · rw [if_neg g]
    refine ⟨_, w, rfl, rfl, rfl, rfl, ?_⟩
    by_cases g5 : N 0 5 < 20
    · rw [m_rope_t mV sV hv hu hvu z1 z2 mR g5 (hm.1.1.2.2.1 v (by omega)) (hm.1.1.2.2.2.1 v (by omega)) (hm.1.1.2.2.1 u (by omega)) (hm.1.1.2.2.2.1 u (by omega)) b1.1 b1.2.1 b2.1 b2.2.1, if_neg (fun z => g ⟨z, g5⟩)]
      exact ⟨w, rfl, rfl, rfl, ST_same ha hc hm⟩
    · rw [m_rope_f (by intro g; have := g.2.2.2.2; rw [mR] at this; exact this (by congr 1; omega))]
      exact ⟨w, rfl, rfl, rfl, ST_same ha hc hm⟩
  rw [if_pos g]
  have fr : ∀ a, a ≠ 9 → a ≠ 129 → a ≠ 29 + N 0 5 → am_up (am_up (am_up (am_up (am_up (am_up I (29 + N 0 5) 0 (nI v)) (29 + N 0 5) 1 (nI u)) (29 + N 0 5) 2 (nI z)) (29 + N 0 5) 3 0) 9 6 (nI (N 0 5 + 1))) 129 1 0 a = I a := by
    intro a g1 g2 g3
    simp (disch := omega) only [upR]
  refine ⟨_, w, rfl, rfl, fr 0 (by omega) (by omega) (by omega), rfl, ?_⟩
  have hm1 := MI_fr (I' := am_up (am_up (am_up (am_up (am_up (am_up I (29 + N 0 5) 0 (nI v)) (29 + N 0 5) 1 (nI u)) (29 + N 0 5) 2 (nI z)) (29 + N 0 5) 3 0) 9 6 (nI (N 0 5 + 1))) 129 1 0) hm (fun a h => fr a (by omega) (by omega) (by omega))
  rw [m_rope_t hm1.1.2.2.2.1 sV hv hu hvu z1 z2 hm1.1.2.2.2.2.2.1 g.2 (hm1.1.1.2.2.1 v (by omega)) (hm1.1.1.2.2.2.1 v (by omega)) (hm1.1.1.2.2.1 u (by omega)) (hm1.1.1.2.2.2.1 u (by omega)) b1.1 b1.2.1 b2.1 b2.2.1, if_pos g.1]
  have s1 := SW_Ro (N := N) (r := N 0 5) (v := v) (u := u) (z := z) hs2 rfl g.2 hv hu hvu z2
  have r1 := RG_Ro (v := v) (u := u) (z := z) hR2 rfl g.2 sV
  have m1 := RM_3 (b := 0) (rm_R2 (q := N 0 5 + 1) (rm_Rt (q := 0) (rm_Rl2 (q := z) (rm_Rb2 (q := u) (rm_Ra2 (q := v) (RM_0 (b := 0) hm1.1) g.2) g.2) g.2) g.2))
  rw [nI_0] at m1
  refine ⟨w, rfl, rfl, rfl, OP_end (AW_mod ha s1 (DW_Ro hd)) (CI_mod ha hc r1 (fun f hf => by simp (disch := omega) only [upR]) (fun a g1 g2 => fr a (by omega) g2 (by omega)) upS (by simp (disch := omega) only [upS, upA, upI, upR, rwS, rwA])) (MI_mod hm1 m1 upS (fun j hj => by simp (disch := omega) only [upA, upI]) (fun a ha => by simp (disch := omega) only [upR])) (fun a ha => by simp (disch := omega) only [upR])⟩
theorem CI_gen {t' : Nat} {B' : Nat → Int32} {fk' fp' : Int32} (ha : AW N Z H K t B) (h : CI I w N Z H K t B fk fp) (hf : ∀ a, a ≠ 223 → a ≠ 224 → a ≠ 227 → a < 249 → I1 a = I a) (ht : I1 223 1 = nI t' ∧ ∀ i, i < t' → I1 224 i &&& nI 255 = B' i) (h5 : I1 227 5 = fk') (h6 : I1 227 6 = fp') : CI I1 w N Z H K t' B' fk' fp' := by
  obtain ⟨q1, q2, q3, q4, q5, q6, q7, q8⟩ := h
  obtain ⟨a1, a2, a3, a4, a5, a6⟩ := ha
  exact ⟨RG_fr q1 a1.2.2.2.2.2.1 a1.2.2.2.2.2.2.1 (fun a _ _ => hf a (by omega) (by omega) (by omega) (by omega)), RO_fr q2 (fun a j g _ _ => by rw [hf a (by unfold isR at g; omega) (by unfold isR at g; omega) (by unfold isR at g; omega) (by unfold isR at g; omega)]), q3, RHc_fr q4 a3 a1 (fun a _ _ => hf a (by omega) (by omega) (by omega) (by omega)), KC_fr q5 (fun p hp => (a4 p hp).1) (by rw [hf 8 (by omega) (by omega) (by omega) (by omega)]) (fun a _ _ => hf a (by omega) (by omega) (by omega) (by omega)), ht, h5, h6⟩
theorem MI_gen {t' : Nat} {B' : Nat → Int32} {fk' fp' : Int32} (h : MI I N Z H K t B fk fp) (hf : ∀ a, a ≠ 265 → 250 ≤ a → I1 a = I a) (h9 : ∀ j, j ≠ 0 → j ≠ 23 → j ≠ 41 → j ≠ 42 → I1 249 j = I 249 j) (ht : I1 249 23 = nI t' ∧ ∀ i, i < t' → I1 265 i = B' i) (h5 : I1 249 41 = fk') (h6 : I1 249 42 = fp') : MI I1 N Z H K t' B' fk' fp' := by
  obtain ⟨g1, g2, g3, g4, g5, g6, g7⟩ := h
  refine ⟨⟨by rw [hf 250 (by omega) (by omega)]; exact g1.1, RS_fr2 g1.2 (fun a g => hf a (by omega) (by omega)) (fun j g => h9 j (by omega) (by omega) (by omega) (by omega))⟩, ?_, ?_, ht, h5, h6, ?_⟩
  · unfold RHm
    rw [h9 3 (by omega) (by omega) (by omega) (by omega), hf 251 (by omega) (by omega)]
    exact g2
  · cases K with
    | none => show I1 249 49 = 0; rw [h9 49 (by omega) (by omega) (by omega) (by omega)]; exact g3
    | some p => show I1 249 49 = 1 ∧ ∃ I0, RM I0 p.1 p.2 ∧ EN I0 (I1 279); rw [h9 49 (by omega) (by omega) (by omega) (by omega), hf 279 (by omega) (by omega)]; exact g3
  · rw [hf 266 (by omega) (by omega)]; exact g7
theorem op_feed : OP L (d + 10) (d + 10) mX11_feed mX12_feed [.int a, .int b, .int c, .int e, .int f] := by
  rintro I J w ⟨N, Z, H, K, t, B, fk, fp, ha, hc, hm⟩
  have hc2 := hc
  have hm2 := hm
  obtain ⟨c1, c2, c3, c4, c5, ⟨c6, c6'⟩, c7, c8⟩ := hc2
  obtain ⟨m1, m2, m3, ⟨m4, m4'⟩, m5, m6, m7⟩ := hm2
  by_cases h : t ≤ 380
  rotate_left
  · rw [c_feed_f c6 ha.2.2.2.2.1 (by omega)]
    refine ⟨_, w, rfl, rfl, rfl, rfl, ?_⟩
    rw [m_feed_f m4 ha.2.2.2.2.1 (by omega)]
    exact ⟨w, rfl, rfl, rfl, ST_same ha hc hm⟩
  rw [c_feed_t c6 h]
  have fr : ∀ p, p ≠ 223 → p ≠ 224 → am_up (am_rw I 224 (tyC20 (I 224) t a b c e f)) 223 1 (nI (t + 20)) p = I p := by
    intro p g1 g2
    rw [upR g1, rwA g2]
  refine ⟨_, w, rfl, rfl, fr 0 (by omega) (by omega), rfl, ?_⟩
  rw [m_feed_t (by rw [fr 249 (by omega) (by omega)]; exact m4) h, fr 265 (by omega) (by omega)]
  have gr : ∀ p, p ≠ 249 → p ≠ 265 → am_up (am_rw (am_up (am_up (am_rw I 224 (tyC20 (I 224) t a b c e f)) 223 1 (nI (t + 20))) 249 0 0) 265 (ty20 (I 265) t a b c e f)) 249 23 (nI (t + 20)) p = am_up (am_rw I 224 (tyC20 (I 224) t a b c e f)) 223 1 (nI (t + 20)) p := by
    intro p g1 g2
    rw [upR g1, rwA g2, upR g1]
  have g9 : ∀ j, j ≠ 0 → j ≠ 23 → am_up (am_rw (am_up (am_up (am_rw I 224 (tyC20 (I 224) t a b c e f)) 223 1 (nI (t + 20))) 249 0 0) 265 (ty20 (I 265) t a b c e f)) 249 23 (nI (t + 20)) 249 j = I 249 j := by
    intro j g1 g2
    rw [upI g2, rwA (by decide), upI g1, upA (by decide), rwA (by decide)]
  have ha' : AW N Z H K (t + 20) (ty20 B t a b c e f) := ⟨ha.1, ha.2.1, ha.2.2.1, ha.2.2.2.1, by omega, ty_b20 ha.2.2.2.2.2⟩
  refine ⟨w, rfl, rfl, rfl, OP_end (t := t + 20) (B := ty20 B t a b c e f) (fk := fk) (fp := fp) (K := K) (H := H) ha' ?_ ?_ (fun a ha => gr a (by omega) (by omega))⟩
  · refine CI_gen ha hc (fun a g1 g2 g3 _ => fr a g1 g2) ⟨upS, ?_⟩ (by rw [fr 227 (by omega) (by omega)]; exact c7) (by rw [fr 227 (by omega) (by omega)]; exact c8)
    rw [upR (by decide), rwS]
    exact ty_c20 c6'
  · refine MI_gen hm (fun a g1 g2 => by rw [gr a (by omega) g1, fr a (by omega) (by omega)]) (fun j g1 g2 _ _ => g9 j g1 g2) ⟨upS, ?_⟩ (by rw [g9 41 (by omega) (by omega)]; exact m5) (by rw [g9 42 (by omega) (by omega)]; exact m6)
    intro i hi
    rw [upR (by decide), rwS]
    exact ty_e20 m4' i hi
theorem op_end : OP L (d + 10) (d + 10) mX11_end mX12_end [.int a] := by
  rintro I J w ⟨N, Z, H, K, t, B, fk, fp, ha, hc, hm⟩
  have hc2 := hc
  have hm2 := hm
  obtain ⟨c1, c2, c3, c4, c5, ⟨c6, c6'⟩, c7, c8⟩ := hc2
  obtain ⟨m1, m2, m3, ⟨m4, m4'⟩, m5, m6, m7⟩ := hm2
  have t4 := ha.2.2.2.2.1
  by_cases h : inR a 0 (nI t)
  rotate_left
  · rw [c_end_f (by rw [c6]; exact h)]
    refine ⟨_, w, rfl, rfl, rfl, rfl, ?_⟩
    rw [m_end_f (by rw [m4]; exact h)]
    exact ⟨w, rfl, rfl, rfl, ST_same ha hc hm⟩
  rw [c_end_t (by rw [c6]; exact h)]
  refine ⟨_, w, rfl, rfl, upR (by decide), rfl, ?_⟩
  rw [m_end_t (by rw [upA (by decide), m4]; exact h)]
  obtain ⟨n, hn, rfl⟩ := inR0_of (by omega) h
  have ha' : AW N Z H K n B := ⟨ha.1, ha.2.1, ha.2.2.1, ha.2.2.2.1, by omega, fun i hi => ha.2.2.2.2.2 i (by omega)⟩
  refine ⟨w, rfl, rfl, rfl, OP_end (t := n) (B := B) (fk := fk) (fp := fp) (K := K) (H := H) ha' (CI_gen (I1 := am_up I 223 1 (nI n)) ha hc (fun a g1 g2 g3 _ => upR g1) ⟨upS, fun i hi => ?_⟩ ?_ ?_) (MI_gen hm (fun a g1 g2 => ?_) (fun j g1 g2 _ _ => ?_) ⟨upS, fun i hi => ?_⟩ ?_ ?_) (fun a ha => ?_)⟩
  · rw [upR (by decide)]; exact c6' i (by omega)
  · rw [upR (by decide)]; exact c7
  · rw [upR (by decide)]; exact c8
  · simp (disch := omega) only [upR]
  · simp (disch := omega) only [upI, upA]
  · simp (disch := omega) only [upR]; exact m4' i (by omega)
  · simp (disch := omega) only [upI, upA]; exact m5
  · simp (disch := omega) only [upI, upA]; exact m6
  · simp (disch := omega) only [upR]
theorem op_fault : OP L (d + 10) (d + 10) mX11_fault mX12_fault [.int a] := by
  rintro I J w ⟨N, Z, H, K, t, B, fk, fp, ha, hc, hm⟩
  rw [c_fault]
  refine ⟨_, w, rfl, rfl, rfl, rfl, ?_⟩
  rw [m_fault, hc.2.2.2.2.2.2.1, hc.2.2.2.2.2.2.2, hm.2.2.2.2.1, hm.2.2.2.2.2.1]
  exact ⟨w, rfl, rfl, rfl, ST_same ha hc hm⟩
theorem op_of : OP L (d + 10) (d + 10) mX11_of mX12_of [.int a, .int b] := by
  rintro I J w ⟨N, Z, H, K, t, B, fk, fp, ha, hc, hm⟩
  have hs := ha.1
  have hR := hc.1
  obtain ⟨pW, pH, pT, pS, pL, pV, pR, pCr, pWl, pWy, pFo, pSh, pNo, pX, pY, pWe, pSa, pKi, pAn, pDg, pTh, pDr, pSp, pSk, pS0, pSx, pSy, pSt, pRa, pRb, pRl, pRt, pMe, pBa, pBt⟩ := hR
  obtain ⟨sW3, sW, sH3, sH, sL, sV, sR, sv, sh, sr, sw, ss, so⟩ := hs
  have mV := hm.1.2.2.2.1
  by_cases h : inV (nI (N 0 4)) a
  rotate_left
  · rw [c_of_f pV sV h]
    refine ⟨_, w, rfl, rfl, rfl, rfl, ?_⟩
    rw [m_of_f (by rw [mV]; exact h)]
    exact ⟨w, rfl, rfl, rfl, ST_same ha hc hm⟩
  obtain ⟨v, hv, rfl⟩ := inV_of (by omega) h
  have hv10 : v < 10 := by omega
  by_cases g : inR b 0 (nI 10)
  rotate_left
  · rw [c_of_n pV sV hv g]
    refine ⟨_, w, rfl, rfl, rfl, rfl, ?_⟩
    rw [m_of_t mV sV hv]
    have hz : ∀ z, z ≤ 10 → ¬ b = nI z := by
      intro z hz q
      subst q
      exact g (by rw [inR0 (by omega) (by decide)]; exact hz)
    have e0 : ¬ b = 0 := by have := hz 0 (by decide); rwa [nI_0] at this
    have e1 : ¬ b = 1 := hz 1 (by decide)
    have e : ofM I v b = -2 := by
      unfold ofM
      rw [if_neg e0, if_neg e1, if_neg (hz 2 (by decide)), if_neg (hz 3 (by decide)), if_neg (hz 4 (by decide)), if_neg (hz 5 (by decide)), if_neg (hz 6 (by decide)), if_neg (hz 7 (by decide)), if_neg (hz 8 (by decide)), if_neg (hz 9 (by decide)), if_neg (hz 10 (by decide))]
    rw [e]
    exact ⟨w, rfl, rfl, rfl, ST_same ha hc hm⟩
  obtain ⟨z, hz, rfl⟩ := inR0_of (by decide) g
  rw [c_of_t pV sV hv hz (pBa v hv10)]
  refine ⟨_, w, rfl, rfl, rfl, rfl, ?_⟩
  rw [m_of_t mV sV hv]
  have e : ofM I v (nI z) = ofC I v z := by
    have hM := hm.1
    obtain ⟨⟨nTi, nSe, nX, nY, nDg, nTh, nDr, nSp, nSk, nCr, nRt, nMe⟩, mW, mH, mV, mL, mR, mWl, mWy, mFo, mSh, mWe, mSa, mKi, mAn, mRa, mRb, mRl, mSc, mSt, mLi, mWo, mFr, mTo, mOp, mAr⟩ := hM
    unfold ofM ofC
    have hc : z = 0 ∨ z = 1 ∨ z = 2 ∨ z = 3 ∨ z = 4 ∨ z = 5 ∨ z = 6 ∨ z = 7 ∨ z = 8 ∨ z = 9 ∨ z = 10 := by omega
    rcases hc with rfl | rfl | rfl | rfl | rfl | rfl | rfl | rfl | rfl | rfl | rfl
    · rw [if_pos nI_0, if_pos rfl, nX v hv10, pX v hv]
    · rw [if_neg (by decide), if_pos (by decide), if_neg (by decide), if_pos rfl, nY v hv10, pY v hv]
    · simp (disch := omega) only [eqN, eq0N, eq1N, Nat.reduceEqDiff, if_true, if_false]; rw [mWe v hv10, pWe v hv]
    · simp (disch := omega) only [eqN, eq0N, eq1N, Nat.reduceEqDiff, if_true, if_false]; rw [mSa v hv10, pSa v hv]
    · simp (disch := omega) only [eqN, eq0N, eq1N, Nat.reduceEqDiff, if_true, if_false]; rw [mKi v hv10, pKi v hv]
    · simp (disch := omega) only [eqN, eq0N, eq1N, Nat.reduceEqDiff, if_true, if_false]; rw [mAn v hv10, pAn v hv]
    · simp (disch := omega) only [eqN, eq0N, eq1N, Nat.reduceEqDiff, if_true, if_false]; rw [nDg v hv10, pDg v hv]
    · simp (disch := omega) only [eqN, eq0N, eq1N, Nat.reduceEqDiff, if_true, if_false]; rw [nTh v hv10, pTh v hv]
    · simp (disch := omega) only [eqN, eq0N, eq1N, Nat.reduceEqDiff, if_true, if_false]; rw [nDr v hv10, pDr v hv]
    · simp (disch := omega) only [eqN, eq0N, eq1N, Nat.reduceEqDiff, if_true, if_false]; rw [nSp v hv10, pSp v hv]
    · simp (disch := omega) only [eqN, eq0N, eq1N, Nat.reduceEqDiff, if_true, if_false]; rw [nSk v hv10, pSk v hv]
  rw [e]
  exact ⟨w, rfl, rfl, rfl, ST_same ha hc hm⟩
theorem op_met : OP L (d + 10) (d + 10) mX11_met mX12_met [.int a, .int b] := by
  rintro I J w ⟨N, Z, H, K, t, B, fk, fp, ha, hc, hm⟩
  have hs := ha.1
  have hR := hc.1
  obtain ⟨pW, pH, pT, pS, pL, pV, pR, pCr, pWl, pWy, pFo, pSh, pNo, pX, pY, pWe, pSa, pKi, pAn, pDg, pTh, pDr, pSp, pSk, pS0, pSx, pSy, pSt, pRa, pRb, pRl, pRt, pMe, pBa, pBt⟩ := hR
  obtain ⟨sW3, sW, sH3, sH, sL, sV, sR, sv, sh, sr, sw, ss, so⟩ := hs
  have mV := hm.1.2.2.2.1
  by_cases h : inV (nI (N 0 4)) a ∧ inV (nI (N 0 4)) b ∧ ¬ a = b
  rotate_left
  · rw [c_met_f pV sV h]
    refine ⟨_, w, rfl, rfl, rfl, rfl, ?_⟩
    rw [m_met_f (by rw [mV]; exact h)]
    exact ⟨w, rfl, rfl, rfl, ST_same ha hc hm⟩
  obtain ⟨h1, h2, h3⟩ := h
  obtain ⟨v, hv, rfl⟩ := inV_of (by omega) h1
  obtain ⟨u, hu, rfl⟩ := inV_of (by omega) h2
  have hvu : ¬ v = u := fun g => h3 (by rw [g])
  rw [c_met_t pV sV hv hu hvu]
  refine ⟨_, w, rfl, rfl, rfl, rfl, ?_⟩
  rw [m_met_t mV sV hv hu hvu]
  have hM := hm.1
  obtain ⟨⟨nTi, nSe, nX, nY, nDg, nTh, nDr, nSp, nSk, nCr, nRt, nMe⟩, mW, mH, mV, mL, mR, mWl, mWy, mFo, mSh, mWe, mSa, mKi, mAn, mRa, mRb, mRl, mSc, mSt, mLi, mWo, mFr, mTo, mOp, mAr⟩ := hM
  have e : I 250 (236 + 10 * v + u) = if v < u then I 17 (10 * v + u) else I 17 (10 * u + v) := by
    rw [Nat.add_assoc 236, nMe (10 * v + u) (by omega)]
    split
    · rw [pMe v u (by omega) (by omega)]
    · rw [pMe u v (by omega) (by omega)]
      exact ha.2.1.2.2.2.2.2 v u (by omega) (by omega)
  rw [e]
  exact ⟨w, rfl, rfl, rfl, ST_same ha hc hm⟩
end OPS3
