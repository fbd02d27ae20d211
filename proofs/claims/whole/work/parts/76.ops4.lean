section OPS4
variable {d : Nat} {k : am_k} {I I1 I2 : Nat → Nat → Int32} {J : Nat → Nat → Int64} {a b c e f fk fp : Int32} {L : Nat} {w : Nat → Option Nat} {v p q n u W x y z r t m l o s i j : Nat} {N N' : Nat → Nat → Nat} {Z Z' : Nat → Nat → Int32} {H H' : List hT} {K : Option hT} {B : Nat → Int32}
theorem op_tie : OP L (d + 10) (d + 10) mX11_tie mX12_tie [.int a, .int b] := by
  rintro I J w ⟨N, Z, H, K, t, B, fk, fp, ha, hc, hm⟩
  have hs := ha.1
  have hR := hc.1
  obtain ⟨pW, pH, pT, pS, pL, pV, pR, pCr, pWl, pWy, pFo, pSh, pNo, pX, pY, pWe, pSa, pKi, pAn, pDg, pTh, pDr, pSp, pSk, pS0, pSx, pSy, pSt, pRa, pRb, pRl, pRt, pMe, pBa, pBt⟩ := hR
  obtain ⟨sW3, sW, sH3, sH, sL, sV, sR, sv, sh, sr, sw, ss, so⟩ := hs
  have mR := hm.1.2.2.2.2.2.1
  by_cases h : inR a 0 (nI (N 0 5) - 1)
  rotate_left
  · rw [c_tie_f pR sR h]
    refine ⟨_, w, rfl, rfl, rfl, rfl, ?_⟩
    rw [m_tie_f (by rw [mR]; exact h)]
    exact ⟨w, rfl, rfl, rfl, ST_same ha hc hm⟩
  obtain ⟨v, hv, rfl⟩ : ∃ v, v < N 0 5 ∧ a = nI v := by
    by_cases g : N 0 5 = 0
    · rw [g] at h
      obtain ⟨h1, h2⟩ := h
      exfalso
      apply h2
      have := nn_of h1
      obtain ⟨j, hj, rfl⟩ := this
      rw [Int32.lt_iff_toInt_lt, nI_toInt (by omega)]
      have : (nI 0 - 1).toInt = -1 := by decide
      omega
    · rw [sub1N (by omega)] at h
      obtain ⟨v, hv, e⟩ := inR0_of (by omega) h
      exact ⟨v, by omega, e⟩
  have hv20 : v < 20 := by omega
  by_cases g : inR b 0 (nI 3)
  rotate_left
  · rw [c_tie_n pR sR hv g]
    refine ⟨_, w, rfl, rfl, rfl, rfl, ?_⟩
    rw [m_tie_t mR sR hv]
    have hz : ∀ z, z ≤ 3 → ¬ b = nI z := by
      intro z hz q
      subst q
      exact g (by rw [inR0 (by omega) (by decide)]; exact hz)
    have e0 : ¬ b = 0 := by have := hz 0 (by decide); rwa [nI_0] at this
    have e1 : ¬ b = 1 := hz 1 (by decide)
    rw [if_neg e0, if_neg e1, if_neg (hz 2 (by decide)), if_neg (hz 3 (by decide))]
    exact ⟨w, rfl, rfl, rfl, ST_same ha hc hm⟩
  obtain ⟨z, hz, rfl⟩ := inR0_of (by decide) g
  rw [c_tie_t pR sR hv hz (pBt v hv20)]
  refine ⟨_, w, rfl, rfl, rfl, rfl, ?_⟩
  rw [m_tie_t mR sR hv]
  have e : (if nI z = 0 then I 260 v else if nI z = 1 then I 261 v else if nI z = nI 2 then I 262 v else if nI z = nI 3 then I 250 (216 + v) else -1) = tiC I v z := by
    have hM := hm.1
    obtain ⟨⟨nTi, nSe, nX, nY, nDg, nTh, nDr, nSp, nSk, nCr, nRt, nMe⟩, mW, mH, mV, mL, mR, mWl, mWy, mFo, mSh, mWe, mSa, mKi, mAn, mRa, mRb, mRl, mSc, mSt, mLi, mWo, mFr, mTo, mOp, mAr⟩ := hM
    unfold tiC
    have hc : z = 0 ∨ z = 1 ∨ z = 2 ∨ z = 3 := by omega
    rcases hc with rfl | rfl | rfl | rfl
    · rw [if_pos nI_0, if_pos rfl, mRa v hv20, pRa v hv]
    · rw [if_neg (by decide), if_pos (by decide), if_neg (by decide), if_pos rfl, mRb v hv20, pRb v hv]
    · simp (disch := omega) only [eqN, eq0N, eq1N, Nat.reduceEqDiff, if_true, if_false]; rw [mRl v hv20, pRl v hv]
    · simp (disch := omega) only [eqN, eq0N, eq1N, Nat.reduceEqDiff, if_true, if_false]; rw [nRt v hv20, pRt v hv]
  rw [e]
  exact ⟨w, rfl, rfl, rfl, ST_same ha hc hm⟩
theorem op_at : OP L (d + 10) (d + 10) mX11_at mX12_at [.int a, .int b, .int c] := by
  rintro I J w ⟨N, Z, H, K, t, B, fk, fp, ha, hc, hm⟩
  have hs := ha.1
  have hs2 := hs
  have hR := hc.1
  have hR2 := hR
  have hd := ha.2.1
  obtain ⟨pW, pH, pT, pS, pL, pV, pR, pCr, pWl, pWy, pFo, pSh, pNo, pX, pY, pWe, pSa, pKi, pAn, pDg, pTh, pDr, pSp, pSk, pS0, pSx, pSy, pSt, pRa, pRb, pRl, pRt, pMe, pBa, pBt⟩ := hR
  obtain ⟨sW3, sW, sH3, sH, sL, sV, sR, sv, sh, sr, sw, ss, so⟩ := hs
  by_cases h : inC (nI (N 0 0)) (nI (N 0 1)) a b ∧ inR c 0 (nI 2)
  rotate_left
  · rw [c_at_f pW pH (by omega) sW (by omega) sH h]
    refine ⟨_, w, rfl, rfl, rfl, rfl, ?_⟩
    rw [m_at_f (by rw [hm.1.2.1, hm.1.2.2.1]; exact h)]
    exact ⟨w, rfl, rfl, rfl, ST_same ha hc hm⟩
  obtain ⟨x, y, hx, hy, rfl, rfl⟩ := inC_of (by omega) (by omega) h.1
  obtain ⟨z, hz, rfl⟩ := inR0_of (by decide) h.2
  rw [c_at_t pW pH (by omega) sW (by omega) sH hx hy hz pV sV]
  refine ⟨_, w, rfl, rfl, rfl, rfl, ?_⟩
  rw [m_at_t hm.1.2.1 hm.1.2.2.1 sW sH hx hy hz hm.1.2.2.2.1 sV]
  have e1 := c_vOn hR2 hs2 hd (c := 12 * y + x) (by omega)
  have e2 := m_vAt1 hm.1 hs2 hd (q := 12 * y + x) (by omega)
  rw [show (12 * y + x) % 12 = x by omega, show (12 * y + x) / 12 = y by omega] at e1
  have ec : y * 12 + x = 12 * y + x := by omega
  have hM := hm.1
  obtain ⟨⟨nTi, nSe, nX, nY, nDg, nTh, nDr, nSp, nSk, nCr, nRt, nMe⟩, mW, mH, mV, mL, mR, mWl, mWy, mFo, mSh, mWe, mSa, mKi, mAn, mRa, mRb, mRl, mSc, mSt, mLi, mWo, mFr, mTo, mOp, mAr⟩ := hM
  rw [e1, e2, ec, nCr _ (by omega), sa50, pCr _ (by omega), mWl _ (by omega), pWl _ (by omega)]
  exact ⟨w, rfl, rfl, rfl, ST_same ha hc hm⟩
theorem op_seen : OP L (d + 10) (d + 10) mX11_seen mX12_seen [.int a, .int b, .int c, .int e] := by
  rintro I J w ⟨N, Z, H, K, t, B, fk, fp, ha, hc, hm⟩
  have hs := ha.1
  have hs2 := hs
  have hR := hc.1
  have hR2 := hR
  have hd := ha.2.1
  obtain ⟨pW, pH, pT, pS, pL, pV, pR, pCr, pWl, pWy, pFo, pSh, pNo, pX, pY, pWe, pSa, pKi, pAn, pDg, pTh, pDr, pSp, pSk, pS0, pSx, pSy, pSt, pRa, pRb, pRl, pRt, pMe, pBa, pBt⟩ := hR
  obtain ⟨sW3, sW, sH3, sH, sL, sV, sR, sv, sh, sr, sw, ss, so⟩ := hs
  by_cases h : inV (nI (N 0 4)) a ∧ inC (nI (N 0 0)) (nI (N 0 1)) b c ∧ inR e 0 (nI 9999)
  rotate_left
  · rw [c_seen_f pV sV pW pH (by omega) sW (by omega) sH h]
    refine ⟨_, w, rfl, rfl, rfl, rfl, ?_⟩
    rw [m_seen_f (by rw [hm.1.2.1, hm.1.2.2.1, hm.1.2.2.2.1]; exact h)]
    exact ⟨w, rfl, rfl, rfl, ST_same ha hc hm⟩
  obtain ⟨v, hv, rfl⟩ := inV_of (by omega) h.1
  obtain ⟨x, y, hx, hy, rfl, rfl⟩ := inC_of (by omega) (by omega) h.2.1
  obtain ⟨z, hz, rfl⟩ := inR0_of (by decide) h.2.2
  rw [c_seen_t pV sV hv pW pH (by omega) sW (by omega) sH hx hy hz]
  have fr : ∀ a, a ≠ 19 + v → am_up (am_up (am_up I (19 + v) 12 (nI x)) (19 + v) 13 (nI y)) (19 + v) 14 (nI z) a = I a := by
    intro a g
    simp (disch := omega) only [upR]
  refine ⟨_, w, rfl, rfl, fr 0 (by omega), rfl, ?_⟩
  have hm1 := MI_fr (I' := am_up (am_up (am_up I (19 + v) 12 (nI x)) (19 + v) 13 (nI y)) (19 + v) 14 (nI z)) hm (fun a h => fr a (by omega))
  rw [m_seen_t hm1.1.2.2.2.1 sV hv hm1.1.2.1 hm1.1.2.2.1 sW sH hx hy hz]
  have s1 : SW (am_up (am_up N 16 v (12 * y + x + 1)) 17 v z) := SW_Se hs2 hv hx hy sW hz
  have ha' : AW (am_up (am_up N 16 v (12 * y + x + 1)) 17 v z) Z H K t B := ⟨s1, DW_Se hd, HW_N ha.2.2.1 (fun j hj => by simp (disch := omega) only [upA]), ha.2.2.2⟩
  refine ⟨w, rfl, rfl, rfl, OP_end ha' (CI_keep ha hc (RG_Se hR2 hv sV sR (by omega)) (fun f hf => by simp (disch := omega) only [upR]) (fun a g1 => fr a (by omega))) (MI_keep hm1 (rm_St2 (rm_Sc2 (RM_0 (b := 0) hm1.1) (by omega)) (by omega)) ?_ (fun j hj => by simp (disch := omega) only [upA, upI]) (fun a ha => by simp (disch := omega) only [upR])) (fun a ha => by simp (disch := omega) only [upR])⟩
  have := RHm_0 (b := 0) hm1.2.1
  unfold RHm at this ⊢
  simp (disch := omega) only [upS, upA, upI, upR, rwS, rwA] at this ⊢
  exact this
theorem op_look : OP L (d + 10) (d + 10) mX11_look mX12_look [.int a] := by
  rintro I J w ⟨N, Z, H, K, t, B, fk, fp, ha, hc, hm⟩
  have hs := ha.1
  have hR := hc.1
  have hM := hm.1
  obtain ⟨pW, pH, pT, pS, pL, pV, pR, pCr, pWl, pWy, pFo, pSh, pNo, pX, pY, pWe, pSa, pKi, pAn, pDg, pTh, pDr, pSp, pSk, pS0, pSx, pSy, pSt, pRa, pRb, pRl, pRt, pMe, pBa, pBt⟩ := hR
  obtain ⟨⟨nTi, nSe, nX, nY, nDg, nTh, nDr, nSp, nSk, nCr, nRt, nMe⟩, mW, mH, mV, mL, mR, mWl, mWy, mFo, mSh, mWe, mSa, mKi, mAn, mRa, mRb, mRl, mSc, mSt, mLi, mWo, mFr, mTo, mOp, mAr⟩ := hM
  by_cases h1 : inR a 0 (nI 7)
  · obtain ⟨z, hz, rfl⟩ := inR0_of (by decide) h1
    rw [c_look_a hz]
    refine ⟨_, w, rfl, rfl, rfl, rfl, ?_⟩
    rw [m_look_a hz]
    have e : lookM I (nI z) = lookC I z := by
      unfold lookM lookC
      have hc' : z = 0 ∨ z = 1 ∨ z = 2 ∨ z = 3 ∨ z = 4 ∨ z = 5 ∨ z = 6 ∨ z = 7 := by omega
      rcases hc' with rfl | rfl | rfl | rfl | rfl | rfl | rfl | rfl
      · rw [if_pos nI_0, if_pos rfl, mW, pW]
      · rw [if_neg (by decide), if_pos (by decide), if_neg (by decide), if_pos rfl, mH, pH]
      · simp (disch := omega) only [eqN, eq0N, eq1N, Nat.reduceEqDiff, if_true, if_false]; rw [nTi, pT]
      · simp (disch := omega) only [eqN, eq0N, eq1N, Nat.reduceEqDiff, if_true, if_false]; rw [mV, pV]
      · simp (disch := omega) only [eqN, eq0N, eq1N, Nat.reduceEqDiff, if_true, if_false]; rw [mR, pR]
      · simp (disch := omega) only [eqN, eq0N, eq1N, Nat.reduceEqDiff, if_true, if_false]; rw [nSe, pS]
      · simp (disch := omega) only [eqN, eq0N, eq1N, Nat.reduceEqDiff, if_true, if_false]; rw [mL, pL]
      · simp (disch := omega) only [eqN, eq0N, eq1N, Nat.reduceEqDiff, if_true, if_false]; rw [hm.2.1.1, hc.2.2.2.1.1]
    rw [e]
    exact ⟨w, rfl, rfl, rfl, ST_same ha hc hm⟩
  by_cases h2 : inR a (nI 10) (nI 13)
  · obtain ⟨z, z1, z2, rfl⟩ := inRN_of (by decide) (by decide) h2
    obtain ⟨u, rfl⟩ : ∃ u, z = 10 + u := ⟨z - 10, by omega⟩
    obtain ⟨o, o1, o2, o3⟩ := hc.2.1 u (by omega)
    rw [c_look_g h1 (fun kk => c_look_b (by omega) o1 o2)]
    refine ⟨_, w, rfl, rfl, rfl, rfl, ?_⟩
    rw [m_look_b z1 z2, o3.1, show 10 + u - 10 = u by omega, mLi u (by omega)]
    exact ⟨w, rfl, rfl, rfl, ST_same ha hc hm⟩
  by_cases h3 : inR a (nI 20) (nI 91)
  · obtain ⟨z, z1, z2, rfl⟩ := inRN_of (by decide) (by decide) h3
    rw [c_look_g h1 (fun kk => c_look_c z1 z2)]
    refine ⟨_, w, rfl, rfl, rfl, rfl, ?_⟩
    rw [m_look_c z1 z2, pWy _ (by omega), pFo _ (by omega), pSh _ (by omega), mWy _ (by omega), mFo _ (by omega), mSh _ (by omega), sa1]
    exact ⟨w, rfl, rfl, rfl, ST_same ha hc hm⟩
  · rw [c_look_g h1 (fun kk => c_look_n h2 h3)]
    refine ⟨_, w, rfl, rfl, rfl, rfl, ?_⟩
    rw [m_look_n h1 h2 h3]
    exact ⟨w, rfl, rfl, rfl, ST_same ha hc hm⟩
theorem HW_hrN : ∀ m (N : Nat → Nat → Nat) Z (H : List hT), SW N → DW N Z → HW N H → N 0 2 + m ≤ 9999 → SW (hrN m N Z H).2.1 ∧ DW (hrN m N Z H).2.1 (hrN m N Z H).2.2.1 ∧ HW (hrN m N Z H).2.1 (hrN m N Z H).2.2.2 ∧ ∀ f, 20 ≤ f → (hrN m N Z H).2.1 f = N f := by
  intro m
  induction m with
  | zero => intro N Z H hs hd hw _; exact ⟨hs, hd, hw, fun _ _ => rfl⟩
  | succ m ih =>
    intro N Z H hs hd hw ht
    have es : ES N (hrS N Z).2.1 := hr_ES
    obtain ⟨q1, q2, q3, q4⟩ := ih (hrS N Z).2.1 (hrS N Z).2.2 (hpush H (N, Z)) (ES_SW es hs) (hr_DW hs hd (by omega)) (HW_N (HW_push hw hd) (fun j hj => es 0 j (by decide) (by decide) (by decide) (by decide) (by omega))) (by rw [hr_T]; omega)
    exact ⟨q1, q2, q3, fun f hf => (q4 f hf).trans (ES_row es (by omega) (by omega) (by omega) (by omega) (by omega))⟩
theorem op_hours : OP L (d + 10) (d + 10) mX11_hours mX12_hours [.int a] := by
  rintro I J w ⟨N, Z, H, K, t, B, fk, fp, ha, hc, hm⟩
  have hs := ha.1
  have hd := ha.2.1
  have hR := hc.1
  obtain ⟨pW, pH, pT, pS, pL, pV, pR, pCr, pWl, pWy, pFo, pSh, pNo, pX, pY, pWe, pSa, pKi, pAn, pDg, pTh, pDr, pSp, pSk, pS0, pSx, pSy, pSt, pRa, pRb, pRl, pRt, pMe, pBa, pBt⟩ := hR
  have nT := hm.1.1.1
  have dtm := hd.2.2.2.1
  by_cases h : inR a 1 (nI 240) ∧ nI (N 0 2) + a ≤ nI 9999
  rotate_left
  · rw [c_hours_f (by rw [pT]; exact h)]
    refine ⟨_, w, rfl, rfl, rfl, rfl, ?_⟩
    rw [m_hours_f (by rw [nT]; exact h)]
    exact ⟨w, rfl, rfl, rfl, ST_same ha hc hm⟩
  obtain ⟨n, n1, n2, rfl⟩ := inRN_of (l := 1) (m := 240) (by decide) (by decide) h.1
  have hT9 : N 0 2 + n ≤ 9999 := by
    have := h.2
    rw [addN, leN (by omega) (by omega)] at this
    exact this
  refine c_hours_t hc.1 hc.2.1 hs hd hc.2.2.2.1 ha.2.2.1 n1 n2 hT9 ?_
  intro I1 r1 c1 f1
  have e0 : ∀ a, a < 9 ∨ (69 ≤ a ∧ a < 129) ∨ (223 ≤ a ∧ a < 228) ∨ 233 ≤ a → I1 a = I a := by
    intro a g
    funext j
    exact f1 a j (by omega) (by omega) (by unfold isO; omega) (by unfold isO; omega)
  refine ⟨_, w, rfl, rfl, e0 0 (by omega), rfl, ?_⟩
  have hm1 := MI_fr (I' := I1) hm (fun a h => e0 a (by omega))
  refine m_hours_t hm1.1 hs hd hm1.2.1 n1 n2 hT9 ?_
  intro I2 r2 c2 f2
  obtain ⟨q1, q2, q3, q4⟩ := HW_hrN n N Z H hs hd ha.2.2.1 hT9
  have ha' : AW (hrN n N Z H).2.1 (hrN n N Z H).2.2.1 (hrN n N Z H).2.2.2 K t B := ⟨q1, q2, q3, ha.2.2.2⟩
  refine ⟨w, rfl, rfl, rfl, OP_end (I1 := I1) (fk := fk) (fp := fp) ha' ?_ ?_ (fun a ha => f2.1 a (by omega) (by omega) (by omega) (by omega) (by omega))⟩
  · obtain ⟨h1, h2, h3, h4, h5, h6, h7, h8⟩ := hc
    refine ⟨r1, RO_N (RO_fr h2 (fun a j g g1 g2 => f1 a j (by unfold isR at g; omega) (by unfold isR at g; omega) g1 g2)) q4, h3, c1, KC_fr h5 (fun p hp => (ha.2.2.2.1 p hp).1) (by rw [e0 8 (by omega)]) (fun a _ _ => e0 a (by omega)), ?_, ?_, ?_⟩
    · rw [e0 223 (by omega), e0 224 (by omega)]; exact h6
    · rw [e0 227 (by omega)]; exact h7
    · rw [e0 227 (by omega)]; exact h8
  · obtain ⟨g1, g2, g3, g4, g5, g6, g7⟩ := hm1
    refine ⟨r2, c2, ?_, ?_, ?_, ?_, ?_⟩
    · cases K with
      | none => show I2 249 49 = 0; rw [f2.2 49 (by omega) (by omega)]; exact g3
      | some p => show I2 249 49 = 1 ∧ ∃ I0, RM I0 p.1 p.2 ∧ EN I0 (I2 279); rw [f2.2 49 (by omega) (by omega), f2.1 279 (by omega) (by omega) (by omega) (by omega) (by omega)]; exact g3
    · rw [f2.2 23 (by omega) (by omega), f2.1 265 (by omega) (by omega) (by omega) (by omega) (by omega)]; exact g4
    · rw [f2.2 41 (by omega) (by omega)]; exact g5
    · rw [f2.2 42 (by omega) (by omega)]; exact g6
    · rw [f2.1 266 (by omega) (by omega) (by omega) (by omega) (by omega)]; exact g7
theorem DW_un {p : hT} (h : ∀ j, j ≠ 2 → p.1 0 j = N 0 j) (hd : DW p.1 p.2) : DW (unN N p.1) p.2 := by
  obtain ⟨d1, d2, d3, d4, d5, d6⟩ := hd
  have e0 := h 0 (by decide)
  have e1 := h 1 (by decide)
  have e4 := h 4 (by decide)
  rw [e0, e1, e4] at d1
  rw [e4] at d5
  unfold DW
  simp (disch := omega) only [unN_s, unN_d, unN_0, unN_t]
  exact ⟨d1, d2, d3, d4, d5, d6⟩
theorem op_undo : OP L (d + 10) (d + 10) mX11_undo mX12_undo [] := by
  rintro I J w ⟨N, Z, H, K, t, B, fk, fp, ha, hc, hm⟩
  have hs := ha.1
  have hd := ha.2.1
  rw [e_X11_undo]
  cases H with
  | nil =>
    have z1 : I 129 1 = 0 := by have := hc.2.2.2.1.1; simpa [nI_0] using this
    have z2 : I 249 3 = 0 := by have := hm.2.1.1; simpa [nI_0] using this
    simp (disch := omega) only [x_X11_undo_0, x_X11_undo_1, x_X11_undo_4, x_X11_undo_5, x_X11_undo_8, x_X11_undo_11, Bool.false_eq_true, am_cl_i, am_cl_r, am_cl_n, am_cl_l, am_cl_0, va_rf_s, va_rf_0, tl_s, tl_n, bi_0, bi_1, bi_z, true_and, and_true, false_and, and_false, true_implies, false_implies, implies_true, not_true_eq_false, not_false_eq_true, and_self, true_or, or_true, false_or, or_false, eq_self, Nat.reduceAdd, Nat.reduceMul, Nat.reduceSub, Nat.reduceDiv, Nat.reduceMod, Nat.reduceLeDiff, Nat.reduceEqDiff, Nat.reduceLT, ix0, ix1, in0, in1, gF_2, sh_8, ok_8, sh_9, ok_9, sh_10, sh_11, sh_12, sh_13, sh_14, sh_15, sh_16, sh_17, sh_18, sh_49, ok_49, sh_50, sh_51, sh_52, sh_53, sh_54, ok_54, sh_55, sh_56, sh_57, sh_58, sh_59, ok_59, sh_60, sh_61, sh_62, sh_63, sh_64, ok_64, sh_65, sh_66, sh_67, sh_68, sh_69, ok_69, sh_70, sh_71, sh_72, sh_73, sh_74, sh_75, sh_76, sh_77, sh_78, sh_109, ok_109, sh_110, sh_111, sh_112, sh_113, sh_114, ok_114, sh_115, sh_116, sh_117, sh_118, sh_119, ok_119, sh_120, sh_121, sh_122, sh_123, sh_124, ok_124, sh_125, sh_126, sh_127, sh_128, sh_129, ok_129, sh_130, sh_131, ok_131, sh_132, sh_133, sh_134, sh_135, sh_146, ok_146, sh_147, sh_148, sh_149, sh_150, sh_161, ok_161, sh_162, sh_163, sh_164, sh_165, sh_176, ok_176, sh_177, sh_178, sh_179, sh_180, sh_191, ok_191, sh_192, sh_193, sh_194, sh_195, sh_206, ok_206, sh_207, sh_208, sh_209, sh_210, sh_221, ok_221, sh_222, sh_223, ok_223, sh_224, sh_225, sh_226, sh_227, ok_227, sh_228, ok_228, sh_229, sh_230, sh_231, sh_232, sh_233, ok_233, sh_234, sh_235, sh_236, sh_237, sh_238, sh_239, ok_239, sh_240, sh_241, sh_242, sh_243, sh_244, sh_245, sh_246, ok_246, sh_247, sh_248, sh_249, ok_249, sh_250, sh_251, sh_252, sh_253, sh_254, sh_255, sh_256, sh_257, sh_258, sh_259, sh_260, sh_261, sh_262, sh_263, sh_264, sh_265, sh_266, sh_267, sh_268, sh_269, sh_270, sh_271, sh_272, sh_273, sh_274, sh_275, sh_276, sh_277, sh_278, sh_279, sh_1, sh_2, sh_3, sh_4, gv_s, gv_o, kv_s, kv_o, gr_s, gr_o, kr_s, kr_o, r_8_0, r_8_1, r_8_3, r_8_4, r_8_5, r_8_6, r_8_7, r_8_8, r_8_9, r_8_10, r_9_7, r_9_8, r_9_9, r_9_10, r_9_11, r_9_12, r_9_13, r_9_14, r_9_15, r_49_2, r_49_3, r_49_4, r_49_6, r_54_2, r_54_3, r_54_4, r_54_6, r_59_2, r_59_3, r_59_4, r_59_6, r_64_2, r_64_3, r_64_4, r_64_6, r_69_7, r_69_8, r_69_9, r_69_10, r_69_11, r_69_12, r_69_13, r_69_14, r_69_15, r_109_2, r_109_3, r_109_4, r_109_6, r_114_2, r_114_3, r_114_4, r_114_6, r_119_2, r_119_3, r_119_4, r_119_6, r_124_2, r_124_3, r_124_4, r_124_6, r_129_0, r_131_2, r_131_3, r_131_4, r_131_5, r_146_2, r_146_3, r_146_4, r_146_5, r_161_2, r_161_3, r_161_4, r_161_5, r_176_2, r_176_3, r_176_4, r_176_5, r_191_2, r_191_3, r_191_4, r_191_5, r_206_2, r_206_3, r_206_4, r_206_5, r_221_0, r_221_1, r_223_0, r_223_2, r_223_3, r_227_0, r_228_2, r_228_3, r_228_4, r_228_6, r_233_0, r_233_1, r_233_2, r_233_3, r_233_4, r_233_5, r_239_0, r_239_1, r_239_2, r_239_3, r_239_4, r_239_5, r_246_2, r_246_3, r_249_1, r_249_2, r_249_6, r_249_7, r_249_8, r_249_9, r_249_11, r_249_12, r_249_13, r_249_14, r_249_17, r_249_18, r_249_19, r_249_20, r_249_21, r_249_22, r_249_28, r_249_29, r_249_30, r_249_31, r_249_32, r_249_33, r_249_34, r_249_37, r_249_43, r_249_44, r_249_45, r_249_46, r_249_47, r_249_51, r_227_1, r_233_6, r_239_6, r_246_0, r_246_1, r_15, r_75, r_16, r_76, r_18, r_78, r_130, ltr2, ltr3, ltr4, ltr5, ltr6, ltr7, ltr8, ltr9, ltr10, ltr11, ltr12, ltr13, ltr14, ltr15, ltr16, ltr17, ltr20, ltr22, ltr23, ltr24, ltr25, ltr31, ltr32, ltr40, ltr41, ltr42, ltr43, ltr45, ltr47, ltr48, ltr50, ltr52, ltr57, ltr59, ltr60, ltr61, ltr62, ltr64, ltr65, ltr72, ltr77, ltr90, ltr91, ltr97, ltr99, ltr100, ltr122, ltr144, ltr216, ltr236, ltr240, ltr255, ltr256, ltr257, ltr258, ltr259, ltr260, ltr261, ltr262, ltr271, ltr272, ltr273, ltr288, ltr336, ltr380, ltr400, ltr1000, ltr1600, ltr9999, ltr10000, ixN, inN, ltN, leN, eqN, lt0N, le0N, eq0N, eq1N, addN, add1N, mulN, divN, remN, modS, rdN, inCN, inR0, inR1, inRN, inVN, upS, upA, upI, upR, rwS, rwA, i10, biT, biF, rd1, rd2, ofn8, c_goBack_f z1]
    refine ⟨_, w, rfl, rfl, rfl, rfl, ?_⟩
    rw [m_undo_f z2]
    exact ⟨w, rfl, rfl, rfl, ST_same ha hc hm⟩
  | cons p H =>
    simp (disch := omega) only [x_X11_undo_0, x_X11_undo_1, x_X11_undo_4, x_X11_undo_5, x_X11_undo_8, x_X11_undo_11, Bool.false_eq_true, am_cl_i, am_cl_r, am_cl_n, am_cl_l, am_cl_0, va_rf_s, va_rf_0, tl_s, tl_n, bi_0, bi_1, bi_z, true_and, and_true, false_and, and_false, true_implies, false_implies, implies_true, not_true_eq_false, not_false_eq_true, and_self, true_or, or_true, false_or, or_false, eq_self, Nat.reduceAdd, Nat.reduceMul, Nat.reduceSub, Nat.reduceDiv, Nat.reduceMod, Nat.reduceLeDiff, Nat.reduceEqDiff, Nat.reduceLT, ix0, ix1, in0, in1, gF_2, sh_8, ok_8, sh_9, ok_9, sh_10, sh_11, sh_12, sh_13, sh_14, sh_15, sh_16, sh_17, sh_18, sh_49, ok_49, sh_50, sh_51, sh_52, sh_53, sh_54, ok_54, sh_55, sh_56, sh_57, sh_58, sh_59, ok_59, sh_60, sh_61, sh_62, sh_63, sh_64, ok_64, sh_65, sh_66, sh_67, sh_68, sh_69, ok_69, sh_70, sh_71, sh_72, sh_73, sh_74, sh_75, sh_76, sh_77, sh_78, sh_109, ok_109, sh_110, sh_111, sh_112, sh_113, sh_114, ok_114, sh_115, sh_116, sh_117, sh_118, sh_119, ok_119, sh_120, sh_121, sh_122, sh_123, sh_124, ok_124, sh_125, sh_126, sh_127, sh_128, sh_129, ok_129, sh_130, sh_131, ok_131, sh_132, sh_133, sh_134, sh_135, sh_146, ok_146, sh_147, sh_148, sh_149, sh_150, sh_161, ok_161, sh_162, sh_163, sh_164, sh_165, sh_176, ok_176, sh_177, sh_178, sh_179, sh_180, sh_191, ok_191, sh_192, sh_193, sh_194, sh_195, sh_206, ok_206, sh_207, sh_208, sh_209, sh_210, sh_221, ok_221, sh_222, sh_223, ok_223, sh_224, sh_225, sh_226, sh_227, ok_227, sh_228, ok_228, sh_229, sh_230, sh_231, sh_232, sh_233, ok_233, sh_234, sh_235, sh_236, sh_237, sh_238, sh_239, ok_239, sh_240, sh_241, sh_242, sh_243, sh_244, sh_245, sh_246, ok_246, sh_247, sh_248, sh_249, ok_249, sh_250, sh_251, sh_252, sh_253, sh_254, sh_255, sh_256, sh_257, sh_258, sh_259, sh_260, sh_261, sh_262, sh_263, sh_264, sh_265, sh_266, sh_267, sh_268, sh_269, sh_270, sh_271, sh_272, sh_273, sh_274, sh_275, sh_276, sh_277, sh_278, sh_279, sh_1, sh_2, sh_3, sh_4, gv_s, gv_o, kv_s, kv_o, gr_s, gr_o, kr_s, kr_o, r_8_0, r_8_1, r_8_3, r_8_4, r_8_5, r_8_6, r_8_7, r_8_8, r_8_9, r_8_10, r_9_7, r_9_8, r_9_9, r_9_10, r_9_11, r_9_12, r_9_13, r_9_14, r_9_15, r_49_2, r_49_3, r_49_4, r_49_6, r_54_2, r_54_3, r_54_4, r_54_6, r_59_2, r_59_3, r_59_4, r_59_6, r_64_2, r_64_3, r_64_4, r_64_6, r_69_7, r_69_8, r_69_9, r_69_10, r_69_11, r_69_12, r_69_13, r_69_14, r_69_15, r_109_2, r_109_3, r_109_4, r_109_6, r_114_2, r_114_3, r_114_4, r_114_6, r_119_2, r_119_3, r_119_4, r_119_6, r_124_2, r_124_3, r_124_4, r_124_6, r_129_0, r_131_2, r_131_3, r_131_4, r_131_5, r_146_2, r_146_3, r_146_4, r_146_5, r_161_2, r_161_3, r_161_4, r_161_5, r_176_2, r_176_3, r_176_4, r_176_5, r_191_2, r_191_3, r_191_4, r_191_5, r_206_2, r_206_3, r_206_4, r_206_5, r_221_0, r_221_1, r_223_0, r_223_2, r_223_3, r_227_0, r_228_2, r_228_3, r_228_4, r_228_6, r_233_0, r_233_1, r_233_2, r_233_3, r_233_4, r_233_5, r_239_0, r_239_1, r_239_2, r_239_3, r_239_4, r_239_5, r_246_2, r_246_3, r_249_1, r_249_2, r_249_6, r_249_7, r_249_8, r_249_9, r_249_11, r_249_12, r_249_13, r_249_14, r_249_17, r_249_18, r_249_19, r_249_20, r_249_21, r_249_22, r_249_28, r_249_29, r_249_30, r_249_31, r_249_32, r_249_33, r_249_34, r_249_37, r_249_43, r_249_44, r_249_45, r_249_46, r_249_47, r_249_51, r_227_1, r_233_6, r_239_6, r_246_0, r_246_1, r_15, r_75, r_16, r_76, r_18, r_78, r_130, ltr2, ltr3, ltr4, ltr5, ltr6, ltr7, ltr8, ltr9, ltr10, ltr11, ltr12, ltr13, ltr14, ltr15, ltr16, ltr17, ltr20, ltr22, ltr23, ltr24, ltr25, ltr31, ltr32, ltr40, ltr41, ltr42, ltr43, ltr45, ltr47, ltr48, ltr50, ltr52, ltr57, ltr59, ltr60, ltr61, ltr62, ltr64, ltr65, ltr72, ltr77, ltr90, ltr91, ltr97, ltr99, ltr100, ltr122, ltr144, ltr216, ltr236, ltr240, ltr255, ltr256, ltr257, ltr258, ltr259, ltr260, ltr261, ltr262, ltr271, ltr272, ltr273, ltr288, ltr336, ltr380, ltr400, ltr1000, ltr1600, ltr9999, ltr10000, ixN, inN, ltN, leN, eqN, lt0N, le0N, eq0N, eq1N, addN, add1N, mulN, divN, remN, modS, rdN, inCN, inR0, inR1, inRN, inVN, upS, upA, upI, upR, rwS, rwA, i10, biT, biF, rd1, rd2, ofn8]
    refine c_goBack_t hc.1 hs hc.2.2.2.1 ha.2.2.1 ?_
    intro I1 r1 c1 f1
    simp (disch := omega) only [x_X11_undo_0, x_X11_undo_1, x_X11_undo_4, x_X11_undo_5, x_X11_undo_8, x_X11_undo_11, Bool.false_eq_true, am_cl_i, am_cl_r, am_cl_n, am_cl_l, am_cl_0, va_rf_s, va_rf_0, tl_s, tl_n, bi_0, bi_1, bi_z, true_and, and_true, false_and, and_false, true_implies, false_implies, implies_true, not_true_eq_false, not_false_eq_true, and_self, true_or, or_true, false_or, or_false, eq_self, Nat.reduceAdd, Nat.reduceMul, Nat.reduceSub, Nat.reduceDiv, Nat.reduceMod, Nat.reduceLeDiff, Nat.reduceEqDiff, Nat.reduceLT, ix0, ix1, in0, in1, gF_2, sh_8, ok_8, sh_9, ok_9, sh_10, sh_11, sh_12, sh_13, sh_14, sh_15, sh_16, sh_17, sh_18, sh_49, ok_49, sh_50, sh_51, sh_52, sh_53, sh_54, ok_54, sh_55, sh_56, sh_57, sh_58, sh_59, ok_59, sh_60, sh_61, sh_62, sh_63, sh_64, ok_64, sh_65, sh_66, sh_67, sh_68, sh_69, ok_69, sh_70, sh_71, sh_72, sh_73, sh_74, sh_75, sh_76, sh_77, sh_78, sh_109, ok_109, sh_110, sh_111, sh_112, sh_113, sh_114, ok_114, sh_115, sh_116, sh_117, sh_118, sh_119, ok_119, sh_120, sh_121, sh_122, sh_123, sh_124, ok_124, sh_125, sh_126, sh_127, sh_128, sh_129, ok_129, sh_130, sh_131, ok_131, sh_132, sh_133, sh_134, sh_135, sh_146, ok_146, sh_147, sh_148, sh_149, sh_150, sh_161, ok_161, sh_162, sh_163, sh_164, sh_165, sh_176, ok_176, sh_177, sh_178, sh_179, sh_180, sh_191, ok_191, sh_192, sh_193, sh_194, sh_195, sh_206, ok_206, sh_207, sh_208, sh_209, sh_210, sh_221, ok_221, sh_222, sh_223, ok_223, sh_224, sh_225, sh_226, sh_227, ok_227, sh_228, ok_228, sh_229, sh_230, sh_231, sh_232, sh_233, ok_233, sh_234, sh_235, sh_236, sh_237, sh_238, sh_239, ok_239, sh_240, sh_241, sh_242, sh_243, sh_244, sh_245, sh_246, ok_246, sh_247, sh_248, sh_249, ok_249, sh_250, sh_251, sh_252, sh_253, sh_254, sh_255, sh_256, sh_257, sh_258, sh_259, sh_260, sh_261, sh_262, sh_263, sh_264, sh_265, sh_266, sh_267, sh_268, sh_269, sh_270, sh_271, sh_272, sh_273, sh_274, sh_275, sh_276, sh_277, sh_278, sh_279, sh_1, sh_2, sh_3, sh_4, gv_s, gv_o, kv_s, kv_o, gr_s, gr_o, kr_s, kr_o, r_8_0, r_8_1, r_8_3, r_8_4, r_8_5, r_8_6, r_8_7, r_8_8, r_8_9, r_8_10, r_9_7, r_9_8, r_9_9, r_9_10, r_9_11, r_9_12, r_9_13, r_9_14, r_9_15, r_49_2, r_49_3, r_49_4, r_49_6, r_54_2, r_54_3, r_54_4, r_54_6, r_59_2, r_59_3, r_59_4, r_59_6, r_64_2, r_64_3, r_64_4, r_64_6, r_69_7, r_69_8, r_69_9, r_69_10, r_69_11, r_69_12, r_69_13, r_69_14, r_69_15, r_109_2, r_109_3, r_109_4, r_109_6, r_114_2, r_114_3, r_114_4, r_114_6, r_119_2, r_119_3, r_119_4, r_119_6, r_124_2, r_124_3, r_124_4, r_124_6, r_129_0, r_131_2, r_131_3, r_131_4, r_131_5, r_146_2, r_146_3, r_146_4, r_146_5, r_161_2, r_161_3, r_161_4, r_161_5, r_176_2, r_176_3, r_176_4, r_176_5, r_191_2, r_191_3, r_191_4, r_191_5, r_206_2, r_206_3, r_206_4, r_206_5, r_221_0, r_221_1, r_223_0, r_223_2, r_223_3, r_227_0, r_228_2, r_228_3, r_228_4, r_228_6, r_233_0, r_233_1, r_233_2, r_233_3, r_233_4, r_233_5, r_239_0, r_239_1, r_239_2, r_239_3, r_239_4, r_239_5, r_246_2, r_246_3, r_249_1, r_249_2, r_249_6, r_249_7, r_249_8, r_249_9, r_249_11, r_249_12, r_249_13, r_249_14, r_249_17, r_249_18, r_249_19, r_249_20, r_249_21, r_249_22, r_249_28, r_249_29, r_249_30, r_249_31, r_249_32, r_249_33, r_249_34, r_249_37, r_249_43, r_249_44, r_249_45, r_249_46, r_249_47, r_249_51, r_227_1, r_233_6, r_239_6, r_246_0, r_246_1, r_15, r_75, r_16, r_76, r_18, r_78, r_130, ltr2, ltr3, ltr4, ltr5, ltr6, ltr7, ltr8, ltr9, ltr10, ltr11, ltr12, ltr13, ltr14, ltr15, ltr16, ltr17, ltr20, ltr22, ltr23, ltr24, ltr25, ltr31, ltr32, ltr40, ltr41, ltr42, ltr43, ltr45, ltr47, ltr48, ltr50, ltr52, ltr57, ltr59, ltr60, ltr61, ltr62, ltr64, ltr65, ltr72, ltr77, ltr90, ltr91, ltr97, ltr99, ltr100, ltr122, ltr144, ltr216, ltr236, ltr240, ltr255, ltr256, ltr257, ltr258, ltr259, ltr260, ltr261, ltr262, ltr271, ltr272, ltr273, ltr288, ltr336, ltr380, ltr400, ltr1000, ltr1600, ltr9999, ltr10000, ixN, inN, ltN, leN, eqN, lt0N, le0N, eq0N, eq1N, addN, add1N, mulN, divN, remN, modS, rdN, inCN, inR0, inR1, inRN, inVN, upS, upA, upI, upR, rwS, rwA, i10, biT, biF, rd1, rd2, ofn8]
    refine ⟨_, w, rfl, rfl, f1 0 (by omega) (by omega), rfl, ?_⟩
    have hm1 := MI_fr (I' := I1) hm (fun a h => f1 a (by omega) (by omega))
    obtain ⟨l1, l2, l3⟩ := hm1.2.1
    have l2' : H.length + 1 ≤ 6 := by simpa using l2
    rw [m_undo_t (u := H.length) (by simpa using l1) (by omega)]
    have wp := ha.2.2.1 p List.mem_cons_self
    have es := unN_ES (N := N) (N1 := p.1)
    have ha' : AW (unN N p.1) p.2 H K t B := ⟨ES_SW es hs, DW_un wp.1 wp.2, HW_N (fun q hq => ha.2.2.1 q (List.mem_cons_of_mem _ hq)) (fun j hj => unN_0 hj), ha.2.2.2⟩
    have rn := l3 0 p rfl
    have g9 : ∀ j, j ≠ 0 → j ≠ 3 → am_rw (am_up (am_up I1 249 0 0) 249 3 (nI H.length)) 250 (fil (I1 250) 336 (fun j => I1 251 (336 * H.length + j))) 249 j = I1 249 j := by
      intro j g1 g2
      rw [rwA (by decide), upI g2, upI g1]
    have gr : ∀ a, a ≠ 249 → a ≠ 250 → am_rw (am_up (am_up I1 249 0 0) 249 3 (nI H.length)) 250 (fil (I1 250) 336 (fun j => I1 251 (336 * H.length + j))) a = I1 a := by
      intro a g1 g2
      rw [rwA g2, upR g1, upR g1]
    refine ⟨w, rfl, rfl, rfl, OP_end (I1 := I1) (fk := fk) (fp := fp) ha' ?_ ?_ (fun a ha => gr a (by omega) (by omega))⟩
    · obtain ⟨h1, h2, h3, h4, h5, h6, h7, h8⟩ := hc
      refine ⟨r1, RO_N (RO_fr h2 (fun a j g g1 g2 => by rw [f1 a (by unfold isR at g; omega) (by unfold isR at g; omega)])) (fun f hf => ES_row es (by omega) (by omega) (by omega) (by omega) (by omega)), h3, c1, KC_fr h5 (fun p hp => (ha.2.2.2.1 p hp).1) (by rw [f1 8 (by omega) (by omega)]) (fun a _ _ => f1 a (by omega) (by omega)), ?_, ?_, ?_⟩
      · rw [f1 223 (by omega) (by omega), f1 224 (by omega) (by omega)]; exact h6
      · rw [f1 227 (by omega) (by omega)]; exact h7
      · rw [f1 227 (by omega) (by omega)]; exact h8
    · obtain ⟨g1, g2, g3, g4, g5, g6, g7⟩ := hm1
      refine ⟨⟨?_, ?_⟩, ⟨?_, by omega, ?_⟩, ?_, ?_, ?_, ?_, ?_⟩
      · rw [rwS]
        refine RN_N (N := p.1) (RN_c rn (fun j hj => ?_)) unN_t ?_ ?_ ?_ ?_
        · rw [fil_lt hj]
          congr 1
        · funext i; exact unN_d (by omega)
        · funext i; exact unN_d (by omega)
        · funext i; exact unN_d (by omega)
        · funext i; exact unN_d (by omega)
      · have g1' : RS I1 (unN N p.1) := by
          have e := g1.2
          unfold RS at e ⊢
          simp (disch := omega) only [unN_s, unN_0]
          exact e
        exact RS_fr2 g1' (fun a g => gr a (by omega) (by omega)) (fun j g => g9 j (by omega) (by omega))
      · rw [rwA (by decide), upS]
      · intro i q hi
        have hil := (List.getElem?_eq_some_iff.mp hi).1
        have := l3 (i + 1) q (by simpa using hi)
        refine RN_c this (fun j hj => ?_)
        rw [gr 251 (by omega) (by omega)]
        congr 1
        simp
        omega
      · cases K with
        | none => show _ = _; rw [g9 49 (by omega) (by omega)]; exact g3
        | some p => show _ = _ ∧ ∃ I0, RM I0 p.1 p.2 ∧ EN I0 _; rw [g9 49 (by omega) (by omega), gr 279 (by omega) (by omega)]; exact g3
      · rw [g9 23 (by omega) (by omega), gr 265 (by omega) (by omega)]; exact g4
      · rw [g9 41 (by omega) (by omega)]; exact g5
      · rw [g9 42 (by omega) (by omega)]; exact g6
      · rw [gr 266 (by omega) (by omega)]; exact g7
end OPS4
