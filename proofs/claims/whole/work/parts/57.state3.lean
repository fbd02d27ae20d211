section STATE3
variable {I : Nat → Nat → Int32} {N : Nat → Nat → Nat} {Z : Nat → Nat → Int32} {r : Nat → Int32} {i j q a p : Nat} {b : Int32}
theorem rg_Me {u o : Nat} (h : RG I N Z) (h1 : u < o) (h2 : o < 10) : RG (am_up I 17 (10 * u + o) b) N (am_up Z 6 (10 * u + o) b) := by
  obtain ⟨pW, pH, pT, pS, pL, pV, pR, pCr, pWl, pWy, pFo, pSh, pNo, pX, pY, pWe, pSa, pKi, pAn, pDg, pTh, pDr, pSp, pSk, pS0, pSx, pSy, pSt, pRa, pRb, pRl, pRt, pMe, pBa, pBt⟩ := h
  refine ⟨?_, ?_, ?_, ?_, ?_, ?_, ?_, ?_, ?_, ?_, ?_, ?_, ?_, ?_, ?_, ?_, ?_, ?_, ?_, ?_, ?_, ?_, ?_, ?_, ?_, ?_, ?_, ?_, ?_, ?_, ?_, ?_, ?_, ?_, ?_⟩
  · (try simp (disch := omega) only [upA]); exact pW
  · (try simp (disch := omega) only [upA]); exact pH
  · (try simp (disch := omega) only [upA]); exact pT
  · (try simp (disch := omega) only [upA]); exact pS
  · (try simp (disch := omega) only [upA]); exact pL
  · (try simp (disch := omega) only [upA]); exact pV
  · (try simp (disch := omega) only [upA]); exact pR
  · intro v h5; (try simp (disch := omega) only [upA]); exact pCr v h5
  · intro v h5; (try simp (disch := omega) only [upA]); exact pWl v h5
  · intro v h5; (try simp (disch := omega) only [upA]); exact pWy v h5
  · intro v h5; (try simp (disch := omega) only [upA]); exact pFo v h5
  · intro v h5; (try simp (disch := omega) only [upA]); exact pSh v h5
  · intro v h5; (try simp (disch := omega) only [upA]); exact pNo v h5
  · intro v h5; (try simp (disch := omega) only [upA]); exact pX v h5
  · intro v h5; (try simp (disch := omega) only [upA]); exact pY v h5
  · intro v h5; (try simp (disch := omega) only [upA]); exact pWe v h5
  · intro v h5; (try simp (disch := omega) only [upA]); exact pSa v h5
  · intro v h5; (try simp (disch := omega) only [upA]); exact pKi v h5
  · intro v h5; (try simp (disch := omega) only [upA]); exact pAn v h5
  · intro v h5; (try simp (disch := omega) only [upA]); exact pDg v h5
  · intro v h5; (try simp (disch := omega) only [upA]); exact pTh v h5
  · intro v h5; (try simp (disch := omega) only [upA]); exact pDr v h5
  · intro v h5; (try simp (disch := omega) only [upA]); exact pSp v h5
  · intro v h5; (try simp (disch := omega) only [upA]); exact pSk v h5
  · intro v h5 h6; (try simp (disch := omega) only [upA]); exact pS0 v h5 h6
  · intro v h5 h6; (try simp (disch := omega) only [upA]); exact pSx v h5 h6
  · intro v h5 h6; (try simp (disch := omega) only [upA]); exact pSy v h5 h6
  · intro v h5 h6; (try simp (disch := omega) only [upA]); exact pSt v h5 h6
  · intro v h5; (try simp (disch := omega) only [upA]); exact pRa v h5
  · intro v h5; (try simp (disch := omega) only [upA]); exact pRb v h5
  · intro v h5; (try simp (disch := omega) only [upA]); exact pRl v h5
  · intro v h5; (try simp (disch := omega) only [upA]); exact pRt v h5
  · intro u2 v2 g1 g2
    by_cases e : 10 * u2 + v2 = 10 * u + o
    · rw [e, upS, upS]
    · rw [upI e, upI e]; exact pMe u2 v2 g1 g2
  · intro v h5; (try simp (disch := omega) only [upA]); exact pBa v h5
  · intro v h5; (try simp (disch := omega) only [upA]); exact pBt v h5
theorem RG_Z {Z2 : Nat → Nat → Int32} (h : RG I N Z) (h1 : ∀ f i, f ≠ 6 → Z2 f i = Z f i) (h2 : ∀ u v, u < v → v < 10 → Z2 6 (10 * u + v) = Z 6 (10 * u + v)) : RG I N Z2 := by
  obtain ⟨pW, pH, pT, pS, pL, pV, pR, pCr, pWl, pWy, pFo, pSh, pNo, pX, pY, pWe, pSa, pKi, pAn, pDg, pTh, pDr, pSp, pSk, pS0, pSx, pSy, pSt, pRa, pRb, pRl, pRt, pMe, pBa, pBt⟩ := h
  refine ⟨?_, ?_, ?_, ?_, ?_, ?_, ?_, ?_, ?_, ?_, ?_, ?_, ?_, ?_, ?_, ?_, ?_, ?_, ?_, ?_, ?_, ?_, ?_, ?_, ?_, ?_, ?_, ?_, ?_, ?_, ?_, ?_, ?_, ?_, ?_⟩
  · exact pW
  · exact pH
  · exact pT
  · rw [h1 _ _ (by decide)]; exact pS
  · exact pL
  · exact pV
  · exact pR
  · exact pCr
  · exact pWl
  · exact pWy
  · exact pFo
  · exact pSh
  · exact pNo
  · exact pX
  · exact pY
  · exact pWe
  · exact pSa
  · exact pKi
  · exact pAn
  · intro v g; rw [h1 _ _ (by decide)]; exact pDg v g
  · intro v g; rw [h1 _ _ (by decide)]; exact pTh v g
  · intro v g; rw [h1 _ _ (by decide)]; exact pDr v g
  · intro v g; rw [h1 _ _ (by decide)]; exact pSp v g
  · intro v g; rw [h1 _ _ (by decide)]; exact pSk v g
  · exact pS0
  · exact pSx
  · exact pSy
  · exact pSt
  · exact pRa
  · exact pRb
  · exact pRl
  · exact pRt
  · intro u v g1 g2; rw [h2 u v g1 g2]; exact pMe u v g1 g2
  · exact pBa
  · exact pBt
end STATE3
