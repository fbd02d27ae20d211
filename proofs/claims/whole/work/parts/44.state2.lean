section STATE2
variable {I : Nat → Nat → Int32} {N : Nat → Nat → Nat} {Z : Nat → Nat → Int32} {r : Nat → Int32} {i j q a p : Nat} {b : Int32}
theorem rp_W {N : Nat → Nat → Nat} (h : RP p I N Z)  : RP p (am_up I p 0 (nI q)) (am_up N 0 0 q) Z := by
  obtain ⟨pW, pH, pT, pS, pL, pV, pR, pCr, pWl, pWy, pFo, pSh, pNo, pX, pY, pWe, pSa, pKi, pAn, pDg, pTh, pDr, pSp, pSk, pS0, pSx, pSy, pSt, pRa, pRb, pRl, pRt, pMe⟩ := h
  refine ⟨?_, ?_, ?_, ?_, ?_, ?_, ?_, ?_, ?_, ?_, ?_, ?_, ?_, ?_, ?_, ?_, ?_, ?_, ?_, ?_, ?_, ?_, ?_, ?_, ?_, ?_, ?_, ?_, ?_, ?_, ?_, ?_, ?_⟩
  · simp only [upS, vu_s]
  · (try simp (disch := omega) only [upA, upJ, upR, vu_n]); exact pH
  · (try simp (disch := omega) only [upA, upJ, upR, vu_n]); exact pT
  · (try simp (disch := omega) only [upA, upJ, upR, vu_n]); exact pS
  · (try simp (disch := omega) only [upA, upJ, upR, vu_n]); exact pL
  · (try simp (disch := omega) only [upA, upJ, upR, vu_n]); exact pV
  · (try simp (disch := omega) only [upA, upJ, upR, vu_n]); exact pR
  · intro v h0; (try simp (disch := omega) only [upA, upJ, upR, vu_n] at h0); (try simp (disch := omega) only [upA, upJ, upR, vu_n]); exact pCr v h0
  · intro v h0; (try simp (disch := omega) only [upA, upJ, upR, vu_n] at h0); (try simp (disch := omega) only [upA, upJ, upR, vu_n]); exact pWl v h0
  · intro v h0; (try simp (disch := omega) only [upA, upJ, upR, vu_n] at h0); (try simp (disch := omega) only [upA, upJ, upR, vu_n]); exact pWy v h0
  · intro v h0; (try simp (disch := omega) only [upA, upJ, upR, vu_n] at h0); (try simp (disch := omega) only [upA, upJ, upR, vu_n]); exact pFo v h0
  · intro v h0; (try simp (disch := omega) only [upA, upJ, upR, vu_n] at h0); (try simp (disch := omega) only [upA, upJ, upR, vu_n]); exact pSh v h0
  · intro v h0; (try simp (disch := omega) only [upA, upJ, upR, vu_n] at h0); (try simp (disch := omega) only [upA, upJ, upR, vu_n]); exact pNo v h0
  · intro v h0; (try simp (disch := omega) only [upA, upJ, upR, vu_n] at h0); (try simp (disch := omega) only [upA, upJ, upR, vu_n]); exact pX v h0
  · intro v h0; (try simp (disch := omega) only [upA, upJ, upR, vu_n] at h0); (try simp (disch := omega) only [upA, upJ, upR, vu_n]); exact pY v h0
  · intro v h0; (try simp (disch := omega) only [upA, upJ, upR, vu_n] at h0); (try simp (disch := omega) only [upA, upJ, upR, vu_n]); exact pWe v h0
  · intro v h0; (try simp (disch := omega) only [upA, upJ, upR, vu_n] at h0); (try simp (disch := omega) only [upA, upJ, upR, vu_n]); exact pSa v h0
  · intro v h0; (try simp (disch := omega) only [upA, upJ, upR, vu_n] at h0); (try simp (disch := omega) only [upA, upJ, upR, vu_n]); exact pKi v h0
  · intro v h0; (try simp (disch := omega) only [upA, upJ, upR, vu_n] at h0); (try simp (disch := omega) only [upA, upJ, upR, vu_n]); exact pAn v h0
  · intro v h0; (try simp (disch := omega) only [upA, upJ, upR, vu_n] at h0); (try simp (disch := omega) only [upA, upJ, upR, vu_n]); exact pDg v h0
  · intro v h0; (try simp (disch := omega) only [upA, upJ, upR, vu_n] at h0); (try simp (disch := omega) only [upA, upJ, upR, vu_n]); exact pTh v h0
  · intro v h0; (try simp (disch := omega) only [upA, upJ, upR, vu_n] at h0); (try simp (disch := omega) only [upA, upJ, upR, vu_n]); exact pDr v h0
  · intro v h0; (try simp (disch := omega) only [upA, upJ, upR, vu_n] at h0); (try simp (disch := omega) only [upA, upJ, upR, vu_n]); exact pSp v h0
  · intro v h0; (try simp (disch := omega) only [upA, upJ, upR, vu_n] at h0); (try simp (disch := omega) only [upA, upJ, upR, vu_n]); exact pSk v h0
  · intro v h0 h1; (try simp (disch := omega) only [upA, upJ, upR, vu_n] at h0 h1); (try simp (disch := omega) only [upA, upJ, upR, vu_n]); exact pS0 v h0 h1
  · intro v h0 h1; (try simp (disch := omega) only [upA, upJ, upR, vu_n] at h0 h1); (try simp (disch := omega) only [upA, upJ, upR, vu_n]); exact pSx v h0 h1
  · intro v h0 h1; (try simp (disch := omega) only [upA, upJ, upR, vu_n] at h0 h1); (try simp (disch := omega) only [upA, upJ, upR, vu_n]); exact pSy v h0 h1
  · intro v h0 h1; (try simp (disch := omega) only [upA, upJ, upR, vu_n] at h0 h1); (try simp (disch := omega) only [upA, upJ, upR, vu_n]); exact pSt v h0 h1
  · intro v h0; (try simp (disch := omega) only [upA, upJ, upR, vu_n] at h0); (try simp (disch := omega) only [upA, upJ, upR, vu_n]); exact pRa v h0
  · intro v h0; (try simp (disch := omega) only [upA, upJ, upR, vu_n] at h0); (try simp (disch := omega) only [upA, upJ, upR, vu_n]); exact pRb v h0
  · intro v h0; (try simp (disch := omega) only [upA, upJ, upR, vu_n] at h0); (try simp (disch := omega) only [upA, upJ, upR, vu_n]); exact pRl v h0
  · intro v h0; (try simp (disch := omega) only [upA, upJ, upR, vu_n] at h0); (try simp (disch := omega) only [upA, upJ, upR, vu_n]); exact pRt v h0
  · intro u v h0 h1; (try simp (disch := omega) only [upA, upJ, upR, vu_n] at h0 h1); (try simp (disch := omega) only [upA, upJ, upR, vu_n]); exact pMe u v h0 h1
theorem rp_H {N : Nat → Nat → Nat} (h : RP p I N Z)  : RP p (am_up I p 1 (nI q)) (am_up N 0 1 q) Z := by
  obtain ⟨pW, pH, pT, pS, pL, pV, pR, pCr, pWl, pWy, pFo, pSh, pNo, pX, pY, pWe, pSa, pKi, pAn, pDg, pTh, pDr, pSp, pSk, pS0, pSx, pSy, pSt, pRa, pRb, pRl, pRt, pMe⟩ := h
  refine ⟨?_, ?_, ?_, ?_, ?_, ?_, ?_, ?_, ?_, ?_, ?_, ?_, ?_, ?_, ?_, ?_, ?_, ?_, ?_, ?_, ?_, ?_, ?_, ?_, ?_, ?_, ?_, ?_, ?_, ?_, ?_, ?_, ?_⟩
  · (try simp (disch := omega) only [upA, upJ, upR, vu_n]); exact pW
  · simp only [upS, vu_s]
  · (try simp (disch := omega) only [upA, upJ, upR, vu_n]); exact pT
  · (try simp (disch := omega) only [upA, upJ, upR, vu_n]); exact pS
  · (try simp (disch := omega) only [upA, upJ, upR, vu_n]); exact pL
  · (try simp (disch := omega) only [upA, upJ, upR, vu_n]); exact pV
  · (try simp (disch := omega) only [upA, upJ, upR, vu_n]); exact pR
  · intro v h0; (try simp (disch := omega) only [upA, upJ, upR, vu_n] at h0); (try simp (disch := omega) only [upA, upJ, upR, vu_n]); exact pCr v h0
  · intro v h0; (try simp (disch := omega) only [upA, upJ, upR, vu_n] at h0); (try simp (disch := omega) only [upA, upJ, upR, vu_n]); exact pWl v h0
  · intro v h0; (try simp (disch := omega) only [upA, upJ, upR, vu_n] at h0); (try simp (disch := omega) only [upA, upJ, upR, vu_n]); exact pWy v h0
  · intro v h0; (try simp (disch := omega) only [upA, upJ, upR, vu_n] at h0); (try simp (disch := omega) only [upA, upJ, upR, vu_n]); exact pFo v h0
  · intro v h0; (try simp (disch := omega) only [upA, upJ, upR, vu_n] at h0); (try simp (disch := omega) only [upA, upJ, upR, vu_n]); exact pSh v h0
  · intro v h0; (try simp (disch := omega) only [upA, upJ, upR, vu_n] at h0); (try simp (disch := omega) only [upA, upJ, upR, vu_n]); exact pNo v h0
  · intro v h0; (try simp (disch := omega) only [upA, upJ, upR, vu_n] at h0); (try simp (disch := omega) only [upA, upJ, upR, vu_n]); exact pX v h0
  · intro v h0; (try simp (disch := omega) only [upA, upJ, upR, vu_n] at h0); (try simp (disch := omega) only [upA, upJ, upR, vu_n]); exact pY v h0
  · intro v h0; (try simp (disch := omega) only [upA, upJ, upR, vu_n] at h0); (try simp (disch := omega) only [upA, upJ, upR, vu_n]); exact pWe v h0
  · intro v h0; (try simp (disch := omega) only [upA, upJ, upR, vu_n] at h0); (try simp (disch := omega) only [upA, upJ, upR, vu_n]); exact pSa v h0
  · intro v h0; (try simp (disch := omega) only [upA, upJ, upR, vu_n] at h0); (try simp (disch := omega) only [upA, upJ, upR, vu_n]); exact pKi v h0
  · intro v h0; (try simp (disch := omega) only [upA, upJ, upR, vu_n] at h0); (try simp (disch := omega) only [upA, upJ, upR, vu_n]); exact pAn v h0
  · intro v h0; (try simp (disch := omega) only [upA, upJ, upR, vu_n] at h0); (try simp (disch := omega) only [upA, upJ, upR, vu_n]); exact pDg v h0
  · intro v h0; (try simp (disch := omega) only [upA, upJ, upR, vu_n] at h0); (try simp (disch := omega) only [upA, upJ, upR, vu_n]); exact pTh v h0
  · intro v h0; (try simp (disch := omega) only [upA, upJ, upR, vu_n] at h0); (try simp (disch := omega) only [upA, upJ, upR, vu_n]); exact pDr v h0
  · intro v h0; (try simp (disch := omega) only [upA, upJ, upR, vu_n] at h0); (try simp (disch := omega) only [upA, upJ, upR, vu_n]); exact pSp v h0
  · intro v h0; (try simp (disch := omega) only [upA, upJ, upR, vu_n] at h0); (try simp (disch := omega) only [upA, upJ, upR, vu_n]); exact pSk v h0
  · intro v h0 h1; (try simp (disch := omega) only [upA, upJ, upR, vu_n] at h0 h1); (try simp (disch := omega) only [upA, upJ, upR, vu_n]); exact pS0 v h0 h1
  · intro v h0 h1; (try simp (disch := omega) only [upA, upJ, upR, vu_n] at h0 h1); (try simp (disch := omega) only [upA, upJ, upR, vu_n]); exact pSx v h0 h1
  · intro v h0 h1; (try simp (disch := omega) only [upA, upJ, upR, vu_n] at h0 h1); (try simp (disch := omega) only [upA, upJ, upR, vu_n]); exact pSy v h0 h1
  · intro v h0 h1; (try simp (disch := omega) only [upA, upJ, upR, vu_n] at h0 h1); (try simp (disch := omega) only [upA, upJ, upR, vu_n]); exact pSt v h0 h1
  · intro v h0; (try simp (disch := omega) only [upA, upJ, upR, vu_n] at h0); (try simp (disch := omega) only [upA, upJ, upR, vu_n]); exact pRa v h0
  · intro v h0; (try simp (disch := omega) only [upA, upJ, upR, vu_n] at h0); (try simp (disch := omega) only [upA, upJ, upR, vu_n]); exact pRb v h0
  · intro v h0; (try simp (disch := omega) only [upA, upJ, upR, vu_n] at h0); (try simp (disch := omega) only [upA, upJ, upR, vu_n]); exact pRl v h0
  · intro v h0; (try simp (disch := omega) only [upA, upJ, upR, vu_n] at h0); (try simp (disch := omega) only [upA, upJ, upR, vu_n]); exact pRt v h0
  · intro u v h0 h1; (try simp (disch := omega) only [upA, upJ, upR, vu_n] at h0 h1); (try simp (disch := omega) only [upA, upJ, upR, vu_n]); exact pMe u v h0 h1
theorem rp_T {N : Nat → Nat → Nat} (h : RP p I N Z)  : RP p (am_up I p 2 (nI q)) (am_up N 0 2 q) Z := by
  obtain ⟨pW, pH, pT, pS, pL, pV, pR, pCr, pWl, pWy, pFo, pSh, pNo, pX, pY, pWe, pSa, pKi, pAn, pDg, pTh, pDr, pSp, pSk, pS0, pSx, pSy, pSt, pRa, pRb, pRl, pRt, pMe⟩ := h
  refine ⟨?_, ?_, ?_, ?_, ?_, ?_, ?_, ?_, ?_, ?_, ?_, ?_, ?_, ?_, ?_, ?_, ?_, ?_, ?_, ?_, ?_, ?_, ?_, ?_, ?_, ?_, ?_, ?_, ?_, ?_, ?_, ?_, ?_⟩
  · (try simp (disch := omega) only [upA, upJ, upR, vu_n]); exact pW
  · (try simp (disch := omega) only [upA, upJ, upR, vu_n]); exact pH
  · simp only [upS, vu_s]
  · (try simp (disch := omega) only [upA, upJ, upR, vu_n]); exact pS
  · (try simp (disch := omega) only [upA, upJ, upR, vu_n]); exact pL
  · (try simp (disch := omega) only [upA, upJ, upR, vu_n]); exact pV
  · (try simp (disch := omega) only [upA, upJ, upR, vu_n]); exact pR
  · intro v h0; (try simp (disch := omega) only [upA, upJ, upR, vu_n] at h0); (try simp (disch := omega) only [upA, upJ, upR, vu_n]); exact pCr v h0
  · intro v h0; (try simp (disch := omega) only [upA, upJ, upR, vu_n] at h0); (try simp (disch := omega) only [upA, upJ, upR, vu_n]); exact pWl v h0
  · intro v h0; (try simp (disch := omega) only [upA, upJ, upR, vu_n] at h0); (try simp (disch := omega) only [upA, upJ, upR, vu_n]); exact pWy v h0
  · intro v h0; (try simp (disch := omega) only [upA, upJ, upR, vu_n] at h0); (try simp (disch := omega) only [upA, upJ, upR, vu_n]); exact pFo v h0
  · intro v h0; (try simp (disch := omega) only [upA, upJ, upR, vu_n] at h0); (try simp (disch := omega) only [upA, upJ, upR, vu_n]); exact pSh v h0
  · intro v h0; (try simp (disch := omega) only [upA, upJ, upR, vu_n] at h0); (try simp (disch := omega) only [upA, upJ, upR, vu_n]); exact pNo v h0
  · intro v h0; (try simp (disch := omega) only [upA, upJ, upR, vu_n] at h0); (try simp (disch := omega) only [upA, upJ, upR, vu_n]); exact pX v h0
  · intro v h0; (try simp (disch := omega) only [upA, upJ, upR, vu_n] at h0); (try simp (disch := omega) only [upA, upJ, upR, vu_n]); exact pY v h0
  · intro v h0; (try simp (disch := omega) only [upA, upJ, upR, vu_n] at h0); (try simp (disch := omega) only [upA, upJ, upR, vu_n]); exact pWe v h0
  · intro v h0; (try simp (disch := omega) only [upA, upJ, upR, vu_n] at h0); (try simp (disch := omega) only [upA, upJ, upR, vu_n]); exact pSa v h0
  · intro v h0; (try simp (disch := omega) only [upA, upJ, upR, vu_n] at h0); (try simp (disch := omega) only [upA, upJ, upR, vu_n]); exact pKi v h0
  · intro v h0; (try simp (disch := omega) only [upA, upJ, upR, vu_n] at h0); (try simp (disch := omega) only [upA, upJ, upR, vu_n]); exact pAn v h0
  · intro v h0; (try simp (disch := omega) only [upA, upJ, upR, vu_n] at h0); (try simp (disch := omega) only [upA, upJ, upR, vu_n]); exact pDg v h0
  · intro v h0; (try simp (disch := omega) only [upA, upJ, upR, vu_n] at h0); (try simp (disch := omega) only [upA, upJ, upR, vu_n]); exact pTh v h0
  · intro v h0; (try simp (disch := omega) only [upA, upJ, upR, vu_n] at h0); (try simp (disch := omega) only [upA, upJ, upR, vu_n]); exact pDr v h0
  · intro v h0; (try simp (disch := omega) only [upA, upJ, upR, vu_n] at h0); (try simp (disch := omega) only [upA, upJ, upR, vu_n]); exact pSp v h0
  · intro v h0; (try simp (disch := omega) only [upA, upJ, upR, vu_n] at h0); (try simp (disch := omega) only [upA, upJ, upR, vu_n]); exact pSk v h0
  · intro v h0 h1; (try simp (disch := omega) only [upA, upJ, upR, vu_n] at h0 h1); (try simp (disch := omega) only [upA, upJ, upR, vu_n]); exact pS0 v h0 h1
  · intro v h0 h1; (try simp (disch := omega) only [upA, upJ, upR, vu_n] at h0 h1); (try simp (disch := omega) only [upA, upJ, upR, vu_n]); exact pSx v h0 h1
  · intro v h0 h1; (try simp (disch := omega) only [upA, upJ, upR, vu_n] at h0 h1); (try simp (disch := omega) only [upA, upJ, upR, vu_n]); exact pSy v h0 h1
  · intro v h0 h1; (try simp (disch := omega) only [upA, upJ, upR, vu_n] at h0 h1); (try simp (disch := omega) only [upA, upJ, upR, vu_n]); exact pSt v h0 h1
  · intro v h0; (try simp (disch := omega) only [upA, upJ, upR, vu_n] at h0); (try simp (disch := omega) only [upA, upJ, upR, vu_n]); exact pRa v h0
  · intro v h0; (try simp (disch := omega) only [upA, upJ, upR, vu_n] at h0); (try simp (disch := omega) only [upA, upJ, upR, vu_n]); exact pRb v h0
  · intro v h0; (try simp (disch := omega) only [upA, upJ, upR, vu_n] at h0); (try simp (disch := omega) only [upA, upJ, upR, vu_n]); exact pRl v h0
  · intro v h0; (try simp (disch := omega) only [upA, upJ, upR, vu_n] at h0); (try simp (disch := omega) only [upA, upJ, upR, vu_n]); exact pRt v h0
  · intro u v h0 h1; (try simp (disch := omega) only [upA, upJ, upR, vu_n] at h0 h1); (try simp (disch := omega) only [upA, upJ, upR, vu_n]); exact pMe u v h0 h1
theorem rp_S {N : Nat → Nat → Nat} (h : RP p I N Z)  : RP p (am_up I p 3 (b)) N (am_up Z 0 0 b) := by
  obtain ⟨pW, pH, pT, pS, pL, pV, pR, pCr, pWl, pWy, pFo, pSh, pNo, pX, pY, pWe, pSa, pKi, pAn, pDg, pTh, pDr, pSp, pSk, pS0, pSx, pSy, pSt, pRa, pRb, pRl, pRt, pMe⟩ := h
  refine ⟨?_, ?_, ?_, ?_, ?_, ?_, ?_, ?_, ?_, ?_, ?_, ?_, ?_, ?_, ?_, ?_, ?_, ?_, ?_, ?_, ?_, ?_, ?_, ?_, ?_, ?_, ?_, ?_, ?_, ?_, ?_, ?_, ?_⟩
  · (try simp (disch := omega) only [upA, upJ, upR, vu_n]); exact pW
  · (try simp (disch := omega) only [upA, upJ, upR, vu_n]); exact pH
  · (try simp (disch := omega) only [upA, upJ, upR, vu_n]); exact pT
  · simp only [upS, vu_s]
  · (try simp (disch := omega) only [upA, upJ, upR, vu_n]); exact pL
  · (try simp (disch := omega) only [upA, upJ, upR, vu_n]); exact pV
  · (try simp (disch := omega) only [upA, upJ, upR, vu_n]); exact pR
  · intro v h0; (try simp (disch := omega) only [upA, upJ, upR, vu_n] at h0); (try simp (disch := omega) only [upA, upJ, upR, vu_n]); exact pCr v h0
  · intro v h0; (try simp (disch := omega) only [upA, upJ, upR, vu_n] at h0); (try simp (disch := omega) only [upA, upJ, upR, vu_n]); exact pWl v h0
  · intro v h0; (try simp (disch := omega) only [upA, upJ, upR, vu_n] at h0); (try simp (disch := omega) only [upA, upJ, upR, vu_n]); exact pWy v h0
  · intro v h0; (try simp (disch := omega) only [upA, upJ, upR, vu_n] at h0); (try simp (disch := omega) only [upA, upJ, upR, vu_n]); exact pFo v h0
  · intro v h0; (try simp (disch := omega) only [upA, upJ, upR, vu_n] at h0); (try simp (disch := omega) only [upA, upJ, upR, vu_n]); exact pSh v h0
  · intro v h0; (try simp (disch := omega) only [upA, upJ, upR, vu_n] at h0); (try simp (disch := omega) only [upA, upJ, upR, vu_n]); exact pNo v h0
  · intro v h0; (try simp (disch := omega) only [upA, upJ, upR, vu_n] at h0); (try simp (disch := omega) only [upA, upJ, upR, vu_n]); exact pX v h0
  · intro v h0; (try simp (disch := omega) only [upA, upJ, upR, vu_n] at h0); (try simp (disch := omega) only [upA, upJ, upR, vu_n]); exact pY v h0
  · intro v h0; (try simp (disch := omega) only [upA, upJ, upR, vu_n] at h0); (try simp (disch := omega) only [upA, upJ, upR, vu_n]); exact pWe v h0
  · intro v h0; (try simp (disch := omega) only [upA, upJ, upR, vu_n] at h0); (try simp (disch := omega) only [upA, upJ, upR, vu_n]); exact pSa v h0
  · intro v h0; (try simp (disch := omega) only [upA, upJ, upR, vu_n] at h0); (try simp (disch := omega) only [upA, upJ, upR, vu_n]); exact pKi v h0
  · intro v h0; (try simp (disch := omega) only [upA, upJ, upR, vu_n] at h0); (try simp (disch := omega) only [upA, upJ, upR, vu_n]); exact pAn v h0
  · intro v h0; (try simp (disch := omega) only [upA, upJ, upR, vu_n] at h0); (try simp (disch := omega) only [upA, upJ, upR, vu_n]); exact pDg v h0
  · intro v h0; (try simp (disch := omega) only [upA, upJ, upR, vu_n] at h0); (try simp (disch := omega) only [upA, upJ, upR, vu_n]); exact pTh v h0
  · intro v h0; (try simp (disch := omega) only [upA, upJ, upR, vu_n] at h0); (try simp (disch := omega) only [upA, upJ, upR, vu_n]); exact pDr v h0
  · intro v h0; (try simp (disch := omega) only [upA, upJ, upR, vu_n] at h0); (try simp (disch := omega) only [upA, upJ, upR, vu_n]); exact pSp v h0
  · intro v h0; (try simp (disch := omega) only [upA, upJ, upR, vu_n] at h0); (try simp (disch := omega) only [upA, upJ, upR, vu_n]); exact pSk v h0
  · intro v h0 h1; (try simp (disch := omega) only [upA, upJ, upR, vu_n] at h0 h1); (try simp (disch := omega) only [upA, upJ, upR, vu_n]); exact pS0 v h0 h1
  · intro v h0 h1; (try simp (disch := omega) only [upA, upJ, upR, vu_n] at h0 h1); (try simp (disch := omega) only [upA, upJ, upR, vu_n]); exact pSx v h0 h1
  · intro v h0 h1; (try simp (disch := omega) only [upA, upJ, upR, vu_n] at h0 h1); (try simp (disch := omega) only [upA, upJ, upR, vu_n]); exact pSy v h0 h1
  · intro v h0 h1; (try simp (disch := omega) only [upA, upJ, upR, vu_n] at h0 h1); (try simp (disch := omega) only [upA, upJ, upR, vu_n]); exact pSt v h0 h1
  · intro v h0; (try simp (disch := omega) only [upA, upJ, upR, vu_n] at h0); (try simp (disch := omega) only [upA, upJ, upR, vu_n]); exact pRa v h0
  · intro v h0; (try simp (disch := omega) only [upA, upJ, upR, vu_n] at h0); (try simp (disch := omega) only [upA, upJ, upR, vu_n]); exact pRb v h0
  · intro v h0; (try simp (disch := omega) only [upA, upJ, upR, vu_n] at h0); (try simp (disch := omega) only [upA, upJ, upR, vu_n]); exact pRl v h0
  · intro v h0; (try simp (disch := omega) only [upA, upJ, upR, vu_n] at h0); (try simp (disch := omega) only [upA, upJ, upR, vu_n]); exact pRt v h0
  · intro u v h0 h1; (try simp (disch := omega) only [upA, upJ, upR, vu_n] at h0 h1); (try simp (disch := omega) only [upA, upJ, upR, vu_n]); exact pMe u v h0 h1
theorem rp_L {N : Nat → Nat → Nat} (h : RP p I N Z)  : RP p (am_up I p 4 (nI q)) (am_up N 0 3 q) Z := by
  obtain ⟨pW, pH, pT, pS, pL, pV, pR, pCr, pWl, pWy, pFo, pSh, pNo, pX, pY, pWe, pSa, pKi, pAn, pDg, pTh, pDr, pSp, pSk, pS0, pSx, pSy, pSt, pRa, pRb, pRl, pRt, pMe⟩ := h
  refine ⟨?_, ?_, ?_, ?_, ?_, ?_, ?_, ?_, ?_, ?_, ?_, ?_, ?_, ?_, ?_, ?_, ?_, ?_, ?_, ?_, ?_, ?_, ?_, ?_, ?_, ?_, ?_, ?_, ?_, ?_, ?_, ?_, ?_⟩
  · (try simp (disch := omega) only [upA, upJ, upR, vu_n]); exact pW
  · (try simp (disch := omega) only [upA, upJ, upR, vu_n]); exact pH
  · (try simp (disch := omega) only [upA, upJ, upR, vu_n]); exact pT
  · (try simp (disch := omega) only [upA, upJ, upR, vu_n]); exact pS
  · simp only [upS, vu_s]
  · (try simp (disch := omega) only [upA, upJ, upR, vu_n]); exact pV
  · (try simp (disch := omega) only [upA, upJ, upR, vu_n]); exact pR
  · intro v h0; (try simp (disch := omega) only [upA, upJ, upR, vu_n] at h0); (try simp (disch := omega) only [upA, upJ, upR, vu_n]); exact pCr v h0
  · intro v h0; (try simp (disch := omega) only [upA, upJ, upR, vu_n] at h0); (try simp (disch := omega) only [upA, upJ, upR, vu_n]); exact pWl v h0
  · intro v h0; (try simp (disch := omega) only [upA, upJ, upR, vu_n] at h0); (try simp (disch := omega) only [upA, upJ, upR, vu_n]); exact pWy v h0
  · intro v h0; (try simp (disch := omega) only [upA, upJ, upR, vu_n] at h0); (try simp (disch := omega) only [upA, upJ, upR, vu_n]); exact pFo v h0
  · intro v h0; (try simp (disch := omega) only [upA, upJ, upR, vu_n] at h0); (try simp (disch := omega) only [upA, upJ, upR, vu_n]); exact pSh v h0
  · intro v h0; (try simp (disch := omega) only [upA, upJ, upR, vu_n] at h0); (try simp (disch := omega) only [upA, upJ, upR, vu_n]); exact pNo v h0
  · intro v h0; (try simp (disch := omega) only [upA, upJ, upR, vu_n] at h0); (try simp (disch := omega) only [upA, upJ, upR, vu_n]); exact pX v h0
  · intro v h0; (try simp (disch := omega) only [upA, upJ, upR, vu_n] at h0); (try simp (disch := omega) only [upA, upJ, upR, vu_n]); exact pY v h0
  · intro v h0; (try simp (disch := omega) only [upA, upJ, upR, vu_n] at h0); (try simp (disch := omega) only [upA, upJ, upR, vu_n]); exact pWe v h0
  · intro v h0; (try simp (disch := omega) only [upA, upJ, upR, vu_n] at h0); (try simp (disch := omega) only [upA, upJ, upR, vu_n]); exact pSa v h0
  · intro v h0; (try simp (disch := omega) only [upA, upJ, upR, vu_n] at h0); (try simp (disch := omega) only [upA, upJ, upR, vu_n]); exact pKi v h0
  · intro v h0; (try simp (disch := omega) only [upA, upJ, upR, vu_n] at h0); (try simp (disch := omega) only [upA, upJ, upR, vu_n]); exact pAn v h0
  · intro v h0; (try simp (disch := omega) only [upA, upJ, upR, vu_n] at h0); (try simp (disch := omega) only [upA, upJ, upR, vu_n]); exact pDg v h0
  · intro v h0; (try simp (disch := omega) only [upA, upJ, upR, vu_n] at h0); (try simp (disch := omega) only [upA, upJ, upR, vu_n]); exact pTh v h0
  · intro v h0; (try simp (disch := omega) only [upA, upJ, upR, vu_n] at h0); (try simp (disch := omega) only [upA, upJ, upR, vu_n]); exact pDr v h0
  · intro v h0; (try simp (disch := omega) only [upA, upJ, upR, vu_n] at h0); (try simp (disch := omega) only [upA, upJ, upR, vu_n]); exact pSp v h0
  · intro v h0; (try simp (disch := omega) only [upA, upJ, upR, vu_n] at h0); (try simp (disch := omega) only [upA, upJ, upR, vu_n]); exact pSk v h0
  · intro v h0 h1; (try simp (disch := omega) only [upA, upJ, upR, vu_n] at h0 h1); (try simp (disch := omega) only [upA, upJ, upR, vu_n]); exact pS0 v h0 h1
  · intro v h0 h1; (try simp (disch := omega) only [upA, upJ, upR, vu_n] at h0 h1); (try simp (disch := omega) only [upA, upJ, upR, vu_n]); exact pSx v h0 h1
  · intro v h0 h1; (try simp (disch := omega) only [upA, upJ, upR, vu_n] at h0 h1); (try simp (disch := omega) only [upA, upJ, upR, vu_n]); exact pSy v h0 h1
  · intro v h0 h1; (try simp (disch := omega) only [upA, upJ, upR, vu_n] at h0 h1); (try simp (disch := omega) only [upA, upJ, upR, vu_n]); exact pSt v h0 h1
  · intro v h0; (try simp (disch := omega) only [upA, upJ, upR, vu_n] at h0); (try simp (disch := omega) only [upA, upJ, upR, vu_n]); exact pRa v h0
  · intro v h0; (try simp (disch := omega) only [upA, upJ, upR, vu_n] at h0); (try simp (disch := omega) only [upA, upJ, upR, vu_n]); exact pRb v h0
  · intro v h0; (try simp (disch := omega) only [upA, upJ, upR, vu_n] at h0); (try simp (disch := omega) only [upA, upJ, upR, vu_n]); exact pRl v h0
  · intro v h0; (try simp (disch := omega) only [upA, upJ, upR, vu_n] at h0); (try simp (disch := omega) only [upA, upJ, upR, vu_n]); exact pRt v h0
  · intro u v h0 h1; (try simp (disch := omega) only [upA, upJ, upR, vu_n] at h0 h1); (try simp (disch := omega) only [upA, upJ, upR, vu_n]); exact pMe u v h0 h1
theorem rp_Cr {N : Nat → Nat → Nat} (h : RP p I N Z) (hi : i < 144) : RP p (am_up I (p + 1) i (nI q)) (am_up N 7 i q) Z := by
  obtain ⟨pW, pH, pT, pS, pL, pV, pR, pCr, pWl, pWy, pFo, pSh, pNo, pX, pY, pWe, pSa, pKi, pAn, pDg, pTh, pDr, pSp, pSk, pS0, pSx, pSy, pSt, pRa, pRb, pRl, pRt, pMe⟩ := h
  refine ⟨?_, ?_, ?_, ?_, ?_, ?_, ?_, ?_, ?_, ?_, ?_, ?_, ?_, ?_, ?_, ?_, ?_, ?_, ?_, ?_, ?_, ?_, ?_, ?_, ?_, ?_, ?_, ?_, ?_, ?_, ?_, ?_, ?_⟩
  · (try simp (disch := omega) only [upA, upJ, upR, vu_n]); exact pW
  · (try simp (disch := omega) only [upA, upJ, upR, vu_n]); exact pH
  · (try simp (disch := omega) only [upA, upJ, upR, vu_n]); exact pT
  · (try simp (disch := omega) only [upA, upJ, upR, vu_n]); exact pS
  · (try simp (disch := omega) only [upA, upJ, upR, vu_n]); exact pL
  · (try simp (disch := omega) only [upA, upJ, upR, vu_n]); exact pV
  · (try simp (disch := omega) only [upA, upJ, upR, vu_n]); exact pR
  · intro v h0; by_cases e : v = i
    · subst e; simp only [upS, vu_s]
    · (try simp (disch := omega) only [upA, upJ, upR, vu_n] at h0); (try simp (disch := omega) only [upA, upJ, upR, vu_n]); exact pCr v h0
  · intro v h0; (try simp (disch := omega) only [upA, upJ, upR, vu_n] at h0); (try simp (disch := omega) only [upA, upJ, upR, vu_n]); exact pWl v h0
  · intro v h0; (try simp (disch := omega) only [upA, upJ, upR, vu_n] at h0); (try simp (disch := omega) only [upA, upJ, upR, vu_n]); exact pWy v h0
  · intro v h0; (try simp (disch := omega) only [upA, upJ, upR, vu_n] at h0); (try simp (disch := omega) only [upA, upJ, upR, vu_n]); exact pFo v h0
  · intro v h0; (try simp (disch := omega) only [upA, upJ, upR, vu_n] at h0); (try simp (disch := omega) only [upA, upJ, upR, vu_n]); exact pSh v h0
  · intro v h0; (try simp (disch := omega) only [upA, upJ, upR, vu_n] at h0); (try simp (disch := omega) only [upA, upJ, upR, vu_n]); exact pNo v h0
  · intro v h0; (try simp (disch := omega) only [upA, upJ, upR, vu_n] at h0); (try simp (disch := omega) only [upA, upJ, upR, vu_n]); exact pX v h0
  · intro v h0; (try simp (disch := omega) only [upA, upJ, upR, vu_n] at h0); (try simp (disch := omega) only [upA, upJ, upR, vu_n]); exact pY v h0
  · intro v h0; (try simp (disch := omega) only [upA, upJ, upR, vu_n] at h0); (try simp (disch := omega) only [upA, upJ, upR, vu_n]); exact pWe v h0
  · intro v h0; (try simp (disch := omega) only [upA, upJ, upR, vu_n] at h0); (try simp (disch := omega) only [upA, upJ, upR, vu_n]); exact pSa v h0
  · intro v h0; (try simp (disch := omega) only [upA, upJ, upR, vu_n] at h0); (try simp (disch := omega) only [upA, upJ, upR, vu_n]); exact pKi v h0
  · intro v h0; (try simp (disch := omega) only [upA, upJ, upR, vu_n] at h0); (try simp (disch := omega) only [upA, upJ, upR, vu_n]); exact pAn v h0
  · intro v h0; (try simp (disch := omega) only [upA, upJ, upR, vu_n] at h0); (try simp (disch := omega) only [upA, upJ, upR, vu_n]); exact pDg v h0
  · intro v h0; (try simp (disch := omega) only [upA, upJ, upR, vu_n] at h0); (try simp (disch := omega) only [upA, upJ, upR, vu_n]); exact pTh v h0
  · intro v h0; (try simp (disch := omega) only [upA, upJ, upR, vu_n] at h0); (try simp (disch := omega) only [upA, upJ, upR, vu_n]); exact pDr v h0
  · intro v h0; (try simp (disch := omega) only [upA, upJ, upR, vu_n] at h0); (try simp (disch := omega) only [upA, upJ, upR, vu_n]); exact pSp v h0
  · intro v h0; (try simp (disch := omega) only [upA, upJ, upR, vu_n] at h0); (try simp (disch := omega) only [upA, upJ, upR, vu_n]); exact pSk v h0
  · intro v h0 h1; (try simp (disch := omega) only [upA, upJ, upR, vu_n] at h0 h1); (try simp (disch := omega) only [upA, upJ, upR, vu_n]); exact pS0 v h0 h1
  · intro v h0 h1; (try simp (disch := omega) only [upA, upJ, upR, vu_n] at h0 h1); (try simp (disch := omega) only [upA, upJ, upR, vu_n]); exact pSx v h0 h1
  · intro v h0 h1; (try simp (disch := omega) only [upA, upJ, upR, vu_n] at h0 h1); (try simp (disch := omega) only [upA, upJ, upR, vu_n]); exact pSy v h0 h1
  · intro v h0 h1; (try simp (disch := omega) only [upA, upJ, upR, vu_n] at h0 h1); (try simp (disch := omega) only [upA, upJ, upR, vu_n]); exact pSt v h0 h1
  · intro v h0; (try simp (disch := omega) only [upA, upJ, upR, vu_n] at h0); (try simp (disch := omega) only [upA, upJ, upR, vu_n]); exact pRa v h0
  · intro v h0; (try simp (disch := omega) only [upA, upJ, upR, vu_n] at h0); (try simp (disch := omega) only [upA, upJ, upR, vu_n]); exact pRb v h0
  · intro v h0; (try simp (disch := omega) only [upA, upJ, upR, vu_n] at h0); (try simp (disch := omega) only [upA, upJ, upR, vu_n]); exact pRl v h0
  · intro v h0; (try simp (disch := omega) only [upA, upJ, upR, vu_n] at h0); (try simp (disch := omega) only [upA, upJ, upR, vu_n]); exact pRt v h0
  · intro u v h0 h1; (try simp (disch := omega) only [upA, upJ, upR, vu_n] at h0 h1); (try simp (disch := omega) only [upA, upJ, upR, vu_n]); exact pMe u v h0 h1
theorem rp_Wl {N : Nat → Nat → Nat} (h : RP p I N Z) (hi : i < 144) : RP p (am_up I (p + 2) i (nI q)) (am_up N 8 i q) Z := by
  obtain ⟨pW, pH, pT, pS, pL, pV, pR, pCr, pWl, pWy, pFo, pSh, pNo, pX, pY, pWe, pSa, pKi, pAn, pDg, pTh, pDr, pSp, pSk, pS0, pSx, pSy, pSt, pRa, pRb, pRl, pRt, pMe⟩ := h
  refine ⟨?_, ?_, ?_, ?_, ?_, ?_, ?_, ?_, ?_, ?_, ?_, ?_, ?_, ?_, ?_, ?_, ?_, ?_, ?_, ?_, ?_, ?_, ?_, ?_, ?_, ?_, ?_, ?_, ?_, ?_, ?_, ?_, ?_⟩
  · (try simp (disch := omega) only [upA, upJ, upR, vu_n]); exact pW
  · (try simp (disch := omega) only [upA, upJ, upR, vu_n]); exact pH
  · (try simp (disch := omega) only [upA, upJ, upR, vu_n]); exact pT
  · (try simp (disch := omega) only [upA, upJ, upR, vu_n]); exact pS
  · (try simp (disch := omega) only [upA, upJ, upR, vu_n]); exact pL
  · (try simp (disch := omega) only [upA, upJ, upR, vu_n]); exact pV
  · (try simp (disch := omega) only [upA, upJ, upR, vu_n]); exact pR
  · intro v h0; (try simp (disch := omega) only [upA, upJ, upR, vu_n] at h0); (try simp (disch := omega) only [upA, upJ, upR, vu_n]); exact pCr v h0
  · intro v h0; by_cases e : v = i
    · subst e; simp only [upS, vu_s]
    · (try simp (disch := omega) only [upA, upJ, upR, vu_n] at h0); (try simp (disch := omega) only [upA, upJ, upR, vu_n]); exact pWl v h0
  · intro v h0; (try simp (disch := omega) only [upA, upJ, upR, vu_n] at h0); (try simp (disch := omega) only [upA, upJ, upR, vu_n]); exact pWy v h0
  · intro v h0; (try simp (disch := omega) only [upA, upJ, upR, vu_n] at h0); (try simp (disch := omega) only [upA, upJ, upR, vu_n]); exact pFo v h0
  · intro v h0; (try simp (disch := omega) only [upA, upJ, upR, vu_n] at h0); (try simp (disch := omega) only [upA, upJ, upR, vu_n]); exact pSh v h0
  · intro v h0; (try simp (disch := omega) only [upA, upJ, upR, vu_n] at h0); (try simp (disch := omega) only [upA, upJ, upR, vu_n]); exact pNo v h0
  · intro v h0; (try simp (disch := omega) only [upA, upJ, upR, vu_n] at h0); (try simp (disch := omega) only [upA, upJ, upR, vu_n]); exact pX v h0
  · intro v h0; (try simp (disch := omega) only [upA, upJ, upR, vu_n] at h0); (try simp (disch := omega) only [upA, upJ, upR, vu_n]); exact pY v h0
  · intro v h0; (try simp (disch := omega) only [upA, upJ, upR, vu_n] at h0); (try simp (disch := omega) only [upA, upJ, upR, vu_n]); exact pWe v h0
  · intro v h0; (try simp (disch := omega) only [upA, upJ, upR, vu_n] at h0); (try simp (disch := omega) only [upA, upJ, upR, vu_n]); exact pSa v h0
  · intro v h0; (try simp (disch := omega) only [upA, upJ, upR, vu_n] at h0); (try simp (disch := omega) only [upA, upJ, upR, vu_n]); exact pKi v h0
  · intro v h0; (try simp (disch := omega) only [upA, upJ, upR, vu_n] at h0); (try simp (disch := omega) only [upA, upJ, upR, vu_n]); exact pAn v h0
  · intro v h0; (try simp (disch := omega) only [upA, upJ, upR, vu_n] at h0); (try simp (disch := omega) only [upA, upJ, upR, vu_n]); exact pDg v h0
  · intro v h0; (try simp (disch := omega) only [upA, upJ, upR, vu_n] at h0); (try simp (disch := omega) only [upA, upJ, upR, vu_n]); exact pTh v h0
  · intro v h0; (try simp (disch := omega) only [upA, upJ, upR, vu_n] at h0); (try simp (disch := omega) only [upA, upJ, upR, vu_n]); exact pDr v h0
  · intro v h0; (try simp (disch := omega) only [upA, upJ, upR, vu_n] at h0); (try simp (disch := omega) only [upA, upJ, upR, vu_n]); exact pSp v h0
  · intro v h0; (try simp (disch := omega) only [upA, upJ, upR, vu_n] at h0); (try simp (disch := omega) only [upA, upJ, upR, vu_n]); exact pSk v h0
  · intro v h0 h1; (try simp (disch := omega) only [upA, upJ, upR, vu_n] at h0 h1); (try simp (disch := omega) only [upA, upJ, upR, vu_n]); exact pS0 v h0 h1
  · intro v h0 h1; (try simp (disch := omega) only [upA, upJ, upR, vu_n] at h0 h1); (try simp (disch := omega) only [upA, upJ, upR, vu_n]); exact pSx v h0 h1
  · intro v h0 h1; (try simp (disch := omega) only [upA, upJ, upR, vu_n] at h0 h1); (try simp (disch := omega) only [upA, upJ, upR, vu_n]); exact pSy v h0 h1
  · intro v h0 h1; (try simp (disch := omega) only [upA, upJ, upR, vu_n] at h0 h1); (try simp (disch := omega) only [upA, upJ, upR, vu_n]); exact pSt v h0 h1
  · intro v h0; (try simp (disch := omega) only [upA, upJ, upR, vu_n] at h0); (try simp (disch := omega) only [upA, upJ, upR, vu_n]); exact pRa v h0
  · intro v h0; (try simp (disch := omega) only [upA, upJ, upR, vu_n] at h0); (try simp (disch := omega) only [upA, upJ, upR, vu_n]); exact pRb v h0
  · intro v h0; (try simp (disch := omega) only [upA, upJ, upR, vu_n] at h0); (try simp (disch := omega) only [upA, upJ, upR, vu_n]); exact pRl v h0
  · intro v h0; (try simp (disch := omega) only [upA, upJ, upR, vu_n] at h0); (try simp (disch := omega) only [upA, upJ, upR, vu_n]); exact pRt v h0
  · intro u v h0 h1; (try simp (disch := omega) only [upA, upJ, upR, vu_n] at h0 h1); (try simp (disch := omega) only [upA, upJ, upR, vu_n]); exact pMe u v h0 h1
theorem rp_Wy {N : Nat → Nat → Nat} (h : RP p I N Z) (hi : i < 24) : RP p (am_up I (p + 3) i (nI q)) (am_up N 9 i q) Z := by
  obtain ⟨pW, pH, pT, pS, pL, pV, pR, pCr, pWl, pWy, pFo, pSh, pNo, pX, pY, pWe, pSa, pKi, pAn, pDg, pTh, pDr, pSp, pSk, pS0, pSx, pSy, pSt, pRa, pRb, pRl, pRt, pMe⟩ := h
  refine ⟨?_, ?_, ?_, ?_, ?_, ?_, ?_, ?_, ?_, ?_, ?_, ?_, ?_, ?_, ?_, ?_, ?_, ?_, ?_, ?_, ?_, ?_, ?_, ?_, ?_, ?_, ?_, ?_, ?_, ?_, ?_, ?_, ?_⟩
  · (try simp (disch := omega) only [upA, upJ, upR, vu_n]); exact pW
  · (try simp (disch := omega) only [upA, upJ, upR, vu_n]); exact pH
  · (try simp (disch := omega) only [upA, upJ, upR, vu_n]); exact pT
  · (try simp (disch := omega) only [upA, upJ, upR, vu_n]); exact pS
  · (try simp (disch := omega) only [upA, upJ, upR, vu_n]); exact pL
  · (try simp (disch := omega) only [upA, upJ, upR, vu_n]); exact pV
  · (try simp (disch := omega) only [upA, upJ, upR, vu_n]); exact pR
  · intro v h0; (try simp (disch := omega) only [upA, upJ, upR, vu_n] at h0); (try simp (disch := omega) only [upA, upJ, upR, vu_n]); exact pCr v h0
  · intro v h0; (try simp (disch := omega) only [upA, upJ, upR, vu_n] at h0); (try simp (disch := omega) only [upA, upJ, upR, vu_n]); exact pWl v h0
  · intro v h0; by_cases e : v = i
    · subst e; simp only [upS, vu_s]
    · (try simp (disch := omega) only [upA, upJ, upR, vu_n] at h0); (try simp (disch := omega) only [upA, upJ, upR, vu_n]); exact pWy v h0
  · intro v h0; (try simp (disch := omega) only [upA, upJ, upR, vu_n] at h0); (try simp (disch := omega) only [upA, upJ, upR, vu_n]); exact pFo v h0
  · intro v h0; (try simp (disch := omega) only [upA, upJ, upR, vu_n] at h0); (try simp (disch := omega) only [upA, upJ, upR, vu_n]); exact pSh v h0
  · intro v h0; (try simp (disch := omega) only [upA, upJ, upR, vu_n] at h0); (try simp (disch := omega) only [upA, upJ, upR, vu_n]); exact pNo v h0
  · intro v h0; (try simp (disch := omega) only [upA, upJ, upR, vu_n] at h0); (try simp (disch := omega) only [upA, upJ, upR, vu_n]); exact pX v h0
  · intro v h0; (try simp (disch := omega) only [upA, upJ, upR, vu_n] at h0); (try simp (disch := omega) only [upA, upJ, upR, vu_n]); exact pY v h0
  · intro v h0; (try simp (disch := omega) only [upA, upJ, upR, vu_n] at h0); (try simp (disch := omega) only [upA, upJ, upR, vu_n]); exact pWe v h0
  · intro v h0; (try simp (disch := omega) only [upA, upJ, upR, vu_n] at h0); (try simp (disch := omega) only [upA, upJ, upR, vu_n]); exact pSa v h0
  · intro v h0; (try simp (disch := omega) only [upA, upJ, upR, vu_n] at h0); (try simp (disch := omega) only [upA, upJ, upR, vu_n]); exact pKi v h0
  · intro v h0; (try simp (disch := omega) only [upA, upJ, upR, vu_n] at h0); (try simp (disch := omega) only [upA, upJ, upR, vu_n]); exact pAn v h0
  · intro v h0; (try simp (disch := omega) only [upA, upJ, upR, vu_n] at h0); (try simp (disch := omega) only [upA, upJ, upR, vu_n]); exact pDg v h0
  · intro v h0; (try simp (disch := omega) only [upA, upJ, upR, vu_n] at h0); (try simp (disch := omega) only [upA, upJ, upR, vu_n]); exact pTh v h0
  · intro v h0; (try simp (disch := omega) only [upA, upJ, upR, vu_n] at h0); (try simp (disch := omega) only [upA, upJ, upR, vu_n]); exact pDr v h0
  · intro v h0; (try simp (disch := omega) only [upA, upJ, upR, vu_n] at h0); (try simp (disch := omega) only [upA, upJ, upR, vu_n]); exact pSp v h0
  · intro v h0; (try simp (disch := omega) only [upA, upJ, upR, vu_n] at h0); (try simp (disch := omega) only [upA, upJ, upR, vu_n]); exact pSk v h0
  · intro v h0 h1; (try simp (disch := omega) only [upA, upJ, upR, vu_n] at h0 h1); (try simp (disch := omega) only [upA, upJ, upR, vu_n]); exact pS0 v h0 h1
  · intro v h0 h1; (try simp (disch := omega) only [upA, upJ, upR, vu_n] at h0 h1); (try simp (disch := omega) only [upA, upJ, upR, vu_n]); exact pSx v h0 h1
  · intro v h0 h1; (try simp (disch := omega) only [upA, upJ, upR, vu_n] at h0 h1); (try simp (disch := omega) only [upA, upJ, upR, vu_n]); exact pSy v h0 h1
  · intro v h0 h1; (try simp (disch := omega) only [upA, upJ, upR, vu_n] at h0 h1); (try simp (disch := omega) only [upA, upJ, upR, vu_n]); exact pSt v h0 h1
  · intro v h0; (try simp (disch := omega) only [upA, upJ, upR, vu_n] at h0); (try simp (disch := omega) only [upA, upJ, upR, vu_n]); exact pRa v h0
  · intro v h0; (try simp (disch := omega) only [upA, upJ, upR, vu_n] at h0); (try simp (disch := omega) only [upA, upJ, upR, vu_n]); exact pRb v h0
  · intro v h0; (try simp (disch := omega) only [upA, upJ, upR, vu_n] at h0); (try simp (disch := omega) only [upA, upJ, upR, vu_n]); exact pRl v h0
  · intro v h0; (try simp (disch := omega) only [upA, upJ, upR, vu_n] at h0); (try simp (disch := omega) only [upA, upJ, upR, vu_n]); exact pRt v h0
  · intro u v h0 h1; (try simp (disch := omega) only [upA, upJ, upR, vu_n] at h0 h1); (try simp (disch := omega) only [upA, upJ, upR, vu_n]); exact pMe u v h0 h1
theorem rp_Fo {N : Nat → Nat → Nat} (h : RP p I N Z) (hi : i < 24) : RP p (am_up I (p + 4) i (nI q)) (am_up N 10 i q) Z := by
  obtain ⟨pW, pH, pT, pS, pL, pV, pR, pCr, pWl, pWy, pFo, pSh, pNo, pX, pY, pWe, pSa, pKi, pAn, pDg, pTh, pDr, pSp, pSk, pS0, pSx, pSy, pSt, pRa, pRb, pRl, pRt, pMe⟩ := h
  refine ⟨?_, ?_, ?_, ?_, ?_, ?_, ?_, ?_, ?_, ?_, ?_, ?_, ?_, ?_, ?_, ?_, ?_, ?_, ?_, ?_, ?_, ?_, ?_, ?_, ?_, ?_, ?_, ?_, ?_, ?_, ?_, ?_, ?_⟩
  · (try simp (disch := omega) only [upA, upJ, upR, vu_n]); exact pW
  · (try simp (disch := omega) only [upA, upJ, upR, vu_n]); exact pH
  · (try simp (disch := omega) only [upA, upJ, upR, vu_n]); exact pT
  · (try simp (disch := omega) only [upA, upJ, upR, vu_n]); exact pS
  · (try simp (disch := omega) only [upA, upJ, upR, vu_n]); exact pL
  · (try simp (disch := omega) only [upA, upJ, upR, vu_n]); exact pV
  · (try simp (disch := omega) only [upA, upJ, upR, vu_n]); exact pR
  · intro v h0; (try simp (disch := omega) only [upA, upJ, upR, vu_n] at h0); (try simp (disch := omega) only [upA, upJ, upR, vu_n]); exact pCr v h0
  · intro v h0; (try simp (disch := omega) only [upA, upJ, upR, vu_n] at h0); (try simp (disch := omega) only [upA, upJ, upR, vu_n]); exact pWl v h0
  · intro v h0; (try simp (disch := omega) only [upA, upJ, upR, vu_n] at h0); (try simp (disch := omega) only [upA, upJ, upR, vu_n]); exact pWy v h0
  · intro v h0; by_cases e : v = i
    · subst e; simp only [upS, vu_s]
    · (try simp (disch := omega) only [upA, upJ, upR, vu_n] at h0); (try simp (disch := omega) only [upA, upJ, upR, vu_n]); exact pFo v h0
  · intro v h0; (try simp (disch := omega) only [upA, upJ, upR, vu_n] at h0); (try simp (disch := omega) only [upA, upJ, upR, vu_n]); exact pSh v h0
  · intro v h0; (try simp (disch := omega) only [upA, upJ, upR, vu_n] at h0); (try simp (disch := omega) only [upA, upJ, upR, vu_n]); exact pNo v h0
  · intro v h0; (try simp (disch := omega) only [upA, upJ, upR, vu_n] at h0); (try simp (disch := omega) only [upA, upJ, upR, vu_n]); exact pX v h0
  · intro v h0; (try simp (disch := omega) only [upA, upJ, upR, vu_n] at h0); (try simp (disch := omega) only [upA, upJ, upR, vu_n]); exact pY v h0
  · intro v h0; (try simp (disch := omega) only [upA, upJ, upR, vu_n] at h0); (try simp (disch := omega) only [upA, upJ, upR, vu_n]); exact pWe v h0
  · intro v h0; (try simp (disch := omega) only [upA, upJ, upR, vu_n] at h0); (try simp (disch := omega) only [upA, upJ, upR, vu_n]); exact pSa v h0
  · intro v h0; (try simp (disch := omega) only [upA, upJ, upR, vu_n] at h0); (try simp (disch := omega) only [upA, upJ, upR, vu_n]); exact pKi v h0
  · intro v h0; (try simp (disch := omega) only [upA, upJ, upR, vu_n] at h0); (try simp (disch := omega) only [upA, upJ, upR, vu_n]); exact pAn v h0
  · intro v h0; (try simp (disch := omega) only [upA, upJ, upR, vu_n] at h0); (try simp (disch := omega) only [upA, upJ, upR, vu_n]); exact pDg v h0
  · intro v h0; (try simp (disch := omega) only [upA, upJ, upR, vu_n] at h0); (try simp (disch := omega) only [upA, upJ, upR, vu_n]); exact pTh v h0
  · intro v h0; (try simp (disch := omega) only [upA, upJ, upR, vu_n] at h0); (try simp (disch := omega) only [upA, upJ, upR, vu_n]); exact pDr v h0
  · intro v h0; (try simp (disch := omega) only [upA, upJ, upR, vu_n] at h0); (try simp (disch := omega) only [upA, upJ, upR, vu_n]); exact pSp v h0
  · intro v h0; (try simp (disch := omega) only [upA, upJ, upR, vu_n] at h0); (try simp (disch := omega) only [upA, upJ, upR, vu_n]); exact pSk v h0
  · intro v h0 h1; (try simp (disch := omega) only [upA, upJ, upR, vu_n] at h0 h1); (try simp (disch := omega) only [upA, upJ, upR, vu_n]); exact pS0 v h0 h1
  · intro v h0 h1; (try simp (disch := omega) only [upA, upJ, upR, vu_n] at h0 h1); (try simp (disch := omega) only [upA, upJ, upR, vu_n]); exact pSx v h0 h1
  · intro v h0 h1; (try simp (disch := omega) only [upA, upJ, upR, vu_n] at h0 h1); (try simp (disch := omega) only [upA, upJ, upR, vu_n]); exact pSy v h0 h1
  · intro v h0 h1; (try simp (disch := omega) only [upA, upJ, upR, vu_n] at h0 h1); (try simp (disch := omega) only [upA, upJ, upR, vu_n]); exact pSt v h0 h1
  · intro v h0; (try simp (disch := omega) only [upA, upJ, upR, vu_n] at h0); (try simp (disch := omega) only [upA, upJ, upR, vu_n]); exact pRa v h0
  · intro v h0; (try simp (disch := omega) only [upA, upJ, upR, vu_n] at h0); (try simp (disch := omega) only [upA, upJ, upR, vu_n]); exact pRb v h0
  · intro v h0; (try simp (disch := omega) only [upA, upJ, upR, vu_n] at h0); (try simp (disch := omega) only [upA, upJ, upR, vu_n]); exact pRl v h0
  · intro v h0; (try simp (disch := omega) only [upA, upJ, upR, vu_n] at h0); (try simp (disch := omega) only [upA, upJ, upR, vu_n]); exact pRt v h0
  · intro u v h0 h1; (try simp (disch := omega) only [upA, upJ, upR, vu_n] at h0 h1); (try simp (disch := omega) only [upA, upJ, upR, vu_n]); exact pMe u v h0 h1
theorem rp_Sh {N : Nat → Nat → Nat} (h : RP p I N Z) (hi : i < 24) : RP p (am_up I (p + 5) i (nI q)) (am_up N 11 i q) Z := by
  obtain ⟨pW, pH, pT, pS, pL, pV, pR, pCr, pWl, pWy, pFo, pSh, pNo, pX, pY, pWe, pSa, pKi, pAn, pDg, pTh, pDr, pSp, pSk, pS0, pSx, pSy, pSt, pRa, pRb, pRl, pRt, pMe⟩ := h
  refine ⟨?_, ?_, ?_, ?_, ?_, ?_, ?_, ?_, ?_, ?_, ?_, ?_, ?_, ?_, ?_, ?_, ?_, ?_, ?_, ?_, ?_, ?_, ?_, ?_, ?_, ?_, ?_, ?_, ?_, ?_, ?_, ?_, ?_⟩
  · (try simp (disch := omega) only [upA, upJ, upR, vu_n]); exact pW
  · (try simp (disch := omega) only [upA, upJ, upR, vu_n]); exact pH
  · (try simp (disch := omega) only [upA, upJ, upR, vu_n]); exact pT
  · (try simp (disch := omega) only [upA, upJ, upR, vu_n]); exact pS
  · (try simp (disch := omega) only [upA, upJ, upR, vu_n]); exact pL
  · (try simp (disch := omega) only [upA, upJ, upR, vu_n]); exact pV
  · (try simp (disch := omega) only [upA, upJ, upR, vu_n]); exact pR
  · intro v h0; (try simp (disch := omega) only [upA, upJ, upR, vu_n] at h0); (try simp (disch := omega) only [upA, upJ, upR, vu_n]); exact pCr v h0
  · intro v h0; (try simp (disch := omega) only [upA, upJ, upR, vu_n] at h0); (try simp (disch := omega) only [upA, upJ, upR, vu_n]); exact pWl v h0
  · intro v h0; (try simp (disch := omega) only [upA, upJ, upR, vu_n] at h0); (try simp (disch := omega) only [upA, upJ, upR, vu_n]); exact pWy v h0
  · intro v h0; (try simp (disch := omega) only [upA, upJ, upR, vu_n] at h0); (try simp (disch := omega) only [upA, upJ, upR, vu_n]); exact pFo v h0
  · intro v h0; by_cases e : v = i
    · subst e; simp only [upS, vu_s]
    · (try simp (disch := omega) only [upA, upJ, upR, vu_n] at h0); (try simp (disch := omega) only [upA, upJ, upR, vu_n]); exact pSh v h0
  · intro v h0; (try simp (disch := omega) only [upA, upJ, upR, vu_n] at h0); (try simp (disch := omega) only [upA, upJ, upR, vu_n]); exact pNo v h0
  · intro v h0; (try simp (disch := omega) only [upA, upJ, upR, vu_n] at h0); (try simp (disch := omega) only [upA, upJ, upR, vu_n]); exact pX v h0
  · intro v h0; (try simp (disch := omega) only [upA, upJ, upR, vu_n] at h0); (try simp (disch := omega) only [upA, upJ, upR, vu_n]); exact pY v h0
  · intro v h0; (try simp (disch := omega) only [upA, upJ, upR, vu_n] at h0); (try simp (disch := omega) only [upA, upJ, upR, vu_n]); exact pWe v h0
  · intro v h0; (try simp (disch := omega) only [upA, upJ, upR, vu_n] at h0); (try simp (disch := omega) only [upA, upJ, upR, vu_n]); exact pSa v h0
  · intro v h0; (try simp (disch := omega) only [upA, upJ, upR, vu_n] at h0); (try simp (disch := omega) only [upA, upJ, upR, vu_n]); exact pKi v h0
  · intro v h0; (try simp (disch := omega) only [upA, upJ, upR, vu_n] at h0); (try simp (disch := omega) only [upA, upJ, upR, vu_n]); exact pAn v h0
  · intro v h0; (try simp (disch := omega) only [upA, upJ, upR, vu_n] at h0); (try simp (disch := omega) only [upA, upJ, upR, vu_n]); exact pDg v h0
  · intro v h0; (try simp (disch := omega) only [upA, upJ, upR, vu_n] at h0); (try simp (disch := omega) only [upA, upJ, upR, vu_n]); exact pTh v h0
  · intro v h0; (try simp (disch := omega) only [upA, upJ, upR, vu_n] at h0); (try simp (disch := omega) only [upA, upJ, upR, vu_n]); exact pDr v h0
  · intro v h0; (try simp (disch := omega) only [upA, upJ, upR, vu_n] at h0); (try simp (disch := omega) only [upA, upJ, upR, vu_n]); exact pSp v h0
  · intro v h0; (try simp (disch := omega) only [upA, upJ, upR, vu_n] at h0); (try simp (disch := omega) only [upA, upJ, upR, vu_n]); exact pSk v h0
  · intro v h0 h1; (try simp (disch := omega) only [upA, upJ, upR, vu_n] at h0 h1); (try simp (disch := omega) only [upA, upJ, upR, vu_n]); exact pS0 v h0 h1
  · intro v h0 h1; (try simp (disch := omega) only [upA, upJ, upR, vu_n] at h0 h1); (try simp (disch := omega) only [upA, upJ, upR, vu_n]); exact pSx v h0 h1
  · intro v h0 h1; (try simp (disch := omega) only [upA, upJ, upR, vu_n] at h0 h1); (try simp (disch := omega) only [upA, upJ, upR, vu_n]); exact pSy v h0 h1
  · intro v h0 h1; (try simp (disch := omega) only [upA, upJ, upR, vu_n] at h0 h1); (try simp (disch := omega) only [upA, upJ, upR, vu_n]); exact pSt v h0 h1
  · intro v h0; (try simp (disch := omega) only [upA, upJ, upR, vu_n] at h0); (try simp (disch := omega) only [upA, upJ, upR, vu_n]); exact pRa v h0
  · intro v h0; (try simp (disch := omega) only [upA, upJ, upR, vu_n] at h0); (try simp (disch := omega) only [upA, upJ, upR, vu_n]); exact pRb v h0
  · intro v h0; (try simp (disch := omega) only [upA, upJ, upR, vu_n] at h0); (try simp (disch := omega) only [upA, upJ, upR, vu_n]); exact pRl v h0
  · intro v h0; (try simp (disch := omega) only [upA, upJ, upR, vu_n] at h0); (try simp (disch := omega) only [upA, upJ, upR, vu_n]); exact pRt v h0
  · intro u v h0 h1; (try simp (disch := omega) only [upA, upJ, upR, vu_n] at h0 h1); (try simp (disch := omega) only [upA, upJ, upR, vu_n]); exact pMe u v h0 h1
theorem rp_X {N : Nat → Nat → Nat} (h : RP p I N Z) (hi : i < 10) : RP p (am_up I (p + (10 + i)) 1 (nI q)) (am_up N 1 i q) Z := by
  obtain ⟨pW, pH, pT, pS, pL, pV, pR, pCr, pWl, pWy, pFo, pSh, pNo, pX, pY, pWe, pSa, pKi, pAn, pDg, pTh, pDr, pSp, pSk, pS0, pSx, pSy, pSt, pRa, pRb, pRl, pRt, pMe⟩ := h
  refine ⟨?_, ?_, ?_, ?_, ?_, ?_, ?_, ?_, ?_, ?_, ?_, ?_, ?_, ?_, ?_, ?_, ?_, ?_, ?_, ?_, ?_, ?_, ?_, ?_, ?_, ?_, ?_, ?_, ?_, ?_, ?_, ?_, ?_⟩
  · (try simp (disch := omega) only [upA, upJ, upR, vu_n]); exact pW
  · (try simp (disch := omega) only [upA, upJ, upR, vu_n]); exact pH
  · (try simp (disch := omega) only [upA, upJ, upR, vu_n]); exact pT
  · (try simp (disch := omega) only [upA, upJ, upR, vu_n]); exact pS
  · (try simp (disch := omega) only [upA, upJ, upR, vu_n]); exact pL
  · (try simp (disch := omega) only [upA, upJ, upR, vu_n]); exact pV
  · (try simp (disch := omega) only [upA, upJ, upR, vu_n]); exact pR
  · intro v h0; (try simp (disch := omega) only [upA, upJ, upR, vu_n] at h0); (try simp (disch := omega) only [upA, upJ, upR, vu_n]); exact pCr v h0
  · intro v h0; (try simp (disch := omega) only [upA, upJ, upR, vu_n] at h0); (try simp (disch := omega) only [upA, upJ, upR, vu_n]); exact pWl v h0
  · intro v h0; (try simp (disch := omega) only [upA, upJ, upR, vu_n] at h0); (try simp (disch := omega) only [upA, upJ, upR, vu_n]); exact pWy v h0
  · intro v h0; (try simp (disch := omega) only [upA, upJ, upR, vu_n] at h0); (try simp (disch := omega) only [upA, upJ, upR, vu_n]); exact pFo v h0
  · intro v h0; (try simp (disch := omega) only [upA, upJ, upR, vu_n] at h0); (try simp (disch := omega) only [upA, upJ, upR, vu_n]); exact pSh v h0
  · intro v h0; (try simp (disch := omega) only [upA, upJ, upR, vu_n] at h0); (try simp (disch := omega) only [upA, upJ, upR, vu_n]); exact pNo v h0
  · intro v h0; by_cases e : v = i
    · subst e; simp only [upS, vu_s]
    · (try simp (disch := omega) only [upA, upJ, upR, vu_n] at h0); (try simp (disch := omega) only [upA, upJ, upR, vu_n]); exact pX v h0
  · intro v h0; (try simp (disch := omega) only [upA, upJ, upR, vu_n] at h0); (try simp (disch := omega) only [upA, upJ, upR, vu_n]); exact pY v h0
  · intro v h0; (try simp (disch := omega) only [upA, upJ, upR, vu_n] at h0); (try simp (disch := omega) only [upA, upJ, upR, vu_n]); exact pWe v h0
  · intro v h0; (try simp (disch := omega) only [upA, upJ, upR, vu_n] at h0); (try simp (disch := omega) only [upA, upJ, upR, vu_n]); exact pSa v h0
  · intro v h0; (try simp (disch := omega) only [upA, upJ, upR, vu_n] at h0); (try simp (disch := omega) only [upA, upJ, upR, vu_n]); exact pKi v h0
  · intro v h0; (try simp (disch := omega) only [upA, upJ, upR, vu_n] at h0); (try simp (disch := omega) only [upA, upJ, upR, vu_n]); exact pAn v h0
  · intro v h0; (try simp (disch := omega) only [upA, upJ, upR, vu_n] at h0); (try simp (disch := omega) only [upA, upJ, upR, vu_n]); exact pDg v h0
  · intro v h0; (try simp (disch := omega) only [upA, upJ, upR, vu_n] at h0); (try simp (disch := omega) only [upA, upJ, upR, vu_n]); exact pTh v h0
  · intro v h0; (try simp (disch := omega) only [upA, upJ, upR, vu_n] at h0); (try simp (disch := omega) only [upA, upJ, upR, vu_n]); exact pDr v h0
  · intro v h0; (try simp (disch := omega) only [upA, upJ, upR, vu_n] at h0); (try simp (disch := omega) only [upA, upJ, upR, vu_n]); exact pSp v h0
  · intro v h0; (try simp (disch := omega) only [upA, upJ, upR, vu_n] at h0); (try simp (disch := omega) only [upA, upJ, upR, vu_n]); exact pSk v h0
  · intro v h0 h1; (try simp (disch := omega) only [upA, upJ, upR, vu_n] at h0 h1); (try simp (disch := omega) only [upA, upJ, upR, vu_n]); exact pS0 v h0 h1
  · intro v h0 h1; (try simp (disch := omega) only [upA, upJ, upR, vu_n] at h0 h1); (try simp (disch := omega) only [upA, upJ, upR, vu_n]); exact pSx v h0 h1
  · intro v h0 h1; (try simp (disch := omega) only [upA, upJ, upR, vu_n] at h0 h1); (try simp (disch := omega) only [upA, upJ, upR, vu_n]); exact pSy v h0 h1
  · intro v h0 h1; (try simp (disch := omega) only [upA, upJ, upR, vu_n] at h0 h1); (try simp (disch := omega) only [upA, upJ, upR, vu_n]); exact pSt v h0 h1
  · intro v h0; (try simp (disch := omega) only [upA, upJ, upR, vu_n] at h0); (try simp (disch := omega) only [upA, upJ, upR, vu_n]); exact pRa v h0
  · intro v h0; (try simp (disch := omega) only [upA, upJ, upR, vu_n] at h0); (try simp (disch := omega) only [upA, upJ, upR, vu_n]); exact pRb v h0
  · intro v h0; (try simp (disch := omega) only [upA, upJ, upR, vu_n] at h0); (try simp (disch := omega) only [upA, upJ, upR, vu_n]); exact pRl v h0
  · intro v h0; (try simp (disch := omega) only [upA, upJ, upR, vu_n] at h0); (try simp (disch := omega) only [upA, upJ, upR, vu_n]); exact pRt v h0
  · intro u v h0 h1; (try simp (disch := omega) only [upA, upJ, upR, vu_n] at h0 h1); (try simp (disch := omega) only [upA, upJ, upR, vu_n]); exact pMe u v h0 h1
theorem rp_Y {N : Nat → Nat → Nat} (h : RP p I N Z) (hi : i < 10) : RP p (am_up I (p + (10 + i)) 2 (nI q)) (am_up N 2 i q) Z := by
  obtain ⟨pW, pH, pT, pS, pL, pV, pR, pCr, pWl, pWy, pFo, pSh, pNo, pX, pY, pWe, pSa, pKi, pAn, pDg, pTh, pDr, pSp, pSk, pS0, pSx, pSy, pSt, pRa, pRb, pRl, pRt, pMe⟩ := h
  refine ⟨?_, ?_, ?_, ?_, ?_, ?_, ?_, ?_, ?_, ?_, ?_, ?_, ?_, ?_, ?_, ?_, ?_, ?_, ?_, ?_, ?_, ?_, ?_, ?_, ?_, ?_, ?_, ?_, ?_, ?_, ?_, ?_, ?_⟩
  · (try simp (disch := omega) only [upA, upJ, upR, vu_n]); exact pW
  · (try simp (disch := omega) only [upA, upJ, upR, vu_n]); exact pH
  · (try simp (disch := omega) only [upA, upJ, upR, vu_n]); exact pT
  · (try simp (disch := omega) only [upA, upJ, upR, vu_n]); exact pS
  · (try simp (disch := omega) only [upA, upJ, upR, vu_n]); exact pL
  · (try simp (disch := omega) only [upA, upJ, upR, vu_n]); exact pV
  · (try simp (disch := omega) only [upA, upJ, upR, vu_n]); exact pR
  · intro v h0; (try simp (disch := omega) only [upA, upJ, upR, vu_n] at h0); (try simp (disch := omega) only [upA, upJ, upR, vu_n]); exact pCr v h0
  · intro v h0; (try simp (disch := omega) only [upA, upJ, upR, vu_n] at h0); (try simp (disch := omega) only [upA, upJ, upR, vu_n]); exact pWl v h0
  · intro v h0; (try simp (disch := omega) only [upA, upJ, upR, vu_n] at h0); (try simp (disch := omega) only [upA, upJ, upR, vu_n]); exact pWy v h0
  · intro v h0; (try simp (disch := omega) only [upA, upJ, upR, vu_n] at h0); (try simp (disch := omega) only [upA, upJ, upR, vu_n]); exact pFo v h0
  · intro v h0; (try simp (disch := omega) only [upA, upJ, upR, vu_n] at h0); (try simp (disch := omega) only [upA, upJ, upR, vu_n]); exact pSh v h0
  · intro v h0; (try simp (disch := omega) only [upA, upJ, upR, vu_n] at h0); (try simp (disch := omega) only [upA, upJ, upR, vu_n]); exact pNo v h0
  · intro v h0; (try simp (disch := omega) only [upA, upJ, upR, vu_n] at h0); (try simp (disch := omega) only [upA, upJ, upR, vu_n]); exact pX v h0
  · intro v h0; by_cases e : v = i
    · subst e; simp only [upS, vu_s]
    · (try simp (disch := omega) only [upA, upJ, upR, vu_n] at h0); (try simp (disch := omega) only [upA, upJ, upR, vu_n]); exact pY v h0
  · intro v h0; (try simp (disch := omega) only [upA, upJ, upR, vu_n] at h0); (try simp (disch := omega) only [upA, upJ, upR, vu_n]); exact pWe v h0
  · intro v h0; (try simp (disch := omega) only [upA, upJ, upR, vu_n] at h0); (try simp (disch := omega) only [upA, upJ, upR, vu_n]); exact pSa v h0
  · intro v h0; (try simp (disch := omega) only [upA, upJ, upR, vu_n] at h0); (try simp (disch := omega) only [upA, upJ, upR, vu_n]); exact pKi v h0
  · intro v h0; (try simp (disch := omega) only [upA, upJ, upR, vu_n] at h0); (try simp (disch := omega) only [upA, upJ, upR, vu_n]); exact pAn v h0
  · intro v h0; (try simp (disch := omega) only [upA, upJ, upR, vu_n] at h0); (try simp (disch := omega) only [upA, upJ, upR, vu_n]); exact pDg v h0
  · intro v h0; (try simp (disch := omega) only [upA, upJ, upR, vu_n] at h0); (try simp (disch := omega) only [upA, upJ, upR, vu_n]); exact pTh v h0
  · intro v h0; (try simp (disch := omega) only [upA, upJ, upR, vu_n] at h0); (try simp (disch := omega) only [upA, upJ, upR, vu_n]); exact pDr v h0
  · intro v h0; (try simp (disch := omega) only [upA, upJ, upR, vu_n] at h0); (try simp (disch := omega) only [upA, upJ, upR, vu_n]); exact pSp v h0
  · intro v h0; (try simp (disch := omega) only [upA, upJ, upR, vu_n] at h0); (try simp (disch := omega) only [upA, upJ, upR, vu_n]); exact pSk v h0
  · intro v h0 h1; (try simp (disch := omega) only [upA, upJ, upR, vu_n] at h0 h1); (try simp (disch := omega) only [upA, upJ, upR, vu_n]); exact pS0 v h0 h1
  · intro v h0 h1; (try simp (disch := omega) only [upA, upJ, upR, vu_n] at h0 h1); (try simp (disch := omega) only [upA, upJ, upR, vu_n]); exact pSx v h0 h1
  · intro v h0 h1; (try simp (disch := omega) only [upA, upJ, upR, vu_n] at h0 h1); (try simp (disch := omega) only [upA, upJ, upR, vu_n]); exact pSy v h0 h1
  · intro v h0 h1; (try simp (disch := omega) only [upA, upJ, upR, vu_n] at h0 h1); (try simp (disch := omega) only [upA, upJ, upR, vu_n]); exact pSt v h0 h1
  · intro v h0; (try simp (disch := omega) only [upA, upJ, upR, vu_n] at h0); (try simp (disch := omega) only [upA, upJ, upR, vu_n]); exact pRa v h0
  · intro v h0; (try simp (disch := omega) only [upA, upJ, upR, vu_n] at h0); (try simp (disch := omega) only [upA, upJ, upR, vu_n]); exact pRb v h0
  · intro v h0; (try simp (disch := omega) only [upA, upJ, upR, vu_n] at h0); (try simp (disch := omega) only [upA, upJ, upR, vu_n]); exact pRl v h0
  · intro v h0; (try simp (disch := omega) only [upA, upJ, upR, vu_n] at h0); (try simp (disch := omega) only [upA, upJ, upR, vu_n]); exact pRt v h0
  · intro u v h0 h1; (try simp (disch := omega) only [upA, upJ, upR, vu_n] at h0 h1); (try simp (disch := omega) only [upA, upJ, upR, vu_n]); exact pMe u v h0 h1
theorem rp_We {N : Nat → Nat → Nat} (h : RP p I N Z) (hi : i < 10) : RP p (am_up I (p + (10 + i)) 3 (nI q)) (am_up N 3 i q) Z := by
  obtain ⟨pW, pH, pT, pS, pL, pV, pR, pCr, pWl, pWy, pFo, pSh, pNo, pX, pY, pWe, pSa, pKi, pAn, pDg, pTh, pDr, pSp, pSk, pS0, pSx, pSy, pSt, pRa, pRb, pRl, pRt, pMe⟩ := h
  refine ⟨?_, ?_, ?_, ?_, ?_, ?_, ?_, ?_, ?_, ?_, ?_, ?_, ?_, ?_, ?_, ?_, ?_, ?_, ?_, ?_, ?_, ?_, ?_, ?_, ?_, ?_, ?_, ?_, ?_, ?_, ?_, ?_, ?_⟩
  · (try simp (disch := omega) only [upA, upJ, upR, vu_n]); exact pW
  · (try simp (disch := omega) only [upA, upJ, upR, vu_n]); exact pH
  · (try simp (disch := omega) only [upA, upJ, upR, vu_n]); exact pT
  · (try simp (disch := omega) only [upA, upJ, upR, vu_n]); exact pS
  · (try simp (disch := omega) only [upA, upJ, upR, vu_n]); exact pL
  · (try simp (disch := omega) only [upA, upJ, upR, vu_n]); exact pV
  · (try simp (disch := omega) only [upA, upJ, upR, vu_n]); exact pR
  · intro v h0; (try simp (disch := omega) only [upA, upJ, upR, vu_n] at h0); (try simp (disch := omega) only [upA, upJ, upR, vu_n]); exact pCr v h0
  · intro v h0; (try simp (disch := omega) only [upA, upJ, upR, vu_n] at h0); (try simp (disch := omega) only [upA, upJ, upR, vu_n]); exact pWl v h0
  · intro v h0; (try simp (disch := omega) only [upA, upJ, upR, vu_n] at h0); (try simp (disch := omega) only [upA, upJ, upR, vu_n]); exact pWy v h0
  · intro v h0; (try simp (disch := omega) only [upA, upJ, upR, vu_n] at h0); (try simp (disch := omega) only [upA, upJ, upR, vu_n]); exact pFo v h0
  · intro v h0; (try simp (disch := omega) only [upA, upJ, upR, vu_n] at h0); (try simp (disch := omega) only [upA, upJ, upR, vu_n]); exact pSh v h0
  · intro v h0; (try simp (disch := omega) only [upA, upJ, upR, vu_n] at h0); (try simp (disch := omega) only [upA, upJ, upR, vu_n]); exact pNo v h0
  · intro v h0; (try simp (disch := omega) only [upA, upJ, upR, vu_n] at h0); (try simp (disch := omega) only [upA, upJ, upR, vu_n]); exact pX v h0
  · intro v h0; (try simp (disch := omega) only [upA, upJ, upR, vu_n] at h0); (try simp (disch := omega) only [upA, upJ, upR, vu_n]); exact pY v h0
  · intro v h0; by_cases e : v = i
    · subst e; simp only [upS, vu_s]
    · (try simp (disch := omega) only [upA, upJ, upR, vu_n] at h0); (try simp (disch := omega) only [upA, upJ, upR, vu_n]); exact pWe v h0
  · intro v h0; (try simp (disch := omega) only [upA, upJ, upR, vu_n] at h0); (try simp (disch := omega) only [upA, upJ, upR, vu_n]); exact pSa v h0
  · intro v h0; (try simp (disch := omega) only [upA, upJ, upR, vu_n] at h0); (try simp (disch := omega) only [upA, upJ, upR, vu_n]); exact pKi v h0
  · intro v h0; (try simp (disch := omega) only [upA, upJ, upR, vu_n] at h0); (try simp (disch := omega) only [upA, upJ, upR, vu_n]); exact pAn v h0
  · intro v h0; (try simp (disch := omega) only [upA, upJ, upR, vu_n] at h0); (try simp (disch := omega) only [upA, upJ, upR, vu_n]); exact pDg v h0
  · intro v h0; (try simp (disch := omega) only [upA, upJ, upR, vu_n] at h0); (try simp (disch := omega) only [upA, upJ, upR, vu_n]); exact pTh v h0
  · intro v h0; (try simp (disch := omega) only [upA, upJ, upR, vu_n] at h0); (try simp (disch := omega) only [upA, upJ, upR, vu_n]); exact pDr v h0
  · intro v h0; (try simp (disch := omega) only [upA, upJ, upR, vu_n] at h0); (try simp (disch := omega) only [upA, upJ, upR, vu_n]); exact pSp v h0
  · intro v h0; (try simp (disch := omega) only [upA, upJ, upR, vu_n] at h0); (try simp (disch := omega) only [upA, upJ, upR, vu_n]); exact pSk v h0
  · intro v h0 h1; (try simp (disch := omega) only [upA, upJ, upR, vu_n] at h0 h1); (try simp (disch := omega) only [upA, upJ, upR, vu_n]); exact pS0 v h0 h1
  · intro v h0 h1; (try simp (disch := omega) only [upA, upJ, upR, vu_n] at h0 h1); (try simp (disch := omega) only [upA, upJ, upR, vu_n]); exact pSx v h0 h1
  · intro v h0 h1; (try simp (disch := omega) only [upA, upJ, upR, vu_n] at h0 h1); (try simp (disch := omega) only [upA, upJ, upR, vu_n]); exact pSy v h0 h1
  · intro v h0 h1; (try simp (disch := omega) only [upA, upJ, upR, vu_n] at h0 h1); (try simp (disch := omega) only [upA, upJ, upR, vu_n]); exact pSt v h0 h1
  · intro v h0; (try simp (disch := omega) only [upA, upJ, upR, vu_n] at h0); (try simp (disch := omega) only [upA, upJ, upR, vu_n]); exact pRa v h0
  · intro v h0; (try simp (disch := omega) only [upA, upJ, upR, vu_n] at h0); (try simp (disch := omega) only [upA, upJ, upR, vu_n]); exact pRb v h0
  · intro v h0; (try simp (disch := omega) only [upA, upJ, upR, vu_n] at h0); (try simp (disch := omega) only [upA, upJ, upR, vu_n]); exact pRl v h0
  · intro v h0; (try simp (disch := omega) only [upA, upJ, upR, vu_n] at h0); (try simp (disch := omega) only [upA, upJ, upR, vu_n]); exact pRt v h0
  · intro u v h0 h1; (try simp (disch := omega) only [upA, upJ, upR, vu_n] at h0 h1); (try simp (disch := omega) only [upA, upJ, upR, vu_n]); exact pMe u v h0 h1
theorem rp_Sa {N : Nat → Nat → Nat} (h : RP p I N Z) (hi : i < 10) : RP p (am_up I (p + (10 + i)) 4 (nI q)) (am_up N 4 i q) Z := by
  obtain ⟨pW, pH, pT, pS, pL, pV, pR, pCr, pWl, pWy, pFo, pSh, pNo, pX, pY, pWe, pSa, pKi, pAn, pDg, pTh, pDr, pSp, pSk, pS0, pSx, pSy, pSt, pRa, pRb, pRl, pRt, pMe⟩ := h
  refine ⟨?_, ?_, ?_, ?_, ?_, ?_, ?_, ?_, ?_, ?_, ?_, ?_, ?_, ?_, ?_, ?_, ?_, ?_, ?_, ?_, ?_, ?_, ?_, ?_, ?_, ?_, ?_, ?_, ?_, ?_, ?_, ?_, ?_⟩
  · (try simp (disch := omega) only [upA, upJ, upR, vu_n]); exact pW
  · (try simp (disch := omega) only [upA, upJ, upR, vu_n]); exact pH
  · (try simp (disch := omega) only [upA, upJ, upR, vu_n]); exact pT
  · (try simp (disch := omega) only [upA, upJ, upR, vu_n]); exact pS
  · (try simp (disch := omega) only [upA, upJ, upR, vu_n]); exact pL
  · (try simp (disch := omega) only [upA, upJ, upR, vu_n]); exact pV
  · (try simp (disch := omega) only [upA, upJ, upR, vu_n]); exact pR
  · intro v h0; (try simp (disch := omega) only [upA, upJ, upR, vu_n] at h0); (try simp (disch := omega) only [upA, upJ, upR, vu_n]); exact pCr v h0
  · intro v h0; (try simp (disch := omega) only [upA, upJ, upR, vu_n] at h0); (try simp (disch := omega) only [upA, upJ, upR, vu_n]); exact pWl v h0
  · intro v h0; (try simp (disch := omega) only [upA, upJ, upR, vu_n] at h0); (try simp (disch := omega) only [upA, upJ, upR, vu_n]); exact pWy v h0
  · intro v h0; (try simp (disch := omega) only [upA, upJ, upR, vu_n] at h0); (try simp (disch := omega) only [upA, upJ, upR, vu_n]); exact pFo v h0
  · intro v h0; (try simp (disch := omega) only [upA, upJ, upR, vu_n] at h0); (try simp (disch := omega) only [upA, upJ, upR, vu_n]); exact pSh v h0
  · intro v h0; (try simp (disch := omega) only [upA, upJ, upR, vu_n] at h0); (try simp (disch := omega) only [upA, upJ, upR, vu_n]); exact pNo v h0
  · intro v h0; (try simp (disch := omega) only [upA, upJ, upR, vu_n] at h0); (try simp (disch := omega) only [upA, upJ, upR, vu_n]); exact pX v h0
  · intro v h0; (try simp (disch := omega) only [upA, upJ, upR, vu_n] at h0); (try simp (disch := omega) only [upA, upJ, upR, vu_n]); exact pY v h0
  · intro v h0; (try simp (disch := omega) only [upA, upJ, upR, vu_n] at h0); (try simp (disch := omega) only [upA, upJ, upR, vu_n]); exact pWe v h0
  · intro v h0; by_cases e : v = i
    · subst e; simp only [upS, vu_s]
    · (try simp (disch := omega) only [upA, upJ, upR, vu_n] at h0); (try simp (disch := omega) only [upA, upJ, upR, vu_n]); exact pSa v h0
  · intro v h0; (try simp (disch := omega) only [upA, upJ, upR, vu_n] at h0); (try simp (disch := omega) only [upA, upJ, upR, vu_n]); exact pKi v h0
  · intro v h0; (try simp (disch := omega) only [upA, upJ, upR, vu_n] at h0); (try simp (disch := omega) only [upA, upJ, upR, vu_n]); exact pAn v h0
  · intro v h0; (try simp (disch := omega) only [upA, upJ, upR, vu_n] at h0); (try simp (disch := omega) only [upA, upJ, upR, vu_n]); exact pDg v h0
  · intro v h0; (try simp (disch := omega) only [upA, upJ, upR, vu_n] at h0); (try simp (disch := omega) only [upA, upJ, upR, vu_n]); exact pTh v h0
  · intro v h0; (try simp (disch := omega) only [upA, upJ, upR, vu_n] at h0); (try simp (disch := omega) only [upA, upJ, upR, vu_n]); exact pDr v h0
  · intro v h0; (try simp (disch := omega) only [upA, upJ, upR, vu_n] at h0); (try simp (disch := omega) only [upA, upJ, upR, vu_n]); exact pSp v h0
  · intro v h0; (try simp (disch := omega) only [upA, upJ, upR, vu_n] at h0); (try simp (disch := omega) only [upA, upJ, upR, vu_n]); exact pSk v h0
  · intro v h0 h1; (try simp (disch := omega) only [upA, upJ, upR, vu_n] at h0 h1); (try simp (disch := omega) only [upA, upJ, upR, vu_n]); exact pS0 v h0 h1
  · intro v h0 h1; (try simp (disch := omega) only [upA, upJ, upR, vu_n] at h0 h1); (try simp (disch := omega) only [upA, upJ, upR, vu_n]); exact pSx v h0 h1
  · intro v h0 h1; (try simp (disch := omega) only [upA, upJ, upR, vu_n] at h0 h1); (try simp (disch := omega) only [upA, upJ, upR, vu_n]); exact pSy v h0 h1
  · intro v h0 h1; (try simp (disch := omega) only [upA, upJ, upR, vu_n] at h0 h1); (try simp (disch := omega) only [upA, upJ, upR, vu_n]); exact pSt v h0 h1
  · intro v h0; (try simp (disch := omega) only [upA, upJ, upR, vu_n] at h0); (try simp (disch := omega) only [upA, upJ, upR, vu_n]); exact pRa v h0
  · intro v h0; (try simp (disch := omega) only [upA, upJ, upR, vu_n] at h0); (try simp (disch := omega) only [upA, upJ, upR, vu_n]); exact pRb v h0
  · intro v h0; (try simp (disch := omega) only [upA, upJ, upR, vu_n] at h0); (try simp (disch := omega) only [upA, upJ, upR, vu_n]); exact pRl v h0
  · intro v h0; (try simp (disch := omega) only [upA, upJ, upR, vu_n] at h0); (try simp (disch := omega) only [upA, upJ, upR, vu_n]); exact pRt v h0
  · intro u v h0 h1; (try simp (disch := omega) only [upA, upJ, upR, vu_n] at h0 h1); (try simp (disch := omega) only [upA, upJ, upR, vu_n]); exact pMe u v h0 h1
theorem rp_Ki {N : Nat → Nat → Nat} (h : RP p I N Z) (hi : i < 10) : RP p (am_up I (p + (10 + i)) 5 (nI q)) (am_up N 5 i q) Z := by
  obtain ⟨pW, pH, pT, pS, pL, pV, pR, pCr, pWl, pWy, pFo, pSh, pNo, pX, pY, pWe, pSa, pKi, pAn, pDg, pTh, pDr, pSp, pSk, pS0, pSx, pSy, pSt, pRa, pRb, pRl, pRt, pMe⟩ := h
  refine ⟨?_, ?_, ?_, ?_, ?_, ?_, ?_, ?_, ?_, ?_, ?_, ?_, ?_, ?_, ?_, ?_, ?_, ?_, ?_, ?_, ?_, ?_, ?_, ?_, ?_, ?_, ?_, ?_, ?_, ?_, ?_, ?_, ?_⟩
  · (try simp (disch := omega) only [upA, upJ, upR, vu_n]); exact pW
  · (try simp (disch := omega) only [upA, upJ, upR, vu_n]); exact pH
  · (try simp (disch := omega) only [upA, upJ, upR, vu_n]); exact pT
  · (try simp (disch := omega) only [upA, upJ, upR, vu_n]); exact pS
  · (try simp (disch := omega) only [upA, upJ, upR, vu_n]); exact pL
  · (try simp (disch := omega) only [upA, upJ, upR, vu_n]); exact pV
  · (try simp (disch := omega) only [upA, upJ, upR, vu_n]); exact pR
  · intro v h0; (try simp (disch := omega) only [upA, upJ, upR, vu_n] at h0); (try simp (disch := omega) only [upA, upJ, upR, vu_n]); exact pCr v h0
  · intro v h0; (try simp (disch := omega) only [upA, upJ, upR, vu_n] at h0); (try simp (disch := omega) only [upA, upJ, upR, vu_n]); exact pWl v h0
  · intro v h0; (try simp (disch := omega) only [upA, upJ, upR, vu_n] at h0); (try simp (disch := omega) only [upA, upJ, upR, vu_n]); exact pWy v h0
  · intro v h0; (try simp (disch := omega) only [upA, upJ, upR, vu_n] at h0); (try simp (disch := omega) only [upA, upJ, upR, vu_n]); exact pFo v h0
  · intro v h0; (try simp (disch := omega) only [upA, upJ, upR, vu_n] at h0); (try simp (disch := omega) only [upA, upJ, upR, vu_n]); exact pSh v h0
  · intro v h0; (try simp (disch := omega) only [upA, upJ, upR, vu_n] at h0); (try simp (disch := omega) only [upA, upJ, upR, vu_n]); exact pNo v h0
  · intro v h0; (try simp (disch := omega) only [upA, upJ, upR, vu_n] at h0); (try simp (disch := omega) only [upA, upJ, upR, vu_n]); exact pX v h0
  · intro v h0; (try simp (disch := omega) only [upA, upJ, upR, vu_n] at h0); (try simp (disch := omega) only [upA, upJ, upR, vu_n]); exact pY v h0
  · intro v h0; (try simp (disch := omega) only [upA, upJ, upR, vu_n] at h0); (try simp (disch := omega) only [upA, upJ, upR, vu_n]); exact pWe v h0
  · intro v h0; (try simp (disch := omega) only [upA, upJ, upR, vu_n] at h0); (try simp (disch := omega) only [upA, upJ, upR, vu_n]); exact pSa v h0
  · intro v h0; by_cases e : v = i
    · subst e; simp only [upS, vu_s]
    · (try simp (disch := omega) only [upA, upJ, upR, vu_n] at h0); (try simp (disch := omega) only [upA, upJ, upR, vu_n]); exact pKi v h0
  · intro v h0; (try simp (disch := omega) only [upA, upJ, upR, vu_n] at h0); (try simp (disch := omega) only [upA, upJ, upR, vu_n]); exact pAn v h0
  · intro v h0; (try simp (disch := omega) only [upA, upJ, upR, vu_n] at h0); (try simp (disch := omega) only [upA, upJ, upR, vu_n]); exact pDg v h0
  · intro v h0; (try simp (disch := omega) only [upA, upJ, upR, vu_n] at h0); (try simp (disch := omega) only [upA, upJ, upR, vu_n]); exact pTh v h0
  · intro v h0; (try simp (disch := omega) only [upA, upJ, upR, vu_n] at h0); (try simp (disch := omega) only [upA, upJ, upR, vu_n]); exact pDr v h0
  · intro v h0; (try simp (disch := omega) only [upA, upJ, upR, vu_n] at h0); (try simp (disch := omega) only [upA, upJ, upR, vu_n]); exact pSp v h0
  · intro v h0; (try simp (disch := omega) only [upA, upJ, upR, vu_n] at h0); (try simp (disch := omega) only [upA, upJ, upR, vu_n]); exact pSk v h0
  · intro v h0 h1; (try simp (disch := omega) only [upA, upJ, upR, vu_n] at h0 h1); (try simp (disch := omega) only [upA, upJ, upR, vu_n]); exact pS0 v h0 h1
  · intro v h0 h1; (try simp (disch := omega) only [upA, upJ, upR, vu_n] at h0 h1); (try simp (disch := omega) only [upA, upJ, upR, vu_n]); exact pSx v h0 h1
  · intro v h0 h1; (try simp (disch := omega) only [upA, upJ, upR, vu_n] at h0 h1); (try simp (disch := omega) only [upA, upJ, upR, vu_n]); exact pSy v h0 h1
  · intro v h0 h1; (try simp (disch := omega) only [upA, upJ, upR, vu_n] at h0 h1); (try simp (disch := omega) only [upA, upJ, upR, vu_n]); exact pSt v h0 h1
  · intro v h0; (try simp (disch := omega) only [upA, upJ, upR, vu_n] at h0); (try simp (disch := omega) only [upA, upJ, upR, vu_n]); exact pRa v h0
  · intro v h0; (try simp (disch := omega) only [upA, upJ, upR, vu_n] at h0); (try simp (disch := omega) only [upA, upJ, upR, vu_n]); exact pRb v h0
  · intro v h0; (try simp (disch := omega) only [upA, upJ, upR, vu_n] at h0); (try simp (disch := omega) only [upA, upJ, upR, vu_n]); exact pRl v h0
  · intro v h0; (try simp (disch := omega) only [upA, upJ, upR, vu_n] at h0); (try simp (disch := omega) only [upA, upJ, upR, vu_n]); exact pRt v h0
  · intro u v h0 h1; (try simp (disch := omega) only [upA, upJ, upR, vu_n] at h0 h1); (try simp (disch := omega) only [upA, upJ, upR, vu_n]); exact pMe u v h0 h1
theorem rp_An {N : Nat → Nat → Nat} (h : RP p I N Z) (hi : i < 10) : RP p (am_up I (p + (10 + i)) 6 (nI q)) (am_up N 6 i q) Z := by
  obtain ⟨pW, pH, pT, pS, pL, pV, pR, pCr, pWl, pWy, pFo, pSh, pNo, pX, pY, pWe, pSa, pKi, pAn, pDg, pTh, pDr, pSp, pSk, pS0, pSx, pSy, pSt, pRa, pRb, pRl, pRt, pMe⟩ := h
  refine ⟨?_, ?_, ?_, ?_, ?_, ?_, ?_, ?_, ?_, ?_, ?_, ?_, ?_, ?_, ?_, ?_, ?_, ?_, ?_, ?_, ?_, ?_, ?_, ?_, ?_, ?_, ?_, ?_, ?_, ?_, ?_, ?_, ?_⟩
  · (try simp (disch := omega) only [upA, upJ, upR, vu_n]); exact pW
  · (try simp (disch := omega) only [upA, upJ, upR, vu_n]); exact pH
  · (try simp (disch := omega) only [upA, upJ, upR, vu_n]); exact pT
  · (try simp (disch := omega) only [upA, upJ, upR, vu_n]); exact pS
  · (try simp (disch := omega) only [upA, upJ, upR, vu_n]); exact pL
  · (try simp (disch := omega) only [upA, upJ, upR, vu_n]); exact pV
  · (try simp (disch := omega) only [upA, upJ, upR, vu_n]); exact pR
  · intro v h0; (try simp (disch := omega) only [upA, upJ, upR, vu_n] at h0); (try simp (disch := omega) only [upA, upJ, upR, vu_n]); exact pCr v h0
  · intro v h0; (try simp (disch := omega) only [upA, upJ, upR, vu_n] at h0); (try simp (disch := omega) only [upA, upJ, upR, vu_n]); exact pWl v h0
  · intro v h0; (try simp (disch := omega) only [upA, upJ, upR, vu_n] at h0); (try simp (disch := omega) only [upA, upJ, upR, vu_n]); exact pWy v h0
  · intro v h0; (try simp (disch := omega) only [upA, upJ, upR, vu_n] at h0); (try simp (disch := omega) only [upA, upJ, upR, vu_n]); exact pFo v h0
  · intro v h0; (try simp (disch := omega) only [upA, upJ, upR, vu_n] at h0); (try simp (disch := omega) only [upA, upJ, upR, vu_n]); exact pSh v h0
  · intro v h0; (try simp (disch := omega) only [upA, upJ, upR, vu_n] at h0); (try simp (disch := omega) only [upA, upJ, upR, vu_n]); exact pNo v h0
  · intro v h0; (try simp (disch := omega) only [upA, upJ, upR, vu_n] at h0); (try simp (disch := omega) only [upA, upJ, upR, vu_n]); exact pX v h0
  · intro v h0; (try simp (disch := omega) only [upA, upJ, upR, vu_n] at h0); (try simp (disch := omega) only [upA, upJ, upR, vu_n]); exact pY v h0
  · intro v h0; (try simp (disch := omega) only [upA, upJ, upR, vu_n] at h0); (try simp (disch := omega) only [upA, upJ, upR, vu_n]); exact pWe v h0
  · intro v h0; (try simp (disch := omega) only [upA, upJ, upR, vu_n] at h0); (try simp (disch := omega) only [upA, upJ, upR, vu_n]); exact pSa v h0
  · intro v h0; (try simp (disch := omega) only [upA, upJ, upR, vu_n] at h0); (try simp (disch := omega) only [upA, upJ, upR, vu_n]); exact pKi v h0
  · intro v h0; by_cases e : v = i
    · subst e; simp only [upS, vu_s]
    · (try simp (disch := omega) only [upA, upJ, upR, vu_n] at h0); (try simp (disch := omega) only [upA, upJ, upR, vu_n]); exact pAn v h0
  · intro v h0; (try simp (disch := omega) only [upA, upJ, upR, vu_n] at h0); (try simp (disch := omega) only [upA, upJ, upR, vu_n]); exact pDg v h0
  · intro v h0; (try simp (disch := omega) only [upA, upJ, upR, vu_n] at h0); (try simp (disch := omega) only [upA, upJ, upR, vu_n]); exact pTh v h0
  · intro v h0; (try simp (disch := omega) only [upA, upJ, upR, vu_n] at h0); (try simp (disch := omega) only [upA, upJ, upR, vu_n]); exact pDr v h0
  · intro v h0; (try simp (disch := omega) only [upA, upJ, upR, vu_n] at h0); (try simp (disch := omega) only [upA, upJ, upR, vu_n]); exact pSp v h0
  · intro v h0; (try simp (disch := omega) only [upA, upJ, upR, vu_n] at h0); (try simp (disch := omega) only [upA, upJ, upR, vu_n]); exact pSk v h0
  · intro v h0 h1; (try simp (disch := omega) only [upA, upJ, upR, vu_n] at h0 h1); (try simp (disch := omega) only [upA, upJ, upR, vu_n]); exact pS0 v h0 h1
  · intro v h0 h1; (try simp (disch := omega) only [upA, upJ, upR, vu_n] at h0 h1); (try simp (disch := omega) only [upA, upJ, upR, vu_n]); exact pSx v h0 h1
  · intro v h0 h1; (try simp (disch := omega) only [upA, upJ, upR, vu_n] at h0 h1); (try simp (disch := omega) only [upA, upJ, upR, vu_n]); exact pSy v h0 h1
  · intro v h0 h1; (try simp (disch := omega) only [upA, upJ, upR, vu_n] at h0 h1); (try simp (disch := omega) only [upA, upJ, upR, vu_n]); exact pSt v h0 h1
  · intro v h0; (try simp (disch := omega) only [upA, upJ, upR, vu_n] at h0); (try simp (disch := omega) only [upA, upJ, upR, vu_n]); exact pRa v h0
  · intro v h0; (try simp (disch := omega) only [upA, upJ, upR, vu_n] at h0); (try simp (disch := omega) only [upA, upJ, upR, vu_n]); exact pRb v h0
  · intro v h0; (try simp (disch := omega) only [upA, upJ, upR, vu_n] at h0); (try simp (disch := omega) only [upA, upJ, upR, vu_n]); exact pRl v h0
  · intro v h0; (try simp (disch := omega) only [upA, upJ, upR, vu_n] at h0); (try simp (disch := omega) only [upA, upJ, upR, vu_n]); exact pRt v h0
  · intro u v h0 h1; (try simp (disch := omega) only [upA, upJ, upR, vu_n] at h0 h1); (try simp (disch := omega) only [upA, upJ, upR, vu_n]); exact pMe u v h0 h1
theorem rp_Dg {N : Nat → Nat → Nat} (h : RP p I N Z) (hi : i < 10) : RP p (am_up I (p + (10 + i)) 7 (b)) N (am_up Z 1 i b) := by
  obtain ⟨pW, pH, pT, pS, pL, pV, pR, pCr, pWl, pWy, pFo, pSh, pNo, pX, pY, pWe, pSa, pKi, pAn, pDg, pTh, pDr, pSp, pSk, pS0, pSx, pSy, pSt, pRa, pRb, pRl, pRt, pMe⟩ := h
  refine ⟨?_, ?_, ?_, ?_, ?_, ?_, ?_, ?_, ?_, ?_, ?_, ?_, ?_, ?_, ?_, ?_, ?_, ?_, ?_, ?_, ?_, ?_, ?_, ?_, ?_, ?_, ?_, ?_, ?_, ?_, ?_, ?_, ?_⟩
  · (try simp (disch := omega) only [upA, upJ, upR, vu_n]); exact pW
  · (try simp (disch := omega) only [upA, upJ, upR, vu_n]); exact pH
  · (try simp (disch := omega) only [upA, upJ, upR, vu_n]); exact pT
  · (try simp (disch := omega) only [upA, upJ, upR, vu_n]); exact pS
  · (try simp (disch := omega) only [upA, upJ, upR, vu_n]); exact pL
  · (try simp (disch := omega) only [upA, upJ, upR, vu_n]); exact pV
  · (try simp (disch := omega) only [upA, upJ, upR, vu_n]); exact pR
  · intro v h0; (try simp (disch := omega) only [upA, upJ, upR, vu_n] at h0); (try simp (disch := omega) only [upA, upJ, upR, vu_n]); exact pCr v h0
  · intro v h0; (try simp (disch := omega) only [upA, upJ, upR, vu_n] at h0); (try simp (disch := omega) only [upA, upJ, upR, vu_n]); exact pWl v h0
  · intro v h0; (try simp (disch := omega) only [upA, upJ, upR, vu_n] at h0); (try simp (disch := omega) only [upA, upJ, upR, vu_n]); exact pWy v h0
  · intro v h0; (try simp (disch := omega) only [upA, upJ, upR, vu_n] at h0); (try simp (disch := omega) only [upA, upJ, upR, vu_n]); exact pFo v h0
  · intro v h0; (try simp (disch := omega) only [upA, upJ, upR, vu_n] at h0); (try simp (disch := omega) only [upA, upJ, upR, vu_n]); exact pSh v h0
  · intro v h0; (try simp (disch := omega) only [upA, upJ, upR, vu_n] at h0); (try simp (disch := omega) only [upA, upJ, upR, vu_n]); exact pNo v h0
  · intro v h0; (try simp (disch := omega) only [upA, upJ, upR, vu_n] at h0); (try simp (disch := omega) only [upA, upJ, upR, vu_n]); exact pX v h0
  · intro v h0; (try simp (disch := omega) only [upA, upJ, upR, vu_n] at h0); (try simp (disch := omega) only [upA, upJ, upR, vu_n]); exact pY v h0
  · intro v h0; (try simp (disch := omega) only [upA, upJ, upR, vu_n] at h0); (try simp (disch := omega) only [upA, upJ, upR, vu_n]); exact pWe v h0
  · intro v h0; (try simp (disch := omega) only [upA, upJ, upR, vu_n] at h0); (try simp (disch := omega) only [upA, upJ, upR, vu_n]); exact pSa v h0
  · intro v h0; (try simp (disch := omega) only [upA, upJ, upR, vu_n] at h0); (try simp (disch := omega) only [upA, upJ, upR, vu_n]); exact pKi v h0
  · intro v h0; (try simp (disch := omega) only [upA, upJ, upR, vu_n] at h0); (try simp (disch := omega) only [upA, upJ, upR, vu_n]); exact pAn v h0
  · intro v h0; by_cases e : v = i
    · subst e; simp only [upS, vu_s]
    · (try simp (disch := omega) only [upA, upJ, upR, vu_n] at h0); (try simp (disch := omega) only [upA, upJ, upR, vu_n]); exact pDg v h0
  · intro v h0; (try simp (disch := omega) only [upA, upJ, upR, vu_n] at h0); (try simp (disch := omega) only [upA, upJ, upR, vu_n]); exact pTh v h0
  · intro v h0; (try simp (disch := omega) only [upA, upJ, upR, vu_n] at h0); (try simp (disch := omega) only [upA, upJ, upR, vu_n]); exact pDr v h0
  · intro v h0; (try simp (disch := omega) only [upA, upJ, upR, vu_n] at h0); (try simp (disch := omega) only [upA, upJ, upR, vu_n]); exact pSp v h0
  · intro v h0; (try simp (disch := omega) only [upA, upJ, upR, vu_n] at h0); (try simp (disch := omega) only [upA, upJ, upR, vu_n]); exact pSk v h0
  · intro v h0 h1; (try simp (disch := omega) only [upA, upJ, upR, vu_n] at h0 h1); (try simp (disch := omega) only [upA, upJ, upR, vu_n]); exact pS0 v h0 h1
  · intro v h0 h1; (try simp (disch := omega) only [upA, upJ, upR, vu_n] at h0 h1); (try simp (disch := omega) only [upA, upJ, upR, vu_n]); exact pSx v h0 h1
  · intro v h0 h1; (try simp (disch := omega) only [upA, upJ, upR, vu_n] at h0 h1); (try simp (disch := omega) only [upA, upJ, upR, vu_n]); exact pSy v h0 h1
  · intro v h0 h1; (try simp (disch := omega) only [upA, upJ, upR, vu_n] at h0 h1); (try simp (disch := omega) only [upA, upJ, upR, vu_n]); exact pSt v h0 h1
  · intro v h0; (try simp (disch := omega) only [upA, upJ, upR, vu_n] at h0); (try simp (disch := omega) only [upA, upJ, upR, vu_n]); exact pRa v h0
  · intro v h0; (try simp (disch := omega) only [upA, upJ, upR, vu_n] at h0); (try simp (disch := omega) only [upA, upJ, upR, vu_n]); exact pRb v h0
  · intro v h0; (try simp (disch := omega) only [upA, upJ, upR, vu_n] at h0); (try simp (disch := omega) only [upA, upJ, upR, vu_n]); exact pRl v h0
  · intro v h0; (try simp (disch := omega) only [upA, upJ, upR, vu_n] at h0); (try simp (disch := omega) only [upA, upJ, upR, vu_n]); exact pRt v h0
  · intro u v h0 h1; (try simp (disch := omega) only [upA, upJ, upR, vu_n] at h0 h1); (try simp (disch := omega) only [upA, upJ, upR, vu_n]); exact pMe u v h0 h1
theorem rp_Th {N : Nat → Nat → Nat} (h : RP p I N Z) (hi : i < 10) : RP p (am_up I (p + (10 + i)) 8 (b)) N (am_up Z 2 i b) := by
  obtain ⟨pW, pH, pT, pS, pL, pV, pR, pCr, pWl, pWy, pFo, pSh, pNo, pX, pY, pWe, pSa, pKi, pAn, pDg, pTh, pDr, pSp, pSk, pS0, pSx, pSy, pSt, pRa, pRb, pRl, pRt, pMe⟩ := h
  refine ⟨?_, ?_, ?_, ?_, ?_, ?_, ?_, ?_, ?_, ?_, ?_, ?_, ?_, ?_, ?_, ?_, ?_, ?_, ?_, ?_, ?_, ?_, ?_, ?_, ?_, ?_, ?_, ?_, ?_, ?_, ?_, ?_, ?_⟩
  · (try simp (disch := omega) only [upA, upJ, upR, vu_n]); exact pW
  · (try simp (disch := omega) only [upA, upJ, upR, vu_n]); exact pH
  · (try simp (disch := omega) only [upA, upJ, upR, vu_n]); exact pT
  · (try simp (disch := omega) only [upA, upJ, upR, vu_n]); exact pS
  · (try simp (disch := omega) only [upA, upJ, upR, vu_n]); exact pL
  · (try simp (disch := omega) only [upA, upJ, upR, vu_n]); exact pV
  · (try simp (disch := omega) only [upA, upJ, upR, vu_n]); exact pR
  · intro v h0; (try simp (disch := omega) only [upA, upJ, upR, vu_n] at h0); (try simp (disch := omega) only [upA, upJ, upR, vu_n]); exact pCr v h0
  · intro v h0; (try simp (disch := omega) only [upA, upJ, upR, vu_n] at h0); (try simp (disch := omega) only [upA, upJ, upR, vu_n]); exact pWl v h0
  · intro v h0; (try simp (disch := omega) only [upA, upJ, upR, vu_n] at h0); (try simp (disch := omega) only [upA, upJ, upR, vu_n]); exact pWy v h0
  · intro v h0; (try simp (disch := omega) only [upA, upJ, upR, vu_n] at h0); (try simp (disch := omega) only [upA, upJ, upR, vu_n]); exact pFo v h0
  · intro v h0; (try simp (disch := omega) only [upA, upJ, upR, vu_n] at h0); (try simp (disch := omega) only [upA, upJ, upR, vu_n]); exact pSh v h0
  · intro v h0; (try simp (disch := omega) only [upA, upJ, upR, vu_n] at h0); (try simp (disch := omega) only [upA, upJ, upR, vu_n]); exact pNo v h0
  · intro v h0; (try simp (disch := omega) only [upA, upJ, upR, vu_n] at h0); (try simp (disch := omega) only [upA, upJ, upR, vu_n]); exact pX v h0
  · intro v h0; (try simp (disch := omega) only [upA, upJ, upR, vu_n] at h0); (try simp (disch := omega) only [upA, upJ, upR, vu_n]); exact pY v h0
  · intro v h0; (try simp (disch := omega) only [upA, upJ, upR, vu_n] at h0); (try simp (disch := omega) only [upA, upJ, upR, vu_n]); exact pWe v h0
  · intro v h0; (try simp (disch := omega) only [upA, upJ, upR, vu_n] at h0); (try simp (disch := omega) only [upA, upJ, upR, vu_n]); exact pSa v h0
  · intro v h0; (try simp (disch := omega) only [upA, upJ, upR, vu_n] at h0); (try simp (disch := omega) only [upA, upJ, upR, vu_n]); exact pKi v h0
  · intro v h0; (try simp (disch := omega) only [upA, upJ, upR, vu_n] at h0); (try simp (disch := omega) only [upA, upJ, upR, vu_n]); exact pAn v h0
  · intro v h0; (try simp (disch := omega) only [upA, upJ, upR, vu_n] at h0); (try simp (disch := omega) only [upA, upJ, upR, vu_n]); exact pDg v h0
  · intro v h0; by_cases e : v = i
    · subst e; simp only [upS, vu_s]
    · (try simp (disch := omega) only [upA, upJ, upR, vu_n] at h0); (try simp (disch := omega) only [upA, upJ, upR, vu_n]); exact pTh v h0
  · intro v h0; (try simp (disch := omega) only [upA, upJ, upR, vu_n] at h0); (try simp (disch := omega) only [upA, upJ, upR, vu_n]); exact pDr v h0
  · intro v h0; (try simp (disch := omega) only [upA, upJ, upR, vu_n] at h0); (try simp (disch := omega) only [upA, upJ, upR, vu_n]); exact pSp v h0
  · intro v h0; (try simp (disch := omega) only [upA, upJ, upR, vu_n] at h0); (try simp (disch := omega) only [upA, upJ, upR, vu_n]); exact pSk v h0
  · intro v h0 h1; (try simp (disch := omega) only [upA, upJ, upR, vu_n] at h0 h1); (try simp (disch := omega) only [upA, upJ, upR, vu_n]); exact pS0 v h0 h1
  · intro v h0 h1; (try simp (disch := omega) only [upA, upJ, upR, vu_n] at h0 h1); (try simp (disch := omega) only [upA, upJ, upR, vu_n]); exact pSx v h0 h1
  · intro v h0 h1; (try simp (disch := omega) only [upA, upJ, upR, vu_n] at h0 h1); (try simp (disch := omega) only [upA, upJ, upR, vu_n]); exact pSy v h0 h1
  · intro v h0 h1; (try simp (disch := omega) only [upA, upJ, upR, vu_n] at h0 h1); (try simp (disch := omega) only [upA, upJ, upR, vu_n]); exact pSt v h0 h1
  · intro v h0; (try simp (disch := omega) only [upA, upJ, upR, vu_n] at h0); (try simp (disch := omega) only [upA, upJ, upR, vu_n]); exact pRa v h0
  · intro v h0; (try simp (disch := omega) only [upA, upJ, upR, vu_n] at h0); (try simp (disch := omega) only [upA, upJ, upR, vu_n]); exact pRb v h0
  · intro v h0; (try simp (disch := omega) only [upA, upJ, upR, vu_n] at h0); (try simp (disch := omega) only [upA, upJ, upR, vu_n]); exact pRl v h0
  · intro v h0; (try simp (disch := omega) only [upA, upJ, upR, vu_n] at h0); (try simp (disch := omega) only [upA, upJ, upR, vu_n]); exact pRt v h0
  · intro u v h0 h1; (try simp (disch := omega) only [upA, upJ, upR, vu_n] at h0 h1); (try simp (disch := omega) only [upA, upJ, upR, vu_n]); exact pMe u v h0 h1
theorem rp_Dr {N : Nat → Nat → Nat} (h : RP p I N Z) (hi : i < 10) : RP p (am_up I (p + (10 + i)) 9 (b)) N (am_up Z 3 i b) := by
  obtain ⟨pW, pH, pT, pS, pL, pV, pR, pCr, pWl, pWy, pFo, pSh, pNo, pX, pY, pWe, pSa, pKi, pAn, pDg, pTh, pDr, pSp, pSk, pS0, pSx, pSy, pSt, pRa, pRb, pRl, pRt, pMe⟩ := h
  refine ⟨?_, ?_, ?_, ?_, ?_, ?_, ?_, ?_, ?_, ?_, ?_, ?_, ?_, ?_, ?_, ?_, ?_, ?_, ?_, ?_, ?_, ?_, ?_, ?_, ?_, ?_, ?_, ?_, ?_, ?_, ?_, ?_, ?_⟩
  · (try simp (disch := omega) only [upA, upJ, upR, vu_n]); exact pW
  · (try simp (disch := omega) only [upA, upJ, upR, vu_n]); exact pH
  · (try simp (disch := omega) only [upA, upJ, upR, vu_n]); exact pT
  · (try simp (disch := omega) only [upA, upJ, upR, vu_n]); exact pS
  · (try simp (disch := omega) only [upA, upJ, upR, vu_n]); exact pL
  · (try simp (disch := omega) only [upA, upJ, upR, vu_n]); exact pV
  · (try simp (disch := omega) only [upA, upJ, upR, vu_n]); exact pR
  · intro v h0; (try simp (disch := omega) only [upA, upJ, upR, vu_n] at h0); (try simp (disch := omega) only [upA, upJ, upR, vu_n]); exact pCr v h0
  · intro v h0; (try simp (disch := omega) only [upA, upJ, upR, vu_n] at h0); (try simp (disch := omega) only [upA, upJ, upR, vu_n]); exact pWl v h0
  · intro v h0; (try simp (disch := omega) only [upA, upJ, upR, vu_n] at h0); (try simp (disch := omega) only [upA, upJ, upR, vu_n]); exact pWy v h0
  · intro v h0; (try simp (disch := omega) only [upA, upJ, upR, vu_n] at h0); (try simp (disch := omega) only [upA, upJ, upR, vu_n]); exact pFo v h0
  · intro v h0; (try simp (disch := omega) only [upA, upJ, upR, vu_n] at h0); (try simp (disch := omega) only [upA, upJ, upR, vu_n]); exact pSh v h0
  · intro v h0; (try simp (disch := omega) only [upA, upJ, upR, vu_n] at h0); (try simp (disch := omega) only [upA, upJ, upR, vu_n]); exact pNo v h0
  · intro v h0; (try simp (disch := omega) only [upA, upJ, upR, vu_n] at h0); (try simp (disch := omega) only [upA, upJ, upR, vu_n]); exact pX v h0
  · intro v h0; (try simp (disch := omega) only [upA, upJ, upR, vu_n] at h0); (try simp (disch := omega) only [upA, upJ, upR, vu_n]); exact pY v h0
  · intro v h0; (try simp (disch := omega) only [upA, upJ, upR, vu_n] at h0); (try simp (disch := omega) only [upA, upJ, upR, vu_n]); exact pWe v h0
  · intro v h0; (try simp (disch := omega) only [upA, upJ, upR, vu_n] at h0); (try simp (disch := omega) only [upA, upJ, upR, vu_n]); exact pSa v h0
  · intro v h0; (try simp (disch := omega) only [upA, upJ, upR, vu_n] at h0); (try simp (disch := omega) only [upA, upJ, upR, vu_n]); exact pKi v h0
  · intro v h0; (try simp (disch := omega) only [upA, upJ, upR, vu_n] at h0); (try simp (disch := omega) only [upA, upJ, upR, vu_n]); exact pAn v h0
  · intro v h0; (try simp (disch := omega) only [upA, upJ, upR, vu_n] at h0); (try simp (disch := omega) only [upA, upJ, upR, vu_n]); exact pDg v h0
  · intro v h0; (try simp (disch := omega) only [upA, upJ, upR, vu_n] at h0); (try simp (disch := omega) only [upA, upJ, upR, vu_n]); exact pTh v h0
  · intro v h0; by_cases e : v = i
    · subst e; simp only [upS, vu_s]
    · (try simp (disch := omega) only [upA, upJ, upR, vu_n] at h0); (try simp (disch := omega) only [upA, upJ, upR, vu_n]); exact pDr v h0
  · intro v h0; (try simp (disch := omega) only [upA, upJ, upR, vu_n] at h0); (try simp (disch := omega) only [upA, upJ, upR, vu_n]); exact pSp v h0
  · intro v h0; (try simp (disch := omega) only [upA, upJ, upR, vu_n] at h0); (try simp (disch := omega) only [upA, upJ, upR, vu_n]); exact pSk v h0
  · intro v h0 h1; (try simp (disch := omega) only [upA, upJ, upR, vu_n] at h0 h1); (try simp (disch := omega) only [upA, upJ, upR, vu_n]); exact pS0 v h0 h1
  · intro v h0 h1; (try simp (disch := omega) only [upA, upJ, upR, vu_n] at h0 h1); (try simp (disch := omega) only [upA, upJ, upR, vu_n]); exact pSx v h0 h1
  · intro v h0 h1; (try simp (disch := omega) only [upA, upJ, upR, vu_n] at h0 h1); (try simp (disch := omega) only [upA, upJ, upR, vu_n]); exact pSy v h0 h1
  · intro v h0 h1; (try simp (disch := omega) only [upA, upJ, upR, vu_n] at h0 h1); (try simp (disch := omega) only [upA, upJ, upR, vu_n]); exact pSt v h0 h1
  · intro v h0; (try simp (disch := omega) only [upA, upJ, upR, vu_n] at h0); (try simp (disch := omega) only [upA, upJ, upR, vu_n]); exact pRa v h0
  · intro v h0; (try simp (disch := omega) only [upA, upJ, upR, vu_n] at h0); (try simp (disch := omega) only [upA, upJ, upR, vu_n]); exact pRb v h0
  · intro v h0; (try simp (disch := omega) only [upA, upJ, upR, vu_n] at h0); (try simp (disch := omega) only [upA, upJ, upR, vu_n]); exact pRl v h0
  · intro v h0; (try simp (disch := omega) only [upA, upJ, upR, vu_n] at h0); (try simp (disch := omega) only [upA, upJ, upR, vu_n]); exact pRt v h0
  · intro u v h0 h1; (try simp (disch := omega) only [upA, upJ, upR, vu_n] at h0 h1); (try simp (disch := omega) only [upA, upJ, upR, vu_n]); exact pMe u v h0 h1
theorem rp_Sp {N : Nat → Nat → Nat} (h : RP p I N Z) (hi : i < 10) : RP p (am_up I (p + (10 + i)) 10 (b)) N (am_up Z 4 i b) := by
  obtain ⟨pW, pH, pT, pS, pL, pV, pR, pCr, pWl, pWy, pFo, pSh, pNo, pX, pY, pWe, pSa, pKi, pAn, pDg, pTh, pDr, pSp, pSk, pS0, pSx, pSy, pSt, pRa, pRb, pRl, pRt, pMe⟩ := h
  refine ⟨?_, ?_, ?_, ?_, ?_, ?_, ?_, ?_, ?_, ?_, ?_, ?_, ?_, ?_, ?_, ?_, ?_, ?_, ?_, ?_, ?_, ?_, ?_, ?_, ?_, ?_, ?_, ?_, ?_, ?_, ?_, ?_, ?_⟩
  · (try simp (disch := omega) only [upA, upJ, upR, vu_n]); exact pW
  · (try simp (disch := omega) only [upA, upJ, upR, vu_n]); exact pH
  · (try simp (disch := omega) only [upA, upJ, upR, vu_n]); exact pT
  · (try simp (disch := omega) only [upA, upJ, upR, vu_n]); exact pS
  · (try simp (disch := omega) only [upA, upJ, upR, vu_n]); exact pL
  · (try simp (disch := omega) only [upA, upJ, upR, vu_n]); exact pV
  · (try simp (disch := omega) only [upA, upJ, upR, vu_n]); exact pR
  · intro v h0; (try simp (disch := omega) only [upA, upJ, upR, vu_n] at h0); (try simp (disch := omega) only [upA, upJ, upR, vu_n]); exact pCr v h0
  · intro v h0; (try simp (disch := omega) only [upA, upJ, upR, vu_n] at h0); (try simp (disch := omega) only [upA, upJ, upR, vu_n]); exact pWl v h0
  · intro v h0; (try simp (disch := omega) only [upA, upJ, upR, vu_n] at h0); (try simp (disch := omega) only [upA, upJ, upR, vu_n]); exact pWy v h0
  · intro v h0; (try simp (disch := omega) only [upA, upJ, upR, vu_n] at h0); (try simp (disch := omega) only [upA, upJ, upR, vu_n]); exact pFo v h0
  · intro v h0; (try simp (disch := omega) only [upA, upJ, upR, vu_n] at h0); (try simp (disch := omega) only [upA, upJ, upR, vu_n]); exact pSh v h0
  · intro v h0; (try simp (disch := omega) only [upA, upJ, upR, vu_n] at h0); (try simp (disch := omega) only [upA, upJ, upR, vu_n]); exact pNo v h0
  · intro v h0; (try simp (disch := omega) only [upA, upJ, upR, vu_n] at h0); (try simp (disch := omega) only [upA, upJ, upR, vu_n]); exact pX v h0
  · intro v h0; (try simp (disch := omega) only [upA, upJ, upR, vu_n] at h0); (try simp (disch := omega) only [upA, upJ, upR, vu_n]); exact pY v h0
  · intro v h0; (try simp (disch := omega) only [upA, upJ, upR, vu_n] at h0); (try simp (disch := omega) only [upA, upJ, upR, vu_n]); exact pWe v h0
  · intro v h0; (try simp (disch := omega) only [upA, upJ, upR, vu_n] at h0); (try simp (disch := omega) only [upA, upJ, upR, vu_n]); exact pSa v h0
  · intro v h0; (try simp (disch := omega) only [upA, upJ, upR, vu_n] at h0); (try simp (disch := omega) only [upA, upJ, upR, vu_n]); exact pKi v h0
  · intro v h0; (try simp (disch := omega) only [upA, upJ, upR, vu_n] at h0); (try simp (disch := omega) only [upA, upJ, upR, vu_n]); exact pAn v h0
  · intro v h0; (try simp (disch := omega) only [upA, upJ, upR, vu_n] at h0); (try simp (disch := omega) only [upA, upJ, upR, vu_n]); exact pDg v h0
  · intro v h0; (try simp (disch := omega) only [upA, upJ, upR, vu_n] at h0); (try simp (disch := omega) only [upA, upJ, upR, vu_n]); exact pTh v h0
  · intro v h0; (try simp (disch := omega) only [upA, upJ, upR, vu_n] at h0); (try simp (disch := omega) only [upA, upJ, upR, vu_n]); exact pDr v h0
  · intro v h0; by_cases e : v = i
    · subst e; simp only [upS, vu_s]
    · (try simp (disch := omega) only [upA, upJ, upR, vu_n] at h0); (try simp (disch := omega) only [upA, upJ, upR, vu_n]); exact pSp v h0
  · intro v h0; (try simp (disch := omega) only [upA, upJ, upR, vu_n] at h0); (try simp (disch := omega) only [upA, upJ, upR, vu_n]); exact pSk v h0
  · intro v h0 h1; (try simp (disch := omega) only [upA, upJ, upR, vu_n] at h0 h1); (try simp (disch := omega) only [upA, upJ, upR, vu_n]); exact pS0 v h0 h1
  · intro v h0 h1; (try simp (disch := omega) only [upA, upJ, upR, vu_n] at h0 h1); (try simp (disch := omega) only [upA, upJ, upR, vu_n]); exact pSx v h0 h1
  · intro v h0 h1; (try simp (disch := omega) only [upA, upJ, upR, vu_n] at h0 h1); (try simp (disch := omega) only [upA, upJ, upR, vu_n]); exact pSy v h0 h1
  · intro v h0 h1; (try simp (disch := omega) only [upA, upJ, upR, vu_n] at h0 h1); (try simp (disch := omega) only [upA, upJ, upR, vu_n]); exact pSt v h0 h1
  · intro v h0; (try simp (disch := omega) only [upA, upJ, upR, vu_n] at h0); (try simp (disch := omega) only [upA, upJ, upR, vu_n]); exact pRa v h0
  · intro v h0; (try simp (disch := omega) only [upA, upJ, upR, vu_n] at h0); (try simp (disch := omega) only [upA, upJ, upR, vu_n]); exact pRb v h0
  · intro v h0; (try simp (disch := omega) only [upA, upJ, upR, vu_n] at h0); (try simp (disch := omega) only [upA, upJ, upR, vu_n]); exact pRl v h0
  · intro v h0; (try simp (disch := omega) only [upA, upJ, upR, vu_n] at h0); (try simp (disch := omega) only [upA, upJ, upR, vu_n]); exact pRt v h0
  · intro u v h0 h1; (try simp (disch := omega) only [upA, upJ, upR, vu_n] at h0 h1); (try simp (disch := omega) only [upA, upJ, upR, vu_n]); exact pMe u v h0 h1
theorem rp_Sk {N : Nat → Nat → Nat} (h : RP p I N Z) (hi : i < 10) : RP p (am_up I (p + (10 + i)) 11 (b)) N (am_up Z 5 i b) := by
  obtain ⟨pW, pH, pT, pS, pL, pV, pR, pCr, pWl, pWy, pFo, pSh, pNo, pX, pY, pWe, pSa, pKi, pAn, pDg, pTh, pDr, pSp, pSk, pS0, pSx, pSy, pSt, pRa, pRb, pRl, pRt, pMe⟩ := h
  refine ⟨?_, ?_, ?_, ?_, ?_, ?_, ?_, ?_, ?_, ?_, ?_, ?_, ?_, ?_, ?_, ?_, ?_, ?_, ?_, ?_, ?_, ?_, ?_, ?_, ?_, ?_, ?_, ?_, ?_, ?_, ?_, ?_, ?_⟩
  · (try simp (disch := omega) only [upA, upJ, upR, vu_n]); exact pW
  · (try simp (disch := omega) only [upA, upJ, upR, vu_n]); exact pH
  · (try simp (disch := omega) only [upA, upJ, upR, vu_n]); exact pT
  · (try simp (disch := omega) only [upA, upJ, upR, vu_n]); exact pS
  · (try simp (disch := omega) only [upA, upJ, upR, vu_n]); exact pL
  · (try simp (disch := omega) only [upA, upJ, upR, vu_n]); exact pV
  · (try simp (disch := omega) only [upA, upJ, upR, vu_n]); exact pR
  · intro v h0; (try simp (disch := omega) only [upA, upJ, upR, vu_n] at h0); (try simp (disch := omega) only [upA, upJ, upR, vu_n]); exact pCr v h0
  · intro v h0; (try simp (disch := omega) only [upA, upJ, upR, vu_n] at h0); (try simp (disch := omega) only [upA, upJ, upR, vu_n]); exact pWl v h0
  · intro v h0; (try simp (disch := omega) only [upA, upJ, upR, vu_n] at h0); (try simp (disch := omega) only [upA, upJ, upR, vu_n]); exact pWy v h0
  · intro v h0; (try simp (disch := omega) only [upA, upJ, upR, vu_n] at h0); (try simp (disch := omega) only [upA, upJ, upR, vu_n]); exact pFo v h0
  · intro v h0; (try simp (disch := omega) only [upA, upJ, upR, vu_n] at h0); (try simp (disch := omega) only [upA, upJ, upR, vu_n]); exact pSh v h0
  · intro v h0; (try simp (disch := omega) only [upA, upJ, upR, vu_n] at h0); (try simp (disch := omega) only [upA, upJ, upR, vu_n]); exact pNo v h0
  · intro v h0; (try simp (disch := omega) only [upA, upJ, upR, vu_n] at h0); (try simp (disch := omega) only [upA, upJ, upR, vu_n]); exact pX v h0
  · intro v h0; (try simp (disch := omega) only [upA, upJ, upR, vu_n] at h0); (try simp (disch := omega) only [upA, upJ, upR, vu_n]); exact pY v h0
  · intro v h0; (try simp (disch := omega) only [upA, upJ, upR, vu_n] at h0); (try simp (disch := omega) only [upA, upJ, upR, vu_n]); exact pWe v h0
  · intro v h0; (try simp (disch := omega) only [upA, upJ, upR, vu_n] at h0); (try simp (disch := omega) only [upA, upJ, upR, vu_n]); exact pSa v h0
  · intro v h0; (try simp (disch := omega) only [upA, upJ, upR, vu_n] at h0); (try simp (disch := omega) only [upA, upJ, upR, vu_n]); exact pKi v h0
  · intro v h0; (try simp (disch := omega) only [upA, upJ, upR, vu_n] at h0); (try simp (disch := omega) only [upA, upJ, upR, vu_n]); exact pAn v h0
  · intro v h0; (try simp (disch := omega) only [upA, upJ, upR, vu_n] at h0); (try simp (disch := omega) only [upA, upJ, upR, vu_n]); exact pDg v h0
  · intro v h0; (try simp (disch := omega) only [upA, upJ, upR, vu_n] at h0); (try simp (disch := omega) only [upA, upJ, upR, vu_n]); exact pTh v h0
  · intro v h0; (try simp (disch := omega) only [upA, upJ, upR, vu_n] at h0); (try simp (disch := omega) only [upA, upJ, upR, vu_n]); exact pDr v h0
  · intro v h0; (try simp (disch := omega) only [upA, upJ, upR, vu_n] at h0); (try simp (disch := omega) only [upA, upJ, upR, vu_n]); exact pSp v h0
  · intro v h0; by_cases e : v = i
    · subst e; simp only [upS, vu_s]
    · (try simp (disch := omega) only [upA, upJ, upR, vu_n] at h0); (try simp (disch := omega) only [upA, upJ, upR, vu_n]); exact pSk v h0
  · intro v h0 h1; (try simp (disch := omega) only [upA, upJ, upR, vu_n] at h0 h1); (try simp (disch := omega) only [upA, upJ, upR, vu_n]); exact pS0 v h0 h1
  · intro v h0 h1; (try simp (disch := omega) only [upA, upJ, upR, vu_n] at h0 h1); (try simp (disch := omega) only [upA, upJ, upR, vu_n]); exact pSx v h0 h1
  · intro v h0 h1; (try simp (disch := omega) only [upA, upJ, upR, vu_n] at h0 h1); (try simp (disch := omega) only [upA, upJ, upR, vu_n]); exact pSy v h0 h1
  · intro v h0 h1; (try simp (disch := omega) only [upA, upJ, upR, vu_n] at h0 h1); (try simp (disch := omega) only [upA, upJ, upR, vu_n]); exact pSt v h0 h1
  · intro v h0; (try simp (disch := omega) only [upA, upJ, upR, vu_n] at h0); (try simp (disch := omega) only [upA, upJ, upR, vu_n]); exact pRa v h0
  · intro v h0; (try simp (disch := omega) only [upA, upJ, upR, vu_n] at h0); (try simp (disch := omega) only [upA, upJ, upR, vu_n]); exact pRb v h0
  · intro v h0; (try simp (disch := omega) only [upA, upJ, upR, vu_n] at h0); (try simp (disch := omega) only [upA, upJ, upR, vu_n]); exact pRl v h0
  · intro v h0; (try simp (disch := omega) only [upA, upJ, upR, vu_n] at h0); (try simp (disch := omega) only [upA, upJ, upR, vu_n]); exact pRt v h0
  · intro u v h0 h1; (try simp (disch := omega) only [upA, upJ, upR, vu_n] at h0 h1); (try simp (disch := omega) only [upA, upJ, upR, vu_n]); exact pMe u v h0 h1
theorem rp_Ra {N : Nat → Nat → Nat} (h : RP p I N Z) (hi : i < 20) (h10 : N 0 4 ≤ 10) : RP p (am_up I (p + (20 + i)) 0 (nI q)) (am_up N 12 i q) Z := by
  obtain ⟨pW, pH, pT, pS, pL, pV, pR, pCr, pWl, pWy, pFo, pSh, pNo, pX, pY, pWe, pSa, pKi, pAn, pDg, pTh, pDr, pSp, pSk, pS0, pSx, pSy, pSt, pRa, pRb, pRl, pRt, pMe⟩ := h
  refine ⟨?_, ?_, ?_, ?_, ?_, ?_, ?_, ?_, ?_, ?_, ?_, ?_, ?_, ?_, ?_, ?_, ?_, ?_, ?_, ?_, ?_, ?_, ?_, ?_, ?_, ?_, ?_, ?_, ?_, ?_, ?_, ?_, ?_⟩
  · (try simp (disch := omega) only [upA, upJ, upR, vu_n]); exact pW
  · (try simp (disch := omega) only [upA, upJ, upR, vu_n]); exact pH
  · (try simp (disch := omega) only [upA, upJ, upR, vu_n]); exact pT
  · (try simp (disch := omega) only [upA, upJ, upR, vu_n]); exact pS
  · (try simp (disch := omega) only [upA, upJ, upR, vu_n]); exact pL
  · (try simp (disch := omega) only [upA, upJ, upR, vu_n]); exact pV
  · (try simp (disch := omega) only [upA, upJ, upR, vu_n]); exact pR
  · intro v h0; (try simp (disch := omega) only [upA, upJ, upR, vu_n] at h0); (try simp (disch := omega) only [upA, upJ, upR, vu_n]); exact pCr v h0
  · intro v h0; (try simp (disch := omega) only [upA, upJ, upR, vu_n] at h0); (try simp (disch := omega) only [upA, upJ, upR, vu_n]); exact pWl v h0
  · intro v h0; (try simp (disch := omega) only [upA, upJ, upR, vu_n] at h0); (try simp (disch := omega) only [upA, upJ, upR, vu_n]); exact pWy v h0
  · intro v h0; (try simp (disch := omega) only [upA, upJ, upR, vu_n] at h0); (try simp (disch := omega) only [upA, upJ, upR, vu_n]); exact pFo v h0
  · intro v h0; (try simp (disch := omega) only [upA, upJ, upR, vu_n] at h0); (try simp (disch := omega) only [upA, upJ, upR, vu_n]); exact pSh v h0
  · intro v h0; (try simp (disch := omega) only [upA, upJ, upR, vu_n] at h0); (try simp (disch := omega) only [upA, upJ, upR, vu_n]); exact pNo v h0
  · intro v h0; (try simp (disch := omega) only [upA, upJ, upR, vu_n] at h0); (try simp (disch := omega) only [upA, upJ, upR, vu_n]); exact pX v h0
  · intro v h0; (try simp (disch := omega) only [upA, upJ, upR, vu_n] at h0); (try simp (disch := omega) only [upA, upJ, upR, vu_n]); exact pY v h0
  · intro v h0; (try simp (disch := omega) only [upA, upJ, upR, vu_n] at h0); (try simp (disch := omega) only [upA, upJ, upR, vu_n]); exact pWe v h0
  · intro v h0; (try simp (disch := omega) only [upA, upJ, upR, vu_n] at h0); (try simp (disch := omega) only [upA, upJ, upR, vu_n]); exact pSa v h0
  · intro v h0; (try simp (disch := omega) only [upA, upJ, upR, vu_n] at h0); (try simp (disch := omega) only [upA, upJ, upR, vu_n]); exact pKi v h0
  · intro v h0; (try simp (disch := omega) only [upA, upJ, upR, vu_n] at h0); (try simp (disch := omega) only [upA, upJ, upR, vu_n]); exact pAn v h0
  · intro v h0; (try simp (disch := omega) only [upA, upJ, upR, vu_n] at h0); (try simp (disch := omega) only [upA, upJ, upR, vu_n]); exact pDg v h0
  · intro v h0; (try simp (disch := omega) only [upA, upJ, upR, vu_n] at h0); (try simp (disch := omega) only [upA, upJ, upR, vu_n]); exact pTh v h0
  · intro v h0; (try simp (disch := omega) only [upA, upJ, upR, vu_n] at h0); (try simp (disch := omega) only [upA, upJ, upR, vu_n]); exact pDr v h0
  · intro v h0; (try simp (disch := omega) only [upA, upJ, upR, vu_n] at h0); (try simp (disch := omega) only [upA, upJ, upR, vu_n]); exact pSp v h0
  · intro v h0; (try simp (disch := omega) only [upA, upJ, upR, vu_n] at h0); (try simp (disch := omega) only [upA, upJ, upR, vu_n]); exact pSk v h0
  · intro v h0 h1; (try simp (disch := omega) only [upA, upJ, upR, vu_n] at h0 h1); (try simp (disch := omega) only [upA, upJ, upR, vu_n]); exact pS0 v h0 h1
  · intro v h0 h1; (try simp (disch := omega) only [upA, upJ, upR, vu_n] at h0 h1); (try simp (disch := omega) only [upA, upJ, upR, vu_n]); exact pSx v h0 h1
  · intro v h0 h1; (try simp (disch := omega) only [upA, upJ, upR, vu_n] at h0 h1); (try simp (disch := omega) only [upA, upJ, upR, vu_n]); exact pSy v h0 h1
  · intro v h0 h1; (try simp (disch := omega) only [upA, upJ, upR, vu_n] at h0 h1); (try simp (disch := omega) only [upA, upJ, upR, vu_n]); exact pSt v h0 h1
  · intro v h0; by_cases e : v = i
    · subst e; simp only [upS, vu_s]
    · (try simp (disch := omega) only [upA, upJ, upR, vu_n] at h0); (try simp (disch := omega) only [upA, upJ, upR, vu_n]); exact pRa v h0
  · intro v h0; (try simp (disch := omega) only [upA, upJ, upR, vu_n] at h0); (try simp (disch := omega) only [upA, upJ, upR, vu_n]); exact pRb v h0
  · intro v h0; (try simp (disch := omega) only [upA, upJ, upR, vu_n] at h0); (try simp (disch := omega) only [upA, upJ, upR, vu_n]); exact pRl v h0
  · intro v h0; (try simp (disch := omega) only [upA, upJ, upR, vu_n] at h0); (try simp (disch := omega) only [upA, upJ, upR, vu_n]); exact pRt v h0
  · intro u v h0 h1; (try simp (disch := omega) only [upA, upJ, upR, vu_n] at h0 h1); (try simp (disch := omega) only [upA, upJ, upR, vu_n]); exact pMe u v h0 h1
theorem rp_Rb {N : Nat → Nat → Nat} (h : RP p I N Z) (hi : i < 20) (h10 : N 0 4 ≤ 10) : RP p (am_up I (p + (20 + i)) 1 (nI q)) (am_up N 13 i q) Z := by
  obtain ⟨pW, pH, pT, pS, pL, pV, pR, pCr, pWl, pWy, pFo, pSh, pNo, pX, pY, pWe, pSa, pKi, pAn, pDg, pTh, pDr, pSp, pSk, pS0, pSx, pSy, pSt, pRa, pRb, pRl, pRt, pMe⟩ := h
  refine ⟨?_, ?_, ?_, ?_, ?_, ?_, ?_, ?_, ?_, ?_, ?_, ?_, ?_, ?_, ?_, ?_, ?_, ?_, ?_, ?_, ?_, ?_, ?_, ?_, ?_, ?_, ?_, ?_, ?_, ?_, ?_, ?_, ?_⟩
  · (try simp (disch := omega) only [upA, upJ, upR, vu_n]); exact pW
  · (try simp (disch := omega) only [upA, upJ, upR, vu_n]); exact pH
  · (try simp (disch := omega) only [upA, upJ, upR, vu_n]); exact pT
  · (try simp (disch := omega) only [upA, upJ, upR, vu_n]); exact pS
  · (try simp (disch := omega) only [upA, upJ, upR, vu_n]); exact pL
  · (try simp (disch := omega) only [upA, upJ, upR, vu_n]); exact pV
  · (try simp (disch := omega) only [upA, upJ, upR, vu_n]); exact pR
  · intro v h0; (try simp (disch := omega) only [upA, upJ, upR, vu_n] at h0); (try simp (disch := omega) only [upA, upJ, upR, vu_n]); exact pCr v h0
  · intro v h0; (try simp (disch := omega) only [upA, upJ, upR, vu_n] at h0); (try simp (disch := omega) only [upA, upJ, upR, vu_n]); exact pWl v h0
  · intro v h0; (try simp (disch := omega) only [upA, upJ, upR, vu_n] at h0); (try simp (disch := omega) only [upA, upJ, upR, vu_n]); exact pWy v h0
  · intro v h0; (try simp (disch := omega) only [upA, upJ, upR, vu_n] at h0); (try simp (disch := omega) only [upA, upJ, upR, vu_n]); exact pFo v h0
  · intro v h0; (try simp (disch := omega) only [upA, upJ, upR, vu_n] at h0); (try simp (disch := omega) only [upA, upJ, upR, vu_n]); exact pSh v h0
  · intro v h0; (try simp (disch := omega) only [upA, upJ, upR, vu_n] at h0); (try simp (disch := omega) only [upA, upJ, upR, vu_n]); exact pNo v h0
  · intro v h0; (try simp (disch := omega) only [upA, upJ, upR, vu_n] at h0); (try simp (disch := omega) only [upA, upJ, upR, vu_n]); exact pX v h0
  · intro v h0; (try simp (disch := omega) only [upA, upJ, upR, vu_n] at h0); (try simp (disch := omega) only [upA, upJ, upR, vu_n]); exact pY v h0
  · intro v h0; (try simp (disch := omega) only [upA, upJ, upR, vu_n] at h0); (try simp (disch := omega) only [upA, upJ, upR, vu_n]); exact pWe v h0
  · intro v h0; (try simp (disch := omega) only [upA, upJ, upR, vu_n] at h0); (try simp (disch := omega) only [upA, upJ, upR, vu_n]); exact pSa v h0
  · intro v h0; (try simp (disch := omega) only [upA, upJ, upR, vu_n] at h0); (try simp (disch := omega) only [upA, upJ, upR, vu_n]); exact pKi v h0
  · intro v h0; (try simp (disch := omega) only [upA, upJ, upR, vu_n] at h0); (try simp (disch := omega) only [upA, upJ, upR, vu_n]); exact pAn v h0
  · intro v h0; (try simp (disch := omega) only [upA, upJ, upR, vu_n] at h0); (try simp (disch := omega) only [upA, upJ, upR, vu_n]); exact pDg v h0
  · intro v h0; (try simp (disch := omega) only [upA, upJ, upR, vu_n] at h0); (try simp (disch := omega) only [upA, upJ, upR, vu_n]); exact pTh v h0
  · intro v h0; (try simp (disch := omega) only [upA, upJ, upR, vu_n] at h0); (try simp (disch := omega) only [upA, upJ, upR, vu_n]); exact pDr v h0
  · intro v h0; (try simp (disch := omega) only [upA, upJ, upR, vu_n] at h0); (try simp (disch := omega) only [upA, upJ, upR, vu_n]); exact pSp v h0
  · intro v h0; (try simp (disch := omega) only [upA, upJ, upR, vu_n] at h0); (try simp (disch := omega) only [upA, upJ, upR, vu_n]); exact pSk v h0
  · intro v h0 h1; (try simp (disch := omega) only [upA, upJ, upR, vu_n] at h0 h1); (try simp (disch := omega) only [upA, upJ, upR, vu_n]); exact pS0 v h0 h1
  · intro v h0 h1; (try simp (disch := omega) only [upA, upJ, upR, vu_n] at h0 h1); (try simp (disch := omega) only [upA, upJ, upR, vu_n]); exact pSx v h0 h1
  · intro v h0 h1; (try simp (disch := omega) only [upA, upJ, upR, vu_n] at h0 h1); (try simp (disch := omega) only [upA, upJ, upR, vu_n]); exact pSy v h0 h1
  · intro v h0 h1; (try simp (disch := omega) only [upA, upJ, upR, vu_n] at h0 h1); (try simp (disch := omega) only [upA, upJ, upR, vu_n]); exact pSt v h0 h1
  · intro v h0; (try simp (disch := omega) only [upA, upJ, upR, vu_n] at h0); (try simp (disch := omega) only [upA, upJ, upR, vu_n]); exact pRa v h0
  · intro v h0; by_cases e : v = i
    · subst e; simp only [upS, vu_s]
    · (try simp (disch := omega) only [upA, upJ, upR, vu_n] at h0); (try simp (disch := omega) only [upA, upJ, upR, vu_n]); exact pRb v h0
  · intro v h0; (try simp (disch := omega) only [upA, upJ, upR, vu_n] at h0); (try simp (disch := omega) only [upA, upJ, upR, vu_n]); exact pRl v h0
  · intro v h0; (try simp (disch := omega) only [upA, upJ, upR, vu_n] at h0); (try simp (disch := omega) only [upA, upJ, upR, vu_n]); exact pRt v h0
  · intro u v h0 h1; (try simp (disch := omega) only [upA, upJ, upR, vu_n] at h0 h1); (try simp (disch := omega) only [upA, upJ, upR, vu_n]); exact pMe u v h0 h1
theorem rp_Rl {N : Nat → Nat → Nat} (h : RP p I N Z) (hi : i < 20) (h10 : N 0 4 ≤ 10) : RP p (am_up I (p + (20 + i)) 2 (nI q)) (am_up N 14 i q) Z := by
  obtain ⟨pW, pH, pT, pS, pL, pV, pR, pCr, pWl, pWy, pFo, pSh, pNo, pX, pY, pWe, pSa, pKi, pAn, pDg, pTh, pDr, pSp, pSk, pS0, pSx, pSy, pSt, pRa, pRb, pRl, pRt, pMe⟩ := h
  refine ⟨?_, ?_, ?_, ?_, ?_, ?_, ?_, ?_, ?_, ?_, ?_, ?_, ?_, ?_, ?_, ?_, ?_, ?_, ?_, ?_, ?_, ?_, ?_, ?_, ?_, ?_, ?_, ?_, ?_, ?_, ?_, ?_, ?_⟩
  · (try simp (disch := omega) only [upA, upJ, upR, vu_n]); exact pW
  · (try simp (disch := omega) only [upA, upJ, upR, vu_n]); exact pH
  · (try simp (disch := omega) only [upA, upJ, upR, vu_n]); exact pT
  · (try simp (disch := omega) only [upA, upJ, upR, vu_n]); exact pS
  · (try simp (disch := omega) only [upA, upJ, upR, vu_n]); exact pL
  · (try simp (disch := omega) only [upA, upJ, upR, vu_n]); exact pV
  · (try simp (disch := omega) only [upA, upJ, upR, vu_n]); exact pR
  · intro v h0; (try simp (disch := omega) only [upA, upJ, upR, vu_n] at h0); (try simp (disch := omega) only [upA, upJ, upR, vu_n]); exact pCr v h0
  · intro v h0; (try simp (disch := omega) only [upA, upJ, upR, vu_n] at h0); (try simp (disch := omega) only [upA, upJ, upR, vu_n]); exact pWl v h0
  · intro v h0; (try simp (disch := omega) only [upA, upJ, upR, vu_n] at h0); (try simp (disch := omega) only [upA, upJ, upR, vu_n]); exact pWy v h0
  · intro v h0; (try simp (disch := omega) only [upA, upJ, upR, vu_n] at h0); (try simp (disch := omega) only [upA, upJ, upR, vu_n]); exact pFo v h0
  · intro v h0; (try simp (disch := omega) only [upA, upJ, upR, vu_n] at h0); (try simp (disch := omega) only [upA, upJ, upR, vu_n]); exact pSh v h0
  · intro v h0; (try simp (disch := omega) only [upA, upJ, upR, vu_n] at h0); (try simp (disch := omega) only [upA, upJ, upR, vu_n]); exact pNo v h0
  · intro v h0; (try simp (disch := omega) only [upA, upJ, upR, vu_n] at h0); (try simp (disch := omega) only [upA, upJ, upR, vu_n]); exact pX v h0
  · intro v h0; (try simp (disch := omega) only [upA, upJ, upR, vu_n] at h0); (try simp (disch := omega) only [upA, upJ, upR, vu_n]); exact pY v h0
  · intro v h0; (try simp (disch := omega) only [upA, upJ, upR, vu_n] at h0); (try simp (disch := omega) only [upA, upJ, upR, vu_n]); exact pWe v h0
  · intro v h0; (try simp (disch := omega) only [upA, upJ, upR, vu_n] at h0); (try simp (disch := omega) only [upA, upJ, upR, vu_n]); exact pSa v h0
  · intro v h0; (try simp (disch := omega) only [upA, upJ, upR, vu_n] at h0); (try simp (disch := omega) only [upA, upJ, upR, vu_n]); exact pKi v h0
  · intro v h0; (try simp (disch := omega) only [upA, upJ, upR, vu_n] at h0); (try simp (disch := omega) only [upA, upJ, upR, vu_n]); exact pAn v h0
  · intro v h0; (try simp (disch := omega) only [upA, upJ, upR, vu_n] at h0); (try simp (disch := omega) only [upA, upJ, upR, vu_n]); exact pDg v h0
  · intro v h0; (try simp (disch := omega) only [upA, upJ, upR, vu_n] at h0); (try simp (disch := omega) only [upA, upJ, upR, vu_n]); exact pTh v h0
  · intro v h0; (try simp (disch := omega) only [upA, upJ, upR, vu_n] at h0); (try simp (disch := omega) only [upA, upJ, upR, vu_n]); exact pDr v h0
  · intro v h0; (try simp (disch := omega) only [upA, upJ, upR, vu_n] at h0); (try simp (disch := omega) only [upA, upJ, upR, vu_n]); exact pSp v h0
  · intro v h0; (try simp (disch := omega) only [upA, upJ, upR, vu_n] at h0); (try simp (disch := omega) only [upA, upJ, upR, vu_n]); exact pSk v h0
  · intro v h0 h1; (try simp (disch := omega) only [upA, upJ, upR, vu_n] at h0 h1); (try simp (disch := omega) only [upA, upJ, upR, vu_n]); exact pS0 v h0 h1
  · intro v h0 h1; (try simp (disch := omega) only [upA, upJ, upR, vu_n] at h0 h1); (try simp (disch := omega) only [upA, upJ, upR, vu_n]); exact pSx v h0 h1
  · intro v h0 h1; (try simp (disch := omega) only [upA, upJ, upR, vu_n] at h0 h1); (try simp (disch := omega) only [upA, upJ, upR, vu_n]); exact pSy v h0 h1
  · intro v h0 h1; (try simp (disch := omega) only [upA, upJ, upR, vu_n] at h0 h1); (try simp (disch := omega) only [upA, upJ, upR, vu_n]); exact pSt v h0 h1
  · intro v h0; (try simp (disch := omega) only [upA, upJ, upR, vu_n] at h0); (try simp (disch := omega) only [upA, upJ, upR, vu_n]); exact pRa v h0
  · intro v h0; (try simp (disch := omega) only [upA, upJ, upR, vu_n] at h0); (try simp (disch := omega) only [upA, upJ, upR, vu_n]); exact pRb v h0
  · intro v h0; by_cases e : v = i
    · subst e; simp only [upS, vu_s]
    · (try simp (disch := omega) only [upA, upJ, upR, vu_n] at h0); (try simp (disch := omega) only [upA, upJ, upR, vu_n]); exact pRl v h0
  · intro v h0; (try simp (disch := omega) only [upA, upJ, upR, vu_n] at h0); (try simp (disch := omega) only [upA, upJ, upR, vu_n]); exact pRt v h0
  · intro u v h0 h1; (try simp (disch := omega) only [upA, upJ, upR, vu_n] at h0 h1); (try simp (disch := omega) only [upA, upJ, upR, vu_n]); exact pMe u v h0 h1
theorem rp_Rt {N : Nat → Nat → Nat} (h : RP p I N Z) (hi : i < 20) (h10 : N 0 4 ≤ 10) : RP p (am_up I (p + (20 + i)) 3 (nI q)) (am_up N 15 i q) Z := by
  obtain ⟨pW, pH, pT, pS, pL, pV, pR, pCr, pWl, pWy, pFo, pSh, pNo, pX, pY, pWe, pSa, pKi, pAn, pDg, pTh, pDr, pSp, pSk, pS0, pSx, pSy, pSt, pRa, pRb, pRl, pRt, pMe⟩ := h
  refine ⟨?_, ?_, ?_, ?_, ?_, ?_, ?_, ?_, ?_, ?_, ?_, ?_, ?_, ?_, ?_, ?_, ?_, ?_, ?_, ?_, ?_, ?_, ?_, ?_, ?_, ?_, ?_, ?_, ?_, ?_, ?_, ?_, ?_⟩
  · (try simp (disch := omega) only [upA, upJ, upR, vu_n]); exact pW
  · (try simp (disch := omega) only [upA, upJ, upR, vu_n]); exact pH
  · (try simp (disch := omega) only [upA, upJ, upR, vu_n]); exact pT
  · (try simp (disch := omega) only [upA, upJ, upR, vu_n]); exact pS
  · (try simp (disch := omega) only [upA, upJ, upR, vu_n]); exact pL
  · (try simp (disch := omega) only [upA, upJ, upR, vu_n]); exact pV
  · (try simp (disch := omega) only [upA, upJ, upR, vu_n]); exact pR
  · intro v h0; (try simp (disch := omega) only [upA, upJ, upR, vu_n] at h0); (try simp (disch := omega) only [upA, upJ, upR, vu_n]); exact pCr v h0
  · intro v h0; (try simp (disch := omega) only [upA, upJ, upR, vu_n] at h0); (try simp (disch := omega) only [upA, upJ, upR, vu_n]); exact pWl v h0
  · intro v h0; (try simp (disch := omega) only [upA, upJ, upR, vu_n] at h0); (try simp (disch := omega) only [upA, upJ, upR, vu_n]); exact pWy v h0
  · intro v h0; (try simp (disch := omega) only [upA, upJ, upR, vu_n] at h0); (try simp (disch := omega) only [upA, upJ, upR, vu_n]); exact pFo v h0
  · intro v h0; (try simp (disch := omega) only [upA, upJ, upR, vu_n] at h0); (try simp (disch := omega) only [upA, upJ, upR, vu_n]); exact pSh v h0
  · intro v h0; (try simp (disch := omega) only [upA, upJ, upR, vu_n] at h0); (try simp (disch := omega) only [upA, upJ, upR, vu_n]); exact pNo v h0
  · intro v h0; (try simp (disch := omega) only [upA, upJ, upR, vu_n] at h0); (try simp (disch := omega) only [upA, upJ, upR, vu_n]); exact pX v h0
  · intro v h0; (try simp (disch := omega) only [upA, upJ, upR, vu_n] at h0); (try simp (disch := omega) only [upA, upJ, upR, vu_n]); exact pY v h0
  · intro v h0; (try simp (disch := omega) only [upA, upJ, upR, vu_n] at h0); (try simp (disch := omega) only [upA, upJ, upR, vu_n]); exact pWe v h0
  · intro v h0; (try simp (disch := omega) only [upA, upJ, upR, vu_n] at h0); (try simp (disch := omega) only [upA, upJ, upR, vu_n]); exact pSa v h0
  · intro v h0; (try simp (disch := omega) only [upA, upJ, upR, vu_n] at h0); (try simp (disch := omega) only [upA, upJ, upR, vu_n]); exact pKi v h0
  · intro v h0; (try simp (disch := omega) only [upA, upJ, upR, vu_n] at h0); (try simp (disch := omega) only [upA, upJ, upR, vu_n]); exact pAn v h0
  · intro v h0; (try simp (disch := omega) only [upA, upJ, upR, vu_n] at h0); (try simp (disch := omega) only [upA, upJ, upR, vu_n]); exact pDg v h0
  · intro v h0; (try simp (disch := omega) only [upA, upJ, upR, vu_n] at h0); (try simp (disch := omega) only [upA, upJ, upR, vu_n]); exact pTh v h0
  · intro v h0; (try simp (disch := omega) only [upA, upJ, upR, vu_n] at h0); (try simp (disch := omega) only [upA, upJ, upR, vu_n]); exact pDr v h0
  · intro v h0; (try simp (disch := omega) only [upA, upJ, upR, vu_n] at h0); (try simp (disch := omega) only [upA, upJ, upR, vu_n]); exact pSp v h0
  · intro v h0; (try simp (disch := omega) only [upA, upJ, upR, vu_n] at h0); (try simp (disch := omega) only [upA, upJ, upR, vu_n]); exact pSk v h0
  · intro v h0 h1; (try simp (disch := omega) only [upA, upJ, upR, vu_n] at h0 h1); (try simp (disch := omega) only [upA, upJ, upR, vu_n]); exact pS0 v h0 h1
  · intro v h0 h1; (try simp (disch := omega) only [upA, upJ, upR, vu_n] at h0 h1); (try simp (disch := omega) only [upA, upJ, upR, vu_n]); exact pSx v h0 h1
  · intro v h0 h1; (try simp (disch := omega) only [upA, upJ, upR, vu_n] at h0 h1); (try simp (disch := omega) only [upA, upJ, upR, vu_n]); exact pSy v h0 h1
  · intro v h0 h1; (try simp (disch := omega) only [upA, upJ, upR, vu_n] at h0 h1); (try simp (disch := omega) only [upA, upJ, upR, vu_n]); exact pSt v h0 h1
  · intro v h0; (try simp (disch := omega) only [upA, upJ, upR, vu_n] at h0); (try simp (disch := omega) only [upA, upJ, upR, vu_n]); exact pRa v h0
  · intro v h0; (try simp (disch := omega) only [upA, upJ, upR, vu_n] at h0); (try simp (disch := omega) only [upA, upJ, upR, vu_n]); exact pRb v h0
  · intro v h0; (try simp (disch := omega) only [upA, upJ, upR, vu_n] at h0); (try simp (disch := omega) only [upA, upJ, upR, vu_n]); exact pRl v h0
  · intro v h0; by_cases e : v = i
    · subst e; simp only [upS, vu_s]
    · (try simp (disch := omega) only [upA, upJ, upR, vu_n] at h0); (try simp (disch := omega) only [upA, upJ, upR, vu_n]); exact pRt v h0
  · intro u v h0 h1; (try simp (disch := omega) only [upA, upJ, upR, vu_n] at h0 h1); (try simp (disch := omega) only [upA, upJ, upR, vu_n]); exact pMe u v h0 h1
end STATE2
