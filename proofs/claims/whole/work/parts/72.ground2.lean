section GROUND2
variable {I : Nat → Nat → Int32} {N : Nat → Nat → Nat} {Z : Nat → Nat → Int32} {i j q a p n v x y z r u W H : Nat} {b : Int32}
theorem RG_Vi (h : RG I N Z) (hn : N 0 4 = n) (hn2 : n < 10) (h20 : N 0 5 ≤ 20) (z1 : Z 1 n = 0) (z2 : Z 2 n = 0) (z3 : Z 3 n = 0) (z4 : Z 4 n = 0) (z5 : Z 5 n = 0) (h16 : N 16 n = 0) : RG (am_up (am_up (vilI I n (nI x) (nI y) (nI z) (nI v) (nI q)) 9 5 (nI (n + 1))) 129 1 0) (am_up (am_up (am_up (am_up (am_up (am_up (am_up N 1 n x) 2 n y) 3 n z) 4 n v) 5 n q) 6 n 0) 0 4 (n + 1)) (Z) := by
  obtain ⟨pW, pH, pT, pS, pL, pV, pR, pCr, pWl, pWy, pFo, pSh, pNo, pX, pY, pWe, pSa, pKi, pAn, pDg, pTh, pDr, pSp, pSk, pS0, pSx, pSy, pSt, pRa, pRb, pRl, pRt, pMe, pBa, pBt⟩ := h
  unfold vilI
  refine ⟨?_, ?_, ?_, ?_, ?_, ?_, ?_, ?_, ?_, ?_, ?_, ?_, ?_, ?_, ?_, ?_, ?_, ?_, ?_, ?_, ?_, ?_, ?_, ?_, ?_, ?_, ?_, ?_, ?_, ?_, ?_, ?_, ?_, ?_, ?_⟩
  · simp (disch := omega) only [upA, upJ, upS, upI]; exact pW
  · simp (disch := omega) only [upA, upJ, upS, upI]; exact pH
  · simp (disch := omega) only [upA, upJ, upS, upI]; exact pT
  · simp (disch := omega) only [upA, upJ, upS, upI]; exact pS
  · simp (disch := omega) only [upA, upJ, upS, upI]; exact pL
  · simp (disch := omega) only [upA, upJ, upS, upI]
  · simp (disch := omega) only [upA, upJ, upS, upI]; exact pR
  · intro v g0; (try simp (disch := omega) only [upA, upJ, upS, upI] at g0); simp (disch := omega) only [upA, upJ, upS, upI]; exact pCr v g0
  · intro v g0; (try simp (disch := omega) only [upA, upJ, upS, upI] at g0); simp (disch := omega) only [upA, upJ, upS, upI]; exact pWl v g0
  · intro v g0; (try simp (disch := omega) only [upA, upJ, upS, upI] at g0); simp (disch := omega) only [upA, upJ, upS, upI]; exact pWy v g0
  · intro v g0; (try simp (disch := omega) only [upA, upJ, upS, upI] at g0); simp (disch := omega) only [upA, upJ, upS, upI]; exact pFo v g0
  · intro v g0; (try simp (disch := omega) only [upA, upJ, upS, upI] at g0); simp (disch := omega) only [upA, upJ, upS, upI]; exact pSh v g0
  · intro v g0; (try simp (disch := omega) only [upA, upJ, upS, upI] at g0); simp (disch := omega) only [upA, upJ, upS, upI]; exact pNo v g0
  · intro m g0
    simp (disch := omega) only [upA, upJ, upS] at g0
    by_cases e : m = n
    · rw [e]; simp (disch := omega) only [upA, upJ, upS, upI]
    · simp (disch := omega) only [upA, upJ, upS, upI]; exact pX m (by omega)
  · intro m g0
    simp (disch := omega) only [upA, upJ, upS] at g0
    by_cases e : m = n
    · rw [e]; simp (disch := omega) only [upA, upJ, upS, upI]
    · simp (disch := omega) only [upA, upJ, upS, upI]; exact pY m (by omega)
  · intro m g0
    simp (disch := omega) only [upA, upJ, upS] at g0
    by_cases e : m = n
    · rw [e]; simp (disch := omega) only [upA, upJ, upS, upI]
    · simp (disch := omega) only [upA, upJ, upS, upI]; exact pWe m (by omega)
  · intro m g0
    simp (disch := omega) only [upA, upJ, upS] at g0
    by_cases e : m = n
    · rw [e]; simp (disch := omega) only [upA, upJ, upS, upI]
    · simp (disch := omega) only [upA, upJ, upS, upI]; exact pSa m (by omega)
  · intro m g0
    simp (disch := omega) only [upA, upJ, upS] at g0
    by_cases e : m = n
    · rw [e]; simp (disch := omega) only [upA, upJ, upS, upI]
    · simp (disch := omega) only [upA, upJ, upS, upI]; exact pKi m (by omega)
  · intro m g0
    simp (disch := omega) only [upA, upJ, upS] at g0
    by_cases e : m = n
    · rw [e]; simp (disch := omega) only [upA, upJ, upS, upI]; exact nI_0.symm
    · simp (disch := omega) only [upA, upJ, upS, upI]; exact pAn m (by omega)
  · intro m g0
    simp (disch := omega) only [upA, upJ, upS] at g0
    by_cases e : m = n
    · rw [e]; simp (disch := omega) only [upA, upJ, upS, upI]; exact z1.symm
    · simp (disch := omega) only [upA, upJ, upS, upI]; exact pDg m (by omega)
  · intro m g0
    simp (disch := omega) only [upA, upJ, upS] at g0
    by_cases e : m = n
    · rw [e]; simp (disch := omega) only [upA, upJ, upS, upI]; exact z2.symm
    · simp (disch := omega) only [upA, upJ, upS, upI]; exact pTh m (by omega)
  · intro m g0
    simp (disch := omega) only [upA, upJ, upS] at g0
    by_cases e : m = n
    · rw [e]; simp (disch := omega) only [upA, upJ, upS, upI]; exact z3.symm
    · simp (disch := omega) only [upA, upJ, upS, upI]; exact pDr m (by omega)
  · intro m g0
    simp (disch := omega) only [upA, upJ, upS] at g0
    by_cases e : m = n
    · rw [e]; simp (disch := omega) only [upA, upJ, upS, upI]; exact z4.symm
    · simp (disch := omega) only [upA, upJ, upS, upI]; exact pSp m (by omega)
  · intro m g0
    simp (disch := omega) only [upA, upJ, upS] at g0
    by_cases e : m = n
    · rw [e]; simp (disch := omega) only [upA, upJ, upS, upI]; exact z5.symm
    · simp (disch := omega) only [upA, upJ, upS, upI]; exact pSk m (by omega)
  · intro m g0 g1
    simp (disch := omega) only [upA, upJ, upS] at g0 g1
    by_cases e : m = n
    · rw [e]; simp (disch := omega) only [upA, upJ, upS, upI]
    · simp (disch := omega) only [upA, upJ, upS, upI]; exact pS0 m (by omega) g1
  · intro m g0 g1
    simp (disch := omega) only [upA, upJ, upS] at g0 g1
    by_cases e : m = n
    · rw [e] at g1; exact absurd h16 g1
    · simp (disch := omega) only [upA, upJ, upS, upI]; exact pSx m (by omega) g1
  · intro m g0 g1
    simp (disch := omega) only [upA, upJ, upS] at g0 g1
    by_cases e : m = n
    · rw [e] at g1; exact absurd h16 g1
    · simp (disch := omega) only [upA, upJ, upS, upI]; exact pSy m (by omega) g1
  · intro m g0 g1
    simp (disch := omega) only [upA, upJ, upS] at g0 g1
    by_cases e : m = n
    · rw [e] at g1; exact absurd h16 g1
    · simp (disch := omega) only [upA, upJ, upS, upI]; exact pSt m (by omega) g1
  · intro v g0; (try simp (disch := omega) only [upA, upJ, upS, upI] at g0); simp (disch := omega) only [upA, upJ, upS, upI]; exact pRa v g0
  · intro v g0; (try simp (disch := omega) only [upA, upJ, upS, upI] at g0); simp (disch := omega) only [upA, upJ, upS, upI]; exact pRb v g0
  · intro v g0; (try simp (disch := omega) only [upA, upJ, upS, upI] at g0); simp (disch := omega) only [upA, upJ, upS, upI]; exact pRl v g0
  · intro v g0; (try simp (disch := omega) only [upA, upJ, upS, upI] at g0); simp (disch := omega) only [upA, upJ, upS, upI]; exact pRt v g0
  · intro u v g0 g1; (try simp (disch := omega) only [upA, upJ, upS, upI] at g0 g1); simp (disch := omega) only [upA, upJ, upS, upI]; exact pMe u v g0 g1
  · intro m g0
    by_cases e : m = n
    · rw [e]; simp (disch := omega) only [upA, upJ, upS, upI]; rfl
    · simp (disch := omega) only [upA, upJ, upS, upI]; exact pBa m g0
  · intro v g0; (try simp (disch := omega) only [upA, upJ, upS, upI] at g0); simp (disch := omega) only [upA, upJ, upS, upI]; exact pBt v g0
theorem RG_Ro (h : RG I N Z) (hr : N 0 5 = r) (hr2 : r < 20) (h10 : N 0 4 ≤ 10) : RG (am_up (am_up (am_up (am_up (am_up (am_up I (29 + r) 0 (nI v)) (29 + r) 1 (nI u)) (29 + r) 2 (nI z)) (29 + r) 3 0) 9 6 (nI (r + 1))) 129 1 0) (am_up (am_up (am_up (am_up (am_up N 12 r v) 13 r u) 14 r z) 15 r 0) 0 5 (r + 1)) (Z) := by
  obtain ⟨pW, pH, pT, pS, pL, pV, pR, pCr, pWl, pWy, pFo, pSh, pNo, pX, pY, pWe, pSa, pKi, pAn, pDg, pTh, pDr, pSp, pSk, pS0, pSx, pSy, pSt, pRa, pRb, pRl, pRt, pMe, pBa, pBt⟩ := h
  refine ⟨?_, ?_, ?_, ?_, ?_, ?_, ?_, ?_, ?_, ?_, ?_, ?_, ?_, ?_, ?_, ?_, ?_, ?_, ?_, ?_, ?_, ?_, ?_, ?_, ?_, ?_, ?_, ?_, ?_, ?_, ?_, ?_, ?_, ?_, ?_⟩
  · simp (disch := omega) only [upA, upJ, upS, upI]; exact pW
  · simp (disch := omega) only [upA, upJ, upS, upI]; exact pH
  · simp (disch := omega) only [upA, upJ, upS, upI]; exact pT
  · simp (disch := omega) only [upA, upJ, upS, upI]; exact pS
  · simp (disch := omega) only [upA, upJ, upS, upI]; exact pL
  · simp (disch := omega) only [upA, upJ, upS, upI]; exact pV
  · simp (disch := omega) only [upA, upJ, upS, upI]
  · intro v g0; (try simp (disch := omega) only [upA, upJ, upS, upI] at g0); simp (disch := omega) only [upA, upJ, upS, upI]; exact pCr v g0
  · intro v g0; (try simp (disch := omega) only [upA, upJ, upS, upI] at g0); simp (disch := omega) only [upA, upJ, upS, upI]; exact pWl v g0
  · intro v g0; (try simp (disch := omega) only [upA, upJ, upS, upI] at g0); simp (disch := omega) only [upA, upJ, upS, upI]; exact pWy v g0
  · intro v g0; (try simp (disch := omega) only [upA, upJ, upS, upI] at g0); simp (disch := omega) only [upA, upJ, upS, upI]; exact pFo v g0
  · intro v g0; (try simp (disch := omega) only [upA, upJ, upS, upI] at g0); simp (disch := omega) only [upA, upJ, upS, upI]; exact pSh v g0
  · intro v g0; (try simp (disch := omega) only [upA, upJ, upS, upI] at g0); simp (disch := omega) only [upA, upJ, upS, upI]; exact pNo v g0
  · intro v g0; (try simp (disch := omega) only [upA, upJ, upS, upI] at g0); simp (disch := omega) only [upA, upJ, upS, upI]; exact pX v g0
  · intro v g0; (try simp (disch := omega) only [upA, upJ, upS, upI] at g0); simp (disch := omega) only [upA, upJ, upS, upI]; exact pY v g0
  · intro v g0; (try simp (disch := omega) only [upA, upJ, upS, upI] at g0); simp (disch := omega) only [upA, upJ, upS, upI]; exact pWe v g0
  · intro v g0; (try simp (disch := omega) only [upA, upJ, upS, upI] at g0); simp (disch := omega) only [upA, upJ, upS, upI]; exact pSa v g0
  · intro v g0; (try simp (disch := omega) only [upA, upJ, upS, upI] at g0); simp (disch := omega) only [upA, upJ, upS, upI]; exact pKi v g0
  · intro v g0; (try simp (disch := omega) only [upA, upJ, upS, upI] at g0); simp (disch := omega) only [upA, upJ, upS, upI]; exact pAn v g0
  · intro v g0; (try simp (disch := omega) only [upA, upJ, upS, upI] at g0); simp (disch := omega) only [upA, upJ, upS, upI]; exact pDg v g0
  · intro v g0; (try simp (disch := omega) only [upA, upJ, upS, upI] at g0); simp (disch := omega) only [upA, upJ, upS, upI]; exact pTh v g0
  · intro v g0; (try simp (disch := omega) only [upA, upJ, upS, upI] at g0); simp (disch := omega) only [upA, upJ, upS, upI]; exact pDr v g0
  · intro v g0; (try simp (disch := omega) only [upA, upJ, upS, upI] at g0); simp (disch := omega) only [upA, upJ, upS, upI]; exact pSp v g0
  · intro v g0; (try simp (disch := omega) only [upA, upJ, upS, upI] at g0); simp (disch := omega) only [upA, upJ, upS, upI]; exact pSk v g0
  · intro v g0 g1; (try simp (disch := omega) only [upA, upJ, upS, upI] at g0 g1); simp (disch := omega) only [upA, upJ, upS, upI]; exact pS0 v g0 g1
  · intro v g0 g1; (try simp (disch := omega) only [upA, upJ, upS, upI] at g0 g1); simp (disch := omega) only [upA, upJ, upS, upI]; exact pSx v g0 g1
  · intro v g0 g1; (try simp (disch := omega) only [upA, upJ, upS, upI] at g0 g1); simp (disch := omega) only [upA, upJ, upS, upI]; exact pSy v g0 g1
  · intro v g0 g1; (try simp (disch := omega) only [upA, upJ, upS, upI] at g0 g1); simp (disch := omega) only [upA, upJ, upS, upI]; exact pSt v g0 g1
  · intro m g0
    simp (disch := omega) only [upA, upJ, upS] at g0
    by_cases e : m = r
    · rw [e]; simp (disch := omega) only [upA, upJ, upS, upI]
    · simp (disch := omega) only [upA, upJ, upS, upI]; exact pRa m (by omega)
  · intro m g0
    simp (disch := omega) only [upA, upJ, upS] at g0
    by_cases e : m = r
    · rw [e]; simp (disch := omega) only [upA, upJ, upS, upI]
    · simp (disch := omega) only [upA, upJ, upS, upI]; exact pRb m (by omega)
  · intro m g0
    simp (disch := omega) only [upA, upJ, upS] at g0
    by_cases e : m = r
    · rw [e]; simp (disch := omega) only [upA, upJ, upS, upI]
    · simp (disch := omega) only [upA, upJ, upS, upI]; exact pRl m (by omega)
  · intro m g0
    simp (disch := omega) only [upA, upJ, upS] at g0
    by_cases e : m = r
    · rw [e]; simp (disch := omega) only [upA, upJ, upS, upI]; exact nI_0.symm
    · simp (disch := omega) only [upA, upJ, upS, upI]; exact pRt m (by omega)
  · intro u v g0 g1; (try simp (disch := omega) only [upA, upJ, upS, upI] at g0 g1); simp (disch := omega) only [upA, upJ, upS, upI]; exact pMe u v g0 g1
  · intro v g0; (try simp (disch := omega) only [upA, upJ, upS, upI] at g0); simp (disch := omega) only [upA, upJ, upS, upI]; exact pBa v g0
  · intro m g0
    by_cases e : m = r
    · rw [e]; simp (disch := omega) only [upA, upJ, upS, upI]; rfl
    · simp (disch := omega) only [upA, upJ, upS, upI]; exact pBt m g0
theorem RG_Se (h : RG I N Z) (hv : v < N 0 4) (h10 : N 0 4 ≤ 10) (h20 : N 0 5 ≤ 20) (hx : x < 12) : RG (am_up (am_up (am_up I (19 + v) 12 (nI x)) (19 + v) 13 (nI y)) (19 + v) 14 (nI z)) (am_up (am_up N 16 v (12 * y + x + 1)) 17 v z) (Z) := by
  obtain ⟨pW, pH, pT, pS, pL, pV, pR, pCr, pWl, pWy, pFo, pSh, pNo, pX, pY, pWe, pSa, pKi, pAn, pDg, pTh, pDr, pSp, pSk, pS0, pSx, pSy, pSt, pRa, pRb, pRl, pRt, pMe, pBa, pBt⟩ := h
  refine ⟨?_, ?_, ?_, ?_, ?_, ?_, ?_, ?_, ?_, ?_, ?_, ?_, ?_, ?_, ?_, ?_, ?_, ?_, ?_, ?_, ?_, ?_, ?_, ?_, ?_, ?_, ?_, ?_, ?_, ?_, ?_, ?_, ?_, ?_, ?_⟩
  · simp (disch := omega) only [upA, upJ, upS, upI]; exact pW
  · simp (disch := omega) only [upA, upJ, upS, upI]; exact pH
  · simp (disch := omega) only [upA, upJ, upS, upI]; exact pT
  · simp (disch := omega) only [upA, upJ, upS, upI]; exact pS
  · simp (disch := omega) only [upA, upJ, upS, upI]; exact pL
  · simp (disch := omega) only [upA, upJ, upS, upI]; exact pV
  · simp (disch := omega) only [upA, upJ, upS, upI]; exact pR
  · intro v' g0; (try simp (disch := omega) only [upA, upJ, upS, upI] at g0); simp (disch := omega) only [upA, upJ, upS, upI]; exact pCr v' g0
  · intro v' g0; (try simp (disch := omega) only [upA, upJ, upS, upI] at g0); simp (disch := omega) only [upA, upJ, upS, upI]; exact pWl v' g0
  · intro v' g0; (try simp (disch := omega) only [upA, upJ, upS, upI] at g0); simp (disch := omega) only [upA, upJ, upS, upI]; exact pWy v' g0
  · intro v' g0; (try simp (disch := omega) only [upA, upJ, upS, upI] at g0); simp (disch := omega) only [upA, upJ, upS, upI]; exact pFo v' g0
  · intro v' g0; (try simp (disch := omega) only [upA, upJ, upS, upI] at g0); simp (disch := omega) only [upA, upJ, upS, upI]; exact pSh v' g0
  · intro v' g0; (try simp (disch := omega) only [upA, upJ, upS, upI] at g0); simp (disch := omega) only [upA, upJ, upS, upI]; exact pNo v' g0
  · intro v' g0; (try simp (disch := omega) only [upA, upJ, upS, upI] at g0); simp (disch := omega) only [upA, upJ, upS, upI]; exact pX v' g0
  · intro v' g0; (try simp (disch := omega) only [upA, upJ, upS, upI] at g0); simp (disch := omega) only [upA, upJ, upS, upI]; exact pY v' g0
  · intro v' g0; (try simp (disch := omega) only [upA, upJ, upS, upI] at g0); simp (disch := omega) only [upA, upJ, upS, upI]; exact pWe v' g0
  · intro v' g0; (try simp (disch := omega) only [upA, upJ, upS, upI] at g0); simp (disch := omega) only [upA, upJ, upS, upI]; exact pSa v' g0
  · intro v' g0; (try simp (disch := omega) only [upA, upJ, upS, upI] at g0); simp (disch := omega) only [upA, upJ, upS, upI]; exact pKi v' g0
  · intro v' g0; (try simp (disch := omega) only [upA, upJ, upS, upI] at g0); simp (disch := omega) only [upA, upJ, upS, upI]; exact pAn v' g0
  · intro v' g0; (try simp (disch := omega) only [upA, upJ, upS, upI] at g0); simp (disch := omega) only [upA, upJ, upS, upI]; exact pDg v' g0
  · intro v' g0; (try simp (disch := omega) only [upA, upJ, upS, upI] at g0); simp (disch := omega) only [upA, upJ, upS, upI]; exact pTh v' g0
  · intro v' g0; (try simp (disch := omega) only [upA, upJ, upS, upI] at g0); simp (disch := omega) only [upA, upJ, upS, upI]; exact pDr v' g0
  · intro v' g0; (try simp (disch := omega) only [upA, upJ, upS, upI] at g0); simp (disch := omega) only [upA, upJ, upS, upI]; exact pSp v' g0
  · intro v' g0; (try simp (disch := omega) only [upA, upJ, upS, upI] at g0); simp (disch := omega) only [upA, upJ, upS, upI]; exact pSk v' g0
  · intro m g0 g1
    simp (disch := omega) only [upA, upJ, upS] at g0
    by_cases e : m = v
    · rw [e] at g1 ⊢; (try simp (disch := omega) only [upA, upJ, upS, upI] at g1)
      omega
    · simp (disch := omega) only [upA, upJ, upS, upI] at g1
      simp (disch := omega) only [upA, upJ, upS, upI]; exact pS0 m g0 g1
  · intro m g0 g1
    simp (disch := omega) only [upA, upJ, upS] at g0
    by_cases e : m = v
    · rw [e] at g1 ⊢; (try simp (disch := omega) only [upA, upJ, upS, upI] at g1)
      simp (disch := omega) only [upA, upJ, upS, upI]; congr 1; omega
    · simp (disch := omega) only [upA, upJ, upS, upI] at g1
      simp (disch := omega) only [upA, upJ, upS, upI]; exact pSx m g0 g1
  · intro m g0 g1
    simp (disch := omega) only [upA, upJ, upS] at g0
    by_cases e : m = v
    · rw [e] at g1 ⊢; (try simp (disch := omega) only [upA, upJ, upS, upI] at g1)
      simp (disch := omega) only [upA, upJ, upS, upI]; congr 1; omega
    · simp (disch := omega) only [upA, upJ, upS, upI] at g1
      simp (disch := omega) only [upA, upJ, upS, upI]; exact pSy m g0 g1
  · intro m g0 g1
    simp (disch := omega) only [upA, upJ, upS] at g0
    by_cases e : m = v
    · rw [e] at g1 ⊢; (try simp (disch := omega) only [upA, upJ, upS, upI] at g1)
      simp (disch := omega) only [upA, upJ, upS, upI]
    · simp (disch := omega) only [upA, upJ, upS, upI] at g1
      simp (disch := omega) only [upA, upJ, upS, upI]; exact pSt m g0 g1
  · intro v' g0; (try simp (disch := omega) only [upA, upJ, upS, upI] at g0); simp (disch := omega) only [upA, upJ, upS, upI]; exact pRa v' g0
  · intro v' g0; (try simp (disch := omega) only [upA, upJ, upS, upI] at g0); simp (disch := omega) only [upA, upJ, upS, upI]; exact pRb v' g0
  · intro v' g0; (try simp (disch := omega) only [upA, upJ, upS, upI] at g0); simp (disch := omega) only [upA, upJ, upS, upI]; exact pRl v' g0
  · intro v' g0; (try simp (disch := omega) only [upA, upJ, upS, upI] at g0); simp (disch := omega) only [upA, upJ, upS, upI]; exact pRt v' g0
  · intro u' v' g0 g1; (try simp (disch := omega) only [upA, upJ, upS, upI] at g0 g1); simp (disch := omega) only [upA, upJ, upS, upI]; exact pMe u' v' g0 g1
  · intro v' g0; (try simp (disch := omega) only [upA, upJ, upS, upI] at g0); simp (disch := omega) only [upA, upJ, upS, upI]; exact pBa v' g0
  · intro v' g0; (try simp (disch := omega) only [upA, upJ, upS, upI] at g0); simp (disch := omega) only [upA, upJ, upS, upI]; exact pBt v' g0
theorem RG_Pl (h : RG I N Z)  : RG (plG I (nI W) (nI H)) (plN N W H) (plZ Z) := by
  obtain ⟨pW, pH, pT, pS, pL, pV, pR, pCr, pWl, pWy, pFo, pSh, pNo, pX, pY, pWe, pSa, pKi, pAn, pDg, pTh, pDr, pSp, pSk, pS0, pSx, pSy, pSt, pRa, pRb, pRl, pRt, pMe, pBa, pBt⟩ := h
  have e4 : plN N W H 0 4 = 0 := rfl
  have e5 : plN N W H 0 5 = 0 := rfl
  unfold plG
  refine ⟨?_, ?_, ?_, ?_, ?_, ?_, ?_, ?_, ?_, ?_, ?_, ?_, ?_, ?_, ?_, ?_, ?_, ?_, ?_, ?_, ?_, ?_, ?_, ?_, ?_, ?_, ?_, ?_, ?_, ?_, ?_, ?_, ?_, ?_, ?_⟩
  · simp (disch := omega) only [fl_o, fl_s, upA, upJ, upS, upI]
    rfl
  · simp (disch := omega) only [fl_o, fl_s, upA, upJ, upS, upI]
    rfl
  · simp (disch := omega) only [fl_o, fl_s, upA, upJ, upS, upI]
    first | rfl | exact nI_0.symm
  · simp (disch := omega) only [fl_o, fl_s, upA, upJ, upS, upI]
    exact pS
  · simp (disch := omega) only [fl_o, fl_s, upA, upJ, upS, upI]
    first | rfl | exact nI_0.symm
  · simp (disch := omega) only [fl_o, fl_s, upA, upJ, upS, upI]
    first | rfl | exact nI_0.symm
  · simp (disch := omega) only [fl_o, fl_s, upA, upJ, upS, upI]
    first | rfl | exact nI_0.symm
  · intro m g0
    simp (disch := omega) only [fl_o, fl_s, upA, upJ, upS, upI]
    first | rfl | exact nI_0.symm
  · intro m g0
    simp (disch := omega) only [fl_o, fl_s, upA, upJ, upS, upI]
    first | rfl | exact nI_0.symm
  · intro m g0
    simp (disch := omega) only [fl_o, fl_s, upA, upJ, upS, upI]
    first | rfl | exact nI_0.symm
  · intro m g0
    simp (disch := omega) only [fl_o, fl_s, upA, upJ, upS, upI]
    first | rfl | exact nI_0.symm
  · intro m g0
    simp (disch := omega) only [fl_o, fl_s, upA, upJ, upS, upI]
    first | rfl | exact nI_0.symm
  · intro m g0
    simp (disch := omega) only [fl_o, fl_s, upA, upJ, upS, upI]
    exact pNo m g0
  · intro m g0
    rw [e4] at g0
    exact absurd g0 (by omega)
  · intro m g0
    rw [e4] at g0
    exact absurd g0 (by omega)
  · intro m g0
    rw [e4] at g0
    exact absurd g0 (by omega)
  · intro m g0
    rw [e4] at g0
    exact absurd g0 (by omega)
  · intro m g0
    rw [e4] at g0
    exact absurd g0 (by omega)
  · intro m g0
    rw [e4] at g0
    exact absurd g0 (by omega)
  · intro m g0
    rw [e4] at g0
    exact absurd g0 (by omega)
  · intro m g0
    rw [e4] at g0
    exact absurd g0 (by omega)
  · intro m g0
    rw [e4] at g0
    exact absurd g0 (by omega)
  · intro m g0
    rw [e4] at g0
    exact absurd g0 (by omega)
  · intro m g0
    rw [e4] at g0
    exact absurd g0 (by omega)
  · intro m g0
    rw [e4] at g0
    exact absurd g0 (by omega)
  · intro m g0
    rw [e4] at g0
    exact absurd g0 (by omega)
  · intro m g0
    rw [e4] at g0
    exact absurd g0 (by omega)
  · intro m g0
    rw [e4] at g0
    exact absurd g0 (by omega)
  · intro m g0
    rw [e5] at g0
    exact absurd g0 (by omega)
  · intro m g0
    rw [e5] at g0
    exact absurd g0 (by omega)
  · intro m g0
    rw [e5] at g0
    exact absurd g0 (by omega)
  · intro m g0
    rw [e5] at g0
    exact absurd g0 (by omega)
  · intro u v g0 g1
    simp (disch := omega) only [fl_o, fl_s, upA, upJ, upS, upI]
    rfl
  · intro m g0
    simp (disch := omega) only [fl_o, fl_s, upA, upJ, upS, upI]
    exact pBa m g0
  · intro m g0
    simp (disch := omega) only [fl_o, fl_s, upA, upJ, upS, upI]
    exact pBt m g0
theorem RM_Pl (h : RM I N Z) (ho : OW N) : RM (plM I (nI W) (nI H)) (plN N W H) (plZ Z) := by
  have e20 : ∀ u, plN N W H 20 u = 0 := fun u => rfl
  have z50 : (0 : Int32) = nI 50 - nI 50 := by decide
  have zz0 : ∀ j, zz j = 0 := fun _ => rfl
  obtain ⟨⟨nTi, nSe, nX, nY, nDg, nTh, nDr, nSp, nSk, nCr, nRt, nMe⟩, mW, mH, mV, mL, mR, mWl, mWy, mFo, mSh, mWe, mSa, mKi, mAn, mRa, mRb, mRl, mSc, mSt, mLi, mWo, mFr, mTo, mOp, mAr⟩ := h
  unfold plM plX5 plX4 plX2 plX0
  refine ⟨⟨?_, ?_, ?_, ?_, ?_, ?_, ?_, ?_, ?_, ?_, ?_, ?_⟩, ?_, ?_, ?_, ?_, ?_, ?_, ?_, ?_, ?_, ?_, ?_, ?_, ?_, ?_, ?_, ?_, ?_, ?_, ?_, ?_, ?_, ?_, ?_, ?_⟩
  · simp (disch := omega) only [rwS, rwA, upA, upJ, upS, upI, fil_lt, zz0]
    first | rfl | exact nI_0.symm
  · simp (disch := omega) only [rwS, rwA, upA, upJ, upS, upI, fil_lt, zz0]
    exact nSe
  · intro v g0
    simp (disch := omega) only [rwS, rwA, upA, upJ, upS, upI, fil_lt, zz0]
    first | rfl | exact nI_0.symm | exact z50
  · intro v g0
    simp (disch := omega) only [rwS, rwA, upA, upJ, upS, upI, fil_lt, zz0]
    first | rfl | exact nI_0.symm | exact z50
  · intro v g0
    simp (disch := omega) only [rwS, rwA, upA, upJ, upS, upI, fil_lt, zz0]
    first | rfl | exact nI_0.symm | exact z50
  · intro v g0
    simp (disch := omega) only [rwS, rwA, upA, upJ, upS, upI, fil_lt, zz0]
    first | rfl | exact nI_0.symm | exact z50
  · intro v g0
    simp (disch := omega) only [rwS, rwA, upA, upJ, upS, upI, fil_lt, zz0]
    first | rfl | exact nI_0.symm | exact z50
  · intro v g0
    simp (disch := omega) only [rwS, rwA, upA, upJ, upS, upI, fil_lt, zz0]
    first | rfl | exact nI_0.symm | exact z50
  · intro v g0
    simp (disch := omega) only [rwS, rwA, upA, upJ, upS, upI, fil_lt, zz0]
    first | rfl | exact nI_0.symm | exact z50
  · intro v g0
    simp (disch := omega) only [rwS, rwA, upA, upJ, upS, upI, fil_lt, zz0]
    first | rfl | exact nI_0.symm | exact z50
  · intro v g0
    simp (disch := omega) only [rwS, rwA, upA, upJ, upS, upI, fil_lt, zz0]
    first | rfl | exact nI_0.symm | exact z50
  · intro v g0
    simp (disch := omega) only [rwS, rwA, upA, upJ, upS, upI, fil_lt, zz0]
    first | rfl | exact nI_0.symm | exact z50
  · simp (disch := omega) only [rwS, rwA, upA, upJ, upS, upI, fil_lt, zz0]
    rfl
  · simp (disch := omega) only [rwS, rwA, upA, upJ, upS, upI, fil_lt, zz0]
    rfl
  · simp (disch := omega) only [rwS, rwA, upA, upJ, upS, upI, fil_lt, zz0]
    first | rfl | exact nI_0.symm
  · simp (disch := omega) only [rwS, rwA, upA, upJ, upS, upI, fil_lt, zz0]
    first | rfl | exact nI_0.symm
  · simp (disch := omega) only [rwS, rwA, upA, upJ, upS, upI, fil_lt, zz0]
    first | rfl | exact nI_0.symm
  · intro v g0
    simp (disch := omega) only [rwS, rwA, upA, upJ, upS, upI, fil_lt, zz0]
    first | rfl | exact nI_0.symm | exact (show (0 : Int32) = nI 1 - 1 by decide)
  · intro v g0
    simp (disch := omega) only [rwS, rwA, upA, upJ, upS, upI, fil_lt, zz0]
    first | rfl | exact nI_0.symm | exact (show (0 : Int32) = nI 1 - 1 by decide)
  · intro v g0
    simp (disch := omega) only [rwS, rwA, upA, upJ, upS, upI, fil_lt, zz0]
    first | rfl | exact nI_0.symm | exact (show (0 : Int32) = nI 1 - 1 by decide)
  · intro v g0
    simp (disch := omega) only [rwS, rwA, upA, upJ, upS, upI, fil_lt, zz0]
    first | rfl | exact nI_0.symm | exact (show (0 : Int32) = nI 1 - 1 by decide)
  · intro v g0
    simp (disch := omega) only [rwS, rwA, upA, upJ, upS, upI, fil_lt, zz0]
    exact mWe v g0
  · intro v g0
    simp (disch := omega) only [rwS, rwA, upA, upJ, upS, upI, fil_lt, zz0]
    exact mSa v g0
  · intro v g0
    simp (disch := omega) only [rwS, rwA, upA, upJ, upS, upI, fil_lt, zz0]
    exact mKi v g0
  · intro v g0
    simp (disch := omega) only [rwS, rwA, upA, upJ, upS, upI, fil_lt, zz0]
    exact mAn v g0
  · intro v g0
    simp (disch := omega) only [rwS, rwA, upA, upJ, upS, upI, fil_lt, zz0]
    exact mRa v g0
  · intro v g0
    simp (disch := omega) only [rwS, rwA, upA, upJ, upS, upI, fil_lt, zz0]
    exact mRb v g0
  · intro v g0
    simp (disch := omega) only [rwS, rwA, upA, upJ, upS, upI, fil_lt, zz0]
    exact mRl v g0
  · intro v g0
    simp (disch := omega) only [rwS, rwA, upA, upJ, upS, upI, fil_lt, zz0]
    first | rfl | exact nI_0.symm | exact (show (0 : Int32) = nI 1 - 1 by decide)
  · intro v g0
    simp (disch := omega) only [rwS, rwA, upA, upJ, upS, upI, fil_lt, zz0]
    exact mSt v g0
  · intro v g0
    simp (disch := omega) only [rwS, rwA, upA, upJ, upS, upI, fil_lt, zz0]
    first | rfl | exact nI_0.symm | exact (show (0 : Int32) = nI 1 - 1 by decide)
  · intro u v g0 g1
    exact absurd g1 (by rw [e20]; omega)
  · intro u v g0 g1
    exact absurd g1 (by rw [e20]; omega)
  · intro u v g0 g1
    exact absurd g1 (by rw [e20]; omega)
  · intro u v g0 g1
    have q : plN N W H (21 + u) 0 = 0 := by unfold plN; rw [if_neg (by omega), if_neg (by omega), if_neg (by omega), if_neg (by omega)]; exact (ho u g0).2.1
    rw [e20, q] at g1
    exact absurd g1 (by omega)
  · intro u v g0 g1
    have q : plN N W H (21 + u) 0 = 0 := by unfold plN; rw [if_neg (by omega), if_neg (by omega), if_neg (by omega), if_neg (by omega)]; exact (ho u g0).2.1
    rw [e20, q] at g1
    exact absurd g1 (by omega)
end GROUND2
