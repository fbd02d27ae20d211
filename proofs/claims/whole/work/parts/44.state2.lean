def bl (x : Int32) : Bool := decide (x = 0 ∨ x = 1)
def RG (I : Nat → Nat → Int32) (N : Nat → Nat → Nat) (Z : Nat → Nat → Int32) : Prop := (I 9 0 = nI (N 0 0)) ∧ (I 9 1 = nI (N 0 1)) ∧ (I 9 2 = nI (N 0 2)) ∧ (I 9 3 = Z 0 0) ∧ (I 9 4 = nI (N 0 3)) ∧ (I 9 5 = nI (N 0 4)) ∧ (I 9 6 = nI (N 0 5)) ∧ (∀ v : Nat, v < 144 → I 10 v = nI (N 7 v)) ∧ (∀ v : Nat, v < 144 → I 11 v = nI (N 8 v)) ∧ (∀ v : Nat, v < 24 → I 12 v = nI (N 9 v)) ∧ (∀ v : Nat, v < 24 → I 13 v = nI (N 10 v)) ∧ (∀ v : Nat, v < 24 → I 14 v = nI (N 11 v)) ∧ (∀ v : Nat, v < 10 → I (19 + v) 0 = nI v) ∧ (∀ v : Nat, v < N 0 4 → I (19 + v) 1 = nI (N 1 v)) ∧ (∀ v : Nat, v < N 0 4 → I (19 + v) 2 = nI (N 2 v)) ∧ (∀ v : Nat, v < N 0 4 → I (19 + v) 3 = nI (N 3 v)) ∧ (∀ v : Nat, v < N 0 4 → I (19 + v) 4 = nI (N 4 v)) ∧ (∀ v : Nat, v < N 0 4 → I (19 + v) 5 = nI (N 5 v)) ∧ (∀ v : Nat, v < N 0 4 → I (19 + v) 6 = nI (N 6 v)) ∧ (∀ v : Nat, v < N 0 4 → I (19 + v) 7 = Z 1 v) ∧ (∀ v : Nat, v < N 0 4 → I (19 + v) 8 = Z 2 v) ∧ (∀ v : Nat, v < N 0 4 → I (19 + v) 9 = Z 3 v) ∧ (∀ v : Nat, v < N 0 4 → I (19 + v) 10 = Z 4 v) ∧ (∀ v : Nat, v < N 0 4 → I (19 + v) 11 = Z 5 v) ∧ (∀ v : Nat, v < N 0 4 → N 16 v = 0 → I (19 + v) 14 = -1) ∧ (∀ v : Nat, v < N 0 4 → ¬ N 16 v = 0 → I (19 + v) 12 = nI ((N 16 v - 1) % 12)) ∧ (∀ v : Nat, v < N 0 4 → ¬ N 16 v = 0 → I (19 + v) 13 = nI ((N 16 v - 1) / 12)) ∧ (∀ v : Nat, v < N 0 4 → ¬ N 16 v = 0 → I (19 + v) 14 = nI (N 17 v)) ∧ (∀ v : Nat, v < N 0 5 → I (29 + v) 0 = nI (N 12 v)) ∧ (∀ v : Nat, v < N 0 5 → I (29 + v) 1 = nI (N 13 v)) ∧ (∀ v : Nat, v < N 0 5 → I (29 + v) 2 = nI (N 14 v)) ∧ (∀ v : Nat, v < N 0 5 → I (29 + v) 3 = nI (N 15 v)) ∧ (∀ u v : Nat, u < v → v < 10 → I 17 (10 * u + v) = Z 6 (10 * u + v)) ∧ (∀ v : Nat, v < 10 → bl (I (19 + v) 6) = true) ∧ (∀ v : Nat, v < 20 → bl (I (29 + v) 3) = true)
def RK (I : Nat → Nat → Int32) (N : Nat → Nat → Nat) (Z : Nat → Nat → Int32) : Prop := (I 69 0 = nI (N 0 0)) ∧ (I 69 1 = nI (N 0 1)) ∧ (I 69 2 = nI (N 0 2)) ∧ (I 69 3 = Z 0 0) ∧ (I 69 4 = nI (N 0 3)) ∧ (I 69 5 = nI (N 0 4)) ∧ (I 69 6 = nI (N 0 5)) ∧ (∀ v : Nat, v < 144 → I 70 v = nI (N 7 v)) ∧ (∀ v : Nat, v < 144 → I 71 v = nI (N 8 v)) ∧ (∀ v : Nat, v < 24 → I 72 v = nI (N 9 v)) ∧ (∀ v : Nat, v < 24 → I 73 v = nI (N 10 v)) ∧ (∀ v : Nat, v < 24 → I 74 v = nI (N 11 v)) ∧ (∀ v : Nat, v < 10 → I (79 + v) 0 = nI v) ∧ (∀ v : Nat, v < N 0 4 → I (79 + v) 1 = nI (N 1 v)) ∧ (∀ v : Nat, v < N 0 4 → I (79 + v) 2 = nI (N 2 v)) ∧ (∀ v : Nat, v < N 0 4 → I (79 + v) 3 = nI (N 3 v)) ∧ (∀ v : Nat, v < N 0 4 → I (79 + v) 4 = nI (N 4 v)) ∧ (∀ v : Nat, v < N 0 4 → I (79 + v) 5 = nI (N 5 v)) ∧ (∀ v : Nat, v < N 0 4 → I (79 + v) 6 = nI (N 6 v)) ∧ (∀ v : Nat, v < N 0 4 → I (79 + v) 7 = Z 1 v) ∧ (∀ v : Nat, v < N 0 4 → I (79 + v) 8 = Z 2 v) ∧ (∀ v : Nat, v < N 0 4 → I (79 + v) 9 = Z 3 v) ∧ (∀ v : Nat, v < N 0 4 → I (79 + v) 10 = Z 4 v) ∧ (∀ v : Nat, v < N 0 4 → I (79 + v) 11 = Z 5 v) ∧ (∀ v : Nat, v < N 0 4 → N 16 v = 0 → I (79 + v) 14 = -1) ∧ (∀ v : Nat, v < N 0 4 → ¬ N 16 v = 0 → I (79 + v) 12 = nI ((N 16 v - 1) % 12)) ∧ (∀ v : Nat, v < N 0 4 → ¬ N 16 v = 0 → I (79 + v) 13 = nI ((N 16 v - 1) / 12)) ∧ (∀ v : Nat, v < N 0 4 → ¬ N 16 v = 0 → I (79 + v) 14 = nI (N 17 v)) ∧ (∀ v : Nat, v < N 0 5 → I (89 + v) 0 = nI (N 12 v)) ∧ (∀ v : Nat, v < N 0 5 → I (89 + v) 1 = nI (N 13 v)) ∧ (∀ v : Nat, v < N 0 5 → I (89 + v) 2 = nI (N 14 v)) ∧ (∀ v : Nat, v < N 0 5 → I (89 + v) 3 = nI (N 15 v)) ∧ (∀ u v : Nat, u < v → v < 10 → I 77 (10 * u + v) = Z 6 (10 * u + v)) ∧ (∀ v : Nat, v < 10 → bl (I (79 + v) 6) = true) ∧ (∀ v : Nat, v < 20 → bl (I (89 + v) 3) = true)
section STATE2
variable {I : Nat → Nat → Int32} {N : Nat → Nat → Nat} {Z : Nat → Nat → Int32} {r : Nat → Int32} {i j q a p : Nat} {b : Int32}
theorem bl_n (h : q ≤ 1) : bl (nI q) = true := by
  have hc : q = 0 ∨ q = 1 := by omega
  rcases hc with rfl | rfl <;> decide
theorem bl_e {x : Int32} (h : bl x = true) : x = 0 ∨ x = 1 := by unfold bl at h; exact of_decide_eq_true h
theorem rg_W {N : Nat → Nat → Nat} (h : RG I N Z)  : RG (am_up I 9 0 (nI q)) (am_up N 0 0 q) Z := by
  obtain ⟨pW, pH, pT, pS, pL, pV, pR, pCr, pWl, pWy, pFo, pSh, pNo, pX, pY, pWe, pSa, pKi, pAn, pDg, pTh, pDr, pSp, pSk, pS0, pSx, pSy, pSt, pRa, pRb, pRl, pRt, pMe, pBa, pBt⟩ := h
  refine ⟨?_, ?_, ?_, ?_, ?_, ?_, ?_, ?_, ?_, ?_, ?_, ?_, ?_, ?_, ?_, ?_, ?_, ?_, ?_, ?_, ?_, ?_, ?_, ?_, ?_, ?_, ?_, ?_, ?_, ?_, ?_, ?_, ?_, ?_, ?_⟩
  · simp only [upS, vu_s]
  · (try simp (disch := omega) only [upA, upJ, upR, vu_n]); exact pH
  · (try simp (disch := omega) only [upA, upJ, upR, vu_n]); exact pT
  · (try simp (disch := omega) only [upA, upJ, upR, vu_n]); exact pS
  · (try simp (disch := omega) only [upA, upJ, upR, vu_n]); exact pL
  · (try simp (disch := omega) only [upA, upJ, upR, vu_n]); exact pV
  · (try simp (disch := omega) only [upA, upJ, upR, vu_n]); exact pR
  · intro v h0; (try simp (disch := omega) only [upA, upJ, upR, vu_n] at h0); (try simp (disch := omega) only [upA, upJ, upR, vu_n]); exact pCr v h0
  · intro v h0; (try simp (disch := omega) only [upA, upJ, upR, vu_n] at h0); (try simp (disch := omega) only [upA, upJ, upR, vu_n]); exact pWl v h0
  · intro v h0; (try simp (disch := omega) only [upA, upJ, upR, vu_n] at h0); (try simp (disch := omega) only [upA, upJ, upR, vu_n]); exact pWy v h0
  · intro v h0; (try simp (disch := omega) only [upA, upJ, upR, vu_n] at h0); (try simp (disch := omega) only [upA, upJ, upR, vu_n]); exact pFo v h0
  · intro v h0; (try simp (disch := omega) only [upA, upJ, upR, vu_n] at h0); (try simp (disch := omega) only [upA, upJ, upR, vu_n]); exact pSh v h0
  · intro v h0; (try simp (disch := omega) only [upA, upJ, upR, vu_n] at h0); (try simp (disch := omega) only [upA, upJ, upR, vu_n]); exact pNo v h0
  · intro v h0; (try simp (disch := omega) only [upA, upJ, upR, vu_n] at h0); (try simp (disch := omega) only [upA, upJ, upR, vu_n]); exact pX v h0
  · intro v h0; (try simp (disch := omega) only [upA, upJ, upR, vu_n] at h0); (try simp (disch := omega) only [upA, upJ, upR, vu_n]); exact pY v h0
  · intro v h0; (try simp (disch := omega) only [upA, upJ, upR, vu_n] at h0); (try simp (disch := omega) only [upA, upJ, upR, vu_n]); exact pWe v h0
  · intro v h0; (try simp (disch := omega) only [upA, upJ, upR, vu_n] at h0); (try simp (disch := omega) only [upA, upJ, upR, vu_n]); exact pSa v h0
  · intro v h0; (try simp (disch := omega) only [upA, upJ, upR, vu_n] at h0); (try simp (disch := omega) only [upA, upJ, upR, vu_n]); exact pKi v h0
  · intro v h0; (try simp (disch := omega) only [upA, upJ, upR, vu_n] at h0); (try simp (disch := omega) only [upA, upJ, upR, vu_n]); exact pAn v h0
  · intro v h0; (try simp (disch := omega) only [upA, upJ, upR, vu_n] at h0); (try simp (disch := omega) only [upA, upJ, upR, vu_n]); exact pDg v h0
  · intro v h0; (try simp (disch := omega) only [upA, upJ, upR, vu_n] at h0); (try simp (disch := omega) only [upA, upJ, upR, vu_n]); exact pTh v h0
  · intro v h0; (try simp (disch := omega) only [upA, upJ, upR, vu_n] at h0); (try simp (disch := omega) only [upA, upJ, upR, vu_n]); exact pDr v h0
  · intro v h0; (try simp (disch := omega) only [upA, upJ, upR, vu_n] at h0); (try simp (disch := omega) only [upA, upJ, upR, vu_n]); exact pSp v h0
  · intro v h0; (try simp (disch := omega) only [upA, upJ, upR, vu_n] at h0); (try simp (disch := omega) only [upA, upJ, upR, vu_n]); exact pSk v h0
  · intro v h0 h1; (try simp (disch := omega) only [upA, upJ, upR, vu_n] at h0 h1); (try simp (disch := omega) only [upA, upJ, upR, vu_n]); exact pS0 v h0 h1
  · intro v h0 h1; (try simp (disch := omega) only [upA, upJ, upR, vu_n] at h0 h1); (try simp (disch := omega) only [upA, upJ, upR, vu_n]); exact pSx v h0 h1
  · intro v h0 h1; (try simp (disch := omega) only [upA, upJ, upR, vu_n] at h0 h1); (try simp (disch := omega) only [upA, upJ, upR, vu_n]); exact pSy v h0 h1
  · intro v h0 h1; (try simp (disch := omega) only [upA, upJ, upR, vu_n] at h0 h1); (try simp (disch := omega) only [upA, upJ, upR, vu_n]); exact pSt v h0 h1
  · intro v h0; (try simp (disch := omega) only [upA, upJ, upR, vu_n] at h0); (try simp (disch := omega) only [upA, upJ, upR, vu_n]); exact pRa v h0
  · intro v h0; (try simp (disch := omega) only [upA, upJ, upR, vu_n] at h0); (try simp (disch := omega) only [upA, upJ, upR, vu_n]); exact pRb v h0
  · intro v h0; (try simp (disch := omega) only [upA, upJ, upR, vu_n] at h0); (try simp (disch := omega) only [upA, upJ, upR, vu_n]); exact pRl v h0
  · intro v h0; (try simp (disch := omega) only [upA, upJ, upR, vu_n] at h0); (try simp (disch := omega) only [upA, upJ, upR, vu_n]); exact pRt v h0
  · intro u v h0 h1; (try simp (disch := omega) only [upA, upJ, upR, vu_n] at h0 h1); (try simp (disch := omega) only [upA, upJ, upR, vu_n]); exact pMe u v h0 h1
  · intro v h0; (try simp (disch := omega) only [upA, upJ, upR, vu_n] at h0); (try simp (disch := omega) only [upA, upJ, upR, vu_n]); exact pBa v h0
  · intro v h0; (try simp (disch := omega) only [upA, upJ, upR, vu_n] at h0); (try simp (disch := omega) only [upA, upJ, upR, vu_n]); exact pBt v h0
theorem rg_H {N : Nat → Nat → Nat} (h : RG I N Z)  : RG (am_up I 9 1 (nI q)) (am_up N 0 1 q) Z := by
  obtain ⟨pW, pH, pT, pS, pL, pV, pR, pCr, pWl, pWy, pFo, pSh, pNo, pX, pY, pWe, pSa, pKi, pAn, pDg, pTh, pDr, pSp, pSk, pS0, pSx, pSy, pSt, pRa, pRb, pRl, pRt, pMe, pBa, pBt⟩ := h
  refine ⟨?_, ?_, ?_, ?_, ?_, ?_, ?_, ?_, ?_, ?_, ?_, ?_, ?_, ?_, ?_, ?_, ?_, ?_, ?_, ?_, ?_, ?_, ?_, ?_, ?_, ?_, ?_, ?_, ?_, ?_, ?_, ?_, ?_, ?_, ?_⟩
  · (try simp (disch := omega) only [upA, upJ, upR, vu_n]); exact pW
  · simp only [upS, vu_s]
  · (try simp (disch := omega) only [upA, upJ, upR, vu_n]); exact pT
  · (try simp (disch := omega) only [upA, upJ, upR, vu_n]); exact pS
  · (try simp (disch := omega) only [upA, upJ, upR, vu_n]); exact pL
  · (try simp (disch := omega) only [upA, upJ, upR, vu_n]); exact pV
  · (try simp (disch := omega) only [upA, upJ, upR, vu_n]); exact pR
  · intro v h0; (try simp (disch := omega) only [upA, upJ, upR, vu_n] at h0); (try simp (disch := omega) only [upA, upJ, upR, vu_n]); exact pCr v h0
  · intro v h0; (try simp (disch := omega) only [upA, upJ, upR, vu_n] at h0); (try simp (disch := omega) only [upA, upJ, upR, vu_n]); exact pWl v h0
  · intro v h0; (try simp (disch := omega) only [upA, upJ, upR, vu_n] at h0); (try simp (disch := omega) only [upA, upJ, upR, vu_n]); exact pWy v h0
  · intro v h0; (try simp (disch := omega) only [upA, upJ, upR, vu_n] at h0); (try simp (disch := omega) only [upA, upJ, upR, vu_n]); exact pFo v h0
  · intro v h0; (try simp (disch := omega) only [upA, upJ, upR, vu_n] at h0); (try simp (disch := omega) only [upA, upJ, upR, vu_n]); exact pSh v h0
  · intro v h0; (try simp (disch := omega) only [upA, upJ, upR, vu_n] at h0); (try simp (disch := omega) only [upA, upJ, upR, vu_n]); exact pNo v h0
  · intro v h0; (try simp (disch := omega) only [upA, upJ, upR, vu_n] at h0); (try simp (disch := omega) only [upA, upJ, upR, vu_n]); exact pX v h0
  · intro v h0; (try simp (disch := omega) only [upA, upJ, upR, vu_n] at h0); (try simp (disch := omega) only [upA, upJ, upR, vu_n]); exact pY v h0
  · intro v h0; (try simp (disch := omega) only [upA, upJ, upR, vu_n] at h0); (try simp (disch := omega) only [upA, upJ, upR, vu_n]); exact pWe v h0
  · intro v h0; (try simp (disch := omega) only [upA, upJ, upR, vu_n] at h0); (try simp (disch := omega) only [upA, upJ, upR, vu_n]); exact pSa v h0
  · intro v h0; (try simp (disch := omega) only [upA, upJ, upR, vu_n] at h0); (try simp (disch := omega) only [upA, upJ, upR, vu_n]); exact pKi v h0
  · intro v h0; (try simp (disch := omega) only [upA, upJ, upR, vu_n] at h0); (try simp (disch := omega) only [upA, upJ, upR, vu_n]); exact pAn v h0
  · intro v h0; (try simp (disch := omega) only [upA, upJ, upR, vu_n] at h0); (try simp (disch := omega) only [upA, upJ, upR, vu_n]); exact pDg v h0
  · intro v h0; (try simp (disch := omega) only [upA, upJ, upR, vu_n] at h0); (try simp (disch := omega) only [upA, upJ, upR, vu_n]); exact pTh v h0
  · intro v h0; (try simp (disch := omega) only [upA, upJ, upR, vu_n] at h0); (try simp (disch := omega) only [upA, upJ, upR, vu_n]); exact pDr v h0
  · intro v h0; (try simp (disch := omega) only [upA, upJ, upR, vu_n] at h0); (try simp (disch := omega) only [upA, upJ, upR, vu_n]); exact pSp v h0
  · intro v h0; (try simp (disch := omega) only [upA, upJ, upR, vu_n] at h0); (try simp (disch := omega) only [upA, upJ, upR, vu_n]); exact pSk v h0
  · intro v h0 h1; (try simp (disch := omega) only [upA, upJ, upR, vu_n] at h0 h1); (try simp (disch := omega) only [upA, upJ, upR, vu_n]); exact pS0 v h0 h1
  · intro v h0 h1; (try simp (disch := omega) only [upA, upJ, upR, vu_n] at h0 h1); (try simp (disch := omega) only [upA, upJ, upR, vu_n]); exact pSx v h0 h1
  · intro v h0 h1; (try simp (disch := omega) only [upA, upJ, upR, vu_n] at h0 h1); (try simp (disch := omega) only [upA, upJ, upR, vu_n]); exact pSy v h0 h1
  · intro v h0 h1; (try simp (disch := omega) only [upA, upJ, upR, vu_n] at h0 h1); (try simp (disch := omega) only [upA, upJ, upR, vu_n]); exact pSt v h0 h1
  · intro v h0; (try simp (disch := omega) only [upA, upJ, upR, vu_n] at h0); (try simp (disch := omega) only [upA, upJ, upR, vu_n]); exact pRa v h0
  · intro v h0; (try simp (disch := omega) only [upA, upJ, upR, vu_n] at h0); (try simp (disch := omega) only [upA, upJ, upR, vu_n]); exact pRb v h0
  · intro v h0; (try simp (disch := omega) only [upA, upJ, upR, vu_n] at h0); (try simp (disch := omega) only [upA, upJ, upR, vu_n]); exact pRl v h0
  · intro v h0; (try simp (disch := omega) only [upA, upJ, upR, vu_n] at h0); (try simp (disch := omega) only [upA, upJ, upR, vu_n]); exact pRt v h0
  · intro u v h0 h1; (try simp (disch := omega) only [upA, upJ, upR, vu_n] at h0 h1); (try simp (disch := omega) only [upA, upJ, upR, vu_n]); exact pMe u v h0 h1
  · intro v h0; (try simp (disch := omega) only [upA, upJ, upR, vu_n] at h0); (try simp (disch := omega) only [upA, upJ, upR, vu_n]); exact pBa v h0
  · intro v h0; (try simp (disch := omega) only [upA, upJ, upR, vu_n] at h0); (try simp (disch := omega) only [upA, upJ, upR, vu_n]); exact pBt v h0
theorem rg_T {N : Nat → Nat → Nat} (h : RG I N Z)  : RG (am_up I 9 2 (nI q)) (am_up N 0 2 q) Z := by
  obtain ⟨pW, pH, pT, pS, pL, pV, pR, pCr, pWl, pWy, pFo, pSh, pNo, pX, pY, pWe, pSa, pKi, pAn, pDg, pTh, pDr, pSp, pSk, pS0, pSx, pSy, pSt, pRa, pRb, pRl, pRt, pMe, pBa, pBt⟩ := h
  refine ⟨?_, ?_, ?_, ?_, ?_, ?_, ?_, ?_, ?_, ?_, ?_, ?_, ?_, ?_, ?_, ?_, ?_, ?_, ?_, ?_, ?_, ?_, ?_, ?_, ?_, ?_, ?_, ?_, ?_, ?_, ?_, ?_, ?_, ?_, ?_⟩
  · (try simp (disch := omega) only [upA, upJ, upR, vu_n]); exact pW
  · (try simp (disch := omega) only [upA, upJ, upR, vu_n]); exact pH
  · simp only [upS, vu_s]
  · (try simp (disch := omega) only [upA, upJ, upR, vu_n]); exact pS
  · (try simp (disch := omega) only [upA, upJ, upR, vu_n]); exact pL
  · (try simp (disch := omega) only [upA, upJ, upR, vu_n]); exact pV
  · (try simp (disch := omega) only [upA, upJ, upR, vu_n]); exact pR
  · intro v h0; (try simp (disch := omega) only [upA, upJ, upR, vu_n] at h0); (try simp (disch := omega) only [upA, upJ, upR, vu_n]); exact pCr v h0
  · intro v h0; (try simp (disch := omega) only [upA, upJ, upR, vu_n] at h0); (try simp (disch := omega) only [upA, upJ, upR, vu_n]); exact pWl v h0
  · intro v h0; (try simp (disch := omega) only [upA, upJ, upR, vu_n] at h0); (try simp (disch := omega) only [upA, upJ, upR, vu_n]); exact pWy v h0
  · intro v h0; (try simp (disch := omega) only [upA, upJ, upR, vu_n] at h0); (try simp (disch := omega) only [upA, upJ, upR, vu_n]); exact pFo v h0
  · intro v h0; (try simp (disch := omega) only [upA, upJ, upR, vu_n] at h0); (try simp (disch := omega) only [upA, upJ, upR, vu_n]); exact pSh v h0
  · intro v h0; (try simp (disch := omega) only [upA, upJ, upR, vu_n] at h0); (try simp (disch := omega) only [upA, upJ, upR, vu_n]); exact pNo v h0
  · intro v h0; (try simp (disch := omega) only [upA, upJ, upR, vu_n] at h0); (try simp (disch := omega) only [upA, upJ, upR, vu_n]); exact pX v h0
  · intro v h0; (try simp (disch := omega) only [upA, upJ, upR, vu_n] at h0); (try simp (disch := omega) only [upA, upJ, upR, vu_n]); exact pY v h0
  · intro v h0; (try simp (disch := omega) only [upA, upJ, upR, vu_n] at h0); (try simp (disch := omega) only [upA, upJ, upR, vu_n]); exact pWe v h0
  · intro v h0; (try simp (disch := omega) only [upA, upJ, upR, vu_n] at h0); (try simp (disch := omega) only [upA, upJ, upR, vu_n]); exact pSa v h0
  · intro v h0; (try simp (disch := omega) only [upA, upJ, upR, vu_n] at h0); (try simp (disch := omega) only [upA, upJ, upR, vu_n]); exact pKi v h0
  · intro v h0; (try simp (disch := omega) only [upA, upJ, upR, vu_n] at h0); (try simp (disch := omega) only [upA, upJ, upR, vu_n]); exact pAn v h0
  · intro v h0; (try simp (disch := omega) only [upA, upJ, upR, vu_n] at h0); (try simp (disch := omega) only [upA, upJ, upR, vu_n]); exact pDg v h0
  · intro v h0; (try simp (disch := omega) only [upA, upJ, upR, vu_n] at h0); (try simp (disch := omega) only [upA, upJ, upR, vu_n]); exact pTh v h0
  · intro v h0; (try simp (disch := omega) only [upA, upJ, upR, vu_n] at h0); (try simp (disch := omega) only [upA, upJ, upR, vu_n]); exact pDr v h0
  · intro v h0; (try simp (disch := omega) only [upA, upJ, upR, vu_n] at h0); (try simp (disch := omega) only [upA, upJ, upR, vu_n]); exact pSp v h0
  · intro v h0; (try simp (disch := omega) only [upA, upJ, upR, vu_n] at h0); (try simp (disch := omega) only [upA, upJ, upR, vu_n]); exact pSk v h0
  · intro v h0 h1; (try simp (disch := omega) only [upA, upJ, upR, vu_n] at h0 h1); (try simp (disch := omega) only [upA, upJ, upR, vu_n]); exact pS0 v h0 h1
  · intro v h0 h1; (try simp (disch := omega) only [upA, upJ, upR, vu_n] at h0 h1); (try simp (disch := omega) only [upA, upJ, upR, vu_n]); exact pSx v h0 h1
  · intro v h0 h1; (try simp (disch := omega) only [upA, upJ, upR, vu_n] at h0 h1); (try simp (disch := omega) only [upA, upJ, upR, vu_n]); exact pSy v h0 h1
  · intro v h0 h1; (try simp (disch := omega) only [upA, upJ, upR, vu_n] at h0 h1); (try simp (disch := omega) only [upA, upJ, upR, vu_n]); exact pSt v h0 h1
  · intro v h0; (try simp (disch := omega) only [upA, upJ, upR, vu_n] at h0); (try simp (disch := omega) only [upA, upJ, upR, vu_n]); exact pRa v h0
  · intro v h0; (try simp (disch := omega) only [upA, upJ, upR, vu_n] at h0); (try simp (disch := omega) only [upA, upJ, upR, vu_n]); exact pRb v h0
  · intro v h0; (try simp (disch := omega) only [upA, upJ, upR, vu_n] at h0); (try simp (disch := omega) only [upA, upJ, upR, vu_n]); exact pRl v h0
  · intro v h0; (try simp (disch := omega) only [upA, upJ, upR, vu_n] at h0); (try simp (disch := omega) only [upA, upJ, upR, vu_n]); exact pRt v h0
  · intro u v h0 h1; (try simp (disch := omega) only [upA, upJ, upR, vu_n] at h0 h1); (try simp (disch := omega) only [upA, upJ, upR, vu_n]); exact pMe u v h0 h1
  · intro v h0; (try simp (disch := omega) only [upA, upJ, upR, vu_n] at h0); (try simp (disch := omega) only [upA, upJ, upR, vu_n]); exact pBa v h0
  · intro v h0; (try simp (disch := omega) only [upA, upJ, upR, vu_n] at h0); (try simp (disch := omega) only [upA, upJ, upR, vu_n]); exact pBt v h0
theorem rg_S {N : Nat → Nat → Nat} (h : RG I N Z)  : RG (am_up I 9 3 (b)) N (am_up Z 0 0 b) := by
  obtain ⟨pW, pH, pT, pS, pL, pV, pR, pCr, pWl, pWy, pFo, pSh, pNo, pX, pY, pWe, pSa, pKi, pAn, pDg, pTh, pDr, pSp, pSk, pS0, pSx, pSy, pSt, pRa, pRb, pRl, pRt, pMe, pBa, pBt⟩ := h
  refine ⟨?_, ?_, ?_, ?_, ?_, ?_, ?_, ?_, ?_, ?_, ?_, ?_, ?_, ?_, ?_, ?_, ?_, ?_, ?_, ?_, ?_, ?_, ?_, ?_, ?_, ?_, ?_, ?_, ?_, ?_, ?_, ?_, ?_, ?_, ?_⟩
  · (try simp (disch := omega) only [upA, upJ, upR, vu_n]); exact pW
  · (try simp (disch := omega) only [upA, upJ, upR, vu_n]); exact pH
  · (try simp (disch := omega) only [upA, upJ, upR, vu_n]); exact pT
  · simp only [upS, vu_s]
  · (try simp (disch := omega) only [upA, upJ, upR, vu_n]); exact pL
  · (try simp (disch := omega) only [upA, upJ, upR, vu_n]); exact pV
  · (try simp (disch := omega) only [upA, upJ, upR, vu_n]); exact pR
  · intro v h0; (try simp (disch := omega) only [upA, upJ, upR, vu_n] at h0); (try simp (disch := omega) only [upA, upJ, upR, vu_n]); exact pCr v h0
  · intro v h0; (try simp (disch := omega) only [upA, upJ, upR, vu_n] at h0); (try simp (disch := omega) only [upA, upJ, upR, vu_n]); exact pWl v h0
  · intro v h0; (try simp (disch := omega) only [upA, upJ, upR, vu_n] at h0); (try simp (disch := omega) only [upA, upJ, upR, vu_n]); exact pWy v h0
  · intro v h0; (try simp (disch := omega) only [upA, upJ, upR, vu_n] at h0); (try simp (disch := omega) only [upA, upJ, upR, vu_n]); exact pFo v h0
  · intro v h0; (try simp (disch := omega) only [upA, upJ, upR, vu_n] at h0); (try simp (disch := omega) only [upA, upJ, upR, vu_n]); exact pSh v h0
  · intro v h0; (try simp (disch := omega) only [upA, upJ, upR, vu_n] at h0); (try simp (disch := omega) only [upA, upJ, upR, vu_n]); exact pNo v h0
  · intro v h0; (try simp (disch := omega) only [upA, upJ, upR, vu_n] at h0); (try simp (disch := omega) only [upA, upJ, upR, vu_n]); exact pX v h0
  · intro v h0; (try simp (disch := omega) only [upA, upJ, upR, vu_n] at h0); (try simp (disch := omega) only [upA, upJ, upR, vu_n]); exact pY v h0
  · intro v h0; (try simp (disch := omega) only [upA, upJ, upR, vu_n] at h0); (try simp (disch := omega) only [upA, upJ, upR, vu_n]); exact pWe v h0
  · intro v h0; (try simp (disch := omega) only [upA, upJ, upR, vu_n] at h0); (try simp (disch := omega) only [upA, upJ, upR, vu_n]); exact pSa v h0
  · intro v h0; (try simp (disch := omega) only [upA, upJ, upR, vu_n] at h0); (try simp (disch := omega) only [upA, upJ, upR, vu_n]); exact pKi v h0
  · intro v h0; (try simp (disch := omega) only [upA, upJ, upR, vu_n] at h0); (try simp (disch := omega) only [upA, upJ, upR, vu_n]); exact pAn v h0
  · intro v h0; (try simp (disch := omega) only [upA, upJ, upR, vu_n] at h0); (try simp (disch := omega) only [upA, upJ, upR, vu_n]); exact pDg v h0
  · intro v h0; (try simp (disch := omega) only [upA, upJ, upR, vu_n] at h0); (try simp (disch := omega) only [upA, upJ, upR, vu_n]); exact pTh v h0
  · intro v h0; (try simp (disch := omega) only [upA, upJ, upR, vu_n] at h0); (try simp (disch := omega) only [upA, upJ, upR, vu_n]); exact pDr v h0
  · intro v h0; (try simp (disch := omega) only [upA, upJ, upR, vu_n] at h0); (try simp (disch := omega) only [upA, upJ, upR, vu_n]); exact pSp v h0
  · intro v h0; (try simp (disch := omega) only [upA, upJ, upR, vu_n] at h0); (try simp (disch := omega) only [upA, upJ, upR, vu_n]); exact pSk v h0
  · intro v h0 h1; (try simp (disch := omega) only [upA, upJ, upR, vu_n] at h0 h1); (try simp (disch := omega) only [upA, upJ, upR, vu_n]); exact pS0 v h0 h1
  · intro v h0 h1; (try simp (disch := omega) only [upA, upJ, upR, vu_n] at h0 h1); (try simp (disch := omega) only [upA, upJ, upR, vu_n]); exact pSx v h0 h1
  · intro v h0 h1; (try simp (disch := omega) only [upA, upJ, upR, vu_n] at h0 h1); (try simp (disch := omega) only [upA, upJ, upR, vu_n]); exact pSy v h0 h1
  · intro v h0 h1; (try simp (disch := omega) only [upA, upJ, upR, vu_n] at h0 h1); (try simp (disch := omega) only [upA, upJ, upR, vu_n]); exact pSt v h0 h1
  · intro v h0; (try simp (disch := omega) only [upA, upJ, upR, vu_n] at h0); (try simp (disch := omega) only [upA, upJ, upR, vu_n]); exact pRa v h0
  · intro v h0; (try simp (disch := omega) only [upA, upJ, upR, vu_n] at h0); (try simp (disch := omega) only [upA, upJ, upR, vu_n]); exact pRb v h0
  · intro v h0; (try simp (disch := omega) only [upA, upJ, upR, vu_n] at h0); (try simp (disch := omega) only [upA, upJ, upR, vu_n]); exact pRl v h0
  · intro v h0; (try simp (disch := omega) only [upA, upJ, upR, vu_n] at h0); (try simp (disch := omega) only [upA, upJ, upR, vu_n]); exact pRt v h0
  · intro u v h0 h1; (try simp (disch := omega) only [upA, upJ, upR, vu_n] at h0 h1); (try simp (disch := omega) only [upA, upJ, upR, vu_n]); exact pMe u v h0 h1
  · intro v h0; (try simp (disch := omega) only [upA, upJ, upR, vu_n] at h0); (try simp (disch := omega) only [upA, upJ, upR, vu_n]); exact pBa v h0
  · intro v h0; (try simp (disch := omega) only [upA, upJ, upR, vu_n] at h0); (try simp (disch := omega) only [upA, upJ, upR, vu_n]); exact pBt v h0
theorem rg_L {N : Nat → Nat → Nat} (h : RG I N Z)  : RG (am_up I 9 4 (nI q)) (am_up N 0 3 q) Z := by
  obtain ⟨pW, pH, pT, pS, pL, pV, pR, pCr, pWl, pWy, pFo, pSh, pNo, pX, pY, pWe, pSa, pKi, pAn, pDg, pTh, pDr, pSp, pSk, pS0, pSx, pSy, pSt, pRa, pRb, pRl, pRt, pMe, pBa, pBt⟩ := h
  refine ⟨?_, ?_, ?_, ?_, ?_, ?_, ?_, ?_, ?_, ?_, ?_, ?_, ?_, ?_, ?_, ?_, ?_, ?_, ?_, ?_, ?_, ?_, ?_, ?_, ?_, ?_, ?_, ?_, ?_, ?_, ?_, ?_, ?_, ?_, ?_⟩
  · (try simp (disch := omega) only [upA, upJ, upR, vu_n]); exact pW
  · (try simp (disch := omega) only [upA, upJ, upR, vu_n]); exact pH
  · (try simp (disch := omega) only [upA, upJ, upR, vu_n]); exact pT
  · (try simp (disch := omega) only [upA, upJ, upR, vu_n]); exact pS
  · simp only [upS, vu_s]
  · (try simp (disch := omega) only [upA, upJ, upR, vu_n]); exact pV
  · (try simp (disch := omega) only [upA, upJ, upR, vu_n]); exact pR
  · intro v h0; (try simp (disch := omega) only [upA, upJ, upR, vu_n] at h0); (try simp (disch := omega) only [upA, upJ, upR, vu_n]); exact pCr v h0
  · intro v h0; (try simp (disch := omega) only [upA, upJ, upR, vu_n] at h0); (try simp (disch := omega) only [upA, upJ, upR, vu_n]); exact pWl v h0
  · intro v h0; (try simp (disch := omega) only [upA, upJ, upR, vu_n] at h0); (try simp (disch := omega) only [upA, upJ, upR, vu_n]); exact pWy v h0
  · intro v h0; (try simp (disch := omega) only [upA, upJ, upR, vu_n] at h0); (try simp (disch := omega) only [upA, upJ, upR, vu_n]); exact pFo v h0
  · intro v h0; (try simp (disch := omega) only [upA, upJ, upR, vu_n] at h0); (try simp (disch := omega) only [upA, upJ, upR, vu_n]); exact pSh v h0
  · intro v h0; (try simp (disch := omega) only [upA, upJ, upR, vu_n] at h0); (try simp (disch := omega) only [upA, upJ, upR, vu_n]); exact pNo v h0
  · intro v h0; (try simp (disch := omega) only [upA, upJ, upR, vu_n] at h0); (try simp (disch := omega) only [upA, upJ, upR, vu_n]); exact pX v h0
  · intro v h0; (try simp (disch := omega) only [upA, upJ, upR, vu_n] at h0); (try simp (disch := omega) only [upA, upJ, upR, vu_n]); exact pY v h0
  · intro v h0; (try simp (disch := omega) only [upA, upJ, upR, vu_n] at h0); (try simp (disch := omega) only [upA, upJ, upR, vu_n]); exact pWe v h0
  · intro v h0; (try simp (disch := omega) only [upA, upJ, upR, vu_n] at h0); (try simp (disch := omega) only [upA, upJ, upR, vu_n]); exact pSa v h0
  · intro v h0; (try simp (disch := omega) only [upA, upJ, upR, vu_n] at h0); (try simp (disch := omega) only [upA, upJ, upR, vu_n]); exact pKi v h0
  · intro v h0; (try simp (disch := omega) only [upA, upJ, upR, vu_n] at h0); (try simp (disch := omega) only [upA, upJ, upR, vu_n]); exact pAn v h0
  · intro v h0; (try simp (disch := omega) only [upA, upJ, upR, vu_n] at h0); (try simp (disch := omega) only [upA, upJ, upR, vu_n]); exact pDg v h0
  · intro v h0; (try simp (disch := omega) only [upA, upJ, upR, vu_n] at h0); (try simp (disch := omega) only [upA, upJ, upR, vu_n]); exact pTh v h0
  · intro v h0; (try simp (disch := omega) only [upA, upJ, upR, vu_n] at h0); (try simp (disch := omega) only [upA, upJ, upR, vu_n]); exact pDr v h0
  · intro v h0; (try simp (disch := omega) only [upA, upJ, upR, vu_n] at h0); (try simp (disch := omega) only [upA, upJ, upR, vu_n]); exact pSp v h0
  · intro v h0; (try simp (disch := omega) only [upA, upJ, upR, vu_n] at h0); (try simp (disch := omega) only [upA, upJ, upR, vu_n]); exact pSk v h0
  · intro v h0 h1; (try simp (disch := omega) only [upA, upJ, upR, vu_n] at h0 h1); (try simp (disch := omega) only [upA, upJ, upR, vu_n]); exact pS0 v h0 h1
  · intro v h0 h1; (try simp (disch := omega) only [upA, upJ, upR, vu_n] at h0 h1); (try simp (disch := omega) only [upA, upJ, upR, vu_n]); exact pSx v h0 h1
  · intro v h0 h1; (try simp (disch := omega) only [upA, upJ, upR, vu_n] at h0 h1); (try simp (disch := omega) only [upA, upJ, upR, vu_n]); exact pSy v h0 h1
  · intro v h0 h1; (try simp (disch := omega) only [upA, upJ, upR, vu_n] at h0 h1); (try simp (disch := omega) only [upA, upJ, upR, vu_n]); exact pSt v h0 h1
  · intro v h0; (try simp (disch := omega) only [upA, upJ, upR, vu_n] at h0); (try simp (disch := omega) only [upA, upJ, upR, vu_n]); exact pRa v h0
  · intro v h0; (try simp (disch := omega) only [upA, upJ, upR, vu_n] at h0); (try simp (disch := omega) only [upA, upJ, upR, vu_n]); exact pRb v h0
  · intro v h0; (try simp (disch := omega) only [upA, upJ, upR, vu_n] at h0); (try simp (disch := omega) only [upA, upJ, upR, vu_n]); exact pRl v h0
  · intro v h0; (try simp (disch := omega) only [upA, upJ, upR, vu_n] at h0); (try simp (disch := omega) only [upA, upJ, upR, vu_n]); exact pRt v h0
  · intro u v h0 h1; (try simp (disch := omega) only [upA, upJ, upR, vu_n] at h0 h1); (try simp (disch := omega) only [upA, upJ, upR, vu_n]); exact pMe u v h0 h1
  · intro v h0; (try simp (disch := omega) only [upA, upJ, upR, vu_n] at h0); (try simp (disch := omega) only [upA, upJ, upR, vu_n]); exact pBa v h0
  · intro v h0; (try simp (disch := omega) only [upA, upJ, upR, vu_n] at h0); (try simp (disch := omega) only [upA, upJ, upR, vu_n]); exact pBt v h0
theorem rg_Cr {N : Nat → Nat → Nat} (h : RG I N Z) (hi : i < 144) : RG (am_up I 10 i (nI q)) (am_up N 7 i q) Z := by
  obtain ⟨pW, pH, pT, pS, pL, pV, pR, pCr, pWl, pWy, pFo, pSh, pNo, pX, pY, pWe, pSa, pKi, pAn, pDg, pTh, pDr, pSp, pSk, pS0, pSx, pSy, pSt, pRa, pRb, pRl, pRt, pMe, pBa, pBt⟩ := h
  refine ⟨?_, ?_, ?_, ?_, ?_, ?_, ?_, ?_, ?_, ?_, ?_, ?_, ?_, ?_, ?_, ?_, ?_, ?_, ?_, ?_, ?_, ?_, ?_, ?_, ?_, ?_, ?_, ?_, ?_, ?_, ?_, ?_, ?_, ?_, ?_⟩
  · (try simp (disch := omega) only [upA, upJ, upR, vu_n]); exact pW
  · (try simp (disch := omega) only [upA, upJ, upR, vu_n]); exact pH
  · (try simp (disch := omega) only [upA, upJ, upR, vu_n]); exact pT
  · (try simp (disch := omega) only [upA, upJ, upR, vu_n]); exact pS
  · (try simp (disch := omega) only [upA, upJ, upR, vu_n]); exact pL
  · (try simp (disch := omega) only [upA, upJ, upR, vu_n]); exact pV
  · (try simp (disch := omega) only [upA, upJ, upR, vu_n]); exact pR
  · intro v h0; by_cases e : v = i
    · subst e; simp only [upS, vu_s]
    · (try simp (disch := omega) only [upA, upJ, upR, vu_n] at h0); (try simp (disch := omega) only [upA, upJ, upR, vu_n]); exact pCr v h0
  · intro v h0; (try simp (disch := omega) only [upA, upJ, upR, vu_n] at h0); (try simp (disch := omega) only [upA, upJ, upR, vu_n]); exact pWl v h0
  · intro v h0; (try simp (disch := omega) only [upA, upJ, upR, vu_n] at h0); (try simp (disch := omega) only [upA, upJ, upR, vu_n]); exact pWy v h0
  · intro v h0; (try simp (disch := omega) only [upA, upJ, upR, vu_n] at h0); (try simp (disch := omega) only [upA, upJ, upR, vu_n]); exact pFo v h0
  · intro v h0; (try simp (disch := omega) only [upA, upJ, upR, vu_n] at h0); (try simp (disch := omega) only [upA, upJ, upR, vu_n]); exact pSh v h0
  · intro v h0; (try simp (disch := omega) only [upA, upJ, upR, vu_n] at h0); (try simp (disch := omega) only [upA, upJ, upR, vu_n]); exact pNo v h0
  · intro v h0; (try simp (disch := omega) only [upA, upJ, upR, vu_n] at h0); (try simp (disch := omega) only [upA, upJ, upR, vu_n]); exact pX v h0
  · intro v h0; (try simp (disch := omega) only [upA, upJ, upR, vu_n] at h0); (try simp (disch := omega) only [upA, upJ, upR, vu_n]); exact pY v h0
  · intro v h0; (try simp (disch := omega) only [upA, upJ, upR, vu_n] at h0); (try simp (disch := omega) only [upA, upJ, upR, vu_n]); exact pWe v h0
  · intro v h0; (try simp (disch := omega) only [upA, upJ, upR, vu_n] at h0); (try simp (disch := omega) only [upA, upJ, upR, vu_n]); exact pSa v h0
  · intro v h0; (try simp (disch := omega) only [upA, upJ, upR, vu_n] at h0); (try simp (disch := omega) only [upA, upJ, upR, vu_n]); exact pKi v h0
  · intro v h0; (try simp (disch := omega) only [upA, upJ, upR, vu_n] at h0); (try simp (disch := omega) only [upA, upJ, upR, vu_n]); exact pAn v h0
  · intro v h0; (try simp (disch := omega) only [upA, upJ, upR, vu_n] at h0); (try simp (disch := omega) only [upA, upJ, upR, vu_n]); exact pDg v h0
  · intro v h0; (try simp (disch := omega) only [upA, upJ, upR, vu_n] at h0); (try simp (disch := omega) only [upA, upJ, upR, vu_n]); exact pTh v h0
  · intro v h0; (try simp (disch := omega) only [upA, upJ, upR, vu_n] at h0); (try simp (disch := omega) only [upA, upJ, upR, vu_n]); exact pDr v h0
  · intro v h0; (try simp (disch := omega) only [upA, upJ, upR, vu_n] at h0); (try simp (disch := omega) only [upA, upJ, upR, vu_n]); exact pSp v h0
  · intro v h0; (try simp (disch := omega) only [upA, upJ, upR, vu_n] at h0); (try simp (disch := omega) only [upA, upJ, upR, vu_n]); exact pSk v h0
  · intro v h0 h1; (try simp (disch := omega) only [upA, upJ, upR, vu_n] at h0 h1); (try simp (disch := omega) only [upA, upJ, upR, vu_n]); exact pS0 v h0 h1
  · intro v h0 h1; (try simp (disch := omega) only [upA, upJ, upR, vu_n] at h0 h1); (try simp (disch := omega) only [upA, upJ, upR, vu_n]); exact pSx v h0 h1
  · intro v h0 h1; (try simp (disch := omega) only [upA, upJ, upR, vu_n] at h0 h1); (try simp (disch := omega) only [upA, upJ, upR, vu_n]); exact pSy v h0 h1
  · intro v h0 h1; (try simp (disch := omega) only [upA, upJ, upR, vu_n] at h0 h1); (try simp (disch := omega) only [upA, upJ, upR, vu_n]); exact pSt v h0 h1
  · intro v h0; (try simp (disch := omega) only [upA, upJ, upR, vu_n] at h0); (try simp (disch := omega) only [upA, upJ, upR, vu_n]); exact pRa v h0
  · intro v h0; (try simp (disch := omega) only [upA, upJ, upR, vu_n] at h0); (try simp (disch := omega) only [upA, upJ, upR, vu_n]); exact pRb v h0
  · intro v h0; (try simp (disch := omega) only [upA, upJ, upR, vu_n] at h0); (try simp (disch := omega) only [upA, upJ, upR, vu_n]); exact pRl v h0
  · intro v h0; (try simp (disch := omega) only [upA, upJ, upR, vu_n] at h0); (try simp (disch := omega) only [upA, upJ, upR, vu_n]); exact pRt v h0
  · intro u v h0 h1; (try simp (disch := omega) only [upA, upJ, upR, vu_n] at h0 h1); (try simp (disch := omega) only [upA, upJ, upR, vu_n]); exact pMe u v h0 h1
  · intro v h0; (try simp (disch := omega) only [upA, upJ, upR, vu_n] at h0); (try simp (disch := omega) only [upA, upJ, upR, vu_n]); exact pBa v h0
  · intro v h0; (try simp (disch := omega) only [upA, upJ, upR, vu_n] at h0); (try simp (disch := omega) only [upA, upJ, upR, vu_n]); exact pBt v h0
theorem rg_Wl {N : Nat → Nat → Nat} (h : RG I N Z) (hi : i < 144) : RG (am_up I 11 i (nI q)) (am_up N 8 i q) Z := by
  obtain ⟨pW, pH, pT, pS, pL, pV, pR, pCr, pWl, pWy, pFo, pSh, pNo, pX, pY, pWe, pSa, pKi, pAn, pDg, pTh, pDr, pSp, pSk, pS0, pSx, pSy, pSt, pRa, pRb, pRl, pRt, pMe, pBa, pBt⟩ := h
  refine ⟨?_, ?_, ?_, ?_, ?_, ?_, ?_, ?_, ?_, ?_, ?_, ?_, ?_, ?_, ?_, ?_, ?_, ?_, ?_, ?_, ?_, ?_, ?_, ?_, ?_, ?_, ?_, ?_, ?_, ?_, ?_, ?_, ?_, ?_, ?_⟩
  · (try simp (disch := omega) only [upA, upJ, upR, vu_n]); exact pW
  · (try simp (disch := omega) only [upA, upJ, upR, vu_n]); exact pH
  · (try simp (disch := omega) only [upA, upJ, upR, vu_n]); exact pT
  · (try simp (disch := omega) only [upA, upJ, upR, vu_n]); exact pS
  · (try simp (disch := omega) only [upA, upJ, upR, vu_n]); exact pL
  · (try simp (disch := omega) only [upA, upJ, upR, vu_n]); exact pV
  · (try simp (disch := omega) only [upA, upJ, upR, vu_n]); exact pR
  · intro v h0; (try simp (disch := omega) only [upA, upJ, upR, vu_n] at h0); (try simp (disch := omega) only [upA, upJ, upR, vu_n]); exact pCr v h0
  · intro v h0; by_cases e : v = i
    · subst e; simp only [upS, vu_s]
    · (try simp (disch := omega) only [upA, upJ, upR, vu_n] at h0); (try simp (disch := omega) only [upA, upJ, upR, vu_n]); exact pWl v h0
  · intro v h0; (try simp (disch := omega) only [upA, upJ, upR, vu_n] at h0); (try simp (disch := omega) only [upA, upJ, upR, vu_n]); exact pWy v h0
  · intro v h0; (try simp (disch := omega) only [upA, upJ, upR, vu_n] at h0); (try simp (disch := omega) only [upA, upJ, upR, vu_n]); exact pFo v h0
  · intro v h0; (try simp (disch := omega) only [upA, upJ, upR, vu_n] at h0); (try simp (disch := omega) only [upA, upJ, upR, vu_n]); exact pSh v h0
  · intro v h0; (try simp (disch := omega) only [upA, upJ, upR, vu_n] at h0); (try simp (disch := omega) only [upA, upJ, upR, vu_n]); exact pNo v h0
  · intro v h0; (try simp (disch := omega) only [upA, upJ, upR, vu_n] at h0); (try simp (disch := omega) only [upA, upJ, upR, vu_n]); exact pX v h0
  · intro v h0; (try simp (disch := omega) only [upA, upJ, upR, vu_n] at h0); (try simp (disch := omega) only [upA, upJ, upR, vu_n]); exact pY v h0
  · intro v h0; (try simp (disch := omega) only [upA, upJ, upR, vu_n] at h0); (try simp (disch := omega) only [upA, upJ, upR, vu_n]); exact pWe v h0
  · intro v h0; (try simp (disch := omega) only [upA, upJ, upR, vu_n] at h0); (try simp (disch := omega) only [upA, upJ, upR, vu_n]); exact pSa v h0
  · intro v h0; (try simp (disch := omega) only [upA, upJ, upR, vu_n] at h0); (try simp (disch := omega) only [upA, upJ, upR, vu_n]); exact pKi v h0
  · intro v h0; (try simp (disch := omega) only [upA, upJ, upR, vu_n] at h0); (try simp (disch := omega) only [upA, upJ, upR, vu_n]); exact pAn v h0
  · intro v h0; (try simp (disch := omega) only [upA, upJ, upR, vu_n] at h0); (try simp (disch := omega) only [upA, upJ, upR, vu_n]); exact pDg v h0
  · intro v h0; (try simp (disch := omega) only [upA, upJ, upR, vu_n] at h0); (try simp (disch := omega) only [upA, upJ, upR, vu_n]); exact pTh v h0
  · intro v h0; (try simp (disch := omega) only [upA, upJ, upR, vu_n] at h0); (try simp (disch := omega) only [upA, upJ, upR, vu_n]); exact pDr v h0
  · intro v h0; (try simp (disch := omega) only [upA, upJ, upR, vu_n] at h0); (try simp (disch := omega) only [upA, upJ, upR, vu_n]); exact pSp v h0
  · intro v h0; (try simp (disch := omega) only [upA, upJ, upR, vu_n] at h0); (try simp (disch := omega) only [upA, upJ, upR, vu_n]); exact pSk v h0
  · intro v h0 h1; (try simp (disch := omega) only [upA, upJ, upR, vu_n] at h0 h1); (try simp (disch := omega) only [upA, upJ, upR, vu_n]); exact pS0 v h0 h1
  · intro v h0 h1; (try simp (disch := omega) only [upA, upJ, upR, vu_n] at h0 h1); (try simp (disch := omega) only [upA, upJ, upR, vu_n]); exact pSx v h0 h1
  · intro v h0 h1; (try simp (disch := omega) only [upA, upJ, upR, vu_n] at h0 h1); (try simp (disch := omega) only [upA, upJ, upR, vu_n]); exact pSy v h0 h1
  · intro v h0 h1; (try simp (disch := omega) only [upA, upJ, upR, vu_n] at h0 h1); (try simp (disch := omega) only [upA, upJ, upR, vu_n]); exact pSt v h0 h1
  · intro v h0; (try simp (disch := omega) only [upA, upJ, upR, vu_n] at h0); (try simp (disch := omega) only [upA, upJ, upR, vu_n]); exact pRa v h0
  · intro v h0; (try simp (disch := omega) only [upA, upJ, upR, vu_n] at h0); (try simp (disch := omega) only [upA, upJ, upR, vu_n]); exact pRb v h0
  · intro v h0; (try simp (disch := omega) only [upA, upJ, upR, vu_n] at h0); (try simp (disch := omega) only [upA, upJ, upR, vu_n]); exact pRl v h0
  · intro v h0; (try simp (disch := omega) only [upA, upJ, upR, vu_n] at h0); (try simp (disch := omega) only [upA, upJ, upR, vu_n]); exact pRt v h0
  · intro u v h0 h1; (try simp (disch := omega) only [upA, upJ, upR, vu_n] at h0 h1); (try simp (disch := omega) only [upA, upJ, upR, vu_n]); exact pMe u v h0 h1
  · intro v h0; (try simp (disch := omega) only [upA, upJ, upR, vu_n] at h0); (try simp (disch := omega) only [upA, upJ, upR, vu_n]); exact pBa v h0
  · intro v h0; (try simp (disch := omega) only [upA, upJ, upR, vu_n] at h0); (try simp (disch := omega) only [upA, upJ, upR, vu_n]); exact pBt v h0
theorem rg_Wy {N : Nat → Nat → Nat} (h : RG I N Z) (hi : i < 24) : RG (am_up I 12 i (nI q)) (am_up N 9 i q) Z := by
  obtain ⟨pW, pH, pT, pS, pL, pV, pR, pCr, pWl, pWy, pFo, pSh, pNo, pX, pY, pWe, pSa, pKi, pAn, pDg, pTh, pDr, pSp, pSk, pS0, pSx, pSy, pSt, pRa, pRb, pRl, pRt, pMe, pBa, pBt⟩ := h
  refine ⟨?_, ?_, ?_, ?_, ?_, ?_, ?_, ?_, ?_, ?_, ?_, ?_, ?_, ?_, ?_, ?_, ?_, ?_, ?_, ?_, ?_, ?_, ?_, ?_, ?_, ?_, ?_, ?_, ?_, ?_, ?_, ?_, ?_, ?_, ?_⟩
  · (try simp (disch := omega) only [upA, upJ, upR, vu_n]); exact pW
  · (try simp (disch := omega) only [upA, upJ, upR, vu_n]); exact pH
  · (try simp (disch := omega) only [upA, upJ, upR, vu_n]); exact pT
  · (try simp (disch := omega) only [upA, upJ, upR, vu_n]); exact pS
  · (try simp (disch := omega) only [upA, upJ, upR, vu_n]); exact pL
  · (try simp (disch := omega) only [upA, upJ, upR, vu_n]); exact pV
  · (try simp (disch := omega) only [upA, upJ, upR, vu_n]); exact pR
  · intro v h0; (try simp (disch := omega) only [upA, upJ, upR, vu_n] at h0); (try simp (disch := omega) only [upA, upJ, upR, vu_n]); exact pCr v h0
  · intro v h0; (try simp (disch := omega) only [upA, upJ, upR, vu_n] at h0); (try simp (disch := omega) only [upA, upJ, upR, vu_n]); exact pWl v h0
  · intro v h0; by_cases e : v = i
    · subst e; simp only [upS, vu_s]
    · (try simp (disch := omega) only [upA, upJ, upR, vu_n] at h0); (try simp (disch := omega) only [upA, upJ, upR, vu_n]); exact pWy v h0
  · intro v h0; (try simp (disch := omega) only [upA, upJ, upR, vu_n] at h0); (try simp (disch := omega) only [upA, upJ, upR, vu_n]); exact pFo v h0
  · intro v h0; (try simp (disch := omega) only [upA, upJ, upR, vu_n] at h0); (try simp (disch := omega) only [upA, upJ, upR, vu_n]); exact pSh v h0
  · intro v h0; (try simp (disch := omega) only [upA, upJ, upR, vu_n] at h0); (try simp (disch := omega) only [upA, upJ, upR, vu_n]); exact pNo v h0
  · intro v h0; (try simp (disch := omega) only [upA, upJ, upR, vu_n] at h0); (try simp (disch := omega) only [upA, upJ, upR, vu_n]); exact pX v h0
  · intro v h0; (try simp (disch := omega) only [upA, upJ, upR, vu_n] at h0); (try simp (disch := omega) only [upA, upJ, upR, vu_n]); exact pY v h0
  · intro v h0; (try simp (disch := omega) only [upA, upJ, upR, vu_n] at h0); (try simp (disch := omega) only [upA, upJ, upR, vu_n]); exact pWe v h0
  · intro v h0; (try simp (disch := omega) only [upA, upJ, upR, vu_n] at h0); (try simp (disch := omega) only [upA, upJ, upR, vu_n]); exact pSa v h0
  · intro v h0; (try simp (disch := omega) only [upA, upJ, upR, vu_n] at h0); (try simp (disch := omega) only [upA, upJ, upR, vu_n]); exact pKi v h0
  · intro v h0; (try simp (disch := omega) only [upA, upJ, upR, vu_n] at h0); (try simp (disch := omega) only [upA, upJ, upR, vu_n]); exact pAn v h0
  · intro v h0; (try simp (disch := omega) only [upA, upJ, upR, vu_n] at h0); (try simp (disch := omega) only [upA, upJ, upR, vu_n]); exact pDg v h0
  · intro v h0; (try simp (disch := omega) only [upA, upJ, upR, vu_n] at h0); (try simp (disch := omega) only [upA, upJ, upR, vu_n]); exact pTh v h0
  · intro v h0; (try simp (disch := omega) only [upA, upJ, upR, vu_n] at h0); (try simp (disch := omega) only [upA, upJ, upR, vu_n]); exact pDr v h0
  · intro v h0; (try simp (disch := omega) only [upA, upJ, upR, vu_n] at h0); (try simp (disch := omega) only [upA, upJ, upR, vu_n]); exact pSp v h0
  · intro v h0; (try simp (disch := omega) only [upA, upJ, upR, vu_n] at h0); (try simp (disch := omega) only [upA, upJ, upR, vu_n]); exact pSk v h0
  · intro v h0 h1; (try simp (disch := omega) only [upA, upJ, upR, vu_n] at h0 h1); (try simp (disch := omega) only [upA, upJ, upR, vu_n]); exact pS0 v h0 h1
  · intro v h0 h1; (try simp (disch := omega) only [upA, upJ, upR, vu_n] at h0 h1); (try simp (disch := omega) only [upA, upJ, upR, vu_n]); exact pSx v h0 h1
  · intro v h0 h1; (try simp (disch := omega) only [upA, upJ, upR, vu_n] at h0 h1); (try simp (disch := omega) only [upA, upJ, upR, vu_n]); exact pSy v h0 h1
  · intro v h0 h1; (try simp (disch := omega) only [upA, upJ, upR, vu_n] at h0 h1); (try simp (disch := omega) only [upA, upJ, upR, vu_n]); exact pSt v h0 h1
  · intro v h0; (try simp (disch := omega) only [upA, upJ, upR, vu_n] at h0); (try simp (disch := omega) only [upA, upJ, upR, vu_n]); exact pRa v h0
  · intro v h0; (try simp (disch := omega) only [upA, upJ, upR, vu_n] at h0); (try simp (disch := omega) only [upA, upJ, upR, vu_n]); exact pRb v h0
  · intro v h0; (try simp (disch := omega) only [upA, upJ, upR, vu_n] at h0); (try simp (disch := omega) only [upA, upJ, upR, vu_n]); exact pRl v h0
  · intro v h0; (try simp (disch := omega) only [upA, upJ, upR, vu_n] at h0); (try simp (disch := omega) only [upA, upJ, upR, vu_n]); exact pRt v h0
  · intro u v h0 h1; (try simp (disch := omega) only [upA, upJ, upR, vu_n] at h0 h1); (try simp (disch := omega) only [upA, upJ, upR, vu_n]); exact pMe u v h0 h1
  · intro v h0; (try simp (disch := omega) only [upA, upJ, upR, vu_n] at h0); (try simp (disch := omega) only [upA, upJ, upR, vu_n]); exact pBa v h0
  · intro v h0; (try simp (disch := omega) only [upA, upJ, upR, vu_n] at h0); (try simp (disch := omega) only [upA, upJ, upR, vu_n]); exact pBt v h0
theorem rg_Fo {N : Nat → Nat → Nat} (h : RG I N Z) (hi : i < 24) : RG (am_up I 13 i (nI q)) (am_up N 10 i q) Z := by
  obtain ⟨pW, pH, pT, pS, pL, pV, pR, pCr, pWl, pWy, pFo, pSh, pNo, pX, pY, pWe, pSa, pKi, pAn, pDg, pTh, pDr, pSp, pSk, pS0, pSx, pSy, pSt, pRa, pRb, pRl, pRt, pMe, pBa, pBt⟩ := h
  refine ⟨?_, ?_, ?_, ?_, ?_, ?_, ?_, ?_, ?_, ?_, ?_, ?_, ?_, ?_, ?_, ?_, ?_, ?_, ?_, ?_, ?_, ?_, ?_, ?_, ?_, ?_, ?_, ?_, ?_, ?_, ?_, ?_, ?_, ?_, ?_⟩
  · (try simp (disch := omega) only [upA, upJ, upR, vu_n]); exact pW
  · (try simp (disch := omega) only [upA, upJ, upR, vu_n]); exact pH
  · (try simp (disch := omega) only [upA, upJ, upR, vu_n]); exact pT
  · (try simp (disch := omega) only [upA, upJ, upR, vu_n]); exact pS
  · (try simp (disch := omega) only [upA, upJ, upR, vu_n]); exact pL
  · (try simp (disch := omega) only [upA, upJ, upR, vu_n]); exact pV
  · (try simp (disch := omega) only [upA, upJ, upR, vu_n]); exact pR
  · intro v h0; (try simp (disch := omega) only [upA, upJ, upR, vu_n] at h0); (try simp (disch := omega) only [upA, upJ, upR, vu_n]); exact pCr v h0
  · intro v h0; (try simp (disch := omega) only [upA, upJ, upR, vu_n] at h0); (try simp (disch := omega) only [upA, upJ, upR, vu_n]); exact pWl v h0
  · intro v h0; (try simp (disch := omega) only [upA, upJ, upR, vu_n] at h0); (try simp (disch := omega) only [upA, upJ, upR, vu_n]); exact pWy v h0
  · intro v h0; by_cases e : v = i
    · subst e; simp only [upS, vu_s]
    · (try simp (disch := omega) only [upA, upJ, upR, vu_n] at h0); (try simp (disch := omega) only [upA, upJ, upR, vu_n]); exact pFo v h0
  · intro v h0; (try simp (disch := omega) only [upA, upJ, upR, vu_n] at h0); (try simp (disch := omega) only [upA, upJ, upR, vu_n]); exact pSh v h0
  · intro v h0; (try simp (disch := omega) only [upA, upJ, upR, vu_n] at h0); (try simp (disch := omega) only [upA, upJ, upR, vu_n]); exact pNo v h0
  · intro v h0; (try simp (disch := omega) only [upA, upJ, upR, vu_n] at h0); (try simp (disch := omega) only [upA, upJ, upR, vu_n]); exact pX v h0
  · intro v h0; (try simp (disch := omega) only [upA, upJ, upR, vu_n] at h0); (try simp (disch := omega) only [upA, upJ, upR, vu_n]); exact pY v h0
  · intro v h0; (try simp (disch := omega) only [upA, upJ, upR, vu_n] at h0); (try simp (disch := omega) only [upA, upJ, upR, vu_n]); exact pWe v h0
  · intro v h0; (try simp (disch := omega) only [upA, upJ, upR, vu_n] at h0); (try simp (disch := omega) only [upA, upJ, upR, vu_n]); exact pSa v h0
  · intro v h0; (try simp (disch := omega) only [upA, upJ, upR, vu_n] at h0); (try simp (disch := omega) only [upA, upJ, upR, vu_n]); exact pKi v h0
  · intro v h0; (try simp (disch := omega) only [upA, upJ, upR, vu_n] at h0); (try simp (disch := omega) only [upA, upJ, upR, vu_n]); exact pAn v h0
  · intro v h0; (try simp (disch := omega) only [upA, upJ, upR, vu_n] at h0); (try simp (disch := omega) only [upA, upJ, upR, vu_n]); exact pDg v h0
  · intro v h0; (try simp (disch := omega) only [upA, upJ, upR, vu_n] at h0); (try simp (disch := omega) only [upA, upJ, upR, vu_n]); exact pTh v h0
  · intro v h0; (try simp (disch := omega) only [upA, upJ, upR, vu_n] at h0); (try simp (disch := omega) only [upA, upJ, upR, vu_n]); exact pDr v h0
  · intro v h0; (try simp (disch := omega) only [upA, upJ, upR, vu_n] at h0); (try simp (disch := omega) only [upA, upJ, upR, vu_n]); exact pSp v h0
  · intro v h0; (try simp (disch := omega) only [upA, upJ, upR, vu_n] at h0); (try simp (disch := omega) only [upA, upJ, upR, vu_n]); exact pSk v h0
  · intro v h0 h1; (try simp (disch := omega) only [upA, upJ, upR, vu_n] at h0 h1); (try simp (disch := omega) only [upA, upJ, upR, vu_n]); exact pS0 v h0 h1
  · intro v h0 h1; (try simp (disch := omega) only [upA, upJ, upR, vu_n] at h0 h1); (try simp (disch := omega) only [upA, upJ, upR, vu_n]); exact pSx v h0 h1
  · intro v h0 h1; (try simp (disch := omega) only [upA, upJ, upR, vu_n] at h0 h1); (try simp (disch := omega) only [upA, upJ, upR, vu_n]); exact pSy v h0 h1
  · intro v h0 h1; (try simp (disch := omega) only [upA, upJ, upR, vu_n] at h0 h1); (try simp (disch := omega) only [upA, upJ, upR, vu_n]); exact pSt v h0 h1
  · intro v h0; (try simp (disch := omega) only [upA, upJ, upR, vu_n] at h0); (try simp (disch := omega) only [upA, upJ, upR, vu_n]); exact pRa v h0
  · intro v h0; (try simp (disch := omega) only [upA, upJ, upR, vu_n] at h0); (try simp (disch := omega) only [upA, upJ, upR, vu_n]); exact pRb v h0
  · intro v h0; (try simp (disch := omega) only [upA, upJ, upR, vu_n] at h0); (try simp (disch := omega) only [upA, upJ, upR, vu_n]); exact pRl v h0
  · intro v h0; (try simp (disch := omega) only [upA, upJ, upR, vu_n] at h0); (try simp (disch := omega) only [upA, upJ, upR, vu_n]); exact pRt v h0
  · intro u v h0 h1; (try simp (disch := omega) only [upA, upJ, upR, vu_n] at h0 h1); (try simp (disch := omega) only [upA, upJ, upR, vu_n]); exact pMe u v h0 h1
  · intro v h0; (try simp (disch := omega) only [upA, upJ, upR, vu_n] at h0); (try simp (disch := omega) only [upA, upJ, upR, vu_n]); exact pBa v h0
  · intro v h0; (try simp (disch := omega) only [upA, upJ, upR, vu_n] at h0); (try simp (disch := omega) only [upA, upJ, upR, vu_n]); exact pBt v h0
theorem rg_Sh {N : Nat → Nat → Nat} (h : RG I N Z) (hi : i < 24) : RG (am_up I 14 i (nI q)) (am_up N 11 i q) Z := by
  obtain ⟨pW, pH, pT, pS, pL, pV, pR, pCr, pWl, pWy, pFo, pSh, pNo, pX, pY, pWe, pSa, pKi, pAn, pDg, pTh, pDr, pSp, pSk, pS0, pSx, pSy, pSt, pRa, pRb, pRl, pRt, pMe, pBa, pBt⟩ := h
  refine ⟨?_, ?_, ?_, ?_, ?_, ?_, ?_, ?_, ?_, ?_, ?_, ?_, ?_, ?_, ?_, ?_, ?_, ?_, ?_, ?_, ?_, ?_, ?_, ?_, ?_, ?_, ?_, ?_, ?_, ?_, ?_, ?_, ?_, ?_, ?_⟩
  · (try simp (disch := omega) only [upA, upJ, upR, vu_n]); exact pW
  · (try simp (disch := omega) only [upA, upJ, upR, vu_n]); exact pH
  · (try simp (disch := omega) only [upA, upJ, upR, vu_n]); exact pT
  · (try simp (disch := omega) only [upA, upJ, upR, vu_n]); exact pS
  · (try simp (disch := omega) only [upA, upJ, upR, vu_n]); exact pL
  · (try simp (disch := omega) only [upA, upJ, upR, vu_n]); exact pV
  · (try simp (disch := omega) only [upA, upJ, upR, vu_n]); exact pR
  · intro v h0; (try simp (disch := omega) only [upA, upJ, upR, vu_n] at h0); (try simp (disch := omega) only [upA, upJ, upR, vu_n]); exact pCr v h0
  · intro v h0; (try simp (disch := omega) only [upA, upJ, upR, vu_n] at h0); (try simp (disch := omega) only [upA, upJ, upR, vu_n]); exact pWl v h0
  · intro v h0; (try simp (disch := omega) only [upA, upJ, upR, vu_n] at h0); (try simp (disch := omega) only [upA, upJ, upR, vu_n]); exact pWy v h0
  · intro v h0; (try simp (disch := omega) only [upA, upJ, upR, vu_n] at h0); (try simp (disch := omega) only [upA, upJ, upR, vu_n]); exact pFo v h0
  · intro v h0; by_cases e : v = i
    · subst e; simp only [upS, vu_s]
    · (try simp (disch := omega) only [upA, upJ, upR, vu_n] at h0); (try simp (disch := omega) only [upA, upJ, upR, vu_n]); exact pSh v h0
  · intro v h0; (try simp (disch := omega) only [upA, upJ, upR, vu_n] at h0); (try simp (disch := omega) only [upA, upJ, upR, vu_n]); exact pNo v h0
  · intro v h0; (try simp (disch := omega) only [upA, upJ, upR, vu_n] at h0); (try simp (disch := omega) only [upA, upJ, upR, vu_n]); exact pX v h0
  · intro v h0; (try simp (disch := omega) only [upA, upJ, upR, vu_n] at h0); (try simp (disch := omega) only [upA, upJ, upR, vu_n]); exact pY v h0
  · intro v h0; (try simp (disch := omega) only [upA, upJ, upR, vu_n] at h0); (try simp (disch := omega) only [upA, upJ, upR, vu_n]); exact pWe v h0
  · intro v h0; (try simp (disch := omega) only [upA, upJ, upR, vu_n] at h0); (try simp (disch := omega) only [upA, upJ, upR, vu_n]); exact pSa v h0
  · intro v h0; (try simp (disch := omega) only [upA, upJ, upR, vu_n] at h0); (try simp (disch := omega) only [upA, upJ, upR, vu_n]); exact pKi v h0
  · intro v h0; (try simp (disch := omega) only [upA, upJ, upR, vu_n] at h0); (try simp (disch := omega) only [upA, upJ, upR, vu_n]); exact pAn v h0
  · intro v h0; (try simp (disch := omega) only [upA, upJ, upR, vu_n] at h0); (try simp (disch := omega) only [upA, upJ, upR, vu_n]); exact pDg v h0
  · intro v h0; (try simp (disch := omega) only [upA, upJ, upR, vu_n] at h0); (try simp (disch := omega) only [upA, upJ, upR, vu_n]); exact pTh v h0
  · intro v h0; (try simp (disch := omega) only [upA, upJ, upR, vu_n] at h0); (try simp (disch := omega) only [upA, upJ, upR, vu_n]); exact pDr v h0
  · intro v h0; (try simp (disch := omega) only [upA, upJ, upR, vu_n] at h0); (try simp (disch := omega) only [upA, upJ, upR, vu_n]); exact pSp v h0
  · intro v h0; (try simp (disch := omega) only [upA, upJ, upR, vu_n] at h0); (try simp (disch := omega) only [upA, upJ, upR, vu_n]); exact pSk v h0
  · intro v h0 h1; (try simp (disch := omega) only [upA, upJ, upR, vu_n] at h0 h1); (try simp (disch := omega) only [upA, upJ, upR, vu_n]); exact pS0 v h0 h1
  · intro v h0 h1; (try simp (disch := omega) only [upA, upJ, upR, vu_n] at h0 h1); (try simp (disch := omega) only [upA, upJ, upR, vu_n]); exact pSx v h0 h1
  · intro v h0 h1; (try simp (disch := omega) only [upA, upJ, upR, vu_n] at h0 h1); (try simp (disch := omega) only [upA, upJ, upR, vu_n]); exact pSy v h0 h1
  · intro v h0 h1; (try simp (disch := omega) only [upA, upJ, upR, vu_n] at h0 h1); (try simp (disch := omega) only [upA, upJ, upR, vu_n]); exact pSt v h0 h1
  · intro v h0; (try simp (disch := omega) only [upA, upJ, upR, vu_n] at h0); (try simp (disch := omega) only [upA, upJ, upR, vu_n]); exact pRa v h0
  · intro v h0; (try simp (disch := omega) only [upA, upJ, upR, vu_n] at h0); (try simp (disch := omega) only [upA, upJ, upR, vu_n]); exact pRb v h0
  · intro v h0; (try simp (disch := omega) only [upA, upJ, upR, vu_n] at h0); (try simp (disch := omega) only [upA, upJ, upR, vu_n]); exact pRl v h0
  · intro v h0; (try simp (disch := omega) only [upA, upJ, upR, vu_n] at h0); (try simp (disch := omega) only [upA, upJ, upR, vu_n]); exact pRt v h0
  · intro u v h0 h1; (try simp (disch := omega) only [upA, upJ, upR, vu_n] at h0 h1); (try simp (disch := omega) only [upA, upJ, upR, vu_n]); exact pMe u v h0 h1
  · intro v h0; (try simp (disch := omega) only [upA, upJ, upR, vu_n] at h0); (try simp (disch := omega) only [upA, upJ, upR, vu_n]); exact pBa v h0
  · intro v h0; (try simp (disch := omega) only [upA, upJ, upR, vu_n] at h0); (try simp (disch := omega) only [upA, upJ, upR, vu_n]); exact pBt v h0
theorem rg_X {N : Nat → Nat → Nat} (h : RG I N Z) (hi : i < 10) : RG (am_up I (19 + i) 1 (nI q)) (am_up N 1 i q) Z := by
  obtain ⟨pW, pH, pT, pS, pL, pV, pR, pCr, pWl, pWy, pFo, pSh, pNo, pX, pY, pWe, pSa, pKi, pAn, pDg, pTh, pDr, pSp, pSk, pS0, pSx, pSy, pSt, pRa, pRb, pRl, pRt, pMe, pBa, pBt⟩ := h
  refine ⟨?_, ?_, ?_, ?_, ?_, ?_, ?_, ?_, ?_, ?_, ?_, ?_, ?_, ?_, ?_, ?_, ?_, ?_, ?_, ?_, ?_, ?_, ?_, ?_, ?_, ?_, ?_, ?_, ?_, ?_, ?_, ?_, ?_, ?_, ?_⟩
  · (try simp (disch := omega) only [upA, upJ, upR, vu_n]); exact pW
  · (try simp (disch := omega) only [upA, upJ, upR, vu_n]); exact pH
  · (try simp (disch := omega) only [upA, upJ, upR, vu_n]); exact pT
  · (try simp (disch := omega) only [upA, upJ, upR, vu_n]); exact pS
  · (try simp (disch := omega) only [upA, upJ, upR, vu_n]); exact pL
  · (try simp (disch := omega) only [upA, upJ, upR, vu_n]); exact pV
  · (try simp (disch := omega) only [upA, upJ, upR, vu_n]); exact pR
  · intro v h0; (try simp (disch := omega) only [upA, upJ, upR, vu_n] at h0); (try simp (disch := omega) only [upA, upJ, upR, vu_n]); exact pCr v h0
  · intro v h0; (try simp (disch := omega) only [upA, upJ, upR, vu_n] at h0); (try simp (disch := omega) only [upA, upJ, upR, vu_n]); exact pWl v h0
  · intro v h0; (try simp (disch := omega) only [upA, upJ, upR, vu_n] at h0); (try simp (disch := omega) only [upA, upJ, upR, vu_n]); exact pWy v h0
  · intro v h0; (try simp (disch := omega) only [upA, upJ, upR, vu_n] at h0); (try simp (disch := omega) only [upA, upJ, upR, vu_n]); exact pFo v h0
  · intro v h0; (try simp (disch := omega) only [upA, upJ, upR, vu_n] at h0); (try simp (disch := omega) only [upA, upJ, upR, vu_n]); exact pSh v h0
  · intro v h0; (try simp (disch := omega) only [upA, upJ, upR, vu_n] at h0); (try simp (disch := omega) only [upA, upJ, upR, vu_n]); exact pNo v h0
  · intro v h0; by_cases e : v = i
    · subst e; simp only [upS, vu_s]
    · (try simp (disch := omega) only [upA, upJ, upR, vu_n] at h0); (try simp (disch := omega) only [upA, upJ, upR, vu_n]); exact pX v h0
  · intro v h0; (try simp (disch := omega) only [upA, upJ, upR, vu_n] at h0); (try simp (disch := omega) only [upA, upJ, upR, vu_n]); exact pY v h0
  · intro v h0; (try simp (disch := omega) only [upA, upJ, upR, vu_n] at h0); (try simp (disch := omega) only [upA, upJ, upR, vu_n]); exact pWe v h0
  · intro v h0; (try simp (disch := omega) only [upA, upJ, upR, vu_n] at h0); (try simp (disch := omega) only [upA, upJ, upR, vu_n]); exact pSa v h0
  · intro v h0; (try simp (disch := omega) only [upA, upJ, upR, vu_n] at h0); (try simp (disch := omega) only [upA, upJ, upR, vu_n]); exact pKi v h0
  · intro v h0; (try simp (disch := omega) only [upA, upJ, upR, vu_n] at h0); (try simp (disch := omega) only [upA, upJ, upR, vu_n]); exact pAn v h0
  · intro v h0; (try simp (disch := omega) only [upA, upJ, upR, vu_n] at h0); (try simp (disch := omega) only [upA, upJ, upR, vu_n]); exact pDg v h0
  · intro v h0; (try simp (disch := omega) only [upA, upJ, upR, vu_n] at h0); (try simp (disch := omega) only [upA, upJ, upR, vu_n]); exact pTh v h0
  · intro v h0; (try simp (disch := omega) only [upA, upJ, upR, vu_n] at h0); (try simp (disch := omega) only [upA, upJ, upR, vu_n]); exact pDr v h0
  · intro v h0; (try simp (disch := omega) only [upA, upJ, upR, vu_n] at h0); (try simp (disch := omega) only [upA, upJ, upR, vu_n]); exact pSp v h0
  · intro v h0; (try simp (disch := omega) only [upA, upJ, upR, vu_n] at h0); (try simp (disch := omega) only [upA, upJ, upR, vu_n]); exact pSk v h0
  · intro v h0 h1; (try simp (disch := omega) only [upA, upJ, upR, vu_n] at h0 h1); (try simp (disch := omega) only [upA, upJ, upR, vu_n]); exact pS0 v h0 h1
  · intro v h0 h1; (try simp (disch := omega) only [upA, upJ, upR, vu_n] at h0 h1); (try simp (disch := omega) only [upA, upJ, upR, vu_n]); exact pSx v h0 h1
  · intro v h0 h1; (try simp (disch := omega) only [upA, upJ, upR, vu_n] at h0 h1); (try simp (disch := omega) only [upA, upJ, upR, vu_n]); exact pSy v h0 h1
  · intro v h0 h1; (try simp (disch := omega) only [upA, upJ, upR, vu_n] at h0 h1); (try simp (disch := omega) only [upA, upJ, upR, vu_n]); exact pSt v h0 h1
  · intro v h0; (try simp (disch := omega) only [upA, upJ, upR, vu_n] at h0); (try simp (disch := omega) only [upA, upJ, upR, vu_n]); exact pRa v h0
  · intro v h0; (try simp (disch := omega) only [upA, upJ, upR, vu_n] at h0); (try simp (disch := omega) only [upA, upJ, upR, vu_n]); exact pRb v h0
  · intro v h0; (try simp (disch := omega) only [upA, upJ, upR, vu_n] at h0); (try simp (disch := omega) only [upA, upJ, upR, vu_n]); exact pRl v h0
  · intro v h0; (try simp (disch := omega) only [upA, upJ, upR, vu_n] at h0); (try simp (disch := omega) only [upA, upJ, upR, vu_n]); exact pRt v h0
  · intro u v h0 h1; (try simp (disch := omega) only [upA, upJ, upR, vu_n] at h0 h1); (try simp (disch := omega) only [upA, upJ, upR, vu_n]); exact pMe u v h0 h1
  · intro v h0; (try simp (disch := omega) only [upA, upJ, upR, vu_n] at h0); (try simp (disch := omega) only [upA, upJ, upR, vu_n]); exact pBa v h0
  · intro v h0; (try simp (disch := omega) only [upA, upJ, upR, vu_n] at h0); (try simp (disch := omega) only [upA, upJ, upR, vu_n]); exact pBt v h0
theorem rg_Y {N : Nat → Nat → Nat} (h : RG I N Z) (hi : i < 10) : RG (am_up I (19 + i) 2 (nI q)) (am_up N 2 i q) Z := by
  obtain ⟨pW, pH, pT, pS, pL, pV, pR, pCr, pWl, pWy, pFo, pSh, pNo, pX, pY, pWe, pSa, pKi, pAn, pDg, pTh, pDr, pSp, pSk, pS0, pSx, pSy, pSt, pRa, pRb, pRl, pRt, pMe, pBa, pBt⟩ := h
  refine ⟨?_, ?_, ?_, ?_, ?_, ?_, ?_, ?_, ?_, ?_, ?_, ?_, ?_, ?_, ?_, ?_, ?_, ?_, ?_, ?_, ?_, ?_, ?_, ?_, ?_, ?_, ?_, ?_, ?_, ?_, ?_, ?_, ?_, ?_, ?_⟩
  · (try simp (disch := omega) only [upA, upJ, upR, vu_n]); exact pW
  · (try simp (disch := omega) only [upA, upJ, upR, vu_n]); exact pH
  · (try simp (disch := omega) only [upA, upJ, upR, vu_n]); exact pT
  · (try simp (disch := omega) only [upA, upJ, upR, vu_n]); exact pS
  · (try simp (disch := omega) only [upA, upJ, upR, vu_n]); exact pL
  · (try simp (disch := omega) only [upA, upJ, upR, vu_n]); exact pV
  · (try simp (disch := omega) only [upA, upJ, upR, vu_n]); exact pR
  · intro v h0; (try simp (disch := omega) only [upA, upJ, upR, vu_n] at h0); (try simp (disch := omega) only [upA, upJ, upR, vu_n]); exact pCr v h0
  · intro v h0; (try simp (disch := omega) only [upA, upJ, upR, vu_n] at h0); (try simp (disch := omega) only [upA, upJ, upR, vu_n]); exact pWl v h0
  · intro v h0; (try simp (disch := omega) only [upA, upJ, upR, vu_n] at h0); (try simp (disch := omega) only [upA, upJ, upR, vu_n]); exact pWy v h0
  · intro v h0; (try simp (disch := omega) only [upA, upJ, upR, vu_n] at h0); (try simp (disch := omega) only [upA, upJ, upR, vu_n]); exact pFo v h0
  · intro v h0; (try simp (disch := omega) only [upA, upJ, upR, vu_n] at h0); (try simp (disch := omega) only [upA, upJ, upR, vu_n]); exact pSh v h0
  · intro v h0; (try simp (disch := omega) only [upA, upJ, upR, vu_n] at h0); (try simp (disch := omega) only [upA, upJ, upR, vu_n]); exact pNo v h0
  · intro v h0; (try simp (disch := omega) only [upA, upJ, upR, vu_n] at h0); (try simp (disch := omega) only [upA, upJ, upR, vu_n]); exact pX v h0
  · intro v h0; by_cases e : v = i
    · subst e; simp only [upS, vu_s]
    · (try simp (disch := omega) only [upA, upJ, upR, vu_n] at h0); (try simp (disch := omega) only [upA, upJ, upR, vu_n]); exact pY v h0
  · intro v h0; (try simp (disch := omega) only [upA, upJ, upR, vu_n] at h0); (try simp (disch := omega) only [upA, upJ, upR, vu_n]); exact pWe v h0
  · intro v h0; (try simp (disch := omega) only [upA, upJ, upR, vu_n] at h0); (try simp (disch := omega) only [upA, upJ, upR, vu_n]); exact pSa v h0
  · intro v h0; (try simp (disch := omega) only [upA, upJ, upR, vu_n] at h0); (try simp (disch := omega) only [upA, upJ, upR, vu_n]); exact pKi v h0
  · intro v h0; (try simp (disch := omega) only [upA, upJ, upR, vu_n] at h0); (try simp (disch := omega) only [upA, upJ, upR, vu_n]); exact pAn v h0
  · intro v h0; (try simp (disch := omega) only [upA, upJ, upR, vu_n] at h0); (try simp (disch := omega) only [upA, upJ, upR, vu_n]); exact pDg v h0
  · intro v h0; (try simp (disch := omega) only [upA, upJ, upR, vu_n] at h0); (try simp (disch := omega) only [upA, upJ, upR, vu_n]); exact pTh v h0
  · intro v h0; (try simp (disch := omega) only [upA, upJ, upR, vu_n] at h0); (try simp (disch := omega) only [upA, upJ, upR, vu_n]); exact pDr v h0
  · intro v h0; (try simp (disch := omega) only [upA, upJ, upR, vu_n] at h0); (try simp (disch := omega) only [upA, upJ, upR, vu_n]); exact pSp v h0
  · intro v h0; (try simp (disch := omega) only [upA, upJ, upR, vu_n] at h0); (try simp (disch := omega) only [upA, upJ, upR, vu_n]); exact pSk v h0
  · intro v h0 h1; (try simp (disch := omega) only [upA, upJ, upR, vu_n] at h0 h1); (try simp (disch := omega) only [upA, upJ, upR, vu_n]); exact pS0 v h0 h1
  · intro v h0 h1; (try simp (disch := omega) only [upA, upJ, upR, vu_n] at h0 h1); (try simp (disch := omega) only [upA, upJ, upR, vu_n]); exact pSx v h0 h1
  · intro v h0 h1; (try simp (disch := omega) only [upA, upJ, upR, vu_n] at h0 h1); (try simp (disch := omega) only [upA, upJ, upR, vu_n]); exact pSy v h0 h1
  · intro v h0 h1; (try simp (disch := omega) only [upA, upJ, upR, vu_n] at h0 h1); (try simp (disch := omega) only [upA, upJ, upR, vu_n]); exact pSt v h0 h1
  · intro v h0; (try simp (disch := omega) only [upA, upJ, upR, vu_n] at h0); (try simp (disch := omega) only [upA, upJ, upR, vu_n]); exact pRa v h0
  · intro v h0; (try simp (disch := omega) only [upA, upJ, upR, vu_n] at h0); (try simp (disch := omega) only [upA, upJ, upR, vu_n]); exact pRb v h0
  · intro v h0; (try simp (disch := omega) only [upA, upJ, upR, vu_n] at h0); (try simp (disch := omega) only [upA, upJ, upR, vu_n]); exact pRl v h0
  · intro v h0; (try simp (disch := omega) only [upA, upJ, upR, vu_n] at h0); (try simp (disch := omega) only [upA, upJ, upR, vu_n]); exact pRt v h0
  · intro u v h0 h1; (try simp (disch := omega) only [upA, upJ, upR, vu_n] at h0 h1); (try simp (disch := omega) only [upA, upJ, upR, vu_n]); exact pMe u v h0 h1
  · intro v h0; (try simp (disch := omega) only [upA, upJ, upR, vu_n] at h0); (try simp (disch := omega) only [upA, upJ, upR, vu_n]); exact pBa v h0
  · intro v h0; (try simp (disch := omega) only [upA, upJ, upR, vu_n] at h0); (try simp (disch := omega) only [upA, upJ, upR, vu_n]); exact pBt v h0
theorem rg_We {N : Nat → Nat → Nat} (h : RG I N Z) (hi : i < 10) : RG (am_up I (19 + i) 3 (nI q)) (am_up N 3 i q) Z := by
  obtain ⟨pW, pH, pT, pS, pL, pV, pR, pCr, pWl, pWy, pFo, pSh, pNo, pX, pY, pWe, pSa, pKi, pAn, pDg, pTh, pDr, pSp, pSk, pS0, pSx, pSy, pSt, pRa, pRb, pRl, pRt, pMe, pBa, pBt⟩ := h
  refine ⟨?_, ?_, ?_, ?_, ?_, ?_, ?_, ?_, ?_, ?_, ?_, ?_, ?_, ?_, ?_, ?_, ?_, ?_, ?_, ?_, ?_, ?_, ?_, ?_, ?_, ?_, ?_, ?_, ?_, ?_, ?_, ?_, ?_, ?_, ?_⟩
  · (try simp (disch := omega) only [upA, upJ, upR, vu_n]); exact pW
  · (try simp (disch := omega) only [upA, upJ, upR, vu_n]); exact pH
  · (try simp (disch := omega) only [upA, upJ, upR, vu_n]); exact pT
  · (try simp (disch := omega) only [upA, upJ, upR, vu_n]); exact pS
  · (try simp (disch := omega) only [upA, upJ, upR, vu_n]); exact pL
  · (try simp (disch := omega) only [upA, upJ, upR, vu_n]); exact pV
  · (try simp (disch := omega) only [upA, upJ, upR, vu_n]); exact pR
  · intro v h0; (try simp (disch := omega) only [upA, upJ, upR, vu_n] at h0); (try simp (disch := omega) only [upA, upJ, upR, vu_n]); exact pCr v h0
  · intro v h0; (try simp (disch := omega) only [upA, upJ, upR, vu_n] at h0); (try simp (disch := omega) only [upA, upJ, upR, vu_n]); exact pWl v h0
  · intro v h0; (try simp (disch := omega) only [upA, upJ, upR, vu_n] at h0); (try simp (disch := omega) only [upA, upJ, upR, vu_n]); exact pWy v h0
  · intro v h0; (try simp (disch := omega) only [upA, upJ, upR, vu_n] at h0); (try simp (disch := omega) only [upA, upJ, upR, vu_n]); exact pFo v h0
  · intro v h0; (try simp (disch := omega) only [upA, upJ, upR, vu_n] at h0); (try simp (disch := omega) only [upA, upJ, upR, vu_n]); exact pSh v h0
  · intro v h0; (try simp (disch := omega) only [upA, upJ, upR, vu_n] at h0); (try simp (disch := omega) only [upA, upJ, upR, vu_n]); exact pNo v h0
  · intro v h0; (try simp (disch := omega) only [upA, upJ, upR, vu_n] at h0); (try simp (disch := omega) only [upA, upJ, upR, vu_n]); exact pX v h0
  · intro v h0; (try simp (disch := omega) only [upA, upJ, upR, vu_n] at h0); (try simp (disch := omega) only [upA, upJ, upR, vu_n]); exact pY v h0
  · intro v h0; by_cases e : v = i
    · subst e; simp only [upS, vu_s]
    · (try simp (disch := omega) only [upA, upJ, upR, vu_n] at h0); (try simp (disch := omega) only [upA, upJ, upR, vu_n]); exact pWe v h0
  · intro v h0; (try simp (disch := omega) only [upA, upJ, upR, vu_n] at h0); (try simp (disch := omega) only [upA, upJ, upR, vu_n]); exact pSa v h0
  · intro v h0; (try simp (disch := omega) only [upA, upJ, upR, vu_n] at h0); (try simp (disch := omega) only [upA, upJ, upR, vu_n]); exact pKi v h0
  · intro v h0; (try simp (disch := omega) only [upA, upJ, upR, vu_n] at h0); (try simp (disch := omega) only [upA, upJ, upR, vu_n]); exact pAn v h0
  · intro v h0; (try simp (disch := omega) only [upA, upJ, upR, vu_n] at h0); (try simp (disch := omega) only [upA, upJ, upR, vu_n]); exact pDg v h0
  · intro v h0; (try simp (disch := omega) only [upA, upJ, upR, vu_n] at h0); (try simp (disch := omega) only [upA, upJ, upR, vu_n]); exact pTh v h0
  · intro v h0; (try simp (disch := omega) only [upA, upJ, upR, vu_n] at h0); (try simp (disch := omega) only [upA, upJ, upR, vu_n]); exact pDr v h0
  · intro v h0; (try simp (disch := omega) only [upA, upJ, upR, vu_n] at h0); (try simp (disch := omega) only [upA, upJ, upR, vu_n]); exact pSp v h0
  · intro v h0; (try simp (disch := omega) only [upA, upJ, upR, vu_n] at h0); (try simp (disch := omega) only [upA, upJ, upR, vu_n]); exact pSk v h0
  · intro v h0 h1; (try simp (disch := omega) only [upA, upJ, upR, vu_n] at h0 h1); (try simp (disch := omega) only [upA, upJ, upR, vu_n]); exact pS0 v h0 h1
  · intro v h0 h1; (try simp (disch := omega) only [upA, upJ, upR, vu_n] at h0 h1); (try simp (disch := omega) only [upA, upJ, upR, vu_n]); exact pSx v h0 h1
  · intro v h0 h1; (try simp (disch := omega) only [upA, upJ, upR, vu_n] at h0 h1); (try simp (disch := omega) only [upA, upJ, upR, vu_n]); exact pSy v h0 h1
  · intro v h0 h1; (try simp (disch := omega) only [upA, upJ, upR, vu_n] at h0 h1); (try simp (disch := omega) only [upA, upJ, upR, vu_n]); exact pSt v h0 h1
  · intro v h0; (try simp (disch := omega) only [upA, upJ, upR, vu_n] at h0); (try simp (disch := omega) only [upA, upJ, upR, vu_n]); exact pRa v h0
  · intro v h0; (try simp (disch := omega) only [upA, upJ, upR, vu_n] at h0); (try simp (disch := omega) only [upA, upJ, upR, vu_n]); exact pRb v h0
  · intro v h0; (try simp (disch := omega) only [upA, upJ, upR, vu_n] at h0); (try simp (disch := omega) only [upA, upJ, upR, vu_n]); exact pRl v h0
  · intro v h0; (try simp (disch := omega) only [upA, upJ, upR, vu_n] at h0); (try simp (disch := omega) only [upA, upJ, upR, vu_n]); exact pRt v h0
  · intro u v h0 h1; (try simp (disch := omega) only [upA, upJ, upR, vu_n] at h0 h1); (try simp (disch := omega) only [upA, upJ, upR, vu_n]); exact pMe u v h0 h1
  · intro v h0; (try simp (disch := omega) only [upA, upJ, upR, vu_n] at h0); (try simp (disch := omega) only [upA, upJ, upR, vu_n]); exact pBa v h0
  · intro v h0; (try simp (disch := omega) only [upA, upJ, upR, vu_n] at h0); (try simp (disch := omega) only [upA, upJ, upR, vu_n]); exact pBt v h0
theorem rg_Sa {N : Nat → Nat → Nat} (h : RG I N Z) (hi : i < 10) : RG (am_up I (19 + i) 4 (nI q)) (am_up N 4 i q) Z := by
  obtain ⟨pW, pH, pT, pS, pL, pV, pR, pCr, pWl, pWy, pFo, pSh, pNo, pX, pY, pWe, pSa, pKi, pAn, pDg, pTh, pDr, pSp, pSk, pS0, pSx, pSy, pSt, pRa, pRb, pRl, pRt, pMe, pBa, pBt⟩ := h
  refine ⟨?_, ?_, ?_, ?_, ?_, ?_, ?_, ?_, ?_, ?_, ?_, ?_, ?_, ?_, ?_, ?_, ?_, ?_, ?_, ?_, ?_, ?_, ?_, ?_, ?_, ?_, ?_, ?_, ?_, ?_, ?_, ?_, ?_, ?_, ?_⟩
  · (try simp (disch := omega) only [upA, upJ, upR, vu_n]); exact pW
  · (try simp (disch := omega) only [upA, upJ, upR, vu_n]); exact pH
  · (try simp (disch := omega) only [upA, upJ, upR, vu_n]); exact pT
  · (try simp (disch := omega) only [upA, upJ, upR, vu_n]); exact pS
  · (try simp (disch := omega) only [upA, upJ, upR, vu_n]); exact pL
  · (try simp (disch := omega) only [upA, upJ, upR, vu_n]); exact pV
  · (try simp (disch := omega) only [upA, upJ, upR, vu_n]); exact pR
  · intro v h0; (try simp (disch := omega) only [upA, upJ, upR, vu_n] at h0); (try simp (disch := omega) only [upA, upJ, upR, vu_n]); exact pCr v h0
  · intro v h0; (try simp (disch := omega) only [upA, upJ, upR, vu_n] at h0); (try simp (disch := omega) only [upA, upJ, upR, vu_n]); exact pWl v h0
  · intro v h0; (try simp (disch := omega) only [upA, upJ, upR, vu_n] at h0); (try simp (disch := omega) only [upA, upJ, upR, vu_n]); exact pWy v h0
  · intro v h0; (try simp (disch := omega) only [upA, upJ, upR, vu_n] at h0); (try simp (disch := omega) only [upA, upJ, upR, vu_n]); exact pFo v h0
  · intro v h0; (try simp (disch := omega) only [upA, upJ, upR, vu_n] at h0); (try simp (disch := omega) only [upA, upJ, upR, vu_n]); exact pSh v h0
  · intro v h0; (try simp (disch := omega) only [upA, upJ, upR, vu_n] at h0); (try simp (disch := omega) only [upA, upJ, upR, vu_n]); exact pNo v h0
  · intro v h0; (try simp (disch := omega) only [upA, upJ, upR, vu_n] at h0); (try simp (disch := omega) only [upA, upJ, upR, vu_n]); exact pX v h0
  · intro v h0; (try simp (disch := omega) only [upA, upJ, upR, vu_n] at h0); (try simp (disch := omega) only [upA, upJ, upR, vu_n]); exact pY v h0
  · intro v h0; (try simp (disch := omega) only [upA, upJ, upR, vu_n] at h0); (try simp (disch := omega) only [upA, upJ, upR, vu_n]); exact pWe v h0
  · intro v h0; by_cases e : v = i
    · subst e; simp only [upS, vu_s]
    · (try simp (disch := omega) only [upA, upJ, upR, vu_n] at h0); (try simp (disch := omega) only [upA, upJ, upR, vu_n]); exact pSa v h0
  · intro v h0; (try simp (disch := omega) only [upA, upJ, upR, vu_n] at h0); (try simp (disch := omega) only [upA, upJ, upR, vu_n]); exact pKi v h0
  · intro v h0; (try simp (disch := omega) only [upA, upJ, upR, vu_n] at h0); (try simp (disch := omega) only [upA, upJ, upR, vu_n]); exact pAn v h0
  · intro v h0; (try simp (disch := omega) only [upA, upJ, upR, vu_n] at h0); (try simp (disch := omega) only [upA, upJ, upR, vu_n]); exact pDg v h0
  · intro v h0; (try simp (disch := omega) only [upA, upJ, upR, vu_n] at h0); (try simp (disch := omega) only [upA, upJ, upR, vu_n]); exact pTh v h0
  · intro v h0; (try simp (disch := omega) only [upA, upJ, upR, vu_n] at h0); (try simp (disch := omega) only [upA, upJ, upR, vu_n]); exact pDr v h0
  · intro v h0; (try simp (disch := omega) only [upA, upJ, upR, vu_n] at h0); (try simp (disch := omega) only [upA, upJ, upR, vu_n]); exact pSp v h0
  · intro v h0; (try simp (disch := omega) only [upA, upJ, upR, vu_n] at h0); (try simp (disch := omega) only [upA, upJ, upR, vu_n]); exact pSk v h0
  · intro v h0 h1; (try simp (disch := omega) only [upA, upJ, upR, vu_n] at h0 h1); (try simp (disch := omega) only [upA, upJ, upR, vu_n]); exact pS0 v h0 h1
  · intro v h0 h1; (try simp (disch := omega) only [upA, upJ, upR, vu_n] at h0 h1); (try simp (disch := omega) only [upA, upJ, upR, vu_n]); exact pSx v h0 h1
  · intro v h0 h1; (try simp (disch := omega) only [upA, upJ, upR, vu_n] at h0 h1); (try simp (disch := omega) only [upA, upJ, upR, vu_n]); exact pSy v h0 h1
  · intro v h0 h1; (try simp (disch := omega) only [upA, upJ, upR, vu_n] at h0 h1); (try simp (disch := omega) only [upA, upJ, upR, vu_n]); exact pSt v h0 h1
  · intro v h0; (try simp (disch := omega) only [upA, upJ, upR, vu_n] at h0); (try simp (disch := omega) only [upA, upJ, upR, vu_n]); exact pRa v h0
  · intro v h0; (try simp (disch := omega) only [upA, upJ, upR, vu_n] at h0); (try simp (disch := omega) only [upA, upJ, upR, vu_n]); exact pRb v h0
  · intro v h0; (try simp (disch := omega) only [upA, upJ, upR, vu_n] at h0); (try simp (disch := omega) only [upA, upJ, upR, vu_n]); exact pRl v h0
  · intro v h0; (try simp (disch := omega) only [upA, upJ, upR, vu_n] at h0); (try simp (disch := omega) only [upA, upJ, upR, vu_n]); exact pRt v h0
  · intro u v h0 h1; (try simp (disch := omega) only [upA, upJ, upR, vu_n] at h0 h1); (try simp (disch := omega) only [upA, upJ, upR, vu_n]); exact pMe u v h0 h1
  · intro v h0; (try simp (disch := omega) only [upA, upJ, upR, vu_n] at h0); (try simp (disch := omega) only [upA, upJ, upR, vu_n]); exact pBa v h0
  · intro v h0; (try simp (disch := omega) only [upA, upJ, upR, vu_n] at h0); (try simp (disch := omega) only [upA, upJ, upR, vu_n]); exact pBt v h0
theorem rg_Ki {N : Nat → Nat → Nat} (h : RG I N Z) (hi : i < 10) : RG (am_up I (19 + i) 5 (nI q)) (am_up N 5 i q) Z := by
  obtain ⟨pW, pH, pT, pS, pL, pV, pR, pCr, pWl, pWy, pFo, pSh, pNo, pX, pY, pWe, pSa, pKi, pAn, pDg, pTh, pDr, pSp, pSk, pS0, pSx, pSy, pSt, pRa, pRb, pRl, pRt, pMe, pBa, pBt⟩ := h
  refine ⟨?_, ?_, ?_, ?_, ?_, ?_, ?_, ?_, ?_, ?_, ?_, ?_, ?_, ?_, ?_, ?_, ?_, ?_, ?_, ?_, ?_, ?_, ?_, ?_, ?_, ?_, ?_, ?_, ?_, ?_, ?_, ?_, ?_, ?_, ?_⟩
  · (try simp (disch := omega) only [upA, upJ, upR, vu_n]); exact pW
  · (try simp (disch := omega) only [upA, upJ, upR, vu_n]); exact pH
  · (try simp (disch := omega) only [upA, upJ, upR, vu_n]); exact pT
  · (try simp (disch := omega) only [upA, upJ, upR, vu_n]); exact pS
  · (try simp (disch := omega) only [upA, upJ, upR, vu_n]); exact pL
  · (try simp (disch := omega) only [upA, upJ, upR, vu_n]); exact pV
  · (try simp (disch := omega) only [upA, upJ, upR, vu_n]); exact pR
  · intro v h0; (try simp (disch := omega) only [upA, upJ, upR, vu_n] at h0); (try simp (disch := omega) only [upA, upJ, upR, vu_n]); exact pCr v h0
  · intro v h0; (try simp (disch := omega) only [upA, upJ, upR, vu_n] at h0); (try simp (disch := omega) only [upA, upJ, upR, vu_n]); exact pWl v h0
  · intro v h0; (try simp (disch := omega) only [upA, upJ, upR, vu_n] at h0); (try simp (disch := omega) only [upA, upJ, upR, vu_n]); exact pWy v h0
  · intro v h0; (try simp (disch := omega) only [upA, upJ, upR, vu_n] at h0); (try simp (disch := omega) only [upA, upJ, upR, vu_n]); exact pFo v h0
  · intro v h0; (try simp (disch := omega) only [upA, upJ, upR, vu_n] at h0); (try simp (disch := omega) only [upA, upJ, upR, vu_n]); exact pSh v h0
  · intro v h0; (try simp (disch := omega) only [upA, upJ, upR, vu_n] at h0); (try simp (disch := omega) only [upA, upJ, upR, vu_n]); exact pNo v h0
  · intro v h0; (try simp (disch := omega) only [upA, upJ, upR, vu_n] at h0); (try simp (disch := omega) only [upA, upJ, upR, vu_n]); exact pX v h0
  · intro v h0; (try simp (disch := omega) only [upA, upJ, upR, vu_n] at h0); (try simp (disch := omega) only [upA, upJ, upR, vu_n]); exact pY v h0
  · intro v h0; (try simp (disch := omega) only [upA, upJ, upR, vu_n] at h0); (try simp (disch := omega) only [upA, upJ, upR, vu_n]); exact pWe v h0
  · intro v h0; (try simp (disch := omega) only [upA, upJ, upR, vu_n] at h0); (try simp (disch := omega) only [upA, upJ, upR, vu_n]); exact pSa v h0
  · intro v h0; by_cases e : v = i
    · subst e; simp only [upS, vu_s]
    · (try simp (disch := omega) only [upA, upJ, upR, vu_n] at h0); (try simp (disch := omega) only [upA, upJ, upR, vu_n]); exact pKi v h0
  · intro v h0; (try simp (disch := omega) only [upA, upJ, upR, vu_n] at h0); (try simp (disch := omega) only [upA, upJ, upR, vu_n]); exact pAn v h0
  · intro v h0; (try simp (disch := omega) only [upA, upJ, upR, vu_n] at h0); (try simp (disch := omega) only [upA, upJ, upR, vu_n]); exact pDg v h0
  · intro v h0; (try simp (disch := omega) only [upA, upJ, upR, vu_n] at h0); (try simp (disch := omega) only [upA, upJ, upR, vu_n]); exact pTh v h0
  · intro v h0; (try simp (disch := omega) only [upA, upJ, upR, vu_n] at h0); (try simp (disch := omega) only [upA, upJ, upR, vu_n]); exact pDr v h0
  · intro v h0; (try simp (disch := omega) only [upA, upJ, upR, vu_n] at h0); (try simp (disch := omega) only [upA, upJ, upR, vu_n]); exact pSp v h0
  · intro v h0; (try simp (disch := omega) only [upA, upJ, upR, vu_n] at h0); (try simp (disch := omega) only [upA, upJ, upR, vu_n]); exact pSk v h0
  · intro v h0 h1; (try simp (disch := omega) only [upA, upJ, upR, vu_n] at h0 h1); (try simp (disch := omega) only [upA, upJ, upR, vu_n]); exact pS0 v h0 h1
  · intro v h0 h1; (try simp (disch := omega) only [upA, upJ, upR, vu_n] at h0 h1); (try simp (disch := omega) only [upA, upJ, upR, vu_n]); exact pSx v h0 h1
  · intro v h0 h1; (try simp (disch := omega) only [upA, upJ, upR, vu_n] at h0 h1); (try simp (disch := omega) only [upA, upJ, upR, vu_n]); exact pSy v h0 h1
  · intro v h0 h1; (try simp (disch := omega) only [upA, upJ, upR, vu_n] at h0 h1); (try simp (disch := omega) only [upA, upJ, upR, vu_n]); exact pSt v h0 h1
  · intro v h0; (try simp (disch := omega) only [upA, upJ, upR, vu_n] at h0); (try simp (disch := omega) only [upA, upJ, upR, vu_n]); exact pRa v h0
  · intro v h0; (try simp (disch := omega) only [upA, upJ, upR, vu_n] at h0); (try simp (disch := omega) only [upA, upJ, upR, vu_n]); exact pRb v h0
  · intro v h0; (try simp (disch := omega) only [upA, upJ, upR, vu_n] at h0); (try simp (disch := omega) only [upA, upJ, upR, vu_n]); exact pRl v h0
  · intro v h0; (try simp (disch := omega) only [upA, upJ, upR, vu_n] at h0); (try simp (disch := omega) only [upA, upJ, upR, vu_n]); exact pRt v h0
  · intro u v h0 h1; (try simp (disch := omega) only [upA, upJ, upR, vu_n] at h0 h1); (try simp (disch := omega) only [upA, upJ, upR, vu_n]); exact pMe u v h0 h1
  · intro v h0; (try simp (disch := omega) only [upA, upJ, upR, vu_n] at h0); (try simp (disch := omega) only [upA, upJ, upR, vu_n]); exact pBa v h0
  · intro v h0; (try simp (disch := omega) only [upA, upJ, upR, vu_n] at h0); (try simp (disch := omega) only [upA, upJ, upR, vu_n]); exact pBt v h0
theorem rg_An {N : Nat → Nat → Nat} (h : RG I N Z) (hi : i < 10) (hq : q ≤ 1) : RG (am_up I (19 + i) 6 (nI q)) (am_up N 6 i q) Z := by
  obtain ⟨pW, pH, pT, pS, pL, pV, pR, pCr, pWl, pWy, pFo, pSh, pNo, pX, pY, pWe, pSa, pKi, pAn, pDg, pTh, pDr, pSp, pSk, pS0, pSx, pSy, pSt, pRa, pRb, pRl, pRt, pMe, pBa, pBt⟩ := h
  refine ⟨?_, ?_, ?_, ?_, ?_, ?_, ?_, ?_, ?_, ?_, ?_, ?_, ?_, ?_, ?_, ?_, ?_, ?_, ?_, ?_, ?_, ?_, ?_, ?_, ?_, ?_, ?_, ?_, ?_, ?_, ?_, ?_, ?_, ?_, ?_⟩
  · (try simp (disch := omega) only [upA, upJ, upR, vu_n]); exact pW
  · (try simp (disch := omega) only [upA, upJ, upR, vu_n]); exact pH
  · (try simp (disch := omega) only [upA, upJ, upR, vu_n]); exact pT
  · (try simp (disch := omega) only [upA, upJ, upR, vu_n]); exact pS
  · (try simp (disch := omega) only [upA, upJ, upR, vu_n]); exact pL
  · (try simp (disch := omega) only [upA, upJ, upR, vu_n]); exact pV
  · (try simp (disch := omega) only [upA, upJ, upR, vu_n]); exact pR
  · intro v h0; (try simp (disch := omega) only [upA, upJ, upR, vu_n] at h0); (try simp (disch := omega) only [upA, upJ, upR, vu_n]); exact pCr v h0
  · intro v h0; (try simp (disch := omega) only [upA, upJ, upR, vu_n] at h0); (try simp (disch := omega) only [upA, upJ, upR, vu_n]); exact pWl v h0
  · intro v h0; (try simp (disch := omega) only [upA, upJ, upR, vu_n] at h0); (try simp (disch := omega) only [upA, upJ, upR, vu_n]); exact pWy v h0
  · intro v h0; (try simp (disch := omega) only [upA, upJ, upR, vu_n] at h0); (try simp (disch := omega) only [upA, upJ, upR, vu_n]); exact pFo v h0
  · intro v h0; (try simp (disch := omega) only [upA, upJ, upR, vu_n] at h0); (try simp (disch := omega) only [upA, upJ, upR, vu_n]); exact pSh v h0
  · intro v h0; (try simp (disch := omega) only [upA, upJ, upR, vu_n] at h0); (try simp (disch := omega) only [upA, upJ, upR, vu_n]); exact pNo v h0
  · intro v h0; (try simp (disch := omega) only [upA, upJ, upR, vu_n] at h0); (try simp (disch := omega) only [upA, upJ, upR, vu_n]); exact pX v h0
  · intro v h0; (try simp (disch := omega) only [upA, upJ, upR, vu_n] at h0); (try simp (disch := omega) only [upA, upJ, upR, vu_n]); exact pY v h0
  · intro v h0; (try simp (disch := omega) only [upA, upJ, upR, vu_n] at h0); (try simp (disch := omega) only [upA, upJ, upR, vu_n]); exact pWe v h0
  · intro v h0; (try simp (disch := omega) only [upA, upJ, upR, vu_n] at h0); (try simp (disch := omega) only [upA, upJ, upR, vu_n]); exact pSa v h0
  · intro v h0; (try simp (disch := omega) only [upA, upJ, upR, vu_n] at h0); (try simp (disch := omega) only [upA, upJ, upR, vu_n]); exact pKi v h0
  · intro v h0; by_cases e : v = i
    · subst e; simp only [upS, vu_s]
    · (try simp (disch := omega) only [upA, upJ, upR, vu_n] at h0); (try simp (disch := omega) only [upA, upJ, upR, vu_n]); exact pAn v h0
  · intro v h0; (try simp (disch := omega) only [upA, upJ, upR, vu_n] at h0); (try simp (disch := omega) only [upA, upJ, upR, vu_n]); exact pDg v h0
  · intro v h0; (try simp (disch := omega) only [upA, upJ, upR, vu_n] at h0); (try simp (disch := omega) only [upA, upJ, upR, vu_n]); exact pTh v h0
  · intro v h0; (try simp (disch := omega) only [upA, upJ, upR, vu_n] at h0); (try simp (disch := omega) only [upA, upJ, upR, vu_n]); exact pDr v h0
  · intro v h0; (try simp (disch := omega) only [upA, upJ, upR, vu_n] at h0); (try simp (disch := omega) only [upA, upJ, upR, vu_n]); exact pSp v h0
  · intro v h0; (try simp (disch := omega) only [upA, upJ, upR, vu_n] at h0); (try simp (disch := omega) only [upA, upJ, upR, vu_n]); exact pSk v h0
  · intro v h0 h1; (try simp (disch := omega) only [upA, upJ, upR, vu_n] at h0 h1); (try simp (disch := omega) only [upA, upJ, upR, vu_n]); exact pS0 v h0 h1
  · intro v h0 h1; (try simp (disch := omega) only [upA, upJ, upR, vu_n] at h0 h1); (try simp (disch := omega) only [upA, upJ, upR, vu_n]); exact pSx v h0 h1
  · intro v h0 h1; (try simp (disch := omega) only [upA, upJ, upR, vu_n] at h0 h1); (try simp (disch := omega) only [upA, upJ, upR, vu_n]); exact pSy v h0 h1
  · intro v h0 h1; (try simp (disch := omega) only [upA, upJ, upR, vu_n] at h0 h1); (try simp (disch := omega) only [upA, upJ, upR, vu_n]); exact pSt v h0 h1
  · intro v h0; (try simp (disch := omega) only [upA, upJ, upR, vu_n] at h0); (try simp (disch := omega) only [upA, upJ, upR, vu_n]); exact pRa v h0
  · intro v h0; (try simp (disch := omega) only [upA, upJ, upR, vu_n] at h0); (try simp (disch := omega) only [upA, upJ, upR, vu_n]); exact pRb v h0
  · intro v h0; (try simp (disch := omega) only [upA, upJ, upR, vu_n] at h0); (try simp (disch := omega) only [upA, upJ, upR, vu_n]); exact pRl v h0
  · intro v h0; (try simp (disch := omega) only [upA, upJ, upR, vu_n] at h0); (try simp (disch := omega) only [upA, upJ, upR, vu_n]); exact pRt v h0
  · intro u v h0 h1; (try simp (disch := omega) only [upA, upJ, upR, vu_n] at h0 h1); (try simp (disch := omega) only [upA, upJ, upR, vu_n]); exact pMe u v h0 h1
  · intro v h0; by_cases e : v = i
    · subst e; rw [upS]; exact bl_n hq
    · (try simp (disch := omega) only [upA, upJ, upR, vu_n] at h0); (try simp (disch := omega) only [upA, upJ, upR, vu_n]); exact pBa v h0
  · intro v h0; (try simp (disch := omega) only [upA, upJ, upR, vu_n] at h0); (try simp (disch := omega) only [upA, upJ, upR, vu_n]); exact pBt v h0
theorem rg_Dg {N : Nat → Nat → Nat} (h : RG I N Z) (hi : i < 10) : RG (am_up I (19 + i) 7 (b)) N (am_up Z 1 i b) := by
  obtain ⟨pW, pH, pT, pS, pL, pV, pR, pCr, pWl, pWy, pFo, pSh, pNo, pX, pY, pWe, pSa, pKi, pAn, pDg, pTh, pDr, pSp, pSk, pS0, pSx, pSy, pSt, pRa, pRb, pRl, pRt, pMe, pBa, pBt⟩ := h
  refine ⟨?_, ?_, ?_, ?_, ?_, ?_, ?_, ?_, ?_, ?_, ?_, ?_, ?_, ?_, ?_, ?_, ?_, ?_, ?_, ?_, ?_, ?_, ?_, ?_, ?_, ?_, ?_, ?_, ?_, ?_, ?_, ?_, ?_, ?_, ?_⟩
  · (try simp (disch := omega) only [upA, upJ, upR, vu_n]); exact pW
  · (try simp (disch := omega) only [upA, upJ, upR, vu_n]); exact pH
  · (try simp (disch := omega) only [upA, upJ, upR, vu_n]); exact pT
  · (try simp (disch := omega) only [upA, upJ, upR, vu_n]); exact pS
  · (try simp (disch := omega) only [upA, upJ, upR, vu_n]); exact pL
  · (try simp (disch := omega) only [upA, upJ, upR, vu_n]); exact pV
  · (try simp (disch := omega) only [upA, upJ, upR, vu_n]); exact pR
  · intro v h0; (try simp (disch := omega) only [upA, upJ, upR, vu_n] at h0); (try simp (disch := omega) only [upA, upJ, upR, vu_n]); exact pCr v h0
  · intro v h0; (try simp (disch := omega) only [upA, upJ, upR, vu_n] at h0); (try simp (disch := omega) only [upA, upJ, upR, vu_n]); exact pWl v h0
  · intro v h0; (try simp (disch := omega) only [upA, upJ, upR, vu_n] at h0); (try simp (disch := omega) only [upA, upJ, upR, vu_n]); exact pWy v h0
  · intro v h0; (try simp (disch := omega) only [upA, upJ, upR, vu_n] at h0); (try simp (disch := omega) only [upA, upJ, upR, vu_n]); exact pFo v h0
  · intro v h0; (try simp (disch := omega) only [upA, upJ, upR, vu_n] at h0); (try simp (disch := omega) only [upA, upJ, upR, vu_n]); exact pSh v h0
  · intro v h0; (try simp (disch := omega) only [upA, upJ, upR, vu_n] at h0); (try simp (disch := omega) only [upA, upJ, upR, vu_n]); exact pNo v h0
  · intro v h0; (try simp (disch := omega) only [upA, upJ, upR, vu_n] at h0); (try simp (disch := omega) only [upA, upJ, upR, vu_n]); exact pX v h0
  · intro v h0; (try simp (disch := omega) only [upA, upJ, upR, vu_n] at h0); (try simp (disch := omega) only [upA, upJ, upR, vu_n]); exact pY v h0
  · intro v h0; (try simp (disch := omega) only [upA, upJ, upR, vu_n] at h0); (try simp (disch := omega) only [upA, upJ, upR, vu_n]); exact pWe v h0
  · intro v h0; (try simp (disch := omega) only [upA, upJ, upR, vu_n] at h0); (try simp (disch := omega) only [upA, upJ, upR, vu_n]); exact pSa v h0
  · intro v h0; (try simp (disch := omega) only [upA, upJ, upR, vu_n] at h0); (try simp (disch := omega) only [upA, upJ, upR, vu_n]); exact pKi v h0
  · intro v h0; (try simp (disch := omega) only [upA, upJ, upR, vu_n] at h0); (try simp (disch := omega) only [upA, upJ, upR, vu_n]); exact pAn v h0
  · intro v h0; by_cases e : v = i
    · subst e; simp only [upS, vu_s]
    · (try simp (disch := omega) only [upA, upJ, upR, vu_n] at h0); (try simp (disch := omega) only [upA, upJ, upR, vu_n]); exact pDg v h0
  · intro v h0; (try simp (disch := omega) only [upA, upJ, upR, vu_n] at h0); (try simp (disch := omega) only [upA, upJ, upR, vu_n]); exact pTh v h0
  · intro v h0; (try simp (disch := omega) only [upA, upJ, upR, vu_n] at h0); (try simp (disch := omega) only [upA, upJ, upR, vu_n]); exact pDr v h0
  · intro v h0; (try simp (disch := omega) only [upA, upJ, upR, vu_n] at h0); (try simp (disch := omega) only [upA, upJ, upR, vu_n]); exact pSp v h0
  · intro v h0; (try simp (disch := omega) only [upA, upJ, upR, vu_n] at h0); (try simp (disch := omega) only [upA, upJ, upR, vu_n]); exact pSk v h0
  · intro v h0 h1; (try simp (disch := omega) only [upA, upJ, upR, vu_n] at h0 h1); (try simp (disch := omega) only [upA, upJ, upR, vu_n]); exact pS0 v h0 h1
  · intro v h0 h1; (try simp (disch := omega) only [upA, upJ, upR, vu_n] at h0 h1); (try simp (disch := omega) only [upA, upJ, upR, vu_n]); exact pSx v h0 h1
  · intro v h0 h1; (try simp (disch := omega) only [upA, upJ, upR, vu_n] at h0 h1); (try simp (disch := omega) only [upA, upJ, upR, vu_n]); exact pSy v h0 h1
  · intro v h0 h1; (try simp (disch := omega) only [upA, upJ, upR, vu_n] at h0 h1); (try simp (disch := omega) only [upA, upJ, upR, vu_n]); exact pSt v h0 h1
  · intro v h0; (try simp (disch := omega) only [upA, upJ, upR, vu_n] at h0); (try simp (disch := omega) only [upA, upJ, upR, vu_n]); exact pRa v h0
  · intro v h0; (try simp (disch := omega) only [upA, upJ, upR, vu_n] at h0); (try simp (disch := omega) only [upA, upJ, upR, vu_n]); exact pRb v h0
  · intro v h0; (try simp (disch := omega) only [upA, upJ, upR, vu_n] at h0); (try simp (disch := omega) only [upA, upJ, upR, vu_n]); exact pRl v h0
  · intro v h0; (try simp (disch := omega) only [upA, upJ, upR, vu_n] at h0); (try simp (disch := omega) only [upA, upJ, upR, vu_n]); exact pRt v h0
  · intro u v h0 h1; (try simp (disch := omega) only [upA, upJ, upR, vu_n] at h0 h1); (try simp (disch := omega) only [upA, upJ, upR, vu_n]); exact pMe u v h0 h1
  · intro v h0; (try simp (disch := omega) only [upA, upJ, upR, vu_n] at h0); (try simp (disch := omega) only [upA, upJ, upR, vu_n]); exact pBa v h0
  · intro v h0; (try simp (disch := omega) only [upA, upJ, upR, vu_n] at h0); (try simp (disch := omega) only [upA, upJ, upR, vu_n]); exact pBt v h0
theorem rg_Th {N : Nat → Nat → Nat} (h : RG I N Z) (hi : i < 10) : RG (am_up I (19 + i) 8 (b)) N (am_up Z 2 i b) := by
  obtain ⟨pW, pH, pT, pS, pL, pV, pR, pCr, pWl, pWy, pFo, pSh, pNo, pX, pY, pWe, pSa, pKi, pAn, pDg, pTh, pDr, pSp, pSk, pS0, pSx, pSy, pSt, pRa, pRb, pRl, pRt, pMe, pBa, pBt⟩ := h
  refine ⟨?_, ?_, ?_, ?_, ?_, ?_, ?_, ?_, ?_, ?_, ?_, ?_, ?_, ?_, ?_, ?_, ?_, ?_, ?_, ?_, ?_, ?_, ?_, ?_, ?_, ?_, ?_, ?_, ?_, ?_, ?_, ?_, ?_, ?_, ?_⟩
  · (try simp (disch := omega) only [upA, upJ, upR, vu_n]); exact pW
  · (try simp (disch := omega) only [upA, upJ, upR, vu_n]); exact pH
  · (try simp (disch := omega) only [upA, upJ, upR, vu_n]); exact pT
  · (try simp (disch := omega) only [upA, upJ, upR, vu_n]); exact pS
  · (try simp (disch := omega) only [upA, upJ, upR, vu_n]); exact pL
  · (try simp (disch := omega) only [upA, upJ, upR, vu_n]); exact pV
  · (try simp (disch := omega) only [upA, upJ, upR, vu_n]); exact pR
  · intro v h0; (try simp (disch := omega) only [upA, upJ, upR, vu_n] at h0); (try simp (disch := omega) only [upA, upJ, upR, vu_n]); exact pCr v h0
  · intro v h0; (try simp (disch := omega) only [upA, upJ, upR, vu_n] at h0); (try simp (disch := omega) only [upA, upJ, upR, vu_n]); exact pWl v h0
  · intro v h0; (try simp (disch := omega) only [upA, upJ, upR, vu_n] at h0); (try simp (disch := omega) only [upA, upJ, upR, vu_n]); exact pWy v h0
  · intro v h0; (try simp (disch := omega) only [upA, upJ, upR, vu_n] at h0); (try simp (disch := omega) only [upA, upJ, upR, vu_n]); exact pFo v h0
  · intro v h0; (try simp (disch := omega) only [upA, upJ, upR, vu_n] at h0); (try simp (disch := omega) only [upA, upJ, upR, vu_n]); exact pSh v h0
  · intro v h0; (try simp (disch := omega) only [upA, upJ, upR, vu_n] at h0); (try simp (disch := omega) only [upA, upJ, upR, vu_n]); exact pNo v h0
  · intro v h0; (try simp (disch := omega) only [upA, upJ, upR, vu_n] at h0); (try simp (disch := omega) only [upA, upJ, upR, vu_n]); exact pX v h0
  · intro v h0; (try simp (disch := omega) only [upA, upJ, upR, vu_n] at h0); (try simp (disch := omega) only [upA, upJ, upR, vu_n]); exact pY v h0
  · intro v h0; (try simp (disch := omega) only [upA, upJ, upR, vu_n] at h0); (try simp (disch := omega) only [upA, upJ, upR, vu_n]); exact pWe v h0
  · intro v h0; (try simp (disch := omega) only [upA, upJ, upR, vu_n] at h0); (try simp (disch := omega) only [upA, upJ, upR, vu_n]); exact pSa v h0
  · intro v h0; (try simp (disch := omega) only [upA, upJ, upR, vu_n] at h0); (try simp (disch := omega) only [upA, upJ, upR, vu_n]); exact pKi v h0
  · intro v h0; (try simp (disch := omega) only [upA, upJ, upR, vu_n] at h0); (try simp (disch := omega) only [upA, upJ, upR, vu_n]); exact pAn v h0
  · intro v h0; (try simp (disch := omega) only [upA, upJ, upR, vu_n] at h0); (try simp (disch := omega) only [upA, upJ, upR, vu_n]); exact pDg v h0
  · intro v h0; by_cases e : v = i
    · subst e; simp only [upS, vu_s]
    · (try simp (disch := omega) only [upA, upJ, upR, vu_n] at h0); (try simp (disch := omega) only [upA, upJ, upR, vu_n]); exact pTh v h0
  · intro v h0; (try simp (disch := omega) only [upA, upJ, upR, vu_n] at h0); (try simp (disch := omega) only [upA, upJ, upR, vu_n]); exact pDr v h0
  · intro v h0; (try simp (disch := omega) only [upA, upJ, upR, vu_n] at h0); (try simp (disch := omega) only [upA, upJ, upR, vu_n]); exact pSp v h0
  · intro v h0; (try simp (disch := omega) only [upA, upJ, upR, vu_n] at h0); (try simp (disch := omega) only [upA, upJ, upR, vu_n]); exact pSk v h0
  · intro v h0 h1; (try simp (disch := omega) only [upA, upJ, upR, vu_n] at h0 h1); (try simp (disch := omega) only [upA, upJ, upR, vu_n]); exact pS0 v h0 h1
  · intro v h0 h1; (try simp (disch := omega) only [upA, upJ, upR, vu_n] at h0 h1); (try simp (disch := omega) only [upA, upJ, upR, vu_n]); exact pSx v h0 h1
  · intro v h0 h1; (try simp (disch := omega) only [upA, upJ, upR, vu_n] at h0 h1); (try simp (disch := omega) only [upA, upJ, upR, vu_n]); exact pSy v h0 h1
  · intro v h0 h1; (try simp (disch := omega) only [upA, upJ, upR, vu_n] at h0 h1); (try simp (disch := omega) only [upA, upJ, upR, vu_n]); exact pSt v h0 h1
  · intro v h0; (try simp (disch := omega) only [upA, upJ, upR, vu_n] at h0); (try simp (disch := omega) only [upA, upJ, upR, vu_n]); exact pRa v h0
  · intro v h0; (try simp (disch := omega) only [upA, upJ, upR, vu_n] at h0); (try simp (disch := omega) only [upA, upJ, upR, vu_n]); exact pRb v h0
  · intro v h0; (try simp (disch := omega) only [upA, upJ, upR, vu_n] at h0); (try simp (disch := omega) only [upA, upJ, upR, vu_n]); exact pRl v h0
  · intro v h0; (try simp (disch := omega) only [upA, upJ, upR, vu_n] at h0); (try simp (disch := omega) only [upA, upJ, upR, vu_n]); exact pRt v h0
  · intro u v h0 h1; (try simp (disch := omega) only [upA, upJ, upR, vu_n] at h0 h1); (try simp (disch := omega) only [upA, upJ, upR, vu_n]); exact pMe u v h0 h1
  · intro v h0; (try simp (disch := omega) only [upA, upJ, upR, vu_n] at h0); (try simp (disch := omega) only [upA, upJ, upR, vu_n]); exact pBa v h0
  · intro v h0; (try simp (disch := omega) only [upA, upJ, upR, vu_n] at h0); (try simp (disch := omega) only [upA, upJ, upR, vu_n]); exact pBt v h0
theorem rg_Dr {N : Nat → Nat → Nat} (h : RG I N Z) (hi : i < 10) : RG (am_up I (19 + i) 9 (b)) N (am_up Z 3 i b) := by
  obtain ⟨pW, pH, pT, pS, pL, pV, pR, pCr, pWl, pWy, pFo, pSh, pNo, pX, pY, pWe, pSa, pKi, pAn, pDg, pTh, pDr, pSp, pSk, pS0, pSx, pSy, pSt, pRa, pRb, pRl, pRt, pMe, pBa, pBt⟩ := h
  refine ⟨?_, ?_, ?_, ?_, ?_, ?_, ?_, ?_, ?_, ?_, ?_, ?_, ?_, ?_, ?_, ?_, ?_, ?_, ?_, ?_, ?_, ?_, ?_, ?_, ?_, ?_, ?_, ?_, ?_, ?_, ?_, ?_, ?_, ?_, ?_⟩
  · (try simp (disch := omega) only [upA, upJ, upR, vu_n]); exact pW
  · (try simp (disch := omega) only [upA, upJ, upR, vu_n]); exact pH
  · (try simp (disch := omega) only [upA, upJ, upR, vu_n]); exact pT
  · (try simp (disch := omega) only [upA, upJ, upR, vu_n]); exact pS
  · (try simp (disch := omega) only [upA, upJ, upR, vu_n]); exact pL
  · (try simp (disch := omega) only [upA, upJ, upR, vu_n]); exact pV
  · (try simp (disch := omega) only [upA, upJ, upR, vu_n]); exact pR
  · intro v h0; (try simp (disch := omega) only [upA, upJ, upR, vu_n] at h0); (try simp (disch := omega) only [upA, upJ, upR, vu_n]); exact pCr v h0
  · intro v h0; (try simp (disch := omega) only [upA, upJ, upR, vu_n] at h0); (try simp (disch := omega) only [upA, upJ, upR, vu_n]); exact pWl v h0
  · intro v h0; (try simp (disch := omega) only [upA, upJ, upR, vu_n] at h0); (try simp (disch := omega) only [upA, upJ, upR, vu_n]); exact pWy v h0
  · intro v h0; (try simp (disch := omega) only [upA, upJ, upR, vu_n] at h0); (try simp (disch := omega) only [upA, upJ, upR, vu_n]); exact pFo v h0
  · intro v h0; (try simp (disch := omega) only [upA, upJ, upR, vu_n] at h0); (try simp (disch := omega) only [upA, upJ, upR, vu_n]); exact pSh v h0
  · intro v h0; (try simp (disch := omega) only [upA, upJ, upR, vu_n] at h0); (try simp (disch := omega) only [upA, upJ, upR, vu_n]); exact pNo v h0
  · intro v h0; (try simp (disch := omega) only [upA, upJ, upR, vu_n] at h0); (try simp (disch := omega) only [upA, upJ, upR, vu_n]); exact pX v h0
  · intro v h0; (try simp (disch := omega) only [upA, upJ, upR, vu_n] at h0); (try simp (disch := omega) only [upA, upJ, upR, vu_n]); exact pY v h0
  · intro v h0; (try simp (disch := omega) only [upA, upJ, upR, vu_n] at h0); (try simp (disch := omega) only [upA, upJ, upR, vu_n]); exact pWe v h0
  · intro v h0; (try simp (disch := omega) only [upA, upJ, upR, vu_n] at h0); (try simp (disch := omega) only [upA, upJ, upR, vu_n]); exact pSa v h0
  · intro v h0; (try simp (disch := omega) only [upA, upJ, upR, vu_n] at h0); (try simp (disch := omega) only [upA, upJ, upR, vu_n]); exact pKi v h0
  · intro v h0; (try simp (disch := omega) only [upA, upJ, upR, vu_n] at h0); (try simp (disch := omega) only [upA, upJ, upR, vu_n]); exact pAn v h0
  · intro v h0; (try simp (disch := omega) only [upA, upJ, upR, vu_n] at h0); (try simp (disch := omega) only [upA, upJ, upR, vu_n]); exact pDg v h0
  · intro v h0; (try simp (disch := omega) only [upA, upJ, upR, vu_n] at h0); (try simp (disch := omega) only [upA, upJ, upR, vu_n]); exact pTh v h0
  · intro v h0; by_cases e : v = i
    · subst e; simp only [upS, vu_s]
    · (try simp (disch := omega) only [upA, upJ, upR, vu_n] at h0); (try simp (disch := omega) only [upA, upJ, upR, vu_n]); exact pDr v h0
  · intro v h0; (try simp (disch := omega) only [upA, upJ, upR, vu_n] at h0); (try simp (disch := omega) only [upA, upJ, upR, vu_n]); exact pSp v h0
  · intro v h0; (try simp (disch := omega) only [upA, upJ, upR, vu_n] at h0); (try simp (disch := omega) only [upA, upJ, upR, vu_n]); exact pSk v h0
  · intro v h0 h1; (try simp (disch := omega) only [upA, upJ, upR, vu_n] at h0 h1); (try simp (disch := omega) only [upA, upJ, upR, vu_n]); exact pS0 v h0 h1
  · intro v h0 h1; (try simp (disch := omega) only [upA, upJ, upR, vu_n] at h0 h1); (try simp (disch := omega) only [upA, upJ, upR, vu_n]); exact pSx v h0 h1
  · intro v h0 h1; (try simp (disch := omega) only [upA, upJ, upR, vu_n] at h0 h1); (try simp (disch := omega) only [upA, upJ, upR, vu_n]); exact pSy v h0 h1
  · intro v h0 h1; (try simp (disch := omega) only [upA, upJ, upR, vu_n] at h0 h1); (try simp (disch := omega) only [upA, upJ, upR, vu_n]); exact pSt v h0 h1
  · intro v h0; (try simp (disch := omega) only [upA, upJ, upR, vu_n] at h0); (try simp (disch := omega) only [upA, upJ, upR, vu_n]); exact pRa v h0
  · intro v h0; (try simp (disch := omega) only [upA, upJ, upR, vu_n] at h0); (try simp (disch := omega) only [upA, upJ, upR, vu_n]); exact pRb v h0
  · intro v h0; (try simp (disch := omega) only [upA, upJ, upR, vu_n] at h0); (try simp (disch := omega) only [upA, upJ, upR, vu_n]); exact pRl v h0
  · intro v h0; (try simp (disch := omega) only [upA, upJ, upR, vu_n] at h0); (try simp (disch := omega) only [upA, upJ, upR, vu_n]); exact pRt v h0
  · intro u v h0 h1; (try simp (disch := omega) only [upA, upJ, upR, vu_n] at h0 h1); (try simp (disch := omega) only [upA, upJ, upR, vu_n]); exact pMe u v h0 h1
  · intro v h0; (try simp (disch := omega) only [upA, upJ, upR, vu_n] at h0); (try simp (disch := omega) only [upA, upJ, upR, vu_n]); exact pBa v h0
  · intro v h0; (try simp (disch := omega) only [upA, upJ, upR, vu_n] at h0); (try simp (disch := omega) only [upA, upJ, upR, vu_n]); exact pBt v h0
theorem rg_Sp {N : Nat → Nat → Nat} (h : RG I N Z) (hi : i < 10) : RG (am_up I (19 + i) 10 (b)) N (am_up Z 4 i b) := by
  obtain ⟨pW, pH, pT, pS, pL, pV, pR, pCr, pWl, pWy, pFo, pSh, pNo, pX, pY, pWe, pSa, pKi, pAn, pDg, pTh, pDr, pSp, pSk, pS0, pSx, pSy, pSt, pRa, pRb, pRl, pRt, pMe, pBa, pBt⟩ := h
  refine ⟨?_, ?_, ?_, ?_, ?_, ?_, ?_, ?_, ?_, ?_, ?_, ?_, ?_, ?_, ?_, ?_, ?_, ?_, ?_, ?_, ?_, ?_, ?_, ?_, ?_, ?_, ?_, ?_, ?_, ?_, ?_, ?_, ?_, ?_, ?_⟩
  · (try simp (disch := omega) only [upA, upJ, upR, vu_n]); exact pW
  · (try simp (disch := omega) only [upA, upJ, upR, vu_n]); exact pH
  · (try simp (disch := omega) only [upA, upJ, upR, vu_n]); exact pT
  · (try simp (disch := omega) only [upA, upJ, upR, vu_n]); exact pS
  · (try simp (disch := omega) only [upA, upJ, upR, vu_n]); exact pL
  · (try simp (disch := omega) only [upA, upJ, upR, vu_n]); exact pV
  · (try simp (disch := omega) only [upA, upJ, upR, vu_n]); exact pR
  · intro v h0; (try simp (disch := omega) only [upA, upJ, upR, vu_n] at h0); (try simp (disch := omega) only [upA, upJ, upR, vu_n]); exact pCr v h0
  · intro v h0; (try simp (disch := omega) only [upA, upJ, upR, vu_n] at h0); (try simp (disch := omega) only [upA, upJ, upR, vu_n]); exact pWl v h0
  · intro v h0; (try simp (disch := omega) only [upA, upJ, upR, vu_n] at h0); (try simp (disch := omega) only [upA, upJ, upR, vu_n]); exact pWy v h0
  · intro v h0; (try simp (disch := omega) only [upA, upJ, upR, vu_n] at h0); (try simp (disch := omega) only [upA, upJ, upR, vu_n]); exact pFo v h0
  · intro v h0; (try simp (disch := omega) only [upA, upJ, upR, vu_n] at h0); (try simp (disch := omega) only [upA, upJ, upR, vu_n]); exact pSh v h0
  · intro v h0; (try simp (disch := omega) only [upA, upJ, upR, vu_n] at h0); (try simp (disch := omega) only [upA, upJ, upR, vu_n]); exact pNo v h0
  · intro v h0; (try simp (disch := omega) only [upA, upJ, upR, vu_n] at h0); (try simp (disch := omega) only [upA, upJ, upR, vu_n]); exact pX v h0
  · intro v h0; (try simp (disch := omega) only [upA, upJ, upR, vu_n] at h0); (try simp (disch := omega) only [upA, upJ, upR, vu_n]); exact pY v h0
  · intro v h0; (try simp (disch := omega) only [upA, upJ, upR, vu_n] at h0); (try simp (disch := omega) only [upA, upJ, upR, vu_n]); exact pWe v h0
  · intro v h0; (try simp (disch := omega) only [upA, upJ, upR, vu_n] at h0); (try simp (disch := omega) only [upA, upJ, upR, vu_n]); exact pSa v h0
  · intro v h0; (try simp (disch := omega) only [upA, upJ, upR, vu_n] at h0); (try simp (disch := omega) only [upA, upJ, upR, vu_n]); exact pKi v h0
  · intro v h0; (try simp (disch := omega) only [upA, upJ, upR, vu_n] at h0); (try simp (disch := omega) only [upA, upJ, upR, vu_n]); exact pAn v h0
  · intro v h0; (try simp (disch := omega) only [upA, upJ, upR, vu_n] at h0); (try simp (disch := omega) only [upA, upJ, upR, vu_n]); exact pDg v h0
  · intro v h0; (try simp (disch := omega) only [upA, upJ, upR, vu_n] at h0); (try simp (disch := omega) only [upA, upJ, upR, vu_n]); exact pTh v h0
  · intro v h0; (try simp (disch := omega) only [upA, upJ, upR, vu_n] at h0); (try simp (disch := omega) only [upA, upJ, upR, vu_n]); exact pDr v h0
  · intro v h0; by_cases e : v = i
    · subst e; simp only [upS, vu_s]
    · (try simp (disch := omega) only [upA, upJ, upR, vu_n] at h0); (try simp (disch := omega) only [upA, upJ, upR, vu_n]); exact pSp v h0
  · intro v h0; (try simp (disch := omega) only [upA, upJ, upR, vu_n] at h0); (try simp (disch := omega) only [upA, upJ, upR, vu_n]); exact pSk v h0
  · intro v h0 h1; (try simp (disch := omega) only [upA, upJ, upR, vu_n] at h0 h1); (try simp (disch := omega) only [upA, upJ, upR, vu_n]); exact pS0 v h0 h1
  · intro v h0 h1; (try simp (disch := omega) only [upA, upJ, upR, vu_n] at h0 h1); (try simp (disch := omega) only [upA, upJ, upR, vu_n]); exact pSx v h0 h1
  · intro v h0 h1; (try simp (disch := omega) only [upA, upJ, upR, vu_n] at h0 h1); (try simp (disch := omega) only [upA, upJ, upR, vu_n]); exact pSy v h0 h1
  · intro v h0 h1; (try simp (disch := omega) only [upA, upJ, upR, vu_n] at h0 h1); (try simp (disch := omega) only [upA, upJ, upR, vu_n]); exact pSt v h0 h1
  · intro v h0; (try simp (disch := omega) only [upA, upJ, upR, vu_n] at h0); (try simp (disch := omega) only [upA, upJ, upR, vu_n]); exact pRa v h0
  · intro v h0; (try simp (disch := omega) only [upA, upJ, upR, vu_n] at h0); (try simp (disch := omega) only [upA, upJ, upR, vu_n]); exact pRb v h0
  · intro v h0; (try simp (disch := omega) only [upA, upJ, upR, vu_n] at h0); (try simp (disch := omega) only [upA, upJ, upR, vu_n]); exact pRl v h0
  · intro v h0; (try simp (disch := omega) only [upA, upJ, upR, vu_n] at h0); (try simp (disch := omega) only [upA, upJ, upR, vu_n]); exact pRt v h0
  · intro u v h0 h1; (try simp (disch := omega) only [upA, upJ, upR, vu_n] at h0 h1); (try simp (disch := omega) only [upA, upJ, upR, vu_n]); exact pMe u v h0 h1
  · intro v h0; (try simp (disch := omega) only [upA, upJ, upR, vu_n] at h0); (try simp (disch := omega) only [upA, upJ, upR, vu_n]); exact pBa v h0
  · intro v h0; (try simp (disch := omega) only [upA, upJ, upR, vu_n] at h0); (try simp (disch := omega) only [upA, upJ, upR, vu_n]); exact pBt v h0
theorem rg_Sk {N : Nat → Nat → Nat} (h : RG I N Z) (hi : i < 10) : RG (am_up I (19 + i) 11 (b)) N (am_up Z 5 i b) := by
  obtain ⟨pW, pH, pT, pS, pL, pV, pR, pCr, pWl, pWy, pFo, pSh, pNo, pX, pY, pWe, pSa, pKi, pAn, pDg, pTh, pDr, pSp, pSk, pS0, pSx, pSy, pSt, pRa, pRb, pRl, pRt, pMe, pBa, pBt⟩ := h
  refine ⟨?_, ?_, ?_, ?_, ?_, ?_, ?_, ?_, ?_, ?_, ?_, ?_, ?_, ?_, ?_, ?_, ?_, ?_, ?_, ?_, ?_, ?_, ?_, ?_, ?_, ?_, ?_, ?_, ?_, ?_, ?_, ?_, ?_, ?_, ?_⟩
  · (try simp (disch := omega) only [upA, upJ, upR, vu_n]); exact pW
  · (try simp (disch := omega) only [upA, upJ, upR, vu_n]); exact pH
  · (try simp (disch := omega) only [upA, upJ, upR, vu_n]); exact pT
  · (try simp (disch := omega) only [upA, upJ, upR, vu_n]); exact pS
  · (try simp (disch := omega) only [upA, upJ, upR, vu_n]); exact pL
  · (try simp (disch := omega) only [upA, upJ, upR, vu_n]); exact pV
  · (try simp (disch := omega) only [upA, upJ, upR, vu_n]); exact pR
  · intro v h0; (try simp (disch := omega) only [upA, upJ, upR, vu_n] at h0); (try simp (disch := omega) only [upA, upJ, upR, vu_n]); exact pCr v h0
  · intro v h0; (try simp (disch := omega) only [upA, upJ, upR, vu_n] at h0); (try simp (disch := omega) only [upA, upJ, upR, vu_n]); exact pWl v h0
  · intro v h0; (try simp (disch := omega) only [upA, upJ, upR, vu_n] at h0); (try simp (disch := omega) only [upA, upJ, upR, vu_n]); exact pWy v h0
  · intro v h0; (try simp (disch := omega) only [upA, upJ, upR, vu_n] at h0); (try simp (disch := omega) only [upA, upJ, upR, vu_n]); exact pFo v h0
  · intro v h0; (try simp (disch := omega) only [upA, upJ, upR, vu_n] at h0); (try simp (disch := omega) only [upA, upJ, upR, vu_n]); exact pSh v h0
  · intro v h0; (try simp (disch := omega) only [upA, upJ, upR, vu_n] at h0); (try simp (disch := omega) only [upA, upJ, upR, vu_n]); exact pNo v h0
  · intro v h0; (try simp (disch := omega) only [upA, upJ, upR, vu_n] at h0); (try simp (disch := omega) only [upA, upJ, upR, vu_n]); exact pX v h0
  · intro v h0; (try simp (disch := omega) only [upA, upJ, upR, vu_n] at h0); (try simp (disch := omega) only [upA, upJ, upR, vu_n]); exact pY v h0
  · intro v h0; (try simp (disch := omega) only [upA, upJ, upR, vu_n] at h0); (try simp (disch := omega) only [upA, upJ, upR, vu_n]); exact pWe v h0
  · intro v h0; (try simp (disch := omega) only [upA, upJ, upR, vu_n] at h0); (try simp (disch := omega) only [upA, upJ, upR, vu_n]); exact pSa v h0
  · intro v h0; (try simp (disch := omega) only [upA, upJ, upR, vu_n] at h0); (try simp (disch := omega) only [upA, upJ, upR, vu_n]); exact pKi v h0
  · intro v h0; (try simp (disch := omega) only [upA, upJ, upR, vu_n] at h0); (try simp (disch := omega) only [upA, upJ, upR, vu_n]); exact pAn v h0
  · intro v h0; (try simp (disch := omega) only [upA, upJ, upR, vu_n] at h0); (try simp (disch := omega) only [upA, upJ, upR, vu_n]); exact pDg v h0
  · intro v h0; (try simp (disch := omega) only [upA, upJ, upR, vu_n] at h0); (try simp (disch := omega) only [upA, upJ, upR, vu_n]); exact pTh v h0
  · intro v h0; (try simp (disch := omega) only [upA, upJ, upR, vu_n] at h0); (try simp (disch := omega) only [upA, upJ, upR, vu_n]); exact pDr v h0
  · intro v h0; (try simp (disch := omega) only [upA, upJ, upR, vu_n] at h0); (try simp (disch := omega) only [upA, upJ, upR, vu_n]); exact pSp v h0
  · intro v h0; by_cases e : v = i
    · subst e; simp only [upS, vu_s]
    · (try simp (disch := omega) only [upA, upJ, upR, vu_n] at h0); (try simp (disch := omega) only [upA, upJ, upR, vu_n]); exact pSk v h0
  · intro v h0 h1; (try simp (disch := omega) only [upA, upJ, upR, vu_n] at h0 h1); (try simp (disch := omega) only [upA, upJ, upR, vu_n]); exact pS0 v h0 h1
  · intro v h0 h1; (try simp (disch := omega) only [upA, upJ, upR, vu_n] at h0 h1); (try simp (disch := omega) only [upA, upJ, upR, vu_n]); exact pSx v h0 h1
  · intro v h0 h1; (try simp (disch := omega) only [upA, upJ, upR, vu_n] at h0 h1); (try simp (disch := omega) only [upA, upJ, upR, vu_n]); exact pSy v h0 h1
  · intro v h0 h1; (try simp (disch := omega) only [upA, upJ, upR, vu_n] at h0 h1); (try simp (disch := omega) only [upA, upJ, upR, vu_n]); exact pSt v h0 h1
  · intro v h0; (try simp (disch := omega) only [upA, upJ, upR, vu_n] at h0); (try simp (disch := omega) only [upA, upJ, upR, vu_n]); exact pRa v h0
  · intro v h0; (try simp (disch := omega) only [upA, upJ, upR, vu_n] at h0); (try simp (disch := omega) only [upA, upJ, upR, vu_n]); exact pRb v h0
  · intro v h0; (try simp (disch := omega) only [upA, upJ, upR, vu_n] at h0); (try simp (disch := omega) only [upA, upJ, upR, vu_n]); exact pRl v h0
  · intro v h0; (try simp (disch := omega) only [upA, upJ, upR, vu_n] at h0); (try simp (disch := omega) only [upA, upJ, upR, vu_n]); exact pRt v h0
  · intro u v h0 h1; (try simp (disch := omega) only [upA, upJ, upR, vu_n] at h0 h1); (try simp (disch := omega) only [upA, upJ, upR, vu_n]); exact pMe u v h0 h1
  · intro v h0; (try simp (disch := omega) only [upA, upJ, upR, vu_n] at h0); (try simp (disch := omega) only [upA, upJ, upR, vu_n]); exact pBa v h0
  · intro v h0; (try simp (disch := omega) only [upA, upJ, upR, vu_n] at h0); (try simp (disch := omega) only [upA, upJ, upR, vu_n]); exact pBt v h0
theorem rg_Ra {N : Nat → Nat → Nat} (h : RG I N Z) (hi : i < 20) (h10 : N 0 4 ≤ 10) : RG (am_up I (29 + i) 0 (nI q)) (am_up N 12 i q) Z := by
  obtain ⟨pW, pH, pT, pS, pL, pV, pR, pCr, pWl, pWy, pFo, pSh, pNo, pX, pY, pWe, pSa, pKi, pAn, pDg, pTh, pDr, pSp, pSk, pS0, pSx, pSy, pSt, pRa, pRb, pRl, pRt, pMe, pBa, pBt⟩ := h
  refine ⟨?_, ?_, ?_, ?_, ?_, ?_, ?_, ?_, ?_, ?_, ?_, ?_, ?_, ?_, ?_, ?_, ?_, ?_, ?_, ?_, ?_, ?_, ?_, ?_, ?_, ?_, ?_, ?_, ?_, ?_, ?_, ?_, ?_, ?_, ?_⟩
  · (try simp (disch := omega) only [upA, upJ, upR, vu_n]); exact pW
  · (try simp (disch := omega) only [upA, upJ, upR, vu_n]); exact pH
  · (try simp (disch := omega) only [upA, upJ, upR, vu_n]); exact pT
  · (try simp (disch := omega) only [upA, upJ, upR, vu_n]); exact pS
  · (try simp (disch := omega) only [upA, upJ, upR, vu_n]); exact pL
  · (try simp (disch := omega) only [upA, upJ, upR, vu_n]); exact pV
  · (try simp (disch := omega) only [upA, upJ, upR, vu_n]); exact pR
  · intro v h0; (try simp (disch := omega) only [upA, upJ, upR, vu_n] at h0); (try simp (disch := omega) only [upA, upJ, upR, vu_n]); exact pCr v h0
  · intro v h0; (try simp (disch := omega) only [upA, upJ, upR, vu_n] at h0); (try simp (disch := omega) only [upA, upJ, upR, vu_n]); exact pWl v h0
  · intro v h0; (try simp (disch := omega) only [upA, upJ, upR, vu_n] at h0); (try simp (disch := omega) only [upA, upJ, upR, vu_n]); exact pWy v h0
  · intro v h0; (try simp (disch := omega) only [upA, upJ, upR, vu_n] at h0); (try simp (disch := omega) only [upA, upJ, upR, vu_n]); exact pFo v h0
  · intro v h0; (try simp (disch := omega) only [upA, upJ, upR, vu_n] at h0); (try simp (disch := omega) only [upA, upJ, upR, vu_n]); exact pSh v h0
  · intro v h0; (try simp (disch := omega) only [upA, upJ, upR, vu_n] at h0); (try simp (disch := omega) only [upA, upJ, upR, vu_n]); exact pNo v h0
  · intro v h0; (try simp (disch := omega) only [upA, upJ, upR, vu_n] at h0); (try simp (disch := omega) only [upA, upJ, upR, vu_n]); exact pX v h0
  · intro v h0; (try simp (disch := omega) only [upA, upJ, upR, vu_n] at h0); (try simp (disch := omega) only [upA, upJ, upR, vu_n]); exact pY v h0
  · intro v h0; (try simp (disch := omega) only [upA, upJ, upR, vu_n] at h0); (try simp (disch := omega) only [upA, upJ, upR, vu_n]); exact pWe v h0
  · intro v h0; (try simp (disch := omega) only [upA, upJ, upR, vu_n] at h0); (try simp (disch := omega) only [upA, upJ, upR, vu_n]); exact pSa v h0
  · intro v h0; (try simp (disch := omega) only [upA, upJ, upR, vu_n] at h0); (try simp (disch := omega) only [upA, upJ, upR, vu_n]); exact pKi v h0
  · intro v h0; (try simp (disch := omega) only [upA, upJ, upR, vu_n] at h0); (try simp (disch := omega) only [upA, upJ, upR, vu_n]); exact pAn v h0
  · intro v h0; (try simp (disch := omega) only [upA, upJ, upR, vu_n] at h0); (try simp (disch := omega) only [upA, upJ, upR, vu_n]); exact pDg v h0
  · intro v h0; (try simp (disch := omega) only [upA, upJ, upR, vu_n] at h0); (try simp (disch := omega) only [upA, upJ, upR, vu_n]); exact pTh v h0
  · intro v h0; (try simp (disch := omega) only [upA, upJ, upR, vu_n] at h0); (try simp (disch := omega) only [upA, upJ, upR, vu_n]); exact pDr v h0
  · intro v h0; (try simp (disch := omega) only [upA, upJ, upR, vu_n] at h0); (try simp (disch := omega) only [upA, upJ, upR, vu_n]); exact pSp v h0
  · intro v h0; (try simp (disch := omega) only [upA, upJ, upR, vu_n] at h0); (try simp (disch := omega) only [upA, upJ, upR, vu_n]); exact pSk v h0
  · intro v h0 h1; (try simp (disch := omega) only [upA, upJ, upR, vu_n] at h0 h1); (try simp (disch := omega) only [upA, upJ, upR, vu_n]); exact pS0 v h0 h1
  · intro v h0 h1; (try simp (disch := omega) only [upA, upJ, upR, vu_n] at h0 h1); (try simp (disch := omega) only [upA, upJ, upR, vu_n]); exact pSx v h0 h1
  · intro v h0 h1; (try simp (disch := omega) only [upA, upJ, upR, vu_n] at h0 h1); (try simp (disch := omega) only [upA, upJ, upR, vu_n]); exact pSy v h0 h1
  · intro v h0 h1; (try simp (disch := omega) only [upA, upJ, upR, vu_n] at h0 h1); (try simp (disch := omega) only [upA, upJ, upR, vu_n]); exact pSt v h0 h1
  · intro v h0; by_cases e : v = i
    · subst e; simp only [upS, vu_s]
    · (try simp (disch := omega) only [upA, upJ, upR, vu_n] at h0); (try simp (disch := omega) only [upA, upJ, upR, vu_n]); exact pRa v h0
  · intro v h0; (try simp (disch := omega) only [upA, upJ, upR, vu_n] at h0); (try simp (disch := omega) only [upA, upJ, upR, vu_n]); exact pRb v h0
  · intro v h0; (try simp (disch := omega) only [upA, upJ, upR, vu_n] at h0); (try simp (disch := omega) only [upA, upJ, upR, vu_n]); exact pRl v h0
  · intro v h0; (try simp (disch := omega) only [upA, upJ, upR, vu_n] at h0); (try simp (disch := omega) only [upA, upJ, upR, vu_n]); exact pRt v h0
  · intro u v h0 h1; (try simp (disch := omega) only [upA, upJ, upR, vu_n] at h0 h1); (try simp (disch := omega) only [upA, upJ, upR, vu_n]); exact pMe u v h0 h1
  · intro v h0; (try simp (disch := omega) only [upA, upJ, upR, vu_n] at h0); (try simp (disch := omega) only [upA, upJ, upR, vu_n]); exact pBa v h0
  · intro v h0; (try simp (disch := omega) only [upA, upJ, upR, vu_n] at h0); (try simp (disch := omega) only [upA, upJ, upR, vu_n]); exact pBt v h0
theorem rg_Rb {N : Nat → Nat → Nat} (h : RG I N Z) (hi : i < 20) (h10 : N 0 4 ≤ 10) : RG (am_up I (29 + i) 1 (nI q)) (am_up N 13 i q) Z := by
  obtain ⟨pW, pH, pT, pS, pL, pV, pR, pCr, pWl, pWy, pFo, pSh, pNo, pX, pY, pWe, pSa, pKi, pAn, pDg, pTh, pDr, pSp, pSk, pS0, pSx, pSy, pSt, pRa, pRb, pRl, pRt, pMe, pBa, pBt⟩ := h
  refine ⟨?_, ?_, ?_, ?_, ?_, ?_, ?_, ?_, ?_, ?_, ?_, ?_, ?_, ?_, ?_, ?_, ?_, ?_, ?_, ?_, ?_, ?_, ?_, ?_, ?_, ?_, ?_, ?_, ?_, ?_, ?_, ?_, ?_, ?_, ?_⟩
  · (try simp (disch := omega) only [upA, upJ, upR, vu_n]); exact pW
  · (try simp (disch := omega) only [upA, upJ, upR, vu_n]); exact pH
  · (try simp (disch := omega) only [upA, upJ, upR, vu_n]); exact pT
  · (try simp (disch := omega) only [upA, upJ, upR, vu_n]); exact pS
  · (try simp (disch := omega) only [upA, upJ, upR, vu_n]); exact pL
  · (try simp (disch := omega) only [upA, upJ, upR, vu_n]); exact pV
  · (try simp (disch := omega) only [upA, upJ, upR, vu_n]); exact pR
  · intro v h0; (try simp (disch := omega) only [upA, upJ, upR, vu_n] at h0); (try simp (disch := omega) only [upA, upJ, upR, vu_n]); exact pCr v h0
  · intro v h0; (try simp (disch := omega) only [upA, upJ, upR, vu_n] at h0); (try simp (disch := omega) only [upA, upJ, upR, vu_n]); exact pWl v h0
  · intro v h0; (try simp (disch := omega) only [upA, upJ, upR, vu_n] at h0); (try simp (disch := omega) only [upA, upJ, upR, vu_n]); exact pWy v h0
  · intro v h0; (try simp (disch := omega) only [upA, upJ, upR, vu_n] at h0); (try simp (disch := omega) only [upA, upJ, upR, vu_n]); exact pFo v h0
  · intro v h0; (try simp (disch := omega) only [upA, upJ, upR, vu_n] at h0); (try simp (disch := omega) only [upA, upJ, upR, vu_n]); exact pSh v h0
  · intro v h0; (try simp (disch := omega) only [upA, upJ, upR, vu_n] at h0); (try simp (disch := omega) only [upA, upJ, upR, vu_n]); exact pNo v h0
  · intro v h0; (try simp (disch := omega) only [upA, upJ, upR, vu_n] at h0); (try simp (disch := omega) only [upA, upJ, upR, vu_n]); exact pX v h0
  · intro v h0; (try simp (disch := omega) only [upA, upJ, upR, vu_n] at h0); (try simp (disch := omega) only [upA, upJ, upR, vu_n]); exact pY v h0
  · intro v h0; (try simp (disch := omega) only [upA, upJ, upR, vu_n] at h0); (try simp (disch := omega) only [upA, upJ, upR, vu_n]); exact pWe v h0
  · intro v h0; (try simp (disch := omega) only [upA, upJ, upR, vu_n] at h0); (try simp (disch := omega) only [upA, upJ, upR, vu_n]); exact pSa v h0
  · intro v h0; (try simp (disch := omega) only [upA, upJ, upR, vu_n] at h0); (try simp (disch := omega) only [upA, upJ, upR, vu_n]); exact pKi v h0
  · intro v h0; (try simp (disch := omega) only [upA, upJ, upR, vu_n] at h0); (try simp (disch := omega) only [upA, upJ, upR, vu_n]); exact pAn v h0
  · intro v h0; (try simp (disch := omega) only [upA, upJ, upR, vu_n] at h0); (try simp (disch := omega) only [upA, upJ, upR, vu_n]); exact pDg v h0
  · intro v h0; (try simp (disch := omega) only [upA, upJ, upR, vu_n] at h0); (try simp (disch := omega) only [upA, upJ, upR, vu_n]); exact pTh v h0
  · intro v h0; (try simp (disch := omega) only [upA, upJ, upR, vu_n] at h0); (try simp (disch := omega) only [upA, upJ, upR, vu_n]); exact pDr v h0
  · intro v h0; (try simp (disch := omega) only [upA, upJ, upR, vu_n] at h0); (try simp (disch := omega) only [upA, upJ, upR, vu_n]); exact pSp v h0
  · intro v h0; (try simp (disch := omega) only [upA, upJ, upR, vu_n] at h0); (try simp (disch := omega) only [upA, upJ, upR, vu_n]); exact pSk v h0
  · intro v h0 h1; (try simp (disch := omega) only [upA, upJ, upR, vu_n] at h0 h1); (try simp (disch := omega) only [upA, upJ, upR, vu_n]); exact pS0 v h0 h1
  · intro v h0 h1; (try simp (disch := omega) only [upA, upJ, upR, vu_n] at h0 h1); (try simp (disch := omega) only [upA, upJ, upR, vu_n]); exact pSx v h0 h1
  · intro v h0 h1; (try simp (disch := omega) only [upA, upJ, upR, vu_n] at h0 h1); (try simp (disch := omega) only [upA, upJ, upR, vu_n]); exact pSy v h0 h1
  · intro v h0 h1; (try simp (disch := omega) only [upA, upJ, upR, vu_n] at h0 h1); (try simp (disch := omega) only [upA, upJ, upR, vu_n]); exact pSt v h0 h1
  · intro v h0; (try simp (disch := omega) only [upA, upJ, upR, vu_n] at h0); (try simp (disch := omega) only [upA, upJ, upR, vu_n]); exact pRa v h0
  · intro v h0; by_cases e : v = i
    · subst e; simp only [upS, vu_s]
    · (try simp (disch := omega) only [upA, upJ, upR, vu_n] at h0); (try simp (disch := omega) only [upA, upJ, upR, vu_n]); exact pRb v h0
  · intro v h0; (try simp (disch := omega) only [upA, upJ, upR, vu_n] at h0); (try simp (disch := omega) only [upA, upJ, upR, vu_n]); exact pRl v h0
  · intro v h0; (try simp (disch := omega) only [upA, upJ, upR, vu_n] at h0); (try simp (disch := omega) only [upA, upJ, upR, vu_n]); exact pRt v h0
  · intro u v h0 h1; (try simp (disch := omega) only [upA, upJ, upR, vu_n] at h0 h1); (try simp (disch := omega) only [upA, upJ, upR, vu_n]); exact pMe u v h0 h1
  · intro v h0; (try simp (disch := omega) only [upA, upJ, upR, vu_n] at h0); (try simp (disch := omega) only [upA, upJ, upR, vu_n]); exact pBa v h0
  · intro v h0; (try simp (disch := omega) only [upA, upJ, upR, vu_n] at h0); (try simp (disch := omega) only [upA, upJ, upR, vu_n]); exact pBt v h0
theorem rg_Rl {N : Nat → Nat → Nat} (h : RG I N Z) (hi : i < 20) (h10 : N 0 4 ≤ 10) : RG (am_up I (29 + i) 2 (nI q)) (am_up N 14 i q) Z := by
  obtain ⟨pW, pH, pT, pS, pL, pV, pR, pCr, pWl, pWy, pFo, pSh, pNo, pX, pY, pWe, pSa, pKi, pAn, pDg, pTh, pDr, pSp, pSk, pS0, pSx, pSy, pSt, pRa, pRb, pRl, pRt, pMe, pBa, pBt⟩ := h
  refine ⟨?_, ?_, ?_, ?_, ?_, ?_, ?_, ?_, ?_, ?_, ?_, ?_, ?_, ?_, ?_, ?_, ?_, ?_, ?_, ?_, ?_, ?_, ?_, ?_, ?_, ?_, ?_, ?_, ?_, ?_, ?_, ?_, ?_, ?_, ?_⟩
  · (try simp (disch := omega) only [upA, upJ, upR, vu_n]); exact pW
  · (try simp (disch := omega) only [upA, upJ, upR, vu_n]); exact pH
  · (try simp (disch := omega) only [upA, upJ, upR, vu_n]); exact pT
  · (try simp (disch := omega) only [upA, upJ, upR, vu_n]); exact pS
  · (try simp (disch := omega) only [upA, upJ, upR, vu_n]); exact pL
  · (try simp (disch := omega) only [upA, upJ, upR, vu_n]); exact pV
  · (try simp (disch := omega) only [upA, upJ, upR, vu_n]); exact pR
  · intro v h0; (try simp (disch := omega) only [upA, upJ, upR, vu_n] at h0); (try simp (disch := omega) only [upA, upJ, upR, vu_n]); exact pCr v h0
  · intro v h0; (try simp (disch := omega) only [upA, upJ, upR, vu_n] at h0); (try simp (disch := omega) only [upA, upJ, upR, vu_n]); exact pWl v h0
  · intro v h0; (try simp (disch := omega) only [upA, upJ, upR, vu_n] at h0); (try simp (disch := omega) only [upA, upJ, upR, vu_n]); exact pWy v h0
  · intro v h0; (try simp (disch := omega) only [upA, upJ, upR, vu_n] at h0); (try simp (disch := omega) only [upA, upJ, upR, vu_n]); exact pFo v h0
  · intro v h0; (try simp (disch := omega) only [upA, upJ, upR, vu_n] at h0); (try simp (disch := omega) only [upA, upJ, upR, vu_n]); exact pSh v h0
  · intro v h0; (try simp (disch := omega) only [upA, upJ, upR, vu_n] at h0); (try simp (disch := omega) only [upA, upJ, upR, vu_n]); exact pNo v h0
  · intro v h0; (try simp (disch := omega) only [upA, upJ, upR, vu_n] at h0); (try simp (disch := omega) only [upA, upJ, upR, vu_n]); exact pX v h0
  · intro v h0; (try simp (disch := omega) only [upA, upJ, upR, vu_n] at h0); (try simp (disch := omega) only [upA, upJ, upR, vu_n]); exact pY v h0
  · intro v h0; (try simp (disch := omega) only [upA, upJ, upR, vu_n] at h0); (try simp (disch := omega) only [upA, upJ, upR, vu_n]); exact pWe v h0
  · intro v h0; (try simp (disch := omega) only [upA, upJ, upR, vu_n] at h0); (try simp (disch := omega) only [upA, upJ, upR, vu_n]); exact pSa v h0
  · intro v h0; (try simp (disch := omega) only [upA, upJ, upR, vu_n] at h0); (try simp (disch := omega) only [upA, upJ, upR, vu_n]); exact pKi v h0
  · intro v h0; (try simp (disch := omega) only [upA, upJ, upR, vu_n] at h0); (try simp (disch := omega) only [upA, upJ, upR, vu_n]); exact pAn v h0
  · intro v h0; (try simp (disch := omega) only [upA, upJ, upR, vu_n] at h0); (try simp (disch := omega) only [upA, upJ, upR, vu_n]); exact pDg v h0
  · intro v h0; (try simp (disch := omega) only [upA, upJ, upR, vu_n] at h0); (try simp (disch := omega) only [upA, upJ, upR, vu_n]); exact pTh v h0
  · intro v h0; (try simp (disch := omega) only [upA, upJ, upR, vu_n] at h0); (try simp (disch := omega) only [upA, upJ, upR, vu_n]); exact pDr v h0
  · intro v h0; (try simp (disch := omega) only [upA, upJ, upR, vu_n] at h0); (try simp (disch := omega) only [upA, upJ, upR, vu_n]); exact pSp v h0
  · intro v h0; (try simp (disch := omega) only [upA, upJ, upR, vu_n] at h0); (try simp (disch := omega) only [upA, upJ, upR, vu_n]); exact pSk v h0
  · intro v h0 h1; (try simp (disch := omega) only [upA, upJ, upR, vu_n] at h0 h1); (try simp (disch := omega) only [upA, upJ, upR, vu_n]); exact pS0 v h0 h1
  · intro v h0 h1; (try simp (disch := omega) only [upA, upJ, upR, vu_n] at h0 h1); (try simp (disch := omega) only [upA, upJ, upR, vu_n]); exact pSx v h0 h1
  · intro v h0 h1; (try simp (disch := omega) only [upA, upJ, upR, vu_n] at h0 h1); (try simp (disch := omega) only [upA, upJ, upR, vu_n]); exact pSy v h0 h1
  · intro v h0 h1; (try simp (disch := omega) only [upA, upJ, upR, vu_n] at h0 h1); (try simp (disch := omega) only [upA, upJ, upR, vu_n]); exact pSt v h0 h1
  · intro v h0; (try simp (disch := omega) only [upA, upJ, upR, vu_n] at h0); (try simp (disch := omega) only [upA, upJ, upR, vu_n]); exact pRa v h0
  · intro v h0; (try simp (disch := omega) only [upA, upJ, upR, vu_n] at h0); (try simp (disch := omega) only [upA, upJ, upR, vu_n]); exact pRb v h0
  · intro v h0; by_cases e : v = i
    · subst e; simp only [upS, vu_s]
    · (try simp (disch := omega) only [upA, upJ, upR, vu_n] at h0); (try simp (disch := omega) only [upA, upJ, upR, vu_n]); exact pRl v h0
  · intro v h0; (try simp (disch := omega) only [upA, upJ, upR, vu_n] at h0); (try simp (disch := omega) only [upA, upJ, upR, vu_n]); exact pRt v h0
  · intro u v h0 h1; (try simp (disch := omega) only [upA, upJ, upR, vu_n] at h0 h1); (try simp (disch := omega) only [upA, upJ, upR, vu_n]); exact pMe u v h0 h1
  · intro v h0; (try simp (disch := omega) only [upA, upJ, upR, vu_n] at h0); (try simp (disch := omega) only [upA, upJ, upR, vu_n]); exact pBa v h0
  · intro v h0; (try simp (disch := omega) only [upA, upJ, upR, vu_n] at h0); (try simp (disch := omega) only [upA, upJ, upR, vu_n]); exact pBt v h0
theorem rg_Rt {N : Nat → Nat → Nat} (h : RG I N Z) (hi : i < 20) (h10 : N 0 4 ≤ 10) (hq : q ≤ 1) : RG (am_up I (29 + i) 3 (nI q)) (am_up N 15 i q) Z := by
  obtain ⟨pW, pH, pT, pS, pL, pV, pR, pCr, pWl, pWy, pFo, pSh, pNo, pX, pY, pWe, pSa, pKi, pAn, pDg, pTh, pDr, pSp, pSk, pS0, pSx, pSy, pSt, pRa, pRb, pRl, pRt, pMe, pBa, pBt⟩ := h
  refine ⟨?_, ?_, ?_, ?_, ?_, ?_, ?_, ?_, ?_, ?_, ?_, ?_, ?_, ?_, ?_, ?_, ?_, ?_, ?_, ?_, ?_, ?_, ?_, ?_, ?_, ?_, ?_, ?_, ?_, ?_, ?_, ?_, ?_, ?_, ?_⟩
  · (try simp (disch := omega) only [upA, upJ, upR, vu_n]); exact pW
  · (try simp (disch := omega) only [upA, upJ, upR, vu_n]); exact pH
  · (try simp (disch := omega) only [upA, upJ, upR, vu_n]); exact pT
  · (try simp (disch := omega) only [upA, upJ, upR, vu_n]); exact pS
  · (try simp (disch := omega) only [upA, upJ, upR, vu_n]); exact pL
  · (try simp (disch := omega) only [upA, upJ, upR, vu_n]); exact pV
  · (try simp (disch := omega) only [upA, upJ, upR, vu_n]); exact pR
  · intro v h0; (try simp (disch := omega) only [upA, upJ, upR, vu_n] at h0); (try simp (disch := omega) only [upA, upJ, upR, vu_n]); exact pCr v h0
  · intro v h0; (try simp (disch := omega) only [upA, upJ, upR, vu_n] at h0); (try simp (disch := omega) only [upA, upJ, upR, vu_n]); exact pWl v h0
  · intro v h0; (try simp (disch := omega) only [upA, upJ, upR, vu_n] at h0); (try simp (disch := omega) only [upA, upJ, upR, vu_n]); exact pWy v h0
  · intro v h0; (try simp (disch := omega) only [upA, upJ, upR, vu_n] at h0); (try simp (disch := omega) only [upA, upJ, upR, vu_n]); exact pFo v h0
  · intro v h0; (try simp (disch := omega) only [upA, upJ, upR, vu_n] at h0); (try simp (disch := omega) only [upA, upJ, upR, vu_n]); exact pSh v h0
  · intro v h0; (try simp (disch := omega) only [upA, upJ, upR, vu_n] at h0); (try simp (disch := omega) only [upA, upJ, upR, vu_n]); exact pNo v h0
  · intro v h0; (try simp (disch := omega) only [upA, upJ, upR, vu_n] at h0); (try simp (disch := omega) only [upA, upJ, upR, vu_n]); exact pX v h0
  · intro v h0; (try simp (disch := omega) only [upA, upJ, upR, vu_n] at h0); (try simp (disch := omega) only [upA, upJ, upR, vu_n]); exact pY v h0
  · intro v h0; (try simp (disch := omega) only [upA, upJ, upR, vu_n] at h0); (try simp (disch := omega) only [upA, upJ, upR, vu_n]); exact pWe v h0
  · intro v h0; (try simp (disch := omega) only [upA, upJ, upR, vu_n] at h0); (try simp (disch := omega) only [upA, upJ, upR, vu_n]); exact pSa v h0
  · intro v h0; (try simp (disch := omega) only [upA, upJ, upR, vu_n] at h0); (try simp (disch := omega) only [upA, upJ, upR, vu_n]); exact pKi v h0
  · intro v h0; (try simp (disch := omega) only [upA, upJ, upR, vu_n] at h0); (try simp (disch := omega) only [upA, upJ, upR, vu_n]); exact pAn v h0
  · intro v h0; (try simp (disch := omega) only [upA, upJ, upR, vu_n] at h0); (try simp (disch := omega) only [upA, upJ, upR, vu_n]); exact pDg v h0
  · intro v h0; (try simp (disch := omega) only [upA, upJ, upR, vu_n] at h0); (try simp (disch := omega) only [upA, upJ, upR, vu_n]); exact pTh v h0
  · intro v h0; (try simp (disch := omega) only [upA, upJ, upR, vu_n] at h0); (try simp (disch := omega) only [upA, upJ, upR, vu_n]); exact pDr v h0
  · intro v h0; (try simp (disch := omega) only [upA, upJ, upR, vu_n] at h0); (try simp (disch := omega) only [upA, upJ, upR, vu_n]); exact pSp v h0
  · intro v h0; (try simp (disch := omega) only [upA, upJ, upR, vu_n] at h0); (try simp (disch := omega) only [upA, upJ, upR, vu_n]); exact pSk v h0
  · intro v h0 h1; (try simp (disch := omega) only [upA, upJ, upR, vu_n] at h0 h1); (try simp (disch := omega) only [upA, upJ, upR, vu_n]); exact pS0 v h0 h1
  · intro v h0 h1; (try simp (disch := omega) only [upA, upJ, upR, vu_n] at h0 h1); (try simp (disch := omega) only [upA, upJ, upR, vu_n]); exact pSx v h0 h1
  · intro v h0 h1; (try simp (disch := omega) only [upA, upJ, upR, vu_n] at h0 h1); (try simp (disch := omega) only [upA, upJ, upR, vu_n]); exact pSy v h0 h1
  · intro v h0 h1; (try simp (disch := omega) only [upA, upJ, upR, vu_n] at h0 h1); (try simp (disch := omega) only [upA, upJ, upR, vu_n]); exact pSt v h0 h1
  · intro v h0; (try simp (disch := omega) only [upA, upJ, upR, vu_n] at h0); (try simp (disch := omega) only [upA, upJ, upR, vu_n]); exact pRa v h0
  · intro v h0; (try simp (disch := omega) only [upA, upJ, upR, vu_n] at h0); (try simp (disch := omega) only [upA, upJ, upR, vu_n]); exact pRb v h0
  · intro v h0; (try simp (disch := omega) only [upA, upJ, upR, vu_n] at h0); (try simp (disch := omega) only [upA, upJ, upR, vu_n]); exact pRl v h0
  · intro v h0; by_cases e : v = i
    · subst e; simp only [upS, vu_s]
    · (try simp (disch := omega) only [upA, upJ, upR, vu_n] at h0); (try simp (disch := omega) only [upA, upJ, upR, vu_n]); exact pRt v h0
  · intro u v h0 h1; (try simp (disch := omega) only [upA, upJ, upR, vu_n] at h0 h1); (try simp (disch := omega) only [upA, upJ, upR, vu_n]); exact pMe u v h0 h1
  · intro v h0; (try simp (disch := omega) only [upA, upJ, upR, vu_n] at h0); (try simp (disch := omega) only [upA, upJ, upR, vu_n]); exact pBa v h0
  · intro v h0; by_cases e : v = i
    · subst e; rw [upS]; exact bl_n hq
    · (try simp (disch := omega) only [upA, upJ, upR, vu_n] at h0); (try simp (disch := omega) only [upA, upJ, upR, vu_n]); exact pBt v h0
end STATE2
