section STATE4
variable {I : Nat → Nat → Int32} {N : Nat → Nat → Nat} {Z : Nat → Nat → Int32} {r : Nat → Int32} {i j q a p : Nat} {b : Int32}
theorem RG_fr {I2 : Nat → Nat → Int32} (h : RG I N Z) (h10 : N 0 4 ≤ 10) (h20 : N 0 5 ≤ 20) (hf : ∀ a, 9 ≤ a → a < 49 → I2 a = I a) : RG I2 N Z := by
  obtain ⟨pW, pH, pT, pS, pL, pV, pR, pCr, pWl, pWy, pFo, pSh, pNo, pX, pY, pWe, pSa, pKi, pAn, pDg, pTh, pDr, pSp, pSk, pS0, pSx, pSy, pSt, pRa, pRb, pRl, pRt, pMe, pBa, pBt⟩ := h
  refine ⟨?_, ?_, ?_, ?_, ?_, ?_, ?_, ?_, ?_, ?_, ?_, ?_, ?_, ?_, ?_, ?_, ?_, ?_, ?_, ?_, ?_, ?_, ?_, ?_, ?_, ?_, ?_, ?_, ?_, ?_, ?_, ?_, ?_, ?_, ?_⟩
  · rw [hf _ (by omega) (by omega)]; exact pW
  · rw [hf _ (by omega) (by omega)]; exact pH
  · rw [hf _ (by omega) (by omega)]; exact pT
  · rw [hf _ (by omega) (by omega)]; exact pS
  · rw [hf _ (by omega) (by omega)]; exact pL
  · rw [hf _ (by omega) (by omega)]; exact pV
  · rw [hf _ (by omega) (by omega)]; exact pR
  · intro v g0; rw [hf _ (by omega) (by omega)]; exact pCr v g0
  · intro v g0; rw [hf _ (by omega) (by omega)]; exact pWl v g0
  · intro v g0; rw [hf _ (by omega) (by omega)]; exact pWy v g0
  · intro v g0; rw [hf _ (by omega) (by omega)]; exact pFo v g0
  · intro v g0; rw [hf _ (by omega) (by omega)]; exact pSh v g0
  · intro v g0; rw [hf _ (by omega) (by omega)]; exact pNo v g0
  · intro v g0; rw [hf _ (by omega) (by omega)]; exact pX v g0
  · intro v g0; rw [hf _ (by omega) (by omega)]; exact pY v g0
  · intro v g0; rw [hf _ (by omega) (by omega)]; exact pWe v g0
  · intro v g0; rw [hf _ (by omega) (by omega)]; exact pSa v g0
  · intro v g0; rw [hf _ (by omega) (by omega)]; exact pKi v g0
  · intro v g0; rw [hf _ (by omega) (by omega)]; exact pAn v g0
  · intro v g0; rw [hf _ (by omega) (by omega)]; exact pDg v g0
  · intro v g0; rw [hf _ (by omega) (by omega)]; exact pTh v g0
  · intro v g0; rw [hf _ (by omega) (by omega)]; exact pDr v g0
  · intro v g0; rw [hf _ (by omega) (by omega)]; exact pSp v g0
  · intro v g0; rw [hf _ (by omega) (by omega)]; exact pSk v g0
  · intro v g0 g1; rw [hf _ (by omega) (by omega)]; exact pS0 v g0 g1
  · intro v g0 g1; rw [hf _ (by omega) (by omega)]; exact pSx v g0 g1
  · intro v g0 g1; rw [hf _ (by omega) (by omega)]; exact pSy v g0 g1
  · intro v g0 g1; rw [hf _ (by omega) (by omega)]; exact pSt v g0 g1
  · intro v g0; rw [hf _ (by omega) (by omega)]; exact pRa v g0
  · intro v g0; rw [hf _ (by omega) (by omega)]; exact pRb v g0
  · intro v g0; rw [hf _ (by omega) (by omega)]; exact pRl v g0
  · intro v g0; rw [hf _ (by omega) (by omega)]; exact pRt v g0
  · intro u v g0 g1; rw [hf _ (by omega) (by omega)]; exact pMe u v g0 g1
  · intro v g0; rw [hf _ (by omega) (by omega)]; exact pBa v g0
  · intro v g0; rw [hf _ (by omega) (by omega)]; exact pBt v g0
end STATE4
