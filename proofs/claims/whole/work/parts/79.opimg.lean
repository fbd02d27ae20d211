section OPIMG
variable {d : Nat} {k : am_k} {I I0 I1 I2 : Nat → Nat → Int32} {J : Nat → Nat → Int64} {a b c e f fk fp : Int32} {L : Nat} {w : Nat → Option Nat} {v p q n u W x y z r t m l o s i j : Nat} {N N' : Nat → Nat → Nat} {Z Z' : Nat → Nat → Int32} {H H' : List hT} {K : Option hT} {B : Nat → Int32}
theorem RG_RK (h : RG I N Z) (hs : SW N) (hn : ∀ v, v < 10 → I2 (79 + v) 0 = nI v) (f0 : ∀ j, j < 7 → I2 69 j = I 9 j) (fpCr : ∀ j, j < 144 → I2 70 j = I 10 j) (fpWl : ∀ j, j < 144 → I2 71 j = I 11 j) (fpWy : ∀ j, j < 24 → I2 72 j = I 12 j) (fpFo : ∀ j, j < 24 → I2 73 j = I 13 j) (fpSh : ∀ j, j < 24 → I2 74 j = I 14 j) (fpMe : ∀ j, j < 100 → I2 77 j = I 17 j) (fv : ∀ v, v < 10 → ∀ j, I2 (79 + v) j = if 1 ≤ j ∧ j ≤ 14 then I (19 + v) j else I1 (79 + v) j) (fr : ∀ v, v < 20 → ∀ j, I2 (89 + v) j = if j < 4 then I (29 + v) j else I1 (89 + v) j) : RK I2 N Z := by
  have h10 := hs.2.2.2.2.2.1
  have h20 := hs.2.2.2.2.2.2.1
  have gv : ∀ v, v < 10 → ∀ j, 1 ≤ j → j ≤ 14 → I2 (79 + v) j = I (19 + v) j := fun v hv j g1 g2 => by rw [fv v hv j, if_pos ⟨g1, g2⟩]
  have gr : ∀ v, v < 20 → ∀ j, j < 4 → I2 (89 + v) j = I (29 + v) j := fun v hv j g1 => by rw [fr v hv j, if_pos g1]
  obtain ⟨pW, pH, pT, pS, pL, pV, pR, pCr, pWl, pWy, pFo, pSh, pNo, pX, pY, pWe, pSa, pKi, pAn, pDg, pTh, pDr, pSp, pSk, pS0, pSx, pSy, pSt, pRa, pRb, pRl, pRt, pMe, pBa, pBt⟩ := h
  refine ⟨?_, ?_, ?_, ?_, ?_, ?_, ?_, ?_, ?_, ?_, ?_, ?_, ?_, ?_, ?_, ?_, ?_, ?_, ?_, ?_, ?_, ?_, ?_, ?_, ?_, ?_, ?_, ?_, ?_, ?_, ?_, ?_, ?_, ?_, ?_⟩
  · rw [f0 _ (by omega)]; exact pW
  · rw [f0 _ (by omega)]; exact pH
  · rw [f0 _ (by omega)]; exact pT
  · rw [f0 _ (by omega)]; exact pS
  · rw [f0 _ (by omega)]; exact pL
  · rw [f0 _ (by omega)]; exact pV
  · rw [f0 _ (by omega)]; exact pR
  · intro v g0; rw [fpCr v g0]; exact pCr v g0
  · intro v g0; rw [fpWl v g0]; exact pWl v g0
  · intro v g0; rw [fpWy v g0]; exact pWy v g0
  · intro v g0; rw [fpFo v g0]; exact pFo v g0
  · intro v g0; rw [fpSh v g0]; exact pSh v g0
  · exact hn
  · intro v g0; rw [gv v (by omega) _ (by omega) (by omega)]; exact pX v g0
  · intro v g0; rw [gv v (by omega) _ (by omega) (by omega)]; exact pY v g0
  · intro v g0; rw [gv v (by omega) _ (by omega) (by omega)]; exact pWe v g0
  · intro v g0; rw [gv v (by omega) _ (by omega) (by omega)]; exact pSa v g0
  · intro v g0; rw [gv v (by omega) _ (by omega) (by omega)]; exact pKi v g0
  · intro v g0; rw [gv v (by omega) _ (by omega) (by omega)]; exact pAn v g0
  · intro v g0; rw [gv v (by omega) _ (by omega) (by omega)]; exact pDg v g0
  · intro v g0; rw [gv v (by omega) _ (by omega) (by omega)]; exact pTh v g0
  · intro v g0; rw [gv v (by omega) _ (by omega) (by omega)]; exact pDr v g0
  · intro v g0; rw [gv v (by omega) _ (by omega) (by omega)]; exact pSp v g0
  · intro v g0; rw [gv v (by omega) _ (by omega) (by omega)]; exact pSk v g0
  · intro v g0 g1; rw [gv v (by omega) _ (by omega) (by omega)]; exact pS0 v g0 g1
  · intro v g0 g1; rw [gv v (by omega) _ (by omega) (by omega)]; exact pSx v g0 g1
  · intro v g0 g1; rw [gv v (by omega) _ (by omega) (by omega)]; exact pSy v g0 g1
  · intro v g0 g1; rw [gv v (by omega) _ (by omega) (by omega)]; exact pSt v g0 g1
  · intro v g0; rw [gr v (by omega) _ (by omega)]; exact pRa v g0
  · intro v g0; rw [gr v (by omega) _ (by omega)]; exact pRb v g0
  · intro v g0; rw [gr v (by omega) _ (by omega)]; exact pRl v g0
  · intro v g0; rw [gr v (by omega) _ (by omega)]; exact pRt v g0
  · intro u v g0 g1; rw [fpMe _ (by omega)]; exact pMe u v g0 g1
  · intro v g0; rw [gv v (by omega) _ (by omega) (by omega)]; exact pBa v g0
  · intro v g0; rw [gr v (by omega) _ (by omega)]; exact pBt v g0
theorem RK_RG (h : RK I N Z) (hs : SW N) (hn : ∀ v, v < 10 → I2 (19 + v) 0 = nI v) (f0 : ∀ j, j < 7 → I2 9 j = I 69 j) (fpCr : ∀ j, j < 144 → I2 10 j = I 70 j) (fpWl : ∀ j, j < 144 → I2 11 j = I 71 j) (fpWy : ∀ j, j < 24 → I2 12 j = I 72 j) (fpFo : ∀ j, j < 24 → I2 13 j = I 73 j) (fpSh : ∀ j, j < 24 → I2 14 j = I 74 j) (fpMe : ∀ j, j < 100 → I2 17 j = I 77 j) (fv : ∀ v, v < 10 → ∀ j, I2 (19 + v) j = if 1 ≤ j ∧ j ≤ 14 then I (79 + v) j else I1 (19 + v) j) (fr : ∀ v, v < 20 → ∀ j, I2 (29 + v) j = if j < 4 then I (89 + v) j else I1 (29 + v) j) : RG I2 N Z := by
  have h10 := hs.2.2.2.2.2.1
  have h20 := hs.2.2.2.2.2.2.1
  have gv : ∀ v, v < 10 → ∀ j, 1 ≤ j → j ≤ 14 → I2 (19 + v) j = I (79 + v) j := fun v hv j g1 g2 => by rw [fv v hv j, if_pos ⟨g1, g2⟩]
  have gr : ∀ v, v < 20 → ∀ j, j < 4 → I2 (29 + v) j = I (89 + v) j := fun v hv j g1 => by rw [fr v hv j, if_pos g1]
  obtain ⟨pW, pH, pT, pS, pL, pV, pR, pCr, pWl, pWy, pFo, pSh, pNo, pX, pY, pWe, pSa, pKi, pAn, pDg, pTh, pDr, pSp, pSk, pS0, pSx, pSy, pSt, pRa, pRb, pRl, pRt, pMe, pBa, pBt⟩ := h
  refine ⟨?_, ?_, ?_, ?_, ?_, ?_, ?_, ?_, ?_, ?_, ?_, ?_, ?_, ?_, ?_, ?_, ?_, ?_, ?_, ?_, ?_, ?_, ?_, ?_, ?_, ?_, ?_, ?_, ?_, ?_, ?_, ?_, ?_, ?_, ?_⟩
  · rw [f0 _ (by omega)]; exact pW
  · rw [f0 _ (by omega)]; exact pH
  · rw [f0 _ (by omega)]; exact pT
  · rw [f0 _ (by omega)]; exact pS
  · rw [f0 _ (by omega)]; exact pL
  · rw [f0 _ (by omega)]; exact pV
  · rw [f0 _ (by omega)]; exact pR
  · intro v g0; rw [fpCr v g0]; exact pCr v g0
  · intro v g0; rw [fpWl v g0]; exact pWl v g0
  · intro v g0; rw [fpWy v g0]; exact pWy v g0
  · intro v g0; rw [fpFo v g0]; exact pFo v g0
  · intro v g0; rw [fpSh v g0]; exact pSh v g0
  · exact hn
  · intro v g0; rw [gv v (by omega) _ (by omega) (by omega)]; exact pX v g0
  · intro v g0; rw [gv v (by omega) _ (by omega) (by omega)]; exact pY v g0
  · intro v g0; rw [gv v (by omega) _ (by omega) (by omega)]; exact pWe v g0
  · intro v g0; rw [gv v (by omega) _ (by omega) (by omega)]; exact pSa v g0
  · intro v g0; rw [gv v (by omega) _ (by omega) (by omega)]; exact pKi v g0
  · intro v g0; rw [gv v (by omega) _ (by omega) (by omega)]; exact pAn v g0
  · intro v g0; rw [gv v (by omega) _ (by omega) (by omega)]; exact pDg v g0
  · intro v g0; rw [gv v (by omega) _ (by omega) (by omega)]; exact pTh v g0
  · intro v g0; rw [gv v (by omega) _ (by omega) (by omega)]; exact pDr v g0
  · intro v g0; rw [gv v (by omega) _ (by omega) (by omega)]; exact pSp v g0
  · intro v g0; rw [gv v (by omega) _ (by omega) (by omega)]; exact pSk v g0
  · intro v g0 g1; rw [gv v (by omega) _ (by omega) (by omega)]; exact pS0 v g0 g1
  · intro v g0 g1; rw [gv v (by omega) _ (by omega) (by omega)]; exact pSx v g0 g1
  · intro v g0 g1; rw [gv v (by omega) _ (by omega) (by omega)]; exact pSy v g0 g1
  · intro v g0 g1; rw [gv v (by omega) _ (by omega) (by omega)]; exact pSt v g0 g1
  · intro v g0; rw [gr v (by omega) _ (by omega)]; exact pRa v g0
  · intro v g0; rw [gr v (by omega) _ (by omega)]; exact pRb v g0
  · intro v g0; rw [gr v (by omega) _ (by omega)]; exact pRl v g0
  · intro v g0; rw [gr v (by omega) _ (by omega)]; exact pRt v g0
  · intro u v g0 g1; rw [fpMe _ (by omega)]; exact pMe u v g0 g1
  · intro v g0; rw [gv v (by omega) _ (by omega) (by omega)]; exact pBa v g0
  · intro v g0; rw [gr v (by omega) _ (by omega)]; exact pBt v g0
theorem RM_c (h : RM I0 N Z) (ho : OW N) (f1 : ∀ j, j = 4 ∨ j = 5 ∨ j = 10 ∨ j = 15 ∨ j = 16 → I2 249 j = I0 249 j) (f2 : ∀ j, j < 336 → I2 250 j = I0 250 j) (f3 : ∀ j, j < 144 → I2 252 j = I0 252 j) (f4 : ∀ j, j < 24 → I2 253 j = I0 253 j ∧ I2 254 j = I0 254 j ∧ I2 255 j = I0 255 j) (f5 : ∀ j, j < 10 → I2 256 j = I0 256 j ∧ I2 257 j = I0 257 j ∧ I2 258 j = I0 258 j ∧ I2 259 j = I0 259 j ∧ I2 263 j = I0 263 j ∧ I2 264 j = I0 264 j) (f6 : ∀ j, j < 20 → I2 260 j = I0 260 j ∧ I2 261 j = I0 261 j ∧ I2 262 j = I0 262 j) (f7 : ∀ j, j < 4 → I2 267 j = I0 267 j) (f8 : ∀ j, j < 64 → I2 268 j = I0 268 j ∧ I2 269 j = I0 269 j ∧ I2 270 j = I0 270 j) (f9 : ∀ j, j < 1600 → I2 271 j = I0 271 j ∧ I2 272 j = I0 272 j) : RM I2 N Z := by
  refine ⟨RN_c h.1 f2, ?_⟩
  have hS := h.2
  obtain ⟨mW, mH, mV, mL, mR, mWl, mWy, mFo, mSh, mWe, mSa, mKi, mAn, mRa, mRb, mRl, mSc, mSt, mLi, mWo, mFr, mTo, mOp, mAr⟩ := hS
  have b16 : ∀ u, u < 4 → N 20 u ≤ 16 := fun u hu => (ho u hu).1
  have b400 : ∀ u, u < 4 → N (21 + u) (N 20 u) ≤ 400 := by
    intro u hu
    obtain ⟨w1, w2, w3⟩ := ho u hu
    by_cases e : N 20 u = 0
    · rw [e, w2]; omega
    · obtain ⟨l, hl⟩ : ∃ l, N 20 u = l + 1 := ⟨N 20 u - 1, by omega⟩
      have := (w3 l (by omega)).2.1
      rw [← hl] at this
      exact this
  refine ⟨?_, ?_, ?_, ?_, ?_, ?_, ?_, ?_, ?_, ?_, ?_, ?_, ?_, ?_, ?_, ?_, ?_, ?_, ?_, ?_, ?_, ?_, ?_, ?_⟩
  · rw [f1 _ (by omega)]; exact mW
  · rw [f1 _ (by omega)]; exact mH
  · rw [f1 _ (by omega)]; exact mV
  · rw [f1 _ (by omega)]; exact mL
  · rw [f1 _ (by omega)]; exact mR
  · intro v g0; rw [f3 v g0]; exact mWl v g0
  · intro v g0; rw [(f4 v g0).1]; exact mWy v g0
  · intro v g0; rw [(f4 v g0).2.1]; exact mFo v g0
  · intro v g0; rw [(f4 v g0).2.2]; exact mSh v g0
  · intro v g0; rw [(f5 v g0).1]; exact mWe v g0
  · intro v g0; rw [(f5 v g0).2.1]; exact mSa v g0
  · intro v g0; rw [(f5 v g0).2.2.1]; exact mKi v g0
  · intro v g0; rw [(f5 v g0).2.2.2.1]; exact mAn v g0
  · intro v g0; rw [(f6 v g0).1]; exact mRa v g0
  · intro v g0; rw [(f6 v g0).2.1]; exact mRb v g0
  · intro v g0; rw [(f6 v g0).2.2]; exact mRl v g0
  · intro v g0; rw [(f5 v g0).2.2.2.2.1]; exact mSc v g0
  · intro v g0; rw [(f5 v g0).2.2.2.2.2]; exact mSt v g0
  · intro v g0; rw [f7 v g0]; exact mLi v g0
  · intro u v g0 g1; have := b16 u g0; rw [(f8 (16 * u + v) (by omega)).1]; exact mWo u v g0 g1
  · intro u v g0 g1; have := b16 u g0; rw [(f8 (16 * u + v) (by omega)).2.1]; exact mFr u v g0 g1
  · intro u v g0 g1; have := b16 u g0; rw [(f8 (16 * u + v) (by omega)).2.2]; exact mTo u v g0 g1
  · intro u v g0 g1; have := b400 u g0; rw [(f9 (400 * u + v) (by omega)).1]; exact mOp u v g0 g1
  · intro u v g0 g1; have := b400 u g0; rw [(f9 (400 * u + v) (by omega)).2]; exact mAr u v g0 g1
theorem PK_at {I' : Nat → Nat → Int32} {tk : Bool} (h : PK tk I 4073 I') (hs : s < 4073) (h1 : lr s = r) (h2 : li s = i) : I' 279 s = (if tk = true then I r i else I 279 s) ∧ I' r i = (if tk = true then I r i else I 279 s) := by
  have := h.2.2.1 s hs
  rw [h1, h2] at this
  exact this
theorem l6a (h : i < 10) (hj : j < 4) : lr (555 + 6 * i + j) = 256 + j ∧ li (555 + 6 * i + j) = i := by
  have := lr_6 (s := 555 + 6 * i + j) (by omega) (by omega)
  rw [if_pos (by omega)] at this
  omega
theorem l6b (h : i < 10) (hj : 4 ≤ j) (hj2 : j < 6) : lr (555 + 6 * i + j) = 259 + j ∧ li (555 + 6 * i + j) = i := by
  have := lr_6 (s := 555 + 6 * i + j) (by omega) (by omega)
  rw [if_neg (by omega)] at this
  omega
theorem PK_all {I' : Nat → Nat → Int32} {tk : Bool} (h : PK tk I 4073 I') : (I' 279 (0) = (if tk = true then I 249 4 else I 279 (0)) ∧ I' 249 4 = (if tk = true then I 249 4 else I 279 (0))) ∧ (I' 279 (1) = (if tk = true then I 249 5 else I 279 (1)) ∧ I' 249 5 = (if tk = true then I 249 5 else I 279 (1))) ∧ (∀ j, j < 336 → I' 279 (2 + j) = (if tk = true then I 250 j else I 279 (2 + j)) ∧ I' 250 j = (if tk = true then I 250 j else I 279 (2 + j))) ∧ (∀ j, j < 144 → I' 279 (338 + j) = (if tk = true then I 252 j else I 279 (338 + j)) ∧ I' 252 j = (if tk = true then I 252 j else I 279 (338 + j))) ∧ (∀ j, j < 24 → I' 279 (482 + 3 * j) = (if tk = true then I 253 j else I 279 (482 + 3 * j)) ∧ I' 253 j = (if tk = true then I 253 j else I 279 (482 + 3 * j))) ∧ (∀ j, j < 24 → I' 279 (483 + 3 * j) = (if tk = true then I 254 j else I 279 (483 + 3 * j)) ∧ I' 254 j = (if tk = true then I 254 j else I 279 (483 + 3 * j))) ∧ (∀ j, j < 24 → I' 279 (484 + 3 * j) = (if tk = true then I 255 j else I 279 (484 + 3 * j)) ∧ I' 255 j = (if tk = true then I 255 j else I 279 (484 + 3 * j))) ∧ (I' 279 (554) = (if tk = true then I 249 10 else I 279 (554)) ∧ I' 249 10 = (if tk = true then I 249 10 else I 279 (554))) ∧ (∀ j, j < 10 → I' 279 (555 + 6 * j) = (if tk = true then I 256 j else I 279 (555 + 6 * j)) ∧ I' 256 j = (if tk = true then I 256 j else I 279 (555 + 6 * j))) ∧ (∀ j, j < 10 → I' 279 (556 + 6 * j) = (if tk = true then I 257 j else I 279 (556 + 6 * j)) ∧ I' 257 j = (if tk = true then I 257 j else I 279 (556 + 6 * j))) ∧ (∀ j, j < 10 → I' 279 (557 + 6 * j) = (if tk = true then I 258 j else I 279 (557 + 6 * j)) ∧ I' 258 j = (if tk = true then I 258 j else I 279 (557 + 6 * j))) ∧ (∀ j, j < 10 → I' 279 (558 + 6 * j) = (if tk = true then I 259 j else I 279 (558 + 6 * j)) ∧ I' 259 j = (if tk = true then I 259 j else I 279 (558 + 6 * j))) ∧ (∀ j, j < 10 → I' 279 (559 + 6 * j) = (if tk = true then I 263 j else I 279 (559 + 6 * j)) ∧ I' 263 j = (if tk = true then I 263 j else I 279 (559 + 6 * j))) ∧ (∀ j, j < 10 → I' 279 (560 + 6 * j) = (if tk = true then I 264 j else I 279 (560 + 6 * j)) ∧ I' 264 j = (if tk = true then I 264 j else I 279 (560 + 6 * j))) ∧ (I' 279 (615) = (if tk = true then I 249 15 else I 279 (615)) ∧ I' 249 15 = (if tk = true then I 249 15 else I 279 (615))) ∧ (I' 279 (616) = (if tk = true then I 249 16 else I 279 (616)) ∧ I' 249 16 = (if tk = true then I 249 16 else I 279 (616))) ∧ (∀ j, j < 20 → I' 279 (617 + 3 * j) = (if tk = true then I 260 j else I 279 (617 + 3 * j)) ∧ I' 260 j = (if tk = true then I 260 j else I 279 (617 + 3 * j))) ∧ (∀ j, j < 20 → I' 279 (618 + 3 * j) = (if tk = true then I 261 j else I 279 (618 + 3 * j)) ∧ I' 261 j = (if tk = true then I 261 j else I 279 (618 + 3 * j))) ∧ (∀ j, j < 20 → I' 279 (619 + 3 * j) = (if tk = true then I 262 j else I 279 (619 + 3 * j)) ∧ I' 262 j = (if tk = true then I 262 j else I 279 (619 + 3 * j))) ∧ (∀ j, j < 4 → I' 279 (677 + j) = (if tk = true then I 267 j else I 279 (677 + j)) ∧ I' 267 j = (if tk = true then I 267 j else I 279 (677 + j))) ∧ (∀ j, j < 64 → I' 279 (681 + 3 * j) = (if tk = true then I 268 j else I 279 (681 + 3 * j)) ∧ I' 268 j = (if tk = true then I 268 j else I 279 (681 + 3 * j))) ∧ (∀ j, j < 64 → I' 279 (682 + 3 * j) = (if tk = true then I 269 j else I 279 (682 + 3 * j)) ∧ I' 269 j = (if tk = true then I 269 j else I 279 (682 + 3 * j))) ∧ (∀ j, j < 64 → I' 279 (683 + 3 * j) = (if tk = true then I 270 j else I 279 (683 + 3 * j)) ∧ I' 270 j = (if tk = true then I 270 j else I 279 (683 + 3 * j))) ∧ (∀ j, j < 1600 → I' 279 (873 + 2 * j) = (if tk = true then I 271 j else I 279 (873 + 2 * j)) ∧ I' 271 j = (if tk = true then I 271 j else I 279 (873 + 2 * j))) ∧ (∀ j, j < 1600 → I' 279 (874 + 2 * j) = (if tk = true then I 272 j else I 279 (874 + 2 * j)) ∧ I' 272 j = (if tk = true then I 272 j else I 279 (874 + 2 * j))) := by
  refine ⟨?_, ?_, ?_, ?_, ?_, ?_, ?_, ?_, ?_, ?_, ?_, ?_, ?_, ?_, ?_, ?_, ?_, ?_, ?_, ?_, ?_, ?_, ?_, ?_, ?_⟩
  · exact PK_at h (by omega) (by have := lr_1 (s := 0) (by omega); omega) (by have := lr_1 (s := 0) (by omega); omega)
  · exact PK_at h (by omega) (by have := lr_1 (s := 1) (by omega); omega) (by have := lr_1 (s := 1) (by omega); omega)
  · exact fun j hj => PK_at h (by omega) (by have := lr_2 (s := 2 + j) (by omega) (by omega); omega) (by have := lr_2 (s := 2 + j) (by omega) (by omega); omega)
  · exact fun j hj => PK_at h (by omega) (by have := lr_3 (s := 338 + j) (by omega) (by omega); omega) (by have := lr_3 (s := 338 + j) (by omega) (by omega); omega)
  · exact fun j hj => PK_at h (by omega) (by have := lr_4 (s := 482 + 3 * j) (by omega) (by omega); omega) (by have := lr_4 (s := 482 + 3 * j) (by omega) (by omega); omega)
  · exact fun j hj => PK_at h (by omega) (by have := lr_4 (s := 483 + 3 * j) (by omega) (by omega); omega) (by have := lr_4 (s := 483 + 3 * j) (by omega) (by omega); omega)
  · exact fun j hj => PK_at h (by omega) (by have := lr_4 (s := 484 + 3 * j) (by omega) (by omega); omega) (by have := lr_4 (s := 484 + 3 * j) (by omega) (by omega); omega)
  · exact PK_at h (by omega) (by have := lr_5 (s := 554) (by omega) (by omega); omega) (by have := lr_5 (s := 554) (by omega) (by omega); omega)
  · exact fun j hj => PK_at h (by omega) (by have := l6a (j := 0) hj (by omega); rw [show 555 + 6 * j + 0 = 555 + 6 * j by omega] at this; omega) (by have := l6a (j := 0) hj (by omega); rw [show 555 + 6 * j + 0 = 555 + 6 * j by omega] at this; omega)
  · exact fun j hj => PK_at h (by omega) (by have := l6a (j := 1) hj (by omega); rw [show 555 + 6 * j + 1 = 556 + 6 * j by omega] at this; omega) (by have := l6a (j := 1) hj (by omega); rw [show 555 + 6 * j + 1 = 556 + 6 * j by omega] at this; omega)
  · exact fun j hj => PK_at h (by omega) (by have := l6a (j := 2) hj (by omega); rw [show 555 + 6 * j + 2 = 557 + 6 * j by omega] at this; omega) (by have := l6a (j := 2) hj (by omega); rw [show 555 + 6 * j + 2 = 557 + 6 * j by omega] at this; omega)
  · exact fun j hj => PK_at h (by omega) (by have := l6a (j := 3) hj (by omega); rw [show 555 + 6 * j + 3 = 558 + 6 * j by omega] at this; omega) (by have := l6a (j := 3) hj (by omega); rw [show 555 + 6 * j + 3 = 558 + 6 * j by omega] at this; omega)
  · exact fun j hj => PK_at h (by omega) (by have := l6b (j := 4) hj (by omega) (by omega); rw [show 555 + 6 * j + 4 = 559 + 6 * j by omega] at this; omega) (by have := l6b (j := 4) hj (by omega) (by omega); rw [show 555 + 6 * j + 4 = 559 + 6 * j by omega] at this; omega)
  · exact fun j hj => PK_at h (by omega) (by have := l6b (j := 5) hj (by omega) (by omega); rw [show 555 + 6 * j + 5 = 560 + 6 * j by omega] at this; omega) (by have := l6b (j := 5) hj (by omega) (by omega); rw [show 555 + 6 * j + 5 = 560 + 6 * j by omega] at this; omega)
  · exact PK_at h (by omega) (by have := lr_7 (s := 615) (by omega) (by omega); omega) (by have := lr_7 (s := 615) (by omega) (by omega); omega)
  · exact PK_at h (by omega) (by have := lr_7 (s := 616) (by omega) (by omega); omega) (by have := lr_7 (s := 616) (by omega) (by omega); omega)
  · exact fun j hj => PK_at h (by omega) (by have := lr_8 (s := 617 + 3 * j) (by omega) (by omega); omega) (by have := lr_8 (s := 617 + 3 * j) (by omega) (by omega); omega)
  · exact fun j hj => PK_at h (by omega) (by have := lr_8 (s := 618 + 3 * j) (by omega) (by omega); omega) (by have := lr_8 (s := 618 + 3 * j) (by omega) (by omega); omega)
  · exact fun j hj => PK_at h (by omega) (by have := lr_8 (s := 619 + 3 * j) (by omega) (by omega); omega) (by have := lr_8 (s := 619 + 3 * j) (by omega) (by omega); omega)
  · exact fun j hj => PK_at h (by omega) (by have := lr_9 (s := 677 + j) (by omega) (by omega); omega) (by have := lr_9 (s := 677 + j) (by omega) (by omega); omega)
  · exact fun j hj => PK_at h (by omega) (by have := lr_10 (s := 681 + 3 * j) (by omega) (by omega); omega) (by have := lr_10 (s := 681 + 3 * j) (by omega) (by omega); omega)
  · exact fun j hj => PK_at h (by omega) (by have := lr_10 (s := 682 + 3 * j) (by omega) (by omega); omega) (by have := lr_10 (s := 682 + 3 * j) (by omega) (by omega); omega)
  · exact fun j hj => PK_at h (by omega) (by have := lr_10 (s := 683 + 3 * j) (by omega) (by omega); omega) (by have := lr_10 (s := 683 + 3 * j) (by omega) (by omega); omega)
  · exact fun j hj => PK_at h (by omega) (by have := lr_11 (s := 873 + 2 * j) (by omega) (by omega); omega) (by have := lr_11 (s := 873 + 2 * j) (by omega) (by omega); omega)
  · exact fun j hj => PK_at h (by omega) (by have := lr_11 (s := 874 + 2 * j) (by omega) (by omega); omega) (by have := lr_11 (s := 874 + 2 * j) (by omega) (by omega); omega)
theorem PK_EN {I' : Nat → Nat → Int32} (h : PK true I 4073 I') : EN I (I' 279) := by
  obtain ⟨f249_4, f249_5, f250, f252, f253, f254, f255, f249_10, f256, f257, f258, f259, f263, f264, f249_15, f249_16, f260, f261, f262, f267, f268, f269, f270, f271, f272⟩ := PK_all h
  simp only [if_true] at *
  exact ⟨f249_4.1, f249_5.1, fun j hj => (f250 j hj).1, fun j hj => (f252 j hj).1, fun j hj => ⟨(f253 j hj).1, (f254 j hj).1, (f255 j hj).1⟩, f249_10.1, fun j hj => ⟨(f256 j hj).1, (f257 j hj).1, (f258 j hj).1, (f259 j hj).1, (f263 j hj).1, (f264 j hj).1⟩, f249_15.1, f249_16.1, fun j hj => ⟨(f260 j hj).1, (f261 j hj).1, (f262 j hj).1⟩, fun j hj => (f267 j hj).1, fun j hj => ⟨(f268 j hj).1, (f269 j hj).1, (f270 j hj).1⟩, fun j hj => ⟨(f271 j hj).1, (f272 j hj).1⟩⟩
theorem PK_RM {I' : Nat → Nat → Int32} (h : PK false I 4073 I') (hE : EN I0 (I 279)) (hR : RM I0 N Z) (ho : OW N) : RM I' N Z := by
  obtain ⟨f249_4, f249_5, f250, f252, f253, f254, f255, f249_10, f256, f257, f258, f259, f263, f264, f249_15, f249_16, f260, f261, f262, f267, f268, f269, f270, f271, f272⟩ := PK_all h
  obtain ⟨e1, e2, e3, e4, e5, e6, e7, e8, e9, e10, e11, e12, e13⟩ := hE
  simp only [Bool.false_eq_true, if_false] at *
  refine RM_c hR ho ?_ (fun j hj => (f250 j hj).2.trans (e3 j hj)) (fun j hj => (f252 j hj).2.trans (e4 j hj)) (fun j hj => ⟨(f253 j hj).2.trans (e5 j hj).1, (f254 j hj).2.trans (e5 j hj).2.1, (f255 j hj).2.trans (e5 j hj).2.2⟩) (fun j hj => ⟨(f256 j hj).2.trans (e7 j hj).1, (f257 j hj).2.trans (e7 j hj).2.1, (f258 j hj).2.trans (e7 j hj).2.2.1, (f259 j hj).2.trans (e7 j hj).2.2.2.1, (f263 j hj).2.trans (e7 j hj).2.2.2.2.1, (f264 j hj).2.trans (e7 j hj).2.2.2.2.2⟩) (fun j hj => ⟨(f260 j hj).2.trans (e10 j hj).1, (f261 j hj).2.trans (e10 j hj).2.1, (f262 j hj).2.trans (e10 j hj).2.2⟩) (fun j hj => (f267 j hj).2.trans (e11 j hj)) (fun j hj => ⟨(f268 j hj).2.trans (e12 j hj).1, (f269 j hj).2.trans (e12 j hj).2.1, (f270 j hj).2.trans (e12 j hj).2.2⟩) (fun j hj => ⟨(f271 j hj).2.trans (e13 j hj).1, (f272 j hj).2.trans (e13 j hj).2⟩)
  intro j hj
  rcases hj with rfl | rfl | rfl | rfl | rfl
  · exact f249_4.2.trans e1
  · exact f249_5.2.trans e2
  · exact f249_10.2.trans e6
  · exact f249_15.2.trans e8
  · exact f249_16.2.trans e9
theorem PK_same {I' : Nat → Nat → Int32} (h : PK true I 4073 I') (ha : p ≠ 279) (hj : ¬ (p = 249 ∧ j = 50)) : I' p j = I p j := by
  by_cases e : ∃ s, s < 4073 ∧ p = lr s ∧ j = li s
  · obtain ⟨s, h1, rfl, rfl⟩ := e
    have := (h.2.2.1 s h1).2
    rwa [if_pos rfl] at this
  · exact h.2.2.2.2 p j ha hj (fun s hs g => e ⟨s, hs, g⟩)
theorem PK_back {I' : Nat → Nat → Int32} (h : PK false I 4073 I') (ha : p ≠ 279) (hj : ¬ (p = 249 ∧ (j = 50 ∨ j = 4 ∨ j = 5 ∨ j = 10 ∨ j = 15 ∨ j = 16))) (hp : p < 250 ∨ p = 251 ∨ p = 265 ∨ p = 266 ∨ 273 ≤ p) : I' p j = I p j := by
  refine h.2.2.2.2 p j ha (by omega) (fun s hs g => ?_)
  have := lr_b hs
  omega
theorem PK_279 {I' : Nat → Nat → Int32} (h : PK false I 4073 I') : I' 279 = I 279 := by
  funext s
  by_cases e : s < 4073
  · have := (h.2.2.1 s e).1
    rwa [if_neg (by decide)] at this
  · exact h.2.2.2.1 s (by omega)
theorem RM_im (h : RM I N Z) : RM (im0 I b) N Z := by
  refine ⟨?_, RS_fr2 h.2 ?_ ?_⟩
  · unfold im0; simp (disch := omega) only [upR]; exact h.1
  · intro a ha; unfold im0; simp (disch := omega) only [upR]
  · intro j hj; unfold im0; simp (disch := omega) only [upI]
theorem op_image (hb : b = 0 ∨ b = 1) : OP L (d + 10) (d + 10) mX11_image mX12_image [.int b] := by
  rintro I J w ⟨N, Z, H, K, t, B, fk, fp, ha, hc, hm⟩
  have hs := ha.1
  have hd := ha.2.1
  obtain ⟨fo, f1, f2⟩ := hc.2.2.1.1
  have f1' : ∀ u, u < 4 → w u = some (fo u) ∧ isO (fo u) := fun u hu => f1 u (by omega)
  have f2' : ∀ u v, u < 4 → v < 4 → fo u = fo v → u = v := fun u v hu hv => f2 u v (by omega) (by omega)
  have oo : ∀ u, u < 4 → fo u = 49 ∨ fo u = 54 ∨ fo u = 59 ∨ fo u = 64 ∨ fo u = 228 := fun u hu => (f1' u hu).2
  have ow := hs.2.2.2.2.2.2.2.2.2.2.2.2
  have hRG := hc.1
  rw [e_X11_image]
  rcases hb with rfl | rfl
  · cases K with
    | none =>
      have z1 : I 8 2 = 0 := hc.2.2.2.2.1.1
      simp (disch := omega) only [x_X11_image_0, x_X11_image_1, x_X11_image_4, x_X11_image_5, x_X11_image_8, x_X11_image_9, x_X11_image_12, x_X11_image_15, x_X11_image_16, x_X11_image_17, x_X11_image_20, x_X11_image_21, x_X11_image_22, x_X11_image_23, x_X11_image_26, x_X11_image_29, x_X11_image_30, x_X11_image_31, x_X11_image_32, x_X11_image_35, x_X11_image_36, x_X11_image_39, x_X11_image_42, x_X11_image_43, x_X11_image_46, x_X11_image_49, x_X11_image_50, Bool.false_eq_true, am_cl_i, am_cl_r, am_cl_n, am_cl_l, am_cl_0, va_rf_s, va_rf_0, tl_s, tl_n, bi_0, bi_1, bi_z, true_and, and_true, false_and, and_false, true_implies, false_implies, implies_true, not_true_eq_false, not_false_eq_true, and_self, true_or, or_true, false_or, or_false, eq_self, Nat.reduceAdd, Nat.reduceMul, Nat.reduceSub, Nat.reduceDiv, Nat.reduceMod, Nat.reduceLeDiff, Nat.reduceEqDiff, Nat.reduceLT, ix0, ix1, in0, in1, gF_2, sh_8, ok_8, sh_9, ok_9, sh_10, sh_11, sh_12, sh_13, sh_14, sh_15, sh_16, sh_17, sh_18, sh_49, ok_49, sh_50, sh_51, sh_52, sh_53, sh_54, ok_54, sh_55, sh_56, sh_57, sh_58, sh_59, ok_59, sh_60, sh_61, sh_62, sh_63, sh_64, ok_64, sh_65, sh_66, sh_67, sh_68, sh_69, ok_69, sh_70, sh_71, sh_72, sh_73, sh_74, sh_75, sh_76, sh_77, sh_78, sh_109, ok_109, sh_110, sh_111, sh_112, sh_113, sh_114, ok_114, sh_115, sh_116, sh_117, sh_118, sh_119, ok_119, sh_120, sh_121, sh_122, sh_123, sh_124, ok_124, sh_125, sh_126, sh_127, sh_128, sh_129, ok_129, sh_130, sh_131, ok_131, sh_132, sh_133, sh_134, sh_135, sh_146, ok_146, sh_147, sh_148, sh_149, sh_150, sh_161, ok_161, sh_162, sh_163, sh_164, sh_165, sh_176, ok_176, sh_177, sh_178, sh_179, sh_180, sh_191, ok_191, sh_192, sh_193, sh_194, sh_195, sh_206, ok_206, sh_207, sh_208, sh_209, sh_210, sh_221, ok_221, sh_222, sh_223, ok_223, sh_224, sh_225, sh_226, sh_227, ok_227, sh_228, ok_228, sh_229, sh_230, sh_231, sh_232, sh_233, ok_233, sh_234, sh_235, sh_236, sh_237, sh_238, sh_239, ok_239, sh_240, sh_241, sh_242, sh_243, sh_244, sh_245, sh_246, ok_246, sh_247, sh_248, sh_249, ok_249, sh_250, sh_251, sh_252, sh_253, sh_254, sh_255, sh_256, sh_257, sh_258, sh_259, sh_260, sh_261, sh_262, sh_263, sh_264, sh_265, sh_266, sh_267, sh_268, sh_269, sh_270, sh_271, sh_272, sh_273, sh_274, sh_275, sh_276, sh_277, sh_278, sh_279, sh_1, sh_2, sh_3, sh_4, gv_s, gv_o, kv_s, kv_o, gr_s, gr_o, kr_s, kr_o, r_8_0, r_8_1, r_8_3, r_8_4, r_8_5, r_8_6, r_8_7, r_8_8, r_8_9, r_8_10, r_9_7, r_9_8, r_9_9, r_9_10, r_9_11, r_9_12, r_9_13, r_9_14, r_9_15, r_49_2, r_49_3, r_49_4, r_49_6, r_54_2, r_54_3, r_54_4, r_54_6, r_59_2, r_59_3, r_59_4, r_59_6, r_64_2, r_64_3, r_64_4, r_64_6, r_69_7, r_69_8, r_69_9, r_69_10, r_69_11, r_69_12, r_69_13, r_69_14, r_69_15, r_109_2, r_109_3, r_109_4, r_109_6, r_114_2, r_114_3, r_114_4, r_114_6, r_119_2, r_119_3, r_119_4, r_119_6, r_124_2, r_124_3, r_124_4, r_124_6, r_129_0, r_131_2, r_131_3, r_131_4, r_131_5, r_146_2, r_146_3, r_146_4, r_146_5, r_161_2, r_161_3, r_161_4, r_161_5, r_176_2, r_176_3, r_176_4, r_176_5, r_191_2, r_191_3, r_191_4, r_191_5, r_206_2, r_206_3, r_206_4, r_206_5, r_221_0, r_221_1, r_223_0, r_223_2, r_223_3, r_227_0, r_228_2, r_228_3, r_228_4, r_228_6, r_233_0, r_233_1, r_233_2, r_233_3, r_233_4, r_233_5, r_239_0, r_239_1, r_239_2, r_239_3, r_239_4, r_239_5, r_246_2, r_246_3, r_249_1, r_249_2, r_249_6, r_249_7, r_249_8, r_249_9, r_249_11, r_249_12, r_249_13, r_249_14, r_249_17, r_249_18, r_249_19, r_249_20, r_249_21, r_249_22, r_249_28, r_249_29, r_249_30, r_249_31, r_249_32, r_249_33, r_249_34, r_249_37, r_249_43, r_249_44, r_249_45, r_249_46, r_249_47, r_249_51, r_227_1, r_233_6, r_239_6, r_246_0, r_246_1, r_15, r_75, r_16, r_76, r_18, r_78, r_130, ltr2, ltr3, ltr4, ltr5, ltr6, ltr7, ltr8, ltr9, ltr10, ltr11, ltr12, ltr13, ltr14, ltr15, ltr16, ltr17, ltr20, ltr22, ltr23, ltr24, ltr25, ltr31, ltr32, ltr40, ltr41, ltr42, ltr43, ltr45, ltr47, ltr48, ltr50, ltr52, ltr57, ltr59, ltr60, ltr61, ltr62, ltr64, ltr65, ltr72, ltr77, ltr90, ltr91, ltr97, ltr99, ltr100, ltr122, ltr144, ltr216, ltr236, ltr240, ltr255, ltr256, ltr257, ltr258, ltr259, ltr260, ltr261, ltr262, ltr271, ltr272, ltr273, ltr288, ltr336, ltr380, ltr400, ltr1000, ltr1600, ltr9999, ltr10000, ixN, inN, ltN, leN, eqN, lt0N, le0N, eq0N, eq1N, addN, add1N, mulN, divN, remN, modS, rdN, inCN, inR0, inR1, inRN, inVN, upS, upA, upI, upR, rwS, rwA, i10, biT, biF, rd1, rd2, ofn8, z1]
      refine ⟨_, w, rfl, rfl, rfl, rfl, ?_⟩
      rw [m_image_f hm.2.2.1]
      exact ⟨w, rfl, rfl, rfl, ST_same ha hc hm⟩
    | some p =>
      obtain ⟨k1, k2, k3⟩ := hc.2.2.2.2.1
      obtain ⟨s1, d1⟩ := ha.2.2.2.1 p rfl
      simp (disch := omega) only [x_X11_image_0, x_X11_image_1, x_X11_image_4, x_X11_image_5, x_X11_image_8, x_X11_image_9, x_X11_image_12, x_X11_image_15, x_X11_image_16, x_X11_image_17, x_X11_image_20, x_X11_image_21, x_X11_image_22, x_X11_image_23, x_X11_image_26, x_X11_image_29, x_X11_image_30, x_X11_image_31, x_X11_image_32, x_X11_image_35, x_X11_image_36, x_X11_image_39, x_X11_image_42, x_X11_image_43, x_X11_image_46, x_X11_image_49, x_X11_image_50, Bool.false_eq_true, am_cl_i, am_cl_r, am_cl_n, am_cl_l, am_cl_0, va_rf_s, va_rf_0, tl_s, tl_n, bi_0, bi_1, bi_z, true_and, and_true, false_and, and_false, true_implies, false_implies, implies_true, not_true_eq_false, not_false_eq_true, and_self, true_or, or_true, false_or, or_false, eq_self, Nat.reduceAdd, Nat.reduceMul, Nat.reduceSub, Nat.reduceDiv, Nat.reduceMod, Nat.reduceLeDiff, Nat.reduceEqDiff, Nat.reduceLT, ix0, ix1, in0, in1, gF_2, sh_8, ok_8, sh_9, ok_9, sh_10, sh_11, sh_12, sh_13, sh_14, sh_15, sh_16, sh_17, sh_18, sh_49, ok_49, sh_50, sh_51, sh_52, sh_53, sh_54, ok_54, sh_55, sh_56, sh_57, sh_58, sh_59, ok_59, sh_60, sh_61, sh_62, sh_63, sh_64, ok_64, sh_65, sh_66, sh_67, sh_68, sh_69, ok_69, sh_70, sh_71, sh_72, sh_73, sh_74, sh_75, sh_76, sh_77, sh_78, sh_109, ok_109, sh_110, sh_111, sh_112, sh_113, sh_114, ok_114, sh_115, sh_116, sh_117, sh_118, sh_119, ok_119, sh_120, sh_121, sh_122, sh_123, sh_124, ok_124, sh_125, sh_126, sh_127, sh_128, sh_129, ok_129, sh_130, sh_131, ok_131, sh_132, sh_133, sh_134, sh_135, sh_146, ok_146, sh_147, sh_148, sh_149, sh_150, sh_161, ok_161, sh_162, sh_163, sh_164, sh_165, sh_176, ok_176, sh_177, sh_178, sh_179, sh_180, sh_191, ok_191, sh_192, sh_193, sh_194, sh_195, sh_206, ok_206, sh_207, sh_208, sh_209, sh_210, sh_221, ok_221, sh_222, sh_223, ok_223, sh_224, sh_225, sh_226, sh_227, ok_227, sh_228, ok_228, sh_229, sh_230, sh_231, sh_232, sh_233, ok_233, sh_234, sh_235, sh_236, sh_237, sh_238, sh_239, ok_239, sh_240, sh_241, sh_242, sh_243, sh_244, sh_245, sh_246, ok_246, sh_247, sh_248, sh_249, ok_249, sh_250, sh_251, sh_252, sh_253, sh_254, sh_255, sh_256, sh_257, sh_258, sh_259, sh_260, sh_261, sh_262, sh_263, sh_264, sh_265, sh_266, sh_267, sh_268, sh_269, sh_270, sh_271, sh_272, sh_273, sh_274, sh_275, sh_276, sh_277, sh_278, sh_279, sh_1, sh_2, sh_3, sh_4, gv_s, gv_o, kv_s, kv_o, gr_s, gr_o, kr_s, kr_o, r_8_0, r_8_1, r_8_3, r_8_4, r_8_5, r_8_6, r_8_7, r_8_8, r_8_9, r_8_10, r_9_7, r_9_8, r_9_9, r_9_10, r_9_11, r_9_12, r_9_13, r_9_14, r_9_15, r_49_2, r_49_3, r_49_4, r_49_6, r_54_2, r_54_3, r_54_4, r_54_6, r_59_2, r_59_3, r_59_4, r_59_6, r_64_2, r_64_3, r_64_4, r_64_6, r_69_7, r_69_8, r_69_9, r_69_10, r_69_11, r_69_12, r_69_13, r_69_14, r_69_15, r_109_2, r_109_3, r_109_4, r_109_6, r_114_2, r_114_3, r_114_4, r_114_6, r_119_2, r_119_3, r_119_4, r_119_6, r_124_2, r_124_3, r_124_4, r_124_6, r_129_0, r_131_2, r_131_3, r_131_4, r_131_5, r_146_2, r_146_3, r_146_4, r_146_5, r_161_2, r_161_3, r_161_4, r_161_5, r_176_2, r_176_3, r_176_4, r_176_5, r_191_2, r_191_3, r_191_4, r_191_5, r_206_2, r_206_3, r_206_4, r_206_5, r_221_0, r_221_1, r_223_0, r_223_2, r_223_3, r_227_0, r_228_2, r_228_3, r_228_4, r_228_6, r_233_0, r_233_1, r_233_2, r_233_3, r_233_4, r_233_5, r_239_0, r_239_1, r_239_2, r_239_3, r_239_4, r_239_5, r_246_2, r_246_3, r_249_1, r_249_2, r_249_6, r_249_7, r_249_8, r_249_9, r_249_11, r_249_12, r_249_13, r_249_14, r_249_17, r_249_18, r_249_19, r_249_20, r_249_21, r_249_22, r_249_28, r_249_29, r_249_30, r_249_31, r_249_32, r_249_33, r_249_34, r_249_37, r_249_43, r_249_44, r_249_45, r_249_46, r_249_47, r_249_51, r_227_1, r_233_6, r_239_6, r_246_0, r_246_1, r_15, r_75, r_16, r_76, r_18, r_78, r_130, ltr2, ltr3, ltr4, ltr5, ltr6, ltr7, ltr8, ltr9, ltr10, ltr11, ltr12, ltr13, ltr14, ltr15, ltr16, ltr17, ltr20, ltr22, ltr23, ltr24, ltr25, ltr31, ltr32, ltr40, ltr41, ltr42, ltr43, ltr45, ltr47, ltr48, ltr50, ltr52, ltr57, ltr59, ltr60, ltr61, ltr62, ltr64, ltr65, ltr72, ltr77, ltr90, ltr91, ltr97, ltr99, ltr100, ltr122, ltr144, ltr216, ltr236, ltr240, ltr255, ltr256, ltr257, ltr258, ltr259, ltr260, ltr261, ltr262, ltr271, ltr272, ltr273, ltr288, ltr336, ltr380, ltr400, ltr1000, ltr1600, ltr9999, ltr10000, ixN, inN, ltN, leN, eqN, lt0N, le0N, eq0N, eq1N, addN, add1N, mulN, divN, remN, modS, rdN, inCN, inR0, inR1, inRN, inVN, upS, upA, upI, upR, rwS, rwA, i10, biT, biF, rd1, rd2, ofn8, k1, i10]
      have k2' := k2
      obtain ⟨_, _, _, _, _, _, _, _, _, _, _, _, _, _, _, _, _, _, _, _, _, _, _, _, _, _, _, _, _, _, _, _, _, kBa, kBt⟩ := k2'
      have pNo := hRG.2.2.2.2.2.2.2.2.2.2.2.2.1
      refine c_cp_g f1' f2' kBa kBt ?_
      intro I2 g0 g1 g2 g3 g4 g5 g6 g7 g8 g9 g10
      simp (disch := omega) only [x_X11_image_0, x_X11_image_1, x_X11_image_4, x_X11_image_5, x_X11_image_8, x_X11_image_9, x_X11_image_12, x_X11_image_15, x_X11_image_16, x_X11_image_17, x_X11_image_20, x_X11_image_21, x_X11_image_22, x_X11_image_23, x_X11_image_26, x_X11_image_29, x_X11_image_30, x_X11_image_31, x_X11_image_32, x_X11_image_35, x_X11_image_36, x_X11_image_39, x_X11_image_42, x_X11_image_43, x_X11_image_46, x_X11_image_49, x_X11_image_50, Bool.false_eq_true, am_cl_i, am_cl_r, am_cl_n, am_cl_l, am_cl_0, va_rf_s, va_rf_0, tl_s, tl_n, bi_0, bi_1, bi_z, true_and, and_true, false_and, and_false, true_implies, false_implies, implies_true, not_true_eq_false, not_false_eq_true, and_self, true_or, or_true, false_or, or_false, eq_self, Nat.reduceAdd, Nat.reduceMul, Nat.reduceSub, Nat.reduceDiv, Nat.reduceMod, Nat.reduceLeDiff, Nat.reduceEqDiff, Nat.reduceLT, ix0, ix1, in0, in1, gF_2, sh_8, ok_8, sh_9, ok_9, sh_10, sh_11, sh_12, sh_13, sh_14, sh_15, sh_16, sh_17, sh_18, sh_49, ok_49, sh_50, sh_51, sh_52, sh_53, sh_54, ok_54, sh_55, sh_56, sh_57, sh_58, sh_59, ok_59, sh_60, sh_61, sh_62, sh_63, sh_64, ok_64, sh_65, sh_66, sh_67, sh_68, sh_69, ok_69, sh_70, sh_71, sh_72, sh_73, sh_74, sh_75, sh_76, sh_77, sh_78, sh_109, ok_109, sh_110, sh_111, sh_112, sh_113, sh_114, ok_114, sh_115, sh_116, sh_117, sh_118, sh_119, ok_119, sh_120, sh_121, sh_122, sh_123, sh_124, ok_124, sh_125, sh_126, sh_127, sh_128, sh_129, ok_129, sh_130, sh_131, ok_131, sh_132, sh_133, sh_134, sh_135, sh_146, ok_146, sh_147, sh_148, sh_149, sh_150, sh_161, ok_161, sh_162, sh_163, sh_164, sh_165, sh_176, ok_176, sh_177, sh_178, sh_179, sh_180, sh_191, ok_191, sh_192, sh_193, sh_194, sh_195, sh_206, ok_206, sh_207, sh_208, sh_209, sh_210, sh_221, ok_221, sh_222, sh_223, ok_223, sh_224, sh_225, sh_226, sh_227, ok_227, sh_228, ok_228, sh_229, sh_230, sh_231, sh_232, sh_233, ok_233, sh_234, sh_235, sh_236, sh_237, sh_238, sh_239, ok_239, sh_240, sh_241, sh_242, sh_243, sh_244, sh_245, sh_246, ok_246, sh_247, sh_248, sh_249, ok_249, sh_250, sh_251, sh_252, sh_253, sh_254, sh_255, sh_256, sh_257, sh_258, sh_259, sh_260, sh_261, sh_262, sh_263, sh_264, sh_265, sh_266, sh_267, sh_268, sh_269, sh_270, sh_271, sh_272, sh_273, sh_274, sh_275, sh_276, sh_277, sh_278, sh_279, sh_1, sh_2, sh_3, sh_4, gv_s, gv_o, kv_s, kv_o, gr_s, gr_o, kr_s, kr_o, r_8_0, r_8_1, r_8_3, r_8_4, r_8_5, r_8_6, r_8_7, r_8_8, r_8_9, r_8_10, r_9_7, r_9_8, r_9_9, r_9_10, r_9_11, r_9_12, r_9_13, r_9_14, r_9_15, r_49_2, r_49_3, r_49_4, r_49_6, r_54_2, r_54_3, r_54_4, r_54_6, r_59_2, r_59_3, r_59_4, r_59_6, r_64_2, r_64_3, r_64_4, r_64_6, r_69_7, r_69_8, r_69_9, r_69_10, r_69_11, r_69_12, r_69_13, r_69_14, r_69_15, r_109_2, r_109_3, r_109_4, r_109_6, r_114_2, r_114_3, r_114_4, r_114_6, r_119_2, r_119_3, r_119_4, r_119_6, r_124_2, r_124_3, r_124_4, r_124_6, r_129_0, r_131_2, r_131_3, r_131_4, r_131_5, r_146_2, r_146_3, r_146_4, r_146_5, r_161_2, r_161_3, r_161_4, r_161_5, r_176_2, r_176_3, r_176_4, r_176_5, r_191_2, r_191_3, r_191_4, r_191_5, r_206_2, r_206_3, r_206_4, r_206_5, r_221_0, r_221_1, r_223_0, r_223_2, r_223_3, r_227_0, r_228_2, r_228_3, r_228_4, r_228_6, r_233_0, r_233_1, r_233_2, r_233_3, r_233_4, r_233_5, r_239_0, r_239_1, r_239_2, r_239_3, r_239_4, r_239_5, r_246_2, r_246_3, r_249_1, r_249_2, r_249_6, r_249_7, r_249_8, r_249_9, r_249_11, r_249_12, r_249_13, r_249_14, r_249_17, r_249_18, r_249_19, r_249_20, r_249_21, r_249_22, r_249_28, r_249_29, r_249_30, r_249_31, r_249_32, r_249_33, r_249_34, r_249_37, r_249_43, r_249_44, r_249_45, r_249_46, r_249_47, r_249_51, r_227_1, r_233_6, r_239_6, r_246_0, r_246_1, r_15, r_75, r_16, r_76, r_18, r_78, r_130, ltr2, ltr3, ltr4, ltr5, ltr6, ltr7, ltr8, ltr9, ltr10, ltr11, ltr12, ltr13, ltr14, ltr15, ltr16, ltr17, ltr20, ltr22, ltr23, ltr24, ltr25, ltr31, ltr32, ltr40, ltr41, ltr42, ltr43, ltr45, ltr47, ltr48, ltr50, ltr52, ltr57, ltr59, ltr60, ltr61, ltr62, ltr64, ltr65, ltr72, ltr77, ltr90, ltr91, ltr97, ltr99, ltr100, ltr122, ltr144, ltr216, ltr236, ltr240, ltr255, ltr256, ltr257, ltr258, ltr259, ltr260, ltr261, ltr262, ltr271, ltr272, ltr273, ltr288, ltr336, ltr380, ltr400, ltr1000, ltr1600, ltr9999, ltr10000, ixN, inN, ltN, leN, eqN, lt0N, le0N, eq0N, eq1N, addN, add1N, mulN, divN, remN, modS, rdN, inCN, inR0, inR1, inRN, inVN, upS, upA, upI, upR, rwS, rwA, i10, biT, biF, rd1, rd2, ofn8, c_forget]
      have fr : ∀ a, ¬ (9 ≤ a ∧ a < 69) → ¬ (228 ≤ a ∧ a < 232) → a ≠ 129 → am_up I2 129 1 0 a = I a := by
        intro a q1 q2 q3
        rw [upR q3, g10 a (by omega) (fun u hu => by have := oo u hu; omega)]
      refine ⟨_, w, rfl, rfl, fr 0 (by omega) (by omega) (by omega), rfl, ?_⟩
      have hm1 := MI_fr (I' := am_up I2 129 1 0) hm (fun a h => fr a (by omega) (by omega) (by omega))
      obtain ⟨m1, I0, m2, m3⟩ := hm1.2.2.1
      refine m_image (tk := false) rfl (Or.inr m1) ?_
      intro I5 h5
      have e279 : I5 279 = (am_up I2 129 1 0) 279 := by
        rw [PK_279 h5]
        unfold im0
        simp (disch := omega) only [upR]
      have rm5 : RM I5 p.1 p.2 := PK_RM h5 (I0 := I0) (by unfold im0; simp (disch := omega) only [upR]; rw [← upR (f := I2) (a := 129) (i := 1) (v := (0 : Int32)) (b := 279) (by decide)]; exact m3) m2 s1.2.2.2.2.2.2.2.2.2.2.2.2
      have b5 : ∀ a, a < 249 ∨ a = 265 ∨ a = 266 → I5 a = am_up I2 129 1 0 a := by
        intro a q
        funext j
        rw [PK_back h5 (by omega) (by omega) (by omega)]
        unfold im0
        rw [upR (by omega), upR (by omega), upR (by omega), upR (by omega)]
      have b9 : ∀ j, j = 23 ∨ j = 41 ∨ j = 42 → I5 249 j = am_up I2 129 1 0 249 j := by
        intro j q
        rw [PK_back h5 (by omega) (by omega) (by omega)]
        unfold im0
        rw [upI (by omega), upI (by omega), upI (by omega), upI (by omega)]
      have b49 : I5 249 49 = 1 := by
        rw [PK_back h5 (by omega) (by omega) (by omega)]
        unfold im0
        rw [upI (by omega), upS]
      have ha' : AW p.1 p.2 [] (some p) t B := ⟨s1, d1, fun q hq => absurd hq List.not_mem_nil, ha.2.2.2⟩
      refine ⟨w, rfl, rfl, rfl, OP_end (I1 := am_up I2 129 1 0) (fk := fk) (fp := fp) ha' ?_ ?_ ?_⟩
      · obtain ⟨h1, h2, h3, ⟨_, _, x, h4, h4', _⟩, h5', h6, h7, h8⟩ := hc
        refine ⟨?_, ?_, h3, ⟨upS.trans nI_0.symm, by simp, x, h4, ?_, fun i p hi => by simp at hi⟩, KC_fr h5' (fun q hq => (ha.2.2.2.1 q hq).1) (by rw [fr 8 (by omega) (by omega) (by omega)]) (fun a q1 q2 => fr a (by omega) (by omega) (by omega)), ?_, ?_, ?_⟩
        · refine RG_9 s1 (RK_RG (I1 := I) k2 s1 ?_ g0 g1 g2 g3 g4 g5 g6 g7 g8)
          intro v hv
          rw [g7 v hv, if_neg (by omega)]
          exact pNo v hv
        · intro u hu
          refine ⟨fo u, (f1' u hu).1, (f1' u hu).2, ?_⟩
          have := oo u hu
          refine ROo_fr (CPo_ROo (g9 u hu) (k3 u hu) s1.2.2.2.2.2.2.2.2.2.2.2.2 hu) ?_ ?_ ?_ ?_ ?_
          · rw [upA (by omega)]
          · rw [upA (by omega)]
          · rw [upR (by omega)]
          · rw [upR (by omega)]
          · rw [upR (by omega)]
        · rw [upI (by decide), g10 129 (by omega) (fun u hu => by have := oo u hu; omega)]
          exact h4'
        · rw [fr 223 (by omega) (by omega) (by omega), fr 224 (by omega) (by omega) (by omega)]; exact h6
        · rw [fr 227 (by omega) (by omega) (by omega)]; exact h7
        · rw [fr 227 (by omega) (by omega) (by omega)]; exact h8
      · obtain ⟨q1, q2, q3, q4, q5, q6, q7⟩ := hm1
        rw [if_neg (by decide)]
        refine ⟨RM_3 rm5, ⟨upS.trans nI_0.symm, by simp, fun i p hi => by simp at hi⟩, ⟨?_, I0, m2, ?_⟩, ?_, ?_, ?_, ?_⟩
        · rw [upI (by decide)]; exact b49
        · rw [upR (by decide), e279]; exact m3
        · rw [upI (by decide), upR (by decide), b9 23 (by omega), b5 265 (by omega)]; exact q4
        · rw [upI (by decide), b9 41 (by omega)]; exact q5
        · rw [upI (by decide), b9 42 (by omega)]; exact q6
        · rw [upR (by decide), b5 266 (by omega)]; exact q7
      · intro a q
        rw [if_neg (by decide), upR (by omega), b5 a (by omega)]
  · have hRG' := hRG
    obtain ⟨pW, pH, pT, pS, pL, pV, pR, pCr, pWl, pWy, pFo, pSh, pNo, pX, pY, pWe, pSa, pKi, pAn, pDg, pTh, pDr, pSp, pSk, pS0, pSx, pSy, pSt, pRa, pRb, pRl, pRt, pMe, pBa, pBt⟩ := hRG'
    simp (disch := omega) only [x_X11_image_0, x_X11_image_1, x_X11_image_4, x_X11_image_5, x_X11_image_8, x_X11_image_9, x_X11_image_12, x_X11_image_15, x_X11_image_16, x_X11_image_17, x_X11_image_20, x_X11_image_21, x_X11_image_22, x_X11_image_23, x_X11_image_26, x_X11_image_29, x_X11_image_30, x_X11_image_31, x_X11_image_32, x_X11_image_35, x_X11_image_36, x_X11_image_39, x_X11_image_42, x_X11_image_43, x_X11_image_46, x_X11_image_49, x_X11_image_50, Bool.false_eq_true, am_cl_i, am_cl_r, am_cl_n, am_cl_l, am_cl_0, va_rf_s, va_rf_0, tl_s, tl_n, bi_0, bi_1, bi_z, true_and, and_true, false_and, and_false, true_implies, false_implies, implies_true, not_true_eq_false, not_false_eq_true, and_self, true_or, or_true, false_or, or_false, eq_self, Nat.reduceAdd, Nat.reduceMul, Nat.reduceSub, Nat.reduceDiv, Nat.reduceMod, Nat.reduceLeDiff, Nat.reduceEqDiff, Nat.reduceLT, ix0, ix1, in0, in1, gF_2, sh_8, ok_8, sh_9, ok_9, sh_10, sh_11, sh_12, sh_13, sh_14, sh_15, sh_16, sh_17, sh_18, sh_49, ok_49, sh_50, sh_51, sh_52, sh_53, sh_54, ok_54, sh_55, sh_56, sh_57, sh_58, sh_59, ok_59, sh_60, sh_61, sh_62, sh_63, sh_64, ok_64, sh_65, sh_66, sh_67, sh_68, sh_69, ok_69, sh_70, sh_71, sh_72, sh_73, sh_74, sh_75, sh_76, sh_77, sh_78, sh_109, ok_109, sh_110, sh_111, sh_112, sh_113, sh_114, ok_114, sh_115, sh_116, sh_117, sh_118, sh_119, ok_119, sh_120, sh_121, sh_122, sh_123, sh_124, ok_124, sh_125, sh_126, sh_127, sh_128, sh_129, ok_129, sh_130, sh_131, ok_131, sh_132, sh_133, sh_134, sh_135, sh_146, ok_146, sh_147, sh_148, sh_149, sh_150, sh_161, ok_161, sh_162, sh_163, sh_164, sh_165, sh_176, ok_176, sh_177, sh_178, sh_179, sh_180, sh_191, ok_191, sh_192, sh_193, sh_194, sh_195, sh_206, ok_206, sh_207, sh_208, sh_209, sh_210, sh_221, ok_221, sh_222, sh_223, ok_223, sh_224, sh_225, sh_226, sh_227, ok_227, sh_228, ok_228, sh_229, sh_230, sh_231, sh_232, sh_233, ok_233, sh_234, sh_235, sh_236, sh_237, sh_238, sh_239, ok_239, sh_240, sh_241, sh_242, sh_243, sh_244, sh_245, sh_246, ok_246, sh_247, sh_248, sh_249, ok_249, sh_250, sh_251, sh_252, sh_253, sh_254, sh_255, sh_256, sh_257, sh_258, sh_259, sh_260, sh_261, sh_262, sh_263, sh_264, sh_265, sh_266, sh_267, sh_268, sh_269, sh_270, sh_271, sh_272, sh_273, sh_274, sh_275, sh_276, sh_277, sh_278, sh_279, sh_1, sh_2, sh_3, sh_4, gv_s, gv_o, kv_s, kv_o, gr_s, gr_o, kr_s, kr_o, r_8_0, r_8_1, r_8_3, r_8_4, r_8_5, r_8_6, r_8_7, r_8_8, r_8_9, r_8_10, r_9_7, r_9_8, r_9_9, r_9_10, r_9_11, r_9_12, r_9_13, r_9_14, r_9_15, r_49_2, r_49_3, r_49_4, r_49_6, r_54_2, r_54_3, r_54_4, r_54_6, r_59_2, r_59_3, r_59_4, r_59_6, r_64_2, r_64_3, r_64_4, r_64_6, r_69_7, r_69_8, r_69_9, r_69_10, r_69_11, r_69_12, r_69_13, r_69_14, r_69_15, r_109_2, r_109_3, r_109_4, r_109_6, r_114_2, r_114_3, r_114_4, r_114_6, r_119_2, r_119_3, r_119_4, r_119_6, r_124_2, r_124_3, r_124_4, r_124_6, r_129_0, r_131_2, r_131_3, r_131_4, r_131_5, r_146_2, r_146_3, r_146_4, r_146_5, r_161_2, r_161_3, r_161_4, r_161_5, r_176_2, r_176_3, r_176_4, r_176_5, r_191_2, r_191_3, r_191_4, r_191_5, r_206_2, r_206_3, r_206_4, r_206_5, r_221_0, r_221_1, r_223_0, r_223_2, r_223_3, r_227_0, r_228_2, r_228_3, r_228_4, r_228_6, r_233_0, r_233_1, r_233_2, r_233_3, r_233_4, r_233_5, r_239_0, r_239_1, r_239_2, r_239_3, r_239_4, r_239_5, r_246_2, r_246_3, r_249_1, r_249_2, r_249_6, r_249_7, r_249_8, r_249_9, r_249_11, r_249_12, r_249_13, r_249_14, r_249_17, r_249_18, r_249_19, r_249_20, r_249_21, r_249_22, r_249_28, r_249_29, r_249_30, r_249_31, r_249_32, r_249_33, r_249_34, r_249_37, r_249_43, r_249_44, r_249_45, r_249_46, r_249_47, r_249_51, r_227_1, r_233_6, r_239_6, r_246_0, r_246_1, r_15, r_75, r_16, r_76, r_18, r_78, r_130, ltr2, ltr3, ltr4, ltr5, ltr6, ltr7, ltr8, ltr9, ltr10, ltr11, ltr12, ltr13, ltr14, ltr15, ltr16, ltr17, ltr20, ltr22, ltr23, ltr24, ltr25, ltr31, ltr32, ltr40, ltr41, ltr42, ltr43, ltr45, ltr47, ltr48, ltr50, ltr52, ltr57, ltr59, ltr60, ltr61, ltr62, ltr64, ltr65, ltr72, ltr77, ltr90, ltr91, ltr97, ltr99, ltr100, ltr122, ltr144, ltr216, ltr236, ltr240, ltr255, ltr256, ltr257, ltr258, ltr259, ltr260, ltr261, ltr262, ltr271, ltr272, ltr273, ltr288, ltr336, ltr380, ltr400, ltr1000, ltr1600, ltr9999, ltr10000, ixN, inN, ltN, leN, eqN, lt0N, le0N, eq0N, eq1N, addN, add1N, mulN, divN, remN, modS, rdN, inCN, inR0, inR1, inRN, inVN, upS, upA, upI, upR, rwS, rwA, i10, biT, biF, rd1, rd2, ofn8]
    refine c_cp_k f1' f2' pBa pBt ?_
    intro I2 g0 g1 g2 g3 g4 g5 g6 g7 g8 g9 g10
    simp (disch := omega) only [x_X11_image_0, x_X11_image_1, x_X11_image_4, x_X11_image_5, x_X11_image_8, x_X11_image_9, x_X11_image_12, x_X11_image_15, x_X11_image_16, x_X11_image_17, x_X11_image_20, x_X11_image_21, x_X11_image_22, x_X11_image_23, x_X11_image_26, x_X11_image_29, x_X11_image_30, x_X11_image_31, x_X11_image_32, x_X11_image_35, x_X11_image_36, x_X11_image_39, x_X11_image_42, x_X11_image_43, x_X11_image_46, x_X11_image_49, x_X11_image_50, Bool.false_eq_true, am_cl_i, am_cl_r, am_cl_n, am_cl_l, am_cl_0, va_rf_s, va_rf_0, tl_s, tl_n, bi_0, bi_1, bi_z, true_and, and_true, false_and, and_false, true_implies, false_implies, implies_true, not_true_eq_false, not_false_eq_true, and_self, true_or, or_true, false_or, or_false, eq_self, Nat.reduceAdd, Nat.reduceMul, Nat.reduceSub, Nat.reduceDiv, Nat.reduceMod, Nat.reduceLeDiff, Nat.reduceEqDiff, Nat.reduceLT, ix0, ix1, in0, in1, gF_2, sh_8, ok_8, sh_9, ok_9, sh_10, sh_11, sh_12, sh_13, sh_14, sh_15, sh_16, sh_17, sh_18, sh_49, ok_49, sh_50, sh_51, sh_52, sh_53, sh_54, ok_54, sh_55, sh_56, sh_57, sh_58, sh_59, ok_59, sh_60, sh_61, sh_62, sh_63, sh_64, ok_64, sh_65, sh_66, sh_67, sh_68, sh_69, ok_69, sh_70, sh_71, sh_72, sh_73, sh_74, sh_75, sh_76, sh_77, sh_78, sh_109, ok_109, sh_110, sh_111, sh_112, sh_113, sh_114, ok_114, sh_115, sh_116, sh_117, sh_118, sh_119, ok_119, sh_120, sh_121, sh_122, sh_123, sh_124, ok_124, sh_125, sh_126, sh_127, sh_128, sh_129, ok_129, sh_130, sh_131, ok_131, sh_132, sh_133, sh_134, sh_135, sh_146, ok_146, sh_147, sh_148, sh_149, sh_150, sh_161, ok_161, sh_162, sh_163, sh_164, sh_165, sh_176, ok_176, sh_177, sh_178, sh_179, sh_180, sh_191, ok_191, sh_192, sh_193, sh_194, sh_195, sh_206, ok_206, sh_207, sh_208, sh_209, sh_210, sh_221, ok_221, sh_222, sh_223, ok_223, sh_224, sh_225, sh_226, sh_227, ok_227, sh_228, ok_228, sh_229, sh_230, sh_231, sh_232, sh_233, ok_233, sh_234, sh_235, sh_236, sh_237, sh_238, sh_239, ok_239, sh_240, sh_241, sh_242, sh_243, sh_244, sh_245, sh_246, ok_246, sh_247, sh_248, sh_249, ok_249, sh_250, sh_251, sh_252, sh_253, sh_254, sh_255, sh_256, sh_257, sh_258, sh_259, sh_260, sh_261, sh_262, sh_263, sh_264, sh_265, sh_266, sh_267, sh_268, sh_269, sh_270, sh_271, sh_272, sh_273, sh_274, sh_275, sh_276, sh_277, sh_278, sh_279, sh_1, sh_2, sh_3, sh_4, gv_s, gv_o, kv_s, kv_o, gr_s, gr_o, kr_s, kr_o, r_8_0, r_8_1, r_8_3, r_8_4, r_8_5, r_8_6, r_8_7, r_8_8, r_8_9, r_8_10, r_9_7, r_9_8, r_9_9, r_9_10, r_9_11, r_9_12, r_9_13, r_9_14, r_9_15, r_49_2, r_49_3, r_49_4, r_49_6, r_54_2, r_54_3, r_54_4, r_54_6, r_59_2, r_59_3, r_59_4, r_59_6, r_64_2, r_64_3, r_64_4, r_64_6, r_69_7, r_69_8, r_69_9, r_69_10, r_69_11, r_69_12, r_69_13, r_69_14, r_69_15, r_109_2, r_109_3, r_109_4, r_109_6, r_114_2, r_114_3, r_114_4, r_114_6, r_119_2, r_119_3, r_119_4, r_119_6, r_124_2, r_124_3, r_124_4, r_124_6, r_129_0, r_131_2, r_131_3, r_131_4, r_131_5, r_146_2, r_146_3, r_146_4, r_146_5, r_161_2, r_161_3, r_161_4, r_161_5, r_176_2, r_176_3, r_176_4, r_176_5, r_191_2, r_191_3, r_191_4, r_191_5, r_206_2, r_206_3, r_206_4, r_206_5, r_221_0, r_221_1, r_223_0, r_223_2, r_223_3, r_227_0, r_228_2, r_228_3, r_228_4, r_228_6, r_233_0, r_233_1, r_233_2, r_233_3, r_233_4, r_233_5, r_239_0, r_239_1, r_239_2, r_239_3, r_239_4, r_239_5, r_246_2, r_246_3, r_249_1, r_249_2, r_249_6, r_249_7, r_249_8, r_249_9, r_249_11, r_249_12, r_249_13, r_249_14, r_249_17, r_249_18, r_249_19, r_249_20, r_249_21, r_249_22, r_249_28, r_249_29, r_249_30, r_249_31, r_249_32, r_249_33, r_249_34, r_249_37, r_249_43, r_249_44, r_249_45, r_249_46, r_249_47, r_249_51, r_227_1, r_233_6, r_239_6, r_246_0, r_246_1, r_15, r_75, r_16, r_76, r_18, r_78, r_130, ltr2, ltr3, ltr4, ltr5, ltr6, ltr7, ltr8, ltr9, ltr10, ltr11, ltr12, ltr13, ltr14, ltr15, ltr16, ltr17, ltr20, ltr22, ltr23, ltr24, ltr25, ltr31, ltr32, ltr40, ltr41, ltr42, ltr43, ltr45, ltr47, ltr48, ltr50, ltr52, ltr57, ltr59, ltr60, ltr61, ltr62, ltr64, ltr65, ltr72, ltr77, ltr90, ltr91, ltr97, ltr99, ltr100, ltr122, ltr144, ltr216, ltr236, ltr240, ltr255, ltr256, ltr257, ltr258, ltr259, ltr260, ltr261, ltr262, ltr271, ltr272, ltr273, ltr288, ltr336, ltr380, ltr400, ltr1000, ltr1600, ltr9999, ltr10000, ixN, inN, ltN, leN, eqN, lt0N, le0N, eq0N, eq1N, addN, add1N, mulN, divN, remN, modS, rdN, inCN, inR0, inR1, inRN, inVN, upS, upA, upI, upR, rwS, rwA, i10, biT, biF, rd1, rd2, ofn8]
    have fr : ∀ a, ¬ (69 ≤ a ∧ a < 129) → a ≠ 8 → am_up I2 8 2 1 a = I a := by
      intro a q1 q2
      rw [upR q2, g10 a (by omega) (fun u hu => by omega)]
    refine ⟨_, w, rfl, rfl, fr 0 (by omega) (by omega), rfl, ?_⟩
    have hm1 := MI_fr (I' := am_up I2 8 2 1) hm (fun a h => fr a (by omega) (by omega))
    refine m_image (tk := true) rfl (Or.inl rfl) ?_
    intro I5 h5
    have b5 : ∀ a, a ≠ 249 → a ≠ 279 → I5 a = am_up I2 8 2 1 a := by
      intro a q1 q2
      funext j
      rw [PK_same h5 q2 (fun z => q1 z.1)]
      unfold im0
      rw [upR q1, upR q1, upR q1, upR q1]
    have b9 : ∀ j, j ≠ 0 → j ≠ 48 → j ≠ 49 → j ≠ 50 → I5 249 j = am_up I2 8 2 1 249 j := by
      intro j q1 q2 q3 q4
      rw [PK_same h5 (by omega) (by omega)]
      unfold im0
      rw [upI q4, upI q3, upI q2, upI q1]
    have b49 : I5 249 49 = 1 := by
      rw [PK_same h5 (by omega) (by omega)]
      unfold im0
      rw [upI (by omega), upS]
    have ha' : AW N Z H (some (N, Z)) t B := ⟨hs, hd, ha.2.2.1, fun p hp => by cases hp; exact ⟨hs, hd⟩, ha.2.2.2.2⟩
    refine ⟨w, rfl, rfl, rfl, OP_end (I1 := am_up I2 8 2 1) (fk := fk) (fp := fp) ha' ?_ ?_ ?_⟩
    · obtain ⟨h1, h2, h3, h4, h5', h6, h7, h8⟩ := hc
      have kno : ∀ v, v < 10 → I (79 + v) 0 = nI v := by
        cases K with
        | none => exact h5'.2
        | some p => exact h5'.2.1.2.2.2.2.2.2.2.2.2.2.2.2.1
      refine ⟨RG_fr h1 hs.2.2.2.2.2.1 hs.2.2.2.2.2.2.1 (fun a q1 q2 => fr a (by omega) (by omega)), RO_fr h2 (fun a j g _ _ => by rw [fr a (by unfold isR at g; omega) (by unfold isR at g; omega)]), h3, RHc_fr h4 ha.2.2.1 hs (fun a q1 q2 => fr a (by omega) (by omega)), ⟨upS, ?_, ?_⟩, ?_, ?_, ?_⟩
      · refine RK_fr (RG_RK (I1 := I) hRG hs ?_ g0 g1 g2 g3 g4 g5 g6 g7 g8) hs (fun a q1 q2 => upR (by omega))
        intro v hv
        rw [g7 v hv, if_neg (by omega)]
        exact kno v hv
      · intro u hu
        obtain ⟨o, o1, o2, o3⟩ := h2 u hu
        have eo : o = fo u := by
          have := (f1' u hu).1
          rw [o1] at this
          exact Option.some.inj this
        subst eo
        refine ROo_fr (CPo_ROo (g9 u hu) o3 ow hu) ?_ ?_ ?_ ?_ ?_
        · rw [upA (by omega)]
        · rw [upA (by omega)]
        · rw [upR (by omega)]
        · rw [upR (by omega)]
        · rw [upR (by omega)]
      · rw [fr 223 (by omega) (by omega), fr 224 (by omega) (by omega)]; exact h6
      · rw [fr 227 (by omega) (by omega)]; exact h7
      · rw [fr 227 (by omega) (by omega)]; exact h8
    · obtain ⟨q1, q2, q3, q4, q5, q6, q7⟩ := hm1
      rw [if_pos rfl]
      refine ⟨⟨by rw [b5 250 (by omega) (by omega)]; exact q1.1, RS_fr2 q1.2 (fun a g => b5 a (by omega) (by omega)) (fun j g => b9 j (by omega) (by omega) (by omega) (by omega))⟩, ?_, ⟨b49, _, RM_im q1, PK_EN h5⟩, ?_, ?_, ?_, ?_⟩
      · unfold RHm
        rw [b9 3 (by omega) (by omega) (by omega) (by omega), b5 251 (by omega) (by omega)]
        exact q2
      · rw [b9 23 (by omega) (by omega) (by omega) (by omega), b5 265 (by omega) (by omega)]; exact q4
      · rw [b9 41 (by omega) (by omega) (by omega) (by omega)]; exact q5
      · rw [b9 42 (by omega) (by omega) (by omega) (by omega)]; exact q6
      · rw [b5 266 (by omega) (by omega)]; exact q7
    · intro a q
      rw [if_pos rfl, b5 a (by omega) (by omega)]
end OPIMG
