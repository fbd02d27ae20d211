def RN (r : Nat → Int32) (N : Nat → Nat → Nat) (Z : Nat → Nat → Int32) : Prop := (r 0 = nI (N 0 2)) ∧ (r 1 = Z 0 0) ∧ (∀ v : Nat, v < 10 → r (2 + v) = nI (N 1 v)) ∧ (∀ v : Nat, v < 10 → r (12 + v) = nI (N 2 v)) ∧ (∀ v : Nat, v < 10 → r (22 + v) = Z 1 v) ∧ (∀ v : Nat, v < 10 → r (32 + v) = Z 2 v) ∧ (∀ v : Nat, v < 10 → r (42 + v) = Z 3 v) ∧ (∀ v : Nat, v < 10 → r (52 + v) = Z 4 v) ∧ (∀ v : Nat, v < 10 → r (62 + v) = Z 5 v) ∧ (∀ v : Nat, v < 144 → r (72 + v) = nI (N 7 v) - nI 50) ∧ (∀ v : Nat, v < 20 → r (216 + v) = nI (N 15 v)) ∧ (∀ v : Nat, v < 100 → r (236 + v) = Z 6 v)
def RS (I : Nat → Nat → Int32) (N : Nat → Nat → Nat) : Prop := (I 249 4 = nI (N 0 0)) ∧ (I 249 5 = nI (N 0 1)) ∧ (I 249 10 = nI (N 0 4)) ∧ (I 249 15 = nI (N 0 3)) ∧ (I 249 16 = nI (N 0 5)) ∧ (∀ v : Nat, v < 144 → I 252 v = nI (N 8 v)) ∧ (∀ v : Nat, v < 24 → I 253 v = nI (N 9 v)) ∧ (∀ v : Nat, v < 24 → I 254 v = nI (N 10 v) - 1) ∧ (∀ v : Nat, v < 24 → I 255 v = nI (N 11 v)) ∧ (∀ v : Nat, v < 10 → I 256 v = nI (N 3 v)) ∧ (∀ v : Nat, v < 10 → I 257 v = nI (N 4 v)) ∧ (∀ v : Nat, v < 10 → I 258 v = nI (N 5 v)) ∧ (∀ v : Nat, v < 10 → I 259 v = nI (N 6 v)) ∧ (∀ v : Nat, v < 20 → I 260 v = nI (N 12 v)) ∧ (∀ v : Nat, v < 20 → I 261 v = nI (N 13 v)) ∧ (∀ v : Nat, v < 20 → I 262 v = nI (N 14 v)) ∧ (∀ v : Nat, v < 10 → I 263 v = nI (N 16 v)) ∧ (∀ v : Nat, v < 10 → I 264 v = nI (N 17 v)) ∧ (∀ v : Nat, v < 4 → I 267 v = nI (N 20 v)) ∧ (∀ u v : Nat, u < 4 → v < N 20 u → I 268 (16 * u + v) = nI (N (25 + u) v)) ∧ (∀ u v : Nat, u < 4 → v < N 20 u → I 269 (16 * u + v) = nI (N (21 + u) v)) ∧ (∀ u v : Nat, u < 4 → v < N 20 u → I 270 (16 * u + v) = nI (N (21 + u) (v + 1))) ∧ (∀ u v : Nat, u < 4 → v < N (21 + u) (N 20 u) → I 271 (400 * u + v) = nI (N (29 + u) v)) ∧ (∀ u v : Nat, u < 4 → v < N (21 + u) (N 20 u) → I 272 (400 * u + v) = nI (N (33 + u) v))
def RM (I : Nat → Nat → Int32) (N : Nat → Nat → Nat) (Z : Nat → Nat → Int32) : Prop := RN (I 250) N Z ∧ RS I N
def RP (p : Nat) (I : Nat → Nat → Int32) (N : Nat → Nat → Nat) (Z : Nat → Nat → Int32) : Prop := (I p 0 = nI (N 0 0)) ∧ (I p 1 = nI (N 0 1)) ∧ (I p 2 = nI (N 0 2)) ∧ (I p 3 = Z 0 0) ∧ (I p 4 = nI (N 0 3)) ∧ (I p 5 = nI (N 0 4)) ∧ (I p 6 = nI (N 0 5)) ∧ (∀ v : Nat, v < 144 → I (p + 1) v = nI (N 7 v)) ∧ (∀ v : Nat, v < 144 → I (p + 2) v = nI (N 8 v)) ∧ (∀ v : Nat, v < 24 → I (p + 3) v = nI (N 9 v)) ∧ (∀ v : Nat, v < 24 → I (p + 4) v = nI (N 10 v)) ∧ (∀ v : Nat, v < 24 → I (p + 5) v = nI (N 11 v)) ∧ (∀ v : Nat, v < 10 → I (p + (10 + v)) 0 = nI v) ∧ (∀ v : Nat, v < N 0 4 → I (p + (10 + v)) 1 = nI (N 1 v)) ∧ (∀ v : Nat, v < N 0 4 → I (p + (10 + v)) 2 = nI (N 2 v)) ∧ (∀ v : Nat, v < N 0 4 → I (p + (10 + v)) 3 = nI (N 3 v)) ∧ (∀ v : Nat, v < N 0 4 → I (p + (10 + v)) 4 = nI (N 4 v)) ∧ (∀ v : Nat, v < N 0 4 → I (p + (10 + v)) 5 = nI (N 5 v)) ∧ (∀ v : Nat, v < N 0 4 → I (p + (10 + v)) 6 = nI (N 6 v)) ∧ (∀ v : Nat, v < N 0 4 → I (p + (10 + v)) 7 = Z 1 v) ∧ (∀ v : Nat, v < N 0 4 → I (p + (10 + v)) 8 = Z 2 v) ∧ (∀ v : Nat, v < N 0 4 → I (p + (10 + v)) 9 = Z 3 v) ∧ (∀ v : Nat, v < N 0 4 → I (p + (10 + v)) 10 = Z 4 v) ∧ (∀ v : Nat, v < N 0 4 → I (p + (10 + v)) 11 = Z 5 v) ∧ (∀ v : Nat, v < N 0 4 → N 16 v = 0 → I (p + (10 + v)) 14 = -1) ∧ (∀ v : Nat, v < N 0 4 → ¬ N 16 v = 0 → I (p + (10 + v)) 12 = nI ((N 16 v - 1) % 12)) ∧ (∀ v : Nat, v < N 0 4 → ¬ N 16 v = 0 → I (p + (10 + v)) 13 = nI ((N 16 v - 1) / 12)) ∧ (∀ v : Nat, v < N 0 4 → ¬ N 16 v = 0 → I (p + (10 + v)) 14 = nI (N 17 v)) ∧ (∀ v : Nat, v < N 0 5 → I (p + (20 + v)) 0 = nI (N 12 v)) ∧ (∀ v : Nat, v < N 0 5 → I (p + (20 + v)) 1 = nI (N 13 v)) ∧ (∀ v : Nat, v < N 0 5 → I (p + (20 + v)) 2 = nI (N 14 v)) ∧ (∀ v : Nat, v < N 0 5 → I (p + (20 + v)) 3 = nI (N 15 v)) ∧ (∀ u v : Nat, u < v → v < 10 → I (p + 8) (10 * u + v) = Z 6 (10 * u + v))
section STATE
variable {I : Nat → Nat → Int32} {N : Nat → Nat → Nat} {Z : Nat → Nat → Int32} {r : Nat → Int32} {i j q a p : Nat} {b : Int32}
theorem vu_s {α : Type} {f : Nat → α} {v : α} : va_up f i v i = v := by simp [va_up]
theorem upJ {α : Type} {f : Nat → Nat → α} {v : α} {b : Nat} (h : q ≠ i) : am_up f a i v b q = f b q := by
  by_cases e : b = a
  · subst e; exact upI h
  · exact upA e
theorem vu_n {α : Type} {f : Nat → α} {v : α} (h : j ≠ i) : va_up f i v j = f j := by simp [va_up, h]
theorem rn_Ti {N : Nat → Nat → Nat} (h : RN r N Z)  : RN (va_up r 0 (nI q)) (am_up N 0 2 q) Z := by
  obtain ⟨nTi, nSe, nX, nY, nDg, nTh, nDr, nSp, nSk, nCr, nRt, nMe⟩ := h
  refine ⟨?_, ?_, ?_, ?_, ?_, ?_, ?_, ?_, ?_, ?_, ?_, ?_⟩
  · simp only [upS, vu_s]
  · (try simp (disch := omega) only [upA, upJ, upR, vu_n]); exact nSe
  · intro v h0; (try simp (disch := omega) only [upA, upJ, upR, vu_n] at h0); (try simp (disch := omega) only [upA, upJ, upR, vu_n]); exact nX v h0
  · intro v h0; (try simp (disch := omega) only [upA, upJ, upR, vu_n] at h0); (try simp (disch := omega) only [upA, upJ, upR, vu_n]); exact nY v h0
  · intro v h0; (try simp (disch := omega) only [upA, upJ, upR, vu_n] at h0); (try simp (disch := omega) only [upA, upJ, upR, vu_n]); exact nDg v h0
  · intro v h0; (try simp (disch := omega) only [upA, upJ, upR, vu_n] at h0); (try simp (disch := omega) only [upA, upJ, upR, vu_n]); exact nTh v h0
  · intro v h0; (try simp (disch := omega) only [upA, upJ, upR, vu_n] at h0); (try simp (disch := omega) only [upA, upJ, upR, vu_n]); exact nDr v h0
  · intro v h0; (try simp (disch := omega) only [upA, upJ, upR, vu_n] at h0); (try simp (disch := omega) only [upA, upJ, upR, vu_n]); exact nSp v h0
  · intro v h0; (try simp (disch := omega) only [upA, upJ, upR, vu_n] at h0); (try simp (disch := omega) only [upA, upJ, upR, vu_n]); exact nSk v h0
  · intro v h0; (try simp (disch := omega) only [upA, upJ, upR, vu_n] at h0); (try simp (disch := omega) only [upA, upJ, upR, vu_n]); exact nCr v h0
  · intro v h0; (try simp (disch := omega) only [upA, upJ, upR, vu_n] at h0); (try simp (disch := omega) only [upA, upJ, upR, vu_n]); exact nRt v h0
  · intro v h0; (try simp (disch := omega) only [upA, upJ, upR, vu_n] at h0); (try simp (disch := omega) only [upA, upJ, upR, vu_n]); exact nMe v h0
theorem rn_Se {N : Nat → Nat → Nat} (h : RN r N Z)  : RN (va_up r 1 (b)) N (am_up Z 0 0 b) := by
  obtain ⟨nTi, nSe, nX, nY, nDg, nTh, nDr, nSp, nSk, nCr, nRt, nMe⟩ := h
  refine ⟨?_, ?_, ?_, ?_, ?_, ?_, ?_, ?_, ?_, ?_, ?_, ?_⟩
  · (try simp (disch := omega) only [upA, upJ, upR, vu_n]); exact nTi
  · simp only [upS, vu_s]
  · intro v h0; (try simp (disch := omega) only [upA, upJ, upR, vu_n] at h0); (try simp (disch := omega) only [upA, upJ, upR, vu_n]); exact nX v h0
  · intro v h0; (try simp (disch := omega) only [upA, upJ, upR, vu_n] at h0); (try simp (disch := omega) only [upA, upJ, upR, vu_n]); exact nY v h0
  · intro v h0; (try simp (disch := omega) only [upA, upJ, upR, vu_n] at h0); (try simp (disch := omega) only [upA, upJ, upR, vu_n]); exact nDg v h0
  · intro v h0; (try simp (disch := omega) only [upA, upJ, upR, vu_n] at h0); (try simp (disch := omega) only [upA, upJ, upR, vu_n]); exact nTh v h0
  · intro v h0; (try simp (disch := omega) only [upA, upJ, upR, vu_n] at h0); (try simp (disch := omega) only [upA, upJ, upR, vu_n]); exact nDr v h0
  · intro v h0; (try simp (disch := omega) only [upA, upJ, upR, vu_n] at h0); (try simp (disch := omega) only [upA, upJ, upR, vu_n]); exact nSp v h0
  · intro v h0; (try simp (disch := omega) only [upA, upJ, upR, vu_n] at h0); (try simp (disch := omega) only [upA, upJ, upR, vu_n]); exact nSk v h0
  · intro v h0; (try simp (disch := omega) only [upA, upJ, upR, vu_n] at h0); (try simp (disch := omega) only [upA, upJ, upR, vu_n]); exact nCr v h0
  · intro v h0; (try simp (disch := omega) only [upA, upJ, upR, vu_n] at h0); (try simp (disch := omega) only [upA, upJ, upR, vu_n]); exact nRt v h0
  · intro v h0; (try simp (disch := omega) only [upA, upJ, upR, vu_n] at h0); (try simp (disch := omega) only [upA, upJ, upR, vu_n]); exact nMe v h0
theorem rn_X {N : Nat → Nat → Nat} (h : RN r N Z) (hi : i < 10) : RN (va_up r (2 + i) (nI q)) (am_up N 1 i q) Z := by
  obtain ⟨nTi, nSe, nX, nY, nDg, nTh, nDr, nSp, nSk, nCr, nRt, nMe⟩ := h
  refine ⟨?_, ?_, ?_, ?_, ?_, ?_, ?_, ?_, ?_, ?_, ?_, ?_⟩
  · (try simp (disch := omega) only [upA, upJ, upR, vu_n]); exact nTi
  · (try simp (disch := omega) only [upA, upJ, upR, vu_n]); exact nSe
  · intro v h0; by_cases e : v = i
    · subst e; simp only [upS, vu_s]
    · (try simp (disch := omega) only [upA, upJ, upR, vu_n] at h0); (try simp (disch := omega) only [upA, upJ, upR, vu_n]); exact nX v h0
  · intro v h0; (try simp (disch := omega) only [upA, upJ, upR, vu_n] at h0); (try simp (disch := omega) only [upA, upJ, upR, vu_n]); exact nY v h0
  · intro v h0; (try simp (disch := omega) only [upA, upJ, upR, vu_n] at h0); (try simp (disch := omega) only [upA, upJ, upR, vu_n]); exact nDg v h0
  · intro v h0; (try simp (disch := omega) only [upA, upJ, upR, vu_n] at h0); (try simp (disch := omega) only [upA, upJ, upR, vu_n]); exact nTh v h0
  · intro v h0; (try simp (disch := omega) only [upA, upJ, upR, vu_n] at h0); (try simp (disch := omega) only [upA, upJ, upR, vu_n]); exact nDr v h0
  · intro v h0; (try simp (disch := omega) only [upA, upJ, upR, vu_n] at h0); (try simp (disch := omega) only [upA, upJ, upR, vu_n]); exact nSp v h0
  · intro v h0; (try simp (disch := omega) only [upA, upJ, upR, vu_n] at h0); (try simp (disch := omega) only [upA, upJ, upR, vu_n]); exact nSk v h0
  · intro v h0; (try simp (disch := omega) only [upA, upJ, upR, vu_n] at h0); (try simp (disch := omega) only [upA, upJ, upR, vu_n]); exact nCr v h0
  · intro v h0; (try simp (disch := omega) only [upA, upJ, upR, vu_n] at h0); (try simp (disch := omega) only [upA, upJ, upR, vu_n]); exact nRt v h0
  · intro v h0; (try simp (disch := omega) only [upA, upJ, upR, vu_n] at h0); (try simp (disch := omega) only [upA, upJ, upR, vu_n]); exact nMe v h0
theorem rn_Y {N : Nat → Nat → Nat} (h : RN r N Z) (hi : i < 10) : RN (va_up r (12 + i) (nI q)) (am_up N 2 i q) Z := by
  obtain ⟨nTi, nSe, nX, nY, nDg, nTh, nDr, nSp, nSk, nCr, nRt, nMe⟩ := h
  refine ⟨?_, ?_, ?_, ?_, ?_, ?_, ?_, ?_, ?_, ?_, ?_, ?_⟩
  · (try simp (disch := omega) only [upA, upJ, upR, vu_n]); exact nTi
  · (try simp (disch := omega) only [upA, upJ, upR, vu_n]); exact nSe
  · intro v h0; (try simp (disch := omega) only [upA, upJ, upR, vu_n] at h0); (try simp (disch := omega) only [upA, upJ, upR, vu_n]); exact nX v h0
  · intro v h0; by_cases e : v = i
    · subst e; simp only [upS, vu_s]
    · (try simp (disch := omega) only [upA, upJ, upR, vu_n] at h0); (try simp (disch := omega) only [upA, upJ, upR, vu_n]); exact nY v h0
  · intro v h0; (try simp (disch := omega) only [upA, upJ, upR, vu_n] at h0); (try simp (disch := omega) only [upA, upJ, upR, vu_n]); exact nDg v h0
  · intro v h0; (try simp (disch := omega) only [upA, upJ, upR, vu_n] at h0); (try simp (disch := omega) only [upA, upJ, upR, vu_n]); exact nTh v h0
  · intro v h0; (try simp (disch := omega) only [upA, upJ, upR, vu_n] at h0); (try simp (disch := omega) only [upA, upJ, upR, vu_n]); exact nDr v h0
  · intro v h0; (try simp (disch := omega) only [upA, upJ, upR, vu_n] at h0); (try simp (disch := omega) only [upA, upJ, upR, vu_n]); exact nSp v h0
  · intro v h0; (try simp (disch := omega) only [upA, upJ, upR, vu_n] at h0); (try simp (disch := omega) only [upA, upJ, upR, vu_n]); exact nSk v h0
  · intro v h0; (try simp (disch := omega) only [upA, upJ, upR, vu_n] at h0); (try simp (disch := omega) only [upA, upJ, upR, vu_n]); exact nCr v h0
  · intro v h0; (try simp (disch := omega) only [upA, upJ, upR, vu_n] at h0); (try simp (disch := omega) only [upA, upJ, upR, vu_n]); exact nRt v h0
  · intro v h0; (try simp (disch := omega) only [upA, upJ, upR, vu_n] at h0); (try simp (disch := omega) only [upA, upJ, upR, vu_n]); exact nMe v h0
theorem rn_Dg {N : Nat → Nat → Nat} (h : RN r N Z) (hi : i < 10) : RN (va_up r (22 + i) (b)) N (am_up Z 1 i b) := by
  obtain ⟨nTi, nSe, nX, nY, nDg, nTh, nDr, nSp, nSk, nCr, nRt, nMe⟩ := h
  refine ⟨?_, ?_, ?_, ?_, ?_, ?_, ?_, ?_, ?_, ?_, ?_, ?_⟩
  · (try simp (disch := omega) only [upA, upJ, upR, vu_n]); exact nTi
  · (try simp (disch := omega) only [upA, upJ, upR, vu_n]); exact nSe
  · intro v h0; (try simp (disch := omega) only [upA, upJ, upR, vu_n] at h0); (try simp (disch := omega) only [upA, upJ, upR, vu_n]); exact nX v h0
  · intro v h0; (try simp (disch := omega) only [upA, upJ, upR, vu_n] at h0); (try simp (disch := omega) only [upA, upJ, upR, vu_n]); exact nY v h0
  · intro v h0; by_cases e : v = i
    · subst e; simp only [upS, vu_s]
    · (try simp (disch := omega) only [upA, upJ, upR, vu_n] at h0); (try simp (disch := omega) only [upA, upJ, upR, vu_n]); exact nDg v h0
  · intro v h0; (try simp (disch := omega) only [upA, upJ, upR, vu_n] at h0); (try simp (disch := omega) only [upA, upJ, upR, vu_n]); exact nTh v h0
  · intro v h0; (try simp (disch := omega) only [upA, upJ, upR, vu_n] at h0); (try simp (disch := omega) only [upA, upJ, upR, vu_n]); exact nDr v h0
  · intro v h0; (try simp (disch := omega) only [upA, upJ, upR, vu_n] at h0); (try simp (disch := omega) only [upA, upJ, upR, vu_n]); exact nSp v h0
  · intro v h0; (try simp (disch := omega) only [upA, upJ, upR, vu_n] at h0); (try simp (disch := omega) only [upA, upJ, upR, vu_n]); exact nSk v h0
  · intro v h0; (try simp (disch := omega) only [upA, upJ, upR, vu_n] at h0); (try simp (disch := omega) only [upA, upJ, upR, vu_n]); exact nCr v h0
  · intro v h0; (try simp (disch := omega) only [upA, upJ, upR, vu_n] at h0); (try simp (disch := omega) only [upA, upJ, upR, vu_n]); exact nRt v h0
  · intro v h0; (try simp (disch := omega) only [upA, upJ, upR, vu_n] at h0); (try simp (disch := omega) only [upA, upJ, upR, vu_n]); exact nMe v h0
theorem rn_Th {N : Nat → Nat → Nat} (h : RN r N Z) (hi : i < 10) : RN (va_up r (32 + i) (b)) N (am_up Z 2 i b) := by
  obtain ⟨nTi, nSe, nX, nY, nDg, nTh, nDr, nSp, nSk, nCr, nRt, nMe⟩ := h
  refine ⟨?_, ?_, ?_, ?_, ?_, ?_, ?_, ?_, ?_, ?_, ?_, ?_⟩
  · (try simp (disch := omega) only [upA, upJ, upR, vu_n]); exact nTi
  · (try simp (disch := omega) only [upA, upJ, upR, vu_n]); exact nSe
  · intro v h0; (try simp (disch := omega) only [upA, upJ, upR, vu_n] at h0); (try simp (disch := omega) only [upA, upJ, upR, vu_n]); exact nX v h0
  · intro v h0; (try simp (disch := omega) only [upA, upJ, upR, vu_n] at h0); (try simp (disch := omega) only [upA, upJ, upR, vu_n]); exact nY v h0
  · intro v h0; (try simp (disch := omega) only [upA, upJ, upR, vu_n] at h0); (try simp (disch := omega) only [upA, upJ, upR, vu_n]); exact nDg v h0
  · intro v h0; by_cases e : v = i
    · subst e; simp only [upS, vu_s]
    · (try simp (disch := omega) only [upA, upJ, upR, vu_n] at h0); (try simp (disch := omega) only [upA, upJ, upR, vu_n]); exact nTh v h0
  · intro v h0; (try simp (disch := omega) only [upA, upJ, upR, vu_n] at h0); (try simp (disch := omega) only [upA, upJ, upR, vu_n]); exact nDr v h0
  · intro v h0; (try simp (disch := omega) only [upA, upJ, upR, vu_n] at h0); (try simp (disch := omega) only [upA, upJ, upR, vu_n]); exact nSp v h0
  · intro v h0; (try simp (disch := omega) only [upA, upJ, upR, vu_n] at h0); (try simp (disch := omega) only [upA, upJ, upR, vu_n]); exact nSk v h0
  · intro v h0; (try simp (disch := omega) only [upA, upJ, upR, vu_n] at h0); (try simp (disch := omega) only [upA, upJ, upR, vu_n]); exact nCr v h0
  · intro v h0; (try simp (disch := omega) only [upA, upJ, upR, vu_n] at h0); (try simp (disch := omega) only [upA, upJ, upR, vu_n]); exact nRt v h0
  · intro v h0; (try simp (disch := omega) only [upA, upJ, upR, vu_n] at h0); (try simp (disch := omega) only [upA, upJ, upR, vu_n]); exact nMe v h0
theorem rn_Dr {N : Nat → Nat → Nat} (h : RN r N Z) (hi : i < 10) : RN (va_up r (42 + i) (b)) N (am_up Z 3 i b) := by
  obtain ⟨nTi, nSe, nX, nY, nDg, nTh, nDr, nSp, nSk, nCr, nRt, nMe⟩ := h
  refine ⟨?_, ?_, ?_, ?_, ?_, ?_, ?_, ?_, ?_, ?_, ?_, ?_⟩
  · (try simp (disch := omega) only [upA, upJ, upR, vu_n]); exact nTi
  · (try simp (disch := omega) only [upA, upJ, upR, vu_n]); exact nSe
  · intro v h0; (try simp (disch := omega) only [upA, upJ, upR, vu_n] at h0); (try simp (disch := omega) only [upA, upJ, upR, vu_n]); exact nX v h0
  · intro v h0; (try simp (disch := omega) only [upA, upJ, upR, vu_n] at h0); (try simp (disch := omega) only [upA, upJ, upR, vu_n]); exact nY v h0
  · intro v h0; (try simp (disch := omega) only [upA, upJ, upR, vu_n] at h0); (try simp (disch := omega) only [upA, upJ, upR, vu_n]); exact nDg v h0
  · intro v h0; (try simp (disch := omega) only [upA, upJ, upR, vu_n] at h0); (try simp (disch := omega) only [upA, upJ, upR, vu_n]); exact nTh v h0
  · intro v h0; by_cases e : v = i
    · subst e; simp only [upS, vu_s]
    · (try simp (disch := omega) only [upA, upJ, upR, vu_n] at h0); (try simp (disch := omega) only [upA, upJ, upR, vu_n]); exact nDr v h0
  · intro v h0; (try simp (disch := omega) only [upA, upJ, upR, vu_n] at h0); (try simp (disch := omega) only [upA, upJ, upR, vu_n]); exact nSp v h0
  · intro v h0; (try simp (disch := omega) only [upA, upJ, upR, vu_n] at h0); (try simp (disch := omega) only [upA, upJ, upR, vu_n]); exact nSk v h0
  · intro v h0; (try simp (disch := omega) only [upA, upJ, upR, vu_n] at h0); (try simp (disch := omega) only [upA, upJ, upR, vu_n]); exact nCr v h0
  · intro v h0; (try simp (disch := omega) only [upA, upJ, upR, vu_n] at h0); (try simp (disch := omega) only [upA, upJ, upR, vu_n]); exact nRt v h0
  · intro v h0; (try simp (disch := omega) only [upA, upJ, upR, vu_n] at h0); (try simp (disch := omega) only [upA, upJ, upR, vu_n]); exact nMe v h0
theorem rn_Sp {N : Nat → Nat → Nat} (h : RN r N Z) (hi : i < 10) : RN (va_up r (52 + i) (b)) N (am_up Z 4 i b) := by
  obtain ⟨nTi, nSe, nX, nY, nDg, nTh, nDr, nSp, nSk, nCr, nRt, nMe⟩ := h
  refine ⟨?_, ?_, ?_, ?_, ?_, ?_, ?_, ?_, ?_, ?_, ?_, ?_⟩
  · (try simp (disch := omega) only [upA, upJ, upR, vu_n]); exact nTi
  · (try simp (disch := omega) only [upA, upJ, upR, vu_n]); exact nSe
  · intro v h0; (try simp (disch := omega) only [upA, upJ, upR, vu_n] at h0); (try simp (disch := omega) only [upA, upJ, upR, vu_n]); exact nX v h0
  · intro v h0; (try simp (disch := omega) only [upA, upJ, upR, vu_n] at h0); (try simp (disch := omega) only [upA, upJ, upR, vu_n]); exact nY v h0
  · intro v h0; (try simp (disch := omega) only [upA, upJ, upR, vu_n] at h0); (try simp (disch := omega) only [upA, upJ, upR, vu_n]); exact nDg v h0
  · intro v h0; (try simp (disch := omega) only [upA, upJ, upR, vu_n] at h0); (try simp (disch := omega) only [upA, upJ, upR, vu_n]); exact nTh v h0
  · intro v h0; (try simp (disch := omega) only [upA, upJ, upR, vu_n] at h0); (try simp (disch := omega) only [upA, upJ, upR, vu_n]); exact nDr v h0
  · intro v h0; by_cases e : v = i
    · subst e; simp only [upS, vu_s]
    · (try simp (disch := omega) only [upA, upJ, upR, vu_n] at h0); (try simp (disch := omega) only [upA, upJ, upR, vu_n]); exact nSp v h0
  · intro v h0; (try simp (disch := omega) only [upA, upJ, upR, vu_n] at h0); (try simp (disch := omega) only [upA, upJ, upR, vu_n]); exact nSk v h0
  · intro v h0; (try simp (disch := omega) only [upA, upJ, upR, vu_n] at h0); (try simp (disch := omega) only [upA, upJ, upR, vu_n]); exact nCr v h0
  · intro v h0; (try simp (disch := omega) only [upA, upJ, upR, vu_n] at h0); (try simp (disch := omega) only [upA, upJ, upR, vu_n]); exact nRt v h0
  · intro v h0; (try simp (disch := omega) only [upA, upJ, upR, vu_n] at h0); (try simp (disch := omega) only [upA, upJ, upR, vu_n]); exact nMe v h0
theorem rn_Sk {N : Nat → Nat → Nat} (h : RN r N Z) (hi : i < 10) : RN (va_up r (62 + i) (b)) N (am_up Z 5 i b) := by
  obtain ⟨nTi, nSe, nX, nY, nDg, nTh, nDr, nSp, nSk, nCr, nRt, nMe⟩ := h
  refine ⟨?_, ?_, ?_, ?_, ?_, ?_, ?_, ?_, ?_, ?_, ?_, ?_⟩
  · (try simp (disch := omega) only [upA, upJ, upR, vu_n]); exact nTi
  · (try simp (disch := omega) only [upA, upJ, upR, vu_n]); exact nSe
  · intro v h0; (try simp (disch := omega) only [upA, upJ, upR, vu_n] at h0); (try simp (disch := omega) only [upA, upJ, upR, vu_n]); exact nX v h0
  · intro v h0; (try simp (disch := omega) only [upA, upJ, upR, vu_n] at h0); (try simp (disch := omega) only [upA, upJ, upR, vu_n]); exact nY v h0
  · intro v h0; (try simp (disch := omega) only [upA, upJ, upR, vu_n] at h0); (try simp (disch := omega) only [upA, upJ, upR, vu_n]); exact nDg v h0
  · intro v h0; (try simp (disch := omega) only [upA, upJ, upR, vu_n] at h0); (try simp (disch := omega) only [upA, upJ, upR, vu_n]); exact nTh v h0
  · intro v h0; (try simp (disch := omega) only [upA, upJ, upR, vu_n] at h0); (try simp (disch := omega) only [upA, upJ, upR, vu_n]); exact nDr v h0
  · intro v h0; (try simp (disch := omega) only [upA, upJ, upR, vu_n] at h0); (try simp (disch := omega) only [upA, upJ, upR, vu_n]); exact nSp v h0
  · intro v h0; by_cases e : v = i
    · subst e; simp only [upS, vu_s]
    · (try simp (disch := omega) only [upA, upJ, upR, vu_n] at h0); (try simp (disch := omega) only [upA, upJ, upR, vu_n]); exact nSk v h0
  · intro v h0; (try simp (disch := omega) only [upA, upJ, upR, vu_n] at h0); (try simp (disch := omega) only [upA, upJ, upR, vu_n]); exact nCr v h0
  · intro v h0; (try simp (disch := omega) only [upA, upJ, upR, vu_n] at h0); (try simp (disch := omega) only [upA, upJ, upR, vu_n]); exact nRt v h0
  · intro v h0; (try simp (disch := omega) only [upA, upJ, upR, vu_n] at h0); (try simp (disch := omega) only [upA, upJ, upR, vu_n]); exact nMe v h0
theorem rn_Cr {N : Nat → Nat → Nat} (h : RN r N Z) (hi : i < 144) : RN (va_up r (72 + i) (nI q - nI 50)) (am_up N 7 i q) Z := by
  obtain ⟨nTi, nSe, nX, nY, nDg, nTh, nDr, nSp, nSk, nCr, nRt, nMe⟩ := h
  refine ⟨?_, ?_, ?_, ?_, ?_, ?_, ?_, ?_, ?_, ?_, ?_, ?_⟩
  · (try simp (disch := omega) only [upA, upJ, upR, vu_n]); exact nTi
  · (try simp (disch := omega) only [upA, upJ, upR, vu_n]); exact nSe
  · intro v h0; (try simp (disch := omega) only [upA, upJ, upR, vu_n] at h0); (try simp (disch := omega) only [upA, upJ, upR, vu_n]); exact nX v h0
  · intro v h0; (try simp (disch := omega) only [upA, upJ, upR, vu_n] at h0); (try simp (disch := omega) only [upA, upJ, upR, vu_n]); exact nY v h0
  · intro v h0; (try simp (disch := omega) only [upA, upJ, upR, vu_n] at h0); (try simp (disch := omega) only [upA, upJ, upR, vu_n]); exact nDg v h0
  · intro v h0; (try simp (disch := omega) only [upA, upJ, upR, vu_n] at h0); (try simp (disch := omega) only [upA, upJ, upR, vu_n]); exact nTh v h0
  · intro v h0; (try simp (disch := omega) only [upA, upJ, upR, vu_n] at h0); (try simp (disch := omega) only [upA, upJ, upR, vu_n]); exact nDr v h0
  · intro v h0; (try simp (disch := omega) only [upA, upJ, upR, vu_n] at h0); (try simp (disch := omega) only [upA, upJ, upR, vu_n]); exact nSp v h0
  · intro v h0; (try simp (disch := omega) only [upA, upJ, upR, vu_n] at h0); (try simp (disch := omega) only [upA, upJ, upR, vu_n]); exact nSk v h0
  · intro v h0; by_cases e : v = i
    · subst e; simp only [upS, vu_s]
    · (try simp (disch := omega) only [upA, upJ, upR, vu_n] at h0); (try simp (disch := omega) only [upA, upJ, upR, vu_n]); exact nCr v h0
  · intro v h0; (try simp (disch := omega) only [upA, upJ, upR, vu_n] at h0); (try simp (disch := omega) only [upA, upJ, upR, vu_n]); exact nRt v h0
  · intro v h0; (try simp (disch := omega) only [upA, upJ, upR, vu_n] at h0); (try simp (disch := omega) only [upA, upJ, upR, vu_n]); exact nMe v h0
theorem rn_Rt {N : Nat → Nat → Nat} (h : RN r N Z) (hi : i < 20) : RN (va_up r (216 + i) (nI q)) (am_up N 15 i q) Z := by
  obtain ⟨nTi, nSe, nX, nY, nDg, nTh, nDr, nSp, nSk, nCr, nRt, nMe⟩ := h
  refine ⟨?_, ?_, ?_, ?_, ?_, ?_, ?_, ?_, ?_, ?_, ?_, ?_⟩
  · (try simp (disch := omega) only [upA, upJ, upR, vu_n]); exact nTi
  · (try simp (disch := omega) only [upA, upJ, upR, vu_n]); exact nSe
  · intro v h0; (try simp (disch := omega) only [upA, upJ, upR, vu_n] at h0); (try simp (disch := omega) only [upA, upJ, upR, vu_n]); exact nX v h0
  · intro v h0; (try simp (disch := omega) only [upA, upJ, upR, vu_n] at h0); (try simp (disch := omega) only [upA, upJ, upR, vu_n]); exact nY v h0
  · intro v h0; (try simp (disch := omega) only [upA, upJ, upR, vu_n] at h0); (try simp (disch := omega) only [upA, upJ, upR, vu_n]); exact nDg v h0
  · intro v h0; (try simp (disch := omega) only [upA, upJ, upR, vu_n] at h0); (try simp (disch := omega) only [upA, upJ, upR, vu_n]); exact nTh v h0
  · intro v h0; (try simp (disch := omega) only [upA, upJ, upR, vu_n] at h0); (try simp (disch := omega) only [upA, upJ, upR, vu_n]); exact nDr v h0
  · intro v h0; (try simp (disch := omega) only [upA, upJ, upR, vu_n] at h0); (try simp (disch := omega) only [upA, upJ, upR, vu_n]); exact nSp v h0
  · intro v h0; (try simp (disch := omega) only [upA, upJ, upR, vu_n] at h0); (try simp (disch := omega) only [upA, upJ, upR, vu_n]); exact nSk v h0
  · intro v h0; (try simp (disch := omega) only [upA, upJ, upR, vu_n] at h0); (try simp (disch := omega) only [upA, upJ, upR, vu_n]); exact nCr v h0
  · intro v h0; by_cases e : v = i
    · subst e; simp only [upS, vu_s]
    · (try simp (disch := omega) only [upA, upJ, upR, vu_n] at h0); (try simp (disch := omega) only [upA, upJ, upR, vu_n]); exact nRt v h0
  · intro v h0; (try simp (disch := omega) only [upA, upJ, upR, vu_n] at h0); (try simp (disch := omega) only [upA, upJ, upR, vu_n]); exact nMe v h0
theorem rn_Me {N : Nat → Nat → Nat} (h : RN r N Z) (hi : i < 100) : RN (va_up r (236 + i) (b)) N (am_up Z 6 i b) := by
  obtain ⟨nTi, nSe, nX, nY, nDg, nTh, nDr, nSp, nSk, nCr, nRt, nMe⟩ := h
  refine ⟨?_, ?_, ?_, ?_, ?_, ?_, ?_, ?_, ?_, ?_, ?_, ?_⟩
  · (try simp (disch := omega) only [upA, upJ, upR, vu_n]); exact nTi
  · (try simp (disch := omega) only [upA, upJ, upR, vu_n]); exact nSe
  · intro v h0; (try simp (disch := omega) only [upA, upJ, upR, vu_n] at h0); (try simp (disch := omega) only [upA, upJ, upR, vu_n]); exact nX v h0
  · intro v h0; (try simp (disch := omega) only [upA, upJ, upR, vu_n] at h0); (try simp (disch := omega) only [upA, upJ, upR, vu_n]); exact nY v h0
  · intro v h0; (try simp (disch := omega) only [upA, upJ, upR, vu_n] at h0); (try simp (disch := omega) only [upA, upJ, upR, vu_n]); exact nDg v h0
  · intro v h0; (try simp (disch := omega) only [upA, upJ, upR, vu_n] at h0); (try simp (disch := omega) only [upA, upJ, upR, vu_n]); exact nTh v h0
  · intro v h0; (try simp (disch := omega) only [upA, upJ, upR, vu_n] at h0); (try simp (disch := omega) only [upA, upJ, upR, vu_n]); exact nDr v h0
  · intro v h0; (try simp (disch := omega) only [upA, upJ, upR, vu_n] at h0); (try simp (disch := omega) only [upA, upJ, upR, vu_n]); exact nSp v h0
  · intro v h0; (try simp (disch := omega) only [upA, upJ, upR, vu_n] at h0); (try simp (disch := omega) only [upA, upJ, upR, vu_n]); exact nSk v h0
  · intro v h0; (try simp (disch := omega) only [upA, upJ, upR, vu_n] at h0); (try simp (disch := omega) only [upA, upJ, upR, vu_n]); exact nCr v h0
  · intro v h0; (try simp (disch := omega) only [upA, upJ, upR, vu_n] at h0); (try simp (disch := omega) only [upA, upJ, upR, vu_n]); exact nRt v h0
  · intro v h0; by_cases e : v = i
    · subst e; simp only [upS, vu_s]
    · (try simp (disch := omega) only [upA, upJ, upR, vu_n] at h0); (try simp (disch := omega) only [upA, upJ, upR, vu_n]); exact nMe v h0
theorem rs_T {N : Nat → Nat → Nat} (h : RS I N)  : RS I (am_up N 0 2 q) := by
  obtain ⟨mW, mH, mV, mL, mR, mWl, mWy, mFo, mSh, mWe, mSa, mKi, mAn, mRa, mRb, mRl, mSc, mSt, mLi, mWo, mFr, mTo, mOp, mAr⟩ := h
  refine ⟨?_, ?_, ?_, ?_, ?_, ?_, ?_, ?_, ?_, ?_, ?_, ?_, ?_, ?_, ?_, ?_, ?_, ?_, ?_, ?_, ?_, ?_, ?_, ?_⟩
  · (try simp (disch := omega) only [upA, upJ, upR, vu_n]); exact mW
  · (try simp (disch := omega) only [upA, upJ, upR, vu_n]); exact mH
  · (try simp (disch := omega) only [upA, upJ, upR, vu_n]); exact mV
  · (try simp (disch := omega) only [upA, upJ, upR, vu_n]); exact mL
  · (try simp (disch := omega) only [upA, upJ, upR, vu_n]); exact mR
  · intro v h0; (try simp (disch := omega) only [upA, upJ, upR, vu_n] at h0); (try simp (disch := omega) only [upA, upJ, upR, vu_n]); exact mWl v h0
  · intro v h0; (try simp (disch := omega) only [upA, upJ, upR, vu_n] at h0); (try simp (disch := omega) only [upA, upJ, upR, vu_n]); exact mWy v h0
  · intro v h0; (try simp (disch := omega) only [upA, upJ, upR, vu_n] at h0); (try simp (disch := omega) only [upA, upJ, upR, vu_n]); exact mFo v h0
  · intro v h0; (try simp (disch := omega) only [upA, upJ, upR, vu_n] at h0); (try simp (disch := omega) only [upA, upJ, upR, vu_n]); exact mSh v h0
  · intro v h0; (try simp (disch := omega) only [upA, upJ, upR, vu_n] at h0); (try simp (disch := omega) only [upA, upJ, upR, vu_n]); exact mWe v h0
  · intro v h0; (try simp (disch := omega) only [upA, upJ, upR, vu_n] at h0); (try simp (disch := omega) only [upA, upJ, upR, vu_n]); exact mSa v h0
  · intro v h0; (try simp (disch := omega) only [upA, upJ, upR, vu_n] at h0); (try simp (disch := omega) only [upA, upJ, upR, vu_n]); exact mKi v h0
  · intro v h0; (try simp (disch := omega) only [upA, upJ, upR, vu_n] at h0); (try simp (disch := omega) only [upA, upJ, upR, vu_n]); exact mAn v h0
  · intro v h0; (try simp (disch := omega) only [upA, upJ, upR, vu_n] at h0); (try simp (disch := omega) only [upA, upJ, upR, vu_n]); exact mRa v h0
  · intro v h0; (try simp (disch := omega) only [upA, upJ, upR, vu_n] at h0); (try simp (disch := omega) only [upA, upJ, upR, vu_n]); exact mRb v h0
  · intro v h0; (try simp (disch := omega) only [upA, upJ, upR, vu_n] at h0); (try simp (disch := omega) only [upA, upJ, upR, vu_n]); exact mRl v h0
  · intro v h0; (try simp (disch := omega) only [upA, upJ, upR, vu_n] at h0); (try simp (disch := omega) only [upA, upJ, upR, vu_n]); exact mSc v h0
  · intro v h0; (try simp (disch := omega) only [upA, upJ, upR, vu_n] at h0); (try simp (disch := omega) only [upA, upJ, upR, vu_n]); exact mSt v h0
  · intro v h0; (try simp (disch := omega) only [upA, upJ, upR, vu_n] at h0); (try simp (disch := omega) only [upA, upJ, upR, vu_n]); exact mLi v h0
  · intro u v h0 h1; (try simp (disch := omega) only [upA, upJ, upR, vu_n] at h0 h1); (try simp (disch := omega) only [upA, upJ, upR, vu_n]); exact mWo u v h0 h1
  · intro u v h0 h1; (try simp (disch := omega) only [upA, upJ, upR, vu_n] at h0 h1); (try simp (disch := omega) only [upA, upJ, upR, vu_n]); exact mFr u v h0 h1
  · intro u v h0 h1; (try simp (disch := omega) only [upA, upJ, upR, vu_n] at h0 h1); (try simp (disch := omega) only [upA, upJ, upR, vu_n]); exact mTo u v h0 h1
  · intro u v h0 h1; (try simp (disch := omega) only [upA, upJ, upR, vu_n] at h0 h1); (try simp (disch := omega) only [upA, upJ, upR, vu_n]); exact mOp u v h0 h1
  · intro u v h0 h1; (try simp (disch := omega) only [upA, upJ, upR, vu_n] at h0 h1); (try simp (disch := omega) only [upA, upJ, upR, vu_n]); exact mAr u v h0 h1
theorem rs_X {N : Nat → Nat → Nat} (h : RS I N)  : RS I (am_up N 1 i q) := by
  obtain ⟨mW, mH, mV, mL, mR, mWl, mWy, mFo, mSh, mWe, mSa, mKi, mAn, mRa, mRb, mRl, mSc, mSt, mLi, mWo, mFr, mTo, mOp, mAr⟩ := h
  refine ⟨?_, ?_, ?_, ?_, ?_, ?_, ?_, ?_, ?_, ?_, ?_, ?_, ?_, ?_, ?_, ?_, ?_, ?_, ?_, ?_, ?_, ?_, ?_, ?_⟩
  · (try simp (disch := omega) only [upA, upJ, upR, vu_n]); exact mW
  · (try simp (disch := omega) only [upA, upJ, upR, vu_n]); exact mH
  · (try simp (disch := omega) only [upA, upJ, upR, vu_n]); exact mV
  · (try simp (disch := omega) only [upA, upJ, upR, vu_n]); exact mL
  · (try simp (disch := omega) only [upA, upJ, upR, vu_n]); exact mR
  · intro v h0; (try simp (disch := omega) only [upA, upJ, upR, vu_n] at h0); (try simp (disch := omega) only [upA, upJ, upR, vu_n]); exact mWl v h0
  · intro v h0; (try simp (disch := omega) only [upA, upJ, upR, vu_n] at h0); (try simp (disch := omega) only [upA, upJ, upR, vu_n]); exact mWy v h0
  · intro v h0; (try simp (disch := omega) only [upA, upJ, upR, vu_n] at h0); (try simp (disch := omega) only [upA, upJ, upR, vu_n]); exact mFo v h0
  · intro v h0; (try simp (disch := omega) only [upA, upJ, upR, vu_n] at h0); (try simp (disch := omega) only [upA, upJ, upR, vu_n]); exact mSh v h0
  · intro v h0; (try simp (disch := omega) only [upA, upJ, upR, vu_n] at h0); (try simp (disch := omega) only [upA, upJ, upR, vu_n]); exact mWe v h0
  · intro v h0; (try simp (disch := omega) only [upA, upJ, upR, vu_n] at h0); (try simp (disch := omega) only [upA, upJ, upR, vu_n]); exact mSa v h0
  · intro v h0; (try simp (disch := omega) only [upA, upJ, upR, vu_n] at h0); (try simp (disch := omega) only [upA, upJ, upR, vu_n]); exact mKi v h0
  · intro v h0; (try simp (disch := omega) only [upA, upJ, upR, vu_n] at h0); (try simp (disch := omega) only [upA, upJ, upR, vu_n]); exact mAn v h0
  · intro v h0; (try simp (disch := omega) only [upA, upJ, upR, vu_n] at h0); (try simp (disch := omega) only [upA, upJ, upR, vu_n]); exact mRa v h0
  · intro v h0; (try simp (disch := omega) only [upA, upJ, upR, vu_n] at h0); (try simp (disch := omega) only [upA, upJ, upR, vu_n]); exact mRb v h0
  · intro v h0; (try simp (disch := omega) only [upA, upJ, upR, vu_n] at h0); (try simp (disch := omega) only [upA, upJ, upR, vu_n]); exact mRl v h0
  · intro v h0; (try simp (disch := omega) only [upA, upJ, upR, vu_n] at h0); (try simp (disch := omega) only [upA, upJ, upR, vu_n]); exact mSc v h0
  · intro v h0; (try simp (disch := omega) only [upA, upJ, upR, vu_n] at h0); (try simp (disch := omega) only [upA, upJ, upR, vu_n]); exact mSt v h0
  · intro v h0; (try simp (disch := omega) only [upA, upJ, upR, vu_n] at h0); (try simp (disch := omega) only [upA, upJ, upR, vu_n]); exact mLi v h0
  · intro u v h0 h1; (try simp (disch := omega) only [upA, upJ, upR, vu_n] at h0 h1); (try simp (disch := omega) only [upA, upJ, upR, vu_n]); exact mWo u v h0 h1
  · intro u v h0 h1; (try simp (disch := omega) only [upA, upJ, upR, vu_n] at h0 h1); (try simp (disch := omega) only [upA, upJ, upR, vu_n]); exact mFr u v h0 h1
  · intro u v h0 h1; (try simp (disch := omega) only [upA, upJ, upR, vu_n] at h0 h1); (try simp (disch := omega) only [upA, upJ, upR, vu_n]); exact mTo u v h0 h1
  · intro u v h0 h1; (try simp (disch := omega) only [upA, upJ, upR, vu_n] at h0 h1); (try simp (disch := omega) only [upA, upJ, upR, vu_n]); exact mOp u v h0 h1
  · intro u v h0 h1; (try simp (disch := omega) only [upA, upJ, upR, vu_n] at h0 h1); (try simp (disch := omega) only [upA, upJ, upR, vu_n]); exact mAr u v h0 h1
theorem rs_Y {N : Nat → Nat → Nat} (h : RS I N)  : RS I (am_up N 2 i q) := by
  obtain ⟨mW, mH, mV, mL, mR, mWl, mWy, mFo, mSh, mWe, mSa, mKi, mAn, mRa, mRb, mRl, mSc, mSt, mLi, mWo, mFr, mTo, mOp, mAr⟩ := h
  refine ⟨?_, ?_, ?_, ?_, ?_, ?_, ?_, ?_, ?_, ?_, ?_, ?_, ?_, ?_, ?_, ?_, ?_, ?_, ?_, ?_, ?_, ?_, ?_, ?_⟩
  · (try simp (disch := omega) only [upA, upJ, upR, vu_n]); exact mW
  · (try simp (disch := omega) only [upA, upJ, upR, vu_n]); exact mH
  · (try simp (disch := omega) only [upA, upJ, upR, vu_n]); exact mV
  · (try simp (disch := omega) only [upA, upJ, upR, vu_n]); exact mL
  · (try simp (disch := omega) only [upA, upJ, upR, vu_n]); exact mR
  · intro v h0; (try simp (disch := omega) only [upA, upJ, upR, vu_n] at h0); (try simp (disch := omega) only [upA, upJ, upR, vu_n]); exact mWl v h0
  · intro v h0; (try simp (disch := omega) only [upA, upJ, upR, vu_n] at h0); (try simp (disch := omega) only [upA, upJ, upR, vu_n]); exact mWy v h0
  · intro v h0; (try simp (disch := omega) only [upA, upJ, upR, vu_n] at h0); (try simp (disch := omega) only [upA, upJ, upR, vu_n]); exact mFo v h0
  · intro v h0; (try simp (disch := omega) only [upA, upJ, upR, vu_n] at h0); (try simp (disch := omega) only [upA, upJ, upR, vu_n]); exact mSh v h0
  · intro v h0; (try simp (disch := omega) only [upA, upJ, upR, vu_n] at h0); (try simp (disch := omega) only [upA, upJ, upR, vu_n]); exact mWe v h0
  · intro v h0; (try simp (disch := omega) only [upA, upJ, upR, vu_n] at h0); (try simp (disch := omega) only [upA, upJ, upR, vu_n]); exact mSa v h0
  · intro v h0; (try simp (disch := omega) only [upA, upJ, upR, vu_n] at h0); (try simp (disch := omega) only [upA, upJ, upR, vu_n]); exact mKi v h0
  · intro v h0; (try simp (disch := omega) only [upA, upJ, upR, vu_n] at h0); (try simp (disch := omega) only [upA, upJ, upR, vu_n]); exact mAn v h0
  · intro v h0; (try simp (disch := omega) only [upA, upJ, upR, vu_n] at h0); (try simp (disch := omega) only [upA, upJ, upR, vu_n]); exact mRa v h0
  · intro v h0; (try simp (disch := omega) only [upA, upJ, upR, vu_n] at h0); (try simp (disch := omega) only [upA, upJ, upR, vu_n]); exact mRb v h0
  · intro v h0; (try simp (disch := omega) only [upA, upJ, upR, vu_n] at h0); (try simp (disch := omega) only [upA, upJ, upR, vu_n]); exact mRl v h0
  · intro v h0; (try simp (disch := omega) only [upA, upJ, upR, vu_n] at h0); (try simp (disch := omega) only [upA, upJ, upR, vu_n]); exact mSc v h0
  · intro v h0; (try simp (disch := omega) only [upA, upJ, upR, vu_n] at h0); (try simp (disch := omega) only [upA, upJ, upR, vu_n]); exact mSt v h0
  · intro v h0; (try simp (disch := omega) only [upA, upJ, upR, vu_n] at h0); (try simp (disch := omega) only [upA, upJ, upR, vu_n]); exact mLi v h0
  · intro u v h0 h1; (try simp (disch := omega) only [upA, upJ, upR, vu_n] at h0 h1); (try simp (disch := omega) only [upA, upJ, upR, vu_n]); exact mWo u v h0 h1
  · intro u v h0 h1; (try simp (disch := omega) only [upA, upJ, upR, vu_n] at h0 h1); (try simp (disch := omega) only [upA, upJ, upR, vu_n]); exact mFr u v h0 h1
  · intro u v h0 h1; (try simp (disch := omega) only [upA, upJ, upR, vu_n] at h0 h1); (try simp (disch := omega) only [upA, upJ, upR, vu_n]); exact mTo u v h0 h1
  · intro u v h0 h1; (try simp (disch := omega) only [upA, upJ, upR, vu_n] at h0 h1); (try simp (disch := omega) only [upA, upJ, upR, vu_n]); exact mOp u v h0 h1
  · intro u v h0 h1; (try simp (disch := omega) only [upA, upJ, upR, vu_n] at h0 h1); (try simp (disch := omega) only [upA, upJ, upR, vu_n]); exact mAr u v h0 h1
theorem rs_Cr {N : Nat → Nat → Nat} (h : RS I N)  : RS I (am_up N 7 i q) := by
  obtain ⟨mW, mH, mV, mL, mR, mWl, mWy, mFo, mSh, mWe, mSa, mKi, mAn, mRa, mRb, mRl, mSc, mSt, mLi, mWo, mFr, mTo, mOp, mAr⟩ := h
  refine ⟨?_, ?_, ?_, ?_, ?_, ?_, ?_, ?_, ?_, ?_, ?_, ?_, ?_, ?_, ?_, ?_, ?_, ?_, ?_, ?_, ?_, ?_, ?_, ?_⟩
  · (try simp (disch := omega) only [upA, upJ, upR, vu_n]); exact mW
  · (try simp (disch := omega) only [upA, upJ, upR, vu_n]); exact mH
  · (try simp (disch := omega) only [upA, upJ, upR, vu_n]); exact mV
  · (try simp (disch := omega) only [upA, upJ, upR, vu_n]); exact mL
  · (try simp (disch := omega) only [upA, upJ, upR, vu_n]); exact mR
  · intro v h0; (try simp (disch := omega) only [upA, upJ, upR, vu_n] at h0); (try simp (disch := omega) only [upA, upJ, upR, vu_n]); exact mWl v h0
  · intro v h0; (try simp (disch := omega) only [upA, upJ, upR, vu_n] at h0); (try simp (disch := omega) only [upA, upJ, upR, vu_n]); exact mWy v h0
  · intro v h0; (try simp (disch := omega) only [upA, upJ, upR, vu_n] at h0); (try simp (disch := omega) only [upA, upJ, upR, vu_n]); exact mFo v h0
  · intro v h0; (try simp (disch := omega) only [upA, upJ, upR, vu_n] at h0); (try simp (disch := omega) only [upA, upJ, upR, vu_n]); exact mSh v h0
  · intro v h0; (try simp (disch := omega) only [upA, upJ, upR, vu_n] at h0); (try simp (disch := omega) only [upA, upJ, upR, vu_n]); exact mWe v h0
  · intro v h0; (try simp (disch := omega) only [upA, upJ, upR, vu_n] at h0); (try simp (disch := omega) only [upA, upJ, upR, vu_n]); exact mSa v h0
  · intro v h0; (try simp (disch := omega) only [upA, upJ, upR, vu_n] at h0); (try simp (disch := omega) only [upA, upJ, upR, vu_n]); exact mKi v h0
  · intro v h0; (try simp (disch := omega) only [upA, upJ, upR, vu_n] at h0); (try simp (disch := omega) only [upA, upJ, upR, vu_n]); exact mAn v h0
  · intro v h0; (try simp (disch := omega) only [upA, upJ, upR, vu_n] at h0); (try simp (disch := omega) only [upA, upJ, upR, vu_n]); exact mRa v h0
  · intro v h0; (try simp (disch := omega) only [upA, upJ, upR, vu_n] at h0); (try simp (disch := omega) only [upA, upJ, upR, vu_n]); exact mRb v h0
  · intro v h0; (try simp (disch := omega) only [upA, upJ, upR, vu_n] at h0); (try simp (disch := omega) only [upA, upJ, upR, vu_n]); exact mRl v h0
  · intro v h0; (try simp (disch := omega) only [upA, upJ, upR, vu_n] at h0); (try simp (disch := omega) only [upA, upJ, upR, vu_n]); exact mSc v h0
  · intro v h0; (try simp (disch := omega) only [upA, upJ, upR, vu_n] at h0); (try simp (disch := omega) only [upA, upJ, upR, vu_n]); exact mSt v h0
  · intro v h0; (try simp (disch := omega) only [upA, upJ, upR, vu_n] at h0); (try simp (disch := omega) only [upA, upJ, upR, vu_n]); exact mLi v h0
  · intro u v h0 h1; (try simp (disch := omega) only [upA, upJ, upR, vu_n] at h0 h1); (try simp (disch := omega) only [upA, upJ, upR, vu_n]); exact mWo u v h0 h1
  · intro u v h0 h1; (try simp (disch := omega) only [upA, upJ, upR, vu_n] at h0 h1); (try simp (disch := omega) only [upA, upJ, upR, vu_n]); exact mFr u v h0 h1
  · intro u v h0 h1; (try simp (disch := omega) only [upA, upJ, upR, vu_n] at h0 h1); (try simp (disch := omega) only [upA, upJ, upR, vu_n]); exact mTo u v h0 h1
  · intro u v h0 h1; (try simp (disch := omega) only [upA, upJ, upR, vu_n] at h0 h1); (try simp (disch := omega) only [upA, upJ, upR, vu_n]); exact mOp u v h0 h1
  · intro u v h0 h1; (try simp (disch := omega) only [upA, upJ, upR, vu_n] at h0 h1); (try simp (disch := omega) only [upA, upJ, upR, vu_n]); exact mAr u v h0 h1
theorem rs_Rt {N : Nat → Nat → Nat} (h : RS I N)  : RS I (am_up N 15 i q) := by
  obtain ⟨mW, mH, mV, mL, mR, mWl, mWy, mFo, mSh, mWe, mSa, mKi, mAn, mRa, mRb, mRl, mSc, mSt, mLi, mWo, mFr, mTo, mOp, mAr⟩ := h
  refine ⟨?_, ?_, ?_, ?_, ?_, ?_, ?_, ?_, ?_, ?_, ?_, ?_, ?_, ?_, ?_, ?_, ?_, ?_, ?_, ?_, ?_, ?_, ?_, ?_⟩
  · (try simp (disch := omega) only [upA, upJ, upR, vu_n]); exact mW
  · (try simp (disch := omega) only [upA, upJ, upR, vu_n]); exact mH
  · (try simp (disch := omega) only [upA, upJ, upR, vu_n]); exact mV
  · (try simp (disch := omega) only [upA, upJ, upR, vu_n]); exact mL
  · (try simp (disch := omega) only [upA, upJ, upR, vu_n]); exact mR
  · intro v h0; (try simp (disch := omega) only [upA, upJ, upR, vu_n] at h0); (try simp (disch := omega) only [upA, upJ, upR, vu_n]); exact mWl v h0
  · intro v h0; (try simp (disch := omega) only [upA, upJ, upR, vu_n] at h0); (try simp (disch := omega) only [upA, upJ, upR, vu_n]); exact mWy v h0
  · intro v h0; (try simp (disch := omega) only [upA, upJ, upR, vu_n] at h0); (try simp (disch := omega) only [upA, upJ, upR, vu_n]); exact mFo v h0
  · intro v h0; (try simp (disch := omega) only [upA, upJ, upR, vu_n] at h0); (try simp (disch := omega) only [upA, upJ, upR, vu_n]); exact mSh v h0
  · intro v h0; (try simp (disch := omega) only [upA, upJ, upR, vu_n] at h0); (try simp (disch := omega) only [upA, upJ, upR, vu_n]); exact mWe v h0
  · intro v h0; (try simp (disch := omega) only [upA, upJ, upR, vu_n] at h0); (try simp (disch := omega) only [upA, upJ, upR, vu_n]); exact mSa v h0
  · intro v h0; (try simp (disch := omega) only [upA, upJ, upR, vu_n] at h0); (try simp (disch := omega) only [upA, upJ, upR, vu_n]); exact mKi v h0
  · intro v h0; (try simp (disch := omega) only [upA, upJ, upR, vu_n] at h0); (try simp (disch := omega) only [upA, upJ, upR, vu_n]); exact mAn v h0
  · intro v h0; (try simp (disch := omega) only [upA, upJ, upR, vu_n] at h0); (try simp (disch := omega) only [upA, upJ, upR, vu_n]); exact mRa v h0
  · intro v h0; (try simp (disch := omega) only [upA, upJ, upR, vu_n] at h0); (try simp (disch := omega) only [upA, upJ, upR, vu_n]); exact mRb v h0
  · intro v h0; (try simp (disch := omega) only [upA, upJ, upR, vu_n] at h0); (try simp (disch := omega) only [upA, upJ, upR, vu_n]); exact mRl v h0
  · intro v h0; (try simp (disch := omega) only [upA, upJ, upR, vu_n] at h0); (try simp (disch := omega) only [upA, upJ, upR, vu_n]); exact mSc v h0
  · intro v h0; (try simp (disch := omega) only [upA, upJ, upR, vu_n] at h0); (try simp (disch := omega) only [upA, upJ, upR, vu_n]); exact mSt v h0
  · intro v h0; (try simp (disch := omega) only [upA, upJ, upR, vu_n] at h0); (try simp (disch := omega) only [upA, upJ, upR, vu_n]); exact mLi v h0
  · intro u v h0 h1; (try simp (disch := omega) only [upA, upJ, upR, vu_n] at h0 h1); (try simp (disch := omega) only [upA, upJ, upR, vu_n]); exact mWo u v h0 h1
  · intro u v h0 h1; (try simp (disch := omega) only [upA, upJ, upR, vu_n] at h0 h1); (try simp (disch := omega) only [upA, upJ, upR, vu_n]); exact mFr u v h0 h1
  · intro u v h0 h1; (try simp (disch := omega) only [upA, upJ, upR, vu_n] at h0 h1); (try simp (disch := omega) only [upA, upJ, upR, vu_n]); exact mTo u v h0 h1
  · intro u v h0 h1; (try simp (disch := omega) only [upA, upJ, upR, vu_n] at h0 h1); (try simp (disch := omega) only [upA, upJ, upR, vu_n]); exact mOp u v h0 h1
  · intro u v h0 h1; (try simp (disch := omega) only [upA, upJ, upR, vu_n] at h0 h1); (try simp (disch := omega) only [upA, upJ, upR, vu_n]); exact mAr u v h0 h1
theorem rs_W {N : Nat → Nat → Nat} (h : RS I N)  : RS (am_up I 249 4 (nI q)) (am_up N 0 0 q) := by
  obtain ⟨mW, mH, mV, mL, mR, mWl, mWy, mFo, mSh, mWe, mSa, mKi, mAn, mRa, mRb, mRl, mSc, mSt, mLi, mWo, mFr, mTo, mOp, mAr⟩ := h
  refine ⟨?_, ?_, ?_, ?_, ?_, ?_, ?_, ?_, ?_, ?_, ?_, ?_, ?_, ?_, ?_, ?_, ?_, ?_, ?_, ?_, ?_, ?_, ?_, ?_⟩
  · simp only [upS, vu_s]
  · (try simp (disch := omega) only [upA, upJ, upR, vu_n]); exact mH
  · (try simp (disch := omega) only [upA, upJ, upR, vu_n]); exact mV
  · (try simp (disch := omega) only [upA, upJ, upR, vu_n]); exact mL
  · (try simp (disch := omega) only [upA, upJ, upR, vu_n]); exact mR
  · intro v h0; (try simp (disch := omega) only [upA, upJ, upR, vu_n] at h0); (try simp (disch := omega) only [upA, upJ, upR, vu_n]); exact mWl v h0
  · intro v h0; (try simp (disch := omega) only [upA, upJ, upR, vu_n] at h0); (try simp (disch := omega) only [upA, upJ, upR, vu_n]); exact mWy v h0
  · intro v h0; (try simp (disch := omega) only [upA, upJ, upR, vu_n] at h0); (try simp (disch := omega) only [upA, upJ, upR, vu_n]); exact mFo v h0
  · intro v h0; (try simp (disch := omega) only [upA, upJ, upR, vu_n] at h0); (try simp (disch := omega) only [upA, upJ, upR, vu_n]); exact mSh v h0
  · intro v h0; (try simp (disch := omega) only [upA, upJ, upR, vu_n] at h0); (try simp (disch := omega) only [upA, upJ, upR, vu_n]); exact mWe v h0
  · intro v h0; (try simp (disch := omega) only [upA, upJ, upR, vu_n] at h0); (try simp (disch := omega) only [upA, upJ, upR, vu_n]); exact mSa v h0
  · intro v h0; (try simp (disch := omega) only [upA, upJ, upR, vu_n] at h0); (try simp (disch := omega) only [upA, upJ, upR, vu_n]); exact mKi v h0
  · intro v h0; (try simp (disch := omega) only [upA, upJ, upR, vu_n] at h0); (try simp (disch := omega) only [upA, upJ, upR, vu_n]); exact mAn v h0
  · intro v h0; (try simp (disch := omega) only [upA, upJ, upR, vu_n] at h0); (try simp (disch := omega) only [upA, upJ, upR, vu_n]); exact mRa v h0
  · intro v h0; (try simp (disch := omega) only [upA, upJ, upR, vu_n] at h0); (try simp (disch := omega) only [upA, upJ, upR, vu_n]); exact mRb v h0
  · intro v h0; (try simp (disch := omega) only [upA, upJ, upR, vu_n] at h0); (try simp (disch := omega) only [upA, upJ, upR, vu_n]); exact mRl v h0
  · intro v h0; (try simp (disch := omega) only [upA, upJ, upR, vu_n] at h0); (try simp (disch := omega) only [upA, upJ, upR, vu_n]); exact mSc v h0
  · intro v h0; (try simp (disch := omega) only [upA, upJ, upR, vu_n] at h0); (try simp (disch := omega) only [upA, upJ, upR, vu_n]); exact mSt v h0
  · intro v h0; (try simp (disch := omega) only [upA, upJ, upR, vu_n] at h0); (try simp (disch := omega) only [upA, upJ, upR, vu_n]); exact mLi v h0
  · intro u v h0 h1; (try simp (disch := omega) only [upA, upJ, upR, vu_n] at h0 h1); (try simp (disch := omega) only [upA, upJ, upR, vu_n]); exact mWo u v h0 h1
  · intro u v h0 h1; (try simp (disch := omega) only [upA, upJ, upR, vu_n] at h0 h1); (try simp (disch := omega) only [upA, upJ, upR, vu_n]); exact mFr u v h0 h1
  · intro u v h0 h1; (try simp (disch := omega) only [upA, upJ, upR, vu_n] at h0 h1); (try simp (disch := omega) only [upA, upJ, upR, vu_n]); exact mTo u v h0 h1
  · intro u v h0 h1; (try simp (disch := omega) only [upA, upJ, upR, vu_n] at h0 h1); (try simp (disch := omega) only [upA, upJ, upR, vu_n]); exact mOp u v h0 h1
  · intro u v h0 h1; (try simp (disch := omega) only [upA, upJ, upR, vu_n] at h0 h1); (try simp (disch := omega) only [upA, upJ, upR, vu_n]); exact mAr u v h0 h1
theorem rs_H {N : Nat → Nat → Nat} (h : RS I N)  : RS (am_up I 249 5 (nI q)) (am_up N 0 1 q) := by
  obtain ⟨mW, mH, mV, mL, mR, mWl, mWy, mFo, mSh, mWe, mSa, mKi, mAn, mRa, mRb, mRl, mSc, mSt, mLi, mWo, mFr, mTo, mOp, mAr⟩ := h
  refine ⟨?_, ?_, ?_, ?_, ?_, ?_, ?_, ?_, ?_, ?_, ?_, ?_, ?_, ?_, ?_, ?_, ?_, ?_, ?_, ?_, ?_, ?_, ?_, ?_⟩
  · (try simp (disch := omega) only [upA, upJ, upR, vu_n]); exact mW
  · simp only [upS, vu_s]
  · (try simp (disch := omega) only [upA, upJ, upR, vu_n]); exact mV
  · (try simp (disch := omega) only [upA, upJ, upR, vu_n]); exact mL
  · (try simp (disch := omega) only [upA, upJ, upR, vu_n]); exact mR
  · intro v h0; (try simp (disch := omega) only [upA, upJ, upR, vu_n] at h0); (try simp (disch := omega) only [upA, upJ, upR, vu_n]); exact mWl v h0
  · intro v h0; (try simp (disch := omega) only [upA, upJ, upR, vu_n] at h0); (try simp (disch := omega) only [upA, upJ, upR, vu_n]); exact mWy v h0
  · intro v h0; (try simp (disch := omega) only [upA, upJ, upR, vu_n] at h0); (try simp (disch := omega) only [upA, upJ, upR, vu_n]); exact mFo v h0
  · intro v h0; (try simp (disch := omega) only [upA, upJ, upR, vu_n] at h0); (try simp (disch := omega) only [upA, upJ, upR, vu_n]); exact mSh v h0
  · intro v h0; (try simp (disch := omega) only [upA, upJ, upR, vu_n] at h0); (try simp (disch := omega) only [upA, upJ, upR, vu_n]); exact mWe v h0
  · intro v h0; (try simp (disch := omega) only [upA, upJ, upR, vu_n] at h0); (try simp (disch := omega) only [upA, upJ, upR, vu_n]); exact mSa v h0
  · intro v h0; (try simp (disch := omega) only [upA, upJ, upR, vu_n] at h0); (try simp (disch := omega) only [upA, upJ, upR, vu_n]); exact mKi v h0
  · intro v h0; (try simp (disch := omega) only [upA, upJ, upR, vu_n] at h0); (try simp (disch := omega) only [upA, upJ, upR, vu_n]); exact mAn v h0
  · intro v h0; (try simp (disch := omega) only [upA, upJ, upR, vu_n] at h0); (try simp (disch := omega) only [upA, upJ, upR, vu_n]); exact mRa v h0
  · intro v h0; (try simp (disch := omega) only [upA, upJ, upR, vu_n] at h0); (try simp (disch := omega) only [upA, upJ, upR, vu_n]); exact mRb v h0
  · intro v h0; (try simp (disch := omega) only [upA, upJ, upR, vu_n] at h0); (try simp (disch := omega) only [upA, upJ, upR, vu_n]); exact mRl v h0
  · intro v h0; (try simp (disch := omega) only [upA, upJ, upR, vu_n] at h0); (try simp (disch := omega) only [upA, upJ, upR, vu_n]); exact mSc v h0
  · intro v h0; (try simp (disch := omega) only [upA, upJ, upR, vu_n] at h0); (try simp (disch := omega) only [upA, upJ, upR, vu_n]); exact mSt v h0
  · intro v h0; (try simp (disch := omega) only [upA, upJ, upR, vu_n] at h0); (try simp (disch := omega) only [upA, upJ, upR, vu_n]); exact mLi v h0
  · intro u v h0 h1; (try simp (disch := omega) only [upA, upJ, upR, vu_n] at h0 h1); (try simp (disch := omega) only [upA, upJ, upR, vu_n]); exact mWo u v h0 h1
  · intro u v h0 h1; (try simp (disch := omega) only [upA, upJ, upR, vu_n] at h0 h1); (try simp (disch := omega) only [upA, upJ, upR, vu_n]); exact mFr u v h0 h1
  · intro u v h0 h1; (try simp (disch := omega) only [upA, upJ, upR, vu_n] at h0 h1); (try simp (disch := omega) only [upA, upJ, upR, vu_n]); exact mTo u v h0 h1
  · intro u v h0 h1; (try simp (disch := omega) only [upA, upJ, upR, vu_n] at h0 h1); (try simp (disch := omega) only [upA, upJ, upR, vu_n]); exact mOp u v h0 h1
  · intro u v h0 h1; (try simp (disch := omega) only [upA, upJ, upR, vu_n] at h0 h1); (try simp (disch := omega) only [upA, upJ, upR, vu_n]); exact mAr u v h0 h1
theorem rs_V {N : Nat → Nat → Nat} (h : RS I N)  : RS (am_up I 249 10 (nI q)) (am_up N 0 4 q) := by
  obtain ⟨mW, mH, mV, mL, mR, mWl, mWy, mFo, mSh, mWe, mSa, mKi, mAn, mRa, mRb, mRl, mSc, mSt, mLi, mWo, mFr, mTo, mOp, mAr⟩ := h
  refine ⟨?_, ?_, ?_, ?_, ?_, ?_, ?_, ?_, ?_, ?_, ?_, ?_, ?_, ?_, ?_, ?_, ?_, ?_, ?_, ?_, ?_, ?_, ?_, ?_⟩
  · (try simp (disch := omega) only [upA, upJ, upR, vu_n]); exact mW
  · (try simp (disch := omega) only [upA, upJ, upR, vu_n]); exact mH
  · simp only [upS, vu_s]
  · (try simp (disch := omega) only [upA, upJ, upR, vu_n]); exact mL
  · (try simp (disch := omega) only [upA, upJ, upR, vu_n]); exact mR
  · intro v h0; (try simp (disch := omega) only [upA, upJ, upR, vu_n] at h0); (try simp (disch := omega) only [upA, upJ, upR, vu_n]); exact mWl v h0
  · intro v h0; (try simp (disch := omega) only [upA, upJ, upR, vu_n] at h0); (try simp (disch := omega) only [upA, upJ, upR, vu_n]); exact mWy v h0
  · intro v h0; (try simp (disch := omega) only [upA, upJ, upR, vu_n] at h0); (try simp (disch := omega) only [upA, upJ, upR, vu_n]); exact mFo v h0
  · intro v h0; (try simp (disch := omega) only [upA, upJ, upR, vu_n] at h0); (try simp (disch := omega) only [upA, upJ, upR, vu_n]); exact mSh v h0
  · intro v h0; (try simp (disch := omega) only [upA, upJ, upR, vu_n] at h0); (try simp (disch := omega) only [upA, upJ, upR, vu_n]); exact mWe v h0
  · intro v h0; (try simp (disch := omega) only [upA, upJ, upR, vu_n] at h0); (try simp (disch := omega) only [upA, upJ, upR, vu_n]); exact mSa v h0
  · intro v h0; (try simp (disch := omega) only [upA, upJ, upR, vu_n] at h0); (try simp (disch := omega) only [upA, upJ, upR, vu_n]); exact mKi v h0
  · intro v h0; (try simp (disch := omega) only [upA, upJ, upR, vu_n] at h0); (try simp (disch := omega) only [upA, upJ, upR, vu_n]); exact mAn v h0
  · intro v h0; (try simp (disch := omega) only [upA, upJ, upR, vu_n] at h0); (try simp (disch := omega) only [upA, upJ, upR, vu_n]); exact mRa v h0
  · intro v h0; (try simp (disch := omega) only [upA, upJ, upR, vu_n] at h0); (try simp (disch := omega) only [upA, upJ, upR, vu_n]); exact mRb v h0
  · intro v h0; (try simp (disch := omega) only [upA, upJ, upR, vu_n] at h0); (try simp (disch := omega) only [upA, upJ, upR, vu_n]); exact mRl v h0
  · intro v h0; (try simp (disch := omega) only [upA, upJ, upR, vu_n] at h0); (try simp (disch := omega) only [upA, upJ, upR, vu_n]); exact mSc v h0
  · intro v h0; (try simp (disch := omega) only [upA, upJ, upR, vu_n] at h0); (try simp (disch := omega) only [upA, upJ, upR, vu_n]); exact mSt v h0
  · intro v h0; (try simp (disch := omega) only [upA, upJ, upR, vu_n] at h0); (try simp (disch := omega) only [upA, upJ, upR, vu_n]); exact mLi v h0
  · intro u v h0 h1; (try simp (disch := omega) only [upA, upJ, upR, vu_n] at h0 h1); (try simp (disch := omega) only [upA, upJ, upR, vu_n]); exact mWo u v h0 h1
  · intro u v h0 h1; (try simp (disch := omega) only [upA, upJ, upR, vu_n] at h0 h1); (try simp (disch := omega) only [upA, upJ, upR, vu_n]); exact mFr u v h0 h1
  · intro u v h0 h1; (try simp (disch := omega) only [upA, upJ, upR, vu_n] at h0 h1); (try simp (disch := omega) only [upA, upJ, upR, vu_n]); exact mTo u v h0 h1
  · intro u v h0 h1; (try simp (disch := omega) only [upA, upJ, upR, vu_n] at h0 h1); (try simp (disch := omega) only [upA, upJ, upR, vu_n]); exact mOp u v h0 h1
  · intro u v h0 h1; (try simp (disch := omega) only [upA, upJ, upR, vu_n] at h0 h1); (try simp (disch := omega) only [upA, upJ, upR, vu_n]); exact mAr u v h0 h1
theorem rs_L {N : Nat → Nat → Nat} (h : RS I N)  : RS (am_up I 249 15 (nI q)) (am_up N 0 3 q) := by
  obtain ⟨mW, mH, mV, mL, mR, mWl, mWy, mFo, mSh, mWe, mSa, mKi, mAn, mRa, mRb, mRl, mSc, mSt, mLi, mWo, mFr, mTo, mOp, mAr⟩ := h
  refine ⟨?_, ?_, ?_, ?_, ?_, ?_, ?_, ?_, ?_, ?_, ?_, ?_, ?_, ?_, ?_, ?_, ?_, ?_, ?_, ?_, ?_, ?_, ?_, ?_⟩
  · (try simp (disch := omega) only [upA, upJ, upR, vu_n]); exact mW
  · (try simp (disch := omega) only [upA, upJ, upR, vu_n]); exact mH
  · (try simp (disch := omega) only [upA, upJ, upR, vu_n]); exact mV
  · simp only [upS, vu_s]
  · (try simp (disch := omega) only [upA, upJ, upR, vu_n]); exact mR
  · intro v h0; (try simp (disch := omega) only [upA, upJ, upR, vu_n] at h0); (try simp (disch := omega) only [upA, upJ, upR, vu_n]); exact mWl v h0
  · intro v h0; (try simp (disch := omega) only [upA, upJ, upR, vu_n] at h0); (try simp (disch := omega) only [upA, upJ, upR, vu_n]); exact mWy v h0
  · intro v h0; (try simp (disch := omega) only [upA, upJ, upR, vu_n] at h0); (try simp (disch := omega) only [upA, upJ, upR, vu_n]); exact mFo v h0
  · intro v h0; (try simp (disch := omega) only [upA, upJ, upR, vu_n] at h0); (try simp (disch := omega) only [upA, upJ, upR, vu_n]); exact mSh v h0
  · intro v h0; (try simp (disch := omega) only [upA, upJ, upR, vu_n] at h0); (try simp (disch := omega) only [upA, upJ, upR, vu_n]); exact mWe v h0
  · intro v h0; (try simp (disch := omega) only [upA, upJ, upR, vu_n] at h0); (try simp (disch := omega) only [upA, upJ, upR, vu_n]); exact mSa v h0
  · intro v h0; (try simp (disch := omega) only [upA, upJ, upR, vu_n] at h0); (try simp (disch := omega) only [upA, upJ, upR, vu_n]); exact mKi v h0
  · intro v h0; (try simp (disch := omega) only [upA, upJ, upR, vu_n] at h0); (try simp (disch := omega) only [upA, upJ, upR, vu_n]); exact mAn v h0
  · intro v h0; (try simp (disch := omega) only [upA, upJ, upR, vu_n] at h0); (try simp (disch := omega) only [upA, upJ, upR, vu_n]); exact mRa v h0
  · intro v h0; (try simp (disch := omega) only [upA, upJ, upR, vu_n] at h0); (try simp (disch := omega) only [upA, upJ, upR, vu_n]); exact mRb v h0
  · intro v h0; (try simp (disch := omega) only [upA, upJ, upR, vu_n] at h0); (try simp (disch := omega) only [upA, upJ, upR, vu_n]); exact mRl v h0
  · intro v h0; (try simp (disch := omega) only [upA, upJ, upR, vu_n] at h0); (try simp (disch := omega) only [upA, upJ, upR, vu_n]); exact mSc v h0
  · intro v h0; (try simp (disch := omega) only [upA, upJ, upR, vu_n] at h0); (try simp (disch := omega) only [upA, upJ, upR, vu_n]); exact mSt v h0
  · intro v h0; (try simp (disch := omega) only [upA, upJ, upR, vu_n] at h0); (try simp (disch := omega) only [upA, upJ, upR, vu_n]); exact mLi v h0
  · intro u v h0 h1; (try simp (disch := omega) only [upA, upJ, upR, vu_n] at h0 h1); (try simp (disch := omega) only [upA, upJ, upR, vu_n]); exact mWo u v h0 h1
  · intro u v h0 h1; (try simp (disch := omega) only [upA, upJ, upR, vu_n] at h0 h1); (try simp (disch := omega) only [upA, upJ, upR, vu_n]); exact mFr u v h0 h1
  · intro u v h0 h1; (try simp (disch := omega) only [upA, upJ, upR, vu_n] at h0 h1); (try simp (disch := omega) only [upA, upJ, upR, vu_n]); exact mTo u v h0 h1
  · intro u v h0 h1; (try simp (disch := omega) only [upA, upJ, upR, vu_n] at h0 h1); (try simp (disch := omega) only [upA, upJ, upR, vu_n]); exact mOp u v h0 h1
  · intro u v h0 h1; (try simp (disch := omega) only [upA, upJ, upR, vu_n] at h0 h1); (try simp (disch := omega) only [upA, upJ, upR, vu_n]); exact mAr u v h0 h1
theorem rs_R {N : Nat → Nat → Nat} (h : RS I N)  : RS (am_up I 249 16 (nI q)) (am_up N 0 5 q) := by
  obtain ⟨mW, mH, mV, mL, mR, mWl, mWy, mFo, mSh, mWe, mSa, mKi, mAn, mRa, mRb, mRl, mSc, mSt, mLi, mWo, mFr, mTo, mOp, mAr⟩ := h
  refine ⟨?_, ?_, ?_, ?_, ?_, ?_, ?_, ?_, ?_, ?_, ?_, ?_, ?_, ?_, ?_, ?_, ?_, ?_, ?_, ?_, ?_, ?_, ?_, ?_⟩
  · (try simp (disch := omega) only [upA, upJ, upR, vu_n]); exact mW
  · (try simp (disch := omega) only [upA, upJ, upR, vu_n]); exact mH
  · (try simp (disch := omega) only [upA, upJ, upR, vu_n]); exact mV
  · (try simp (disch := omega) only [upA, upJ, upR, vu_n]); exact mL
  · simp only [upS, vu_s]
  · intro v h0; (try simp (disch := omega) only [upA, upJ, upR, vu_n] at h0); (try simp (disch := omega) only [upA, upJ, upR, vu_n]); exact mWl v h0
  · intro v h0; (try simp (disch := omega) only [upA, upJ, upR, vu_n] at h0); (try simp (disch := omega) only [upA, upJ, upR, vu_n]); exact mWy v h0
  · intro v h0; (try simp (disch := omega) only [upA, upJ, upR, vu_n] at h0); (try simp (disch := omega) only [upA, upJ, upR, vu_n]); exact mFo v h0
  · intro v h0; (try simp (disch := omega) only [upA, upJ, upR, vu_n] at h0); (try simp (disch := omega) only [upA, upJ, upR, vu_n]); exact mSh v h0
  · intro v h0; (try simp (disch := omega) only [upA, upJ, upR, vu_n] at h0); (try simp (disch := omega) only [upA, upJ, upR, vu_n]); exact mWe v h0
  · intro v h0; (try simp (disch := omega) only [upA, upJ, upR, vu_n] at h0); (try simp (disch := omega) only [upA, upJ, upR, vu_n]); exact mSa v h0
  · intro v h0; (try simp (disch := omega) only [upA, upJ, upR, vu_n] at h0); (try simp (disch := omega) only [upA, upJ, upR, vu_n]); exact mKi v h0
  · intro v h0; (try simp (disch := omega) only [upA, upJ, upR, vu_n] at h0); (try simp (disch := omega) only [upA, upJ, upR, vu_n]); exact mAn v h0
  · intro v h0; (try simp (disch := omega) only [upA, upJ, upR, vu_n] at h0); (try simp (disch := omega) only [upA, upJ, upR, vu_n]); exact mRa v h0
  · intro v h0; (try simp (disch := omega) only [upA, upJ, upR, vu_n] at h0); (try simp (disch := omega) only [upA, upJ, upR, vu_n]); exact mRb v h0
  · intro v h0; (try simp (disch := omega) only [upA, upJ, upR, vu_n] at h0); (try simp (disch := omega) only [upA, upJ, upR, vu_n]); exact mRl v h0
  · intro v h0; (try simp (disch := omega) only [upA, upJ, upR, vu_n] at h0); (try simp (disch := omega) only [upA, upJ, upR, vu_n]); exact mSc v h0
  · intro v h0; (try simp (disch := omega) only [upA, upJ, upR, vu_n] at h0); (try simp (disch := omega) only [upA, upJ, upR, vu_n]); exact mSt v h0
  · intro v h0; (try simp (disch := omega) only [upA, upJ, upR, vu_n] at h0); (try simp (disch := omega) only [upA, upJ, upR, vu_n]); exact mLi v h0
  · intro u v h0 h1; (try simp (disch := omega) only [upA, upJ, upR, vu_n] at h0 h1); (try simp (disch := omega) only [upA, upJ, upR, vu_n]); exact mWo u v h0 h1
  · intro u v h0 h1; (try simp (disch := omega) only [upA, upJ, upR, vu_n] at h0 h1); (try simp (disch := omega) only [upA, upJ, upR, vu_n]); exact mFr u v h0 h1
  · intro u v h0 h1; (try simp (disch := omega) only [upA, upJ, upR, vu_n] at h0 h1); (try simp (disch := omega) only [upA, upJ, upR, vu_n]); exact mTo u v h0 h1
  · intro u v h0 h1; (try simp (disch := omega) only [upA, upJ, upR, vu_n] at h0 h1); (try simp (disch := omega) only [upA, upJ, upR, vu_n]); exact mOp u v h0 h1
  · intro u v h0 h1; (try simp (disch := omega) only [upA, upJ, upR, vu_n] at h0 h1); (try simp (disch := omega) only [upA, upJ, upR, vu_n]); exact mAr u v h0 h1
theorem rs_Wl {N : Nat → Nat → Nat} (h : RS I N) (hi : i < 144) : RS (am_up I 252 i (nI q)) (am_up N 8 i q) := by
  obtain ⟨mW, mH, mV, mL, mR, mWl, mWy, mFo, mSh, mWe, mSa, mKi, mAn, mRa, mRb, mRl, mSc, mSt, mLi, mWo, mFr, mTo, mOp, mAr⟩ := h
  refine ⟨?_, ?_, ?_, ?_, ?_, ?_, ?_, ?_, ?_, ?_, ?_, ?_, ?_, ?_, ?_, ?_, ?_, ?_, ?_, ?_, ?_, ?_, ?_, ?_⟩
  · (try simp (disch := omega) only [upA, upJ, upR, vu_n]); exact mW
  · (try simp (disch := omega) only [upA, upJ, upR, vu_n]); exact mH
  · (try simp (disch := omega) only [upA, upJ, upR, vu_n]); exact mV
  · (try simp (disch := omega) only [upA, upJ, upR, vu_n]); exact mL
  · (try simp (disch := omega) only [upA, upJ, upR, vu_n]); exact mR
  · intro v h0; by_cases e : v = i
    · subst e; simp only [upS, vu_s]
    · (try simp (disch := omega) only [upA, upJ, upR, vu_n] at h0); (try simp (disch := omega) only [upA, upJ, upR, vu_n]); exact mWl v h0
  · intro v h0; (try simp (disch := omega) only [upA, upJ, upR, vu_n] at h0); (try simp (disch := omega) only [upA, upJ, upR, vu_n]); exact mWy v h0
  · intro v h0; (try simp (disch := omega) only [upA, upJ, upR, vu_n] at h0); (try simp (disch := omega) only [upA, upJ, upR, vu_n]); exact mFo v h0
  · intro v h0; (try simp (disch := omega) only [upA, upJ, upR, vu_n] at h0); (try simp (disch := omega) only [upA, upJ, upR, vu_n]); exact mSh v h0
  · intro v h0; (try simp (disch := omega) only [upA, upJ, upR, vu_n] at h0); (try simp (disch := omega) only [upA, upJ, upR, vu_n]); exact mWe v h0
  · intro v h0; (try simp (disch := omega) only [upA, upJ, upR, vu_n] at h0); (try simp (disch := omega) only [upA, upJ, upR, vu_n]); exact mSa v h0
  · intro v h0; (try simp (disch := omega) only [upA, upJ, upR, vu_n] at h0); (try simp (disch := omega) only [upA, upJ, upR, vu_n]); exact mKi v h0
  · intro v h0; (try simp (disch := omega) only [upA, upJ, upR, vu_n] at h0); (try simp (disch := omega) only [upA, upJ, upR, vu_n]); exact mAn v h0
  · intro v h0; (try simp (disch := omega) only [upA, upJ, upR, vu_n] at h0); (try simp (disch := omega) only [upA, upJ, upR, vu_n]); exact mRa v h0
  · intro v h0; (try simp (disch := omega) only [upA, upJ, upR, vu_n] at h0); (try simp (disch := omega) only [upA, upJ, upR, vu_n]); exact mRb v h0
  · intro v h0; (try simp (disch := omega) only [upA, upJ, upR, vu_n] at h0); (try simp (disch := omega) only [upA, upJ, upR, vu_n]); exact mRl v h0
  · intro v h0; (try simp (disch := omega) only [upA, upJ, upR, vu_n] at h0); (try simp (disch := omega) only [upA, upJ, upR, vu_n]); exact mSc v h0
  · intro v h0; (try simp (disch := omega) only [upA, upJ, upR, vu_n] at h0); (try simp (disch := omega) only [upA, upJ, upR, vu_n]); exact mSt v h0
  · intro v h0; (try simp (disch := omega) only [upA, upJ, upR, vu_n] at h0); (try simp (disch := omega) only [upA, upJ, upR, vu_n]); exact mLi v h0
  · intro u v h0 h1; (try simp (disch := omega) only [upA, upJ, upR, vu_n] at h0 h1); (try simp (disch := omega) only [upA, upJ, upR, vu_n]); exact mWo u v h0 h1
  · intro u v h0 h1; (try simp (disch := omega) only [upA, upJ, upR, vu_n] at h0 h1); (try simp (disch := omega) only [upA, upJ, upR, vu_n]); exact mFr u v h0 h1
  · intro u v h0 h1; (try simp (disch := omega) only [upA, upJ, upR, vu_n] at h0 h1); (try simp (disch := omega) only [upA, upJ, upR, vu_n]); exact mTo u v h0 h1
  · intro u v h0 h1; (try simp (disch := omega) only [upA, upJ, upR, vu_n] at h0 h1); (try simp (disch := omega) only [upA, upJ, upR, vu_n]); exact mOp u v h0 h1
  · intro u v h0 h1; (try simp (disch := omega) only [upA, upJ, upR, vu_n] at h0 h1); (try simp (disch := omega) only [upA, upJ, upR, vu_n]); exact mAr u v h0 h1
theorem rs_Wy {N : Nat → Nat → Nat} (h : RS I N) (hi : i < 24) : RS (am_up I 253 i (nI q)) (am_up N 9 i q) := by
  obtain ⟨mW, mH, mV, mL, mR, mWl, mWy, mFo, mSh, mWe, mSa, mKi, mAn, mRa, mRb, mRl, mSc, mSt, mLi, mWo, mFr, mTo, mOp, mAr⟩ := h
  refine ⟨?_, ?_, ?_, ?_, ?_, ?_, ?_, ?_, ?_, ?_, ?_, ?_, ?_, ?_, ?_, ?_, ?_, ?_, ?_, ?_, ?_, ?_, ?_, ?_⟩
  · (try simp (disch := omega) only [upA, upJ, upR, vu_n]); exact mW
  · (try simp (disch := omega) only [upA, upJ, upR, vu_n]); exact mH
  · (try simp (disch := omega) only [upA, upJ, upR, vu_n]); exact mV
  · (try simp (disch := omega) only [upA, upJ, upR, vu_n]); exact mL
  · (try simp (disch := omega) only [upA, upJ, upR, vu_n]); exact mR
  · intro v h0; (try simp (disch := omega) only [upA, upJ, upR, vu_n] at h0); (try simp (disch := omega) only [upA, upJ, upR, vu_n]); exact mWl v h0
  · intro v h0; by_cases e : v = i
    · subst e; simp only [upS, vu_s]
    · (try simp (disch := omega) only [upA, upJ, upR, vu_n] at h0); (try simp (disch := omega) only [upA, upJ, upR, vu_n]); exact mWy v h0
  · intro v h0; (try simp (disch := omega) only [upA, upJ, upR, vu_n] at h0); (try simp (disch := omega) only [upA, upJ, upR, vu_n]); exact mFo v h0
  · intro v h0; (try simp (disch := omega) only [upA, upJ, upR, vu_n] at h0); (try simp (disch := omega) only [upA, upJ, upR, vu_n]); exact mSh v h0
  · intro v h0; (try simp (disch := omega) only [upA, upJ, upR, vu_n] at h0); (try simp (disch := omega) only [upA, upJ, upR, vu_n]); exact mWe v h0
  · intro v h0; (try simp (disch := omega) only [upA, upJ, upR, vu_n] at h0); (try simp (disch := omega) only [upA, upJ, upR, vu_n]); exact mSa v h0
  · intro v h0; (try simp (disch := omega) only [upA, upJ, upR, vu_n] at h0); (try simp (disch := omega) only [upA, upJ, upR, vu_n]); exact mKi v h0
  · intro v h0; (try simp (disch := omega) only [upA, upJ, upR, vu_n] at h0); (try simp (disch := omega) only [upA, upJ, upR, vu_n]); exact mAn v h0
  · intro v h0; (try simp (disch := omega) only [upA, upJ, upR, vu_n] at h0); (try simp (disch := omega) only [upA, upJ, upR, vu_n]); exact mRa v h0
  · intro v h0; (try simp (disch := omega) only [upA, upJ, upR, vu_n] at h0); (try simp (disch := omega) only [upA, upJ, upR, vu_n]); exact mRb v h0
  · intro v h0; (try simp (disch := omega) only [upA, upJ, upR, vu_n] at h0); (try simp (disch := omega) only [upA, upJ, upR, vu_n]); exact mRl v h0
  · intro v h0; (try simp (disch := omega) only [upA, upJ, upR, vu_n] at h0); (try simp (disch := omega) only [upA, upJ, upR, vu_n]); exact mSc v h0
  · intro v h0; (try simp (disch := omega) only [upA, upJ, upR, vu_n] at h0); (try simp (disch := omega) only [upA, upJ, upR, vu_n]); exact mSt v h0
  · intro v h0; (try simp (disch := omega) only [upA, upJ, upR, vu_n] at h0); (try simp (disch := omega) only [upA, upJ, upR, vu_n]); exact mLi v h0
  · intro u v h0 h1; (try simp (disch := omega) only [upA, upJ, upR, vu_n] at h0 h1); (try simp (disch := omega) only [upA, upJ, upR, vu_n]); exact mWo u v h0 h1
  · intro u v h0 h1; (try simp (disch := omega) only [upA, upJ, upR, vu_n] at h0 h1); (try simp (disch := omega) only [upA, upJ, upR, vu_n]); exact mFr u v h0 h1
  · intro u v h0 h1; (try simp (disch := omega) only [upA, upJ, upR, vu_n] at h0 h1); (try simp (disch := omega) only [upA, upJ, upR, vu_n]); exact mTo u v h0 h1
  · intro u v h0 h1; (try simp (disch := omega) only [upA, upJ, upR, vu_n] at h0 h1); (try simp (disch := omega) only [upA, upJ, upR, vu_n]); exact mOp u v h0 h1
  · intro u v h0 h1; (try simp (disch := omega) only [upA, upJ, upR, vu_n] at h0 h1); (try simp (disch := omega) only [upA, upJ, upR, vu_n]); exact mAr u v h0 h1
theorem rs_Fo {N : Nat → Nat → Nat} (h : RS I N) (hi : i < 24) : RS (am_up I 254 i (nI q - 1)) (am_up N 10 i q) := by
  obtain ⟨mW, mH, mV, mL, mR, mWl, mWy, mFo, mSh, mWe, mSa, mKi, mAn, mRa, mRb, mRl, mSc, mSt, mLi, mWo, mFr, mTo, mOp, mAr⟩ := h
  refine ⟨?_, ?_, ?_, ?_, ?_, ?_, ?_, ?_, ?_, ?_, ?_, ?_, ?_, ?_, ?_, ?_, ?_, ?_, ?_, ?_, ?_, ?_, ?_, ?_⟩
  · (try simp (disch := omega) only [upA, upJ, upR, vu_n]); exact mW
  · (try simp (disch := omega) only [upA, upJ, upR, vu_n]); exact mH
  · (try simp (disch := omega) only [upA, upJ, upR, vu_n]); exact mV
  · (try simp (disch := omega) only [upA, upJ, upR, vu_n]); exact mL
  · (try simp (disch := omega) only [upA, upJ, upR, vu_n]); exact mR
  · intro v h0; (try simp (disch := omega) only [upA, upJ, upR, vu_n] at h0); (try simp (disch := omega) only [upA, upJ, upR, vu_n]); exact mWl v h0
  · intro v h0; (try simp (disch := omega) only [upA, upJ, upR, vu_n] at h0); (try simp (disch := omega) only [upA, upJ, upR, vu_n]); exact mWy v h0
  · intro v h0; by_cases e : v = i
    · subst e; simp only [upS, vu_s]
    · (try simp (disch := omega) only [upA, upJ, upR, vu_n] at h0); (try simp (disch := omega) only [upA, upJ, upR, vu_n]); exact mFo v h0
  · intro v h0; (try simp (disch := omega) only [upA, upJ, upR, vu_n] at h0); (try simp (disch := omega) only [upA, upJ, upR, vu_n]); exact mSh v h0
  · intro v h0; (try simp (disch := omega) only [upA, upJ, upR, vu_n] at h0); (try simp (disch := omega) only [upA, upJ, upR, vu_n]); exact mWe v h0
  · intro v h0; (try simp (disch := omega) only [upA, upJ, upR, vu_n] at h0); (try simp (disch := omega) only [upA, upJ, upR, vu_n]); exact mSa v h0
  · intro v h0; (try simp (disch := omega) only [upA, upJ, upR, vu_n] at h0); (try simp (disch := omega) only [upA, upJ, upR, vu_n]); exact mKi v h0
  · intro v h0; (try simp (disch := omega) only [upA, upJ, upR, vu_n] at h0); (try simp (disch := omega) only [upA, upJ, upR, vu_n]); exact mAn v h0
  · intro v h0; (try simp (disch := omega) only [upA, upJ, upR, vu_n] at h0); (try simp (disch := omega) only [upA, upJ, upR, vu_n]); exact mRa v h0
  · intro v h0; (try simp (disch := omega) only [upA, upJ, upR, vu_n] at h0); (try simp (disch := omega) only [upA, upJ, upR, vu_n]); exact mRb v h0
  · intro v h0; (try simp (disch := omega) only [upA, upJ, upR, vu_n] at h0); (try simp (disch := omega) only [upA, upJ, upR, vu_n]); exact mRl v h0
  · intro v h0; (try simp (disch := omega) only [upA, upJ, upR, vu_n] at h0); (try simp (disch := omega) only [upA, upJ, upR, vu_n]); exact mSc v h0
  · intro v h0; (try simp (disch := omega) only [upA, upJ, upR, vu_n] at h0); (try simp (disch := omega) only [upA, upJ, upR, vu_n]); exact mSt v h0
  · intro v h0; (try simp (disch := omega) only [upA, upJ, upR, vu_n] at h0); (try simp (disch := omega) only [upA, upJ, upR, vu_n]); exact mLi v h0
  · intro u v h0 h1; (try simp (disch := omega) only [upA, upJ, upR, vu_n] at h0 h1); (try simp (disch := omega) only [upA, upJ, upR, vu_n]); exact mWo u v h0 h1
  · intro u v h0 h1; (try simp (disch := omega) only [upA, upJ, upR, vu_n] at h0 h1); (try simp (disch := omega) only [upA, upJ, upR, vu_n]); exact mFr u v h0 h1
  · intro u v h0 h1; (try simp (disch := omega) only [upA, upJ, upR, vu_n] at h0 h1); (try simp (disch := omega) only [upA, upJ, upR, vu_n]); exact mTo u v h0 h1
  · intro u v h0 h1; (try simp (disch := omega) only [upA, upJ, upR, vu_n] at h0 h1); (try simp (disch := omega) only [upA, upJ, upR, vu_n]); exact mOp u v h0 h1
  · intro u v h0 h1; (try simp (disch := omega) only [upA, upJ, upR, vu_n] at h0 h1); (try simp (disch := omega) only [upA, upJ, upR, vu_n]); exact mAr u v h0 h1
theorem rs_Sh {N : Nat → Nat → Nat} (h : RS I N) (hi : i < 24) : RS (am_up I 255 i (nI q)) (am_up N 11 i q) := by
  obtain ⟨mW, mH, mV, mL, mR, mWl, mWy, mFo, mSh, mWe, mSa, mKi, mAn, mRa, mRb, mRl, mSc, mSt, mLi, mWo, mFr, mTo, mOp, mAr⟩ := h
  refine ⟨?_, ?_, ?_, ?_, ?_, ?_, ?_, ?_, ?_, ?_, ?_, ?_, ?_, ?_, ?_, ?_, ?_, ?_, ?_, ?_, ?_, ?_, ?_, ?_⟩
  · (try simp (disch := omega) only [upA, upJ, upR, vu_n]); exact mW
  · (try simp (disch := omega) only [upA, upJ, upR, vu_n]); exact mH
  · (try simp (disch := omega) only [upA, upJ, upR, vu_n]); exact mV
  · (try simp (disch := omega) only [upA, upJ, upR, vu_n]); exact mL
  · (try simp (disch := omega) only [upA, upJ, upR, vu_n]); exact mR
  · intro v h0; (try simp (disch := omega) only [upA, upJ, upR, vu_n] at h0); (try simp (disch := omega) only [upA, upJ, upR, vu_n]); exact mWl v h0
  · intro v h0; (try simp (disch := omega) only [upA, upJ, upR, vu_n] at h0); (try simp (disch := omega) only [upA, upJ, upR, vu_n]); exact mWy v h0
  · intro v h0; (try simp (disch := omega) only [upA, upJ, upR, vu_n] at h0); (try simp (disch := omega) only [upA, upJ, upR, vu_n]); exact mFo v h0
  · intro v h0; by_cases e : v = i
    · subst e; simp only [upS, vu_s]
    · (try simp (disch := omega) only [upA, upJ, upR, vu_n] at h0); (try simp (disch := omega) only [upA, upJ, upR, vu_n]); exact mSh v h0
  · intro v h0; (try simp (disch := omega) only [upA, upJ, upR, vu_n] at h0); (try simp (disch := omega) only [upA, upJ, upR, vu_n]); exact mWe v h0
  · intro v h0; (try simp (disch := omega) only [upA, upJ, upR, vu_n] at h0); (try simp (disch := omega) only [upA, upJ, upR, vu_n]); exact mSa v h0
  · intro v h0; (try simp (disch := omega) only [upA, upJ, upR, vu_n] at h0); (try simp (disch := omega) only [upA, upJ, upR, vu_n]); exact mKi v h0
  · intro v h0; (try simp (disch := omega) only [upA, upJ, upR, vu_n] at h0); (try simp (disch := omega) only [upA, upJ, upR, vu_n]); exact mAn v h0
  · intro v h0; (try simp (disch := omega) only [upA, upJ, upR, vu_n] at h0); (try simp (disch := omega) only [upA, upJ, upR, vu_n]); exact mRa v h0
  · intro v h0; (try simp (disch := omega) only [upA, upJ, upR, vu_n] at h0); (try simp (disch := omega) only [upA, upJ, upR, vu_n]); exact mRb v h0
  · intro v h0; (try simp (disch := omega) only [upA, upJ, upR, vu_n] at h0); (try simp (disch := omega) only [upA, upJ, upR, vu_n]); exact mRl v h0
  · intro v h0; (try simp (disch := omega) only [upA, upJ, upR, vu_n] at h0); (try simp (disch := omega) only [upA, upJ, upR, vu_n]); exact mSc v h0
  · intro v h0; (try simp (disch := omega) only [upA, upJ, upR, vu_n] at h0); (try simp (disch := omega) only [upA, upJ, upR, vu_n]); exact mSt v h0
  · intro v h0; (try simp (disch := omega) only [upA, upJ, upR, vu_n] at h0); (try simp (disch := omega) only [upA, upJ, upR, vu_n]); exact mLi v h0
  · intro u v h0 h1; (try simp (disch := omega) only [upA, upJ, upR, vu_n] at h0 h1); (try simp (disch := omega) only [upA, upJ, upR, vu_n]); exact mWo u v h0 h1
  · intro u v h0 h1; (try simp (disch := omega) only [upA, upJ, upR, vu_n] at h0 h1); (try simp (disch := omega) only [upA, upJ, upR, vu_n]); exact mFr u v h0 h1
  · intro u v h0 h1; (try simp (disch := omega) only [upA, upJ, upR, vu_n] at h0 h1); (try simp (disch := omega) only [upA, upJ, upR, vu_n]); exact mTo u v h0 h1
  · intro u v h0 h1; (try simp (disch := omega) only [upA, upJ, upR, vu_n] at h0 h1); (try simp (disch := omega) only [upA, upJ, upR, vu_n]); exact mOp u v h0 h1
  · intro u v h0 h1; (try simp (disch := omega) only [upA, upJ, upR, vu_n] at h0 h1); (try simp (disch := omega) only [upA, upJ, upR, vu_n]); exact mAr u v h0 h1
theorem rs_We {N : Nat → Nat → Nat} (h : RS I N) (hi : i < 10) : RS (am_up I 256 i (nI q)) (am_up N 3 i q) := by
  obtain ⟨mW, mH, mV, mL, mR, mWl, mWy, mFo, mSh, mWe, mSa, mKi, mAn, mRa, mRb, mRl, mSc, mSt, mLi, mWo, mFr, mTo, mOp, mAr⟩ := h
  refine ⟨?_, ?_, ?_, ?_, ?_, ?_, ?_, ?_, ?_, ?_, ?_, ?_, ?_, ?_, ?_, ?_, ?_, ?_, ?_, ?_, ?_, ?_, ?_, ?_⟩
  · (try simp (disch := omega) only [upA, upJ, upR, vu_n]); exact mW
  · (try simp (disch := omega) only [upA, upJ, upR, vu_n]); exact mH
  · (try simp (disch := omega) only [upA, upJ, upR, vu_n]); exact mV
  · (try simp (disch := omega) only [upA, upJ, upR, vu_n]); exact mL
  · (try simp (disch := omega) only [upA, upJ, upR, vu_n]); exact mR
  · intro v h0; (try simp (disch := omega) only [upA, upJ, upR, vu_n] at h0); (try simp (disch := omega) only [upA, upJ, upR, vu_n]); exact mWl v h0
  · intro v h0; (try simp (disch := omega) only [upA, upJ, upR, vu_n] at h0); (try simp (disch := omega) only [upA, upJ, upR, vu_n]); exact mWy v h0
  · intro v h0; (try simp (disch := omega) only [upA, upJ, upR, vu_n] at h0); (try simp (disch := omega) only [upA, upJ, upR, vu_n]); exact mFo v h0
  · intro v h0; (try simp (disch := omega) only [upA, upJ, upR, vu_n] at h0); (try simp (disch := omega) only [upA, upJ, upR, vu_n]); exact mSh v h0
  · intro v h0; by_cases e : v = i
    · subst e; simp only [upS, vu_s]
    · (try simp (disch := omega) only [upA, upJ, upR, vu_n] at h0); (try simp (disch := omega) only [upA, upJ, upR, vu_n]); exact mWe v h0
  · intro v h0; (try simp (disch := omega) only [upA, upJ, upR, vu_n] at h0); (try simp (disch := omega) only [upA, upJ, upR, vu_n]); exact mSa v h0
  · intro v h0; (try simp (disch := omega) only [upA, upJ, upR, vu_n] at h0); (try simp (disch := omega) only [upA, upJ, upR, vu_n]); exact mKi v h0
  · intro v h0; (try simp (disch := omega) only [upA, upJ, upR, vu_n] at h0); (try simp (disch := omega) only [upA, upJ, upR, vu_n]); exact mAn v h0
  · intro v h0; (try simp (disch := omega) only [upA, upJ, upR, vu_n] at h0); (try simp (disch := omega) only [upA, upJ, upR, vu_n]); exact mRa v h0
  · intro v h0; (try simp (disch := omega) only [upA, upJ, upR, vu_n] at h0); (try simp (disch := omega) only [upA, upJ, upR, vu_n]); exact mRb v h0
  · intro v h0; (try simp (disch := omega) only [upA, upJ, upR, vu_n] at h0); (try simp (disch := omega) only [upA, upJ, upR, vu_n]); exact mRl v h0
  · intro v h0; (try simp (disch := omega) only [upA, upJ, upR, vu_n] at h0); (try simp (disch := omega) only [upA, upJ, upR, vu_n]); exact mSc v h0
  · intro v h0; (try simp (disch := omega) only [upA, upJ, upR, vu_n] at h0); (try simp (disch := omega) only [upA, upJ, upR, vu_n]); exact mSt v h0
  · intro v h0; (try simp (disch := omega) only [upA, upJ, upR, vu_n] at h0); (try simp (disch := omega) only [upA, upJ, upR, vu_n]); exact mLi v h0
  · intro u v h0 h1; (try simp (disch := omega) only [upA, upJ, upR, vu_n] at h0 h1); (try simp (disch := omega) only [upA, upJ, upR, vu_n]); exact mWo u v h0 h1
  · intro u v h0 h1; (try simp (disch := omega) only [upA, upJ, upR, vu_n] at h0 h1); (try simp (disch := omega) only [upA, upJ, upR, vu_n]); exact mFr u v h0 h1
  · intro u v h0 h1; (try simp (disch := omega) only [upA, upJ, upR, vu_n] at h0 h1); (try simp (disch := omega) only [upA, upJ, upR, vu_n]); exact mTo u v h0 h1
  · intro u v h0 h1; (try simp (disch := omega) only [upA, upJ, upR, vu_n] at h0 h1); (try simp (disch := omega) only [upA, upJ, upR, vu_n]); exact mOp u v h0 h1
  · intro u v h0 h1; (try simp (disch := omega) only [upA, upJ, upR, vu_n] at h0 h1); (try simp (disch := omega) only [upA, upJ, upR, vu_n]); exact mAr u v h0 h1
theorem rs_Sa {N : Nat → Nat → Nat} (h : RS I N) (hi : i < 10) : RS (am_up I 257 i (nI q)) (am_up N 4 i q) := by
  obtain ⟨mW, mH, mV, mL, mR, mWl, mWy, mFo, mSh, mWe, mSa, mKi, mAn, mRa, mRb, mRl, mSc, mSt, mLi, mWo, mFr, mTo, mOp, mAr⟩ := h
  refine ⟨?_, ?_, ?_, ?_, ?_, ?_, ?_, ?_, ?_, ?_, ?_, ?_, ?_, ?_, ?_, ?_, ?_, ?_, ?_, ?_, ?_, ?_, ?_, ?_⟩
  · (try simp (disch := omega) only [upA, upJ, upR, vu_n]); exact mW
  · (try simp (disch := omega) only [upA, upJ, upR, vu_n]); exact mH
  · (try simp (disch := omega) only [upA, upJ, upR, vu_n]); exact mV
  · (try simp (disch := omega) only [upA, upJ, upR, vu_n]); exact mL
  · (try simp (disch := omega) only [upA, upJ, upR, vu_n]); exact mR
  · intro v h0; (try simp (disch := omega) only [upA, upJ, upR, vu_n] at h0); (try simp (disch := omega) only [upA, upJ, upR, vu_n]); exact mWl v h0
  · intro v h0; (try simp (disch := omega) only [upA, upJ, upR, vu_n] at h0); (try simp (disch := omega) only [upA, upJ, upR, vu_n]); exact mWy v h0
  · intro v h0; (try simp (disch := omega) only [upA, upJ, upR, vu_n] at h0); (try simp (disch := omega) only [upA, upJ, upR, vu_n]); exact mFo v h0
  · intro v h0; (try simp (disch := omega) only [upA, upJ, upR, vu_n] at h0); (try simp (disch := omega) only [upA, upJ, upR, vu_n]); exact mSh v h0
  · intro v h0; (try simp (disch := omega) only [upA, upJ, upR, vu_n] at h0); (try simp (disch := omega) only [upA, upJ, upR, vu_n]); exact mWe v h0
  · intro v h0; by_cases e : v = i
    · subst e; simp only [upS, vu_s]
    · (try simp (disch := omega) only [upA, upJ, upR, vu_n] at h0); (try simp (disch := omega) only [upA, upJ, upR, vu_n]); exact mSa v h0
  · intro v h0; (try simp (disch := omega) only [upA, upJ, upR, vu_n] at h0); (try simp (disch := omega) only [upA, upJ, upR, vu_n]); exact mKi v h0
  · intro v h0; (try simp (disch := omega) only [upA, upJ, upR, vu_n] at h0); (try simp (disch := omega) only [upA, upJ, upR, vu_n]); exact mAn v h0
  · intro v h0; (try simp (disch := omega) only [upA, upJ, upR, vu_n] at h0); (try simp (disch := omega) only [upA, upJ, upR, vu_n]); exact mRa v h0
  · intro v h0; (try simp (disch := omega) only [upA, upJ, upR, vu_n] at h0); (try simp (disch := omega) only [upA, upJ, upR, vu_n]); exact mRb v h0
  · intro v h0; (try simp (disch := omega) only [upA, upJ, upR, vu_n] at h0); (try simp (disch := omega) only [upA, upJ, upR, vu_n]); exact mRl v h0
  · intro v h0; (try simp (disch := omega) only [upA, upJ, upR, vu_n] at h0); (try simp (disch := omega) only [upA, upJ, upR, vu_n]); exact mSc v h0
  · intro v h0; (try simp (disch := omega) only [upA, upJ, upR, vu_n] at h0); (try simp (disch := omega) only [upA, upJ, upR, vu_n]); exact mSt v h0
  · intro v h0; (try simp (disch := omega) only [upA, upJ, upR, vu_n] at h0); (try simp (disch := omega) only [upA, upJ, upR, vu_n]); exact mLi v h0
  · intro u v h0 h1; (try simp (disch := omega) only [upA, upJ, upR, vu_n] at h0 h1); (try simp (disch := omega) only [upA, upJ, upR, vu_n]); exact mWo u v h0 h1
  · intro u v h0 h1; (try simp (disch := omega) only [upA, upJ, upR, vu_n] at h0 h1); (try simp (disch := omega) only [upA, upJ, upR, vu_n]); exact mFr u v h0 h1
  · intro u v h0 h1; (try simp (disch := omega) only [upA, upJ, upR, vu_n] at h0 h1); (try simp (disch := omega) only [upA, upJ, upR, vu_n]); exact mTo u v h0 h1
  · intro u v h0 h1; (try simp (disch := omega) only [upA, upJ, upR, vu_n] at h0 h1); (try simp (disch := omega) only [upA, upJ, upR, vu_n]); exact mOp u v h0 h1
  · intro u v h0 h1; (try simp (disch := omega) only [upA, upJ, upR, vu_n] at h0 h1); (try simp (disch := omega) only [upA, upJ, upR, vu_n]); exact mAr u v h0 h1
theorem rs_Ki {N : Nat → Nat → Nat} (h : RS I N) (hi : i < 10) : RS (am_up I 258 i (nI q)) (am_up N 5 i q) := by
  obtain ⟨mW, mH, mV, mL, mR, mWl, mWy, mFo, mSh, mWe, mSa, mKi, mAn, mRa, mRb, mRl, mSc, mSt, mLi, mWo, mFr, mTo, mOp, mAr⟩ := h
  refine ⟨?_, ?_, ?_, ?_, ?_, ?_, ?_, ?_, ?_, ?_, ?_, ?_, ?_, ?_, ?_, ?_, ?_, ?_, ?_, ?_, ?_, ?_, ?_, ?_⟩
  · (try simp (disch := omega) only [upA, upJ, upR, vu_n]); exact mW
  · (try simp (disch := omega) only [upA, upJ, upR, vu_n]); exact mH
  · (try simp (disch := omega) only [upA, upJ, upR, vu_n]); exact mV
  · (try simp (disch := omega) only [upA, upJ, upR, vu_n]); exact mL
  · (try simp (disch := omega) only [upA, upJ, upR, vu_n]); exact mR
  · intro v h0; (try simp (disch := omega) only [upA, upJ, upR, vu_n] at h0); (try simp (disch := omega) only [upA, upJ, upR, vu_n]); exact mWl v h0
  · intro v h0; (try simp (disch := omega) only [upA, upJ, upR, vu_n] at h0); (try simp (disch := omega) only [upA, upJ, upR, vu_n]); exact mWy v h0
  · intro v h0; (try simp (disch := omega) only [upA, upJ, upR, vu_n] at h0); (try simp (disch := omega) only [upA, upJ, upR, vu_n]); exact mFo v h0
  · intro v h0; (try simp (disch := omega) only [upA, upJ, upR, vu_n] at h0); (try simp (disch := omega) only [upA, upJ, upR, vu_n]); exact mSh v h0
  · intro v h0; (try simp (disch := omega) only [upA, upJ, upR, vu_n] at h0); (try simp (disch := omega) only [upA, upJ, upR, vu_n]); exact mWe v h0
  · intro v h0; (try simp (disch := omega) only [upA, upJ, upR, vu_n] at h0); (try simp (disch := omega) only [upA, upJ, upR, vu_n]); exact mSa v h0
  · intro v h0; by_cases e : v = i
    · subst e; simp only [upS, vu_s]
    · (try simp (disch := omega) only [upA, upJ, upR, vu_n] at h0); (try simp (disch := omega) only [upA, upJ, upR, vu_n]); exact mKi v h0
  · intro v h0; (try simp (disch := omega) only [upA, upJ, upR, vu_n] at h0); (try simp (disch := omega) only [upA, upJ, upR, vu_n]); exact mAn v h0
  · intro v h0; (try simp (disch := omega) only [upA, upJ, upR, vu_n] at h0); (try simp (disch := omega) only [upA, upJ, upR, vu_n]); exact mRa v h0
  · intro v h0; (try simp (disch := omega) only [upA, upJ, upR, vu_n] at h0); (try simp (disch := omega) only [upA, upJ, upR, vu_n]); exact mRb v h0
  · intro v h0; (try simp (disch := omega) only [upA, upJ, upR, vu_n] at h0); (try simp (disch := omega) only [upA, upJ, upR, vu_n]); exact mRl v h0
  · intro v h0; (try simp (disch := omega) only [upA, upJ, upR, vu_n] at h0); (try simp (disch := omega) only [upA, upJ, upR, vu_n]); exact mSc v h0
  · intro v h0; (try simp (disch := omega) only [upA, upJ, upR, vu_n] at h0); (try simp (disch := omega) only [upA, upJ, upR, vu_n]); exact mSt v h0
  · intro v h0; (try simp (disch := omega) only [upA, upJ, upR, vu_n] at h0); (try simp (disch := omega) only [upA, upJ, upR, vu_n]); exact mLi v h0
  · intro u v h0 h1; (try simp (disch := omega) only [upA, upJ, upR, vu_n] at h0 h1); (try simp (disch := omega) only [upA, upJ, upR, vu_n]); exact mWo u v h0 h1
  · intro u v h0 h1; (try simp (disch := omega) only [upA, upJ, upR, vu_n] at h0 h1); (try simp (disch := omega) only [upA, upJ, upR, vu_n]); exact mFr u v h0 h1
  · intro u v h0 h1; (try simp (disch := omega) only [upA, upJ, upR, vu_n] at h0 h1); (try simp (disch := omega) only [upA, upJ, upR, vu_n]); exact mTo u v h0 h1
  · intro u v h0 h1; (try simp (disch := omega) only [upA, upJ, upR, vu_n] at h0 h1); (try simp (disch := omega) only [upA, upJ, upR, vu_n]); exact mOp u v h0 h1
  · intro u v h0 h1; (try simp (disch := omega) only [upA, upJ, upR, vu_n] at h0 h1); (try simp (disch := omega) only [upA, upJ, upR, vu_n]); exact mAr u v h0 h1
theorem rs_An {N : Nat → Nat → Nat} (h : RS I N) (hi : i < 10) : RS (am_up I 259 i (nI q)) (am_up N 6 i q) := by
  obtain ⟨mW, mH, mV, mL, mR, mWl, mWy, mFo, mSh, mWe, mSa, mKi, mAn, mRa, mRb, mRl, mSc, mSt, mLi, mWo, mFr, mTo, mOp, mAr⟩ := h
  refine ⟨?_, ?_, ?_, ?_, ?_, ?_, ?_, ?_, ?_, ?_, ?_, ?_, ?_, ?_, ?_, ?_, ?_, ?_, ?_, ?_, ?_, ?_, ?_, ?_⟩
  · (try simp (disch := omega) only [upA, upJ, upR, vu_n]); exact mW
  · (try simp (disch := omega) only [upA, upJ, upR, vu_n]); exact mH
  · (try simp (disch := omega) only [upA, upJ, upR, vu_n]); exact mV
  · (try simp (disch := omega) only [upA, upJ, upR, vu_n]); exact mL
  · (try simp (disch := omega) only [upA, upJ, upR, vu_n]); exact mR
  · intro v h0; (try simp (disch := omega) only [upA, upJ, upR, vu_n] at h0); (try simp (disch := omega) only [upA, upJ, upR, vu_n]); exact mWl v h0
  · intro v h0; (try simp (disch := omega) only [upA, upJ, upR, vu_n] at h0); (try simp (disch := omega) only [upA, upJ, upR, vu_n]); exact mWy v h0
  · intro v h0; (try simp (disch := omega) only [upA, upJ, upR, vu_n] at h0); (try simp (disch := omega) only [upA, upJ, upR, vu_n]); exact mFo v h0
  · intro v h0; (try simp (disch := omega) only [upA, upJ, upR, vu_n] at h0); (try simp (disch := omega) only [upA, upJ, upR, vu_n]); exact mSh v h0
  · intro v h0; (try simp (disch := omega) only [upA, upJ, upR, vu_n] at h0); (try simp (disch := omega) only [upA, upJ, upR, vu_n]); exact mWe v h0
  · intro v h0; (try simp (disch := omega) only [upA, upJ, upR, vu_n] at h0); (try simp (disch := omega) only [upA, upJ, upR, vu_n]); exact mSa v h0
  · intro v h0; (try simp (disch := omega) only [upA, upJ, upR, vu_n] at h0); (try simp (disch := omega) only [upA, upJ, upR, vu_n]); exact mKi v h0
  · intro v h0; by_cases e : v = i
    · subst e; simp only [upS, vu_s]
    · (try simp (disch := omega) only [upA, upJ, upR, vu_n] at h0); (try simp (disch := omega) only [upA, upJ, upR, vu_n]); exact mAn v h0
  · intro v h0; (try simp (disch := omega) only [upA, upJ, upR, vu_n] at h0); (try simp (disch := omega) only [upA, upJ, upR, vu_n]); exact mRa v h0
  · intro v h0; (try simp (disch := omega) only [upA, upJ, upR, vu_n] at h0); (try simp (disch := omega) only [upA, upJ, upR, vu_n]); exact mRb v h0
  · intro v h0; (try simp (disch := omega) only [upA, upJ, upR, vu_n] at h0); (try simp (disch := omega) only [upA, upJ, upR, vu_n]); exact mRl v h0
  · intro v h0; (try simp (disch := omega) only [upA, upJ, upR, vu_n] at h0); (try simp (disch := omega) only [upA, upJ, upR, vu_n]); exact mSc v h0
  · intro v h0; (try simp (disch := omega) only [upA, upJ, upR, vu_n] at h0); (try simp (disch := omega) only [upA, upJ, upR, vu_n]); exact mSt v h0
  · intro v h0; (try simp (disch := omega) only [upA, upJ, upR, vu_n] at h0); (try simp (disch := omega) only [upA, upJ, upR, vu_n]); exact mLi v h0
  · intro u v h0 h1; (try simp (disch := omega) only [upA, upJ, upR, vu_n] at h0 h1); (try simp (disch := omega) only [upA, upJ, upR, vu_n]); exact mWo u v h0 h1
  · intro u v h0 h1; (try simp (disch := omega) only [upA, upJ, upR, vu_n] at h0 h1); (try simp (disch := omega) only [upA, upJ, upR, vu_n]); exact mFr u v h0 h1
  · intro u v h0 h1; (try simp (disch := omega) only [upA, upJ, upR, vu_n] at h0 h1); (try simp (disch := omega) only [upA, upJ, upR, vu_n]); exact mTo u v h0 h1
  · intro u v h0 h1; (try simp (disch := omega) only [upA, upJ, upR, vu_n] at h0 h1); (try simp (disch := omega) only [upA, upJ, upR, vu_n]); exact mOp u v h0 h1
  · intro u v h0 h1; (try simp (disch := omega) only [upA, upJ, upR, vu_n] at h0 h1); (try simp (disch := omega) only [upA, upJ, upR, vu_n]); exact mAr u v h0 h1
theorem rs_Ra {N : Nat → Nat → Nat} (h : RS I N) (hi : i < 20) : RS (am_up I 260 i (nI q)) (am_up N 12 i q) := by
  obtain ⟨mW, mH, mV, mL, mR, mWl, mWy, mFo, mSh, mWe, mSa, mKi, mAn, mRa, mRb, mRl, mSc, mSt, mLi, mWo, mFr, mTo, mOp, mAr⟩ := h
  refine ⟨?_, ?_, ?_, ?_, ?_, ?_, ?_, ?_, ?_, ?_, ?_, ?_, ?_, ?_, ?_, ?_, ?_, ?_, ?_, ?_, ?_, ?_, ?_, ?_⟩
  · (try simp (disch := omega) only [upA, upJ, upR, vu_n]); exact mW
  · (try simp (disch := omega) only [upA, upJ, upR, vu_n]); exact mH
  · (try simp (disch := omega) only [upA, upJ, upR, vu_n]); exact mV
  · (try simp (disch := omega) only [upA, upJ, upR, vu_n]); exact mL
  · (try simp (disch := omega) only [upA, upJ, upR, vu_n]); exact mR
  · intro v h0; (try simp (disch := omega) only [upA, upJ, upR, vu_n] at h0); (try simp (disch := omega) only [upA, upJ, upR, vu_n]); exact mWl v h0
  · intro v h0; (try simp (disch := omega) only [upA, upJ, upR, vu_n] at h0); (try simp (disch := omega) only [upA, upJ, upR, vu_n]); exact mWy v h0
  · intro v h0; (try simp (disch := omega) only [upA, upJ, upR, vu_n] at h0); (try simp (disch := omega) only [upA, upJ, upR, vu_n]); exact mFo v h0
  · intro v h0; (try simp (disch := omega) only [upA, upJ, upR, vu_n] at h0); (try simp (disch := omega) only [upA, upJ, upR, vu_n]); exact mSh v h0
  · intro v h0; (try simp (disch := omega) only [upA, upJ, upR, vu_n] at h0); (try simp (disch := omega) only [upA, upJ, upR, vu_n]); exact mWe v h0
  · intro v h0; (try simp (disch := omega) only [upA, upJ, upR, vu_n] at h0); (try simp (disch := omega) only [upA, upJ, upR, vu_n]); exact mSa v h0
  · intro v h0; (try simp (disch := omega) only [upA, upJ, upR, vu_n] at h0); (try simp (disch := omega) only [upA, upJ, upR, vu_n]); exact mKi v h0
  · intro v h0; (try simp (disch := omega) only [upA, upJ, upR, vu_n] at h0); (try simp (disch := omega) only [upA, upJ, upR, vu_n]); exact mAn v h0
  · intro v h0; by_cases e : v = i
    · subst e; simp only [upS, vu_s]
    · (try simp (disch := omega) only [upA, upJ, upR, vu_n] at h0); (try simp (disch := omega) only [upA, upJ, upR, vu_n]); exact mRa v h0
  · intro v h0; (try simp (disch := omega) only [upA, upJ, upR, vu_n] at h0); (try simp (disch := omega) only [upA, upJ, upR, vu_n]); exact mRb v h0
  · intro v h0; (try simp (disch := omega) only [upA, upJ, upR, vu_n] at h0); (try simp (disch := omega) only [upA, upJ, upR, vu_n]); exact mRl v h0
  · intro v h0; (try simp (disch := omega) only [upA, upJ, upR, vu_n] at h0); (try simp (disch := omega) only [upA, upJ, upR, vu_n]); exact mSc v h0
  · intro v h0; (try simp (disch := omega) only [upA, upJ, upR, vu_n] at h0); (try simp (disch := omega) only [upA, upJ, upR, vu_n]); exact mSt v h0
  · intro v h0; (try simp (disch := omega) only [upA, upJ, upR, vu_n] at h0); (try simp (disch := omega) only [upA, upJ, upR, vu_n]); exact mLi v h0
  · intro u v h0 h1; (try simp (disch := omega) only [upA, upJ, upR, vu_n] at h0 h1); (try simp (disch := omega) only [upA, upJ, upR, vu_n]); exact mWo u v h0 h1
  · intro u v h0 h1; (try simp (disch := omega) only [upA, upJ, upR, vu_n] at h0 h1); (try simp (disch := omega) only [upA, upJ, upR, vu_n]); exact mFr u v h0 h1
  · intro u v h0 h1; (try simp (disch := omega) only [upA, upJ, upR, vu_n] at h0 h1); (try simp (disch := omega) only [upA, upJ, upR, vu_n]); exact mTo u v h0 h1
  · intro u v h0 h1; (try simp (disch := omega) only [upA, upJ, upR, vu_n] at h0 h1); (try simp (disch := omega) only [upA, upJ, upR, vu_n]); exact mOp u v h0 h1
  · intro u v h0 h1; (try simp (disch := omega) only [upA, upJ, upR, vu_n] at h0 h1); (try simp (disch := omega) only [upA, upJ, upR, vu_n]); exact mAr u v h0 h1
theorem rs_Rb {N : Nat → Nat → Nat} (h : RS I N) (hi : i < 20) : RS (am_up I 261 i (nI q)) (am_up N 13 i q) := by
  obtain ⟨mW, mH, mV, mL, mR, mWl, mWy, mFo, mSh, mWe, mSa, mKi, mAn, mRa, mRb, mRl, mSc, mSt, mLi, mWo, mFr, mTo, mOp, mAr⟩ := h
  refine ⟨?_, ?_, ?_, ?_, ?_, ?_, ?_, ?_, ?_, ?_, ?_, ?_, ?_, ?_, ?_, ?_, ?_, ?_, ?_, ?_, ?_, ?_, ?_, ?_⟩
  · (try simp (disch := omega) only [upA, upJ, upR, vu_n]); exact mW
  · (try simp (disch := omega) only [upA, upJ, upR, vu_n]); exact mH
  · (try simp (disch := omega) only [upA, upJ, upR, vu_n]); exact mV
  · (try simp (disch := omega) only [upA, upJ, upR, vu_n]); exact mL
  · (try simp (disch := omega) only [upA, upJ, upR, vu_n]); exact mR
  · intro v h0; (try simp (disch := omega) only [upA, upJ, upR, vu_n] at h0); (try simp (disch := omega) only [upA, upJ, upR, vu_n]); exact mWl v h0
  · intro v h0; (try simp (disch := omega) only [upA, upJ, upR, vu_n] at h0); (try simp (disch := omega) only [upA, upJ, upR, vu_n]); exact mWy v h0
  · intro v h0; (try simp (disch := omega) only [upA, upJ, upR, vu_n] at h0); (try simp (disch := omega) only [upA, upJ, upR, vu_n]); exact mFo v h0
  · intro v h0; (try simp (disch := omega) only [upA, upJ, upR, vu_n] at h0); (try simp (disch := omega) only [upA, upJ, upR, vu_n]); exact mSh v h0
  · intro v h0; (try simp (disch := omega) only [upA, upJ, upR, vu_n] at h0); (try simp (disch := omega) only [upA, upJ, upR, vu_n]); exact mWe v h0
  · intro v h0; (try simp (disch := omega) only [upA, upJ, upR, vu_n] at h0); (try simp (disch := omega) only [upA, upJ, upR, vu_n]); exact mSa v h0
  · intro v h0; (try simp (disch := omega) only [upA, upJ, upR, vu_n] at h0); (try simp (disch := omega) only [upA, upJ, upR, vu_n]); exact mKi v h0
  · intro v h0; (try simp (disch := omega) only [upA, upJ, upR, vu_n] at h0); (try simp (disch := omega) only [upA, upJ, upR, vu_n]); exact mAn v h0
  · intro v h0; (try simp (disch := omega) only [upA, upJ, upR, vu_n] at h0); (try simp (disch := omega) only [upA, upJ, upR, vu_n]); exact mRa v h0
  · intro v h0; by_cases e : v = i
    · subst e; simp only [upS, vu_s]
    · (try simp (disch := omega) only [upA, upJ, upR, vu_n] at h0); (try simp (disch := omega) only [upA, upJ, upR, vu_n]); exact mRb v h0
  · intro v h0; (try simp (disch := omega) only [upA, upJ, upR, vu_n] at h0); (try simp (disch := omega) only [upA, upJ, upR, vu_n]); exact mRl v h0
  · intro v h0; (try simp (disch := omega) only [upA, upJ, upR, vu_n] at h0); (try simp (disch := omega) only [upA, upJ, upR, vu_n]); exact mSc v h0
  · intro v h0; (try simp (disch := omega) only [upA, upJ, upR, vu_n] at h0); (try simp (disch := omega) only [upA, upJ, upR, vu_n]); exact mSt v h0
  · intro v h0; (try simp (disch := omega) only [upA, upJ, upR, vu_n] at h0); (try simp (disch := omega) only [upA, upJ, upR, vu_n]); exact mLi v h0
  · intro u v h0 h1; (try simp (disch := omega) only [upA, upJ, upR, vu_n] at h0 h1); (try simp (disch := omega) only [upA, upJ, upR, vu_n]); exact mWo u v h0 h1
  · intro u v h0 h1; (try simp (disch := omega) only [upA, upJ, upR, vu_n] at h0 h1); (try simp (disch := omega) only [upA, upJ, upR, vu_n]); exact mFr u v h0 h1
  · intro u v h0 h1; (try simp (disch := omega) only [upA, upJ, upR, vu_n] at h0 h1); (try simp (disch := omega) only [upA, upJ, upR, vu_n]); exact mTo u v h0 h1
  · intro u v h0 h1; (try simp (disch := omega) only [upA, upJ, upR, vu_n] at h0 h1); (try simp (disch := omega) only [upA, upJ, upR, vu_n]); exact mOp u v h0 h1
  · intro u v h0 h1; (try simp (disch := omega) only [upA, upJ, upR, vu_n] at h0 h1); (try simp (disch := omega) only [upA, upJ, upR, vu_n]); exact mAr u v h0 h1
theorem rs_Rl {N : Nat → Nat → Nat} (h : RS I N) (hi : i < 20) : RS (am_up I 262 i (nI q)) (am_up N 14 i q) := by
  obtain ⟨mW, mH, mV, mL, mR, mWl, mWy, mFo, mSh, mWe, mSa, mKi, mAn, mRa, mRb, mRl, mSc, mSt, mLi, mWo, mFr, mTo, mOp, mAr⟩ := h
  refine ⟨?_, ?_, ?_, ?_, ?_, ?_, ?_, ?_, ?_, ?_, ?_, ?_, ?_, ?_, ?_, ?_, ?_, ?_, ?_, ?_, ?_, ?_, ?_, ?_⟩
  · (try simp (disch := omega) only [upA, upJ, upR, vu_n]); exact mW
  · (try simp (disch := omega) only [upA, upJ, upR, vu_n]); exact mH
  · (try simp (disch := omega) only [upA, upJ, upR, vu_n]); exact mV
  · (try simp (disch := omega) only [upA, upJ, upR, vu_n]); exact mL
  · (try simp (disch := omega) only [upA, upJ, upR, vu_n]); exact mR
  · intro v h0; (try simp (disch := omega) only [upA, upJ, upR, vu_n] at h0); (try simp (disch := omega) only [upA, upJ, upR, vu_n]); exact mWl v h0
  · intro v h0; (try simp (disch := omega) only [upA, upJ, upR, vu_n] at h0); (try simp (disch := omega) only [upA, upJ, upR, vu_n]); exact mWy v h0
  · intro v h0; (try simp (disch := omega) only [upA, upJ, upR, vu_n] at h0); (try simp (disch := omega) only [upA, upJ, upR, vu_n]); exact mFo v h0
  · intro v h0; (try simp (disch := omega) only [upA, upJ, upR, vu_n] at h0); (try simp (disch := omega) only [upA, upJ, upR, vu_n]); exact mSh v h0
  · intro v h0; (try simp (disch := omega) only [upA, upJ, upR, vu_n] at h0); (try simp (disch := omega) only [upA, upJ, upR, vu_n]); exact mWe v h0
  · intro v h0; (try simp (disch := omega) only [upA, upJ, upR, vu_n] at h0); (try simp (disch := omega) only [upA, upJ, upR, vu_n]); exact mSa v h0
  · intro v h0; (try simp (disch := omega) only [upA, upJ, upR, vu_n] at h0); (try simp (disch := omega) only [upA, upJ, upR, vu_n]); exact mKi v h0
  · intro v h0; (try simp (disch := omega) only [upA, upJ, upR, vu_n] at h0); (try simp (disch := omega) only [upA, upJ, upR, vu_n]); exact mAn v h0
  · intro v h0; (try simp (disch := omega) only [upA, upJ, upR, vu_n] at h0); (try simp (disch := omega) only [upA, upJ, upR, vu_n]); exact mRa v h0
  · intro v h0; (try simp (disch := omega) only [upA, upJ, upR, vu_n] at h0); (try simp (disch := omega) only [upA, upJ, upR, vu_n]); exact mRb v h0
  · intro v h0; by_cases e : v = i
    · subst e; simp only [upS, vu_s]
    · (try simp (disch := omega) only [upA, upJ, upR, vu_n] at h0); (try simp (disch := omega) only [upA, upJ, upR, vu_n]); exact mRl v h0
  · intro v h0; (try simp (disch := omega) only [upA, upJ, upR, vu_n] at h0); (try simp (disch := omega) only [upA, upJ, upR, vu_n]); exact mSc v h0
  · intro v h0; (try simp (disch := omega) only [upA, upJ, upR, vu_n] at h0); (try simp (disch := omega) only [upA, upJ, upR, vu_n]); exact mSt v h0
  · intro v h0; (try simp (disch := omega) only [upA, upJ, upR, vu_n] at h0); (try simp (disch := omega) only [upA, upJ, upR, vu_n]); exact mLi v h0
  · intro u v h0 h1; (try simp (disch := omega) only [upA, upJ, upR, vu_n] at h0 h1); (try simp (disch := omega) only [upA, upJ, upR, vu_n]); exact mWo u v h0 h1
  · intro u v h0 h1; (try simp (disch := omega) only [upA, upJ, upR, vu_n] at h0 h1); (try simp (disch := omega) only [upA, upJ, upR, vu_n]); exact mFr u v h0 h1
  · intro u v h0 h1; (try simp (disch := omega) only [upA, upJ, upR, vu_n] at h0 h1); (try simp (disch := omega) only [upA, upJ, upR, vu_n]); exact mTo u v h0 h1
  · intro u v h0 h1; (try simp (disch := omega) only [upA, upJ, upR, vu_n] at h0 h1); (try simp (disch := omega) only [upA, upJ, upR, vu_n]); exact mOp u v h0 h1
  · intro u v h0 h1; (try simp (disch := omega) only [upA, upJ, upR, vu_n] at h0 h1); (try simp (disch := omega) only [upA, upJ, upR, vu_n]); exact mAr u v h0 h1
theorem rs_Sc {N : Nat → Nat → Nat} (h : RS I N) (hi : i < 10) : RS (am_up I 263 i (nI q)) (am_up N 16 i q) := by
  obtain ⟨mW, mH, mV, mL, mR, mWl, mWy, mFo, mSh, mWe, mSa, mKi, mAn, mRa, mRb, mRl, mSc, mSt, mLi, mWo, mFr, mTo, mOp, mAr⟩ := h
  refine ⟨?_, ?_, ?_, ?_, ?_, ?_, ?_, ?_, ?_, ?_, ?_, ?_, ?_, ?_, ?_, ?_, ?_, ?_, ?_, ?_, ?_, ?_, ?_, ?_⟩
  · (try simp (disch := omega) only [upA, upJ, upR, vu_n]); exact mW
  · (try simp (disch := omega) only [upA, upJ, upR, vu_n]); exact mH
  · (try simp (disch := omega) only [upA, upJ, upR, vu_n]); exact mV
  · (try simp (disch := omega) only [upA, upJ, upR, vu_n]); exact mL
  · (try simp (disch := omega) only [upA, upJ, upR, vu_n]); exact mR
  · intro v h0; (try simp (disch := omega) only [upA, upJ, upR, vu_n] at h0); (try simp (disch := omega) only [upA, upJ, upR, vu_n]); exact mWl v h0
  · intro v h0; (try simp (disch := omega) only [upA, upJ, upR, vu_n] at h0); (try simp (disch := omega) only [upA, upJ, upR, vu_n]); exact mWy v h0
  · intro v h0; (try simp (disch := omega) only [upA, upJ, upR, vu_n] at h0); (try simp (disch := omega) only [upA, upJ, upR, vu_n]); exact mFo v h0
  · intro v h0; (try simp (disch := omega) only [upA, upJ, upR, vu_n] at h0); (try simp (disch := omega) only [upA, upJ, upR, vu_n]); exact mSh v h0
  · intro v h0; (try simp (disch := omega) only [upA, upJ, upR, vu_n] at h0); (try simp (disch := omega) only [upA, upJ, upR, vu_n]); exact mWe v h0
  · intro v h0; (try simp (disch := omega) only [upA, upJ, upR, vu_n] at h0); (try simp (disch := omega) only [upA, upJ, upR, vu_n]); exact mSa v h0
  · intro v h0; (try simp (disch := omega) only [upA, upJ, upR, vu_n] at h0); (try simp (disch := omega) only [upA, upJ, upR, vu_n]); exact mKi v h0
  · intro v h0; (try simp (disch := omega) only [upA, upJ, upR, vu_n] at h0); (try simp (disch := omega) only [upA, upJ, upR, vu_n]); exact mAn v h0
  · intro v h0; (try simp (disch := omega) only [upA, upJ, upR, vu_n] at h0); (try simp (disch := omega) only [upA, upJ, upR, vu_n]); exact mRa v h0
  · intro v h0; (try simp (disch := omega) only [upA, upJ, upR, vu_n] at h0); (try simp (disch := omega) only [upA, upJ, upR, vu_n]); exact mRb v h0
  · intro v h0; (try simp (disch := omega) only [upA, upJ, upR, vu_n] at h0); (try simp (disch := omega) only [upA, upJ, upR, vu_n]); exact mRl v h0
  · intro v h0; by_cases e : v = i
    · subst e; simp only [upS, vu_s]
    · (try simp (disch := omega) only [upA, upJ, upR, vu_n] at h0); (try simp (disch := omega) only [upA, upJ, upR, vu_n]); exact mSc v h0
  · intro v h0; (try simp (disch := omega) only [upA, upJ, upR, vu_n] at h0); (try simp (disch := omega) only [upA, upJ, upR, vu_n]); exact mSt v h0
  · intro v h0; (try simp (disch := omega) only [upA, upJ, upR, vu_n] at h0); (try simp (disch := omega) only [upA, upJ, upR, vu_n]); exact mLi v h0
  · intro u v h0 h1; (try simp (disch := omega) only [upA, upJ, upR, vu_n] at h0 h1); (try simp (disch := omega) only [upA, upJ, upR, vu_n]); exact mWo u v h0 h1
  · intro u v h0 h1; (try simp (disch := omega) only [upA, upJ, upR, vu_n] at h0 h1); (try simp (disch := omega) only [upA, upJ, upR, vu_n]); exact mFr u v h0 h1
  · intro u v h0 h1; (try simp (disch := omega) only [upA, upJ, upR, vu_n] at h0 h1); (try simp (disch := omega) only [upA, upJ, upR, vu_n]); exact mTo u v h0 h1
  · intro u v h0 h1; (try simp (disch := omega) only [upA, upJ, upR, vu_n] at h0 h1); (try simp (disch := omega) only [upA, upJ, upR, vu_n]); exact mOp u v h0 h1
  · intro u v h0 h1; (try simp (disch := omega) only [upA, upJ, upR, vu_n] at h0 h1); (try simp (disch := omega) only [upA, upJ, upR, vu_n]); exact mAr u v h0 h1
theorem rs_St {N : Nat → Nat → Nat} (h : RS I N) (hi : i < 10) : RS (am_up I 264 i (nI q)) (am_up N 17 i q) := by
  obtain ⟨mW, mH, mV, mL, mR, mWl, mWy, mFo, mSh, mWe, mSa, mKi, mAn, mRa, mRb, mRl, mSc, mSt, mLi, mWo, mFr, mTo, mOp, mAr⟩ := h
  refine ⟨?_, ?_, ?_, ?_, ?_, ?_, ?_, ?_, ?_, ?_, ?_, ?_, ?_, ?_, ?_, ?_, ?_, ?_, ?_, ?_, ?_, ?_, ?_, ?_⟩
  · (try simp (disch := omega) only [upA, upJ, upR, vu_n]); exact mW
  · (try simp (disch := omega) only [upA, upJ, upR, vu_n]); exact mH
  · (try simp (disch := omega) only [upA, upJ, upR, vu_n]); exact mV
  · (try simp (disch := omega) only [upA, upJ, upR, vu_n]); exact mL
  · (try simp (disch := omega) only [upA, upJ, upR, vu_n]); exact mR
  · intro v h0; (try simp (disch := omega) only [upA, upJ, upR, vu_n] at h0); (try simp (disch := omega) only [upA, upJ, upR, vu_n]); exact mWl v h0
  · intro v h0; (try simp (disch := omega) only [upA, upJ, upR, vu_n] at h0); (try simp (disch := omega) only [upA, upJ, upR, vu_n]); exact mWy v h0
  · intro v h0; (try simp (disch := omega) only [upA, upJ, upR, vu_n] at h0); (try simp (disch := omega) only [upA, upJ, upR, vu_n]); exact mFo v h0
  · intro v h0; (try simp (disch := omega) only [upA, upJ, upR, vu_n] at h0); (try simp (disch := omega) only [upA, upJ, upR, vu_n]); exact mSh v h0
  · intro v h0; (try simp (disch := omega) only [upA, upJ, upR, vu_n] at h0); (try simp (disch := omega) only [upA, upJ, upR, vu_n]); exact mWe v h0
  · intro v h0; (try simp (disch := omega) only [upA, upJ, upR, vu_n] at h0); (try simp (disch := omega) only [upA, upJ, upR, vu_n]); exact mSa v h0
  · intro v h0; (try simp (disch := omega) only [upA, upJ, upR, vu_n] at h0); (try simp (disch := omega) only [upA, upJ, upR, vu_n]); exact mKi v h0
  · intro v h0; (try simp (disch := omega) only [upA, upJ, upR, vu_n] at h0); (try simp (disch := omega) only [upA, upJ, upR, vu_n]); exact mAn v h0
  · intro v h0; (try simp (disch := omega) only [upA, upJ, upR, vu_n] at h0); (try simp (disch := omega) only [upA, upJ, upR, vu_n]); exact mRa v h0
  · intro v h0; (try simp (disch := omega) only [upA, upJ, upR, vu_n] at h0); (try simp (disch := omega) only [upA, upJ, upR, vu_n]); exact mRb v h0
  · intro v h0; (try simp (disch := omega) only [upA, upJ, upR, vu_n] at h0); (try simp (disch := omega) only [upA, upJ, upR, vu_n]); exact mRl v h0
  · intro v h0; (try simp (disch := omega) only [upA, upJ, upR, vu_n] at h0); (try simp (disch := omega) only [upA, upJ, upR, vu_n]); exact mSc v h0
  · intro v h0; by_cases e : v = i
    · subst e; simp only [upS, vu_s]
    · (try simp (disch := omega) only [upA, upJ, upR, vu_n] at h0); (try simp (disch := omega) only [upA, upJ, upR, vu_n]); exact mSt v h0
  · intro v h0; (try simp (disch := omega) only [upA, upJ, upR, vu_n] at h0); (try simp (disch := omega) only [upA, upJ, upR, vu_n]); exact mLi v h0
  · intro u v h0 h1; (try simp (disch := omega) only [upA, upJ, upR, vu_n] at h0 h1); (try simp (disch := omega) only [upA, upJ, upR, vu_n]); exact mWo u v h0 h1
  · intro u v h0 h1; (try simp (disch := omega) only [upA, upJ, upR, vu_n] at h0 h1); (try simp (disch := omega) only [upA, upJ, upR, vu_n]); exact mFr u v h0 h1
  · intro u v h0 h1; (try simp (disch := omega) only [upA, upJ, upR, vu_n] at h0 h1); (try simp (disch := omega) only [upA, upJ, upR, vu_n]); exact mTo u v h0 h1
  · intro u v h0 h1; (try simp (disch := omega) only [upA, upJ, upR, vu_n] at h0 h1); (try simp (disch := omega) only [upA, upJ, upR, vu_n]); exact mOp u v h0 h1
  · intro u v h0 h1; (try simp (disch := omega) only [upA, upJ, upR, vu_n] at h0 h1); (try simp (disch := omega) only [upA, upJ, upR, vu_n]); exact mAr u v h0 h1
end STATE
