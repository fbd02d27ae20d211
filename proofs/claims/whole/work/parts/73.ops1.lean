section OPS1
variable {d : Nat} {k : am_k} {I I1 I2 : Nat → Nat → Int32} {J : Nat → Nat → Int64} {a b c e f fk fp : Int32} {L : Nat} {w : Nat → Option Nat} {v p q n u W x y z r t m l o s i j : Nat} {N N' : Nat → Nat → Nat} {Z Z' : Nat → Nat → Int32} {H H' : List hT} {K : Option hT} {B : Nat → Int32}
theorem OP_end (ha : AW N Z H K t B) (hc : CI I1 w N Z H K t B fk fp) (hm : MI I2 N Z H K t B fk fp) (hf : ∀ a, a < 249 → I2 a = I1 a) : ST I2 w := ⟨N, Z, H, K, t, B, fk, fp, ha, CI_fr ha hc hf, hm⟩
theorem SW_Pl (hs : SW N) (h1 : 3 ≤ W) (h2 : W ≤ 12) (h3 : 3 ≤ x) (h4 : x ≤ 12) : SW (plN N W x) := by
  obtain ⟨sW3, sW, sH3, sH, sL, sV, sR, sv, sh, sr, sw, ss, so⟩ := hs
  have e0 : ∀ f i, f ≠ 0 → ¬ (f = 1 ∨ f = 2 ∨ f = 8 ∨ f = 9 ∨ f = 11 ∨ f = 15 ∨ f = 16 ∨ f = 20) → f ≠ 7 → f ≠ 10 → plN N W x f i = N f i := fun f i g1 g2 g3 g4 => by unfold plN; rw [if_neg g1, if_neg g2, if_neg g3, if_neg g4]
  refine ⟨h1, h2, h3, h4, (by show 24 ≤ 99; omega), (by show 0 ≤ 10; omega), (by show 0 ≤ 20; omega), ?_, ?_, ?_, ?_, ?_, ?_⟩
  · intro v hv
    have q := sv v hv
    simp (disch := omega) only [e0]
    exact q
  · intro h hh
    exact ⟨(by show 0 < 8; omega), (by show 1 ≤ 3; omega), (by show 0 ≤ 10; omega)⟩
  · intro r hr
    exact absurd hr (by show ¬ r < 0; omega)
  · intro c hc
    refine ⟨(by show 0 ≤ 1; omega), fun h => ?_⟩
    exact absurd h (by show ¬ 0 = 1; omega)
  · intro v hv
    refine ⟨fun h => absurd (show plN N W x 16 v = 0 from rfl) h, ?_⟩
    simp (disch := omega) only [e0]
    exact (ss v hv).2
  · intro k hk
    refine ⟨(by show 0 ≤ 16; omega), ?_, fun l hl => absurd hl (by show ¬ l < 0; omega)⟩
    simp (disch := omega) only [e0]
    exact (so k hk).2.1
theorem DW_Pl (hd : DW N Z) : DW (plN N W x) (plZ Z) := ⟨fun v hv => absurd hv (by show ¬ v < 0; omega), fun c _ => (by show 50 ≤ 99; omega), fun r _ => (by show 0 ≤ 1; omega), (by show 0 ≤ 9999; omega), fun v _ _ => ⟨rfl, rfl, rfl, rfl, rfl⟩, fun a b _ _ => rfl⟩
theorem op_state : OP L (d + 10) (d + 10) mX11_state mX12_state [.int a] := by
  rintro I J w ⟨N, Z, H, K, t, B, fk, fp, ha, hc, hm⟩
  have hd := ha.2.1
  have hR := hc.1
  obtain ⟨pW, pH, pT, pS, pL, pV, pR, pCr, pWl, pWy, pFo, pSh, pNo, pX, pY, pWe, pSa, pKi, pAn, pDg, pTh, pDr, pSp, pSk, pS0, pSx, pSy, pSt, pRa, pRb, pRl, pRt, pMe, pBa, pBt⟩ := hR
  rw [c_state]
  refine ⟨_, w, rfl, rfl, upR (by decide), rfl, ?_⟩
  have hm1 := MI_fr (I' := am_up I 9 3 a) hm (fun a h => upR (by omega))
  rw [m_state]
  have e1 : am_up I 9 3 a 250 1 = I 9 3 := by rw [upA (by decide), pS]; exact hm.1.1.2.1
  rw [e1]
  have ha' : AW N (am_up Z 0 0 a) H K t B := ⟨ha.1, DW_St hd, ha.2.2⟩
  refine ⟨w, rfl, rfl, rfl, OP_end ha' (CI_keep ha hc (rg_S hc.1) (fun _ _ => rfl) (fun a h => upR (by omega))) (MI_keep (MI_0 (b := 0) hm1) (rm_S (RM_0 hm1.1)) ?_ ?_ ?_) ?_⟩
  · have := RHm_0 (b := 0) hm1.2.1
    unfold RHm at this ⊢
    simp (disch := omega) only [upS, upA, upI, upR, rwS, rwA] at this ⊢
    exact this
  · intro j hj; exact upA (by decide)
  · intro a ha; exact upR (by omega)
  · intro a ha; simp (disch := omega) only [upR]
theorem op_plain : OP L (d + 10) (d + 10) mX11_plain mX12_plain [.int a, .int b] := by
  rintro I J w ⟨N, Z, H, K, t, B, fk, fp, ha, hc, hm⟩
  by_cases h : inR a (nI 3) (nI 12) ∧ inR b (nI 3) (nI 12)
  rotate_left
  · rw [c_plain_f h]
    refine ⟨_, w, rfl, rfl, rfl, rfl, ?_⟩
    rw [m_plain_f h]
    exact ⟨w, rfl, rfl, rfl, ST_same ha hc hm⟩
  have hs := ha.1
  have hd := ha.2.1
  obtain ⟨fo, f1, f2⟩ := hc.2.2.1.1
  have f1' : ∀ u, u < 4 → w u = some (fo u) ∧ isO (fo u) := fun u hu => f1 u (by omega)
  have oo : ∀ u, u < 4 → fo u = 49 ∨ fo u = 54 ∨ fo u = 59 ∨ fo u = 64 ∨ fo u = 228 := fun u hu => (f1' u hu).2
  have o0 := oo 0 (by decide)
  have o1 := oo 1 (by decide)
  have o2 := oo 2 (by decide)
  have o3 := oo 3 (by decide)
  rw [c_plain_t f1' h.1 h.2]
  obtain ⟨W, w1, w2, rfl⟩ := inRN_of (by decide) (by decide) h.1
  obtain ⟨x, x1, x2, rfl⟩ := inRN_of (by decide) (by decide) h.2
  have fr : ∀ a, ¬ (9 ≤ a ∧ a < 49) → a ≠ 129 → a ≠ fo 0 → a ≠ fo 1 → a ≠ fo 2 → a ≠ fo 3 → am_up (clr (fo 3) (clr (fo 2) (clr (fo 1) (clr (fo 0) (plG I (nI W) (nI x)))))) 129 1 0 a = I a := by
    intro a g1 g2 g3 g4 g5 g6
    simp (disch := omega) only [upR, clr_o, plG, fl_o]
  have fr2 : ∀ u, u < 4 → ∀ a, a ≠ fo u → a = fo u + 1 ∨ a = fo u + 2 ∨ a = fo u + 3 → am_up (clr (fo 3) (clr (fo 2) (clr (fo 1) (clr (fo 0) (plG I (nI W) (nI x)))))) 129 1 0 a = I a := by
    intro u hu a g1 g2
    have := oo u hu
    exact fr a (by omega) (by omega) (by omega) (by omega) (by omega) (by omega)
  refine ⟨_, w, rfl, rfl, fr 0 (by omega) (by omega) (by omega) (by omega) (by omega) (by omega), rfl, ?_⟩
  have hm1 := MI_fr (I' := am_up (clr (fo 3) (clr (fo 2) (clr (fo 1) (clr (fo 0) (plG I (nI W) (nI x)))))) 129 1 0) hm (fun a h => fr a (by omega) (by omega) (by omega) (by omega) (by omega) (by omega))
  rw [m_plain_t h.1 h.2]
  have ha' : AW (plN N W x) (plZ Z) [] K t B := AW_mod ha (SW_Pl hs w1 w2 x1 x2) (DW_Pl hd)
  refine ⟨w, rfl, rfl, rfl, OP_end (I1 := am_up (clr (fo 3) (clr (fo 2) (clr (fo 1) (clr (fo 0) (plG I (nI W) (nI x)))))) 129 1 0) ha' ?_ (MI_mod hm1 (RM_Pl hm1.1 hs.2.2.2.2.2.2.2.2.2.2.2.2) ?_ ?_ ?_) ?_⟩
  · obtain ⟨h1, h2, h3, ⟨_, _, x', h4, h4', _⟩, h5, h6, h7, h8⟩ := hc
    refine ⟨?_, ?_, h3, ⟨upS.trans nI_0.symm, by simp, x', h4, ?_, fun i p hi => by simp at hi⟩, KC_fr h5 (fun p hp => (ha.2.2.2.1 p hp).1) ?_ (fun a _ _ => fr a (by omega) (by omega) (by omega) (by omega) (by omega) (by omega)), ?_, ?_, ?_⟩
    · refine RG_fr (RG_Pl h1) (by show 0 ≤ 10; omega) (by show 0 ≤ 20; omega) (fun a g1 g2 => ?_)
      simp (disch := omega) only [upR, clr_o]
    · intro u hu
      refine ⟨fo u, (f1' u hu).1, (f1' u hu).2, ?_, ?_, ?_, 0, ?_, by omega, ?_⟩
      · rw [upA (by have := oo u hu; omega)]
        show _ = nI 0
        rw [nI_0]
        simp only [clr_0 (show 0 = 0 ∨ 0 = 1 ∨ 0 = 5 by omega)]
        have hu4 : u = 0 ∨ u = 1 ∨ u = 2 ∨ u = 3 := by omega
        rcases hu4 with rfl | rfl | rfl | rfl <;> simp
      · intro l hl
        exact absurd hl (by show ¬ l < 0; omega)
      · intro i hi
        have e : plN N W x (21 + u) (plN N W x 20 u) = 0 := by
          show plN N W x (21 + u) 0 = 0
          unfold plN
          rw [if_neg (by omega), if_neg (by omega), if_neg (by omega), if_neg (by omega)]
          exact (hs.2.2.2.2.2.2.2.2.2.2.2.2 u hu).2.1
        omega
      · rw [upA (by have := oo u hu; omega), nI_0]
        simp only [clr_0 (show 5 = 0 ∨ 5 = 1 ∨ 5 = 5 by omega)]
        have hu4 : u = 0 ∨ u = 1 ∨ u = 2 ∨ u = 3 := by omega
        rcases hu4 with rfl | rfl | rfl | rfl <;> simp
      · intro i hi
        have e : plN N W x (21 + u) (plN N W x 20 u) = 0 := by
          show plN N W x (21 + u) 0 = 0
          unfold plN
          rw [if_neg (by omega), if_neg (by omega), if_neg (by omega), if_neg (by omega)]
          exact (hs.2.2.2.2.2.2.2.2.2.2.2.2 u hu).2.1
        omega
    · rw [upI (by decide)]
      simp (disch := omega) only [clr_o, plG, fl_o, upR]
      exact h4'
    · rw [fr 8 (by omega) (by omega) (by omega) (by omega) (by omega) (by omega)]
    · rw [fr 223 (by omega) (by omega) (by omega) (by omega) (by omega) (by omega), fr 224 (by omega) (by omega) (by omega) (by omega) (by omega) (by omega)]
      exact h6
    · rw [fr 227 (by omega) (by omega) (by omega) (by omega) (by omega) (by omega)]; exact h7
    · rw [fr 227 (by omega) (by omega) (by omega) (by omega) (by omega) (by omega)]; exact h8
  · unfold plM plX5 plX4 plX2 plX0
    simp (disch := omega) only [rwA, upA, upJ, upS, upI]
  · intro j hj
    unfold plM plX5 plX4 plX2 plX0
    simp (disch := omega) only [rwA, upA, upJ, upS, upI]
  · intro a ha
    unfold plM plX5 plX4 plX2 plX0
    simp (disch := omega) only [rwA, upR]
  · intro a ha
    unfold plM plX5 plX4 plX2 plX0
    simp (disch := omega) only [rwA, upR]
end OPS1
