/-- the references that change -/
def WW (w : Nat → Option Nat) : Prop := (∃ f : Nat → Nat, (∀ u, u < 5 → w u = some (f u) ∧ isO (f u)) ∧ (∀ u v, u < 5 → v < 5 → f u = f v → u = v)) ∧ ((w 5 = some 247 ∧ w 6 = some 248) ∨ (w 5 = some 248 ∧ w 6 = some 247)) ∧ (∃ v, v < 10 ∧ w 7 = some (19 + v)) ∧ (∃ v, v < 10 ∧ w 8 = some (19 + v))
/-- the class's image; the model's: the rows that it was taken of -/
def KC (I : Nat → Nat → Int32) : Option hT → Prop
  | none => I 8 2 = 0 ∧ ∀ v, v < 10 → I (79 + v) 0 = nI v
  | some p => I 8 2 = 1 ∧ RK I p.1 p.2 ∧ ∀ u, u < 4 → ROo I (109 + 5 * u) u p.1
def EN (I : Nat → Nat → Int32) (r : Nat → Int32) : Prop := r 0 = I 249 4 ∧ r 1 = I 249 5 ∧ (∀ j, j < 336 → r (2 + j) = I 250 j) ∧ (∀ c, c < 144 → r (338 + c) = I 252 c) ∧ (∀ h, h < 24 → r (482 + 3 * h) = I 253 h ∧ r (483 + 3 * h) = I 254 h ∧ r (484 + 3 * h) = I 255 h) ∧ r 554 = I 249 10 ∧ (∀ v, v < 10 → r (555 + 6 * v) = I 256 v ∧ r (556 + 6 * v) = I 257 v ∧ r (557 + 6 * v) = I 258 v ∧ r (558 + 6 * v) = I 259 v ∧ r (559 + 6 * v) = I 263 v ∧ r (560 + 6 * v) = I 264 v) ∧ r 615 = I 249 15 ∧ r 616 = I 249 16 ∧ (∀ v, v < 20 → r (617 + 3 * v) = I 260 v ∧ r (618 + 3 * v) = I 261 v ∧ r (619 + 3 * v) = I 262 v) ∧ (∀ u, u < 4 → r (677 + u) = I 267 u) ∧ (∀ l, l < 64 → r (681 + 3 * l) = I 268 l ∧ r (682 + 3 * l) = I 269 l ∧ r (683 + 3 * l) = I 270 l) ∧ (∀ i, i < 1600 → r (873 + 2 * i) = I 271 i ∧ r (874 + 2 * i) = I 272 i)
def KM (I : Nat → Nat → Int32) : Option hT → Prop
  | none => I 249 49 = 0
  | some p => I 249 49 = 1 ∧ ∃ I0, RM I0 p.1 p.2 ∧ EN I0 (I 279)
def wdL : List Int32 := [32, 115, 97, 105, 108, 32, 102, 117, 114, 108, 32, 119, 104, 101, 110, 32, 111, 114, 32, 97, 110, 100, 32, 110, 111, 116, 32, 120, 32, 121, 32, 119, 97, 121, 32, 102, 111, 114, 99, 101, 32, 104, 111, 117, 114, 32, 116, 104, 105, 114, 115, 116, 32, 99, 114, 117, 115, 116, 32, 110, 101, 97, 114, 32, 116, 105, 101, 100, 32, 118, 105, 108, 108, 97, 103, 101, 32]
/-- what is well told on both sides -/
def AW (N : Nat → Nat → Nat) (Z : Nat → Nat → Int32) (H : List hT) (K : Option hT) (t : Nat) (B : Nat → Int32) : Prop := SW N ∧ DW N Z ∧ HW N H ∧ (∀ p, K = some p → SW p.1 ∧ DW p.1 p.2) ∧ t ≤ 400 ∧ ∀ i, i < t → ∃ n, n < 256 ∧ B i = nI n
def CI (I : Nat → Nat → Int32) (w : Nat → Option Nat) (N : Nat → Nat → Nat) (Z : Nat → Nat → Int32) (H : List hT) (K : Option hT) (t : Nat) (B : Nat → Int32) (fk fp : Int32) : Prop := RG I N Z ∧ RO I w N ∧ WW w ∧ RHc I H ∧ KC I K ∧ (I 223 1 = nI t ∧ ∀ i, i < t → I 224 i &&& nI 255 = B i) ∧ I 227 5 = fk ∧ I 227 6 = fp
def MI (I : Nat → Nat → Int32) (N : Nat → Nat → Nat) (Z : Nat → Nat → Int32) (H : List hT) (K : Option hT) (t : Nat) (B : Nat → Int32) (fk fp : Int32) : Prop := RM I N Z ∧ RHm I H ∧ KM I K ∧ (I 249 23 = nI t ∧ ∀ i, i < t → I 265 i = B i) ∧ I 249 41 = fk ∧ I 249 42 = fp ∧ ∀ i, i < 77 → I 266 i = wdL.getD i 0
def ST (I : Nat → Nat → Int32) (w : Nat → Option Nat) : Prop := ∃ N Z H K t B fk fp, AW N Z H K t B ∧ CI I w N Z H K t B fk fp ∧ MI I N Z H K t B fk fp
/-- a call of both: the class's answer is the model's -/
def OPm (L : Nat) (x : Value) : am_k := fun v g I _ R => ∃ w, v = some x ∧ g = gF L ∧ R = rF w ∧ ST I w
def OPk (L d : Nat) (y : mI) (A : List Value) (r : Nat → Int32) : am_k := fun v g I J R => ∃ x w, v = some x ∧ g = gF L ∧ I 0 = r ∧ R = rF w ∧ ac d y (.ref 249 :: A) (gF L) I J (rF w) (OPm L x)
def OP (L d e : Nat) (y1 y2 : mI) (A : List Value) : Prop := ∀ I J w, ST I w → ac d y1 (.ref 8 :: A) (gF L) I J (rF w) (OPk L e y2 A (I 0))
section INV
variable {d : Nat} {k : am_k} {I I' : Nat → Nat → Int32} {J : Nat → Nat → Int64} {a b e f fk fp : Int32} {L : Nat} {w : Nat → Option Nat} {v p q n u W x y z r t m l o c X Y s i j : Nat} {N N' N1 : Nat → Nat → Nat} {Z Z' Z1 : Nat → Nat → Int32} {H : List hT} {K : Option hT} {B : Nat → Int32}
theorem ROo_fr (h : ROo I o u N) (h0 : I' o 0 = I o 0) (h5 : I' o 5 = I o 5) (h1 : I' (o + 1) = I (o + 1)) (h2 : I' (o + 2) = I (o + 2)) (h3 : I' (o + 3) = I (o + 3)) : ROo I' o u N := by
  unfold ROo
  rw [h0, h5, h1, h2, h3]
  exact h
theorem ROo_N (h : ROo I o u N) (hf : ∀ f, 20 ≤ f → N' f = N f) : ROo I o u N' := by
  unfold ROo
  rw [hf 20 (by omega), hf (25 + u) (by omega), hf (21 + u) (by omega), hf (29 + u) (by omega), hf (33 + u) (by omega)]
  exact h
theorem RO_N (h : RO I w N) (hf : ∀ f, 20 ≤ f → N' f = N f) : RO I w N' := by
  intro u hu
  obtain ⟨o, h1, h2, h3⟩ := h u hu
  exact ⟨o, h1, h2, ROo_N h3 hf⟩
/-- rows of orders -/
def isR (a : Nat) : Prop := (49 ≤ a ∧ a < 69) ∨ (228 ≤ a ∧ a < 233)
theorem RO_fr (h : RO I w N) (hf : ∀ a j, isR a → ¬ (isO a ∧ j = 7) → ¬ isO (a - 4) → I' a j = I a j) : RO I' w N := by
  intro u hu
  obtain ⟨o, h1, h2, h3⟩ := h u hu
  have oo := h2
  unfold isO at oo
  refine ⟨o, h1, h2, ROo_fr h3 ?_ ?_ ?_ ?_ ?_⟩
  · exact hf _ _ (by unfold isR; omega) (by omega) (by unfold isO; omega)
  · exact hf _ _ (by unfold isR; omega) (by omega) (by unfold isO; omega)
  · funext j; exact hf _ _ (by unfold isR; omega) (by unfold isO; omega) (by unfold isO; omega)
  · funext j; exact hf _ _ (by unfold isR; omega) (by unfold isO; omega) (by unfold isO; omega)
  · funext j; exact hf _ _ (by unfold isR; omega) (by unfold isO; omega) (by unfold isO; omega)
theorem RK_fr (h : RK I N Z) (hs : SW N) (hf : ∀ a, 69 ≤ a → a < 109 → I' a = I a) : RK I' N Z := by
  have h10 := hs.2.2.2.2.2.1
  have h20 := hs.2.2.2.2.2.2.1
  obtain ⟨pW, pH, pT, pS, pL, pV, pR, pCr, pWl, pWy, pFo, pSh, pNo, pX, pY, pWe, pSa, pKi, pAn, pDg, pTh, pDr, pSp, pSk, pS0, pSx, pSy, pSt, pRa, pRb, pRl, pRt, pMe, pBa, pBt⟩ := h
  refine ⟨?_, ?_, ?_, ?_, ?_, ?_, ?_, ?_, ?_, ?_, ?_, ?_, ?_, ?_, ?_, ?_, ?_, ?_, ?_, ?_, ?_, ?_, ?_, ?_, ?_, ?_, ?_, ?_, ?_, ?_, ?_, ?_, ?_, ?_, ?_⟩
  · rw [hf _ (by omega) (by omega)]; exact pW
  · rw [hf _ (by omega) (by omega)]; exact pH
  · rw [hf _ (by omega) (by omega)]; exact pT
  · rw [hf _ (by omega) (by omega)]; exact pS
  · rw [hf _ (by omega) (by omega)]; exact pL
  · rw [hf _ (by omega) (by omega)]; exact pV
  · rw [hf _ (by omega) (by omega)]; exact pR
  · intro v hv; rw [hf _ (by omega) (by omega)]; exact pCr v hv
  · intro v hv; rw [hf _ (by omega) (by omega)]; exact pWl v hv
  · intro v hv; rw [hf _ (by omega) (by omega)]; exact pWy v hv
  · intro v hv; rw [hf _ (by omega) (by omega)]; exact pFo v hv
  · intro v hv; rw [hf _ (by omega) (by omega)]; exact pSh v hv
  · intro v hv; rw [hf _ (by omega) (by omega)]; exact pNo v hv
  · intro v hv; rw [hf _ (by omega) (by omega)]; exact pX v hv
  · intro v hv; rw [hf _ (by omega) (by omega)]; exact pY v hv
  · intro v hv; rw [hf _ (by omega) (by omega)]; exact pWe v hv
  · intro v hv; rw [hf _ (by omega) (by omega)]; exact pSa v hv
  · intro v hv; rw [hf _ (by omega) (by omega)]; exact pKi v hv
  · intro v hv; rw [hf _ (by omega) (by omega)]; exact pAn v hv
  · intro v hv; rw [hf _ (by omega) (by omega)]; exact pDg v hv
  · intro v hv; rw [hf _ (by omega) (by omega)]; exact pTh v hv
  · intro v hv; rw [hf _ (by omega) (by omega)]; exact pDr v hv
  · intro v hv; rw [hf _ (by omega) (by omega)]; exact pSp v hv
  · intro v hv; rw [hf _ (by omega) (by omega)]; exact pSk v hv
  · intro v hv h0; rw [hf _ (by omega) (by omega)]; exact pS0 v hv h0
  · intro v hv h0; rw [hf _ (by omega) (by omega)]; exact pSx v hv h0
  · intro v hv h0; rw [hf _ (by omega) (by omega)]; exact pSy v hv h0
  · intro v hv h0; rw [hf _ (by omega) (by omega)]; exact pSt v hv h0
  · intro v hv; rw [hf _ (by omega) (by omega)]; exact pRa v hv
  · intro v hv; rw [hf _ (by omega) (by omega)]; exact pRb v hv
  · intro v hv; rw [hf _ (by omega) (by omega)]; exact pRl v hv
  · intro v hv; rw [hf _ (by omega) (by omega)]; exact pRt v hv
  · intro u v g1 g2; rw [hf _ (by omega) (by omega)]; exact pMe u v g1 g2
  · intro v hv; rw [hf _ (by omega) (by omega)]; exact pBa v hv
  · intro v hv; rw [hf _ (by omega) (by omega)]; exact pBt v hv
theorem KC_fr (h : KC I K) (hK : ∀ p, K = some p → SW p.1) (h8 : I' 8 2 = I 8 2) (hf : ∀ a, 69 ≤ a → a < 129 → I' a = I a) : KC I' K := by
  cases K with
  | none => exact ⟨h8.trans h.1, fun v hv => by rw [hf _ (by omega) (by omega)]; exact h.2 v hv⟩
  | some p =>
    obtain ⟨h1, h2, h3⟩ := h
    refine ⟨h8.trans h1, RK_fr h2 (hK p rfl) (fun a g1 g2 => hf a g1 (by omega)), fun u hu => ?_⟩
    refine ROo_fr (h3 u hu) ?_ ?_ ?_ ?_ ?_
    · rw [hf _ (by omega) (by omega)]
    · rw [hf _ (by omega) (by omega)]
    · rw [hf _ (by omega) (by omega)]
    · rw [hf _ (by omega) (by omega)]
    · rw [hf _ (by omega) (by omega)]
/-- the class's side under a change elsewhere -/
theorem CI_fr (ha : AW N Z H K t B) (h : CI I w N Z H K t B fk fp) (hf : ∀ a, a < 249 → I' a = I a) : CI I' w N Z H K t B fk fp := by
  obtain ⟨h1, h2, h3, h4, h5, h6, h7, h8⟩ := h
  obtain ⟨a1, a2, a3, a4, a5, a6⟩ := ha
  refine ⟨RG_fr h1 a1.2.2.2.2.2.1 a1.2.2.2.2.2.2.1 (fun a _ _ => hf a (by omega)), RO_fr h2 (fun a j g _ _ => by rw [hf a (by unfold isR at g; omega)]), h3, RHc_fr h4 a3 a1 (fun a _ _ => hf a (by omega)), KC_fr h5 (fun p hp => (a4 p hp).1) (by rw [hf 8 (by omega)]) (fun a _ _ => hf a (by omega)), ?_, ?_, ?_⟩
  · rw [hf 223 (by omega), hf 224 (by omega)]; exact h6
  · rw [hf 227 (by omega)]; exact h7
  · rw [hf 227 (by omega)]; exact h8
theorem MI_fr (h : MI I N Z H K t B fk fp) (hf : ∀ a, 249 ≤ a → I' a = I a) : MI I' N Z H K t B fk fp := by
  obtain ⟨h1, h2, h3, h4, h5, h6, h7⟩ := h
  refine ⟨⟨by rw [hf 250 (by omega)]; exact h1.1, RS_fr2 h1.2 (fun a g => hf a (by omega)) (fun j _ => by rw [hf 249 (by omega)])⟩, ?_, ?_, ?_, ?_, ?_, ?_⟩
  · unfold RHm
    rw [hf 249 (by omega), hf 251 (by omega)]
    exact h2
  · cases K with
    | none => show I' 249 49 = 0; rw [hf 249 (by omega)]; exact h3
    | some p => show I' 249 49 = 1 ∧ ∃ I0, RM I0 p.1 p.2 ∧ EN I0 (I' 279); rw [hf 249 (by omega), hf 279 (by omega)]; exact h3
  · rw [hf 249 (by omega), hf 265 (by omega)]; exact h4
  · rw [hf 249 (by omega)]; exact h5
  · rw [hf 249 (by omega)]; exact h6
  · rw [hf 266 (by omega)]; exact h7
/-- the class's ground told anew: the past is forgotten -/
theorem CI_mod (ha : AW N Z H K t B) (h : CI I w N Z H K t B fk fp) (hr : RG I' N' Z') (ho : ∀ f, 20 ≤ f → N' f = N f) (hf : ∀ a, ¬ (9 ≤ a ∧ a < 49) → a ≠ 129 → I' a = I a) (hc : I' 129 1 = 0) (hx : I' 129 2 = I 129 2) : CI I' w N' Z' [] K t B fk fp := by
  obtain ⟨h1, h2, h3, ⟨_, _, x, h4, h4', _⟩, h5, h6, h7, h8⟩ := h
  obtain ⟨a1, a2, a3, a4, a5, a6⟩ := ha
  refine ⟨hr, RO_N (RO_fr h2 (fun a j g _ _ => by rw [hf a (by unfold isR at g; omega) (by unfold isR at g; omega)])) ho, h3, ⟨by rw [hc]; exact nI_0.symm, by simp, x, h4, by rw [hx]; exact h4', fun i p hi => by simp at hi⟩, KC_fr h5 (fun p hp => (a4 p hp).1) (by rw [hf 8 (by omega) (by omega)]) (fun a _ _ => hf a (by omega) (by omega)), ?_, ?_, ?_⟩
  · rw [hf 223 (by omega) (by omega), hf 224 (by omega) (by omega)]; exact h6
  · rw [hf 227 (by omega) (by omega)]; exact h7
  · rw [hf 227 (by omega) (by omega)]; exact h8
/-- the same, the past kept -/
theorem CI_keep (ha : AW N Z H K t B) (h : CI I w N Z H K t B fk fp) (hr : RG I' N' Z') (ho : ∀ f, 20 ≤ f → N' f = N f) (hf : ∀ a, ¬ (9 ≤ a ∧ a < 49) → I' a = I a) : CI I' w N' Z' H K t B fk fp := by
  obtain ⟨h1, h2, h3, h4, h5, h6, h7, h8⟩ := h
  obtain ⟨a1, a2, a3, a4, a5, a6⟩ := ha
  refine ⟨hr, RO_N (RO_fr h2 (fun a j g _ _ => by rw [hf a (by unfold isR at g; omega)])) ho, h3, RHc_fr h4 a3 a1 (fun a _ _ => hf a (by omega)), KC_fr h5 (fun p hp => (a4 p hp).1) (by rw [hf 8 (by omega)]) (fun a _ _ => hf a (by omega)), ?_, ?_, ?_⟩
  · rw [hf 223 (by omega), hf 224 (by omega)]; exact h6
  · rw [hf 227 (by omega)]; exact h7
  · rw [hf 227 (by omega)]; exact h8
theorem MI_mod (h : MI I N Z H K t B fk fp) (hr : RM I' N' Z') (h3 : I' 249 3 = 0) (hf : ∀ j, j = 23 ∨ j = 41 ∨ j = 42 ∨ j = 49 → I' 249 j = I 249 j) (hg : ∀ a, a = 265 ∨ a = 266 ∨ a = 279 → I' a = I a) : MI I' N' Z' [] K t B fk fp := by
  obtain ⟨g1, g2, g3, g4, g5, g6, g7⟩ := h
  refine ⟨hr, ⟨by rw [h3]; exact nI_0.symm, by simp, fun i p hi => by simp at hi⟩, ?_, ?_, ?_, ?_, ?_⟩
  · cases K with
    | none => show I' 249 49 = 0; rw [hf 49 (by omega)]; exact g3
    | some p => show I' 249 49 = 1 ∧ ∃ I0, RM I0 p.1 p.2 ∧ EN I0 (I' 279); rw [hf 49 (by omega), hg 279 (by omega)]; exact g3
  · rw [hf 23 (by omega), hg 265 (by omega)]; exact g4
  · rw [hf 41 (by omega)]; exact g5
  · rw [hf 42 (by omega)]; exact g6
  · rw [hg 266 (by omega)]; exact g7
theorem MI_keep (h : MI I N Z H K t B fk fp) (hr : RM I' N' Z') (hh : RHm I' H) (hf : ∀ j, j = 23 ∨ j = 41 ∨ j = 42 ∨ j = 49 → I' 249 j = I 249 j) (hg : ∀ a, a = 265 ∨ a = 266 ∨ a = 279 → I' a = I a) : MI I' N' Z' H K t B fk fp := by
  obtain ⟨g1, g2, g3, g4, g5, g6, g7⟩ := h
  refine ⟨hr, hh, ?_, ?_, ?_, ?_, ?_⟩
  · cases K with
    | none => show I' 249 49 = 0; rw [hf 49 (by omega)]; exact g3
    | some p => show I' 249 49 = 1 ∧ ∃ I0, RM I0 p.1 p.2 ∧ EN I0 (I' 279); rw [hf 49 (by omega), hg 279 (by omega)]; exact g3
  · rw [hf 23 (by omega), hg 265 (by omega)]; exact g4
  · rw [hf 41 (by omega)]; exact g5
  · rw [hf 42 (by omega)]; exact g6
  · rw [hg 266 (by omega)]; exact g7
/-- only the model's own mark was written -/
theorem MI_0 (h : MI I N Z H K t B fk fp) : MI (am_up I 249 0 b) N Z H K t B fk fp := MI_keep h (RM_0 h.1) (RHm_0 h.2.1) (fun j hj => upI (by omega)) (fun a ha => upR (by omega))
theorem AW_mod (ha : AW N Z H K t B) (hs : SW N') (hd : DW N' Z') : AW N' Z' [] K t B := ⟨hs, hd, fun p hp => absurd hp List.not_mem_nil, ha.2.2.2⟩
theorem ST_same (ha : AW N Z H K t B) (hc : CI I w N Z H K t B fk fp) (hm : MI I N Z H K t B fk fp) : ST (am_up I 249 0 0) w := ⟨N, Z, H, K, t, B, fk, fp, ha, CI_fr ha hc (fun a h => upR (by omega)), MI_0 hm⟩
end INV
