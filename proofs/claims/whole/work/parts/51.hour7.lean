def saS (N : Nat → Nat → Nat) (Z : Nat → Nat → Int32) (v y x : Nat) : Nat × (Nat → Nat → Nat) × (Nat → Nat → Int32) := slS v y (stN (N 4 v) (N 5 v) y x) N Z
def mtB (N : Nat → Nat → Nat) (i : Nat) : Bool := decide (i / 10 < N 0 4 ∧ i % 10 < N 0 4 ∧ ¬ i / 10 = i % 10 ∧ farN (cN N (i / 10)) (cN N (i % 10)) ≤ 1)
def mtZ (N : Nat → Nat → Nat) (Z : Nat → Nat → Int32) (m : Nat) : Nat → Nat → Int32 := fun f i => if f = 6 ∧ i < m ∧ mtB N i = true then Z f i + 1 else Z f i
def meS (N : Nat → Nat → Nat) (Z : Nat → Nat → Int32) : Nat → Nat → Int32 := fun f i => if f = 6 ∧ mtB N i = true then Z f i + 1 else Z f i
def wlP (N : Nat → Nat → Nat) (q i : Nat) : Prop := ∃ c, c < i ∧ N 8 c = 1 ∧ farN c q ≤ 1
noncomputable def wlB (N : Nat → Nat → Nat) (q : Nat) : Bool := @decide (wlP N q 144) (Classical.propDecidable _)
noncomputable def thZ (N : Nat → Nat → Nat) (Z : Nat → Nat → Int32) (v : Nat) : Nat → Nat → Int32 := if wlB N (cN N v) = true then am_up Z 2 v 0 else if Z 2 v + 1 = nI (N 0 3 + 1) then am_up (am_up Z 2 v (Z 2 v + 1)) 3 v (Z 3 v + 1) else am_up Z 2 v (Z 2 v + 1)
def drB (s : Int32) (sh : Nat) : Bool := decide (drV (drw s) - drV (drw s) / nI 10 * nI 10 < nI sh)
def wyN (N : Nat → Nat → Nat) (Z : Nat → Nat → Int32) : Nat := if 0 < N 11 (N 0 2 % 24) ∧ drB (Z 0 0) (N 11 (N 0 2 % 24)) = true then (N 9 (N 0 2 % 24) + 1) % 8 else N 9 (N 0 2 % 24)
def dZ (N : Nat → Nat → Nat) (Z : Nat → Nat → Int32) : Nat → Nat → Int32 := if 0 < N 11 (N 0 2 % 24) then am_up Z 0 0 (drw (Z 0 0)) else Z
def goB (N : Nat → Nat → Nat) (Z : Nat → Nat → Int32) (v y x : Nat) : Bool := decide (N 6 v = 0 ∧ ¬ nI (N 0 2) < Z 1 v ∧ toB N Z v y x = true)
def vlS (y x : Nat) : Nat → Nat → (Nat → Nat → Nat) → (Nat → Nat → Int32) → Nat × (Nat → Nat → Nat) × (Nat → Nat → Int32)
  | 0, _, N, Z => (0, N, Z)
  | m + 1, v, N, Z => if goB N Z v y x = true then ((saS N Z v y x).1 + (vlS y x m (v + 1) (saS N Z v y x).2.1 (stp (saS N Z v y x).2.2 v (saS N Z v y x).1)).1, (vlS y x m (v + 1) (saS N Z v y x).2.1 (stp (saS N Z v y x).2.2 v (saS N Z v y x).1)).2) else vlS y x m (v + 1) N Z
noncomputable def thL (N : Nat → Nat → Nat) : Nat → Nat → (Nat → Nat → Int32) → (Nat → Nat → Int32)
  | 0, _, Z => Z
  | m + 1, v, Z => thL N m (v + 1) (thZ N Z v)
def vlA (N : Nat → Nat → Nat) (Z : Nat → Nat → Int32) : Nat × (Nat → Nat → Nat) × (Nat → Nat → Int32) := vlS (wyN N Z) (N 10 (N 0 2 % 24)) (N 0 4) 0 N (dZ N Z)
/-- an hour -/
noncomputable def hrS (N : Nat → Nat → Nat) (Z : Nat → Nat → Int32) : Nat × (Nat → Nat → Nat) × (Nat → Nat → Int32) := ((vlA N Z).1, am_up (vlA N Z).2.1 0 2 (N 0 2 + 1), thL (vlA N Z).2.1 (N 0 4) 0 (meS (vlA N Z).2.1 (vlA N Z).2.2))
section HOUR7
variable {I : Nat → Nat → Int32} {a b e f : Int32} {v p q n u W H x y z r t m l o c : Nat} {N : Nat → Nat → Nat} {Z : Nat → Nat → Int32}
theorem dst_c : dst p q = dst q p := by unfold dst; omega
theorem farN_c : farN p q = farN q p := by
  unfold farN
  rw [dst_c (p := p % 12), dst_c (p := p / 12)]
theorem mtB_c (ha : p < 10) (hb : q < 10) : mtB N (10 * p + q) = mtB N (10 * q + p) := by
  unfold mtB
  rw [decide_eq_decide]
  rw [show (10 * p + q) / 10 = p by omega, show (10 * p + q) % 10 = q by omega, show (10 * q + p) / 10 = q by omega, show (10 * q + p) % 10 = p by omega, farN_c (p := cN N p)]
  constructor
  · exact fun h => ⟨h.2.1, h.1, fun e => h.2.2.1 e.symm, h.2.2.2⟩
  · exact fun h => ⟨h.2.1, h.1, fun e => h.2.2.1 e.symm, h.2.2.2⟩
theorem mtZ_s (h : mtB N m = true) : am_up (mtZ N Z m) 6 m (mtZ N Z m 6 m + 1) = mtZ N Z (m + 1) := by
  funext f i
  by_cases e : f = 6
  · subst e
    by_cases e2 : i = m
    · subst e2
      rw [upS]
      simp [mtZ, h]
    · rw [upI e2]
      have e3 : (i < m + 1) = (i < m) := propext ⟨fun z => by omega, fun z => by omega⟩
      simp only [mtZ, e3]
  · rw [upA e]
    simp [mtZ, e]
theorem mtZ_n (h : ¬ mtB N m = true) : mtZ N Z m = mtZ N Z (m + 1) := by
  funext f i
  unfold mtZ
  by_cases e2 : i = m
  · subst e2
    simp [h]
  · have e3 : (i < m + 1) = (i < m) := propext ⟨fun z => by omega, fun z => by omega⟩
    simp only [e3]
theorem mtZ_gap (h10 : N 0 4 ≤ 10) : mtZ N Z (10 * u + N 0 4) = mtZ N Z (10 * (u + 1)) := by
  funext f i
  unfold mtZ
  by_cases h : mtB N i = true
  · have h2 := h
    unfold mtB at h2
    rw [decide_eq_true_eq] at h2
    have e3 : (i < 10 * u + N 0 4) = (i < 10 * (u + 1)) := propext ⟨fun z => by omega, fun z => by omega⟩
    simp only [e3]
  · simp only [h, and_false, Bool.false_eq_true]
theorem mtZ_end : mtZ N Z (10 * N 0 4) = meS N Z := by
  funext f i
  unfold mtZ meS
  by_cases h : mtB N i = true
  · have h2 := h
    unfold mtB at h2
    rw [decide_eq_true_eq] at h2
    have e3 : (i < 10 * N 0 4) = True := eq_true (by omega)
    simp only [e3, true_and]
  · simp only [h, and_false, Bool.false_eq_true]
theorem mtZ_0 : mtZ N Z 0 = Z := by
  funext f i
  unfold mtZ
  simp
theorem DW_me (hd : DW N Z) : DW N (meS N Z) := by
  obtain ⟨dxy, dcr, drt, dtm, dz, dme⟩ := hd
  refine ⟨dxy, dcr, drt, dtm, ?_, ?_⟩
  · intro u h1 h2
    have := dz u h1 h2
    simpa [meS] using this
  · intro i j h1 h2
    unfold meS
    rw [mtB_c h1 h2, dme i j h1 h2]
theorem DW_th (hd : DW N Z) (hv : v < N 0 4) : DW N (thZ N Z v) := by
  unfold thZ
  split
  · exact DW_Z hd hv (by decide)
  · split
    · exact DW_Z (DW_Z hd hv (by decide)) hv (by decide)
    · exact DW_Z hd hv (by decide)
theorem DW_thL : ∀ m v Z, v + m = N 0 4 → DW N Z → DW N (thL N m v Z) := by
  intro m
  induction m with
  | zero => intro v Z _ h; exact h
  | succ m ih => intro v Z hv h; exact ih (v + 1) _ (by omega) (DW_th h (by omega))
theorem sl_ES : ∀ m (N : Nat → Nat → Nat) Z, ES N (slS v y m N Z).2.1 := by
  intro m
  induction m with
  | zero => intro N Z; exact ES_r N
  | succ m ih =>
    intro N Z
    simp only [slS]
    split
    · exact ES_r N
    · split
      · exact ES_r N
      · split
        · split
          · exact ES_t rpS_ES ES_sp2
          · exact ES_t (ES_t rpS_ES ES_sp2) (ih _ _)
        · exact rpS_ES
theorem ES_04 {N' : Nat → Nat → Nat} (h : ES N N') : N' 0 4 = N 0 4 := h 0 4 (by decide) (by decide) (by decide) (by decide) (by omega)
theorem sl_DW : ∀ m (N : Nat → Nat → Nat) Z, SW N → v < N 0 4 → DW N Z → DW (slS v y m N Z).2.1 (slS v y m N Z).2.2 := by
  intro m
  induction m with
  | zero => intro N Z _ _ h; exact h
  | succ m ih =>
    intro N Z hs hv h
    have hs2 := hs
    obtain ⟨sW3, sW, sH3, sH, sL, sV, sR, sv, sh, sr, sw, ss, so⟩ := hs
    simp only [slS]
    split
    · exact h
    · rename_i c hx
      have bc := nxt_b hx sW sH
      have f0 := rpS_f (v := v) (c := c) (N 0 5) 0 N 0 0 (by decide)
      have f1 := rpS_f (v := v) (c := c) (N 0 5) 0 N 0 1 (by decide)
      have d1 : DW (sp2 (rpS v c (N 0 5) 0 N).2 v c) Z := DW_sp2 (rpS_DW _ _ _ h) (by rw [f0]; exact bc.1) (by rw [f1]; exact bc.2.1)
      have es : ES N (sp2 (rpS v c (N 0 5) 0 N).2 v c) := ES_t rpS_ES ES_sp2
      have e4 := ES_04 es
      split
      · exact h
      · split
        · split
          · have hv4 : v < sp2 (rpS v c (N 0 5) 0 N).2 v c 0 4 := by rw [e4]; exact hv
            exact DW_Z (DW_Z d1 hv4 (by decide)) hv4 (by decide)
          · exact ih _ _ (ES_SW es hs2) (by rw [e4]; exact hv) d1
        · exact rpS_DW _ _ _ h
theorem vl_ES : ∀ m v (N : Nat → Nat → Nat) Z, ES N (vlS y x m v N Z).2.1 := by
  intro m
  induction m with
  | zero => intro v N Z; exact ES_r N
  | succ m ih =>
    intro v N Z
    simp only [vlS]
    split
    · exact ES_t (sl_ES _ _ _) (ih _ _ _)
    · exact ih _ _ _
theorem sl_T : ∀ m (N : Nat → Nat → Nat) Z, (slS v y m N Z).2.1 0 2 = N 0 2 := by
  intro m
  induction m with
  | zero => intro N Z; rfl
  | succ m ih =>
    intro N Z
    simp only [slS]
    split
    · rfl
    · rename_i c hx
      have e : sp2 (rpS v c (N 0 5) 0 N).2 v c 0 2 = N 0 2 := by
        unfold sp2
        simp (disch := omega) only [upA]
        exact rpS_f _ _ _ _ _ (by decide)
      split
      · rfl
      · split
        · split
          · exact e
          · rw [ih]; exact e
        · exact rpS_f _ _ _ _ _ (by decide)
theorem vl_T : ∀ m v (N : Nat → Nat → Nat) Z, (vlS y x m v N Z).2.1 0 2 = N 0 2 := by
  intro m
  induction m with
  | zero => intro v N Z; rfl
  | succ m ih =>
    intro v N Z
    simp only [vlS]
    split
    · rw [ih]; exact sl_T _ _ _
    · exact ih _ _ _
theorem vl_DW : ∀ m v (N : Nat → Nat → Nat) Z, SW N → v + m = N 0 4 → DW N Z → DW (vlS y x m v N Z).2.1 (vlS y x m v N Z).2.2 := by
  intro m
  induction m with
  | zero => intro v N Z _ _ h; exact h
  | succ m ih =>
    intro v N Z hs hv h
    have es : ES N (saS N Z v y x).2.1 := sl_ES _ _ _
    have e4 := ES_04 es
    simp only [vlS]
    split
    · exact ih _ _ _ (ES_SW es hs) (by rw [e4]; omega) (DW_stp (sl_DW _ _ _ hs (by omega) h) (by rw [e4]; omega))
    · exact ih _ _ _ hs (by omega) h
theorem DW_d (hd : DW N Z) : DW N (dZ N Z) := by
  unfold dZ
  split
  · obtain ⟨dxy, dcr, drt, dtm, dz, dme⟩ := hd
    refine ⟨dxy, dcr, drt, dtm, ?_, ?_⟩
    · intro u h1 h2
      simp (disch := omega) only [upA]
      exact dz u h1 h2
    · intro i j h1 h2
      simp (disch := omega) only [upA]
      exact dme i j h1 h2
  · exact hd
theorem DW_T (hd : DW N Z) (hq : q ≤ 9999) : DW (am_up N 0 2 q) Z := by
  obtain ⟨dxy, dcr, drt, dtm, dz, dme⟩ := hd
  refine ⟨?_, ?_, ?_, ?_, ?_, dme⟩
  · intro v hv
    simp (disch := omega) only [upA, upJ] at hv ⊢
    exact dxy v hv
  · intro c hc
    simp (disch := omega) only [upA]
    exact dcr c hc
  · intro c hc
    simp (disch := omega) only [upA]
    exact drt c hc
  · simp only [upS]; exact hq
  · intro v hv
    simp (disch := omega) only [upJ] at hv
    exact dz v hv
theorem hr_ES : ES N (hrS N Z).2.1 := ES_t (vl_ES _ _ _ _) (ES_up (by omega))
theorem hr_T : (hrS N Z).2.1 0 2 = N 0 2 + 1 := by
  show am_up (vlA N Z).2.1 0 2 (N 0 2 + 1) 0 2 = _
  exact upS
theorem hr_DW (hs : SW N) (hd : DW N Z) (ht : N 0 2 < 9999) : DW (hrS N Z).2.1 (hrS N Z).2.2 := by
  have es : ES N (vlA N Z).2.1 := vl_ES _ _ _ _
  have e4 := ES_04 es
  have d1 : DW (vlA N Z).2.1 (vlA N Z).2.2 := vl_DW _ _ _ _ hs (by omega) (DW_d hd)
  exact DW_T (DW_thL _ _ _ (by rw [e4]; omega) (DW_me d1)) (by omega)
end HOUR7
