section WELL
variable {I : Nat → Nat → Int32} {N N2 : Nat → Nat → Nat} {Z Z2 : Nat → Nat → Int32} {i j q a p n v x y z r u W H c : Nat} {b : Int32}
theorem OW_c (h : OW N) (hf : ∀ f, 20 ≤ f → N2 f = N f) : OW N2 := by
  intro k hk
  rw [hf 20 (by omega), hf (25 + k) (by omega), hf (21 + k) (by omega), hf (29 + k) (by omega), hf (33 + k) (by omega)]
  exact h k hk
theorem SW_Cr (hs : SW N) : SW (am_up N 7 i q) := ES_SW (ES_up (by omega)) hs
theorem SW_Wl (hs : SW N) (hi : i < 144) (hq : q ≤ 1) (h1 : i % 12 < N 0 0) (h2 : i / 12 < N 0 1) : SW (am_up N 8 i q) := by
  obtain ⟨sW3, sW, sH3, sH, sL, sV, sR, sv, sh, sr, sw, ss, so⟩ := hs
  refine ⟨?_, ?_, ?_, ?_, ?_, ?_, ?_, ?_, ?_, ?_, ?_, ?_, ?_⟩
  · simp (disch := omega) only [upA, upJ, upS]
    omega
  · simp (disch := omega) only [upA, upJ, upS]
    omega
  · simp (disch := omega) only [upA, upJ, upS]
    omega
  · simp (disch := omega) only [upA, upJ, upS]
    omega
  · simp (disch := omega) only [upA, upJ, upS]
    omega
  · simp (disch := omega) only [upA, upJ, upS]
    omega
  · simp (disch := omega) only [upA, upJ, upS]
    omega
  · intro m hm
    (try simp (disch := omega) only [upA, upJ] at hm)
    have q := sv m hm
    simp (disch := omega) only [upA, upJ]
    exact q
  · intro m hm
    (try simp (disch := omega) only [upA, upJ] at hm)
    have q := sh m hm
    simp (disch := omega) only [upA, upJ]
    exact q
  · intro m hm
    (try simp (disch := omega) only [upA, upJ] at hm)
    have q := sr m hm
    simp (disch := omega) only [upA, upJ]
    exact q
  · intro m hm
    (try simp (disch := omega) only [upA, upJ] at hm)
    have q1 := sw m hm
    by_cases e : m = i
    · subst e; simp (disch := omega) only [upS, upA, upI, upJ]; omega
    · simp (disch := omega) only [upA, upJ]; exact q1
  · intro m hm
    (try simp (disch := omega) only [upA, upJ] at hm)
    have q := ss m hm
    simp (disch := omega) only [upA, upJ]
    exact q
  · exact OW_c so (fun f hf => by simp (disch := omega) only [upR])
theorem SW_Wi (hs : SW N) (h1 : x < 8) (h2 : y ≤ 3) (h3 : z ≤ 10) : SW (am_up (am_up (am_up N 9 i x) 10 i y) 11 i z) := by
  obtain ⟨sW3, sW, sH3, sH, sL, sV, sR, sv, sh, sr, sw, ss, so⟩ := hs
  refine ⟨?_, ?_, ?_, ?_, ?_, ?_, ?_, ?_, ?_, ?_, ?_, ?_, ?_⟩
  · simp (disch := omega) only [upA, upJ, upS]
    omega
  · simp (disch := omega) only [upA, upJ, upS]
    omega
  · simp (disch := omega) only [upA, upJ, upS]
    omega
  · simp (disch := omega) only [upA, upJ, upS]
    omega
  · simp (disch := omega) only [upA, upJ, upS]
    omega
  · simp (disch := omega) only [upA, upJ, upS]
    omega
  · simp (disch := omega) only [upA, upJ, upS]
    omega
  · intro m hm
    (try simp (disch := omega) only [upA, upJ] at hm)
    have q := sv m hm
    simp (disch := omega) only [upA, upJ]
    exact q
  · intro m hm
    (try simp (disch := omega) only [upA, upJ] at hm)
    have q1 := sh m hm
    by_cases e : m = i
    · subst e; simp (disch := omega) only [upS, upA, upI, upJ]; omega
    · simp (disch := omega) only [upA, upJ]; exact q1
  · intro m hm
    (try simp (disch := omega) only [upA, upJ] at hm)
    have q := sr m hm
    simp (disch := omega) only [upA, upJ]
    exact q
  · intro m hm
    (try simp (disch := omega) only [upA, upJ] at hm)
    have q := sw m hm
    simp (disch := omega) only [upA, upJ]
    exact q
  · intro m hm
    (try simp (disch := omega) only [upA, upJ] at hm)
    have q := ss m hm
    simp (disch := omega) only [upA, upJ]
    exact q
  · exact OW_c so (fun f hf => by simp (disch := omega) only [upR])
theorem SW_An (hs : SW N) (hq : q ≤ 1) : SW (am_up N 6 i q) := by
  obtain ⟨sW3, sW, sH3, sH, sL, sV, sR, sv, sh, sr, sw, ss, so⟩ := hs
  refine ⟨?_, ?_, ?_, ?_, ?_, ?_, ?_, ?_, ?_, ?_, ?_, ?_, ?_⟩
  · simp (disch := omega) only [upA, upJ, upS]
    omega
  · simp (disch := omega) only [upA, upJ, upS]
    omega
  · simp (disch := omega) only [upA, upJ, upS]
    omega
  · simp (disch := omega) only [upA, upJ, upS]
    omega
  · simp (disch := omega) only [upA, upJ, upS]
    omega
  · simp (disch := omega) only [upA, upJ, upS]
    omega
  · simp (disch := omega) only [upA, upJ, upS]
    omega
  · intro m hm
    (try simp (disch := omega) only [upA, upJ] at hm)
    have q1 := sv m hm
    by_cases e : m = i
    · subst e; simp (disch := omega) only [upS, upA, upI, upJ]; omega
    · simp (disch := omega) only [upA, upJ]; exact q1
  · intro m hm
    (try simp (disch := omega) only [upA, upJ] at hm)
    have q := sh m hm
    simp (disch := omega) only [upA, upJ]
    exact q
  · intro m hm
    (try simp (disch := omega) only [upA, upJ] at hm)
    have q := sr m hm
    simp (disch := omega) only [upA, upJ]
    exact q
  · intro m hm
    (try simp (disch := omega) only [upA, upJ] at hm)
    have q := sw m hm
    simp (disch := omega) only [upA, upJ]
    exact q
  · intro m hm
    (try simp (disch := omega) only [upA, upJ] at hm)
    have q := ss m hm
    simp (disch := omega) only [upA, upJ]
    exact q
  · exact OW_c so (fun f hf => by simp (disch := omega) only [upR])
theorem SW_Sa (hs : SW N) (hq : q ≤ 3) : SW (am_up N 4 i q) := by
  obtain ⟨sW3, sW, sH3, sH, sL, sV, sR, sv, sh, sr, sw, ss, so⟩ := hs
  refine ⟨?_, ?_, ?_, ?_, ?_, ?_, ?_, ?_, ?_, ?_, ?_, ?_, ?_⟩
  · simp (disch := omega) only [upA, upJ, upS]
    omega
  · simp (disch := omega) only [upA, upJ, upS]
    omega
  · simp (disch := omega) only [upA, upJ, upS]
    omega
  · simp (disch := omega) only [upA, upJ, upS]
    omega
  · simp (disch := omega) only [upA, upJ, upS]
    omega
  · simp (disch := omega) only [upA, upJ, upS]
    omega
  · simp (disch := omega) only [upA, upJ, upS]
    omega
  · intro m hm
    (try simp (disch := omega) only [upA, upJ] at hm)
    have q1 := sv m hm
    by_cases e : m = i
    · subst e; simp (disch := omega) only [upS, upA, upI, upJ]; omega
    · simp (disch := omega) only [upA, upJ]; exact q1
  · intro m hm
    (try simp (disch := omega) only [upA, upJ] at hm)
    have q := sh m hm
    simp (disch := omega) only [upA, upJ]
    exact q
  · intro m hm
    (try simp (disch := omega) only [upA, upJ] at hm)
    have q := sr m hm
    simp (disch := omega) only [upA, upJ]
    exact q
  · intro m hm
    (try simp (disch := omega) only [upA, upJ] at hm)
    have q := sw m hm
    simp (disch := omega) only [upA, upJ]
    exact q
  · intro m hm
    (try simp (disch := omega) only [upA, upJ] at hm)
    have q := ss m hm
    simp (disch := omega) only [upA, upJ]
    exact q
  · exact OW_c so (fun f hf => by simp (disch := omega) only [upR])
theorem SW_We (hs : SW N) (hq : q ≤ 99) : SW (am_up N 3 i q) := by
  obtain ⟨sW3, sW, sH3, sH, sL, sV, sR, sv, sh, sr, sw, ss, so⟩ := hs
  refine ⟨?_, ?_, ?_, ?_, ?_, ?_, ?_, ?_, ?_, ?_, ?_, ?_, ?_⟩
  · simp (disch := omega) only [upA, upJ, upS]
    omega
  · simp (disch := omega) only [upA, upJ, upS]
    omega
  · simp (disch := omega) only [upA, upJ, upS]
    omega
  · simp (disch := omega) only [upA, upJ, upS]
    omega
  · simp (disch := omega) only [upA, upJ, upS]
    omega
  · simp (disch := omega) only [upA, upJ, upS]
    omega
  · simp (disch := omega) only [upA, upJ, upS]
    omega
  · intro m hm
    (try simp (disch := omega) only [upA, upJ] at hm)
    have q1 := sv m hm
    by_cases e : m = i
    · subst e; simp (disch := omega) only [upS, upA, upI, upJ]; omega
    · simp (disch := omega) only [upA, upJ]; exact q1
  · intro m hm
    (try simp (disch := omega) only [upA, upJ] at hm)
    have q := sh m hm
    simp (disch := omega) only [upA, upJ]
    exact q
  · intro m hm
    (try simp (disch := omega) only [upA, upJ] at hm)
    have q := sr m hm
    simp (disch := omega) only [upA, upJ]
    exact q
  · intro m hm
    (try simp (disch := omega) only [upA, upJ] at hm)
    have q := sw m hm
    simp (disch := omega) only [upA, upJ]
    exact q
  · intro m hm
    (try simp (disch := omega) only [upA, upJ] at hm)
    have q := ss m hm
    simp (disch := omega) only [upA, upJ]
    exact q
  · exact OW_c so (fun f hf => by simp (disch := omega) only [upR])
theorem SW_Li (hs : SW N) (hq : q ≤ 99) : SW (am_up N 0 3 q) := by
  obtain ⟨sW3, sW, sH3, sH, sL, sV, sR, sv, sh, sr, sw, ss, so⟩ := hs
  refine ⟨?_, ?_, ?_, ?_, ?_, ?_, ?_, ?_, ?_, ?_, ?_, ?_, ?_⟩
  · simp (disch := omega) only [upA, upJ, upS]
    omega
  · simp (disch := omega) only [upA, upJ, upS]
    omega
  · simp (disch := omega) only [upA, upJ, upS]
    omega
  · simp (disch := omega) only [upA, upJ, upS]
    omega
  · simp (disch := omega) only [upA, upJ, upS]
    omega
  · simp (disch := omega) only [upA, upJ, upS]
    omega
  · simp (disch := omega) only [upA, upJ, upS]
    omega
  · intro m hm
    (try simp (disch := omega) only [upA, upJ] at hm)
    have q := sv m hm
    simp (disch := omega) only [upA, upJ]
    exact q
  · intro m hm
    (try simp (disch := omega) only [upA, upJ] at hm)
    have q := sh m hm
    simp (disch := omega) only [upA, upJ]
    exact q
  · intro m hm
    (try simp (disch := omega) only [upA, upJ] at hm)
    have q := sr m hm
    simp (disch := omega) only [upA, upJ]
    exact q
  · intro m hm
    (try simp (disch := omega) only [upA, upJ] at hm)
    have q := sw m hm
    simp (disch := omega) only [upA, upJ]
    exact q
  · intro m hm
    (try simp (disch := omega) only [upA, upJ] at hm)
    have q := ss m hm
    simp (disch := omega) only [upA, upJ]
    exact q
  · exact OW_c so (fun f hf => by simp (disch := omega) only [upR])
theorem SW_Vi (hs : SW N) (hn : N 0 4 = n) (hn2 : n < 10) (hz : z ≤ 99) (hv : v ≤ 3) (hq : q ≤ 3) : SW (am_up (am_up (am_up (am_up (am_up (am_up (am_up N 1 n x) 2 n y) 3 n z) 4 n v) 5 n q) 6 n 0) 0 4 (n + 1)) := by
  obtain ⟨sW3, sW, sH3, sH, sL, sV, sR, sv, sh, sr, sw, ss, so⟩ := hs
  refine ⟨?_, ?_, ?_, ?_, ?_, ?_, ?_, ?_, ?_, ?_, ?_, ?_, ?_⟩
  · simp (disch := omega) only [upA, upJ, upS]
    omega
  · simp (disch := omega) only [upA, upJ, upS]
    omega
  · simp (disch := omega) only [upA, upJ, upS]
    omega
  · simp (disch := omega) only [upA, upJ, upS]
    omega
  · simp (disch := omega) only [upA, upJ, upS]
    omega
  · simp (disch := omega) only [upA, upJ, upS]
    omega
  · simp (disch := omega) only [upA, upJ, upS]
    omega
  · intro m hm
    (try simp (disch := omega) only [upA, upJ] at hm)
    have q1 := sv m hm
    by_cases e : m = n
    · subst e; simp (disch := omega) only [upS, upA, upI, upJ]; omega
    · simp (disch := omega) only [upA, upJ]; exact q1
  · intro m hm
    (try simp (disch := omega) only [upA, upJ] at hm)
    have q := sh m hm
    simp (disch := omega) only [upA, upJ]
    exact q
  · intro m hm
    simp (disch := omega) only [upA, upJ] at hm
    have q1 := sr m hm
    simp (disch := omega) only [upA, upJ, upS]
    omega
  · intro m hm
    (try simp (disch := omega) only [upA, upJ] at hm)
    have q := sw m hm
    simp (disch := omega) only [upA, upJ]
    exact q
  · intro m hm
    have q1 := ss m hm
    simp (disch := omega) only [upA, upJ, upS]
    exact ⟨fun h => ⟨by have := (q1.1 h).1; omega, (q1.1 h).2⟩, q1.2⟩
  · exact OW_c so (fun f hf => by simp (disch := omega) only [upR])
theorem SW_Ro (hs : SW N) (hr : N 0 5 = r) (hr2 : r < 20) (hv : v < N 0 4) (hu : u < N 0 4) (hvu : ¬ v = u) (hz : z ≤ 12) : SW (am_up (am_up (am_up (am_up (am_up N 12 r v) 13 r u) 14 r z) 15 r 0) 0 5 (r + 1)) := by
  obtain ⟨sW3, sW, sH3, sH, sL, sV, sR, sv, sh, sr, sw, ss, so⟩ := hs
  refine ⟨?_, ?_, ?_, ?_, ?_, ?_, ?_, ?_, ?_, ?_, ?_, ?_, ?_⟩
  · simp (disch := omega) only [upA, upJ, upS]
    omega
  · simp (disch := omega) only [upA, upJ, upS]
    omega
  · simp (disch := omega) only [upA, upJ, upS]
    omega
  · simp (disch := omega) only [upA, upJ, upS]
    omega
  · simp (disch := omega) only [upA, upJ, upS]
    omega
  · simp (disch := omega) only [upA, upJ, upS]
    omega
  · simp (disch := omega) only [upA, upJ, upS]
    omega
  · intro m hm
    (try simp (disch := omega) only [upA, upJ] at hm)
    have q := sv m hm
    simp (disch := omega) only [upA, upJ]
    exact q
  · intro m hm
    (try simp (disch := omega) only [upA, upJ] at hm)
    have q := sh m hm
    simp (disch := omega) only [upA, upJ]
    exact q
  · intro m hm
    simp (disch := omega) only [upA, upJ, upS] at hm
    by_cases e : m = r
    · subst e; simp (disch := omega) only [upS, upA, upI, upJ]; omega
    · have q1 := sr m (by omega)
      simp (disch := omega) only [upA, upJ]; exact q1
  · intro m hm
    (try simp (disch := omega) only [upA, upJ] at hm)
    have q := sw m hm
    simp (disch := omega) only [upA, upJ]
    exact q
  · intro m hm
    (try simp (disch := omega) only [upA, upJ] at hm)
    have q := ss m hm
    simp (disch := omega) only [upA, upJ]
    exact q
  · exact OW_c so (fun f hf => by simp (disch := omega) only [upR])
theorem SW_Se (hs : SW N) (hv : v < N 0 4) (h1 : x < N 0 0) (h2 : y < N 0 1) (h3 : N 0 0 ≤ 12) (hz : z ≤ 9999) : SW (am_up (am_up N 16 v (12 * y + x + 1)) 17 v z) := by
  obtain ⟨sW3, sW, sH3, sH, sL, sV, sR, sv, sh, sr, sw, ss, so⟩ := hs
  refine ⟨?_, ?_, ?_, ?_, ?_, ?_, ?_, ?_, ?_, ?_, ?_, ?_, ?_⟩
  · simp (disch := omega) only [upA, upJ, upS]
    omega
  · simp (disch := omega) only [upA, upJ, upS]
    omega
  · simp (disch := omega) only [upA, upJ, upS]
    omega
  · simp (disch := omega) only [upA, upJ, upS]
    omega
  · simp (disch := omega) only [upA, upJ, upS]
    omega
  · simp (disch := omega) only [upA, upJ, upS]
    omega
  · simp (disch := omega) only [upA, upJ, upS]
    omega
  · intro m hm
    (try simp (disch := omega) only [upA, upJ] at hm)
    have q := sv m hm
    simp (disch := omega) only [upA, upJ]
    exact q
  · intro m hm
    (try simp (disch := omega) only [upA, upJ] at hm)
    have q := sh m hm
    simp (disch := omega) only [upA, upJ]
    exact q
  · intro m hm
    (try simp (disch := omega) only [upA, upJ] at hm)
    have q := sr m hm
    simp (disch := omega) only [upA, upJ]
    exact q
  · intro m hm
    (try simp (disch := omega) only [upA, upJ] at hm)
    have q := sw m hm
    simp (disch := omega) only [upA, upJ]
    exact q
  · intro m hm
    have q1 := ss m hm
    by_cases e : m = v
    · subst e; simp (disch := omega) only [upS, upA, upI, upJ]; omega
    · simp (disch := omega) only [upA, upJ]; exact q1
  · exact OW_c so (fun f hf => by simp (disch := omega) only [upR])
theorem DW_Cr (hd : DW N Z) (hq : q ≤ 99) : DW (am_up N 7 i q) (Z) := by
  obtain ⟨dxy, dcr, drt, dtm, dz, dme⟩ := hd
  refine ⟨?_, ?_, ?_, ?_, ?_, ?_⟩
  · intro m hm
    (try simp (disch := omega) only [upA, upJ] at hm)
    have q := dxy m hm
    (try simp (disch := omega) only [upA, upJ])
    exact q
  · intro m hm
    by_cases e : m = i
    · subst e; rw [upS]; exact hq
    · rw [upI e]; exact dcr m hm
  · intro m hm
    (try simp (disch := omega) only [upA, upJ] at hm)
    have q := drt m hm
    (try simp (disch := omega) only [upA, upJ])
    exact q
  · (try simp (disch := omega) only [upA, upJ])
    exact dtm
  · intro m h1 h2
    (try simp (disch := omega) only [upA, upJ] at h1)
    exact dz m h1 h2
  · exact dme
theorem DW_Wl (hd : DW N Z)  : DW (am_up N 8 i q) (Z) := by
  obtain ⟨dxy, dcr, drt, dtm, dz, dme⟩ := hd
  refine ⟨?_, ?_, ?_, ?_, ?_, ?_⟩
  · intro m hm
    (try simp (disch := omega) only [upA, upJ] at hm)
    have q := dxy m hm
    (try simp (disch := omega) only [upA, upJ])
    exact q
  · intro m hm
    (try simp (disch := omega) only [upA, upJ] at hm)
    have q := dcr m hm
    (try simp (disch := omega) only [upA, upJ])
    exact q
  · intro m hm
    (try simp (disch := omega) only [upA, upJ] at hm)
    have q := drt m hm
    (try simp (disch := omega) only [upA, upJ])
    exact q
  · (try simp (disch := omega) only [upA, upJ])
    exact dtm
  · intro m h1 h2
    (try simp (disch := omega) only [upA, upJ] at h1)
    exact dz m h1 h2
  · exact dme
theorem DW_An (hd : DW N Z)  : DW (am_up N 6 i q) (Z) := by
  obtain ⟨dxy, dcr, drt, dtm, dz, dme⟩ := hd
  refine ⟨?_, ?_, ?_, ?_, ?_, ?_⟩
  · intro m hm
    (try simp (disch := omega) only [upA, upJ] at hm)
    have q := dxy m hm
    (try simp (disch := omega) only [upA, upJ])
    exact q
  · intro m hm
    (try simp (disch := omega) only [upA, upJ] at hm)
    have q := dcr m hm
    (try simp (disch := omega) only [upA, upJ])
    exact q
  · intro m hm
    (try simp (disch := omega) only [upA, upJ] at hm)
    have q := drt m hm
    (try simp (disch := omega) only [upA, upJ])
    exact q
  · (try simp (disch := omega) only [upA, upJ])
    exact dtm
  · intro m h1 h2
    (try simp (disch := omega) only [upA, upJ] at h1)
    exact dz m h1 h2
  · exact dme
theorem DW_Sa (hd : DW N Z)  : DW (am_up N 4 i q) (Z) := by
  obtain ⟨dxy, dcr, drt, dtm, dz, dme⟩ := hd
  refine ⟨?_, ?_, ?_, ?_, ?_, ?_⟩
  · intro m hm
    (try simp (disch := omega) only [upA, upJ] at hm)
    have q := dxy m hm
    (try simp (disch := omega) only [upA, upJ])
    exact q
  · intro m hm
    (try simp (disch := omega) only [upA, upJ] at hm)
    have q := dcr m hm
    (try simp (disch := omega) only [upA, upJ])
    exact q
  · intro m hm
    (try simp (disch := omega) only [upA, upJ] at hm)
    have q := drt m hm
    (try simp (disch := omega) only [upA, upJ])
    exact q
  · (try simp (disch := omega) only [upA, upJ])
    exact dtm
  · intro m h1 h2
    (try simp (disch := omega) only [upA, upJ] at h1)
    exact dz m h1 h2
  · exact dme
theorem DW_We (hd : DW N Z)  : DW (am_up N 3 i q) (Z) := by
  obtain ⟨dxy, dcr, drt, dtm, dz, dme⟩ := hd
  refine ⟨?_, ?_, ?_, ?_, ?_, ?_⟩
  · intro m hm
    (try simp (disch := omega) only [upA, upJ] at hm)
    have q := dxy m hm
    (try simp (disch := omega) only [upA, upJ])
    exact q
  · intro m hm
    (try simp (disch := omega) only [upA, upJ] at hm)
    have q := dcr m hm
    (try simp (disch := omega) only [upA, upJ])
    exact q
  · intro m hm
    (try simp (disch := omega) only [upA, upJ] at hm)
    have q := drt m hm
    (try simp (disch := omega) only [upA, upJ])
    exact q
  · (try simp (disch := omega) only [upA, upJ])
    exact dtm
  · intro m h1 h2
    (try simp (disch := omega) only [upA, upJ] at h1)
    exact dz m h1 h2
  · exact dme
theorem DW_Li (hd : DW N Z)  : DW (am_up N 0 3 q) (Z) := by
  obtain ⟨dxy, dcr, drt, dtm, dz, dme⟩ := hd
  refine ⟨?_, ?_, ?_, ?_, ?_, ?_⟩
  · intro m hm
    (try simp (disch := omega) only [upA, upJ] at hm)
    have q := dxy m hm
    (try simp (disch := omega) only [upA, upJ])
    exact q
  · intro m hm
    (try simp (disch := omega) only [upA, upJ] at hm)
    have q := dcr m hm
    (try simp (disch := omega) only [upA, upJ])
    exact q
  · intro m hm
    (try simp (disch := omega) only [upA, upJ] at hm)
    have q := drt m hm
    (try simp (disch := omega) only [upA, upJ])
    exact q
  · (try simp (disch := omega) only [upA, upJ])
    exact dtm
  · intro m h1 h2
    (try simp (disch := omega) only [upA, upJ] at h1)
    exact dz m h1 h2
  · exact dme
theorem DW_Wi (hd : DW N Z)  : DW (am_up (am_up (am_up N 9 i x) 10 i y) 11 i z) (Z) := by
  obtain ⟨dxy, dcr, drt, dtm, dz, dme⟩ := hd
  refine ⟨?_, ?_, ?_, ?_, ?_, ?_⟩
  · intro m hm
    (try simp (disch := omega) only [upA, upJ] at hm)
    have q := dxy m hm
    (try simp (disch := omega) only [upA, upJ])
    exact q
  · intro m hm
    (try simp (disch := omega) only [upA, upJ] at hm)
    have q := dcr m hm
    (try simp (disch := omega) only [upA, upJ])
    exact q
  · intro m hm
    (try simp (disch := omega) only [upA, upJ] at hm)
    have q := drt m hm
    (try simp (disch := omega) only [upA, upJ])
    exact q
  · (try simp (disch := omega) only [upA, upJ])
    exact dtm
  · intro m h1 h2
    (try simp (disch := omega) only [upA, upJ] at h1)
    exact dz m h1 h2
  · exact dme
theorem DW_Se (hd : DW N Z)  : DW (am_up (am_up N 16 v x) 17 v z) (Z) := by
  obtain ⟨dxy, dcr, drt, dtm, dz, dme⟩ := hd
  refine ⟨?_, ?_, ?_, ?_, ?_, ?_⟩
  · intro m hm
    (try simp (disch := omega) only [upA, upJ] at hm)
    have q := dxy m hm
    (try simp (disch := omega) only [upA, upJ])
    exact q
  · intro m hm
    (try simp (disch := omega) only [upA, upJ] at hm)
    have q := dcr m hm
    (try simp (disch := omega) only [upA, upJ])
    exact q
  · intro m hm
    (try simp (disch := omega) only [upA, upJ] at hm)
    have q := drt m hm
    (try simp (disch := omega) only [upA, upJ])
    exact q
  · (try simp (disch := omega) only [upA, upJ])
    exact dtm
  · intro m h1 h2
    (try simp (disch := omega) only [upA, upJ] at h1)
    exact dz m h1 h2
  · exact dme
theorem DW_Vi (hd : DW N Z) (hn : N 0 4 = n) (hx : x < N 0 0) (hy : y < N 0 1) : DW (am_up (am_up (am_up (am_up (am_up (am_up (am_up N 1 n x) 2 n y) 3 n z) 4 n v) 5 n q) 6 n 0) 0 4 (n + 1)) (Z) := by
  obtain ⟨dxy, dcr, drt, dtm, dz, dme⟩ := hd
  refine ⟨?_, ?_, ?_, ?_, ?_, ?_⟩
  · intro m hm
    simp (disch := omega) only [upA, upJ, upS] at hm
    by_cases e : m = n
    · subst e; simp (disch := omega) only [upS, upA, upI, upJ]; exact ⟨hx, hy⟩
    · have q1 := dxy m (by omega)
      simp (disch := omega) only [upA, upJ]; exact q1
  · intro m hm
    (try simp (disch := omega) only [upA, upJ] at hm)
    have q := dcr m hm
    (try simp (disch := omega) only [upA, upJ])
    exact q
  · intro m hm
    (try simp (disch := omega) only [upA, upJ] at hm)
    have q := drt m hm
    (try simp (disch := omega) only [upA, upJ])
    exact q
  · (try simp (disch := omega) only [upA, upJ])
    exact dtm
  · intro m h1 h2
    simp (disch := omega) only [upA, upJ, upS] at h1
    exact dz m (by omega) h2
  · exact dme
theorem DW_Ro (hd : DW N Z)  : DW (am_up (am_up (am_up (am_up (am_up N 12 r v) 13 r u) 14 r z) 15 r 0) 0 5 x) (Z) := by
  obtain ⟨dxy, dcr, drt, dtm, dz, dme⟩ := hd
  refine ⟨?_, ?_, ?_, ?_, ?_, ?_⟩
  · intro m hm
    (try simp (disch := omega) only [upA, upJ] at hm)
    have q := dxy m hm
    (try simp (disch := omega) only [upA, upJ])
    exact q
  · intro m hm
    (try simp (disch := omega) only [upA, upJ] at hm)
    have q := dcr m hm
    (try simp (disch := omega) only [upA, upJ])
    exact q
  · intro m hm
    by_cases e : m = r
    · subst e; simp (disch := omega) only [upS, upA, upI, upJ]; omega
    · simp (disch := omega) only [upA, upJ]; exact drt m hm
  · (try simp (disch := omega) only [upA, upJ])
    exact dtm
  · intro m h1 h2
    (try simp (disch := omega) only [upA, upJ] at h1)
    exact dz m h1 h2
  · exact dme
theorem DW_St (hd : DW N Z)  : DW (N) (am_up Z 0 0 b) := by
  obtain ⟨dxy, dcr, drt, dtm, dz, dme⟩ := hd
  refine ⟨?_, ?_, ?_, ?_, ?_, ?_⟩
  · intro m hm
    (try simp (disch := omega) only [upA, upJ] at hm)
    have q := dxy m hm
    (try simp (disch := omega) only [upA, upJ])
    exact q
  · intro m hm
    (try simp (disch := omega) only [upA, upJ] at hm)
    have q := dcr m hm
    (try simp (disch := omega) only [upA, upJ])
    exact q
  · intro m hm
    (try simp (disch := omega) only [upA, upJ] at hm)
    have q := drt m hm
    (try simp (disch := omega) only [upA, upJ])
    exact q
  · (try simp (disch := omega) only [upA, upJ])
    exact dtm
  · intro m h1 h2
    simp (disch := omega) only [upA]
    exact dz m h1 h2
  · intro m1 m2 h1 h2
    simp (disch := omega) only [upA]
    exact dme m1 m2 h1 h2
theorem RN_N {r : Nat → Int32} (h : RN r N Z) (h0 : N2 0 2 = N 0 2) (h1 : N2 1 = N 1) (h2 : N2 2 = N 2) (h3 : N2 7 = N 7) (h4 : N2 15 = N 15) : RN r N2 Z := by
  unfold RN
  rw [h0, h1, h2, h3, h4]
  exact h
theorem RM_st {I2 : Nat → Nat → Int32} (h : RM I N Z) (hs : RS I2 N2) (he : I2 250 = I 250) (h0 : N2 0 2 = N 0 2) (h1 : N2 1 = N 1) (h2 : N2 2 = N 2) (h3 : N2 7 = N 7) (h4 : N2 15 = N 15) : RM I2 N2 Z := ⟨by rw [he]; exact RN_N h.1 h0 h1 h2 h3 h4, hs⟩
theorem RM_3 (h : RM I N Z) : RM (am_up I 249 3 b) N Z := by
  refine ⟨?_, RS_fr2 h.2 ?_ ?_⟩
  · rw [upR (by decide)]; exact h.1
  · intro a ha; exact upR (by omega)
  · intro j hj; exact upI (by omega)
theorem rm_Wl2 (h : RM I N Z) (hi : i < 144) : RM (am_up I 252 i (nI q)) (am_up N 8 i q) Z := RM_st h (rs_Wl h.2 hi) (upR (by decide)) (upA (by decide)) (upR (by decide)) (upR (by decide)) (upR (by decide)) (upR (by decide))
theorem rm_Wy2 (h : RM I N Z) (hi : i < 24) : RM (am_up I 253 i (nI q)) (am_up N 9 i q) Z := RM_st h (rs_Wy h.2 hi) (upR (by decide)) (upA (by decide)) (upR (by decide)) (upR (by decide)) (upR (by decide)) (upR (by decide))
theorem rm_Fo2 (h : RM I N Z) (hi : i < 24) : RM (am_up I 254 i (nI q - 1)) (am_up N 10 i q) Z := RM_st h (rs_Fo h.2 hi) (upR (by decide)) (upA (by decide)) (upR (by decide)) (upR (by decide)) (upR (by decide)) (upR (by decide))
theorem rm_Sh2 (h : RM I N Z) (hi : i < 24) : RM (am_up I 255 i (nI q)) (am_up N 11 i q) Z := RM_st h (rs_Sh h.2 hi) (upR (by decide)) (upA (by decide)) (upR (by decide)) (upR (by decide)) (upR (by decide)) (upR (by decide))
theorem rm_We2 (h : RM I N Z) (hi : i < 10) : RM (am_up I 256 i (nI q)) (am_up N 3 i q) Z := RM_st h (rs_We h.2 hi) (upR (by decide)) (upA (by decide)) (upR (by decide)) (upR (by decide)) (upR (by decide)) (upR (by decide))
theorem rm_Sa2 (h : RM I N Z) (hi : i < 10) : RM (am_up I 257 i (nI q)) (am_up N 4 i q) Z := RM_st h (rs_Sa h.2 hi) (upR (by decide)) (upA (by decide)) (upR (by decide)) (upR (by decide)) (upR (by decide)) (upR (by decide))
theorem rm_Ki2 (h : RM I N Z) (hi : i < 10) : RM (am_up I 258 i (nI q)) (am_up N 5 i q) Z := RM_st h (rs_Ki h.2 hi) (upR (by decide)) (upA (by decide)) (upR (by decide)) (upR (by decide)) (upR (by decide)) (upR (by decide))
theorem rm_An2 (h : RM I N Z) (hi : i < 10) : RM (am_up I 259 i (nI q)) (am_up N 6 i q) Z := RM_st h (rs_An h.2 hi) (upR (by decide)) (upA (by decide)) (upR (by decide)) (upR (by decide)) (upR (by decide)) (upR (by decide))
theorem rm_Ra2 (h : RM I N Z) (hi : i < 20) : RM (am_up I 260 i (nI q)) (am_up N 12 i q) Z := RM_st h (rs_Ra h.2 hi) (upR (by decide)) (upA (by decide)) (upR (by decide)) (upR (by decide)) (upR (by decide)) (upR (by decide))
theorem rm_Rb2 (h : RM I N Z) (hi : i < 20) : RM (am_up I 261 i (nI q)) (am_up N 13 i q) Z := RM_st h (rs_Rb h.2 hi) (upR (by decide)) (upA (by decide)) (upR (by decide)) (upR (by decide)) (upR (by decide)) (upR (by decide))
theorem rm_Rl2 (h : RM I N Z) (hi : i < 20) : RM (am_up I 262 i (nI q)) (am_up N 14 i q) Z := RM_st h (rs_Rl h.2 hi) (upR (by decide)) (upA (by decide)) (upR (by decide)) (upR (by decide)) (upR (by decide)) (upR (by decide))
theorem rm_Sc2 (h : RM I N Z) (hi : i < 10) : RM (am_up I 263 i (nI q)) (am_up N 16 i q) Z := RM_st h (rs_Sc h.2 hi) (upR (by decide)) (upA (by decide)) (upR (by decide)) (upR (by decide)) (upR (by decide)) (upR (by decide))
theorem rm_St2 (h : RM I N Z) (hi : i < 10) : RM (am_up I 264 i (nI q)) (am_up N 17 i q) Z := RM_st h (rs_St h.2 hi) (upR (by decide)) (upA (by decide)) (upR (by decide)) (upR (by decide)) (upR (by decide)) (upR (by decide))
theorem rm_V2 (h : RM I N Z) : RM (am_up I 249 10 (nI q)) (am_up N 0 4 q) Z := RM_st h (rs_V h.2) (upR (by decide)) (upI (by decide)) (upR (by decide)) (upR (by decide)) (upR (by decide)) (upR (by decide))
theorem rm_L2 (h : RM I N Z) : RM (am_up I 249 15 (nI q)) (am_up N 0 3 q) Z := RM_st h (rs_L h.2) (upR (by decide)) (upI (by decide)) (upR (by decide)) (upR (by decide)) (upR (by decide)) (upR (by decide))
theorem rm_R2 (h : RM I N Z) : RM (am_up I 249 16 (nI q)) (am_up N 0 5 q) Z := RM_st h (rs_R h.2) (upR (by decide)) (upI (by decide)) (upR (by decide)) (upR (by decide)) (upR (by decide)) (upR (by decide))
end WELL
