section OPT
variable {d : Nat} {k : am_k} {I I' I1 I2 : Nat → Nat → Int32} {J : Nat → Nat → Int64} {a fk fp fk' fp' : Int32} {L : Nat} {w w' : Nat → Option Nat} {v p q n u x z r t m l o s i j b : Nat} {Y : Nat → Nat} {C E : List (Nat × Nat)} {N N' : Nat → Nat → Nat} {Z : Nat → Nat → Int32} {H : List hT} {K : Option hT} {B : Nat → Int32}
theorem RG_N (h : RG I N Z) (e : ∀ f, f < 20 → N' f = N f) : RG I N' Z := by
  unfold RG at h ⊢
  simp (disch := omega) only [e]
  exact h
theorem RN_Nt {r : Nat → Int32} (h : RN r N Z) (e : ∀ f, f < 20 → N' f = N f) : RN r N' Z := by
  unfold RN at h ⊢
  simp (disch := omega) only [e]
  exact h
theorem DW_N (h : DW N Z) (e : ∀ f, f < 20 → N' f = N f) : DW N' Z := by
  unfold DW at h ⊢
  simp (disch := omega) only [e]
  exact h
theorem HW_Nt (h : HW N H) (e : ∀ f, f < 20 → N' f = N f) : HW N' H := by
  unfold HW at h ⊢
  simp (disch := omega) only [e]
  exact h
theorem AW_tx (ha : AW N Z H K t B) (hs : SW N') (e : ∀ f, f < 20 → N' f = N f) : AW N' Z H K 0 B := ⟨hs, DW_N ha.2.1 e, HW_Nt ha.2.2.1 e, ha.2.2.2.1, by omega, fun i hi => by omega⟩
theorem CI_tx (ha : AW N Z H K t B) (h : CI I w N Z H K t B fk fp) (ho : isO o) (hf : ∀ a i, a < 249 → a ≠ 225 → a ≠ 226 → a ≠ 227 → ¬ (a = 223 ∧ i = 1) → ¬ (o ≤ a ∧ a ≤ o + 3) → I1 a i = I a i) (hr : RO I1 w' N') (hw : WW w') (e : ∀ f, f < 20 → N' f = N f) (h0 : I1 223 1 = 0) (h5 : I1 227 5 = fk') (h6 : I1 227 6 = fp') : CI I1 w' N' Z H K 0 B fk' fp' := by
  obtain ⟨q1, q2, q3, q4, q5, q6, q7, q8⟩ := h
  obtain ⟨a1, a2, a3, a4, a5, a6⟩ := ha
  have oo := ho
  unfold isO at oo
  have hg : ∀ a, a < 223 → ¬ (o ≤ a ∧ a ≤ o + 3) → I1 a = I a := fun a x y => funext (fun i => hf a i (by omega) (by omega) (by omega) (by omega) (by omega) y)
  refine ⟨RG_N (RG_fr q1 a1.2.2.2.2.2.1 a1.2.2.2.2.2.2.1 (fun a _ _ => hg a (by omega) (by omega))) e, hr, hw, RHc_fr q4 a3 a1 (fun a _ _ => hg a (by omega) (by omega)), KC_fr q5 (fun p hp => (a4 p hp).1) (by rw [hg 8 (by omega) (by omega)]) (fun a _ _ => hg a (by omega) (by omega)), ⟨by rw [h0]; exact nI_0.symm, fun i hi => by omega⟩, h5, h6⟩
theorem MI_tx (h : MI I N Z H K t B fk fp) (hr : RS I1 N') (e : ∀ f, f < 20 → N' f = N f) (hy : FtY I I1) (h0 : I1 249 23 = 0) (h5 : I1 249 41 = fk') (h6 : I1 249 42 = fp') : MI I1 N' Z H K 0 B fk' fp' := by
  obtain ⟨g1, g2, g3, g4, g5, g6, g7⟩ := h
  obtain ⟨y1, y2⟩ := hy
  refine ⟨⟨by rw [y1 250 (by decide) (by decide)]; exact RN_Nt g1.1 e, hr⟩, ?_, ?_, ⟨by rw [h0]; exact nI_0.symm, fun i hi => by omega⟩, h5, h6, ?_⟩
  · unfold RHm
    rw [y2 3 (by decide) (by decide), y1 251 (by decide) (by decide)]
    exact g2
  · cases K with
    | none => show I1 249 49 = 0; rw [y2 49 (by decide) (by decide)]; exact g3
    | some p => show I1 249 49 = 1 ∧ ∃ I0, RM I0 p.1 p.2 ∧ EN I0 (I1 279); rw [y2 49 (by decide) (by decide), y1 279 (by decide) (by decide)]; exact g3
  · rw [y1 266 (by decide) (by decide)]; exact g7
theorem OW_4 (h : OW N) (hu : u < 4) : N (21 + u) (N 20 u) ≤ 400 := by
  obtain ⟨h1, h2, h3⟩ := h u hu
  by_cases g : N 20 u = 0
  · rw [g, h2]; omega
  · have := (h3 (N 20 u - 1) (by omega)).2.1
    rw [show N 20 u - 1 + 1 = N 20 u by omega] at this
    exact this
/-- the model's rows when no kind is told anew -/
theorem RS_n (h : RS I N) (hs : OW N) (hy : FtY I I1) (h7 : ∀ i, I1 267 i = I 267 i) (h8 : ∀ i, i < 64 → I1 268 i = I 268 i ∧ I1 269 i = I 269 i ∧ I1 270 i = I 270 i) (h1 : ∀ i, i < 1600 → I1 271 i = I 271 i ∧ I1 272 i = I 272 i) : RS I1 N := by
  obtain ⟨a1, a2, a3, a4, a5, a6, a7, a8, a9, a10, a11, a12, a13, a14, a15, a16, a17, a18, a19, a20, a21, a22, a23, a24⟩ := h
  obtain ⟨y1, y2⟩ := hy
  refine ⟨?_, ?_, ?_, ?_, ?_, ?_, ?_, ?_, ?_, ?_, ?_, ?_, ?_, ?_, ?_, ?_, ?_, ?_, ?_, ?_, ?_, ?_, ?_, ?_⟩
  · rw [y2 4 (by decide) (by decide)]; exact a1
  · rw [y2 5 (by decide) (by decide)]; exact a2
  · rw [y2 10 (by decide) (by decide)]; exact a3
  · rw [y2 15 (by decide) (by decide)]; exact a4
  · rw [y2 16 (by decide) (by decide)]; exact a5
  · rw [y1 252 (by decide) (by decide)]; exact a6
  · rw [y1 253 (by decide) (by decide)]; exact a7
  · rw [y1 254 (by decide) (by decide)]; exact a8
  · rw [y1 255 (by decide) (by decide)]; exact a9
  · rw [y1 256 (by decide) (by decide)]; exact a10
  · rw [y1 257 (by decide) (by decide)]; exact a11
  · rw [y1 258 (by decide) (by decide)]; exact a12
  · rw [y1 259 (by decide) (by decide)]; exact a13
  · rw [y1 260 (by decide) (by decide)]; exact a14
  · rw [y1 261 (by decide) (by decide)]; exact a15
  · rw [y1 262 (by decide) (by decide)]; exact a16
  · rw [y1 263 (by decide) (by decide)]; exact a17
  · rw [y1 264 (by decide) (by decide)]; exact a18
  · intro v hv; rw [h7 v]; exact a19 v hv
  · intro u v hu hv; have := (hs u hu).1; rw [(h8 _ (by omega)).1]; exact a20 u v hu hv
  · intro u v hu hv; have := (hs u hu).1; rw [(h8 _ (by omega)).2.1]; exact a21 u v hu hv
  · intro u v hu hv; have := (hs u hu).1; rw [(h8 _ (by omega)).2.2]; exact a22 u v hu hv
  · intro u v hu hv; have := OW_4 hs hu; rw [(h1 _ (by omega)).1]; exact a23 u v hu hv
  · intro u v hu hv; have := OW_4 hs hu; rw [(h1 _ (by omega)).2]; exact a24 u v hu hv
/-- .. when kind x is -/
theorem RS_x (h : RS I N) (hs : OW N) (hx : x < 4) (hy : FtY I I1) (hu : FtU x I I1) (hT : TXI C E) (hE : E.length ≤ 16) (hC : C.length ≤ 400) (h7 : I1 267 x = nI E.length) (h8 : ∀ i e, E[i]? = some e → I1 268 (16 * x + i) = nI e.1 ∧ I1 269 (16 * x + i) = nI (stE E i) ∧ I1 270 (16 * x + i) = nI e.2) (h1 : ∀ i c, C[i]? = some c → I1 271 (400 * x + i) = nI c.1 ∧ I1 272 (400 * x + i) = nI c.2) : RS I1 (txN N x C E) := by
  have e : ∀ f, f < 20 → txN N x C E f = N f := fun f hf => tN_o hf
  obtain ⟨a1, a2, a3, a4, a5, a6, a7, a8, a9, a10, a11, a12, a13, a14, a15, a16, a17, a18, a19, a20, a21, a22, a23, a24⟩ := h
  obtain ⟨y1, y2⟩ := hy
  obtain ⟨u1, u2, u3⟩ := hu
  have hE1 : ∀ v, v < E.length → E[v]? = some (E.getD v (0, 0)) := fun v hv => by rw [List.getD_eq_getElem?_getD, List.getElem?_eq_getElem hv]; rfl
  have hC1 : ∀ v, v < C.length → C[v]? = some (C.getD v (0, 0)) := fun v hv => by rw [List.getD_eq_getElem?_getD, List.getElem?_eq_getElem hv]; rfl
  have c1 := hT.1
  refine ⟨?_, ?_, ?_, ?_, ?_, ?_, ?_, ?_, ?_, ?_, ?_, ?_, ?_, ?_, ?_, ?_, ?_, ?_, ?_, ?_, ?_, ?_, ?_, ?_⟩
  · rw [y2 4 (by decide) (by decide), e 0 (by decide)]; exact a1
  · rw [y2 5 (by decide) (by decide), e 0 (by decide)]; exact a2
  · rw [y2 10 (by decide) (by decide), e 0 (by decide)]; exact a3
  · rw [y2 15 (by decide) (by decide), e 0 (by decide)]; exact a4
  · rw [y2 16 (by decide) (by decide), e 0 (by decide)]; exact a5
  · rw [y1 252 (by decide) (by decide), e 8 (by decide)]; exact a6
  · rw [y1 253 (by decide) (by decide), e 9 (by decide)]; exact a7
  · rw [y1 254 (by decide) (by decide), e 10 (by decide)]; exact a8
  · rw [y1 255 (by decide) (by decide), e 11 (by decide)]; exact a9
  · rw [y1 256 (by decide) (by decide), e 3 (by decide)]; exact a10
  · rw [y1 257 (by decide) (by decide), e 4 (by decide)]; exact a11
  · rw [y1 258 (by decide) (by decide), e 5 (by decide)]; exact a12
  · rw [y1 259 (by decide) (by decide), e 6 (by decide)]; exact a13
  · rw [y1 260 (by decide) (by decide), e 12 (by decide)]; exact a14
  · rw [y1 261 (by decide) (by decide), e 13 (by decide)]; exact a15
  · rw [y1 262 (by decide) (by decide), e 14 (by decide)]; exact a16
  · rw [y1 263 (by decide) (by decide), e 16 (by decide)]; exact a17
  · rw [y1 264 (by decide) (by decide), e 17 (by decide)]; exact a18
  · intro v hv
    rw [tN_20]
    by_cases g : v = x
    · rw [if_pos g, g]; exact h7
    · rw [if_neg g, u3 v g]; exact a19 v hv
  · intro u v hu hv
    rw [tN_20] at hv
    by_cases g : u = x
    · subst g
      rw [if_pos rfl] at hv
      rw [tN_25 hu]
      exact (h8 v _ (hE1 v hv)).1
    · rw [if_neg g] at hv
      have := (hs u hu).1
      rw [(u1 _ (by omega) (by omega)).1, tN_x hx hu (by omega) g]
      exact a20 u v hu hv
  · intro u v hu hv
    rw [tN_20] at hv
    by_cases g : u = x
    · subst g
      rw [if_pos rfl] at hv
      rw [tN_21]
      exact (h8 v _ (hE1 v hv)).2.1
    · rw [if_neg g] at hv
      have := (hs u hu).1
      rw [(u1 _ (by omega) (by omega)).2.1, tN_x hx hu (by omega) g]
      exact a21 u v hu hv
  · intro u v hu hv
    rw [tN_20] at hv
    by_cases g : u = x
    · subst g
      rw [if_pos rfl] at hv
      rw [tN_21, st_1 hv]
      exact (h8 v _ (hE1 v hv)).2.2
    · rw [if_neg g] at hv
      have := (hs u hu).1
      rw [(u1 _ (by omega) (by omega)).2.2, tN_x hx hu (by omega) g]
      exact a22 u v hu hv
  · intro u v hu hv
    rw [tN_20] at hv
    by_cases g : u = x
    · subst g
      rw [if_pos rfl, tN_21, ← c1] at hv
      rw [tN_29 hu]
      exact (h1 v _ (hC1 v hv)).1
    · rw [if_neg g, tN_x hx hu (by omega) g] at hv
      have := OW_4 hs hu
      rw [(u2 _ (by omega) (by omega)).1, tN_x hx hu (by omega) g]
      exact a23 u v hu hv
  · intro u v hu hv
    rw [tN_20] at hv
    by_cases g : u = x
    · subst g
      rw [if_pos rfl, tN_21, ← c1] at hv
      rw [tN_33 hu]
      exact (h1 v _ (hC1 v hv)).2
    · rw [if_neg g, tN_x hx hu (by omega) g] at hv
      have := OW_4 hs hu
      rw [(u2 _ (by omega) (by omega)).2, tN_x hx hu (by omega) g]
      exact a24 u v hu hv
/-- the class's orders when the reader's own rows alone have changed -/
theorem RO_y (h : RO I w N) {f : Nat → Nat} (f1 : ∀ u, u < 5 → w u = some (f u) ∧ isO (f u)) (f2 : ∀ u v, u < 5 → v < 5 → f u = f v → u = v) (hf : ∀ a i, isR a → ¬ (f 4 ≤ a ∧ a ≤ f 4 + 3) → I1 a i = I a i) (hu : u < 4) : ROo I1 (f u) u N := by
  obtain ⟨o, h1, h2, h3⟩ := h u hu
  have e := (f1 u (by omega)).1
  rw [h1] at e
  have e : o = f u := Option.some.inj e
  subst e
  have ne : ¬ f u = f 4 := fun z => by have := f2 u 4 (by omega) (by omega) z; omega
  have o4 := (f1 4 (by omega)).2
  have ou := h2
  unfold isO at o4 ou
  refine ROo_fr h3 ?_ ?_ ?_ ?_ ?_
  · exact hf _ _ (by unfold isR; omega) (by omega)
  · exact hf _ _ (by unfold isR; omega) (by omega)
  · funext j; exact hf _ _ (by unfold isR; omega) (by omega)
  · funext j; exact hf _ _ (by unfold isR; omega) (by omega)
  · funext j; exact hf _ _ (by unfold isR; omega) (by omega)
theorem ROo_tx (hu : u < 4) (h1 : CO I o C) (h2 : LN I o E) (hT : TXI C E) : ROo I o u (txN N u C E) := by
  obtain ⟨c1, c2, nm, c3, c4, c5⟩ := h1
  have hE1 : ∀ v, v < E.length → E[v]? = some (E.getD v (0, 0)) := fun v hv => by rw [List.getD_eq_getElem?_getD, List.getElem?_eq_getElem hv]; rfl
  have hC1 : ∀ v, v < C.length → C[v]? = some (C.getD v (0, 0)) := fun v hv => by rw [List.getD_eq_getElem?_getD, List.getElem?_eq_getElem hv]; rfl
  unfold ROo
  rw [tN_20, if_pos rfl, tN_21, tN_25 hu, tN_29 hu, tN_33 hu, ← hT.1]
  refine ⟨h2.1, fun l hl => ?_, fun i hi => c2 i _ (hC1 i hi), nm, c3, c4, fun i hi h => ?_⟩
  · rw [st_1 hl]
    exact h2.2 l _ (hE1 l hl)
  · exact c5 _ (List.mem_of_getElem? (hC1 i hi)) h
theorem WW_ex (h : WW w) (hu : u < 4) : WW (exW w u) := by
  obtain ⟨⟨f, f1, f2⟩, h2, h3, h4⟩ := h
  have e4 : exW w u 4 = w u := by unfold exW; rw [vu_n (by omega), vu_s]
  have eu : exW w u u = w 4 := by unfold exW; rw [vu_s]
  have ej : ∀ j, j ≠ 4 → j ≠ u → exW w u j = w j := by intro j h1 h2; unfold exW; rw [vu_n h2, vu_n h1]
  refine ⟨⟨fun v => if v = 4 then f u else if v = u then f 4 else f v, fun v hv => ?_, fun a b ha hb hab => ?_⟩, ?_, ?_, ?_⟩
  · dsimp only
    by_cases g : v = 4
    · rw [if_pos g, g, e4]; exact f1 u (by omega)
    · rw [if_neg g]
      by_cases g2 : v = u
      · rw [if_pos g2, g2, eu]; exact f1 4 (by omega)
      · rw [if_neg g2, ej v g g2]; exact f1 v hv
  · dsimp only at hab
    have key : ∀ a b, a < 5 → b < 5 → f a = f b → a = b := f2
    by_cases g : a = 4
    · rw [if_pos g] at hab
      by_cases g' : b = 4
      · omega
      · rw [if_neg g'] at hab
        by_cases g2 : b = u
        · rw [if_pos g2] at hab; have := key u 4 (by omega) (by omega) hab; omega
        · rw [if_neg g2] at hab; have := key u b (by omega) hb hab; omega
    · rw [if_neg g] at hab
      by_cases g1 : a = u
      · rw [if_pos g1] at hab
        by_cases g' : b = 4
        · rw [if_pos g'] at hab; have := key 4 u (by omega) (by omega) hab; omega
        · rw [if_neg g'] at hab
          by_cases g2 : b = u
          · omega
          · rw [if_neg g2] at hab; have := key 4 b (by omega) hb hab; omega
      · rw [if_neg g1] at hab
        by_cases g' : b = 4
        · rw [if_pos g'] at hab; have := key a u ha (by omega) hab; omega
        · rw [if_neg g'] at hab
          by_cases g2 : b = u
          · rw [if_pos g2] at hab; have := key a 4 ha (by omega) hab; omega
          · rw [if_neg g2] at hab; exact key a b ha hb hab
  · rw [ej 5 (by omega) (by omega), ej 6 (by omega) (by omega)]; exact h2
  · rw [ej 7 (by omega) (by omega)]; exact h3
  · rw [ej 8 (by omega) (by omega)]; exact h4
theorem op_text {dd : Nat} : OP L (d + 56) (dd + 12) mX11_text mX12_text [.int a] := by
  rintro I J w ⟨N, Z, H, K, t, B, fk, fp, ha, hc, hm⟩
  have hs := ha.1
  have so := hs.2.2.2.2.2.2.2.2.2.2.2.2
  by_cases hx : inR a 0 (nI 3)
  rotate_left
  · rw [c_textN hx]
    refine ⟨_, w, rfl, rfl, by simp (disch := omega) only [upR], rfl, ?_⟩
    have hm1 := MI_fr (I' := am_up (am_up (am_up I 227 5 0) 227 6 (-1)) 223 1 0) hm (fun a h => by simp (disch := omega) only [upR])
    rw [m_textN hx]
    refine ⟨w, rfl, rfl, rfl, OP_end (I1 := am_up (am_up (am_up I 227 5 0) 227 6 (-1)) 223 1 0) (AW_tx ha hs (fun _ _ => rfl)) (CI_gen (B' := B) ha hc (fun a g1 g2 g3 _ => by simp (disch := omega) only [upR]) ⟨by rw [upS]; exact nI_0.symm, fun i hi => by omega⟩ (fk' := 0) (fp' := -1) (by simp (disch := omega) only [upA, upI, upS]) (by simp (disch := omega) only [upA, upS])) (MI_tx hm1 (RS_fr2 hm1.1.2 (fun a g => by simp (disch := omega) only [upR]) (fun j g => by simp (disch := omega) only [upI])) (fun _ _ => rfl) ⟨fun a g1 g2 => by simp (disch := omega) only [upR], fun j g1 g2 => by simp (disch := omega) only [upI]⟩ upS (by simp (disch := omega) only [upI, upS]) (by simp (disch := omega) only [upI, upS])) (fun a h => by simp (disch := omega) only [upR])⟩
  obtain ⟨u, hu, rfl⟩ := inR0_of (by decide) hx
  have hu4 : u < 4 := by omega
  have hc2 := hc
  obtain ⟨c1, c2, c3, c4, c5, ⟨c6, c6'⟩, c7, c8⟩ := hc2
  have hm2 := hm
  obtain ⟨m1, m2, m3, ⟨m4, m4'⟩, m5, m6, m7⟩ := hm2
  obtain ⟨f, f1, f2⟩ := c3.1
  have t4 := ha.2.2.2.2.1
  have hB := ha.2.2.2.2.2
  have hBY : ∀ i, i < t → B i = nI ((B i).toNatClampNeg) ∧ (B i).toNatClampNeg < 256 := by
    intro i hi
    obtain ⟨n, n1, n2⟩ := hB i hi
    rw [n2, ixN (by omega)]
    exact ⟨rfl, n1⟩
  have hTB : TB I t (fun i => (B i).toNatClampNeg) := ⟨c6, t4, fun i hi => by rw [c6' i hi]; exact (hBY i hi).1, fun i hi => (hBY i hi).2⟩
  have hYb : ∀ i, i < t → (fun i => (B i).toNatClampNeg) i < 256 := fun i hi => (hBY i hi).2
  have hTm : ∀ I1, (∀ a, 249 ≤ a → I1 a = I a) → TBm I1 t (fun i => (B i).toNatClampNeg) := by
    intro I1 h
    refine ⟨by rw [h 249 (by omega)]; exact m4, t4, fun i hi => by rw [h 265 (by omega), m4' i hi]; exact (hBY i hi).1, hYb, by rw [h 266 (by omega)]; exact m7⟩
  have hT : ∀ j, toT t (fun i => (B i).toNatClampNeg) j < 11000 := fun j => to_b hYb
  have tx : ∀ p, txF (toT t (fun i => (B i).toNatClampNeg)) 17 0 [] [] = .inr p → TXI p.1 p.2 ∧ p.2.length ≤ 16 ∧ p.1.length ≤ t := fun p hp => tx_i hT (fun j h => to_end h) 17 0 [] [] (by omega) (by simp) (by simp) ⟨rfl, fun l e hl => by simp at hl⟩ p hp
  have o4 := (f1 4 (by omega)).2
  have oo := o4
  unfold isO at oo
  have fr : ∀ I1, PfX (f 4) I I1 → ∀ a, 249 ≤ a → I1 a = I a := fun I1 h a ha => funext (fun i => h a i (by omega) (by omega) (by omega) (by omega) (by omega))
  refine c_textU (d := d) o4 (f1 4 (by omega)).1 (f1 u (by omega)).2 (f1 u (by omega)).1 hu4 hTB hYb ?_ ?_
  · intro e he I1 y0 y1 y2
    have g1 := fr I1 y2
    refine ⟨_, w, rfl, rfl, funext (fun i => y2 0 i (by omega) (by omega) (by omega) (by omega) (by omega)), rfl, ?_⟩
    have hm1 := MI_fr (I' := I1) hm g1
    refine m_textU (d := dd) hu4 (hTm I1 g1) ?_ ?_ ?_
    · intro e' he' I2 z1 z2 z3 z4 z5 z6 z7
      rw [he] at he'
      have ee : e = e' := Sum.inl.inj he'
      subst ee
      refine ⟨w, rfl, rfl, rfl, OP_end (I1 := I1) (AW_tx ha hs (fun _ _ => rfl)) (CI_tx ha hc o4 (fun a i q0 q1 q2 q3 q4 q5 => y2 a i q1 q2 q3 q4 q5) (fun v hv => ⟨f v, (f1 v (by omega)).1, (f1 v (by omega)).2, RO_y c2 f1 f2 (fun a i q1 q2 => y2 a i (by unfold isR at q1; omega) (by unfold isR at q1; omega) (by unfold isR at q1; omega) (by unfold isR at q1; omega) q2) hv⟩) c3 (fun _ _ => rfl) y0 y1.2.1 y1.2.2.1) (MI_tx hm1 (RS_n hm1.1.2 so z4 z5 z6 z7) (fun _ _ => rfl) z4 z1 z2 z3) (fun a h => z4.1 a (by omega) (by omega))⟩
    · intro p hp
      rw [he] at hp; cases hp
    · intro p hp
      rw [he] at hp; cases hp
  · intro q hq I1 y1 y2 y3 y4 y5 y6
    have g1 := fr I1 y6
    obtain ⟨t1, t2, t3⟩ := tx q hq
    refine ⟨_, exW w u, rfl, rfl, funext (fun i => y6 0 i (by omega) (by omega) (by omega) (by omega) (by omega)), rfl, ?_⟩
    have hm1 := MI_fr (I' := I1) hm g1
    refine m_textU (d := dd) hu4 (hTm I1 g1) ?_ ?_ ?_
    · intro e he
      rw [hq] at he; cases he
    · intro q' hq' I2 z1 z2 z3 z4 z5 z6 z7 z8
      rw [hq] at hq'
      have ee : q = q' := Sum.inr.inj hq'
      subst ee
      have eN : ∀ f, f < 20 → txN N u q.1 q.2 f = N f := fun f hf => tN_o hf
      have e4 : exW w u 4 = w u := by unfold exW; rw [vu_n (by omega), vu_s]
      have eu : exW w u u = w 4 := by unfold exW; rw [vu_s]
      have ej : ∀ j, j ≠ 4 → j ≠ u → exW w u j = w j := by intro j h1 h2; unfold exW; rw [vu_n h2, vu_n h1]
      refine ⟨exW w u, rfl, rfl, rfl, OP_end (I1 := I1) (AW_tx ha (SW_tx hs hu4 t1 t2 (by omega)) eN) (CI_tx ha hc o4 (fun a i q0 q1 q2 q3 q4 q5 => y6 a i q1 q2 q3 q4 q5) (fun v hv => ?_) (WW_ex c3 hu4) eN y3 y4 y5) (MI_tx hm1 (RS_x hm1.1.2 so hu4 z4 z5 t1 t2 (by omega) z6 z7 z8) eN z4 z1 z2 z3) (fun a h => z4.1 a (by omega) (by omega))⟩
      by_cases g : v = u
      · subst g
        exact ⟨f 4, by rw [eu]; exact (f1 4 (by omega)).1, o4, ROo_tx hv y1 y2 t1⟩
      · refine ⟨f v, by rw [ej v (by omega) g]; exact (f1 v (by omega)).1, (f1 v (by omega)).2, ?_⟩
        have r := RO_y (I1 := I1) c2 f1 f2 (fun a i q1 q2 => y6 a i (by unfold isR at q1; omega) (by unfold isR at q1; omega) (by unfold isR at q1; omega) (by unfold isR at q1; omega) q2) hv
        unfold ROo at r ⊢
        rw [tN_20, if_neg g, tN_x hu4 hv (by omega) g, tN_x hu4 hv (by omega) g, tN_x hu4 hv (by omega) g, tN_x hu4 hv (by omega) g]
        exact r
    · intro p hp
      obtain ⟨s1, s2, s3⟩ := tx p hp
      exact ⟨by omega, s2⟩
end OPT
