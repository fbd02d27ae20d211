def N0 : Nat → Nat → Nat := plN (fun _ _ => 0) 8 8
def Z0 : Nat → Nat → Int32 := fun _ _ => 0
/-- what stands when both are made -/
def IS (I : Nat → Nat → Int32) : Prop := (∀ a, 9 ≤ a → a < 249 → I a = iF a) ∧ I 8 = (fun _ => 0) ∧ (I 249 = fun j => if j = 4 ∨ j = 5 then nI 8 else if j = 15 then nI 24 else if j = 42 then -1 else 0) ∧ I 266 = wdp 77 ∧ ∀ a, 250 ≤ a → a < 280 → a ≠ 266 → I a = fun _ => 0
section MAK7
variable {d : Nat} {k : am_k} {I I' : Nat → Nat → Int32} {J : Nat → Nat → Int64} {R R' : Nat → Nat → Option Nat} {L : Nat} {b c e p q n u v t m l o s i j : Nat}
theorem z0 {P : Prop} (h : v < 0) : P := absurd h (Nat.not_lt_zero v)
theorem iF_v (hv : v < 10) : iF (19 + v) = vI v := by
  unfold iF
  rw [if_neg (by omega), if_neg (by omega), if_neg (by omega), if_pos (by omega), Nat.add_sub_cancel_left]
theorem iF_k (hv : v < 10) : iF (79 + v) = vI v := by
  unfold iF
  rw [if_neg (by omega), if_neg (by omega), if_neg (by omega), if_neg (by omega), if_pos (by omega), Nat.add_sub_cancel_left]
theorem iF_z (h : (29 ≤ q ∧ q < 69) ∨ (221 ≤ q ∧ q < 227) ∨ 228 ≤ q) : iF q = fun _ => 0 := by
  unfold iF
  rw [if_neg (by omega), if_neg (by omega), if_neg (by omega), if_neg (by omega), if_neg (by omega), if_neg (by omega), if_neg (by omega)]
theorem SW_0 : SW N0 := by
  refine ⟨by decide, by decide, by decide, by decide, by decide, by decide, by decide, fun v _ => ⟨?_, ?_, ?_, ?_⟩, fun h _ => ⟨?_, ?_, ?_⟩, fun r hr => z0 hr, fun c _ => ⟨?_, fun h => ?_⟩, fun v _ => ⟨fun h => ?_, ?_⟩, fun k hk => ⟨?_, ?_, fun l hl => z0 hl⟩⟩
  · show 0 ≤ 99; omega
  · show 0 ≤ 3; omega
  · show 0 ≤ 3; omega
  · show 0 ≤ 1; omega
  · show 0 < 8; omega
  · show 1 ≤ 3; omega
  · show 0 ≤ 10; omega
  · show 0 ≤ 1; omega
  · exact absurd h (by show ¬ 0 = 1; omega)
  · exact absurd (show N0 16 v = 0 from rfl) h
  · show 0 ≤ 9999; omega
  · show 0 ≤ 16; omega
  · unfold N0 plN
    rw [if_neg (by omega), if_neg (by omega), if_neg (by omega), if_neg (by omega)]
theorem DW_0 : DW N0 Z0 := ⟨fun v hv => z0 hv, fun c _ => (by show 50 ≤ 99; omega), fun r _ => (by show 0 ≤ 1; omega), (by show 0 ≤ 9999; omega), fun v _ _ => ⟨rfl, rfl, rfl, rfl, rfl⟩, fun a b _ _ => rfl⟩
theorem RG_0 (h : ∀ a, 9 ≤ a → a < 249 → I a = iF a) : RG I N0 Z0 := by
  have hv : ∀ v, v < 10 → I (19 + v) = vI v := fun v hv => by rw [h _ (by omega) (by omega), iF_v hv]
  have h9 := h 9 (by omega) (by omega)
  refine ⟨?_, ?_, ?_, ?_, ?_, ?_, ?_, ?_, ?_, ?_, ?_, ?_, ?_, ?_, ?_, ?_, ?_, ?_, ?_, ?_, ?_, ?_, ?_, ?_, ?_, ?_, ?_, ?_, ?_, ?_, ?_, ?_, ?_, ?_, ?_⟩
  · rw [h9]; exact rfl
  · rw [h9]; exact rfl
  · rw [h9]; exact nI_0.symm
  · rw [h9]; exact rfl
  · rw [h9]; exact rfl
  · rw [h9]; exact nI_0.symm
  · rw [h9]; exact nI_0.symm
  · intro v hv; rw [h 10 (by omega) (by omega)]; exact if_pos hv
  · intro v hv; rw [h 11 (by omega) (by omega)]; exact nI_0.symm
  · intro v hv; rw [h 12 (by omega) (by omega)]; exact nI_0.symm
  · intro v hv; rw [h 13 (by omega) (by omega)]; exact (if_pos hv).trans n1.symm
  · intro v hv; rw [h 14 (by omega) (by omega)]; exact nI_0.symm
  · intro v hv'; rw [hv v hv']; exact vu_s
  · intro v hv; exact z0 hv
  · intro v hv; exact z0 hv
  · intro v hv; exact z0 hv
  · intro v hv; exact z0 hv
  · intro v hv; exact z0 hv
  · intro v hv; exact z0 hv
  · intro v hv; exact z0 hv
  · intro v hv; exact z0 hv
  · intro v hv; exact z0 hv
  · intro v hv; exact z0 hv
  · intro v hv; exact z0 hv
  · intro v hv; exact z0 hv
  · intro v hv; exact z0 hv
  · intro v hv; exact z0 hv
  · intro v hv; exact z0 hv
  · intro v hv; exact z0 hv
  · intro v hv; exact z0 hv
  · intro v hv; exact z0 hv
  · intro v hv; exact z0 hv
  · intro u v _ _; rw [h 17 (by omega) (by omega)]; rfl
  · intro v hv'; rw [hv v hv']; rfl
  · intro v hv'; rw [h (29 + v) (by omega) (by omega), iF_z (by omega)]; rfl
theorem RO_0 (h : ∀ a, 9 ≤ a → a < 249 → I a = iF a) : RO I w0 N0 := by
  intro u hu
  refine ⟨49 + 5 * u, if_pos hu, by unfold isO; omega, ?_, fun l hl => z0 hl, fun i hi => ?_, 0, ?_, by omega, fun i hi => ?_⟩
  · rw [h (49 + 5 * u) (by omega) (by omega), iF_z (by omega)]; exact nI_0.symm
  · have e : N0 (21 + u) (N0 20 u) = 0 := by
      unfold N0 plN
      rw [if_neg (by omega), if_neg (by omega), if_neg (by omega), if_neg (by omega)]
    omega
  · rw [h (49 + 5 * u) (by omega) (by omega), iF_z (by omega)]; exact nI_0.symm
  · have e : N0 (21 + u) (N0 20 u) = 0 := by
      unfold N0 plN
      rw [if_neg (by omega), if_neg (by omega), if_neg (by omega), if_neg (by omega)]
    omega
theorem WW_0 : WW w0 := by
  refine ⟨⟨fun u => if u < 4 then 49 + 5 * u else 228, fun u hu => ?_, fun a b ha hb hab => ?_⟩, Or.inl ⟨rfl, rfl⟩, ⟨0, by omega, rfl⟩, ⟨0, by omega, rfl⟩⟩
  · dsimp only
    by_cases g : u < 4
    · rw [if_pos g]
      exact ⟨if_pos g, by unfold isO; omega⟩
    · rw [if_neg g]
      have e : u = 4 := by omega
      subst e
      exact ⟨rfl, by unfold isO; omega⟩
  · dsimp only at hab
    by_cases g : a < 4
    · rw [if_pos g] at hab
      by_cases g2 : b < 4
      · rw [if_pos g2] at hab; omega
      · rw [if_neg g2] at hab; omega
    · rw [if_neg g] at hab
      by_cases g2 : b < 4
      · rw [if_pos g2] at hab; omega
      · omega
theorem CI_0 (h : ∀ a, 9 ≤ a → a < 249 → I a = iF a) (h8 : I 8 = fun _ => 0) : CI I w0 N0 Z0 [] none 0 (fun _ => 0) 0 (-1) := by
  refine ⟨RG_0 h, RO_0 h, WW_0, ⟨?_, by simp, 0, by omega, ?_, fun i p hi => by simp at hi⟩, ⟨by rw [h8], fun v hv => ?_⟩, ⟨?_, fun i hi => z0 hi⟩, ?_, ?_⟩
  · rw [h 129 (by omega) (by omega)]; exact nI_0.symm
  · rw [h 129 (by omega) (by omega)]; exact nI_0.symm
  · rw [h (79 + v) (by omega) (by omega), iF_k hv]; exact vu_s
  · rw [h 223 (by omega) (by omega)]; exact nI_0.symm
  · rw [h 227 (by omega) (by omega)]; rfl
  · rw [h 227 (by omega) (by omega)]; rfl
theorem RM_0s (h9 : I 249 = fun j => if j = 4 ∨ j = 5 then nI 8 else if j = 15 then nI 24 else if j = 42 then -1 else 0) (h : ∀ a, 250 ≤ a → a < 280 → a ≠ 266 → I a = fun _ => 0) : RM I N0 Z0 := by
  have h250 := h 250 (by omega) (by omega) (by omega)
  have eC : ∀ u, u < 4 → N0 (21 + u) (N0 20 u) = 0 := fun u hu => by
    unfold N0 plN
    rw [if_neg (by omega), if_neg (by omega), if_neg (by omega), if_neg (by omega)]
  refine ⟨⟨?_, ?_, ?_, ?_, ?_, ?_, ?_, ?_, ?_, ?_, ?_, ?_⟩, ?_, ?_, ?_, ?_, ?_, ?_, ?_, ?_, ?_, ?_, ?_, ?_, ?_, ?_, ?_, ?_, ?_, ?_, ?_, ?_, ?_, ?_, ?_, ?_⟩
  · rw [h250]; exact nI_0.symm
  · rw [h250]; rfl
  · intro v _; rw [h250]; exact nI_0.symm
  · intro v _; rw [h250]; exact nI_0.symm
  · intro v _; rw [h250]; rfl
  · intro v _; rw [h250]; rfl
  · intro v _; rw [h250]; rfl
  · intro v _; rw [h250]; rfl
  · intro v _; rw [h250]; rfl
  · intro v _; rw [h250]; show (0 : Int32) = nI 50 - nI 50; decide
  · intro v _; rw [h250]; exact nI_0.symm
  · intro v _; rw [h250]; rfl
  · rw [h9]; rfl
  · rw [h9]; rfl
  · rw [h9]; exact nI_0.symm
  · rw [h9]; rfl
  · rw [h9]; exact nI_0.symm
  · intro v _; rw [h 252 (by omega) (by omega) (by omega)]; exact nI_0.symm
  · intro v _; rw [h 253 (by omega) (by omega) (by omega)]; exact nI_0.symm
  · intro v _; rw [h 254 (by omega) (by omega) (by omega)]; show (0 : Int32) = nI 1 - 1; decide
  · intro v _; rw [h 255 (by omega) (by omega) (by omega)]; exact nI_0.symm
  · intro v _; rw [h 256 (by omega) (by omega) (by omega)]; exact nI_0.symm
  · intro v _; rw [h 257 (by omega) (by omega) (by omega)]; exact nI_0.symm
  · intro v _; rw [h 258 (by omega) (by omega) (by omega)]; exact nI_0.symm
  · intro v _; rw [h 259 (by omega) (by omega) (by omega)]; exact nI_0.symm
  · intro v _; rw [h 260 (by omega) (by omega) (by omega)]; exact nI_0.symm
  · intro v _; rw [h 261 (by omega) (by omega) (by omega)]; exact nI_0.symm
  · intro v _; rw [h 262 (by omega) (by omega) (by omega)]; exact nI_0.symm
  · intro v _; rw [h 263 (by omega) (by omega) (by omega)]; exact nI_0.symm
  · intro v _; rw [h 264 (by omega) (by omega) (by omega)]; exact nI_0.symm
  · intro v _; rw [h 267 (by omega) (by omega) (by omega)]; exact nI_0.symm
  · intro u v _ hv; exact z0 hv
  · intro u v _ hv; exact z0 hv
  · intro u v _ hv; exact z0 hv
  · intro u v hu hv; rw [eC u hu] at hv; exact z0 hv
  · intro u v hu hv; rw [eC u hu] at hv; exact z0 hv
theorem st_0 (h : IS I) : ST I w0 := by
  obtain ⟨h1, h2, h3, h4, h5⟩ := h
  refine ⟨N0, Z0, [], none, 0, fun _ => 0, 0, -1, ⟨SW_0, DW_0, fun p hp => by simp at hp, fun p hp => (by cases hp), (by omega), fun i hi => z0 hi⟩, CI_0 h1 h2, ⟨RM_0s h3 h5, ⟨?_, by simp, fun i p hi => by simp at hi⟩, ?_, ⟨?_, fun i hi => z0 hi⟩, ?_, ?_, fun i hi => ?_⟩⟩
  · rw [h3]; exact nI_0.symm
  · show I 249 49 = 0
    rw [h3]; rfl
  · rw [h3]; exact nI_0.symm
  · rw [h3]; rfl
  · rw [h3]; rfl
  · rw [h4]; exact if_pos hi
theorem rf_s (h : q < 8 ∨ 250 ≤ q) : rF w0 q = fun _ => none := by
  funext j
  unfold rF
  rw [if_neg (by omega), if_neg (by omega), if_neg (by omega), if_neg (by omega), if_neg (by omega), if_neg (by omega), if_neg (by omega), if_neg (by omega), if_neg (by omega), if_neg (by omega), if_neg (by omega), if_neg (by omega), if_neg (by omega), if_neg (by omega), if_neg (by omega), if_neg (by omega), if_neg (by omega)]
/-- both made: all references, and what stands -/
theorem mk_end {I0 : Nat → Nat → Int32} {R0 : Nat → Nat → Option Nat} (hR : R0 = fun _ _ => none) (h : SX 241 (fun k => rT8.getD k none) (am_rw I0 8 (fun _ => 0)) I (am_rw R0 8 (fun _ => none)) R) : am_rw (zr (am_rw R 249 (fun _ => none)) 250 30 none) 249 (fun k => rTm.getD k none) = rF w0 ∧ ST (am_up (am_up (am_up (am_up (am_rw (zr (am_rw I 249 (fun _ => 0)) 250 30 0) 266 (wdp 77)) 249 4 (nI 8)) 249 5 (nI 8)) 249 15 (nI 24)) 249 42 (-1)) w0 ∧ (am_up (am_up (am_up (am_up (am_rw (zr (am_rw I 249 (fun _ => 0)) 250 30 0) 266 (wdp 77)) 249 4 (nI 8)) 249 5 (nI 8)) 249 15 (nI 24)) 249 42 (-1)) 0 = I0 0 := by
  obtain ⟨h1, h2, h3, h4, h5⟩ := h
  refine ⟨?_, st_0 ⟨fun a g1 g2 => ?_, ?_, ?_, ?_, fun a g1 g2 g3 => ?_⟩, ?_⟩
  · funext q
    by_cases e : q = 249
    · subst e; rw [rwS]; rfl
    rw [rwA e]
    by_cases g : 250 ≤ q ∧ q < 280
    · rw [zr_i g.1 (by omega), rf_s (by omega)]
    unfold zr
    rw [if_neg (by omega), rwA e]
    by_cases e8 : q = 8
    · subst e8; rw [h4]; rfl
    by_cases g2 : 9 ≤ q ∧ q < 249
    · exact (h5 q g2.1 (by omega)).2
    · rw [h2 q (by omega), rwA e8, hR, rf_s (by omega)]
  · rw [upR (by omega), upR (by omega), upR (by omega), upR (by omega), rwA (by omega), zr_o (by omega), rwA (by omega)]
    exact (h5 a g1 (by omega)).1
  · rw [upR (by omega), upR (by omega), upR (by omega), upR (by omega), rwA (by omega), zr_o (by omega), rwA (by omega)]
    exact h3
  · rw [upW, upW, upW, upW, rwA (by omega), zr_o (by omega), rwS]
    funext j
    by_cases e42 : j = 42
    · subst e42; rw [vu_s, if_neg (by omega), if_neg (by omega), if_pos rfl]
    rw [vu_n e42]
    by_cases e15 : j = 15
    · subst e15; rw [vu_s, if_neg (by omega), if_pos rfl]
    rw [vu_n e15]
    by_cases e5 : j = 5
    · subst e5; rw [vu_s, if_pos (by omega)]
    rw [vu_n e5]
    by_cases e4 : j = 4
    · subst e4; rw [vu_s, if_pos (by omega)]
    rw [vu_n e4, if_neg (by omega), if_neg e15, if_neg e42]
  · rw [upR (by omega), upR (by omega), upR (by omega), upR (by omega), rwS]
  · rw [upR (by omega), upR (by omega), upR (by omega), upR (by omega), rwA g3, zr_i g1 (by omega)]
  · rw [upR (by omega), upR (by omega), upR (by omega), upR (by omega), rwA (by omega), zr_o (by omega), rwA (by omega), h1 0 (by omega), rwA (by omega)]
end MAK7
