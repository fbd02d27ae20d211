def TXI (C E : List (Nat × Nat)) : Prop := C.length = stE E E.length ∧ ∀ l e, E[l]? = some e → e.1 ≤ 1 ∧ stE E l ≤ e.2 ∧ e.2 ≤ C.length ∧ (stE E l = e.2 ∨ tkS ((C.drop (stE E l)).take (e.2 - stE E l)) [] = some [1])
/-- the orders of kind u told anew -/
def txN (N : Nat → Nat → Nat) (u : Nat) (C E : List (Nat × Nat)) : Nat → Nat → Nat := fun f i => if f = 20 then (if i = u then E.length else N 20 i) else if f = 21 + u then stE E i else if f = 25 + u then (E.getD i (0, 0)).1 else if f = 29 + u then (C.getD i (0, 0)).1 else if f = 33 + u then (C.getD i (0, 0)).2 else N f i
section TXS
variable {T : Nat → Nat} {n h m lv j o D u i : Nat} {τ : Bool} {C E δ : List (Nat × Nat)} {N : Nat → Nat → Nat} {v : Nat}
theorem TXI_s (h : TXI C E) (hv : v ≤ 1) (hd : δ = [] ∨ tkS δ [] = some [1]) : TXI (C ++ δ) (E ++ [(v, (C ++ δ).length)]) := by
  obtain ⟨h1, h2⟩ := h
  refine ⟨(st_l (e := (v, (C ++ δ).length))).symm, fun l e hl => ?_⟩
  have lc : (C ++ δ).length = C.length + δ.length := List.length_append
  by_cases el : l = E.length
  · subst el
    rw [List.getElem?_append_right (Nat.le_refl _), Nat.sub_self] at hl
    have : e = (v, (C ++ δ).length) := (Option.some.inj hl).symm
    subst this
    rw [st_a (Nat.le_refl _), ← h1]
    refine ⟨hv, by show C.length ≤ (C ++ δ).length; omega, Nat.le_refl _, ?_⟩
    show C.length = (C ++ δ).length ∨ tkS (((C ++ δ).drop C.length).take ((C ++ δ).length - C.length)) [] = some [1]
    rcases hd with hd | hd
    · left; rw [hd]; simp
    · right
      rw [List.drop_left, lc, Nat.add_sub_cancel_left, List.take_length]
      exact hd
  · have hl2 := (List.getElem?_eq_some_iff.mp hl).1
    simp only [List.length_append, List.length_cons, List.length_nil] at hl2
    rw [List.getElem?_append_left (by omega)] at hl
    obtain ⟨a1, a2, a3, a4⟩ := h2 l e hl
    rw [st_a (by omega)]
    refine ⟨a1, a2, by omega, ?_⟩
    rcases a4 with a4 | a4
    · exact Or.inl a4
    · right
      rw [List.drop_append_of_le_length (by omega), List.take_append_of_le_length (by rw [List.length_drop]; omega)]
      exact a4
theorem tx_i (hT : ∀ j, T j < 11000) (hn : ∀ j, n ≤ j → T j = 272) : ∀ m j C E, j ≤ n → C.length ≤ j → E.length ≤ 16 → TXI C E → ∀ p, txF T m j C E = .inr p → TXI p.1 p.2 ∧ p.2.length ≤ 16 ∧ p.1.length ≤ n := by
  intro m
  induction m with
  | zero =>
    intro j C E hj hC hE hi p hp
    cases hp
    exact ⟨hi, hE, by show C.length ≤ n; omega⟩
  | succ m ih =>
    intro j C E hj hC hE hi p hp
    have el : txF T (m + 1) j C E = if T j = 272 then .inr (C, E) else if ¬ (T j = 256 ∨ T j = 257) then .inl (1, j) else if 16 ≤ E.length then .inl (3, j) else match lnF T j C with
      | .inl e => .inl e
      | .inr p => txF T m p.1 p.2 (E ++ [(T j - 256, p.2.length)]) := rfl
    rw [el] at hp
    by_cases g : T j = 272
    · rw [if_pos g] at hp
      cases hp
      exact ⟨hi, hE, by show C.length ≤ n; omega⟩
    rw [if_neg g] at hp
    by_cases g1 : T j = 256 ∨ T j = 257
    rotate_left
    · rw [if_pos g1] at hp; cases hp
    rw [if_neg (fun z => z g1)] at hp
    by_cases g6 : 16 ≤ E.length
    · rw [if_pos g6] at hp; cases hp
    rw [if_neg g6] at hp
    have jn : j < n := Classical.byContradiction (fun y => g (hn j (by omega)))
    have el2 : lnF T j C = match (if T (j + 1) = 258 then anF T 9 0 (j + 2) C else (.inr (j + 1, C) : Rs)) with
      | .inl e => .inl e
      | .inr p => if T p.1 = 59 then .inr (p.1 + 1, p.2) else .inl (1, p.1) := rfl
    rw [el2] at hp
    by_cases g2 : T (j + 1) = 258
    · rw [if_pos g2] at hp
      have jn1 : j + 1 < n := Classical.byContradiction (fun y => by have := hn (j + 1) (by omega); omega)
      cases hq : anF T 9 0 (j + 2) C with
      | inl e => rw [hq] at hp; cases hp
      | inr q =>
        rw [hq] at hp
        dsimp only at hp
        obtain ⟨b1, b2, δ, b3, b4, b5⟩ := (GD_an (o := 0) hT hn (show 1 ≤ 9 by omega) (Nat.le_refl 9) (j + 2) C (by omega)).2 q hq
        by_cases g5 : T q.1 = 59
        rotate_left
        · rw [if_neg g5] at hp; cases hp
        rw [if_pos g5] at hp
        dsimp only at hp
        have qn : q.1 < n := Classical.byContradiction (fun y => by have := hn q.1 (by omega); omega)
        obtain ⟨x, x1, x2⟩ := b5 [] (by simp)
        have x2 : x = 1 := x2
        subst x2
        rw [b3] at hp
        have lc : (C ++ δ).length = C.length + δ.length := List.length_append
        exact ih (q.1 + 1) (C ++ δ) _ (by omega) (by omega) (by simp only [List.length_append, List.length_cons, List.length_nil]; omega) (TXI_s hi (by omega) (Or.inr x1)) p hp
    · rw [if_neg g2] at hp
      dsimp only at hp
      by_cases g5 : T (j + 1) = 59
      rotate_left
      · rw [if_neg g5] at hp; cases hp
      rw [if_pos g5] at hp
      dsimp only at hp
      have jn1 : j + 1 < n := Classical.byContradiction (fun y => by have := hn (j + 1) (by omega); omega)
      have := TXI_s (δ := []) hi (show T j - 256 ≤ 1 by omega) (Or.inl rfl)
      rw [List.append_nil] at this
      exact ih (j + 1 + 1) C _ (by omega) (by omega) (by simp only [List.length_append, List.length_cons, List.length_nil]; omega) this p hp
theorem tk_LS : ∀ m a s, a + m ≤ C.length → tkL (fun i => (C.getD i (0, 0)).1) (fun i => (C.getD i (0, 0)).2) m a s = tkS ((C.drop a).take m) s := by
  intro m
  induction m with
  | zero => intro a s _; rw [List.take_zero]; rfl
  | succ m ih =>
    intro a s hm
    rw [List.drop_eq_getElem_cons (show a < C.length by omega), List.take_succ_cons]
    have ea : C.getD a (0, 0) = C[a]'(by omega) := by rw [List.getD_eq_getElem?_getD, List.getElem?_eq_getElem (by omega)]; rfl
    show (match tkC (C.getD a (0, 0)).1 (C.getD a (0, 0)).2 s with | some t => tkL _ _ m (a + 1) t | none => none) = (match tkC (C[a]'(by omega)).1 (C[a]'(by omega)).2 s with | some s' => tkS ((C.drop (a + 1)).take m) s' | none => none)
    rw [ea]
    cases tkC (C[a]'(by omega)).1 (C[a]'(by omega)).2 s with
    | none => rfl
    | some t => exact ih (a + 1) t (by omega)
theorem tN_o {f : Nat} (hf : f < 20) : txN N u C E f = N f := by
  funext i
  unfold txN
  rw [if_neg (by omega), if_neg (by omega), if_neg (by omega), if_neg (by omega), if_neg (by omega)]
theorem tN_20 : txN N u C E 20 i = if i = u then E.length else N 20 i := rfl
theorem tN_21 : txN N u C E (21 + u) = stE E := by
  funext i
  unfold txN
  rw [if_neg (by omega), if_pos rfl]
theorem tN_25 (hu : u < 4) : txN N u C E (25 + u) = fun i => (E.getD i (0, 0)).1 := by
  funext i
  unfold txN
  rw [if_neg (by omega), if_neg (by omega), if_pos rfl]
theorem tN_29 (hu : u < 4) : txN N u C E (29 + u) = fun i => (C.getD i (0, 0)).1 := by
  funext i
  unfold txN
  rw [if_neg (by omega), if_neg (by omega), if_neg (by omega), if_pos rfl]
theorem tN_33 (hu : u < 4) : txN N u C E (33 + u) = fun i => (C.getD i (0, 0)).2 := by
  funext i
  unfold txN
  rw [if_neg (by omega), if_neg (by omega), if_neg (by omega), if_neg (by omega), if_pos rfl]
theorem tN_x {b : Nat} (hu : u < 4) (hv : v < 4) (hb : b = 21 ∨ b = 25 ∨ b = 29 ∨ b = 33) (h : ¬ v = u) : txN N u C E (b + v) = N (b + v) := by
  funext i
  unfold txN
  rw [if_neg (by omega), if_neg (by omega), if_neg (by omega), if_neg (by omega), if_neg (by omega)]
theorem st_1 (h : i < E.length) : stE E (i + 1) = (E.getD i (0, 0)).2 := by
  unfold stE
  rw [if_neg (by omega), Nat.add_sub_cancel]
theorem gD_s {e : Nat × Nat} {E : List (Nat × Nat)} (h : E[i]? = some e) : E.getD i (0, 0) = e := by
  rw [List.getD_eq_getElem?_getD, h]; rfl
theorem OW_tx (h : OW N) (hu : u < 4) (hx : TXI C E) (hE : E.length ≤ 16) (hC : C.length ≤ 400) : OW (txN N u C E) := by
  intro k hk
  by_cases e : k = u
  · subst e
    rw [tN_20, if_pos rfl, tN_21, tN_25 hk, tN_29 hk, tN_33 hk]
    refine ⟨hE, rfl, fun l hl => ?_⟩
    have hg : E[l]? = some (E[l]'hl) := List.getElem?_eq_getElem hl
    obtain ⟨a1, a2, a3, a4⟩ := hx.2 l _ hg
    rw [st_1 hl]
    rw [gD_s hg]
    refine ⟨a2, by omega, by show (E.getD l (0, 0)).1 ≤ 1; rw [gD_s hg]; exact a1, ?_⟩
    rcases a4 with a4 | a4
    · exact Or.inl a4
    · right
      rw [tk_LS _ _ _ (by omega)]
      exact a4
  · rw [tN_20, if_neg e, tN_x hu hk (by omega) e, tN_x hu hk (by omega) e, tN_x hu hk (by omega) e, tN_x hu hk (by omega) e]
    exact h k hk
theorem SW_tx (h : SW N) (hu : u < 4) (hx : TXI C E) (hE : E.length ≤ 16) (hC : C.length ≤ 400) : SW (txN N u C E) := by
  have e : ∀ f, f < 20 → txN N u C E f = N f := fun f hf => tN_o hf
  obtain ⟨sW3, sW, sH3, sH, sL, sV, sR, sv, sh, sr, sw, ss, so⟩ := h
  have ow := OW_tx so hu hx hE hC
  unfold SW
  simp (disch := omega) only [e]
  exact ⟨sW3, sW, sH3, sH, sL, sV, sR, sv, sh, sr, sw, ss, ow⟩
end TXS
