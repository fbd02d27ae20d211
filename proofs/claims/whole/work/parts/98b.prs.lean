abbrev Rs : Type := (Nat × Nat) ⊕ (Nat × List (Nat × Nat))
def unF (T : Nat → Nat) (j : Nat) (C : List (Nat × Nat)) : Rs := if 1000 ≤ T j then .inr (j + 1, C ++ [(0, T j - 1000)]) else if 262 ≤ T j ∧ T j ≤ 271 then .inr (j + 1, C ++ [(1, T j - 262)]) else .inl (1, j)
def lvN (x : Nat) : Nat := if x = 259 then 0 else if x = 260 then 1 else if x = 43 ∨ x = 45 then 2 else if x = 42 ∨ x = 47 then 3 else 4
def opN (x : Nat) : Nat := if x = 43 then 2 else if x = 45 then 3 else if x = 42 then 4 else if x = 47 then 5 else if x = 60 then 6 else if x = 61 then 7 else if x = 62 then 8 else if x = 260 then 10 else 11
def lpF (T : Nat → Nat) (f : Nat → List (Nat × Nat) → Rs) (lv : Nat) : Nat → Nat → List (Nat × Nat) → Rs
  | 0, j, C => .inr (j, C)
  | m + 1, j, C => if lvN (T j) = lv then (if T j = 47 ∧ T (j + 1) < 1000 then .inl (1, j + 1) else if T j = 47 ∧ T (j + 1) = 1000 then .inl (2, j + 1) else match f (j + 1) C with
    | .inl e => .inl e
    | .inr p => lpF T f lv m p.1 (p.2 ++ [(opN (T j), 0)])) else .inr (j, C)
def jnF (T : Nat → Nat) (f : Nat → List (Nat × Nat) → Rs) (lv j : Nat) (C : List (Nat × Nat)) : Rs := match f j C with
  | .inl e => .inl e
  | .inr p => lpF T f lv 400 p.1 p.2
def smF (T : Nat → Nat) : Nat → List (Nat × Nat) → Rs := jnF T (jnF T (unF T) 3) 2
def cpF (T : Nat → Nat) (j : Nat) (C : List (Nat × Nat)) : Rs := match smF T j C with
  | .inl e => .inl e
  | .inr p => if T p.1 = 60 ∨ T p.1 = 61 ∨ T p.1 = 62 then (match smF T (p.1 + 1) p.2 with
    | .inl e => .inl e
    | .inr q => .inr (q.1, q.2 ++ [(opN (T p.1), 0)])) else .inl (1, p.1)
def clF (T : Nat → Nat) : Nat → Nat → Nat → List (Nat × Nat) → Rs
  | 0, _, j, _ => .inl (3, j)
  | D + 1, o, j, C => if T j = 261 ∨ T j = 40 then (if 8 ≤ o then .inl (3, j) else if T j = 261 then (match clF T D (o + 1) (j + 1) C with
    | .inl e => .inl e
    | .inr p => .inr (p.1, p.2 ++ [(9, 0)])) else (match jnF T (jnF T (clF T D (o + 1)) 1) 0 (j + 1) C with
    | .inl e => .inl e
    | .inr p => if T p.1 = 41 then .inr (p.1 + 1, p.2) else .inl (1, p.1))) else cpF T j C
def anF (T : Nat → Nat) (D o : Nat) : Nat → List (Nat × Nat) → Rs := jnF T (jnF T (clF T D o) 1) 0
/-- a line: its codes, and the token behind its ; -/
def lnF (T : Nat → Nat) (j : Nat) (C : List (Nat × Nat)) : Rs := match (if T (j + 1) = 258 then anF T 9 0 (j + 2) C else (.inr (j + 1, C) : Rs)) with
  | .inl e => .inl e
  | .inr p => if T p.1 = 59 then .inr (p.1 + 1, p.2) else .inl (1, p.1)
def txF (T : Nat → Nat) : Nat → Nat → List (Nat × Nat) → List (Nat × Nat) → (Nat × Nat) ⊕ (List (Nat × Nat) × List (Nat × Nat))
  | 0, _, C, E => .inr (C, E)
  | m + 1, j, C, E => if T j = 272 then .inr (C, E) else if ¬ (T j = 256 ∨ T j = 257) then .inl (1, j) else if 16 ≤ E.length then .inl (3, j) else match lnF T j C with
    | .inl e => .inl e
    | .inr p => txF T m p.1 p.2 (E ++ [(T j - 256, p.2.length)])
def tkS : List (Nat × Nat) → List Nat → Option (List Nat)
  | [], s => some s
  | c :: t, s => match tkC c.1 c.2 s with
    | some s' => tkS t s'
    | none => none
def oK (τ : Bool) (x : Nat) : Prop := if τ = true then x = 1 else x = 0 ∨ x = 2
/-- what a reader may do: where it ends, what codes it writes, what they leave on a stack -/
def GD (T : Nat → Nat) (n : Nat) (f : Nat → List (Nat × Nat) → Rs) (h : Nat) (τ : Bool) : Prop := ∀ j C, j ≤ n → (∀ e, f j C = .inl e → 1 ≤ e.1 ∧ e.1 ≤ 3 ∧ e.2 ≤ n) ∧ ∀ p, f j C = .inr p → j < p.1 ∧ p.1 ≤ n ∧ ∃ δ, p.2 = C ++ δ ∧ δ.length + j ≤ p.1 ∧ ∀ s : List Nat, s.length ≤ h → ∃ x, tkS δ s = some (x :: s) ∧ oK τ x
section PRS
variable {T : Nat → Nat} {n h m lv j o D : Nat} {τ : Bool} {f : Nat → List (Nat × Nat) → Rs} {C : List (Nat × Nat)}
theorem tkS_a : ∀ (a b : List (Nat × Nat)) s s', tkS a s = some s' → tkS (a ++ b) s = tkS b s' := by
  intro a
  induction a with
  | nil => intro b s s' h; have h : some s = some s' := h; cases h; rfl
  | cons c t ih =>
    intro b s s' h
    have h : (match tkC c.1 c.2 s with | some s' => tkS t s' | none => none) = some s' := h
    show (match tkC c.1 c.2 s with | some s' => tkS (t ++ b) s' | none => none) = _
    cases hc : tkC c.1 c.2 s with
    | none => rw [hc] at h; cases h
    | some s1 => rw [hc] at h; exact ih b s1 s' h
theorem tkS_1 {c : Nat × Nat} {s s' : List Nat} (h : tkC c.1 c.2 s = some s') : tkS [c] s = some s' := by
  show (match tkC c.1 c.2 s with | some s' => tkS [] s' | none => none) = _
  rw [h]
  rfl
theorem GD_un (hT : ∀ j, T j < 11000) (hn : ∀ j, n ≤ j → T j = 272) : GD T n (unF T) 31 false := by
  intro j C hj
  have hlt : T j ≠ 272 → j < n := fun z => Classical.byContradiction (fun y => z (hn j (by omega)))
  have hb := hT j
  unfold unF
  constructor
  · intro e he
    split at he
    · cases he
    · split at he
      · cases he
      · cases he; exact ⟨by omega, by omega, hj⟩
  · intro p hp
    split at hp
    · rename_i g
      cases hp
      have := hlt (by omega)
      refine ⟨by show j < j + 1; omega, by show j + 1 ≤ n; omega, [(0, T j - 1000)], rfl, by show 1 + j ≤ j + 1; omega, fun s hs => ?_⟩
      refine ⟨if T j - 1000 = 0 then 0 else 2, tkS_1 ?_, ?_⟩
      · show (if (0 : Nat) = 0 then (if s.length < 32 ∧ T j - 1000 < 10000 then some ((if T j - 1000 = 0 then 0 else 2) :: s) else none) else _) = _
        rw [if_pos rfl, if_pos ⟨by omega, by omega⟩]
      · unfold oK; rw [if_neg (by decide)]; split <;> simp
    · split at hp
      · rename_i g1 g
        cases hp
        have := hlt (by omega)
        refine ⟨by show j < j + 1; omega, by show j + 1 ≤ n; omega, [(1, T j - 262)], rfl, by show 1 + j ≤ j + 1; omega, fun s hs => ⟨0, tkS_1 ?_, Or.inl rfl⟩⟩
        show (if (1 : Nat) = 0 then _ else if (1 : Nat) = 1 then (if s.length < 32 ∧ T j - 262 < 10 then some (0 :: s) else none) else _) = _
        rw [if_neg (by decide), if_pos rfl, if_pos ⟨by omega, by omega⟩]
      · cases hp
/-- an op behind two parts -/
theorem tk_op {x y z : Nat} {s : List Nat} (hz : lvN z = lv) (hl : lv < 4) (hlv : (τ = true ↔ lv < 2)) (hx : oK τ x) (hy : oK τ y) (h47 : z = 47 → y = 2) : ∃ r, tkC (opN z) 0 (y :: x :: s) = some (r :: s) ∧ oK τ r := by
  unfold lvN at hz
  unfold oK at hx hy ⊢
  cases τ with
  | true =>
    have hl2 : lv < 2 := hlv.mp rfl
    simp only [if_true] at hx hy ⊢
    subst hx
    subst hy
    have hc : z = 259 ∨ z = 260 := by
      by_cases g1 : z = 259
      · exact Or.inl g1
      · rw [if_neg g1] at hz
        by_cases g2 : z = 260
        · exact Or.inr g2
        · rw [if_neg g2] at hz
          split at hz
          · omega
          · split at hz <;> omega
    rcases hc with rfl | rfl
    · exact ⟨1, rfl, rfl⟩
    · exact ⟨1, rfl, rfl⟩
  | false =>
    have hl2 : ¬ lv < 2 := fun z => by have := hlv.mpr z; cases this
    simp only [Bool.false_eq_true, if_false] at hx hy ⊢
    have hc : z = 43 ∨ z = 45 ∨ z = 42 ∨ z = 47 := by
      by_cases g1 : z = 259
      · rw [if_pos g1] at hz; omega
      · rw [if_neg g1] at hz
        by_cases g2 : z = 260
        · rw [if_pos g2] at hz; omega
        · rw [if_neg g2] at hz
          split at hz
          · omega
          · split at hz
            · omega
            · omega
    rcases hc with rfl | rfl | rfl | rfl
    · exact ⟨0, rfl, Or.inl rfl⟩
    · exact ⟨0, rfl, Or.inl rfl⟩
    · exact ⟨0, rfl, Or.inl rfl⟩
    · have := h47 rfl
      subst this
      exact ⟨0, rfl, Or.inl rfl⟩
theorem GD_lp (hn : ∀ j, n ≤ j → T j = 272) (hf : GD T n f (h + 1) τ) (hl : lv < 4) (hlv : (τ = true ↔ lv < 2)) (h47 : lv = 3 → ∀ j C p, 1001 ≤ T j → f j C = .inr p → ∃ δ, p.2 = C ++ δ ∧ ∀ s : List Nat, s.length ≤ h + 1 → tkS δ s = some (2 :: s)) : ∀ m j C, j ≤ n → (∀ e, lpF T f lv m j C = .inl e → 1 ≤ e.1 ∧ e.1 ≤ 3 ∧ e.2 ≤ n) ∧ ∀ p, lpF T f lv m j C = .inr p → j ≤ p.1 ∧ p.1 ≤ n ∧ ∃ δ, p.2 = C ++ δ ∧ δ.length + j ≤ p.1 ∧ ∀ (s : List Nat) x, s.length ≤ h → oK τ x → ∃ z, tkS δ (x :: s) = some (z :: s) ∧ oK τ z := by
  intro m
  induction m with
  | zero =>
    intro j C hj
    refine ⟨fun e he => (by cases he), fun p hp => ?_⟩
    cases hp
    exact ⟨Nat.le_refl j, hj, [], by simp, by simp, fun s x _ hx => ⟨x, rfl, hx⟩⟩
  | succ m ih =>
    intro j C hj
    have el : lpF T f lv (m + 1) j C = if lvN (T j) = lv then (if T j = 47 ∧ T (j + 1) < 1000 then .inl (1, j + 1) else if T j = 47 ∧ T (j + 1) = 1000 then .inl (2, j + 1) else match f (j + 1) C with
      | .inl e => .inl e
      | .inr p => lpF T f lv m p.1 (p.2 ++ [(opN (T j), 0)])) else .inr (j, C) := rfl
    rw [el]
    by_cases g : lvN (T j) = lv
    rotate_left
    · rw [if_neg g]
      refine ⟨fun e he => (by cases he), fun p hp => ?_⟩
      cases hp
      exact ⟨Nat.le_refl j, hj, [], by simp, by simp, fun s x _ hx => ⟨x, rfl, hx⟩⟩
    rw [if_pos g]
    have jn : j < n := by
      apply Classical.byContradiction
      intro z
      rw [hn j (by omega)] at g
      have : lvN 272 = 4 := rfl
      omega
    by_cases g1 : T j = 47 ∧ T (j + 1) < 1000
    · rw [if_pos g1]
      refine ⟨fun e he => ?_, fun p hp => (by cases hp)⟩
      cases he
      exact ⟨by omega, by omega, by show j + 1 ≤ n; omega⟩
    rw [if_neg g1]
    by_cases g2 : T j = 47 ∧ T (j + 1) = 1000
    · rw [if_pos g2]
      refine ⟨fun e he => ?_, fun p hp => (by cases hp)⟩
      cases he
      exact ⟨by omega, by omega, by show j + 1 ≤ n; omega⟩
    rw [if_neg g2]
    obtain ⟨f1, f2⟩ := hf (j + 1) C (by omega)
    cases hq : f (j + 1) C with
    | inl e =>
      refine ⟨fun e' he => ?_, fun p hp => (by cases hp)⟩
      cases he
      exact f1 e hq
    | inr p =>
      obtain ⟨a1, a2, δ, a3, a4, a5⟩ := f2 p hq
      obtain ⟨b1, b2⟩ := ih p.1 (p.2 ++ [(opN (T j), 0)]) a2
      refine ⟨b1, fun p' hp => ?_⟩
      obtain ⟨c1, c2, δ', c3, c4, c5⟩ := b2 p' hp
      refine ⟨by omega, c2, δ ++ [(opN (T j), 0)] ++ δ', ?_, ?_, fun s x hs hx => ?_⟩
      · rw [c3, a3]; simp
      · simp only [List.length_append, List.length_cons, List.length_nil]; omega
      · obtain ⟨y, y1, y2⟩ := a5 (x :: s) (by show s.length + 1 ≤ h + 1; omega)
        have y47 : T j = 47 → y = 2 := by
          intro z
          have l3 : lv = 3 := by rw [← g, z]; rfl
          obtain ⟨δ2, e1, e2⟩ := h47 l3 (j + 1) C p (by omega) hq
          have ed : δ2 = δ := by
            rw [a3] at e1
            exact (List.append_cancel_left e1).symm
          have e3 := e2 (x :: s) (by show s.length + 1 ≤ h + 1; omega)
          rw [ed, y1] at e3
          have := Option.some.inj e3
          simpa using this
        obtain ⟨r, r1, r2⟩ := tk_op (s := s) g hl hlv hx y2 y47
        obtain ⟨z, z1, z2⟩ := c5 s r hs r2
        refine ⟨z, ?_, z2⟩
        have t1 : tkS (δ ++ [(opN (T j), 0)]) (x :: s) = some (r :: s) := by
          rw [tkS_a δ _ _ _ y1]
          exact tkS_1 r1
        rw [tkS_a _ δ' _ _ t1]
        exact z1
theorem GD_jn (hn : ∀ j, n ≤ j → T j = 272) (hf : GD T n f (h + 1) τ) (hl : lv < 4) (hlv : (τ = true ↔ lv < 2)) (h47 : lv = 3 → ∀ j C p, 1001 ≤ T j → f j C = .inr p → ∃ δ, p.2 = C ++ δ ∧ ∀ s : List Nat, s.length ≤ h + 1 → tkS δ s = some (2 :: s)) : GD T n (jnF T f lv) h τ := by
  intro j C hj
  obtain ⟨f1, f2⟩ := hf j C hj
  unfold jnF
  cases hq : f j C with
  | inl e =>
    refine ⟨fun e' he => ?_, fun p hp => (by cases hp)⟩
    cases he
    exact f1 e hq
  | inr p =>
    obtain ⟨a1, a2, δ, a3, a4, a5⟩ := f2 p hq
    obtain ⟨b1, b2⟩ := GD_lp hn hf hl hlv h47 400 p.1 p.2 a2
    refine ⟨b1, fun p' hp => ?_⟩
    obtain ⟨c1, c2, δ', c3, c4, c5⟩ := b2 p' hp
    refine ⟨by omega, c2, δ ++ δ', by rw [c3, a3]; simp, by simp only [List.length_append]; omega, fun s hs => ?_⟩
    obtain ⟨y, y1, y2⟩ := a5 s (by omega)
    obtain ⟨z, z1, z2⟩ := c5 s y hs y2
    exact ⟨z, by rw [tkS_a _ δ' _ _ y1]; exact z1, z2⟩
theorem GD_pr (hT : ∀ j, T j < 11000) (hn : ∀ j, n ≤ j → T j = 272) : GD T n (jnF T (unF T) 3) 30 false := by
  refine GD_jn hn (GD_un hT hn) (by decide) (by decide) ?_
  intro _ j C p hj hp
  unfold unF at hp
  rw [if_pos (by omega)] at hp
  cases hp
  refine ⟨[(0, T j - 1000)], rfl, fun s hs => tkS_1 ?_⟩
  have hb := hT j
  show (if (0 : Nat) = 0 then (if s.length < 32 ∧ T j - 1000 < 10000 then some ((if T j - 1000 = 0 then 0 else 2) :: s) else none) else _) = _
  rw [if_pos rfl, if_pos ⟨by omega, by omega⟩, if_neg (by omega)]
theorem GD_sm (hT : ∀ j, T j < 11000) (hn : ∀ j, n ≤ j → T j = 272) : GD T n (smF T) 29 false := GD_jn hn (GD_pr hT hn) (by decide) (by decide) (fun z => by cases z)
theorem GD_cp (hT : ∀ j, T j < 11000) (hn : ∀ j, n ≤ j → T j = 272) : GD T n (cpF T) 28 true := by
  intro j C hj
  obtain ⟨f1, f2⟩ := GD_sm hT hn j C hj
  unfold cpF
  cases hq : smF T j C with
  | inl e =>
    refine ⟨fun e' he => ?_, fun p hp => (by cases hp)⟩
    cases he
    exact f1 e hq
  | inr p =>
    obtain ⟨a1, a2, δ, a3, a4, a5⟩ := f2 p hq
    dsimp only
    by_cases g : T p.1 = 60 ∨ T p.1 = 61 ∨ T p.1 = 62
    rotate_left
    · rw [if_neg g]
      refine ⟨fun e' he => ?_, fun p hp => (by cases hp)⟩
      cases he
      exact ⟨by omega, by omega, a2⟩
    rw [if_pos g]
    have pn : p.1 < n := by
      apply Classical.byContradiction
      intro z
      have := hn p.1 (by omega)
      omega
    obtain ⟨g1, g2⟩ := GD_sm hT hn (p.1 + 1) p.2 (by omega)
    cases hq2 : smF T (p.1 + 1) p.2 with
    | inl e =>
      refine ⟨fun e' he => ?_, fun p hp => (by cases hp)⟩
      cases he
      exact g1 e hq2
    | inr q =>
      obtain ⟨b1, b2, δ', b3, b4, b5⟩ := g2 q hq2
      refine ⟨fun e' he => (by cases he), fun p' hp => ?_⟩
      cases hp
      refine ⟨by show j < q.1; omega, b2, δ ++ δ' ++ [(opN (T p.1), 0)], by show q.2 ++ _ = _; rw [b3, a3]; simp, by simp only [List.length_append, List.length_cons, List.length_nil]; omega, fun s hs => ?_⟩
      obtain ⟨y, y1, y2⟩ := a5 s (by omega)
      obtain ⟨z, z1, z2⟩ := b5 (y :: s) (by show s.length + 1 ≤ 29; omega)
      refine ⟨1, ?_, rfl⟩
      have t1 : tkS (δ ++ δ') s = some (z :: y :: s) := by rw [tkS_a _ δ' _ _ y1]; exact z1
      rw [tkS_a _ _ _ _ t1]
      apply tkS_1
      rcases g with g | g | g <;> rw [g] <;> rfl
theorem GD_cl (hT : ∀ j, T j < 11000) (hn : ∀ j, n ≤ j → T j = 272) : ∀ D o, D ≤ 9 → GD T n (clF T D o) (30 - 2 * D) true := by
  intro D
  induction D with
  | zero =>
    intro o _ j C hj
    refine ⟨fun e he => ?_, fun p hp => (by cases hp)⟩
    cases he
    exact ⟨by omega, by omega, hj⟩
  | succ D ih =>
    intro o hD j C hj
    have el : clF T (D + 1) o j C = if T j = 261 ∨ T j = 40 then (if 8 ≤ o then .inl (3, j) else if T j = 261 then (match clF T D (o + 1) (j + 1) C with
      | .inl e => .inl e
      | .inr p => .inr (p.1, p.2 ++ [(9, 0)])) else (match jnF T (jnF T (clF T D (o + 1)) 1) 0 (j + 1) C with
      | .inl e => .inl e
      | .inr p => if T p.1 = 41 then .inr (p.1 + 1, p.2) else .inl (1, p.1))) else cpF T j C := rfl
    rw [el]
    by_cases g : T j = 261 ∨ T j = 40
    rotate_left
    · rw [if_neg g]
      obtain ⟨f1, f2⟩ := GD_cp hT hn j C hj
      refine ⟨f1, fun p hp => ?_⟩
      obtain ⟨a1, a2, δ, a3, a4, a5⟩ := f2 p hp
      exact ⟨a1, a2, δ, a3, a4, fun s hs => a5 s (by omega)⟩
    rw [if_pos g]
    have jn : j < n := by
      apply Classical.byContradiction
      intro z
      have := hn j (by omega)
      omega
    by_cases g8 : 8 ≤ o
    · rw [if_pos g8]
      refine ⟨fun e' he => ?_, fun p hp => (by cases hp)⟩
      cases he
      exact ⟨by omega, by omega, hj⟩
    rw [if_neg g8]
    by_cases g1 : T j = 261
    · rw [if_pos g1]
      obtain ⟨f1, f2⟩ := ih (o + 1) (by omega) (j + 1) C (by omega)
      cases hq : clF T D (o + 1) (j + 1) C with
      | inl e =>
        refine ⟨fun e' he => ?_, fun p hp => (by cases hp)⟩
        cases he
        exact f1 e hq
      | inr p =>
        obtain ⟨a1, a2, δ, a3, a4, a5⟩ := f2 p hq
        refine ⟨fun e' he => (by cases he), fun p' hp => ?_⟩
        cases hp
        refine ⟨by show j < p.1; omega, a2, δ ++ [(9, 0)], by show p.2 ++ _ = _; rw [a3]; simp, by simp only [List.length_append, List.length_cons, List.length_nil]; omega, fun s hs => ?_⟩
        obtain ⟨y, y1, y2⟩ := a5 s (by omega)
        have y2 : y = 1 := y2
        subst y2
        exact ⟨1, by rw [tkS_a _ _ _ _ y1]; rfl, rfl⟩
    · rw [if_neg g1]
      by_cases gD : D = 0
      · subst gD
        have e0 : jnF T (jnF T (clF T 0 (o + 1)) 1) 0 (j + 1) C = .inl (3, j + 1) := rfl
        rw [e0]
        refine ⟨fun e' he => ?_, fun p hp => (by cases hp)⟩
        cases he
        exact ⟨by omega, by omega, by show j + 1 ≤ n; omega⟩
      obtain ⟨D', rfl⟩ : ∃ D', D = D' + 1 := ⟨D - 1, by omega⟩
      have i1 := ih (o + 1) (by omega)
      have j1 : GD T n (jnF T (clF T (D' + 1) (o + 1)) 1) (30 - 2 * (D' + 1) - 1) true := by
        refine GD_jn hn ?_ (by decide) (by decide) (fun z => by cases z)
        rw [show 30 - 2 * (D' + 1) - 1 + 1 = 30 - 2 * (D' + 1) by omega]
        exact i1
      have j2 : GD T n (jnF T (jnF T (clF T (D' + 1) (o + 1)) 1) 0) (30 - 2 * (D' + 1) - 2) true := by
        refine GD_jn hn ?_ (by decide) (by decide) (fun z => by cases z)
        rw [show 30 - 2 * (D' + 1) - 2 + 1 = 30 - 2 * (D' + 1) - 1 by omega]
        exact j1
      obtain ⟨f1, f2⟩ := j2 (j + 1) C (by omega)
      cases hq : jnF T (jnF T (clF T (D' + 1) (o + 1)) 1) 0 (j + 1) C with
      | inl e =>
        refine ⟨fun e' he => ?_, fun p hp => (by cases hp)⟩
        cases he
        exact f1 e hq
      | inr p =>
        obtain ⟨a1, a2, δ, a3, a4, a5⟩ := f2 p hq
        dsimp only
        by_cases g4 : T p.1 = 41
        · rw [if_pos g4]
          have pn : p.1 < n := by
            apply Classical.byContradiction
            intro z
            have := hn p.1 (by omega)
            omega
          refine ⟨fun e' he => (by cases he), fun p' hp => ?_⟩
          cases hp
          exact ⟨by show j < p.1 + 1; omega, by show p.1 + 1 ≤ n; omega, δ, a3, by show δ.length + j ≤ p.1 + 1; omega, fun s hs => a5 s (by omega)⟩
        · rw [if_neg g4]
          refine ⟨fun e' he => ?_, fun p hp => (by cases hp)⟩
          cases he
          exact ⟨by omega, by omega, a2⟩
theorem GD_al (hT : ∀ j, T j < 11000) (hn : ∀ j, n ≤ j → T j = 272) (hD : 1 ≤ D) (hD9 : D ≤ 9) : GD T n (jnF T (clF T D o) 1) (30 - 2 * D - 1) true := by
  refine GD_jn hn ?_ (by decide) (by decide) (fun z => by cases z)
  rw [show 30 - 2 * D - 1 + 1 = 30 - 2 * D by omega]
  exact GD_cl hT hn D o hD9
theorem GD_an (hT : ∀ j, T j < 11000) (hn : ∀ j, n ≤ j → T j = 272) (hD : 1 ≤ D) (hD9 : D ≤ 9) : GD T n (anF T D o) (30 - 2 * D - 2) true := by
  refine GD_jn hn ?_ (by decide) (by decide) (fun z => by cases z)
  rw [show 30 - 2 * D - 2 + 1 = 30 - 2 * D - 1 by omega]
  exact GD_al hT hn hD hD9
end PRS
