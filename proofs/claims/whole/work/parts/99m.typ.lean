/-- an answer of a method's own type -/
def am_typ (rt : Option FieldType) (v : Option Value) : Prop := (∃ x, v = some (.int x) ∧ am_nr rt x) ∨ (∃ x, v = some (.long x) ∧ rt = some .long) ∨ am_rr rt ∨ rt = none
section TYP
variable {d pc : Nat} {y : mI} {i : Instr} {ls : am_L} {st : List Value} {μ : am_M} {ck : Nat × Nat} {q : Prop × Option Value × am_M} {K : am_K} {k : am_k} {a : List Value}
theorem am_i_ty (h : am_i d y i pc ls st μ ck = some (.inr (.inr q))) (hq : q.1) : am_typ (am_rt y) q.2.1 := by
  cases i with
  | ireturn =>
    unfold am_i at h
    dsimp only at h
    split at h
    · cases h
      exact Or.inl ⟨_, rfl, hq.1⟩
    · cases h
  | lreturn =>
    unfold am_i at h
    dsimp only at h
    split at h
    · cases h
      exact Or.inr (Or.inl ⟨_, rfl, hq.1⟩)
    · cases h
  | areturn =>
    unfold am_i at h
    dsimp only at h
    split at h
    · cases h
      exact Or.inr (Or.inr (Or.inl hq.1))
    · cases h
      exact Or.inr (Or.inr (Or.inl hq.1))
    · cases h
  | return_ =>
    unfold am_i at h
    dsimp only at h
    split at h
    · cases h
      exact Or.inr (Or.inr (Or.inr hq.1))
    · cases h
  | _ =>
    exfalso
    unfold am_i at h
    dsimp only at h
    try simp only [am_go, am_br, am_1i, am_2i, am_1l, am_2l, am_1r, am_ir, am_iir, am_lir, am_rir, am_ldi, am_ldl, am_ldr, am_sti, am_sta, am_put, am_inv, am_copy] at h
    repeat' (split at h)
    all_goals first | (cases h; done) | contradiction
theorem am_F_ty {call : mI → List Value → am_M → am_K → Prop} {P : am_C → Prop} {c : am_C} (h : am_F d call y K P c) : am_F d call y (fun v μ => K v μ ∧ am_typ (am_rt y) v) P c := by
  unfold am_F at h ⊢
  cases e : am_eff d y c with
  | none => rw [e] at h; exact h.elim
  | some E =>
    rw [e] at h
    match E, e, h with
    | .inl x, _, h => exact h
    | .inr (.inl x), _, h => exact h
    | .inr (.inr x), e, h =>
      refine ⟨h.1, h.2, ?_⟩
      unfold am_eff at e
      split at e
      · split at e
        · exact am_i_ty e h.1
        · cases e
      · cases e
theorem am_call_ty (h : am_call d y a μ K) : am_call d y a μ (fun v μ => K v μ ∧ am_typ (am_rt y) v) := by
  match d, h with
  | d + 1, h => exact ⟨h.1, fun P hP => h.2 P (fun c q => hP c (am_F_ty q))⟩
theorem ac_ty {g : am_G} {I : Nat → Nat → Int32} {J : Nat → Nat → Int64} {R : Nat → Nat → Option Nat} {k k' : am_k} (h : ac d y a g I J R k) (hk : ∀ v g I J R, k v g I J R → am_typ (am_rt y) v → k' v g I J R) : ac d y a g I J R k' := by
  unfold ac at h ⊢
  exact am_call_mono d y a _ _ _ (fun v μ q => hk v μ.1 μ.2.1 μ.2.2.1 μ.2.2.2 q.1 q.2) (am_call_ty h)
end TYP
