theorem am_1i_inv {st : List Value} {f : Int32 → List Value → Option am_E} {E : am_E} (h : am_1i st f = some E) : ∃ a r, st = .int a :: r ∧ f a r = some E := by
  unfold am_1i at h
  split at h
  · exact ⟨_, _, rfl, h⟩
  · cases h
theorem am_2i_inv {st : List Value} {f : Int32 → Int32 → List Value → Option am_E} {E : am_E} (h : am_2i st f = some E) : ∃ a b r, st = .int b :: .int a :: r ∧ f a b r = some E := by
  unfold am_2i at h
  split at h
  · exact ⟨_, _, _, rfl, h⟩
  · cases h
theorem am_1l_inv {st : List Value} {f : Int64 → List Value → Option am_E} {E : am_E} (h : am_1l st f = some E) : ∃ a r, st = .long a :: r ∧ f a r = some E := by
  unfold am_1l at h
  split at h
  · exact ⟨_, _, rfl, h⟩
  · cases h
theorem am_2l_inv {st : List Value} {f : Int64 → Int64 → List Value → Option am_E} {E : am_E} (h : am_2l st f = some E) : ∃ a b r, st = .long b :: .long a :: r ∧ f a b r = some E := by
  unfold am_2l at h
  split at h
  · exact ⟨_, _, _, rfl, h⟩
  · cases h
theorem am_1r_inv {st : List Value} {f : Nat → List Value → Option am_E} {E : am_E} (h : am_1r st f = some E) : ∃ a r, st = .ref a :: r ∧ f a r = some E := by
  unfold am_1r at h
  split at h
  · exact ⟨_, _, rfl, h⟩
  · cases h
theorem am_ir_inv {st : List Value} {f : Int32 → Nat → List Value → Option am_E} {E : am_E} (h : am_ir st f = some E) : ∃ j a r, st = .int j :: .ref a :: r ∧ f j a r = some E := by
  unfold am_ir at h
  split at h
  · exact ⟨_, _, _, rfl, h⟩
  · cases h
theorem am_iir_inv {st : List Value} {f : Int32 → Int32 → Nat → List Value → Option am_E} {E : am_E} (h : am_iir st f = some E) : ∃ v j a r, st = .int v :: .int j :: .ref a :: r ∧ f v j a r = some E := by
  unfold am_iir at h
  split at h
  · exact ⟨_, _, _, _, rfl, h⟩
  · cases h
theorem am_lir_inv {st : List Value} {f : Int64 → Int32 → Nat → List Value → Option am_E} {E : am_E} (h : am_lir st f = some E) : ∃ v j a r, st = .long v :: .int j :: .ref a :: r ∧ f v j a r = some E := by
  unfold am_lir at h
  split at h
  · exact ⟨_, _, _, _, rfl, h⟩
  · cases h
theorem am_rir_inv {st : List Value} {f : Nat → Int32 → Nat → List Value → Option am_E} {E : am_E} (h : am_rir st f = some E) : ∃ v j a r, st = .ref v :: .int j :: .ref a :: r ∧ f v j a r = some E := by
  unfold am_rir at h
  split at h
  · exact ⟨_, _, _, _, rfl, h⟩
  · cases h
theorem am_ldi_inv {q : Option (Option Value)} {f : Int32 → Option am_E} {E : am_E} (h : am_ldi q f = some E) : ∃ x, q = some (some (.int x)) ∧ f x = some E := by
  unfold am_ldi at h
  split at h
  · exact ⟨_, rfl, h⟩
  · cases h
theorem am_ldl_inv {q : Option (Option Value)} {f : Int64 → Option am_E} {E : am_E} (h : am_ldl q f = some E) : ∃ x, q = some (some (.long x)) ∧ f x = some E := by
  unfold am_ldl at h
  split at h
  · exact ⟨_, rfl, h⟩
  · cases h
theorem am_ldr_inv {q : Option (Option Value)} {f : Value → Option am_E} {E : am_E} (h : am_ldr q f = some E) : (∃ x, q = some (some (.ref x)) ∧ f (.ref x) = some E) ∨ (q = some (some .null) ∧ f .null = some E) := by
  unfold am_ldr at h
  split at h
  · exact Or.inl ⟨_, rfl, h⟩
  · exact Or.inr ⟨rfl, h⟩
  · cases h
theorem am_sti_inv {st : List Value} {f : Value → List Value → Option am_E} {E : am_E} (h : am_sti st f = some E) : ∃ x r, st = .int x :: r ∧ f (.int x) r = some E := by
  unfold am_sti at h
  split at h
  · exact ⟨_, _, rfl, h⟩
  · cases h
theorem am_sta_inv {st : List Value} {f : Value → List Value → Option am_E} {E : am_E} (h : am_sta st f = some E) : (∃ x r, st = .ref x :: r ∧ f (.ref x) r = some E) ∨ ∃ r, st = .null :: r ∧ f .null r = some E := by
  unfold am_sta at h
  split at h
  · exact Or.inl ⟨_, _, rfl, h⟩
  · exact Or.inr ⟨_, rfl, h⟩
  · cases h
def am_sem (call : mI → List Value → am_M → am_K → Prop) (K : am_K) (P : am_C → Prop) : am_E → Prop
  | .inl e => e.1 ∧ ∀ b ∈ e.2, b.1 → P b.2
  | .inr (.inl e) => e.1 ∧ call e.2.1 e.2.2.1 e.2.2.2.1 (fun v μ => P (e.2.2.2.2 v μ))
  | .inr (.inr e) => e.1 ∧ K e.2.1 e.2.2
theorem am_F_inv {d : Nat} {call : mI → List Value → am_M → am_K → Prop} {y : mI} {K : am_K} {P : am_C → Prop} {c : am_C} (h : am_F d call y K P c) : ∃ i n E, decode (am_by y) c.1 = .ok (i, n) ∧ am_ln i n = true ∧ am_i d y i c.1 c.2.1 c.2.2.1 c.2.2.2.1 c.2.2.2.2 = some E ∧ am_sem call K P E := by
  unfold am_F at h
  unfold am_eff at h
  cases hd : decode (am_by y) c.1 with
  | error q => rw [hd] at h; exact h.elim
  | ok q =>
    obtain ⟨i, n⟩ := q
    rw [hd] at h
    by_cases hn : am_ln i n = true
    · simp only [hn, if_true] at h
      cases hi : am_i d y i c.1 c.2.1 c.2.2.1 c.2.2.2.1 c.2.2.2.2 with
      | none => rw [hi] at h; exact h.elim
      | some E =>
        rw [hi] at h
        refine ⟨i, n, E, rfl, hn, hi, ?_⟩
        match E, h with
        | .inl e, h => exact h
        | .inr (.inl e), h => exact h
        | .inr (.inr e), h => exact h
    · simp only [hn] at h
      exact h.elim
theorem am_g1 {E : am_E} {q : Prop} {c : am_C} {call : mI → List Value → am_M → am_K → Prop} {K : am_K} {P : am_C → Prop} (h : am_go q c = some E) (hs : am_sem call K P E) : q ∧ P c := by
  cases h
  exact ⟨hs.1, hs.2 _ List.mem_cons_self trivial⟩
theorem am_b1 {E : am_E} {pc : Nat} {off : Int} {g : Prop} {V : am_L} {st : List Value} {μ : am_M} {ck : Nat × Nat} {call : mI → List Value → am_M → am_K → Prop} {K : am_K} {P : am_C → Prop} (h : am_br pc off g V st μ ck = some E) (hs : am_sem call K P E) : 0 ≤ (pc : Int) + off ∧ (g → P (((pc : Int) + off).toNat, V, st, μ, ck)) ∧ (¬ g → P (pc + 3, V, st, μ, ck)) := by
  cases h
  exact ⟨hs.1, hs.2 _ List.mem_cons_self, hs.2 _ (List.mem_cons_of_mem _ List.mem_cons_self)⟩
section AM7
variable {p : Program} {l : Launch} {e : Env} {R : Room} {s : State} {m : MethodId} {args : Array Value} {below : List Frame} {meth : Method} {c : Code} {Q : State → Prop} {z : Nat} {xt : Nat → Nat} {D : va_G} {L : Nat} {xs : Nat → Int32} {y : mI} {d : Nat} {K : am_K}
def am_isret : Instr → Bool
  | .ireturn => true
  | .lreturn => true
  | .areturn => true
  | .return_ => true
  | _ => false
/-- what a return must do -/
def am_Ret (p : Program) (l : Launch) (e : Env) (R : Room) (s : State) (m : MethodId) (args : Array Value) (below : List Frame) (meth : Method) (c : Code) (Q : State → Prop) (z : Nat) (xt : Nat → Nat) (D : va_G) (L : Nat) (xs : Nat → Int32) (y : mI) (d : Nat) (K : am_K) : Prop :=
  ∀ (i : Instr) (pc : Nat) (V : am_L) (st : List Value) (μ : am_M) (ck : Nat × Nat) (q : Prop × Option Value × am_M), decode (am_by y) pc = .ok (i, 1) → am_isret i = true → am_i d y i pc V st μ ck = some (.inr (.inr q)) → q.1 → K q.2.1 q.2.2 → am_SD p l e R s m args below meth c Q z xt D L xs y (pc, V, st, μ, ck)
set_option maxHeartbeats 4000000 in
theorem am_snd (G : am_Gm p l e R s m args below meth c z xt L xs y d) (hM : ∀ y' a μ K', am_cw y' → am_okY y' = true → am_call d y' a μ K' → am_Met l z xt D L xs d y' a μ K') (hret : am_Ret p l e R s m args below meth c Q z xt D L xs y d K) : ∀ k, am_F d (am_call d) y K (am_SD p l e R s m args below meth c Q z xt D L xs y) k → am_SD p l e R s m args below meth c Q z xt D L xs y k := by
  intro k h
  obtain ⟨pc, V, st, μ, ck⟩ := k
  obtain ⟨i, n, E, hd, hn, hE, hs⟩ := am_F_inv h
  replace hd : decode (am_by y) pc = .ok (i, n) := hd
  replace hE : am_i d y i pc V st μ ck = some E := hE
  clear h
  cases i with
  | iconst q =>
    obtain rfl : n = 1 := eq_of_beq hn
    exact sn_iconst G hd (am_g1 hE hs).2
  | bipush q =>
    obtain rfl : n = 2 := eq_of_beq hn
    exact sn_bipush G hd (am_g1 hE hs).2
  | sipush q =>
    obtain rfl : n = 3 := eq_of_beq hn
    exact sn_sipush G hd (am_g1 hE hs).2
  | lconst q =>
    obtain rfl : n = 1 := eq_of_beq hn
    exact sn_lconst G hd (am_g1 hE hs).2
  | aconst_null =>
    obtain rfl : n = 1 := eq_of_beq hn
    exact sn_null G hd (am_g1 hE hs).2
  | iadd =>
    obtain rfl : n = 1 := eq_of_beq hn
    obtain ⟨a, b, r, rfl, hE⟩ := am_2i_inv hE
    exact sn_iadd G hd (am_g1 hE hs).2
  | isub =>
    obtain rfl : n = 1 := eq_of_beq hn
    obtain ⟨a, b, r, rfl, hE⟩ := am_2i_inv hE
    exact sn_isub G hd (am_g1 hE hs).2
  | imul =>
    obtain rfl : n = 1 := eq_of_beq hn
    obtain ⟨a, b, r, rfl, hE⟩ := am_2i_inv hE
    exact sn_imul G hd (am_g1 hE hs).2
  | iand =>
    obtain rfl : n = 1 := eq_of_beq hn
    obtain ⟨a, b, r, rfl, hE⟩ := am_2i_inv hE
    exact sn_iand G hd (am_g1 hE hs).2
  | ior =>
    obtain rfl : n = 1 := eq_of_beq hn
    obtain ⟨a, b, r, rfl, hE⟩ := am_2i_inv hE
    exact sn_ior G hd (am_g1 hE hs).2
  | ixor =>
    obtain rfl : n = 1 := eq_of_beq hn
    obtain ⟨a, b, r, rfl, hE⟩ := am_2i_inv hE
    exact sn_ixor G hd (am_g1 hE hs).2
  | ishl =>
    obtain rfl : n = 1 := eq_of_beq hn
    obtain ⟨a, b, r, rfl, hE⟩ := am_2i_inv hE
    exact sn_ishl G hd (am_g1 hE hs).2
  | ishr =>
    obtain rfl : n = 1 := eq_of_beq hn
    obtain ⟨a, b, r, rfl, hE⟩ := am_2i_inv hE
    exact sn_ishr G hd (am_g1 hE hs).2
  | iushr =>
    obtain rfl : n = 1 := eq_of_beq hn
    obtain ⟨a, b, r, rfl, hE⟩ := am_2i_inv hE
    exact sn_iushr G hd (am_g1 hE hs).2
  | idiv =>
    obtain rfl : n = 1 := eq_of_beq hn
    obtain ⟨a, b, r, rfl, hE⟩ := am_2i_inv hE
    exact sn_idiv G hd (am_g1 hE hs).1 (am_g1 hE hs).2
  | irem =>
    obtain rfl : n = 1 := eq_of_beq hn
    obtain ⟨a, b, r, rfl, hE⟩ := am_2i_inv hE
    exact sn_irem G hd (am_g1 hE hs).1 (am_g1 hE hs).2
  | ineg =>
    obtain rfl : n = 1 := eq_of_beq hn
    obtain ⟨a, r, rfl, hE⟩ := am_1i_inv hE
    exact sn_ineg G hd (am_g1 hE hs).2
  | i2l =>
    obtain rfl : n = 1 := eq_of_beq hn
    obtain ⟨a, r, rfl, hE⟩ := am_1i_inv hE
    exact sn_i2l G hd (am_g1 hE hs).2
  | i2b =>
    obtain rfl : n = 1 := eq_of_beq hn
    obtain ⟨a, r, rfl, hE⟩ := am_1i_inv hE
    exact sn_i2b G hd (am_g1 hE hs).2
  | i2c =>
    obtain rfl : n = 1 := eq_of_beq hn
    obtain ⟨a, r, rfl, hE⟩ := am_1i_inv hE
    exact sn_i2c G hd (am_g1 hE hs).2
  | ladd =>
    obtain rfl : n = 1 := eq_of_beq hn
    obtain ⟨a, b, r, rfl, hE⟩ := am_2l_inv hE
    exact sn_ladd G hd (am_g1 hE hs).2
  | lsub =>
    obtain rfl : n = 1 := eq_of_beq hn
    obtain ⟨a, b, r, rfl, hE⟩ := am_2l_inv hE
    exact sn_lsub G hd (am_g1 hE hs).2
  | lmul =>
    obtain rfl : n = 1 := eq_of_beq hn
    obtain ⟨a, b, r, rfl, hE⟩ := am_2l_inv hE
    exact sn_lmul G hd (am_g1 hE hs).2
  | lcmp =>
    obtain rfl : n = 1 := eq_of_beq hn
    obtain ⟨a, b, r, rfl, hE⟩ := am_2l_inv hE
    exact sn_lcmp G hd (am_g1 hE hs).2
  | iload_n q =>
    obtain rfl : n = 1 := eq_of_beq hn
    obtain ⟨x, hv, hE⟩ := am_ldi_inv hE
    exact sn_iload_n G hd hv (am_g1 hE hs).2
  | iload q =>
    obtain rfl : n = 2 := eq_of_beq hn
    obtain ⟨x, hv, hE⟩ := am_ldi_inv hE
    exact sn_iload G hd hv (am_g1 hE hs).2
  | lload_n q =>
    obtain rfl : n = 1 := eq_of_beq hn
    obtain ⟨x, hv, hE⟩ := am_ldl_inv hE
    exact sn_lload_n G hd hv (am_g1 hE hs).2
  | lload q =>
    obtain rfl : n = 2 := eq_of_beq hn
    obtain ⟨x, hv, hE⟩ := am_ldl_inv hE
    exact sn_lload G hd hv (am_g1 hE hs).2
  | aload_n q =>
    obtain rfl : n = 1 := eq_of_beq hn
    unfold am_i at hE
    dsimp only at hE
    rcases am_ldr_inv hE with ⟨x, hv, hE⟩ | ⟨hv, hE⟩
    · exact sn_aload_n G hd hv (am_g1 hE hs).2
    · exact sn_aload_nN G hd hv (am_g1 hE hs).2
  | aload q =>
    obtain rfl : n = 2 := eq_of_beq hn
    unfold am_i at hE
    dsimp only at hE
    rcases am_ldr_inv hE with ⟨x, hv, hE⟩ | ⟨hv, hE⟩
    · exact sn_aload G hd hv (am_g1 hE hs).2
    · exact sn_aloadN G hd hv (am_g1 hE hs).2
  | istore_n q =>
    obtain rfl : n = 1 := eq_of_beq hn
    unfold am_i at hE
    dsimp only at hE
    obtain ⟨x, r, rfl, hE⟩ := am_sti_inv hE
    exact sn_istore_n G hd (am_g1 hE hs).1 (am_g1 hE hs).2
  | istore q =>
    obtain rfl : n = 2 := eq_of_beq hn
    unfold am_i at hE
    dsimp only at hE
    obtain ⟨x, r, rfl, hE⟩ := am_sti_inv hE
    exact sn_istore G hd (am_g1 hE hs).1 (am_g1 hE hs).2
  | astore_n q =>
    obtain rfl : n = 1 := eq_of_beq hn
    unfold am_i at hE
    dsimp only at hE
    rcases am_sta_inv hE with ⟨x, r, rfl, hE⟩ | ⟨r, rfl, hE⟩
    · exact sn_astore_n G hd (am_g1 hE hs).1 (am_g1 hE hs).2
    · exact sn_astore_nN G hd (am_g1 hE hs).1 (am_g1 hE hs).2
  | astore q =>
    obtain rfl : n = 2 := eq_of_beq hn
    unfold am_i at hE
    dsimp only at hE
    rcases am_sta_inv hE with ⟨x, r, rfl, hE⟩ | ⟨r, rfl, hE⟩
    · exact sn_astore G hd (am_g1 hE hs).1 (am_g1 hE hs).2
    · exact sn_astoreN G hd (am_g1 hE hs).1 (am_g1 hE hs).2
  | lstore q =>
    obtain rfl : n = 2 := eq_of_beq hn
    obtain ⟨x, r, rfl, hE⟩ := am_1l_inv hE
    exact sn_lstore G hd (am_g1 hE hs).1 (am_g1 hE hs).2
  | iinc q w =>
    obtain rfl : n = 3 := eq_of_beq hn
    obtain ⟨x, hv, hE⟩ := am_ldi_inv hE
    exact sn_iinc G hd (am_g1 hE hs).1 hv (am_g1 hE hs).2
  | dup =>
    obtain rfl : n = 1 := eq_of_beq hn
    unfold am_i at hE
    dsimp only at hE
    split at hE
    · exact sn_dup G hd (am_g1 hE hs).1 (am_g1 hE hs).2
    · cases hE
  | dup2 =>
    obtain rfl : n = 1 := eq_of_beq hn
    unfold am_i at hE
    dsimp only at hE
    split at hE
    · exact sn_dup2 G hd (am_g1 hE hs).1.1 (am_g1 hE hs).1.2 (am_g1 hE hs).2
    · cases hE
  | pop =>
    obtain rfl : n = 1 := eq_of_beq hn
    unfold am_i at hE
    dsimp only at hE
    split at hE
    · exact sn_pop G hd (am_g1 hE hs).1 (am_g1 hE hs).2
    · cases hE
  | ifnull q =>
    obtain rfl : n = 3 := eq_of_beq hn
    unfold am_i at hE
    dsimp only at hE
    split at hE
    · exact sn_ifnull G hd (am_g1 hE hs).2
    · exact sn_ifnullN G hd (am_g1 hE hs).1 (am_g1 hE hs).2
    · cases hE
  | ifnonnull q =>
    obtain rfl : n = 3 := eq_of_beq hn
    unfold am_i at hE
    dsimp only at hE
    split at hE
    · exact sn_ifnonnullN G hd (am_g1 hE hs).2
    · exact sn_ifnonnull G hd (am_g1 hE hs).1 (am_g1 hE hs).2
    · cases hE
  | ifCond cd off =>
    obtain rfl : n = 3 := eq_of_beq hn
    obtain ⟨a, r, rfl, hE⟩ := am_1i_inv hE
    obtain ⟨h0, h1, h2⟩ := am_b1 hE hs
    exact sn_if G hd h0 h1 h2
  | if_icmp cd off =>
    obtain rfl : n = 3 := eq_of_beq hn
    obtain ⟨a, b, r, rfl, hE⟩ := am_2i_inv hE
    obtain ⟨h0, h1, h2⟩ := am_b1 hE hs
    exact sn_icmp G hd h0 h1 h2
  | goto off =>
    obtain rfl : n = 3 := eq_of_beq hn
    exact sn_goto G hd (am_g1 hE hs).1 (am_g1 hE hs).2
  | tableswitch df lo hi offs =>
    obtain ⟨x, r, rfl, hE⟩ := am_1i_inv hE
    cases hE
    exact sn_tsw G hd hs.1.1 hs.1.2.1 hs.1.2.2 hs.2
  | lookupswitch df ps =>
    obtain ⟨x, r, rfl, hE⟩ := am_1i_inv hE
    cases hE
    exact sn_lsw G hd hs.1.1 hs.1.2.1 hs.1.2.2 hs.2
  | ldc q =>
    obtain rfl : n = 2 := eq_of_beq hn
    unfold am_i at hE
    dsimp only at hE
    split at hE
    · rename_i hq
      obtain ⟨h1, rfl⟩ := hq
      exact sn_ldcS G hd h1 (am_g1 hE hs).2
    · split at hE
      · rename_i hq
        exact sn_ldc G hd hq (am_g1 hE hs).2
      · cases hE
  | ldc_w q =>
    obtain rfl : n = 3 := eq_of_beq hn
    unfold am_i at hE
    dsimp only at hE
    split at hE
    · rename_i hq
      exact sn_ldc_w G hd hq (am_g1 hE hs).2
    · cases hE
  | ldc2_w q =>
    obtain rfl : n = 3 := eq_of_beq hn
    unfold am_i at hE
    dsimp only at hE
    split at hE
    · rename_i hq
      exact sn_ldc2_w G hd hq (am_g1 hE hs).2
    · cases hE
  | getfield q =>
    obtain rfl : n = 3 := eq_of_beq hn
    unfold am_i at hE
    dsimp only at hE
    split at hE
    · rename_i f hq
      obtain ⟨a, r, rfl, hE⟩ := am_1r_inv hE
      obtain ⟨⟨h1, h2⟩, h3⟩ := am_g1 hE hs
      unfold am_fof at hq
      by_cases ho : am_own y = 16
      · rw [if_pos ho] at hq
        by_cases h9 : q = 9
        · rw [if_pos h9] at hq
          cases hq
          subst h9
          exact sn_sv G hd ho h1 h3
        · rw [if_neg h9] at hq
          by_cases h15 : q = 15
          · rw [if_pos h15] at hq
            cases hq
            subst h15
            exact sn_sc G hd ho h1 h3
          · rw [if_neg h15] at hq
            cases hq
      · rw [if_neg ho] at hq
        obtain ⟨ci, k⟩ := f
        have h8 : 8 ≤ a := by
          rcases h2 with h2 | h2
          · have hok := am_fok hq
            unfold am_okF at hok
            have h2 : ci = 16 := h2
            subst h2
            simp [vwCl] at hok
          · exact h2
        exact sn_getfield G hd hq h1 h8 h3
    · cases hE
  | putfield q =>
    obtain rfl : n = 3 := eq_of_beq hn
    unfold am_i at hE
    dsimp only at hE
    split at hE
    · rename_i f hq
      obtain ⟨ci, k⟩ := f
      unfold am_put at hE
      split at hE
      · obtain ⟨⟨h1, h2, h3, h4⟩, h5⟩ := am_g1 hE hs
        exact sn_putI G hd hq h2 h1 h3 h4 h5
      · obtain ⟨⟨h1, h2, h3, h4⟩, h5⟩ := am_g1 hE hs
        exact sn_putR G hd hq h2 h1 h3 h4 h5
      · cases hE
    · cases hE
  | getstatic q =>
    obtain rfl : n = 3 := eq_of_beq hn
    unfold am_i at hE
    dsimp only at hE
    split at hE
    · rename_i ho; exact sn_dx G hd (Or.inl (by rw [ho]; decide)) (am_g1 hE hs).2
    · rename_i ho; exact sn_dy G hd (by rw [ho]; decide) (am_g1 hE hs).2
    · rename_i ho; exact sn_dx G hd (Or.inl (by rw [ho]; decide)) (am_g1 hE hs).2
    · rename_i ho; exact sn_dy G hd (by rw [ho]; decide) (am_g1 hE hs).2
    · rename_i ho; exact sn_dx G hd (Or.inl (by rw [ho]; decide)) (am_g1 hE hs).2
    · rename_i ho; exact sn_dy G hd (by rw [ho]; decide) (am_g1 hE hs).2
    · rename_i ho; exact sn_dx G hd (Or.inr ⟨ho, rfl⟩) (am_g1 hE hs).2
    · rename_i ho; exact sn_cs G hd ho (am_g1 hE hs).2
    · rename_i ho; cases hE; exact sn_sf G hd ho (hs.2 _ List.mem_cons_self trivial) (hs.2 _ (List.mem_cons_of_mem _ List.mem_cons_self) trivial)
    · cases hE
  | iaload =>
    obtain rfl : n = 1 := eq_of_beq hn
    obtain ⟨j, a, r, rfl, hE⟩ := am_ir_inv hE
    obtain ⟨⟨h1, h2⟩, h3⟩ := am_g1 hE hs
    exact sn_iaload G hd h1 h2 h3
  | baload =>
    obtain rfl : n = 1 := eq_of_beq hn
    obtain ⟨j, a, r, rfl, hE⟩ := am_ir_inv hE
    obtain ⟨⟨h1, h2⟩, h3⟩ := am_g1 hE hs
    exact sn_baload G hd h1 h2 h3
  | laload =>
    obtain rfl : n = 1 := eq_of_beq hn
    obtain ⟨j, a, r, rfl, hE⟩ := am_ir_inv hE
    obtain ⟨⟨h0, h1, h2⟩, h3⟩ := am_g1 hE hs
    exact sn_laload G hd h0 h1 h2 h3
  | aaload =>
    obtain rfl : n = 1 := eq_of_beq hn
    obtain ⟨j, a, r, rfl, hE⟩ := am_ir_inv hE
    obtain ⟨⟨h0, h1, h2, h4⟩, h3⟩ := am_g1 hE hs
    exact sn_aaload G hd h0 h1 h2 h4 h3
  | iastore =>
    obtain rfl : n = 1 := eq_of_beq hn
    obtain ⟨v, j, a, r, rfl, hE⟩ := am_iir_inv hE
    obtain ⟨⟨h0, h1, h2⟩, h3⟩ := am_g1 hE hs
    exact sn_iastore G hd h0 h1 h2 h3
  | bastore =>
    obtain rfl : n = 1 := eq_of_beq hn
    obtain ⟨v, j, a, r, rfl, hE⟩ := am_iir_inv hE
    obtain ⟨⟨h0, h1, h2⟩, h3⟩ := am_g1 hE hs
    rcases h1 with h1 | h1
    · rw [if_pos h1] at h3
      exact sn_bastoreB G hd h0 h1 h2 h3
    · rw [if_neg (by rw [h1]; decide)] at h3
      exact sn_bastoreZ G hd h0 h1 h2 h3
  | lastore =>
    obtain rfl : n = 1 := eq_of_beq hn
    obtain ⟨v, j, a, r, rfl, hE⟩ := am_lir_inv hE
    obtain ⟨⟨h0, h1, h2⟩, h3⟩ := am_g1 hE hs
    exact sn_lastore G hd h0 h1 h2 h3
  | aastore =>
    obtain rfl : n = 1 := eq_of_beq hn
    obtain ⟨v, j, a, r, rfl, hE⟩ := am_rir_inv hE
    obtain ⟨⟨h0, h1, h2, h4, h5, h6⟩, h3⟩ := am_g1 hE hs
    exact sn_aastore G hd h0 h2 h4 h1 h5 h6 h3
  | arraylength =>
    obtain rfl : n = 1 := eq_of_beq hn
    obtain ⟨a, r, rfl, hE⟩ := am_1r_inv hE
    exact sn_alen G hd (am_g1 hE hs).1 (am_g1 hE hs).2
  | newarray t =>
    obtain rfl : n = 2 := eq_of_beq hn
    obtain ⟨a, r, rfl, hE⟩ := am_1i_inv hE
    obtain ⟨⟨h0, h1, h2, h4, h5⟩, h3⟩ := am_g1 hE hs
    exact sn_newarray G hd h0 h1 h2 h4 h5 h3
  | anewarray q =>
    obtain rfl : n = 3 := eq_of_beq hn
    unfold am_i at hE
    dsimp only at hE
    split at hE
    · rename_i ci hq
      obtain ⟨a, r, rfl, hE⟩ := am_1i_inv hE
      obtain ⟨⟨h0, h1, h2, h4, h5⟩, h3⟩ := am_g1 hE hs
      exact sn_anewarray G hd hq h0 h1 h2 h4 h5 h3
    · cases hE
  | new q =>
    obtain rfl : n = 3 := eq_of_beq hn
    unfold am_i at hE
    dsimp only at hE
    split at hE
    · rename_i ci hq
      obtain ⟨⟨h0, h1, h2⟩, h3⟩ := am_g1 hE hs
      exact sn_new G hd hq h0 h1 h2 h3
    · cases hE
  | invokevirtual q =>
    obtain rfl : n = 3 := eq_of_beq hn
    unfold am_i at hE
    dsimp only at hE
    split at hE
    · rename_i f hq
      split at hE
      · rename_i h0
        obtain ⟨kd, na, y'⟩ := f
        have hk0 : kd = 0 := h0
        subst hk0
        obtain ⟨pp, hok⟩ := am_cok hq
        have hoy : am_okY y' = true := by unfold am_okC at hok; simp only [Bool.and_eq_true] at hok; exact hok.1.1.1
        cases hst : st.drop na with
        | nil => simp [am_inv, hst] at hE
        | cons v r =>
          cases v with
          | ref b =>
            simp only [am_inv, hst] at hE
            cases hE
            obtain ⟨⟨h1, h2, h3, h4, h5⟩, h6⟩ := hs
            exact sn_virt G hd hq hst h1 h2 h3 h4 h5 (fun _ _ => rfl) (hM _ _ _ _ (am_cwok hq) hoy h6)
          | _ => simp [am_inv, hst] at hE
      · cases hE
    · cases hE
  | invokespecial q =>
    obtain rfl : n = 3 := eq_of_beq hn
    unfold am_i at hE
    dsimp only at hE
    split at hE
    · rename_i hoi
      obtain ⟨a, r, rfl, hE⟩ := am_1r_inv hE
      obtain ⟨⟨h0, h1⟩, h3⟩ := am_g1 hE hs
      exact sn_objInit G hd hoi h0 h1 h3
    · split at hE
      · rename_i f hq
        split at hE
        · rename_i h0
          obtain ⟨kd, na, y'⟩ := f
          have hk0 : kd = 2 := h0
          subst hk0
          obtain ⟨pp, hok⟩ := am_cok hq
          have hoy : am_okY y' = true := by unfold am_okC at hok; simp only [Bool.and_eq_true] at hok; exact hok.1.1.1
          cases hst : st.drop na with
          | nil => simp [am_inv, hst] at hE
          | cons v r =>
            cases v with
            | ref b =>
              simp only [am_inv, hst] at hE
              cases hE
              obtain ⟨⟨h2, h3, h4, h5⟩, h6⟩ := hs
              exact sn_init G hd hq hst h2 h3 h4 h5 (fun _ _ => rfl) (hM _ _ _ _ (am_cwok hq) hoy h6)
            | _ => simp [am_inv, hst] at hE
        · cases hE
      · cases hE
  | invokestatic q =>
    obtain rfl : n = 3 := eq_of_beq hn
    unfold am_i at hE
    dsimp only at hE
    split at hE
    · rename_i hoi
      unfold am_copy at hE
      split at hE
      · obtain ⟨⟨⟨a1, a2, a3, a4, a5, a6, a7⟩, a8, a9, a10, a11⟩, h3⟩ := am_g1 hE hs
        exact sn_copy G hd hoi a1 a2 a3 a4 a5 a6 a7 a8 a9 a10 a11 h3
      · cases hE
    · split at hE
      · rename_i f hq
        split at hE
        · rename_i h0
          obtain ⟨kd, na, y'⟩ := f
          obtain ⟨pp, hok⟩ := am_cok hq
          have hoy : am_okY y' = true := by unfold am_okC at hok; simp only [Bool.and_eq_true] at hok; exact hok.1.1.1
          have h0 : kd = 1 ∨ kd = 3 := h0
          rcases h0 with rfl | rfl
          · have hE : some (Sum.inr (Sum.inl ((na ≤ st.length ∧ ((st.drop na).map am_vc).sum ≤ 8 ∧ ck.1 + am_mc y' ≤ am_mc y ∧ ck.2 + am_ms y' ≤ am_ms y ∧ 1 ≤ d), y', (st.take na).reverse, μ, fun v μ' => (pc + 3, V, v.toList ++ st.drop na, μ', ck.1 + am_mc y', ck.2 + am_ms y')))) = some E := by
              rw [← hE]
              unfold am_inv
              dsimp only
              split <;> simp_all
            cases hE
            obtain ⟨⟨h1, h2, h3, h4, h5⟩, h6⟩ := hs
            exact sn_stat G hd hq h1 h2 h3 h4 h5 (fun _ _ => rfl) (hM _ _ _ _ (am_cwok hq) hoy h6)
          · have hE : some (Sum.inr (Sum.inl ((na ≤ st.length ∧ ((st.drop na).map am_vc).sum ≤ 8 ∧ ck.1 + am_mc y' ≤ am_mc y ∧ ck.2 + am_ms y' ≤ am_ms y ∧ 1 ≤ d), y', (st.take na).reverse, μ, fun v μ' => (pc + 3, V, v.toList ++ st.drop na, μ', ck.1 + am_mc y', ck.2 + am_ms y')))) = some E := by
              rw [← hE]
              unfold am_inv
              dsimp only
              split <;> simp_all
            cases hE
            obtain ⟨⟨h1, h2, h3, h4, h5⟩, h6⟩ := hs
            exact sn_nest G hd hq h1 h2 h3 h4 h5 (fun _ _ => rfl) (hM _ _ _ _ (am_cwok hq) hoy h6)
        · cases hE
      · cases hE
  | ireturn =>
    obtain rfl : n = 1 := eq_of_beq hn
    match E, hE, hs with
    | .inl e, hE, hs => unfold am_i at hE; dsimp only at hE; split at hE <;> cases hE
    | .inr (.inl e), hE, hs => unfold am_i at hE; dsimp only at hE; split at hE <;> cases hE
    | .inr (.inr e), hE, hs => exact hret _ pc V st μ ck e hd rfl hE hs.1 hs.2
  | lreturn =>
    obtain rfl : n = 1 := eq_of_beq hn
    match E, hE, hs with
    | .inl e, hE, hs => unfold am_i at hE; dsimp only at hE; split at hE <;> cases hE
    | .inr (.inl e), hE, hs => unfold am_i at hE; dsimp only at hE; split at hE <;> cases hE
    | .inr (.inr e), hE, hs => exact hret _ pc V st μ ck e hd rfl hE hs.1 hs.2
  | areturn =>
    obtain rfl : n = 1 := eq_of_beq hn
    match E, hE, hs with
    | .inl e, hE, hs => unfold am_i at hE; dsimp only at hE; split at hE <;> cases hE
    | .inr (.inl e), hE, hs => unfold am_i at hE; dsimp only at hE; split at hE <;> cases hE
    | .inr (.inr e), hE, hs => exact hret _ pc V st μ ck e hd rfl hE hs.1 hs.2
  | return_ =>
    obtain rfl : n = 1 := eq_of_beq hn
    match E, hE, hs with
    | .inl e, hE, hs => unfold am_i at hE; dsimp only at hE; split at hE <;> cases hE
    | .inr (.inl e), hE, hs => unfold am_i at hE; dsimp only at hE; split at hE <;> cases hE
    | .inr (.inr e), hE, hs => exact hret _ pc V st μ ck e hd rfl hE hs.1 hs.2
  | _ => cases hE
end AM7
