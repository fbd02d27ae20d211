/-! HOW THE MACHINE'S HEAP HOLDS A MEMORY OF THE ABSTRACT ONE -/
def am_nest : Cond → Bool
  | .fieldLinkNest .. => true
  | .methodLinkNest .. => true
  | _ => false
def am_tbl : List Cond := lw_tbl.filter goodWord
def am_ad (z : Nat) (xt : Nat → Nat) (b : Nat) : Nat := if b < 8 then xt b else z + (b - 8)
def am_tr (z : Nat) (xt : Nat → Nat) (v : Value) : Value := match v with
  | .ref b => .ref (am_ad z xt b)
  | v => v
def am_ty (t : Nat) : FieldType := if t = 0 then .int else if t = 1 then .long else if t = 2 then .byte else if t = 3 then .boolean else .object (am_cn (t - 10))
def am_ar (z : Nat) (xt : Nat → Nat) (μ : am_M) (b : Nat) : (Nat → Int32) ⊕ (Nat → Int64) ⊕ (Nat → UInt32) ⊕ (Nat → UInt64) ⊕ (Nat → Option Nat) := if (μ.1.2 b).1 = 1 then .inr (.inl (μ.2.2.1 b)) else if 10 ≤ (μ.1.2 b).1 then .inr (.inr (.inr (.inr (fun j => (μ.2.2.2 b j).map (am_ad z xt))))) else .inl (μ.2.1 b)
def am_ce (z : Nat) (xt : Nat → Nat) (ka : Nat → ClassId) (μ : am_M) (b : Nat) : va_E :=
  if 100 ≤ (μ.1.2 b).1 then .inr ((μ.1.2 b).1 - 100, (List.range (am_nf ((μ.1.2 b).1 - 100))).map (fun k => am_tr z xt (am_fv ((μ.1.2 b).1 - 100) k b μ)))
  else .inl (ka b, (μ.1.2 b).2, am_ar z xt μ b)
def am_ws (z : Nat) (xt : Nat → Nat) (ka : Nat → ClassId) (μ : am_M) : va_W := (List.range μ.1.1).map (fun i => (z + i, am_ce z xt ka μ (8 + i)))
def am_okt (t : Nat) : Prop := t < 4 ∨ (10 ≤ t ∧ t < 23) ∨ (100 ≤ t ∧ t < 113)
def am_sh (L : Nat) (μ : am_M) : Prop := (∀ b, 8 + μ.1.1 ≤ b → (μ.1.2 b).1 = 999) ∧ (∀ b, 8 ≤ b → b < 8 + μ.1.1 → am_okt (μ.1.2 b).1) ∧ μ.1.2 0 = (0, L) ∧ μ.1.2 1 = (0, 8) ∧ μ.1.2 2 = (0, 8) ∧ μ.1.2 3 = (116, 0) ∧ μ.1.2 4 = (2, 75) ∧ (μ.1.2 5).1 = 999 ∧ (μ.1.2 6).1 = 999 ∧ (μ.1.2 7).1 = 999
/-- the heap holds the memory -/
def am_R (z : Nat) (xt : Nat → Nat) (D : va_G) (L : Nat) (xs : Nat → Int32) (μ : am_M) (U : State) (H : Heap) : Prop :=
  H.size = z + μ.1.1 ∧ am_sh L μ ∧ μ.2.1 0 = xs ∧ va_K D vwCl [] U ∧ ∃ ka : Nat → ClassId, va_P D vwCl (am_ws z xt ka μ) H ∧ ∀ b, 8 ≤ b → (μ.1.2 b).1 < 100 → ArrOfT U (ka b) (am_ty (μ.1.2 b).1) ∧ va_RA U (ka b) (am_ty (μ.1.2 b).1)
def am_A (z : Nat) : Nat → Prop := fun q => z ≤ q
/-- what was there before: statics, the text of words, the script -/
def am_X (z : Nat) (xt : Nat → Nat) (L : Nat) (xs : Nat → Int32) (U : State) (H : Heap) : Prop :=
  (va_Z "TownsUnderSail" "DX" "[I" (.ref (xt 1)) (am_A z) U H ∧ va_T .int (xt 1) 8 (fun j => .int (am_dx j)) (am_A z) U H) ∧ (va_Z "TownsUnderSail" "DY" "[I" (.ref (xt 2)) (am_A z) U H ∧ va_T .int (xt 2) 8 (fun j => .int (am_dy j)) (am_A z) U H) ∧
  va_Z "java/lang/String" "COMPACT_STRINGS" "Z" (.int 1) (am_A z) U H ∧ (va_Z "jdk/internal/util/Preconditions" "SIOOBE_FORMATTER" "Ljava/util/function/BiFunction;" .null (am_A z) U H ∨ va_Z "jdk/internal/util/Preconditions" "SIOOBE_FORMATTER" "Ljava/util/function/BiFunction;" (.ref (xt 5)) (am_A z) U H) ∧
  vk_R "TownsUnderSail$Tape" 54 "sail furl when or and not x y way force hour thirst crust near tied village" (xt 3) U ∧ va_O "java/lang/String" (xt 3) (am_A z) U H ∧ va_OF "java/lang/String" "value" "[B" (.ref (xt 4)) (xt 3) (am_A z) U H ∧ va_OF "java/lang/String" "coder" "B" (.int 0) (xt 3) (am_A z) U H ∧ va_T .byte (xt 4) 75 (fun j => .int (am_wb j)) (am_A z) U H ∧
  (va_X (xt 0) L xs U H ∧ xt 0 < z) ∧ (∀ w ∈ lw_tbl, am_nest w = true → va_Nw w U) ∧ ∀ C, Cond.arrayOver (.object C) ∈ lw_tbl → va_AO C U
theorem am_X.moved {z : Nat} {xt : Nat → Nat} {L : Nat} {xs : Nat → Int32} {s U : State} {H : Heap} (hW : s.WarmedH U.vm) (h : am_X z xt L xs s H) : am_X z xt L xs U H := by
  obtain ⟨⟨h1, h2⟩, ⟨h3, h4⟩, h5, h6, h7, h8, h9, h10, h11, ⟨h12, h13⟩, h14, h15⟩ := h
  have hvm := hW.alike
  refine ⟨⟨h1.moved hvm, h2.moved hvm⟩, ⟨h3.moved hvm, h4.moved hvm⟩, h5.moved hvm, h6.elim (fun q => Or.inl (q.moved hvm)) (fun q => Or.inr (q.moved hvm)), h7.warm hW, h8.moved hvm, h9.moved hvm, h10.moved hvm, h11.moved hvm, ⟨h12.moved hvm, h13⟩, ?_, fun C q => (h15 C q).moved hvm⟩
  intro w hw hn
  have q := h14 w hw hn
  cases w <;> first | exact va_Nw.warmF hW q | exact va_Nw.warmM hW q | exact absurd hn Bool.false_ne_true
theorem am_X.same {z : Nat} {xt : Nat → Nat} {L : Nat} {xs : Nat → Int32} {u U : State} {H : Heap} (hv : u.vm = U.vm) (h : am_X z xt L xs u H) : am_X z xt L xs U H := by
  obtain ⟨⟨h1, h2⟩, ⟨h3, h4⟩, h5, h6, h7, h8, h9, h10, h11, ⟨h12, h13⟩, h14, h15⟩ := h
  have hvm : u.vm.Alike U.vm := by rw [hv]; exact Vm.Alike.refl U.vm
  refine ⟨⟨h1.moved hvm, h2.moved hvm⟩, ⟨h3.moved hvm, h4.moved hvm⟩, h5.moved hvm, h6.elim (fun q => Or.inl (q.moved hvm)) (fun q => Or.inr (q.moved hvm)), h7.same hv.symm, h8.moved hvm, h9.moved hvm, h10.moved hvm, h11.moved hvm, ⟨h12.moved hvm, h13⟩, ?_, fun C q => (h15 C q).moved hvm⟩
  intro w hw hn
  have q := h14 w hw hn
  cases w <;> first | exact va_Nw.same rfl hv q | exact absurd hn Bool.false_ne_true
theorem am_X.kept {z : Nat} {xt : Nat → Nat} {L : Nat} {xs : Nat → Int32} {U : State} {H H1 : Heap} (hz : z ≤ H.size) (h : am_X z xt L xs U H) (hq : ∀ a : Nat, a < H.size → ¬ am_A z a → H1[a]? = H[a]?) : am_X z xt L xs U H1 := by
  obtain ⟨⟨h1, h2⟩, ⟨h3, h4⟩, h5, h6, h7, h8, h9, h10, h11, ⟨h12, h13⟩, h14, h15⟩ := h
  exact ⟨⟨h1.kept hq, h2.kept hq⟩, ⟨h3.kept hq, h4.kept hq⟩, h5.kept hq, h6.elim (fun q => Or.inl (q.kept hq)) (fun q => Or.inr (q.kept hq)), h7, h8.kept hq, h9.kept hq, h10.kept hq, h11.kept hq, ⟨h12.kept (hq _ (by omega) (by unfold am_A; omega)), h13⟩, h14, h15⟩
theorem am_R.moved {z : Nat} {xt : Nat → Nat} {D : va_G} {L : Nat} {xs : Nat → Int32} {μ : am_M} {u U : State} {H : Heap} (hvm : u.vm.Alike U.vm) (h : am_R z xt D L xs μ u H) : am_R z xt D L xs μ U H := by
  obtain ⟨h1, h2, h3, h4, ka, h5, h6⟩ := h
  exact ⟨h1, h2, h3, h4.moved hvm, ka, h5, fun b hb ht => ⟨arrOfT_moved hvm (h6 b hb ht).1, (h6 b hb ht).2.moved hvm⟩⟩
