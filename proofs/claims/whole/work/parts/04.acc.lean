def am_own (y : mI) : Nat := y.1
def am_nm (y : mI) : MethodName := y.2.1
def am_by (y : mI) : ByteArray := y.2.2.1
def am_ml (y : mI) : Nat := y.2.2.2.1
def am_rt (y : mI) : Option FieldType := y.2.2.2.2.1
def am_mc (y : mI) : Nat := y.2.2.2.2.2.1
def am_ms (y : mI) : Nat := y.2.2.2.2.2.2
/-! tables -/
theorem am_lk {α : Type} {l : List (Nat × α)} {n : Nat} {v : α} (h : l.lookup n = some v) : (n, v) ∈ l := by
  induction l with
  | nil => cases h
  | cons q t ih =>
    obtain ⟨k, w⟩ := q
    unfold List.lookup at h
    split at h
    · rename_i e
      rw [beq_iff_eq] at e
      cases h
      rw [e]
      exact List.mem_cons_self
    · exact List.mem_cons_of_mem _ (ih h)
