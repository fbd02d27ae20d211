def am_lv (z : Nat) (xt : Nat → Nat) (ls : Array Slot) (V : am_L) : Prop := ls.size = V.length ∧ lv_wf ls ∧ ∀ (i : Nat) (v : Value), V[i]? = some (some v) → ls[i]? = some (.val (am_tr z xt v))
/-- what holds in a body at depth d -/
def am_Gm (p : Program) (l : Launch) (e : Env) (R : Room) (s : State) (m : MethodId) (args : Array Value) (below : List Frame) (meth : Method) (c : Code) (z : Nat) (xt : Nat → Nat) (L : Nat) (xs : Nat → Int32) (y : mI) (d : Nat) : Prop :=
  p.tables.exec = Jvm.exec ∧ c.code = am_by y ∧ c.maxLocals = am_ml y ∧ s.vm.findClass (am_cn (am_own y)) = some m.cls ∧ (∀ w ∈ am_tbl, w.before args s = true) ∧ ((am_nm y).name = "<init>" → meth.name = "<init>") ∧ z ≤ s.heap.size ∧ am_X z xt L xs s s.heap ∧ d ≤ R.frames ∧ 100 * d ≤ R.locals ∧ am_mc y ≤ R.cells ∧ am_ms y ≤ R.slots
def am_SD (p : Program) (l : Launch) (e : Env) (R : Room) (s : State) (m : MethodId) (args : Array Value) (below : List Frame) (meth : Method) (c : Code) (Q : State → Prop) (z : Nat) (xt : Nat → Nat) (D : va_G) (L : Nat) (xs : Nat → Int32) (y : mI) (k : am_C) : Prop :=
  ∀ (H : Heap) (locs : List Loc) (ls : Array Slot), am_R z xt D L xs k.2.2.2.1 s H → va_S (am_A z) s.heap H locs → am_lv z xt ls k.2.1 → k.2.1.length = am_ml y → s.heap.size + k.2.2.2.2.1 = z + k.2.2.2.1.1.1 → W p l e R s m args below meth c H locs k.2.2.2.2.1 k.2.2.2.2.2 Q (F0 m k.1 ls (k.2.2.1.map (am_tr z xt)))
theorem am_s1_len : ∀ (V : am_L) (i : Nat) (v : Value), (am_s1 V i v).length = V.length := by
  intro V
  induction V with
  | nil => intro i v; rfl
  | cons o t ih =>
    intro i v
    match i with
    | 0 => rfl
    | 1 => simp [am_s1, ih]
    | n + 2 => simp [am_s1, ih]
theorem am_s1_get : ∀ (V : am_L) (i : Nat) (v : Value) (j : Nat), i < V.length → (am_s1 V i v)[j]? = if j = i then some (some v) else if j + 1 = i then (V[j]?).map am_cl else V[j]? := by
  intro V
  induction V with
  | nil => intro i v j h; exact absurd h (Nat.not_lt_zero _)
  | cons o t ih =>
    intro i v j h
    match i, j with
    | 0, 0 => simp [am_s1]
    | 0, j + 1 => simp [am_s1]
    | 1, 0 => simp [am_s1]
    | 1, j + 1 =>
      have := ih 0 v j (by simp at h; omega)
      simp [am_s1, this]
    | n + 2, 0 => simp [am_s1]
    | n + 2, j + 1 =>
      have := ih (n + 1) v j (by simp at h; omega)
      simp [am_s1, this]
theorem am_s2_len : ∀ (V : am_L) (i : Nat) (v : Value), (am_s2 V i v).length = V.length := by
  intro V
  induction V with
  | nil => intro i v; rfl
  | cons o t ih =>
    intro i v
    match i with
    | 0 => cases t <;> simp [am_s2]
    | 1 => simp [am_s2, ih]
    | n + 2 => simp [am_s2, ih]
theorem am_s2_get : ∀ (V : am_L) (i : Nat) (v : Value) (j : Nat), i + 1 < V.length → (am_s2 V i v)[j]? = if j = i then some (some v) else if j = i + 1 then some none else if j + 1 = i then (V[j]?).map am_cl else V[j]? := by
  intro V
  induction V with
  | nil => intro i v j h; exact absurd h (Nat.not_lt_zero _)
  | cons o t ih =>
    intro i v j h
    match i, j with
    | 0, 0 => simp [am_s2]
    | 0, 1 =>
      cases t with
      | nil => simp at h
      | cons o' t => simp [am_s2]
    | 0, j + 2 =>
      cases t with
      | nil => simp at h
      | cons o' t => simp [am_s2]
    | 1, 0 => simp [am_s2]
    | 1, j + 1 =>
      have := ih 0 v j (by simp at h; omega)
      simp [am_s2, this]
    | n + 2, 0 => simp [am_s2]
    | n + 2, j + 1 =>
      have := ih (n + 1) v j (by simp at h; omega)
      simp [am_s2, this]
def am_as (z : Nat) (xt : Nat → Nat) (V : am_L) : List (Nat × Value) := (List.range V.length).filterMap (fun i => (V[i]?.join).map (fun v => (i, am_tr z xt v)))
theorem am_as_mem {z : Nat} {xt : Nat → Nat} {V : am_L} {i : Nat} {v : Value} (h : V[i]? = some (some v)) : (i, am_tr z xt v) ∈ am_as z xt V := by
  have hi : i < V.length := (List.getElem?_eq_some_iff.mp h).1
  exact List.mem_filterMap.mpr ⟨i, List.mem_range.mpr hi, by simp [h]⟩
theorem am_as_of {z : Nat} {xt : Nat → Nat} {V : am_L} {q : Nat × Value} (h : q ∈ am_as z xt V) : ∃ v, V[q.1]? = some (some v) ∧ q.2 = am_tr z xt v := by
  obtain ⟨i, hi, he⟩ := List.mem_filterMap.mp h
  cases hv : V[i]? with
  | none => rw [hv] at he; cases he
  | some o =>
    cases o with
    | none => rw [hv] at he; cases he
    | some v =>
      rw [hv] at he
      cases he
      exact ⟨v, hv, rfl⟩
theorem am_lv.has {z : Nat} {xt : Nat → Nat} {ls : Array Slot} {V : am_L} (h : am_lv z xt ls V) : lv_has ls V.length (am_as z xt V) := by
  refine ⟨h.1, h.2.1, fun q hq => ?_⟩
  obtain ⟨v, hv, e⟩ := am_as_of hq
  rw [e]
  exact h.2.2 _ _ hv
theorem am_tr_cat (z : Nat) (xt : Nat → Nat) (v : Value) : (am_tr z xt v).category = v.category := by cases v <;> rfl
theorem am_cl_some {o : Option Value} {v : Value} (h : am_cl o = some v) : o = some v ∧ ¬ v.category = 2 := by
  cases o with
  | none => cases h
  | some w => cases w <;> first | (cases h; exact ⟨rfl, by decide⟩) | (cases h; exact ⟨rfl, by simp [Value.category]⟩) | cases h
theorem am_lv.st1 {z : Nat} {xt : Nat → Nat} {ls' : Array Slot} {V : am_L} {i : Nat} {v : Value} (hi : i < V.length) (h : lv_has ls' V.length ((i, am_tr z xt v) :: (am_as z xt V).filter (fun q => !(q.1 == i) && !(q.1 + 1 == i && q.2.category == 2)))) : am_lv z xt ls' (am_s1 V i v) := by
  refine ⟨by rw [am_s1_len]; exact h.1, h.2.1, fun j w hw => ?_⟩
  rw [am_s1_get V i v j hi] at hw
  by_cases hj : j = i
  · rw [if_pos hj] at hw
    cases hw
    exact h.2.2 (j, am_tr z xt v) (by rw [hj]; exact List.mem_cons_self)
  · rw [if_neg hj] at hw
    have key : V[j]? = some (some w) ∧ ¬ (j + 1 = i ∧ w.category = 2) := by
      by_cases hk : j + 1 = i
      · rw [if_pos hk] at hw
        cases hv : V[j]? with
        | none => rw [hv] at hw; cases hw
        | some o =>
          rw [hv] at hw
          obtain ⟨e1, e2⟩ := am_cl_some (Option.some.inj hw)
          exact ⟨by rw [e1], fun q => e2 q.2⟩
      · rw [if_neg hk] at hw
        exact ⟨hw, fun q => hk q.1⟩
    refine h.2.2 (j, am_tr z xt w) (List.mem_cons_of_mem _ (List.mem_filter.mpr ⟨am_as_mem key.1, ?_⟩))
    have h2 := key.2
    simp only [am_tr_cat]
    by_cases hk : j + 1 = i
    · have : ¬ w.category = 2 := fun q => h2 ⟨hk, q⟩
      simp [hj, hk, this]
    · simp [hj, hk]
theorem am_lv.st2 {z : Nat} {xt : Nat → Nat} {ls' : Array Slot} {V : am_L} {i : Nat} {v : Value} (hi : i + 1 < V.length) (h : lv_has ls' V.length ((i, am_tr z xt v) :: (am_as z xt V).filter (fun q => !(q.1 == i) && (!(q.1 == i + 1) && !(q.1 + 1 == i && q.2.category == 2))))) : am_lv z xt ls' (am_s2 V i v) := by
  refine ⟨by rw [am_s2_len]; exact h.1, h.2.1, fun j w hw => ?_⟩
  rw [am_s2_get V i v j hi] at hw
  by_cases hj : j = i
  · rw [if_pos hj] at hw
    cases hw
    exact h.2.2 (j, am_tr z xt v) (by rw [hj]; exact List.mem_cons_self)
  · rw [if_neg hj] at hw
    by_cases hj1 : j = i + 1
    · rw [if_pos hj1] at hw
      cases hw
    · rw [if_neg hj1] at hw
      have key : V[j]? = some (some w) ∧ ¬ (j + 1 = i ∧ w.category = 2) := by
        by_cases hk : j + 1 = i
        · rw [if_pos hk] at hw
          cases hv : V[j]? with
          | none => rw [hv] at hw; cases hw
          | some o =>
            rw [hv] at hw
            obtain ⟨e1, e2⟩ := am_cl_some (Option.some.inj hw)
            exact ⟨by rw [e1], fun q => e2 q.2⟩
        · rw [if_neg hk] at hw
          exact ⟨hw, fun q => hk q.1⟩
      refine h.2.2 (j, am_tr z xt w) (List.mem_cons_of_mem _ (List.mem_filter.mpr ⟨am_as_mem key.1, ?_⟩))
      have h2 := key.2
      simp only [am_tr_cat]
      by_cases hk : j + 1 = i
      · have : ¬ w.category = 2 := fun q => h2 ⟨hk, q⟩
        simp [hj, hj1, hk, this]
      · simp [hj, hj1, hk]
section AM1
variable {p : Program} {l : Launch} {e : Env} {R : Room} {s : State} {m : MethodId} {args : Array Value} {below : List Frame} {meth : Method} {c : Code} {Q : State → Prop} {z : Nat} {xt : Nat → Nat} {D : va_G} {L : Nat} {xs : Nat → Int32} {y : mI} {d : Nat} {K : am_K}
variable {pc : Nat} {V : am_L} {μ : am_M} {ck : Nat × Nat} {r : List Value}
theorem sn_iconst {n : Int} (G : am_Gm p l e R s m args below meth c z xt L xs y d) (hd : decode (am_by y) pc = .ok (.iconst n, 1)) (h : (am_SD p l e R s m args below meth c Q z xt D L xs y (pc + 1, V, .int (Int32.ofInt n) :: r, μ, ck))) : (am_SD p l e R s m args below meth c Q z xt D L xs y (pc, V, r, μ, ck)) := fun H locs ls hR hS hl hn hz => lv_iconst G.1 G.2.1 hd rfl (h H locs ls hR hS hl hn hz)
theorem sn_bipush {n : Int} (G : am_Gm p l e R s m args below meth c z xt L xs y d) (hd : decode (am_by y) pc = .ok (.bipush n, 2)) (h : (am_SD p l e R s m args below meth c Q z xt D L xs y (pc + 2, V, .int (Int8.ofInt n).toInt32 :: r, μ, ck))) : (am_SD p l e R s m args below meth c Q z xt D L xs y (pc, V, r, μ, ck)) := fun H locs ls hR hS hl hn hz => lv_bipush G.1 G.2.1 hd rfl (h H locs ls hR hS hl hn hz)
theorem sn_sipush {n : Int} (G : am_Gm p l e R s m args below meth c z xt L xs y d) (hd : decode (am_by y) pc = .ok (.sipush n, 3)) (h : (am_SD p l e R s m args below meth c Q z xt D L xs y (pc + 3, V, .int (Int16.ofInt n).toInt32 :: r, μ, ck))) : (am_SD p l e R s m args below meth c Q z xt D L xs y (pc, V, r, μ, ck)) := fun H locs ls hR hS hl hn hz => lv_sipush G.1 G.2.1 hd rfl (h H locs ls hR hS hl hn hz)
theorem sn_lconst {n : Fin 2} (G : am_Gm p l e R s m args below meth c z xt L xs y d) (hd : decode (am_by y) pc = .ok (.lconst n, 1)) (h : (am_SD p l e R s m args below meth c Q z xt D L xs y (pc + 1, V, .long (Int64.ofNat n) :: r, μ, ck))) : (am_SD p l e R s m args below meth c Q z xt D L xs y (pc, V, r, μ, ck)) := fun H locs ls hR hS hl hn hz => lv_lconst G.1 G.2.1 hd rfl (h H locs ls hR hS hl hn hz)
theorem sn_null (G : am_Gm p l e R s m args below meth c z xt L xs y d) (hd : decode (am_by y) pc = .ok (.aconst_null, 1)) (h : (am_SD p l e R s m args below meth c Q z xt D L xs y (pc + 1, V, .null :: r, μ, ck))) : (am_SD p l e R s m args below meth c Q z xt D L xs y (pc, V, r, μ, ck)) := fun H locs ls hR hS hl hn hz => lv_null G.1 G.2.1 hd (h H locs ls hR hS hl hn hz)
theorem sn_iadd {a b : Int32} (G : am_Gm p l e R s m args below meth c z xt L xs y d) (hd : decode (am_by y) pc = .ok (.iadd, 1)) (h : (am_SD p l e R s m args below meth c Q z xt D L xs y (pc + 1, V, .int (a + b) :: r, μ, ck))) : (am_SD p l e R s m args below meth c Q z xt D L xs y (pc, V, .int b :: .int a :: r, μ, ck)) := fun H locs ls hR hS hl hn hz => lv_iadd G.1 G.2.1 hd (h H locs ls hR hS hl hn hz)
theorem sn_isub {a b : Int32} (G : am_Gm p l e R s m args below meth c z xt L xs y d) (hd : decode (am_by y) pc = .ok (.isub, 1)) (h : (am_SD p l e R s m args below meth c Q z xt D L xs y (pc + 1, V, .int (a - b) :: r, μ, ck))) : (am_SD p l e R s m args below meth c Q z xt D L xs y (pc, V, .int b :: .int a :: r, μ, ck)) := fun H locs ls hR hS hl hn hz => lv_isub G.1 G.2.1 hd (h H locs ls hR hS hl hn hz)
theorem sn_imul {a b : Int32} (G : am_Gm p l e R s m args below meth c z xt L xs y d) (hd : decode (am_by y) pc = .ok (.imul, 1)) (h : (am_SD p l e R s m args below meth c Q z xt D L xs y (pc + 1, V, .int (a * b) :: r, μ, ck))) : (am_SD p l e R s m args below meth c Q z xt D L xs y (pc, V, .int b :: .int a :: r, μ, ck)) := fun H locs ls hR hS hl hn hz => lv_imul G.1 G.2.1 hd (h H locs ls hR hS hl hn hz)
theorem sn_iand {a b : Int32} (G : am_Gm p l e R s m args below meth c z xt L xs y d) (hd : decode (am_by y) pc = .ok (.iand, 1)) (h : (am_SD p l e R s m args below meth c Q z xt D L xs y (pc + 1, V, .int (a &&& b) :: r, μ, ck))) : (am_SD p l e R s m args below meth c Q z xt D L xs y (pc, V, .int b :: .int a :: r, μ, ck)) := fun H locs ls hR hS hl hn hz => lv_iand G.1 G.2.1 hd (h H locs ls hR hS hl hn hz)
theorem sn_ior {a b : Int32} (G : am_Gm p l e R s m args below meth c z xt L xs y d) (hd : decode (am_by y) pc = .ok (.ior, 1)) (h : (am_SD p l e R s m args below meth c Q z xt D L xs y (pc + 1, V, .int (a ||| b) :: r, μ, ck))) : (am_SD p l e R s m args below meth c Q z xt D L xs y (pc, V, .int b :: .int a :: r, μ, ck)) := fun H locs ls hR hS hl hn hz => lv_ior G.1 G.2.1 hd (h H locs ls hR hS hl hn hz)
theorem sn_ixor {a b : Int32} (G : am_Gm p l e R s m args below meth c z xt L xs y d) (hd : decode (am_by y) pc = .ok (.ixor, 1)) (h : (am_SD p l e R s m args below meth c Q z xt D L xs y (pc + 1, V, .int (a ^^^ b) :: r, μ, ck))) : (am_SD p l e R s m args below meth c Q z xt D L xs y (pc, V, .int b :: .int a :: r, μ, ck)) := fun H locs ls hR hS hl hn hz => lv_ixor G.1 G.2.1 hd (h H locs ls hR hS hl hn hz)
theorem sn_ishl {a b : Int32} (G : am_Gm p l e R s m args below meth c z xt L xs y d) (hd : decode (am_by y) pc = .ok (.ishl, 1)) (h : (am_SD p l e R s m args below meth c Q z xt D L xs y (pc + 1, V, .int (a <<< (b &&& 31)) :: r, μ, ck))) : (am_SD p l e R s m args below meth c Q z xt D L xs y (pc, V, .int b :: .int a :: r, μ, ck)) := fun H locs ls hR hS hl hn hz => lv_ishl G.1 G.2.1 hd (h H locs ls hR hS hl hn hz)
theorem sn_ishr {a b : Int32} (G : am_Gm p l e R s m args below meth c z xt L xs y d) (hd : decode (am_by y) pc = .ok (.ishr, 1)) (h : (am_SD p l e R s m args below meth c Q z xt D L xs y (pc + 1, V, .int (a >>> (b &&& 31)) :: r, μ, ck))) : (am_SD p l e R s m args below meth c Q z xt D L xs y (pc, V, .int b :: .int a :: r, μ, ck)) := fun H locs ls hR hS hl hn hz => lv_ishr G.1 G.2.1 hd (h H locs ls hR hS hl hn hz)
theorem sn_iushr {a b : Int32} (G : am_Gm p l e R s m args below meth c z xt L xs y d) (hd : decode (am_by y) pc = .ok (.iushr, 1)) (h : (am_SD p l e R s m args below meth c Q z xt D L xs y (pc + 1, V, .int ((a.toUInt32 >>> (b.toUInt32 &&& Int32.toUInt32 31)).toInt32) :: r, μ, ck))) : (am_SD p l e R s m args below meth c Q z xt D L xs y (pc, V, .int b :: .int a :: r, μ, ck)) := fun H locs ls hR hS hl hn hz => lv_iushr G.1 G.2.1 hd rfl (h H locs ls hR hS hl hn hz)
theorem sn_idiv {a b : Int32} (G : am_Gm p l e R s m args below meth c z xt L xs y d) (hd : decode (am_by y) pc = .ok (.idiv, 1)) (hb : ¬ b = 0) (h : (am_SD p l e R s m args below meth c Q z xt D L xs y (pc + 1, V, .int (a / b) :: r, μ, ck))) : (am_SD p l e R s m args below meth c Q z xt D L xs y (pc, V, .int b :: .int a :: r, μ, ck)) := fun H locs ls hR hS hl hn hz => lv_idiv G.1 G.2.1 hd hb (h H locs ls hR hS hl hn hz)
theorem sn_irem {a b : Int32} (G : am_Gm p l e R s m args below meth c z xt L xs y d) (hd : decode (am_by y) pc = .ok (.irem, 1)) (hb : ¬ b = 0) (h : (am_SD p l e R s m args below meth c Q z xt D L xs y (pc + 1, V, .int (a - a / b * b) :: r, μ, ck))) : (am_SD p l e R s m args below meth c Q z xt D L xs y (pc, V, .int b :: .int a :: r, μ, ck)) := fun H locs ls hR hS hl hn hz => lv_irem G.1 G.2.1 hd hb (h H locs ls hR hS hl hn hz)
theorem sn_ineg {a : Int32} (G : am_Gm p l e R s m args below meth c z xt L xs y d) (hd : decode (am_by y) pc = .ok (.ineg, 1)) (h : (am_SD p l e R s m args below meth c Q z xt D L xs y (pc + 1, V, .int (-a) :: r, μ, ck))) : (am_SD p l e R s m args below meth c Q z xt D L xs y (pc, V, .int a :: r, μ, ck)) := fun H locs ls hR hS hl hn hz => lv_ineg G.1 G.2.1 hd (h H locs ls hR hS hl hn hz)
theorem sn_i2l {a : Int32} (G : am_Gm p l e R s m args below meth c z xt L xs y d) (hd : decode (am_by y) pc = .ok (.i2l, 1)) (h : (am_SD p l e R s m args below meth c Q z xt D L xs y (pc + 1, V, .long a.toInt64 :: r, μ, ck))) : (am_SD p l e R s m args below meth c Q z xt D L xs y (pc, V, .int a :: r, μ, ck)) := fun H locs ls hR hS hl hn hz => lv_i2l G.1 G.2.1 hd rfl (h H locs ls hR hS hl hn hz)
theorem sn_i2b {a : Int32} (G : am_Gm p l e R s m args below meth c z xt L xs y d) (hd : decode (am_by y) pc = .ok (.i2b, 1)) (h : (am_SD p l e R s m args below meth c Q z xt D L xs y (pc + 1, V, .int a.toInt8.toInt32 :: r, μ, ck))) : (am_SD p l e R s m args below meth c Q z xt D L xs y (pc, V, .int a :: r, μ, ck)) := fun H locs ls hR hS hl hn hz => lv_i2b G.1 G.2.1 hd rfl (h H locs ls hR hS hl hn hz)
theorem sn_i2c {a : Int32} (G : am_Gm p l e R s m args below meth c z xt L xs y d) (hd : decode (am_by y) pc = .ok (.i2c, 1)) (h : (am_SD p l e R s m args below meth c Q z xt D L xs y (pc + 1, V, .int (a.toUInt32 % 65536).toInt32 :: r, μ, ck))) : (am_SD p l e R s m args below meth c Q z xt D L xs y (pc, V, .int a :: r, μ, ck)) := fun H locs ls hR hS hl hn hz => lv_i2c G.1 G.2.1 hd rfl (h H locs ls hR hS hl hn hz)
theorem sn_ladd {a b : Int64} (G : am_Gm p l e R s m args below meth c z xt L xs y d) (hd : decode (am_by y) pc = .ok (.ladd, 1)) (h : (am_SD p l e R s m args below meth c Q z xt D L xs y (pc + 1, V, .long (a + b) :: r, μ, ck))) : (am_SD p l e R s m args below meth c Q z xt D L xs y (pc, V, .long b :: .long a :: r, μ, ck)) := fun H locs ls hR hS hl hn hz => lv_ladd G.1 G.2.1 hd (h H locs ls hR hS hl hn hz)
theorem sn_lsub {a b : Int64} (G : am_Gm p l e R s m args below meth c z xt L xs y d) (hd : decode (am_by y) pc = .ok (.lsub, 1)) (h : (am_SD p l e R s m args below meth c Q z xt D L xs y (pc + 1, V, .long (a - b) :: r, μ, ck))) : (am_SD p l e R s m args below meth c Q z xt D L xs y (pc, V, .long b :: .long a :: r, μ, ck)) := fun H locs ls hR hS hl hn hz => lv_lsub G.1 G.2.1 hd (h H locs ls hR hS hl hn hz)
theorem sn_lmul {a b : Int64} (G : am_Gm p l e R s m args below meth c z xt L xs y d) (hd : decode (am_by y) pc = .ok (.lmul, 1)) (h : (am_SD p l e R s m args below meth c Q z xt D L xs y (pc + 1, V, .long (a * b) :: r, μ, ck))) : (am_SD p l e R s m args below meth c Q z xt D L xs y (pc, V, .long b :: .long a :: r, μ, ck)) := fun H locs ls hR hS hl hn hz => lv_lmul G.1 G.2.1 hd (h H locs ls hR hS hl hn hz)
theorem sn_lcmp {a b : Int64} (G : am_Gm p l e R s m args below meth c z xt L xs y d) (hd : decode (am_by y) pc = .ok (.lcmp, 1)) (h : (am_SD p l e R s m args below meth c Q z xt D L xs y (pc + 1, V, .int (lg_cmp a b) :: r, μ, ck))) : (am_SD p l e R s m args below meth c Q z xt D L xs y (pc, V, .long b :: .long a :: r, μ, ck)) := fun H locs ls hR hS hl hn hz => W.lcmp G.1 G.2.1 hd (h H locs ls hR hS hl hn hz)
theorem sn_dup {v : Value} (G : am_Gm p l e R s m args below meth c z xt L xs y d) (hd : decode (am_by y) pc = .ok (.dup, 1)) (hv : am_vc v = 1) (h : (am_SD p l e R s m args below meth c Q z xt D L xs y (pc + 1, V, v :: v :: r, μ, ck))) : (am_SD p l e R s m args below meth c Q z xt D L xs y (pc, V, v :: r, μ, ck)) := fun H locs ls hR hS hl hn hz => lv_dup G.1 G.2.1 hd ((am_tr_cat z xt v).trans hv) (h H locs ls hR hS hl hn hz)
theorem sn_dup2 {v w : Value} (G : am_Gm p l e R s m args below meth c z xt L xs y d) (hd : decode (am_by y) pc = .ok (.dup2, 1)) (hv : am_vc v = 1) (hw : am_vc w = 1) (h : (am_SD p l e R s m args below meth c Q z xt D L xs y (pc + 1, V, v :: w :: v :: w :: r, μ, ck))) : (am_SD p l e R s m args below meth c Q z xt D L xs y (pc, V, v :: w :: r, μ, ck)) := fun H locs ls hR hS hl hn hz => lv_dup2_11 G.1 G.2.1 hd ((am_tr_cat z xt v).trans hv) ((am_tr_cat z xt w).trans hw) (h H locs ls hR hS hl hn hz)
theorem sn_pop {v : Value} (G : am_Gm p l e R s m args below meth c z xt L xs y d) (hd : decode (am_by y) pc = .ok (.pop, 1)) (hv : am_vc v = 1) (h : (am_SD p l e R s m args below meth c Q z xt D L xs y (pc + 1, V, r, μ, ck))) : (am_SD p l e R s m args below meth c Q z xt D L xs y (pc, V, v :: r, μ, ck)) := fun H locs ls hR hS hl hn hz => lv_pop G.1 G.2.1 hd ((am_tr_cat z xt v).trans hv) (h H locs ls hR hS hl hn hz)
theorem sn_iload_n {n : Fin 4} {x : Int32} (G : am_Gm p l e R s m args below meth c z xt L xs y d) (hd : decode (am_by y) pc = .ok (.iload_n n, 1)) (hv : V[(n : Nat)]? = some (some (.int x))) (h : (am_SD p l e R s m args below meth c Q z xt D L xs y (pc + 1, V, .int x :: r, μ, ck))) : (am_SD p l e R s m args below meth c Q z xt D L xs y (pc, V, r, μ, ck)) := fun H locs ls hR hS hl hn hz => lv_iload_n G.1 G.2.1 hd rfl (hl.2.2 _ _ hv) (h H locs ls hR hS hl hn hz)
theorem sn_iload {n : Nat} {x : Int32} (G : am_Gm p l e R s m args below meth c z xt L xs y d) (hd : decode (am_by y) pc = .ok (.iload n, 2)) (hv : V[n]? = some (some (.int x))) (h : (am_SD p l e R s m args below meth c Q z xt D L xs y (pc + 2, V, .int x :: r, μ, ck))) : (am_SD p l e R s m args below meth c Q z xt D L xs y (pc, V, r, μ, ck)) := fun H locs ls hR hS hl hn hz => lv_iload G.1 G.2.1 hd (hl.2.2 _ _ hv) (h H locs ls hR hS hl hn hz)
theorem sn_lload_n {n : Fin 4} {x : Int64} (G : am_Gm p l e R s m args below meth c z xt L xs y d) (hd : decode (am_by y) pc = .ok (.lload_n n, 1)) (hv : V[(n : Nat)]? = some (some (.long x))) (h : (am_SD p l e R s m args below meth c Q z xt D L xs y (pc + 1, V, .long x :: r, μ, ck))) : (am_SD p l e R s m args below meth c Q z xt D L xs y (pc, V, r, μ, ck)) := fun H locs ls hR hS hl hn hz => lv_lload_n G.1 G.2.1 hd rfl (hl.2.2 _ _ hv) (h H locs ls hR hS hl hn hz)
theorem sn_lload {n : Nat} {x : Int64} (G : am_Gm p l e R s m args below meth c z xt L xs y d) (hd : decode (am_by y) pc = .ok (.lload n, 2)) (hv : V[n]? = some (some (.long x))) (h : (am_SD p l e R s m args below meth c Q z xt D L xs y (pc + 2, V, .long x :: r, μ, ck))) : (am_SD p l e R s m args below meth c Q z xt D L xs y (pc, V, r, μ, ck)) := fun H locs ls hR hS hl hn hz => lv_lload G.1 G.2.1 hd (hl.2.2 _ _ hv) (h H locs ls hR hS hl hn hz)
theorem sn_aload_n {n : Fin 4} {x : Nat} (G : am_Gm p l e R s m args below meth c z xt L xs y d) (hd : decode (am_by y) pc = .ok (.aload_n n, 1)) (hv : V[(n : Nat)]? = some (some (.ref x))) (h : (am_SD p l e R s m args below meth c Q z xt D L xs y (pc + 1, V, .ref x :: r, μ, ck))) : (am_SD p l e R s m args below meth c Q z xt D L xs y (pc, V, r, μ, ck)) := fun H locs ls hR hS hl hn hz => lv_aload_n G.1 G.2.1 hd rfl (hl.2.2 _ _ hv) (h H locs ls hR hS hl hn hz)
theorem sn_aload {n : Nat} {x : Nat} (G : am_Gm p l e R s m args below meth c z xt L xs y d) (hd : decode (am_by y) pc = .ok (.aload n, 2)) (hv : V[n]? = some (some (.ref x))) (h : (am_SD p l e R s m args below meth c Q z xt D L xs y (pc + 2, V, .ref x :: r, μ, ck))) : (am_SD p l e R s m args below meth c Q z xt D L xs y (pc, V, r, μ, ck)) := fun H locs ls hR hS hl hn hz => lv_aload G.1 G.2.1 hd (hl.2.2 _ _ hv) (h H locs ls hR hS hl hn hz)
theorem sn_aload_nN {n : Fin 4} (G : am_Gm p l e R s m args below meth c z xt L xs y d) (hd : decode (am_by y) pc = .ok (.aload_n n, 1)) (hv : V[(n : Nat)]? = some (some .null)) (h : (am_SD p l e R s m args below meth c Q z xt D L xs y (pc + 1, V, .null :: r, μ, ck))) : (am_SD p l e R s m args below meth c Q z xt D L xs y (pc, V, r, μ, ck)) := fun H locs ls hR hS hl hn hz => lv_aload_nN G.1 G.2.1 hd rfl (hl.2.2 _ _ hv) (h H locs ls hR hS hl hn hz)
theorem sn_aloadN {n : Nat} (G : am_Gm p l e R s m args below meth c z xt L xs y d) (hd : decode (am_by y) pc = .ok (.aload n, 2)) (hv : V[n]? = some (some .null)) (h : (am_SD p l e R s m args below meth c Q z xt D L xs y (pc + 2, V, .null :: r, μ, ck))) : (am_SD p l e R s m args below meth c Q z xt D L xs y (pc, V, r, μ, ck)) := fun H locs ls hR hS hl hn hz => lv_aloadN G.1 G.2.1 hd (hl.2.2 _ _ hv) (h H locs ls hR hS hl hn hz)
theorem sn_istore_n {n : Fin 4} {x : Int32} (G : am_Gm p l e R s m args below meth c z xt L xs y d) (hd : decode (am_by y) pc = .ok (.istore_n n, 1)) (hi : (n : Nat) < V.length) (h : (am_SD p l e R s m args below meth c Q z xt D L xs y (pc + 1, am_s1 V n (.int x), r, μ, ck))) : (am_SD p l e R s m args below meth c Q z xt D L xs y (pc, V, .int x :: r, μ, ck)) := fun H locs ls hR hS hl hn hz => lv_istore_n G.1 G.2.1 hd rfl hl.has hi rfl (fun ls' hl' => h H locs ls' hR hS (am_lv.st1 (v := .int x) hi hl') (by rw [← hn]; exact am_s1_len _ _ _) hz)
theorem sn_istore {n : Nat} {x : Int32} (G : am_Gm p l e R s m args below meth c z xt L xs y d) (hd : decode (am_by y) pc = .ok (.istore n, 2)) (hi : n < V.length) (h : (am_SD p l e R s m args below meth c Q z xt D L xs y (pc + 2, am_s1 V n (.int x), r, μ, ck))) : (am_SD p l e R s m args below meth c Q z xt D L xs y (pc, V, .int x :: r, μ, ck)) := fun H locs ls hR hS hl hn hz => lv_istore G.1 G.2.1 hd hl.has hi rfl (fun ls' hl' => h H locs ls' hR hS (am_lv.st1 (v := .int x) hi hl') (by rw [← hn]; exact am_s1_len _ _ _) hz)
theorem sn_astore_n {n : Fin 4} {x : Nat} (G : am_Gm p l e R s m args below meth c z xt L xs y d) (hd : decode (am_by y) pc = .ok (.astore_n n, 1)) (hi : (n : Nat) < V.length) (h : (am_SD p l e R s m args below meth c Q z xt D L xs y (pc + 1, am_s1 V n (.ref x), r, μ, ck))) : (am_SD p l e R s m args below meth c Q z xt D L xs y (pc, V, .ref x :: r, μ, ck)) := fun H locs ls hR hS hl hn hz => lv_astore_n G.1 G.2.1 hd rfl hl.has hi rfl (fun ls' hl' => h H locs ls' hR hS (am_lv.st1 (v := .ref x) hi hl') (by rw [← hn]; exact am_s1_len _ _ _) hz)
theorem sn_astore {n : Nat} {x : Nat} (G : am_Gm p l e R s m args below meth c z xt L xs y d) (hd : decode (am_by y) pc = .ok (.astore n, 2)) (hi : n < V.length) (h : (am_SD p l e R s m args below meth c Q z xt D L xs y (pc + 2, am_s1 V n (.ref x), r, μ, ck))) : (am_SD p l e R s m args below meth c Q z xt D L xs y (pc, V, .ref x :: r, μ, ck)) := fun H locs ls hR hS hl hn hz => lv_astore G.1 G.2.1 hd hl.has hi rfl (fun ls' hl' => h H locs ls' hR hS (am_lv.st1 (v := .ref x) hi hl') (by rw [← hn]; exact am_s1_len _ _ _) hz)
theorem sn_astore_nN {n : Fin 4} (G : am_Gm p l e R s m args below meth c z xt L xs y d) (hd : decode (am_by y) pc = .ok (.astore_n n, 1)) (hi : (n : Nat) < V.length) (h : (am_SD p l e R s m args below meth c Q z xt D L xs y (pc + 1, am_s1 V n (.null), r, μ, ck))) : (am_SD p l e R s m args below meth c Q z xt D L xs y (pc, V, .null :: r, μ, ck)) := fun H locs ls hR hS hl hn hz => lv_astore_nN G.1 G.2.1 hd rfl hl.has hi rfl (fun ls' hl' => h H locs ls' hR hS (am_lv.st1 (v := .null) hi hl') (by rw [← hn]; exact am_s1_len _ _ _) hz)
theorem sn_astoreN {n : Nat} (G : am_Gm p l e R s m args below meth c z xt L xs y d) (hd : decode (am_by y) pc = .ok (.astore n, 2)) (hi : n < V.length) (h : (am_SD p l e R s m args below meth c Q z xt D L xs y (pc + 2, am_s1 V n (.null), r, μ, ck))) : (am_SD p l e R s m args below meth c Q z xt D L xs y (pc, V, .null :: r, μ, ck)) := fun H locs ls hR hS hl hn hz => lv_astoreN G.1 G.2.1 hd hl.has hi rfl (fun ls' hl' => h H locs ls' hR hS (am_lv.st1 (v := .null) hi hl') (by rw [← hn]; exact am_s1_len _ _ _) hz)
theorem sn_lstore {n : Nat} {x : Int64} (G : am_Gm p l e R s m args below meth c z xt L xs y d) (hd : decode (am_by y) pc = .ok (.lstore n, 2)) (hi : n + 1 < V.length) (h : (am_SD p l e R s m args below meth c Q z xt D L xs y (pc + 2, am_s2 V n (.long x), r, μ, ck))) : (am_SD p l e R s m args below meth c Q z xt D L xs y (pc, V, .long x :: r, μ, ck)) := fun H locs ls hR hS hl hn hz => lv_lstore G.1 G.2.1 hd hl.has hi rfl (fun ls' hl' => h H locs ls' hR hS (am_lv.st2 (v := .long x) hi hl') (by rw [← hn]; exact am_s2_len _ _ _) hz)
theorem sn_iinc {n : Nat} {k : Int} {x : Int32} (G : am_Gm p l e R s m args below meth c z xt L xs y d) (hd : decode (am_by y) pc = .ok (.iinc n k, 3)) (hi : n < V.length) (hv : V[n]? = some (some (.int x))) (h : (am_SD p l e R s m args below meth c Q z xt D L xs y (pc + 3, am_s1 V n (.int (x + Int32.ofInt k)), r, μ, ck))) : (am_SD p l e R s m args below meth c Q z xt D L xs y (pc, V, r, μ, ck)) := by
  intro H locs ls hR hS hl hn hz
  obtain ⟨q, hq⟩ := List.getElem?_of_mem (am_as_mem (z := z) (xt := xt) hv)
  exact lv_iinc G.1 G.2.1 hd hl.has hq rfl hi rfl (fun ls' hl' => h H locs ls' hR hS (am_lv.st1 (v := .int (x + Int32.ofInt k)) hi hl') (by rw [← hn]; exact am_s1_len _ _ _) hz)
theorem sn_tgt {pc : Nat} {off : Int} (h : 0 ≤ (pc : Int) + off) : (pc : Int) + off = ((((pc : Int) + off).toNat : Nat) : Int) := (Int.toNat_of_nonneg h).symm
theorem sn_if {cd : Jvm.ClassFile.Cond} {off : Int} {a : Int32} (G : am_Gm p l e R s m args below meth c z xt L xs y d) (hd : decode (am_by y) pc = .ok (.ifCond cd off, 3)) (h0 : 0 ≤ (pc : Int) + off) (ht : am_cmp cd a 0 → (am_SD p l e R s m args below meth c Q z xt D L xs y (((pc : Int) + off).toNat, V, r, μ, ck))) (hf : ¬ am_cmp cd a 0 → (am_SD p l e R s m args below meth c Q z xt D L xs y (pc + 3, V, r, μ, ck))) : (am_SD p l e R s m args below meth c Q z xt D L xs y (pc, V, .int a :: r, μ, ck)) := by
  intro H locs ls hR hS hl hn hz
  cases cd with
  | eq => exact lv_if_eq G.1 G.2.1 hd (sn_tgt h0) (fun q => ht q H locs ls hR hS hl hn hz) (fun q => hf q H locs ls hR hS hl hn hz)
  | ne => exact lv_if_ne G.1 G.2.1 hd (sn_tgt h0) (fun q => ht q H locs ls hR hS hl hn hz) (fun q => hf (fun w => w q) H locs ls hR hS hl hn hz)
  | lt => exact lv_if_lt G.1 G.2.1 hd (sn_tgt h0) (fun q => ht q H locs ls hR hS hl hn hz) (fun q => hf q H locs ls hR hS hl hn hz)
  | ge => exact lv_if_ge G.1 G.2.1 hd (sn_tgt h0) (fun q => ht q H locs ls hR hS hl hn hz) (fun q => hf q H locs ls hR hS hl hn hz)
  | gt => exact lv_if_gt G.1 G.2.1 hd (sn_tgt h0) (fun q => ht q H locs ls hR hS hl hn hz) (fun q => hf q H locs ls hR hS hl hn hz)
  | le => exact lv_if_le G.1 G.2.1 hd (sn_tgt h0) (fun q => ht q H locs ls hR hS hl hn hz) (fun q => hf q H locs ls hR hS hl hn hz)
theorem sn_icmp {cd : Jvm.ClassFile.Cond} {off : Int} {a b : Int32} (G : am_Gm p l e R s m args below meth c z xt L xs y d) (hd : decode (am_by y) pc = .ok (.if_icmp cd off, 3)) (h0 : 0 ≤ (pc : Int) + off) (ht : am_cmp cd a b → (am_SD p l e R s m args below meth c Q z xt D L xs y (((pc : Int) + off).toNat, V, r, μ, ck))) (hf : ¬ am_cmp cd a b → (am_SD p l e R s m args below meth c Q z xt D L xs y (pc + 3, V, r, μ, ck))) : (am_SD p l e R s m args below meth c Q z xt D L xs y (pc, V, .int b :: .int a :: r, μ, ck)) := by
  intro H locs ls hR hS hl hn hz
  cases cd with
  | eq => exact lv_icmp_eq G.1 G.2.1 hd (sn_tgt h0) (fun q => ht q H locs ls hR hS hl hn hz) (fun q => hf q H locs ls hR hS hl hn hz)
  | ne => exact lv_icmp_ne G.1 G.2.1 hd (sn_tgt h0) (fun q => ht q H locs ls hR hS hl hn hz) (fun q => hf (fun w => w q) H locs ls hR hS hl hn hz)
  | lt => exact lv_icmp_lt G.1 G.2.1 hd (sn_tgt h0) (fun q => ht q H locs ls hR hS hl hn hz) (fun q => hf q H locs ls hR hS hl hn hz)
  | ge => exact lv_icmp_ge G.1 G.2.1 hd (sn_tgt h0) (fun q => ht q H locs ls hR hS hl hn hz) (fun q => hf q H locs ls hR hS hl hn hz)
  | gt => exact lv_icmp_gt G.1 G.2.1 hd (sn_tgt h0) (fun q => ht q H locs ls hR hS hl hn hz) (fun q => hf q H locs ls hR hS hl hn hz)
  | le => exact lv_icmp_le G.1 G.2.1 hd (sn_tgt h0) (fun q => ht q H locs ls hR hS hl hn hz) (fun q => hf q H locs ls hR hS hl hn hz)
theorem sn_goto {off : Int} (G : am_Gm p l e R s m args below meth c z xt L xs y d) (hd : decode (am_by y) pc = .ok (.goto off, 3)) (h0 : 0 ≤ (pc : Int) + off) (h : (am_SD p l e R s m args below meth c Q z xt D L xs y (((pc : Int) + off).toNat, V, r, μ, ck))) : (am_SD p l e R s m args below meth c Q z xt D L xs y (pc, V, r, μ, ck)) := fun H locs ls hR hS hl hn hz => lv_goto G.1 G.2.1 hd (sn_tgt h0) (h H locs ls hR hS hl hn hz)
theorem sn_ifnull {off : Int} {a : Nat} (G : am_Gm p l e R s m args below meth c z xt L xs y d) (hd : decode (am_by y) pc = .ok (.ifnull off, 3)) (h : (am_SD p l e R s m args below meth c Q z xt D L xs y (pc + 3, V, r, μ, ck))) : (am_SD p l e R s m args below meth c Q z xt D L xs y (pc, V, .ref a :: r, μ, ck)) := fun H locs ls hR hS hl hn hz => lv_ifnull G.1 G.2.1 hd (h H locs ls hR hS hl hn hz)
theorem sn_ifnullN {off : Int} (G : am_Gm p l e R s m args below meth c z xt L xs y d) (hd : decode (am_by y) pc = .ok (.ifnull off, 3)) (h0 : 0 ≤ (pc : Int) + off) (h : (am_SD p l e R s m args below meth c Q z xt D L xs y (((pc : Int) + off).toNat, V, r, μ, ck))) : (am_SD p l e R s m args below meth c Q z xt D L xs y (pc, V, .null :: r, μ, ck)) := fun H locs ls hR hS hl hn hz => lv_ifnullN G.1 G.2.1 hd (sn_tgt h0) (h H locs ls hR hS hl hn hz)
theorem sn_ifnonnull {off : Int} {a : Nat} (G : am_Gm p l e R s m args below meth c z xt L xs y d) (hd : decode (am_by y) pc = .ok (.ifnonnull off, 3)) (h0 : 0 ≤ (pc : Int) + off) (h : (am_SD p l e R s m args below meth c Q z xt D L xs y (((pc : Int) + off).toNat, V, r, μ, ck))) : (am_SD p l e R s m args below meth c Q z xt D L xs y (pc, V, .ref a :: r, μ, ck)) := fun H locs ls hR hS hl hn hz => lv_ifnonnull G.1 G.2.1 hd (sn_tgt h0) (h H locs ls hR hS hl hn hz)
theorem sn_ifnonnullN {off : Int} (G : am_Gm p l e R s m args below meth c z xt L xs y d) (hd : decode (am_by y) pc = .ok (.ifnonnull off, 3)) (h : (am_SD p l e R s m args below meth c Q z xt D L xs y (pc + 3, V, r, μ, ck))) : (am_SD p l e R s m args below meth c Q z xt D L xs y (pc, V, .null :: r, μ, ck)) := fun H locs ls hR hS hl hn hz => lv_ifnonnullN G.1 G.2.1 hd (h H locs ls hR hS hl hn hz)
end AM1
