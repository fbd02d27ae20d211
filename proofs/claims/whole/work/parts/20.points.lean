abbrev am_k : Type := Option Value → am_G → (Nat → Nat → Int32) → (Nat → Nat → Int64) → (Nat → Nat → Option Nat) → Prop
def am_uc (k : am_k) : am_K := fun v μ => k v μ.1 μ.2.1 μ.2.2.1 μ.2.2.2
/-- at a point of a body; a call -/
def aw (d : Nat) (y : mI) (k : am_k) (pc : Nat) (ls : am_L) (st : List Value) (g : am_G) (I : Nat → Nat → Int32) (J : Nat → Nat → Int64) (R : Nat → Nat → Option Nat) (c s : Nat) : Prop := am_W d y (am_uc k) (pc, ls, st, (g, I, J, R), c, s)
def ac (d : Nat) (y : mI) (args : List Value) (g : am_G) (I : Nat → Nat → Int32) (J : Nat → Nat → Int64) (R : Nat → Nat → Option Nat) (k : am_k) : Prop := am_call d y args (g, I, J, R) (am_uc k)
def b2i (p : Prop) [Decidable p] : Int32 := if p then 1 else 0
section AWL
variable {d : Nat} {y : mI} {k : am_k} {pc n : Nat} {ls : am_L} {st : List Value} {g : am_G} {I : Nat → Nat → Int32} {J : Nat → Nat → Int64} {R : Nat → Nat → Option Nat} {c s : Nat} {i : Instr}
theorem aw_F (hd : decode (am_by y) pc = .ok (i, n)) (hn : am_ln i n = true) {E : am_E} (he : am_i d y i pc ls st (g, I, J, R) (c, s) = some E) : aw d y k pc ls st g I J R c s = am_sem (am_call d) (am_uc k) (am_W d y (am_uc k)) E := by
  unfold aw
  rw [am_W_eq]
  unfold am_F am_eff
  have e : (match decode (am_by y) pc with
    | .ok (i, n) => if am_ln i n = true then am_i d y i pc ls st (g, I, J, R) (c, s) else none
    | _ => none) = some E := by
    rw [hd]
    simp only [hn, if_true]
    exact he
  show (match (match decode (am_by y) pc with
    | .ok (i, n) => if am_ln i n = true then am_i d y i pc ls st (g, I, J, R) (c, s) else none
    | _ => none) with
    | none => False
    | some (.inl e) => e.1 ∧ ∀ b ∈ e.2, b.1 → am_W d y (am_uc k) b.2
    | some (.inr (.inl e)) => e.1 ∧ am_call d e.2.1 e.2.2.1 e.2.2.2.1 (fun v μ => am_W d y (am_uc k) (e.2.2.2.2 v μ))
    | some (.inr (.inr e)) => e.1 ∧ am_uc k e.2.1 e.2.2) = _
  rw [e]
  match E with
  | .inl _ => rfl
  | .inr (.inl _) => rfl
  | .inr (.inr _) => rfl
/-- one way on -/
theorem aw_1 (hd : decode (am_by y) pc = .ok (i, n)) (hn : am_ln i n = true) {q : Prop} {pc2 : Nat} {ls2 : am_L} {st2 : List Value} {g2 : am_G} {I2 : Nat → Nat → Int32} {J2 : Nat → Nat → Int64} {R2 : Nat → Nat → Option Nat} {c2 s2 : Nat} (he : am_i d y i pc ls st (g, I, J, R) (c, s) = am_go q (pc2, ls2, st2, (g2, I2, J2, R2), c2, s2)) (hq : q) : aw d y k pc ls st g I J R c s = aw d y k pc2 ls2 st2 g2 I2 J2 R2 c2 s2 := by
  rw [aw_F hd hn he]
  apply propext
  constructor
  · exact fun h => h.2 _ List.mem_cons_self trivial
  · refine fun h => ⟨hq, fun b hb _ => ?_⟩
    rcases List.mem_cons.mp hb with e | e
    · rw [e]; exact h
    · exact absurd e List.not_mem_nil
theorem aw_q (hd : decode (am_by y) pc = .ok (i, n)) (hn : am_ln i n = true) {q q' : Prop} {pc2 : Nat} {ls2 : am_L} {st2 : List Value} {g2 : am_G} {I2 : Nat → Nat → Int32} {J2 : Nat → Nat → Int64} {R2 : Nat → Nat → Option Nat} {c2 s2 : Nat} (he : am_i d y i pc ls st (g, I, J, R) (c, s) = am_go q (pc2, ls2, st2, (g2, I2, J2, R2), c2, s2)) (hq : q = q') : aw d y k pc ls st g I J R c s = (q' ∧ aw d y k pc2 ls2 st2 g2 I2 J2 R2 c2 s2) := by
  rw [aw_F hd hn he, ← hq]
  apply propext
  constructor
  · exact fun h => ⟨h.1, h.2 _ List.mem_cons_self trivial⟩
  · refine fun h => ⟨h.1, fun b hb _ => ?_⟩
    rcases List.mem_cons.mp hb with e | e
    · rw [e]; exact h.2
    · exact absurd e List.not_mem_nil
theorem aw_b (hd : decode (am_by y) pc = .ok (i, n)) (hn : am_ln i n = true) {off : Int} {p : Prop} {ls2 : am_L} {st2 : List Value} {t : Nat} (he : am_i d y i pc ls st (g, I, J, R) (c, s) = am_br pc off p ls2 st2 (g, I, J, R) (c, s)) (h0 : 0 ≤ (pc : Int) + off) (ht : ((pc : Int) + off).toNat = t) : aw d y k pc ls st g I J R c s = ((p → aw d y k t ls2 st2 g I J R c s) ∧ (¬ p → aw d y k (pc + 3) ls2 st2 g I J R c s)) := by
  subst ht
  rw [aw_F hd hn he]
  apply propext
  constructor
  · exact fun h => ⟨h.2 _ List.mem_cons_self, h.2 _ (List.mem_cons_of_mem _ List.mem_cons_self)⟩
  · refine fun h => ⟨h0, fun b hb => ?_⟩
    rcases List.mem_cons.mp hb with e | e
    · rw [e]; exact h.1
    · rcases List.mem_cons.mp e with e | e
      · rw [e]; exact h.2
      · exact absurd e List.not_mem_nil
theorem aw_c (hd : decode (am_by y) pc = .ok (i, n)) (hn : am_ln i n = true) {q : Prop} {y' : mI} {a r : List Value} {pc2 c2 s2 : Nat} (he : am_i d y i pc ls st (g, I, J, R) (c, s) = some (.inr (.inl (q, y', a, (g, I, J, R), fun v μ => (pc2, ls, v.toList ++ r, μ, c2, s2))))) (hq : q) : aw d y k pc ls st g I J R c s = ac d y' a g I J R (fun v g I J R => aw d y k pc2 ls (v.toList ++ r) g I J R c2 s2) := by
  rw [aw_F hd hn he]
  apply propext
  constructor
  · exact fun h => h.2
  · exact fun h => ⟨hq, h⟩
theorem aw_cq (hd : decode (am_by y) pc = .ok (i, n)) (hn : am_ln i n = true) {q q' : Prop} {y' : mI} {a r : List Value} {pc2 c2 s2 : Nat} (he : am_i d y i pc ls st (g, I, J, R) (c, s) = some (.inr (.inl (q, y', a, (g, I, J, R), fun v μ => (pc2, ls, v.toList ++ r, μ, c2, s2))))) (hq : q = q') : aw d y k pc ls st g I J R c s = (q' ∧ ac d y' a g I J R (fun v g I J R => aw d y k pc2 ls (v.toList ++ r) g I J R c2 s2)) := by
  rw [aw_F hd hn he, ← hq]
  rfl
theorem aw_r (hd : decode (am_by y) pc = .ok (i, n)) (hn : am_ln i n = true) {q : Prop} {v : Option Value} (he : am_i d y i pc ls st (g, I, J, R) (c, s) = some (.inr (.inr (q, v, (g, I, J, R))))) (hq : q) : aw d y k pc ls st g I J R c s = k v g I J R := by
  rw [aw_F hd hn he]
  apply propext
  constructor
  · exact fun h => h.2
  · exact fun h => ⟨hq, h⟩
theorem aw_rq (hd : decode (am_by y) pc = .ok (i, n)) (hn : am_ln i n = true) {q q' : Prop} {v : Option Value} (he : am_i d y i pc ls st (g, I, J, R) (c, s) = some (.inr (.inr (q, v, (g, I, J, R))))) (hq : q = q') : aw d y k pc ls st g I J R c s = (q' ∧ k v g I J R) := by
  rw [aw_F hd hn he, ← hq]
  rfl
theorem ac_1 {a : List Value} {V : am_L} (hV : am_en y a = V) (hl : (am_fl a).length ≤ am_ml y) : ac (d + 1) y a g I J R k = aw d y k 0 V [] g I J R 0 0 := by
  subst hV
  apply propext
  constructor
  · exact fun h => h.2
  · exact fun h => ⟨hl, h⟩
end AWL
theorem am_dk {b : ByteArray} {t : List (Nat × Instr × Nat)} (h : t.all (fun e => decide (decode b e.1 = .ok (e.2.1, e.2.2))) = true) (j : Nat) {pc n : Nat} {i : Instr} (hj : t[j]? = some (pc, i, n)) : decode b pc = .ok (i, n) := by
  have h1 := List.all_eq_true.mp h (pc, i, n) (List.mem_of_getElem? hj)
  simp only [decide_eq_true_eq] at h1
  exact h1
theorem am_cl_i (x : Int32) : am_cl (some (.int x)) = some (.int x) := rfl
theorem am_cl_r (x : Nat) : am_cl (some (.ref x)) = some (.ref x) := rfl
theorem am_cl_n : am_cl (some .null) = some .null := rfl
theorem am_cl_l (x : Int64) : am_cl (some (.long x)) = none := rfl
theorem am_cl_0 : am_cl none = none := rfl
theorem va_rf_s (x : Nat) : va_rf (some x) = .ref x := rfl
theorem va_rf_0 : va_rf none = .null := rfl
theorem b2i_0 (p : Prop) [Decidable p] : (b2i p = 0) = ¬ p := by unfold b2i; split <;> simp_all
theorem b2i_1 (p : Prop) [Decidable p] : (b2i p = 1) = p := by unfold b2i; split <;> simp_all
theorem b2i_z (p : Prop) [Decidable p] : (b2i p = 0 ∨ b2i p = 1) = True := by unfold b2i; split <;> simp_all
theorem tl_s (v : Value) (r : List Value) : (some v).toList ++ r = v :: r := rfl
theorem tl_n (r : List Value) : (none : Option Value).toList ++ r = r := rfl
section AWM
variable {d : Nat} {y : mI} {k : am_k} {pc : Nat} {ls : am_L} {st : List Value} {g : am_G} {I : Nat → Nat → Int32} {J : Nat → Nat → Int64} {R : Nat → Nat → Option Nat} {c s : Nat}
theorem aw_ic {v : Int32} {n : Int} (hd : decode (am_by y) pc = .ok (.iconst n, 1)) (hv : Int32.ofInt n = v) : aw d y k pc ls st g I J R c s = aw d y k (pc + 1) ls (.int v :: st) g I J R c s := by
  subst hv
  exact aw_1 hd rfl rfl trivial
theorem aw_bi {v : Int32} {n : Int} (hd : decode (am_by y) pc = .ok (.bipush n, 2)) (hv : (Int8.ofInt n).toInt32 = v) : aw d y k pc ls st g I J R c s = aw d y k (pc + 2) ls (.int v :: st) g I J R c s := by
  subst hv
  exact aw_1 hd rfl rfl trivial
theorem aw_si {v : Int32} {n : Int} (hd : decode (am_by y) pc = .ok (.sipush n, 3)) (hv : (Int16.ofInt n).toInt32 = v) : aw d y k pc ls st g I J R c s = aw d y k (pc + 3) ls (.int v :: st) g I J R c s := by
  subst hv
  exact aw_1 hd rfl rfl trivial
theorem aw_lc {v : Int64} {n : Fin 2} (hd : decode (am_by y) pc = .ok (.lconst n, 1)) (hv : Int64.ofNat (n : Nat) = v) : aw d y k pc ls st g I J R c s = aw d y k (pc + 1) ls (.long v :: st) g I J R c s := by
  subst hv
  exact aw_1 hd rfl rfl trivial
theorem aw_inc {x w : Int32} {n : Nat} {q : Int} {ls2 : am_L} (hd : decode (am_by y) pc = .ok (.iinc n q, 3)) (hl : ls[n]? = some (some (.int x))) (hw : Int32.ofInt q = w) (hn : n < ls.length) (h2 : am_s1 ls n (.int (x + w)) = ls2) : aw d y k pc ls st g I J R c s = aw d y k (pc + 3) ls2 st g I J R c s := by
  subst hw
  subst h2
  refine aw_1 hd rfl (q := n < ls.length) ?_ hn
  unfold am_i
  simp only [hl, am_ldi]
def okO (g : am_G) (ci o : Nat) : Prop := (g.2 o).1 = 100 + ci ∧ 8 ≤ o
def mkG (g : am_G) (t n : Nat) : am_G := (g.1 + 1, va_up g.2 (8 + g.1) (t, n))
def mkR {α : Type} (f : Nat → Nat → α) (g : am_G) (v : α) : Nat → Nat → α := am_rw f (8 + g.1) (fun _ => v)
def cpOk (g : am_G) (o o2 : Nat) (a b n : Int32) : Prop := (8 ≤ o ∧ 8 ≤ o2 ∧ (g.2 o).1 = 0 ∧ (g.2 o2).1 = 0 ∧ ¬ a < 0 ∧ ¬ b < 0 ∧ ¬ n < 0) ∧ a.toNatClampNeg + n.toNatClampNeg ≤ (g.2 o2).2 ∧ b.toNatClampNeg + n.toNatClampNeg ≤ (g.2 o).2
theorem okP {o ci : Nat} {A : Prop} (h : A) {B : Prop} (hB : B := by rfl) : (8 ≤ o ∧ (g.2 o).1 = 100 + ci ∧ A ∧ B) = okO g ci o := propext ⟨fun q => ⟨q.2.1, q.1⟩, fun q => ⟨q.2, q.1, h, hB⟩⟩
theorem okPi {o ci : Nat} {A : Prop} (h : A) : (8 ≤ o ∧ (g.2 o).1 = 100 + ci ∧ A ∧ True) = okO g ci o := propext ⟨fun q => ⟨q.2.1, q.1⟩, fun q => ⟨q.2, q.1, h, trivial⟩⟩
theorem okPz {o ci : Nat} {A B : Prop} (h : A) : (8 ≤ o ∧ (g.2 o).1 = 100 + ci ∧ A ∧ B) = (okO g ci o ∧ B) := propext ⟨fun q => ⟨⟨q.2.1, q.1⟩, q.2.2.2⟩, fun q => ⟨q.1.2, q.1.1, h, q.2⟩⟩
theorem mk_ok {A B : Prop} (h : A) : (A ∧ B) = B := propext ⟨fun q => q.2, fun q => ⟨h, q⟩⟩
theorem cp_ok {A B C D E : Prop} (h : D) (hE : E) : (A ∧ B ∧ C ∧ D ∧ E) = (A ∧ B ∧ C) := propext ⟨fun q => ⟨q.1, q.2.1, q.2.2.1⟩, fun q => ⟨q.1, q.2.1, q.2.2, h, hE⟩⟩
theorem cv_ok {A B C D E : Prop} (hB : B) (hC : C) (hD : D) (hE : E) : (A ∧ B ∧ C ∧ D ∧ E) = A := propext ⟨fun q => q.1, fun q => ⟨q, hB, hC, hD, hE⟩⟩
theorem cv_okF {A B C D E : Prop} (hB : B) (hE : E) : (A ∧ B ∧ C ∧ D ∧ E) = (A ∧ C ∧ D) := propext ⟨fun q => ⟨q.1, q.2.2.1, q.2.2.2.1⟩, fun q => ⟨q.1, hB, q.2.1, q.2.2, hE⟩⟩
theorem ci_ok {B C D E : Prop} (hB : B) (hE : E) : (B ∧ C ∧ D ∧ E) = (C ∧ D) := propext ⟨fun q => ⟨q.2.1, q.2.2.1⟩, fun q => ⟨hB, q.1, q.2, hE⟩⟩
theorem rz_ok {A B C : Prop} (hB : B) (hC : C) : (A ∧ B ∧ C) = A := propext ⟨fun q => q.1, fun q => ⟨q, hB, hC⟩⟩
theorem rv_ok {A B C : Prop} (hA : A) : (A ∧ B ∧ C) = (B ∧ C) := propext ⟨fun q => q.2, fun q => ⟨hA, q⟩⟩
end AWM
