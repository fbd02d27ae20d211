/-! THE ABSTRACT MACHINE: a memory of rows (ints, longs, references) by numbers of cells; what a program point asks, as a predicate transformer. Cells 0 .. 7 are not the method's own: 0 the script, 1 DX, 2 DY, 3 the text of words, 4 its bytes, 5 a formatter; 8 + k is the k-th cell that was made. -/
abbrev am_G : Type := Nat × (Nat → Nat × Nat)
abbrev am_M : Type := am_G × (Nat → Nat → Int32) × (Nat → Nat → Int64) × (Nat → Nat → Option Nat)
abbrev am_L : Type := List (Option Value)
abbrev am_C : Type := Nat × am_L × List Value × am_M × Nat × Nat
abbrev am_K : Type := Option Value → am_M → Prop
abbrev am_E : Type := (Prop × List (Prop × am_C)) ⊕ (Prop × mI × List Value × am_M × (Option Value → am_M → am_C)) ⊕ (Prop × Option Value × am_M)
def am_isref : FieldType → Bool
  | .object _ => true
  | .array _ => true
  | _ => false
def am_dx (j : Nat) : Int32 := ([0, 1, 1, 1, 0, -1, -1, -1] : List Int32).getD j 0
def am_dy (j : Nat) : Int32 := ([-1, -1, 0, 1, 1, 1, 0, -1] : List Int32).getD j 0
def am_wb (j : Nat) : Int32 := ([115, 97, 105, 108, 32, 102, 117, 114, 108, 32, 119, 104, 101, 110, 32, 111, 114, 32, 97, 110, 100, 32, 110, 111, 116, 32, 120, 32, 121, 32, 119, 97, 121, 32, 102, 111, 114, 99, 101, 32, 104, 111, 117, 114, 32, 116, 104, 105, 114, 115, 116, 32, 99, 114, 117, 115, 116, 32, 110, 101, 97, 114, 32, 116, 105, 101, 100, 32, 118, 105, 108, 108, 97, 103, 101] : List Int32).getD j 0
/-- what an array of ints holds -/
def am_rd (I : Nat → Nat → Int32) (a j : Nat) : Int32 := if a = 1 then am_dx j else if a = 2 then am_dy j else if a = 4 then am_wb j else I a j
/-- a row written anew; one place of it -/
def am_rw {α : Type} (f : Nat → Nat → α) (a : Nat) (r : Nat → α) : Nat → Nat → α := fun b => if b = a then r else f b
def am_up {α : Type} (f : Nat → Nat → α) (a k : Nat) (v : α) : Nat → Nat → α := am_rw f a (va_up (f a) k v)
/-- a new cell of tag t and length n -/
def am_mk (μ : am_M) (t n : Nat) : am_M := ((μ.1.1 + 1, va_up μ.1.2 (8 + μ.1.1) (t, n)), am_rw μ.2.1 (8 + μ.1.1) (fun _ => 0), am_rw μ.2.2.1 (8 + μ.1.1) (fun _ => 0), am_rw μ.2.2.2 (8 + μ.1.1) (fun _ => none))
def am_cl (o : Option Value) : Option Value := match o with
  | some (.long _) => none
  | some (.double _) => none
  | o => o
def am_s1 : am_L → Nat → Value → am_L
  | [], _, _ => []
  | _ :: t, 0, v => some v :: t
  | o :: t, 1, v => am_cl o :: am_s1 t 0 v
  | o :: t, n + 2, v => o :: am_s1 t (n + 1) v
def am_s2 : am_L → Nat → Value → am_L
  | [], _, _ => []
  | _ :: t, 0, v => some v :: (match t with | [] => [] | _ :: t => none :: t)
  | o :: t, 1, v => am_cl o :: am_s2 t 0 v
  | o :: t, n + 2, v => o :: am_s2 t (n + 1) v
def am_cmp : Jvm.ClassFile.Cond → Int32 → Int32 → Prop
  | .eq, x, y => x = y
  | .ne, x, y => ¬ x = y
  | .lt, x, y => x < y
  | .ge, x, y => y ≤ x
  | .gt, x, y => y < x
  | .le, x, y => x ≤ y
def am_go (q : Prop) (c : am_C) : Option am_E := some (.inl (q, [(True, c)]))
def am_br (pc : Nat) (off : Int) (g : Prop) (ls : am_L) (st : List Value) (μ : am_M) (ck : Nat × Nat) : Option am_E := some (.inl (0 ≤ (pc : Int) + off, [(g, (((pc : Int) + off).toNat, ls, st, μ, ck)), (¬ g, (pc + 3, ls, st, μ, ck))]))
def am_1i (st : List Value) (f : Int32 → List Value → Option am_E) : Option am_E := match st with
  | .int a :: r => f a r
  | _ => none
def am_2i (st : List Value) (f : Int32 → Int32 → List Value → Option am_E) : Option am_E := match st with
  | .int b :: .int a :: r => f a b r
  | _ => none
def am_1l (st : List Value) (f : Int64 → List Value → Option am_E) : Option am_E := match st with
  | .long a :: r => f a r
  | _ => none
def am_2l (st : List Value) (f : Int64 → Int64 → List Value → Option am_E) : Option am_E := match st with
  | .long b :: .long a :: r => f a b r
  | _ => none
def am_1r (st : List Value) (f : Nat → List Value → Option am_E) : Option am_E := match st with
  | .ref a :: r => f a r
  | _ => none
def am_ir (st : List Value) (f : Int32 → Nat → List Value → Option am_E) : Option am_E := match st with
  | .int j :: .ref a :: r => f j a r
  | _ => none
def am_iir (st : List Value) (f : Int32 → Int32 → Nat → List Value → Option am_E) : Option am_E := match st with
  | .int v :: .int j :: .ref a :: r => f v j a r
  | _ => none
def am_lir (st : List Value) (f : Int64 → Int32 → Nat → List Value → Option am_E) : Option am_E := match st with
  | .long v :: .int j :: .ref a :: r => f v j a r
  | _ => none
def am_rir (st : List Value) (f : Nat → Int32 → Nat → List Value → Option am_E) : Option am_E := match st with
  | .ref v :: .int j :: .ref a :: r => f v j a r
  | _ => none
def am_ldi (o : Option (Option Value)) (f : Int32 → Option am_E) : Option am_E := match o with
  | some (some (.int x)) => f x
  | _ => none
def am_ldl (o : Option (Option Value)) (f : Int64 → Option am_E) : Option am_E := match o with
  | some (some (.long x)) => f x
  | _ => none
def am_ldr (o : Option (Option Value)) (f : Value → Option am_E) : Option am_E := match o with
  | some (some (.ref x)) => f (.ref x)
  | some (some .null) => f .null
  | _ => none
def am_sti (st : List Value) (f : Value → List Value → Option am_E) : Option am_E := match st with
  | .int x :: r => f (.int x) r
  | _ => none
def am_sta (st : List Value) (f : Value → List Value → Option am_E) : Option am_E := match st with
  | .ref x :: r => f (.ref x) r
  | .null :: r => f .null r
  | _ => none
/-- a table's jump: from x = k on -/
def am_tsw (x : Int32) (pc : Nat) (ls : am_L) (st : List Value) (μ : am_M) (ck : Nat × Nat) : Int → List Int → List (Prop × am_C)
  | _, [] => []
  | k, off :: r => (x.toInt = k, (((pc : Int) + off).toNat, ls, st, μ, ck)) :: am_tsw x pc ls st μ ck (k + 1) r
def am_lsw (x : Int32) (pc : Nat) (ls : am_L) (st : List Value) (μ : am_M) (ck : Nat × Nat) : List (Int × Int) → List (Prop × am_C)
  | [] => []
  | (k, off) :: r => (x.toInt = k, (((pc : Int) + off).toNat, ls, st, μ, ck)) :: am_lsw x pc ls st μ ck r
/-- the answer's type -/
def am_nr : Option FieldType → Int32 → Prop
  | some .int, _ => True
  | some .boolean, v => v = 0 ∨ v = 1
  | some .byte, v => narrow .byte (.int v) = .int v
  | some .char, v => narrow .char (.int v) = .int v
  | _, _ => False
def am_rr : Option FieldType → Prop
  | some (.object _) => True
  | some (.array _) => True
  | _ => False
def am_at : ArrayType → Nat
  | .int => 0
  | .long => 1
  | .byte => 2
  | .boolean => 3
  | _ => 999
def am_vc (v : Value) : Nat := v.category
def am_fv (ci k a : Nat) (μ : am_M) : Value := if ci = 16 then (if k = 0 then .ref 4 else .int 0) else if am_isref (am_tyOf ci k) = true then va_rf (μ.2.2.2 a k) else .int (μ.2.1 a k)
def am_fof (own i : Nat) : Option (Nat × Nat) := if own = 16 then (if i = 9 then some (16, 0) else if i = 15 then some (16, 1) else none) else (am_fls own).lookup i
def am_fin (ci k : Nat) : Bool := match vwCl[ci]? with
  | some r => (r.2.1 k).2.2.2
  | none => true
def am_pin (ty : FieldType) (v : Int32) : Prop := match ty with
  | .int => True
  | .boolean => v = 0 ∨ v = 1
  | _ => False
def am_put (y : mI) (ci k : Nat) (pc : Nat) (ls : am_L) (st : List Value) (μ : am_M) (ck : Nat × Nat) : Option am_E := match st with
  | .int v :: .ref a :: r => am_go (8 ≤ a ∧ (μ.1.2 a).1 = 100 + ci ∧ (am_fin ci k = false ∨ ((am_nm y).name = "<init>" ∧ am_own y = ci)) ∧ am_pin (am_tyOf ci k) v) (pc + 3, ls, r, (μ.1, am_up μ.2.1 a k v, μ.2.2.1, μ.2.2.2), ck)
  | .ref v :: .ref a :: r => am_go (8 ≤ a ∧ (μ.1.2 a).1 = 100 + ci ∧ (am_fin ci k = false ∨ ((am_nm y).name = "<init>" ∧ am_own y = ci)) ∧ am_isref (am_tyOf ci k) = true) (pc + 3, ls, r, (μ.1, μ.2.1, μ.2.2.1, am_up μ.2.2.2 a k (some v)), ck)
  | _ => none
def am_inv (d : Nat) (y : mI) (e : Nat × Nat × mI) (pc : Nat) (ls : am_L) (st : List Value) (μ : am_M) (ck : Nat × Nat) : Option am_E := match e.1, st.drop e.2.1 with
  | 0, .ref b :: r => some (.inr (.inl (((μ.1.2 b).1 = 100 + am_own e.2.2 ∧ (r.map am_vc).sum ≤ 8 ∧ ck.1 + am_mc e.2.2 ≤ am_mc y ∧ ck.2 + am_ms e.2.2 ≤ am_ms y ∧ 1 ≤ d), e.2.2, .ref b :: (st.take e.2.1).reverse, μ, fun v μ' => (pc + 3, ls, v.toList ++ r, μ', ck.1 + am_mc e.2.2, ck.2 + am_ms e.2.2))))
  | 2, .ref b :: r => some (.inr (.inl (((r.map am_vc).sum ≤ 8 ∧ ck.1 + am_mc e.2.2 ≤ am_mc y ∧ ck.2 + am_ms e.2.2 ≤ am_ms y ∧ 1 ≤ d), e.2.2, .ref b :: (st.take e.2.1).reverse, μ, fun v μ' => (pc + 3, ls, v.toList ++ r, μ', ck.1 + am_mc e.2.2, ck.2 + am_ms e.2.2))))
  | 1, r => some (.inr (.inl ((e.2.1 ≤ st.length ∧ (r.map am_vc).sum ≤ 8 ∧ ck.1 + am_mc e.2.2 ≤ am_mc y ∧ ck.2 + am_ms e.2.2 ≤ am_ms y ∧ 1 ≤ d), e.2.2, (st.take e.2.1).reverse, μ, fun v μ' => (pc + 3, ls, v.toList ++ r, μ', ck.1 + am_mc e.2.2, ck.2 + am_ms e.2.2))))
  | 3, r => some (.inr (.inl ((e.2.1 ≤ st.length ∧ (r.map am_vc).sum ≤ 8 ∧ ck.1 + am_mc e.2.2 ≤ am_mc y ∧ ck.2 + am_ms e.2.2 ≤ am_ms y ∧ 1 ≤ d), e.2.2, (st.take e.2.1).reverse, μ, fun v μ' => (pc + 3, ls, v.toList ++ r, μ', ck.1 + am_mc e.2.2, ck.2 + am_ms e.2.2))))
  | _, _ => none
def am_isOI (own i : Nat) : Bool := (own < 12 && i == 3) || (own == 12 && i == 1)
def am_isAC (own i : Nat) : Bool := (own == 1 && i == 34) || (own == 3 && i == 88) || (own == 4 && i == 98) || (own == 8 && i == 43)
def am_copy (d pc : Nat) (ls : am_L) (st : List Value) (μ : am_M) (ck : Nat × Nat) : Option am_E := match st with
  | .int n :: .int dp :: .ref a :: .int sp :: .ref b :: r => am_go ((8 ≤ a ∧ 8 ≤ b ∧ (μ.1.2 a).1 = 0 ∧ (μ.1.2 b).1 = 0 ∧ ¬ sp < 0 ∧ ¬ dp < 0 ∧ ¬ n < 0) ∧ sp.toNatClampNeg + n.toNatClampNeg ≤ (μ.1.2 b).2 ∧ dp.toNatClampNeg + n.toNatClampNeg ≤ (μ.1.2 a).2 ∧ (r.map am_vc).sum ≤ 8 ∧ 1 ≤ d) (pc + 3, ls, r, (μ.1, am_rw μ.2.1 a (va_cpy (μ.2.1 b) (μ.2.1 a) sp.toNatClampNeg dp.toNatClampNeg n.toNatClampNeg), μ.2.2.1, μ.2.2.2), ck)
  | _ => none
/-- what an instruction does -/
def am_i (d : Nat) (y : mI) (i : Instr) (pc : Nat) (ls : am_L) (st : List Value) (μ : am_M) (ck : Nat × Nat) : Option am_E := match i with
  | .iconst n => am_go True (pc + 1, ls, .int (Int32.ofInt n) :: st, μ, ck)
  | .bipush n => am_go True (pc + 2, ls, .int (Int8.ofInt n).toInt32 :: st, μ, ck)
  | .sipush n => am_go True (pc + 3, ls, .int (Int16.ofInt n).toInt32 :: st, μ, ck)
  | .lconst n => am_go True (pc + 1, ls, .long (Int64.ofNat n) :: st, μ, ck)
  | .aconst_null => am_go True (pc + 1, ls, .null :: st, μ, ck)
  | .iload_n n => am_ldi ls[(n : Nat)]? (fun x => am_go True (pc + 1, ls, .int x :: st, μ, ck))
  | .iload n => am_ldi ls[n]? (fun x => am_go True (pc + 2, ls, .int x :: st, μ, ck))
  | .lload_n n => am_ldl ls[(n : Nat)]? (fun x => am_go True (pc + 1, ls, .long x :: st, μ, ck))
  | .lload n => am_ldl ls[n]? (fun x => am_go True (pc + 2, ls, .long x :: st, μ, ck))
  | .aload_n n => am_ldr ls[(n : Nat)]? (fun x => am_go True (pc + 1, ls, x :: st, μ, ck))
  | .aload n => am_ldr ls[n]? (fun x => am_go True (pc + 2, ls, x :: st, μ, ck))
  | .istore_n n => am_sti st (fun x r => am_go ((n : Nat) < ls.length) (pc + 1, am_s1 ls n x, r, μ, ck))
  | .istore n => am_sti st (fun x r => am_go (n < ls.length) (pc + 2, am_s1 ls n x, r, μ, ck))
  | .astore_n n => am_sta st (fun x r => am_go ((n : Nat) < ls.length) (pc + 1, am_s1 ls n x, r, μ, ck))
  | .astore n => am_sta st (fun x r => am_go (n < ls.length) (pc + 2, am_s1 ls n x, r, μ, ck))
  | .lstore n => am_1l st (fun x r => am_go (n + 1 < ls.length) (pc + 2, am_s2 ls n (.long x), r, μ, ck))
  | .iinc n k => am_ldi ls[n]? (fun x => am_go (n < ls.length) (pc + 3, am_s1 ls n (.int (x + Int32.ofInt k)), st, μ, ck))
  | .iadd => am_2i st (fun a b r => am_go True (pc + 1, ls, .int (a + b) :: r, μ, ck))
  | .isub => am_2i st (fun a b r => am_go True (pc + 1, ls, .int (a - b) :: r, μ, ck))
  | .imul => am_2i st (fun a b r => am_go True (pc + 1, ls, .int (a * b) :: r, μ, ck))
  | .iand => am_2i st (fun a b r => am_go True (pc + 1, ls, .int (a &&& b) :: r, μ, ck))
  | .ior => am_2i st (fun a b r => am_go True (pc + 1, ls, .int (a ||| b) :: r, μ, ck))
  | .ixor => am_2i st (fun a b r => am_go True (pc + 1, ls, .int (a ^^^ b) :: r, μ, ck))
  | .idiv => am_2i st (fun a b r => am_go (¬ b = 0) (pc + 1, ls, .int (a / b) :: r, μ, ck))
  | .irem => am_2i st (fun a b r => am_go (¬ b = 0) (pc + 1, ls, .int (a - a / b * b) :: r, μ, ck))
  | .ineg => am_1i st (fun a r => am_go True (pc + 1, ls, .int (-a) :: r, μ, ck))
  | .ishl => am_2i st (fun a b r => am_go True (pc + 1, ls, .int (a <<< (b &&& 31)) :: r, μ, ck))
  | .ishr => am_2i st (fun a b r => am_go True (pc + 1, ls, .int (a >>> (b &&& 31)) :: r, μ, ck))
  | .iushr => am_2i st (fun a b r => am_go True (pc + 1, ls, .int ((a.toUInt32 >>> (b.toUInt32 &&& Int32.toUInt32 31)).toInt32) :: r, μ, ck))
  | .i2l => am_1i st (fun a r => am_go True (pc + 1, ls, .long a.toInt64 :: r, μ, ck))
  | .i2b => am_1i st (fun a r => am_go True (pc + 1, ls, .int a.toInt8.toInt32 :: r, μ, ck))
  | .i2c => am_1i st (fun a r => am_go True (pc + 1, ls, .int (a.toUInt32 % 65536).toInt32 :: r, μ, ck))
  | .ladd => am_2l st (fun a b r => am_go True (pc + 1, ls, .long (a + b) :: r, μ, ck))
  | .lsub => am_2l st (fun a b r => am_go True (pc + 1, ls, .long (a - b) :: r, μ, ck))
  | .lmul => am_2l st (fun a b r => am_go True (pc + 1, ls, .long (a * b) :: r, μ, ck))
  | .lcmp => am_2l st (fun a b r => am_go True (pc + 1, ls, .int (lg_cmp a b) :: r, μ, ck))
  | .dup => (match st with
    | v :: r => am_go (am_vc v = 1) (pc + 1, ls, v :: v :: r, μ, ck)
    | _ => none)
  | .dup2 => (match st with
    | v :: w :: r => am_go (am_vc v = 1 ∧ am_vc w = 1) (pc + 1, ls, v :: w :: v :: w :: r, μ, ck)
    | _ => none)
  | .pop => (match st with
    | v :: r => am_go (am_vc v = 1) (pc + 1, ls, r, μ, ck)
    | _ => none)
  | .ifCond c off => am_1i st (fun a r => am_br pc off (am_cmp c a 0) ls r μ ck)
  | .if_icmp c off => am_2i st (fun a b r => am_br pc off (am_cmp c a b) ls r μ ck)
  | .ifnull off => (match st with
    | .ref _ :: r => am_go True (pc + 3, ls, r, μ, ck)
    | .null :: r => am_go (0 ≤ (pc : Int) + off) (((pc : Int) + off).toNat, ls, r, μ, ck)
    | _ => none)
  | .ifnonnull off => (match st with
    | .null :: r => am_go True (pc + 3, ls, r, μ, ck)
    | .ref _ :: r => am_go (0 ≤ (pc : Int) + off) (((pc : Int) + off).toNat, ls, r, μ, ck)
    | _ => none)
  | .goto off => am_go (0 ≤ (pc : Int) + off) (((pc : Int) + off).toNat, ls, st, μ, ck)
  | .tableswitch df lo hi offs => am_1i st (fun x r => some (.inl ((0 ≤ (pc : Int) + df ∧ (∀ o ∈ offs.toList, 0 ≤ (pc : Int) + o) ∧ hi + 1 = lo + offs.toList.length), ((x.toInt < lo ∨ hi < x.toInt), (((pc : Int) + df).toNat, ls, r, μ, ck)) :: am_tsw x pc ls r μ ck lo offs.toList)))
  | .lookupswitch df ps => am_1i st (fun x r => some (.inl ((0 ≤ (pc : Int) + df ∧ (∀ o ∈ ps.toList, 0 ≤ (pc : Int) + o.2) ∧ (ps.toList.zip (ps.toList.drop 1)).all (fun (a, next) => a.1 < next.1) = true), ((∀ o ∈ ps.toList, ¬ x.toInt = o.1), (((pc : Int) + df).toNat, ls, r, μ, ck)) :: am_lsw x pc ls r μ ck ps.toList)))
  | .ldc n => if am_own y = 7 ∧ n = 54 then am_go True (pc + 2, ls, .ref 3 :: st, μ, ck) else (match (am_ics (am_own y)).lookup n with
    | some v => am_go True (pc + 2, ls, .int v :: st, μ, ck)
    | none => none)
  | .ldc_w n => (match (am_ics (am_own y)).lookup n with
    | some v => am_go True (pc + 3, ls, .int v :: st, μ, ck)
    | none => none)
  | .ldc2_w n => (match (am_lcs (am_own y)).lookup n with
    | some v => am_go True (pc + 3, ls, .long v :: st, μ, ck)
    | none => none)
  | .getfield n => (match am_fof (am_own y) n with
    | some f => am_1r st (fun a r => am_go ((μ.1.2 a).1 = 100 + f.1 ∧ (f.1 = 16 ∨ 8 ≤ a)) (pc + 3, ls, am_fv f.1 f.2 a μ :: r, μ, ck))
    | none => none)
  | .putfield n => (match (am_fls (am_own y)).lookup n with
    | some f => am_put y f.1 f.2 pc ls st μ ck
    | none => none)
  | .getstatic n => (match am_own y, n with
    | 0, 105 => am_go True (pc + 3, ls, .ref 1 :: st, μ, ck)
    | 0, 115 => am_go True (pc + 3, ls, .ref 2 :: st, μ, ck)
    | 4, 117 => am_go True (pc + 3, ls, .ref 1 :: st, μ, ck)
    | 4, 124 => am_go True (pc + 3, ls, .ref 2 :: st, μ, ck)
    | 10, 152 => am_go True (pc + 3, ls, .ref 1 :: st, μ, ck)
    | 10, 155 => am_go True (pc + 3, ls, .ref 2 :: st, μ, ck)
    | 11, 103 => am_go True (pc + 3, ls, .ref 1 :: st, μ, ck)
    | 16, 38 => am_go True (pc + 3, ls, .int 1 :: st, μ, ck)
    | 16, 1053 => some (.inl (True, [(True, (pc + 3, ls, .null :: st, μ, ck)), (True, (pc + 3, ls, .ref 5 :: st, μ, ck))]))
    | _, _ => none)
  | .iaload => am_ir st (fun j a r => am_go ((μ.1.2 a).1 = 0 ∧ vp_in j (μ.1.2 a).2) (pc + 1, ls, .int (am_rd μ.2.1 a j.toNatClampNeg) :: r, μ, ck))
  | .baload => am_ir st (fun j a r => am_go (((μ.1.2 a).1 = 2 ∨ (μ.1.2 a).1 = 3) ∧ vp_in j (μ.1.2 a).2) (pc + 1, ls, .int (am_rd μ.2.1 a j.toNatClampNeg) :: r, μ, ck))
  | .laload => am_ir st (fun j a r => am_go (8 ≤ a ∧ (μ.1.2 a).1 = 1 ∧ vp_in j (μ.1.2 a).2) (pc + 1, ls, .long (μ.2.2.1 a j.toNatClampNeg) :: r, μ, ck))
  | .aaload => am_ir st (fun j a r => am_go (8 ≤ a ∧ 10 ≤ (μ.1.2 a).1 ∧ (μ.1.2 a).1 < 23 ∧ vp_in j (μ.1.2 a).2) (pc + 1, ls, va_rf (μ.2.2.2 a j.toNatClampNeg) :: r, μ, ck))
  | .iastore => am_iir st (fun v j a r => am_go (8 ≤ a ∧ (μ.1.2 a).1 = 0 ∧ vp_in j (μ.1.2 a).2) (pc + 1, ls, r, (μ.1, am_up μ.2.1 a j.toNatClampNeg v, μ.2.2), ck))
  | .bastore => am_iir st (fun v j a r => am_go (8 ≤ a ∧ ((μ.1.2 a).1 = 2 ∨ (μ.1.2 a).1 = 3) ∧ vp_in j (μ.1.2 a).2) (pc + 1, ls, r, (μ.1, am_up μ.2.1 a j.toNatClampNeg (if (μ.1.2 a).1 = 2 then v.toInt8.toInt32 else v &&& 1), μ.2.2), ck))
  | .lastore => am_lir st (fun v j a r => am_go (8 ≤ a ∧ (μ.1.2 a).1 = 1 ∧ vp_in j (μ.1.2 a).2) (pc + 1, ls, r, (μ.1, μ.2.1, am_up μ.2.2.1 a j.toNatClampNeg v, μ.2.2.2), ck))
  | .aastore => am_rir st (fun v j a r => am_go (8 ≤ a ∧ 8 ≤ v ∧ 10 ≤ (μ.1.2 a).1 ∧ (μ.1.2 a).1 < 23 ∧ (μ.1.2 v).1 = 90 + (μ.1.2 a).1 ∧ vp_in j (μ.1.2 a).2) (pc + 1, ls, r, (μ.1, μ.2.1, μ.2.2.1, am_up μ.2.2.2 a j.toNatClampNeg (some v)), ck))
  | .arraylength => am_1r st (fun a r => am_go ((μ.1.2 a).1 < 100) (pc + 1, ls, .int (Int32.ofNat (μ.1.2 a).2) :: r, μ, ck))
  | .newarray t => am_1i st (fun n r => am_go (am_at t < 4 ∧ ¬ n < 0 ∧ n.toNatClampNeg ≤ 100000 ∧ ck.1 + 1 ≤ am_mc y ∧ ck.2 + n.toNatClampNeg ≤ am_ms y) (pc + 2, ls, .ref (8 + μ.1.1) :: r, am_mk μ (am_at t) n.toNatClampNeg, ck.1 + 1, ck.2 + n.toNatClampNeg))
  | .anewarray k => (match (am_nws (am_own y)).lookup k with
    | some ci => am_1i st (fun n r => am_go (ci ∈ ([1, 6, 8, 9] : List Nat) ∧ ¬ n < 0 ∧ n.toNatClampNeg ≤ 100000 ∧ ck.1 + 1 ≤ am_mc y ∧ ck.2 + n.toNatClampNeg ≤ am_ms y) (pc + 3, ls, .ref (8 + μ.1.1) :: r, am_mk μ (10 + ci) n.toNatClampNeg, ck.1 + 1, ck.2 + n.toNatClampNeg))
    | none => none)
  | .new k => (match (am_nws (am_own y)).lookup k with
    | some ci => am_go (ci < 13 ∧ ck.1 + 1 ≤ am_mc y ∧ ck.2 + am_nf ci ≤ am_ms y) (pc + 3, ls, .ref (8 + μ.1.1) :: st, am_mk μ (100 + ci) 0, ck.1 + 1, ck.2 + am_nf ci)
    | none => none)
  | .invokespecial k => if am_isOI (am_own y) k = true then am_1r st (fun _ r => am_go ((r.map am_vc).sum ≤ 8 ∧ 1 ≤ d) (pc + 3, ls, r, μ, ck)) else (match (am_cls (am_own y)).lookup k with
    | some e => if e.1 = 2 then am_inv d y e pc ls st μ ck else none
    | none => none)
  | .invokevirtual k => (match (am_cls (am_own y)).lookup k with
    | some e => if e.1 = 0 then am_inv d y e pc ls st μ ck else none
    | none => none)
  | .invokestatic k => if am_isAC (am_own y) k = true then am_copy d pc ls st μ ck else (match (am_cls (am_own y)).lookup k with
    | some e => if e.1 = 1 ∨ e.1 = 3 then am_inv d y e pc ls st μ ck else none
    | none => none)
  | .ireturn => (match st with
    | [.int v] => some (.inr (.inr ((am_nr (am_rt y) v ∧ ck.1 = am_mc y ∧ ck.2 ≤ am_ms y), some (.int v), μ)))
    | _ => none)
  | .lreturn => (match st with
    | [.long v] => some (.inr (.inr ((am_rt y = some .long ∧ ck.1 = am_mc y ∧ ck.2 ≤ am_ms y), some (.long v), μ)))
    | _ => none)
  | .areturn => (match st with
    | [.ref v] => some (.inr (.inr ((am_rr (am_rt y) ∧ ck.1 = am_mc y ∧ ck.2 ≤ am_ms y), some (.ref v), μ)))
    | [.null] => some (.inr (.inr ((am_rr (am_rt y) ∧ ck.1 = am_mc y ∧ ck.2 ≤ am_ms y), some .null, μ)))
    | _ => none)
  | .return_ => (match st with
    | [] => some (.inr (.inr ((am_rt y = none ∧ ck.1 = am_mc y ∧ ck.2 ≤ am_ms y), none, μ)))
    | _ => none)
  | _ => none
def am_ln (i : Instr) (n : Nat) : Bool := match i with
  | .bipush _ => n == 2
  | .newarray _ => n == 2
  | .ldc _ => n == 2
  | .iload _ => n == 2
  | .lload _ => n == 2
  | .aload _ => n == 2
  | .istore _ => n == 2
  | .lstore _ => n == 2
  | .astore _ => n == 2
  | .sipush _ => n == 3
  | .iinc _ _ => n == 3
  | .ifCond _ _ => n == 3
  | .if_icmp _ _ => n == 3
  | .ifnull _ => n == 3
  | .ifnonnull _ => n == 3
  | .goto _ => n == 3
  | .ldc_w _ => n == 3
  | .ldc2_w _ => n == 3
  | .getfield _ => n == 3
  | .putfield _ => n == 3
  | .getstatic _ => n == 3
  | .anewarray _ => n == 3
  | .new _ => n == 3
  | .invokespecial _ => n == 3
  | .invokevirtual _ => n == 3
  | .invokestatic _ => n == 3
  | .tableswitch _ _ _ _ => true
  | .lookupswitch _ _ => true
  | _ => n == 1
def am_eff (d : Nat) (y : mI) (c : am_C) : Option am_E := match decode (am_by y) c.1 with
  | .ok (i, n) => if am_ln i n = true then am_i d y i c.1 c.2.1 c.2.2.1 c.2.2.2.1 c.2.2.2.2 else none
  | _ => none
def am_F (d : Nat) (call : mI → List Value → am_M → am_K → Prop) (y : mI) (K : am_K) (P : am_C → Prop) (c : am_C) : Prop := match am_eff d y c with
  | none => False
  | some (.inl e) => e.1 ∧ ∀ b ∈ e.2, b.1 → P b.2
  | some (.inr (.inl e)) => e.1 ∧ call e.2.1 e.2.2.1 e.2.2.2.1 (fun v μ => P (e.2.2.2.2 v μ))
  | some (.inr (.inr e)) => e.1 ∧ K e.2.1 e.2.2
def am_fix (Φ : (am_C → Prop) → am_C → Prop) (c : am_C) : Prop := ∀ P : am_C → Prop, (∀ c, Φ P c → P c) → P c
def am_fl : List Value → am_L
  | [] => []
  | v :: t => if am_vc v = 2 then some v :: none :: am_fl t else some v :: am_fl t
def am_en (y : mI) (args : List Value) : am_L := am_fl args ++ List.replicate (am_ml y - (am_fl args).length) none
/-- a call: of at most d frames -/
def am_call : Nat → mI → List Value → am_M → am_K → Prop
  | 0, _, _, _, _ => False
  | d + 1, y, args, μ, K => (am_fl args).length ≤ am_ml y ∧ am_fix (am_F d (am_call d) y K) (0, am_en y args, [], μ, 0, 0)
def am_W (d : Nat) (y : mI) (K : am_K) (c : am_C) : Prop := am_fix (am_F d (am_call d) y K) c
theorem am_F_mono {d : Nat} {call : mI → List Value → am_M → am_K → Prop} (hc : ∀ y a μ (K K' : am_K), (∀ v μ, K v μ → K' v μ) → call y a μ K → call y a μ K') {y : mI} {K K' : am_K} (hK : ∀ v μ, K v μ → K' v μ) {P P' : am_C → Prop} (hP : ∀ c, P c → P' c) {c : am_C} (h : am_F d call y K P c) : am_F d call y K' P' c := by
  unfold am_F at h ⊢
  split at h
  · exact h.elim
  · exact ⟨h.1, fun b hb hg => hP _ (h.2 b hb hg)⟩
  · exact ⟨h.1, hc _ _ _ _ _ (fun v μ q => hP _ q) h.2⟩
  · exact ⟨h.1, hK _ _ h.2⟩
theorem am_call_mono : ∀ (d : Nat) (y : mI) (a : List Value) (μ : am_M) (K K' : am_K), (∀ v μ, K v μ → K' v μ) → am_call d y a μ K → am_call d y a μ K' := by
  intro d
  induction d with
  | zero => intro y a μ K K' _ h; exact h
  | succ d ih =>
    intro y a μ K K' hK h
    exact ⟨h.1, fun P hP => h.2 P (fun c q => hP c (am_F_mono ih hK (fun _ z => z) q))⟩
theorem am_W_eq (d : Nat) (y : mI) (K : am_K) (c : am_C) : am_W d y K c = am_F d (am_call d) y K (am_W d y K) c := by
  have hin : ∀ c, am_F d (am_call d) y K (am_W d y K) c → am_W d y K c := fun c h P hP => hP c (am_F_mono (am_call_mono d) (fun _ _ q => q) (fun c' q => q P hP) h)
  apply propext
  constructor
  · intro h
    exact h (am_F d (am_call d) y K (am_W d y K)) (fun c q => am_F_mono (am_call_mono d) (fun _ _ q => q) (fun c' q => hin c' q) q)
  · exact hin c
