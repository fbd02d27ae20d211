noncomputable def bi (p : Prop) : Int32 := @ite _ p (Classical.propDecidable p) 1 0
theorem bi_0 (p : Prop) : (bi p = 0) = ¬ p := by unfold bi; split <;> simp_all
theorem bi_1 (p : Prop) : (bi p = 1) = p := by unfold bi; split <;> simp_all
theorem bi_z (p : Prop) : (bi p = 0 ∨ bi p = 1) = True := by unfold bi; split <;> simp_all
theorem bi_t {p : Prop} (h : p) : bi p = 1 := by unfold bi; rw [if_pos h]
theorem bi_f {p : Prop} (h : ¬ p) : bi p = 0 := by unfold bi; rw [if_neg h]
def inR (a b c : Int32) : Prop := ¬ a < b ∧ ¬ c < a
def inC (w h a b : Int32) : Prop := ¬ a < 0 ∧ ¬ w ≤ a ∧ ¬ b < 0 ∧ ¬ h ≤ b
def inV (n a : Int32) : Prop := ¬ a < 0 ∧ ¬ n ≤ a
theorem brI {p : Prop} [Decidable p] {k : am_k} {x y : Int32} {g : am_G} {I : Nat → Nat → Int32} {J : Nat → Nat → Int64} {R : Nat → Nat → Option Nat} : ((p → k (some (.int x)) g I J R) ∧ (¬ p → k (some (.int y)) g I J R)) = k (some (.int (if p then x else y))) g I J R := by
  by_cases h : p <;> simp [h]
theorem brJ {p : Prop} [Decidable p] {k : am_k} {x y : Int32} {g : am_G} {I : Nat → Nat → Int32} {J : Nat → Nat → Int64} {R : Nat → Nat → Option Nat} : ((¬ p → k (some (.int x)) g I J R) ∧ (p → k (some (.int y)) g I J R)) = k (some (.int (if p then y else x))) g I J R := by
  by_cases h : p <;> simp [h]
section NUM
variable {a b n i q : Nat}
theorem ixN (h : n < 2147483648) : (nI n).toNatClampNeg = n := nI_clamp h
theorem inN (h : i < n) (hn : n < 2147483648) : vp_in (nI i) n = True := eq_true (vp_in_nI h hn)
theorem ix0 : (0 : Int32).toNatClampNeg = 0 := rfl
theorem ix1 : (1 : Int32).toNatClampNeg = 1 := rfl
theorem in0 (h : 0 < n) (hn : n < 2147483648) : vp_in 0 n = True := by rw [← nI_0]; exact inN h hn
theorem in1 (h : 1 < n) (hn : n < 2147483648) : vp_in 1 n = True := by rw [show (1 : Int32) = nI 1 by decide]; exact inN h hn
theorem ltN (ha : a < 2147483648) (hb : b < 2147483648) : (nI a < nI b) = (a < b) := propext (nI_ltI ha hb)
theorem leN (ha : a < 2147483648) (hb : b < 2147483648) : (nI a ≤ nI b) = (a ≤ b) := propext (nI_leI ha hb)
theorem eqN (ha : a < 2147483648) (hb : b < 2147483648) : (nI a = nI b) = (a = b) := propext (nI_eq ha hb)
theorem lt0N (h : n < 2147483648) : (nI n < 0) = False := eq_false (nI_pos h)
theorem le0N (h : n < 2147483648) : (0 ≤ nI n) = True := eq_true (nI_pos' h)
theorem eq0N (h : n < 2147483648) : (nI n = 0) = (n = 0) := by rw [← nI_0]; exact eqN h (by decide)
theorem eq1N (h : n < 2147483648) : (nI n = 1) = (n = 1) := by rw [show (1 : Int32) = nI 1 by decide]; exact eqN h (by decide)
theorem le1N (h : n < 2147483648) : (nI n ≤ 1) = (n ≤ 1) := by rw [show (1 : Int32) = nI 1 by decide]; exact leN h (by decide)
theorem n1 : nI 1 = 1 := by decide
theorem addN : nI a + nI b = nI (a + b) := nI_add a b
theorem add1N : nI a + 1 = nI (a + 1) := nI_1 a
theorem mulN : nI a * nI b = nI (a * b) := pk_mul a b
theorem subN (h : b ≤ a) : nI a - nI b = nI (a - b) := pk_sub h
theorem sub1N (h : 1 ≤ a) : nI a - 1 = nI (a - 1) := by rw [show (1 : Int32) = nI 1 by decide]; exact pk_sub h
theorem divN (ha : a < 2147483648) (h0 : 0 < q) (hq : q < 2147483648) : nI a / nI q = nI (a / q) := pk_div ha h0 hq
theorem remN : nI a - nI (a / q * q) = nI (a % q) := by
  rw [pk_sub (Nat.div_mul_le_self a q)]
  congr 1
  have := Nat.mod_add_div a q
  have e : q * (a / q) = a / q * q := Nat.mul_comm _ _
  omega
theorem modS : a - a / q * q = a % q := by
  have := Nat.mod_add_div a q
  have e : q * (a / q) = a / q * q := Nat.mul_comm _ _
  omega
theorem upR {α : Type} {f : Nat → Nat → α} {v : α} (h : b ≠ a) : am_up f a i v b = f b := by funext j; simp [am_up, am_rw, h]
theorem posN (h0 : 0 < n) (h : n < 2147483648) : (nI n = 0) = False := by rw [eq0N h]; exact eq_false (by omega)
def dst (a b : Nat) : Nat := (a - b) + (b - a)
theorem absN (ha : a < 1073741824) (hb : b < 1073741824) : (if nI a - nI b < 0 then -(nI a - nI b) else nI a - nI b) = nI (dst a b) := by
  unfold dst
  by_cases h : b ≤ a
  · rw [pk_sub h, if_neg (nI_pos (by omega))]
    congr 1
    omega
  · have h1 : nI a - nI b < 0 := pk_sneg hb (by omega)
    rw [if_pos h1]
    have e : -(nI a - nI b) = nI b - nI a := by
      apply Int32.toBitVec_inj.mp
      simp [Int32.toBitVec_sub, Int32.toBitVec_neg, BitVec.neg_sub]
    rw [e, pk_sub (by omega)]
    congr 1
    omega
theorem maxN (ha : a < 2147483648) (hb : b < 2147483648) : (if nI a < nI b then nI b else nI a) = nI (max a b) := by
  simp only [ltN ha hb]
  split <;> congr 1 <;> omega
theorem max2N (ha : a < 2147483648) (hb : b < 2147483648) : (if nI b < nI a then nI a else nI b) = nI (max a b) := by
  simp only [ltN hb ha]
  split <;> congr 1 <;> omega
theorem minN (ha : a < 2147483648) (hb : b < 2147483648) : (if nI b < nI a then nI b else nI a) = nI (min a b) := by
  simp only [ltN hb ha]
  split <;> congr 1 <;> omega
theorem rdN {I : Nat → Nat → Int32} (h : 8 ≤ a) : am_rd I a i = I a i := by
  unfold am_rd
  rw [if_neg (by omega), if_neg (by omega), if_neg (by omega)]
theorem upS {α : Type} {f : Nat → Nat → α} {v : α} : am_up f a i v a i = v := by simp [am_up, am_rw, va_up]
theorem upA {α : Type} {f : Nat → Nat → α} {v : α} (h : b ≠ a) : am_up f a i v b q = f b q := by simp [am_up, am_rw, h]
theorem upI {α : Type} {f : Nat → Nat → α} {v : α} (h : q ≠ i) : am_up f a i v a q = f a q := by simp [am_up, am_rw, va_up, h]
theorem rwS {α : Type} {f : Nat → Nat → α} {r : Nat → α} : am_rw f a r a = r := by simp [am_rw]
theorem rwA {α : Type} {f : Nat → Nat → α} {r : Nat → α} (h : b ≠ a) : am_rw f a r b = f b := by simp [am_rw, h]
/-- a loop's end first -/
theorem up_to {P : Nat → Prop} {m : Nat} (h0 : P m) (hs : ∀ i, i < m → P (i + 1) → P i) : ∀ i, i ≤ m → P i := by
  have key : ∀ j i, i + j = m → P i := by
    intro j
    induction j with
    | zero =>
      intro i hi
      have e : i = m := by omega
      rw [e]
      exact h0
    | succ j ih => exact fun i hi => hs i (by omega) (ih (i + 1) (by omega))
  exact fun i hi => key (m - i) i (by omega)
theorem inCN {W H x y : Nat} (hW : W < 2147483648) (hH : H < 2147483648) (hx : x < 2147483648) (hy : y < 2147483648) : inC (nI W) (nI H) (nI x) (nI y) = (x < W ∧ y < H) := by
  simp only [inC, lt0N hx, lt0N hy, leN hW hx, leN hH hy, not_false_eq_true, true_and, Nat.not_le]
theorem inR0 {z m : Nat} (hz : z < 2147483648) (hm : m < 2147483648) : inR (nI z) 0 (nI m) = (z ≤ m) := by
  simp only [inR, lt0N hz, ltN hm hz, not_false_eq_true, true_and, Nat.not_lt]
theorem inR1 {z m : Nat} (hz : z < 2147483648) (hm : m < 2147483648) : inR (nI z) 1 (nI m) = (1 ≤ z ∧ z ≤ m) := by
  rw [show (1 : Int32) = nI 1 by decide]
  simp only [inR, ltN hz (show 1 < 2147483648 by decide), ltN hm hz, Nat.not_lt]
theorem inRN {z l m : Nat} (hz : z < 2147483648) (hl : l < 2147483648) (hm : m < 2147483648) : inR (nI z) (nI l) (nI m) = (l ≤ z ∧ z ≤ m) := by
  simp only [inR, ltN hz hl, ltN hm hz, Nat.not_lt]
theorem inVN {m z : Nat} (hm : m < 2147483648) (hz : z < 2147483648) : inV (nI m) (nI z) = (z < m) := by
  simp only [inV, lt0N hz, leN hm hz, not_false_eq_true, true_and, Nat.not_le]
theorem nn_of {x : Int32} (h : ¬ x < 0) : ∃ j : Nat, j < 2147483648 ∧ x = nI j := nI_of h
theorem inC_of {W H : Nat} {x y : Int32} (hW : W < 2147483648) (hH : H < 2147483648) (h : inC (nI W) (nI H) x y) : ∃ i j : Nat, i < W ∧ j < H ∧ x = nI i ∧ y = nI j := by
  obtain ⟨h1, h2, h3, h4⟩ := h
  obtain ⟨i, hi, rfl⟩ := nn_of h1
  obtain ⟨j, hj, rfl⟩ := nn_of h3
  rw [leN hW hi] at h2
  rw [leN hH hj] at h4
  exact ⟨i, j, by omega, by omega, rfl, rfl⟩
theorem inV_of {m : Nat} {x : Int32} (hm : m < 2147483648) (h : inV (nI m) x) : ∃ i : Nat, i < m ∧ x = nI i := by
  obtain ⟨h1, h2⟩ := h
  obtain ⟨i, hi, rfl⟩ := nn_of h1
  rw [leN hm hi] at h2
  exact ⟨i, by omega, rfl⟩
theorem inR0_of {m : Nat} {x : Int32} (hm : m < 2147483648) (h : inR x 0 (nI m)) : ∃ i : Nat, i ≤ m ∧ x = nI i := by
  obtain ⟨h1, h2⟩ := h
  obtain ⟨i, hi, rfl⟩ := nn_of h1
  rw [ltN hm hi] at h2
  exact ⟨i, by omega, rfl⟩
theorem nn_lo {l : Nat} {x : Int32} (hl : l < 2147483648) (h : ¬ x < nI l) : ¬ x < 0 := by
  intro q
  apply h
  have h2 : (0 : Int32) ≤ nI l := nI_pos' hl
  rw [Int32.lt_iff_toInt_lt] at q ⊢
  rw [Int32.le_iff_toInt_le] at h2
  omega
theorem inRN_of {l m : Nat} {x : Int32} (hl : l < 2147483648) (hm : m < 2147483648) (h : inR x (nI l) (nI m)) : ∃ i : Nat, l ≤ i ∧ i ≤ m ∧ x = nI i := by
  obtain ⟨h1, h2⟩ := h
  obtain ⟨i, hi, rfl⟩ := nn_of (nn_lo hl h1)
  rw [ltN hi hl] at h1
  rw [ltN hm hi] at h2
  exact ⟨i, by omega, by omega, rfl⟩
end NUM
theorem ltr2 : (2 : Int32) = nI 2 := by decide
theorem ltr3 : (3 : Int32) = nI 3 := by decide
theorem ltr4 : (4 : Int32) = nI 4 := by decide
theorem ltr5 : (5 : Int32) = nI 5 := by decide
theorem ltr6 : (6 : Int32) = nI 6 := by decide
theorem ltr7 : (7 : Int32) = nI 7 := by decide
theorem ltr8 : (8 : Int32) = nI 8 := by decide
theorem ltr9 : (9 : Int32) = nI 9 := by decide
theorem ltr10 : (10 : Int32) = nI 10 := by decide
theorem ltr11 : (11 : Int32) = nI 11 := by decide
theorem ltr12 : (12 : Int32) = nI 12 := by decide
theorem ltr13 : (13 : Int32) = nI 13 := by decide
theorem ltr14 : (14 : Int32) = nI 14 := by decide
theorem ltr15 : (15 : Int32) = nI 15 := by decide
theorem ltr16 : (16 : Int32) = nI 16 := by decide
theorem ltr17 : (17 : Int32) = nI 17 := by decide
theorem ltr20 : (20 : Int32) = nI 20 := by decide
theorem ltr22 : (22 : Int32) = nI 22 := by decide
theorem ltr23 : (23 : Int32) = nI 23 := by decide
theorem ltr24 : (24 : Int32) = nI 24 := by decide
theorem ltr25 : (25 : Int32) = nI 25 := by decide
theorem ltr31 : (31 : Int32) = nI 31 := by decide
theorem ltr32 : (32 : Int32) = nI 32 := by decide
theorem ltr40 : (40 : Int32) = nI 40 := by decide
theorem ltr41 : (41 : Int32) = nI 41 := by decide
theorem ltr42 : (42 : Int32) = nI 42 := by decide
theorem ltr43 : (43 : Int32) = nI 43 := by decide
theorem ltr45 : (45 : Int32) = nI 45 := by decide
theorem ltr47 : (47 : Int32) = nI 47 := by decide
theorem ltr48 : (48 : Int32) = nI 48 := by decide
theorem ltr50 : (50 : Int32) = nI 50 := by decide
theorem ltr52 : (52 : Int32) = nI 52 := by decide
theorem ltr57 : (57 : Int32) = nI 57 := by decide
theorem ltr59 : (59 : Int32) = nI 59 := by decide
theorem ltr60 : (60 : Int32) = nI 60 := by decide
theorem ltr61 : (61 : Int32) = nI 61 := by decide
theorem ltr62 : (62 : Int32) = nI 62 := by decide
theorem ltr64 : (64 : Int32) = nI 64 := by decide
theorem ltr65 : (65 : Int32) = nI 65 := by decide
theorem ltr72 : (72 : Int32) = nI 72 := by decide
theorem ltr77 : (77 : Int32) = nI 77 := by decide
theorem ltr90 : (90 : Int32) = nI 90 := by decide
theorem ltr91 : (91 : Int32) = nI 91 := by decide
theorem ltr97 : (97 : Int32) = nI 97 := by decide
theorem ltr99 : (99 : Int32) = nI 99 := by decide
theorem ltr100 : (100 : Int32) = nI 100 := by decide
theorem ltr122 : (122 : Int32) = nI 122 := by decide
theorem ltr144 : (144 : Int32) = nI 144 := by decide
theorem ltr216 : (216 : Int32) = nI 216 := by decide
theorem ltr236 : (236 : Int32) = nI 236 := by decide
theorem ltr240 : (240 : Int32) = nI 240 := by decide
theorem ltr255 : (255 : Int32) = nI 255 := by decide
theorem ltr256 : (256 : Int32) = nI 256 := by decide
theorem ltr257 : (257 : Int32) = nI 257 := by decide
theorem ltr258 : (258 : Int32) = nI 258 := by decide
theorem ltr259 : (259 : Int32) = nI 259 := by decide
theorem ltr260 : (260 : Int32) = nI 260 := by decide
theorem ltr261 : (261 : Int32) = nI 261 := by decide
theorem ltr262 : (262 : Int32) = nI 262 := by decide
theorem ltr271 : (271 : Int32) = nI 271 := by decide
theorem ltr272 : (272 : Int32) = nI 272 := by decide
theorem ltr273 : (273 : Int32) = nI 273 := by decide
theorem ltr288 : (288 : Int32) = nI 288 := by decide
theorem ltr336 : (336 : Int32) = nI 336 := by decide
theorem ltr380 : (380 : Int32) = nI 380 := by decide
theorem ltr400 : (400 : Int32) = nI 400 := by decide
theorem ltr1000 : (1000 : Int32) = nI 1000 := by decide
theorem ltr1600 : (1600 : Int32) = nI 1600 := by decide
theorem ltr9999 : (9999 : Int32) = nI 9999 := by decide
theorem ltr10000 : (10000 : Int32) = nI 10000 := by decide
