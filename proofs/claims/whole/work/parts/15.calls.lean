section AM6
variable {p : Program} {l : Launch} {e : Env} {R : Room} {s : State} {m : MethodId} {args : Array Value} {below : List Frame} {meth : Method} {c : Code} {Q : State → Prop} {z : Nat} {xt : Nat → Nat} {D : va_G} {L : Nat} {xs : Nat → Int32} {y : mI} {d : Nat} {K : am_K}
variable {pc : Nat} {V : am_L} {μ : am_M} {ck : Nat × Nat} {r : List Value}
theorem am_lsw_mem {x : Int32} {pc : Nat} {V : am_L} {r : List Value} {μ : am_M} {ck : Nat × Nat} : ∀ (ps : List (Int × Int)) (k off : Int), (k, off) ∈ ps → (x.toInt = k, (((pc : Int) + off).toNat, V, r, μ, ck)) ∈ am_lsw x pc V r μ ck ps := by
  intro ps
  induction ps with
  | nil => intro k off h; exact absurd h List.not_mem_nil
  | cons q t ih =>
    intro k off h
    obtain ⟨k2, o2⟩ := q
    rcases List.mem_cons.mp h with h | h
    · cases h
      exact List.mem_cons_self
    · exact List.mem_cons_of_mem _ (ih k off h)
theorem am_lsw_off (ps : List (Int × Int)) (df x : Int) : (∃ off, Op.lookupswitch.offset ps df x = off ∧ (x, off) ∈ ps) ∨ (Op.lookupswitch.offset ps df x = df ∧ ∀ o ∈ ps, ¬ x = o.1) := by
  induction ps with
  | nil => exact Or.inr ⟨rfl, fun o h => absurd h List.not_mem_nil⟩
  | cons q t ih =>
    obtain ⟨k, off⟩ := q
    by_cases hk : k = x
    · subst hk
      exact Or.inl ⟨off, by simp [Op.lookupswitch.offset], List.mem_cons_self⟩
    · have hu : Op.lookupswitch.offset ((k, off) :: t) df x = Op.lookupswitch.offset t df x := by
        simp [Op.lookupswitch.offset, hk]
      rcases ih with ⟨o2, h1, h2⟩ | ⟨h1, h2⟩
      · exact Or.inl ⟨o2, hu.trans h1, List.mem_cons_of_mem _ h2⟩
      · refine Or.inr ⟨hu.trans h1, fun o ho => ?_⟩
        rcases List.mem_cons.mp ho with e | ho
        · rw [e]
          exact fun w => hk w.symm
        · exact h2 o ho
theorem sn_lsw {df : Int} {ps : Array (Int × Int)} {n : Nat} {x : Int32} (G : am_Gm p l e R s m args below meth c z xt L xs y d) (hd : decode (am_by y) pc = .ok (.lookupswitch df ps, n)) (h0 : 0 ≤ (pc : Int) + df) (h1 : ∀ o ∈ ps.toList, 0 ≤ (pc : Int) + o.2) (h2 : (ps.toList.zip (ps.toList.drop 1)).all (fun (a, next) => a.1 < next.1) = true) (h : ∀ b ∈ ((∀ o ∈ ps.toList, ¬ x.toInt = o.1), (((pc : Int) + df).toNat, V, r, μ, ck)) :: am_lsw x pc V r μ ck ps.toList, b.1 → am_SD p l e R s m args below meth c Q z xt D L xs y b.2) : (am_SD p l e R s m args below meth c Q z xt D L xs y (pc, V, .int x :: r, μ, ck)) := by
  intro H locs ls hR hS hl hn hz
  replace hR : am_R z xt D L xs μ s H := hR
  replace hz : s.heap.size + ck.1 = z + μ.1.1 := hz
  obtain ⟨hx, hb, hml, hown, hts, hnm, hzs, hX, hfr, hlo, hmc, hms⟩ := G
  obtain ⟨r1, r2, r3, r4, ka, hP, hA⟩ := id hR
  rcases am_lsw_off ps.toList df x.toInt with ⟨off, ho, hm⟩ | ⟨ho, hm⟩
  · exact lv_lookup hx hb hd h2 ho (sn_tgt (h1 _ hm)) (h _ (List.mem_cons_of_mem _ (am_lsw_mem _ _ _ hm)) rfl H locs ls hR hS hl hn hz)
  · exact lv_lookup hx hb hd h2 ho (sn_tgt h0) (h _ List.mem_cons_self hm H locs ls hR hS hl hn hz)
/-- a method's contract: from a memory, to what K says -/
def am_ws1 (y : mI) : List Cond := Cond.code (am_nm y) (am_by y) (am_ml y) (am_rt y) :: am_tbl
def am_rm (d : Nat) (y : mI) : Room := { frames := d - 1, cells := am_mc y, slots := am_ms y, locals := 100 * (d - 1) }
def am_Pc (z : Nat) (xt : Nat → Nat) (D : va_G) (L : Nat) (xs : Nat → Int32) (a : List Value) (μ : am_M) : Array Value → State → Prop := fun v U => v = (a.map (am_tr z xt)).toArray ∧ am_R z xt D L xs μ U U.heap ∧ am_X z xt L xs U U.heap
def am_Qc (z : Nat) (xt : Nat → Nat) (D : va_G) (L : Nat) (xs : Nat → Int32) (n : Nat) (K : am_K) : Array Value → State → Outcome → State → Prop := fun _ st oc t => (∃ (v : Option Value) (μ : am_M), oc = .returned (v.map (am_tr z xt)) ∧ K v μ ∧ μ.1.1 = n ∧ am_R z xt D L xs μ t t.heap) ∧ va_F (am_A z) st t
def am_Met (l : Launch) (z : Nat) (xt : Nat → Nat) (D : va_G) (L : Nat) (xs : Nat → Int32) (d : Nat) (y : mI) (a : List Value) (μ : am_M) (K : am_K) : Prop := Met l (am_nm y) (am_ws1 y) (am_rm d y) (am_Pc z xt D L xs a μ) (am_Qc z xt D L xs (μ.1.1 + am_mc y) K) (am_mc y) (am_ms y) (am_A z)
theorem am_good1 {y : mI} (h : am_cw y) : GoodIn am_tbl (am_ws1 y) := by
  have hg : ∀ w ∈ am_tbl, w ∈ am_tbl ∧ ((w.onTables && w.keeps) = true ∨ ∃ ty, w = .arrayClass ty) := fun w hw => ⟨hw, good_of_word (List.mem_filter.mp hw).2⟩
  intro w hw
  rcases List.mem_cons.mp hw with e | hw
  · rw [e]
    exact hg _ (am_tbl_mem h rfl)
  · exact hg w hw
theorem am_blind {a : List Value} : FrameBlind (am_Pc z xt D L xs a μ) := by
  intro v U g mk h
  obtain ⟨h1, h2, h3⟩ := h
  exact ⟨h1, h2.moved (U := U.calling g mk v) (Vm.Alike.refl U.vm), am_X.same (u := U) (U := U.calling g mk v) (H := U.heap) rfl h3⟩
theorem am_pre {H : Heap} {locs : List Loc} {a : List Value} (hz : z ≤ s.heap.size) (hX : am_X z xt L xs s s.heap) (hR : am_R z xt D L xs μ s H) (hS : va_S (am_A z) s.heap H locs) : PreS s H (am_Pc z xt D L xs a μ) (a.map (am_tr z xt)) := by
  refine ⟨am_blind, fun U hU hW => ⟨rfl, ?_, ?_⟩⟩
  · rw [hU]
    exact hR.moved hW.alike
  · rw [hU]
    exact (hX.moved hW).kept hz hS.2.1
/-- behind a call -/
theorem am_back {y' : mI} {H : Heap} {locs : List Loc} {ls : Array Slot} {st0 rest a0 : List Value} {n : Nat} {k : Option Value → am_M → am_C} (hr : va_Run p l e R s m args below meth c H locs ck.1 ck.2 (am_mc y') (am_ms y') (F0 m pc ls st0) (rest.map (am_tr z xt)) (am_Qc z xt D L xs n (fun v μ => am_SD p l e R s m args below meth c Q z xt D L xs y (k v μ)) a0.toArray) (am_A z)) (hS : va_S (am_A z) s.heap H locs) (hl : am_lv z xt ls V) (hn : V.length = am_ml y) (hk : ∀ v μ, k v μ = (pc + 3, V, v.toList ++ rest, μ, ck.1 + am_mc y', ck.2 + am_ms y')) (hnn : s.heap.size + (ck.1 + am_mc y') = z + n) : W p l e R s m args below meth c H locs ck.1 ck.2 Q (F0 m pc ls st0) := by
  intro T hT X
  obtain ⟨v, st₀, t, T', L', h0, X', hL, e1, e2, ⟨⟨r', μ', hv, hK, hsz, hR'⟩, hF⟩, st⟩ := hr T hT X
  cases hv
  have hS' : va_S (am_A z) s.heap T'.heap (locs ++ L') := by
    refine ⟨Nat.le_trans hS.1 (by rw [e1, ← h0]; exact hF.1), fun q h1 h2 => ?_, fun q hq => ?_⟩
    · rw [e1, hF.2 q (by rw [h0]; exact Nat.lt_of_lt_of_le h1 hS.1) h2, h0]
      exact hS.2.1 q h1 h2
    · rcases List.mem_append.mp hq with h | h
      · exact hS.2.2 q h
      · exact hL q h
  have hR2 : am_R z xt D L xs μ' s T'.heap := by
    rw [e1]
    exact hR'.moved (by rw [← e2]; exact X'.warmed.alike.symm)
  rw [hk] at hK
  have kk := hK T'.heap (locs ++ L') ls hR2 hS' hl hn (by show s.heap.size + (ck.1 + am_mc y') = z + μ'.1.1; rw [hsz]; exact hnn)
  have kk : W p l e R s m args below meth c T'.heap (locs ++ L') (ck.1 + am_mc y') (ck.2 + am_ms y') Q (F0 m (pc + 3) ls ((r'.map (am_tr z xt)).toList ++ rest.map (am_tr z xt))) := by
    have e5 : (r'.map (am_tr z xt)).toList ++ rest.map (am_tr z xt) = (r'.toList ++ rest).map (am_tr z xt) := by cases r' <;> simp
    rw [e5]
    exact kk
  obtain ⟨t2, a1, b1⟩ := kk T' rfl X'
  exact ⟨t2, st t2 a1, b1⟩
theorem am_split {n b : Nat} {st : List Value} (hst : st.drop n = .ref b :: r) : st.map (am_tr z xt) = ((st.take n).reverse.map (am_tr z xt)).reverse ++ .ref (am_ad z xt b) :: r.map (am_tr z xt) := by
  have h : st.map (am_tr z xt) = (st.take n).map (am_tr z xt) ++ (st.drop n).map (am_tr z xt) := by rw [← List.map_append, List.take_append_drop]
  rw [h, hst, List.map_reverse, List.reverse_reverse]
  rfl
theorem am_split2 (n : Nat) (st : List Value) : st.map (am_tr z xt) = ((st.take n).reverse.map (am_tr z xt)).reverse ++ (st.drop n).map (am_tr z xt) := by
  have h : st.map (am_tr z xt) = (st.take n).map (am_tr z xt) ++ (st.drop n).map (am_tr z xt) := by rw [← List.map_append, List.take_append_drop]
  rw [h, List.map_reverse, List.reverse_reverse]
theorem am_room {y' : mI} (hy : am_okY y' = true) (hd1 : 1 ≤ d) (h1 : d ≤ R.frames) (h2 : 100 * d ≤ R.locals) : (am_rm d y').frames + 1 ≤ R.frames ∧ 8 + (am_ml y' + 11) + (am_rm d y').locals ≤ R.locals := by
  unfold am_okY at hy
  simp only [Bool.and_eq_true, decide_eq_true_eq] at hy
  show d - 1 + 1 ≤ R.frames ∧ 8 + (am_ml y' + 11) + 100 * (d - 1) ≤ R.locals
  omega
theorem am_callB {i n : Nat} {y' : mI} (hts : ∀ w ∈ am_tbl, w.before args s = true) (hcw : am_cw y') (hy : am_okY y' = true) (hpn : (parseMethodDescriptor (am_nm y').desc).map (fun d => d.parameters.length) = some n) (hini : Cond.initialized (am_nm y').cls ∈ lw_tbl) (hlk : Cond.methodLink (am_cn (am_own y)) i (am_nm y') ∈ lw_tbl) (hR : (am_rm d y').frames + 1 ≤ R.frames ∧ 8 + (am_ml y' + 11) + (am_rm d y').locals ≤ R.locals) : CallB R s args (am_cn (am_own y)) i (am_nm y') (am_by y') (am_ml y') (am_rt y') (am_ws1 y') (am_rm d y') (am_mc y') (am_ms y') n := by
  unfold am_okY at hy
  simp only [Bool.and_eq_true, decide_eq_true_eq] at hy
  exact callB_of n hts (am_good1 hcw) rfl rfl rfl (hts _ (am_tbl_mem hini rfl)) (hts _ (am_tbl_mem hlk rfl)) ⟨hy.1.2, hy.2, hpn⟩ hR
theorem sn_virt {i n b : Nat} {y' : mI} {st : List Value} {k : Option Value → am_M → am_C} (G : am_Gm p l e R s m args below meth c z xt L xs y d) (hd : decode (am_by y) pc = .ok (.invokevirtual i, 3)) (he : (am_cls (am_own y)).lookup i = some (0, n, y')) (hst : st.drop n = .ref b :: r) (ht : (μ.1.2 b).1 = 100 + am_own y') (h6 : (r.map am_vc).sum ≤ 8) (h3 : ck.1 + am_mc y' ≤ am_mc y) (h4 : ck.2 + am_ms y' ≤ am_ms y) (h7 : 1 ≤ d) (hk : ∀ v μ, k v μ = (pc + 3, V, v.toList ++ r, μ, ck.1 + am_mc y', ck.2 + am_ms y')) (hM : am_Met l z xt D L xs d y' (.ref b :: (st.take n).reverse) μ (fun v μ => am_SD p l e R s m args below meth c Q z xt D L xs y (k v μ))) : (am_SD p l e R s m args below meth c Q z xt D L xs y (pc, V, st, μ, ck)) := by
  intro H locs ls hR hS hl hn hz
  replace hR : am_R z xt D L xs μ s H := hR
  replace hz : s.heap.size + ck.1 = z + μ.1.1 := hz
  obtain ⟨hx, hb, hml, hown, hts, hnm, hzs, hX, hfr, hlo, hmc, hms⟩ := G
  obtain ⟨r1, r2, r3, r4, ka, hP, hA⟩ := id hR
  obtain ⟨pp, hok⟩ := am_cok he
  have hcw := am_cwok he
  unfold am_okC at hok
  simp only [Bool.and_eq_true, decide_eq_true_eq] at hok
  obtain ⟨⟨⟨hoy, hpn⟩, hini⟩, hkind⟩ := hok
  have hini := am_at_mem hini
  simp only [Bool.and_eq_true, Bool.or_eq_true, decide_eq_true_eq] at hkind
  obtain ⟨⟨⟨hk1, hk2⟩, hk3⟩, hk4⟩ := hkind
  have hlk := am_at_mem hk1
  have hin := am_at_mem hk2
  have hsl := am_at_mem hk3
  have hcls : (am_nm y').cls = am_cn (am_own y') := by
    have hy := hoy
    unfold am_okY at hy
    simp only [Bool.and_eq_true, decide_eq_true_eq] at hy
    exact hy.1.1.1.2
  have hCB := am_callB (R := R) (y := y) (d := d) hts hcw hoy hpn hini hlk (am_room hoy h7 hfr hlo)
  have hrec : ∃ cellB : Cell, H[am_ad z xt b]? = some cellB ∧ cellB.vm.isStatics = false ∧ s.vm.findClass (am_nm y').cls = some cellB.cls := by
    rw [hcls]
    rcases hk4 with hk4 | hk4
    · have hb8 : 8 ≤ b := by
        obtain ⟨s1, s2, s30, s31, s32, s33, s34, s35, s36, s37⟩ := r2
        by_cases q : 8 ≤ b
        · exact q
        · have hcs : b = 0 ∨ b = 1 ∨ b = 2 ∨ b = 3 ∨ b = 4 ∨ b = 5 ∨ b = 6 ∨ b = 7 := by omega
          rcases hcs with rfl | rfl | rfl | rfl | rfl | rfl | rfl | rfl
          · rw [s30] at ht; have ht : 0 = 100 + am_own y' := ht; omega
          · rw [s31] at ht; have ht : 0 = 100 + am_own y' := ht; omega
          · rw [s32] at ht; have ht : 0 = 100 + am_own y' := ht; omega
          · rw [s33] at ht; have ht : 116 = 100 + am_own y' := ht; omega
          · rw [s34] at ht; have ht : 2 = 100 + am_own y' := ht; omega
          · omega
          · omega
          · omega
      have hlt : b < 8 + μ.1.1 := am_lt r2 (by omega)
      have hev := am_ws_get (z := z) (xt := xt) (ka := ka) hb8 hlt
      rw [am_obj ht] at hev
      obtain ⟨T, hc, -⟩ := am_cls_ok hk4
      exact va_recv r4 hP hc hev
    · rw [hk4] at ht ⊢
      have hb3 := am_is3 r2 ht
      subst hb3
      exact va_Orecv hX.2.2.2.2.2.1 hS
  have hsp : st = st.take n ++ (.ref b :: r) := by rw [← hst, List.take_append_drop]
  have hlen : ((st.take n).reverse.map (am_tr z xt)).length = n := by
    have h1 : (st.drop n).length = st.length - n := List.length_drop
    rw [hst] at h1
    simp only [List.length_cons] at h1
    rw [List.length_map, List.length_reverse, List.length_take]
    omega
  have hrun := va_runV (p := p) (l := l) (e := e) (R := R) (s := s) (m := m) (args := args) (below := below) (meth := meth) (c := c) (H := H) (locs := locs) (cells := ck.1) (slots := ck.2) (g := F0 m pc ls (st.map (am_tr z xt))) (As := (st.take n).reverse.map (am_tr z xt)) (rest := r.map (am_tr z xt)) (b := am_ad z xt b) ⟨hx, hb, hml, hown, hts⟩ hM ⟨hCB, hts _ (am_tbl_mem hin rfl), hts _ (am_tbl_mem hsl rfl)⟩ ⟨(am_pre hzs hX hR hS).1, hrec, (am_pre (a := .ref b :: (st.take n).reverse) hzs hX hR hS).2⟩ rfl hlen (hl.1.trans hn) (am_split hst) (lv_room (by rw [am_sumc]; exact h6)) hd ⟨by omega, by omega⟩
  exact am_back (y' := y') (k := k) (a0 := .ref (am_ad z xt b) :: (st.take n).reverse.map (am_tr z xt)) hrun hS hl hn hk (by show s.heap.size + (ck.1 + am_mc y') = z + (μ.1.1 + am_mc y'); omega)
theorem am_take_len {n : Nat} {st : List Value} (h : n ≤ st.length) : ((st.take n).reverse.map (am_tr z xt)).length = n := by
  rw [List.length_map, List.length_reverse, List.length_take]
  omega
theorem sn_stat {i n : Nat} {y' : mI} {st : List Value} {k : Option Value → am_M → am_C} (G : am_Gm p l e R s m args below meth c z xt L xs y d) (hd : decode (am_by y) pc = .ok (.invokestatic i, 3)) (he : (am_cls (am_own y)).lookup i = some (1, n, y')) (hst : n ≤ st.length) (h6 : ((st.drop n).map am_vc).sum ≤ 8) (h3 : ck.1 + am_mc y' ≤ am_mc y) (h4 : ck.2 + am_ms y' ≤ am_ms y) (h7 : 1 ≤ d) (hk : ∀ v μ, k v μ = (pc + 3, V, v.toList ++ st.drop n, μ, ck.1 + am_mc y', ck.2 + am_ms y')) (hM : am_Met l z xt D L xs d y' ((st.take n).reverse) μ (fun v μ => am_SD p l e R s m args below meth c Q z xt D L xs y (k v μ))) : (am_SD p l e R s m args below meth c Q z xt D L xs y (pc, V, st, μ, ck)) := by
  intro H locs ls hR hS hl hn hz
  replace hR : am_R z xt D L xs μ s H := hR
  replace hz : s.heap.size + ck.1 = z + μ.1.1 := hz
  obtain ⟨hx, hb, hml, hown, hts, hnm, hzs, hX, hfr, hlo, hmc, hms⟩ := G
  obtain ⟨r1, r2, r3, r4, ka, hP, hA⟩ := id hR
  obtain ⟨pp, hok⟩ := am_cok he
  have hcw := am_cwok he
  unfold am_okC at hok
  simp only [Bool.and_eq_true, decide_eq_true_eq] at hok
  obtain ⟨⟨⟨hoy, hpn⟩, hini⟩, hkind⟩ := hok
  have hini := am_at_mem hini
  have hlk := am_at_mem hkind.1
  have hss := am_at_mem hkind.2
  have hCB := am_callB (R := R) (y := y) (d := d) hts hcw hoy hpn hini hlk (am_room hoy h7 hfr hlo)
  have hrun := va_runS (p := p) (l := l) (e := e) (R := R) (s := s) (m := m) (args := args) (below := below) (meth := meth) (c := c) (H := H) (locs := locs) (cells := ck.1) (slots := ck.2) (g := F0 m pc ls (st.map (am_tr z xt))) (As := (st.take n).reverse.map (am_tr z xt)) (rest := (st.drop n).map (am_tr z xt)) ⟨hx, hb, hml, hown, hts⟩ hM ⟨hCB, hts _ (am_tbl_mem hss rfl)⟩ (am_pre hzs hX hR hS) rfl (am_take_len hst) (hl.1.trans hn) (am_split2 n st) (lv_room (by rw [am_sumc]; exact h6)) hd ⟨by omega, by omega⟩
  exact am_back (y' := y') (k := k) (a0 := (st.take n).reverse.map (am_tr z xt)) hrun hS hl hn hk (by show s.heap.size + (ck.1 + am_mc y') = z + (μ.1.1 + am_mc y'); omega)
theorem sn_nest {i n : Nat} {y' : mI} {st : List Value} {k : Option Value → am_M → am_C} (G : am_Gm p l e R s m args below meth c z xt L xs y d) (hd : decode (am_by y) pc = .ok (.invokestatic i, 3)) (he : (am_cls (am_own y)).lookup i = some (3, n, y')) (hst : n ≤ st.length) (h6 : ((st.drop n).map am_vc).sum ≤ 8) (h3 : ck.1 + am_mc y' ≤ am_mc y) (h4 : ck.2 + am_ms y' ≤ am_ms y) (h7 : 1 ≤ d) (hk : ∀ v μ, k v μ = (pc + 3, V, v.toList ++ st.drop n, μ, ck.1 + am_mc y', ck.2 + am_ms y')) (hM : am_Met l z xt D L xs d y' ((st.take n).reverse) μ (fun v μ => am_SD p l e R s m args below meth c Q z xt D L xs y (k v μ))) : (am_SD p l e R s m args below meth c Q z xt D L xs y (pc, V, st, μ, ck)) := by
  intro H locs ls hR hS hl hn hz
  replace hR : am_R z xt D L xs μ s H := hR
  replace hz : s.heap.size + ck.1 = z + μ.1.1 := hz
  obtain ⟨hx, hb, hml, hown, hts, hnm, hzs, hX, hfr, hlo, hmc, hms⟩ := G
  obtain ⟨r1, r2, r3, r4, ka, hP, hA⟩ := id hR
  obtain ⟨pp, hok⟩ := am_cok he
  have hcw := am_cwok he
  unfold am_okC at hok
  simp only [Bool.and_eq_true, decide_eq_true_eq] at hok
  obtain ⟨⟨⟨hoy, hpn⟩, hini⟩, hkind⟩ := hok
  have hini := am_at_mem hini
  have hlk := am_at_mem hkind.1
  have hss := am_at_mem hkind.2
  have hnw := hX.2.2.2.2.2.2.2.2.2.2.1 _ hlk rfl
  have hy := hoy
  unfold am_okY at hy
  simp only [Bool.and_eq_true, decide_eq_true_eq] at hy
  have hCN := va_cnB (R := R) (args := args) (own := am_cn (am_own y)) (bytes := am_by y') (maxL := am_ml y') (mc := am_mc y') (ms := am_ms y') (rm := am_rm d y') n hts (am_good1 hcw) rfl rfl rfl hnw (hts _ (am_tbl_mem hini rfl)) ⟨hy.1.2, hy.2, hpn⟩ (am_room hoy h7 hfr hlo)
  have hrun := va_runSN (p := p) (l := l) (e := e) (R := R) (s := s) (m := m) (args := args) (below := below) (meth := meth) (c := c) (H := H) (locs := locs) (cells := ck.1) (slots := ck.2) (g := F0 m pc ls (st.map (am_tr z xt))) (As := (st.take n).reverse.map (am_tr z xt)) (rest := (st.drop n).map (am_tr z xt)) ⟨hx, hb, hml, hown, hts⟩ hM ⟨hCN, hts _ (am_tbl_mem hss rfl), trivial⟩ (am_pre hzs hX hR hS) rfl (am_take_len hst) (hl.1.trans hn) (am_split2 n st) (lv_room (by rw [am_sumc]; exact h6)) hd ⟨by omega, by omega⟩
  exact am_back (y' := y') (k := k) (a0 := (st.take n).reverse.map (am_tr z xt)) hrun hS hl hn hk (by show s.heap.size + (ck.1 + am_mc y') = z + (μ.1.1 + am_mc y'); omega)
theorem sn_init {i n b : Nat} {y' : mI} {st : List Value} {k : Option Value → am_M → am_C} (G : am_Gm p l e R s m args below meth c z xt L xs y d) (hd : decode (am_by y) pc = .ok (.invokespecial i, 3)) (he : (am_cls (am_own y)).lookup i = some (2, n, y')) (hst : st.drop n = .ref b :: r) (h6 : (r.map am_vc).sum ≤ 8) (h3 : ck.1 + am_mc y' ≤ am_mc y) (h4 : ck.2 + am_ms y' ≤ am_ms y) (h7 : 1 ≤ d) (hk : ∀ v μ, k v μ = (pc + 3, V, v.toList ++ r, μ, ck.1 + am_mc y', ck.2 + am_ms y')) (hM : am_Met l z xt D L xs d y' (.ref b :: (st.take n).reverse) μ (fun v μ => am_SD p l e R s m args below meth c Q z xt D L xs y (k v μ))) : (am_SD p l e R s m args below meth c Q z xt D L xs y (pc, V, st, μ, ck)) := by
  intro H locs ls hR hS hl hn hz
  replace hR : am_R z xt D L xs μ s H := hR
  replace hz : s.heap.size + ck.1 = z + μ.1.1 := hz
  obtain ⟨hx, hb, hml, hown, hts, hnm, hzs, hX, hfr, hlo, hmc, hms⟩ := G
  obtain ⟨r1, r2, r3, r4, ka, hP, hA⟩ := id hR
  obtain ⟨pp, hok⟩ := am_cok he
  have hcw := am_cwok he
  unfold am_okC at hok
  simp only [Bool.and_eq_true, decide_eq_true_eq] at hok
  obtain ⟨⟨⟨hoy, hpn⟩, hini⟩, hkind⟩ := hok
  have hini := am_at_mem hini
  obtain ⟨⟨⟨hk1, hk2⟩, hk3⟩, hk4⟩ := hkind
  have hlk := am_at_mem hk1
  have hin := am_at_mem hk2
  have hCB := am_callB (R := R) (y := y) (d := d) hts hcw hoy hpn hini hlk (am_room hoy h7 hfr hlo)
  rw [hk4] at hCB
  have hsp : st = st.take n ++ (.ref b :: r) := by rw [← hst, List.take_append_drop]
  have hlen : ((st.take n).reverse.map (am_tr z xt)).length = n := by
    have h1 : (st.drop n).length = st.length - n := List.length_drop
    rw [hst] at h1
    simp only [List.length_cons] at h1
    rw [List.length_map, List.length_reverse, List.length_take]
    omega
  have hrun := va_runI (p := p) (l := l) (e := e) (R := R) (s := s) (m := m) (args := args) (below := below) (meth := meth) (c := c) (H := H) (locs := locs) (cells := ck.1) (slots := ck.2) (g := F0 m pc ls (st.map (am_tr z xt))) (As := (st.take n).reverse.map (am_tr z xt)) (rest := r.map (am_tr z xt)) (b := am_ad z xt b) ⟨hx, hb, hml, hown, hts⟩ hM ⟨hCB, hk3, hts _ (am_tbl_mem hin rfl)⟩ (am_pre (a := .ref b :: (st.take n).reverse) hzs hX hR hS) rfl hlen (hl.1.trans hn) (am_split hst) (lv_room (by rw [am_sumc]; exact h6)) hd ⟨by omega, by omega⟩
  exact am_back (y' := y') (k := k) (a0 := .ref (am_ad z xt b) :: (st.take n).reverse.map (am_tr z xt)) hrun hS hl hn hk (by show s.heap.size + (ck.1 + am_mc y') = z + (μ.1.1 + am_mc y'); omega)
end AM6
