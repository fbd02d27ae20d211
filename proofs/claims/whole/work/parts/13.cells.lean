section AM4
variable {p : Program} {l : Launch} {e : Env} {R : Room} {s : State} {m : MethodId} {args : Array Value} {below : List Frame} {meth : Method} {c : Code} {Q : State → Prop} {z : Nat} {xt : Nat → Nat} {D : va_G} {L : Nat} {xs : Nat → Int32} {y : mI} {d : Nat} {K : am_K}
variable {pc : Nat} {V : am_L} {μ : am_M} {ck : Nat × Nat} {r : List Value}
theorem sn_alen {a : Nat} (G : am_Gm p l e R s m args below meth c z xt L xs y d) (hd : decode (am_by y) pc = .ok (.arraylength, 1)) (ht : (μ.1.2 a).1 < 100) (h : (am_SD p l e R s m args below meth c Q z xt D L xs y (pc + 1, V, .int (Int32.ofNat (μ.1.2 a).2) :: r, μ, ck))) : (am_SD p l e R s m args below meth c Q z xt D L xs y (pc, V, .ref a :: r, μ, ck)) := by
  intro H locs ls hR hS hl hn hz
  replace hR : am_R z xt D L xs μ s H := hR
  replace hz : s.heap.size + ck.1 = z + μ.1.1 := hz
  obtain ⟨hx, hb, hml, hown, hts, hnm, hzs, hX, hfr, hlo, hmc, hms⟩ := G
  obtain ⟨r1, r2, r3, r4, ka, hP, hA⟩ := id hR
  have k := h H locs ls hR hS hl hn hz
  by_cases ha : 8 ≤ a
  · have hlt : a < 8 + μ.1.1 := am_lt r2 (by omega)
    have he := am_ws_get (z := z) (xt := xt) (ka := ka) ha hlt
    rw [am_arr (by omega)] at he
    exact va_alen hx hb (am_K1 r4 (hA a ha ht)) hP (a - 8) 0 he rfl rfl hd k
  · obtain ⟨s1, s2, s30, s31, s32, s33, s34, s35, s36, s37⟩ := r2
    obtain ⟨⟨x1, x2⟩, ⟨x3, x4⟩, x5, x6, x7, x8, x9, x10, x11, ⟨x12, x13⟩, x14, x15⟩ := hX
    have hcs : a = 0 ∨ a = 1 ∨ a = 2 ∨ a = 3 ∨ a = 4 ∨ a = 5 ∨ a = 6 ∨ a = 7 := by omega
    rcases hcs with rfl | rfl | rfl | rfl | rfl | rfl | rfl | rfl
    · rw [s30] at k
      exact va_slen hx hb x12 (Nat.lt_of_lt_of_le x13 hzs) (Nat.not_le.mpr x13) hS hd k
    · rw [s31] at k
      exact va_tlen hx hb x2 hS rfl hd k
    · rw [s32] at k
      exact va_tlen hx hb x4 hS rfl hd k
    · rw [s33] at ht; exact absurd ht (by decide)
    · rw [s34] at k
      exact va_tlen hx hb x11 hS rfl hd k
    · omega
    · omega
    · omega
theorem am_sumc {z : Nat} {xt : Nat → Nat} (r : List Value) : ((r.map (am_tr z xt)).map fun v => v.category).sum = (r.map am_vc).sum := by
  rw [List.map_map]
  congr 1
  apply List.map_congr_left
  intro v _
  exact am_tr_cat z xt v
theorem am_ac_ok {own k : Nat} (h : am_isAC own k = true) : Cond.methodLink (am_cn own) k arraycopyName ∈ lw_tbl := by
  have hc : (own = 1 ∧ k = 34) ∨ (own = 3 ∧ k = 88) ∨ (own = 4 ∧ k = 98) ∨ (own = 8 ∧ k = 43) := by
    simp only [am_isAC, Bool.or_eq_true, Bool.and_eq_true, beq_iff_eq] at h
    omega
  rcases hc with ⟨rfl, rfl⟩ | ⟨rfl, rfl⟩ | ⟨rfl, rfl⟩ | ⟨rfl, rfl⟩ <;> decide +kernel
theorem am_ac1 : Cond.native arraycopyName ∈ lw_tbl ∧ goodWord (Cond.native arraycopyName) = true := by decide +kernel
theorem am_ac2 : Cond.static arraycopyName ∈ lw_tbl ∧ goodWord (Cond.static arraycopyName) = true := by decide +kernel
theorem am_ac3 : Cond.initialized "java/lang/System" ∈ lw_tbl ∧ goodWord (Cond.initialized "java/lang/System") = true := by decide +kernel
theorem am_oi_ok {own k : Nat} (h : am_isOI own k = true) : Cond.methodLink (am_cn own) k objectInit ∈ lw_tbl := by
  have hc : (own < 12 ∧ k = 3) ∨ (own = 12 ∧ k = 1) := by
    simp only [am_isOI, Bool.or_eq_true, Bool.and_eq_true, beq_iff_eq, decide_eq_true_eq] at h
    omega
  rcases hc with ⟨h1, rfl⟩ | ⟨rfl, rfl⟩
  · have hall : ∀ q, q < 12 → Cond.methodLink (am_cn q) 3 objectInit ∈ lw_tbl := by decide +kernel
    exact hall own h1
  · decide +kernel
theorem am_oi1 : Cond.instanceMethod objectInit ∈ lw_tbl ∧ goodWord (Cond.instanceMethod objectInit) = true := by decide +kernel
theorem am_oi2 : Cond.code objectInit ⟨#[0xb1]⟩ 1 none ∈ lw_tbl ∧ goodWord (Cond.code objectInit ⟨#[0xb1]⟩ 1 none) = true := by decide +kernel
theorem sn_copy {k a b : Nat} {sp dp n : Int32} (G : am_Gm p l e R s m args below meth c z xt L xs y d) (hd : decode (am_by y) pc = .ok (.invokestatic k, 3)) (hk : am_isAC (am_own y) k = true) (ha : 8 ≤ a) (hb8 : 8 ≤ b) (ht : (μ.1.2 a).1 = 0) (htb : (μ.1.2 b).1 = 0) (h1 : ¬ sp < 0) (h2 : ¬ dp < 0) (h3 : ¬ n < 0) (h4 : sp.toNatClampNeg + n.toNatClampNeg ≤ (μ.1.2 b).2) (h5 : dp.toNatClampNeg + n.toNatClampNeg ≤ (μ.1.2 a).2) (h6 : (r.map am_vc).sum ≤ 8) (h7 : 1 ≤ d) (h : (am_SD p l e R s m args below meth c Q z xt D L xs y (pc + 3, V, r, (μ.1, am_rw μ.2.1 a (va_cpy (μ.2.1 b) (μ.2.1 a) sp.toNatClampNeg dp.toNatClampNeg n.toNatClampNeg), μ.2.2.1, μ.2.2.2), ck))) : (am_SD p l e R s m args below meth c Q z xt D L xs y (pc, V, .int n :: .int dp :: .ref a :: .int sp :: .ref b :: r, μ, ck)) := by
  intro H locs ls hR hS hl hn hz
  replace hR : am_R z xt D L xs μ s H := hR
  replace hz : s.heap.size + ck.1 = z + μ.1.1 := hz
  obtain ⟨hx, hb, hml, hown, hts, hnm, hzs, hX, hfr, hlo, hmc, hms⟩ := G
  obtain ⟨r1, r2, r3, r4, ka, hP, hA⟩ := id hR
  have hlt : a < 8 + μ.1.1 := am_lt r2 (by omega)
  have he := am_ws_get (z := z) (xt := xt) (ka := ka) ha hlt
  rw [am_arr (by omega)] at he
  have har : am_ar z xt μ a = .inl (μ.2.1 a) := by simp [am_ar, ht]
  rw [har] at he
  have hKK := am_K1 r4 (hA a ha (by omega))
  rw [ht] at hKK
  have hltb : b < 8 + μ.1.1 := am_lt r2 (by omega)
  have heb := am_ws_get (z := z) (xt := xt) (ka := ka) hb8 hltb
  rw [am_arr (by omega)] at heb
  have harb : am_ar z xt μ b = .inl (μ.2.1 b) := by simp [am_ar, htb]
  rw [harb] at heb
  have hKb := hA b hb8 (by omega)
  rw [htb] at hKb
  have hKa := hA a ha (by omega)
  rw [ht] at hKa
  have hK2 : va_K D vwCl [(ka b, .int), (ka a, .int)] s := (am_K1 r4 hKb).app (am_K1 r4 hKa)
  have ha0 : ¬ 0 = a := by omega
  have hce : am_ce z xt ka (μ.1, am_rw μ.2.1 a (va_cpy (μ.2.1 b) (μ.2.1 a) sp.toNatClampNeg dp.toNatClampNeg n.toNatClampNeg), μ.2.2.1, μ.2.2.2) a = .inl (ka a, (μ.1.2 a).2, .inl (va_cpy (μ.2.1 b) (μ.2.1 a) sp.toNatClampNeg dp.toNatClampNeg n.toNatClampNeg)) := by
    rw [am_arr (μ := (μ.1, am_rw μ.2.1 a (va_cpy (μ.2.1 b) (μ.2.1 a) sp.toNatClampNeg dp.toNatClampNeg n.toNatClampNeg), μ.2.2.1, μ.2.2.2)) (by show (μ.1.2 a).1 < 100; omega)]
    congr 3
    simp [am_ar, ht, am_rw]
  have ho : ∀ b', b' ≠ a → am_ce z xt ka (μ.1, am_rw μ.2.1 a (va_cpy (μ.2.1 b) (μ.2.1 a) sp.toNatClampNeg dp.toNatClampNeg n.toNatClampNeg), μ.2.2.1, μ.2.2.2) b' = am_ce z xt ka μ b' := fun b' hb' => am_ce_congr rfl (by simp [am_rw, hb']) rfl rfl
  have hnw : nativeFrameWords "java/lang/System" "arraycopy" 5 = 7 := by decide +kernel
  refine va_copyi hx hb (by rw [hml, hl.1, hn]) hown (hts _ (am_tbl_mem (am_ac_ok hk) rfl)) (hts _ (am_tbl_mem am_ac1.1 am_ac1.2)) (hts _ (am_tbl_mem am_ac2.1 am_ac2.2)) (hts _ (am_tbl_mem am_ac3.1 am_ac3.2)) hK2 hP (am_ws_D z xt ka μ) hS (b - 8) (a - 8) 0 1 heb he rfl rfl rfl h1 h2 h3 h4 h5 (fun _ _ => rfl) (by omega) (by rw [am_sumc, hnw]; omega) hd (fun H1 locs1 hP1 hD1 hS1 => ?_)
  have hP1 : va_P D vwCl ((am_ws z xt ka μ).set (a - 8) (am_ad z xt a, .inl (ka a, (μ.1.2 a).2, .inl (va_cpy (μ.2.1 b) (μ.2.1 a) sp.toNatClampNeg dp.toNatClampNeg n.toNatClampNeg)))) H1 := hP1
  rw [← hce, am_ws_set ha hlt ho rfl] at hP1
  exact am_Wsz fun hsz => h H1 locs1 ls (am_R.set (μ := μ) (μ' := (μ.1, am_rw μ.2.1 a (va_cpy (μ.2.1 b) (μ.2.1 a) sp.toNatClampNeg dp.toNatClampNeg n.toNatClampNeg), μ.2.2.1, μ.2.2.2)) rfl (by simp [am_rw, ha0]) r2 r3 r4 hA hP1 (am_size (μ := (μ.1, am_rw μ.2.1 a (va_cpy (μ.2.1 b) (μ.2.1 a) sp.toNatClampNeg dp.toNatClampNeg n.toNatClampNeg), μ.2.2.1, μ.2.2.2)) hP1 hS1.1 hzs hsz hz)) hS1 hl hn hz
theorem sn_objInit {k a : Nat} (G : am_Gm p l e R s m args below meth c z xt L xs y d) (hd : decode (am_by y) pc = .ok (.invokespecial k, 3)) (hk : am_isOI (am_own y) k = true) (h6 : (r.map am_vc).sum ≤ 8) (h7 : 1 ≤ d) (h : (am_SD p l e R s m args below meth c Q z xt D L xs y (pc + 3, V, r, μ, ck))) : (am_SD p l e R s m args below meth c Q z xt D L xs y (pc, V, .ref a :: r, μ, ck)) := by
  intro H locs ls hR hS hl hn hz
  replace hR : am_R z xt D L xs μ s H := hR
  replace hz : s.heap.size + ck.1 = z + μ.1.1 := hz
  obtain ⟨hx, hb, hml, hown, hts, hnm, hzs, hX, hfr, hlo, hmc, hms⟩ := G
  obtain ⟨r1, r2, r3, r4, ka, hP, hA⟩ := id hR
  refine W.objInit hx hb hown (hts _ (am_tbl_mem (am_oi_ok hk) rfl)) (hts _ (am_tbl_mem am_oi1.1 am_oi1.2)) (hts _ (am_tbl_mem am_oi2.1 am_oi2.2)) rfl (by rw [hml]; exact hl.1.trans hn) rfl hd (by omega) ?_ (h H locs ls hR hS hl hn hz)
  show 2 * 0 + ((r.map (am_tr z xt)).map fun v => v.category).sum + 12 ≤ _
  rw [am_sumc]
  omega
theorem am_mk_sh {L : Nat} {μ : am_M} {t n : Nat} (h : am_sh L μ) (ht : am_okt t) : am_sh L (am_mk μ t n) := by
  obtain ⟨h1, h2, h3, h4, h5, h6, h7, h8, h9, h10⟩ := h
  have hne : ∀ b, b ≠ 8 + μ.1.1 → (am_mk μ t n).1.2 b = μ.1.2 b := fun b hb => if_neg hb
  have heq : (am_mk μ t n).1.2 (8 + μ.1.1) = (t, n) := if_pos rfl
  refine ⟨fun b hb => ?_, fun b hb hb2 => ?_, ?_, ?_, ?_, ?_, ?_, ?_, ?_, ?_⟩
  · have hb : 8 + (μ.1.1 + 1) ≤ b := hb
    rw [hne b (by omega)]
    exact h1 b (by omega)
  · have hb2 : b < 8 + (μ.1.1 + 1) := hb2
    by_cases e : b = 8 + μ.1.1
    · rw [e, heq]; exact ht
    · rw [hne b e]; exact h2 b hb (by omega)
  all_goals (rw [hne _ (by omega)]; assumption)
theorem am_ws_mk {z : Nat} {xt : Nat → Nat} {ka : Nat → ClassId} {μ : am_M} {t n : Nat} (cA : ClassId) : am_ws z xt (va_up ka (8 + μ.1.1) cA) (am_mk μ t n) = am_ws z xt ka μ ++ [(z + μ.1.1, am_ce z xt (va_up ka (8 + μ.1.1) cA) (am_mk μ t n) (8 + μ.1.1))] := by
  have hs : (am_mk μ t n).1.1 = μ.1.1 + 1 := rfl
  unfold am_ws
  rw [hs, List.range_succ, List.map_append]
  congr 1
  apply List.map_congr_left
  intro i hi
  have hi := List.mem_range.mp hi
  have hne : ¬ 8 + i = 8 + μ.1.1 := by omega
  congr 1
  simp only [am_ce, am_ar, am_fv, am_mk, va_up, am_rw, hne, if_false]
theorem am_R.mk {z : Nat} {xt : Nat → Nat} {D : va_G} {L : Nat} {xs : Nat → Int32} {μ : am_M} {U : State} {H H1 : Heap} {t n : Nat} (h : am_R z xt D L xs μ U H) (ht : am_okt t) (cA : ClassId) (hz1 : H1.size = z + μ.1.1 + 1) (ho : ∀ q : Nat, q < z + μ.1.1 → H1[q]? = H[q]?) (hc : ∀ ka, va_at D vwCl (z + μ.1.1, am_ce z xt (va_up ka (8 + μ.1.1) cA) (am_mk μ t n) (8 + μ.1.1)) H1) (hA1 : t < 100 → ArrOfT U cA (am_ty t) ∧ va_RA U cA (am_ty t)) : am_R z xt D L xs (am_mk μ t n) U H1 := by
  obtain ⟨r1, r2, r3, r4, ka, hP, hA⟩ := h
  have h0 : ¬ 0 = 8 + μ.1.1 := by omega
  refine ⟨by rw [hz1]; show _ = z + (μ.1.1 + 1); omega, am_mk_sh r2 ht, ?_, r4, va_up ka (8 + μ.1.1) cA, ?_, ?_⟩
  · show am_rw μ.2.1 (8 + μ.1.1) (fun _ => 0) 0 = xs
    unfold am_rw
    rw [if_neg h0]
    exact r3
  · rw [am_ws_mk]
    refine (hP.kept (fun k x hx => ho x.1 (by rw [← r1]; exact (hP k x hx).lt))).app (fun k x hx => ?_)
    have hk : k < 1 := (List.getElem?_eq_some_iff.mp hx).1
    rw [show k = 0 by omega] at hx
    cases hx
    exact hc ka
  · intro b hb htb
    by_cases e : b = 8 + μ.1.1
    · subst e
      have e1 : ((am_mk μ t n).1.2 (8 + μ.1.1)).1 = t := by show (va_up μ.1.2 (8 + μ.1.1) (t, n) (8 + μ.1.1)).1 = t; unfold va_up; rw [if_pos rfl]
      rw [e1] at htb ⊢
      have e2 : va_up ka (8 + μ.1.1) cA (8 + μ.1.1) = cA := if_pos rfl
      rw [e2]
      exact hA1 htb
    · have e1 : (am_mk μ t n).1.2 b = μ.1.2 b := if_neg e
      rw [e1] at htb ⊢
      have e2 : va_up ka (8 + μ.1.1) cA b = ka b := if_neg e
      rw [e2]
      exact hA b hb htb
theorem am_S_new {A : Nat → Prop} {H0 H H1 : Heap} {locs : List Loc} (h : va_S A H0 H locs) (hz : H.size ≤ H1.size) (ho : ∀ q : Nat, q < H.size → H1[q]? = H[q]?) : va_S A H0 H1 locs := ⟨Nat.le_trans h.1 hz, fun q h1 h2 => (ho q (Nat.lt_of_lt_of_le h1 h.1)).trans (h.2.1 q h1 h2), h.2.2⟩
theorem am_arrc : Cond.arrayClass .int ∈ lw_tbl ∧ Cond.arrayClass .long ∈ lw_tbl ∧ Cond.arrayClass .byte ∈ lw_tbl ∧ Cond.arrayClass .boolean ∈ lw_tbl := by decide +kernel
theorem sn_newarray {t : ArrayType} {n : Int32} (G : am_Gm p l e R s m args below meth c z xt L xs y d) (hd : decode (am_by y) pc = .ok (.newarray t, 2)) (ht : am_at t < 4) (h1 : ¬ n < 0) (h2 : n.toNatClampNeg ≤ 100000) (h3 : ck.1 + 1 ≤ am_mc y) (h4 : ck.2 + n.toNatClampNeg ≤ am_ms y) (h : (am_SD p l e R s m args below meth c Q z xt D L xs y (pc + 2, V, .ref (8 + μ.1.1) :: r, am_mk μ (am_at t) n.toNatClampNeg, ck.1 + 1, ck.2 + n.toNatClampNeg))) : (am_SD p l e R s m args below meth c Q z xt D L xs y (pc, V, .int n :: r, μ, ck)) := by
  intro H locs ls hR hS hl hn hz
  replace hR : am_R z xt D L xs μ s H := hR
  replace hz : s.heap.size + ck.1 = z + μ.1.1 := hz
  obtain ⟨hx, hb, hml, hown, hts, hnm, hzs, hX, hfr, hlo, hmc, hms⟩ := G
  obtain ⟨r1, r2, r3, r4, ka, hP, hA⟩ := id hR
  have hao : newarray.typeOf t = am_ty (am_at t) ∧ Cond.arrayClass (newarray.typeOf t) ∈ lw_tbl ∧ componentBytes (newarray.typeOf t) ≤ 8 := by
    cases t <;> first | exact ⟨rfl, am_arrc.1, by decide⟩ | exact ⟨rfl, am_arrc.2.1, by decide⟩ | exact ⟨rfl, am_arrc.2.2.1, by decide⟩ | exact ⟨rfl, am_arrc.2.2.2, by decide⟩ | exact absurd ht (by decide)
  obtain ⟨hty, hac, hcb⟩ := hao
  have hbytes : n.toNatClampNeg * componentBytes (newarray.typeOf t) ≤ 536870912 := Nat.le_trans (Nat.mul_le_mul h2 hcb) (by decide)
  refine va_newaK hx hb (hts _ (am_tbl_mem hac rfl)) rfl hd rfl h1 rfl hbytes (by show ck.1 + 1 ≤ _; omega) (by show ck.2 + _ ≤ _; omega) (h := z + μ.1.1) r1 (fun H1 cA e1 z1 o1 hAr hNm => ?_)
  have hR1 : am_R z xt D L xs (am_mk μ (am_at t) n.toNatClampNeg) s H1 := by
    refine am_R.mk hR (Or.inl ht) cA z1 o1 (fun ka => ?_) (fun _ => ?_)
    · have ec : am_ce z xt (va_up ka (8 + μ.1.1) cA) (am_mk μ (am_at t) n.toNatClampNeg) (8 + μ.1.1) = .inl (cA, n.toNatClampNeg, if am_at t = 1 then .inr (.inl (fun _ => 0)) else .inl (fun _ => 0)) := by
        have e1 : (am_mk μ (am_at t) n.toNatClampNeg).1.2 (8 + μ.1.1) = (am_at t, n.toNatClampNeg) := if_pos rfl
        unfold am_ce am_ar
        rw [e1, if_neg (by show ¬ 100 ≤ am_at t; omega)]
        have e2 : va_up ka (8 + μ.1.1) cA (8 + μ.1.1) = cA := if_pos rfl
        rw [e2]
        by_cases h10 : am_at t = 1
        · simp [h10, am_mk, am_rw]
        · have h11 : ¬ 10 ≤ am_at t := by omega
          simp [h10, h11, am_mk, am_rw]
      rw [ec]
      show H1[z + μ.1.1]? = some (vp_cell cA _)
      rw [e1]
      cases t <;> first | rfl | exact absurd ht (by decide)
    · rw [← hty]
      exact ⟨hAr, by cases t <;> exact hNm⟩
  have k := h H1 locs ls hR1 (am_S_new hS (by omega) (fun q hq => o1 q (by omega))) hl hn (by show s.heap.size + (ck.1 + 1) = z + (μ.1.1 + 1); omega)
  have ea : am_ad z xt (8 + μ.1.1) = z + μ.1.1 := by rw [am_ad_ge (by omega)]; omega
  have k' : W p l e R s m args below meth c H1 locs (ck.1 + 1) (ck.2 + n.toNatClampNeg) Q (F0 m (pc + 2) ls (.ref (am_ad z xt (8 + μ.1.1)) :: r.map (am_tr z xt))) := k
  rw [ea] at k'
  exact k'
theorem am_arro : ∀ ci ∈ ([1, 6, 8, 9] : List Nat), Cond.arrayOver (.object (am_cn ci)) ∈ lw_tbl := by decide +kernel
theorem sn_anewarray {q ci : Nat} {n : Int32} (G : am_Gm p l e R s m args below meth c z xt L xs y d) (hd : decode (am_by y) pc = .ok (.anewarray q, 3)) (hq : (am_nws (am_own y)).lookup q = some ci) (hci : ci ∈ ([1, 6, 8, 9] : List Nat)) (h1 : ¬ n < 0) (h2 : n.toNatClampNeg ≤ 100000) (h3 : ck.1 + 1 ≤ am_mc y) (h4 : ck.2 + n.toNatClampNeg ≤ am_ms y) (h : (am_SD p l e R s m args below meth c Q z xt D L xs y (pc + 3, V, .ref (8 + μ.1.1) :: r, am_mk μ (10 + ci) n.toNatClampNeg, ck.1 + 1, ck.2 + n.toNatClampNeg))) : (am_SD p l e R s m args below meth c Q z xt D L xs y (pc, V, .int n :: r, μ, ck)) := by
  intro H locs ls hR hS hl hn hz
  replace hR : am_R z xt D L xs μ s H := hR
  replace hz : s.heap.size + ck.1 = z + μ.1.1 := hz
  obtain ⟨hx, hb, hml, hown, hts, hnm, hzs, hX, hfr, hlo, hmc, hms⟩ := G
  obtain ⟨r1, r2, r3, r4, ka, hP, hA⟩ := id hR
  have hok := am_nok hq
  unfold am_okN at hok
  simp only [Bool.and_eq_true, decide_eq_true_eq] at hok
  have hov : va_AO (am_cn ci) s := hX.2.2.2.2.2.2.2.2.2.2.2 _ (am_arro ci hci)
  refine W.anew hx hb hown (hts _ (am_tbl_mem hok.2 rfl)) (va_AO.use hov) rfl hd rfl h1 (by omega) (by show ck.1 + 1 ≤ _; omega) (by show ck.2 + _ ≤ _; omega) fun cA kA comp f1 f2 f3 f4 => ?_
  generalize hH1 : H.push ({ cls := cA, slots := Array.replicate n.toNatClampNeg .null, vm := .none } : Cell) = H1
  have z1 : H1.size = H.size + 1 := by rw [← hH1, Array.size_push]
  have e1 : H1[H.size]? = some (arrV cA n.toNatClampNeg (fun _ => .null)) := by rw [← hH1, Array.getElem?_push_size, ← arrV_new]
  have o1 : ∀ q : Nat, q < H.size → H1[q]? = H[q]? := fun q hq => by rw [← hH1, Array.getElem?_push, if_neg (Nat.ne_of_lt hq)]
  have hAr : ArrOfT s cA (.object (am_cn ci)) := fun N z => ⟨(fun k h => by cases h), kA, f2, comp, f3⟩
  have hty : am_ty (10 + ci) = .object (am_cn ci) := by
    unfold am_ty
    rw [if_neg (by omega), if_neg (by omega), if_neg (by omega), if_neg (by omega), Nat.add_sub_cancel_left]
  have hR1 : am_R z xt D L xs (am_mk μ (10 + ci) n.toNatClampNeg) s H1 := by
    refine am_R.mk hR (Or.inr (Or.inl ⟨by omega, by omega⟩)) cA (by omega) (fun q hq => o1 q (by omega)) (fun ka => ?_) (fun _ => ?_)
    · have ec : am_ce z xt (va_up ka (8 + μ.1.1) cA) (am_mk μ (10 + ci) n.toNatClampNeg) (8 + μ.1.1) = .inl (cA, n.toNatClampNeg, .inr (.inr (.inr (.inr (fun _ => none))))) := by
        have e1 : (am_mk μ (10 + ci) n.toNatClampNeg).1.2 (8 + μ.1.1) = (10 + ci, n.toNatClampNeg) := if_pos rfl
        unfold am_ce am_ar
        rw [e1, if_neg (by show ¬ 100 ≤ 10 + ci; omega), if_neg (by show ¬ 10 + ci = 1; omega), if_pos (by show 10 ≤ 10 + ci; omega)]
        have e2 : va_up ka (8 + μ.1.1) cA (8 + μ.1.1) = cA := if_pos rfl
        rw [e2]
        simp [am_mk, am_rw]
      rw [ec, ← r1]
      show H1[H.size]? = some (vp_cell cA _)
      rw [e1, vp_cell_q]
      rfl
    · rw [hty]
      exact ⟨hAr, kA, comp, f2, f3, f4, f1⟩
  have k := h H1 locs ls hR1 (am_S_new hS (by omega) o1) hl hn (by show s.heap.size + (ck.1 + 1) = z + (μ.1.1 + 1); omega)
  have ea : am_ad z xt (8 + μ.1.1) = z + μ.1.1 := by rw [am_ad_ge (by omega)]; omega
  have k' : W p l e R s m args below meth c H1 locs (ck.1 + 1) (ck.2 + n.toNatClampNeg) Q (F0 m (pc + 3) ls (.ref (am_ad z xt (8 + μ.1.1)) :: r.map (am_tr z xt))) := k
  rw [ea, ← r1] at k'
  exact k'
theorem sn_new {q ci : Nat} (G : am_Gm p l e R s m args below meth c z xt L xs y d) (hd : decode (am_by y) pc = .ok (.new q, 3)) (hq : (am_nws (am_own y)).lookup q = some ci) (hci : ci < 13) (h3 : ck.1 + 1 ≤ am_mc y) (h4 : ck.2 + am_nf ci ≤ am_ms y) (h : (am_SD p l e R s m args below meth c Q z xt D L xs y (pc + 3, V, .ref (8 + μ.1.1) :: r, am_mk μ (100 + ci) 0, ck.1 + 1, ck.2 + am_nf ci))) : (am_SD p l e R s m args below meth c Q z xt D L xs y (pc, V, r, μ, ck)) := by
  intro H locs ls hR hS hl hn hz
  replace hR : am_R z xt D L xs μ s H := hR
  replace hz : s.heap.size + ck.1 = z + μ.1.1 := hz
  obtain ⟨hx, hb, hml, hown, hts, hnm, hzs, hX, hfr, hlo, hmc, hms⟩ := G
  obtain ⟨r1, r2, r3, r4, ka, hP, hA⟩ := id hR
  have hok := am_nok hq
  unfold am_okN at hok
  simp only [Bool.and_eq_true, decide_eq_true_eq] at hok
  obtain ⟨T, hc, hin, hty, hdecl, hnms, hins, hini⟩ := am_cls_ok hci
  have hKn := r4.1 ci _ hc
  refine W.newcK hx hb hown (hts _ (am_tbl_mem hok.2 rfl)) (hts _ (am_tbl_mem hins rfl)) (hts _ (am_tbl_mem hini rfl)) rfl hd (by show ck.1 + 1 ≤ _; omega) (by show ck.2 + _ ≤ _; omega) hKn.2.1 (h := z + μ.1.1) r1 fun H1 kC hkC e1 z1 o1 => ?_
  have hR1 : am_R z xt D L xs (am_mk μ (100 + ci) 0) s H1 := by
    refine am_R.mk hR (Or.inr (Or.inr ⟨by omega, by omega⟩)) 0 z1 o1 (fun ka => ?_) (fun q => absurd q (by omega))
    have e3 : (am_mk μ (100 + ci) 0).1.2 (8 + μ.1.1) = (100 + ci, 0) := if_pos rfl
    rw [am_obj (ci := ci) (by rw [e3])]
    refine ⟨_, hc, (u_born (am_tyOf ci) hts hin hKn hkC e1 hty).to (fun j hj => ?_)⟩
    have hj : j < am_nf ci := hj
    have h16 : ¬ ci = 16 := by omega
    simp only [vp_V, List.getD_eq_getElem?_getD, List.getElem?_map, List.getElem?_range hj, Option.map_some, Option.getD_some]
    have hI : (am_mk μ (100 + ci) 0).2.1 (8 + μ.1.1) j = 0 := by show am_rw μ.2.1 (8 + μ.1.1) (fun _ => 0) (8 + μ.1.1) j = 0; unfold am_rw; rw [if_pos rfl]
    have hRr : (am_mk μ (100 + ci) 0).2.2.2 (8 + μ.1.1) j = none := by show am_rw μ.2.2.2 (8 + μ.1.1) (fun _ => none) (8 + μ.1.1) j = none; unfold am_rw; rw [if_pos rfl]
    unfold am_fv
    rw [if_neg h16, hI, hRr]
    have hallt : ∀ ci, ci < 13 → ∀ j, j < am_nf ci → defaultValue (am_tyOf ci j) = if am_isref (am_tyOf ci j) = true then .null else .int 0 := by decide +kernel
    rw [hallt ci hci j hj]
    split <;> rfl
  have k := h H1 locs ls hR1 (am_S_new hS (by omega) (fun q hq => o1 q (by omega))) hl hn (by show s.heap.size + (ck.1 + 1) = z + (μ.1.1 + 1); omega)
  have ea : am_ad z xt (8 + μ.1.1) = z + μ.1.1 := by rw [am_ad_ge (by omega)]; omega
  have k' : W p l e R s m args below meth c H1 locs (ck.1 + 1) (ck.2 + am_nf ci) Q (F0 m (pc + 3) ls (.ref (am_ad z xt (8 + μ.1.1)) :: r.map (am_tr z xt))) := k
  rw [ea] at k'
  exact k'
end AM4
