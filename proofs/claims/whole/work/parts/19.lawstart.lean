def mL_law : mI := (13, yL_law, cL_law, 4, some .boolean, 272, 24804)
def am_sh0 (L : Nat) (b : Nat) : Nat × Nat := match b with
  | 0 => (0, L)
  | 1 => (0, 8)
  | 2 => (0, 8)
  | 3 => (116, 0)
  | 4 => (2, 75)
  | _ => (999, 0)
def am_m0 (L : Nat) (xs : Nat → Int32) : am_M := ((0, am_sh0 L), (fun a j => if a = 0 then xs j else 0), (fun _ _ => 0), (fun _ _ => none))
def am_KL : am_K := fun v _ => v = some (.int 1)
theorem am_el1 : ∀ j, j < 8 → Cond.eq (.elem (.static "TownsUnderSail" "DX" "[I") (.int (Int32.ofNat j))) (.int (am_dx j)) ∈ flatC (Jvm.Cond.and given_1 narrow_1) := by decide +kernel
theorem am_el2 : ∀ j, j < 8 → Cond.eq (.elem (.static "TownsUnderSail" "DY" "[I") (.int (Int32.ofNat j))) (.int (am_dy j)) ∈ flatC (Jvm.Cond.and given_1 narrow_1) := by decide +kernel
theorem am_el3 : ∀ j, j < 75 → Cond.eq (.elem (.field (.string "TownsUnderSail$Tape" 54) "java/lang/String" "value" "[B") (.int (Int32.ofNat j))) (.int (am_wb j)) ∈ flatC (Jvm.Cond.and given_1 narrow_1) := by decide +kernel
theorem am_lawX {p : Program} {s : State} {m : MethodId} {meth : Method} {c : Code} {b L : Nat} {xs : Nat → Int32} (C0 : lw_At p s m meth c b L xs) : ∃ xt : Nat → Nat, xt 0 = b ∧ am_X s.heap.size xt L xs s s.heap := by
  obtain ⟨hx, hb, hr, hml, hown, hts, hX, hbl, hlocks, hgv⟩ := C0
  have hs := flat_of_before _ hgv
  have hA : ∀ a : Nat, a < s.heap.size → ¬ am_A s.heap.size a := fun a h => Nat.not_le.mpr h
  obtain ⟨t1, ht1, hT1⟩ := va_Tof (tm := .static "TownsUnderSail" "DX" "[I") (ty := .int) (N := 8) (f := fun j => .int (am_dx j)) (A := am_A s.heap.size) (by decide) (hs _ (by decide +kernel)) (va_eqt (z := 8) (hs _ (by decide +kernel))) (fun j hj => va_eqt (hs _ (am_el1 j hj))) hA
  obtain ⟨t2, ht2, hT2⟩ := va_Tof (tm := .static "TownsUnderSail" "DY" "[I") (ty := .int) (N := 8) (f := fun j => .int (am_dy j)) (A := am_A s.heap.size) (by decide) (hs _ (by decide +kernel)) (va_eqt (z := 8) (hs _ (by decide +kernel))) (fun j hj => va_eqt (hs _ (am_el2 j hj))) hA
  obtain ⟨t4, ht4, hT4⟩ := va_Tof (tm := .field (.string "TownsUnderSail$Tape" 54) "java/lang/String" "value" "[B") (ty := .byte) (N := 75) (f := fun j => .int (am_wb j)) (A := am_A s.heap.size) (by decide) (hs _ (by decide +kernel)) (va_eqt (z := 75) (hs _ (by decide +kernel))) (fun j hj => va_eqt (hs _ (am_el3 j hj))) hA
  have hZ1 := va_Zof (A := am_A s.heap.size) (hts (.laysStatic "TownsUnderSail" "DX" "[I") (by decide +kernel)) (hts (.initialized "TownsUnderSail") (by decide +kernel)) ht1 hA
  have hZ2 := va_Zof (A := am_A s.heap.size) (hts (.laysStatic "TownsUnderSail" "DY" "[I") (by decide +kernel)) (hts (.initialized "TownsUnderSail") (by decide +kernel)) ht2 hA
  have hZ3 := va_Zof (A := am_A s.heap.size) (hts (.laysStatic "java/lang/String" "COMPACT_STRINGS" "Z") (by decide +kernel)) (hts (.initialized "java/lang/String") (by decide +kernel)) (va_eqi (z := 1) (hs _ (by decide +kernel))) hA
  have hZ4 := va_Zqof (A := am_A s.heap.size) (hts (.laysStatic "jdk/internal/util/Preconditions" "SIOOBE_FORMATTER" "Ljava/util/function/BiFunction;") (by decide +kernel)) (hts (.initialized "jdk/internal/util/Preconditions") (by decide +kernel)) (hs _ (by decide +kernel)) hA
  have hex : (Cond.exactly (.string "TownsUnderSail$Tape" 54) "java/lang/String").before #[Value.ref b] s = true := hs _ (by decide +kernel)
  obtain ⟨t3, cc3, cA3, kA3, q1, q2, q3, q4, q5, q6, -⟩ := Cond.exactly_spec (args := #[Value.ref b]) (first := s) (o := none) (s := s) (idx := []) (t := .string "TownsUnderSail$Tape" 54) (cls := "java/lang/String") hex
  have hO := va_Oof (A := am_A s.heap.size) hex q1 hA
  have hF1 := vk_OFof (A := am_A s.heap.size) q1 ht4 hA
  have hF2 := vk_OFof (A := am_A s.heap.size) q1 (va_eqt (t := .field (.string "TownsUnderSail$Tape" 54) "java/lang/String" "coder" "B") (z := 0) (hs _ (by decide +kernel))) hA
  have hRR : vk_R "TownsUnderSail$Tape" 54 "sail furl when or and not x y way force hour thirst crust near tied village" t3 s := by
    have h1 := hts (.stringRef "TownsUnderSail$Tape" 54 "sail furl when or and not x y way force hour thirst crust near tied village") (by decide +kernel)
    exact vk_R.of h1 q1
  have hN : ∀ w ∈ lw_tbl, am_nest w = true → va_Nw w s := by
    intro w hw hn
    have q := hts w hw
    cases w <;> first | exact va_Nw.of rfl q | exact absurd hn Bool.false_ne_true
  have hAO : ∀ C, Cond.arrayOver (.object C) ∈ lw_tbl → va_AO C s := fun C h => va_AO.of (hts _ h)
  rcases hZ4 with hZ4 | ⟨t5, hZ4⟩
  · exact ⟨fun k => match k with | 0 => b | 1 => t1 | 2 => t2 | 3 => t3 | _ => t4, rfl, ⟨hZ1, hT1⟩, ⟨hZ2, hT2⟩, hZ3, Or.inl hZ4, hRR, hO, hF1, hF2, hT4, ⟨hX, hbl⟩, hN, hAO⟩
  · exact ⟨fun k => match k with | 0 => b | 1 => t1 | 2 => t2 | 3 => t3 | 4 => t4 | _ => t5, rfl, ⟨hZ1, hT1⟩, ⟨hZ2, hT2⟩, hZ3, Or.inr hZ4, hRR, hO, hF1, hF2, hT4, ⟨hX, hbl⟩, hN, hAO⟩
theorem am_lawK {args : Array Value} {s : State} (hts : ∀ w ∈ lw_tbl, w.before args s = true) : ∃ D : va_G, va_K D vwCl [] s := by
  have h0 : ∀ ci : Nat, ∃ q : ClassId × (Nat → Nat), ∀ r : vw_C, vwCl[ci]? = some r → u_Kn s r.1 r.2.1 r.2.2 q.1 q.2 := by
    intro ci
    by_cases hci : ci < 13
    · obtain ⟨T, hc, hin, hty, hdecl, hnms, hins, hini⟩ := am_cls_ok hci
      obtain ⟨cC, iS, hk⟩ := u_known (C := am_cn ci) (T := T) (N := am_nf ci) (n := am_nf ci) hts (fun w hw => (List.mem_filter.mp (hin w hw)).1) (hts _ hins)
      refine ⟨(cC, iS), fun r hr => ?_⟩
      rw [hc] at hr
      cases hr
      exact hk
    · refine ⟨(0, fun _ => 0), fun r hr => ?_⟩
      have hl : ci < vwCl.length := (List.getElem?_eq_some_iff.mp hr).1
      exact absurd hl (by simp [vwCl]; omega)
  obtain ⟨f, hf⟩ := Classical.axiomOfChoice h0
  exact ⟨(fun k => (f k).1, fun k => (f k).2), fun k q hq => hf k q hq, fun k q h => by simp at h⟩
set_option maxHeartbeats 4000000 in
/-- THE LAW out of the abstract machine -/
theorem am_law {p : Program} {e : Env} {s : State} {m : MethodId} {below : List Frame} {meth : Method} {c : Code} (l : Launch) {b L : Nat} {xs : Nat → Int32} (C0 : lw_At p s m meth c b L xs) (h : am_W 100 mL_law am_KL (0, [some (.ref 0), none, none, none], [], am_m0 L xs, 0, 0)) : W p l e room_1 s m #[Value.ref b] below meth c s.heap [] 0 0 (lw_Z below #[Value.ref b] s) (entryFrame m ([Value.ref b] : List Value).toArray 4) := by
  obtain ⟨xt, hxt, hX⟩ := am_lawX C0
  obtain ⟨hx, hb, hr, hml, hown, hts, hXs, hbl, hlocks, hgv⟩ := C0
  obtain ⟨D, hK⟩ := am_lawK hts
  have G : am_Gm p l e room_1 s m #[Value.ref b] below meth c s.heap.size xt L xs mL_law 100 := ⟨hx, hb, hml, hown, fun w hw => hts w (List.mem_filter.mp hw).1, fun q => absurd q (by decide), Nat.le_refl _, hX, by decide, by decide, by decide, by decide⟩
  have hret : am_Ret p l e room_1 s m #[Value.ref b] below meth c (lw_Z below #[Value.ref b] s) s.heap.size xt D L xs mL_law 100 am_KL := by
    intro i pc V st μ ck q hd hi hE hq hKq H locs ls hR hS hl hn hz
    cases i with
    | ireturn =>
      unfold am_i at hE
      dsimp only at hE
      split at hE
      · cases hE
        obtain ⟨h1, h2, h3⟩ := hq
        rename_i v
        have hv : v = 1 := by
          have hKq : some (Value.int v) = some (Value.int 1) := hKq
          cases hKq
          rfl
        subst hv
        have h2 : ck.1 = 272 := h2
        have h3 : ck.2 ≤ 24804 := h3
        refine va_forget (fun q hq => hS.2.2 q hq) ?_
        refine W.widen (k := 600000) (n := 7302250) (by show ck.1 ≤ 600000; omega) (by show ck.2 ≤ 7302250; omega) ?_
        exact lw_ret hx hb hr hlocks hd
      · cases hE
    | lreturn =>
      unfold am_i at hE
      dsimp only at hE
      split at hE
      · cases hE
        exact absurd hq.1 (by decide)
      · cases hE
    | areturn =>
      unfold am_i at hE
      dsimp only at hE
      split at hE
      · cases hE
        exact hq.1.elim
      · cases hE
        exact hq.1.elim
      · cases hE
    | return_ =>
      unfold am_i at hE
      dsimp only at hE
      split at hE
      · cases hE
        exact absurd hq.1 (by decide)
      · cases hE
    | _ => exact absurd hi Bool.false_ne_true
  have key := h (am_SD p l e room_1 s m #[Value.ref b] below meth c (lw_Z below #[Value.ref b] s) s.heap.size xt D L xs mL_law) (am_snd G (am_met l s.heap.size xt D L xs 100) hret)
  have hR : am_R s.heap.size xt D L xs (am_m0 L xs) s s.heap := by
    refine ⟨rfl, ⟨fun b hb => ?_, fun b h1 h2 => absurd h2 (by show ¬ b < 8 + 0; omega), rfl, rfl, rfl, rfl, rfl, rfl, rfl, rfl⟩, rfl, hK, fun _ => 0, fun k q hq => by simp [am_ws, am_m0] at hq, fun b hb ht => ?_⟩
    · have hb : 8 + 0 ≤ b := hb
      match b, hb with
      | b + 8, _ => rfl
    · match b, hb, ht with
      | b + 8, _, ht => exact absurd ht (by show ¬ 999 < 100; omega)
  have hadr : am_ad s.heap.size xt 0 = b := hxt
  have hen := am_en_lv s.heap.size xt (y := mL_law) (a := [.ref 0]) (by decide)
  rw [lg_entry_eq]
  have e1 : ([Value.ref 0] : List Value).map (am_tr s.heap.size xt) = [Value.ref b] := by
    show [Value.ref (am_ad s.heap.size xt 0)] = _
    rw [hadr]
  rw [e1] at hen
  exact key s.heap [] _ hR va_S.rf hen rfl rfl
