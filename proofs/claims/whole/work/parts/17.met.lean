section AM8
variable {p : Program} {l : Launch} {e : Env} {R : Room} {s : State} {m : MethodId} {args : Array Value} {below : List Frame} {meth : Method} {c : Code} {Q : State → Prop} {z : Nat} {xt : Nat → Nat} {D : va_G} {L : Nat} {xs : Nat → Int32} {y : mI} {d : Nat} {K : am_K}
theorem am_fl_len (z : Nat) (xt : Nat → Nat) : ∀ a : List Value, (lg_sl (a.map (am_tr z xt))).length = (am_fl a).length := by
  intro a
  induction a with
  | nil => rfl
  | cons v t ih =>
    have hc := am_tr_cat z xt v
    by_cases h : v.category = 2
    · have h2 : am_vc v = 2 := h
      simp only [lg_sl, List.map_cons, List.flatMap_cons, hc, h, if_true, am_fl, h2] at ih ⊢
      simp only [List.length_append, List.length_cons, List.length_nil, ← ih, lg_sl]
      omega
    · have h2 : ¬ am_vc v = 2 := h
      simp only [lg_sl, List.map_cons, List.flatMap_cons, hc, h, if_false, am_fl, h2] at ih ⊢
      simp only [List.length_append, List.length_cons, List.length_nil, ← ih, lg_sl]
      omega
theorem am_fl_get (z : Nat) (xt : Nat → Nat) : ∀ (a : List Value) (i : Nat) (v : Value), (am_fl a)[i]? = some (some v) → (lg_sl (a.map (am_tr z xt)))[i]? = some (.val (am_tr z xt v)) := by
  intro a
  induction a with
  | nil => intro i v h; simp [am_fl] at h
  | cons w t ih =>
    intro i v h
    have hc := am_tr_cat z xt w
    by_cases h2 : am_vc w = 2
    · have h3 : w.category = 2 := h2
      have e1 : lg_sl ((w :: t).map (am_tr z xt)) = .val (am_tr z xt w) :: .second :: lg_sl (t.map (am_tr z xt)) := by
        simp only [lg_sl, List.map_cons, List.flatMap_cons, hc, h3, if_true]
        rfl
      have e2 : am_fl (w :: t) = some w :: none :: am_fl t := by simp only [am_fl, h2, if_true]
      rw [e1]
      rw [e2] at h
      match i, h with
      | 0, h => cases h; rfl
      | 1, h => simp at h
      | i + 2, h => exact ih i v h
    · have h3 : ¬ w.category = 2 := h2
      have e1 : lg_sl ((w :: t).map (am_tr z xt)) = .val (am_tr z xt w) :: lg_sl (t.map (am_tr z xt)) := by
        simp only [lg_sl, List.map_cons, List.flatMap_cons, hc, h3, if_false]
        rfl
      have e2 : am_fl (w :: t) = some w :: am_fl t := by simp only [am_fl, h2, if_false]
      rw [e1]
      rw [e2] at h
      match i, h with
      | 0, h => cases h; rfl
      | i + 1, h => exact ih i v h
theorem am_en_len {y : mI} {a : List Value} (h : (am_fl a).length ≤ am_ml y) : (am_en y a).length = am_ml y := by
  unfold am_en
  rw [List.length_append, List.length_replicate]
  omega
theorem am_en_lv (z : Nat) (xt : Nat → Nat) {y : mI} {a : List Value} (h : (am_fl a).length ≤ am_ml y) : am_lv z xt ((lg_sl (a.map (am_tr z xt)) ++ List.replicate (am_ml y - (lg_sl (a.map (am_tr z xt))).length) Slot.unset).toArray) (am_en y a) := by
  have he := lv_entry (a.map (am_tr z xt)) (n := am_ml y) (by rw [am_fl_len]; exact h)
  refine ⟨by rw [he.1, am_en_len h], he.2.1, fun i v hv => ?_⟩
  unfold am_en at hv
  by_cases hi : i < (am_fl a).length
  · rw [List.getElem?_append_left hi] at hv
    have := am_fl_get z xt a i v hv
    rw [List.getElem?_toArray, List.getElem?_append_left (by rw [am_fl_len]; exact hi)]
    exact this
  · rw [List.getElem?_append_right (by omega)] at hv
    have := List.mem_replicate.mp (List.mem_of_getElem? hv)
    cases this.2
set_option maxHeartbeats 4000000 in
theorem am_ret_ok {n : Nat} (hx : p.tables.exec = Jvm.exec) (hb : c.code = am_by y) (hr : meth.sig.returnType = am_rt y) (hlocks : meth.locks = false) (h0 : s.heap.size + am_mc y = z + n) : am_Ret p l e R s m args below meth c (MQ below (am_Qc z xt D L xs n K) args s (am_mc y) (am_ms y) (am_A z)) z xt D L xs y d K := by
  intro i pc V st μ ck q hd hi hE hq hK H locs ls hR hS hl hn hz
  replace hR : am_R z xt D L xs μ s H := hR
  replace hz : s.heap.size + ck.1 = z + μ.1.1 := hz
  cases i with
  | ireturn =>
    unfold am_i at hE
    dsimp only at hE
    split at hE
    · cases hE
      obtain ⟨h1, h2, h3⟩ := hq
      rename_i v
      obtain ⟨ty, hty, hnar⟩ : ∃ ty, am_rt y = some ty ∧ narrow ty (.int v) = .int v := by
        revert h1
        cases hrt : am_rt y with
        | none => intro h1; exact h1.elim
        | some ty =>
          intro h1
          cases ty with
          | int => exact ⟨_, rfl, rfl⟩
          | boolean => exact ⟨_, rfl, by rcases h1 with rfl | rfl <;> decide⟩
          | byte => exact ⟨_, rfl, h1⟩
          | char => exact ⟨_, rfl, h1⟩
          | _ => exact h1.elim
      refine W.widen (k := am_mc y) (n := am_ms y) (Nat.le_of_eq h2) h3 ?_
      exact W.zret hx hb (hr.trans hty) hnar (fun t ht hW => ⟨⟨some (.int v), μ, rfl, hK, by omega, by rw [ht]; exact hR.moved hW.alike⟩, hS.F ht⟩) hS.2.2 hd hlocks
    · cases hE
  | lreturn =>
    unfold am_i at hE
    dsimp only at hE
    split at hE
    · cases hE
      obtain ⟨h1, h2, h3⟩ := hq
      rename_i v
      refine W.widen (k := am_mc y) (n := am_ms y) (Nat.le_of_eq h2) h3 ?_
      exact W.lret hx hb (hr.trans h1) (fun t ht hW => ⟨⟨some (.long v), μ, rfl, hK, by omega, by rw [ht]; exact hR.moved hW.alike⟩, hS.F ht⟩) hS.2.2 hd hlocks
    · cases hE
  | areturn =>
    unfold am_i at hE
    dsimp only at hE
    have hrt : am_rr (am_rt y) → ∃ ty, am_rt y = some ty ∧ ((∃ n, ty = .object n) ∨ ∃ t, ty = .array t) := by
      cases am_rt y with
      | none => intro h1; exact h1.elim
      | some ty =>
        intro h1
        cases ty with
        | object n => exact ⟨_, rfl, Or.inl ⟨n, rfl⟩⟩
        | array t => exact ⟨_, rfl, Or.inr ⟨t, rfl⟩⟩
        | _ => exact h1.elim
    split at hE
    · cases hE
      obtain ⟨h1, h2, h3⟩ := hq
      rename_i v
      obtain ⟨ty, e1, e2⟩ := hrt h1
      refine W.widen (k := am_mc y) (n := am_ms y) (Nat.le_of_eq h2) h3 ?_
      exact W.aret (v := .ref (am_ad z xt v)) hx hb (hr.trans e1) e2 (Or.inr ⟨_, rfl⟩) (fun t ht hW => ⟨⟨some (.ref v), μ, rfl, hK, by omega, by rw [ht]; exact hR.moved hW.alike⟩, hS.F ht⟩) hS.2.2 hd hlocks
    · cases hE
      obtain ⟨h1, h2, h3⟩ := hq
      obtain ⟨ty, e1, e2⟩ := hrt h1
      refine W.widen (k := am_mc y) (n := am_ms y) (Nat.le_of_eq h2) h3 ?_
      exact W.aret (v := .null) hx hb (hr.trans e1) e2 (Or.inl rfl) (fun t ht hW => ⟨⟨some .null, μ, rfl, hK, by omega, by rw [ht]; exact hR.moved hW.alike⟩, hS.F ht⟩) hS.2.2 hd hlocks
    · cases hE
  | return_ =>
    unfold am_i at hE
    dsimp only at hE
    split at hE
    · cases hE
      obtain ⟨h1, h2, h3⟩ := hq
      refine W.widen (k := am_mc y) (n := am_ms y) (Nat.le_of_eq h2) h3 ?_
      exact W.vret hx hb (hr.trans h1) (fun t ht hW => ⟨⟨none, μ, rfl, hK, by omega, by rw [ht]; exact hR.moved hW.alike⟩, hS.F ht⟩) hS.2.2 hd hlocks
    · cases hE
  | _ => exact absurd hi Bool.false_ne_true
/-- EVERY CALL of the abstract machine is the machine's -/
theorem am_met (l : Launch) (z : Nat) (xt : Nat → Nat) (D : va_G) (L : Nat) (xs : Nat → Int32) : ∀ (d : Nat) (y : mI) (a : List Value) (μ : am_M) (K : am_K), am_cw y → am_okY y = true → am_call d y a μ K → am_Met l z xt D L xs d y a μ K := by
  intro d
  induction d with
  | zero => intro y a μ K _ _ h; exact h.elim
  | succ d ih =>
    intro y a μ K hcw hoy h
    have hy := hoy
    unfold am_okY at hy
    simp only [Bool.and_eq_true, decide_eq_true_eq] at hy
    refine va_MetF (cc := am_by y) (maxL := am_ml y) (ret := am_rt y) hy.1.1.1.1 rfl ?_
    intro p e s m args below meth c s₁ B hml hv
    obtain ⟨rfl, hR, hX⟩ := hv
    have hts := atoms_spec (ws := am_ws1 y) B.pre
    have hown : s.vm.findClass (am_nm y).cls = some m.cls := findClass_of_methodNamed B.named
    have G : am_Gm p l e (headSpec (am_ws1 y) (am_rm (d + 1) y)).room s m (a.map (am_tr z xt)).toArray below meth c z xt L xs y d := ⟨B.exec, B.bytes, hml, by rw [← hy.1.1.1.2]; exact hown, fun w hw => hts w (List.mem_cons_of_mem _ hw), fun q => (name_of_methodNamed B.named B.method).1.trans q, by rw [hR.1]; omega, hX, Nat.le_refl d, Nat.le_refl (100 * d), Nat.le_refl _, Nat.le_refl _⟩
    have key := h.2 (am_SD p l e (headSpec (am_ws1 y) (am_rm (d + 1) y)).room s m (a.map (am_tr z xt)).toArray below meth c (MQ below (am_Qc z xt D L xs (μ.1.1 + am_mc y) K) (a.map (am_tr z xt)).toArray s (am_mc y) (am_ms y) (am_A z)) z xt D L xs y) (am_snd G ih (am_ret_ok B.exec B.bytes B.returns B.notSynchronized (by rw [hR.1]; omega)))
    rw [lg_entry_eq]
    exact key s.heap [] _ hR va_S.rf (am_en_lv z xt h.1) (am_en_len h.1) (by show s.heap.size + 0 = z + μ.1.1; rw [hR.1]; rfl)
end AM8
