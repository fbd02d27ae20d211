theorem am_tbl_mem {w : Cond} (h : w ∈ lw_tbl) (hg : goodWord w = true) : w ∈ am_tbl := List.mem_filter.mpr ⟨h, hg⟩
theorem am_lt {L : Nat} {μ : am_M} {b : Nat} (h : am_sh L μ) (ht : (μ.1.2 b).1 ≠ 999) : b < 8 + μ.1.1 := Nat.not_le.mp fun q => ht (h.1 b q)
theorem am_ad_ge {z : Nat} {xt : Nat → Nat} {b : Nat} (h : 8 ≤ b) : am_ad z xt b = z + (b - 8) := if_neg (Nat.not_lt.mpr h)
theorem am_ws_get {z : Nat} {xt : Nat → Nat} {ka : Nat → ClassId} {μ : am_M} {b : Nat} (h : 8 ≤ b) (h2 : b < 8 + μ.1.1) : (am_ws z xt ka μ)[b - 8]? = some (am_ad z xt b, am_ce z xt ka μ b) := by
  have h3 : b - 8 < μ.1.1 := by omega
  have h4 : 8 + (b - 8) = b := by omega
  simp [am_ws, h3, am_ad_ge h, h4]
theorem am_ws_D (z : Nat) (xt : Nat → Nat) (ka : Nat → ClassId) (μ : am_M) : va_D (am_A z) (am_ws z xt ka μ) := by
  have key : ∀ (i : Nat) (q : Nat × va_E), (am_ws z xt ka μ)[i]? = some q → q.1 = z + i := by
    intro i q h
    unfold am_ws at h
    rw [List.getElem?_map] at h
    cases hr : (List.range μ.1.1)[i]? with
    | none => rw [hr] at h; cases h
    | some k =>
      rw [hr] at h
      have hk := List.getElem?_eq_some_iff.mp hr
      obtain ⟨hi, e⟩ := hk
      rw [List.getElem_range] at e
      subst e
      cases h
      rfl
  refine ⟨fun i j p q hp hq e => ?_, fun k q h => ?_⟩
  · have h1 := key i p hp
    have h2 := key j q hq
    omega
  · rw [key k q h]
    exact Nat.le_add_right z k
theorem am_ce_congr {z : Nat} {xt : Nat → Nat} {ka : Nat → ClassId} {μ μ' : am_M} {b : Nat} (h1 : μ'.1.2 b = μ.1.2 b) (h2 : μ'.2.1 b = μ.2.1 b) (h3 : μ'.2.2.1 b = μ.2.2.1 b) (h4 : μ'.2.2.2 b = μ.2.2.2 b) : am_ce z xt ka μ' b = am_ce z xt ka μ b := by
  simp only [am_ce, am_ar, am_fv, h1, h2, h3, h4]
theorem am_ws_set {z : Nat} {xt : Nat → Nat} {ka : Nat → ClassId} {μ μ' : am_M} {b : Nat} (h : 8 ≤ b) (h2 : b < 8 + μ.1.1) (ho : ∀ b', b' ≠ b → am_ce z xt ka μ' b' = am_ce z xt ka μ b') (hg : μ'.1.1 = μ.1.1) : (am_ws z xt ka μ).set (b - 8) (am_ad z xt b, am_ce z xt ka μ' b) = am_ws z xt ka μ' := by
  apply List.ext_getElem?
  intro i
  rw [List.getElem?_set]
  have hl : (am_ws z xt ka μ).length = μ.1.1 := by simp [am_ws]
  by_cases hi : b - 8 = i
  · have h3 : i < μ.1.1 := by omega
    have h4 : 8 + i = b := by omega
    rw [if_pos hi, hl, if_pos (by omega)]
    rw [← hi, am_ws_get h (by omega)]
  · rw [if_neg hi]
    simp only [am_ws, List.getElem?_map, hg]
    cases hr : (List.range μ.1.1)[i]? with
    | none => rfl
    | some k =>
      obtain ⟨hi2, e⟩ := List.getElem?_eq_some_iff.mp hr
      rw [List.getElem_range] at e
      subst e
      show some (z + i, _) = some (z + i, _)
      rw [ho (8 + i) (by omega)]
theorem am_size {z : Nat} {xt : Nat → Nat} {D : va_G} {ka : Nat → ClassId} {μ : am_M} {H : Heap} {n c1 : Nat} (hP : va_P D vwCl (am_ws z xt ka μ) H) (h1 : n ≤ H.size) (h2 : z ≤ n) (h3 : H.size ≤ n + c1) (h4 : n + c1 = z + μ.1.1) : H.size = z + μ.1.1 := by
  by_cases h0 : μ.1.1 = 0
  · omega
  · have hg := am_ws_get (z := z) (xt := xt) (ka := ka) (μ := μ) (b := 8 + (μ.1.1 - 1)) (by omega) (by omega)
    have hl := (hP _ _ hg).lt
    have ha : am_ad z xt (8 + (μ.1.1 - 1)) = z + (μ.1.1 - 1) := by rw [am_ad_ge (by omega)]; omega
    simp only [ha] at hl
    omega
theorem am_R.set {z : Nat} {xt : Nat → Nat} {D : va_G} {L : Nat} {xs : Nat → Int32} {μ μ' : am_M} {U : State} {H1 : Heap} {ka : Nat → ClassId} (hg : μ'.1 = μ.1) (hx : μ'.2.1 0 = μ.2.1 0) (hsh : am_sh L μ) (hxs : μ.2.1 0 = xs) (hK : va_K D vwCl [] U) (hA : ∀ b, 8 ≤ b → (μ.1.2 b).1 < 100 → ArrOfT U (ka b) (am_ty (μ.1.2 b).1) ∧ va_RA U (ka b) (am_ty (μ.1.2 b).1)) (hP : va_P D vwCl (am_ws z xt ka μ') H1) (hs : H1.size = z + μ.1.1) : am_R z xt D L xs μ' U H1 := by
  obtain ⟨g, I, J, R⟩ := μ
  obtain ⟨g', I', J', R'⟩ := μ'
  cases hg
  exact ⟨hs, hsh, hx.trans hxs, hK, ka, hP, hA⟩
theorem am_obj {z : Nat} {xt : Nat → Nat} {ka : Nat → ClassId} {μ : am_M} {b ci : Nat} (ht : (μ.1.2 b).1 = 100 + ci) : am_ce z xt ka μ b = .inr (ci, (List.range (am_nf ci)).map (fun k => am_tr z xt (am_fv ci k b μ))) := by
  have h1 : 100 ≤ (μ.1.2 b).1 := by omega
  have h2 : (μ.1.2 b).1 - 100 = ci := by omega
  unfold am_ce
  rw [if_pos h1, h2]
theorem am_arr {z : Nat} {xt : Nat → Nat} {ka : Nat → ClassId} {μ : am_M} {b : Nat} (ht : (μ.1.2 b).1 < 100) : am_ce z xt ka μ b = .inl (ka b, (μ.1.2 b).2, am_ar z xt μ b) := if_neg (by omega)
theorem am_K1 {D : va_G} {U : State} {cA : ClassId} {ty : FieldType} (hK : va_K D vwCl [] U) (h : ArrOfT U cA ty ∧ va_RA U cA ty) : va_K D vwCl [(cA, ty)] U := ⟨hK.1, fun k q hq => by
  match k, hq with
  | 0, hq => cases hq; exact h
  | k + 1, hq => simp at hq⟩
theorem am_cls_ok {ci : Nat} (h : ci < 13) : ∃ T : u_T, vwCl[ci]? = some (am_cn ci, T, am_nf ci) ∧ (∀ w ∈ u_ws (am_cn ci) T (am_nf ci), w ∈ am_tbl) ∧ (∀ k, k < am_nf ci → parseFieldDescriptor (T k).2.2.1 = some (am_tyOf ci k)) ∧ (∀ k, k < am_nf ci → (T k).1 = am_cn ci) ∧ (∀ a, a < am_nf ci → ∀ b, b < am_nf ci → a ≠ b → (T a).2.1 ≠ (T b).2.1) ∧ Cond.instantiable (am_cn ci) (am_nf ci) ∈ lw_tbl ∧ Cond.initialized (am_cn ci) ∈ lw_tbl := by
  have h1 := am_kok h
  unfold am_okK at h1
  cases hr : vwCl[ci]? with
  | none => rw [hr] at h1; cases h1
  | some r =>
    rw [hr] at h1
    obtain ⟨C, T, N⟩ := r
    simp only [Bool.and_eq_true, decide_eq_true_eq, List.all_eq_true, Bool.or_eq_true, List.mem_range] at h1
    obtain ⟨⟨⟨⟨⟨e1, e2⟩, h3⟩, h4⟩, h5⟩, h6⟩ := h1
    subst e1
    subst e2
    refine ⟨T, rfl, fun w hw => am_tbl_mem (h3 w hw).1 (h3 w hw).2, fun k hk => (h4 k hk).1.1, fun k hk => (h4 k hk).1.2, fun a ha b hb hab => ?_, h5, h6⟩
    rcases (h4 a ha).2 b hb with q | q
    · exact absurd q hab
    · exact q
theorem am_tr_rf (z : Nat) (xt : Nat → Nat) (o : Option Nat) : am_tr z xt (va_rf o) = va_rf (o.map (am_ad z xt)) := by cases o <;> rfl
section AM2
variable {p : Program} {l : Launch} {e : Env} {R : Room} {s : State} {m : MethodId} {args : Array Value} {below : List Frame} {meth : Method} {c : Code} {Q : State → Prop} {z : Nat} {xt : Nat → Nat} {D : va_G} {L : Nat} {xs : Nat → Int32} {y : mI} {d : Nat} {K : am_K}
variable {pc : Nat} {V : am_L} {μ : am_M} {ck : Nat × Nat} {r : List Value}
theorem am_Wsz {H : Heap} {locs : List Loc} {c1 c2 : Nat} {g : JFrame} (k : H.size ≤ s.heap.size + c1 → W p l e R s m args below meth c H locs c1 c2 Q g) : W p l e R s m args below meth c H locs c1 c2 Q g := fun T hT X => k (by rw [← hT]; exact X.heapSize) T hT X
theorem sn_getfield {n ci k a : Nat} (G : am_Gm p l e R s m args below meth c z xt L xs y d) (hd : decode (am_by y) pc = .ok (.getfield n, 3)) (hf : (am_fls (am_own y)).lookup n = some (ci, k)) (ht : (μ.1.2 a).1 = 100 + ci) (ha : 8 ≤ a) (h : (am_SD p l e R s m args below meth c Q z xt D L xs y (pc + 3, V, am_fv ci k a μ :: r, μ, ck))) : (am_SD p l e R s m args below meth c Q z xt D L xs y (pc, V, .ref a :: r, μ, ck)) := by
  intro H locs ls hR hS hl hn hz
  obtain ⟨hx, hb, hml, hown, hts, hnm, hzs, hX, hfr, hlo, hmc, hms⟩ := G
  have hok := am_fok hf
  obtain ⟨r1, r2, r3, r4, ka, hP, hA⟩ := id hR
  unfold am_okF at hok
  have hci : ci < 13 := by
    cases hv : vwCl[ci]? with
    | none => simp only [hv] at hok; cases hok
    | some q => simp only [hv, Bool.and_eq_true, decide_eq_true_eq] at hok; exact hok.1.1
  obtain ⟨T, hc, hin, hty, hdecl, hnms, hins, hini⟩ := am_cls_ok hci
  simp only [hc, Bool.and_eq_true, decide_eq_true_eq] at hok
  obtain ⟨⟨-, hk⟩, hlink⟩ := hok
  have hlt : a < 8 + μ.1.1 := am_lt r2 (by omega)
  have he := am_ws_get (z := z) (xt := xt) (ka := ka) ha hlt
  rw [am_obj ht] at he
  exact va_get hx hb hts hin hown r4 hP (a - 8) he hc k hk (hts _ (am_tbl_mem hlink rfl)) (fun _ q => q) (v := am_tr z xt (am_fv ci k a μ)) (by simp [hk]) hd (h H locs ls hR hS hl hn hz)
theorem sn_putI {n ci k a : Nat} {v : Int32} (G : am_Gm p l e R s m args below meth c z xt L xs y d) (hd : decode (am_by y) pc = .ok (.putfield n, 3)) (hf : (am_fls (am_own y)).lookup n = some (ci, k)) (ht : (μ.1.2 a).1 = 100 + ci) (ha : 8 ≤ a) (hfin : am_fin ci k = false ∨ ((am_nm y).name = "<init>" ∧ am_own y = ci)) (hv : am_pin (am_tyOf ci k) v) (h : (am_SD p l e R s m args below meth c Q z xt D L xs y (pc + 3, V, r, (μ.1, am_up μ.2.1 a k v, μ.2.2.1, μ.2.2.2), ck))) : (am_SD p l e R s m args below meth c Q z xt D L xs y (pc, V, .int v :: .ref a :: r, μ, ck)) := by
  intro H locs ls hR hS hl hn hz
  obtain ⟨hx, hb, hml, hown, hts, hnm, hzs, hX, hfr, hlo, hmc, hms⟩ := G
  have hok := am_fok hf
  obtain ⟨r1, r2, r3, r4, ka, hP, hA⟩ := id hR
  unfold am_okF at hok
  have hci : ci < 13 := by
    cases hv : vwCl[ci]? with
    | none => simp only [hv] at hok; cases hok
    | some q => simp only [hv, Bool.and_eq_true, decide_eq_true_eq] at hok; exact hok.1.1
  obtain ⟨T, hc, hin, hty, hdecl, hnms, hins, hini⟩ := am_cls_ok hci
  simp only [hc, Bool.and_eq_true, decide_eq_true_eq] at hok
  obtain ⟨⟨-, hk⟩, hlink⟩ := hok
  have hlt : a < 8 + μ.1.1 := am_lt r2 (by omega)
  have he := am_ws_get (z := z) (xt := xt) (ka := ka) ha hlt
  rw [am_obj ht] at he
  have ha0 : ¬ 0 = a := by omega
  have hfinT : am_fin ci k = (T k).2.2.2 := by unfold am_fin; rw [hc]
  have kk : ∀ (H1 : Heap) (locs1 : List Loc), va_P D vwCl ((am_ws z xt ka μ).set (a - 8) (am_ad z xt a, .inr (ci, ((List.range (am_nf ci)).map (fun k => am_tr z xt (am_fv ci k a μ))).set k (.int v)))) H1 → va_D (am_A z) ((am_ws z xt ka μ).set (a - 8) (am_ad z xt a, .inr (ci, ((List.range (am_nf ci)).map (fun k => am_tr z xt (am_fv ci k a μ))).set k (.int v)))) → va_S (am_A z) s.heap H1 locs1 → W p l e R s m args below meth c H1 locs1 ck.1 ck.2 Q (F0 m (pc + 3) ls (r.map (am_tr z xt))) := by
    intro H1 locs1 hP1 hD1 hS1
    have hce : am_ce z xt ka (μ.1, am_up μ.2.1 a k v, μ.2.2.1, μ.2.2.2) a = .inr (ci, ((List.range (am_nf ci)).map (fun k => am_tr z xt (am_fv ci k a μ))).set k (.int v)) := by
      rw [am_obj (μ := (μ.1, am_up μ.2.1 a k v, μ.2.2.1, μ.2.2.2)) ht]
      congr 2
      apply List.ext_getElem?
      intro j
      rw [List.getElem?_set]
      by_cases hj : k = j
      · subst hj
        rw [if_pos rfl]
        simp only [List.length_map, List.length_range, hk, if_true, List.getElem?_map, List.getElem?_range hk, Option.map_some]
        have hnr : am_isref (am_tyOf ci k) = false := by
          revert hv; cases am_tyOf ci k <;> intro hv <;> first | rfl | exact hv.elim
        have h16 : ¬ ci = 16 := by omega
        simp [am_fv, h16, hnr, am_up, am_rw, va_up, am_tr]
      · rw [if_neg hj]
        simp only [List.getElem?_map]
        cases hr : (List.range (am_nf ci))[j]? with
        | none => rfl
        | some q =>
          obtain ⟨hi2, e⟩ := List.getElem?_eq_some_iff.mp hr
          rw [List.getElem_range] at e
          subst e
          have hj' : ¬ j = k := fun w => hj w.symm
          simp [am_fv, am_up, am_rw, va_up, hj']
    have ho : ∀ b', b' ≠ a → am_ce z xt ka (μ.1, am_up μ.2.1 a k v, μ.2.2.1, μ.2.2.2) b' = am_ce z xt ka μ b' := fun b' hb' => am_ce_congr rfl (by simp [am_up, am_rw, hb']) (by simp [am_up, am_rw, hb']) (by simp [am_up, am_rw, hb'])
    rw [← hce, am_ws_set ha hlt ho rfl] at hP1
    exact am_Wsz fun hsz => h H1 locs1 ls (am_R.set (μ := μ) (μ' := (μ.1, am_up μ.2.1 a k v, μ.2.2.1, μ.2.2.2)) rfl (by simp [am_up, am_rw, ha0]) r2 r3 r4 hA hP1 (am_size (μ := (μ.1, am_up μ.2.1 a k v, μ.2.2.1, μ.2.2.2)) hP1 hS1.1 hzs hsz hz)) hS1 hl hn hz
  have hv1 : narrow (am_tyOf ci k) (.int v) = .int v := by
    revert hv; cases am_tyOf ci k <;> intro hv <;> first | rfl | exact hv.elim | (rcases hv with rfl | rfl <;> decide)
  have hv2 : fits (am_tyOf ci k) (.int v) = true := by
    revert hv; cases am_tyOf ci k <;> intro hv <;> first | rfl | exact hv.elim | (rcases hv with rfl | rfl <;> decide)
  rcases hfin with hfin | ⟨hfin, hoc⟩
  · exact va_put hx hb hts hin (am_tyOf ci) hty hnms hown r4 hP (am_ws_D z xt ka μ) hS (a - 8) he hc k hk (hts _ (am_tbl_mem hlink rfl)) (fun _ q => q) (hfinT.symm.trans hfin) (hty k hk) (v := (.int v)) hv1 hv2 (by simp [hk]) hd kk
  · by_cases hff : (T k).2.2.2 = true
    · exact va_putF hx hb hts hin (am_tyOf ci) hty hnms hown r4 hP (am_ws_D z xt ka μ) hS (a - 8) he hc k hk (hts _ (am_tbl_mem hlink rfl)) (fun _ q => q) hff (hnm hfin) ((hdecl k hk).trans (by rw [hoc])) (hty k hk) (v := (.int v)) hv1 hv2 (by simp [hk]) hd kk
    · exact va_put hx hb hts hin (am_tyOf ci) hty hnms hown r4 hP (am_ws_D z xt ka μ) hS (a - 8) he hc k hk (hts _ (am_tbl_mem hlink rfl)) (fun _ q => q) (by simpa using hff) (hty k hk) (v := (.int v)) hv1 hv2 (by simp [hk]) hd kk
theorem sn_putR {n ci k a : Nat} {v : Nat} (G : am_Gm p l e R s m args below meth c z xt L xs y d) (hd : decode (am_by y) pc = .ok (.putfield n, 3)) (hf : (am_fls (am_own y)).lookup n = some (ci, k)) (ht : (μ.1.2 a).1 = 100 + ci) (ha : 8 ≤ a) (hfin : am_fin ci k = false ∨ ((am_nm y).name = "<init>" ∧ am_own y = ci)) (hv : am_isref (am_tyOf ci k) = true) (h : (am_SD p l e R s m args below meth c Q z xt D L xs y (pc + 3, V, r, (μ.1, μ.2.1, μ.2.2.1, am_up μ.2.2.2 a k (some v)), ck))) : (am_SD p l e R s m args below meth c Q z xt D L xs y (pc, V, .ref v :: .ref a :: r, μ, ck)) := by
  intro H locs ls hR hS hl hn hz
  obtain ⟨hx, hb, hml, hown, hts, hnm, hzs, hX, hfr, hlo, hmc, hms⟩ := G
  have hok := am_fok hf
  obtain ⟨r1, r2, r3, r4, ka, hP, hA⟩ := id hR
  unfold am_okF at hok
  have hci : ci < 13 := by
    cases hv : vwCl[ci]? with
    | none => simp only [hv] at hok; cases hok
    | some q => simp only [hv, Bool.and_eq_true, decide_eq_true_eq] at hok; exact hok.1.1
  obtain ⟨T, hc, hin, hty, hdecl, hnms, hins, hini⟩ := am_cls_ok hci
  simp only [hc, Bool.and_eq_true, decide_eq_true_eq] at hok
  obtain ⟨⟨-, hk⟩, hlink⟩ := hok
  have hlt : a < 8 + μ.1.1 := am_lt r2 (by omega)
  have he := am_ws_get (z := z) (xt := xt) (ka := ka) ha hlt
  rw [am_obj ht] at he
  have ha0 : ¬ 0 = a := by omega
  have hfinT : am_fin ci k = (T k).2.2.2 := by unfold am_fin; rw [hc]
  have kk : ∀ (H1 : Heap) (locs1 : List Loc), va_P D vwCl ((am_ws z xt ka μ).set (a - 8) (am_ad z xt a, .inr (ci, ((List.range (am_nf ci)).map (fun k => am_tr z xt (am_fv ci k a μ))).set k (.ref (am_ad z xt v))))) H1 → va_D (am_A z) ((am_ws z xt ka μ).set (a - 8) (am_ad z xt a, .inr (ci, ((List.range (am_nf ci)).map (fun k => am_tr z xt (am_fv ci k a μ))).set k (.ref (am_ad z xt v))))) → va_S (am_A z) s.heap H1 locs1 → W p l e R s m args below meth c H1 locs1 ck.1 ck.2 Q (F0 m (pc + 3) ls (r.map (am_tr z xt))) := by
    intro H1 locs1 hP1 hD1 hS1
    have hce : am_ce z xt ka (μ.1, μ.2.1, μ.2.2.1, am_up μ.2.2.2 a k (some v)) a = .inr (ci, ((List.range (am_nf ci)).map (fun k => am_tr z xt (am_fv ci k a μ))).set k (.ref (am_ad z xt v))) := by
      rw [am_obj (μ := (μ.1, μ.2.1, μ.2.2.1, am_up μ.2.2.2 a k (some v))) ht]
      congr 2
      apply List.ext_getElem?
      intro j
      rw [List.getElem?_set]
      by_cases hj : k = j
      · subst hj
        rw [if_pos rfl]
        simp only [List.length_map, List.length_range, hk, if_true, List.getElem?_map, List.getElem?_range hk, Option.map_some]
        have h16 : ¬ ci = 16 := by omega
        simp [am_fv, h16, hv, am_up, am_rw, va_up, am_tr, va_rf]
      · rw [if_neg hj]
        simp only [List.getElem?_map]
        cases hr : (List.range (am_nf ci))[j]? with
        | none => rfl
        | some q =>
          obtain ⟨hi2, e⟩ := List.getElem?_eq_some_iff.mp hr
          rw [List.getElem_range] at e
          subst e
          have hj' : ¬ j = k := fun w => hj w.symm
          simp [am_fv, am_up, am_rw, va_up, hj']
    have ho : ∀ b', b' ≠ a → am_ce z xt ka (μ.1, μ.2.1, μ.2.2.1, am_up μ.2.2.2 a k (some v)) b' = am_ce z xt ka μ b' := fun b' hb' => am_ce_congr rfl (by simp [am_up, am_rw, hb']) (by simp [am_up, am_rw, hb']) (by simp [am_up, am_rw, hb'])
    rw [← hce, am_ws_set ha hlt ho rfl] at hP1
    exact am_Wsz fun hsz => h H1 locs1 ls (am_R.set (μ := μ) (μ' := (μ.1, μ.2.1, μ.2.2.1, am_up μ.2.2.2 a k (some v))) rfl (by simp [am_up, am_rw, ha0]) r2 r3 r4 hA hP1 (am_size (μ := (μ.1, μ.2.1, μ.2.2.1, am_up μ.2.2.2 a k (some v))) hP1 hS1.1 hzs hsz hz)) hS1 hl hn hz
  have hv1 : narrow (am_tyOf ci k) (.ref (am_ad z xt v)) = .ref (am_ad z xt v) := by
    revert hv; cases am_tyOf ci k <;> intro hv <;> first | rfl | cases hv
  have hv2 : fits (am_tyOf ci k) (.ref (am_ad z xt v)) = true := by
    revert hv; cases am_tyOf ci k <;> intro hv <;> first | rfl | cases hv
  rcases hfin with hfin | ⟨hfin, hoc⟩
  · exact va_put hx hb hts hin (am_tyOf ci) hty hnms hown r4 hP (am_ws_D z xt ka μ) hS (a - 8) he hc k hk (hts _ (am_tbl_mem hlink rfl)) (fun _ q => q) (hfinT.symm.trans hfin) (hty k hk) (v := (.ref (am_ad z xt v))) hv1 hv2 (by simp [hk]) hd kk
  · by_cases hff : (T k).2.2.2 = true
    · exact va_putF hx hb hts hin (am_tyOf ci) hty hnms hown r4 hP (am_ws_D z xt ka μ) hS (a - 8) he hc k hk (hts _ (am_tbl_mem hlink rfl)) (fun _ q => q) hff (hnm hfin) ((hdecl k hk).trans (by rw [hoc])) (hty k hk) (v := (.ref (am_ad z xt v))) hv1 hv2 (by simp [hk]) hd kk
    · exact va_put hx hb hts hin (am_tyOf ci) hty hnms hown r4 hP (am_ws_D z xt ka μ) hS (a - 8) he hc k hk (hts _ (am_tbl_mem hlink rfl)) (fun _ q => q) (by simpa using hff) (hty k hk) (v := (.ref (am_ad z xt v))) hv1 hv2 (by simp [hk]) hd kk
end AM2
