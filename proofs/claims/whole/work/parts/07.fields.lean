def am_okF (C : String) (e : Nat × Nat × Nat) : Bool := match vwCl[e.2.1]? with
  | some r => decide (e.2.1 < 13) && decide (e.2.2 < r.2.2) && decide (Cond.fieldLink C e.1 (r.2.1 e.2.2).1 (r.2.1 e.2.2).2.1 (r.2.1 e.2.2).2.2.1 ∈ lw_tbl)
  | none => false
def am_okN (C : String) (e : Nat × Nat) : Bool := decide (e.2 < 13) && decide (Cond.classLink C e.1 (am_cn e.2) ∈ lw_tbl)
def am_okI (C : String) (e : Nat × Int32) : Bool := decide (Cond.constant C e.1 e.2 ∈ lw_tbl)
def am_okJ (C : String) (e : Nat × Int64) : Bool := decide (Cond.constantLong C e.1 e.2 ∈ lw_tbl)
theorem am_f0 : (am_fls 0).all (am_okF (am_cn 0)) = true := by decide +kernel
theorem am_f1 : (am_fls 1).all (am_okF (am_cn 1)) = true := by decide +kernel
theorem am_f2 : (am_fls 2).all (am_okF (am_cn 2)) = true := by decide +kernel
theorem am_f3 : (am_fls 3).all (am_okF (am_cn 3)) = true := by decide +kernel
theorem am_f4 : (am_fls 4).all (am_okF (am_cn 4)) = true := by decide +kernel
theorem am_f5 : (am_fls 5).all (am_okF (am_cn 5)) = true := by decide +kernel
theorem am_f6 : (am_fls 6).all (am_okF (am_cn 6)) = true := by decide +kernel
theorem am_f7 : (am_fls 7).all (am_okF (am_cn 7)) = true := by decide +kernel
theorem am_f8 : (am_fls 8).all (am_okF (am_cn 8)) = true := by decide +kernel
theorem am_f9 : (am_fls 9).all (am_okF (am_cn 9)) = true := by decide +kernel
theorem am_f10 : (am_fls 10).all (am_okF (am_cn 10)) = true := by decide +kernel
theorem am_f11 : (am_fls 11).all (am_okF (am_cn 11)) = true := by decide +kernel
theorem am_f12 : (am_fls 12).all (am_okF (am_cn 12)) = true := by decide +kernel
theorem am_n0 : (am_nws 0).all (am_okN (am_cn 0)) = true := by decide +kernel
theorem am_n1 : (am_nws 1).all (am_okN (am_cn 1)) = true := by decide +kernel
theorem am_n2 : (am_nws 2).all (am_okN (am_cn 2)) = true := by decide +kernel
theorem am_n3 : (am_nws 3).all (am_okN (am_cn 3)) = true := by decide +kernel
theorem am_n4 : (am_nws 4).all (am_okN (am_cn 4)) = true := by decide +kernel
theorem am_n5 : (am_nws 5).all (am_okN (am_cn 5)) = true := by decide +kernel
theorem am_n6 : (am_nws 6).all (am_okN (am_cn 6)) = true := by decide +kernel
theorem am_n7 : (am_nws 7).all (am_okN (am_cn 7)) = true := by decide +kernel
theorem am_n8 : (am_nws 8).all (am_okN (am_cn 8)) = true := by decide +kernel
theorem am_n9 : (am_nws 9).all (am_okN (am_cn 9)) = true := by decide +kernel
theorem am_n10 : (am_nws 10).all (am_okN (am_cn 10)) = true := by decide +kernel
theorem am_n11 : (am_nws 11).all (am_okN (am_cn 11)) = true := by decide +kernel
theorem am_n12 : (am_nws 12).all (am_okN (am_cn 12)) = true := by decide +kernel
theorem am_n13 : (am_nws 13).all (am_okN (am_cn 13)) = true := by decide +kernel
theorem am_i3 : (am_ics 3).all (am_okI (am_cn 3)) = true := by decide +kernel
theorem am_i12 : (am_ics 12).all (am_okI (am_cn 12)) = true := by decide +kernel
theorem am_i14 : (am_ics 14).all (am_okI (am_cn 14)) = true := by decide +kernel
theorem am_j0 : (am_lcs 0).all (am_okJ (am_cn 0)) = true := by decide +kernel
theorem am_j11 : (am_lcs 11).all (am_okJ (am_cn 11)) = true := by decide +kernel
theorem am_j12 : (am_lcs 12).all (am_okJ (am_cn 12)) = true := by decide +kernel
theorem am_fok {own n : Nat} {f : Nat × Nat} (h : (am_fls own).lookup n = some f) : am_okF (am_cn own) (n, f) = true := by
  have hm := am_lk h
  match own, hm with
  | 0, hm => exact List.all_eq_true.mp am_f0 _ hm
  | 1, hm => exact List.all_eq_true.mp am_f1 _ hm
  | 2, hm => exact List.all_eq_true.mp am_f2 _ hm
  | 3, hm => exact List.all_eq_true.mp am_f3 _ hm
  | 4, hm => exact List.all_eq_true.mp am_f4 _ hm
  | 5, hm => exact List.all_eq_true.mp am_f5 _ hm
  | 6, hm => exact List.all_eq_true.mp am_f6 _ hm
  | 7, hm => exact List.all_eq_true.mp am_f7 _ hm
  | 8, hm => exact List.all_eq_true.mp am_f8 _ hm
  | 9, hm => exact List.all_eq_true.mp am_f9 _ hm
  | 10, hm => exact List.all_eq_true.mp am_f10 _ hm
  | 11, hm => exact List.all_eq_true.mp am_f11 _ hm
  | 12, hm => exact List.all_eq_true.mp am_f12 _ hm
  | k + 13, hm => exact absurd hm List.not_mem_nil
theorem am_nok {own n : Nat} {f : Nat} (h : (am_nws own).lookup n = some f) : am_okN (am_cn own) (n, f) = true := by
  have hm := am_lk h
  match own, hm with
  | 0, hm => exact List.all_eq_true.mp am_n0 _ hm
  | 1, hm => exact List.all_eq_true.mp am_n1 _ hm
  | 2, hm => exact List.all_eq_true.mp am_n2 _ hm
  | 3, hm => exact List.all_eq_true.mp am_n3 _ hm
  | 4, hm => exact List.all_eq_true.mp am_n4 _ hm
  | 5, hm => exact List.all_eq_true.mp am_n5 _ hm
  | 6, hm => exact List.all_eq_true.mp am_n6 _ hm
  | 7, hm => exact List.all_eq_true.mp am_n7 _ hm
  | 8, hm => exact List.all_eq_true.mp am_n8 _ hm
  | 9, hm => exact List.all_eq_true.mp am_n9 _ hm
  | 10, hm => exact List.all_eq_true.mp am_n10 _ hm
  | 11, hm => exact List.all_eq_true.mp am_n11 _ hm
  | 12, hm => exact List.all_eq_true.mp am_n12 _ hm
  | 13, hm => exact List.all_eq_true.mp am_n13 _ hm
  | k + 14, hm => exact absurd hm List.not_mem_nil
theorem am_iok {own n : Nat} {f : Int32} (h : (am_ics own).lookup n = some f) : am_okI (am_cn own) (n, f) = true := by
  have hm := am_lk h
  match own, hm with
  | 0, hm => exact absurd hm List.not_mem_nil
  | 1, hm => exact absurd hm List.not_mem_nil
  | 2, hm => exact absurd hm List.not_mem_nil
  | 3, hm => exact List.all_eq_true.mp am_i3 _ hm
  | 4, hm => exact absurd hm List.not_mem_nil
  | 5, hm => exact absurd hm List.not_mem_nil
  | 6, hm => exact absurd hm List.not_mem_nil
  | 7, hm => exact absurd hm List.not_mem_nil
  | 8, hm => exact absurd hm List.not_mem_nil
  | 9, hm => exact absurd hm List.not_mem_nil
  | 10, hm => exact absurd hm List.not_mem_nil
  | 11, hm => exact absurd hm List.not_mem_nil
  | 12, hm => exact List.all_eq_true.mp am_i12 _ hm
  | 13, hm => exact absurd hm List.not_mem_nil
  | 14, hm => exact List.all_eq_true.mp am_i14 _ hm
  | k + 15, hm => exact absurd hm List.not_mem_nil
theorem am_jok {own n : Nat} {f : Int64} (h : (am_lcs own).lookup n = some f) : am_okJ (am_cn own) (n, f) = true := by
  have hm := am_lk h
  match own, hm with
  | 0, hm => exact List.all_eq_true.mp am_j0 _ hm
  | 1, hm => exact absurd hm List.not_mem_nil
  | 2, hm => exact absurd hm List.not_mem_nil
  | 3, hm => exact absurd hm List.not_mem_nil
  | 4, hm => exact absurd hm List.not_mem_nil
  | 5, hm => exact absurd hm List.not_mem_nil
  | 6, hm => exact absurd hm List.not_mem_nil
  | 7, hm => exact absurd hm List.not_mem_nil
  | 8, hm => exact absurd hm List.not_mem_nil
  | 9, hm => exact absurd hm List.not_mem_nil
  | 10, hm => exact absurd hm List.not_mem_nil
  | 11, hm => exact List.all_eq_true.mp am_j11 _ hm
  | 12, hm => exact List.all_eq_true.mp am_j12 _ hm
  | k + 13, hm => exact absurd hm List.not_mem_nil
def am_okK (ci : Nat) : Bool := match vwCl[ci]? with
  | some r => decide (r.1 = am_cn ci) && decide (r.2.2 = am_nf ci) && (u_ws r.1 r.2.1 r.2.2).all (fun w => decide (w ∈ lw_tbl) && goodWord w) && (List.range r.2.2).all (fun k => decide (parseFieldDescriptor (r.2.1 k).2.2.1 = some (am_tyOf ci k)) && decide ((r.2.1 k).1 = am_cn ci) && (List.range r.2.2).all (fun j => decide (k = j) || decide ((r.2.1 k).2.1 ≠ (r.2.1 j).2.1))) && decide (Cond.instantiable r.1 r.2.2 ∈ lw_tbl) && decide (Cond.initialized r.1 ∈ lw_tbl)
  | none => false
theorem am_k0 : am_okK 0 = true := by decide +kernel
theorem am_k1 : am_okK 1 = true := by decide +kernel
theorem am_k2 : am_okK 2 = true := by decide +kernel
theorem am_k3 : am_okK 3 = true := by decide +kernel
theorem am_k4 : am_okK 4 = true := by decide +kernel
theorem am_k5 : am_okK 5 = true := by decide +kernel
theorem am_k6 : am_okK 6 = true := by decide +kernel
theorem am_k7 : am_okK 7 = true := by decide +kernel
theorem am_k8 : am_okK 8 = true := by decide +kernel
theorem am_k9 : am_okK 9 = true := by decide +kernel
theorem am_k10 : am_okK 10 = true := by decide +kernel
theorem am_k11 : am_okK 11 = true := by decide +kernel
theorem am_k12 : am_okK 12 = true := by decide +kernel
theorem am_kok {ci : Nat} (h : ci < 13) : am_okK ci = true := by
  match ci, h with
  | 0, _ => exact am_k0
  | 1, _ => exact am_k1
  | 2, _ => exact am_k2
  | 3, _ => exact am_k3
  | 4, _ => exact am_k4
  | 5, _ => exact am_k5
  | 6, _ => exact am_k6
  | 7, _ => exact am_k7
  | 8, _ => exact am_k8
  | 9, _ => exact am_k9
  | 10, _ => exact am_k10
  | 11, _ => exact am_k11
  | 12, _ => exact am_k12
  | k + 13, h => exact absurd h (by omega)
