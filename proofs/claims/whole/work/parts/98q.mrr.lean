section MRR
variable {d : Nat} {k : am_k} {I I' I1 : Nat → Nat → Int32} {J : Nat → Nat → Int64} {a b fk fp : Int32} {L : Nat} {w : Nat → Option Nat} {v p q n u x z r t m l o s i j h lv op D tk c dep α β : Nat} {Y : Nat → Nat} {C E : List (Nat × Nat)} {e : Nat × Nat} {f : Nat → List (Nat × Nat) → Rs} {Q R : List Nat} {τ : Bool}
theorem an_of (hY : ∀ i, i < t → Y i < 256) (n4 : n ≤ 400) (hn : ∀ j, n ≤ j → toT t Y j = 272) (hf : AL L J w t Y n d k f o) (hg : GD (toT t Y) n f h τ) (o8 : o ≤ 8) (h9 : QB R 9) (h10 : QB R 10) (h11 : QB R 11) (hl : R.length ≤ 3 * o) (hd : dep ≤ o) (hM : MS I t Y n j C) (hP : MP I R o) (hC : C.length + R.length ≤ j) (kf : ∀ e, jnF (toT t Y) f 0 j C = .inl e → ∀ I', ME I' t Y e → FrN I I' → k (some (.int (-1))) (gF L) I' J (rF w)) (kr : ∀ p, jnF (toT t Y) f 0 j C = .inr p → ∀ I' (b' : Int32), MS I' t Y n p.1 p.2 → MP I' R o → p.2.length + R.length ≤ p.1 → FrN I I' → aw (d + 9) mX12_readAny k 184 [some (.ref 249), some (.int (nI dep)), some (.int (nI 0)), some (.int b')] [] (gF L) I' J (rF w) 0 0) : aw (d + 9) mX12_readAny k 9 [some (.ref 249), some (.int (nI dep)), some (.int (nI 1)), some (.int b)] [] (gF L) I J (rF w) 0 0 := by
  unfold jnF at kf kr
  refine hf I j C R 0 dep b hM (by rw [List.replicate_zero, List.append_nil]; exact hP) h9 h10 (by omega) (by omega) (by omega) hd ?_ ?_
  · intro e he I' u1 u2
    rw [he] at kf
    exact kf e rfl I' u1 u2
  · intro p hp I' b' C' β' w1 w2 u1 u2 w3 w4 u3
    rw [hp] at kf kr
    dsimp only at kf kr
    obtain ⟨a1, a2, δ, a3, a4, a5⟩ := (hg j C hM.2.2.2.2.1).2 p hp
    have e0 : C' ++ rpC β' 10 ++ rpC 0 11 = p.2 := by rw [w2]; unfold rpC; simp
    refine l_an hY n4 hn hf hg o8 h9 h10 h11 hl hd 400 I' p.1 C' 0 β' b' (by omega) (by omega) w1 w4 u1 u2 (by omega) ?_ ?_
    · rw [e0]
      exact fun e he I5 v1 v2 => kf e he I5 v1 (FrN_t u3 v2)
    · rw [e0]
      exact fun p' hp' I5 b5 v1 v2 v3 v4 => kr p' hp' I5 b5 v1 v2 v3 (FrN_t u3 v4)
end MRR
