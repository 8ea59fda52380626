theorem drop_nd {N : List Nd} {i : Nat} (h : i < N.length) : N.drop i = nd N i :: N.drop (i + 1) := by
  rw [nd_eq h]
  exact List.drop_eq_getElem_cons h
theorem take_nd {N : List Nd} {i : Nat} (h : i < N.length) : N.take (i + 1) = N.take i ++ [nd N i] := by
  rw [nd_eq h]
  exact (List.take_append_getElem h).symm
theorem liv_c1 {k : Nat} {out : Nat → Bool} {x : Nd} {L : List Nd} (h1 : x.1 = k) (h2 : out x.2.1 = false) : liv k out (x :: L) = x :: liv k out L := by
  unfold liv
  rw [List.filter_cons, if_pos (by simp [lvb, h1, h2])]
theorem liv_c0 {k : Nat} {out : Nat → Bool} {x : Nd} {L : List Nd} (h : ¬ (x.1 = k ∧ out x.2.1 = false)) : liv k out (x :: L) = liv k out L := by
  unfold liv
  rw [List.filter_cons, if_neg (fun q => h (by simpa [lvb] using q))]
theorem pickS_c (w : Nat) (x : Nd) (xs : List Nd) (a : Nat) : pickS w (x :: xs) a = if x.2.1 = w then some (a, x) else pickS w xs (a + x.2.2) := rfl
theorem ZZ_keep {N : List Nd} {i k : Nat} {out : Nat → Bool} {uz : Nat → Int32} (hi : i < N.length) (h1 : ¬ (nd N i).1 = k) (h : ZZ uz (outOf (N.take i) k out)) : ZZ uz (outOf (N.take (i + 1)) k out) := by
  intro b hb
  have e0 : [nd N i].any (fun x => x.1 == k && x.2.1 == b) = false := by simp [h1]
  rw [h b hb, take_nd hi]
  unfold outOf
  rw [List.any_append, e0, Bool.or_false]
theorem ZZ_put {N : List Nd} {i k : Nat} {out : Nat → Bool} {uz : Nat → Int32} {y : Int32} (hi : i < N.length) (h1 : (nd N i).1 = k) (hy : y = bI true) (h : ZZ uz (outOf (N.take i) k out)) : ZZ (upd uz (nd N i).2.1 y) (outOf (N.take (i + 1)) k out) := by
  intro b hb
  by_cases e : b = (nd N i).2.1
  · subst e
    rw [upd_at, hy, take_nd hi]
    unfold outOf
    rw [List.any_append]
    simp [h1]
  · have e0 : [nd N i].any (fun x => x.1 == k && x.2.1 == b) = false := by
      simp only [List.any_cons, List.any_nil, Bool.or_false, Bool.and_eq_false_iff, beq_eq_false_iff_ne]
      exact Or.inr (fun q => e q.symm)
    rw [upd_ne _ _ e, h b hb, take_nd hi]
    unfold outOf
    rw [List.any_append, e0, Bool.or_false]
theorem outOf_0 (N : List Nd) (k : Nat) (out : Nat → Bool) : outOf (N.take 0) k out = out := by
  funext b
  simp [outOf]
theorem bool_1 : vp_nar .boolean (nI 1) = bI true := by decide
theorem bool_0 : vp_nar .boolean (nI 0) = bI false := by decide
theorem escN_et (st : List Stq) (a f t o : Nat) : escN (st ++ [(a, f, t, o, true)]) = escN (st ++ [(a, f, t, o, false)]) + 1 := by
  rw [escN_app, escN_app]
  rfl
