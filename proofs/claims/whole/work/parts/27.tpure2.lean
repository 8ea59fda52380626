theorem drop_getD {X : List Nat} {i : Nat} (h : i < X.length) : X.drop i = X.getD i 0 :: X.drop (i + 1) := by
  rw [List.drop_eq_getElem_cons h]
  congr 1
  simp [List.getD, List.getElem?_eq_getElem h]
theorem bgS_c (w : Int32) (x : Nd) (xs : List Nd) (a : Nat) : bgS w (x :: xs) a = if nI x.2.1 = w then a else bgS w xs (a + x.2.2) := rfl
theorem take_getD {X : List Nat} {i : Nat} (h : i < X.length) : X.take (i + 1) = X.take i ++ [X.getD i 0] := by
  rw [List.take_succ_eq_append_getElem h]
  congr 2
  simp [List.getD, List.getElem?_eq_getElem h]
theorem OR_put {os : Nat → Int32} {tn i : Nat} {out : Nat → Bool} {N : List Nd} {X : List Nat} (h : OR os tn (fun y => out y || (X.take i).any (fun i => (nd N i).2.1 == y))) (hm : (nd N (X.getD i 0)).2.1 < 256) (hi : i < X.length) : OR (upd os (nd N (X.getD i 0)).2.1 (nI tn)) tn (fun y => out y || (X.take (i + 1)).any (fun i => (nd N i).2.1 == y)) := by
  intro b hb
  have h0 := h b hb
  dsimp only at h0 ⊢
  rw [take_getD hi, List.any_append]
  by_cases e : b = (nd N (X.getD i 0)).2.1
  · subst e
    rw [pk_us]
    simp
  · rw [pk_un e, h0]
    have : ([X.getD i 0].any fun i => (nd N i).2.1 == b) = false := by
      simp only [List.any_cons, List.any_nil, Bool.or_false, beq_eq_false_iff_ne, ne_eq]
      exact fun q => e q.symm
    rw [this, Bool.or_false]
theorem OS_put {os : Nat → Int32} {tn k : Nat} (h : OS os tn) : OS (upd os k (nI tn)) tn := by
  intro b hb
  by_cases e : b = k
  · subst e
    exact ⟨tn, Nat.le_refl _, pk_us⟩
  · obtain ⟨t, h1, h2⟩ := h b hb
    exact ⟨t, h1, (pk_un e).trans h2⟩
theorem symAt_none {out : Nat → Bool} {p : Nat} (h : ∀ b, b < 256 → ¬ (!(out b) && cn out b == p) = true) : symAt out p = 256 := by
  unfold symAt
  have : (List.range 256).find? (fun b => !(out b) && cn out b == p) = none := by
    rw [List.find?_eq_none]
    intro x hx
    exact h x (List.mem_range.mp hx)
  rw [this]
  rfl
theorem symAt_some {out : Nat → Bool} {p b : Nat} (hb : b < 256) (h1 : (!(out b) && cn out b == p) = true) (h : ∀ a, a < b → ¬ (!(out a) && cn out a == p) = true) : symAt out p = b := by
  unfold symAt
  have : (List.range 256).find? (fun b => !(out b) && cn out b == p) = some b := by
    rw [List.find?_eq_some_iff_getElem]
    refine ⟨h1, b, by simpa using hb, by simp, fun j hj => ?_⟩
    have := h j hj
    rw [List.getElem_range]
    cases hq : (!(out j) && cn out j == p) with
    | false => rfl
    | true => exact absurd hq this
  rw [this]
  rfl
