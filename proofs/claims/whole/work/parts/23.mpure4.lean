theorem lrnG_ge {lim : Nat} {key : Nat → Nat} {b lo n : Nat} {q : List Nd × Nat × Nat} {g : Nat × Nat} (h : ¬ n < lo) : gnL lim (key n) b q.1 g.1 ≤ (lrnG lim key b lo (n + 1) q g).1 ∧ gcL lim (key n) b q.1 g.2 ≤ (lrnG lim key b lo (n + 1) q g).2 := by
  rw [lrnG_s, if_neg h]
  split
  · exact lrnG_up lim key b lo n (lrn1 lim (key n) b q).1 (gnL lim (key n) b q.1 g.1, gcL lim (key n) b q.1 g.2)
  · exact ⟨Nat.le_refl _, Nat.le_refl _⟩
theorem pred_lt {n : Nat} (h : n < 2 ^ 31) : nI 0 - nI 1 < nI n := by
  rw [show nI 0 - nI 1 = -1 by decide, Int32.lt_iff_toInt_lt, nI_toInt h]
  have : (-1 : Int32).toInt = -1 := by decide
  rw [this]
  omega
theorem HR_cons {h : List Nat} {top bef ear : Int32} {b : Nat} (hh : HR h top bef ear) (hb : b < 256) : HR (b :: h) (nI (topO (b :: h))) (nI b) bef := by
  obtain ⟨h1, h2, h3, h4⟩ := hh
  refine ⟨rfl, fun _ => rfl, fun q => ?_, fun j => ?_⟩
  · simp only [List.length_cons] at q
    exact h2 (by omega)
  · cases j with
    | zero => exact hb
    | succ j => exact h4 j
theorem topO_cons (b : Nat) (h : List Nat) : min (topO h + 1) 2 = topO (b :: h) := by
  unfold topO
  simp only [List.length_cons]
  omega
theorem topO_le (h : List Nat) : topO h ≤ 2 := Nat.min_le_right _ _
