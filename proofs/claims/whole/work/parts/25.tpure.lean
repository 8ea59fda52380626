/-! THE TELLER's rows -/
def OR (os : Nat → Int32) (tn : Nat) (out : Nat → Bool) : Prop := ∀ b, b < 256 → (os b = nI tn ↔ out b = true)
def OS (os : Nat → Int32) (tn : Nat) : Prop := ∀ b, b < 256 → ∃ t, t ≤ tn ∧ os b = nI t
/-- the places of the nodes that count, among the first t -/
def lix (N : List Nd) (k : Nat) (out : Nat → Bool) (t : Nat) : List Nat := (List.range t).filter (fun i => lvb k out (nd N i))
/-- the rows of the live nodes' bytes and counts -/
def LvR (lv lz : Nat → Int32) (N : List Nd) (X : List Nat) : Prop := ∀ j, j < X.length → lv j = nI (nd N (X.getD j 0)).2.1 ∧ lz j = nI (nd N (X.getD j 0)).2.2
theorem lix_s (N : List Nd) (k : Nat) (out : Nat → Bool) (t : Nat) : lix N k out (t + 1) = lix N k out t ++ (if lvb k out (nd N t) = true then [t] else []) := by
  unfold lix
  rw [List.range_succ, List.filter_append]
  congr 1
  by_cases h : lvb k out (nd N t) = true
  · simp [h]
  · simp [h]
theorem lix_0 (N : List Nd) (k : Nat) (out : Nat → Bool) : lix N k out 0 = [] := rfl
theorem lix_skip {N : List Nd} {k : Nat} {out : Nat → Bool} (n t : Nat) (hn : ∀ j, t ≤ j → j < t + n → ¬ (nd N j).1 = k) : lix N k out (t + n) = lix N k out t := by
  induction n with
  | zero => rfl
  | succ n ih =>
    rw [show t + (n + 1) = t + n + 1 from rfl, lix_s, ih (fun j h1 h2 => hn j h1 (by omega)), if_neg, List.append_nil]
    intro q
    simp only [lvb, Bool.and_eq_true, beq_iff_eq] at q
    exact hn (t + n) (by omega) (by omega) q.1
theorem lix_map (N : List Nd) (k : Nat) (out : Nat → Bool) (t : Nat) (ht : t ≤ N.length) : (lix N k out t).map (nd N) = liv k out (N.take t) := by
  induction t with
  | zero => rfl
  | succ t ih =>
    rw [lix_s, List.map_append, ih (by omega), nd_take (by omega)]
    unfold liv
    rw [List.filter_append]
    congr 1
    by_cases h : lvb k out (nd N t) = true
    · simp [h]
    · simp [h]
theorem lix_all (N : List Nd) (k : Nat) (out : Nat → Bool) : (lix N k out N.length).map (nd N) = liv k out N := by
  rw [lix_map N k out N.length (Nat.le_refl _), List.take_length]
theorem lix_lt {N : List Nd} {k : Nat} {out : Nat → Bool} {t j : Nat} (h : j < (lix N k out t).length) : (lix N k out t).getD j 0 < t := by
  have := getD_mem (d := 0) h
  unfold lix at this ⊢
  rw [List.mem_filter, List.mem_range] at this
  exact this.1
theorem LvR_app {lv lz : Nat → Int32} {N : List Nd} {X : List Nat} {v n : Nat} (h : LvR lv lz N X) (hn : n = X.length) : LvR (upd lv n (nI (nd N v).2.1)) (upd lz n (nI (nd N v).2.2)) N (X ++ [v]) := by
  subst hn
  intro j hj
  simp only [List.length_append, List.length_singleton] at hj
  by_cases e : j = X.length
  · subst e
    rw [pk_us, pk_us, gD_r (Nat.le_refl _)]
    simp
  · rw [pk_un e, pk_un e, gD_l (by omega)]
    exact h j (by omega)
theorem sumC_app (A B : List Nd) : sumC (A ++ B) = sumC A + sumC B := by
  unfold sumC
  rw [List.map_append, List.sum_append]
theorem sumC_1 (x : Nd) : sumC [x] = x.2.2 := by simp [sumC]
/-- no more than so many numbers below n, no two alike -/
theorem pigeon : ∀ (n : Nat) (L : List Nat), (∀ x ∈ L, x < n) → ndK L → L.length ≤ n := by
  intro n
  induction n with
  | zero =>
    intro L h _
    cases L with
    | nil => exact Nat.le_refl _
    | cons x L => exact absurd (h x List.mem_cons_self) (Nat.not_lt_zero _)
  | succ n ih =>
    intro L h hd
    by_cases hn : n ∈ L
    · obtain ⟨i, hi, e⟩ := List.getElem_of_mem hn
      have hgi : L.getD i 0 = n := by simp [List.getD, List.getElem?_eq_getElem hi, e]
      have hlen : (L.eraseIdx i).length = L.length - 1 := by rw [List.length_eraseIdx, if_pos hi]
      have hg : ∀ a, a < (L.eraseIdx i).length → (L.eraseIdx i).getD a 0 = L.getD (if a < i then a else a + 1) 0 := by
        intro a ha
        simp only [List.getD, List.getElem?_eraseIdx]
        split <;> rfl
      have hne : ∀ a, a < (L.eraseIdx i).length → (L.eraseIdx i).getD a 0 < n := by
        intro a ha
        rw [hg a ha]
        rw [hlen] at ha
        have h1 : (if a < i then a else a + 1) < L.length := by split <;> omega
        have h2 := h _ (getD_mem (d := 0) h1)
        have h3 : L.getD (if a < i then a else a + 1) 0 ≠ n := fun q => by
          have := hd _ i h1 hi (by rw [q, hgi])
          split at this <;> omega
        omega
      have := ih (L.eraseIdx i) (fun x hx => by
        obtain ⟨a, ha, e2⟩ := List.getElem_of_mem hx
        have := hne a ha
        simp only [List.getD, List.getElem?_eq_getElem ha, Option.getD_some] at this
        rw [← e2]
        exact this) (fun a b ha hb e2 => by
        rw [hg a ha, hg b hb] at e2
        rw [hlen] at ha hb
        have h1 : (if a < i then a else a + 1) < L.length := by split <;> omega
        have h2 : (if b < i then b else b + 1) < L.length := by split <;> omega
        have := hd _ _ h1 h2 e2
        split at this <;> split at this <;> omega)
      omega
    · have := ih L (fun x hx => by
        have := h x hx
        have : x ≠ n := fun q => hn (q ▸ hx)
        omega) hd
      omega
theorem okN_drop {N : List Nd} (h : okN N) (k t : Nat) : ndK ((kF N k t).map (fun x => x.2.1)) ∧ ∀ x ∈ (kF N k t).map (fun x => x.2.1), x < 256 := by
  refine ⟨?_, fun x hx => ?_⟩
  · have key : ∀ n t, t + n = N.length → ndK ((kF N k t).map (fun x => x.2.1)) ∧ ∀ x ∈ kF N k t, ∃ j, t ≤ j ∧ j < N.length ∧ nd N j = x ∧ x.1 = k := by
      intro n
      induction n with
      | zero =>
        intro t ht
        rw [kF_end (by omega)]
        exact ⟨fun i j hi => absurd hi (Nat.not_lt_zero _), fun x hx => by cases hx⟩
      | succ n ih =>
        intro t ht
        obtain ⟨i1, i2⟩ := ih (t + 1) (by omega)
        by_cases hk : (nd N t).1 = k
        · rw [kF_yes (by omega) hk]
          refine ⟨?_, fun x hx => ?_⟩
          · rw [List.map_cons]
            have hnot : (nd N t).2.1 ∉ (kF N k (t + 1)).map (fun x => x.2.1) := by
              intro q
              obtain ⟨y, hy, e⟩ := List.mem_map.mp q
              obtain ⟨j, h1, h2, h3, h4⟩ := i2 y hy
              have := h.2 j t h2 (by omega) (by rw [h3, h4, hk]) (by rw [h3]; exact e)
              omega
            intro a b ha hb e
            simp only [List.length_cons] at ha hb
            cases a with
            | zero =>
              cases b with
              | zero => rfl
              | succ b =>
                exfalso
                apply hnot
                have e' : (nd N t).2.1 = ((kF N k (t + 1)).map (fun x => x.2.1)).getD b 0 := e
                rw [e']
                exact getD_mem (by omega)
            | succ a =>
              cases b with
              | zero =>
                exfalso
                apply hnot
                have e' : ((kF N k (t + 1)).map (fun x => x.2.1)).getD a 0 = (nd N t).2.1 := e
                rw [← e']
                exact getD_mem (by omega)
              | succ b =>
                have := i1 a b (by omega) (by omega) e
                omega
          · rcases List.mem_cons.mp hx with q | q
            · exact ⟨t, Nat.le_refl _, by omega, q.symm, by rw [q]; exact hk⟩
            · obtain ⟨j, h1, h2, h3⟩ := i2 x q
              exact ⟨j, by omega, h2, h3⟩
        · rw [kF_no (by omega) hk]
          refine ⟨i1, fun x hx => ?_⟩
          obtain ⟨j, h1, h2, h3⟩ := i2 x hx
          exact ⟨j, by omega, h2, h3⟩
    by_cases ht : t ≤ N.length
    · exact (key (N.length - t) t (by omega)).1
    · rw [kF_end (by omega)]
      exact fun i j hi => absurd hi (Nat.not_lt_zero _)
  · obtain ⟨y, hy, rfl⟩ := List.mem_map.mp hx
    unfold kF at hy
    exact (h.1 y (List.mem_of_mem_drop (List.mem_filter.mp hy).1)).2.1
theorem kF_256 {N : List Nd} (h : okN N) (k t : Nat) : (kF N k t).length ≤ 256 := by
  have := okN_drop h k t
  have h2 := pigeon 256 _ this.2 this.1
  rw [List.length_map] at h2
  exact h2
/-- where a byte's part begins, or the escape's -/
def bgS (w : Int32) : List Nd → Nat → Nat
  | [], a => a
  | x :: xs, a => if nI x.2.1 = w then a else bgS w xs (a + x.2.2)
theorem cn_le (out : Nat → Bool) (b : Nat) : cn out b ≤ b := by
  induction b with
  | zero => exact Nat.le_refl _
  | succ b ih =>
    unfold cn
    split <;> omega
theorem cn_mono (out : Nat → Bool) {a b : Nat} (h : a ≤ b) : cn out a ≤ cn out b := by
  induction b with
  | zero => rw [show a = 0 by omega]; exact Nat.le_refl _
  | succ b ih =>
    by_cases e : a = b + 1
    · rw [e]; exact Nat.le_refl _
    · have := ih (by omega)
      show cn out a ≤ cn out b + _
      omega
