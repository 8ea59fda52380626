/-! what a context learns, as the class does it -/
def gnL (lim k b : Nat) (N : List Nd) (gn : Nat) : Nat := if N.any (isN k b) = true then gn else if lim ≤ N.length then gn else max gn (gN (N.length + 1))
def gcL (lim k b : Nat) (N : List Nd) (gc : Nat) : Nat := if N.any (isN k b) = true then gc else if lim ≤ N.length then gc else if k ∈ keysOf N then gc else max gc (gN ((keysOf N).length + 1))
theorem gnL_up (lim k b : Nat) (N : List Nd) (gn : Nat) : gn ≤ gnL lim k b N gn := by
  unfold gnL
  split
  · exact Nat.le_refl _
  · split <;> omega
theorem gcL_up (lim k b : Nat) (N : List Nd) (gc : Nat) : gc ≤ gcL lim k b N gc := by
  unfold gcL
  split
  · exact Nat.le_refl _
  · split
    · exact Nat.le_refl _
    · split <;> omega
theorem lrn1_inc {lim k b rs rt : Nat} {N : List Nd} (h : N.any (isN k b) = true) (h2 : ¬ cntN k b N = 255) : lrn1 lim k b (N, rs, rt) = ((incN k b N, rs, rt), true) := by
  unfold lrn1
  rw [if_pos h, if_neg h2]
theorem lrn1_res {lim k b rs rt : Nat} {N : List Nd} (h : N.any (isN k b) = true) (h2 : cntN k b N = 255) : lrn1 lim k b (N, rs, rt) = ((incN k b (halv k N), rs + 1, rt), true) := by
  unfold lrn1
  rw [if_pos h, if_pos h2]
theorem lrn1_full {lim k b rs rt : Nat} {N : List Nd} (h : ¬ N.any (isN k b) = true) (h2 : lim ≤ N.length) : lrn1 lim k b (N, rs, rt) = (([], rs, rt + 1), false) := by
  unfold lrn1
  rw [if_neg h, if_pos h2]
theorem lrn1_add {lim k b rs rt : Nat} {N : List Nd} (h : ¬ N.any (isN k b) = true) (h2 : ¬ lim ≤ N.length) : lrn1 lim k b (N, rs, rt) = ((N ++ [(k, b, 1)], rs, rt), true) := by
  unfold lrn1
  rw [if_neg h, if_neg h2]
theorem cix_n {N : List Nd} {k : Nat} (h : cix (keysOf N) k = none) : k ∉ keysOf N := by
  intro q
  obtain ⟨i, hi, e⟩ := List.getElem_of_mem q
  have := cix_some (K := keysOf N) hi (k := k) (by simp [List.getD, List.getElem?_eq_getElem hi, e]) (keysOf_nd N)
  rw [h] at this
  cases this
theorem cix_s {N : List Nd} {k d : Nat} (h : cix (keysOf N) k = some d) : d < (keysOf N).length ∧ (keysOf N).getD d 0 = k := by
  unfold cix at h
  rw [List.findIdx?_eq_some_iff_getElem] at h
  obtain ⟨hd, e, -⟩ := h
  refine ⟨hd, ?_⟩
  simp only [List.getD, List.getElem?_eq_getElem hd, Option.getD_some]
  simpa using e
theorem any_key {N : List Nd} {k b : Nat} (h : N.any (isN k b) = true) : k ∈ keysOf N := by
  obtain ⟨x, hx, hx2⟩ := List.any_eq_true.mp h
  simp only [isN, Bool.and_eq_true, beq_iff_eq] at hx2
  exact (keysOf_mem _ _).mpr ⟨x, hx, hx2.1⟩
theorem nix_n {N : List Nd} {k b : Nat} (hb : b < 256) (h : nix N k (nI b) = none) : ¬ N.any (isN k b) = true := by
  intro q
  obtain ⟨x, hx, hx2⟩ := List.any_eq_true.mp q
  simp only [isN, Bool.and_eq_true, beq_iff_eq] at hx2
  unfold nix at h
  rw [List.findIdx?_eq_none_iff] at h
  have := h x hx
  simp [hx2.1, hx2.2] at this
theorem nix_s {N : List Nd} {k b j : Nat} (hb : b < 256) (hok : okN N) (h : nix N k (nI b) = some j) : j < N.length ∧ (nd N j).1 = k ∧ (nd N j).2.1 = b ∧ N.any (isN k b) = true ∧ cntN k b N = (nd N j).2.2 := by
  have h0 := h
  unfold nix at h
  rw [List.findIdx?_eq_some_iff_getElem] at h
  obtain ⟨hj, e, hlt⟩ := h
  simp only [Bool.and_eq_true, beq_iff_eq] at e
  have hm : N[j] ∈ N := List.getElem_mem hj
  have hbb : (N[j]).2.1 < 256 := (hok.1 _ hm).2.1
  have e2 : (N[j]).2.1 = b := (nI_eq (by omega) (by omega)).mp e.2
  have hin : isN k b N[j] = true := by simp [isN, e.1, e2]
  refine ⟨hj, by rw [nd_eq hj]; exact e.1, by rw [nd_eq hj]; exact e2, List.any_eq_true.mpr ⟨_, hm, hin⟩, ?_⟩
  unfold cntN
  rw [nd_eq hj]
  have hf : N.find? (isN k b) = some N[j] := by
    rw [List.find?_eq_some_iff_getElem]
    refine ⟨hin, j, hj, rfl, fun i hi => ?_⟩
    have h3 := hlt i hi
    simp only [Bool.and_eq_true, beq_iff_eq] at h3
    simp only [isN, Bool.not_eq_true', Bool.and_eq_false_iff, beq_eq_false_iff_ne, ne_eq]
    by_cases q : (N[i]).1 = k
    · right
      intro q2
      exact h3 ⟨q, by rw [q2]⟩
    · exact Or.inl q
  rw [hf]
  rfl
theorem MR_inc {N : List Nd} {gn gc k b j : Nat} {nb nc nn ck cf cl ct co bk : Nat → Int32} (h : MR N gn gc nb nc nn ck cf cl ct co bk) (hj : j < N.length) (h1 : (nd N j).1 = k) (h2 : (nd N j).2.1 = b) (h3 : (nd N j).2.2 < 255) : MR (incN k b N) gn gc nb (upd nc j (nI ((nd N j).2.2 + 1))) nn ck cf cl ct co bk := by
  have hok := h.2.2.2.2.2
  have hN := h.2.1
  have hu : ∀ i, i < N.length → isN k b (nd N i) = true → i = j := fun i hi q => by
    simp only [isN, Bool.and_eq_true, beq_iff_eq] at q
    exact hok.2 i j hi hj (by rw [q.1, h1]) (by rw [q.2, h2])
  refine MR_map (φ := fun x => if isN k b x = true then (x.1, x.2.1, x.2.2 + 1) else x) (fun x => ?_) (fun x hx => ?_) h (fun i hi => ?_)
  · split <;> exact ⟨rfl, rfl⟩
  · obtain ⟨i, hi, e⟩ := List.getElem_of_mem hx
    have hr := hok.1 x hx
    split
    · rename_i q
      have : i = j := hu i hi (by rw [nd_eq hi, e]; exact q)
      subst this
      rw [nd_eq hi, e] at h3
      exact ⟨by dsimp only; omega, by dsimp only; omega⟩
    · exact ⟨hr.2.2.1, hr.2.2.2⟩
  · by_cases e : i = j
    · subst e
      rw [pk_us, if_pos (by simp [isN, h1, h2])]
    · rw [pk_un e, if_neg (fun q => e (hu i hi q))]
      exact (hN i hi).2.1
theorem MR_halv {N : List Nd} {gn gc k : Nat} {nb nc nn ck cf cl ct co bk nc1 : Nat → Int32} (h : MR N gn gc nb nc nn ck cf cl ct co bk) (e : ∀ i, i < N.length → nc1 i = nI (if (nd N i).1 = k then ((nd N i).2.2 + 1) / 2 else (nd N i).2.2)) : MR (halv k N) gn gc nb nc1 nn ck cf cl ct co bk := by
  have hok := h.2.2.2.2.2
  refine MR_map (φ := fun x => if x.1 = k then (x.1, x.2.1, (x.2.2 + 1) / 2) else x) (fun x => ?_) (fun x hx => ?_) h (fun i hi => ?_)
  · split <;> exact ⟨rfl, rfl⟩
  · have hr := hok.1 x hx
    split
    · dsimp only
      omega
    · exact ⟨hr.2.2.1, hr.2.2.2⟩
  · rw [e i hi]
    split <;> rfl
theorem halv_nd {N : List Nd} {k j : Nat} (hj : j < N.length) (h1 : (nd N j).1 = k) : nd (halv k N) j = (k, (nd N j).2.1, ((nd N j).2.2 + 1) / 2) := by
  unfold halv
  rw [map_nd hj, if_pos h1, h1]
theorem halv_len (k : Nat) (N : List Nd) : (halv k N).length = N.length := List.length_map _
theorem incN_len (k b : Nat) (N : List Nd) : (incN k b N).length = N.length := List.length_map _
theorem FR_last {N : List Nd} {K : List Nat} {cf cl ct : Nat → Int32} {d k : Nat} (h : FR N K cf cl ct) (hd : d < K.length) (hk : K.getD d 0 = k) (hin : ∃ i, i < N.length ∧ (nd N i).1 = k) : ∃ la, cl d = nI la ∧ la < N.length := by
  obtain ⟨-, h2, -⟩ := h d hd
  rw [hk] at h2
  rcases h2 with ⟨-, q⟩ | ⟨j, q1, q2, -, -⟩
  · obtain ⟨i, hi, e⟩ := hin
    exact absurd e (q i hi)
  · exact ⟨j, q1, q2⟩
theorem keysOf_len (N : List Nd) : (keysOf N).length ≤ N.length := by
  induction N using rev_ind with
  | h0 => exact Nat.le_refl _
  | h1 l x ih =>
    rw [keysOf_app]
    split
    · simp
      omega
    · simp
      exact ih
theorem incN_keys (k b : Nat) (N : List Nd) : keysOf (incN k b N) = keysOf N := map_keys (φ := fun x => if isN k b x = true then (x.1, x.2.1, x.2.2 + 1) else x) (fun x => by split <;> rfl) N
theorem halv_keys (k : Nat) (N : List Nd) : keysOf (halv k N) = keysOf N := map_keys (φ := fun x => if x.1 = k then (x.1, x.2.1, (x.2.2 + 1) / 2) else x) (fun x => by split <;> rfl) N
def lrnG (lim : Nat) (key : Nat → Nat) (b lo : Nat) : Nat → List Nd × Nat × Nat → Nat × Nat → Nat × Nat
  | 0, _, g => g
  | n + 1, q, g => if n < lo then g else if (lrn1 lim (key n) b q).2 = true then lrnG lim key b lo n (lrn1 lim (key n) b q).1 (gnL lim (key n) b q.1 g.1, gcL lim (key n) b q.1 g.2) else (gnL lim (key n) b q.1 g.1, gcL lim (key n) b q.1 g.2)
theorem lrnG_up (lim : Nat) (key : Nat → Nat) (b lo n : Nat) (q : List Nd × Nat × Nat) (g : Nat × Nat) : g.1 ≤ (lrnG lim key b lo n q g).1 ∧ g.2 ≤ (lrnG lim key b lo n q g).2 := by
  induction n generalizing q g with
  | zero => exact ⟨Nat.le_refl _, Nat.le_refl _⟩
  | succ n ih =>
    have h1 := gnL_up lim (key n) b q.1 g.1
    have h2 := gcL_up lim (key n) b q.1 g.2
    unfold lrnG
    split
    · exact ⟨Nat.le_refl _, Nat.le_refl _⟩
    · split
      · have := ih (lrn1 lim (key n) b q).1 (gnL lim (key n) b q.1 g.1, gcL lim (key n) b q.1 g.2)
        dsimp only at this
        omega
      · exact ⟨h1, h2⟩
theorem lrn_s (lim : Nat) (key : Nat → Nat) (b lo n : Nat) (q : List Nd × Nat × Nat) : lrn lim key b lo (n + 1) q = if n < lo then q else if (lrn1 lim (key n) b q).2 = true then lrn lim key b lo n (lrn1 lim (key n) b q).1 else (lrn1 lim (key n) b q).1 := rfl
theorem lrnG_s (lim : Nat) (key : Nat → Nat) (b lo n : Nat) (q : List Nd × Nat × Nat) (g : Nat × Nat) : lrnG lim key b lo (n + 1) q g = if n < lo then g else if (lrn1 lim (key n) b q).2 = true then lrnG lim key b lo n (lrn1 lim (key n) b q).1 (gnL lim (key n) b q.1 g.1, gcL lim (key n) b q.1 g.2) else (gnL lim (key n) b q.1 g.1, gcL lim (key n) b q.1 g.2) := rfl
theorem lrn1_len {lim k b : Nat} {q : List Nd × Nat × Nat} (h : q.1.length ≤ lim) : (lrn1 lim k b q).1.1.length ≤ lim := by
  unfold lrn1
  split
  · split
    · dsimp only
      rw [incN_len, halv_len]
      exact h
    · dsimp only
      rw [incN_len]
      exact h
  · split
    · exact Nat.zero_le _
    · dsimp only
      rw [List.length_append, List.length_singleton]
      omega
