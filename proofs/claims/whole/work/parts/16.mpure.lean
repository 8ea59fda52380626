/-! THE CLASS's MODEL: chains through rows, held against the flat list of nodes -/
def oI (x : Option Nat) : Int32 := match x with
  | none => -1
  | some n => nI n
theorem oI_n : oI none = -1 := rfl
theorem oI_s (n : Nat) : oI (some n) = nI n := rfl
def bkt (k : Nat) : Nat := (k ^^^ (k / 256)) % 256
theorem bkt_lt (k : Nat) : bkt k < 256 := Nat.mod_lt _ (by decide)
theorem nI_xor (a b : Nat) : nI a ^^^ nI b = nI (a ^^^ b) := by
  apply Int32.toBitVec_inj.mp
  show (BitVec.ofNat 32 a) ^^^ (BitVec.ofNat 32 b) = BitVec.ofNat 32 (a ^^^ b)
  apply BitVec.eq_of_toNat_eq
  simp [BitVec.toNat_xor, Nat.xor_mod_two_pow]
theorem bkt_nI {k : Nat} (h : k < 2 ^ 31) : (nI k ^^^ (nI k >>> (nI 8 &&& 31))) &&& nI 255 = nI (bkt k) := by
  rw [pk_shrN h (nI 8 &&& 31) 8 (by decide), show (2 : Nat) ^ 8 = 256 by decide, nI_xor, pk_andN (Nat.lt_of_lt_of_le (Nat.xor_lt_two_pow (n := 31) h (by omega)) (by decide)) 8 (by decide)]
  rfl
/-- the least place from lo on, below hi, of a kind; -1 if there is none -/
def isNx (P : Nat → Prop) (lo hi : Nat) (r : Int32) : Prop := (r = -1 ∧ ∀ j, lo ≤ j → j < hi → ¬ P j) ∨ ∃ j, r = nI j ∧ lo ≤ j ∧ j < hi ∧ P j ∧ ∀ t, lo ≤ t → t < j → ¬ P t
/-- the greatest place below hi of a kind; -1 if there is none -/
def isPv (P : Nat → Prop) (hi : Nat) (r : Int32) : Prop := (r = -1 ∧ ∀ j, j < hi → ¬ P j) ∨ ∃ j, r = nI j ∧ j < hi ∧ P j ∧ ∀ t, j < t → t < hi → ¬ P t
/-- the contexts, in the order in which they came -/
def keysOf (N : List Nd) : List Nat := N.foldl (fun K x => if x.1 ∈ K then K else K ++ [x.1]) []
theorem keysOf_app (N : List Nd) (x : Nd) : keysOf (N ++ [x]) = if x.1 ∈ keysOf N then keysOf N else keysOf N ++ [x.1] := by
  unfold keysOf
  rw [List.foldl_append]
  rfl
theorem keysOf_nil : keysOf [] = [] := rfl
/-- induction from behind -/
theorem rev_ind {α : Type} {P : List α → Prop} (h0 : P []) (h1 : ∀ l x, P l → P (l ++ [x])) : ∀ l, P l := by
  intro l
  have h : ∀ n (l : List α), l.length = n → P l := by
    intro n
    induction n with
    | zero => intro l hl; rw [List.eq_nil_of_length_eq_zero hl]; exact h0
    | succ n ih =>
      intro l hl
      have hne : l ≠ [] := fun h => by rw [h] at hl; cases hl
      rw [← List.dropLast_concat_getLast hne]
      exact h1 _ _ (ih _ (by rw [List.length_dropLast]; omega))
  exact h l.length l rfl
theorem keysOf_mem (N : List Nd) (k : Nat) : k ∈ keysOf N ↔ ∃ x ∈ N, x.1 = k := by
  induction N using rev_ind with
  | h0 => simp [keysOf_nil]
  | h1 l x ih =>
    rw [keysOf_app]
    split
    · rename_i h
      rw [ih]
      constructor
      · rintro ⟨y, hy, e⟩
        exact ⟨y, List.mem_append_left _ hy, e⟩
      · rintro ⟨y, hy, e⟩
        rcases List.mem_append.mp hy with h2 | h2
        · exact ⟨y, h2, e⟩
        · rw [List.mem_singleton] at h2
          subst h2
          rw [← ih, ← e]
          exact h
    · rw [List.mem_append, ih, List.mem_singleton]
      constructor
      · rintro (⟨y, hy, e⟩ | e)
        · exact ⟨y, List.mem_append_left _ hy, e⟩
        · exact ⟨x, List.mem_append_right _ (List.mem_singleton.mpr rfl), e.symm⟩
      · rintro ⟨y, hy, e⟩
        rcases List.mem_append.mp hy with h2 | h2
        · exact Or.inl ⟨y, h2, e⟩
        · rw [List.mem_singleton] at h2
          subst h2
          exact Or.inr e.symm
/-- no two alike -/
def ndK (K : List Nat) : Prop := ∀ i j, i < K.length → j < K.length → K.getD i 0 = K.getD j 0 → i = j
theorem ndK_app {K : List Nat} {k : Nat} (h : ndK K) (hk : k ∉ K) : ndK (K ++ [k]) := by
  intro i j hi hj e
  simp only [List.length_append, List.length_singleton] at hi hj
  have hm : ∀ t, t < K.length → K.getD t 0 ≠ k := fun t ht q => hk (q ▸ getD_mem ht)
  have hs : (K ++ [k]).getD K.length 0 = k := by rw [gD_r (Nat.le_refl _)]; simp
  by_cases h1 : i < K.length
  · by_cases h2 : j < K.length
    · rw [gD_l h1, gD_l h2] at e
      exact h i j h1 h2 e
    · have : j = K.length := by omega
      subst this
      rw [gD_l h1, hs] at e
      exact absurd e (hm i h1)
  · have : i = K.length := by omega
    subst this
    by_cases h2 : j < K.length
    · rw [gD_l h2, hs] at e
      exact absurd e.symm (hm j h2)
    · omega
theorem keysOf_nd (N : List Nd) : ndK (keysOf N) := by
  induction N using rev_ind with
  | h0 => intro i j hi; simp [keysOf_nil] at hi
  | h1 l x ih =>
    rw [keysOf_app]
    split
    · exact ih
    · rename_i h
      exact ndK_app ih h
def cix (K : List Nat) (k : Nat) : Option Nat := K.findIdx? (fun y => y == k)
theorem cix_none {K : List Nat} {k : Nat} (h : ∀ d, d < K.length → K.getD d 0 ≠ k) : cix K k = none := by
  unfold cix
  rw [List.findIdx?_eq_none_iff]
  intro x hx
  obtain ⟨i, hi, e⟩ := List.getElem_of_mem hx
  have := h i hi
  simp only [List.getD, List.getElem?_eq_getElem hi, Option.getD_some] at this
  simp
  rw [← e]
  exact this
theorem cix_some {K : List Nat} {k c : Nat} (hc : c < K.length) (e : K.getD c 0 = k) (hn : ndK K) : cix K k = some c := by
  unfold cix
  rw [List.findIdx?_eq_some_iff_getElem]
  refine ⟨hc, ?_, ?_⟩
  · simp only [List.getD, List.getElem?_eq_getElem hc, Option.getD_some] at e
    simp [e]
  · intro j hj
    simp
    intro q
    have h1 : K.getD j 0 = K.getD c 0 := by
      rw [e]
      simp [List.getD, List.getElem?_eq_getElem (show j < K.length by omega), q]
    have := hn j c (by omega) hc h1
    omega
/-- contexts, their keys, their buckets -/
def CR (K : List Nat) (ck co bk : Nat → Int32) : Prop := (∀ d, d < K.length → ck d = nI (K.getD d 0) ∧ K.getD d 0 < 131072 ∧ isPv (fun t => bkt (K.getD t 0) = bkt (K.getD d 0)) d (co d)) ∧ ∀ h, h < 256 → isPv (fun t => bkt (K.getD t 0) = h) K.length (bk h)
/-- nodes: byte, count, the next of the same context -/
def NR (N : List Nd) (nb nc nn : Nat → Int32) : Prop := ∀ i, i < N.length → nb i = nI (nd N i).2.1 ∧ nc i = nI (nd N i).2.2 ∧ isNx (fun j => (nd N j).1 = (nd N i).1) (i + 1) N.length (nn i)
/-- a context's nodes from a place on -/
def kF (N : List Nd) (k t : Nat) : List Nd := (N.drop t).filter (fun x => x.1 == k)
/-- a context's first and last node, and how many they are -/
def FR (N : List Nd) (K : List Nat) (cf cl ct : Nat → Int32) : Prop := ∀ d, d < K.length → isNx (fun j => (nd N j).1 = K.getD d 0) 0 N.length (cf d) ∧ isPv (fun j => (nd N j).1 = K.getD d 0) N.length (cl d) ∧ ct d = nI (kF N (K.getD d 0) 0).length
theorem nd_drop {N : List Nd} {t : Nat} (h : t < N.length) : N.drop t = nd N t :: N.drop (t + 1) := by
  rw [List.drop_eq_getElem_cons h]
  congr 1
  simp [nd, List.getD, List.getElem?_eq_getElem h]
theorem nd_take {N : List Nd} {t : Nat} (h : t < N.length) : N.take (t + 1) = N.take t ++ [nd N t] := by
  rw [List.take_succ_eq_append_getElem h]
  congr 2
  simp [nd, List.getD, List.getElem?_eq_getElem h]
theorem kF_no {N : List Nd} {k t : Nat} (h : t < N.length) (hk : ¬ (nd N t).1 = k) : kF N k t = kF N k (t + 1) := by
  unfold kF
  rw [nd_drop h, List.filter_cons_of_neg (by simp [hk])]
theorem kF_yes {N : List Nd} {k t : Nat} (h : t < N.length) (hk : (nd N t).1 = k) : kF N k t = nd N t :: kF N k (t + 1) := by
  unfold kF
  rw [nd_drop h, List.filter_cons_of_pos (by simp [hk])]
theorem kF_end {N : List Nd} {k t : Nat} (h : N.length ≤ t) : kF N k t = [] := by
  unfold kF
  rw [List.drop_eq_nil_of_le h]
  rfl
theorem kF_skip {N : List Nd} {k : Nat} (n t : Nat) (h : t + n ≤ N.length) (hn : ∀ j, t ≤ j → j < t + n → ¬ (nd N j).1 = k) : kF N k t = kF N k (t + n) := by
  induction n generalizing t with
  | zero => rfl
  | succ n ih =>
    rw [kF_no (by omega) (hn t (by omega) (by omega)), ih (t + 1) (by omega) (fun j h1 h2 => hn j (by omega) (by omega))]
    congr 1
    omega
theorem kF_none {N : List Nd} {k t : Nat} (hn : ∀ j, t ≤ j → j < N.length → ¬ (nd N j).1 = k) : kF N k t = [] := by
  by_cases h : N.length ≤ t
  · exact kF_end h
  · rw [kF_skip (N.length - t) t (by omega) (fun j h1 h2 => hn j h1 (by omega))]
    exact kF_end (by omega)
theorem kF_at {N : List Nd} {k t j : Nat} (h1 : t ≤ j) (h2 : j < N.length) (h3 : (nd N j).1 = k) (hn : ∀ i, t ≤ i → i < j → ¬ (nd N i).1 = k) : kF N k t = nd N j :: kF N k (j + 1) := by
  rw [kF_skip (j - t) t (by omega) (fun i g1 g2 => hn i g1 (by omega)), show t + (j - t) = j by omega, kF_yes h2 h3]
/-- where a chain goes on -/
theorem nx_nil {N : List Nd} {k t : Nat} {x : Int32} (h : isNx (fun j => (nd N j).1 = k) t N.length x) (hF : kF N k t = []) : x = -1 := by
  rcases h with h | ⟨j, e, h1, h2, h3, h4⟩
  · exact h.1
  · rw [kF_at h1 h2 h3 h4] at hF
    cases hF
theorem nx_cons {N : List Nd} {k t : Nat} {x : Int32} {y : Nd} {F : List Nd} (h : isNx (fun j => (nd N j).1 = k) t N.length x) (hF : kF N k t = y :: F) : ∃ j, x = nI j ∧ t ≤ j ∧ j < N.length ∧ nd N j = y ∧ (nd N j).1 = k ∧ kF N k (j + 1) = F ∧ ∀ i, t ≤ i → i < j → ¬ (nd N i).1 = k := by
  rcases h with h | ⟨j, e, h1, h2, h3, h4⟩
  · rw [kF_none h.2] at hF
    cases hF
  · rw [kF_at h1 h2 h3 h4] at hF
    injection hF with a b
    exact ⟨j, e, h1, h2, a, h3, b, h4⟩
theorem nx_key {N : List Nd} {j k lo : Nat} {x : Int32} (h : isNx (fun i => (nd N i).1 = (nd N j).1) lo N.length x) (e : (nd N j).1 = k) : isNx (fun i => (nd N i).1 = k) lo N.length x := by
  subst e
  exact h
def nix (N : List Nd) (k : Nat) (b : Int32) : Option Nat := N.findIdx? (fun x => x.1 == k && nI x.2.1 == b)
theorem nd_eq {N : List Nd} {i : Nat} (h : i < N.length) : nd N i = N[i] := by simp [nd, List.getD, List.getElem?_eq_getElem h]
theorem nix_none {N : List Nd} {k : Nat} {b : Int32} (h : ∀ j, j < N.length → (nd N j).1 = k → ¬ nI (nd N j).2.1 = b) : nix N k b = none := by
  unfold nix
  rw [List.findIdx?_eq_none_iff]
  intro x hx
  obtain ⟨i, hi, e⟩ := List.getElem_of_mem hx
  have := h i hi
  rw [nd_eq hi, e] at this
  simp
  exact this
theorem nix_some {N : List Nd} {k j : Nat} {b : Int32} (hj : j < N.length) (h1 : (nd N j).1 = k) (h2 : nI (nd N j).2.1 = b) (h : ∀ i, i < j → (nd N i).1 = k → ¬ nI (nd N i).2.1 = b) : nix N k b = some j := by
  unfold nix
  rw [List.findIdx?_eq_some_iff_getElem]
  refine ⟨hj, ?_, ?_⟩
  · rw [nd_eq hj] at h1 h2
    simp [h1, h2]
  · intro i hi
    have := h i hi
    rw [nd_eq (show i < N.length by omega)] at this
    simp
    exact this
/-- the bytes that came just before, as the class holds them -/
def HR (h : List Nat) (top bef ear : Int32) : Prop := top = nI (topO h) ∧ (1 ≤ h.length → bef = nI (h.getD 0 0)) ∧ (2 ≤ h.length → ear = nI (h.getD 1 0)) ∧ ∀ j, h.getD j 0 < 256
/-- a context's number, of any ints -/
def kO (o b e : Int32) : Option Nat := if o = 0 then some 0 else if o = 1 ∧ isB b = true then some (1 + b.toNatClampNeg) else if o = 2 ∧ isB b = true ∧ isB e = true then some (257 + b.toNatClampNeg * 256 + e.toNatClampNeg) else none
theorem kAt_lt {h : List Nat} (hh : ∀ j, h.getD j 0 < 256) (o : Nat) : kAt h o < 131072 := by
  have h0 := hh 0
  have h1 := hh 1
  unfold kAt
  split
  · decide
  · split <;> omega
theorem kO_here {h : List Nat} {top bef ear : Int32} {o : Nat} (hh : HR h top bef ear) (ho : o ≤ topO h) : oI (kO (nI o) bef ear) = nI (kAt h o) := by
  obtain ⟨-, h1, h2, h3⟩ := hh
  have h30 := h3 0
  have h31 := h3 1
  unfold topO at ho
  unfold kO kAt
  by_cases e0 : o = 0
  · subst e0
    rw [if_pos (by decide), if_pos rfl]
    rfl
  · by_cases e1 : o = 1
    · subst e1
      rw [if_neg (by decide), h1 (by omega), if_pos ⟨by decide, isB_of h30⟩, if_neg (by decide), if_pos rfl, nI_clamp (by omega)]
      rfl
    · have e2 : o = 2 := by omega
      subst e2
      rw [if_neg (by decide), h1 (by omega), h2 (by omega), if_neg (fun q => absurd q.1 (by decide)), if_pos ⟨by decide, isB_of h30, isB_of h31⟩, if_neg (by decide), if_neg (by decide), nI_clamp (by omega), nI_clamp (by omega)]
      rfl
theorem kF_len (N : List Nd) (k t : Nat) : (kF N k t).length ≤ N.length := by
  unfold kF
  refine Nat.le_trans (List.length_filter_le _ _) ?_
  rw [List.length_drop]
  omega
theorem kF_nil {N : List Nd} {k t j : Nat} (h : kF N k t = []) (h1 : t ≤ j) (h2 : j < N.length) : ¬ (nd N j).1 = k := by
  intro q
  have hm : nd N j ∈ kF N k t := by
    unfold kF
    rw [List.mem_filter]
    refine ⟨?_, by simp [q]⟩
    rw [nd_eq h2]
    exact List.mem_drop_iff_getElem.mpr ⟨j - t, by omega, by simp [show t + (j - t) = j by omega]⟩
  rw [h] at hm
  cases hm
