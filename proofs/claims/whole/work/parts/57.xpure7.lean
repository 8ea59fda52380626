theorem i32_eq {o : Int32} {k : Nat} (hk : k < 2 ^ 31) (h : o.toInt = k) : o = nI k := Int32.toInt_inj.mp (by rw [nI_toInt hk]; exact h)
theorem isC_neg {o b e : Int32} (h : o < 0) : isC o b e = false := by
  unfold isC kO
  rw [if_neg (fun q => by rw [q] at h; exact absurd h (by decide)), if_neg (fun q => by rw [q.1] at h; exact absurd h (by decide)), if_neg (fun q => by rw [q.1] at h; exact absurd h (by decide))]
  rfl
theorem isC_big {o b e : Int32} (h : nI 2 < o) : isC o b e = false := by
  unfold isC kO
  rw [if_neg (fun q => by rw [q] at h; exact absurd h (by decide)), if_neg (fun q => by rw [q.1] at h; exact absurd h (by decide)), if_neg (fun q => by rw [q.1] at h; exact absurd h (by decide))]
  rfl
theorem isC_0 (b e : Int32) {o : Int32} (h : o = 0) : isC o b e = true := by
  unfold isC kO
  rw [if_pos h]
  rfl
theorem isC_b {o b e : Int32} (h : ¬ o = 0) (hb : isB b = false) : isC o b e = false := by
  unfold isC kO
  rw [if_neg h, if_neg (fun q => by rw [hb] at q; exact absurd q.2 (by decide)), if_neg (fun q => by rw [hb] at q; exact absurd q.2.1 (by decide))]
  rfl
theorem isC_e {o b e : Int32} (h : ¬ o = 0) (h2 : ¬ o < nI 2) (he : isB e = false) : isC o b e = false := by
  unfold isC kO
  rw [if_neg h, if_neg (fun q => by rw [q.1] at h2; exact absurd (by decide) h2), if_neg (fun q => by rw [he] at q; exact absurd q.2.2 (by decide))]
  rfl
theorem isC_1 {o b e : Int32} (h : ¬ o < 0) (h0 : ¬ o = 0) (h2 : o < nI 2) (hb : isB b = true) : isC o b e = true := by
  have e1 : o = 1 := Int32.toInt_inj.mp (by
    rw [Int32.lt_iff_toInt_lt, Int32.toInt_zero] at h
    rw [Int32.lt_iff_toInt_lt, nI_toInt (by decide)] at h2
    have h3 : ¬ o.toInt = 0 := fun q => h0 (Int32.toInt_inj.mp (by rw [q]; rfl))
    show o.toInt = 1
    omega)
  unfold isC kO
  rw [if_neg h0, if_pos ⟨e1, hb⟩]
  rfl
theorem isC_2 {o b e : Int32} (h : ¬ o < nI 2) (h2 : ¬ nI 2 < o) (hb : isB b = true) (he : isB e = true) : isC o b e = true := by
  have e1 : o = 2 := Int32.toInt_inj.mp (by
    rw [Int32.lt_iff_toInt_lt, nI_toInt (by decide)] at h
    rw [Int32.lt_iff_toInt_lt, nI_toInt (by decide)] at h2
    show o.toInt = 2
    omega)
  unfold isC kO
  rw [if_neg (fun q => by rw [e1] at q; exact absurd q (by decide)), if_neg (fun q => by rw [e1] at q; exact absurd q.1 (by decide)), if_pos ⟨e1, hb, he⟩]
  rfl
theorem isC_n {o b e : Int32} (h : isC o b e = false) : kO o b e = none := by
  unfold isC at h
  cases hk : kO o b e with
  | none => rfl
  | some k => rw [hk] at h; exact absurd h (by simp)
theorem isC_s {o b e : Int32} (h : isC o b e = true) : ∃ k, kO o b e = some k := by
  unfold isC at h
  cases hk : kO o b e with
  | none => rw [hk] at h; exact absurd h (by simp)
  | some k => exact ⟨k, rfl⟩
theorem kO_ctxI {o b e : Int32} {k : Nat} (h : kO o b e = some k) : (if o = nI 0 then nI 0 else if o = nI 1 then nI 1 + b else nI 257 + nI 256 * b + e) = nI k := by
  unfold kO at h
  split at h
  · rename_i q
    cases h
    exact if_pos q
  · rename_i q0
    split at h
    · rename_i q
      obtain ⟨v, hv, rfl⟩ := isB_nI q.2
      cases h
      rw [if_neg (show ¬ o = nI 0 from q0), if_pos (show o = nI 1 from q.1), nI_clamp (by omega)]
      exact nI_add _ _
    · rename_i q1
      split at h
      · rename_i q
        obtain ⟨v, hv, rfl⟩ := isB_nI q.2.1
        obtain ⟨w, hw, rfl⟩ := isB_nI q.2.2
        cases h
        rw [if_neg (show ¬ o = nI 0 from q0), if_neg (fun q9 => absurd (q9.symm.trans q.1) (by decide)), nI_clamp (by omega), nI_clamp (by omega), pk_mul, nI_add, nI_add, Nat.mul_comm 256 v]
      · cases h
theorem atW_neg {T C O : List Nat} {w i : Int32} (h : i < 0) : atW T C O w i = -1 := by
  unfold atW atI
  rw [inL_neg h, inL_neg h, inL_neg h]
  simp
theorem atI_in {L : List Nat} {j : Nat} (hj : j < 2 ^ 31) (h : j < L.length) : atI L (nI j) = nI (L.getD j 0) := by
  unfold atI
  rw [inL_nI hj, if_pos (decide_eq_true h), nI_clamp hj]
theorem atI_out {L : List Nat} {j : Nat} (hj : j < 2 ^ 31) (h : ¬ j < L.length) : atI L (nI j) = -1 := by
  unfold atI
  rw [inL_nI hj, if_neg (by rw [decide_eq_false h]; decide)]
theorem msk16 {n : Nat} (h : n < 32768) : nI n &&& 65535 = nI n := by
  rw [pk_andN (by omega) 16 (by decide), show (2 : Nat) ^ 16 = 65536 by decide, Nat.mod_eq_of_lt (by omega)]
theorem ob_lt : ∀ o, o < 4 → nI o - nI 1 < nI 7 := by decide
theorem ob_t : ∀ o, o < 4 → nI (o + 7) - nI 8 = nI o - 1 := by decide
theorem ob_f : ∀ o, o < 4 → nI o - nI 1 - nI 0 = nI o - 1 := by decide
theorem SS_at {u0 u1 u2 u3 : Nat → Int32} {st : List Stq} (h : SS u0 u1 u2 u3 st) (hs : ∀ x ∈ st, okS x) {j : Nat} (hj : j < st.length) : ∃ x : Stq, st.getD j sD = x ∧ okS x ∧ u0 j = nI x.1 ∧ u1 j = nI x.2.1 ∧ u2 j = nI x.2.2.1 ∧ u3 j = obS x := ⟨_, rfl, hs _ (getD_mem hj), h j hj⟩
theorem keys_old {N : List Nd} {i : Nat} (h : i < N.length) (hx : ∃ t, t < i ∧ (nd N t).1 = (nd N i).1) : (keysOf (N.take (i + 1))).length = (keysOf (N.take i)).length := by
  obtain ⟨t, h1, h2⟩ := hx
  rw [take_nd h, keysOf_app, if_pos ((keysOf_mem _ _).mpr ⟨nd N t, ?_, h2⟩)]
  rw [nd_eq (by omega)]
  rw [List.mem_take_iff_getElem]
  exact ⟨t, by omega, rfl⟩
theorem keys_new {N : List Nd} {i : Nat} (h : i < N.length) (hx : ∀ t, t < i → ¬ (nd N t).1 = (nd N i).1) : (keysOf (N.take (i + 1))).length = (keysOf (N.take i)).length + 1 := by
  rw [take_nd h, keysOf_app, if_neg (fun q => ?_), List.length_append, List.length_singleton]
  obtain ⟨x, h1, h2⟩ := (keysOf_mem _ _).mp q
  rw [List.mem_take_iff_getElem] at h1
  obtain ⟨t, h3, h4⟩ := h1
  exact hx t (by omega) (by rw [nd_eq (by omega), h4]; exact h2)
theorem nix_nb {N : List Nd} {k : Nat} {w : Int32} (hok : okN N) (h : isB w = false) : nix N k w = none := nix_none (fun j hj _ q => by
  have := isB_of (okN_at hok hj).2.1
  rw [q, h] at this
  exact absurd this (by decide))
theorem lrI_n {N : List Nd} {o b e w : Int32} (h : isC o b e = false) : lrI N o b e w = nI 0 := by
  unfold lrI
  rw [isC_n h]
theorem lrI_b {N : List Nd} {o b e w : Int32} (hok : okN N) (h : isB w = false) : lrI N o b e w = nI 0 := by
  unfold lrI
  cases kO o b e with
  | none => rfl
  | some k => dsimp only; rw [nix_nb hok h]
theorem ndI_n {N : List Nd} {o b e w : Int32} (h : isC o b e = false) : ndI N o b e w = -1 := by
  unfold ndI
  rw [isC_n h]
theorem ndI_neg {N : List Nd} {o b e w : Int32} (h : ¬ 0 ≤ w) : ndI N o b e w = -1 := by
  rw [Int32.le_iff_toInt_le, Int32.toInt_zero] at h
  unfold ndI
  cases kO o b e with
  | none => rfl
  | some k => dsimp only; rw [if_neg (by omega)]
theorem ndI_in {N : List Nd} {o b e : Int32} {k v cnt i : Nat} (hk : kO o b e = some k) (hv : v < 2 ^ 31) (h : i < N.length) (h1 : (nd N i).1 = k) (hp : ∃ L, kF N k 0 = L ++ kF N k i ∧ L.length = cnt) (hc : cnt = v) : ndI N o b e (nI v) = nI (nd N i).2.1 := by
  obtain ⟨L, h2, h3⟩ := hp
  rw [kF_yes h h1] at h2
  unfold ndI
  rw [hk]
  dsimp only
  rw [if_pos ⟨by rw [nI_toInt hv]; omega, by rw [nI_toInt hv, h2, List.length_append, List.length_cons]; omega⟩, nI_clamp hv, h2]
  have : (L ++ nd N i :: kF N k (i + 1)).getD v (0, 0, 0) = nd N i := by
    rw [← hc, ← h3]
    simp [List.getD]
  rw [this]
theorem ndI_out {N : List Nd} {o b e : Int32} {k v cnt i : Nat} (hk : kO o b e = some k) (hv : v < 2 ^ 31) (h : N.length ≤ i) (hp : ∃ L, kF N k 0 = L ++ kF N k i ∧ L.length = cnt) (hc : cnt ≤ v) : ndI N o b e (nI v) = -1 := by
  obtain ⟨L, h2, h3⟩ := hp
  rw [kF_end h, List.append_nil] at h2
  unfold ndI
  rw [hk]
  dsimp only
  rw [if_neg (fun q => ?_)]
  have := q.2
  rw [nI_toInt hv, h2] at this
  omega
theorem kF_stp {N : List Nd} {k cnt i : Nat} (h : i < N.length) (h1 : (nd N i).1 = k) (hp : ∃ L, kF N k 0 = L ++ kF N k i ∧ L.length = cnt) : ∃ L, kF N k 0 = L ++ kF N k (i + 1) ∧ L.length = cnt + 1 := by
  obtain ⟨L, h2, h3⟩ := hp
  rw [kF_yes h h1] at h2
  exact ⟨L ++ [nd N i], by rw [h2, List.append_assoc]; rfl, by rw [List.length_append, h3]; rfl⟩
theorem kF_sk {N : List Nd} {k cnt i : Nat} (h : i < N.length) (h1 : ¬ (nd N i).1 = k) (hp : ∃ L, kF N k 0 = L ++ kF N k i ∧ L.length = cnt) : ∃ L, kF N k 0 = L ++ kF N k (i + 1) ∧ L.length = cnt := by
  obtain ⟨L, h2, h3⟩ := hp
  rw [kF_no h h1] at h2
  exact ⟨L, h2, h3⟩
