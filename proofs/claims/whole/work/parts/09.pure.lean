/-! steps -/
def sD : Stq := (0, 0, 0, 0, false)
/-- a step as one number -/
def pkS (x : Stq) : Nat := x.1 + x.2.1 * 1048576 + x.2.2.1 * 1099511627776 + x.2.2.2.1 * 1152921504606846976 + (if x.2.2.2.2 = true then 1 else 0) * 4611686018427387904
def SR (f : Nat → Int64) (st : List Stq) : Prop := ∀ j, j < st.length → f j = lN (pkS (st.getD j sD))
/-- the parts of a step are small -/
def okS (x : Stq) : Prop := x.1 < 32768 ∧ x.2.1 < 32768 ∧ x.2.2.1 < 32768 ∧ x.2.2.2.1 < 4
def escN (st : List Stq) : Nat := (st.filter (fun x => x.2.2.2.2)).length
theorem escN_app (st : List Stq) (x : Stq) : escN (st ++ [x]) = escN st + (if x.2.2.2.2 = true then 1 else 0) := by
  unfold escN
  rw [List.filter_append, List.length_append]
  congr 1
  by_cases h : x.2.2.2.2 = true
  · simp [h]
  · simp [h]
theorem SR_app {f : Nat → Int64} {st : List Stq} {x : Stq} {n : Nat} (h : SR f st) (hn : n = st.length) : SR (vp_updL f n (lN (pkS x))) (st ++ [x]) := by
  subst hn
  intro j hj
  simp only [List.length_append, List.length_singleton] at hj
  by_cases e : j = st.length
  · subst e
    simp [vp_updL, List.getD]
  · rw [show vp_updL f st.length (lN (pkS x)) j = f j by simp [vp_updL, e], h j (by omega)]
    simp [List.getD, List.getElem?_append_left (show j < st.length by omega)]
theorem SR_cpy {f g : Nat → Int64} {st : List Stq} {k : Nat} (h : SR f st) (hk : st.length ≤ k) : SR (va_cpy f g 0 0 k) st := by
  intro j hj
  rw [pk_cpy_in (by omega) (by omega), ← h j hj]
  simp
/-- what is asked of a step -/
def stepV (x : Stq) (w : Int32) : Int32 := if w.toInt = 0 then nI x.1 else if w.toInt = 1 then nI x.2.1 else if w.toInt = 2 then nI x.2.2.1 else if w.toInt = 3 then nI x.2.2.2.1 - 1 else if w.toInt = 4 then bI x.2.2.2.2 else -2
def stepI (st : List Stq) (i w : Int32) : Int32 := if 0 ≤ i.toInt ∧ i.toInt < st.length then stepV (st.getD i.toNatClampNeg sD) w else -2
theorem stepI_neg {st : List Stq} {i w : Int32} (h : i < 0) : stepI st i w = -2 := by
  rw [Int32.lt_iff_toInt_lt, Int32.toInt_zero] at h
  unfold stepI
  rw [if_neg (by omega)]
theorem stepI_big {st : List Stq} {j : Nat} {w : Int32} (hj : j < 2 ^ 31) (h : st.length ≤ j) : stepI st (nI j) w = -2 := by
  unfold stepI
  rw [nI_toInt hj, if_neg (by omega)]
theorem stepI_in {st : List Stq} {j : Nat} {w : Int32} (hj : j < 2 ^ 31) (h : j < st.length) : stepI st (nI j) w = stepV (st.getD j sD) w := by
  unfold stepI
  rw [nI_toInt hj, if_pos (by omega), nI_clamp hj]
theorem pkS_0 {x : Stq} (h : okS x) : pkS x % 1048576 = x.1 := by
  obtain ⟨h1, h2, h3, h4⟩ := h
  unfold pkS
  split <;> omega
theorem pkS_1 {x : Stq} (h : okS x) : pkS x / 1048576 % 1048576 = x.2.1 := by
  obtain ⟨h1, h2, h3, h4⟩ := h
  unfold pkS
  split <;> omega
theorem pkS_2 {x : Stq} (h : okS x) : pkS x / 1099511627776 % 1048576 = x.2.2.1 := by
  obtain ⟨h1, h2, h3, h4⟩ := h
  unfold pkS
  split <;> omega
theorem pkS_3 {x : Stq} (h : okS x) : pkS x / 1152921504606846976 % 4 = x.2.2.2.1 := by
  obtain ⟨h1, h2, h3, h4⟩ := h
  unfold pkS
  split <;> omega
theorem pkS_4 {x : Stq} (h : okS x) : pkS x / 4611686018427387904 % 2 = (if x.2.2.2.2 = true then 1 else 0) := by
  obtain ⟨h1, h2, h3, h4⟩ := h
  unfold pkS
  split <;> omega
theorem pkS_lt {x : Stq} (h : okS x) : pkS x < 2 ^ 63 := by
  obtain ⟨h1, h2, h3, h4⟩ := h
  unfold pkS
  split <;> omega
theorem gD_l {L M : List Nat} {j : Nat} (h : j < L.length) : (L ++ M).getD j 0 = L.getD j 0 := by simp [List.getD, List.getElem?_append_left h]
theorem gD_r {L M : List Nat} {j : Nat} (h : L.length ≤ j) : (L ++ M).getD j 0 = M.getD (j - L.length) 0 := by simp [List.getD, List.getElem?_append_right h]
/-! digits -/
theorem dig_len (n x : Nat) : (dig n x).length = n := by
  induction n generalizing x with
  | zero => rfl
  | succ n ih => simp [dig, ih]
theorem dig_lt (n x j : Nat) : (dig n x).getD j 0 < 256 := by
  induction n generalizing x j with
  | zero => simp [dig]
  | succ n ih =>
    unfold dig
    by_cases h : j < n
    · rw [gD_l (by rw [dig_len]; exact h)]
      exact ih _ _
    · rw [gD_r (by rw [dig_len]; omega), dig_len]
      by_cases e : j = n
      · subst e
        simp
        omega
      · rw [show ([x % 256] : List Nat).getD (j - n) 0 = 0 by simp [List.getD, show j - n ≠ 0 by omega]]
        decide
theorem dig_mod (n x : Nat) : dig n x = dig n (x % 256 ^ n) := by
  induction n generalizing x with
  | zero => rfl
  | succ n ih =>
    unfold dig
    rw [ih (x / 256), ih (x % 256 ^ (n + 1) / 256)]
    have e1 : x % 256 ^ (n + 1) / 256 = x / 256 % 256 ^ n := by rw [Nat.pow_succ, Nat.mul_comm, Nat.mod_mul_right_div_self]
    have e2 : x % 256 ^ (n + 1) % 256 = x % 256 := by rw [Nat.pow_succ]; exact Nat.mod_mul_left_mod _ _ _
    rw [e1, e2, Nat.mod_mod]
/-- one more, the carry going up -/
def cryL (L : List Nat) : Nat → List Nat
  | 0 => L
  | k + 1 => if L.getD k 0 < 255 then L.set k (L.getD k 0 + 1) else cryL (L.set k 0) k
theorem cryL_len (L : List Nat) (k : Nat) : (cryL L k).length = L.length := by
  induction k generalizing L with
  | zero => rfl
  | succ k ih =>
    unfold cryL
    split
    · simp
    · rw [ih]
      simp
theorem cryL_dig (n y : Nat) (Z : List Nat) : cryL (dig n y ++ Z) n = dig n (y + 1) ++ Z := by
  induction n generalizing y Z with
  | zero => rfl
  | succ n ih =>
    have e0 : dig (n + 1) y ++ Z = dig n (y / 256) ++ (y % 256 :: Z) := by simp [dig]
    have eg : (dig (n + 1) y ++ Z).getD n 0 = y % 256 := by
      rw [e0, gD_r (by rw [dig_len]; omega), dig_len]
      simp
    have es : ∀ v, (dig (n + 1) y ++ Z).set n v = dig n (y / 256) ++ (v :: Z) := by
      intro v
      rw [e0, List.set_append_right _ _ (by rw [dig_len]; omega), dig_len]
      simp
    unfold cryL
    rw [eg, es, es]
    split
    · have e1 : (y + 1) / 256 = y / 256 := by omega
      have e2 : (y + 1) % 256 = y % 256 + 1 := by omega
      simp [dig, e1, e2]
    · rw [ih]
      have e1 : (y + 1) / 256 = y / 256 + 1 := by omega
      have e2 : (y + 1) % 256 = 0 := by omega
      simp [dig, e1, e2]
theorem getD_mem {α : Type} {L : List α} {j : Nat} {d : α} (h : j < L.length) : L.getD j d ∈ L := by
  have e : L.getD j d = L[j] := by simp [List.getD, h]
  rw [e]
  exact List.getElem_mem h
theorem shl20 (n : Nat) : lN n <<< ((nI 20).toInt64 &&& 63) = lN (n * 1048576) := by rw [wb_shl n (by decide), show (2 : Nat) ^ 20 = 1048576 by decide]
theorem shl40 (n : Nat) : lN n <<< ((nI 40).toInt64 &&& 63) = lN (n * 1099511627776) := by rw [wb_shl n (by decide), show (2 : Nat) ^ 40 = 1099511627776 by decide]
theorem shl60 (n : Nat) : lN n <<< ((nI 60).toInt64 &&& 63) = lN (n * 1152921504606846976) := by rw [wb_shl n (by decide), show (2 : Nat) ^ 60 = 1152921504606846976 by decide]
theorem shl62 (n : Nat) : lN n <<< ((nI 62).toInt64 &&& 63) = lN (n * 4611686018427387904) := by rw [wb_shl n (by decide), show (2 : Nat) ^ 62 = 4611686018427387904 by decide]
theorem shl8 (n : Nat) : lN n <<< ((nI 8).toInt64 &&& 63) = lN (n * 256) := by rw [wb_shl n (by decide), show (2 : Nat) ^ 8 = 256 by decide]
theorem shr20 {n : Nat} (h : n < 2 ^ 64) : ((lN n).toUInt64 >>> ((nI 20).toInt64.toUInt64 &&& Int64.toUInt64 63)).toInt64 = lN (n / 1048576) := by rw [wb_shr h (by decide), show (2 : Nat) ^ 20 = 1048576 by decide]
theorem shr40 {n : Nat} (h : n < 2 ^ 64) : ((lN n).toUInt64 >>> ((nI 40).toInt64.toUInt64 &&& Int64.toUInt64 63)).toInt64 = lN (n / 1099511627776) := by rw [wb_shr h (by decide), show (2 : Nat) ^ 40 = 1099511627776 by decide]
theorem shr60 {n : Nat} (h : n < 2 ^ 64) : ((lN n).toUInt64 >>> ((nI 60).toInt64.toUInt64 &&& Int64.toUInt64 63)).toInt64 = lN (n / 1152921504606846976) := by rw [wb_shr h (by decide), show (2 : Nat) ^ 60 = 1152921504606846976 by decide]
theorem shr62 {n : Nat} (h : n < 2 ^ 64) : ((lN n).toUInt64 >>> ((nI 62).toInt64.toUInt64 &&& Int64.toUInt64 63)).toInt64 = lN (n / 4611686018427387904) := by rw [wb_shr h (by decide), show (2 : Nat) ^ 62 = 4611686018427387904 by decide]
theorem shr24 {n : Nat} (h : n < 2 ^ 64) : ((lN n).toUInt64 >>> ((nI 24).toInt64.toUInt64 &&& Int64.toUInt64 63)).toInt64 = lN (n / 16777216) := by rw [wb_shr h (by decide), show (2 : Nat) ^ 24 = 16777216 by decide]
/-- the packed step -/
theorem pkS_f (b w o x : Nat) : lN (b + w * 1048576 + o * 1099511627776 + x * 1152921504606846976 + 0 * 4611686018427387904) = lN (pkS (b, w, o, x, false)) := by
  have e : pkS (b, w, o, x, false) = b + w * 1048576 + o * 1099511627776 + x * 1152921504606846976 + 0 * 4611686018427387904 := by
    unfold pkS
    dsimp only
    rw [if_neg (by decide)]
  rw [e]
theorem pkS_t (b w o x : Nat) : lN (b + w * 1048576 + o * 1099511627776 + x * 1152921504606846976 + 1 * 4611686018427387904) = lN (pkS (b, w, o, x, true)) := by
  have e : pkS (b, w, o, x, true) = b + w * 1048576 + o * 1099511627776 + x * 1152921504606846976 + 1 * 4611686018427387904 := by
    unfold pkS
    dsimp only
    rw [if_pos rfl]
  rw [e]
