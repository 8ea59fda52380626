/-! THE REFERENCE'S ROWS -/
/-- an array of bytes holds a list -/
def BB (f : Nat → Int32) (L : List Nat) : Prop := ∀ j, j < L.length → f j &&& nI 255 = nI (L.getD j 0)
def NN (uk us un : Nat → Int32) (N : List Nd) : Prop := ∀ j, j < N.length → uk j = nI (nd N j).1 ∧ us j = nI (nd N j).2.1 ∧ un j = nI (nd N j).2.2
def obS (x : Stq) : Int32 := if x.2.2.2.2 = true then nI (x.2.2.2.1 + 7) else nI x.2.2.2.1 - nI 1
def SS (u0 u1 u2 u3 : Nat → Int32) (st : List Stq) : Prop := ∀ j, j < st.length → u0 j = nI (st.getD j sD).1 ∧ u1 j = nI (st.getD j sD).2.1 ∧ u2 j = nI (st.getD j sD).2.2.1 ∧ u3 j = obS (st.getD j sD)
def ZZ (uz : Nat → Int32) (out : Nat → Bool) : Prop := ∀ b, b < 257 → uz b = bI (out b)
theorem byte_ok : ∀ v, v < 256 → vp_nar .byte ((nI v).toInt8.toInt32) &&& nI 255 = nI v := by decide +kernel
theorem short_ok {v : Nat} (h : v < 32768) : vp_nar .short ((nI v).toInt16.toInt32) = nI v := by
  have e1 : (nI v).toInt16.toInt32 = nI v := Int32.toInt_inj.mp (by
    rw [Int16.toInt_toInt32, Int32.toInt_toInt16, nI_toInt (by omega)]
    exact Int.bmod_eq_of_le (by omega) (by omega))
  rw [e1]
  show (nI v).toInt16.toInt32 = nI v
  exact e1
theorem short_1 : vp_nar .short (nI 1) = nI 1 := by decide
theorem byte_0 : vp_nar .byte (nI 0) &&& nI 255 = nI 0 := by decide
theorem upd_at (f : Nat → Int32) (n : Nat) (v : Int32) : upd f n v n = v := by simp [upd]
theorem upd_ne (f : Nat → Int32) {n j : Nat} (v : Int32) (h : j ≠ n) : upd f n v j = f j := by simp [upd, h]
theorem BB_app {f : Nat → Int32} {L : List Nat} {v n : Nat} {y : Int32} (h : BB f L) (hy : y &&& nI 255 = nI v) (hn : n = L.length) : BB (upd f n y) (L ++ [v]) := by
  subst hn
  intro j hj
  simp only [List.length_append, List.length_singleton] at hj
  by_cases e : j = L.length
  · subst e
    rw [upd_at, hy]
    simp [List.getD]
  · rw [upd_ne _ _ e, h j (by omega)]
    simp [List.getD, List.getElem?_append_left (show j < L.length by omega)]
theorem BB_set {f : Nat → Int32} {L : List Nat} {j v : Nat} {y : Int32} (h : BB f L) (hy : y &&& nI 255 = nI v) (hj : j < L.length) : BB (upd f j y) (L.set j v) := by
  intro i hi
  rw [List.length_set] at hi
  by_cases e : i = j
  · subst e
    rw [upd_at, hy]
    simp [List.getD, hj]
  · rw [upd_ne _ _ e, h i hi]
    simp [List.getD, List.getElem?_set_ne (Ne.symm e)]
theorem BB_take {f : Nat → Int32} {L : List Nat} {n : Nat} (h : BB f L) : BB f (L.take n) := by
  intro i hi
  rw [List.length_take] at hi
  rw [h i (by omega)]
  simp [List.getD, List.getElem?_take, show i < n by omega]
theorem BB_nil (f : Nat → Int32) : BB f [] := fun j hj => absurd hj (Nat.not_lt_zero _)
theorem NN_nil (a b c : Nat → Int32) : NN a b c [] := fun j hj => absurd hj (Nat.not_lt_zero _)
theorem SS_nil (a b c d : Nat → Int32) : SS a b c d [] := fun j hj => absurd hj (Nat.not_lt_zero _)
theorem isB_gt {b : Int32} (h : nI 255 < b) : isB b = false := by
  rw [Int32.lt_iff_toInt_lt, nI_toInt (by decide)] at h
  simp only [isB, decide_eq_false_iff_not]
  omega
theorem isB_le {b : Int32} (h1 : ¬ b < 0) (h2 : ¬ nI 255 < b) : isB b = true := by
  rw [Int32.lt_iff_toInt_lt, Int32.toInt_zero] at h1
  rw [Int32.lt_iff_toInt_lt, nI_toInt (by decide)] at h2
  simp only [isB, decide_eq_true_eq]
  omega
theorem sG {st : List Stq} {x : Stq} {j : Nat} (h : j < st.length) : (st ++ [x]).getD j sD = st.getD j sD := by simp [List.getD, List.getElem?_append_left h]
theorem sE {st : List Stq} {x : Stq} : (st ++ [x]).getD st.length sD = x := by simp [List.getD]
theorem SS_app {u0 u1 u2 u3 : Nat → Int32} {st : List Stq} {a f t o : Nat} {y0 y1 y2 y3 : Int32} (h : SS u0 u1 u2 u3 st) (h0 : y0 = nI a) (h1 : y1 = nI f) (h2 : y2 = nI t) (h3 : y3 = nI o - nI 1) : SS (upd u0 st.length y0) (upd u1 st.length y1) (upd u2 st.length y2) (upd u3 st.length y3) (st ++ [(a, f, t, o, false)]) := by
  intro j hj
  simp only [List.length_append, List.length_singleton] at hj
  by_cases e : j = st.length
  · subst e
    rw [upd_at, upd_at, upd_at, upd_at, sE]
    exact ⟨h0, h1, h2, h3⟩
  · rw [upd_ne _ _ e, upd_ne _ _ e, upd_ne _ _ e, upd_ne _ _ e, sG (by omega)]
    exact h j (by omega)
theorem SS_esc {u0 u1 u2 u3 : Nat → Int32} {st : List Stq} {a f t o : Nat} {y : Int32} (h : SS u0 u1 u2 u3 (st ++ [(a, f, t, o, false)])) (hy : y = nI (o + 7)) : SS u0 u1 u2 (upd u3 st.length y) (st ++ [(a, f, t, o, true)]) := by
  intro j hj
  simp only [List.length_append, List.length_singleton] at hj
  have hh := h j (by simp; omega)
  by_cases e : j = st.length
  · subst e
    rw [sE] at hh
    rw [upd_at, sE]
    exact ⟨hh.1, hh.2.1, hh.2.2.1, hy⟩
  · rw [sG (by omega)] at hh
    rw [upd_ne _ _ e, sG (by omega)]
    exact hh
theorem NN_app {uk us un : Nat → Int32} {N : List Nd} {k b : Nat} {x y z : Int32} (h : NN uk us un N) (hx : x = nI k) (hy : y = nI b) (hz : z = nI 1) : NN (upd uk N.length x) (upd us N.length y) (upd un N.length z) (N ++ [(k, b, 1)]) := by
  intro j hj
  simp only [List.length_append, List.length_singleton] at hj
  by_cases e : j = N.length
  · subst e
    rw [upd_at, upd_at, upd_at, show nd (N ++ [(k, b, 1)]) N.length = (k, b, 1) by simp [nd, List.getD]]
    exact ⟨hx, hy, hz⟩
  · rw [upd_ne _ _ e, upd_ne _ _ e, upd_ne _ _ e, show nd (N ++ [(k, b, 1)]) j = nd N j by simp [nd, List.getD, List.getElem?_append_left (show j < N.length by omega)]]
    exact h j (by omega)
/-- the first node of a context that has the byte -/
def fx (N : List Nd) (k b : Nat) : Option Nat := N.findIdx? (isN k b)
theorem ob_ok : ∀ o, o < 4 → vp_nar .byte ((nI o - nI 1).toInt8.toInt32) = nI o - nI 1 ∧ vp_nar .byte ((nI o - nI 1 + nI 8).toInt8.toInt32) = nI (o + 7) := by decide
