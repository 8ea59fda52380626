theorem NN_inc {N : List Nd} {k b j : Nat} {uk us un : Nat → Int32} {y : Int32} (h : NN uk us un N) (hok : okN N) (hj : j < N.length) (h1 : (nd N j).1 = k) (h2 : (nd N j).2.1 = b) (hy : y = nI ((nd N j).2.2 + 1)) : NN uk us (upd un j y) (incN k b N) := by
  intro i hi
  rw [incN_len] at hi
  have hN := h i hi
  have e0 : nd (incN k b N) i = if isN k b (nd N i) = true then ((nd N i).1, (nd N i).2.1, (nd N i).2.2 + 1) else nd N i := map_nd hi
  rw [e0]
  by_cases e : i = j
  · subst e
    rw [if_pos (by simp [isN, h1, h2]), upd_at]
    exact ⟨hN.1, hN.2.1, hy⟩
  · rw [if_neg (fun q => by
      simp only [isN, Bool.and_eq_true, beq_iff_eq] at q
      exact e (hok.2 i j hi hj (by rw [q.1, h1]) (by rw [q.2, h2]))), upd_ne _ _ e]
    exact hN
/-- the first i nodes are halved -/
def halvT (k i : Nat) (N : List Nd) : List Nd := halv k (N.take i) ++ N.drop i
theorem NN_halv {N : List Nd} {k : Nat} {uk us un un1 : Nat → Int32} (h : NN uk us un N) (e : ∀ i, i < N.length → un1 i = nI (if (nd N i).1 = k then ((nd N i).2.2 + 1) / 2 else (nd N i).2.2)) : NN uk us un1 (halv k N) := by
  intro i hi
  rw [halv_len] at hi
  have hN := h i hi
  have e0 : nd (halv k N) i = if (nd N i).1 = k then ((nd N i).1, (nd N i).2.1, ((nd N i).2.2 + 1) / 2) else nd N i := map_nd hi
  rw [e0, e i hi]
  split
  · exact ⟨hN.1, hN.2.1, rfl⟩
  · exact ⟨hN.1, hN.2.1, rfl⟩
theorem okN_at {N : List Nd} (h : okN N) {j : Nat} (hj : j < N.length) : (nd N j).1 < 131072 ∧ (nd N j).2.1 < 256 ∧ 1 ≤ (nd N j).2.2 ∧ (nd N j).2.2 ≤ 255 := by
  rw [nd_eq hj]
  exact h.1 _ (List.getElem_mem hj)
/-- adding to a row's end, carry by carry -/
theorem add_dig (n x c : Nat) (Z : List Nat) : dig (n + 1) (x + c) ++ Z = dig n (x / 256 + (c + x % 256) / 256) ++ ((c + x % 256) % 256 :: Z) := by
  show dig n ((x + c) / 256) ++ [(x + c) % 256] ++ Z = _
  rw [show (x + c) / 256 = x / 256 + (c + x % 256) / 256 by omega, show (x + c) % 256 = (c + x % 256) % 256 by omega, List.append_assoc]
  rfl
theorem dig_last (n x : Nat) (Z : List Nat) : (dig (n + 1) x ++ Z).getD n 0 = x % 256 := by
  show (dig n (x / 256) ++ [x % 256] ++ Z).getD n 0 = _
  rw [List.append_assoc, gD_r (by rw [dig_len]; exact Nat.le_refl _), dig_len, Nat.sub_self]
  rfl
theorem dig_set (n x v : Nat) (Z : List Nat) : (dig (n + 1) x ++ Z).set n v = dig n (x / 256) ++ (v :: Z) := by
  show (dig n (x / 256) ++ [x % 256] ++ Z).set n v = _
  rw [List.append_assoc, List.set_append_right _ _ (show (dig n (x / 256)).length ≤ n by rw [dig_len]; exact Nat.le_refl _), dig_len, Nat.sub_self]
  rfl
theorem dig_0 (n x : Nat) : dig (n + 1) (x * 256) = dig n x ++ [0] := by
  show dig n (x * 256 / 256) ++ [x * 256 % 256] = _
  rw [Nat.mul_div_cancel _ (by decide), Nat.mul_mod_left]
theorem byte_c (c : Nat) : vp_nar .byte ((nI c).toInt8.toInt32) &&& nI 255 = nI (c % 256) := by
  have e : (nI c).toInt8 = (nI (c % 256)).toInt8 := by
    have h1 : (nI c).toInt8 = Int8.ofNat c := by simp [nI]
    have h2 : (nI (c % 256)).toInt8 = Int8.ofNat (c % 256) := by simp [nI]
    rw [h1, h2, ← Int8.toBitVec_inj]
    show BitVec.ofNat 8 c = BitVec.ofNat 8 (c % 256)
    apply BitVec.eq_of_toNat_eq
    simp
  rw [e]
  exact byte_ok _ (Nat.mod_lt _ (by decide))
theorem kAt_3 {h : List Nat} {n : Nat} (hn : n < 3) : (if nI n = nI 0 then nI 0 else if nI n = nI 1 then nI (1 + h.getD 0 0) else nI (257 + h.getD 0 0 * 256 + h.getD 1 0)) = nI (kAt h n) := by
  have : n = 0 ∨ n = 1 ∨ n = 2 := by omega
  rcases this with rfl | rfl | rfl
  · rfl
  · rw [if_neg (by decide), if_pos rfl]
    rfl
  · rw [if_neg (by decide), if_neg (by decide)]
    rfl
theorem kO_ctx {o b e : Int32} {k : Nat} (h : kO o b e = some k) : ∃ bb ee : Nat, (o = nI 0 ∨ b = nI bb) ∧ (o = nI 0 ∨ o = nI 1 ∨ e = nI ee) ∧ (if o = nI 0 then nI 0 else if o = nI 1 then nI (1 + bb) else nI (257 + bb * 256 + ee)) = nI k := by
  unfold kO at h
  split at h
  · rename_i q
    cases h
    exact ⟨0, 0, Or.inl q, Or.inl q, if_pos q⟩
  · rename_i q0
    split at h
    · rename_i q
      obtain ⟨v, hv, rfl⟩ := isB_nI q.2
      cases h
      refine ⟨v, 0, Or.inr rfl, Or.inr (Or.inl q.1), ?_⟩
      rw [if_neg (show ¬ o = nI 0 from q0), if_pos (show o = nI 1 from q.1), nI_clamp (by omega)]
    · rename_i q1
      split at h
      · rename_i q
        obtain ⟨v, hv, rfl⟩ := isB_nI q.2.1
        obtain ⟨w, hw, rfl⟩ := isB_nI q.2.2
        cases h
        refine ⟨v, w, Or.inr rfl, Or.inr (Or.inr rfl), ?_⟩
        rw [if_neg (show ¬ o = nI 0 from q0), if_neg (fun q9 => absurd (q9.symm.trans q.1) (by decide)), nI_clamp (by omega), nI_clamp (by omega)]
      · cases h
/-- isContext -/
def isC (o b e : Int32) : Bool := (kO o b e).isSome
theorem shs8 {n : Nat} (h : n < 2 ^ 62) : lN n >>> ((nI 8).toInt64 &&& 63) = lN (n / 256) := by
  have hI : ∀ k : Nat, k < 2 ^ 62 → (lN k).toInt = k := fun k hk => by
    show (Int64.ofNat k).toInt = k
    rw [Int64.toInt_ofNat_of_lt (by omega)]
  have h2 : n / 256 ≤ n := Nat.div_le_self _ _
  have e : (lN n >>> ((nI 8).toInt64 &&& 63)).toInt = (lN n).toInt >>> 8 := BitVec.toInt_sshiftRight ..
  apply Int64.toInt_inj.mp
  rw [e, Int.shiftRight_eq_div_pow, hI n h, hI _ (by omega)]
  rfl
