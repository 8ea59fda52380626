/-! THE LAW: what stays true between the calls -/
theorem gN_le {n g : Nat} (h : n ≤ 64 * 2 ^ g) : gN n ≤ g := (gN_iff n g).mp h
theorem gN_7 {n : Nat} (h : n ≤ 8192) : gN n ≤ 7 := gN_le (g := 7) (by omega)
theorem gN_9 {n : Nat} (h : n ≤ 32768) : gN n ≤ 9 := gN_le (g := 9) (by omega)
theorem gnL_le {lim k b gn : Nat} {N : List Nd} (hl : lim ≤ 6000) (h : gn ≤ 7) : gnL lim k b N gn ≤ 7 := by
  unfold gnL
  split
  · exact h
  · split
    · exact h
    · have := gN_7 (n := N.length + 1) (by omega)
      omega
theorem gcL_le {lim k b gc : Nat} {N : List Nd} (hl : lim ≤ 6000) (h : gc ≤ 7) : gcL lim k b N gc ≤ 7 := by
  have hk := keysOf_len N
  unfold gcL
  split
  · exact h
  · split
    · exact h
    · split
      · exact h
      · have := gN_7 (n := (keysOf N).length + 1) (by omega)
        omega
theorem lrnG_le {lim : Nat} (hl : lim ≤ 6000) (key : Nat → Nat) (b lo n : Nat) (q : List Nd × Nat × Nat) (g : Nat × Nat) (h : g.1 ≤ 7 ∧ g.2 ≤ 7) : (lrnG lim key b lo n q g).1 ≤ 7 ∧ (lrnG lim key b lo n q g).2 ≤ 7 := by
  induction n generalizing q g with
  | zero => exact h
  | succ n ih =>
    have h1 := gnL_le (k := key n) (b := b) (N := q.1) hl h.1
    have h2 := gcL_le (k := key n) (b := b) (N := q.1) hl h.2
    rw [lrnG_s]
    split
    · exact h
    · split
      · exact ih _ _ ⟨h1, h2⟩
      · exact ⟨h1, h2⟩
theorem encG_le {lim : Nat} (hl : lim ≤ 6000) (L : List Nat) (z : Run) (g : Nat × Nat) (h : g.1 ≤ 7 ∧ g.2 ≤ 7) : (encG lim L z g).1 ≤ 7 ∧ (encG lim L z g).2 ≤ 7 := by
  induction L generalizing z g with
  | nil => exact h
  | cons b bs ih => exact ih _ _ (lrnG_le hl _ _ _ _ _ _ h)
theorem decG_le {lim : Nat} (hl : lim ≤ 6000) (C : List Nat) (n : Nat) (z : Run) (g : Nat × Nat) (h : g.1 ≤ 7 ∧ g.2 ≤ 7) : (decG lim C n z g).1 ≤ 7 ∧ (decG lim C n z g).2 ≤ 7 := by
  induction n generalizing z g with
  | zero => exact h
  | succ n ih =>
    rw [decG_s]
    split
    · exact h
    · split
      · exact h
      · exact ih _ _ (lrnG_le hl _ _ _ _ _ _ h)
theorem enc_sh {lim : Nat} (hl : lim ≤ 6000) (L : List Nat) (z : Run) (hL : ∀ x ∈ L, x < 256) (h : RI false lim z) (ht : z.2.2.1.length + L.length ≤ 4000) : (encGo lim L z).1.2.2 ≤ 12 * (z.2.2.1.length + L.length) + 12 := by
  induction L generalizing z with
  | nil =>
    have hT := RI_tell (rd := false) (C := []) (w := 256) h hl (by simpa using ht) (fun j => by simp) (Nat.le_refl _)
    have h2 := h.2.1
    show (tellR false [] 256 z).1.2.2 ≤ 12 * (z.2.2.1.length + 0) + 12
    omega
  | cons b bs ih =>
    have hb := hL b (List.mem_cons_self ..)
    rw [List.length_cons] at ht
    have hT := RI_tell (rd := false) (C := []) (w := b) h hl (by omega) (fun j => by simp) (by omega)
    have e1 : (tellR false [] b z).2.2.1 = b := hT.2.2.2.2.2.1 rfl
    have := ih (goBy lim z (tellR false [] b z)) (fun x hx => hL x (List.mem_cons_of_mem _ hx)) (RI_go h hl (by omega) (fun j => by simp) (by omega) (by omega)) (show z.2.2.1.length + 1 + bs.length ≤ 4000 by omega)
    have e2 : (goBy lim z (tellR false [] b z)).2.2.1.length = z.2.2.1.length + 1 := rfl
    rw [e2] at this
    show (encGo lim bs (goBy lim z (tellR false [] b z))).1.2.2 ≤ _
    rw [List.length_cons]
    omega
theorem mem_lt {L : List Nat} (h : ∀ j, L.getD j 0 < 256) : ∀ x ∈ L, x < 256 := fun x hx => by
  obtain ⟨i, hi, e⟩ := List.getElem_of_mem hx
  have := h i
  simp only [List.getD, List.getElem?_eq_getElem hi, Option.getD_some] at this
  omega
theorem grA_up (mo gr : Nat) (L : List Nat) (b : Int32) : gr ≤ grA mo gr L b := by
  unfold grA
  split <;> omega
theorem grA_le {mo gr : Nat} {L : List Nat} {b : Int32} (hm : mo ≤ 8000) (h : gr ≤ 7) : grA mo gr L b ≤ 7 := by
  unfold grA
  split
  · rename_i q
    simp only [addOk, Bool.and_eq_true, decide_eq_true_eq] at q
    have := gN_7 (n := L.length + 1) (by omega)
    omega
  · exact h
theorem addL_len (mo : Nat) (L : List Nat) (b : Int32) : (addL mo L b).length ≤ L.length + 1 := by
  unfold addL
  split
  · rw [List.length_append, List.length_singleton]; exact Nat.le_refl _
  · exact Nat.le_succ _
theorem addL_lt {mo : Nat} {L : List Nat} (b : Int32) (h : ∀ j, L.getD j 0 < 256) : ∀ j, (addL mo L b).getD j 0 < 256 := by
  intro j
  unfold addL
  split
  · rename_i q
    simp only [addOk, Bool.and_eq_true] at q
    obtain ⟨v, hv, rfl⟩ := isB_nI q.1
    rw [nI_clamp (by omega)]
    by_cases e : j < L.length
    · rw [gD_l e]; exact h j
    · rw [gD_r (by omega)]
      cases hj : j - L.length with
      | zero => exact hv
      | succ n => simp [List.getD]
  · exact h j
theorem cutL_le (L : List Nat) (n : Int32) : (cutL L n).length ≤ L.length := by
  unfold cutL
  split
  · rw [List.length_take]; exact Nat.min_le_right _ _
  · exact Nat.le_refl _
theorem cutL_lt {L : List Nat} (n : Int32) (h : ∀ j, L.getD j 0 < 256) : ∀ j, (cutL L n).getD j 0 < 256 := by
  intro j
  unfold cutL
  split
  · have := h j
    by_cases e : j < n.toNatClampNeg
    · simp only [List.getD, List.getElem?_take, if_pos e] at this ⊢
      exact this
    · simp [List.getD, List.getElem?_take, e]
  · exact h j
theorem putL_lt {L : List Nat} (i b : Int32) (h : ∀ j, L.getD j 0 < 256) : ∀ j, (putL L i b).getD j 0 < 256 := by
  unfold putL
  split
  · rename_i q
    simp only [putOk, Bool.and_eq_true] at q
    obtain ⟨v, hv, rfl⟩ := isB_nI q.1
    rw [nI_clamp (n := v) (by omega)]
    exact set_lt h hv
  · exact h
theorem BB_cut {f : Nat → Int32} {L : List Nat} (n : Int32) (h : BB f L) : BB f (cutL L n) := by
  unfold cutL
  split
  · exact BB_take h
  · exact h
theorem BR_cut {f : Nat → Int32} {L : List Nat} (n : Int32) (h : BR f L) : BR f (cutL L n) := by
  unfold cutL
  split
  · exact BR_take h
  · exact h
/-- numbers between the calls: i ints of the script are read -/
def LI (i lim sh rs rt tn gt gi gu gs gn gc : Nat) (Tx Cd : List Nat) (st : List Stq) : Prop := 5 * Tx.length ≤ i ∧ lim ≤ 6000 ∧ (sh < 2 ^ 31 ∧ rs < 2 ^ 31 ∧ rt < 2 ^ 31) ∧ 5 * tn ≤ 4001 * i ∧ (gt ≤ 7 ∧ gi ≤ 7 ∧ gu ≤ 7 ∧ gs ≤ 9 ∧ gn ≤ 7 ∧ gc ≤ 7) ∧ (∀ j, Tx.getD j 0 < 256) ∧ (∀ j, Cd.getD j 0 < 256) ∧ st.length < 20000 ∧ ∀ x ∈ st, okS x
/-- what the class's rows hold -/
def LC (tn gt gi gu gs gn gc : Nat) (Tx Cd Ox : List Nat) (N : List Nd) (st : List Stq) (ft fi fu : Nat → Int32) (sf : Nat → Int64) (nb nc nn ck cf cl ct co bk os : Nat → Int32) : Prop := (BR ft Tx ∧ Tx.length ≤ gcap 4000 gt) ∧ (BR fi Cd ∧ Cd.length ≤ gcap 8000 gi) ∧ (BR fu Ox ∧ Ox.length ≤ gcap 4000 gu) ∧ (SR sf st ∧ st.length ≤ gcap 20000 gs) ∧ MR N gn gc nb nc nn ck cf cl ct co bk ∧ OS os tn
/-- what the reference's rows hold -/
def LR (Tx Cd Ox : List Nat) (N : List Nd) (st : List Stq) (ut uc uo uk us un u0 u1 u2 u3 : Nat → Int32) : Prop := BB ut Tx ∧ BB uc Cd ∧ BB uo Ox ∧ NN uk us un N ∧ SS u0 u1 u2 u3 st
theorem law_gt {i L : Nat} (hi : i < 2 ^ 30) (hL : L ≤ 2560) : nI L - nI 5 < nI i ↔ L < i + 5 := by
  by_cases h : 5 ≤ L
  · rw [pk_sub h, Int32.lt_iff_toInt_lt, nI_toInt (by omega), nI_toInt (by omega)]
    omega
  · have h1 : nI L - nI 5 < 0 := by
      have : L = 0 ∨ L = 1 ∨ L = 2 ∨ L = 3 ∨ L = 4 := by omega
      rcases this with rfl | rfl | rfl | rfl | rfl <;> decide
    rw [Int32.lt_iff_toInt_lt, Int32.toInt_zero] at h1
    rw [Int32.lt_iff_toInt_lt, nI_toInt (by omega : i < 2 ^ 31)]
    omega
theorem law_in {j L : Nat} (h : j < L) (hL : L ≤ 2560) : vp_in (nI j) L := fun q => by
  rcases q with q | q
  · exact absurd q (nI_pos (by omega))
  · rw [nI_clamp (by omega)] at q
    omega
section LawRows
variable {p : Program} {l : Launch} {e : Env} {R : Room} {s : State} {m : MethodId} {args : Array Value} {below : List Frame} {meth : Method} {c : Code} {H : Heap} {locs : List Loc} {cells slots : Nat} {Q : State → Prop}
variable {cc : ByteArray} {pc : Nat} {ls : Array Slot} {rest : List Value} {A : Nat → Prop} {H0 : Heap}
theorem sl (hexec : p.tables.exec = Jvm.exec) (hb : c.code = cc) {b L : Nat} {xs : Nat → Int32} (hX : va_X b L xs s H0) (hbl : b < H0.size) (hbA : ¬ A b) (hS : va_S A H0 H locs) {j : Nat} (hj : j < L) (hL : L ≤ 2560) (hdg : decode cc pc = .ok (.iaload, 1))
    (kk : W p l e R s m args below meth c H locs cells slots Q (F0 m (pc + 1) ls (.int (xs j) :: rest))) : W p l e R s m args below meth c H locs cells slots Q (F0 m pc ls (.int (nI j) :: .ref b :: rest)) := by
  refine va_sld hexec hb hX hbl hbA hS (law_in hj hL) hdg ?_
  rw [nI_clamp (by omega)]
  exact kk
end LawRows
theorem nws_in : ∀ w ∈ nws, w ∈ lw_tbl := by decide +kernel
theorem nws_on : ∀ w ∈ nws, w.onTables = true := by decide +kernel
theorem law_nw {s : State} {a : Array Value} (h : ∀ w ∈ lw_tbl, w.before a s = true) : NW s := fun w hw => va_Nw.of (nws_on w hw) (h w (nws_in w hw))
theorem arr_known {s : State} {a : Array Value} {ty : FieldType} (h : (Cond.arrayClass ty).before a s = true) (hra : ∀ c, s.vm.findClass ("[" ++ ty.toString) = some c → va_RA s c ty) : ∃ cA : ClassId, ArrOfT s cA ty ∧ va_RA s cA ty := by
  obtain ⟨cA, kA, comp, h1, h2, h3⟩ := Cond.arrayClass_spec h
  exact ⟨cA, fun n z => ⟨fun k h => (by cases h), kA, h2, comp, h3⟩, hra _ h1⟩
/-- the places that the law may write: what came behind its start -/
abbrev AL (s : State) : Nat → Prop := fun q => s.heap.size ≤ q
