/-- a run as it may be -/
def RI (rd : Bool) (lim : Nat) (z : Run) : Prop := (16777216 ≤ z.1.2.1 ∧ z.1.2.1 < 4294967296) ∧ z.1.2.2 ≤ 12 * z.2.2.1.length ∧ RN lim (3 * z.2.2.1.length) z.2.1.1 ∧ (z.2.1.2.1 ≤ 3 * z.2.2.1.length ∧ z.2.1.2.2 ≤ 3 * z.2.2.1.length) ∧ (∀ j, z.2.2.1.getD j 0 < 256) ∧ z.2.2.2.length ≤ 4 * z.2.2.1.length ∧ (∀ x ∈ z.2.2.2, okS x) ∧ (rd = true → z.1.1 < z.1.2.1 ∨ (z.2.1.1 = [] ∧ z.1.1 ≤ z.1.2.1))
theorem RI_sum {rd : Bool} {lim : Nat} {z : Run} (h : RI rd lim z) (hl : lim ≤ 6000) (ht : z.2.2.1.length ≤ 4000) : sumC z.2.1.1 + z.2.1.1.length < 32768 := by
  obtain ⟨-, -, ⟨-, h2, h3⟩, -⟩ := h
  omega
theorem RI_tell {rd : Bool} {C : List Nat} {lim w : Nat} {z : Run} (h : RI rd lim z) (hl : lim ≤ 6000) (ht : z.2.2.1.length ≤ 4000) (hC : ∀ j, C.getD j 0 < 256) (hw : w ≤ 256) :
    (16777216 ≤ (tellR rd C w z).1.2.1 ∧ (tellR rd C w z).1.2.1 < 4294967296) ∧ (tellR rd C w z).1.2.2 ≤ z.1.2.2 + 12 ∧ (tellR rd C w z).2.1.length ≤ z.2.2.2.length + 4 ∧ (∀ x ∈ (tellR rd C w z).2.1, okS x) ∧ (tellR rd C w z).2.2.1 ≤ 256 ∧ (rd = false → (tellR rd C w z).2.2.1 = w) ∧ (tellR rd C w z).2.2.2 ≤ 3 ∧ (rd = true → (tellR rd C w z).2.2.1 = 256 ∨ (tellR rd C w z).1.1 < (tellR rd C w z).1.2.1) := by
  have hs := RI_sum h hl ht
  obtain ⟨h1, h2, h3, h4, h5, h6, h7, h8⟩ := h
  have hto := topO_le z.2.2.1
  have := tell_ok (rd := rd) (C := C) (N := z.2.1.1) (key := kAt z.2.2.1) (w := w) h3.1 hs hC (topO z.2.2.1 + 1) z.1 noOut z.2.2.2 (by omega) h1 rfl (fun _ => ⟨hw, rfl⟩) h7 h8
  unfold tellR
  exact ⟨this.1, by omega, by omega, this.2.2.2.1, this.2.2.2.2.1, this.2.2.2.2.2.1, by omega, this.2.2.2.2.2.2.2⟩
theorem RI_go {rd : Bool} {C : List Nat} {lim w : Nat} {z : Run} (h : RI rd lim z) (hl : lim ≤ 6000) (ht : z.2.2.1.length ≤ 4000) (hC : ∀ j, C.getD j 0 < 256) (hw : w ≤ 256) (hb : (tellR rd C w z).2.2.1 < 256) : RI rd lim (goBy lim z (tellR rd C w z)) := by
  have hT := RI_tell h hl ht hC hw
  obtain ⟨h1, h2, h3, h4, h5, h6, h7, h8⟩ := h
  have hto := topO_le z.2.2.1
  have hN := RN_lrn (lim := lim) (b := (tellR rd C w z).2.2.1) (lo := (tellR rd C w z).2.2.2 - 1) (key := kAt z.2.2.1) (kAt_lt h5) hb (topO z.2.2.1 + 1) _ z.2.1 h3
  have hrs := lrn_rs (lim := lim) (b := (tellR rd C w z).2.2.1) (lo := (tellR rd C w z).2.2.2 - 1) (key := kAt z.2.2.1) (topO z.2.2.1 + 1) z.2.1
  refine ⟨hT.1, ?_, ?_, ?_, ?_, ?_, hT.2.2.2.1, fun q => ?_⟩
  · show (tellR rd C w z).1.2.2 ≤ 12 * (z.2.2.1.length + 1)
    omega
  · show RN lim (3 * (z.2.2.1.length + 1)) _
    exact RN_up hN (by omega)
  · show (lrn _ _ _ _ _ _).2.1 ≤ 3 * (z.2.2.1.length + 1) ∧ (lrn _ _ _ _ _ _).2.2 ≤ 3 * (z.2.2.1.length + 1)
    omega
  · intro j
    cases j with
    | zero => exact hb
    | succ j => exact h5 j
  · show (tellR rd C w z).2.1.length ≤ 4 * (z.2.2.1.length + 1)
    omega
  · rcases hT.2.2.2.2.2.2.2 q with q2 | q2
    · omega
    · exact Or.inl q2
theorem td_lo {n : Nat} (h : n ≤ 3) : (if nI n - nI 1 < nI 0 then nI 0 else nI n - nI 1) = nI (n - 1) := by
  have : n = 0 ∨ n = 1 ∨ n = 2 ∨ n = 3 := by omega
  rcases this with rfl | rfl | rfl | rfl <;> decide
def encG (lim : Nat) : List Nat → Run → Nat × Nat → Nat × Nat
  | [], _, g => g
  | b :: bs, z, g => encG lim bs (goBy lim z (tellR false [] b z)) (lrnG lim (kAt z.2.2.1) b ((tellR false [] b z).2.2.2 - 1) (topO z.2.2.1 + 1) z.2.1 g)
def decG (lim : Nat) (C : List Nat) : Nat → Run → Nat × Nat → Nat × Nat
  | 0, _, g => g
  | n + 1, z, g => if (tellR true C 256 z).2.2.1 = 256 then g else if z.2.2.1.length = 4000 then g else decG lim C n (goBy lim z (tellR true C 256 z)) (lrnG lim (kAt z.2.2.1) (tellR true C 256 z).2.2.1 ((tellR true C 256 z).2.2.2 - 1) (topO z.2.2.1 + 1) z.2.1 g)
theorem encG_up (lim : Nat) (L : List Nat) (z : Run) (g : Nat × Nat) : g.1 ≤ (encG lim L z g).1 ∧ g.2 ≤ (encG lim L z g).2 := by
  induction L generalizing z g with
  | nil => exact ⟨Nat.le_refl _, Nat.le_refl _⟩
  | cons b bs ih =>
    have h1 := lrnG_up lim (kAt z.2.2.1) b ((tellR false [] b z).2.2.2 - 1) (topO z.2.2.1 + 1) z.2.1 g
    have h2 := ih (goBy lim z (tellR false [] b z)) (lrnG lim (kAt z.2.2.1) b ((tellR false [] b z).2.2.2 - 1) (topO z.2.2.1 + 1) z.2.1 g)
    exact ⟨Nat.le_trans h1.1 h2.1, Nat.le_trans h1.2 h2.2⟩
theorem decG_up (lim : Nat) (C : List Nat) (n : Nat) (z : Run) (g : Nat × Nat) : g.1 ≤ (decG lim C n z g).1 ∧ g.2 ≤ (decG lim C n z g).2 := by
  induction n generalizing z g with
  | zero => exact ⟨Nat.le_refl _, Nat.le_refl _⟩
  | succ n ih =>
    have h1 := lrnG_up lim (kAt z.2.2.1) (tellR true C 256 z).2.2.1 ((tellR true C 256 z).2.2.2 - 1) (topO z.2.2.1 + 1) z.2.1 g
    have h2 := ih (goBy lim z (tellR true C 256 z)) (lrnG lim (kAt z.2.2.1) (tellR true C 256 z).2.2.1 ((tellR true C 256 z).2.2.2 - 1) (topO z.2.2.1 + 1) z.2.1 g)
    unfold decG
    split
    · exact ⟨Nat.le_refl _, Nat.le_refl _⟩
    · split
      · exact ⟨Nat.le_refl _, Nat.le_refl _⟩
      · exact ⟨Nat.le_trans h1.1 h2.1, Nat.le_trans h1.2 h2.2⟩
theorem tellR_up (rd : Bool) (C : List Nat) (w : Nat) (z : Run) : z.2.2.2.length + 1 ≤ (tellR rd C w z).2.1.length ∧ z.1.2.2 ≤ (tellR rd C w z).1.2.2 := tellGo_mono _ _ _ _ _ _ _ _ _
theorem encGo_up (lim : Nat) (L : List Nat) (z : Run) : z.2.2.2.length ≤ (encGo lim L z).2.2.2.length ∧ z.1.2.2 ≤ (encGo lim L z).1.2.2 := by
  induction L generalizing z with
  | nil =>
    have := tellR_up false [] 256 z
    exact ⟨Nat.le_trans (Nat.le_succ _) this.1, this.2⟩
  | cons b bs ih =>
    have h1 := tellR_up false [] b z
    have h2 := ih (goBy lim z (tellR false [] b z))
    exact ⟨Nat.le_trans (Nat.le_trans (Nat.le_succ _) h1.1) h2.1, Nat.le_trans h1.2 h2.2⟩
theorem decGo_up (lim : Nat) (C : List Nat) (n : Nat) (z : Run) : z.2.2.2.length ≤ (decGo lim C n z).1.2.2.2.length ∧ z.2.2.1.length ≤ (decGo lim C n z).1.2.2.1.length := by
  induction n generalizing z with
  | zero => exact ⟨Nat.le_refl _, Nat.le_refl _⟩
  | succ n ih =>
    have h1 := tellR_up true C 256 z
    have h2 := ih (goBy lim z (tellR true C 256 z))
    unfold decGo
    split
    · exact ⟨Nat.le_trans (Nat.le_succ _) h1.1, Nat.le_refl _⟩
    · split
      · exact ⟨Nat.le_trans (Nat.le_succ _) h1.1, Nat.le_refl _⟩
      · exact ⟨Nat.le_trans (Nat.le_trans (Nat.le_succ _) h1.1) h2.1, Nat.le_trans (Nat.le_succ _) h2.2⟩
theorem RI_0 (rd : Bool) {lim x : Nat} (hx : x ≤ 4294967295) : RI rd lim (run0 x) := ⟨⟨show 16777216 ≤ 4294967295 by decide, show 4294967295 < 4294967296 by decide⟩, Nat.zero_le _, ⟨⟨fun x hx => absurd hx List.not_mem_nil, fun i j hi => absurd hi (Nat.not_lt_zero _)⟩, Nat.zero_le _, Nat.zero_le _⟩, ⟨Nat.zero_le _, Nat.zero_le _⟩, fun j => by show ([] : List Nat).getD j 0 < 256; simp, Nat.zero_le _, fun x hx => absurd hx List.not_mem_nil, fun _ => Or.inr ⟨rfl, hx⟩⟩
