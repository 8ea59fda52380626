theorem decGo_s (lim : Nat) (C : List Nat) (n : Nat) (z : Run) : decGo lim C (n + 1) z = if (tellR true C 256 z).2.2.1 = 256 then (((tellR true C 256 z).1, z.2.1, z.2.2.1, (tellR true C 256 z).2.1), true) else if z.2.2.1.length = 4000 then (((tellR true C 256 z).1, z.2.1, z.2.2.1, (tellR true C 256 z).2.1), false) else decGo lim C n (goBy lim z (tellR true C 256 z)) := rfl
theorem decG_s (lim : Nat) (C : List Nat) (n : Nat) (z : Run) (g : Nat × Nat) : decG lim C (n + 1) z g = if (tellR true C 256 z).2.2.1 = 256 then g else if z.2.2.1.length = 4000 then g else decG lim C n (goBy lim z (tellR true C 256 z)) (lrnG lim (kAt z.2.2.1) (tellR true C 256 z).2.2.1 ((tellR true C 256 z).2.2.2 - 1) (topO z.2.2.1 + 1) z.2.1 g) := rfl
theorem dec_mono {lim : Nat} {C : List Nat} {n : Nat} {z : Run} {Z : Run × Bool} (h : decGo lim C (n + 1) z = Z) : (tellR true C 256 z).2.1.length ≤ Z.1.2.2.2.length ∧ z.2.2.1.length ≤ Z.1.2.2.1.length := by
  subst h
  rw [decGo_s]
  have h2 := decGo_up lim C n (goBy lim z (tellR true C 256 z))
  split
  · exact ⟨Nat.le_refl _, Nat.le_refl _⟩
  · split
    · exact ⟨Nat.le_refl _, Nat.le_refl _⟩
    · exact ⟨h2.1, Nat.le_trans (Nat.le_succ _) h2.2⟩
theorem val4_le {C : List Nat} (h : ∀ j, C.getD j 0 < 256) : val4 C ≤ 4294967295 := by
  have h0 := h 0
  have h1 := h 1
  have h2 := h 2
  have h3 := h 3
  unfold val4
  omega
