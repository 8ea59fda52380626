/-- a run at its end -/
def FZ (lim : Nat) (z : Run) : Prop := (16777216 ≤ z.1.2.1 ∧ z.1.2.1 < 4294967296) ∧ z.1.2.2 ≤ 48012 ∧ RN lim 12003 z.2.1.1 ∧ (z.2.1.2.1 ≤ 12003 ∧ z.2.1.2.2 ≤ 12003) ∧ (∀ j, z.2.2.1.getD j 0 < 256) ∧ z.2.2.1.length ≤ 4000 ∧ z.2.2.2.length ≤ 16004 ∧ (∀ x ∈ z.2.2.2, okS x)
theorem FZ_of {rd : Bool} {lim : Nat} {z : Run} (h : RI rd lim z) (ht : z.2.2.1.length ≤ 4000) : FZ lim z := by
  obtain ⟨h1, h2, h3, h4, h5, h6, h7, h8⟩ := h
  exact ⟨h1, by omega, RN_up h3 (by omega), by omega, h5, ht, by omega, h7⟩
theorem FZ_end {rd : Bool} {C : List Nat} {lim w : Nat} {z : Run} (h : RI rd lim z) (hl : lim ≤ 6000) (ht : z.2.2.1.length ≤ 4000) (hC : ∀ j, C.getD j 0 < 256) (hw : w ≤ 256) : FZ lim ((tellR rd C w z).1, z.2.1, z.2.2.1, (tellR rd C w z).2.1) := by
  have hT := RI_tell h hl ht hC hw
  obtain ⟨h1, h2, h3, h4, h5, h6, h7, h8⟩ := h
  refine ⟨hT.1, ?_, RN_up h3 (by omega), ⟨show z.2.1.2.1 ≤ 12003 by omega, show z.2.1.2.2 ≤ 12003 by omega⟩, h5, ht, ?_, hT.2.2.2.1⟩
  · show (tellR rd C w z).1.2.2 ≤ 48012
    omega
  · show (tellR rd C w z).2.1.length ≤ 16004
    omega
theorem dec_fin {C : List Nat} {lim : Nat} (hl : lim ≤ 6000) (hC : ∀ j, C.getD j 0 < 256) (n : Nat) (z : Run) (h : RI true lim z) (ht : z.2.2.1.length ≤ 4000) : FZ lim (decGo lim C n z).1 := by
  induction n generalizing z with
  | zero => exact FZ_of h ht
  | succ n ih =>
    rw [decGo_s]
    split
    · exact FZ_end h hl ht hC (Nat.le_refl _)
    · rename_i h1
      split
      · exact FZ_end h hl ht hC (Nat.le_refl _)
      · rename_i h2
        have hT := RI_tell h hl ht hC (Nat.le_refl 256)
        exact ih _ (RI_go h hl ht hC (Nat.le_refl _) (by omega)) (show z.2.2.1.length + 1 ≤ 4000 by omega)
theorem enc_fin {lim : Nat} (hl : lim ≤ 6000) (L : List Nat) (z : Run) (hL : ∀ x ∈ L, x < 256) (h : RI false lim z) (ht : z.2.2.1.length + L.length ≤ 4000) : FZ lim (encGo lim L z) := by
  induction L generalizing z with
  | nil => exact FZ_end h hl (by simpa using ht) (fun j => by simp) (Nat.le_refl _)
  | cons b bs ih =>
    have hb := hL b (List.mem_cons_self ..)
    rw [List.length_cons] at ht
    have hT := RI_tell (rd := false) (C := []) (w := b) h hl (by omega) (fun j => by simp) (by omega)
    have e1 : (tellR false [] b z).2.2.1 = b := hT.2.2.2.2.2.1 rfl
    exact ih _ (fun x hx => hL x (List.mem_cons_of_mem _ hx)) (RI_go h hl (by omega) (fun j => by simp) (by omega) (by omega)) (show z.2.2.1.length + 1 + bs.length ≤ 4000 by omega)
