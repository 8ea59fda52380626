/-! a run's bounds -/
theorem okN_map {N : List Nd} {φ : Nd → Nd} (hφ : ∀ x, (φ x).1 = x.1 ∧ (φ x).2.1 = x.2.1) (hc : ∀ x ∈ N, 1 ≤ (φ x).2.2 ∧ (φ x).2.2 ≤ 255) (h : okN N) : okN (N.map φ) := by
  refine ⟨fun x hx => ?_, fun i j hi hj e1 e2 => ?_⟩
  · obtain ⟨y, hy, rfl⟩ := List.mem_map.mp hx
    obtain ⟨q1, q2, -, -⟩ := h.1 y hy
    exact ⟨by rw [(hφ y).1]; exact q1, by rw [(hφ y).2]; exact q2, (hc y hy).1, (hc y hy).2⟩
  · rw [List.length_map] at hi hj
    rw [map_nd hi, map_nd hj, (hφ _).1, (hφ _).1] at e1
    rw [map_nd hi, map_nd hj, (hφ _).2, (hφ _).2] at e2
    exact h.2 i j hi hj e1 e2
theorem any_nix {N : List Nd} {k b : Nat} (h : N.any (isN k b) = true) (hok : okN N) : ∃ j, j < N.length ∧ (nd N j).1 = k ∧ (nd N j).2.1 = b ∧ cntN k b N = (nd N j).2.2 := by
  have hb : b < 256 := by
    obtain ⟨x, hx, hx2⟩ := List.any_eq_true.mp h
    simp only [isN, Bool.and_eq_true, beq_iff_eq] at hx2
    rw [← hx2.2]
    exact (hok.1 x hx).2.1
  rcases hn : nix N k (nI b) with _ | j
  · exact absurd h (nix_n hb hn)
  · obtain ⟨h1, h2, h3, -, h5⟩ := nix_s hb hok hn
    exact ⟨j, h1, h2, h3, h5⟩
theorem okN_inc {N : List Nd} {k b j : Nat} (h : okN N) (hj : j < N.length) (h1 : (nd N j).1 = k) (h2 : (nd N j).2.1 = b) (h3 : (nd N j).2.2 < 255) : okN (incN k b N) := by
  refine okN_map (φ := fun x => if isN k b x = true then (x.1, x.2.1, x.2.2 + 1) else x) (fun x => ?_) (fun x hx => ?_) h
  · split <;> exact ⟨rfl, rfl⟩
  · obtain ⟨i, hi, e⟩ := List.getElem_of_mem hx
    have hr := h.1 x hx
    split
    · rename_i q
      simp only [isN, Bool.and_eq_true, beq_iff_eq] at q
      have : i = j := h.2 i j hi hj (by rw [nd_eq hi, e, q.1, h1]) (by rw [nd_eq hi, e, q.2, h2])
      subst this
      rw [nd_eq hi, e] at h3
      exact ⟨by dsimp only; omega, by dsimp only; omega⟩
    · exact ⟨hr.2.2.1, hr.2.2.2⟩
theorem okN_halv {N : List Nd} {k : Nat} (h : okN N) : okN (halv k N) := by
  refine okN_map (φ := fun x => if x.1 = k then (x.1, x.2.1, (x.2.2 + 1) / 2) else x) (fun x => ?_) (fun x hx => ?_) h
  · split <;> exact ⟨rfl, rfl⟩
  · have hr := h.1 x hx
    split
    · dsimp only
      omega
    · exact ⟨hr.2.2.1, hr.2.2.2⟩
theorem sumC_halv {k : Nat} (N : List Nd) (h : ∀ x ∈ N, 1 ≤ x.2.2) : sumC (halv k N) ≤ sumC N := by
  induction N with
  | nil => exact Nat.le_refl _
  | cons x N ih =>
    have := ih (fun y hy => h y (List.mem_cons_of_mem _ hy))
    have hx := h x List.mem_cons_self
    show sumC ((if x.1 = k then (x.1, x.2.1, (x.2.2 + 1) / 2) else x) :: halv k N) ≤ _
    rw [sumC_c, sumC_c]
    split
    · dsimp only
      omega
    · omega
theorem sumC_inc {k b : Nat} (N : List Nd) (h : okN N) : sumC (incN k b N) ≤ sumC N + 1 := by
  have key : ∀ (L : List Nd), ndK ((L.filter (fun x => x.1 == k)).map (fun x => x.2.1)) → sumC (incN k b L) ≤ sumC L + 1 ∧ (b ∉ (L.filter (fun x => x.1 == k)).map (fun x => x.2.1) → sumC (incN k b L) = sumC L) := by
    intro L
    induction L with
    | nil => intro _; exact ⟨Nat.zero_le _, fun _ => rfl⟩
    | cons x L ih =>
      intro hd
      have e : sumC (incN k b (x :: L)) = (if isN k b x = true then x.2.2 + 1 else x.2.2) + sumC (incN k b L) := by
        show sumC ((if isN k b x = true then (x.1, x.2.1, x.2.2 + 1) else x) :: incN k b L) = _
        rw [sumC_c]
        split <;> rfl
      rw [e, sumC_c]
      by_cases hk : x.1 = k
      · rw [List.filter_cons_of_pos (by simp [hk]), List.map_cons] at hd
        have hL : ndK ((L.filter (fun x => x.1 == k)).map (fun x => x.2.1)) := fun i j hi hj e9 => by
          have := hd (i + 1) (j + 1) (by simp at hi ⊢; omega) (by simp at hj ⊢; omega) e9
          omega
        have hx : x.2.1 ∉ (L.filter (fun x => x.1 == k)).map (fun x => x.2.1) := fun m => by
          obtain ⟨i, hi, e2⟩ := List.getElem_of_mem m
          have := hd 0 (i + 1) (by simp) (by simp at hi ⊢; omega) (by simp [List.getD, List.getElem?_eq_getElem hi, e2])
          omega
        obtain ⟨i1, i2⟩ := ih hL
        by_cases hb : x.2.1 = b
        · rw [if_pos (by simp [isN, hk, hb])]
          rw [i2 (hb ▸ hx)]
          refine ⟨by omega, fun q => ?_⟩
          exact absurd (by rw [List.filter_cons_of_pos (by simp [hk]), List.map_cons, hb]; exact List.mem_cons_self) q
        · rw [if_neg (by simp [isN, hb])]
          refine ⟨by omega, fun q => ?_⟩
          rw [List.filter_cons_of_pos (by simp [hk]), List.map_cons] at q
          rw [i2 (fun q2 => q (List.mem_cons_of_mem _ q2))]
      · rw [List.filter_cons_of_neg (by simp [hk])] at hd
        obtain ⟨i1, i2⟩ := ih hd
        rw [if_neg (by simp [isN, hk])]
        refine ⟨by omega, fun q => ?_⟩
        rw [List.filter_cons_of_neg (by simp [hk])] at q
        rw [i2 q]
  have h0 := (okN_drop h k 0).1
  unfold kF at h0
  rw [List.drop_zero] at h0
  exact (key N h0).1
/-- nodes as a run has them: so many told at most -/
def RN (lim t : Nat) (N : List Nd) : Prop := okN N ∧ N.length ≤ lim ∧ sumC N ≤ t
theorem RN_lrn1 {lim t k b rs rt : Nat} {N : List Nd} (h : RN lim t N) (hk : k < 131072) (hb : b < 256) : RN lim (t + 1) (lrn1 lim k b (N, rs, rt)).1.1 := by
  obtain ⟨h1, h2, h3⟩ := h
  have h1p : ∀ x ∈ N, 1 ≤ x.2.2 := fun x hx => (h1.1 x hx).2.2.1
  by_cases ha : N.any (isN k b) = true
  · obtain ⟨j, hj, e1, e2, e3⟩ := any_nix ha h1
    have hcl : (nd N j).2.2 ≤ 255 := (h1.1 _ (by rw [nd_eq hj]; exact List.getElem_mem hj)).2.2.2
    by_cases hc : cntN k b N = 255
    · rw [lrn1_res ha hc]
      have hh := okN_halv (k := k) h1
      have e4 := halv_nd hj e1
      have s1 := sumC_halv (k := k) N h1p
      have s2 := sumC_inc (k := k) (b := b) (halv k N) hh
      exact ⟨okN_inc hh (by rw [halv_len]; exact hj) (by rw [e4]) (by rw [e4]; exact e2) (by rw [e4]; dsimp only; omega), by dsimp only; rw [incN_len, halv_len]; exact h2, by dsimp only; omega⟩
    · rw [lrn1_inc ha hc]
      have s2 := sumC_inc (k := k) (b := b) N h1
      exact ⟨okN_inc h1 hj e1 e2 (by omega), by dsimp only; rw [incN_len]; exact h2, by dsimp only; omega⟩
  · by_cases hl : lim ≤ N.length
    · rw [lrn1_full ha hl]
      exact ⟨⟨fun x hx => absurd hx List.not_mem_nil, fun i j hi => absurd hi (Nat.not_lt_zero _)⟩, Nat.zero_le _, Nat.zero_le _⟩
    · rw [lrn1_add ha hl]
      refine ⟨okN_app h1 hk hb ha, ?_, ?_⟩
      · dsimp only
        rw [List.length_append, List.length_singleton]
        omega
      · dsimp only
        rw [sumC_app, sumC_1]
        show sumC N + 1 ≤ t + 1
        omega
theorem RN_up {lim t t2 : Nat} {N : List Nd} (h : RN lim t N) (ht : t ≤ t2) : RN lim t2 N := ⟨h.1, h.2.1, Nat.le_trans h.2.2 ht⟩
theorem RN_lrn {lim b lo : Nat} {key : Nat → Nat} (hk : ∀ o, key o < 131072) (hb : b < 256) : ∀ (n t : Nat) (q : List Nd × Nat × Nat), RN lim t q.1 → RN lim (t + n) (lrn lim key b lo n q).1 := by
  intro n
  induction n with
  | zero => intro t q h; exact h
  | succ n ih =>
    intro t q h
    have h1 := RN_lrn1 (k := key n) (b := b) (rs := q.2.1) (rt := q.2.2) h (hk n) hb
    rw [lrn_s]
    split
    · exact RN_up h (by omega)
    · split
      · exact RN_up (ih (t + 1) _ h1) (by omega)
      · exact RN_up h1 (by omega)
theorem lrn_rs {lim b lo : Nat} {key : Nat → Nat} : ∀ (n : Nat) (q : List Nd × Nat × Nat), (lrn lim key b lo n q).2.1 ≤ q.2.1 + n ∧ (lrn lim key b lo n q).2.2 ≤ q.2.2 + n := by
  intro n
  induction n with
  | zero => intro q; exact ⟨Nat.le_refl _, Nat.le_refl _⟩
  | succ n ih =>
    intro q
    have h1 : (lrn1 lim (key n) b q).1.2.1 ≤ q.2.1 + 1 ∧ (lrn1 lim (key n) b q).1.2.2 ≤ q.2.2 + 1 := by
      unfold lrn1
      split
      · split
        · dsimp only
          omega
        · dsimp only
          omega
      · split
        · dsimp only
          omega
        · dsimp only
          omega
    rw [lrn_s]
    split
    · omega
    · split
      · have := ih (lrn1 lim (key n) b q).1
        omega
      · omega
/-- what a telling leaves: interval, steps, symbol, order -/
theorem tell_ok {rd : Bool} {C : List Nat} {N : List Nd} {key : Nat → Nat} {w : Nat} (hok : okN N) (hsum : sumC N + N.length < 32768) (hC : ∀ j, C.getD j 0 < 256) : ∀ (n : Nat) (v : Iv) (out : Nat → Bool) (st : List Stq), n ≤ 3 → 16777216 ≤ v.2.1 ∧ v.2.1 < 4294967296 → out 256 = false → (rd = false → w ≤ 256 ∧ out w = false) → (∀ x ∈ st, okS x) → (rd = true → v.1 < v.2.1 ∨ (N = [] ∧ v.1 ≤ v.2.1)) →
    (16777216 ≤ (tellGo rd C N key w n v out st).1.2.1 ∧ (tellGo rd C N key w n v out st).1.2.1 < 4294967296) ∧ (tellGo rd C N key w n v out st).1.2.2 ≤ v.2.2 + 3 * (n + 1) ∧ (tellGo rd C N key w n v out st).2.1.length ≤ st.length + n + 1 ∧ (∀ x ∈ (tellGo rd C N key w n v out st).2.1, okS x) ∧ (tellGo rd C N key w n v out st).2.2.1 ≤ 256 ∧ (rd = false → (tellGo rd C N key w n v out st).2.2.1 = w) ∧ (tellGo rd C N key w n v out st).2.2.2 ≤ n ∧ (rd = true → (tellGo rd C N key w n v out st).2.2.1 = 256 ∨ (tellGo rd C N key w n v out st).1.1 < (tellGo rd C N key w n v out st).1.2.1) := by
  intro n
  induction n with
  | zero =>
    intro v out st hn hR h256 hw hst hx
    have hc0 := cn_le out 257
    have h1c := cn_w (out := out) (w := 256) (Nat.le_refl _) h256
    have e0 : tellGo rd C N key w 0 v out st = (nar rd C (if rd = true then plc v (cn out 257) else cn out w) 1 (cn out 257) v, st ++ [(if rd = true then plc v (cn out 257) else cn out w, 1, cn out 257, 0, false)], if rd = true then symAt out (plc v (cn out 257)) else w, 0) := rfl
    obtain ⟨tt, htt⟩ : ∃ q, q = cn out 257 := ⟨_, rfl⟩
    rw [← htt] at e0 hc0 h1c
    obtain ⟨pl, hpl⟩ : ∃ q, q = (if rd = true then plc v tt else cn out w) := ⟨_, rfl⟩
    rw [← hpl] at e0
    have hpb : pl + 1 ≤ tt := by
      rw [hpl]
      split
      · unfold plc
        have := Nat.min_le_right (v.1 / (v.2.1 / tt)) (tt - 1)
        omega
      · rename_i q
        have hq : rd = false := by cases rd with
          | false => rfl
          | true => exact absurd rfl q
        have := cn_w (hw hq).1 (hw hq).2
        rw [htt]
        exact this
    rw [e0]
    have hnk := nar_ok (rd := rd) (C := C) (a := pl) (f := 1) (t := tt) (v := v) hR ⟨by omega, by omega⟩ (Nat.le_refl _) hpb
    have hsy : ∀ q, symAt out q ≤ 256 := symAt_le out
    refine ⟨hnk.1, by dsimp only; omega, by dsimp only; rw [List.length_append, List.length_singleton]; omega, ?_, ?_, ?_, Nat.le_refl _, ?_⟩
    · intro x hx2
      rcases List.mem_append.mp hx2 with q | q
      · exact hst x q
      · rw [List.mem_singleton] at q
        subst q
        exact ⟨by dsimp only; omega, by dsimp only; omega, by dsimp only; omega, by dsimp only; omega⟩
    · dsimp only
      split
      · exact hsy _
      · rename_i q
        have hq : rd = false := by cases rd with
          | false => rfl
          | true => exact absurd rfl q
        exact (hw hq).1
    · intro q
      dsimp only
      rw [q]
      rfl
    · intro hq
      subst hq
      dsimp only
      rw [if_pos rfl] at hpl ⊢
      have hu : 1 ≤ v.2.1 / tt := Nat.le_trans (by decide) (nar_r (a := pl) (f := 1) (t := tt) hR.1 ⟨by omega, by omega⟩ (Nat.le_refl _) hpb).1
      rcases hx rfl with q | ⟨-, q⟩
      · exact Or.inr (nar_x hC q (by omega) hu (by omega) (by omega) hpb)
      · rcases Nat.lt_or_ge v.1 v.2.1 with q2 | q2
        · exact Or.inr (nar_x hC q2 (by omega) hu (by omega) (by omega) hpb)
        · left
          have e9 : v.1 = v.2.1 := by omega
          have hpl2 : pl = tt - 1 := by
            rw [hpl]
            unfold plc
            rw [e9]
            have h5 : tt ≤ v.2.1 / (v.2.1 / tt) := by
              rw [Nat.le_div_iff_mul_le (by omega)]
              rw [Nat.mul_comm]
              exact Nat.div_mul_le_self _ _
            omega
          rw [← hpl, hpl2, htt]
          have h6 : cn out 257 = cn out 256 + 1 := by
            show cn out 256 + _ = _
            rw [h256]
            rfl
          rw [h6, Nat.add_sub_cancel]
          exact symAt_cn (Nat.le_refl _) h256
  | succ n ih =>
    intro v out st hn hR h256 hw hst hx
    rw [tellGo_s]
    have hls := liv_sum (key n) out N
    split
    · have := ih v out st (by omega) hR h256 hw hst hx
      exact ⟨this.1, by omega, by omega, this.2.2.2.1, this.2.2.2.2.1, this.2.2.2.2.2.1, by omega, this.2.2.2.2.2.2.2⟩
    · rename_i hlv
      have hlp : 1 ≤ (liv (key n) out N).length := List.length_pos_iff.mpr hlv
      have hcp : ∀ y ∈ liv (key n) out N, y.2.1 < 256 ∧ 1 ≤ y.2.2 := fun y hy => ⟨(hok.1 y (liv_mem hy).1).2.1, (hok.1 y (liv_mem hy).1).2.2.1⟩
      have hxl : rd = true → v.1 < v.2.1 := fun q => by
        rcases hx q with q2 | ⟨q2, -⟩
        · exact q2
        · exact absurd (by rw [q2]; rfl) hlv
      have hsel : ∀ p, sel rd p w (liv (key n) out N) = pickP (if rd = true then p else bgS (nI w) (liv (key n) out N) 0) (liv (key n) out N) 0 := by
        intro p
        unfold sel
        cases rd with
        | true => rfl
        | false => exact (pick_eq (hw rfl).1 hcp 0).symm
      rw [hsel]
      obtain ⟨TT, hTT⟩ : ∃ q, q = sumC (liv (key n) out N) + (liv (key n) out N).length := ⟨_, rfl⟩
      rw [← hTT]
      split
      · rename_i ax hax
        obtain ⟨g1, g2, g3, g4, g5⟩ := pickP_s hax (Nat.zero_le _)
        have hf := (hcp _ g5).2
        have hnk := nar_ok (rd := rd) (C := C) (a := ax.1) (f := ax.2.2.2) (t := TT) (v := v) hR ⟨by omega, by omega⟩ hf (by omega)
        refine ⟨hnk.1, by dsimp only; omega, by dsimp only; rw [List.length_append, List.length_singleton]; omega, ?_, ?_, ?_, Nat.le_refl _, ?_⟩
        · intro x hx2
          rcases List.mem_append.mp hx2 with q | q
          · exact hst x q
          · rw [List.mem_singleton] at q
            subst q
            exact ⟨by dsimp only; omega, by dsimp only; omega, by dsimp only; omega, by dsimp only; omega⟩
        · exact Nat.le_of_lt (hcp _ g5).1
        · intro q
          subst q
          rw [if_neg (by decide), pick_eq (hw rfl).1 hcp 0] at hax
          exact pickS_w hax
        · intro q
          subst q
          rw [if_pos rfl] at g2 g3
          refine Or.inr (nar_x hC (hxl rfl) (by omega) ?_ g2 g3 (by omega))
          exact Nat.le_trans (by decide) (nar_r (a := ax.1) (f := ax.2.2.2) (t := TT) hR.1 ⟨by omega, by omega⟩ hf (by omega)).1
      · rename_i hax
        have hpn := pickP_n hax (Nat.zero_le _)
        have hnk := nar_ok (rd := rd) (C := C) (a := sumC (liv (key n) out N)) (f := (liv (key n) out N).length) (t := TT) (v := v) hR ⟨by omega, by omega⟩ hlp (by omega)
        have h9 := ih (nar rd C (sumC (liv (key n) out N)) (liv (key n) out N).length TT v) (outOf N (key n) out) (st ++ [(sumC (liv (key n) out N), (liv (key n) out N).length, TT, n + 1, true)]) (by omega) hnk.1 (outOf_256 hok h256) (fun q => ⟨(hw q).1, by
            subst q
            rw [if_neg (by decide), pick_eq (hw rfl).1 hcp 0] at hax
            exact outOf_w (hw rfl).2 hax⟩) (fun x hx2 => by
            rcases List.mem_append.mp hx2 with q | q
            · exact hst x q
            · rw [List.mem_singleton] at q
              subst q
              exact ⟨by dsimp only; omega, by dsimp only; omega, by dsimp only; omega, by dsimp only; omega⟩) (fun q => Or.inl (by
            subst q
            rw [if_pos rfl] at hpn
            refine nar_x hC (hxl rfl) (by omega) ?_ (by omega) ?_ (by omega)
            · exact Nat.le_trans (by decide) (nar_r (a := sumC (liv (key n) out N)) (f := (liv (key n) out N).length) (t := TT) hR.1 ⟨by omega, by omega⟩ hlp (by omega)).1
            · exact Nat.lt_of_le_of_lt (Nat.min_le_right _ _) (by omega)))
        have hl9 : (st ++ [(sumC (liv (key n) out N), (liv (key n) out N).length, TT, n + 1, true)]).length = st.length + 1 := by rw [List.length_append, List.length_singleton]
        rw [hl9] at h9
        exact ⟨h9.1, by omega, by omega, h9.2.2.2.1, h9.2.2.2.2.1, h9.2.2.2.2.2.1, by omega, h9.2.2.2.2.2.2.2⟩
