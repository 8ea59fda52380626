/-- nodes as they may be: keys, bytes, counts; no byte twice in a context -/
def okN (N : List Nd) : Prop := (∀ x ∈ N, x.1 < 131072 ∧ x.2.1 < 256 ∧ 1 ≤ x.2.2 ∧ x.2.2 ≤ 255) ∧ ∀ i j, i < N.length → j < N.length → (nd N i).1 = (nd N j).1 → (nd N i).2.1 = (nd N j).2.1 → i = j
/-- the class's rows hold the nodes N -/
def MR (N : List Nd) (gn gc : Nat) (nb nc nn ck cf cl ct co bk : Nat → Int32) : Prop := CR (keysOf N) ck co bk ∧ NR N nb nc nn ∧ FR N (keysOf N) cf cl ct ∧ N.length ≤ gcap 6000 gn ∧ (keysOf N).length ≤ gcap 6000 gc ∧ okN N
theorem nd_l {N : List Nd} {x : Nd} {i : Nat} (h : i < N.length) : nd (N ++ [x]) i = nd N i := by simp [nd, List.getD, List.getElem?_append_left h]
theorem nd_r {N : List Nd} {x : Nd} : nd (N ++ [x]) N.length = x := by simp [nd, List.getD]
theorem nx_ext {P Q : Nat → Prop} {lo n : Nat} {r : Int32} (h : isNx P lo n r) (he : ∀ j, j < n → (Q j ↔ P j)) (hn : ¬ Q n) : isNx Q lo (n + 1) r := by
  rcases h with ⟨h1, h2⟩ | ⟨j, h1, h2, h3, h4, h5⟩
  · refine Or.inl ⟨h1, fun j g1 g2 q => ?_⟩
    by_cases e : j = n
    · subst e; exact hn q
    · exact h2 j g1 (by omega) ((he j (by omega)).mp q)
  · exact Or.inr ⟨j, h1, h2, by omega, (he j h3).mpr h4, fun t g1 g2 q => h5 t g1 g2 ((he t (by omega)).mp q)⟩
theorem nx_ext_s {P Q : Nat → Prop} {lo n : Nat} {r : Int32} (h : isNx P lo n r) (he : ∀ j, j < n → (Q j ↔ P j)) (hr : ∃ j, lo ≤ j ∧ j < n ∧ P j) : isNx Q lo (n + 1) r := by
  rcases h with ⟨h1, h2⟩ | ⟨j, h1, h2, h3, h4, h5⟩
  · obtain ⟨j, g1, g2, g3⟩ := hr
    exact absurd g3 (h2 j g1 g2)
  · exact Or.inr ⟨j, h1, h2, by omega, (he j h3).mpr h4, fun t g1 g2 q => h5 t g1 g2 ((he t (by omega)).mp q)⟩
theorem nx_ext_n {P Q : Nat → Prop} {lo n : Nat} (h : ∀ j, lo ≤ j → j < n → ¬ P j) (he : ∀ j, j < n → (Q j ↔ P j)) (hn : Q n) (hl : lo ≤ n) : isNx Q lo (n + 1) (nI n) :=
  Or.inr ⟨n, rfl, hl, by omega, hn, fun t g1 g2 q => h t g1 g2 ((he t g2).mp q)⟩
theorem pv_ext {P Q : Nat → Prop} {n : Nat} {r : Int32} (h : isPv P n r) (he : ∀ j, j < n → (Q j ↔ P j)) (hn : ¬ Q n) : isPv Q (n + 1) r := by
  rcases h with ⟨h1, h2⟩ | ⟨j, h1, h2, h3, h4⟩
  · refine Or.inl ⟨h1, fun j g2 q => ?_⟩
    by_cases e : j = n
    · subst e; exact hn q
    · exact h2 j (by omega) ((he j (by omega)).mp q)
  · refine Or.inr ⟨j, h1, by omega, (he j h2).mpr h3, fun t g1 g2 q => ?_⟩
    by_cases e : t = n
    · subst e; exact hn q
    · exact h4 t g1 (by omega) ((he t (by omega)).mp q)
theorem pv_new {Q : Nat → Prop} {n : Nat} (hn : Q n) : isPv Q (n + 1) (nI n) := Or.inr ⟨n, rfl, by omega, hn, fun t g1 g2 => absurd g2 (by omega)⟩
theorem pv_same {P Q : Nat → Prop} {n : Nat} {r : Int32} (h : isPv P n r) (he : ∀ j, j < n → (Q j ↔ P j)) : isPv Q n r := by
  rcases h with ⟨h1, h2⟩ | ⟨j, h1, h2, h3, h4⟩
  · exact Or.inl ⟨h1, fun j g q => h2 j g ((he j g).mp q)⟩
  · exact Or.inr ⟨j, h1, h2, (he j h2).mpr h3, fun t g1 g2 q => h4 t g1 g2 ((he t g2).mp q)⟩
theorem kF_app (N : List Nd) (x : Nd) (k : Nat) : kF (N ++ [x]) k 0 = kF N k 0 ++ (if x.1 = k then [x] else []) := by
  unfold kF
  rw [List.drop_zero, List.drop_zero, List.filter_append]
  congr 1
  by_cases h : x.1 = k
  · simp [h]
  · simp [h]
theorem key_in {N : List Nd} {i : Nat} (h : i < N.length) : (nd N i).1 ∈ keysOf N := (keysOf_mem _ _).mpr ⟨nd N i, by rw [nd_eq h]; exact List.getElem_mem h, rfl⟩
theorem in_key {N : List Nd} {k : Nat} (h : k ∈ keysOf N) : ∃ i, i < N.length ∧ (nd N i).1 = k := by
  obtain ⟨x, hx, e⟩ := (keysOf_mem _ _).mp h
  obtain ⟨i, hi, e2⟩ := List.getElem_of_mem hx
  exact ⟨i, hi, by rw [nd_eq hi, e2]; exact e⟩
theorem okN_app {N : List Nd} {k b : Nat} (h : okN N) (hk : k < 131072) (hb : b < 256) (hn : ¬ N.any (isN k b) = true) : okN (N ++ [(k, b, 1)]) := by
  have hno : ∀ i, i < N.length → (nd N i).1 = k → (nd N i).2.1 = b → False := fun i hi e1 e2 => hn (List.any_eq_true.mpr ⟨nd N i, by rw [nd_eq hi]; exact List.getElem_mem hi, by simp [isN, e1, e2]⟩)
  refine ⟨fun x hx => ?_, fun i j hi hj e1 e2 => ?_⟩
  · rcases List.mem_append.mp hx with q | q
    · exact h.1 x q
    · rw [List.mem_singleton] at q
      subst q
      exact ⟨hk, hb, Nat.le_refl _, show 1 ≤ 255 by decide⟩
  · simp only [List.length_append, List.length_singleton] at hi hj
    by_cases h1 : i < N.length
    · by_cases h2 : j < N.length
      · rw [nd_l h1, nd_l h2] at e1 e2
        exact h.2 i j h1 h2 e1 e2
      · have : j = N.length := by omega
        subst this
        rw [nd_l h1, nd_r] at e1 e2
        exact (hno i h1 e1 e2).elim
    · have : i = N.length := by omega
      subst this
      by_cases h2 : j < N.length
      · rw [nd_l h2, nd_r] at e1 e2
        exact (hno j h2 e1.symm e2.symm).elim
      · omega
/-- a node more in a context that is there -/
theorem MR_old {N : List Nd} {gn gc gn' d k b last : Nat} {nb nc nn ck cf cl ct co bk nb1 nc1 nn1 cl1 ct1 : Nat → Int32} (h : MR N gn gc nb nc nn ck cf cl ct co bk) (hk : k < 131072) (hb : b < 256) (hn : ¬ N.any (isN k b) = true) (hd : d < (keysOf N).length) (hdk : (keysOf N).getD d 0 = k)
    (hla : cl d = nI last) (hln : last < N.length) (hcap : N.length + 1 ≤ gcap 6000 gn')
    (e1 : ∀ j, j < N.length → nb1 j = nb j ∧ nc1 j = nc j) (e2 : nb1 N.length = nI b) (e3 : nc1 N.length = nI 1) (e4 : nn1 N.length = -1) (e5 : nn1 last = nI N.length) (e6 : ∀ j, j < N.length → j ≠ last → nn1 j = nn j) (e7 : cl1 = upd cl d (nI N.length)) (e8 : ct1 = upd ct d (ct d + 1)) : MR (N ++ [(k, b, 1)]) gn' gc nb1 nc1 nn1 ck cf cl1 ct1 co bk := by
  obtain ⟨hC, hN, hF, hl1, hl2, hok⟩ := h
  have hkin : k ∈ keysOf N := hdk ▸ getD_mem hd
  have eK : keysOf (N ++ [(k, b, 1)]) = keysOf N := by rw [keysOf_app, if_pos hkin]
  have hnd := keysOf_nd N
  obtain ⟨f1, f2, f3⟩ := hF d hd
  have hlast : (nd N last).1 = k ∧ ∀ t, last < t → t < N.length → ¬ (nd N t).1 = k := by
    rw [hdk] at f2
    rcases f2 with ⟨q, -⟩ | ⟨j, q1, q2, q3, q4⟩
    · rw [hla] at q
      exact absurd q (by intro q; have := congrArg Int32.toInt q; rw [nI_toInt (by have := gcap_le 6000 gn; omega)] at this; simp at this)
    · rw [hla] at q1
      have := (nI_eq (by have := gcap_le 6000 gn; omega) (by have := gcap_le 6000 gn; omega)).mp q1
      subst this
      exact ⟨q3, q4⟩
  have hlen : (N ++ [(k, b, 1)]).length = N.length + 1 := by simp
  have hagree : ∀ (kk : Nat) (j : Nat), j < N.length → ((nd (N ++ [(k, b, 1)]) j).1 = kk ↔ (nd N j).1 = kk) := fun kk j hj => by rw [nd_l hj]
  refine ⟨by rw [eK]; exact hC, fun i hi => ?_, fun t ht => ?_, by rw [hlen]; exact hcap, by rw [eK]; exact hl2, okN_app hok hk hb hn⟩
  · rw [hlen] at hi ⊢
    by_cases hi2 : i < N.length
    · obtain ⟨g1, g2, g3⟩ := hN i hi2
      rw [nd_l hi2, (e1 i hi2).1, (e1 i hi2).2]
      refine ⟨g1, g2, ?_⟩
      by_cases e : i = last
      · subst e
        rw [e5, hlast.1]
        exact nx_ext_n (P := fun j => (nd N j).1 = k) (fun j q1 q2 => hlast.2 j (by omega) q2) (hagree k) (by rw [nd_r]) (by omega)
      · rw [e6 i hi2 e]
        by_cases ek : (nd N i).1 = k
        · rw [ek] at g3 ⊢
          refine nx_ext_s g3 (hagree k) ⟨last, ?_, hln, hlast.1⟩
          rcases Nat.lt_or_ge i last with q | q
          · exact q
          · exact absurd ek (hlast.2 i (by omega) hi2)
        · exact nx_ext g3 (hagree _) (by rw [nd_r]; exact fun q => ek q.symm)
    · have : i = N.length := by omega
      subst this
      rw [nd_r, e2, e3, e4]
      exact ⟨rfl, rfl, Or.inl ⟨rfl, fun j q1 q2 => absurd q2 (by omega)⟩⟩
  · rw [eK] at ht ⊢
    obtain ⟨g1, g2, g3⟩ := hF t ht
    rw [hlen, kF_app]
    by_cases e : t = d
    · subst e
      rw [hdk] at g1 g2 g3 ⊢
      refine ⟨nx_ext_s g1 (hagree k) ⟨last, by omega, hln, hlast.1⟩, ?_, ?_⟩
      · rw [e7, pk_us]
        exact pv_new (by rw [nd_r])
      · rw [e8, pk_us, g3, if_pos rfl, List.length_append, List.length_singleton, nI_1]
    · have hne : ¬ k = (keysOf N).getD t 0 := fun q => e (hnd t d ht hd (by rw [← q, hdk]))
      refine ⟨nx_ext g1 (hagree _) (by rw [nd_r]; exact hne), ?_, ?_⟩
      · rw [e7, pk_un e]
        exact pv_ext g2 (hagree _) (by rw [nd_r]; exact hne)
      · rw [e8, pk_un e, g3, if_neg hne, List.append_nil]
/-- a node in a new context -/
theorem MR_new {N : List Nd} {gn gc gn' gc' k b : Nat} {nb nc nn ck cf cl ct co bk nb1 nc1 nn1 ck1 cf1 cl1 ct1 co1 bk1 : Nat → Int32} (h : MR N gn gc nb nc nn ck cf cl ct co bk) (hk : k < 131072) (hb : b < 256) (hn : k ∉ keysOf N)
    (hcap : N.length + 1 ≤ gcap 6000 gn') (hcap2 : (keysOf N).length + 1 ≤ gcap 6000 gc')
    (e1 : ∀ j, j < N.length → nb1 j = nb j ∧ nc1 j = nc j ∧ nn1 j = nn j) (e2 : nb1 N.length = nI b) (e3 : nc1 N.length = nI 1) (e4 : nn1 N.length = -1)
    (e5 : ∀ d, d < (keysOf N).length → ck1 d = ck d ∧ cf1 d = cf d ∧ cl1 d = cl d ∧ ct1 d = ct d ∧ co1 d = co d) (e6 : ck1 (keysOf N).length = nI k) (e7 : cf1 (keysOf N).length = nI N.length) (e8 : cl1 (keysOf N).length = nI N.length) (e9 : ct1 (keysOf N).length = nI 1) (e10 : co1 (keysOf N).length = bk (bkt k)) (e11 : bk1 = upd bk (bkt k) (nI (keysOf N).length)) : MR (N ++ [(k, b, 1)]) gn' gc' nb1 nc1 nn1 ck1 cf1 cl1 ct1 co1 bk1 := by
  obtain ⟨hC, hN, hF, hl1, hl2, hok⟩ := h
  have eK : keysOf (N ++ [(k, b, 1)]) = keysOf N ++ [k] := by rw [keysOf_app, if_neg hn]
  have hno : ∀ j, j < N.length → ¬ (nd N j).1 = k := fun j hj q => hn (q ▸ key_in hj)
  have hlen : (N ++ [(k, b, 1)]).length = N.length + 1 := by simp
  have hlK : (keysOf N ++ [k]).length = (keysOf N).length + 1 := by simp
  have hagree : ∀ (kk : Nat) (j : Nat), j < N.length → ((nd (N ++ [(k, b, 1)]) j).1 = kk ↔ (nd N j).1 = kk) := fun kk j hj => by rw [nd_l hj]
  have hKl : ∀ t, t < (keysOf N).length → (keysOf N ++ [k]).getD t 0 = (keysOf N).getD t 0 := fun t ht => gD_l ht
  have hKr : (keysOf N ++ [k]).getD (keysOf N).length 0 = k := by rw [gD_r (Nat.le_refl _)]; simp
  have hany : ¬ N.any (isN k b) = true := fun q => by
    obtain ⟨x, hx, hx2⟩ := List.any_eq_true.mp q
    simp only [isN, Bool.and_eq_true, beq_iff_eq] at hx2
    exact hn ((keysOf_mem _ _).mpr ⟨x, hx, hx2.1⟩)
  refine ⟨?_, fun i hi => ?_, fun t ht => ?_, by rw [hlen]; exact hcap, by rw [eK, hlK]; exact hcap2, okN_app hok hk hb hany⟩
  · rw [eK]
    refine ⟨fun d hd => ?_, fun h hh => ?_⟩
    · rw [hlK] at hd
      by_cases hd2 : d < (keysOf N).length
      · obtain ⟨g1, g2, g3⟩ := hC.1 d hd2
        obtain ⟨q1, -, -, -, q5⟩ := e5 d hd2
        rw [hKl d hd2, q1, q5]
        exact ⟨g1, g2, pv_same g3 (fun j hj => by rw [hKl j (by omega)])⟩
      · have : d = (keysOf N).length := by omega
        subst this
        rw [hKr, e6, e10]
        exact ⟨rfl, hk, pv_same (hC.2 _ (bkt_lt k)) (fun j hj => by rw [hKl j hj])⟩
    · rw [hlK, e11]
      by_cases e : h = bkt k
      · subst e
        rw [pk_us]
        exact pv_new (by rw [hKr])
      · rw [pk_un e]
        exact pv_ext (hC.2 h hh) (fun j hj => by rw [hKl j hj]) (by rw [hKr]; exact fun q => e q.symm)
  · rw [hlen] at hi ⊢
    by_cases hi2 : i < N.length
    · obtain ⟨g1, g2, g3⟩ := hN i hi2
      obtain ⟨q1, q2, q3⟩ := e1 i hi2
      rw [nd_l hi2, q1, q2, q3]
      exact ⟨g1, g2, nx_ext g3 (hagree _) (by rw [nd_r]; exact fun q => hno i hi2 q.symm)⟩
    · have : i = N.length := by omega
      subst this
      rw [nd_r, e2, e3, e4]
      exact ⟨rfl, rfl, Or.inl ⟨rfl, fun j q1 q2 => absurd q2 (by omega)⟩⟩
  · rw [eK] at ht ⊢
    rw [hlK] at ht
    rw [hlen, kF_app]
    by_cases ht2 : t < (keysOf N).length
    · obtain ⟨g1, g2, g3⟩ := hF t ht2
      obtain ⟨-, q2, q3, q4, -⟩ := e5 t ht2
      have hne : ¬ k = (keysOf N).getD t 0 := fun q => hn (q ▸ getD_mem ht2)
      rw [hKl t ht2, q2, q3, q4]
      refine ⟨nx_ext g1 (hagree _) (by rw [nd_r]; exact hne), pv_ext g2 (hagree _) (by rw [nd_r]; exact hne), ?_⟩
      rw [g3, if_neg hne, List.append_nil]
    · have : t = (keysOf N).length := by omega
      subst this
      rw [hKr, e7, e8, e9]
      refine ⟨nx_ext_n (P := fun j => (nd N j).1 = k) (fun j _ q2 => hno j q2) (hagree k) (by rw [nd_r]) (by omega), pv_new (by rw [nd_r]), ?_⟩
      rw [if_pos rfl, kF_none (fun j _ hj => hno j hj)]
      rfl
/-- counts alone change -/
theorem map_nd {N : List Nd} {φ : Nd → Nd} {i : Nat} (h : i < N.length) : nd (N.map φ) i = φ (nd N i) := by
  rw [nd_eq (by rw [List.length_map]; exact h), nd_eq h, List.getElem_map]
theorem map_keys {φ : Nd → Nd} (hφ : ∀ x, (φ x).1 = x.1) (N : List Nd) : keysOf (N.map φ) = keysOf N := by
  induction N using rev_ind with
  | h0 => rfl
  | h1 l x ih => rw [List.map_append, List.map_singleton, keysOf_app, keysOf_app, ih, hφ]
theorem map_kF {φ : Nd → Nd} (hφ : ∀ x, (φ x).1 = x.1) (N : List Nd) (k t : Nat) : (kF (N.map φ) k t).length = (kF N k t).length := by
  unfold kF
  rw [← List.map_drop, List.filter_map, List.length_map]
  congr 2
  funext x
  simp [hφ]
theorem MR_map {N : List Nd} {gn gc : Nat} {nb nc nn ck cf cl ct co bk nc1 : Nat → Int32} {φ : Nd → Nd} (hφ : ∀ x, (φ x).1 = x.1 ∧ (φ x).2.1 = x.2.1) (hc : ∀ x ∈ N, 1 ≤ (φ x).2.2 ∧ (φ x).2.2 ≤ 255) (h : MR N gn gc nb nc nn ck cf cl ct co bk) (e : ∀ i, i < N.length → nc1 i = nI (φ (nd N i)).2.2) : MR (N.map φ) gn gc nb nc1 nn ck cf cl ct co bk := by
  obtain ⟨hC, hN, hF, hl1, hl2, hok⟩ := h
  have hφ1 : ∀ x, (φ x).1 = x.1 := fun x => (hφ x).1
  have eK := map_keys hφ1 N
  have hg : ∀ (kk j : Nat), j < N.length → ((nd (N.map φ) j).1 = kk ↔ (nd N j).1 = kk) := fun kk j hj => by rw [map_nd hj, hφ1]
  refine ⟨by rw [eK]; exact hC, fun i hi => ?_, fun d hd => ?_, by rw [List.length_map]; exact hl1, by rw [eK]; exact hl2, ⟨fun x hx => ?_, fun i j hi hj e1 e2 => ?_⟩⟩
  · rw [List.length_map] at hi ⊢
    obtain ⟨g1, g2, g3⟩ := hN i hi
    refine ⟨by rw [map_nd hi, (hφ _).2]; exact g1, by rw [map_nd hi]; exact e i hi, ?_⟩
    rw [show (nd (N.map φ) i).1 = (nd N i).1 by rw [map_nd hi, hφ1]]
    rcases g3 with ⟨q1, q2⟩ | ⟨j, q1, q2, q3, q4, q5⟩
    · exact Or.inl ⟨q1, fun j r1 r2 r3 => q2 j r1 r2 ((hg _ j r2).mp r3)⟩
    · exact Or.inr ⟨j, q1, q2, q3, (hg _ j q3).mpr q4, fun t r1 r2 r3 => q5 t r1 r2 ((hg _ t (by omega)).mp r3)⟩
  · rw [eK] at hd ⊢
    obtain ⟨g1, g2, g3⟩ := hF d hd
    rw [List.length_map, map_kF hφ1]
    refine ⟨?_, pv_same g2 (hg _), g3⟩
    rcases g1 with ⟨q1, q2⟩ | ⟨j, q1, q2, q3, q4, q5⟩
    · exact Or.inl ⟨q1, fun j r1 r2 r3 => q2 j r1 r2 ((hg _ j r2).mp r3)⟩
    · exact Or.inr ⟨j, q1, q2, q3, (hg _ j q3).mpr q4, fun t r1 r2 r3 => q5 t r1 r2 ((hg _ t (by omega)).mp r3)⟩
  · obtain ⟨y, hy, rfl⟩ := List.mem_map.mp hx
    obtain ⟨q1, q2, -, -⟩ := hok.1 y hy
    exact ⟨by rw [hφ1]; exact q1, by rw [(hφ y).2]; exact q2, (hc y hy).1, (hc y hy).2⟩
  · rw [List.length_map] at hi hj
    rw [map_nd hi, map_nd hj, hφ1, hφ1] at e1
    rw [map_nd hi, map_nd hj, (hφ _).2, (hφ _).2] at e2
    exact hok.2 i j hi hj e1 e2
/-- all nodes go -/
theorem MR_nil {gn gc : Nat} {nb nc nn ck cf cl ct co bk : Nat → Int32} (h : ∀ t, t < 256 → bk t = -1) : MR [] gn gc nb nc nn ck cf cl ct co bk :=
  ⟨⟨fun d hd => absurd hd (Nat.not_lt_zero _), fun t ht => Or.inl ⟨h t ht, fun j hj => absurd hj (Nat.not_lt_zero _)⟩⟩, fun i hi => absurd hi (Nat.not_lt_zero _), fun d hd => absurd hd (Nat.not_lt_zero _), Nat.zero_le _, Nat.zero_le _, ⟨fun x hx => absurd hx List.not_mem_nil, fun i j hi => absurd hi (Nat.not_lt_zero _)⟩⟩
theorem cpy_0 {α : Type} {f g : Nat → α} {k j : Nat} (h : j < k) : va_cpy f g 0 0 k j = f j := by
  rw [pk_cpy_in (by omega) (by omega)]
  simp
