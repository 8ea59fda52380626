set_option maxHeartbeats 4000000 in
set_option maxRecDepth 100000 in
theorem c_SR_made (l : Launch) (D : va_G) (ca : Nat → ClassId) (a : Nat) (q : Nat) (gr : Nat) (f : Nat → Int64) (st : List Stq)  : Met l yX5_made wsX5_made { frames := 0, cells := 0, slots := 0, locals := 0 } (roP D vwCl (ATy ca) [(a, .inr (4, [.ref q, .int (nI st.length), .int (nI (escN st))])), (q, .inl (ca 1, gcap 20000 gr, .inr (.inl f)))] [.ref a]) (vp_Si (fun r : Int32 => r = nI st.length)) 0 0 (fun _ => False) := by
  refine ro_enter (by decide) rfl (Nat.le_of_ble_eq_true rfl) ?_
  intro p e s m below meth c ls C hK hN hP hl
  obtain ⟨hx, hb, hr, hml, hown, hlocks, hts⟩ := C
  have hl : lv_has ls 1 [(0, .ref a)] := hl
  have hin_X5 : ∀ w ∈ wsX50, w ∈ wsX5_made := by decide +kernel
  have hl_15 := hts (.fieldLink RX5 15 "EscapeCoder$StepRow" "made" "I") (by decide +kernel)
  refine lv_aload_n hx hb dX5_made_0 rfl (lv_at hl 0 rfl) ?_
  refine va_get (D := D) (ci := 4) (v := .int (nI st.length)) (C := RX5) (T := TX5) (N := 3) hx hb hts hin_X5 hown hK hP 0 rfl rfl 1 (by decide) hl_15 (fun _ h9 => h9) rfl dX5_made_1 ?_
  exact ro_iret hx hb hr hlocks (rfl) dX5_made_4

set_option maxHeartbeats 4000000 in
set_option maxRecDepth 100000 in
theorem c_SR_escapes (l : Launch) (D : va_G) (ca : Nat → ClassId) (a : Nat) (q : Nat) (gr : Nat) (f : Nat → Int64) (st : List Stq)  : Met l yX5_escapes wsX5_escapes { frames := 0, cells := 0, slots := 0, locals := 0 } (roP D vwCl (ATy ca) [(a, .inr (4, [.ref q, .int (nI st.length), .int (nI (escN st))])), (q, .inl (ca 1, gcap 20000 gr, .inr (.inl f)))] [.ref a]) (vp_Si (fun r : Int32 => r = nI (escN st))) 0 0 (fun _ => False) := by
  refine ro_enter (by decide) rfl (Nat.le_of_ble_eq_true rfl) ?_
  intro p e s m below meth c ls C hK hN hP hl
  obtain ⟨hx, hb, hr, hml, hown, hlocks, hts⟩ := C
  have hl : lv_has ls 1 [(0, .ref a)] := hl
  have hin_X5 : ∀ w ∈ wsX50, w ∈ wsX5_escapes := by decide +kernel
  have hl_19 := hts (.fieldLink RX5 19 "EscapeCoder$StepRow" "escapes" "I") (by decide +kernel)
  refine lv_aload_n hx hb dX5_escapes_0 rfl (lv_at hl 0 rfl) ?_
  refine va_get (D := D) (ci := 4) (v := .int (nI (escN st))) (C := RX5) (T := TX5) (N := 3) hx hb hts hin_X5 hown hK hP 0 rfl rfl 2 (by decide) hl_19 (fun _ h9 => h9) rfl dX5_escapes_1 ?_
  exact ro_iret hx hb hr hlocks (rfl) dX5_escapes_4

set_option maxHeartbeats 4000000 in
set_option maxRecDepth 100000 in
theorem c_SR_clear (l : Launch) (D : va_G) (ca : Nat → ClassId) (a : Nat) (q : Nat) (gr : Nat) (f : Nat → Int64) (st : List Stq)  (sz : Nat) : Met l yX5_clear wsX5_clear { frames := 0, cells := 0, slots := 0, locals := 0 } (rwP D vwCl (ATy ca) [(a, .inr (4, [.ref q, .int (nI st.length), .int (nI (escN st))])), (q, .inl (ca 1, gcap 20000 gr, .inr (.inl f)))] sz [.ref a]) (va_Qv (fun (u : Unit) => True) (bB D vwCl (fun (u : Unit) => [(a, .inr (4, [.ref q, .int (nI ([] : List Stq).length), .int (nI (escN ([] : List Stq)))])), (q, .inl (ca 1, gcap 20000 gr, .inr (.inl f)))]) (va_A [(a, .inr (4, [.ref q, .int (nI st.length), .int (nI (escN st))])), (q, .inl (ca 1, gcap 20000 gr, .inr (.inl f)))] sz)) (va_A [(a, .inr (4, [.ref q, .int (nI st.length), .int (nI (escN st))])), (q, .inl (ca 1, gcap 20000 gr, .inr (.inl f)))] sz)) 0 0 (va_A [(a, .inr (4, [.ref q, .int (nI st.length), .int (nI (escN st))])), (q, .inl (ca 1, gcap 20000 gr, .inr (.inl f)))] sz) := by
  refine rw_enter (Q := fun A => va_Qv (fun (u : Unit) => True) (bB D vwCl (fun (u : Unit) => [(a, .inr (4, [.ref q, .int (nI ([] : List Stq).length), .int (nI (escN ([] : List Stq)))])), (q, .inl (ca 1, gcap 20000 gr, .inr (.inl f)))]) A) A) (by decide) rfl (Nat.le_of_ble_eq_true rfl) ?_
  intro p e s m below meth c ls A C hnm hK hN hP hD hA hl
  have hS : va_S A s.heap s.heap [] := va_S.rf
  obtain ⟨hx, hb, hr, hml, hown, hlocks, hts⟩ := C
  have hl : lv_has ls 1 [(0, .ref a)] := hl
  have hin_X5 : ∀ w ∈ wsX50, w ∈ wsX5_clear := by decide +kernel
  have hl_15 := hts (.fieldLink RX5 15 "EscapeCoder$StepRow" "made" "I") (by decide +kernel)
  have hl_19 := hts (.fieldLink RX5 19 "EscapeCoder$StepRow" "escapes" "I") (by decide +kernel)
  refine lv_aload_n hx hb dX5_clear_0 rfl (lv_at hl 0 rfl) ?_
  refine lv_iconst (v := nI 0) hx hb dX5_clear_1 (by decide) ?_
  refine va_put (D := D) (ci := 4) (v := .int (nI 0)) (ty := .int) (C := RX5) (T := TX5) (N := 3) hx hb hts hin_X5 tyX5 tyX5_ok nmX5 hown hK hP hD hS 0 rfl rfl 1 (by decide) hl_15 (fun _ h9 => h9) rfl (by decide +kernel) rfl rfl (Nat.le_of_ble_eq_true rfl) dX5_clear_2 (fun H locs hP hD hS => ?_)
  have hP : va_P D vwCl [(a, .inr (4, [.ref q, .int (nI 0), .int (nI (escN st))])), (q, .inl (ca 1, gcap 20000 gr, .inr (.inl f)))] H := hP
  have hD : va_D A [(a, .inr (4, [.ref q, .int (nI 0), .int (nI (escN st))])), (q, .inl (ca 1, gcap 20000 gr, .inr (.inl f)))] := hD
  refine lv_aload_n hx hb dX5_clear_5 rfl (lv_at hl 0 rfl) ?_
  refine lv_iconst (v := nI 0) hx hb dX5_clear_6 (by decide) ?_
  refine va_put (D := D) (ci := 4) (v := .int (nI 0)) (ty := .int) (C := RX5) (T := TX5) (N := 3) hx hb hts hin_X5 tyX5 tyX5_ok nmX5 hown hK hP hD hS 0 rfl rfl 2 (by decide) hl_19 (fun _ h9 => h9) rfl (by decide +kernel) rfl rfl (Nat.le_of_ble_eq_true rfl) dX5_clear_7 (fun H locs hP hD hS => ?_)
  have hP : va_P D vwCl [(a, .inr (4, [.ref q, .int (nI 0), .int (nI 0)])), (q, .inl (ca 1, gcap 20000 gr, .inr (.inl f)))] H := hP
  have hD : va_D A [(a, .inr (4, [.ref q, .int (nI 0), .int (nI 0)])), (q, .inl (ca 1, gcap 20000 gr, .inr (.inl f)))] := hD
  exact rw_vret (u := ()) hx hb hr hlocks (trivial) (hP.sub [0, 1] rfl) (hD.sub [0, 1] (by decide) rfl) hS (Nat.le_refl _) (Nat.le_refl _) dX5_clear_10

set_option maxHeartbeats 4000000 in
set_option maxRecDepth 100000 in
theorem c_SR_init (l : Launch) (D : va_G) (ca : Nat → ClassId) (a : Nat)  (sz : Nat) : Met l yX5_init wsX5_init { frames := 1, cells := 1, slots := 64, locals := 20 } (rwP D vwCl (ATy ca) [(a, .inr (4, [.null, .int 0, .int 0]))] sz [.ref a]) (va_Qv (fun (u : Nat) => True) (bB D vwCl (fun (u : Nat) => [(a, .inr (4, [.ref u, .int (nI ([] : List Stq).length), .int (nI (escN ([] : List Stq)))])), (u, .inl (ca 1, gcap 20000 0, .inr (.inl (fun _ => 0))))]) (va_A [(a, .inr (4, [.null, .int 0, .int 0]))] sz)) (va_A [(a, .inr (4, [.null, .int 0, .int 0]))] sz)) 1 64 (va_A [(a, .inr (4, [.null, .int 0, .int 0]))] sz) := by
  refine rw_enter (Q := fun A => va_Qv (fun (u : Nat) => True) (bB D vwCl (fun (u : Nat) => [(a, .inr (4, [.ref u, .int (nI ([] : List Stq).length), .int (nI (escN ([] : List Stq)))])), (u, .inl (ca 1, gcap 20000 0, .inr (.inl (fun _ => 0))))]) A) A) (by decide) rfl (Nat.le_of_ble_eq_true rfl) ?_
  intro p e s m below meth c ls A C hnm hK hN hP hD hA hl
  have hS : va_S A s.heap s.heap [] := va_S.rf
  obtain ⟨hx, hb, hr, hml, hown, hlocks, hts⟩ := C
  have hl : lv_has ls 1 [(0, .ref a)] := hl
  have hw_c0b64a := hts (.methodLink RX5 5 objectInit) (by decide +kernel)
  have hw_fba9d5 := hts (.instanceMethod objectInit) (by decide +kernel)
  have hw_9febdb := hts (.code objectInit ⟨#[0xb1]⟩ 1 none) (by decide +kernel)
  have hw_f2af49 := hts (.arrayClass .long) (by decide +kernel)
  have hin_X5 : ∀ w ∈ wsX50, w ∈ wsX5_init := by decide +kernel
  have hl_11 := hts (.fieldLink RX5 11 "EscapeCoder$StepRow" "packed" "[J") (by decide +kernel)
  refine lv_aload_n hx hb dX5_init_0 rfl (lv_at hl 0 rfl) ?_
  refine W.objInit hx hb hown hw_c0b64a hw_fba9d5 hw_9febdb rfl (by rw [hml]; exact hl.1) rfl dX5_init_1 (Nat.le_of_ble_eq_true rfl) (Nat.le_of_ble_eq_true rfl) ?_
  refine W.eq (g2 := F0 m 4 ls []) rfl ?_
  refine lv_aload_n hx hb dX5_init_4 rfl (lv_at hl 0 rfl) ?_
  refine lv_bipush (v := nI 64) hx hb dX5_init_5 (by decide) ?_
  refine na (atype := .long) (n := nI 64) (ty := .long) (N' := 64) (a0 := (64, .inr (.inl (fun _ => 0)))) hx hb hw_f2af49 rfl hK hP hD hS hA (fun _ => rfl) (nI_pos (by omega)) (nI_clamp (by omega)) (by decide) (Nat.le_of_ble_eq_true rfl) (Nat.le_of_ble_eq_true rfl) dX5_init_7 1 rfl (fun _ h9 => h9) (fun q H hP hD hS => ?_)
  have hP : va_P D vwCl [(a, .inr (4, [.null, .int 0, .int 0])), (q, .inl (ca 1, 64, .inr (.inl (fun _ => 0))))] H := hP
  have hD : va_D A [(a, .inr (4, [.null, .int 0, .int 0])), (q, .inl (ca 1, 64, .inr (.inl (fun _ => 0))))] := hD
  refine W.widen (k := 1) (n := 64) (by omega) (by omega) ?_
  refine va_put (D := D) (ci := 4) (v := .ref q) (ty := (.array .long)) (C := RX5) (T := TX5) (N := 3) hx hb hts hin_X5 tyX5 tyX5_ok nmX5 hown hK hP hD hS 0 rfl rfl 0 (by decide) hl_11 (fun _ h9 => h9) rfl (by decide +kernel) rfl rfl (Nat.le_of_ble_eq_true rfl) dX5_init_9 (fun H locs hP hD hS => ?_)
  have hP : va_P D vwCl [(a, .inr (4, [.ref q, .int 0, .int 0])), (q, .inl (ca 1, 64, .inr (.inl (fun _ => 0))))] H := hP
  have hD : va_D A [(a, .inr (4, [.ref q, .int 0, .int 0])), (q, .inl (ca 1, 64, .inr (.inl (fun _ => 0))))] := hD
  exact rw_vret (u := q) hx hb hr hlocks (trivial) (hP.sub [0, 1] rfl) (hD.sub [0, 1] (by decide) rfl) hS (Nat.le_refl _) (Nat.le_refl _) dX5_init_12

set_option maxHeartbeats 4000000 in
set_option maxRecDepth 100000 in
theorem c_SR_add (l : Launch) (D : va_G) (ca : Nat → ClassId) (a : Nat) (q : Nat) (gr : Nat) (f : Nat → Int64) (st : List Stq) (b : Nat) (pa : Nat) (w : Nat) (o : Nat) (od : Int32) (es : Bool) (hB : SR f st) (hL : st.length ≤ gcap 20000 gr) (hm : st.length < 20000) (hs : b < 32768 ∧ pa < 32768 ∧ w < 32768 ∧ o < 4) (ho : od + 1 = nI o) (sz : Nat) : Met l yX5_add wsX5_add { frames := 2, cells := max gr (gN (st.length + 1)) - gr, slots := 20000 * (max gr (gN (st.length + 1)) - gr), locals := 48 } (rwP D vwCl (ATy ca) [(a, .inr (4, [.ref q, .int (nI st.length), .int (nI (escN st))])), (q, .inl (ca 1, gcap 20000 gr, .inr (.inl f)))] sz [.ref a, .int (nI b), .int (nI pa), .int (nI w), .int od, .int (bI es)]) (va_Qv (fun (u : Nat × (Nat → Int64)) => SR u.2 (st ++ [(b, pa, w, o, es)])) (bB D vwCl (fun (u : Nat × (Nat → Int64)) => [(a, .inr (4, [.ref u.1, .int (nI (st ++ [(b, pa, w, o, es)]).length), .int (nI (escN (st ++ [(b, pa, w, o, es)])))])), (u.1, .inl (ca 1, gcap 20000 (max gr (gN (st.length + 1))), .inr (.inl u.2)))]) (va_A [(a, .inr (4, [.ref q, .int (nI st.length), .int (nI (escN st))])), (q, .inl (ca 1, gcap 20000 gr, .inr (.inl f)))] sz)) (va_A [(a, .inr (4, [.ref q, .int (nI st.length), .int (nI (escN st))])), (q, .inl (ca 1, gcap 20000 gr, .inr (.inl f)))] sz)) (max gr (gN (st.length + 1)) - gr) (20000 * (max gr (gN (st.length + 1)) - gr)) (va_A [(a, .inr (4, [.ref q, .int (nI st.length), .int (nI (escN st))])), (q, .inl (ca 1, gcap 20000 gr, .inr (.inl f)))] sz) := by
  refine rw_enter (Q := fun A => va_Qv (fun (u : Nat × (Nat → Int64)) => SR u.2 (st ++ [(b, pa, w, o, es)])) (bB D vwCl (fun (u : Nat × (Nat → Int64)) => [(a, .inr (4, [.ref u.1, .int (nI (st ++ [(b, pa, w, o, es)]).length), .int (nI (escN (st ++ [(b, pa, w, o, es)])))])), (u.1, .inl (ca 1, gcap 20000 (max gr (gN (st.length + 1))), .inr (.inl u.2)))]) A) A) (by decide) rfl (Nat.le_of_ble_eq_true rfl) ?_
  intro p e s m below meth c ls A C hnm hK hN hP hD hA hl
  have hS : va_S A s.heap s.heap [] := va_S.rf
  obtain ⟨hx, hb, hr, hml, hown, hlocks, hts⟩ := C
  have hl : lv_has ls 6 [(0, .ref a), (1, .int (nI b)), (2, .int (nI pa)), (3, .int (nI w)), (4, .int od), (5, .int (bI es))] := hl
  have hin_X5 : ∀ w ∈ wsX50, w ∈ wsX5_add := by decide +kernel
  have hl_15 := hts (.fieldLink RX5 15 "EscapeCoder$StepRow" "made" "I") (by decide +kernel)
  have hl_11 := hts (.fieldLink RX5 11 "EscapeCoder$StepRow" "packed" "[J") (by decide +kernel)
  have hl_19 := hts (.fieldLink RX5 19 "EscapeCoder$StepRow" "escapes" "I") (by decide +kernel)
  have hw_0fc290 := hts (.initialized RX7) (by decide +kernel)
  have hw_fcdcae := hts (.static yX7_grown) (by decide +kernel)
  have hg := gcap_le 20000 gr
  refine lv_aload_n hx hb dX5_add_0 rfl (lv_at hl 0 rfl) ?_
  refine va_get (D := D) (ci := 4) (v := .int (nI st.length)) (C := RX5) (T := TX5) (N := 3) hx hb hts hin_X5 hown hK hP 0 rfl rfl 1 (by decide) hl_15 (fun _ h9 => h9) rfl dX5_add_1 ?_
  refine lv_sipush (v := nI 20000) hx hb dX5_add_4 (by decide) ?_
  refine bn_ge (tgt := 89) hx hb dX5_add_7 (by decide) (by omega) (by omega) (fun h1 => ?_) (fun h1 => ?_)
  · exact absurd h1 (by omega)
  · refine lv_aload_n hx hb dX5_add_10 rfl (lv_at hl 0 rfl) ?_
    refine va_get (D := D) (ci := 4) (v := .int (nI st.length)) (C := RX5) (T := TX5) (N := 3) hx hb hts hin_X5 hown hK hP 0 rfl rfl 1 (by decide) hl_15 (fun _ h9 => h9) rfl dX5_add_11 ?_
    refine lv_aload_n hx hb dX5_add_14 rfl (lv_at hl 0 rfl) ?_
    refine va_get (D := D) (ci := 4) (v := .ref q) (C := RX5) (T := TX5) (N := 3) hx hb hts hin_X5 hown hK hP 0 rfl rfl 0 (by decide) hl_11 (fun _ h9 => h9) rfl dX5_add_15 ?_
    refine va_alen hx hb hK hP 1 1 rfl rfl (v := nI (gcap 20000 gr)) rfl dX5_add_18 ?_
    refine bn_lt (tgt := 43) hx hb dX5_add_19 (by decide) (by omega) (by omega) (fun h2 => ?_) (fun h2 => ?_)
    · refine lv_aload_n hx hb dX5_add_43 rfl (lv_at hl 0 rfl) ?_
      refine va_get (D := D) (ci := 4) (v := .ref q) (C := RX5) (T := TX5) (N := 3) hx hb hts hin_X5 hown hK hP 0 rfl rfl 0 (by decide) hl_11 (fun _ h9 => h9) rfl dX5_add_44 ?_
      refine lv_aload_n hx hb dX5_add_47 rfl (lv_at hl 0 rfl) ?_
      refine va_get (D := D) (ci := 4) (v := .int (nI st.length)) (C := RX5) (T := TX5) (N := 3) hx hb hts hin_X5 hown hK hP 0 rfl rfl 1 (by decide) hl_15 (fun _ h9 => h9) rfl dX5_add_48 ?_
      refine lv_iload_n hx hb dX5_add_51 rfl (lv_at hl 1 rfl) ?_
      refine lv_i2l (v := lN b) hx hb dX5_add_52 (nI_l (by omega)) ?_
      refine lv_iload_n hx hb dX5_add_53 rfl (lv_at hl 2 rfl) ?_
      refine lv_i2l (v := lN pa) hx hb dX5_add_54 (nI_l (by omega)) ?_
      refine lv_bipush (v := nI 20) hx hb dX5_add_55 (by decide) ?_
      refine lv_lshl (v := lN (pa * 1048576)) hx hb dX5_add_57 (shl20 pa) ?_
      refine lv_lor hx hb dX5_add_58 ?_
      refine tp_l (y := lN (b + pa * 1048576)) (g_or' (k := 20) (p := 1048576) (by decide) (by omega) (by omega)) ?_
      refine lv_iload_n hx hb dX5_add_59 rfl (lv_at hl 3 rfl) ?_
      refine lv_i2l (v := lN w) hx hb dX5_add_60 (nI_l (by omega)) ?_
      refine lv_bipush (v := nI 40) hx hb dX5_add_61 (by decide) ?_
      refine lv_lshl (v := lN (w * 1099511627776)) hx hb dX5_add_63 (shl40 w) ?_
      refine lv_lor hx hb dX5_add_64 ?_
      refine tp_l (y := lN (b + pa * 1048576 + w * 1099511627776)) (g_or' (k := 40) (p := 1099511627776) (by decide) (by omega) (by omega)) ?_
      refine lv_iload hx hb dX5_add_65 (lv_at hl 4 rfl) ?_
      refine lv_iconst (v := nI 1) hx hb dX5_add_67 (by decide) ?_
      refine lv_iadd hx hb dX5_add_68 ?_
      refine tp_i (y := nI o) (ho) ?_
      refine lv_i2l (v := lN o) hx hb dX5_add_69 (nI_l (by omega)) ?_
      refine lv_bipush (v := nI 60) hx hb dX5_add_70 (by decide) ?_
      refine lv_lshl (v := lN (o * 1152921504606846976)) hx hb dX5_add_72 (shl60 o) ?_
      refine lv_lor hx hb dX5_add_73 ?_
      refine tp_l (y := lN (b + pa * 1048576 + w * 1099511627776 + o * 1152921504606846976)) (g_or' (k := 60) (p := 1152921504606846976) (by decide) (by omega) (by omega)) ?_
      refine lv_iload hx hb dX5_add_74 (lv_at hl 5 rfl) ?_
      refine bb_eq (tgt := 83) hx hb dX5_add_76 (by decide) (fun h5 => ?_) (fun h5 => ?_)
      · subst h5
        refine lv_lconst (v := lN 0) hx hb dX5_add_83 (by decide) ?_
        refine lv_bipush (v := nI 62) hx hb dX5_add_84 (by decide) ?_
        refine lv_lshl (v := lN (0 * 4611686018427387904)) hx hb dX5_add_86 (shl62 0) ?_
        refine lv_lor hx hb dX5_add_87 ?_
        refine tp_l (y := lN (pkS (b, pa, w, o, false))) ((g_or' (k := 62) (p := 4611686018427387904) (by decide) (by omega) (by omega)).trans (pkS_f _ _ _ _)) ?_
        refine st_l hx hb hK hP hD hS 1 1 rfl rfl (j := st.length) (h2) (by have := gcap_le 20000 (gr + 1); omega) dX5_add_88 (fun H locs hP hD hS => ?_)
        have hP : va_P D vwCl [(a, .inr (4, [.ref q, .int (nI st.length), .int (nI (escN st))])), (q, .inl (ca 1, gcap 20000 gr, .inr (.inl (vp_updL f st.length (lN (pkS (b, pa, w, o, false)))))))] H := hP
        have hD : va_D A [(a, .inr (4, [.ref q, .int (nI st.length), .int (nI (escN st))])), (q, .inl (ca 1, gcap 20000 gr, .inr (.inl (vp_updL f st.length (lN (pkS (b, pa, w, o, false)))))))] := hD
        refine lv_aload_n hx hb dX5_add_89 rfl (lv_at hl 0 rfl) ?_
        refine lv_dup hx hb dX5_add_90 rfl ?_
        refine va_get (D := D) (ci := 4) (v := .int (nI st.length)) (C := RX5) (T := TX5) (N := 3) hx hb hts hin_X5 hown hK hP 0 rfl rfl 1 (by decide) hl_15 (fun _ h9 => h9) rfl dX5_add_91 ?_
        refine lv_iconst (v := nI 1) hx hb dX5_add_94 (by decide) ?_
        refine lv_iadd hx hb dX5_add_95 ?_
        refine tp_i (y := nI (st.length + 1)) (nI_1 _) ?_
        refine va_put (D := D) (ci := 4) (v := .int (nI (st.length + 1))) (ty := .int) (C := RX5) (T := TX5) (N := 3) hx hb hts hin_X5 tyX5 tyX5_ok nmX5 hown hK hP hD hS 0 rfl rfl 1 (by decide) hl_15 (fun _ h9 => h9) rfl (by decide +kernel) rfl rfl (Nat.le_of_ble_eq_true rfl) dX5_add_96 (fun H locs hP hD hS => ?_)
        have hP : va_P D vwCl [(a, .inr (4, [.ref q, .int (nI (st.length + 1)), .int (nI (escN st))])), (q, .inl (ca 1, gcap 20000 gr, .inr (.inl (vp_updL f st.length (lN (pkS (b, pa, w, o, false)))))))] H := hP
        have hD : va_D A [(a, .inr (4, [.ref q, .int (nI (st.length + 1)), .int (nI (escN st))])), (q, .inl (ca 1, gcap 20000 gr, .inr (.inl (vp_updL f st.length (lN (pkS (b, pa, w, o, false)))))))] := hD
        refine lv_iload hx hb dX5_add_99 (lv_at hl 5 rfl) ?_
        refine bb_eq (tgt := 114) hx hb dX5_add_101 (by decide) (fun h6 => ?_) (fun h6 => ?_)
        · have e3 : max gr (gN (st.length + 1)) = gr := gN_n h2 hm
          have hP : va_P D vwCl [(a, .inr (4, [.ref q, .int (nI (st ++ [(b, pa, w, o, false)]).length), .int (nI (escN (st ++ [(b, pa, w, o, false)])))])), (q, .inl (ca 1, gcap 20000 (max gr (gN (st.length + 1))), .inr (.inl (vp_updL f st.length (lN (pkS (b, pa, w, o, false)))))))] H := by rw [e3, escN_app, List.length_append, List.length_singleton]; exact hP
          have hD : va_D A [(a, .inr (4, [.ref q, .int (nI (st ++ [(b, pa, w, o, false)]).length), .int (nI (escN (st ++ [(b, pa, w, o, false)])))])), (q, .inl (ca 1, gcap 20000 (max gr (gN (st.length + 1))), .inr (.inl (vp_updL f st.length (lN (pkS (b, pa, w, o, false)))))))] := by rw [e3, escN_app, List.length_append, List.length_singleton]; exact hD
          exact rw_vret (u := (q, (vp_updL f st.length (lN (pkS (b, pa, w, o, false)))))) hx hb hr hlocks (SR_app (hB) rfl) (hP.sub [0, 1] rfl) (hD.sub [0, 1] (by decide) rfl) hS (Nat.zero_le _) (Nat.zero_le _) dX5_add_114
        · exact absurd h6 (by decide)
      · subst h5
        refine lv_lconst (v := lN 1) hx hb dX5_add_79 (by decide) ?_
        refine lv_goto (tgt := 84) hx hb dX5_add_80 (by decide) ?_
        refine lv_bipush (v := nI 62) hx hb dX5_add_84 (by decide) ?_
        refine lv_lshl (v := lN (1 * 4611686018427387904)) hx hb dX5_add_86 (shl62 1) ?_
        refine lv_lor hx hb dX5_add_87 ?_
        refine tp_l (y := lN (pkS (b, pa, w, o, true))) ((g_or' (k := 62) (p := 4611686018427387904) (by decide) (by omega) (by omega)).trans (pkS_t _ _ _ _)) ?_
        refine st_l hx hb hK hP hD hS 1 1 rfl rfl (j := st.length) (h2) (by have := gcap_le 20000 (gr + 1); omega) dX5_add_88 (fun H locs hP hD hS => ?_)
        have hP : va_P D vwCl [(a, .inr (4, [.ref q, .int (nI st.length), .int (nI (escN st))])), (q, .inl (ca 1, gcap 20000 gr, .inr (.inl (vp_updL f st.length (lN (pkS (b, pa, w, o, true)))))))] H := hP
        have hD : va_D A [(a, .inr (4, [.ref q, .int (nI st.length), .int (nI (escN st))])), (q, .inl (ca 1, gcap 20000 gr, .inr (.inl (vp_updL f st.length (lN (pkS (b, pa, w, o, true)))))))] := hD
        refine lv_aload_n hx hb dX5_add_89 rfl (lv_at hl 0 rfl) ?_
        refine lv_dup hx hb dX5_add_90 rfl ?_
        refine va_get (D := D) (ci := 4) (v := .int (nI st.length)) (C := RX5) (T := TX5) (N := 3) hx hb hts hin_X5 hown hK hP 0 rfl rfl 1 (by decide) hl_15 (fun _ h9 => h9) rfl dX5_add_91 ?_
        refine lv_iconst (v := nI 1) hx hb dX5_add_94 (by decide) ?_
        refine lv_iadd hx hb dX5_add_95 ?_
        refine tp_i (y := nI (st.length + 1)) (nI_1 _) ?_
        refine va_put (D := D) (ci := 4) (v := .int (nI (st.length + 1))) (ty := .int) (C := RX5) (T := TX5) (N := 3) hx hb hts hin_X5 tyX5 tyX5_ok nmX5 hown hK hP hD hS 0 rfl rfl 1 (by decide) hl_15 (fun _ h9 => h9) rfl (by decide +kernel) rfl rfl (Nat.le_of_ble_eq_true rfl) dX5_add_96 (fun H locs hP hD hS => ?_)
        have hP : va_P D vwCl [(a, .inr (4, [.ref q, .int (nI (st.length + 1)), .int (nI (escN st))])), (q, .inl (ca 1, gcap 20000 gr, .inr (.inl (vp_updL f st.length (lN (pkS (b, pa, w, o, true)))))))] H := hP
        have hD : va_D A [(a, .inr (4, [.ref q, .int (nI (st.length + 1)), .int (nI (escN st))])), (q, .inl (ca 1, gcap 20000 gr, .inr (.inl (vp_updL f st.length (lN (pkS (b, pa, w, o, true)))))))] := hD
        refine lv_iload hx hb dX5_add_99 (lv_at hl 5 rfl) ?_
        refine bb_eq (tgt := 114) hx hb dX5_add_101 (by decide) (fun h6 => ?_) (fun h6 => ?_)
        · exact absurd h6 (by decide)
        · refine lv_aload_n hx hb dX5_add_104 rfl (lv_at hl 0 rfl) ?_
          refine lv_dup hx hb dX5_add_105 rfl ?_
          refine va_get (D := D) (ci := 4) (v := .int (nI (escN st))) (C := RX5) (T := TX5) (N := 3) hx hb hts hin_X5 hown hK hP 0 rfl rfl 2 (by decide) hl_19 (fun _ h9 => h9) rfl dX5_add_106 ?_
          refine lv_iconst (v := nI 1) hx hb dX5_add_109 (by decide) ?_
          refine lv_iadd hx hb dX5_add_110 ?_
          refine tp_i (y := nI (escN st + 1)) (nI_1 _) ?_
          refine va_put (D := D) (ci := 4) (v := .int (nI (escN st + 1))) (ty := .int) (C := RX5) (T := TX5) (N := 3) hx hb hts hin_X5 tyX5 tyX5_ok nmX5 hown hK hP hD hS 0 rfl rfl 2 (by decide) hl_19 (fun _ h9 => h9) rfl (by decide +kernel) rfl rfl (Nat.le_of_ble_eq_true rfl) dX5_add_111 (fun H locs hP hD hS => ?_)
          have hP : va_P D vwCl [(a, .inr (4, [.ref q, .int (nI (st.length + 1)), .int (nI (escN st + 1))])), (q, .inl (ca 1, gcap 20000 gr, .inr (.inl (vp_updL f st.length (lN (pkS (b, pa, w, o, true)))))))] H := hP
          have hD : va_D A [(a, .inr (4, [.ref q, .int (nI (st.length + 1)), .int (nI (escN st + 1))])), (q, .inl (ca 1, gcap 20000 gr, .inr (.inl (vp_updL f st.length (lN (pkS (b, pa, w, o, true)))))))] := hD
          have e3 : max gr (gN (st.length + 1)) = gr := gN_n h2 hm
          have hP : va_P D vwCl [(a, .inr (4, [.ref q, .int (nI (st ++ [(b, pa, w, o, true)]).length), .int (nI (escN (st ++ [(b, pa, w, o, true)])))])), (q, .inl (ca 1, gcap 20000 (max gr (gN (st.length + 1))), .inr (.inl (vp_updL f st.length (lN (pkS (b, pa, w, o, true)))))))] H := by rw [e3, escN_app, List.length_append, List.length_singleton]; exact hP
          have hD : va_D A [(a, .inr (4, [.ref q, .int (nI (st ++ [(b, pa, w, o, true)]).length), .int (nI (escN (st ++ [(b, pa, w, o, true)])))])), (q, .inl (ca 1, gcap 20000 (max gr (gN (st.length + 1))), .inr (.inl (vp_updL f st.length (lN (pkS (b, pa, w, o, true)))))))] := by rw [e3, escN_app, List.length_append, List.length_singleton]; exact hD
          exact rw_vret (u := (q, (vp_updL f st.length (lN (pkS (b, pa, w, o, true)))))) hx hb hr hlocks (SR_app (hB) rfl) (hP.sub [0, 1] rfl) (hD.sub [0, 1] (by decide) rfl) hS (Nat.zero_le _) (Nat.zero_le _) dX5_add_114
    · have e9 : max gr (gN (st.length + 1)) = gr + 1 := gN_y hL h2 hm
      refine lv_aload_n hx hb dX5_add_22 rfl (lv_at hl 0 rfl) ?_
      refine lv_aload_n hx hb dX5_add_23 rfl (lv_at hl 0 rfl) ?_
      refine va_get (D := D) (ci := 4) (v := .ref q) (C := RX5) (T := TX5) (N := 3) hx hb hts hin_X5 hown hK hP 0 rfl rfl 0 (by decide) hl_11 (fun _ h9 => h9) rfl dX5_add_24 ?_
      refine lv_aload_n hx hb dX5_add_27 rfl (lv_at hl 0 rfl) ?_
      refine va_get (D := D) (ci := 4) (v := .int (nI st.length)) (C := RX5) (T := TX5) (N := 3) hx hb hts hin_X5 hown hK hP 0 rfl rfl 1 (by decide) hl_15 (fun _ h9 => h9) rfl dX5_add_28 ?_
      refine lv_sipush (v := nI 20000) hx hb dX5_add_31 (by decide) ?_
      refine vp_callSi (va_Run.run (va_runSN (As := [.int (nI st.length), .int (nI 20000)]) (rest := [.ref q, .ref a]) ⟨hx, hb, hml, hown, hts⟩ (c_grown l D ca st.length 20000 (by omega) (by decide)) ⟨va_cnB 2 hts gX5_add_X7_grown_n22 rfl rfl rfl (nw_X5_22 hN) hw_0fc290 (by decide +kernel) ⟨Nat.le_of_ble_eq_true rfl, Nat.le_of_ble_eq_true rfl⟩, hw_fcdcae, trivial⟩ ⟨roP_blind, roP_at hK hN (hP.sub [] rfl)⟩ rfl rfl hl.1 rfl (lv_room (Nat.le_of_ble_eq_true rfl)) dX5_add_34 ⟨Nat.zero_le _, Nat.zero_le _⟩)) (fun r_1 hq => ?_)
      subst hq
      refine tp_i (y := nI (gcap 20000 (gr + 1))) (by rw [gcap_succ hL h2 hm]) ?_
      refine rw_callr (wc := [(q, .inl (ca 1, gcap 20000 gr, .inr (.inl f)))]) (wr := [(a, .inr (4, [.ref q, .int (nI st.length), .int (nI (escN st))]))]) hP hD hS hA [1] [0] rfl rfl (by decide) (by decide) (va_runS (As := [.ref q, .int (nI (gcap 20000 (gr + 1)))]) (rest := [.ref a]) ⟨hx, hb, hml, hown, hts⟩ (c_copyJ l D ca q (gcap 20000 gr) (gcap 20000 (gr + 1)) f (by omega) (by have := gcap_le 20000 (gr + 1); omega) (gcap_ne (by decide) (by omega)) s.heap.size) (va_cwS 2 hts gX5_add_J7_copyOf_c38d5 rfl rfl rfl (by decide +kernel) ⟨Nat.le_of_ble_eq_true rfl, Nat.le_of_ble_eq_true rfl⟩) ⟨rwP_blind, rwP_at hK hN (hP.sub [1] rfl) (hD.sub [1] (by decide) rfl)⟩ rfl rfl hl.1 rfl (lv_room (Nat.le_of_ble_eq_true rfl)) dX5_add_37 ⟨by show 0 + 1 ≤ max gr (gN (st.length + 1)) - gr; omega, by show 0 + 20000 ≤ 20000 * (max gr (gN (st.length + 1)) - gr); omega⟩) (fun r_2 u H locs hq hP hD hS => ?_)
      obtain ⟨q1_3, rfl⟩ : ∃ z, z = u := ⟨_, rfl⟩
      try dsimp only at hq
      have hP : va_P D vwCl [(a, .inr (4, [.ref q, .int (nI st.length), .int (nI (escN st))])), (q, .inl (ca 1, gcap 20000 gr, .inr (.inl f))), (q1_3, .inl (ca 1, gcap 20000 (gr + 1), .inr (.inl (va_cpy f (fun _ => 0) 0 0 (min (gcap 20000 gr) (gcap 20000 (gr + 1)))))))] H := hP
      have hD : va_D A [(a, .inr (4, [.ref q, .int (nI st.length), .int (nI (escN st))])), (q, .inl (ca 1, gcap 20000 gr, .inr (.inl f))), (q1_3, .inl (ca 1, gcap 20000 (gr + 1), .inr (.inl (va_cpy f (fun _ => 0) 0 0 (min (gcap 20000 gr) (gcap 20000 (gr + 1)))))))] := hD
      subst hq
      refine va_put (D := D) (ci := 4) (v := .ref r_2) (ty := (.array .long)) (C := RX5) (T := TX5) (N := 3) hx hb hts hin_X5 tyX5 tyX5_ok nmX5 hown hK hP hD hS 0 rfl rfl 0 (by decide) hl_11 (fun _ h9 => h9) rfl (by decide +kernel) rfl rfl (Nat.le_of_ble_eq_true rfl) dX5_add_40 (fun H locs hP hD hS => ?_)
      have hP : va_P D vwCl [(a, .inr (4, [.ref r_2, .int (nI st.length), .int (nI (escN st))])), (q, .inl (ca 1, gcap 20000 gr, .inr (.inl f))), (r_2, .inl (ca 1, gcap 20000 (gr + 1), .inr (.inl (va_cpy f (fun _ => 0) 0 0 (min (gcap 20000 gr) (gcap 20000 (gr + 1)))))))] H := hP
      have hD : va_D A [(a, .inr (4, [.ref r_2, .int (nI st.length), .int (nI (escN st))])), (q, .inl (ca 1, gcap 20000 gr, .inr (.inl f))), (r_2, .inl (ca 1, gcap 20000 (gr + 1), .inr (.inl (va_cpy f (fun _ => 0) 0 0 (min (gcap 20000 gr) (gcap 20000 (gr + 1)))))))] := hD
      refine lv_aload_n hx hb dX5_add_43 rfl (lv_at hl 0 rfl) ?_
      refine va_get (D := D) (ci := 4) (v := .ref r_2) (C := RX5) (T := TX5) (N := 3) hx hb hts hin_X5 hown hK hP 0 rfl rfl 0 (by decide) hl_11 (fun _ h9 => h9) rfl dX5_add_44 ?_
      refine lv_aload_n hx hb dX5_add_47 rfl (lv_at hl 0 rfl) ?_
      refine va_get (D := D) (ci := 4) (v := .int (nI st.length)) (C := RX5) (T := TX5) (N := 3) hx hb hts hin_X5 hown hK hP 0 rfl rfl 1 (by decide) hl_15 (fun _ h9 => h9) rfl dX5_add_48 ?_
      refine lv_iload_n hx hb dX5_add_51 rfl (lv_at hl 1 rfl) ?_
      refine lv_i2l (v := lN b) hx hb dX5_add_52 (nI_l (by omega)) ?_
      refine lv_iload_n hx hb dX5_add_53 rfl (lv_at hl 2 rfl) ?_
      refine lv_i2l (v := lN pa) hx hb dX5_add_54 (nI_l (by omega)) ?_
      refine lv_bipush (v := nI 20) hx hb dX5_add_55 (by decide) ?_
      refine lv_lshl (v := lN (pa * 1048576)) hx hb dX5_add_57 (shl20 pa) ?_
      refine lv_lor hx hb dX5_add_58 ?_
      refine tp_l (y := lN (b + pa * 1048576)) (g_or' (k := 20) (p := 1048576) (by decide) (by omega) (by omega)) ?_
      refine lv_iload_n hx hb dX5_add_59 rfl (lv_at hl 3 rfl) ?_
      refine lv_i2l (v := lN w) hx hb dX5_add_60 (nI_l (by omega)) ?_
      refine lv_bipush (v := nI 40) hx hb dX5_add_61 (by decide) ?_
      refine lv_lshl (v := lN (w * 1099511627776)) hx hb dX5_add_63 (shl40 w) ?_
      refine lv_lor hx hb dX5_add_64 ?_
      refine tp_l (y := lN (b + pa * 1048576 + w * 1099511627776)) (g_or' (k := 40) (p := 1099511627776) (by decide) (by omega) (by omega)) ?_
      refine lv_iload hx hb dX5_add_65 (lv_at hl 4 rfl) ?_
      refine lv_iconst (v := nI 1) hx hb dX5_add_67 (by decide) ?_
      refine lv_iadd hx hb dX5_add_68 ?_
      refine tp_i (y := nI o) (ho) ?_
      refine lv_i2l (v := lN o) hx hb dX5_add_69 (nI_l (by omega)) ?_
      refine lv_bipush (v := nI 60) hx hb dX5_add_70 (by decide) ?_
      refine lv_lshl (v := lN (o * 1152921504606846976)) hx hb dX5_add_72 (shl60 o) ?_
      refine lv_lor hx hb dX5_add_73 ?_
      refine tp_l (y := lN (b + pa * 1048576 + w * 1099511627776 + o * 1152921504606846976)) (g_or' (k := 60) (p := 1152921504606846976) (by decide) (by omega) (by omega)) ?_
      refine lv_iload hx hb dX5_add_74 (lv_at hl 5 rfl) ?_
      refine bb_eq (tgt := 83) hx hb dX5_add_76 (by decide) (fun h5 => ?_) (fun h5 => ?_)
      · subst h5
        refine lv_lconst (v := lN 0) hx hb dX5_add_83 (by decide) ?_
        refine lv_bipush (v := nI 62) hx hb dX5_add_84 (by decide) ?_
        refine lv_lshl (v := lN (0 * 4611686018427387904)) hx hb dX5_add_86 (shl62 0) ?_
        refine lv_lor hx hb dX5_add_87 ?_
        refine tp_l (y := lN (pkS (b, pa, w, o, false))) ((g_or' (k := 62) (p := 4611686018427387904) (by decide) (by omega) (by omega)).trans (pkS_f _ _ _ _)) ?_
        refine st_l hx hb hK hP hD hS 2 1 rfl rfl (j := st.length) (by have := gcap_up hL h2 hm; omega) (by have := gcap_le 20000 (gr + 1); omega) dX5_add_88 (fun H locs hP hD hS => ?_)
        have hP : va_P D vwCl [(a, .inr (4, [.ref r_2, .int (nI st.length), .int (nI (escN st))])), (q, .inl (ca 1, gcap 20000 gr, .inr (.inl f))), (r_2, .inl (ca 1, gcap 20000 (gr + 1), .inr (.inl (vp_updL (va_cpy f (fun _ => 0) 0 0 (min (gcap 20000 gr) (gcap 20000 (gr + 1)))) st.length (lN (pkS (b, pa, w, o, false)))))))] H := hP
        have hD : va_D A [(a, .inr (4, [.ref r_2, .int (nI st.length), .int (nI (escN st))])), (q, .inl (ca 1, gcap 20000 gr, .inr (.inl f))), (r_2, .inl (ca 1, gcap 20000 (gr + 1), .inr (.inl (vp_updL (va_cpy f (fun _ => 0) 0 0 (min (gcap 20000 gr) (gcap 20000 (gr + 1)))) st.length (lN (pkS (b, pa, w, o, false)))))))] := hD
        refine lv_aload_n hx hb dX5_add_89 rfl (lv_at hl 0 rfl) ?_
        refine lv_dup hx hb dX5_add_90 rfl ?_
        refine va_get (D := D) (ci := 4) (v := .int (nI st.length)) (C := RX5) (T := TX5) (N := 3) hx hb hts hin_X5 hown hK hP 0 rfl rfl 1 (by decide) hl_15 (fun _ h9 => h9) rfl dX5_add_91 ?_
        refine lv_iconst (v := nI 1) hx hb dX5_add_94 (by decide) ?_
        refine lv_iadd hx hb dX5_add_95 ?_
        refine tp_i (y := nI (st.length + 1)) (nI_1 _) ?_
        refine va_put (D := D) (ci := 4) (v := .int (nI (st.length + 1))) (ty := .int) (C := RX5) (T := TX5) (N := 3) hx hb hts hin_X5 tyX5 tyX5_ok nmX5 hown hK hP hD hS 0 rfl rfl 1 (by decide) hl_15 (fun _ h9 => h9) rfl (by decide +kernel) rfl rfl (Nat.le_of_ble_eq_true rfl) dX5_add_96 (fun H locs hP hD hS => ?_)
        have hP : va_P D vwCl [(a, .inr (4, [.ref r_2, .int (nI (st.length + 1)), .int (nI (escN st))])), (q, .inl (ca 1, gcap 20000 gr, .inr (.inl f))), (r_2, .inl (ca 1, gcap 20000 (gr + 1), .inr (.inl (vp_updL (va_cpy f (fun _ => 0) 0 0 (min (gcap 20000 gr) (gcap 20000 (gr + 1)))) st.length (lN (pkS (b, pa, w, o, false)))))))] H := hP
        have hD : va_D A [(a, .inr (4, [.ref r_2, .int (nI (st.length + 1)), .int (nI (escN st))])), (q, .inl (ca 1, gcap 20000 gr, .inr (.inl f))), (r_2, .inl (ca 1, gcap 20000 (gr + 1), .inr (.inl (vp_updL (va_cpy f (fun _ => 0) 0 0 (min (gcap 20000 gr) (gcap 20000 (gr + 1)))) st.length (lN (pkS (b, pa, w, o, false)))))))] := hD
        refine lv_iload hx hb dX5_add_99 (lv_at hl 5 rfl) ?_
        refine bb_eq (tgt := 114) hx hb dX5_add_101 (by decide) (fun h6 => ?_) (fun h6 => ?_)
        · have e3 : max gr (gN (st.length + 1)) = gr + 1 := e9
          have hP : va_P D vwCl [(a, .inr (4, [.ref r_2, .int (nI (st ++ [(b, pa, w, o, false)]).length), .int (nI (escN (st ++ [(b, pa, w, o, false)])))])), (q, .inl (ca 1, gcap 20000 gr, .inr (.inl f))), (r_2, .inl (ca 1, gcap 20000 (max gr (gN (st.length + 1))), .inr (.inl (vp_updL (va_cpy f (fun _ => 0) 0 0 (min (gcap 20000 gr) (gcap 20000 (gr + 1)))) st.length (lN (pkS (b, pa, w, o, false)))))))] H := by rw [e3, escN_app, List.length_append, List.length_singleton]; exact hP
          have hD : va_D A [(a, .inr (4, [.ref r_2, .int (nI (st ++ [(b, pa, w, o, false)]).length), .int (nI (escN (st ++ [(b, pa, w, o, false)])))])), (q, .inl (ca 1, gcap 20000 gr, .inr (.inl f))), (r_2, .inl (ca 1, gcap 20000 (max gr (gN (st.length + 1))), .inr (.inl (vp_updL (va_cpy f (fun _ => 0) 0 0 (min (gcap 20000 gr) (gcap 20000 (gr + 1)))) st.length (lN (pkS (b, pa, w, o, false)))))))] := by rw [e3, escN_app, List.length_append, List.length_singleton]; exact hD
          exact rw_vret (u := (r_2, (vp_updL (va_cpy f (fun _ => 0) 0 0 (min (gcap 20000 gr) (gcap 20000 (gr + 1)))) st.length (lN (pkS (b, pa, w, o, false)))))) hx hb hr hlocks (SR_app (SR_cpy hB (by have := gcap_up hL h2 hm; omega)) rfl) (hP.sub [0, 2] rfl) (hD.sub [0, 2] (by decide) rfl) hS (by omega) (by omega) dX5_add_114
        · exact absurd h6 (by decide)
      · subst h5
        refine lv_lconst (v := lN 1) hx hb dX5_add_79 (by decide) ?_
        refine lv_goto (tgt := 84) hx hb dX5_add_80 (by decide) ?_
        refine lv_bipush (v := nI 62) hx hb dX5_add_84 (by decide) ?_
        refine lv_lshl (v := lN (1 * 4611686018427387904)) hx hb dX5_add_86 (shl62 1) ?_
        refine lv_lor hx hb dX5_add_87 ?_
        refine tp_l (y := lN (pkS (b, pa, w, o, true))) ((g_or' (k := 62) (p := 4611686018427387904) (by decide) (by omega) (by omega)).trans (pkS_t _ _ _ _)) ?_
        refine st_l hx hb hK hP hD hS 2 1 rfl rfl (j := st.length) (by have := gcap_up hL h2 hm; omega) (by have := gcap_le 20000 (gr + 1); omega) dX5_add_88 (fun H locs hP hD hS => ?_)
        have hP : va_P D vwCl [(a, .inr (4, [.ref r_2, .int (nI st.length), .int (nI (escN st))])), (q, .inl (ca 1, gcap 20000 gr, .inr (.inl f))), (r_2, .inl (ca 1, gcap 20000 (gr + 1), .inr (.inl (vp_updL (va_cpy f (fun _ => 0) 0 0 (min (gcap 20000 gr) (gcap 20000 (gr + 1)))) st.length (lN (pkS (b, pa, w, o, true)))))))] H := hP
        have hD : va_D A [(a, .inr (4, [.ref r_2, .int (nI st.length), .int (nI (escN st))])), (q, .inl (ca 1, gcap 20000 gr, .inr (.inl f))), (r_2, .inl (ca 1, gcap 20000 (gr + 1), .inr (.inl (vp_updL (va_cpy f (fun _ => 0) 0 0 (min (gcap 20000 gr) (gcap 20000 (gr + 1)))) st.length (lN (pkS (b, pa, w, o, true)))))))] := hD
        refine lv_aload_n hx hb dX5_add_89 rfl (lv_at hl 0 rfl) ?_
        refine lv_dup hx hb dX5_add_90 rfl ?_
        refine va_get (D := D) (ci := 4) (v := .int (nI st.length)) (C := RX5) (T := TX5) (N := 3) hx hb hts hin_X5 hown hK hP 0 rfl rfl 1 (by decide) hl_15 (fun _ h9 => h9) rfl dX5_add_91 ?_
        refine lv_iconst (v := nI 1) hx hb dX5_add_94 (by decide) ?_
        refine lv_iadd hx hb dX5_add_95 ?_
        refine tp_i (y := nI (st.length + 1)) (nI_1 _) ?_
        refine va_put (D := D) (ci := 4) (v := .int (nI (st.length + 1))) (ty := .int) (C := RX5) (T := TX5) (N := 3) hx hb hts hin_X5 tyX5 tyX5_ok nmX5 hown hK hP hD hS 0 rfl rfl 1 (by decide) hl_15 (fun _ h9 => h9) rfl (by decide +kernel) rfl rfl (Nat.le_of_ble_eq_true rfl) dX5_add_96 (fun H locs hP hD hS => ?_)
        have hP : va_P D vwCl [(a, .inr (4, [.ref r_2, .int (nI (st.length + 1)), .int (nI (escN st))])), (q, .inl (ca 1, gcap 20000 gr, .inr (.inl f))), (r_2, .inl (ca 1, gcap 20000 (gr + 1), .inr (.inl (vp_updL (va_cpy f (fun _ => 0) 0 0 (min (gcap 20000 gr) (gcap 20000 (gr + 1)))) st.length (lN (pkS (b, pa, w, o, true)))))))] H := hP
        have hD : va_D A [(a, .inr (4, [.ref r_2, .int (nI (st.length + 1)), .int (nI (escN st))])), (q, .inl (ca 1, gcap 20000 gr, .inr (.inl f))), (r_2, .inl (ca 1, gcap 20000 (gr + 1), .inr (.inl (vp_updL (va_cpy f (fun _ => 0) 0 0 (min (gcap 20000 gr) (gcap 20000 (gr + 1)))) st.length (lN (pkS (b, pa, w, o, true)))))))] := hD
        refine lv_iload hx hb dX5_add_99 (lv_at hl 5 rfl) ?_
        refine bb_eq (tgt := 114) hx hb dX5_add_101 (by decide) (fun h6 => ?_) (fun h6 => ?_)
        · exact absurd h6 (by decide)
        · refine lv_aload_n hx hb dX5_add_104 rfl (lv_at hl 0 rfl) ?_
          refine lv_dup hx hb dX5_add_105 rfl ?_
          refine va_get (D := D) (ci := 4) (v := .int (nI (escN st))) (C := RX5) (T := TX5) (N := 3) hx hb hts hin_X5 hown hK hP 0 rfl rfl 2 (by decide) hl_19 (fun _ h9 => h9) rfl dX5_add_106 ?_
          refine lv_iconst (v := nI 1) hx hb dX5_add_109 (by decide) ?_
          refine lv_iadd hx hb dX5_add_110 ?_
          refine tp_i (y := nI (escN st + 1)) (nI_1 _) ?_
          refine va_put (D := D) (ci := 4) (v := .int (nI (escN st + 1))) (ty := .int) (C := RX5) (T := TX5) (N := 3) hx hb hts hin_X5 tyX5 tyX5_ok nmX5 hown hK hP hD hS 0 rfl rfl 2 (by decide) hl_19 (fun _ h9 => h9) rfl (by decide +kernel) rfl rfl (Nat.le_of_ble_eq_true rfl) dX5_add_111 (fun H locs hP hD hS => ?_)
          have hP : va_P D vwCl [(a, .inr (4, [.ref r_2, .int (nI (st.length + 1)), .int (nI (escN st + 1))])), (q, .inl (ca 1, gcap 20000 gr, .inr (.inl f))), (r_2, .inl (ca 1, gcap 20000 (gr + 1), .inr (.inl (vp_updL (va_cpy f (fun _ => 0) 0 0 (min (gcap 20000 gr) (gcap 20000 (gr + 1)))) st.length (lN (pkS (b, pa, w, o, true)))))))] H := hP
          have hD : va_D A [(a, .inr (4, [.ref r_2, .int (nI (st.length + 1)), .int (nI (escN st + 1))])), (q, .inl (ca 1, gcap 20000 gr, .inr (.inl f))), (r_2, .inl (ca 1, gcap 20000 (gr + 1), .inr (.inl (vp_updL (va_cpy f (fun _ => 0) 0 0 (min (gcap 20000 gr) (gcap 20000 (gr + 1)))) st.length (lN (pkS (b, pa, w, o, true)))))))] := hD
          have e3 : max gr (gN (st.length + 1)) = gr + 1 := e9
          have hP : va_P D vwCl [(a, .inr (4, [.ref r_2, .int (nI (st ++ [(b, pa, w, o, true)]).length), .int (nI (escN (st ++ [(b, pa, w, o, true)])))])), (q, .inl (ca 1, gcap 20000 gr, .inr (.inl f))), (r_2, .inl (ca 1, gcap 20000 (max gr (gN (st.length + 1))), .inr (.inl (vp_updL (va_cpy f (fun _ => 0) 0 0 (min (gcap 20000 gr) (gcap 20000 (gr + 1)))) st.length (lN (pkS (b, pa, w, o, true)))))))] H := by rw [e3, escN_app, List.length_append, List.length_singleton]; exact hP
          have hD : va_D A [(a, .inr (4, [.ref r_2, .int (nI (st ++ [(b, pa, w, o, true)]).length), .int (nI (escN (st ++ [(b, pa, w, o, true)])))])), (q, .inl (ca 1, gcap 20000 gr, .inr (.inl f))), (r_2, .inl (ca 1, gcap 20000 (max gr (gN (st.length + 1))), .inr (.inl (vp_updL (va_cpy f (fun _ => 0) 0 0 (min (gcap 20000 gr) (gcap 20000 (gr + 1)))) st.length (lN (pkS (b, pa, w, o, true)))))))] := by rw [e3, escN_app, List.length_append, List.length_singleton]; exact hD
          exact rw_vret (u := (r_2, (vp_updL (va_cpy f (fun _ => 0) 0 0 (min (gcap 20000 gr) (gcap 20000 (gr + 1)))) st.length (lN (pkS (b, pa, w, o, true)))))) hx hb hr hlocks (SR_app (SR_cpy hB (by have := gcap_up hL h2 hm; omega)) rfl) (hP.sub [0, 2] rfl) (hD.sub [0, 2] (by decide) rfl) hS (by omega) (by omega) dX5_add_114

set_option maxHeartbeats 4000000 in
set_option maxRecDepth 100000 in
theorem c_SR_answer (l : Launch) (D : va_G) (ca : Nat → ClassId) (a : Nat) (q : Nat) (gr : Nat) (f : Nat → Int64) (st : List Stq) (i : Int32) (w : Int32) (hB : SR f st) (hL : st.length ≤ gcap 20000 gr) (hm : st.length < 20000) (hs : ∀ x ∈ st, okS x) : Met l yX5_answer wsX5_answer { frames := 0, cells := 0, slots := 0, locals := 0 } (roP D vwCl (ATy ca) [(a, .inr (4, [.ref q, .int (nI st.length), .int (nI (escN st))])), (q, .inl (ca 1, gcap 20000 gr, .inr (.inl f)))] [.ref a, .int i, .int w]) (vp_Si (fun r : Int32 => r = stepI st i w)) 0 0 (fun _ => False) := by
  refine ro_enter (by decide) rfl (Nat.le_of_ble_eq_true rfl) ?_
  intro p e s m below meth c ls C hK hN hP hl
  obtain ⟨hx, hb, hr, hml, hown, hlocks, hts⟩ := C
  have hl : lv_has ls 5 [(0, .ref a), (1, .int i), (2, .int w)] := hl
  have hin_X5 : ∀ w ∈ wsX50, w ∈ wsX5_answer := by decide +kernel
  have hl_15 := hts (.fieldLink RX5 15 "EscapeCoder$StepRow" "made" "I") (by decide +kernel)
  have hl_11 := hts (.fieldLink RX5 11 "EscapeCoder$StepRow" "packed" "[J") (by decide +kernel)
  have hw_b5f9ee := hts (.constantLong RX5 32 (lN 1048575)) (by decide +kernel)
  have hw_4f6e2f := hts (.constantLong RX5 34 (lN 3)) (by decide +kernel)
  have hg := gcap_le 20000 gr
  refine lv_iload_n hx hb dX5_answer_0 rfl (lv_at hl 1 rfl) ?_
  refine lv_if_lt (tgt := 19) hx hb dX5_answer_1 (by decide) (fun h1 => ?_) (fun h1 => ?_)
  · refine lv_bipush (v := (-2)) hx hb dX5_answer_19 (by decide) ?_
    exact ro_iret hx hb hr hlocks ((stepI_neg h1).symm) dX5_answer_21
  · obtain ⟨j, hj, rfl⟩ := nI_of h1
    refine lv_iload_n hx hb dX5_answer_4 rfl (lv_at hl 1 rfl) ?_
    refine lv_aload_n hx hb dX5_answer_5 rfl (lv_at hl 0 rfl) ?_
    refine va_get (D := D) (ci := 4) (v := .int (nI st.length)) (C := RX5) (T := TX5) (N := 3) hx hb hts hin_X5 hown hK hP 0 rfl rfl 1 (by decide) hl_15 (fun _ h9 => h9) rfl dX5_answer_6 ?_
    refine bn_ge (tgt := 19) hx hb dX5_answer_9 (by decide) (by omega) (by omega) (fun h2 => ?_) (fun h2 => ?_)
    · refine lv_bipush (v := (-2)) hx hb dX5_answer_19 (by decide) ?_
      exact ro_iret hx hb hr hlocks ((stepI_big hj h2).symm) dX5_answer_21
    · refine lv_iload_n hx hb dX5_answer_12 rfl (lv_at hl 1 rfl) ?_
      refine lv_sipush (v := nI 20000) hx hb dX5_answer_13 (by decide) ?_
      refine bn_lt (tgt := 22) hx hb dX5_answer_16 (by decide) (by omega) (by omega) (fun h3 => ?_) (fun h3 => ?_)
      · refine lv_aload_n hx hb dX5_answer_22 rfl (lv_at hl 0 rfl) ?_
        refine va_get (D := D) (ci := 4) (v := .ref q) (C := RX5) (T := TX5) (N := 3) hx hb hts hin_X5 hown hK hP 0 rfl rfl 0 (by decide) hl_11 (fun _ h9 => h9) rfl dX5_answer_23 ?_
        refine lv_iload_n hx hb dX5_answer_26 rfl (lv_at hl 1 rfl) ?_
        refine ld_l hx hb hK hP 1 1 rfl rfl (j := j) (by omega) (by omega) dX5_answer_27 ?_
        have hx0 : okS (st.getD j sD) := hs _ (by exact getD_mem h2)
        have hlt := pkS_lt hx0
        refine tp_l (y := lN (pkS (st.getD j sD))) (hB j h2) ?_
        refine lv_lstore_n (lv' := [(3, .long (lN (pkS (st.getD j sD)))), (0, .ref a), (1, .int (nI j)), (2, .int w)]) hx hb dX5_answer_28 rfl hl (by decide) rfl (fun ls hl => ?_)
        refine lv_iload_n hx hb dX5_answer_29 rfl (lv_at hl 3 rfl) ?_
        by_cases e0 : w.toInt = 0
        · refine lv_tableIn (tgt := 64) hx hb dX5_answer_30 (by rw [e0]; decide) (by rw [e0]; decide) (by rw [e0]; rfl) (by decide) ?_
          refine lv_lload_n hx hb dX5_answer_64 rfl (lv_at hl 0 rfl) ?_
          refine lv_ldc2 (v := lN 1048575) hx hb hown hw_b5f9ee dX5_answer_65 ?_
          refine lv_land hx hb dX5_answer_68 ?_
          refine tp_l (y := lN (pkS (st.getD j sD) % 1048576)) (g_mask (s := 20) (p := 1048576) (by decide) (by decide) (by omega)) ?_
          refine lv_l2i (v := nI (pkS (st.getD j sD) % 1048576)) hx hb dX5_answer_69 (lN_i _) ?_
          exact ro_iret hx hb hr hlocks (by rw [stepI_in hj h2]; unfold stepV; rw [if_pos e0]; exact congrArg nI (pkS_0 hx0)) dX5_answer_70
        · by_cases e1 : w.toInt = 1
          · refine lv_tableIn (tgt := 71) hx hb dX5_answer_30 (by rw [e1]; decide) (by rw [e1]; decide) (by rw [e1]; rfl) (by decide) ?_
            refine lv_lload_n hx hb dX5_answer_71 rfl (lv_at hl 0 rfl) ?_
            refine lv_bipush (v := nI 20) hx hb dX5_answer_72 (by decide) ?_
            refine lv_lushr (v := lN (pkS (st.getD j sD) / 1048576)) hx hb dX5_answer_74 (shr20 (by omega)) ?_
            refine lv_ldc2 (v := lN 1048575) hx hb hown hw_b5f9ee dX5_answer_75 ?_
            refine lv_land hx hb dX5_answer_78 ?_
            refine tp_l (y := lN (pkS (st.getD j sD) / 1048576 % 1048576)) (g_mask (s := 20) (p := 1048576) (by decide) (by decide) (by omega)) ?_
            refine lv_l2i (v := nI (pkS (st.getD j sD) / 1048576 % 1048576)) hx hb dX5_answer_79 (lN_i _) ?_
            exact ro_iret hx hb hr hlocks (by rw [stepI_in hj h2]; unfold stepV; rw [if_neg e0]; rw [if_pos e1]; exact congrArg nI (pkS_1 hx0)) dX5_answer_80
          · by_cases e2 : w.toInt = 2
            · refine lv_tableIn (tgt := 81) hx hb dX5_answer_30 (by rw [e2]; decide) (by rw [e2]; decide) (by rw [e2]; rfl) (by decide) ?_
              refine lv_lload_n hx hb dX5_answer_81 rfl (lv_at hl 0 rfl) ?_
              refine lv_bipush (v := nI 40) hx hb dX5_answer_82 (by decide) ?_
              refine lv_lushr (v := lN (pkS (st.getD j sD) / 1099511627776)) hx hb dX5_answer_84 (shr40 (by omega)) ?_
              refine lv_ldc2 (v := lN 1048575) hx hb hown hw_b5f9ee dX5_answer_85 ?_
              refine lv_land hx hb dX5_answer_88 ?_
              refine tp_l (y := lN (pkS (st.getD j sD) / 1099511627776 % 1048576)) (g_mask (s := 20) (p := 1048576) (by decide) (by decide) (by omega)) ?_
              refine lv_l2i (v := nI (pkS (st.getD j sD) / 1099511627776 % 1048576)) hx hb dX5_answer_89 (lN_i _) ?_
              exact ro_iret hx hb hr hlocks (by rw [stepI_in hj h2]; unfold stepV; rw [if_neg e0]; rw [if_neg e1]; rw [if_pos e2]; exact congrArg nI (pkS_2 hx0)) dX5_answer_90
            · by_cases e3 : w.toInt = 3
              · refine lv_tableIn (tgt := 91) hx hb dX5_answer_30 (by rw [e3]; decide) (by rw [e3]; decide) (by rw [e3]; rfl) (by decide) ?_
                refine lv_lload_n hx hb dX5_answer_91 rfl (lv_at hl 0 rfl) ?_
                refine lv_bipush (v := nI 60) hx hb dX5_answer_92 (by decide) ?_
                refine lv_lushr (v := lN (pkS (st.getD j sD) / 1152921504606846976)) hx hb dX5_answer_94 (shr60 (by omega)) ?_
                refine lv_ldc2 (v := lN 3) hx hb hown hw_4f6e2f dX5_answer_95 ?_
                refine lv_land hx hb dX5_answer_98 ?_
                refine tp_l (y := lN (pkS (st.getD j sD) / 1152921504606846976 % 4)) (g_mask (s := 2) (p := 4) (by decide) (by decide) (by omega)) ?_
                refine lv_l2i (v := nI (pkS (st.getD j sD) / 1152921504606846976 % 4)) hx hb dX5_answer_99 (lN_i _) ?_
                refine lv_iconst (v := nI 1) hx hb dX5_answer_100 (by decide) ?_
                refine lv_isub hx hb dX5_answer_101 ?_
                exact ro_iret hx hb hr hlocks (by rw [stepI_in hj h2]; unfold stepV; rw [if_neg e0]; rw [if_neg e1]; rw [if_neg e2]; rw [if_pos e3]; rw [pkS_3 hx0]; rfl) dX5_answer_102
              · by_cases e4 : w.toInt = 4
                · refine lv_tableIn (tgt := 103) hx hb dX5_answer_30 (by rw [e4]; decide) (by rw [e4]; decide) (by rw [e4]; rfl) (by decide) ?_
                  refine lv_lload_n hx hb dX5_answer_103 rfl (lv_at hl 0 rfl) ?_
                  refine lv_bipush (v := nI 62) hx hb dX5_answer_104 (by decide) ?_
                  refine lv_lushr (v := lN (pkS (st.getD j sD) / 4611686018427387904)) hx hb dX5_answer_106 (shr62 (by omega)) ?_
                  refine lv_lconst (v := lN 1) hx hb dX5_answer_107 (by decide) ?_
                  refine lv_land hx hb dX5_answer_108 ?_
                  refine tp_l (y := lN (pkS (st.getD j sD) / 4611686018427387904 % 2)) (g_mask (s := 1) (p := 2) (by decide) (by decide) (by omega)) ?_
                  refine lv_l2i (v := nI (pkS (st.getD j sD) / 4611686018427387904 % 2)) hx hb dX5_answer_109 (lN_i _) ?_
                  exact ro_iret hx hb hr hlocks (by rw [stepI_in hj h2]; unfold stepV; rw [if_neg e0]; rw [if_neg e1]; rw [if_neg e2]; rw [if_neg e3]; rw [if_pos e4]; rw [pkS_4 hx0]; unfold bI; split <;> rfl) dX5_answer_110
                · refine lv_tableOut (tgt := 111) hx hb dX5_answer_30 (by omega) (by decide) ?_
                  refine lv_bipush (v := (-2)) hx hb dX5_answer_111 (by decide) ?_
                  exact ro_iret hx hb hr hlocks (by rw [stepI_in hj h2]; unfold stepV; rw [if_neg e0, if_neg e1, if_neg e2, if_neg e3, if_neg e4]) dX5_answer_113
      · exact absurd h3 (by omega)
