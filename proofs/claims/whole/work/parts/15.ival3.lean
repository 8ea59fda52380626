set_option maxHeartbeats 4000000 in
set_option maxRecDepth 100000 in
theorem c_R_raise (l : Launch) (D : va_G) (ca : Nat → ClassId) (a : Nat) (cb : Nat) (rg : Int64) (sv : Int32) (tk : Int32) (x : Nat) (by_ : Nat) (hby : by_ ≤ x) (sz : Nat) : Met l yX1_raiseLow wsX1_raiseLow { frames := 0, cells := 0, slots := 0, locals := 0 } (rwP D vwCl (ATy ca) [(a, .inr (1, [.long rg, .int sv, .ref cb, .long (lN x), .int tk]))] sz [.ref a, .long (lN by_)]) (va_Qv (fun (u : Unit) => True) (bB D vwCl (fun (u : Unit) => [(a, .inr (1, [.long rg, .int sv, .ref cb, .long (lN (x - by_)), .int tk]))]) (va_A [(a, .inr (1, [.long rg, .int sv, .ref cb, .long (lN x), .int tk]))] sz)) (va_A [(a, .inr (1, [.long rg, .int sv, .ref cb, .long (lN x), .int tk]))] sz)) 0 0 (va_A [(a, .inr (1, [.long rg, .int sv, .ref cb, .long (lN x), .int tk]))] sz) := by
  refine rw_enter (Q := fun A => va_Qv (fun (u : Unit) => True) (bB D vwCl (fun (u : Unit) => [(a, .inr (1, [.long rg, .int sv, .ref cb, .long (lN (x - by_)), .int tk]))]) A) A) (by decide) rfl (Nat.le_of_ble_eq_true rfl) ?_
  intro p e s m below meth c ls A C hnm hK hN hP hD hA hl
  have hS : va_S A s.heap s.heap [] := va_S.rf
  obtain ⟨hx, hb, hr, hml, hown, hlocks, hts⟩ := C
  have hl : lv_has ls 3 [(0, .ref a), (1, .long (lN by_))] := hl
  have hin_X1 : ∀ w ∈ wsX10, w ∈ wsX1_raiseLow := by decide +kernel
  have hl_18 := hts (.fieldLink RX1 18 "EscapeCoder$CodeReader" "ahead" "J") (by decide +kernel)
  refine lv_aload_n hx hb dX1_raiseLow_0 rfl (lv_at hl 0 rfl) ?_
  refine lv_dup hx hb dX1_raiseLow_1 rfl ?_
  refine va_get (D := D) (ci := 1) (v := .long (lN x)) (C := RX1) (T := TX1) (N := 5) hx hb hts hin_X1 hown hK hP 0 rfl rfl 3 (by decide) hl_18 (fun _ h9 => h9) rfl dX1_raiseLow_2 ?_
  refine lv_lload_n hx hb dX1_raiseLow_5 rfl (lv_at hl 1 rfl) ?_
  refine lv_lsub hx hb dX1_raiseLow_6 ?_
  refine tp_l (y := lN (x - by_)) (lN_sub hby) ?_
  refine va_put (D := D) (ci := 1) (v := .long (lN (x - by_))) (ty := .long) (C := RX1) (T := TX1) (N := 5) hx hb hts hin_X1 tyX1 tyX1_ok nmX1 hown hK hP hD hS 0 rfl rfl 3 (by decide) hl_18 (fun _ h9 => h9) rfl (by decide +kernel) rfl rfl (Nat.le_of_ble_eq_true rfl) dX1_raiseLow_7 (fun H locs hP hD hS => ?_)
  have hP : va_P D vwCl [(a, .inr (1, [.long rg, .int sv, .ref cb, .long (lN (x - by_)), .int tk]))] H := hP
  have hD : va_D A [(a, .inr (1, [.long rg, .int sv, .ref cb, .long (lN (x - by_)), .int tk]))] := hD
  exact rw_vret (u := ()) hx hb hr hlocks (trivial) (hP.sub [0] rfl) (hD.sub [0] (by decide) rfl) hS (Nat.le_refl _) (Nat.le_refl _) dX1_raiseLow_10

set_option maxHeartbeats 4000000 in
set_option maxRecDepth 100000 in
theorem c_R_shift (l : Launch) (D : va_G) (ca : Nat → ClassId) (a : Nat) (cb : Nat) (q : Nat) (gr : Nat) (rg : Int64) (sv : Int32) (x : Nat) (k : Nat) (f : Nat → Int32) (Cd : List Nat) (hB : BR f Cd) (hL : Cd.length ≤ gcap 8000 gr) (hy : ∀ j, Cd.getD j 0 < 256) (hk : k < 2 ^ 30) (sz : Nat) : Met l yX1_shiftOnce wsX1_shiftOnce { frames := 1, cells := 0, slots := 0, locals := 21 } (rwP D vwCl (ATy ca) [(a, .inr (1, [.long rg, .int sv, .ref cb, .long (lN x), .int (nI k)])), (cb, .inr (0, [.int (nI 8000), .ref q, .int (nI Cd.length)])), (q, .inl (ca 0, gcap 8000 gr, .inl f))] sz [.ref a]) (va_Qv (fun (u : Unit) => True) (bB D vwCl (fun (u : Unit) => [(a, .inr (1, [.long rg, .int sv, .ref cb, .long (lN (x * 256 + Cd.getD k 0)), .int (nI (k + 1))])), (cb, .inr (0, [.int (nI 8000), .ref q, .int (nI Cd.length)])), (q, .inl (ca 0, gcap 8000 gr, .inl f))]) (va_A [(a, .inr (1, [.long rg, .int sv, .ref cb, .long (lN x), .int (nI k)])), (cb, .inr (0, [.int (nI 8000), .ref q, .int (nI Cd.length)])), (q, .inl (ca 0, gcap 8000 gr, .inl f))] sz)) (va_A [(a, .inr (1, [.long rg, .int sv, .ref cb, .long (lN x), .int (nI k)])), (cb, .inr (0, [.int (nI 8000), .ref q, .int (nI Cd.length)])), (q, .inl (ca 0, gcap 8000 gr, .inl f))] sz)) 0 0 (va_A [(a, .inr (1, [.long rg, .int sv, .ref cb, .long (lN x), .int (nI k)])), (cb, .inr (0, [.int (nI 8000), .ref q, .int (nI Cd.length)])), (q, .inl (ca 0, gcap 8000 gr, .inl f))] sz) := by
  refine rw_enter (Q := fun A => va_Qv (fun (u : Unit) => True) (bB D vwCl (fun (u : Unit) => [(a, .inr (1, [.long rg, .int sv, .ref cb, .long (lN (x * 256 + Cd.getD k 0)), .int (nI (k + 1))])), (cb, .inr (0, [.int (nI 8000), .ref q, .int (nI Cd.length)])), (q, .inl (ca 0, gcap 8000 gr, .inl f))]) A) A) (by decide) rfl (Nat.le_of_ble_eq_true rfl) ?_
  intro p e s m below meth c ls A C hnm hK hN hP hD hA hl
  have hS : va_S A s.heap s.heap [] := va_S.rf
  obtain ⟨hx, hb, hr, hml, hown, hlocks, hts⟩ := C
  have hl : lv_has ls 1 [(0, .ref a)] := hl
  have hin_X1 : ∀ w ∈ wsX10, w ∈ wsX1_shiftOnce := by decide +kernel
  have hl_18 := hts (.fieldLink RX1 18 "EscapeCoder$CodeReader" "ahead" "J") (by decide +kernel)
  have hw_b07acf := hts (.constantLong RX1 39 (lN 256)) (by decide +kernel)
  have hl_22 := hts (.fieldLink RX1 22 "EscapeCoder$CodeReader" "taken" "I") (by decide +kernel)
  have hl_9 := hts (.fieldLink RX1 9 "EscapeCoder$CodeReader" "code" "LEscapeCoder$ByteRow;") (by decide +kernel)
  have hg := gcap_le 8000 gr
  have hyk := hy k
  refine lv_aload_n hx hb dX1_shiftOnce_0 rfl (lv_at hl 0 rfl) ?_
  refine lv_aload_n hx hb dX1_shiftOnce_1 rfl (lv_at hl 0 rfl) ?_
  refine va_get (D := D) (ci := 1) (v := .long (lN x)) (C := RX1) (T := TX1) (N := 5) hx hb hts hin_X1 hown hK hP 0 rfl rfl 3 (by decide) hl_18 (fun _ h9 => h9) rfl dX1_shiftOnce_2 ?_
  refine lv_ldc2 (v := lN 256) hx hb hown hw_b07acf dX1_shiftOnce_5 ?_
  refine lv_lmul hx hb dX1_shiftOnce_8 ?_
  refine tp_l (y := lN (x * 256)) (lN_mul x 256) ?_
  refine lv_aload_n hx hb dX1_shiftOnce_9 rfl (lv_at hl 0 rfl) ?_
  refine va_get (D := D) (ci := 1) (v := .int (nI k)) (C := RX1) (T := TX1) (N := 5) hx hb hts hin_X1 hown hK hP 0 rfl rfl 4 (by decide) hl_22 (fun _ h9 => h9) rfl dX1_shiftOnce_10 ?_
  refine lv_aload_n hx hb dX1_shiftOnce_13 rfl (lv_at hl 0 rfl) ?_
  refine va_get (D := D) (ci := 1) (v := .ref cb) (C := RX1) (T := TX1) (N := 5) hx hb hts hin_X1 hown hK hP 0 rfl rfl 2 (by decide) hl_9 (fun _ h9 => h9) rfl dX1_shiftOnce_14 ?_
  refine vp_callSi (va_Run.run (va_runV (As := []) (rest := [.int (nI k), .long (lN (x * 256)), .ref a]) ⟨hx, hb, hml, hown, hts⟩ (c_BR_length l D ca cb q 8000 gr f Cd ) (cwV 0 hts gX1_shiftOnce_X0_length rfl rfl rfl (by decide +kernel) ⟨Nat.le_of_ble_eq_true rfl, Nat.le_of_ble_eq_true rfl⟩) ⟨roP_blind, va_recv hK hP (ci := 0) (q0 := 1) rfl rfl, roP_at hK hN (hP.sub [1, 2] rfl)⟩ rfl rfl hl.1 rfl (lv_room (Nat.le_of_ble_eq_true rfl)) dX1_shiftOnce_17 ⟨Nat.le_of_ble_eq_true rfl, Nat.le_of_ble_eq_true rfl⟩)) (fun r_1 hq => ?_)
  subst hq
  refine bn_ge (tgt := 37) hx hb dX1_shiftOnce_20 (by decide) (by omega) (by omega) (fun h1 => ?_) (fun h1 => ?_)
  · refine lv_iconst (v := nI 0) hx hb dX1_shiftOnce_37 (by decide) ?_
    refine lv_i2l (v := lN (Cd.getD k 0)) hx hb dX1_shiftOnce_38 (by rw [gD_big h1]; rfl) ?_
    refine lv_ladd hx hb dX1_shiftOnce_39 ?_
    refine tp_l (y := lN (x * 256 + Cd.getD k 0)) (lN_add _ _) ?_
    refine va_put (D := D) (ci := 1) (v := .long (lN (x * 256 + Cd.getD k 0))) (ty := .long) (C := RX1) (T := TX1) (N := 5) hx hb hts hin_X1 tyX1 tyX1_ok nmX1 hown hK hP hD hS 0 rfl rfl 3 (by decide) hl_18 (fun _ h9 => h9) rfl (by decide +kernel) rfl rfl (Nat.le_of_ble_eq_true rfl) dX1_shiftOnce_40 (fun H locs hP hD hS => ?_)
    have hP : va_P D vwCl [(a, .inr (1, [.long rg, .int sv, .ref cb, .long (lN (x * 256 + Cd.getD k 0)), .int (nI k)])), (cb, .inr (0, [.int (nI 8000), .ref q, .int (nI Cd.length)])), (q, .inl (ca 0, gcap 8000 gr, .inl f))] H := hP
    have hD : va_D A [(a, .inr (1, [.long rg, .int sv, .ref cb, .long (lN (x * 256 + Cd.getD k 0)), .int (nI k)])), (cb, .inr (0, [.int (nI 8000), .ref q, .int (nI Cd.length)])), (q, .inl (ca 0, gcap 8000 gr, .inl f))] := hD
    refine lv_aload_n hx hb dX1_shiftOnce_43 rfl (lv_at hl 0 rfl) ?_
    refine lv_dup hx hb dX1_shiftOnce_44 rfl ?_
    refine va_get (D := D) (ci := 1) (v := .int (nI k)) (C := RX1) (T := TX1) (N := 5) hx hb hts hin_X1 hown hK hP 0 rfl rfl 4 (by decide) hl_22 (fun _ h9 => h9) rfl dX1_shiftOnce_45 ?_
    refine lv_iconst (v := nI 1) hx hb dX1_shiftOnce_48 (by decide) ?_
    refine lv_iadd hx hb dX1_shiftOnce_49 ?_
    refine tp_i (y := nI (k + 1)) (nI_1 _) ?_
    refine va_put (D := D) (ci := 1) (v := .int (nI (k + 1))) (ty := .int) (C := RX1) (T := TX1) (N := 5) hx hb hts hin_X1 tyX1 tyX1_ok nmX1 hown hK hP hD hS 0 rfl rfl 4 (by decide) hl_22 (fun _ h9 => h9) rfl (by decide +kernel) rfl rfl (Nat.le_of_ble_eq_true rfl) dX1_shiftOnce_50 (fun H locs hP hD hS => ?_)
    have hP : va_P D vwCl [(a, .inr (1, [.long rg, .int sv, .ref cb, .long (lN (x * 256 + Cd.getD k 0)), .int (nI (k + 1))])), (cb, .inr (0, [.int (nI 8000), .ref q, .int (nI Cd.length)])), (q, .inl (ca 0, gcap 8000 gr, .inl f))] H := hP
    have hD : va_D A [(a, .inr (1, [.long rg, .int sv, .ref cb, .long (lN (x * 256 + Cd.getD k 0)), .int (nI (k + 1))])), (cb, .inr (0, [.int (nI 8000), .ref q, .int (nI Cd.length)])), (q, .inl (ca 0, gcap 8000 gr, .inl f))] := hD
    exact rw_vret (u := ()) hx hb hr hlocks (trivial) (hP.sub [0, 1, 2] rfl) (hD.sub [0, 1, 2] (by decide) rfl) hS (Nat.le_refl _) (Nat.le_refl _) dX1_shiftOnce_53
  · refine lv_aload_n hx hb dX1_shiftOnce_23 rfl (lv_at hl 0 rfl) ?_
    refine va_get (D := D) (ci := 1) (v := .ref cb) (C := RX1) (T := TX1) (N := 5) hx hb hts hin_X1 hown hK hP 0 rfl rfl 2 (by decide) hl_9 (fun _ h9 => h9) rfl dX1_shiftOnce_24 ?_
    refine lv_aload_n hx hb dX1_shiftOnce_27 rfl (lv_at hl 0 rfl) ?_
    refine va_get (D := D) (ci := 1) (v := .int (nI k)) (C := RX1) (T := TX1) (N := 5) hx hb hts hin_X1 hown hK hP 0 rfl rfl 4 (by decide) hl_22 (fun _ h9 => h9) rfl dX1_shiftOnce_28 ?_
    refine vp_callSi (va_Run.run (va_runV (As := [.int (nI k)]) (rest := [.long (lN (x * 256)), .ref a]) ⟨hx, hb, hml, hown, hts⟩ (c_BR_byteAt l D ca cb q 8000 gr f Cd (nI k) (hB) (hL) (by decide)) (cwV 1 hts gX1_shiftOnce_X0_byteAt rfl rfl rfl (by decide +kernel) ⟨Nat.le_of_ble_eq_true rfl, Nat.le_of_ble_eq_true rfl⟩) ⟨roP_blind, va_recv hK hP (ci := 0) (q0 := 1) rfl rfl, roP_at hK hN (hP.sub [1, 2] rfl)⟩ rfl rfl hl.1 rfl (lv_room (Nat.le_of_ble_eq_true rfl)) dX1_shiftOnce_31 ⟨Nat.le_of_ble_eq_true rfl, Nat.le_of_ble_eq_true rfl⟩)) (fun r_2 hq => ?_)
    have hv : atI Cd (nI k) = nI (Cd.getD k 0) := by unfold atI; rw [inL_nI (by omega), if_pos (by simp; omega), nI_clamp (by omega)]
    rw [hv] at hq
    subst hq
    refine lv_goto (tgt := 38) hx hb dX1_shiftOnce_34 (by decide) ?_
    refine lv_i2l (v := lN (Cd.getD k 0)) hx hb dX1_shiftOnce_38 (nI_l (by omega)) ?_
    refine lv_ladd hx hb dX1_shiftOnce_39 ?_
    refine tp_l (y := lN (x * 256 + Cd.getD k 0)) (lN_add _ _) ?_
    refine va_put (D := D) (ci := 1) (v := .long (lN (x * 256 + Cd.getD k 0))) (ty := .long) (C := RX1) (T := TX1) (N := 5) hx hb hts hin_X1 tyX1 tyX1_ok nmX1 hown hK hP hD hS 0 rfl rfl 3 (by decide) hl_18 (fun _ h9 => h9) rfl (by decide +kernel) rfl rfl (Nat.le_of_ble_eq_true rfl) dX1_shiftOnce_40 (fun H locs hP hD hS => ?_)
    have hP : va_P D vwCl [(a, .inr (1, [.long rg, .int sv, .ref cb, .long (lN (x * 256 + Cd.getD k 0)), .int (nI k)])), (cb, .inr (0, [.int (nI 8000), .ref q, .int (nI Cd.length)])), (q, .inl (ca 0, gcap 8000 gr, .inl f))] H := hP
    have hD : va_D A [(a, .inr (1, [.long rg, .int sv, .ref cb, .long (lN (x * 256 + Cd.getD k 0)), .int (nI k)])), (cb, .inr (0, [.int (nI 8000), .ref q, .int (nI Cd.length)])), (q, .inl (ca 0, gcap 8000 gr, .inl f))] := hD
    refine lv_aload_n hx hb dX1_shiftOnce_43 rfl (lv_at hl 0 rfl) ?_
    refine lv_dup hx hb dX1_shiftOnce_44 rfl ?_
    refine va_get (D := D) (ci := 1) (v := .int (nI k)) (C := RX1) (T := TX1) (N := 5) hx hb hts hin_X1 hown hK hP 0 rfl rfl 4 (by decide) hl_22 (fun _ h9 => h9) rfl dX1_shiftOnce_45 ?_
    refine lv_iconst (v := nI 1) hx hb dX1_shiftOnce_48 (by decide) ?_
    refine lv_iadd hx hb dX1_shiftOnce_49 ?_
    refine tp_i (y := nI (k + 1)) (nI_1 _) ?_
    refine va_put (D := D) (ci := 1) (v := .int (nI (k + 1))) (ty := .int) (C := RX1) (T := TX1) (N := 5) hx hb hts hin_X1 tyX1 tyX1_ok nmX1 hown hK hP hD hS 0 rfl rfl 4 (by decide) hl_22 (fun _ h9 => h9) rfl (by decide +kernel) rfl rfl (Nat.le_of_ble_eq_true rfl) dX1_shiftOnce_50 (fun H locs hP hD hS => ?_)
    have hP : va_P D vwCl [(a, .inr (1, [.long rg, .int sv, .ref cb, .long (lN (x * 256 + Cd.getD k 0)), .int (nI (k + 1))])), (cb, .inr (0, [.int (nI 8000), .ref q, .int (nI Cd.length)])), (q, .inl (ca 0, gcap 8000 gr, .inl f))] H := hP
    have hD : va_D A [(a, .inr (1, [.long rg, .int sv, .ref cb, .long (lN (x * 256 + Cd.getD k 0)), .int (nI (k + 1))])), (cb, .inr (0, [.int (nI 8000), .ref q, .int (nI Cd.length)])), (q, .inl (ca 0, gcap 8000 gr, .inl f))] := hD
    exact rw_vret (u := ()) hx hb hr hlocks (trivial) (hP.sub [0, 1, 2] rfl) (hD.sub [0, 1, 2] (by decide) rfl) hS (Nat.le_refl _) (Nat.le_refl _) dX1_shiftOnce_53

set_option maxHeartbeats 4000000 in
set_option maxRecDepth 100000 in
theorem c_R_place (l : Launch) (D : va_G) (ca : Nat → ClassId) (a : Nat) (cb : Nat) (R : Nat) (t : Nat) (x : Nat) (sv : Int32) (tk : Int32) (w : Int32) (ht : 1 ≤ t ∧ t < 2 ^ 31) (hR : R < 2 ^ 63) (hx2 : x < 2 ^ 63) (hu : 1 ≤ R / t) : Met l yX1_placeIn wsX1_placeIn { frames := 1, cells := 0, slots := 0, locals := 23 } (roP D vwCl (ATy ca) [(a, .inr (1, [.long (lN R), .int sv, .ref cb, .long (lN x), .int tk]))] [.ref a, .int (nI t), .int w]) (vp_Si (fun r : Int32 => r = nI (plc (x, R, 0) t))) 0 0 (fun _ => False) := by
  refine ro_enter (by decide) rfl (Nat.le_of_ble_eq_true rfl) ?_
  intro p e s m below meth c ls C hK hN hP hl
  obtain ⟨hx, hb, hr, hml, hown, hlocks, hts⟩ := C
  have hl : lv_has ls 5 [(0, .ref a), (1, .int (nI t)), (2, .int w)] := hl
  have hin_X1 : ∀ w ∈ wsX10, w ∈ wsX1_placeIn := by decide +kernel
  have hl_18 := hts (.fieldLink RX1 18 "EscapeCoder$CodeReader" "ahead" "J") (by decide +kernel)
  have hw_1ab7cb := hts (.methodLink RX1 33 Lib.MathLoose.min_long.x) (by decide +kernel)
  have hw_07670a := hts (.static Lib.MathLoose.min_long.x) (by decide +kernel)
  have hw_868a92 := hts (.initialized "java/lang/Math") (by decide +kernel)
  have hw_c0acf8 := hts (.code Lib.MathLoose.min_long.x Lib.MathLoose.min_long.code 4 (some .long)) (by decide +kernel)
  refine lv_aload_n hx hb dX1_placeIn_0 rfl (lv_at hl 0 rfl) ?_
  refine lv_iload_n hx hb dX1_placeIn_1 rfl (lv_at hl 1 rfl) ?_
  refine vp_callSl (va_Run.run (va_runU (As := [.int (nI t)]) (rest := []) ⟨hx, hb, hml, hown, hts⟩ (c_R_unit l D ca R t a cb sv tk (lN x) (ht) (hR)) (va_cwU 1 hts gX1_placeIn_X3_unitOf_u29X1 rfl rfl rfl rfl (by decide +kernel) ⟨Nat.le_of_ble_eq_true rfl, Nat.le_of_ble_eq_true rfl⟩) ⟨roP_blind, va_recv hK hP (ci := 1) (q0 := 0) rfl rfl, roP_at hK hN (hP.sub [0] rfl)⟩ rfl rfl hl.1 rfl (lv_room (Nat.le_of_ble_eq_true rfl)) dX1_placeIn_2 ⟨Nat.le_of_ble_eq_true rfl, Nat.le_of_ble_eq_true rfl⟩)) (fun r_1 hq => ?_)
  subst hq
  refine lv_lstore_n (lv' := [(3, .long (lN (R / t))), (0, .ref a), (1, .int (nI t)), (2, .int w)]) hx hb dX1_placeIn_5 rfl hl (by decide) rfl (fun ls hl => ?_)
  refine lv_lload_n hx hb dX1_placeIn_6 rfl (lv_at hl 0 rfl) ?_
  refine lv_lconst (v := lN 1) hx hb dX1_placeIn_7 (by decide) ?_
  refine W.lcmp hx hb dX1_placeIn_8 ?_
  have hRt : R / t ≤ R := Nat.div_le_self _ _
  refine bl_ge (tgt := 16) hx hb dX1_placeIn_9 (by decide) (by omega) (by omega) (fun h1 => ?_) (fun h1 => ?_)
  · refine lv_aload_n hx hb dX1_placeIn_16 rfl (lv_at hl 1 rfl) ?_
    refine va_get (D := D) (ci := 1) (v := .long (lN x)) (C := RX1) (T := TX1) (N := 5) hx hb hts hin_X1 hown hK hP 0 rfl rfl 3 (by decide) hl_18 (fun _ h9 => h9) rfl dX1_placeIn_17 ?_
    refine lv_lload_n hx hb dX1_placeIn_20 rfl (lv_at hl 0 rfl) ?_
    refine lv_ldiv hx hb dX1_placeIn_21 (lN_ne0 hu (by omega)) ?_
    refine tp_l (y := lN (x / (R / t))) (pk_lDiv hx2 (by omega) (by omega)) ?_
    refine lv_iload_n hx hb dX1_placeIn_22 rfl (lv_at hl 2 rfl) ?_
    refine lv_iconst (v := nI 1) hx hb dX1_placeIn_23 (by decide) ?_
    refine lv_isub hx hb dX1_placeIn_24 ?_
    refine tp_i (y := nI (t - 1)) (pk_sub ht.1) ?_
    refine lv_i2l (v := lN (t - 1)) hx hb dX1_placeIn_25 (nI_l (by omega)) ?_
    have hxq : x / (R / t) ≤ x := Nat.div_le_self _ _
    refine mnl (x := x / (R / t)) (y := t - 1) hx hb (hml.trans hl.1.symm) hown hw_1ab7cb hw_07670a hw_868a92 hw_c0acf8 (Nat.le_of_ble_eq_true rfl) (Nat.le_of_ble_eq_true rfl) (Nat.zero_le _) (Nat.zero_le _) (by omega) (by omega) dX1_placeIn_26 ?_
    refine lv_l2i (v := nI (min (x / (R / t)) (t - 1))) hx hb dX1_placeIn_29 (lN_i _) ?_
    exact ro_iret hx hb hr hlocks (rfl) dX1_placeIn_30
  · exact absurd h1 (by omega)

set_option maxHeartbeats 4000000 in
set_option maxRecDepth 100000 in
theorem c_R_restart (l : Launch) (D : va_G) (ca : Nat → ClassId) (a : Nat) (cb : Nat) (q : Nat) (gr : Nat) (rg : Int64) (lo : Int64) (sv : Int32) (tk : Int32) (f : Nat → Int32) (Cd : List Nat) (hB : BR f Cd) (hL : Cd.length ≤ gcap 8000 gr) (hy : ∀ j, Cd.getD j 0 < 256) (sz : Nat) : Met l yX1_restart wsX1_restart { frames := 2, cells := 0, slots := 0, locals := 41 } (rwP D vwCl (ATy ca) [(a, .inr (1, [.long rg, .int sv, .ref cb, .long lo, .int tk])), (cb, .inr (0, [.int (nI 8000), .ref q, .int (nI Cd.length)])), (q, .inl (ca 0, gcap 8000 gr, .inl f))] sz [.ref a]) (va_Qv (fun (u : Unit) => True) (bB D vwCl (fun (u : Unit) => [(a, .inr (1, [.long (lN 4294967295), .int (nI 0), .ref cb, .long (lN (val4 Cd)), .int (nI (4 + 0))])), (cb, .inr (0, [.int (nI 8000), .ref q, .int (nI Cd.length)])), (q, .inl (ca 0, gcap 8000 gr, .inl f))]) (va_A [(a, .inr (1, [.long rg, .int sv, .ref cb, .long lo, .int tk])), (cb, .inr (0, [.int (nI 8000), .ref q, .int (nI Cd.length)])), (q, .inl (ca 0, gcap 8000 gr, .inl f))] sz)) (va_A [(a, .inr (1, [.long rg, .int sv, .ref cb, .long lo, .int tk])), (cb, .inr (0, [.int (nI 8000), .ref q, .int (nI Cd.length)])), (q, .inl (ca 0, gcap 8000 gr, .inl f))] sz)) 0 0 (va_A [(a, .inr (1, [.long rg, .int sv, .ref cb, .long lo, .int tk])), (cb, .inr (0, [.int (nI 8000), .ref q, .int (nI Cd.length)])), (q, .inl (ca 0, gcap 8000 gr, .inl f))] sz) := by
  refine rw_enter (Q := fun A => va_Qv (fun (u : Unit) => True) (bB D vwCl (fun (u : Unit) => [(a, .inr (1, [.long (lN 4294967295), .int (nI 0), .ref cb, .long (lN (val4 Cd)), .int (nI (4 + 0))])), (cb, .inr (0, [.int (nI 8000), .ref q, .int (nI Cd.length)])), (q, .inl (ca 0, gcap 8000 gr, .inl f))]) A) A) (by decide) rfl (Nat.le_of_ble_eq_true rfl) ?_
  intro p e s m below meth c ls A C hnm hK hN hP hD hA hl
  have hS : va_S A s.heap s.heap [] := va_S.rf
  obtain ⟨hx, hb, hr, hml, hown, hlocks, hts⟩ := C
  have hl : lv_has ls 2 [(0, .ref a)] := hl
  have hin_X1 : ∀ w ∈ wsX10, w ∈ wsX1_restart := by decide +kernel
  have hl_18 := hts (.fieldLink RX1 18 "EscapeCoder$CodeReader" "ahead" "J") (by decide +kernel)
  have hl_22 := hts (.fieldLink RX1 22 "EscapeCoder$CodeReader" "taken" "I") (by decide +kernel)
  refine lv_aload_n hx hb dX1_restart_0 rfl (lv_at hl 0 rfl) ?_
  refine rw_callv (wc := [(a, .inr (1, [.long rg, .int sv, .ref cb, .long lo, .int tk]))]) (wr := [(cb, .inr (0, [.int (nI 8000), .ref q, .int (nI Cd.length)])), (q, .inl (ca 0, gcap 8000 gr, .inl f))]) hP hD hS hA [0] [1, 2] rfl rfl (by decide) (by decide) (va_runU (As := []) (rest := []) ⟨hx, hb, hml, hown, hts⟩ (c_R_widen l D ca a cb rg lo sv tk  s.heap.size) (va_cwU 0 hts gX1_restart_X3_widen_u15X1 rfl rfl rfl rfl (by decide +kernel) ⟨Nat.le_of_ble_eq_true rfl, Nat.le_of_ble_eq_true rfl⟩) ⟨rwP_blind, va_recv hK hP (ci := 1) (q0 := 0) rfl rfl, rwP_at hK hN (hP.sub [0] rfl) (hD.sub [0] (by decide) rfl)⟩ rfl rfl hl.1 rfl (lv_room (Nat.le_of_ble_eq_true rfl)) dX1_restart_1 ⟨Nat.le_of_ble_eq_true rfl, Nat.le_of_ble_eq_true rfl⟩) (fun u H locs hq hP hD hS => ?_)
  try dsimp only at hq
  have hP : va_P D vwCl [(cb, .inr (0, [.int (nI 8000), .ref q, .int (nI Cd.length)])), (q, .inl (ca 0, gcap 8000 gr, .inl f)), (a, .inr (1, [.long (lN 4294967295), .int (nI 0), .ref cb, .long lo, .int tk]))] H := hP
  have hD : va_D A [(cb, .inr (0, [.int (nI 8000), .ref q, .int (nI Cd.length)])), (q, .inl (ca 0, gcap 8000 gr, .inl f)), (a, .inr (1, [.long (lN 4294967295), .int (nI 0), .ref cb, .long lo, .int tk]))] := hD
  refine lv_aload_n hx hb dX1_restart_4 rfl (lv_at hl 0 rfl) ?_
  refine lv_lconst (v := lN 0) hx hb dX1_restart_5 (by decide) ?_
  refine va_put (D := D) (ci := 1) (v := .long (lN 0)) (ty := .long) (C := RX1) (T := TX1) (N := 5) hx hb hts hin_X1 tyX1 tyX1_ok nmX1 hown hK hP hD hS 2 rfl rfl 3 (by decide) hl_18 (fun _ h9 => h9) rfl (by decide +kernel) rfl rfl (Nat.le_of_ble_eq_true rfl) dX1_restart_6 (fun H locs hP hD hS => ?_)
  have hP : va_P D vwCl [(cb, .inr (0, [.int (nI 8000), .ref q, .int (nI Cd.length)])), (q, .inl (ca 0, gcap 8000 gr, .inl f)), (a, .inr (1, [.long (lN 4294967295), .int (nI 0), .ref cb, .long (lN 0), .int tk]))] H := hP
  have hD : va_D A [(cb, .inr (0, [.int (nI 8000), .ref q, .int (nI Cd.length)])), (q, .inl (ca 0, gcap 8000 gr, .inl f)), (a, .inr (1, [.long (lN 4294967295), .int (nI 0), .ref cb, .long (lN 0), .int tk]))] := hD
  refine lv_aload_n hx hb dX1_restart_9 rfl (lv_at hl 0 rfl) ?_
  refine lv_iconst (v := nI 0) hx hb dX1_restart_10 (by decide) ?_
  refine va_put (D := D) (ci := 1) (v := .int (nI 0)) (ty := .int) (C := RX1) (T := TX1) (N := 5) hx hb hts hin_X1 tyX1 tyX1_ok nmX1 hown hK hP hD hS 2 rfl rfl 4 (by decide) hl_22 (fun _ h9 => h9) rfl (by decide +kernel) rfl rfl (Nat.le_of_ble_eq_true rfl) dX1_restart_11 (fun H locs hP hD hS => ?_)
  have hP : va_P D vwCl [(cb, .inr (0, [.int (nI 8000), .ref q, .int (nI Cd.length)])), (q, .inl (ca 0, gcap 8000 gr, .inl f)), (a, .inr (1, [.long (lN 4294967295), .int (nI 0), .ref cb, .long (lN 0), .int (nI 0)]))] H := hP
  have hD : va_D A [(cb, .inr (0, [.int (nI 8000), .ref q, .int (nI Cd.length)])), (q, .inl (ca 0, gcap 8000 gr, .inl f)), (a, .inr (1, [.long (lN 4294967295), .int (nI 0), .ref cb, .long (lN 0), .int (nI 0)]))] := hD
  refine lv_iconst (v := nI 0) hx hb dX1_restart_14 (by decide) ?_
  refine lv_istore_n (lv' := [(1, .int (nI 0)), (0, .ref a)]) hx hb dX1_restart_15 rfl hl (by decide) rfl (fun ls hl => ?_)
  refine lv_iload_n hx hb dX1_restart_16 rfl (lv_at hl 0 rfl) ?_
  refine lv_iconst (v := nI 4) hx hb dX1_restart_17 (by decide) ?_
  refine bn_ge (tgt := 31) hx hb dX1_restart_18 (by decide) (by omega) (by omega) (fun hh => ?_) (fun hh => ?_)
  · exact absurd hh (by decide)
  · refine lv_aload_n hx hb dX1_restart_21 rfl (lv_at hl 1 rfl) ?_
    refine rw_callv (wc := [(a, .inr (1, [.long (lN 4294967295), .int (nI 0), .ref cb, .long (lN 0), .int (nI 0)])), (cb, .inr (0, [.int (nI 8000), .ref q, .int (nI Cd.length)])), (q, .inl (ca 0, gcap 8000 gr, .inl f))]) (wr := []) hP hD hS hA [2, 0, 1] [] rfl rfl (by decide) (by decide) (va_runV (As := []) (rest := []) ⟨hx, hb, hml, hown, hts⟩ (c_R_shift l D ca a cb q gr (lN 4294967295) (nI 0) 0 0 f Cd (hB) (hL) (hy) (by decide) H.size) (cwV 0 hts gX1_restart_X1_shiftOnce rfl rfl rfl (by decide +kernel) ⟨Nat.le_of_ble_eq_true rfl, Nat.le_of_ble_eq_true rfl⟩) ⟨rwP_blind, va_recv hK hP (ci := 1) (q0 := 2) rfl rfl, rwP_at hK hN (hP.sub [2, 0, 1] rfl) (hD.sub [2, 0, 1] (by decide) rfl)⟩ rfl rfl hl.1 rfl (lv_room (Nat.le_of_ble_eq_true rfl)) dX1_restart_22 ⟨Nat.le_of_ble_eq_true rfl, Nat.le_of_ble_eq_true rfl⟩) (fun u H locs hq hP hD hS => ?_)
    try dsimp only at hq
    have hP : va_P D vwCl [(a, .inr (1, [.long (lN 4294967295), .int (nI 0), .ref cb, .long (lN (0 * 256 + Cd.getD 0 0)), .int (nI (0 + 1))])), (cb, .inr (0, [.int (nI 8000), .ref q, .int (nI Cd.length)])), (q, .inl (ca 0, gcap 8000 gr, .inl f))] H := hP
    have hD : va_D A [(a, .inr (1, [.long (lN 4294967295), .int (nI 0), .ref cb, .long (lN (0 * 256 + Cd.getD 0 0)), .int (nI (0 + 1))])), (cb, .inr (0, [.int (nI 8000), .ref q, .int (nI Cd.length)])), (q, .inl (ca 0, gcap 8000 gr, .inl f))] := hD
    refine lv_iinc (v := nI 1) (lv' := [(1, .int (nI 1)), (0, .ref a)]) hx hb dX1_restart_25 hl (k := 0) rfl (by decide) (by decide) rfl (fun ls hl => ?_)
    refine lv_goto (tgt := 16) hx hb dX1_restart_28 (by decide) ?_
    refine lv_iload_n hx hb dX1_restart_16 rfl (lv_at hl 0 rfl) ?_
    refine lv_iconst (v := nI 4) hx hb dX1_restart_17 (by decide) ?_
    refine bn_ge (tgt := 31) hx hb dX1_restart_18 (by decide) (by omega) (by omega) (fun hh => ?_) (fun hh => ?_)
    · exact absurd hh (by decide)
    · refine lv_aload_n hx hb dX1_restart_21 rfl (lv_at hl 1 rfl) ?_
      refine rw_callv (wc := [(a, .inr (1, [.long (lN 4294967295), .int (nI 0), .ref cb, .long (lN (0 * 256 + Cd.getD 0 0)), .int (nI (0 + 1))])), (cb, .inr (0, [.int (nI 8000), .ref q, .int (nI Cd.length)])), (q, .inl (ca 0, gcap 8000 gr, .inl f))]) (wr := []) hP hD hS hA [0, 1, 2] [] rfl rfl (by decide) (by decide) (va_runV (As := []) (rest := []) ⟨hx, hb, hml, hown, hts⟩ (c_R_shift l D ca a cb q gr (lN 4294967295) (nI 0) (0 * 256 + Cd.getD 0 0) (0 + 1) f Cd (hB) (hL) (hy) (by decide) H.size) (cwV 0 hts gX1_restart_X1_shiftOnce rfl rfl rfl (by decide +kernel) ⟨Nat.le_of_ble_eq_true rfl, Nat.le_of_ble_eq_true rfl⟩) ⟨rwP_blind, va_recv hK hP (ci := 1) (q0 := 0) rfl rfl, rwP_at hK hN (hP.sub [0, 1, 2] rfl) (hD.sub [0, 1, 2] (by decide) rfl)⟩ rfl rfl hl.1 rfl (lv_room (Nat.le_of_ble_eq_true rfl)) dX1_restart_22 ⟨Nat.le_of_ble_eq_true rfl, Nat.le_of_ble_eq_true rfl⟩) (fun u H locs hq hP hD hS => ?_)
      try dsimp only at hq
      have hP : va_P D vwCl [(a, .inr (1, [.long (lN 4294967295), .int (nI 0), .ref cb, .long (lN ((0 * 256 + Cd.getD 0 0) * 256 + Cd.getD (0 + 1) 0)), .int (nI ((0 + 1) + 1))])), (cb, .inr (0, [.int (nI 8000), .ref q, .int (nI Cd.length)])), (q, .inl (ca 0, gcap 8000 gr, .inl f))] H := hP
      have hD : va_D A [(a, .inr (1, [.long (lN 4294967295), .int (nI 0), .ref cb, .long (lN ((0 * 256 + Cd.getD 0 0) * 256 + Cd.getD (0 + 1) 0)), .int (nI ((0 + 1) + 1))])), (cb, .inr (0, [.int (nI 8000), .ref q, .int (nI Cd.length)])), (q, .inl (ca 0, gcap 8000 gr, .inl f))] := hD
      refine lv_iinc (v := nI 2) (lv' := [(1, .int (nI 2)), (0, .ref a)]) hx hb dX1_restart_25 hl (k := 0) rfl (by decide) (by decide) rfl (fun ls hl => ?_)
      refine lv_goto (tgt := 16) hx hb dX1_restart_28 (by decide) ?_
      refine lv_iload_n hx hb dX1_restart_16 rfl (lv_at hl 0 rfl) ?_
      refine lv_iconst (v := nI 4) hx hb dX1_restart_17 (by decide) ?_
      refine bn_ge (tgt := 31) hx hb dX1_restart_18 (by decide) (by omega) (by omega) (fun hh => ?_) (fun hh => ?_)
      · exact absurd hh (by decide)
      · refine lv_aload_n hx hb dX1_restart_21 rfl (lv_at hl 1 rfl) ?_
        refine rw_callv (wc := [(a, .inr (1, [.long (lN 4294967295), .int (nI 0), .ref cb, .long (lN ((0 * 256 + Cd.getD 0 0) * 256 + Cd.getD (0 + 1) 0)), .int (nI ((0 + 1) + 1))])), (cb, .inr (0, [.int (nI 8000), .ref q, .int (nI Cd.length)])), (q, .inl (ca 0, gcap 8000 gr, .inl f))]) (wr := []) hP hD hS hA [0, 1, 2] [] rfl rfl (by decide) (by decide) (va_runV (As := []) (rest := []) ⟨hx, hb, hml, hown, hts⟩ (c_R_shift l D ca a cb q gr (lN 4294967295) (nI 0) ((0 * 256 + Cd.getD 0 0) * 256 + Cd.getD (0 + 1) 0) ((0 + 1) + 1) f Cd (hB) (hL) (hy) (by decide) H.size) (cwV 0 hts gX1_restart_X1_shiftOnce rfl rfl rfl (by decide +kernel) ⟨Nat.le_of_ble_eq_true rfl, Nat.le_of_ble_eq_true rfl⟩) ⟨rwP_blind, va_recv hK hP (ci := 1) (q0 := 0) rfl rfl, rwP_at hK hN (hP.sub [0, 1, 2] rfl) (hD.sub [0, 1, 2] (by decide) rfl)⟩ rfl rfl hl.1 rfl (lv_room (Nat.le_of_ble_eq_true rfl)) dX1_restart_22 ⟨Nat.le_of_ble_eq_true rfl, Nat.le_of_ble_eq_true rfl⟩) (fun u H locs hq hP hD hS => ?_)
        try dsimp only at hq
        have hP : va_P D vwCl [(a, .inr (1, [.long (lN 4294967295), .int (nI 0), .ref cb, .long (lN (((0 * 256 + Cd.getD 0 0) * 256 + Cd.getD (0 + 1) 0) * 256 + Cd.getD ((0 + 1) + 1) 0)), .int (nI (((0 + 1) + 1) + 1))])), (cb, .inr (0, [.int (nI 8000), .ref q, .int (nI Cd.length)])), (q, .inl (ca 0, gcap 8000 gr, .inl f))] H := hP
        have hD : va_D A [(a, .inr (1, [.long (lN 4294967295), .int (nI 0), .ref cb, .long (lN (((0 * 256 + Cd.getD 0 0) * 256 + Cd.getD (0 + 1) 0) * 256 + Cd.getD ((0 + 1) + 1) 0)), .int (nI (((0 + 1) + 1) + 1))])), (cb, .inr (0, [.int (nI 8000), .ref q, .int (nI Cd.length)])), (q, .inl (ca 0, gcap 8000 gr, .inl f))] := hD
        refine lv_iinc (v := nI 3) (lv' := [(1, .int (nI 3)), (0, .ref a)]) hx hb dX1_restart_25 hl (k := 0) rfl (by decide) (by decide) rfl (fun ls hl => ?_)
        refine lv_goto (tgt := 16) hx hb dX1_restart_28 (by decide) ?_
        refine lv_iload_n hx hb dX1_restart_16 rfl (lv_at hl 0 rfl) ?_
        refine lv_iconst (v := nI 4) hx hb dX1_restart_17 (by decide) ?_
        refine bn_ge (tgt := 31) hx hb dX1_restart_18 (by decide) (by omega) (by omega) (fun hh => ?_) (fun hh => ?_)
        · exact absurd hh (by decide)
        · refine lv_aload_n hx hb dX1_restart_21 rfl (lv_at hl 1 rfl) ?_
          refine rw_callv (wc := [(a, .inr (1, [.long (lN 4294967295), .int (nI 0), .ref cb, .long (lN (((0 * 256 + Cd.getD 0 0) * 256 + Cd.getD (0 + 1) 0) * 256 + Cd.getD ((0 + 1) + 1) 0)), .int (nI (((0 + 1) + 1) + 1))])), (cb, .inr (0, [.int (nI 8000), .ref q, .int (nI Cd.length)])), (q, .inl (ca 0, gcap 8000 gr, .inl f))]) (wr := []) hP hD hS hA [0, 1, 2] [] rfl rfl (by decide) (by decide) (va_runV (As := []) (rest := []) ⟨hx, hb, hml, hown, hts⟩ (c_R_shift l D ca a cb q gr (lN 4294967295) (nI 0) (((0 * 256 + Cd.getD 0 0) * 256 + Cd.getD (0 + 1) 0) * 256 + Cd.getD ((0 + 1) + 1) 0) (((0 + 1) + 1) + 1) f Cd (hB) (hL) (hy) (by decide) H.size) (cwV 0 hts gX1_restart_X1_shiftOnce rfl rfl rfl (by decide +kernel) ⟨Nat.le_of_ble_eq_true rfl, Nat.le_of_ble_eq_true rfl⟩) ⟨rwP_blind, va_recv hK hP (ci := 1) (q0 := 0) rfl rfl, rwP_at hK hN (hP.sub [0, 1, 2] rfl) (hD.sub [0, 1, 2] (by decide) rfl)⟩ rfl rfl hl.1 rfl (lv_room (Nat.le_of_ble_eq_true rfl)) dX1_restart_22 ⟨Nat.le_of_ble_eq_true rfl, Nat.le_of_ble_eq_true rfl⟩) (fun u H locs hq hP hD hS => ?_)
          try dsimp only at hq
          have hP : va_P D vwCl [(a, .inr (1, [.long (lN 4294967295), .int (nI 0), .ref cb, .long (lN ((((0 * 256 + Cd.getD 0 0) * 256 + Cd.getD (0 + 1) 0) * 256 + Cd.getD ((0 + 1) + 1) 0) * 256 + Cd.getD (((0 + 1) + 1) + 1) 0)), .int (nI ((((0 + 1) + 1) + 1) + 1))])), (cb, .inr (0, [.int (nI 8000), .ref q, .int (nI Cd.length)])), (q, .inl (ca 0, gcap 8000 gr, .inl f))] H := hP
          have hD : va_D A [(a, .inr (1, [.long (lN 4294967295), .int (nI 0), .ref cb, .long (lN ((((0 * 256 + Cd.getD 0 0) * 256 + Cd.getD (0 + 1) 0) * 256 + Cd.getD ((0 + 1) + 1) 0) * 256 + Cd.getD (((0 + 1) + 1) + 1) 0)), .int (nI ((((0 + 1) + 1) + 1) + 1))])), (cb, .inr (0, [.int (nI 8000), .ref q, .int (nI Cd.length)])), (q, .inl (ca 0, gcap 8000 gr, .inl f))] := hD
          refine lv_iinc (v := nI 4) (lv' := [(1, .int (nI 4)), (0, .ref a)]) hx hb dX1_restart_25 hl (k := 0) rfl (by decide) (by decide) rfl (fun ls hl => ?_)
          refine lv_goto (tgt := 16) hx hb dX1_restart_28 (by decide) ?_
          refine lv_iload_n hx hb dX1_restart_16 rfl (lv_at hl 0 rfl) ?_
          refine lv_iconst (v := nI 4) hx hb dX1_restart_17 (by decide) ?_
          refine bn_ge (tgt := 31) hx hb dX1_restart_18 (by decide) (by omega) (by omega) (fun hh => ?_) (fun hh => ?_)
          · have hP : va_P D vwCl [(a, .inr (1, [.long (lN 4294967295), .int (nI 0), .ref cb, .long (lN (val4 Cd)), .int (nI (4 + 0))])), (cb, .inr (0, [.int (nI 8000), .ref q, .int (nI Cd.length)])), (q, .inl (ca 0, gcap 8000 gr, .inl f))] H := by rw [val4_z]; exact hP
            have hD : va_D A [(a, .inr (1, [.long (lN 4294967295), .int (nI 0), .ref cb, .long (lN (val4 Cd)), .int (nI (4 + 0))])), (cb, .inr (0, [.int (nI 8000), .ref q, .int (nI Cd.length)])), (q, .inl (ca 0, gcap 8000 gr, .inl f))] := by rw [val4_z]; exact hD
            exact rw_vret (u := ()) hx hb hr hlocks (trivial) (hP.sub [0, 1, 2] rfl) (hD.sub [0, 1, 2] (by decide) rfl) hS (Nat.le_refl _) (Nat.le_refl _) dX1_restart_31
          · exact absurd hh (by decide)

set_option maxHeartbeats 4000000 in
set_option maxRecDepth 100000 in
theorem c_W_narrow (l : Launch) (D : va_G) (ca : Nat → ClassId) (a : Nat) (cb : Nat) (q : Nat) (gr : Nat) (R : Nat) (sh : Nat) (x : Nat) (b : Nat) (pa : Nat) (t : Nat) (f : Nat → Int32) (hB : BR f (dig sh (x / 4294967296))) (hL : sh ≤ gcap 8000 gr) (hn : sh + 4 ≤ 8000) (hR : R < 4294967296) (ht : 1 ≤ t ∧ t < 2 ^ 30 ∧ b + pa ≤ t) (sz : Nat) : Met l yX3_narrow wsX3_narrow { frames := 4, cells := max gr (gN (nar false [] b pa t (x, R, sh)).2.2) - gr, slots := 20000 * (max gr (gN (nar false [] b pa t (x, R, sh)).2.2) - gr), locals := 89 } (rwP D vwCl (ATy ca) [(a, .inr (2, [.long (lN R), .int (nI sh), .ref cb, .long (lN (x % 4294967296))])), (cb, .inr (0, [.int (nI 8000), .ref q, .int (nI (dig sh (x / 4294967296)).length)])), (q, .inl (ca 0, gcap 8000 gr, .inl f))] sz [.ref a, .int (nI b), .int (nI pa), .int (nI t)]) (va_Qv (fun (u : Nat × (Nat → Int32)) => BR u.2 (dig (nar false [] b pa t (x, R, sh)).2.2 ((nar false [] b pa t (x, R, sh)).1 / 4294967296))) (bB D vwCl (fun (u : Nat × (Nat → Int32)) => [(a, .inr (2, [.long (lN ((nar false [] b pa t (x, R, sh)).2.1)), .int (nI ((nar false [] b pa t (x, R, sh)).2.2)), .ref cb, .long (lN ((nar false [] b pa t (x, R, sh)).1 % 4294967296))])), (cb, .inr (0, [.int (nI 8000), .ref u.1, .int (nI (dig ((nar false [] b pa t (x, R, sh)).2.2) ((nar false [] b pa t (x, R, sh)).1 / 4294967296)).length)])), (u.1, .inl (ca 0, gcap 8000 (max gr (gN (nar false [] b pa t (x, R, sh)).2.2)), .inl u.2))]) (va_A [(a, .inr (2, [.long (lN R), .int (nI sh), .ref cb, .long (lN (x % 4294967296))])), (cb, .inr (0, [.int (nI 8000), .ref q, .int (nI (dig sh (x / 4294967296)).length)])), (q, .inl (ca 0, gcap 8000 gr, .inl f))] sz)) (va_A [(a, .inr (2, [.long (lN R), .int (nI sh), .ref cb, .long (lN (x % 4294967296))])), (cb, .inr (0, [.int (nI 8000), .ref q, .int (nI (dig sh (x / 4294967296)).length)])), (q, .inl (ca 0, gcap 8000 gr, .inl f))] sz)) (max gr (gN (nar false [] b pa t (x, R, sh)).2.2) - gr) (20000 * (max gr (gN (nar false [] b pa t (x, R, sh)).2.2) - gr)) (va_A [(a, .inr (2, [.long (lN R), .int (nI sh), .ref cb, .long (lN (x % 4294967296))])), (cb, .inr (0, [.int (nI 8000), .ref q, .int (nI (dig sh (x / 4294967296)).length)])), (q, .inl (ca 0, gcap 8000 gr, .inl f))] sz) := by
  refine rw_enter (Q := fun A => va_Qv (fun (u : Nat × (Nat → Int32)) => BR u.2 (dig (nar false [] b pa t (x, R, sh)).2.2 ((nar false [] b pa t (x, R, sh)).1 / 4294967296))) (bB D vwCl (fun (u : Nat × (Nat → Int32)) => [(a, .inr (2, [.long (lN ((nar false [] b pa t (x, R, sh)).2.1)), .int (nI ((nar false [] b pa t (x, R, sh)).2.2)), .ref cb, .long (lN ((nar false [] b pa t (x, R, sh)).1 % 4294967296))])), (cb, .inr (0, [.int (nI 8000), .ref u.1, .int (nI (dig ((nar false [] b pa t (x, R, sh)).2.2) ((nar false [] b pa t (x, R, sh)).1 / 4294967296)).length)])), (u.1, .inl (ca 0, gcap 8000 (max gr (gN (nar false [] b pa t (x, R, sh)).2.2)), .inl u.2))]) A) A) (by decide) rfl (Nat.le_of_ble_eq_true rfl) ?_
  intro p e s m below meth c ls A C hnm hK hN hP hD hA hl
  have hS : va_S A s.heap s.heap [] := va_S.rf
  obtain ⟨hx, hb, hr, hml, hown, hlocks, hts⟩ := C
  have hl : lv_has ls 7 [(0, .ref a), (1, .int (nI b)), (2, .int (nI pa)), (3, .int (nI t))] := hl
  have hin_X2 : ∀ w ∈ wsX20, w ∈ wsX3_narrow := by decide +kernel
  have hl_7 := hts (.fieldLink RX3 7 "EscapeCoder$Interval" "range" "J") (by decide +kernel)
  have hw_bea777 := hts (.constantLong RX3 27 (lN 16777216)) (by decide +kernel)
  have hw_477da2 := hts (.constantLong RX3 32 (lN 256)) (by decide +kernel)
  have hl_13 := hts (.fieldLink RX3 13 "EscapeCoder$Interval" "shifts" "I") (by decide +kernel)
  have hu : R / t ≤ R := Nat.div_le_self _ _
  have hub : R / t * b ≤ R := Nat.le_trans (Nat.mul_le_mul_left _ (show b ≤ t by omega)) (Nat.div_mul_le_self _ _)
  have hlo : ∀ (k : Nat) (i : Nat) (x1 : Nat) (R1 : Nat) (s1 : Nat) (q1 : Nat) (f1 : Nat → Int32), (i + k = 4) → (BR f1 (dig s1 (x1 / 4294967296))) → (s1 ≤ gcap 8000 (max gr (gN s1))) → (s1 + k ≤ 8000) → (R1 < 4294967296) → (shf false [] k (x1, R1, s1) = nar false [] b pa t (x, R, sh)) → ∀ (H : Heap) (locs : List Loc), va_P D vwCl [(a, .inr (2, [.long (lN R1), .int (nI s1), .ref cb, .long (lN (x1 % 4294967296))])), (cb, .inr (0, [.int (nI 8000), .ref q1, .int (nI (dig s1 (x1 / 4294967296)).length)])), (q1, .inl (ca 0, gcap 8000 (max gr (gN s1)), .inl f1))] H → va_D A [(a, .inr (2, [.long (lN R1), .int (nI s1), .ref cb, .long (lN (x1 % 4294967296))])), (cb, .inr (0, [.int (nI 8000), .ref q1, .int (nI (dig s1 (x1 / 4294967296)).length)])), (q1, .inl (ca 0, gcap 8000 (max gr (gN s1)), .inl f1))] → va_S A s.heap H locs → ∀ (ls : Array Slot), lv_has ls 7 [(6, .int (nI i)), (0, .ref a), (1, .int (nI b)), (2, .int (nI pa)), (3, .int (nI t)), (4, .long (lN (R / t)))] → W p l e ({ frames := 4, cells := max gr (gN (nar false [] b pa t (x, R, sh)).2.2) - gr, slots := 20000 * (max gr (gN (nar false [] b pa t (x, R, sh)).2.2) - gr), locals := 89 } : Room) s m ([.ref a, .int (nI b), .int (nI pa), .int (nI t)] : List Value).toArray below meth c H locs (max gr (gN s1) - gr) (20000 * (max gr (gN s1) - gr)) (MQ below (va_Qv (fun (u : Nat × (Nat → Int32)) => BR u.2 (dig (nar false [] b pa t (x, R, sh)).2.2 ((nar false [] b pa t (x, R, sh)).1 / 4294967296))) (bB D vwCl (fun (u : Nat × (Nat → Int32)) => [(a, .inr (2, [.long (lN ((nar false [] b pa t (x, R, sh)).2.1)), .int (nI ((nar false [] b pa t (x, R, sh)).2.2)), .ref cb, .long (lN ((nar false [] b pa t (x, R, sh)).1 % 4294967296))])), (cb, .inr (0, [.int (nI 8000), .ref u.1, .int (nI (dig ((nar false [] b pa t (x, R, sh)).2.2) ((nar false [] b pa t (x, R, sh)).1 / 4294967296)).length)])), (u.1, .inl (ca 0, gcap 8000 (max gr (gN (nar false [] b pa t (x, R, sh)).2.2)), .inl u.2))]) A) A) ([.ref a, .int (nI b), .int (nI pa), .int (nI t)] : List Value).toArray s (max gr (gN (nar false [] b pa t (x, R, sh)).2.2) - gr) (20000 * (max gr (gN (nar false [] b pa t (x, R, sh)).2.2) - gr)) A) (F0 m 48 ls []) := by
    intro k
    induction k with
    | zero =>
      intro i x1 R1 s1 q1 f1 hi hB1 hL1 hn1 hR1 hE H locs hP hD hS ls hl
      refine lv_iload hx hb dX3_narrow_48 (lv_at hl 0 rfl) ?_
      refine lv_iconst (v := nI 4) hx hb dX3_narrow_50 (by decide) ?_
      refine bn_ge (tgt := 97) hx hb dX3_narrow_51 (by decide) (by omega) (by omega) (fun h1 => ?_) (fun h1 => ?_)
      · have hE1 : (x1, R1, s1) = nar false [] b pa t (x, R, sh) := hE
        have hP : va_P D vwCl [(a, .inr (2, [.long (lN ((nar false [] b pa t (x, R, sh)).2.1)), .int (nI ((nar false [] b pa t (x, R, sh)).2.2)), .ref cb, .long (lN ((nar false [] b pa t (x, R, sh)).1 % 4294967296))])), (cb, .inr (0, [.int (nI 8000), .ref q1, .int (nI (dig ((nar false [] b pa t (x, R, sh)).2.2) ((nar false [] b pa t (x, R, sh)).1 / 4294967296)).length)])), (q1, .inl (ca 0, gcap 8000 (max gr (gN (nar false [] b pa t (x, R, sh)).2.2)), .inl f1))] H := by rw [← hE1]; exact hP
        have hD : va_D A [(a, .inr (2, [.long (lN ((nar false [] b pa t (x, R, sh)).2.1)), .int (nI ((nar false [] b pa t (x, R, sh)).2.2)), .ref cb, .long (lN ((nar false [] b pa t (x, R, sh)).1 % 4294967296))])), (cb, .inr (0, [.int (nI 8000), .ref q1, .int (nI (dig ((nar false [] b pa t (x, R, sh)).2.2) ((nar false [] b pa t (x, R, sh)).1 / 4294967296)).length)])), (q1, .inl (ca 0, gcap 8000 (max gr (gN (nar false [] b pa t (x, R, sh)).2.2)), .inl f1))] := by rw [← hE1]; exact hD
        exact rw_vret (u := (q1, f1)) hx hb hr hlocks (by rw [← hE1]; exact hB1) (hP.sub [0, 1, 2] rfl) (hD.sub [0, 1, 2] (by decide) rfl) hS (by rw [← hE1]; exact Nat.le_refl _) (by rw [← hE1]; exact Nat.le_refl _) dX3_narrow_97
      · exact absurd h1 (by omega)
    | succ k ih =>
      intro i x1 R1 s1 q1 f1 hi hB1 hL1 hn1 hR1 hE H locs hP hD hS ls hl
      refine lv_iload hx hb dX3_narrow_48 (lv_at hl 0 rfl) ?_
      refine lv_iconst (v := nI 4) hx hb dX3_narrow_50 (by decide) ?_
      refine bn_ge (tgt := 97) hx hb dX3_narrow_51 (by decide) (by omega) (by omega) (fun h1 => ?_) (fun h1 => ?_)
      · exact absurd h1 (by omega)
      · refine lv_aload_n hx hb dX3_narrow_54 rfl (lv_at hl 1 rfl) ?_
        refine va_get (D := D) (ci := 2) (v := .long (lN R1)) (C := RX2) (T := TX2) (N := 4) hx hb hts hin_X2 hown hK hP 0 rfl rfl 0 (by decide) hl_7 (fun _ h9 => h9) rfl dX3_narrow_55 ?_
        refine lv_ldc2 (v := lN 16777216) hx hb hown hw_bea777 dX3_narrow_58 ?_
        refine W.lcmp hx hb dX3_narrow_61 ?_
        refine bl_ge (tgt := 97) hx hb dX3_narrow_62 (by decide) (by omega) (by omega) (fun h2 => ?_) (fun h2 => ?_)
        · have hE1 : (x1, R1, s1) = nar false [] b pa t (x, R, sh) := by rw [← hE, shf_s, if_neg (by show ¬ R1 < 16777216; omega)]
          have hP : va_P D vwCl [(a, .inr (2, [.long (lN ((nar false [] b pa t (x, R, sh)).2.1)), .int (nI ((nar false [] b pa t (x, R, sh)).2.2)), .ref cb, .long (lN ((nar false [] b pa t (x, R, sh)).1 % 4294967296))])), (cb, .inr (0, [.int (nI 8000), .ref q1, .int (nI (dig ((nar false [] b pa t (x, R, sh)).2.2) ((nar false [] b pa t (x, R, sh)).1 / 4294967296)).length)])), (q1, .inl (ca 0, gcap 8000 (max gr (gN (nar false [] b pa t (x, R, sh)).2.2)), .inl f1))] H := by rw [← hE1]; exact hP
          have hD : va_D A [(a, .inr (2, [.long (lN ((nar false [] b pa t (x, R, sh)).2.1)), .int (nI ((nar false [] b pa t (x, R, sh)).2.2)), .ref cb, .long (lN ((nar false [] b pa t (x, R, sh)).1 % 4294967296))])), (cb, .inr (0, [.int (nI 8000), .ref q1, .int (nI (dig ((nar false [] b pa t (x, R, sh)).2.2) ((nar false [] b pa t (x, R, sh)).1 / 4294967296)).length)])), (q1, .inl (ca 0, gcap 8000 (max gr (gN (nar false [] b pa t (x, R, sh)).2.2)), .inl f1))] := by rw [← hE1]; exact hD
          exact rw_vret (u := (q1, f1)) hx hb hr hlocks (by rw [← hE1]; exact hB1) (hP.sub [0, 1, 2] rfl) (hD.sub [0, 1, 2] (by decide) rfl) hS (by rw [← hE1]; exact Nat.le_refl _) (by rw [← hE1]; exact Nat.le_refl _) dX3_narrow_97
        · have hE2 : shf false [] k (x1 * 256, R1 * 256, s1 + 1) = nar false [] b pa t (x, R, sh) := by rw [← hE, shf_s, if_pos (by show R1 < 16777216; omega)]; rfl
          refine lv_aload_n hx hb dX3_narrow_65 rfl (lv_at hl 1 rfl) ?_
          have hup := shf_up false [] k (x1 * 256, R1 * 256, s1 + 1)
          rw [hE2] at hup
          dsimp only at hup
          have m1 := gN_mono hup
          have m2 := gN_mono (Nat.le_succ s1)
          have m3 := max_gN (g := gr) (Nat.le_succ s1)
          rw [Nat.succ_eq_add_one] at m2 m3
          refine rw_callv (wc := [(a, .inr (2, [.long (lN R1), .int (nI s1), .ref cb, .long (lN (x1 % 4294967296))])), (cb, .inr (0, [.int (nI 8000), .ref q1, .int (nI (dig s1 (x1 / 4294967296)).length)])), (q1, .inl (ca 0, gcap 8000 (max gr (gN s1)), .inl f1))]) (wr := []) hP hD hS hA [0, 1, 2] [] rfl rfl (by decide) (by decide) (va_runU (As := []) (rest := []) ⟨hx, hb, hml, hown, hts⟩ (c_W_shift l D ca a cb q1 (max gr (gN s1)) R1 s1 x1 s1 f1 (hB1) (hL1) (by omega) H.size) (va_cwA 0 hts gX3_narrow_X2_shiftOnce_u29X2 rfl rfl rfl (nw_shiftOnce hN) (by decide +kernel) ⟨Nat.le_of_ble_eq_true rfl, Nat.le_of_ble_eq_true rfl⟩) ⟨rwP_blind, va_recv hK hP (ci := 2) (q0 := 0) rfl rfl, rwP_at hK hN (hP.sub [0, 1, 2] rfl) (hD.sub [0, 1, 2] (by decide) rfl)⟩ rfl rfl hl.1 rfl (lv_room (Nat.le_of_ble_eq_true rfl)) dX3_narrow_66 ⟨by show _ + _ ≤ max gr (gN (nar false [] b pa t (x, R, sh)).2.2) - gr; omega, by show _ + _ ≤ 20000 * (max gr (gN (nar false [] b pa t (x, R, sh)).2.2) - gr); omega⟩) (fun u H locs hq hP hD hS => ?_)
          obtain ⟨q1_2, f1_3⟩ := u
          try dsimp only at hq
          have hP : va_P D vwCl [(a, .inr (2, [.long (lN R1), .int (nI s1), .ref cb, .long (lN ((x1 * 256) % 4294967296))])), (cb, .inr (0, [.int (nI 8000), .ref q1_2, .int (nI (dig (s1 + 1) ((x1 * 256) / 4294967296)).length)])), (q1_2, .inl (ca 0, gcap 8000 (max (max gr (gN s1)) (gN (s1 + 1))), .inl f1_3))] H := hP
          have hD : va_D A [(a, .inr (2, [.long (lN R1), .int (nI s1), .ref cb, .long (lN ((x1 * 256) % 4294967296))])), (cb, .inr (0, [.int (nI 8000), .ref q1_2, .int (nI (dig (s1 + 1) ((x1 * 256) / 4294967296)).length)])), (q1_2, .inl (ca 0, gcap 8000 (max (max gr (gN s1)) (gN (s1 + 1))), .inl f1_3))] := hD
          refine W.widen (k := max gr (gN (s1 + 1)) - gr) (n := 20000 * (max gr (gN (s1 + 1)) - gr)) (by omega) (by omega) ?_
          have hP : va_P D vwCl [(a, .inr (2, [.long (lN R1), .int (nI s1), .ref cb, .long (lN ((x1 * 256) % 4294967296))])), (cb, .inr (0, [.int (nI 8000), .ref q1_2, .int (nI (dig (s1 + 1) ((x1 * 256) / 4294967296)).length)])), (q1_2, .inl (ca 0, gcap 8000 (max gr (gN (s1 + 1))), .inl f1_3))] H := by rw [← m3]; exact hP
          have hD : va_D A [(a, .inr (2, [.long (lN R1), .int (nI s1), .ref cb, .long (lN ((x1 * 256) % 4294967296))])), (cb, .inr (0, [.int (nI 8000), .ref q1_2, .int (nI (dig (s1 + 1) ((x1 * 256) / 4294967296)).length)])), (q1_2, .inl (ca 0, gcap 8000 (max gr (gN (s1 + 1))), .inl f1_3))] := by rw [← m3]; exact hD
          refine lv_aload_n hx hb dX3_narrow_69 rfl (lv_at hl 1 rfl) ?_
          refine lv_dup hx hb dX3_narrow_70 rfl ?_
          refine va_get (D := D) (ci := 2) (v := .long (lN R1)) (C := RX2) (T := TX2) (N := 4) hx hb hts hin_X2 hown hK hP 0 rfl rfl 0 (by decide) hl_7 (fun _ h9 => h9) rfl dX3_narrow_71 ?_
          refine lv_ldc2 (v := lN 256) hx hb hown hw_477da2 dX3_narrow_74 ?_
          refine lv_lmul hx hb dX3_narrow_77 ?_
          refine tp_l (y := lN (R1 * 256)) (lN_mul R1 256) ?_
          refine va_put (D := D) (ci := 2) (v := .long (lN (R1 * 256))) (ty := .long) (C := RX2) (T := TX2) (N := 4) hx hb hts hin_X2 tyX2 tyX2_ok nmX2 hown hK hP hD hS 0 rfl rfl 0 (by decide) hl_7 (fun _ h9 => h9) rfl (by decide +kernel) rfl rfl (Nat.le_of_ble_eq_true rfl) dX3_narrow_78 (fun H locs hP hD hS => ?_)
          have hP : va_P D vwCl [(a, .inr (2, [.long (lN (R1 * 256)), .int (nI s1), .ref cb, .long (lN ((x1 * 256) % 4294967296))])), (cb, .inr (0, [.int (nI 8000), .ref q1_2, .int (nI (dig (s1 + 1) ((x1 * 256) / 4294967296)).length)])), (q1_2, .inl (ca 0, gcap 8000 (max gr (gN (s1 + 1))), .inl f1_3))] H := hP
          have hD : va_D A [(a, .inr (2, [.long (lN (R1 * 256)), .int (nI s1), .ref cb, .long (lN ((x1 * 256) % 4294967296))])), (cb, .inr (0, [.int (nI 8000), .ref q1_2, .int (nI (dig (s1 + 1) ((x1 * 256) / 4294967296)).length)])), (q1_2, .inl (ca 0, gcap 8000 (max gr (gN (s1 + 1))), .inl f1_3))] := hD
          refine lv_aload_n hx hb dX3_narrow_81 rfl (lv_at hl 1 rfl) ?_
          refine lv_dup hx hb dX3_narrow_82 rfl ?_
          refine va_get (D := D) (ci := 2) (v := .int (nI s1)) (C := RX2) (T := TX2) (N := 4) hx hb hts hin_X2 hown hK hP 0 rfl rfl 1 (by decide) hl_13 (fun _ h9 => h9) rfl dX3_narrow_83 ?_
          refine lv_iconst (v := nI 1) hx hb dX3_narrow_86 (by decide) ?_
          refine lv_iadd hx hb dX3_narrow_87 ?_
          refine tp_i (y := nI (s1 + 1)) (nI_1 _) ?_
          refine va_put (D := D) (ci := 2) (v := .int (nI (s1 + 1))) (ty := .int) (C := RX2) (T := TX2) (N := 4) hx hb hts hin_X2 tyX2 tyX2_ok nmX2 hown hK hP hD hS 0 rfl rfl 1 (by decide) hl_13 (fun _ h9 => h9) rfl (by decide +kernel) rfl rfl (Nat.le_of_ble_eq_true rfl) dX3_narrow_88 (fun H locs hP hD hS => ?_)
          have hP : va_P D vwCl [(a, .inr (2, [.long (lN (R1 * 256)), .int (nI (s1 + 1)), .ref cb, .long (lN ((x1 * 256) % 4294967296))])), (cb, .inr (0, [.int (nI 8000), .ref q1_2, .int (nI (dig (s1 + 1) ((x1 * 256) / 4294967296)).length)])), (q1_2, .inl (ca 0, gcap 8000 (max gr (gN (s1 + 1))), .inl f1_3))] H := hP
          have hD : va_D A [(a, .inr (2, [.long (lN (R1 * 256)), .int (nI (s1 + 1)), .ref cb, .long (lN ((x1 * 256) % 4294967296))])), (cb, .inr (0, [.int (nI 8000), .ref q1_2, .int (nI (dig (s1 + 1) ((x1 * 256) / 4294967296)).length)])), (q1_2, .inl (ca 0, gcap 8000 (max gr (gN (s1 + 1))), .inl f1_3))] := hD
          refine lv_iinc (v := nI (i + 1)) (lv' := [(6, .int (nI (i + 1))), (0, .ref a), (1, .int (nI b)), (2, .int (nI pa)), (3, .int (nI t)), (4, .long (lN (R / t)))]) hx hb dX3_narrow_91 hl (k := 0) rfl (nI_1 _) (by decide) rfl (fun ls hl => ?_)
          refine lv_goto (tgt := 48) hx hb dX3_narrow_94 (by decide) ?_
          exact ih (i + 1) (x1 * 256) (R1 * 256) (s1 + 1) q1_2 f1_3 (by omega) hq ((gN_cap (by omega)).mpr (by omega)) (by omega) (by omega) hE2 H locs hP hD hS _ (lv_sub hl [0, 1, 2, 3, 4, 5] rfl)
  refine lv_aload_n hx hb dX3_narrow_0 rfl (lv_at hl 0 rfl) ?_
  refine lv_iload_n hx hb dX3_narrow_1 rfl (lv_at hl 3 rfl) ?_
  refine vp_callSl (va_Run.run (va_runU (As := [.int (nI t)]) (rest := []) ⟨hx, hb, hml, hown, hts⟩ (c_W_unit l D ca R t a cb (nI sh) (lN (x % 4294967296)) (by omega) (by omega)) (va_cwU 1 hts gX3_narrow_X3_unitOf_u19X2 rfl rfl rfl rfl (by decide +kernel) ⟨Nat.le_of_ble_eq_true rfl, Nat.le_of_ble_eq_true rfl⟩) ⟨roP_blind, va_recv hK hP (ci := 2) (q0 := 0) rfl rfl, roP_at hK hN (hP.sub [0] rfl)⟩ rfl rfl hl.1 rfl (lv_room (Nat.le_of_ble_eq_true rfl)) dX3_narrow_2 ⟨Nat.zero_le _, Nat.zero_le _⟩)) (fun r_4 hq => ?_)
  subst hq
  refine lv_lstore (lv' := [(4, .long (lN (R / t))), (0, .ref a), (1, .int (nI b)), (2, .int (nI pa)), (3, .int (nI t))]) hx hb dX3_narrow_5 hl (by decide) rfl (fun ls hl => ?_)
  refine lv_aload_n hx hb dX3_narrow_7 rfl (lv_at hl 1 rfl) ?_
  refine lv_lload hx hb dX3_narrow_8 (lv_at hl 0 rfl) ?_
  refine lv_iload_n hx hb dX3_narrow_10 rfl (lv_at hl 2 rfl) ?_
  refine lv_i2l (v := lN b) hx hb dX3_narrow_11 (nI_l (by omega)) ?_
  refine lv_lmul hx hb dX3_narrow_12 ?_
  refine tp_l (y := lN (R / t * b)) (lN_mul _ _) ?_
  refine rw_callv (wc := [(a, .inr (2, [.long (lN R), .int (nI sh), .ref cb, .long (lN (x % 4294967296))])), (cb, .inr (0, [.int (nI 8000), .ref q, .int (nI (dig sh (x / 4294967296)).length)])), (q, .inl (ca 0, gcap 8000 gr, .inl f))]) (wr := []) hP hD hS hA [0, 1, 2] [] rfl rfl (by decide) (by decide) (va_runU (As := [.long (lN (R / t * b))]) (rest := []) ⟨hx, hb, hml, hown, hts⟩ (c_W_raise l D ca a cb q gr R sh x sh f (R / t * b) (hB) (hL) (by omega) s.heap.size) (va_cwA 1 hts gX3_narrow_X2_raiseLow_u23X2 rfl rfl rfl (nw_raiseLow hN) (by decide +kernel) ⟨Nat.le_of_ble_eq_true rfl, Nat.le_of_ble_eq_true rfl⟩) ⟨rwP_blind, va_recv hK hP (ci := 2) (q0 := 0) rfl rfl, rwP_at hK hN (hP.sub [0, 1, 2] rfl) (hD.sub [0, 1, 2] (by decide) rfl)⟩ rfl rfl hl.1 rfl (lv_room (Nat.le_of_ble_eq_true rfl)) dX3_narrow_13 ⟨Nat.zero_le _, Nat.zero_le _⟩) (fun u H locs hq hP hD hS => ?_)
  obtain ⟨f1_6, rfl⟩ : ∃ z, z = u := ⟨_, rfl⟩
  try dsimp only at hq
  have hP : va_P D vwCl [(a, .inr (2, [.long (lN R), .int (nI sh), .ref cb, .long (lN ((x + (R / t * b)) % 4294967296))])), (cb, .inr (0, [.int (nI 8000), .ref q, .int (nI (dig sh ((x + (R / t * b)) / 4294967296)).length)])), (q, .inl (ca 0, gcap 8000 gr, .inl f1_6))] H := hP
  have hD : va_D A [(a, .inr (2, [.long (lN R), .int (nI sh), .ref cb, .long (lN ((x + (R / t * b)) % 4294967296))])), (cb, .inr (0, [.int (nI 8000), .ref q, .int (nI (dig sh ((x + (R / t * b)) / 4294967296)).length)])), (q, .inl (ca 0, gcap 8000 gr, .inl f1_6))] := hD
  refine lv_aload_n hx hb dX3_narrow_16 rfl (lv_at hl 1 rfl) ?_
  refine lv_iload_n hx hb dX3_narrow_17 rfl (lv_at hl 2 rfl) ?_
  refine lv_iload_n hx hb dX3_narrow_18 rfl (lv_at hl 3 rfl) ?_
  refine lv_iadd hx hb dX3_narrow_19 ?_
  refine tp_i (y := nI (b + pa)) (nI_add b pa) ?_
  refine lv_iload_n hx hb dX3_narrow_20 rfl (lv_at hl 4 rfl) ?_
  refine bn_ne (tgt := 37) hx hb dX3_narrow_21 (by decide) (by omega) (by omega) (fun h1 => ?_) (fun h1 => ?_)
  · refine lv_lload hx hb dX3_narrow_37 (lv_at hl 0 rfl) ?_
    refine lv_iload_n hx hb dX3_narrow_39 rfl (lv_at hl 3 rfl) ?_
    refine lv_i2l (v := lN pa) hx hb dX3_narrow_40 (nI_l (by omega)) ?_
    refine lv_lmul hx hb dX3_narrow_41 ?_
    refine tp_l (y := lN (R / t * pa)) (lN_mul _ _) ?_
    refine va_put (D := D) (ci := 2) (v := .long (lN (R / t * pa))) (ty := .long) (C := RX2) (T := TX2) (N := 4) hx hb hts hin_X2 tyX2 tyX2_ok nmX2 hown hK hP hD hS 0 rfl rfl 0 (by decide) hl_7 (fun _ h9 => h9) rfl (by decide +kernel) rfl rfl (Nat.le_of_ble_eq_true rfl) dX3_narrow_42 (fun H locs hP hD hS => ?_)
    have hP : va_P D vwCl [(a, .inr (2, [.long (lN (R / t * pa)), .int (nI sh), .ref cb, .long (lN ((x + (R / t * b)) % 4294967296))])), (cb, .inr (0, [.int (nI 8000), .ref q, .int (nI (dig sh ((x + (R / t * b)) / 4294967296)).length)])), (q, .inl (ca 0, gcap 8000 gr, .inl f1_6))] H := hP
    have hD : va_D A [(a, .inr (2, [.long (lN (R / t * pa)), .int (nI sh), .ref cb, .long (lN ((x + (R / t * b)) % 4294967296))])), (cb, .inr (0, [.int (nI 8000), .ref q, .int (nI (dig sh ((x + (R / t * b)) / 4294967296)).length)])), (q, .inl (ca 0, gcap 8000 gr, .inl f1_6))] := hD
    refine lv_iconst (v := nI 0) hx hb dX3_narrow_45 (by decide) ?_
    refine lv_istore (lv' := [(6, .int (nI 0)), (4, .long (lN (R / t))), (0, .ref a), (1, .int (nI b)), (2, .int (nI pa)), (3, .int (nI t))]) hx hb dX3_narrow_46 hl (by decide) rfl (fun ls hl => ?_)
    have hE0 : shf false [] 4 (x + R / t * b, R / t * pa, sh) = nar false [] b pa t (x, R, sh) := by unfold nar; dsimp only; rw [if_neg h1]; rfl
    have e7 : max gr (gN sh) = gr := by have := (gN_cap (mo := 8000) (by omega)).mp hL; omega
    have hP : va_P D vwCl [(a, .inr (2, [.long (lN (R / t * pa)), .int (nI sh), .ref cb, .long (lN ((x + (R / t * b)) % 4294967296))])), (cb, .inr (0, [.int (nI 8000), .ref q, .int (nI (dig sh ((x + (R / t * b)) / 4294967296)).length)])), (q, .inl (ca 0, gcap 8000 (max gr (gN sh)), .inl f1_6))] H := by rw [e7]; exact hP
    have hD : va_D A [(a, .inr (2, [.long (lN (R / t * pa)), .int (nI sh), .ref cb, .long (lN ((x + (R / t * b)) % 4294967296))])), (cb, .inr (0, [.int (nI 8000), .ref q, .int (nI (dig sh ((x + (R / t * b)) / 4294967296)).length)])), (q, .inl (ca 0, gcap 8000 (max gr (gN sh)), .inl f1_6))] := by rw [e7]; exact hD
    refine W.widen (k := max gr (gN sh) - gr) (n := 20000 * (max gr (gN sh) - gr)) (by omega) (by omega) ?_
    exact hlo 4 0 (x + R / t * b) (R / t * pa) sh q f1_6 rfl hq (by rw [e7]; exact hL) (by omega) (Nat.lt_of_le_of_lt (Nat.le_trans (Nat.mul_le_mul_left _ (show pa ≤ t by omega)) (Nat.div_mul_le_self _ _)) hR) hE0 H locs hP hD hS _ (lv_sub hl [0, 2, 3, 4, 5, 1] rfl)
  · refine lv_aload_n hx hb dX3_narrow_24 rfl (lv_at hl 1 rfl) ?_
    refine va_get (D := D) (ci := 2) (v := .long (lN R)) (C := RX2) (T := TX2) (N := 4) hx hb hts hin_X2 hown hK hP 0 rfl rfl 0 (by decide) hl_7 (fun _ h9 => h9) rfl dX3_narrow_25 ?_
    refine lv_lload hx hb dX3_narrow_28 (lv_at hl 0 rfl) ?_
    refine lv_iload_n hx hb dX3_narrow_30 rfl (lv_at hl 2 rfl) ?_
    refine lv_i2l (v := lN b) hx hb dX3_narrow_31 (nI_l (by omega)) ?_
    refine lv_lmul hx hb dX3_narrow_32 ?_
    refine tp_l (y := lN (R / t * b)) (lN_mul _ _) ?_
    refine lv_lsub hx hb dX3_narrow_33 ?_
    refine tp_l (y := lN (R - R / t * b)) (lN_sub hub) ?_
    refine lv_goto (tgt := 42) hx hb dX3_narrow_34 (by decide) ?_
    refine va_put (D := D) (ci := 2) (v := .long (lN (R - R / t * b))) (ty := .long) (C := RX2) (T := TX2) (N := 4) hx hb hts hin_X2 tyX2 tyX2_ok nmX2 hown hK hP hD hS 0 rfl rfl 0 (by decide) hl_7 (fun _ h9 => h9) rfl (by decide +kernel) rfl rfl (Nat.le_of_ble_eq_true rfl) dX3_narrow_42 (fun H locs hP hD hS => ?_)
    have hP : va_P D vwCl [(a, .inr (2, [.long (lN (R - R / t * b)), .int (nI sh), .ref cb, .long (lN ((x + (R / t * b)) % 4294967296))])), (cb, .inr (0, [.int (nI 8000), .ref q, .int (nI (dig sh ((x + (R / t * b)) / 4294967296)).length)])), (q, .inl (ca 0, gcap 8000 gr, .inl f1_6))] H := hP
    have hD : va_D A [(a, .inr (2, [.long (lN (R - R / t * b)), .int (nI sh), .ref cb, .long (lN ((x + (R / t * b)) % 4294967296))])), (cb, .inr (0, [.int (nI 8000), .ref q, .int (nI (dig sh ((x + (R / t * b)) / 4294967296)).length)])), (q, .inl (ca 0, gcap 8000 gr, .inl f1_6))] := hD
    refine lv_iconst (v := nI 0) hx hb dX3_narrow_45 (by decide) ?_
    refine lv_istore (lv' := [(6, .int (nI 0)), (4, .long (lN (R / t))), (0, .ref a), (1, .int (nI b)), (2, .int (nI pa)), (3, .int (nI t))]) hx hb dX3_narrow_46 hl (by decide) rfl (fun ls hl => ?_)
    have hE0 : shf false [] 4 (x + R / t * b, R - R / t * b, sh) = nar false [] b pa t (x, R, sh) := by unfold nar; dsimp only; rw [if_pos h1]; rfl
    have e7 : max gr (gN sh) = gr := by have := (gN_cap (mo := 8000) (by omega)).mp hL; omega
    have hP : va_P D vwCl [(a, .inr (2, [.long (lN (R - R / t * b)), .int (nI sh), .ref cb, .long (lN ((x + (R / t * b)) % 4294967296))])), (cb, .inr (0, [.int (nI 8000), .ref q, .int (nI (dig sh ((x + (R / t * b)) / 4294967296)).length)])), (q, .inl (ca 0, gcap 8000 (max gr (gN sh)), .inl f1_6))] H := by rw [e7]; exact hP
    have hD : va_D A [(a, .inr (2, [.long (lN (R - R / t * b)), .int (nI sh), .ref cb, .long (lN ((x + (R / t * b)) % 4294967296))])), (cb, .inr (0, [.int (nI 8000), .ref q, .int (nI (dig sh ((x + (R / t * b)) / 4294967296)).length)])), (q, .inl (ca 0, gcap 8000 (max gr (gN sh)), .inl f1_6))] := by rw [e7]; exact hD
    refine W.widen (k := max gr (gN sh) - gr) (n := 20000 * (max gr (gN sh) - gr)) (by omega) (by omega) ?_
    exact hlo 4 0 (x + R / t * b) (R - R / t * b) sh q f1_6 rfl hq (by rw [e7]; exact hL) (by omega) (by omega) hE0 H locs hP hD hS _ (lv_sub hl [0, 2, 3, 4, 5, 1] rfl)

set_option maxHeartbeats 4000000 in
set_option maxRecDepth 100000 in
theorem c_R_narrow (l : Launch) (D : va_G) (ca : Nat → ClassId) (a : Nat) (cb : Nat) (q : Nat) (gr : Nat) (R : Nat) (sh : Nat) (x : Nat) (b : Nat) (pa : Nat) (t : Nat) (f : Nat → Int32) (Cd : List Nat) (hB : BR f Cd) (hL : Cd.length ≤ gcap 8000 gr) (hy : ∀ j, Cd.getD j 0 < 256) (hn : sh < 2 ^ 29) (hR : R < 4294967296) (ht : 1 ≤ t ∧ t < 2 ^ 30 ∧ b + pa ≤ t) (hbx : R / t * b ≤ x) (sz : Nat) : Met l yX3_narrow wsX3_narrow { frames := 2, cells := 0, slots := 0, locals := 41 } (rwP D vwCl (ATy ca) [(a, .inr (1, [.long (lN R), .int (nI sh), .ref cb, .long (lN x), .int (nI (4 + sh))])), (cb, .inr (0, [.int (nI 8000), .ref q, .int (nI Cd.length)])), (q, .inl (ca 0, gcap 8000 gr, .inl f))] sz [.ref a, .int (nI b), .int (nI pa), .int (nI t)]) (va_Qv (fun (u : Unit) => True) (bB D vwCl (fun (u : Unit) => [(a, .inr (1, [.long (lN ((nar true Cd b pa t (x, R, sh)).2.1)), .int (nI ((nar true Cd b pa t (x, R, sh)).2.2)), .ref cb, .long (lN ((nar true Cd b pa t (x, R, sh)).1)), .int (nI (4 + (nar true Cd b pa t (x, R, sh)).2.2))])), (cb, .inr (0, [.int (nI 8000), .ref q, .int (nI Cd.length)])), (q, .inl (ca 0, gcap 8000 gr, .inl f))]) (va_A [(a, .inr (1, [.long (lN R), .int (nI sh), .ref cb, .long (lN x), .int (nI (4 + sh))])), (cb, .inr (0, [.int (nI 8000), .ref q, .int (nI Cd.length)])), (q, .inl (ca 0, gcap 8000 gr, .inl f))] sz)) (va_A [(a, .inr (1, [.long (lN R), .int (nI sh), .ref cb, .long (lN x), .int (nI (4 + sh))])), (cb, .inr (0, [.int (nI 8000), .ref q, .int (nI Cd.length)])), (q, .inl (ca 0, gcap 8000 gr, .inl f))] sz)) 0 0 (va_A [(a, .inr (1, [.long (lN R), .int (nI sh), .ref cb, .long (lN x), .int (nI (4 + sh))])), (cb, .inr (0, [.int (nI 8000), .ref q, .int (nI Cd.length)])), (q, .inl (ca 0, gcap 8000 gr, .inl f))] sz) := by
  refine rw_enter (Q := fun A => va_Qv (fun (u : Unit) => True) (bB D vwCl (fun (u : Unit) => [(a, .inr (1, [.long (lN ((nar true Cd b pa t (x, R, sh)).2.1)), .int (nI ((nar true Cd b pa t (x, R, sh)).2.2)), .ref cb, .long (lN ((nar true Cd b pa t (x, R, sh)).1)), .int (nI (4 + (nar true Cd b pa t (x, R, sh)).2.2))])), (cb, .inr (0, [.int (nI 8000), .ref q, .int (nI Cd.length)])), (q, .inl (ca 0, gcap 8000 gr, .inl f))]) A) A) (by decide) rfl (Nat.le_of_ble_eq_true rfl) ?_
  intro p e s m below meth c ls A C hnm hK hN hP hD hA hl
  have hS : va_S A s.heap s.heap [] := va_S.rf
  obtain ⟨hx, hb, hr, hml, hown, hlocks, hts⟩ := C
  have hl : lv_has ls 7 [(0, .ref a), (1, .int (nI b)), (2, .int (nI pa)), (3, .int (nI t))] := hl
  have hin_X1 : ∀ w ∈ wsX10, w ∈ wsX3_narrow := by decide +kernel
  have hl_7 := hts (.fieldLink RX3 7 "EscapeCoder$Interval" "range" "J") (by decide +kernel)
  have hw_bea777 := hts (.constantLong RX3 27 (lN 16777216)) (by decide +kernel)
  have hw_477da2 := hts (.constantLong RX3 32 (lN 256)) (by decide +kernel)
  have hl_13 := hts (.fieldLink RX3 13 "EscapeCoder$Interval" "shifts" "I") (by decide +kernel)
  have hu : R / t ≤ R := Nat.div_le_self _ _
  have hub : R / t * b ≤ R := Nat.le_trans (Nat.mul_le_mul_left _ (show b ≤ t by omega)) (Nat.div_mul_le_self _ _)
  have hlo : ∀ (k : Nat) (i : Nat) (x1 : Nat) (R1 : Nat) (s1 : Nat), (i + k = 4) → (s1 + k < 2 ^ 29 + 8) → (R1 < 4294967296) → (shf true Cd k (x1, R1, s1) = nar true Cd b pa t (x, R, sh)) → ∀ (H : Heap) (locs : List Loc), va_P D vwCl [(a, .inr (1, [.long (lN R1), .int (nI s1), .ref cb, .long (lN x1), .int (nI (4 + s1))])), (cb, .inr (0, [.int (nI 8000), .ref q, .int (nI Cd.length)])), (q, .inl (ca 0, gcap 8000 gr, .inl f))] H → va_D A [(a, .inr (1, [.long (lN R1), .int (nI s1), .ref cb, .long (lN x1), .int (nI (4 + s1))])), (cb, .inr (0, [.int (nI 8000), .ref q, .int (nI Cd.length)])), (q, .inl (ca 0, gcap 8000 gr, .inl f))] → va_S A s.heap H locs → ∀ (ls : Array Slot), lv_has ls 7 [(6, .int (nI i)), (0, .ref a), (1, .int (nI b)), (2, .int (nI pa)), (3, .int (nI t)), (4, .long (lN (R / t)))] → W p l e ({ frames := 2, cells := 0, slots := 0, locals := 41 } : Room) s m ([.ref a, .int (nI b), .int (nI pa), .int (nI t)] : List Value).toArray below meth c H locs 0 0 (MQ below (va_Qv (fun (u : Unit) => True) (bB D vwCl (fun (u : Unit) => [(a, .inr (1, [.long (lN ((nar true Cd b pa t (x, R, sh)).2.1)), .int (nI ((nar true Cd b pa t (x, R, sh)).2.2)), .ref cb, .long (lN ((nar true Cd b pa t (x, R, sh)).1)), .int (nI (4 + (nar true Cd b pa t (x, R, sh)).2.2))])), (cb, .inr (0, [.int (nI 8000), .ref q, .int (nI Cd.length)])), (q, .inl (ca 0, gcap 8000 gr, .inl f))]) A) A) ([.ref a, .int (nI b), .int (nI pa), .int (nI t)] : List Value).toArray s 0 0 A) (F0 m 48 ls []) := by
    intro k
    induction k with
    | zero =>
      intro i x1 R1 s1 hi hn1 hR1 hE H locs hP hD hS ls hl
      refine lv_iload hx hb dX3_narrow_48 (lv_at hl 0 rfl) ?_
      refine lv_iconst (v := nI 4) hx hb dX3_narrow_50 (by decide) ?_
      refine bn_ge (tgt := 97) hx hb dX3_narrow_51 (by decide) (by omega) (by omega) (fun h1 => ?_) (fun h1 => ?_)
      · have hE1 : (x1, R1, s1) = nar true Cd b pa t (x, R, sh) := hE
        have hP : va_P D vwCl [(a, .inr (1, [.long (lN ((nar true Cd b pa t (x, R, sh)).2.1)), .int (nI ((nar true Cd b pa t (x, R, sh)).2.2)), .ref cb, .long (lN ((nar true Cd b pa t (x, R, sh)).1)), .int (nI (4 + (nar true Cd b pa t (x, R, sh)).2.2))])), (cb, .inr (0, [.int (nI 8000), .ref q, .int (nI Cd.length)])), (q, .inl (ca 0, gcap 8000 gr, .inl f))] H := by rw [← hE1]; exact hP
        have hD : va_D A [(a, .inr (1, [.long (lN ((nar true Cd b pa t (x, R, sh)).2.1)), .int (nI ((nar true Cd b pa t (x, R, sh)).2.2)), .ref cb, .long (lN ((nar true Cd b pa t (x, R, sh)).1)), .int (nI (4 + (nar true Cd b pa t (x, R, sh)).2.2))])), (cb, .inr (0, [.int (nI 8000), .ref q, .int (nI Cd.length)])), (q, .inl (ca 0, gcap 8000 gr, .inl f))] := by rw [← hE1]; exact hD
        exact rw_vret (u := ()) hx hb hr hlocks (trivial) (hP.sub [0, 1, 2] rfl) (hD.sub [0, 1, 2] (by decide) rfl) hS (Nat.le_refl _) (Nat.le_refl _) dX3_narrow_97
      · exact absurd h1 (by omega)
    | succ k ih =>
      intro i x1 R1 s1 hi hn1 hR1 hE H locs hP hD hS ls hl
      refine lv_iload hx hb dX3_narrow_48 (lv_at hl 0 rfl) ?_
      refine lv_iconst (v := nI 4) hx hb dX3_narrow_50 (by decide) ?_
      refine bn_ge (tgt := 97) hx hb dX3_narrow_51 (by decide) (by omega) (by omega) (fun h1 => ?_) (fun h1 => ?_)
      · exact absurd h1 (by omega)
      · refine lv_aload_n hx hb dX3_narrow_54 rfl (lv_at hl 1 rfl) ?_
        refine va_get (D := D) (ci := 1) (v := .long (lN R1)) (C := RX1) (T := TX1) (N := 5) hx hb hts hin_X1 hown hK hP 0 rfl rfl 0 (by decide) hl_7 (fun _ h9 => h9) rfl dX3_narrow_55 ?_
        refine lv_ldc2 (v := lN 16777216) hx hb hown hw_bea777 dX3_narrow_58 ?_
        refine W.lcmp hx hb dX3_narrow_61 ?_
        refine bl_ge (tgt := 97) hx hb dX3_narrow_62 (by decide) (by omega) (by omega) (fun h2 => ?_) (fun h2 => ?_)
        · have hE1 : (x1, R1, s1) = nar true Cd b pa t (x, R, sh) := by rw [← hE, shf_s, if_neg (by show ¬ R1 < 16777216; omega)]
          have hP : va_P D vwCl [(a, .inr (1, [.long (lN ((nar true Cd b pa t (x, R, sh)).2.1)), .int (nI ((nar true Cd b pa t (x, R, sh)).2.2)), .ref cb, .long (lN ((nar true Cd b pa t (x, R, sh)).1)), .int (nI (4 + (nar true Cd b pa t (x, R, sh)).2.2))])), (cb, .inr (0, [.int (nI 8000), .ref q, .int (nI Cd.length)])), (q, .inl (ca 0, gcap 8000 gr, .inl f))] H := by rw [← hE1]; exact hP
          have hD : va_D A [(a, .inr (1, [.long (lN ((nar true Cd b pa t (x, R, sh)).2.1)), .int (nI ((nar true Cd b pa t (x, R, sh)).2.2)), .ref cb, .long (lN ((nar true Cd b pa t (x, R, sh)).1)), .int (nI (4 + (nar true Cd b pa t (x, R, sh)).2.2))])), (cb, .inr (0, [.int (nI 8000), .ref q, .int (nI Cd.length)])), (q, .inl (ca 0, gcap 8000 gr, .inl f))] := by rw [← hE1]; exact hD
          exact rw_vret (u := ()) hx hb hr hlocks (trivial) (hP.sub [0, 1, 2] rfl) (hD.sub [0, 1, 2] (by decide) rfl) hS (Nat.le_refl _) (Nat.le_refl _) dX3_narrow_97
        · have hE2 : shf true Cd k (x1 * 256 + Cd.getD (4 + s1) 0, R1 * 256, s1 + 1) = nar true Cd b pa t (x, R, sh) := by rw [← hE, shf_s, if_pos (by show R1 < 16777216; omega)]; rfl
          refine lv_aload_n hx hb dX3_narrow_65 rfl (lv_at hl 1 rfl) ?_
          refine rw_callv (wc := [(a, .inr (1, [.long (lN R1), .int (nI s1), .ref cb, .long (lN x1), .int (nI (4 + s1))])), (cb, .inr (0, [.int (nI 8000), .ref q, .int (nI Cd.length)])), (q, .inl (ca 0, gcap 8000 gr, .inl f))]) (wr := []) hP hD hS hA [0, 1, 2] [] rfl rfl (by decide) (by decide) (va_runU (As := []) (rest := []) ⟨hx, hb, hml, hown, hts⟩ (c_R_shift l D ca a cb q gr (lN R1) (nI s1) x1 (4 + s1) f Cd (hB) (hL) (hy) (by omega) H.size) (va_cwA 0 hts gX3_narrow_X1_shiftOnce_u29X1 rfl rfl rfl (nw_shiftOnce hN) (by decide +kernel) ⟨Nat.le_of_ble_eq_true rfl, Nat.le_of_ble_eq_true rfl⟩) ⟨rwP_blind, va_recv hK hP (ci := 1) (q0 := 0) rfl rfl, rwP_at hK hN (hP.sub [0, 1, 2] rfl) (hD.sub [0, 1, 2] (by decide) rfl)⟩ rfl rfl hl.1 rfl (lv_room (Nat.le_of_ble_eq_true rfl)) dX3_narrow_66 ⟨Nat.le_of_ble_eq_true rfl, Nat.le_of_ble_eq_true rfl⟩) (fun u H locs hq hP hD hS => ?_)
          try dsimp only at hq
          have hP : va_P D vwCl [(a, .inr (1, [.long (lN R1), .int (nI s1), .ref cb, .long (lN (x1 * 256 + Cd.getD (4 + s1) 0)), .int (nI ((4 + s1) + 1))])), (cb, .inr (0, [.int (nI 8000), .ref q, .int (nI Cd.length)])), (q, .inl (ca 0, gcap 8000 gr, .inl f))] H := hP
          have hD : va_D A [(a, .inr (1, [.long (lN R1), .int (nI s1), .ref cb, .long (lN (x1 * 256 + Cd.getD (4 + s1) 0)), .int (nI ((4 + s1) + 1))])), (cb, .inr (0, [.int (nI 8000), .ref q, .int (nI Cd.length)])), (q, .inl (ca 0, gcap 8000 gr, .inl f))] := hD
          refine lv_aload_n hx hb dX3_narrow_69 rfl (lv_at hl 1 rfl) ?_
          refine lv_dup hx hb dX3_narrow_70 rfl ?_
          refine va_get (D := D) (ci := 1) (v := .long (lN R1)) (C := RX1) (T := TX1) (N := 5) hx hb hts hin_X1 hown hK hP 0 rfl rfl 0 (by decide) hl_7 (fun _ h9 => h9) rfl dX3_narrow_71 ?_
          refine lv_ldc2 (v := lN 256) hx hb hown hw_477da2 dX3_narrow_74 ?_
          refine lv_lmul hx hb dX3_narrow_77 ?_
          refine tp_l (y := lN (R1 * 256)) (lN_mul R1 256) ?_
          refine va_put (D := D) (ci := 1) (v := .long (lN (R1 * 256))) (ty := .long) (C := RX1) (T := TX1) (N := 5) hx hb hts hin_X1 tyX1 tyX1_ok nmX1 hown hK hP hD hS 0 rfl rfl 0 (by decide) hl_7 (fun _ h9 => h9) rfl (by decide +kernel) rfl rfl (Nat.le_of_ble_eq_true rfl) dX3_narrow_78 (fun H locs hP hD hS => ?_)
          have hP : va_P D vwCl [(a, .inr (1, [.long (lN (R1 * 256)), .int (nI s1), .ref cb, .long (lN (x1 * 256 + Cd.getD (4 + s1) 0)), .int (nI ((4 + s1) + 1))])), (cb, .inr (0, [.int (nI 8000), .ref q, .int (nI Cd.length)])), (q, .inl (ca 0, gcap 8000 gr, .inl f))] H := hP
          have hD : va_D A [(a, .inr (1, [.long (lN (R1 * 256)), .int (nI s1), .ref cb, .long (lN (x1 * 256 + Cd.getD (4 + s1) 0)), .int (nI ((4 + s1) + 1))])), (cb, .inr (0, [.int (nI 8000), .ref q, .int (nI Cd.length)])), (q, .inl (ca 0, gcap 8000 gr, .inl f))] := hD
          refine lv_aload_n hx hb dX3_narrow_81 rfl (lv_at hl 1 rfl) ?_
          refine lv_dup hx hb dX3_narrow_82 rfl ?_
          refine va_get (D := D) (ci := 1) (v := .int (nI s1)) (C := RX1) (T := TX1) (N := 5) hx hb hts hin_X1 hown hK hP 0 rfl rfl 1 (by decide) hl_13 (fun _ h9 => h9) rfl dX3_narrow_83 ?_
          refine lv_iconst (v := nI 1) hx hb dX3_narrow_86 (by decide) ?_
          refine lv_iadd hx hb dX3_narrow_87 ?_
          refine tp_i (y := nI (s1 + 1)) (nI_1 _) ?_
          refine va_put (D := D) (ci := 1) (v := .int (nI (s1 + 1))) (ty := .int) (C := RX1) (T := TX1) (N := 5) hx hb hts hin_X1 tyX1 tyX1_ok nmX1 hown hK hP hD hS 0 rfl rfl 1 (by decide) hl_13 (fun _ h9 => h9) rfl (by decide +kernel) rfl rfl (Nat.le_of_ble_eq_true rfl) dX3_narrow_88 (fun H locs hP hD hS => ?_)
          have hP : va_P D vwCl [(a, .inr (1, [.long (lN (R1 * 256)), .int (nI (s1 + 1)), .ref cb, .long (lN (x1 * 256 + Cd.getD (4 + s1) 0)), .int (nI ((4 + s1) + 1))])), (cb, .inr (0, [.int (nI 8000), .ref q, .int (nI Cd.length)])), (q, .inl (ca 0, gcap 8000 gr, .inl f))] H := hP
          have hD : va_D A [(a, .inr (1, [.long (lN (R1 * 256)), .int (nI (s1 + 1)), .ref cb, .long (lN (x1 * 256 + Cd.getD (4 + s1) 0)), .int (nI ((4 + s1) + 1))])), (cb, .inr (0, [.int (nI 8000), .ref q, .int (nI Cd.length)])), (q, .inl (ca 0, gcap 8000 gr, .inl f))] := hD
          refine lv_iinc (v := nI (i + 1)) (lv' := [(6, .int (nI (i + 1))), (0, .ref a), (1, .int (nI b)), (2, .int (nI pa)), (3, .int (nI t)), (4, .long (lN (R / t)))]) hx hb dX3_narrow_91 hl (k := 0) rfl (nI_1 _) (by decide) rfl (fun ls hl => ?_)
          refine lv_goto (tgt := 48) hx hb dX3_narrow_94 (by decide) ?_
          have hP : va_P D vwCl [(a, .inr (1, [.long (lN (R1 * 256)), .int (nI (s1 + 1)), .ref cb, .long (lN (x1 * 256 + Cd.getD (4 + s1) 0)), .int (nI (4 + (s1 + 1)))])), (cb, .inr (0, [.int (nI 8000), .ref q, .int (nI Cd.length)])), (q, .inl (ca 0, gcap 8000 gr, .inl f))] H := by rw [show 4 + (s1 + 1) = 4 + s1 + 1 from rfl]; exact hP
          have hD : va_D A [(a, .inr (1, [.long (lN (R1 * 256)), .int (nI (s1 + 1)), .ref cb, .long (lN (x1 * 256 + Cd.getD (4 + s1) 0)), .int (nI (4 + (s1 + 1)))])), (cb, .inr (0, [.int (nI 8000), .ref q, .int (nI Cd.length)])), (q, .inl (ca 0, gcap 8000 gr, .inl f))] := by rw [show 4 + (s1 + 1) = 4 + s1 + 1 from rfl]; exact hD
          exact ih (i + 1) (x1 * 256 + Cd.getD (4 + s1) 0) (R1 * 256) (s1 + 1) (by omega) (by omega) (by omega) hE2 H locs (hP.sub [0, 1, 2] rfl) (hD.sub [0, 1, 2] (by decide) rfl) hS _ (lv_sub hl [0, 1, 2, 3, 4, 5] rfl)
  refine lv_aload_n hx hb dX3_narrow_0 rfl (lv_at hl 0 rfl) ?_
  refine lv_iload_n hx hb dX3_narrow_1 rfl (lv_at hl 3 rfl) ?_
  refine vp_callSl (va_Run.run (va_runU (As := [.int (nI t)]) (rest := []) ⟨hx, hb, hml, hown, hts⟩ (c_R_unit l D ca R t a cb (nI sh) (nI (4 + sh)) (lN x) (by omega) (by omega)) (va_cwU 1 hts gX3_narrow_X3_unitOf_u19X1 rfl rfl rfl rfl (by decide +kernel) ⟨Nat.le_of_ble_eq_true rfl, Nat.le_of_ble_eq_true rfl⟩) ⟨roP_blind, va_recv hK hP (ci := 1) (q0 := 0) rfl rfl, roP_at hK hN (hP.sub [0] rfl)⟩ rfl rfl hl.1 rfl (lv_room (Nat.le_of_ble_eq_true rfl)) dX3_narrow_2 ⟨Nat.le_of_ble_eq_true rfl, Nat.le_of_ble_eq_true rfl⟩)) (fun r_2 hq => ?_)
  subst hq
  refine lv_lstore (lv' := [(4, .long (lN (R / t))), (0, .ref a), (1, .int (nI b)), (2, .int (nI pa)), (3, .int (nI t))]) hx hb dX3_narrow_5 hl (by decide) rfl (fun ls hl => ?_)
  refine lv_aload_n hx hb dX3_narrow_7 rfl (lv_at hl 1 rfl) ?_
  refine lv_lload hx hb dX3_narrow_8 (lv_at hl 0 rfl) ?_
  refine lv_iload_n hx hb dX3_narrow_10 rfl (lv_at hl 2 rfl) ?_
  refine lv_i2l (v := lN b) hx hb dX3_narrow_11 (nI_l (by omega)) ?_
  refine lv_lmul hx hb dX3_narrow_12 ?_
  refine tp_l (y := lN (R / t * b)) (lN_mul _ _) ?_
  refine rw_callv (wc := [(a, .inr (1, [.long (lN R), .int (nI sh), .ref cb, .long (lN x), .int (nI (4 + sh))]))]) (wr := [(cb, .inr (0, [.int (nI 8000), .ref q, .int (nI Cd.length)])), (q, .inl (ca 0, gcap 8000 gr, .inl f))]) hP hD hS hA [0] [1, 2] rfl rfl (by decide) (by decide) (va_runU (As := [.long (lN (R / t * b))]) (rest := []) ⟨hx, hb, hml, hown, hts⟩ (c_R_raise l D ca a cb (lN R) (nI sh) (nI (4 + sh)) x (R / t * b) (hbx) s.heap.size) (va_cwA 1 hts gX3_narrow_X1_raiseLow_u23X1 rfl rfl rfl (nw_raiseLow hN) (by decide +kernel) ⟨Nat.le_of_ble_eq_true rfl, Nat.le_of_ble_eq_true rfl⟩) ⟨rwP_blind, va_recv hK hP (ci := 1) (q0 := 0) rfl rfl, rwP_at hK hN (hP.sub [0] rfl) (hD.sub [0] (by decide) rfl)⟩ rfl rfl hl.1 rfl (lv_room (Nat.le_of_ble_eq_true rfl)) dX3_narrow_13 ⟨Nat.le_of_ble_eq_true rfl, Nat.le_of_ble_eq_true rfl⟩) (fun u H locs hq hP hD hS => ?_)
  try dsimp only at hq
  have hP : va_P D vwCl [(cb, .inr (0, [.int (nI 8000), .ref q, .int (nI Cd.length)])), (q, .inl (ca 0, gcap 8000 gr, .inl f)), (a, .inr (1, [.long (lN R), .int (nI sh), .ref cb, .long (lN (x - (R / t * b))), .int (nI (4 + sh))]))] H := hP
  have hD : va_D A [(cb, .inr (0, [.int (nI 8000), .ref q, .int (nI Cd.length)])), (q, .inl (ca 0, gcap 8000 gr, .inl f)), (a, .inr (1, [.long (lN R), .int (nI sh), .ref cb, .long (lN (x - (R / t * b))), .int (nI (4 + sh))]))] := hD
  refine lv_aload_n hx hb dX3_narrow_16 rfl (lv_at hl 1 rfl) ?_
  refine lv_iload_n hx hb dX3_narrow_17 rfl (lv_at hl 2 rfl) ?_
  refine lv_iload_n hx hb dX3_narrow_18 rfl (lv_at hl 3 rfl) ?_
  refine lv_iadd hx hb dX3_narrow_19 ?_
  refine tp_i (y := nI (b + pa)) (nI_add b pa) ?_
  refine lv_iload_n hx hb dX3_narrow_20 rfl (lv_at hl 4 rfl) ?_
  refine bn_ne (tgt := 37) hx hb dX3_narrow_21 (by decide) (by omega) (by omega) (fun h1 => ?_) (fun h1 => ?_)
  · refine lv_lload hx hb dX3_narrow_37 (lv_at hl 0 rfl) ?_
    refine lv_iload_n hx hb dX3_narrow_39 rfl (lv_at hl 3 rfl) ?_
    refine lv_i2l (v := lN pa) hx hb dX3_narrow_40 (nI_l (by omega)) ?_
    refine lv_lmul hx hb dX3_narrow_41 ?_
    refine tp_l (y := lN (R / t * pa)) (lN_mul _ _) ?_
    refine va_put (D := D) (ci := 1) (v := .long (lN (R / t * pa))) (ty := .long) (C := RX1) (T := TX1) (N := 5) hx hb hts hin_X1 tyX1 tyX1_ok nmX1 hown hK hP hD hS 2 rfl rfl 0 (by decide) hl_7 (fun _ h9 => h9) rfl (by decide +kernel) rfl rfl (Nat.le_of_ble_eq_true rfl) dX3_narrow_42 (fun H locs hP hD hS => ?_)
    have hP : va_P D vwCl [(cb, .inr (0, [.int (nI 8000), .ref q, .int (nI Cd.length)])), (q, .inl (ca 0, gcap 8000 gr, .inl f)), (a, .inr (1, [.long (lN (R / t * pa)), .int (nI sh), .ref cb, .long (lN (x - (R / t * b))), .int (nI (4 + sh))]))] H := hP
    have hD : va_D A [(cb, .inr (0, [.int (nI 8000), .ref q, .int (nI Cd.length)])), (q, .inl (ca 0, gcap 8000 gr, .inl f)), (a, .inr (1, [.long (lN (R / t * pa)), .int (nI sh), .ref cb, .long (lN (x - (R / t * b))), .int (nI (4 + sh))]))] := hD
    refine lv_iconst (v := nI 0) hx hb dX3_narrow_45 (by decide) ?_
    refine lv_istore (lv' := [(6, .int (nI 0)), (4, .long (lN (R / t))), (0, .ref a), (1, .int (nI b)), (2, .int (nI pa)), (3, .int (nI t))]) hx hb dX3_narrow_46 hl (by decide) rfl (fun ls hl => ?_)
    have hE0 : shf true Cd 4 (x - R / t * b, R / t * pa, sh) = nar true Cd b pa t (x, R, sh) := by unfold nar; dsimp only; rw [if_neg h1]; rfl
    exact hlo 4 0 (x - R / t * b) (R / t * pa) sh rfl (by omega) (Nat.lt_of_le_of_lt (Nat.le_trans (Nat.mul_le_mul_left _ (show pa ≤ t by omega)) (Nat.div_mul_le_self _ _)) hR) hE0 H locs (hP.sub [2, 0, 1] rfl) (hD.sub [2, 0, 1] (by decide) rfl) hS _ (lv_sub hl [0, 2, 3, 4, 5, 1] rfl)
  · refine lv_aload_n hx hb dX3_narrow_24 rfl (lv_at hl 1 rfl) ?_
    refine va_get (D := D) (ci := 1) (v := .long (lN R)) (C := RX1) (T := TX1) (N := 5) hx hb hts hin_X1 hown hK hP 2 rfl rfl 0 (by decide) hl_7 (fun _ h9 => h9) rfl dX3_narrow_25 ?_
    refine lv_lload hx hb dX3_narrow_28 (lv_at hl 0 rfl) ?_
    refine lv_iload_n hx hb dX3_narrow_30 rfl (lv_at hl 2 rfl) ?_
    refine lv_i2l (v := lN b) hx hb dX3_narrow_31 (nI_l (by omega)) ?_
    refine lv_lmul hx hb dX3_narrow_32 ?_
    refine tp_l (y := lN (R / t * b)) (lN_mul _ _) ?_
    refine lv_lsub hx hb dX3_narrow_33 ?_
    refine tp_l (y := lN (R - R / t * b)) (lN_sub hub) ?_
    refine lv_goto (tgt := 42) hx hb dX3_narrow_34 (by decide) ?_
    refine va_put (D := D) (ci := 1) (v := .long (lN (R - R / t * b))) (ty := .long) (C := RX1) (T := TX1) (N := 5) hx hb hts hin_X1 tyX1 tyX1_ok nmX1 hown hK hP hD hS 2 rfl rfl 0 (by decide) hl_7 (fun _ h9 => h9) rfl (by decide +kernel) rfl rfl (Nat.le_of_ble_eq_true rfl) dX3_narrow_42 (fun H locs hP hD hS => ?_)
    have hP : va_P D vwCl [(cb, .inr (0, [.int (nI 8000), .ref q, .int (nI Cd.length)])), (q, .inl (ca 0, gcap 8000 gr, .inl f)), (a, .inr (1, [.long (lN (R - R / t * b)), .int (nI sh), .ref cb, .long (lN (x - (R / t * b))), .int (nI (4 + sh))]))] H := hP
    have hD : va_D A [(cb, .inr (0, [.int (nI 8000), .ref q, .int (nI Cd.length)])), (q, .inl (ca 0, gcap 8000 gr, .inl f)), (a, .inr (1, [.long (lN (R - R / t * b)), .int (nI sh), .ref cb, .long (lN (x - (R / t * b))), .int (nI (4 + sh))]))] := hD
    refine lv_iconst (v := nI 0) hx hb dX3_narrow_45 (by decide) ?_
    refine lv_istore (lv' := [(6, .int (nI 0)), (4, .long (lN (R / t))), (0, .ref a), (1, .int (nI b)), (2, .int (nI pa)), (3, .int (nI t))]) hx hb dX3_narrow_46 hl (by decide) rfl (fun ls hl => ?_)
    have hE0 : shf true Cd 4 (x - R / t * b, R - R / t * b, sh) = nar true Cd b pa t (x, R, sh) := by unfold nar; dsimp only; rw [if_pos h1]; rfl
    exact hlo 4 0 (x - R / t * b) (R - R / t * b) sh rfl (by omega) (by omega) hE0 H locs (hP.sub [2, 0, 1] rfl) (hD.sub [2, 0, 1] (by decide) rfl) hS _ (lv_sub hl [0, 2, 3, 4, 5, 1] rfl)
