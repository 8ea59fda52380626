set_option maxHeartbeats 4000000 in
set_option maxRecDepth 100000 in
theorem c_W_range (l : Launch) (D : va_G) (ca : Nat → ClassId) (a : Nat) (cb : Nat) (rg : Int64) (lo : Int64) (sv : Int32)  : Met l yX3_range wsX3_range { frames := 0, cells := 0, slots := 0, locals := 0 } (roP D vwCl (ATy ca) [(a, .inr (2, [.long rg, .int sv, .ref cb, .long lo]))] [.ref a]) (vp_Sl (fun r : Int64 => r = rg)) 0 0 (fun _ => False) := by
  refine ro_enter (by decide) rfl (Nat.le_of_ble_eq_true rfl) ?_
  intro p e s m below meth c ls C hK hN hP hl
  obtain ⟨hx, hb, hr, hml, hown, hlocks, hts⟩ := C
  have hl : lv_has ls 1 [(0, .ref a)] := hl
  have hin_X2 : ∀ w ∈ wsX20, w ∈ wsX3_range := by decide +kernel
  have hl_7 := hts (.fieldLink RX3 7 "EscapeCoder$Interval" "range" "J") (by decide +kernel)
  refine lv_aload_n hx hb dX3_range_0 rfl (lv_at hl 0 rfl) ?_
  refine va_get (D := D) (ci := 2) (v := .long rg) (C := RX2) (T := TX2) (N := 4) hx hb hts hin_X2 hown hK hP 0 rfl rfl 0 (by decide) hl_7 (fun _ h9 => h9) rfl dX3_range_1 ?_
  exact ro_lret hx hb hr hlocks (rfl) dX3_range_4

set_option maxHeartbeats 4000000 in
set_option maxRecDepth 100000 in
theorem c_W_shifts (l : Launch) (D : va_G) (ca : Nat → ClassId) (a : Nat) (cb : Nat) (rg : Int64) (lo : Int64) (sv : Int32)  : Met l yX3_shifts wsX3_shifts { frames := 0, cells := 0, slots := 0, locals := 0 } (roP D vwCl (ATy ca) [(a, .inr (2, [.long rg, .int sv, .ref cb, .long lo]))] [.ref a]) (vp_Si (fun r : Int32 => r = sv)) 0 0 (fun _ => False) := by
  refine ro_enter (by decide) rfl (Nat.le_of_ble_eq_true rfl) ?_
  intro p e s m below meth c ls C hK hN hP hl
  obtain ⟨hx, hb, hr, hml, hown, hlocks, hts⟩ := C
  have hl : lv_has ls 1 [(0, .ref a)] := hl
  have hin_X2 : ∀ w ∈ wsX20, w ∈ wsX3_shifts := by decide +kernel
  have hl_13 := hts (.fieldLink RX3 13 "EscapeCoder$Interval" "shifts" "I") (by decide +kernel)
  refine lv_aload_n hx hb dX3_shifts_0 rfl (lv_at hl 0 rfl) ?_
  refine va_get (D := D) (ci := 2) (v := .int sv) (C := RX2) (T := TX2) (N := 4) hx hb hts hin_X2 hown hK hP 0 rfl rfl 1 (by decide) hl_13 (fun _ h9 => h9) rfl dX3_shifts_1 ?_
  exact ro_iret hx hb hr hlocks (rfl) dX3_shifts_4

set_option maxHeartbeats 4000000 in
set_option maxRecDepth 100000 in
theorem c_W_widen (l : Launch) (D : va_G) (ca : Nat → ClassId) (a : Nat) (cb : Nat) (rg : Int64) (lo : Int64) (sv : Int32)  (sz : Nat) : Met l yX3_widen wsX3_widen { frames := 0, cells := 0, slots := 0, locals := 0 } (rwP D vwCl (ATy ca) [(a, .inr (2, [.long rg, .int sv, .ref cb, .long lo]))] sz [.ref a]) (va_Qv (fun (u : Unit) => True) (bB D vwCl (fun (u : Unit) => [(a, .inr (2, [.long (lN 4294967295), .int (nI 0), .ref cb, .long lo]))]) (va_A [(a, .inr (2, [.long rg, .int sv, .ref cb, .long lo]))] sz)) (va_A [(a, .inr (2, [.long rg, .int sv, .ref cb, .long lo]))] sz)) 0 0 (va_A [(a, .inr (2, [.long rg, .int sv, .ref cb, .long lo]))] sz) := by
  refine rw_enter (Q := fun A => va_Qv (fun (u : Unit) => True) (bB D vwCl (fun (u : Unit) => [(a, .inr (2, [.long (lN 4294967295), .int (nI 0), .ref cb, .long lo]))]) A) A) (by decide) rfl (Nat.le_of_ble_eq_true rfl) ?_
  intro p e s m below meth c ls A C hnm hK hN hP hD hA hl
  have hS : va_S A s.heap s.heap [] := va_S.rf
  obtain ⟨hx, hb, hr, hml, hown, hlocks, hts⟩ := C
  have hl : lv_has ls 1 [(0, .ref a)] := hl
  have hw_17170a := hts (.constantLong RX3 17 (lN 4294967295)) (by decide +kernel)
  have hin_X2 : ∀ w ∈ wsX20, w ∈ wsX3_widen := by decide +kernel
  have hl_7 := hts (.fieldLink RX3 7 "EscapeCoder$Interval" "range" "J") (by decide +kernel)
  have hl_13 := hts (.fieldLink RX3 13 "EscapeCoder$Interval" "shifts" "I") (by decide +kernel)
  refine lv_aload_n hx hb dX3_widen_0 rfl (lv_at hl 0 rfl) ?_
  refine lv_ldc2 (v := lN 4294967295) hx hb hown hw_17170a dX3_widen_1 ?_
  refine va_put (D := D) (ci := 2) (v := .long (lN 4294967295)) (ty := .long) (C := RX2) (T := TX2) (N := 4) hx hb hts hin_X2 tyX2 tyX2_ok nmX2 hown hK hP hD hS 0 rfl rfl 0 (by decide) hl_7 (fun _ h9 => h9) rfl (by decide +kernel) rfl rfl (Nat.le_of_ble_eq_true rfl) dX3_widen_4 (fun H locs hP hD hS => ?_)
  have hP : va_P D vwCl [(a, .inr (2, [.long (lN 4294967295), .int sv, .ref cb, .long lo]))] H := hP
  have hD : va_D A [(a, .inr (2, [.long (lN 4294967295), .int sv, .ref cb, .long lo]))] := hD
  refine lv_aload_n hx hb dX3_widen_7 rfl (lv_at hl 0 rfl) ?_
  refine lv_iconst (v := nI 0) hx hb dX3_widen_8 (by decide) ?_
  refine va_put (D := D) (ci := 2) (v := .int (nI 0)) (ty := .int) (C := RX2) (T := TX2) (N := 4) hx hb hts hin_X2 tyX2 tyX2_ok nmX2 hown hK hP hD hS 0 rfl rfl 1 (by decide) hl_13 (fun _ h9 => h9) rfl (by decide +kernel) rfl rfl (Nat.le_of_ble_eq_true rfl) dX3_widen_9 (fun H locs hP hD hS => ?_)
  have hP : va_P D vwCl [(a, .inr (2, [.long (lN 4294967295), .int (nI 0), .ref cb, .long lo]))] H := hP
  have hD : va_D A [(a, .inr (2, [.long (lN 4294967295), .int (nI 0), .ref cb, .long lo]))] := hD
  exact rw_vret (u := ()) hx hb hr hlocks (trivial) (hP.sub [0] rfl) (hD.sub [0] (by decide) rfl) hS (Nat.le_refl _) (Nat.le_refl _) dX3_widen_12

set_option maxHeartbeats 4000000 in
set_option maxRecDepth 100000 in
theorem c_W_init0 (l : Launch) (D : va_G) (ca : Nat → ClassId) (a : Nat) (v0 : Value) (v1 : Value) (v2 : Value) (v3 : Value)  (sz : Nat) : Met l yX3_init wsX3_init { frames := 1, cells := 0, slots := 0, locals := 20 } (rwP D vwCl (ATy ca) [(a, .inr (2, [v0, v1, v2, v3]))] sz [.ref a]) (va_Qv (fun (u : Unit) => True) (bB D vwCl (fun (u : Unit) => [(a, .inr (2, [v0, v1, v2, v3]))]) (va_A [(a, .inr (2, [v0, v1, v2, v3]))] sz)) (va_A [(a, .inr (2, [v0, v1, v2, v3]))] sz)) 0 0 (va_A [(a, .inr (2, [v0, v1, v2, v3]))] sz) := by
  refine rw_enter (Q := fun A => va_Qv (fun (u : Unit) => True) (bB D vwCl (fun (u : Unit) => [(a, .inr (2, [v0, v1, v2, v3]))]) A) A) (by decide) rfl (Nat.le_of_ble_eq_true rfl) ?_
  intro p e s m below meth c ls A C hnm hK hN hP hD hA hl
  have hS : va_S A s.heap s.heap [] := va_S.rf
  obtain ⟨hx, hb, hr, hml, hown, hlocks, hts⟩ := C
  have hl : lv_has ls 1 [(0, .ref a)] := hl
  have hw_ddb3ed := hts (.methodLink RX3 1 objectInit) (by decide +kernel)
  have hw_fba9d5 := hts (.instanceMethod objectInit) (by decide +kernel)
  have hw_9febdb := hts (.code objectInit ⟨#[0xb1]⟩ 1 none) (by decide +kernel)
  refine lv_aload_n hx hb dX3_init_0 rfl (lv_at hl 0 rfl) ?_
  refine W.objInit hx hb hown hw_ddb3ed hw_fba9d5 hw_9febdb rfl (by rw [hml]; exact hl.1) rfl dX3_init_1 (Nat.le_of_ble_eq_true rfl) (Nat.le_of_ble_eq_true rfl) ?_
  refine W.eq (g2 := F0 m 4 ls []) rfl ?_
  exact rw_vret (u := ()) hx hb hr hlocks (trivial) (hP.sub [0] rfl) (hD.sub [0] (by decide) rfl) hS (Nat.le_refl _) (Nat.le_refl _) dX3_init_4

set_option maxHeartbeats 4000000 in
set_option maxRecDepth 100000 in
theorem c_W_unit (l : Launch) (D : va_G) (ca : Nat → ClassId) (R : Nat) (t : Nat) (a : Nat) (cb : Nat) (sv : Int32) (lo : Int64) (ht : 1 ≤ t ∧ t < 2 ^ 31) (hR : R < 2 ^ 63) : Met l yX3_unitOf wsX3_unitOf { frames := 0, cells := 0, slots := 0, locals := 0 } (roP D vwCl (ATy ca) [(a, .inr (2, [.long (lN R), .int sv, .ref cb, .long lo]))] [.ref a, .int (nI t)]) (vp_Sl (fun r : Int64 => r = lN (R / t))) 0 0 (fun _ => False) := by
  refine ro_enter (by decide) rfl (Nat.le_of_ble_eq_true rfl) ?_
  intro p e s m below meth c ls C hK hN hP hl
  obtain ⟨hx, hb, hr, hml, hown, hlocks, hts⟩ := C
  have hl : lv_has ls 2 [(0, .ref a), (1, .int (nI t))] := hl
  have hin_X2 : ∀ w ∈ wsX20, w ∈ wsX3_unitOf := by decide +kernel
  have hl_7 := hts (.fieldLink RX3 7 "EscapeCoder$Interval" "range" "J") (by decide +kernel)
  refine lv_iload_n hx hb dX3_unitOf_0 rfl (lv_at hl 1 rfl) ?_
  refine lv_iconst (v := nI 1) hx hb dX3_unitOf_1 (by decide) ?_
  refine bn_ge (tgt := 12) hx hb dX3_unitOf_2 (by decide) (by omega) (by omega) (fun h1 => ?_) (fun h1 => ?_)
  · refine lv_aload_n hx hb dX3_unitOf_12 rfl (lv_at hl 0 rfl) ?_
    refine va_get (D := D) (ci := 2) (v := .long (lN R)) (C := RX2) (T := TX2) (N := 4) hx hb hts hin_X2 hown hK hP 0 rfl rfl 0 (by decide) hl_7 (fun _ h9 => h9) rfl dX3_unitOf_13 ?_
    refine lv_iload_n hx hb dX3_unitOf_16 rfl (lv_at hl 1 rfl) ?_
    refine lv_i2l (v := lN t) hx hb dX3_unitOf_17 (nI_l (by omega)) ?_
    refine lv_ldiv hx hb dX3_unitOf_18 (lN_ne0 ht.1 (by omega)) ?_
    refine tp_l (y := lN (R / t)) (pk_lDiv hR (by omega) (by omega)) ?_
    exact ro_lret hx hb hr hlocks (rfl) dX3_unitOf_19
  · exact absurd h1 (by omega)

set_option maxHeartbeats 4000000 in
set_option maxRecDepth 100000 in
theorem c_W_init (l : Launch) (D : va_G) (ca : Nat → ClassId) (a : Nat) (cb : Nat)  (sz : Nat) : Met l yX2_init wsX2_init { frames := 2, cells := 0, slots := 0, locals := 40 } (rwP D vwCl (ATy ca) [(a, .inr (2, [.long 0, .int 0, .null, .long 0]))] sz [.ref a, .ref cb]) (va_Qv (fun (u : Unit) => True) (bB D vwCl (fun (u : Unit) => [(a, .inr (2, [.long 0, .int 0, .ref cb, .long 0]))]) (va_A [(a, .inr (2, [.long 0, .int 0, .null, .long 0]))] sz)) (va_A [(a, .inr (2, [.long 0, .int 0, .null, .long 0]))] sz)) 0 0 (va_A [(a, .inr (2, [.long 0, .int 0, .null, .long 0]))] sz) := by
  refine rw_enter (Q := fun A => va_Qv (fun (u : Unit) => True) (bB D vwCl (fun (u : Unit) => [(a, .inr (2, [.long 0, .int 0, .ref cb, .long 0]))]) A) A) (by decide) rfl (Nat.le_of_ble_eq_true rfl) ?_
  intro p e s m below meth c ls A C hnm hK hN hP hD hA hl
  have hS : va_S A s.heap s.heap [] := va_S.rf
  obtain ⟨hx, hb, hr, hml, hown, hlocks, hts⟩ := C
  have hl : lv_has ls 2 [(0, .ref a), (1, .ref cb)] := hl
  have hw_7f12e8 := hts (.initialized RX3) (by decide +kernel)
  have hw_43acb9 := hts (.instanceMethod yX3_init) (by decide +kernel)
  have hin_X2 : ∀ w ∈ wsX20, w ∈ wsX2_init := by decide +kernel
  have hl_9 := hts (.fieldLink RX2 9 "EscapeCoder$CodeWriter" "code" "LEscapeCoder$ByteRow;") (by decide +kernel)
  refine lv_aload_n hx hb dX2_init_0 rfl (lv_at hl 0 rfl) ?_
  refine rw_callv (wc := [(a, .inr (2, [.long 0, .int 0, .null, .long 0]))]) (wr := []) hP hD hS hA [0] [] rfl rfl (by decide) (by decide) (va_runIN (As := []) (rest := []) ⟨hx, hb, hml, hown, hts⟩ (c_W_init0 l D ca a (.long 0) (.int 0) .null (.long 0)  s.heap.size) ⟨va_cnB 0 hts gX2_init_X3_init_n3 rfl rfl rfl (nw_X2_3 hN) hw_7f12e8 (by decide +kernel) ⟨Nat.le_of_ble_eq_true rfl, Nat.le_of_ble_eq_true rfl⟩, rfl, hw_43acb9⟩ ⟨rwP_blind, rwP_at hK hN (hP.sub [0] rfl) (hD.sub [0] (by decide) rfl)⟩ rfl rfl hl.1 rfl (lv_room (Nat.le_of_ble_eq_true rfl)) dX2_init_1 ⟨Nat.le_of_ble_eq_true rfl, Nat.le_of_ble_eq_true rfl⟩) (fun u H locs hq hP hD hS => ?_)
  try dsimp only at hq
  have hP : va_P D vwCl [(a, .inr (2, [.long 0, .int 0, .null, .long 0]))] H := hP
  have hD : va_D A [(a, .inr (2, [.long 0, .int 0, .null, .long 0]))] := hD
  refine lv_aload_n hx hb dX2_init_4 rfl (lv_at hl 0 rfl) ?_
  refine lv_aload_n hx hb dX2_init_5 rfl (lv_at hl 1 rfl) ?_
  refine va_putF (D := D) (ci := 2) (v := .ref cb) (ty := (.object "EscapeCoder$ByteRow")) (C := RX2) (T := TX2) (N := 4) hx hb hts hin_X2 tyX2 tyX2_ok nmX2 hown hK hP hD hS 0 rfl rfl 2 (by decide) hl_9 (fun _ h9 => h9) rfl hnm rfl (by decide +kernel) rfl rfl (Nat.le_of_ble_eq_true rfl) dX2_init_6 (fun H locs hP hD hS => ?_)
  have hP : va_P D vwCl [(a, .inr (2, [.long 0, .int 0, .ref cb, .long 0]))] H := hP
  have hD : va_D A [(a, .inr (2, [.long 0, .int 0, .ref cb, .long 0]))] := hD
  exact rw_vret (u := ()) hx hb hr hlocks (trivial) (hP.sub [0] rfl) (hD.sub [0] (by decide) rfl) hS (Nat.le_refl _) (Nat.le_refl _) dX2_init_9

set_option maxHeartbeats 4000000 in
set_option maxRecDepth 100000 in
theorem c_R_range (l : Launch) (D : va_G) (ca : Nat → ClassId) (a : Nat) (cb : Nat) (rg : Int64) (lo : Int64) (sv : Int32) (tk : Int32)  : Met l yX3_range wsX3_range { frames := 0, cells := 0, slots := 0, locals := 0 } (roP D vwCl (ATy ca) [(a, .inr (1, [.long rg, .int sv, .ref cb, .long lo, .int tk]))] [.ref a]) (vp_Sl (fun r : Int64 => r = rg)) 0 0 (fun _ => False) := by
  refine ro_enter (by decide) rfl (Nat.le_of_ble_eq_true rfl) ?_
  intro p e s m below meth c ls C hK hN hP hl
  obtain ⟨hx, hb, hr, hml, hown, hlocks, hts⟩ := C
  have hl : lv_has ls 1 [(0, .ref a)] := hl
  have hin_X1 : ∀ w ∈ wsX10, w ∈ wsX3_range := by decide +kernel
  have hl_7 := hts (.fieldLink RX3 7 "EscapeCoder$Interval" "range" "J") (by decide +kernel)
  refine lv_aload_n hx hb dX3_range_0 rfl (lv_at hl 0 rfl) ?_
  refine va_get (D := D) (ci := 1) (v := .long rg) (C := RX1) (T := TX1) (N := 5) hx hb hts hin_X1 hown hK hP 0 rfl rfl 0 (by decide) hl_7 (fun _ h9 => h9) rfl dX3_range_1 ?_
  exact ro_lret hx hb hr hlocks (rfl) dX3_range_4

set_option maxHeartbeats 4000000 in
set_option maxRecDepth 100000 in
theorem c_R_shifts (l : Launch) (D : va_G) (ca : Nat → ClassId) (a : Nat) (cb : Nat) (rg : Int64) (lo : Int64) (sv : Int32) (tk : Int32)  : Met l yX3_shifts wsX3_shifts { frames := 0, cells := 0, slots := 0, locals := 0 } (roP D vwCl (ATy ca) [(a, .inr (1, [.long rg, .int sv, .ref cb, .long lo, .int tk]))] [.ref a]) (vp_Si (fun r : Int32 => r = sv)) 0 0 (fun _ => False) := by
  refine ro_enter (by decide) rfl (Nat.le_of_ble_eq_true rfl) ?_
  intro p e s m below meth c ls C hK hN hP hl
  obtain ⟨hx, hb, hr, hml, hown, hlocks, hts⟩ := C
  have hl : lv_has ls 1 [(0, .ref a)] := hl
  have hin_X1 : ∀ w ∈ wsX10, w ∈ wsX3_shifts := by decide +kernel
  have hl_13 := hts (.fieldLink RX3 13 "EscapeCoder$Interval" "shifts" "I") (by decide +kernel)
  refine lv_aload_n hx hb dX3_shifts_0 rfl (lv_at hl 0 rfl) ?_
  refine va_get (D := D) (ci := 1) (v := .int sv) (C := RX1) (T := TX1) (N := 5) hx hb hts hin_X1 hown hK hP 0 rfl rfl 1 (by decide) hl_13 (fun _ h9 => h9) rfl dX3_shifts_1 ?_
  exact ro_iret hx hb hr hlocks (rfl) dX3_shifts_4

set_option maxHeartbeats 4000000 in
set_option maxRecDepth 100000 in
theorem c_R_widen (l : Launch) (D : va_G) (ca : Nat → ClassId) (a : Nat) (cb : Nat) (rg : Int64) (lo : Int64) (sv : Int32) (tk : Int32)  (sz : Nat) : Met l yX3_widen wsX3_widen { frames := 0, cells := 0, slots := 0, locals := 0 } (rwP D vwCl (ATy ca) [(a, .inr (1, [.long rg, .int sv, .ref cb, .long lo, .int tk]))] sz [.ref a]) (va_Qv (fun (u : Unit) => True) (bB D vwCl (fun (u : Unit) => [(a, .inr (1, [.long (lN 4294967295), .int (nI 0), .ref cb, .long lo, .int tk]))]) (va_A [(a, .inr (1, [.long rg, .int sv, .ref cb, .long lo, .int tk]))] sz)) (va_A [(a, .inr (1, [.long rg, .int sv, .ref cb, .long lo, .int tk]))] sz)) 0 0 (va_A [(a, .inr (1, [.long rg, .int sv, .ref cb, .long lo, .int tk]))] sz) := by
  refine rw_enter (Q := fun A => va_Qv (fun (u : Unit) => True) (bB D vwCl (fun (u : Unit) => [(a, .inr (1, [.long (lN 4294967295), .int (nI 0), .ref cb, .long lo, .int tk]))]) A) A) (by decide) rfl (Nat.le_of_ble_eq_true rfl) ?_
  intro p e s m below meth c ls A C hnm hK hN hP hD hA hl
  have hS : va_S A s.heap s.heap [] := va_S.rf
  obtain ⟨hx, hb, hr, hml, hown, hlocks, hts⟩ := C
  have hl : lv_has ls 1 [(0, .ref a)] := hl
  have hw_17170a := hts (.constantLong RX3 17 (lN 4294967295)) (by decide +kernel)
  have hin_X1 : ∀ w ∈ wsX10, w ∈ wsX3_widen := by decide +kernel
  have hl_7 := hts (.fieldLink RX3 7 "EscapeCoder$Interval" "range" "J") (by decide +kernel)
  have hl_13 := hts (.fieldLink RX3 13 "EscapeCoder$Interval" "shifts" "I") (by decide +kernel)
  refine lv_aload_n hx hb dX3_widen_0 rfl (lv_at hl 0 rfl) ?_
  refine lv_ldc2 (v := lN 4294967295) hx hb hown hw_17170a dX3_widen_1 ?_
  refine va_put (D := D) (ci := 1) (v := .long (lN 4294967295)) (ty := .long) (C := RX1) (T := TX1) (N := 5) hx hb hts hin_X1 tyX1 tyX1_ok nmX1 hown hK hP hD hS 0 rfl rfl 0 (by decide) hl_7 (fun _ h9 => h9) rfl (by decide +kernel) rfl rfl (Nat.le_of_ble_eq_true rfl) dX3_widen_4 (fun H locs hP hD hS => ?_)
  have hP : va_P D vwCl [(a, .inr (1, [.long (lN 4294967295), .int sv, .ref cb, .long lo, .int tk]))] H := hP
  have hD : va_D A [(a, .inr (1, [.long (lN 4294967295), .int sv, .ref cb, .long lo, .int tk]))] := hD
  refine lv_aload_n hx hb dX3_widen_7 rfl (lv_at hl 0 rfl) ?_
  refine lv_iconst (v := nI 0) hx hb dX3_widen_8 (by decide) ?_
  refine va_put (D := D) (ci := 1) (v := .int (nI 0)) (ty := .int) (C := RX1) (T := TX1) (N := 5) hx hb hts hin_X1 tyX1 tyX1_ok nmX1 hown hK hP hD hS 0 rfl rfl 1 (by decide) hl_13 (fun _ h9 => h9) rfl (by decide +kernel) rfl rfl (Nat.le_of_ble_eq_true rfl) dX3_widen_9 (fun H locs hP hD hS => ?_)
  have hP : va_P D vwCl [(a, .inr (1, [.long (lN 4294967295), .int (nI 0), .ref cb, .long lo, .int tk]))] H := hP
  have hD : va_D A [(a, .inr (1, [.long (lN 4294967295), .int (nI 0), .ref cb, .long lo, .int tk]))] := hD
  exact rw_vret (u := ()) hx hb hr hlocks (trivial) (hP.sub [0] rfl) (hD.sub [0] (by decide) rfl) hS (Nat.le_refl _) (Nat.le_refl _) dX3_widen_12

set_option maxHeartbeats 4000000 in
set_option maxRecDepth 100000 in
theorem c_R_init0 (l : Launch) (D : va_G) (ca : Nat → ClassId) (a : Nat) (v0 : Value) (v1 : Value) (v2 : Value) (v3 : Value) (v4 : Value)  (sz : Nat) : Met l yX3_init wsX3_init { frames := 1, cells := 0, slots := 0, locals := 20 } (rwP D vwCl (ATy ca) [(a, .inr (1, [v0, v1, v2, v3, v4]))] sz [.ref a]) (va_Qv (fun (u : Unit) => True) (bB D vwCl (fun (u : Unit) => [(a, .inr (1, [v0, v1, v2, v3, v4]))]) (va_A [(a, .inr (1, [v0, v1, v2, v3, v4]))] sz)) (va_A [(a, .inr (1, [v0, v1, v2, v3, v4]))] sz)) 0 0 (va_A [(a, .inr (1, [v0, v1, v2, v3, v4]))] sz) := by
  refine rw_enter (Q := fun A => va_Qv (fun (u : Unit) => True) (bB D vwCl (fun (u : Unit) => [(a, .inr (1, [v0, v1, v2, v3, v4]))]) A) A) (by decide) rfl (Nat.le_of_ble_eq_true rfl) ?_
  intro p e s m below meth c ls A C hnm hK hN hP hD hA hl
  have hS : va_S A s.heap s.heap [] := va_S.rf
  obtain ⟨hx, hb, hr, hml, hown, hlocks, hts⟩ := C
  have hl : lv_has ls 1 [(0, .ref a)] := hl
  have hw_ddb3ed := hts (.methodLink RX3 1 objectInit) (by decide +kernel)
  have hw_fba9d5 := hts (.instanceMethod objectInit) (by decide +kernel)
  have hw_9febdb := hts (.code objectInit ⟨#[0xb1]⟩ 1 none) (by decide +kernel)
  refine lv_aload_n hx hb dX3_init_0 rfl (lv_at hl 0 rfl) ?_
  refine W.objInit hx hb hown hw_ddb3ed hw_fba9d5 hw_9febdb rfl (by rw [hml]; exact hl.1) rfl dX3_init_1 (Nat.le_of_ble_eq_true rfl) (Nat.le_of_ble_eq_true rfl) ?_
  refine W.eq (g2 := F0 m 4 ls []) rfl ?_
  exact rw_vret (u := ()) hx hb hr hlocks (trivial) (hP.sub [0] rfl) (hD.sub [0] (by decide) rfl) hS (Nat.le_refl _) (Nat.le_refl _) dX3_init_4

set_option maxHeartbeats 4000000 in
set_option maxRecDepth 100000 in
theorem c_R_unit (l : Launch) (D : va_G) (ca : Nat → ClassId) (R : Nat) (t : Nat) (a : Nat) (cb : Nat) (sv : Int32) (tk : Int32) (lo : Int64) (ht : 1 ≤ t ∧ t < 2 ^ 31) (hR : R < 2 ^ 63) : Met l yX3_unitOf wsX3_unitOf { frames := 0, cells := 0, slots := 0, locals := 0 } (roP D vwCl (ATy ca) [(a, .inr (1, [.long (lN R), .int sv, .ref cb, .long lo, .int tk]))] [.ref a, .int (nI t)]) (vp_Sl (fun r : Int64 => r = lN (R / t))) 0 0 (fun _ => False) := by
  refine ro_enter (by decide) rfl (Nat.le_of_ble_eq_true rfl) ?_
  intro p e s m below meth c ls C hK hN hP hl
  obtain ⟨hx, hb, hr, hml, hown, hlocks, hts⟩ := C
  have hl : lv_has ls 2 [(0, .ref a), (1, .int (nI t))] := hl
  have hin_X1 : ∀ w ∈ wsX10, w ∈ wsX3_unitOf := by decide +kernel
  have hl_7 := hts (.fieldLink RX3 7 "EscapeCoder$Interval" "range" "J") (by decide +kernel)
  refine lv_iload_n hx hb dX3_unitOf_0 rfl (lv_at hl 1 rfl) ?_
  refine lv_iconst (v := nI 1) hx hb dX3_unitOf_1 (by decide) ?_
  refine bn_ge (tgt := 12) hx hb dX3_unitOf_2 (by decide) (by omega) (by omega) (fun h1 => ?_) (fun h1 => ?_)
  · refine lv_aload_n hx hb dX3_unitOf_12 rfl (lv_at hl 0 rfl) ?_
    refine va_get (D := D) (ci := 1) (v := .long (lN R)) (C := RX1) (T := TX1) (N := 5) hx hb hts hin_X1 hown hK hP 0 rfl rfl 0 (by decide) hl_7 (fun _ h9 => h9) rfl dX3_unitOf_13 ?_
    refine lv_iload_n hx hb dX3_unitOf_16 rfl (lv_at hl 1 rfl) ?_
    refine lv_i2l (v := lN t) hx hb dX3_unitOf_17 (nI_l (by omega)) ?_
    refine lv_ldiv hx hb dX3_unitOf_18 (lN_ne0 ht.1 (by omega)) ?_
    refine tp_l (y := lN (R / t)) (pk_lDiv hR (by omega) (by omega)) ?_
    exact ro_lret hx hb hr hlocks (rfl) dX3_unitOf_19
  · exact absurd h1 (by omega)

set_option maxHeartbeats 4000000 in
set_option maxRecDepth 100000 in
theorem c_R_init (l : Launch) (D : va_G) (ca : Nat → ClassId) (a : Nat) (cb : Nat)  (sz : Nat) : Met l yX1_init wsX1_init { frames := 2, cells := 0, slots := 0, locals := 40 } (rwP D vwCl (ATy ca) [(a, .inr (1, [.long 0, .int 0, .null, .long 0, .int 0]))] sz [.ref a, .ref cb]) (va_Qv (fun (u : Unit) => True) (bB D vwCl (fun (u : Unit) => [(a, .inr (1, [.long 0, .int 0, .ref cb, .long 0, .int 0]))]) (va_A [(a, .inr (1, [.long 0, .int 0, .null, .long 0, .int 0]))] sz)) (va_A [(a, .inr (1, [.long 0, .int 0, .null, .long 0, .int 0]))] sz)) 0 0 (va_A [(a, .inr (1, [.long 0, .int 0, .null, .long 0, .int 0]))] sz) := by
  refine rw_enter (Q := fun A => va_Qv (fun (u : Unit) => True) (bB D vwCl (fun (u : Unit) => [(a, .inr (1, [.long 0, .int 0, .ref cb, .long 0, .int 0]))]) A) A) (by decide) rfl (Nat.le_of_ble_eq_true rfl) ?_
  intro p e s m below meth c ls A C hnm hK hN hP hD hA hl
  have hS : va_S A s.heap s.heap [] := va_S.rf
  obtain ⟨hx, hb, hr, hml, hown, hlocks, hts⟩ := C
  have hl : lv_has ls 2 [(0, .ref a), (1, .ref cb)] := hl
  have hw_7f12e8 := hts (.initialized RX3) (by decide +kernel)
  have hw_43acb9 := hts (.instanceMethod yX3_init) (by decide +kernel)
  have hin_X1 : ∀ w ∈ wsX10, w ∈ wsX1_init := by decide +kernel
  have hl_9 := hts (.fieldLink RX1 9 "EscapeCoder$CodeReader" "code" "LEscapeCoder$ByteRow;") (by decide +kernel)
  refine lv_aload_n hx hb dX1_init_0 rfl (lv_at hl 0 rfl) ?_
  refine rw_callv (wc := [(a, .inr (1, [.long 0, .int 0, .null, .long 0, .int 0]))]) (wr := []) hP hD hS hA [0] [] rfl rfl (by decide) (by decide) (va_runIN (As := []) (rest := []) ⟨hx, hb, hml, hown, hts⟩ (c_R_init0 l D ca a (.long 0) (.int 0) .null (.long 0) (.int 0)  s.heap.size) ⟨va_cnB 0 hts gX1_init_X3_init_n3 rfl rfl rfl (nw_X1_3 hN) hw_7f12e8 (by decide +kernel) ⟨Nat.le_of_ble_eq_true rfl, Nat.le_of_ble_eq_true rfl⟩, rfl, hw_43acb9⟩ ⟨rwP_blind, rwP_at hK hN (hP.sub [0] rfl) (hD.sub [0] (by decide) rfl)⟩ rfl rfl hl.1 rfl (lv_room (Nat.le_of_ble_eq_true rfl)) dX1_init_1 ⟨Nat.le_of_ble_eq_true rfl, Nat.le_of_ble_eq_true rfl⟩) (fun u H locs hq hP hD hS => ?_)
  try dsimp only at hq
  have hP : va_P D vwCl [(a, .inr (1, [.long 0, .int 0, .null, .long 0, .int 0]))] H := hP
  have hD : va_D A [(a, .inr (1, [.long 0, .int 0, .null, .long 0, .int 0]))] := hD
  refine lv_aload_n hx hb dX1_init_4 rfl (lv_at hl 0 rfl) ?_
  refine lv_aload_n hx hb dX1_init_5 rfl (lv_at hl 1 rfl) ?_
  refine va_putF (D := D) (ci := 1) (v := .ref cb) (ty := (.object "EscapeCoder$ByteRow")) (C := RX1) (T := TX1) (N := 5) hx hb hts hin_X1 tyX1 tyX1_ok nmX1 hown hK hP hD hS 0 rfl rfl 2 (by decide) hl_9 (fun _ h9 => h9) rfl hnm rfl (by decide +kernel) rfl rfl (Nat.le_of_ble_eq_true rfl) dX1_init_6 (fun H locs hP hD hS => ?_)
  have hP : va_P D vwCl [(a, .inr (1, [.long 0, .int 0, .ref cb, .long 0, .int 0]))] H := hP
  have hD : va_D A [(a, .inr (1, [.long 0, .int 0, .ref cb, .long 0, .int 0]))] := hD
  exact rw_vret (u := ()) hx hb hr hlocks (trivial) (hP.sub [0] rfl) (hD.sub [0] (by decide) rfl) hS (Nat.le_refl _) (Nat.le_refl _) dX1_init_9

set_option maxHeartbeats 4000000 in
set_option maxRecDepth 100000 in
theorem c_BR_carry (l : Launch) (D : va_G) (ca : Nat → ClassId) (a : Nat) (q : Nat) (mo : Nat) (gr : Nat) (f : Nat → Int32) (L : List Nat) (hB : BR f L) (hL : L.length ≤ gcap mo gr) (hm : 64 ≤ mo ∧ mo ≤ 20000) (hy : ∀ j, L.getD j 0 < 256) (sz : Nat) : Met l yX0_carry wsX0_carry { frames := 0, cells := 0, slots := 0, locals := 0 } (rwP D vwCl (ATy ca) [(a, .inr (0, [.int (nI mo), .ref q, .int (nI L.length)])), (q, .inl (ca 0, gcap mo gr, .inl f))] sz [.ref a]) (va_Qv (fun (u : (Nat → Int32)) => BR u (cryL L L.length)) (bB D vwCl (fun (u : (Nat → Int32)) => [(a, .inr (0, [.int (nI mo), .ref q, .int (nI (cryL L L.length).length)])), (q, .inl (ca 0, gcap mo gr, .inl u))]) (va_A [(a, .inr (0, [.int (nI mo), .ref q, .int (nI L.length)])), (q, .inl (ca 0, gcap mo gr, .inl f))] sz)) (va_A [(a, .inr (0, [.int (nI mo), .ref q, .int (nI L.length)])), (q, .inl (ca 0, gcap mo gr, .inl f))] sz)) 0 0 (va_A [(a, .inr (0, [.int (nI mo), .ref q, .int (nI L.length)])), (q, .inl (ca 0, gcap mo gr, .inl f))] sz) := by
  refine rw_enter (Q := fun A => va_Qv (fun (u : (Nat → Int32)) => BR u (cryL L L.length)) (bB D vwCl (fun (u : (Nat → Int32)) => [(a, .inr (0, [.int (nI mo), .ref q, .int (nI (cryL L L.length).length)])), (q, .inl (ca 0, gcap mo gr, .inl u))]) A) A) (by decide) rfl (Nat.le_of_ble_eq_true rfl) ?_
  intro p e s m below meth c ls A C hnm hK hN hP hD hA hl
  have hS : va_S A s.heap s.heap [] := va_S.rf
  obtain ⟨hx, hb, hr, hml, hown, hlocks, hts⟩ := C
  have hl : lv_has ls 2 [(0, .ref a)] := hl
  have hin_X0 : ∀ w ∈ wsX00, w ∈ wsX0_carry := by decide +kernel
  have hl_15 := hts (.fieldLink RX0 15 "EscapeCoder$ByteRow" "bytes" "[I") (by decide +kernel)
  have hl_19 := hts (.fieldLink RX0 19 "EscapeCoder$ByteRow" "length" "I") (by decide +kernel)
  have hg := gcap_le mo gr
  have hlo : ∀ (k : Nat) (L1 : List Nat) (f1 : Nat → Int32), (BR f1 L1) → (L1.length = L.length) → (k ≤ L1.length) → (∀ j, L1.getD j 0 < 256) → (cryL L1 k = cryL L L.length) → ∀ (H : Heap) (locs : List Loc), va_P D vwCl [(a, .inr (0, [.int (nI mo), .ref q, .int (nI L1.length)])), (q, .inl (ca 0, gcap mo gr, .inl f1))] H → va_D A [(a, .inr (0, [.int (nI mo), .ref q, .int (nI L1.length)])), (q, .inl (ca 0, gcap mo gr, .inl f1))] → va_S A s.heap H locs → ∀ (ls : Array Slot), lv_has ls 2 [(1, .int (nI k - nI 1)), (0, .ref a)] → W p l e ({ frames := 0, cells := 0, slots := 0, locals := 0 } : Room) s m ([.ref a] : List Value).toArray below meth c H locs 0 0 (MQ below (va_Qv (fun (u : (Nat → Int32)) => BR u (cryL L L.length)) (bB D vwCl (fun (u : (Nat → Int32)) => [(a, .inr (0, [.int (nI mo), .ref q, .int (nI (cryL L L.length).length)])), (q, .inl (ca 0, gcap mo gr, .inl u))]) A) A) ([.ref a] : List Value).toArray s 0 0 A) (F0 m 7 ls []) := by
    intro k
    induction k with
    | zero =>
      intro L1 f1 hB1 hl1 hk hy1 hE H locs hP hD hS ls hl
      refine lv_iload_n hx hb dX0_carry_7 rfl (lv_at hl 0 rfl) ?_
      refine lv_if_lt (tgt := 47) hx hb dX0_carry_8 (by decide) (fun h1 => ?_) (fun h1 => ?_)
      · have hE1 : L1 = cryL L L.length := hE
        have hP : va_P D vwCl [(a, .inr (0, [.int (nI mo), .ref q, .int (nI (cryL L L.length).length)])), (q, .inl (ca 0, gcap mo gr, .inl f1))] H := by rw [← hE1]; exact hP
        have hD : va_D A [(a, .inr (0, [.int (nI mo), .ref q, .int (nI (cryL L L.length).length)])), (q, .inl (ca 0, gcap mo gr, .inl f1))] := by rw [← hE1]; exact hD
        exact rw_vret (u := f1) hx hb hr hlocks (hE1 ▸ hB1) (hP.sub [0, 1] rfl) (hD.sub [0, 1] (by decide) rfl) hS (Nat.le_refl _) (Nat.le_refl _) dX0_carry_47
      · exact absurd pred_0 h1
    | succ k ih =>
      intro L1 f1 hB1 hl1 hk hy1 hE H locs hP hD hS ls hl
      rw [pred_s] at hl
      refine lv_iload_n hx hb dX0_carry_7 rfl (lv_at hl 0 rfl) ?_
      refine lv_if_lt (tgt := 47) hx hb dX0_carry_8 (by decide) (fun h1 => ?_) (fun h1 => ?_)
      · exact absurd h1 (nI_pos (by omega))
      · have hk2 := hy1 k
        refine lv_aload_n hx hb dX0_carry_11 rfl (lv_at hl 1 rfl) ?_
        refine va_get (D := D) (ci := 0) (v := .ref q) (C := RX0) (T := TX0) (N := 3) hx hb hts hin_X0 hown hK hP 0 rfl rfl 1 (by decide) hl_15 (fun _ h9 => h9) rfl dX0_carry_12 ?_
        refine lv_iload_n hx hb dX0_carry_15 rfl (lv_at hl 0 rfl) ?_
        refine ld_i hx hb hK hP 1 0 rfl rfl (j := k) (by omega) (by omega) dX0_carry_16 ?_
        refine tp_i (y := nI (L1.getD k 0)) (hB1 k (by omega)) ?_
        refine lv_sipush (v := nI 255) hx hb dX0_carry_17 (by decide) ?_
        refine bn_ge (tgt := 34) hx hb dX0_carry_20 (by decide) (by omega) (by omega) (fun h2 => ?_) (fun h2 => ?_)
        · refine lv_aload_n hx hb dX0_carry_34 rfl (lv_at hl 1 rfl) ?_
          refine va_get (D := D) (ci := 0) (v := .ref q) (C := RX0) (T := TX0) (N := 3) hx hb hts hin_X0 hown hK hP 0 rfl rfl 1 (by decide) hl_15 (fun _ h9 => h9) rfl dX0_carry_35 ?_
          refine lv_iload_n hx hb dX0_carry_38 rfl (lv_at hl 0 rfl) ?_
          refine lv_iconst (v := nI 0) hx hb dX0_carry_39 (by decide) ?_
          refine st_i hx hb hK hP hD hS 1 0 rfl rfl (j := k) (by omega) (by omega) dX0_carry_40 (fun H locs hP hD hS => ?_)
          have hP : va_P D vwCl [(a, .inr (0, [.int (nI mo), .ref q, .int (nI L1.length)])), (q, .inl (ca 0, gcap mo gr, .inl (upd f1 k (nI 0))))] H := hP
          have hD : va_D A [(a, .inr (0, [.int (nI mo), .ref q, .int (nI L1.length)])), (q, .inl (ca 0, gcap mo gr, .inl (upd f1 k (nI 0))))] := hD
          refine lv_iinc (v := nI k - nI 1) (lv' := [(1, .int (nI k - nI 1)), (0, .ref a)]) hx hb dX0_carry_41 hl (k := 0) rfl (dec_k k) (by decide) rfl (fun ls hl => ?_)
          refine lv_goto (tgt := 7) hx hb dX0_carry_44 (by decide) ?_
          have hP : va_P D vwCl [(a, .inr (0, [.int (nI mo), .ref q, .int (nI (L1.set k 0).length)])), (q, .inl (ca 0, gcap mo gr, .inl (upd f1 k (nI 0))))] H := by rw [List.length_set]; exact hP
          have hD : va_D A [(a, .inr (0, [.int (nI mo), .ref q, .int (nI (L1.set k 0).length)])), (q, .inl (ca 0, gcap mo gr, .inl (upd f1 k (nI 0))))] := by rw [List.length_set]; exact hD
          exact ih (L1.set k 0) _ (BR_set hB1 (by omega)) (by simp [hl1]) (by simp; omega) (set_lt hy1 (by decide)) (by rw [← hE, cryL_s, if_neg (by omega)]) H locs hP hD hS _ (lv_sub hl [0, 1] rfl)
        · refine lv_aload_n hx hb dX0_carry_23 rfl (lv_at hl 1 rfl) ?_
          refine va_get (D := D) (ci := 0) (v := .ref q) (C := RX0) (T := TX0) (N := 3) hx hb hts hin_X0 hown hK hP 0 rfl rfl 1 (by decide) hl_15 (fun _ h9 => h9) rfl dX0_carry_24 ?_
          refine lv_iload_n hx hb dX0_carry_27 rfl (lv_at hl 0 rfl) ?_
          refine lv_dup2_11 hx hb dX0_carry_28 rfl rfl ?_
          refine ld_i hx hb hK hP 1 0 rfl rfl (j := k) (by omega) (by omega) dX0_carry_29 ?_
          refine tp_i (y := nI (L1.getD k 0)) (hB1 k (by omega)) ?_
          refine lv_iconst (v := nI 1) hx hb dX0_carry_30 (by decide) ?_
          refine lv_iadd hx hb dX0_carry_31 ?_
          refine tp_i (y := nI (L1.getD k 0 + 1)) (nI_1 _) ?_
          refine st_i hx hb hK hP hD hS 1 0 rfl rfl (j := k) (by omega) (by omega) dX0_carry_32 (fun H locs hP hD hS => ?_)
          have hP : va_P D vwCl [(a, .inr (0, [.int (nI mo), .ref q, .int (nI L1.length)])), (q, .inl (ca 0, gcap mo gr, .inl (upd f1 k (nI (L1.getD k 0 + 1)))))] H := hP
          have hD : va_D A [(a, .inr (0, [.int (nI mo), .ref q, .int (nI L1.length)])), (q, .inl (ca 0, gcap mo gr, .inl (upd f1 k (nI (L1.getD k 0 + 1)))))] := hD
          have e5 : L1.set k (L1.getD k 0 + 1) = cryL L L.length := by rw [← hE, cryL_s, if_pos (by omega)]
          have hP : va_P D vwCl [(a, .inr (0, [.int (nI mo), .ref q, .int (nI (cryL L L.length).length)])), (q, .inl (ca 0, gcap mo gr, .inl (upd f1 k (nI (L1.getD k 0 + 1)))))] H := by rw [← e5, List.length_set]; exact hP
          have hD : va_D A [(a, .inr (0, [.int (nI mo), .ref q, .int (nI (cryL L L.length).length)])), (q, .inl (ca 0, gcap mo gr, .inl (upd f1 k (nI (L1.getD k 0 + 1)))))] := by rw [← e5, List.length_set]; exact hD
          exact rw_vret (u := (upd f1 k (nI (L1.getD k 0 + 1)))) hx hb hr hlocks (e5 ▸ BR_set hB1 (by omega)) (hP.sub [0, 1] rfl) (hD.sub [0, 1] (by decide) rfl) hS (Nat.le_refl _) (Nat.le_refl _) dX0_carry_33
  refine lv_aload_n hx hb dX0_carry_0 rfl (lv_at hl 0 rfl) ?_
  refine va_get (D := D) (ci := 0) (v := .int (nI L.length)) (C := RX0) (T := TX0) (N := 3) hx hb hts hin_X0 hown hK hP 0 rfl rfl 2 (by decide) hl_19 (fun _ h9 => h9) rfl dX0_carry_1 ?_
  refine lv_iconst (v := nI 1) hx hb dX0_carry_4 (by decide) ?_
  refine lv_isub hx hb dX0_carry_5 ?_
  refine lv_istore_n (lv' := [(1, .int ((nI L.length) - (nI 1))), (0, .ref a)]) hx hb dX0_carry_6 rfl hl (by decide) rfl (fun ls hl => ?_)
  exact hlo L.length L f hB rfl (Nat.le_refl _) hy rfl s.heap [] hP hD hS _ hl
