set_option maxHeartbeats 4000000 in
set_option maxRecDepth 100000 in
theorem c_x_ctxI (l : Launch) (D : va_G) (ca : Nat → ClassId) (o : Int32) (b : Int32) (e_ : Int32)  : Met l yX8_contextOf wsX8_contextOf { frames := 0, cells := 0, slots := 0, locals := 0 } (roP D vwCl (ATy ca) [] [.int o, .int b, .int e_]) (vp_Si (fun r : Int32 => r = (if o = nI 0 then nI 0 else if o = nI 1 then nI 1 + b else nI 257 + nI 256 * b + e_))) 0 0 (fun _ => False) := by
  refine ro_enter (by decide) rfl (Nat.le_of_ble_eq_true rfl) ?_
  intro p e s m below meth c ls C hK hN hP hl
  obtain ⟨hx, hb, hr, hml, hown, hlocks, hts⟩ := C
  have hl : lv_has ls 3 [(0, .int o), (1, .int b), (2, .int e_)] := hl
  refine lv_iload_n hx hb dX8_contextOf_0 rfl (lv_at hl 0 rfl) ?_
  refine lv_if_ne (tgt := 8) hx hb dX8_contextOf_1 (by decide) (fun h1 => ?_) (fun h1 => ?_)
  · refine lv_iload_n hx hb dX8_contextOf_8 rfl (lv_at hl 0 rfl) ?_
    refine lv_iconst (v := nI 1) hx hb dX8_contextOf_9 (by decide) ?_
    refine lv_icmp_ne (tgt := 19) hx hb dX8_contextOf_10 (by decide) (fun h2 => ?_) (fun h2 => ?_)
    · refine lv_sipush (v := nI 257) hx hb dX8_contextOf_19 (by decide) ?_
      refine lv_sipush (v := nI 256) hx hb dX8_contextOf_22 (by decide) ?_
      refine lv_iload_n hx hb dX8_contextOf_25 rfl (lv_at hl 1 rfl) ?_
      refine lv_imul hx hb dX8_contextOf_26 ?_
      refine lv_iadd hx hb dX8_contextOf_27 ?_
      refine lv_iload_n hx hb dX8_contextOf_28 rfl (lv_at hl 2 rfl) ?_
      refine lv_iadd hx hb dX8_contextOf_29 ?_
      exact ro_iret hx hb hr hlocks (by rw [if_neg (show ¬ o = nI 0 from h1), if_neg h2]) dX8_contextOf_30
    · refine lv_iconst (v := nI 1) hx hb dX8_contextOf_13 (by decide) ?_
      refine lv_iload_n hx hb dX8_contextOf_14 rfl (lv_at hl 1 rfl) ?_
      refine lv_iadd hx hb dX8_contextOf_15 ?_
      refine lv_goto (tgt := 30) hx hb dX8_contextOf_16 (by decide) ?_
      exact ro_iret hx hb hr hlocks (by rw [if_neg (show ¬ o = nI 0 from h1), if_pos h2]) dX8_contextOf_30
  · refine lv_iconst (v := nI 0) hx hb dX8_contextOf_4 (by decide) ?_
    refine lv_goto (tgt := 30) hx hb dX8_contextOf_5 (by decide) ?_
    exact ro_iret hx hb hr hlocks ((if_pos h1).symm) dX8_contextOf_30

set_option maxHeartbeats 4000000 in
set_option maxRecDepth 100000 in
theorem c_x_isC (l : Launch) (D : va_G) (ca : Nat → ClassId) (o : Int32) (b : Int32) (e_ : Int32)  : Met l yX8_isContext wsX8_isContext { frames := 1, cells := 0, slots := 0, locals := 20 } (roP D vwCl (ATy ca) [] [.int o, .int b, .int e_]) (vp_Si (fun r : Int32 => r = bI (isC o b e_))) 0 0 (fun _ => False) := by
  refine ro_enter (by decide) rfl (Nat.le_of_ble_eq_true rfl) ?_
  intro p e s m below meth c ls C hK hN hP hl
  obtain ⟨hx, hb, hr, hml, hown, hlocks, hts⟩ := C
  have hl : lv_has ls 3 [(0, .int o), (1, .int b), (2, .int e_)] := hl
  refine lv_iload_n hx hb dX8_isContext_0 rfl (lv_at hl 0 rfl) ?_
  refine lv_if_lt (tgt := 36) hx hb dX8_isContext_1 (by decide) (fun h1 => ?_) (fun h1 => ?_)
  · refine lv_iconst (v := nI 0) hx hb dX8_isContext_36 (by decide) ?_
    exact ro_zret hx hb hr hlocks (by decide) (by rw [isC_neg h1]; rfl) dX8_isContext_37
  · refine lv_iload_n hx hb dX8_isContext_4 rfl (lv_at hl 0 rfl) ?_
    refine lv_iconst (v := nI 2) hx hb dX8_isContext_5 (by decide) ?_
    refine lv_icmp_gt (tgt := 36) hx hb dX8_isContext_6 (by decide) (fun h2 => ?_) (fun h2 => ?_)
    · refine lv_iconst (v := nI 0) hx hb dX8_isContext_36 (by decide) ?_
      exact ro_zret hx hb hr hlocks (by decide) (by rw [isC_big h2]; rfl) dX8_isContext_37
    · refine lv_iload_n hx hb dX8_isContext_9 rfl (lv_at hl 0 rfl) ?_
      refine lv_if_eq (tgt := 20) hx hb dX8_isContext_10 (by decide) (fun h3 => ?_) (fun h3 => ?_)
      · refine lv_iload_n hx hb dX8_isContext_20 rfl (lv_at hl 0 rfl) ?_
        refine lv_iconst (v := nI 2) hx hb dX8_isContext_21 (by decide) ?_
        refine lv_icmp_lt (tgt := 32) hx hb dX8_isContext_22 (by decide) (fun h5 => ?_) (fun h5 => ?_)
        · refine lv_iconst (v := nI 1) hx hb dX8_isContext_32 (by decide) ?_
          refine lv_goto (tgt := 37) hx hb dX8_isContext_33 (by decide) ?_
          exact ro_zret hx hb hr hlocks (by decide) (by rw [isC_0 _ _ h3]; rfl) dX8_isContext_37
        · exact absurd (by rw [h3]; decide) h5
      · refine lv_iload_n hx hb dX8_isContext_13 rfl (lv_at hl 1 rfl) ?_
        refine vp_callSi (va_Run.run (va_runS (As := [.int b]) (rest := []) ⟨hx, hb, hml, hown, hts⟩ (c_x_isByte l D ca b ) (va_cwS 1 hts gX8_isContext_X8_isByte rfl rfl rfl (by decide +kernel) ⟨Nat.le_of_ble_eq_true rfl, Nat.le_of_ble_eq_true rfl⟩) ⟨roP_blind, roP_at hK hN (hP.sub [] rfl)⟩ rfl rfl hl.1 rfl (lv_room (Nat.le_of_ble_eq_true rfl)) dX8_isContext_14 ⟨Nat.le_of_ble_eq_true rfl, Nat.le_of_ble_eq_true rfl⟩)) (fun r_1 hq => ?_)
        subst hq
        refine bb_eq (tgt := 36) hx hb dX8_isContext_17 (by decide) (fun h4 => ?_) (fun h4 => ?_)
        · refine lv_iconst (v := nI 0) hx hb dX8_isContext_36 (by decide) ?_
          exact ro_zret hx hb hr hlocks (by decide) (by rw [isC_b h3 h4]; rfl) dX8_isContext_37
        · refine lv_iload_n hx hb dX8_isContext_20 rfl (lv_at hl 0 rfl) ?_
          refine lv_iconst (v := nI 2) hx hb dX8_isContext_21 (by decide) ?_
          refine lv_icmp_lt (tgt := 32) hx hb dX8_isContext_22 (by decide) (fun h5 => ?_) (fun h5 => ?_)
          · refine lv_iconst (v := nI 1) hx hb dX8_isContext_32 (by decide) ?_
            refine lv_goto (tgt := 37) hx hb dX8_isContext_33 (by decide) ?_
            exact ro_zret hx hb hr hlocks (by decide) (by rw [isC_1 h1 h3 h5 h4]; rfl) dX8_isContext_37
          · refine lv_iload_n hx hb dX8_isContext_25 rfl (lv_at hl 2 rfl) ?_
            refine vp_callSi (va_Run.run (va_runS (As := [.int e_]) (rest := []) ⟨hx, hb, hml, hown, hts⟩ (c_x_isByte l D ca e_ ) (va_cwS 1 hts gX8_isContext_X8_isByte rfl rfl rfl (by decide +kernel) ⟨Nat.le_of_ble_eq_true rfl, Nat.le_of_ble_eq_true rfl⟩) ⟨roP_blind, roP_at hK hN (hP.sub [] rfl)⟩ rfl rfl hl.1 rfl (lv_room (Nat.le_of_ble_eq_true rfl)) dX8_isContext_26 ⟨Nat.le_of_ble_eq_true rfl, Nat.le_of_ble_eq_true rfl⟩)) (fun r_2 hq => ?_)
            subst hq
            refine bb_eq (tgt := 36) hx hb dX8_isContext_29 (by decide) (fun h6 => ?_) (fun h6 => ?_)
            · refine lv_iconst (v := nI 0) hx hb dX8_isContext_36 (by decide) ?_
              exact ro_zret hx hb hr hlocks (by decide) (by rw [isC_e h3 h5 h6]; rfl) dX8_isContext_37
            · refine lv_iconst (v := nI 1) hx hb dX8_isContext_32 (by decide) ?_
              refine lv_goto (tgt := 37) hx hb dX8_isContext_33 (by decide) ?_
              exact ro_zret hx hb hr hlocks (by decide) (by rw [isC_2 h5 h2 h4 h6]; rfl) dX8_isContext_37

set_option maxHeartbeats 4000000 in
set_option maxRecDepth 100000 in
theorem c_x_at (l : Launch) (D : va_G) (ca : Nat → ClassId) (ra : Nat) (yt : Nat) (yc : Nat) (yo : Nat) (yk : Nat) (ys : Nat) (yn : Nat) (y0 : Nat) (y1 : Nat) (y2 : Nat) (y3 : Nat) (yz : Nat) (Tx : List Nat) (Cd : List Nat) (Ox : List Nat) (N : List Nd) (st : List Stq) (lim : Nat) (sh : Nat) (rs : Nat) (rt : Nat) (rg : Nat) (bef : Int32) (ear : Int32) (top : Int32) (rd_ : Int32) (fl : Int32) (nx : Int32) (ti : Int32) (ab : Int64) (ut : Nat → Int32) (uc : Nat → Int32) (uo : Nat → Int32) (w : Int32) (i : Int32) (hBt : BB ut Tx) (hLt : Tx.length ≤ 4000) (hBc : BB uc Cd) (hLc : Cd.length ≤ 8000) (hBo : BB uo Ox) (hLo : Ox.length ≤ 4000) : Met l yX8_at wsX8_at { frames := 1, cells := 0, slots := 0, locals := 21 } (roP D vwCl (ATy ca) [(ra, .inr (7, [.ref yt, .int (nI Tx.length), .ref yc, .int (nI Cd.length), .ref yo, .int (nI Ox.length), .int (nI lim), .ref yk, .ref ys, .ref yn, .int (nI N.length), .ref y0, .ref y1, .ref y2, .ref y3, .int (nI st.length), .int (nI (escN st)), .int (nI sh), .int (nI rs), .int (nI rt), .long (lN rg), .ref yz, .int bef, .int ear, .int top, .int rd_, .int fl, .long ab, .int nx, .int ti])), (yt, .inl (ca 2, 4000, .inl ut)), (yc, .inl (ca 2, 8000, .inl uc)), (yo, .inl (ca 2, 4000, .inl uo))] [.ref ra, .int w, .int i]) (vp_Si (fun r : Int32 => r = atW Tx Cd Ox w i)) 0 0 (fun _ => False) := by
  refine ro_enter (by decide) rfl (Nat.le_of_ble_eq_true rfl) ?_
  intro p e s m below meth c ls C hK hN hP hl
  obtain ⟨hx, hb, hr, hml, hown, hlocks, hts⟩ := C
  have hl : lv_has ls 3 [(0, .ref ra), (1, .int w), (2, .int i)] := hl
  have hin_X8 : ∀ w ∈ wsX80, w ∈ wsX8_at := by decide +kernel
  have hl_7 := hts (.fieldLink RX8 7 "EscapeCoderModel" "text" "[B") (by decide +kernel)
  have hl_13 := hts (.fieldLink RX8 13 "EscapeCoderModel" "code" "[B") (by decide +kernel)
  have hl_16 := hts (.fieldLink RX8 16 "EscapeCoderModel" "output" "[B") (by decide +kernel)
  refine lv_iload_n hx hb dX8_at_0 rfl (lv_at hl 2 rfl) ?_
  refine lv_if_lt (tgt := 13) hx hb dX8_at_1 (by decide) (fun h1 => ?_) (fun h1 => ?_)
  · refine lv_iconst (v := (-1)) hx hb dX8_at_13 (by decide) ?_
    exact ro_iret hx hb hr hlocks ((atW_neg h1).symm) dX8_at_14
  · obtain ⟨j, hj, rfl⟩ := nI_of h1
    refine lv_iload_n hx hb dX8_at_4 rfl (lv_at hl 2 rfl) ?_
    refine lv_aload_n hx hb dX8_at_5 rfl (lv_at hl 0 rfl) ?_
    refine lv_iload_n hx hb dX8_at_6 rfl (lv_at hl 1 rfl) ?_
    refine vp_callSi (va_Run.run (va_runV (As := [.int w]) (rest := [.int (nI j)]) ⟨hx, hb, hml, hown, hts⟩ (c_x_size l D ca ra yt yc yo yk ys yn y0 y1 y2 y3 yz Tx Cd Ox N st lim sh rs rt rg bef ear top rd_ fl nx ti ab w ) (cwV 1 hts gX8_at_X8_size rfl rfl rfl (by decide +kernel) ⟨Nat.le_of_ble_eq_true rfl, Nat.le_of_ble_eq_true rfl⟩) ⟨roP_blind, va_recv hK hP (ci := 7) (q0 := 0) rfl rfl, roP_at hK hN (hP.sub [0] rfl)⟩ rfl rfl hl.1 rfl (lv_room (Nat.le_of_ble_eq_true rfl)) dX8_at_7 ⟨Nat.le_of_ble_eq_true rfl, Nat.le_of_ble_eq_true rfl⟩)) (fun rz hz => ?_)
    by_cases e0 : w.toInt = 0
    · rw [show szW Tx Cd Ox w = nI Tx.length by unfold szW; rw [if_pos e0]] at hz
      subst hz
      have hw9 : w = nI 0 := i32_eq (by decide) e0
      have ha9 : atW Tx Cd Ox w (nI j) = atI Tx (nI j) := by unfold atW; rw [if_pos e0]
      refine bn_lt (tgt := 15) hx hb dX8_at_10 (by decide) (by omega) (by omega) (fun h2 => ?_) (fun h2 => ?_)
      · refine lv_iload_n hx hb dX8_at_15 rfl (lv_at hl 1 rfl) ?_
        refine lv_if_ne (tgt := 28) hx hb dX8_at_16 (by decide) (fun h3 => ?_) (fun h3 => ?_)
        · exact absurd hw9 h3
        · refine lv_aload_n hx hb dX8_at_19 rfl (lv_at hl 0 rfl) ?_
          refine va_get (D := D) (ci := 7) (v := .ref yt) (C := RX8) (T := TX8) (N := 30) hx hb hts hin_X8 hown hK hP 0 rfl rfl 0 (by decide) hl_7 (fun _ h9 => h9) rfl dX8_at_20 ?_
          refine lv_iload_n hx hb dX8_at_23 rfl (lv_at hl 2 rfl) ?_
          refine ld_b hx hb hK hP 1 2 rfl rfl (j := j) (by omega) (by omega) dX8_at_24 ?_
          refine lv_goto (tgt := 48) hx hb dX8_at_25 (by decide) ?_
          refine lv_sipush (v := nI 255) hx hb dX8_at_48 (by decide) ?_
          refine lv_iand hx hb dX8_at_51 ?_
          exact ro_iret hx hb hr hlocks (by rw [ha9, atI_in hj h2]; exact hBt j h2) dX8_at_52
      · refine lv_iconst (v := (-1)) hx hb dX8_at_13 (by decide) ?_
        exact ro_iret hx hb hr hlocks (by rw [ha9, atI_out hj (by omega)]) dX8_at_14
    · by_cases e1 : w.toInt = 1
      · rw [show szW Tx Cd Ox w = nI Cd.length by unfold szW; rw [if_neg e0, if_pos e1]] at hz
        subst hz
        have hw9 : w = nI 1 := i32_eq (by decide) e1
        have ha9 : atW Tx Cd Ox w (nI j) = atI Cd (nI j) := by unfold atW; rw [if_neg e0, if_pos e1]
        refine bn_lt (tgt := 15) hx hb dX8_at_10 (by decide) (by omega) (by omega) (fun h2 => ?_) (fun h2 => ?_)
        · refine lv_iload_n hx hb dX8_at_15 rfl (lv_at hl 1 rfl) ?_
          refine lv_if_ne (tgt := 28) hx hb dX8_at_16 (by decide) (fun h3 => ?_) (fun h3 => ?_)
          · refine lv_iload_n hx hb dX8_at_28 rfl (lv_at hl 1 rfl) ?_
            refine lv_iconst (v := nI 1) hx hb dX8_at_29 (by decide) ?_
            refine lv_icmp_ne (tgt := 42) hx hb dX8_at_30 (by decide) (fun h4 => ?_) (fun h4 => ?_)
            · exact absurd hw9 h4
            · refine lv_aload_n hx hb dX8_at_33 rfl (lv_at hl 0 rfl) ?_
              refine va_get (D := D) (ci := 7) (v := .ref yc) (C := RX8) (T := TX8) (N := 30) hx hb hts hin_X8 hown hK hP 0 rfl rfl 2 (by decide) hl_13 (fun _ h9 => h9) rfl dX8_at_34 ?_
              refine lv_iload_n hx hb dX8_at_37 rfl (lv_at hl 2 rfl) ?_
              refine ld_b hx hb hK hP 2 2 rfl rfl (j := j) (by omega) (by omega) dX8_at_38 ?_
              refine lv_goto (tgt := 48) hx hb dX8_at_39 (by decide) ?_
              refine lv_sipush (v := nI 255) hx hb dX8_at_48 (by decide) ?_
              refine lv_iand hx hb dX8_at_51 ?_
              exact ro_iret hx hb hr hlocks (by rw [ha9, atI_in hj h2]; exact hBc j h2) dX8_at_52
          · exact absurd (hw9.symm.trans h3) (by decide)
        · refine lv_iconst (v := (-1)) hx hb dX8_at_13 (by decide) ?_
          exact ro_iret hx hb hr hlocks (by rw [ha9, atI_out hj (by omega)]) dX8_at_14
      · by_cases e2 : w.toInt = 2
        · rw [show szW Tx Cd Ox w = nI Ox.length by unfold szW; rw [if_neg e0, if_neg e1, if_pos e2]] at hz
          subst hz
          have hw9 : w = nI 2 := i32_eq (by decide) e2
          have ha9 : atW Tx Cd Ox w (nI j) = atI Ox (nI j) := by unfold atW; rw [if_neg e0, if_neg e1, if_pos e2]
          refine bn_lt (tgt := 15) hx hb dX8_at_10 (by decide) (by omega) (by omega) (fun h2 => ?_) (fun h2 => ?_)
          · refine lv_iload_n hx hb dX8_at_15 rfl (lv_at hl 1 rfl) ?_
            refine lv_if_ne (tgt := 28) hx hb dX8_at_16 (by decide) (fun h3 => ?_) (fun h3 => ?_)
            · refine lv_iload_n hx hb dX8_at_28 rfl (lv_at hl 1 rfl) ?_
              refine lv_iconst (v := nI 1) hx hb dX8_at_29 (by decide) ?_
              refine lv_icmp_ne (tgt := 42) hx hb dX8_at_30 (by decide) (fun h4 => ?_) (fun h4 => ?_)
              · refine lv_aload_n hx hb dX8_at_42 rfl (lv_at hl 0 rfl) ?_
                refine va_get (D := D) (ci := 7) (v := .ref yo) (C := RX8) (T := TX8) (N := 30) hx hb hts hin_X8 hown hK hP 0 rfl rfl 4 (by decide) hl_16 (fun _ h9 => h9) rfl dX8_at_43 ?_
                refine lv_iload_n hx hb dX8_at_46 rfl (lv_at hl 2 rfl) ?_
                refine ld_b hx hb hK hP 3 2 rfl rfl (j := j) (by omega) (by omega) dX8_at_47 ?_
                refine lv_sipush (v := nI 255) hx hb dX8_at_48 (by decide) ?_
                refine lv_iand hx hb dX8_at_51 ?_
                exact ro_iret hx hb hr hlocks (by rw [ha9, atI_in hj h2]; exact hBo j h2) dX8_at_52
              · exact absurd (hw9.symm.trans h4) (by decide)
            · exact absurd (hw9.symm.trans h3) (by decide)
          · refine lv_iconst (v := (-1)) hx hb dX8_at_13 (by decide) ?_
            exact ro_iret hx hb hr hlocks (by rw [ha9, atI_out hj (by omega)]) dX8_at_14
        · rw [show szW Tx Cd Ox w = -1 by unfold szW; rw [if_neg e0, if_neg e1, if_neg e2]] at hz
          subst hz
          refine lv_icmp_lt (tgt := 15) hx hb dX8_at_10 (by decide) (fun h2 => ?_) (fun h2 => ?_)
          · exact absurd (h2 : nI j < -1) (Int32.not_lt.mpr (Int32.le_iff_toInt_le.mpr (by rw [nI_toInt hj]; show (-1 : Int) ≤ _; omega)))
          · refine lv_iconst (v := (-1)) hx hb dX8_at_13 (by decide) ?_
            exact ro_iret hx hb hr hlocks (by unfold atW; rw [if_neg e0, if_neg e1, if_neg e2]) dX8_at_14

set_option maxHeartbeats 4000000 in
set_option maxRecDepth 100000 in
theorem c_x_step (l : Launch) (D : va_G) (ca : Nat → ClassId) (ra : Nat) (yt : Nat) (yc : Nat) (yo : Nat) (yk : Nat) (ys : Nat) (yn : Nat) (y0 : Nat) (y1 : Nat) (y2 : Nat) (y3 : Nat) (yz : Nat) (Tx : List Nat) (Cd : List Nat) (Ox : List Nat) (N : List Nd) (st : List Stq) (lim : Nat) (sh : Nat) (rs : Nat) (rt : Nat) (rg : Nat) (bef : Int32) (ear : Int32) (top : Int32) (rd_ : Int32) (fl : Int32) (nx : Int32) (ti : Int32) (ab : Int64) (u0 : Nat → Int32) (u1 : Nat → Int32) (u2 : Nat → Int32) (u3 : Nat → Int32) (i : Int32) (w : Int32) (hS1 : SS u0 u1 u2 u3 st) (hms : st.length < 20000) (hss : ∀ x ∈ st, okS x) : Met l yX8_step wsX8_step { frames := 0, cells := 0, slots := 0, locals := 0 } (roP D vwCl (ATy ca) [(ra, .inr (7, [.ref yt, .int (nI Tx.length), .ref yc, .int (nI Cd.length), .ref yo, .int (nI Ox.length), .int (nI lim), .ref yk, .ref ys, .ref yn, .int (nI N.length), .ref y0, .ref y1, .ref y2, .ref y3, .int (nI st.length), .int (nI (escN st)), .int (nI sh), .int (nI rs), .int (nI rt), .long (lN rg), .ref yz, .int bef, .int ear, .int top, .int rd_, .int fl, .long ab, .int nx, .int ti])), (y0, .inl (ca 3, 20000, .inl u0)), (y1, .inl (ca 3, 20000, .inl u1)), (y2, .inl (ca 3, 20000, .inl u2)), (y3, .inl (ca 2, 20000, .inl u3))] [.ref ra, .int i, .int w]) (vp_Si (fun r : Int32 => r = stepI st i w)) 0 0 (fun _ => False) := by
  refine ro_enter (by decide) rfl (Nat.le_of_ble_eq_true rfl) ?_
  intro p e s m below meth c ls C hK hN hP hl
  obtain ⟨hx, hb, hr, hml, hown, hlocks, hts⟩ := C
  have hl : lv_has ls 4 [(0, .ref ra), (1, .int i), (2, .int w)] := hl
  have hin_X8 : ∀ w ∈ wsX80, w ∈ wsX8_step := by decide +kernel
  have hl_73 := hts (.fieldLink RX8 73 "EscapeCoderModel" "steps" "I") (by decide +kernel)
  have hl_43 := hts (.fieldLink RX8 43 "EscapeCoderModel" "stepOrder" "[B") (by decide +kernel)
  have hl_34 := hts (.fieldLink RX8 34 "EscapeCoderModel" "stepBegin" "[S") (by decide +kernel)
  have hw_1d64b6 := hts (.constant RX8 173 (65535)) (by decide +kernel)
  have hl_37 := hts (.fieldLink RX8 37 "EscapeCoderModel" "stepPart" "[S") (by decide +kernel)
  have hl_40 := hts (.fieldLink RX8 40 "EscapeCoderModel" "stepWhole" "[S") (by decide +kernel)
  refine lv_iload_n hx hb dX8_step_0 rfl (lv_at hl 1 rfl) ?_
  refine lv_if_lt (tgt := 19) hx hb dX8_step_1 (by decide) (fun h1 => ?_) (fun h1 => ?_)
  · refine lv_bipush (v := (-2)) hx hb dX8_step_19 (by decide) ?_
    exact ro_iret hx hb hr hlocks ((stepI_neg h1).symm) dX8_step_21
  · obtain ⟨j, hj, rfl⟩ := nI_of h1
    refine lv_iload_n hx hb dX8_step_4 rfl (lv_at hl 1 rfl) ?_
    refine lv_aload_n hx hb dX8_step_5 rfl (lv_at hl 0 rfl) ?_
    refine va_get (D := D) (ci := 7) (v := .int (nI st.length)) (C := RX8) (T := TX8) (N := 30) hx hb hts hin_X8 hown hK hP 0 rfl rfl 15 (by decide) hl_73 (fun _ h9 => h9) rfl dX8_step_6 ?_
    refine bn_ge (tgt := 19) hx hb dX8_step_9 (by decide) (by omega) (by omega) (fun h2 => ?_) (fun h2 => ?_)
    · refine lv_bipush (v := (-2)) hx hb dX8_step_19 (by decide) ?_
      exact ro_iret hx hb hr hlocks ((stepI_big hj h2).symm) dX8_step_21
    · refine lv_iload_n hx hb dX8_step_12 rfl (lv_at hl 1 rfl) ?_
      refine lv_sipush (v := nI 20000) hx hb dX8_step_13 (by decide) ?_
      refine bn_lt (tgt := 22) hx hb dX8_step_16 (by decide) (by omega) (by omega) (fun h3 => ?_) (fun h3 => ?_)
      · obtain ⟨sx, hsx, ⟨o1, o2, o3, o4⟩, s0, s1, s2, s3⟩ := SS_at hS1 hss (show j < st.length by omega)
        rw [stepI_in hj (show j < st.length by omega), hsx]
        refine lv_aload_n hx hb dX8_step_22 rfl (lv_at hl 0 rfl) ?_
        refine va_get (D := D) (ci := 7) (v := .ref y3) (C := RX8) (T := TX8) (N := 30) hx hb hts hin_X8 hown hK hP 0 rfl rfl 14 (by decide) hl_43 (fun _ h9 => h9) rfl dX8_step_23 ?_
        refine lv_iload_n hx hb dX8_step_26 rfl (lv_at hl 1 rfl) ?_
        refine ld_b hx hb hK hP 4 2 rfl rfl (j := j) (by omega) (by omega) dX8_step_27 ?_
        rcases he : sx.2.2.2.2 with _ | _
        · have s3b : u3 j = nI sx.2.2.2.1 - nI 1 := by rw [s3]; unfold obS; rw [he]; rfl
          refine tp_i (y := nI sx.2.2.2.1 - nI 1) (s3b) ?_
          refine lv_bipush (v := nI 7) hx hb dX8_step_28 (by decide) ?_
          refine lv_icmp_lt (tgt := 37) hx hb dX8_step_30 (by decide) (fun h6 => ?_) (fun h6 => ?_)
          · refine lv_iconst (v := nI 0) hx hb dX8_step_37 (by decide) ?_
            refine lv_istore_n (lv' := [(3, .int (nI 0)), (0, .ref ra), (1, .int (nI j)), (2, .int w)]) hx hb dX8_step_38 rfl hl (by decide) rfl (fun ls hl => ?_)
            refine lv_iload_n hx hb dX8_step_39 rfl (lv_at hl 3 rfl) ?_
            by_cases e0 : w.toInt = 0
            · refine lv_tableIn (tgt := 76) hx hb dX8_step_40 (by rw [e0]; decide) (by rw [e0]; decide) (by rw [e0]; rfl) (by decide) ?_
              refine lv_aload_n hx hb dX8_step_76 rfl (lv_at hl 1 rfl) ?_
              refine va_get (D := D) (ci := 7) (v := .ref y0) (C := RX8) (T := TX8) (N := 30) hx hb hts hin_X8 hown hK hP 0 rfl rfl 11 (by decide) hl_34 (fun _ h9 => h9) rfl dX8_step_77 ?_
              refine lv_iload_n hx hb dX8_step_80 rfl (lv_at hl 2 rfl) ?_
              refine ld_s hx hb hK hP 1 3 rfl rfl (j := j) (by omega) (by omega) dX8_step_81 ?_
              refine tp_i (y := nI sx.1) (s0) ?_
              refine lv_ldc (v := 65535) hx hb hown hw_1d64b6 dX8_step_82 ?_
              refine lv_iand hx hb dX8_step_84 ?_
              refine tp_i (y := nI sx.1) (msk16 o1) ?_
              exact ro_iret hx hb hr hlocks (by unfold stepV; rw [if_pos e0]) dX8_step_85
            · by_cases e1 : w.toInt = 1
              · refine lv_tableIn (tgt := 86) hx hb dX8_step_40 (by rw [e1]; decide) (by rw [e1]; decide) (by rw [e1]; rfl) (by decide) ?_
                refine lv_aload_n hx hb dX8_step_86 rfl (lv_at hl 1 rfl) ?_
                refine va_get (D := D) (ci := 7) (v := .ref y1) (C := RX8) (T := TX8) (N := 30) hx hb hts hin_X8 hown hK hP 0 rfl rfl 12 (by decide) hl_37 (fun _ h9 => h9) rfl dX8_step_87 ?_
                refine lv_iload_n hx hb dX8_step_90 rfl (lv_at hl 2 rfl) ?_
                refine ld_s hx hb hK hP 2 3 rfl rfl (j := j) (by omega) (by omega) dX8_step_91 ?_
                refine tp_i (y := nI sx.2.1) (s1) ?_
                refine lv_ldc (v := 65535) hx hb hown hw_1d64b6 dX8_step_92 ?_
                refine lv_iand hx hb dX8_step_94 ?_
                refine tp_i (y := nI sx.2.1) (msk16 o2) ?_
                exact ro_iret hx hb hr hlocks (by unfold stepV; rw [if_neg e0, if_pos e1]) dX8_step_95
              · by_cases e2 : w.toInt = 2
                · refine lv_tableIn (tgt := 96) hx hb dX8_step_40 (by rw [e2]; decide) (by rw [e2]; decide) (by rw [e2]; rfl) (by decide) ?_
                  refine lv_aload_n hx hb dX8_step_96 rfl (lv_at hl 1 rfl) ?_
                  refine va_get (D := D) (ci := 7) (v := .ref y2) (C := RX8) (T := TX8) (N := 30) hx hb hts hin_X8 hown hK hP 0 rfl rfl 13 (by decide) hl_40 (fun _ h9 => h9) rfl dX8_step_97 ?_
                  refine lv_iload_n hx hb dX8_step_100 rfl (lv_at hl 2 rfl) ?_
                  refine ld_s hx hb hK hP 3 3 rfl rfl (j := j) (by omega) (by omega) dX8_step_101 ?_
                  refine tp_i (y := nI sx.2.2.1) (s2) ?_
                  refine lv_ldc (v := 65535) hx hb hown hw_1d64b6 dX8_step_102 ?_
                  refine lv_iand hx hb dX8_step_104 ?_
                  refine tp_i (y := nI sx.2.2.1) (msk16 o3) ?_
                  exact ro_iret hx hb hr hlocks (by unfold stepV; rw [if_neg e0, if_neg e1, if_pos e2]) dX8_step_105
                · by_cases e3 : w.toInt = 3
                  · refine lv_tableIn (tgt := 106) hx hb dX8_step_40 (by rw [e3]; decide) (by rw [e3]; decide) (by rw [e3]; rfl) (by decide) ?_
                    refine lv_aload_n hx hb dX8_step_106 rfl (lv_at hl 1 rfl) ?_
                    refine va_get (D := D) (ci := 7) (v := .ref y3) (C := RX8) (T := TX8) (N := 30) hx hb hts hin_X8 hown hK hP 0 rfl rfl 14 (by decide) hl_43 (fun _ h9 => h9) rfl dX8_step_107 ?_
                    refine lv_iload_n hx hb dX8_step_110 rfl (lv_at hl 2 rfl) ?_
                    refine ld_b hx hb hK hP 4 2 rfl rfl (j := j) (by omega) (by omega) dX8_step_111 ?_
                    refine tp_i (y := nI sx.2.2.2.1 - nI 1) (s3b) ?_
                    refine lv_iload_n hx hb dX8_step_112 rfl (lv_at hl 0 rfl) ?_
                    refine lv_if_eq (tgt := 121) hx hb dX8_step_113 (by decide) (fun h7 => ?_) (fun h7 => ?_)
                    · refine lv_iconst (v := nI 0) hx hb dX8_step_121 (by decide) ?_
                      refine lv_isub hx hb dX8_step_122 ?_
                      exact ro_iret hx hb hr hlocks (by unfold stepV; rw [if_neg e0, if_neg e1, if_neg e2, if_pos e3]; exact ob_f _ o4) dX8_step_123
                    · exact absurd rfl h7
                  · by_cases e4 : w.toInt = 4
                    · refine lv_tableIn (tgt := 124) hx hb dX8_step_40 (by rw [e4]; decide) (by rw [e4]; decide) (by rw [e4]; rfl) (by decide) ?_
                      refine lv_iload_n hx hb dX8_step_124 rfl (lv_at hl 0 rfl) ?_
                      refine lv_if_eq (tgt := 132) hx hb dX8_step_125 (by decide) (fun h7 => ?_) (fun h7 => ?_)
                      · refine lv_iconst (v := nI 0) hx hb dX8_step_132 (by decide) ?_
                        exact ro_iret hx hb hr hlocks (by unfold stepV; rw [if_neg e0, if_neg e1, if_neg e2, if_neg e3, if_pos e4]; rw [he]; rfl) dX8_step_133
                      · exact absurd rfl h7
                    · refine lv_tableOut (tgt := 134) hx hb dX8_step_40 (by omega) (by decide) ?_
                      refine lv_bipush (v := (-2)) hx hb dX8_step_134 (by decide) ?_
                      exact ro_iret hx hb hr hlocks (by unfold stepV; rw [if_neg e0, if_neg e1, if_neg e2, if_neg e3, if_neg e4]) dX8_step_136
          · exact absurd (ob_lt _ o4) h6
        · have s3b : u3 j = nI (sx.2.2.2.1 + 7) := by rw [s3]; unfold obS; rw [he]; rfl
          refine tp_i (y := nI (sx.2.2.2.1 + 7)) (s3b) ?_
          refine lv_bipush (v := nI 7) hx hb dX8_step_28 (by decide) ?_
          refine bn_lt (tgt := 37) hx hb dX8_step_30 (by decide) (by omega) (by omega) (fun h6 => ?_) (fun h6 => ?_)
          · exact absurd h6 (by omega)
          · refine lv_iconst (v := nI 1) hx hb dX8_step_33 (by decide) ?_
            refine lv_goto (tgt := 38) hx hb dX8_step_34 (by decide) ?_
            refine lv_istore_n (lv' := [(3, .int (nI 1)), (0, .ref ra), (1, .int (nI j)), (2, .int w)]) hx hb dX8_step_38 rfl hl (by decide) rfl (fun ls hl => ?_)
            refine lv_iload_n hx hb dX8_step_39 rfl (lv_at hl 3 rfl) ?_
            by_cases e0 : w.toInt = 0
            · refine lv_tableIn (tgt := 76) hx hb dX8_step_40 (by rw [e0]; decide) (by rw [e0]; decide) (by rw [e0]; rfl) (by decide) ?_
              refine lv_aload_n hx hb dX8_step_76 rfl (lv_at hl 1 rfl) ?_
              refine va_get (D := D) (ci := 7) (v := .ref y0) (C := RX8) (T := TX8) (N := 30) hx hb hts hin_X8 hown hK hP 0 rfl rfl 11 (by decide) hl_34 (fun _ h9 => h9) rfl dX8_step_77 ?_
              refine lv_iload_n hx hb dX8_step_80 rfl (lv_at hl 2 rfl) ?_
              refine ld_s hx hb hK hP 1 3 rfl rfl (j := j) (by omega) (by omega) dX8_step_81 ?_
              refine tp_i (y := nI sx.1) (s0) ?_
              refine lv_ldc (v := 65535) hx hb hown hw_1d64b6 dX8_step_82 ?_
              refine lv_iand hx hb dX8_step_84 ?_
              refine tp_i (y := nI sx.1) (msk16 o1) ?_
              exact ro_iret hx hb hr hlocks (by unfold stepV; rw [if_pos e0]) dX8_step_85
            · by_cases e1 : w.toInt = 1
              · refine lv_tableIn (tgt := 86) hx hb dX8_step_40 (by rw [e1]; decide) (by rw [e1]; decide) (by rw [e1]; rfl) (by decide) ?_
                refine lv_aload_n hx hb dX8_step_86 rfl (lv_at hl 1 rfl) ?_
                refine va_get (D := D) (ci := 7) (v := .ref y1) (C := RX8) (T := TX8) (N := 30) hx hb hts hin_X8 hown hK hP 0 rfl rfl 12 (by decide) hl_37 (fun _ h9 => h9) rfl dX8_step_87 ?_
                refine lv_iload_n hx hb dX8_step_90 rfl (lv_at hl 2 rfl) ?_
                refine ld_s hx hb hK hP 2 3 rfl rfl (j := j) (by omega) (by omega) dX8_step_91 ?_
                refine tp_i (y := nI sx.2.1) (s1) ?_
                refine lv_ldc (v := 65535) hx hb hown hw_1d64b6 dX8_step_92 ?_
                refine lv_iand hx hb dX8_step_94 ?_
                refine tp_i (y := nI sx.2.1) (msk16 o2) ?_
                exact ro_iret hx hb hr hlocks (by unfold stepV; rw [if_neg e0, if_pos e1]) dX8_step_95
              · by_cases e2 : w.toInt = 2
                · refine lv_tableIn (tgt := 96) hx hb dX8_step_40 (by rw [e2]; decide) (by rw [e2]; decide) (by rw [e2]; rfl) (by decide) ?_
                  refine lv_aload_n hx hb dX8_step_96 rfl (lv_at hl 1 rfl) ?_
                  refine va_get (D := D) (ci := 7) (v := .ref y2) (C := RX8) (T := TX8) (N := 30) hx hb hts hin_X8 hown hK hP 0 rfl rfl 13 (by decide) hl_40 (fun _ h9 => h9) rfl dX8_step_97 ?_
                  refine lv_iload_n hx hb dX8_step_100 rfl (lv_at hl 2 rfl) ?_
                  refine ld_s hx hb hK hP 3 3 rfl rfl (j := j) (by omega) (by omega) dX8_step_101 ?_
                  refine tp_i (y := nI sx.2.2.1) (s2) ?_
                  refine lv_ldc (v := 65535) hx hb hown hw_1d64b6 dX8_step_102 ?_
                  refine lv_iand hx hb dX8_step_104 ?_
                  refine tp_i (y := nI sx.2.2.1) (msk16 o3) ?_
                  exact ro_iret hx hb hr hlocks (by unfold stepV; rw [if_neg e0, if_neg e1, if_pos e2]) dX8_step_105
                · by_cases e3 : w.toInt = 3
                  · refine lv_tableIn (tgt := 106) hx hb dX8_step_40 (by rw [e3]; decide) (by rw [e3]; decide) (by rw [e3]; rfl) (by decide) ?_
                    refine lv_aload_n hx hb dX8_step_106 rfl (lv_at hl 1 rfl) ?_
                    refine va_get (D := D) (ci := 7) (v := .ref y3) (C := RX8) (T := TX8) (N := 30) hx hb hts hin_X8 hown hK hP 0 rfl rfl 14 (by decide) hl_43 (fun _ h9 => h9) rfl dX8_step_107 ?_
                    refine lv_iload_n hx hb dX8_step_110 rfl (lv_at hl 2 rfl) ?_
                    refine ld_b hx hb hK hP 4 2 rfl rfl (j := j) (by omega) (by omega) dX8_step_111 ?_
                    refine tp_i (y := nI (sx.2.2.2.1 + 7)) (s3b) ?_
                    refine lv_iload_n hx hb dX8_step_112 rfl (lv_at hl 0 rfl) ?_
                    refine lv_if_eq (tgt := 121) hx hb dX8_step_113 (by decide) (fun h7 => ?_) (fun h7 => ?_)
                    · exact absurd h7 (by decide)
                    · refine lv_bipush (v := nI 8) hx hb dX8_step_116 (by decide) ?_
                      refine lv_goto (tgt := 122) hx hb dX8_step_118 (by decide) ?_
                      refine lv_isub hx hb dX8_step_122 ?_
                      exact ro_iret hx hb hr hlocks (by unfold stepV; rw [if_neg e0, if_neg e1, if_neg e2, if_pos e3]; exact ob_t _ o4) dX8_step_123
                  · by_cases e4 : w.toInt = 4
                    · refine lv_tableIn (tgt := 124) hx hb dX8_step_40 (by rw [e4]; decide) (by rw [e4]; decide) (by rw [e4]; rfl) (by decide) ?_
                      refine lv_iload_n hx hb dX8_step_124 rfl (lv_at hl 0 rfl) ?_
                      refine lv_if_eq (tgt := 132) hx hb dX8_step_125 (by decide) (fun h7 => ?_) (fun h7 => ?_)
                      · exact absurd h7 (by decide)
                      · refine lv_iconst (v := nI 1) hx hb dX8_step_128 (by decide) ?_
                        refine lv_goto (tgt := 133) hx hb dX8_step_129 (by decide) ?_
                        exact ro_iret hx hb hr hlocks (by unfold stepV; rw [if_neg e0, if_neg e1, if_neg e2, if_neg e3, if_pos e4]; rw [he]; rfl) dX8_step_133
                    · refine lv_tableOut (tgt := 134) hx hb dX8_step_40 (by omega) (by decide) ?_
                      refine lv_bipush (v := (-2)) hx hb dX8_step_134 (by decide) ?_
                      exact ro_iret hx hb hr hlocks (by unfold stepV; rw [if_neg e0, if_neg e1, if_neg e2, if_neg e3, if_neg e4]) dX8_step_136
      · exact absurd h3 (by omega)

set_option maxHeartbeats 4000000 in
set_option maxRecDepth 100000 in
theorem c_x_count (l : Launch) (D : va_G) (ca : Nat → ClassId) (ra : Nat) (yt : Nat) (yc : Nat) (yo : Nat) (yk : Nat) (ys : Nat) (yn : Nat) (y0 : Nat) (y1 : Nat) (y2 : Nat) (y3 : Nat) (yz : Nat) (Tx : List Nat) (Cd : List Nat) (Ox : List Nat) (N : List Nd) (st : List Stq) (lim : Nat) (sh : Nat) (rs : Nat) (rt : Nat) (rg : Nat) (bef : Int32) (ear : Int32) (top : Int32) (rd_ : Int32) (fl : Int32) (nx : Int32) (ti : Int32) (ab : Int64) (uk : Nat → Int32) (us : Nat → Int32) (un : Nat → Int32) (w : Int32) (hNN : NN uk us un N) (hok : okN N) (hl6 : N.length ≤ 6000) (hb1 : st.length < 2 ^ 31 ∧ sh < 2 ^ 31 ∧ rs < 2 ^ 31 ∧ rt < 2 ^ 31) : Met l yX8_count wsX8_count { frames := 0, cells := 0, slots := 0, locals := 0 } (roP D vwCl (ATy ca) [(ra, .inr (7, [.ref yt, .int (nI Tx.length), .ref yc, .int (nI Cd.length), .ref yo, .int (nI Ox.length), .int (nI lim), .ref yk, .ref ys, .ref yn, .int (nI N.length), .ref y0, .ref y1, .ref y2, .ref y3, .int (nI st.length), .int (nI (escN st)), .int (nI sh), .int (nI rs), .int (nI rt), .long (lN rg), .ref yz, .int bef, .int ear, .int top, .int rd_, .int fl, .long ab, .int nx, .int ti])), (yk, .inl (ca 0, 6000, .inl uk)), (ys, .inl (ca 3, 6000, .inl us)), (yn, .inl (ca 3, 6000, .inl un))] [.ref ra, .int w]) (vp_Sl (fun r : Int64 => r = cntW st sh rg N rs rt w)) 0 0 (fun _ => False) := by
  refine ro_enter (by decide) rfl (Nat.le_of_ble_eq_true rfl) ?_
  intro p e s m below meth c ls C hK hN hP hl
  obtain ⟨hx, hb, hr, hml, hown, hlocks, hts⟩ := C
  have hl : lv_has ls 6 [(0, .ref ra), (1, .int w)] := hl
  have hin_X8 : ∀ w ∈ wsX80, w ∈ wsX8_count := by decide +kernel
  have hl_70 := hts (.fieldLink RX8 70 "EscapeCoderModel" "nodes" "I") (by decide +kernel)
  have hl_23 := hts (.fieldLink RX8 23 "EscapeCoderModel" "context" "[I") (by decide +kernel)
  have hl_73 := hts (.fieldLink RX8 73 "EscapeCoderModel" "steps" "I") (by decide +kernel)
  have hl_76 := hts (.fieldLink RX8 76 "EscapeCoderModel" "escapes" "I") (by decide +kernel)
  have hl_79 := hts (.fieldLink RX8 79 "EscapeCoderModel" "shifts" "I") (by decide +kernel)
  have hl_82 := hts (.fieldLink RX8 82 "EscapeCoderModel" "rescalings" "I") (by decide +kernel)
  have hl_85 := hts (.fieldLink RX8 85 "EscapeCoderModel" "resets" "I") (by decide +kernel)
  have hl_66 := hts (.fieldLink RX8 66 "EscapeCoderModel" "range" "J") (by decide +kernel)
  have hw_5d3aa2 := hts (.constantLong RX8 174 ((-1))) (by decide +kernel)
  have he := escN_le st
  have hkl := keysOf_len N
  have hlo : ∀ (z : Nat) (i : Nat), (i + z = N.length) → (¬ w.toInt = 0) → (¬ w.toInt = 1) → (¬ w.toInt = 2) → (¬ w.toInt = 3) → (¬ w.toInt = 4) → (¬ w.toInt = 5) → (¬ w.toInt = 6) → (w.toInt = 7) → ∀ (ls : Array Slot), lv_has ls 6 [(3, .int (nI i)), (2, .int (nI (keysOf (N.take i)).length)), (0, .ref ra), (1, .int w)] → W p l e ({ frames := 0, cells := 0, slots := 0, locals := 0 } : Room) s m ([.ref ra, .int w] : List Value).toArray below meth c s.heap [] 0 0 (MQ below (vp_Sl (fun r : Int64 => r = cntW st sh rg N rs rt w)) ([.ref ra, .int w] : List Value).toArray s 0 0 (fun _ => False)) (F0 m 93 ls []) := by
    intro z
    induction z with
    | zero =>
      intro i hiz e0 e1 e2 e3 e4 e5 e6 e7 ls hl
      refine lv_iload_n hx hb dX8_count_93 rfl (lv_at hl 0 rfl) ?_
      refine lv_aload_n hx hb dX8_count_94 rfl (lv_at hl 2 rfl) ?_
      refine va_get (D := D) (ci := 7) (v := .int (nI N.length)) (C := RX8) (T := TX8) (N := 30) hx hb hts hin_X8 hown hK hP 0 rfl rfl 10 (by decide) hl_70 (fun _ h9 => h9) rfl dX8_count_95 ?_
      refine bn_ge (tgt := 166) hx hb dX8_count_98 (by decide) (by omega) (by omega) (fun h1 => ?_) (fun h1 => ?_)
      · rw [List.take_of_length_le (show N.length ≤ i by omega)] at hl
        refine lv_iload_n hx hb dX8_count_166 rfl (lv_at hl 1 rfl) ?_
        refine lv_i2l (v := lN (keysOf N).length) hx hb dX8_count_167 (nI_l (by omega)) ?_
        exact ro_lret hx hb hr hlocks (by unfold cntW; rw [if_neg e0, if_neg e1, if_neg e2, if_neg e3, if_neg e4, if_neg e5, if_neg e6, if_pos e7]) dX8_count_168
      · exact absurd h1 (by omega)
    | succ z ih =>
      intro i hiz e0 e1 e2 e3 e4 e5 e6 e7 ls hl
      have ihz := ih
      have hi9 : i < N.length := by omega
      have hni := hNN i hi9
      have hoi := okN_at hok hi9
      refine lv_iload_n hx hb dX8_count_93 rfl (lv_at hl 0 rfl) ?_
      refine lv_aload_n hx hb dX8_count_94 rfl (lv_at hl 2 rfl) ?_
      refine va_get (D := D) (ci := 7) (v := .int (nI N.length)) (C := RX8) (T := TX8) (N := 30) hx hb hts hin_X8 hown hK hP 0 rfl rfl 10 (by decide) hl_70 (fun _ h9 => h9) rfl dX8_count_95 ?_
      refine bn_ge (tgt := 166) hx hb dX8_count_98 (by decide) (by omega) (by omega) (fun h1 => ?_) (fun h1 => ?_)
      · exact absurd h1 (by omega)
      · refine lv_iconst (v := nI 1) hx hb dX8_count_101 (by decide) ?_
        refine tp_i (y := bI true) (rfl) ?_
        refine lv_istore (lv' := [(4, .int (bI true)), (3, .int (nI i)), (2, .int (nI (keysOf (N.take i)).length)), (0, .ref ra), (1, .int w)]) hx hb dX8_count_102 hl (by decide) rfl (fun ls hl => ?_)
        refine lv_iconst (v := nI 0) hx hb dX8_count_104 (by decide) ?_
        refine lv_istore (lv' := [(5, .int (nI 0)), (4, .int (bI true)), (3, .int (nI i)), (2, .int (nI (keysOf (N.take i)).length)), (0, .ref ra), (1, .int w)]) hx hb dX8_count_105 hl (by decide) rfl (fun ls hl => ?_)
        have hin : ∀ (y : Nat) (j : Nat) (fl_ : Bool), (j + y = i) → (fl_ = true → ∀ t, t < j → ¬ (nd N t).1 = (nd N i).1) → (fl_ = false → ∃ t, t < i ∧ (nd N t).1 = (nd N i).1) → ∀ (ls : Array Slot), lv_has ls 6 [(5, .int (nI j)), (4, .int (bI fl_)), (3, .int (nI i)), (2, .int (nI (keysOf (N.take i)).length)), (0, .ref ra), (1, .int w)] → W p l e ({ frames := 0, cells := 0, slots := 0, locals := 0 } : Room) s m ([.ref ra, .int w] : List Value).toArray below meth c s.heap [] 0 0 (MQ below (vp_Sl (fun r : Int64 => r = cntW st sh rg N rs rt w)) ([.ref ra, .int w] : List Value).toArray s 0 0 (fun _ => False)) (F0 m 107 ls []) := by
          intro y
          induction y with
          | zero =>
            intro j fl_ hjy hf1 hf2 ls hl
            refine lv_iload hx hb dX8_count_107 (lv_at hl 0 rfl) ?_
            refine lv_iload_n hx hb dX8_count_109 rfl (lv_at hl 2 rfl) ?_
            refine bn_ge (tgt := 147) hx hb dX8_count_110 (by decide) (by omega) (by omega) (fun h2 => ?_) (fun h2 => ?_)
            · have hji : j = i := by omega
              subst hji
              have hi9 : j < N.length := by omega
              refine lv_iload_n hx hb dX8_count_147 rfl (lv_at hl 3 rfl) ?_
              refine lv_iload hx hb dX8_count_148 (lv_at hl 1 rfl) ?_
              refine bb_eq (tgt := 157) hx hb dX8_count_150 (by decide) (fun h8 => ?_) (fun h8 => ?_)
              · refine lv_iconst (v := nI 0) hx hb dX8_count_157 (by decide) ?_
                refine lv_iadd hx hb dX8_count_158 ?_
                have hk9 := keys_old hi9 (hf2 h8)
                refine tp_i (y := nI (keysOf (N.take (j + 1))).length) (by rw [hk9]; exact nI_add _ 0) ?_
                refine lv_istore_n (lv' := [(2, .int (nI (keysOf (N.take (j + 1))).length)), (5, .int (nI j)), (4, .int (bI fl_)), (3, .int (nI j)), (0, .ref ra), (1, .int w)]) hx hb dX8_count_159 rfl hl (by decide) rfl (fun ls hl => ?_)
                refine lv_iinc (v := nI (j + 1)) (lv' := [(3, .int (nI (j + 1))), (2, .int (nI (keysOf (N.take (j + 1))).length)), (5, .int (nI j)), (4, .int (bI fl_)), (0, .ref ra), (1, .int w)]) hx hb dX8_count_160 hl (k := 3) rfl (nI_1 _) (by decide) rfl (fun ls hl => ?_)
                refine lv_goto (tgt := 93) hx hb dX8_count_163 (by decide) ?_
                exact ihz (j + 1) (by omega) e0 e1 e2 e3 e4 e5 e6 e7 _ (lv_sub hl [0, 1, 4, 5] rfl)
              · refine lv_iconst (v := nI 1) hx hb dX8_count_153 (by decide) ?_
                refine lv_goto (tgt := 158) hx hb dX8_count_154 (by decide) ?_
                refine lv_iadd hx hb dX8_count_158 ?_
                have hk9 := keys_new hi9 (hf1 h8)
                refine tp_i (y := nI (keysOf (N.take (j + 1))).length) (by rw [hk9]; exact nI_1 _) ?_
                refine lv_istore_n (lv' := [(2, .int (nI (keysOf (N.take (j + 1))).length)), (5, .int (nI j)), (4, .int (bI fl_)), (3, .int (nI j)), (0, .ref ra), (1, .int w)]) hx hb dX8_count_159 rfl hl (by decide) rfl (fun ls hl => ?_)
                refine lv_iinc (v := nI (j + 1)) (lv' := [(3, .int (nI (j + 1))), (2, .int (nI (keysOf (N.take (j + 1))).length)), (5, .int (nI j)), (4, .int (bI fl_)), (0, .ref ra), (1, .int w)]) hx hb dX8_count_160 hl (k := 3) rfl (nI_1 _) (by decide) rfl (fun ls hl => ?_)
                refine lv_goto (tgt := 93) hx hb dX8_count_163 (by decide) ?_
                exact ihz (j + 1) (by omega) e0 e1 e2 e3 e4 e5 e6 e7 _ (lv_sub hl [0, 1, 4, 5] rfl)
            · exact absurd h2 (by omega)
          | succ y ih =>
            intro j fl_ hjy hf1 hf2 ls hl
            refine lv_iload hx hb dX8_count_107 (lv_at hl 0 rfl) ?_
            refine lv_iload_n hx hb dX8_count_109 rfl (lv_at hl 2 rfl) ?_
            refine bn_ge (tgt := 147) hx hb dX8_count_110 (by decide) (by omega) (by omega) (fun h2 => ?_) (fun h2 => ?_)
            · exact absurd h2 (by omega)
            · refine lv_iload hx hb dX8_count_113 (lv_at hl 1 rfl) ?_
              refine bb_eq (tgt := 147) hx hb dX8_count_115 (by decide) (fun h3 => ?_) (fun h3 => ?_)
              · refine lv_iload_n hx hb dX8_count_147 rfl (lv_at hl 3 rfl) ?_
                refine lv_iload hx hb dX8_count_148 (lv_at hl 1 rfl) ?_
                refine bb_eq (tgt := 157) hx hb dX8_count_150 (by decide) (fun h8 => ?_) (fun h8 => ?_)
                · refine lv_iconst (v := nI 0) hx hb dX8_count_157 (by decide) ?_
                  refine lv_iadd hx hb dX8_count_158 ?_
                  have hk9 := keys_old hi9 (hf2 h3)
                  refine tp_i (y := nI (keysOf (N.take (i + 1))).length) (by rw [hk9]; exact nI_add _ 0) ?_
                  refine lv_istore_n (lv' := [(2, .int (nI (keysOf (N.take (i + 1))).length)), (5, .int (nI j)), (4, .int (bI fl_)), (3, .int (nI i)), (0, .ref ra), (1, .int w)]) hx hb dX8_count_159 rfl hl (by decide) rfl (fun ls hl => ?_)
                  refine lv_iinc (v := nI (i + 1)) (lv' := [(3, .int (nI (i + 1))), (2, .int (nI (keysOf (N.take (i + 1))).length)), (5, .int (nI j)), (4, .int (bI fl_)), (0, .ref ra), (1, .int w)]) hx hb dX8_count_160 hl (k := 3) rfl (nI_1 _) (by decide) rfl (fun ls hl => ?_)
                  refine lv_goto (tgt := 93) hx hb dX8_count_163 (by decide) ?_
                  exact ihz (i + 1) (by omega) e0 e1 e2 e3 e4 e5 e6 e7 _ (lv_sub hl [0, 1, 4, 5] rfl)
                · exact absurd (h3.symm.trans h8) (by decide)
              · have hnj := hNN j (by omega)
                have hoj := okN_at hok (show j < N.length by omega)
                refine lv_aload_n hx hb dX8_count_118 rfl (lv_at hl 4 rfl) ?_
                refine va_get (D := D) (ci := 7) (v := .ref yk) (C := RX8) (T := TX8) (N := 30) hx hb hts hin_X8 hown hK hP 0 rfl rfl 7 (by decide) hl_23 (fun _ h9 => h9) rfl dX8_count_119 ?_
                refine lv_iload hx hb dX8_count_122 (lv_at hl 0 rfl) ?_
                refine ld_i hx hb hK hP 1 0 rfl rfl (j := j) (by omega) (by omega) dX8_count_124 ?_
                refine tp_i (y := nI (nd N j).1) (hnj.1) ?_
                refine lv_aload_n hx hb dX8_count_125 rfl (lv_at hl 4 rfl) ?_
                refine va_get (D := D) (ci := 7) (v := .ref yk) (C := RX8) (T := TX8) (N := 30) hx hb hts hin_X8 hown hK hP 0 rfl rfl 7 (by decide) hl_23 (fun _ h9 => h9) rfl dX8_count_126 ?_
                refine lv_iload_n hx hb dX8_count_129 rfl (lv_at hl 2 rfl) ?_
                refine ld_i hx hb hK hP 1 0 rfl rfl (j := i) (by omega) (by omega) dX8_count_130 ?_
                refine tp_i (y := nI (nd N i).1) (hni.1) ?_
                refine bn_eq (tgt := 138) hx hb dX8_count_131 (by decide) (by omega) (by omega) (fun h4 => ?_) (fun h4 => ?_)
                · refine lv_iconst (v := nI 0) hx hb dX8_count_138 (by decide) ?_
                  refine tp_i (y := bI false) (rfl) ?_
                  refine lv_istore (lv' := [(4, .int (bI false)), (5, .int (nI j)), (3, .int (nI i)), (2, .int (nI (keysOf (N.take i)).length)), (0, .ref ra), (1, .int w)]) hx hb dX8_count_139 hl (by decide) rfl (fun ls hl => ?_)
                  refine lv_iinc (v := nI (j + 1)) (lv' := [(5, .int (nI (j + 1))), (4, .int (bI false)), (3, .int (nI i)), (2, .int (nI (keysOf (N.take i)).length)), (0, .ref ra), (1, .int w)]) hx hb dX8_count_141 hl (k := 1) rfl (nI_1 _) (by decide) rfl (fun ls hl => ?_)
                  refine lv_goto (tgt := 107) hx hb dX8_count_144 (by decide) ?_
                  exact ih (j + 1) false (by omega) (fun q9 => absurd q9 (by decide)) (fun _ => ⟨j, by omega, h4⟩) _ (lv_sub hl [0, 1, 2, 3, 4, 5] rfl)
                · refine lv_iconst (v := nI 1) hx hb dX8_count_134 (by decide) ?_
                  refine lv_goto (tgt := 139) hx hb dX8_count_135 (by decide) ?_
                  refine tp_i (y := bI true) (rfl) ?_
                  refine lv_istore (lv' := [(4, .int (bI true)), (5, .int (nI j)), (3, .int (nI i)), (2, .int (nI (keysOf (N.take i)).length)), (0, .ref ra), (1, .int w)]) hx hb dX8_count_139 hl (by decide) rfl (fun ls hl => ?_)
                  refine lv_iinc (v := nI (j + 1)) (lv' := [(5, .int (nI (j + 1))), (4, .int (bI true)), (3, .int (nI i)), (2, .int (nI (keysOf (N.take i)).length)), (0, .ref ra), (1, .int w)]) hx hb dX8_count_141 hl (k := 1) rfl (nI_1 _) (by decide) rfl (fun ls hl => ?_)
                  refine lv_goto (tgt := 107) hx hb dX8_count_144 (by decide) ?_
                  exact ih (j + 1) true (by omega) (fun _ t ht => by
                    by_cases e9 : t = j
                    · rw [e9]; exact h4
                    · exact hf1 h3 t (by omega)) (fun q9 => absurd q9 (by decide)) _ (lv_sub hl [0, 1, 2, 3, 4, 5] rfl)
        exact hin i 0 true (by omega) (fun _ t ht => absurd ht (Nat.not_lt_zero _)) (fun q9 => absurd q9 (by decide)) _ (lv_sub hl [0, 1, 2, 3, 4, 5] rfl)
  refine lv_iload_n hx hb dX8_count_0 rfl (lv_at hl 1 rfl) ?_
  by_cases e0 : w.toInt = 0
  · refine lv_tableIn (tgt := 48) hx hb dX8_count_1 (by rw [e0]; decide) (by rw [e0]; decide) (by rw [e0]; rfl) (by decide) ?_
    refine lv_aload_n hx hb dX8_count_48 rfl (lv_at hl 0 rfl) ?_
    refine va_get (D := D) (ci := 7) (v := .int (nI st.length)) (C := RX8) (T := TX8) (N := 30) hx hb hts hin_X8 hown hK hP 0 rfl rfl 15 (by decide) hl_73 (fun _ h9 => h9) rfl dX8_count_49 ?_
    refine lv_i2l (v := lN st.length) hx hb dX8_count_52 (nI_l (by omega)) ?_
    exact ro_lret hx hb hr hlocks (by unfold cntW; rw [if_pos e0]) dX8_count_53
  · by_cases e1 : w.toInt = 1
    · refine lv_tableIn (tgt := 54) hx hb dX8_count_1 (by rw [e1]; decide) (by rw [e1]; decide) (by rw [e1]; rfl) (by decide) ?_
      refine lv_aload_n hx hb dX8_count_54 rfl (lv_at hl 0 rfl) ?_
      refine va_get (D := D) (ci := 7) (v := .int (nI (escN st))) (C := RX8) (T := TX8) (N := 30) hx hb hts hin_X8 hown hK hP 0 rfl rfl 16 (by decide) hl_76 (fun _ h9 => h9) rfl dX8_count_55 ?_
      refine lv_i2l (v := lN (escN st)) hx hb dX8_count_58 (nI_l (by omega)) ?_
      exact ro_lret hx hb hr hlocks (by unfold cntW; rw [if_neg e0]; rw [if_pos e1]) dX8_count_59
    · by_cases e2 : w.toInt = 2
      · refine lv_tableIn (tgt := 60) hx hb dX8_count_1 (by rw [e2]; decide) (by rw [e2]; decide) (by rw [e2]; rfl) (by decide) ?_
        refine lv_aload_n hx hb dX8_count_60 rfl (lv_at hl 0 rfl) ?_
        refine va_get (D := D) (ci := 7) (v := .int (nI sh)) (C := RX8) (T := TX8) (N := 30) hx hb hts hin_X8 hown hK hP 0 rfl rfl 17 (by decide) hl_79 (fun _ h9 => h9) rfl dX8_count_61 ?_
        refine lv_i2l (v := lN sh) hx hb dX8_count_64 (nI_l (by omega)) ?_
        exact ro_lret hx hb hr hlocks (by unfold cntW; rw [if_neg e0]; rw [if_neg e1]; rw [if_pos e2]) dX8_count_65
      · by_cases e3 : w.toInt = 3
        · refine lv_tableIn (tgt := 66) hx hb dX8_count_1 (by rw [e3]; decide) (by rw [e3]; decide) (by rw [e3]; rfl) (by decide) ?_
          refine lv_aload_n hx hb dX8_count_66 rfl (lv_at hl 0 rfl) ?_
          refine va_get (D := D) (ci := 7) (v := .int (nI rs)) (C := RX8) (T := TX8) (N := 30) hx hb hts hin_X8 hown hK hP 0 rfl rfl 18 (by decide) hl_82 (fun _ h9 => h9) rfl dX8_count_67 ?_
          refine lv_i2l (v := lN rs) hx hb dX8_count_70 (nI_l (by omega)) ?_
          exact ro_lret hx hb hr hlocks (by unfold cntW; rw [if_neg e0]; rw [if_neg e1]; rw [if_neg e2]; rw [if_pos e3]) dX8_count_71
        · by_cases e4 : w.toInt = 4
          · refine lv_tableIn (tgt := 72) hx hb dX8_count_1 (by rw [e4]; decide) (by rw [e4]; decide) (by rw [e4]; rfl) (by decide) ?_
            refine lv_aload_n hx hb dX8_count_72 rfl (lv_at hl 0 rfl) ?_
            refine va_get (D := D) (ci := 7) (v := .int (nI rt)) (C := RX8) (T := TX8) (N := 30) hx hb hts hin_X8 hown hK hP 0 rfl rfl 19 (by decide) hl_85 (fun _ h9 => h9) rfl dX8_count_73 ?_
            refine lv_i2l (v := lN rt) hx hb dX8_count_76 (nI_l (by omega)) ?_
            exact ro_lret hx hb hr hlocks (by unfold cntW; rw [if_neg e0]; rw [if_neg e1]; rw [if_neg e2]; rw [if_neg e3]; rw [if_pos e4]) dX8_count_77
          · by_cases e5 : w.toInt = 5
            · refine lv_tableIn (tgt := 78) hx hb dX8_count_1 (by rw [e5]; decide) (by rw [e5]; decide) (by rw [e5]; rfl) (by decide) ?_
              refine lv_aload_n hx hb dX8_count_78 rfl (lv_at hl 0 rfl) ?_
              refine va_get (D := D) (ci := 7) (v := .int (nI N.length)) (C := RX8) (T := TX8) (N := 30) hx hb hts hin_X8 hown hK hP 0 rfl rfl 10 (by decide) hl_70 (fun _ h9 => h9) rfl dX8_count_79 ?_
              refine lv_i2l (v := lN N.length) hx hb dX8_count_82 (nI_l (by omega)) ?_
              exact ro_lret hx hb hr hlocks (by unfold cntW; rw [if_neg e0]; rw [if_neg e1]; rw [if_neg e2]; rw [if_neg e3]; rw [if_neg e4]; rw [if_pos e5]) dX8_count_83
            · by_cases e6 : w.toInt = 6
              · refine lv_tableIn (tgt := 84) hx hb dX8_count_1 (by rw [e6]; decide) (by rw [e6]; decide) (by rw [e6]; rfl) (by decide) ?_
                refine lv_aload_n hx hb dX8_count_84 rfl (lv_at hl 0 rfl) ?_
                refine va_get (D := D) (ci := 7) (v := .long (lN rg)) (C := RX8) (T := TX8) (N := 30) hx hb hts hin_X8 hown hK hP 0 rfl rfl 20 (by decide) hl_66 (fun _ h9 => h9) rfl dX8_count_85 ?_
                exact ro_lret hx hb hr hlocks (by unfold cntW; rw [if_neg e0]; rw [if_neg e1]; rw [if_neg e2]; rw [if_neg e3]; rw [if_neg e4]; rw [if_neg e5]; rw [if_pos e6]) dX8_count_88
              · by_cases e7 : w.toInt = 7
                · refine lv_tableIn (tgt := 89) hx hb dX8_count_1 (by rw [e7]; decide) (by rw [e7]; decide) (by rw [e7]; rfl) (by decide) ?_
                  refine lv_iconst (v := nI 0) hx hb dX8_count_89 (by decide) ?_
                  refine lv_istore_n (lv' := [(2, .int (nI 0)), (0, .ref ra), (1, .int w)]) hx hb dX8_count_90 rfl hl (by decide) rfl (fun ls hl => ?_)
                  refine lv_iconst (v := nI 0) hx hb dX8_count_91 (by decide) ?_
                  refine lv_istore_n (lv' := [(3, .int (nI 0)), (2, .int (nI 0)), (0, .ref ra), (1, .int w)]) hx hb dX8_count_92 rfl hl (by decide) rfl (fun ls hl => ?_)
                  exact hlo N.length 0 (by omega) e0 e1 e2 e3 e4 e5 e6 e7 _ (lv_sub hl [0, 1, 2, 3] rfl)
                · refine lv_tableOut (tgt := 169) hx hb dX8_count_1 (by omega) (by decide) ?_
                  refine lv_ldc2 (v := (-1)) hx hb hown hw_5d3aa2 dX8_count_169 ?_
                  exact ro_lret hx hb hr hlocks (by unfold cntW; rw [if_neg e0, if_neg e1, if_neg e2, if_neg e3, if_neg e4, if_neg e5, if_neg e6, if_neg e7]) dX8_count_172

set_option maxHeartbeats 4000000 in
set_option maxRecDepth 100000 in
theorem c_x_learnt (l : Launch) (D : va_G) (ca : Nat → ClassId) (ra : Nat) (yt : Nat) (yc : Nat) (yo : Nat) (yk : Nat) (ys : Nat) (yn : Nat) (y0 : Nat) (y1 : Nat) (y2 : Nat) (y3 : Nat) (yz : Nat) (Tx : List Nat) (Cd : List Nat) (Ox : List Nat) (N : List Nd) (st : List Stq) (lim : Nat) (sh : Nat) (rs : Nat) (rt : Nat) (rg : Nat) (bef : Int32) (ear : Int32) (top : Int32) (rd_ : Int32) (fl : Int32) (nx : Int32) (ti : Int32) (ab : Int64) (uk : Nat → Int32) (us : Nat → Int32) (un : Nat → Int32) (o : Int32) (b : Int32) (ea : Int32) (w : Int32) (hNN : NN uk us un N) (hok : okN N) (hl6 : N.length ≤ 6000) : Met l yX8_learnt wsX8_learnt { frames := 2, cells := 0, slots := 0, locals := 42 } (roP D vwCl (ATy ca) [(ra, .inr (7, [.ref yt, .int (nI Tx.length), .ref yc, .int (nI Cd.length), .ref yo, .int (nI Ox.length), .int (nI lim), .ref yk, .ref ys, .ref yn, .int (nI N.length), .ref y0, .ref y1, .ref y2, .ref y3, .int (nI st.length), .int (nI (escN st)), .int (nI sh), .int (nI rs), .int (nI rt), .long (lN rg), .ref yz, .int bef, .int ear, .int top, .int rd_, .int fl, .long ab, .int nx, .int ti])), (yk, .inl (ca 0, 6000, .inl uk)), (ys, .inl (ca 3, 6000, .inl us)), (yn, .inl (ca 3, 6000, .inl un))] [.ref ra, .int o, .int b, .int ea, .int w]) (vp_Si (fun r : Int32 => r = lrI N o b ea w)) 0 0 (fun _ => False) := by
  refine ro_enter (by decide) rfl (Nat.le_of_ble_eq_true rfl) ?_
  intro p e s m below meth c ls C hK hN hP hl
  obtain ⟨hx, hb, hr, hml, hown, hlocks, hts⟩ := C
  have hl : lv_has ls 6 [(0, .ref ra), (1, .int o), (2, .int b), (3, .int ea), (4, .int w)] := hl
  have hin_X8 : ∀ w ∈ wsX80, w ∈ wsX8_learnt := by decide +kernel
  have hl_31 := hts (.fieldLink RX8 31 "EscapeCoderModel" "counts" "[S") (by decide +kernel)
  refine lv_iload_n hx hb dX8_learnt_0 rfl (lv_at hl 1 rfl) ?_
  refine lv_iload_n hx hb dX8_learnt_1 rfl (lv_at hl 2 rfl) ?_
  refine lv_iload_n hx hb dX8_learnt_2 rfl (lv_at hl 3 rfl) ?_
  refine vp_callSi (va_Run.run (va_runS (As := [.int o, .int b, .int ea]) (rest := []) ⟨hx, hb, hml, hown, hts⟩ (c_x_isC l D ca o b ea ) (va_cwS 3 hts gX8_learnt_X8_isContext rfl rfl rfl (by decide +kernel) ⟨Nat.le_of_ble_eq_true rfl, Nat.le_of_ble_eq_true rfl⟩) ⟨roP_blind, roP_at hK hN (hP.sub [] rfl)⟩ rfl rfl hl.1 rfl (lv_room (Nat.le_of_ble_eq_true rfl)) dX8_learnt_3 ⟨Nat.le_of_ble_eq_true rfl, Nat.le_of_ble_eq_true rfl⟩)) (fun r_1 hq => ?_)
  subst hq
  refine bb_eq (tgt := 17) hx hb dX8_learnt_6 (by decide) (fun h1 => ?_) (fun h1 => ?_)
  · refine lv_iconst (v := nI 0) hx hb dX8_learnt_17 (by decide) ?_
    exact ro_iret hx hb hr hlocks ((lrI_n h1).symm) dX8_learnt_18
  · refine lv_iload hx hb dX8_learnt_9 (lv_at hl 4 rfl) ?_
    refine vp_callSi (va_Run.run (va_runS (As := [.int w]) (rest := []) ⟨hx, hb, hml, hown, hts⟩ (c_x_isByte l D ca w ) (va_cwS 1 hts gX8_learnt_X8_isByte rfl rfl rfl (by decide +kernel) ⟨Nat.le_of_ble_eq_true rfl, Nat.le_of_ble_eq_true rfl⟩) ⟨roP_blind, roP_at hK hN (hP.sub [] rfl)⟩ rfl rfl hl.1 rfl (lv_room (Nat.le_of_ble_eq_true rfl)) dX8_learnt_11 ⟨Nat.le_of_ble_eq_true rfl, Nat.le_of_ble_eq_true rfl⟩)) (fun r_2 hq => ?_)
    subst hq
    refine bb_ne (tgt := 19) hx hb dX8_learnt_14 (by decide) (fun h2 => ?_) (fun h2 => ?_)
    · obtain ⟨kk_, hkk⟩ := isC_s h1
      refine lv_aload_n hx hb dX8_learnt_19 rfl (lv_at hl 0 rfl) ?_
      refine lv_iload_n hx hb dX8_learnt_20 rfl (lv_at hl 1 rfl) ?_
      refine lv_iload_n hx hb dX8_learnt_21 rfl (lv_at hl 2 rfl) ?_
      refine lv_iload_n hx hb dX8_learnt_22 rfl (lv_at hl 3 rfl) ?_
      refine vp_callSi (va_Run.run (va_runS (As := [.int o, .int b, .int ea]) (rest := [.ref ra]) ⟨hx, hb, hml, hown, hts⟩ (c_x_ctxI l D ca o b ea ) (va_cwS 3 hts gX8_learnt_X8_contextOf rfl rfl rfl (by decide +kernel) ⟨Nat.le_of_ble_eq_true rfl, Nat.le_of_ble_eq_true rfl⟩) ⟨roP_blind, roP_at hK hN (hP.sub [] rfl)⟩ rfl rfl hl.1 rfl (lv_room (Nat.le_of_ble_eq_true rfl)) dX8_learnt_23 ⟨Nat.le_of_ble_eq_true rfl, Nat.le_of_ble_eq_true rfl⟩)) (fun r_3 hq => ?_)
      rw [kO_ctxI hkk] at hq
      subst hq
      refine lv_iload hx hb dX8_learnt_26 (lv_at hl 4 rfl) ?_
      refine vp_callSi (va_Run.run (va_runV (As := [.int (nI kk_), .int w]) (rest := []) ⟨hx, hb, hml, hown, hts⟩ (c_x_find l D ca ra yt yc yo yk ys yn y0 y1 y2 y3 yz Tx Cd Ox N st lim sh rs rt rg bef ear top rd_ fl nx ti ab uk us un kk_ w (hNN) (hok) (hl6) (kO_lt hkk)) (cwV 2 hts gX8_learnt_X8_find rfl rfl rfl (by decide +kernel) ⟨Nat.le_of_ble_eq_true rfl, Nat.le_of_ble_eq_true rfl⟩) ⟨roP_blind, va_recv hK hP (ci := 7) (q0 := 0) rfl rfl, roP_at hK hN (hP.sub [0, 1, 2, 3] rfl)⟩ rfl rfl hl.1 rfl (lv_room (Nat.le_of_ble_eq_true rfl)) dX8_learnt_28 ⟨Nat.le_of_ble_eq_true rfl, Nat.le_of_ble_eq_true rfl⟩)) (fun r_4 hq => ?_)
      rcases hnx : nix N kk_ w with _ | j
      · rw [hnx] at hq
        subst hq
        refine lv_istore (lv' := [(5, .int (-1)), (0, .ref ra), (1, .int o), (2, .int b), (3, .int ea), (4, .int w)]) hx hb dX8_learnt_31 hl (by decide) rfl (fun ls hl => ?_)
        refine lv_iload hx hb dX8_learnt_33 (lv_at hl 0 rfl) ?_
        refine lv_iconst (v := (-1)) hx hb dX8_learnt_35 (by decide) ?_
        refine lv_icmp_ne (tgt := 43) hx hb dX8_learnt_36 (by decide) (fun h3 => ?_) (fun h3 => ?_)
        · exact absurd rfl h3
        · refine lv_iconst (v := nI 0) hx hb dX8_learnt_39 (by decide) ?_
          refine lv_goto (tgt := 50) hx hb dX8_learnt_40 (by decide) ?_
          exact ro_iret hx hb hr hlocks (by unfold lrI; rw [hkk]; dsimp only; rw [hnx]) dX8_learnt_50
      · have hj := nix_lt hnx
        rw [hnx] at hq
        subst hq
        refine lv_istore (lv' := [(5, .int (nI j)), (0, .ref ra), (1, .int o), (2, .int b), (3, .int ea), (4, .int w)]) hx hb dX8_learnt_31 hl (by decide) rfl (fun ls hl => ?_)
        refine lv_iload hx hb dX8_learnt_33 (lv_at hl 0 rfl) ?_
        refine lv_iconst (v := (-1)) hx hb dX8_learnt_35 (by decide) ?_
        refine lv_icmp_ne (tgt := 43) hx hb dX8_learnt_36 (by decide) (fun h3 => ?_) (fun h3 => ?_)
        · refine lv_aload_n hx hb dX8_learnt_43 rfl (lv_at hl 1 rfl) ?_
          refine va_get (D := D) (ci := 7) (v := .ref yn) (C := RX8) (T := TX8) (N := 30) hx hb hts hin_X8 hown hK hP 0 rfl rfl 9 (by decide) hl_31 (fun _ h9 => h9) rfl dX8_learnt_44 ?_
          refine lv_iload hx hb dX8_learnt_47 (lv_at hl 0 rfl) ?_
          refine ld_s hx hb hK hP 3 3 rfl rfl (j := j) (by omega) (by omega) dX8_learnt_49 ?_
          exact ro_iret hx hb hr hlocks (by unfold lrI; rw [hkk]; dsimp only; rw [hnx]; exact (hNN j hj).2.2) dX8_learnt_50
        · exact absurd h3 (nI_m1n (by omega))
    · refine lv_iconst (v := nI 0) hx hb dX8_learnt_17 (by decide) ?_
      exact ro_iret hx hb hr hlocks ((lrI_b hok h2).symm) dX8_learnt_18

set_option maxHeartbeats 4000000 in
set_option maxRecDepth 100000 in
theorem c_x_node (l : Launch) (D : va_G) (ca : Nat → ClassId) (ra : Nat) (yt : Nat) (yc : Nat) (yo : Nat) (yk : Nat) (ys : Nat) (yn : Nat) (y0 : Nat) (y1 : Nat) (y2 : Nat) (y3 : Nat) (yz : Nat) (Tx : List Nat) (Cd : List Nat) (Ox : List Nat) (N : List Nd) (st : List Stq) (lim : Nat) (sh : Nat) (rs : Nat) (rt : Nat) (rg : Nat) (bef : Int32) (ear : Int32) (top : Int32) (rd_ : Int32) (fl : Int32) (nx : Int32) (ti : Int32) (ab : Int64) (uk : Nat → Int32) (us : Nat → Int32) (un : Nat → Int32) (o : Int32) (b : Int32) (ea : Int32) (w : Int32) (hNN : NN uk us un N) (hok : okN N) (hl6 : N.length ≤ 6000) : Met l yX8_node wsX8_node { frames := 2, cells := 0, slots := 0, locals := 42 } (roP D vwCl (ATy ca) [(ra, .inr (7, [.ref yt, .int (nI Tx.length), .ref yc, .int (nI Cd.length), .ref yo, .int (nI Ox.length), .int (nI lim), .ref yk, .ref ys, .ref yn, .int (nI N.length), .ref y0, .ref y1, .ref y2, .ref y3, .int (nI st.length), .int (nI (escN st)), .int (nI sh), .int (nI rs), .int (nI rt), .long (lN rg), .ref yz, .int bef, .int ear, .int top, .int rd_, .int fl, .long ab, .int nx, .int ti])), (yk, .inl (ca 0, 6000, .inl uk)), (ys, .inl (ca 3, 6000, .inl us)), (yn, .inl (ca 3, 6000, .inl un))] [.ref ra, .int o, .int b, .int ea, .int w]) (vp_Si (fun r : Int32 => r = ndI N o b ea w)) 0 0 (fun _ => False) := by
  refine ro_enter (by decide) rfl (Nat.le_of_ble_eq_true rfl) ?_
  intro p e s m below meth c ls C hK hN hP hl
  obtain ⟨hx, hb, hr, hml, hown, hlocks, hts⟩ := C
  have hl : lv_has ls 8 [(0, .ref ra), (1, .int o), (2, .int b), (3, .int ea), (4, .int w)] := hl
  have hin_X8 : ∀ w ∈ wsX80, w ∈ wsX8_node := by decide +kernel
  have hl_70 := hts (.fieldLink RX8 70 "EscapeCoderModel" "nodes" "I") (by decide +kernel)
  have hl_23 := hts (.fieldLink RX8 23 "EscapeCoderModel" "context" "[I") (by decide +kernel)
  have hl_27 := hts (.fieldLink RX8 27 "EscapeCoderModel" "symbol" "[S") (by decide +kernel)
  refine lv_iload_n hx hb dX8_node_0 rfl (lv_at hl 1 rfl) ?_
  refine lv_iload_n hx hb dX8_node_1 rfl (lv_at hl 2 rfl) ?_
  refine lv_iload_n hx hb dX8_node_2 rfl (lv_at hl 3 rfl) ?_
  refine vp_callSi (va_Run.run (va_runS (As := [.int o, .int b, .int ea]) (rest := []) ⟨hx, hb, hml, hown, hts⟩ (c_x_isC l D ca o b ea ) (va_cwS 3 hts gX8_node_X8_isContext rfl rfl rfl (by decide +kernel) ⟨Nat.le_of_ble_eq_true rfl, Nat.le_of_ble_eq_true rfl⟩) ⟨roP_blind, roP_at hK hN (hP.sub [] rfl)⟩ rfl rfl hl.1 rfl (lv_room (Nat.le_of_ble_eq_true rfl)) dX8_node_3 ⟨Nat.le_of_ble_eq_true rfl, Nat.le_of_ble_eq_true rfl⟩)) (fun r_1 hq => ?_)
  subst hq
  refine bb_eq (tgt := 14) hx hb dX8_node_6 (by decide) (fun h1 => ?_) (fun h1 => ?_)
  · refine lv_iconst (v := (-1)) hx hb dX8_node_14 (by decide) ?_
    exact ro_iret hx hb hr hlocks ((ndI_n h1).symm) dX8_node_15
  · refine lv_iload hx hb dX8_node_9 (lv_at hl 4 rfl) ?_
    refine lv_if_ge (tgt := 16) hx hb dX8_node_11 (by decide) (fun h2 => ?_) (fun h2 => ?_)
    · obtain ⟨kk_, hkk⟩ := isC_s h1
      obtain ⟨v, hv, rfl⟩ := nI_of (Int32.not_lt.mpr h2)
      have hkl := kO_lt hkk
      refine lv_iload_n hx hb dX8_node_16 rfl (lv_at hl 1 rfl) ?_
      refine lv_iload_n hx hb dX8_node_17 rfl (lv_at hl 2 rfl) ?_
      refine lv_iload_n hx hb dX8_node_18 rfl (lv_at hl 3 rfl) ?_
      refine vp_callSi (va_Run.run (va_runS (As := [.int o, .int b, .int ea]) (rest := []) ⟨hx, hb, hml, hown, hts⟩ (c_x_ctxI l D ca o b ea ) (va_cwS 3 hts gX8_node_X8_contextOf rfl rfl rfl (by decide +kernel) ⟨Nat.le_of_ble_eq_true rfl, Nat.le_of_ble_eq_true rfl⟩) ⟨roP_blind, roP_at hK hN (hP.sub [] rfl)⟩ rfl rfl hl.1 rfl (lv_room (Nat.le_of_ble_eq_true rfl)) dX8_node_19 ⟨Nat.le_of_ble_eq_true rfl, Nat.le_of_ble_eq_true rfl⟩)) (fun r_2 hq => ?_)
      rw [kO_ctxI hkk] at hq
      subst hq
      refine lv_istore (lv' := [(5, .int (nI kk_)), (0, .ref ra), (1, .int o), (2, .int b), (3, .int ea), (4, .int (nI v))]) hx hb dX8_node_22 hl (by decide) rfl (fun ls hl => ?_)
      refine lv_iconst (v := nI 0) hx hb dX8_node_24 (by decide) ?_
      refine lv_istore (lv' := [(6, .int (nI 0)), (5, .int (nI kk_)), (0, .ref ra), (1, .int o), (2, .int b), (3, .int ea), (4, .int (nI v))]) hx hb dX8_node_25 hl (by decide) rfl (fun ls hl => ?_)
      refine lv_iconst (v := nI 0) hx hb dX8_node_27 (by decide) ?_
      refine lv_istore (lv' := [(7, .int (nI 0)), (6, .int (nI 0)), (5, .int (nI kk_)), (0, .ref ra), (1, .int o), (2, .int b), (3, .int ea), (4, .int (nI v))]) hx hb dX8_node_28 hl (by decide) rfl (fun ls hl => ?_)
      have hlo : ∀ (z : Nat) (i : Nat) (cnt : Nat), (i + z = N.length) → (cnt ≤ v) → (∃ L, kF N kk_ 0 = L ++ kF N kk_ i ∧ L.length = cnt) → ∀ (ls : Array Slot), lv_has ls 8 [(7, .int (nI i)), (6, .int (nI cnt)), (5, .int (nI kk_)), (0, .ref ra), (1, .int o), (2, .int b), (3, .int ea), (4, .int (nI v))] → W p l e ({ frames := 2, cells := 0, slots := 0, locals := 42 } : Room) s m ([.ref ra, .int o, .int b, .int ea, .int (nI v)] : List Value).toArray below meth c s.heap [] 0 0 (MQ below (vp_Si (fun r : Int32 => r = ndI N o b ea (nI v))) ([.ref ra, .int o, .int b, .int ea, .int (nI v)] : List Value).toArray s 0 0 (fun _ => False)) (F0 m 30 ls []) := by
        intro z
        induction z with
        | zero =>
          intro i cnt hiz hcv hp ls hl
          refine lv_iload hx hb dX8_node_30 (lv_at hl 0 rfl) ?_
          refine lv_aload_n hx hb dX8_node_32 rfl (lv_at hl 3 rfl) ?_
          refine va_get (D := D) (ci := 7) (v := .int (nI N.length)) (C := RX8) (T := TX8) (N := 30) hx hb hts hin_X8 hown hK hP 0 rfl rfl 10 (by decide) hl_70 (fun _ h9 => h9) rfl dX8_node_33 ?_
          refine bn_ge (tgt := 75) hx hb dX8_node_36 (by decide) (by omega) (by omega) (fun h3 => ?_) (fun h3 => ?_)
          · refine lv_iconst (v := (-1)) hx hb dX8_node_75 (by decide) ?_
            exact ro_iret hx hb hr hlocks ((ndI_out hkk hv (by omega) hp hcv).symm) dX8_node_76
          · exact absurd h3 (by omega)
        | succ z ih =>
          intro i cnt hiz hcv hp ls hl
          have hi9 : i < N.length := by omega
          have hni := hNN i hi9
          have hoi := okN_at hok hi9
          refine lv_iload hx hb dX8_node_30 (lv_at hl 0 rfl) ?_
          refine lv_aload_n hx hb dX8_node_32 rfl (lv_at hl 3 rfl) ?_
          refine va_get (D := D) (ci := 7) (v := .int (nI N.length)) (C := RX8) (T := TX8) (N := 30) hx hb hts hin_X8 hown hK hP 0 rfl rfl 10 (by decide) hl_70 (fun _ h9 => h9) rfl dX8_node_33 ?_
          refine bn_ge (tgt := 75) hx hb dX8_node_36 (by decide) (by omega) (by omega) (fun h3 => ?_) (fun h3 => ?_)
          · exact absurd h3 (by omega)
          · refine lv_aload_n hx hb dX8_node_39 rfl (lv_at hl 3 rfl) ?_
            refine va_get (D := D) (ci := 7) (v := .ref yk) (C := RX8) (T := TX8) (N := 30) hx hb hts hin_X8 hown hK hP 0 rfl rfl 7 (by decide) hl_23 (fun _ h9 => h9) rfl dX8_node_40 ?_
            refine lv_iload hx hb dX8_node_43 (lv_at hl 0 rfl) ?_
            refine ld_i hx hb hK hP 1 0 rfl rfl (j := i) (by omega) (by omega) dX8_node_45 ?_
            refine tp_i (y := nI (nd N i).1) (hni.1) ?_
            refine lv_iload hx hb dX8_node_46 (lv_at hl 2 rfl) ?_
            refine bn_ne (tgt := 69) hx hb dX8_node_48 (by decide) (by omega) (by omega) (fun h4 => ?_) (fun h4 => ?_)
            · refine lv_iinc (v := nI (i + 1)) (lv' := [(7, .int (nI (i + 1))), (6, .int (nI cnt)), (5, .int (nI kk_)), (0, .ref ra), (1, .int o), (2, .int b), (3, .int ea), (4, .int (nI v))]) hx hb dX8_node_69 hl (k := 0) rfl (nI_1 _) (by decide) rfl (fun ls hl => ?_)
              refine lv_goto (tgt := 30) hx hb dX8_node_72 (by decide) ?_
              exact ih (i + 1) cnt (by omega) hcv (kF_sk hi9 h4 hp) _ (lv_sub hl [0, 1, 2, 3, 4, 5, 6, 7] rfl)
            · refine lv_iload hx hb dX8_node_51 (lv_at hl 1 rfl) ?_
              refine lv_iload hx hb dX8_node_53 (lv_at hl 7 rfl) ?_
              refine bn_ne (tgt := 66) hx hb dX8_node_55 (by decide) (by omega) (by omega) (fun h5 => ?_) (fun h5 => ?_)
              · refine lv_iinc (v := nI (cnt + 1)) (lv' := [(6, .int (nI (cnt + 1))), (7, .int (nI i)), (5, .int (nI kk_)), (0, .ref ra), (1, .int o), (2, .int b), (3, .int ea), (4, .int (nI v))]) hx hb dX8_node_66 hl (k := 1) rfl (nI_1 _) (by decide) rfl (fun ls hl => ?_)
                refine lv_iinc (v := nI (i + 1)) (lv' := [(7, .int (nI (i + 1))), (6, .int (nI (cnt + 1))), (5, .int (nI kk_)), (0, .ref ra), (1, .int o), (2, .int b), (3, .int ea), (4, .int (nI v))]) hx hb dX8_node_69 hl (k := 1) rfl (nI_1 _) (by decide) rfl (fun ls hl => ?_)
                refine lv_goto (tgt := 30) hx hb dX8_node_72 (by decide) ?_
                exact ih (i + 1) (cnt + 1) (by omega) (by omega) (kF_stp hi9 h4 hp) _ (lv_sub hl [0, 1, 2, 3, 4, 5, 6, 7] rfl)
              · refine lv_aload_n hx hb dX8_node_58 rfl (lv_at hl 3 rfl) ?_
                refine va_get (D := D) (ci := 7) (v := .ref ys) (C := RX8) (T := TX8) (N := 30) hx hb hts hin_X8 hown hK hP 0 rfl rfl 8 (by decide) hl_27 (fun _ h9 => h9) rfl dX8_node_59 ?_
                refine lv_iload hx hb dX8_node_62 (lv_at hl 0 rfl) ?_
                refine ld_s hx hb hK hP 2 3 rfl rfl (j := i) (by omega) (by omega) dX8_node_64 ?_
                exact ro_iret hx hb hr hlocks (by rw [ndI_in hkk hv hi9 h4 hp h5]; exact hni.2.1) dX8_node_65
      exact hlo N.length 0 0 (by omega) (Nat.zero_le _) ⟨[], rfl, rfl⟩ _ (lv_sub hl [0, 1, 2, 3, 4, 5, 6, 7] rfl)
    · refine lv_iconst (v := (-1)) hx hb dX8_node_14 (by decide) ?_
      exact ro_iret hx hb hr hlocks ((ndI_neg h2).symm) dX8_node_15
