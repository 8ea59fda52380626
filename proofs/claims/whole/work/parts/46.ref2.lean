set_option maxHeartbeats 4000000 in
set_option maxRecDepth 100000 in
theorem c_x_here (l : Launch) (D : va_G) (ca : Nat → ClassId) (ra : Nat) (yt : Nat) (yc : Nat) (yo : Nat) (yk : Nat) (ys : Nat) (yn : Nat) (y0 : Nat) (y1 : Nat) (y2 : Nat) (y3 : Nat) (yz : Nat) (Tx : List Nat) (Cd : List Nat) (Ox : List Nat) (N : List Nd) (st : List Stq) (lim : Nat) (sh : Nat) (rs : Nat) (rt : Nat) (rg : Nat) (rd_ : Int32) (fl : Int32) (nx : Int32) (ti : Int32) (ab : Int64) (hs : List Nat) (n : Nat) (hn3 : n < 3) : Met l yX8_here wsX8_here { frames := 1, cells := 0, slots := 0, locals := 22 } (roP D vwCl (ATy ca) [(ra, .inr (7, [.ref yt, .int (nI Tx.length), .ref yc, .int (nI Cd.length), .ref yo, .int (nI Ox.length), .int (nI lim), .ref yk, .ref ys, .ref yn, .int (nI N.length), .ref y0, .ref y1, .ref y2, .ref y3, .int (nI st.length), .int (nI (escN st)), .int (nI sh), .int (nI rs), .int (nI rt), .long (lN rg), .ref yz, .int (nI (hs.getD 0 0)), .int (nI (hs.getD 1 0)), .int (nI hs.length), .int rd_, .int fl, .long ab, .int nx, .int ti]))] [.ref ra, .int (nI n)]) (vp_Si (fun r : Int32 => r = nI (kAt hs n))) 0 0 (fun _ => False) := by
  refine ro_enter (by decide) rfl (Nat.le_of_ble_eq_true rfl) ?_
  intro p e s m below meth c ls C hK hN hP hl
  obtain ⟨hx, hb, hr, hml, hown, hlocks, hts⟩ := C
  have hl : lv_has ls 2 [(0, .ref ra), (1, .int (nI n))] := hl
  have hin_X8 : ∀ w ∈ wsX80, w ∈ wsX8_here := by decide +kernel
  have hl_91 := hts (.fieldLink RX8 91 "EscapeCoderModel" "before" "I") (by decide +kernel)
  have hl_94 := hts (.fieldLink RX8 94 "EscapeCoderModel" "earlier" "I") (by decide +kernel)
  refine lv_iload_n hx hb dX8_here_0 rfl (lv_at hl 1 rfl) ?_
  refine lv_aload_n hx hb dX8_here_1 rfl (lv_at hl 0 rfl) ?_
  refine va_get (D := D) (ci := 7) (v := .int (nI (hs.getD 0 0))) (C := RX8) (T := TX8) (N := 30) hx hb hts hin_X8 hown hK hP 0 rfl rfl 22 (by decide) hl_91 (fun _ h9 => h9) rfl dX8_here_2 ?_
  refine lv_aload_n hx hb dX8_here_5 rfl (lv_at hl 0 rfl) ?_
  refine va_get (D := D) (ci := 7) (v := .int (nI (hs.getD 1 0))) (C := RX8) (T := TX8) (N := 30) hx hb hts hin_X8 hown hK hP 0 rfl rfl 23 (by decide) hl_94 (fun _ h9 => h9) rfl dX8_here_6 ?_
  refine vp_callSi (va_Run.run (va_runS (As := [.int (nI n), .int (nI (hs.getD 0 0)), .int (nI (hs.getD 1 0))]) (rest := []) ⟨hx, hb, hml, hown, hts⟩ (c_x_ctx l D ca (nI n) (hs.getD 0 0) (hs.getD 1 0) ) (va_cwS 3 hts gX8_here_X8_contextOf rfl rfl rfl (by decide +kernel) ⟨Nat.le_of_ble_eq_true rfl, Nat.le_of_ble_eq_true rfl⟩) ⟨roP_blind, roP_at hK hN (hP.sub [] rfl)⟩ rfl rfl hl.1 rfl (lv_room (Nat.le_of_ble_eq_true rfl)) dX8_here_9 ⟨Nat.le_of_ble_eq_true rfl, Nat.le_of_ble_eq_true rfl⟩)) (fun r_1 hq => ?_)
  exact ro_iret hx hb hr hlocks (hq.trans (kAt_3 hn3)) dX8_here_12

set_option maxHeartbeats 4000000 in
set_option maxRecDepth 100000 in
theorem c_x_find (l : Launch) (D : va_G) (ca : Nat → ClassId) (ra : Nat) (yt : Nat) (yc : Nat) (yo : Nat) (yk : Nat) (ys : Nat) (yn : Nat) (y0 : Nat) (y1 : Nat) (y2 : Nat) (y3 : Nat) (yz : Nat) (Tx : List Nat) (Cd : List Nat) (Ox : List Nat) (N : List Nd) (st : List Stq) (lim : Nat) (sh : Nat) (rs : Nat) (rt : Nat) (rg : Nat) (bef : Int32) (ear : Int32) (top : Int32) (rd_ : Int32) (fl : Int32) (nx : Int32) (ti : Int32) (ab : Int64) (uk : Nat → Int32) (us : Nat → Int32) (un : Nat → Int32) (k : Nat) (b : Int32) (hNN : NN uk us un N) (hok : okN N) (hl6 : N.length ≤ 6000) (hk : k < 131072) : Met l yX8_find wsX8_find { frames := 0, cells := 0, slots := 0, locals := 0 } (roP D vwCl (ATy ca) [(ra, .inr (7, [.ref yt, .int (nI Tx.length), .ref yc, .int (nI Cd.length), .ref yo, .int (nI Ox.length), .int (nI lim), .ref yk, .ref ys, .ref yn, .int (nI N.length), .ref y0, .ref y1, .ref y2, .ref y3, .int (nI st.length), .int (nI (escN st)), .int (nI sh), .int (nI rs), .int (nI rt), .long (lN rg), .ref yz, .int bef, .int ear, .int top, .int rd_, .int fl, .long ab, .int nx, .int ti])), (yk, .inl (ca 0, 6000, .inl uk)), (ys, .inl (ca 3, 6000, .inl us)), (yn, .inl (ca 3, 6000, .inl un))] [.ref ra, .int (nI k), .int b]) (vp_Si (fun r : Int32 => r = oI (nix N k b))) 0 0 (fun _ => False) := by
  refine ro_enter (by decide) rfl (Nat.le_of_ble_eq_true rfl) ?_
  intro p e s m below meth c ls C hK hN hP hl
  obtain ⟨hx, hb, hr, hml, hown, hlocks, hts⟩ := C
  have hl : lv_has ls 4 [(0, .ref ra), (1, .int (nI k)), (2, .int b)] := hl
  have hin_X8 : ∀ w ∈ wsX80, w ∈ wsX8_find := by decide +kernel
  have hl_70 := hts (.fieldLink RX8 70 "EscapeCoderModel" "nodes" "I") (by decide +kernel)
  have hl_23 := hts (.fieldLink RX8 23 "EscapeCoderModel" "context" "[I") (by decide +kernel)
  have hl_27 := hts (.fieldLink RX8 27 "EscapeCoderModel" "symbol" "[S") (by decide +kernel)
  have hlo : ∀ (z : Nat) (i : Nat), (i + z = N.length) → (∀ j, j < i → (nd N j).1 = k → ¬ nI (nd N j).2.1 = b) → ∀ (ls : Array Slot), lv_has ls 4 [(3, .int (nI i)), (0, .ref ra), (1, .int (nI k)), (2, .int b)] → W p l e ({ frames := 0, cells := 0, slots := 0, locals := 0 } : Room) s m ([.ref ra, .int (nI k), .int b] : List Value).toArray below meth c s.heap [] 0 0 (MQ below (vp_Si (fun r : Int32 => r = oI (nix N k b))) ([.ref ra, .int (nI k), .int b] : List Value).toArray s 0 0 (fun _ => False)) (F0 m 2 ls []) := by
    intro z
    induction z with
    | zero =>
      intro i hiz hno ls hl
      refine lv_iload_n hx hb dX8_find_2 rfl (lv_at hl 0 rfl) ?_
      refine lv_aload_n hx hb dX8_find_3 rfl (lv_at hl 1 rfl) ?_
      refine va_get (D := D) (ci := 7) (v := .int (nI N.length)) (C := RX8) (T := TX8) (N := 30) hx hb hts hin_X8 hown hK hP 0 rfl rfl 10 (by decide) hl_70 (fun _ h9 => h9) rfl dX8_find_4 ?_
      refine bn_ge (tgt := 38) hx hb dX8_find_7 (by decide) (by omega) (by omega) (fun h1 => ?_) (fun h1 => ?_)
      · refine lv_iconst (v := (-1)) hx hb dX8_find_38 (by decide) ?_
        exact ro_iret hx hb hr hlocks (by rw [nix_none (fun j hj => hno j (by omega))]; rfl) dX8_find_39
      · exact absurd h1 (by omega)
    | succ z ih =>
      intro i hiz hno ls hl
      have hni := hNN i (by omega)
      have hoi := okN_at hok (show i < N.length by omega)
      refine lv_iload_n hx hb dX8_find_2 rfl (lv_at hl 0 rfl) ?_
      refine lv_aload_n hx hb dX8_find_3 rfl (lv_at hl 1 rfl) ?_
      refine va_get (D := D) (ci := 7) (v := .int (nI N.length)) (C := RX8) (T := TX8) (N := 30) hx hb hts hin_X8 hown hK hP 0 rfl rfl 10 (by decide) hl_70 (fun _ h9 => h9) rfl dX8_find_4 ?_
      refine bn_ge (tgt := 38) hx hb dX8_find_7 (by decide) (by omega) (by omega) (fun h1 => ?_) (fun h1 => ?_)
      · exact absurd h1 (by omega)
      · refine lv_aload_n hx hb dX8_find_10 rfl (lv_at hl 1 rfl) ?_
        refine va_get (D := D) (ci := 7) (v := .ref yk) (C := RX8) (T := TX8) (N := 30) hx hb hts hin_X8 hown hK hP 0 rfl rfl 7 (by decide) hl_23 (fun _ h9 => h9) rfl dX8_find_11 ?_
        refine lv_iload_n hx hb dX8_find_14 rfl (lv_at hl 0 rfl) ?_
        refine ld_i hx hb hK hP 1 0 rfl rfl (j := i) (by omega) (by omega) dX8_find_15 ?_
        refine tp_i (y := nI (nd N i).1) (hni.1) ?_
        refine lv_iload_n hx hb dX8_find_16 rfl (lv_at hl 2 rfl) ?_
        refine bn_ne (tgt := 32) hx hb dX8_find_17 (by decide) (by omega) (by omega) (fun h2 => ?_) (fun h2 => ?_)
        · refine lv_iinc (v := nI (i + 1)) (lv' := [(3, .int (nI (i + 1))), (0, .ref ra), (1, .int (nI k)), (2, .int b)]) hx hb dX8_find_32 hl (k := 0) rfl (nI_1 _) (by decide) rfl (fun ls hl => ?_)
          refine lv_goto (tgt := 2) hx hb dX8_find_35 (by decide) ?_
          exact ih (i + 1) (by omega) (fun j hj q => by
            by_cases e : j = i
            · subst e
              exact absurd q h2
            · exact hno j (by omega) q) _ (lv_sub hl [0, 1, 2, 3] rfl)
        · refine lv_aload_n hx hb dX8_find_20 rfl (lv_at hl 1 rfl) ?_
          refine va_get (D := D) (ci := 7) (v := .ref ys) (C := RX8) (T := TX8) (N := 30) hx hb hts hin_X8 hown hK hP 0 rfl rfl 8 (by decide) hl_27 (fun _ h9 => h9) rfl dX8_find_21 ?_
          refine lv_iload_n hx hb dX8_find_24 rfl (lv_at hl 0 rfl) ?_
          refine ld_s hx hb hK hP 2 3 rfl rfl (j := i) (by omega) (by omega) dX8_find_25 ?_
          refine tp_i (y := nI (nd N i).2.1) (hni.2.1) ?_
          refine lv_iload_n hx hb dX8_find_26 rfl (lv_at hl 3 rfl) ?_
          refine lv_icmp_ne (tgt := 32) hx hb dX8_find_27 (by decide) (fun h3 => ?_) (fun h3 => ?_)
          · refine lv_iinc (v := nI (i + 1)) (lv' := [(3, .int (nI (i + 1))), (0, .ref ra), (1, .int (nI k)), (2, .int b)]) hx hb dX8_find_32 hl (k := 0) rfl (nI_1 _) (by decide) rfl (fun ls hl => ?_)
            refine lv_goto (tgt := 2) hx hb dX8_find_35 (by decide) ?_
            exact ih (i + 1) (by omega) (fun j hj q => by
              by_cases e : j = i
              · subst e
                exact h3
              · exact hno j (by omega) q) _ (lv_sub hl [0, 1, 2, 3] rfl)
          · refine lv_iload_n hx hb dX8_find_30 rfl (lv_at hl 0 rfl) ?_
            exact ro_iret hx hb hr hlocks (by rw [nix_some (show i < N.length by omega) h2 h3 hno]; rfl) dX8_find_31
  refine lv_iconst (v := nI 0) hx hb dX8_find_0 (by decide) ?_
  refine lv_istore_n (lv' := [(3, .int (nI 0)), (0, .ref ra), (1, .int (nI k)), (2, .int b)]) hx hb dX8_find_1 rfl hl (by decide) rfl (fun ls hl => ?_)
  exact hlo N.length 0 (by omega) (fun j hj => absurd hj (Nat.not_lt_zero _)) _ (lv_sub hl [0, 1, 2, 3] rfl)

set_option maxHeartbeats 4000000 in
set_option maxRecDepth 100000 in
theorem c_x_isByte (l : Launch) (D : va_G) (ca : Nat → ClassId) (b : Int32)  : Met l yX8_isByte wsX8_isByte { frames := 0, cells := 0, slots := 0, locals := 0 } (roP D vwCl (ATy ca) [] [.int b]) (vp_Si (fun r : Int32 => r = bI (isB b))) 0 0 (fun _ => False) := by
  refine ro_enter (by decide) rfl (Nat.le_of_ble_eq_true rfl) ?_
  intro p e s m below meth c ls C hK hN hP hl
  obtain ⟨hx, hb, hr, hml, hown, hlocks, hts⟩ := C
  have hl : lv_has ls 1 [(0, .int b)] := hl
  refine lv_iload_n hx hb dX8_isByte_0 rfl (lv_at hl 0 rfl) ?_
  refine lv_if_lt (tgt := 15) hx hb dX8_isByte_1 (by decide) (fun h1 => ?_) (fun h1 => ?_)
  · refine lv_iconst (v := nI 0) hx hb dX8_isByte_15 (by decide) ?_
    exact ro_zret hx hb hr hlocks (by decide) (by rw [isB_neg h1]; rfl) dX8_isByte_16
  · refine lv_iload_n hx hb dX8_isByte_4 rfl (lv_at hl 0 rfl) ?_
    refine lv_sipush (v := nI 255) hx hb dX8_isByte_5 (by decide) ?_
    refine lv_icmp_gt (tgt := 15) hx hb dX8_isByte_8 (by decide) (fun h2 => ?_) (fun h2 => ?_)
    · refine lv_iconst (v := nI 0) hx hb dX8_isByte_15 (by decide) ?_
      exact ro_zret hx hb hr hlocks (by decide) (by rw [isB_gt h2]; rfl) dX8_isByte_16
    · refine lv_iconst (v := nI 1) hx hb dX8_isByte_11 (by decide) ?_
      refine lv_goto (tgt := 16) hx hb dX8_isByte_12 (by decide) ?_
      exact ro_zret hx hb hr hlocks (by decide) (by rw [isB_le h1 h2]; rfl) dX8_isByte_16

set_option maxHeartbeats 4000000 in
set_option maxRecDepth 100000 in
theorem c_x_halve (l : Launch) (D : va_G) (ca : Nat → ClassId) (ra : Nat) (yt : Nat) (yc : Nat) (yo : Nat) (yk : Nat) (ys : Nat) (yn : Nat) (y0 : Nat) (y1 : Nat) (y2 : Nat) (y3 : Nat) (yz : Nat) (Tx : List Nat) (Cd : List Nat) (Ox : List Nat) (N : List Nd) (st : List Stq) (lim : Nat) (sh : Nat) (rs : Nat) (rt : Nat) (rg : Nat) (bef : Int32) (ear : Int32) (top : Int32) (rd_ : Int32) (fl : Int32) (nx : Int32) (ti : Int32) (ab : Int64) (uk : Nat → Int32) (us : Nat → Int32) (un : Nat → Int32) (k : Nat) (hNN : NN uk us un N) (hok : okN N) (hl6 : N.length ≤ 6000) (hk : k < 131072) (sz : Nat) : Met l yX8_halve wsX8_halve { frames := 0, cells := 0, slots := 0, locals := 0 } (rwP D vwCl (ATy ca) [(ra, .inr (7, [.ref yt, .int (nI Tx.length), .ref yc, .int (nI Cd.length), .ref yo, .int (nI Ox.length), .int (nI lim), .ref yk, .ref ys, .ref yn, .int (nI N.length), .ref y0, .ref y1, .ref y2, .ref y3, .int (nI st.length), .int (nI (escN st)), .int (nI sh), .int (nI rs), .int (nI rt), .long (lN rg), .ref yz, .int bef, .int ear, .int top, .int rd_, .int fl, .long ab, .int nx, .int ti])), (yk, .inl (ca 0, 6000, .inl uk)), (ys, .inl (ca 3, 6000, .inl us)), (yn, .inl (ca 3, 6000, .inl un))] sz [.ref ra, .int (nI k)]) (va_Qv (fun (u : (Nat → Int32)) => NN uk us u (halv k N)) (bB D vwCl (fun (u : (Nat → Int32)) => [(ra, .inr (7, [.ref yt, .int (nI Tx.length), .ref yc, .int (nI Cd.length), .ref yo, .int (nI Ox.length), .int (nI lim), .ref yk, .ref ys, .ref yn, .int (nI (halv k N).length), .ref y0, .ref y1, .ref y2, .ref y3, .int (nI st.length), .int (nI (escN st)), .int (nI sh), .int (nI (rs + 1)), .int (nI rt), .long (lN rg), .ref yz, .int bef, .int ear, .int top, .int rd_, .int fl, .long ab, .int nx, .int ti])), (yk, .inl (ca 0, 6000, .inl uk)), (ys, .inl (ca 3, 6000, .inl us)), (yn, .inl (ca 3, 6000, .inl u))]) (va_A [(ra, .inr (7, [.ref yt, .int (nI Tx.length), .ref yc, .int (nI Cd.length), .ref yo, .int (nI Ox.length), .int (nI lim), .ref yk, .ref ys, .ref yn, .int (nI N.length), .ref y0, .ref y1, .ref y2, .ref y3, .int (nI st.length), .int (nI (escN st)), .int (nI sh), .int (nI rs), .int (nI rt), .long (lN rg), .ref yz, .int bef, .int ear, .int top, .int rd_, .int fl, .long ab, .int nx, .int ti])), (yk, .inl (ca 0, 6000, .inl uk)), (ys, .inl (ca 3, 6000, .inl us)), (yn, .inl (ca 3, 6000, .inl un))] sz)) (va_A [(ra, .inr (7, [.ref yt, .int (nI Tx.length), .ref yc, .int (nI Cd.length), .ref yo, .int (nI Ox.length), .int (nI lim), .ref yk, .ref ys, .ref yn, .int (nI N.length), .ref y0, .ref y1, .ref y2, .ref y3, .int (nI st.length), .int (nI (escN st)), .int (nI sh), .int (nI rs), .int (nI rt), .long (lN rg), .ref yz, .int bef, .int ear, .int top, .int rd_, .int fl, .long ab, .int nx, .int ti])), (yk, .inl (ca 0, 6000, .inl uk)), (ys, .inl (ca 3, 6000, .inl us)), (yn, .inl (ca 3, 6000, .inl un))] sz)) 0 0 (va_A [(ra, .inr (7, [.ref yt, .int (nI Tx.length), .ref yc, .int (nI Cd.length), .ref yo, .int (nI Ox.length), .int (nI lim), .ref yk, .ref ys, .ref yn, .int (nI N.length), .ref y0, .ref y1, .ref y2, .ref y3, .int (nI st.length), .int (nI (escN st)), .int (nI sh), .int (nI rs), .int (nI rt), .long (lN rg), .ref yz, .int bef, .int ear, .int top, .int rd_, .int fl, .long ab, .int nx, .int ti])), (yk, .inl (ca 0, 6000, .inl uk)), (ys, .inl (ca 3, 6000, .inl us)), (yn, .inl (ca 3, 6000, .inl un))] sz) := by
  refine rw_enter (Q := fun A => va_Qv (fun (u : (Nat → Int32)) => NN uk us u (halv k N)) (bB D vwCl (fun (u : (Nat → Int32)) => [(ra, .inr (7, [.ref yt, .int (nI Tx.length), .ref yc, .int (nI Cd.length), .ref yo, .int (nI Ox.length), .int (nI lim), .ref yk, .ref ys, .ref yn, .int (nI (halv k N).length), .ref y0, .ref y1, .ref y2, .ref y3, .int (nI st.length), .int (nI (escN st)), .int (nI sh), .int (nI (rs + 1)), .int (nI rt), .long (lN rg), .ref yz, .int bef, .int ear, .int top, .int rd_, .int fl, .long ab, .int nx, .int ti])), (yk, .inl (ca 0, 6000, .inl uk)), (ys, .inl (ca 3, 6000, .inl us)), (yn, .inl (ca 3, 6000, .inl u))]) A) A) (by decide) rfl (Nat.le_of_ble_eq_true rfl) ?_
  intro p e s m below meth c ls A C hnm hK hN hP hD hA hl
  have hS : va_S A s.heap s.heap [] := va_S.rf
  obtain ⟨hx, hb, hr, hml, hown, hlocks, hts⟩ := C
  have hl : lv_has ls 3 [(0, .ref ra), (1, .int (nI k))] := hl
  have hin_X8 : ∀ w ∈ wsX80, w ∈ wsX8_halve := by decide +kernel
  have hl_70 := hts (.fieldLink RX8 70 "EscapeCoderModel" "nodes" "I") (by decide +kernel)
  have hl_82 := hts (.fieldLink RX8 82 "EscapeCoderModel" "rescalings" "I") (by decide +kernel)
  have hl_23 := hts (.fieldLink RX8 23 "EscapeCoderModel" "context" "[I") (by decide +kernel)
  have hl_31 := hts (.fieldLink RX8 31 "EscapeCoderModel" "counts" "[S") (by decide +kernel)
  have hlo : ∀ (z : Nat) (i : Nat) (un1 : Nat → Int32), (i + z = N.length) → (∀ j, j < N.length → un1 j = nI (if j < i ∧ (nd N j).1 = k then ((nd N j).2.2 + 1) / 2 else (nd N j).2.2)) → ∀ (H : Heap) (locs : List Loc), va_P D vwCl [(ra, .inr (7, [.ref yt, .int (nI Tx.length), .ref yc, .int (nI Cd.length), .ref yo, .int (nI Ox.length), .int (nI lim), .ref yk, .ref ys, .ref yn, .int (nI N.length), .ref y0, .ref y1, .ref y2, .ref y3, .int (nI st.length), .int (nI (escN st)), .int (nI sh), .int (nI rs), .int (nI rt), .long (lN rg), .ref yz, .int bef, .int ear, .int top, .int rd_, .int fl, .long ab, .int nx, .int ti])), (yk, .inl (ca 0, 6000, .inl uk)), (ys, .inl (ca 3, 6000, .inl us)), (yn, .inl (ca 3, 6000, .inl un1))] H → va_D A [(ra, .inr (7, [.ref yt, .int (nI Tx.length), .ref yc, .int (nI Cd.length), .ref yo, .int (nI Ox.length), .int (nI lim), .ref yk, .ref ys, .ref yn, .int (nI N.length), .ref y0, .ref y1, .ref y2, .ref y3, .int (nI st.length), .int (nI (escN st)), .int (nI sh), .int (nI rs), .int (nI rt), .long (lN rg), .ref yz, .int bef, .int ear, .int top, .int rd_, .int fl, .long ab, .int nx, .int ti])), (yk, .inl (ca 0, 6000, .inl uk)), (ys, .inl (ca 3, 6000, .inl us)), (yn, .inl (ca 3, 6000, .inl un1))] → va_S A s.heap H locs → ∀ (ls : Array Slot), lv_has ls 3 [(2, .int (nI i)), (0, .ref ra), (1, .int (nI k))] → W p l e ({ frames := 0, cells := 0, slots := 0, locals := 0 } : Room) s m ([.ref ra, .int (nI k)] : List Value).toArray below meth c H locs 0 0 (MQ below (va_Qv (fun (u : (Nat → Int32)) => NN uk us u (halv k N)) (bB D vwCl (fun (u : (Nat → Int32)) => [(ra, .inr (7, [.ref yt, .int (nI Tx.length), .ref yc, .int (nI Cd.length), .ref yo, .int (nI Ox.length), .int (nI lim), .ref yk, .ref ys, .ref yn, .int (nI (halv k N).length), .ref y0, .ref y1, .ref y2, .ref y3, .int (nI st.length), .int (nI (escN st)), .int (nI sh), .int (nI (rs + 1)), .int (nI rt), .long (lN rg), .ref yz, .int bef, .int ear, .int top, .int rd_, .int fl, .long ab, .int nx, .int ti])), (yk, .inl (ca 0, 6000, .inl uk)), (ys, .inl (ca 3, 6000, .inl us)), (yn, .inl (ca 3, 6000, .inl u))]) A) A) ([.ref ra, .int (nI k)] : List Value).toArray s 0 0 A) (F0 m 2 ls []) := by
    intro z
    induction z with
    | zero =>
      intro i un1 hiz he H locs hP hD hS ls hl
      refine lv_iload_n hx hb dX8_halve_2 rfl (lv_at hl 0 rfl) ?_
      refine lv_aload_n hx hb dX8_halve_3 rfl (lv_at hl 1 rfl) ?_
      refine va_get (D := D) (ci := 7) (v := .int (nI N.length)) (C := RX8) (T := TX8) (N := 30) hx hb hts hin_X8 hown hK hP 0 rfl rfl 10 (by decide) hl_70 (fun _ h9 => h9) rfl dX8_halve_4 ?_
      refine bn_ge (tgt := 43) hx hb dX8_halve_7 (by decide) (by omega) (by omega) (fun h1 => ?_) (fun h1 => ?_)
      · refine lv_aload_n hx hb dX8_halve_43 rfl (lv_at hl 1 rfl) ?_
        refine lv_dup hx hb dX8_halve_44 rfl ?_
        refine va_get (D := D) (ci := 7) (v := .int (nI rs)) (C := RX8) (T := TX8) (N := 30) hx hb hts hin_X8 hown hK hP 0 rfl rfl 18 (by decide) hl_82 (fun _ h9 => h9) rfl dX8_halve_45 ?_
        refine lv_iconst (v := nI 1) hx hb dX8_halve_48 (by decide) ?_
        refine lv_iadd hx hb dX8_halve_49 ?_
        refine va_put (D := D) (ci := 7) (v := .int ((nI rs) + (nI 1))) (ty := .int) (C := RX8) (T := TX8) (N := 30) hx hb hts hin_X8 tyX8 tyX8_ok nmX8 hown hK hP hD hS 0 rfl rfl 18 (by decide) hl_82 (fun _ h9 => h9) rfl (by decide +kernel) rfl rfl (Nat.le_of_ble_eq_true rfl) dX8_halve_50 (fun H locs hP hD hS => ?_)
        have hP : va_P D vwCl [(ra, .inr (7, [.ref yt, .int (nI Tx.length), .ref yc, .int (nI Cd.length), .ref yo, .int (nI Ox.length), .int (nI lim), .ref yk, .ref ys, .ref yn, .int (nI N.length), .ref y0, .ref y1, .ref y2, .ref y3, .int (nI st.length), .int (nI (escN st)), .int (nI sh), .int ((nI rs) + (nI 1)), .int (nI rt), .long (lN rg), .ref yz, .int bef, .int ear, .int top, .int rd_, .int fl, .long ab, .int nx, .int ti])), (yk, .inl (ca 0, 6000, .inl uk)), (ys, .inl (ca 3, 6000, .inl us)), (yn, .inl (ca 3, 6000, .inl un1))] H := hP
        have hD : va_D A [(ra, .inr (7, [.ref yt, .int (nI Tx.length), .ref yc, .int (nI Cd.length), .ref yo, .int (nI Ox.length), .int (nI lim), .ref yk, .ref ys, .ref yn, .int (nI N.length), .ref y0, .ref y1, .ref y2, .ref y3, .int (nI st.length), .int (nI (escN st)), .int (nI sh), .int ((nI rs) + (nI 1)), .int (nI rt), .long (lN rg), .ref yz, .int bef, .int ear, .int top, .int rd_, .int fl, .long ab, .int nx, .int ti])), (yk, .inl (ca 0, 6000, .inl uk)), (ys, .inl (ca 3, 6000, .inl us)), (yn, .inl (ca 3, 6000, .inl un1))] := hD
        have hP : va_P D vwCl [(ra, .inr (7, [.ref yt, .int (nI Tx.length), .ref yc, .int (nI Cd.length), .ref yo, .int (nI Ox.length), .int (nI lim), .ref yk, .ref ys, .ref yn, .int (nI (halv k N).length), .ref y0, .ref y1, .ref y2, .ref y3, .int (nI st.length), .int (nI (escN st)), .int (nI sh), .int (nI (rs + 1)), .int (nI rt), .long (lN rg), .ref yz, .int bef, .int ear, .int top, .int rd_, .int fl, .long ab, .int nx, .int ti])), (yk, .inl (ca 0, 6000, .inl uk)), (ys, .inl (ca 3, 6000, .inl us)), (yn, .inl (ca 3, 6000, .inl un1))] H := by rw [halv_len, ← nI_1]; exact hP
        have hD : va_D A [(ra, .inr (7, [.ref yt, .int (nI Tx.length), .ref yc, .int (nI Cd.length), .ref yo, .int (nI Ox.length), .int (nI lim), .ref yk, .ref ys, .ref yn, .int (nI (halv k N).length), .ref y0, .ref y1, .ref y2, .ref y3, .int (nI st.length), .int (nI (escN st)), .int (nI sh), .int (nI (rs + 1)), .int (nI rt), .long (lN rg), .ref yz, .int bef, .int ear, .int top, .int rd_, .int fl, .long ab, .int nx, .int ti])), (yk, .inl (ca 0, 6000, .inl uk)), (ys, .inl (ca 3, 6000, .inl us)), (yn, .inl (ca 3, 6000, .inl un1))] := by rw [halv_len, ← nI_1]; exact hD
        exact rw_vret (u := un1) hx hb hr hlocks (NN_halv hNN (fun j hj => by rw [he j hj]; simp only [show j < i by omega, true_and])) (hP.sub [0, 1, 2, 3] rfl) (hD.sub [0, 1, 2, 3] (by decide) rfl) hS (Nat.le_refl _) (Nat.le_refl _) dX8_halve_53
      · exact absurd h1 (by omega)
    | succ z ih =>
      intro i un1 hiz he H locs hP hD hS ls hl
      have hni := hNN i (by omega)
      have hoi := okN_at hok (show i < N.length by omega)
      have hei := he i (by omega)
      rw [if_neg (by omega)] at hei
      refine lv_iload_n hx hb dX8_halve_2 rfl (lv_at hl 0 rfl) ?_
      refine lv_aload_n hx hb dX8_halve_3 rfl (lv_at hl 1 rfl) ?_
      refine va_get (D := D) (ci := 7) (v := .int (nI N.length)) (C := RX8) (T := TX8) (N := 30) hx hb hts hin_X8 hown hK hP 0 rfl rfl 10 (by decide) hl_70 (fun _ h9 => h9) rfl dX8_halve_4 ?_
      refine bn_ge (tgt := 43) hx hb dX8_halve_7 (by decide) (by omega) (by omega) (fun h1 => ?_) (fun h1 => ?_)
      · exact absurd h1 (by omega)
      · refine lv_aload_n hx hb dX8_halve_10 rfl (lv_at hl 1 rfl) ?_
        refine va_get (D := D) (ci := 7) (v := .ref yk) (C := RX8) (T := TX8) (N := 30) hx hb hts hin_X8 hown hK hP 0 rfl rfl 7 (by decide) hl_23 (fun _ h9 => h9) rfl dX8_halve_11 ?_
        refine lv_iload_n hx hb dX8_halve_14 rfl (lv_at hl 0 rfl) ?_
        refine ld_i hx hb hK hP 1 0 rfl rfl (j := i) (by omega) (by omega) dX8_halve_15 ?_
        refine tp_i (y := nI (nd N i).1) (hni.1) ?_
        refine lv_iload_n hx hb dX8_halve_16 rfl (lv_at hl 2 rfl) ?_
        refine bn_ne (tgt := 37) hx hb dX8_halve_17 (by decide) (by omega) (by omega) (fun h2 => ?_) (fun h2 => ?_)
        · refine lv_iinc (v := nI (i + 1)) (lv' := [(2, .int (nI (i + 1))), (0, .ref ra), (1, .int (nI k))]) hx hb dX8_halve_37 hl (k := 0) rfl (nI_1 _) (by decide) rfl (fun ls hl => ?_)
          refine lv_goto (tgt := 2) hx hb dX8_halve_40 (by decide) ?_
          exact ih (i + 1) un1 (by omega) (fun j hj => by
            by_cases e : j = i
            · subst e
              rw [hei, if_neg (fun q => h2 q.2)]
            · rw [he j hj]
              simp only [show (j < i + 1) = (j < i) by apply propext; omega]) H locs hP hD hS _ (lv_sub hl [0, 1, 2] rfl)
        · refine lv_aload_n hx hb dX8_halve_20 rfl (lv_at hl 1 rfl) ?_
          refine va_get (D := D) (ci := 7) (v := .ref yn) (C := RX8) (T := TX8) (N := 30) hx hb hts hin_X8 hown hK hP 0 rfl rfl 9 (by decide) hl_31 (fun _ h9 => h9) rfl dX8_halve_21 ?_
          refine lv_iload_n hx hb dX8_halve_24 rfl (lv_at hl 0 rfl) ?_
          refine lv_aload_n hx hb dX8_halve_25 rfl (lv_at hl 1 rfl) ?_
          refine va_get (D := D) (ci := 7) (v := .ref yn) (C := RX8) (T := TX8) (N := 30) hx hb hts hin_X8 hown hK hP 0 rfl rfl 9 (by decide) hl_31 (fun _ h9 => h9) rfl dX8_halve_26 ?_
          refine lv_iload_n hx hb dX8_halve_29 rfl (lv_at hl 0 rfl) ?_
          refine ld_s hx hb hK hP 3 3 rfl rfl (j := i) (by omega) (by omega) dX8_halve_30 ?_
          refine tp_i (y := nI (nd N i).2.2) (hei) ?_
          refine lv_iconst (v := nI 1) hx hb dX8_halve_31 (by decide) ?_
          refine lv_iadd hx hb dX8_halve_32 ?_
          refine tp_i (y := nI ((nd N i).2.2 + 1)) (nI_1 _) ?_
          refine lv_iconst (v := nI 2) hx hb dX8_halve_33 (by decide) ?_
          refine lv_idiv hx hb dX8_halve_34 (by decide) ?_
          refine tp_i (y := nI (((nd N i).2.2 + 1) / 2)) (pk_div (by omega) (by omega) (by decide)) ?_
          refine lv_i2s (v := ((nI (((nd N i).2.2 + 1) / 2)).toInt16.toInt32)) hx hb dX8_halve_35 (rfl) ?_
          refine st_s hx hb hK hP hD hS 3 3 rfl rfl (j := i) (by omega) (by omega) dX8_halve_36 (fun H locs hP hD hS => ?_)
          have hP : va_P D vwCl [(ra, .inr (7, [.ref yt, .int (nI Tx.length), .ref yc, .int (nI Cd.length), .ref yo, .int (nI Ox.length), .int (nI lim), .ref yk, .ref ys, .ref yn, .int (nI N.length), .ref y0, .ref y1, .ref y2, .ref y3, .int (nI st.length), .int (nI (escN st)), .int (nI sh), .int (nI rs), .int (nI rt), .long (lN rg), .ref yz, .int bef, .int ear, .int top, .int rd_, .int fl, .long ab, .int nx, .int ti])), (yk, .inl (ca 0, 6000, .inl uk)), (ys, .inl (ca 3, 6000, .inl us)), (yn, .inl (ca 3, 6000, .inl (upd un1 i (vp_nar .short ((nI (((nd N i).2.2 + 1) / 2)).toInt16.toInt32)))))] H := hP
          have hD : va_D A [(ra, .inr (7, [.ref yt, .int (nI Tx.length), .ref yc, .int (nI Cd.length), .ref yo, .int (nI Ox.length), .int (nI lim), .ref yk, .ref ys, .ref yn, .int (nI N.length), .ref y0, .ref y1, .ref y2, .ref y3, .int (nI st.length), .int (nI (escN st)), .int (nI sh), .int (nI rs), .int (nI rt), .long (lN rg), .ref yz, .int bef, .int ear, .int top, .int rd_, .int fl, .long ab, .int nx, .int ti])), (yk, .inl (ca 0, 6000, .inl uk)), (ys, .inl (ca 3, 6000, .inl us)), (yn, .inl (ca 3, 6000, .inl (upd un1 i (vp_nar .short ((nI (((nd N i).2.2 + 1) / 2)).toInt16.toInt32)))))] := hD
          refine lv_iinc (v := nI (i + 1)) (lv' := [(2, .int (nI (i + 1))), (0, .ref ra), (1, .int (nI k))]) hx hb dX8_halve_37 hl (k := 0) rfl (nI_1 _) (by decide) rfl (fun ls hl => ?_)
          refine lv_goto (tgt := 2) hx hb dX8_halve_40 (by decide) ?_
          exact ih (i + 1) (upd un1 i (vp_nar .short ((nI (((nd N i).2.2 + 1) / 2)).toInt16.toInt32))) (by omega) (fun j hj => by
            by_cases e : j = i
            · subst e
              rw [upd_at, if_pos ⟨by omega, h2⟩]; exact short_ok (by omega)
            · rw [upd_ne _ _ e, he j hj]
              simp only [show (j < i + 1) = (j < i) by apply propext; omega]) H locs hP hD hS _ (lv_sub hl [0, 1, 2] rfl)
  refine lv_iconst (v := nI 0) hx hb dX8_halve_0 (by decide) ?_
  refine lv_istore_n (lv' := [(2, .int (nI 0)), (0, .ref ra), (1, .int (nI k))]) hx hb dX8_halve_1 rfl hl (by decide) rfl (fun ls hl => ?_)
  exact hlo N.length 0 un (by omega) (fun j hj => by rw [if_neg (by omega)]; exact (hNN j hj).2.2) s.heap [] hP hD hS _ (lv_sub hl [0, 1, 2] rfl)

set_option maxHeartbeats 4000000 in
set_option maxRecDepth 100000 in
theorem c_x_place (l : Launch) (D : va_G) (ca : Nat → ClassId) (ra : Nat) (yt : Nat) (yc : Nat) (yo : Nat) (yk : Nat) (ys : Nat) (yn : Nat) (y0 : Nat) (y1 : Nat) (y2 : Nat) (y3 : Nat) (yz : Nat) (Tx : List Nat) (Cd : List Nat) (Ox : List Nat) (N : List Nd) (st : List Stq) (lim : Nat) (sh : Nat) (rs : Nat) (rt : Nat) (rg : Nat) (bef : Int32) (ear : Int32) (top : Int32) (rd_ : Int32) (fl : Int32) (nx : Int32) (ti : Int32) (x : Nat) (t : Nat) (hx1 : x < 2 ^ 40) (ht : 1 ≤ t ∧ t < 32768) (hr1 : t ≤ rg ∧ rg < 2 ^ 40) : Met l yX8_placeOf wsX8_placeOf { frames := 0, cells := 0, slots := 0, locals := 0 } (roP D vwCl (ATy ca) [(ra, .inr (7, [.ref yt, .int (nI Tx.length), .ref yc, .int (nI Cd.length), .ref yo, .int (nI Ox.length), .int (nI lim), .ref yk, .ref ys, .ref yn, .int (nI N.length), .ref y0, .ref y1, .ref y2, .ref y3, .int (nI st.length), .int (nI (escN st)), .int (nI sh), .int (nI rs), .int (nI rt), .long (lN rg), .ref yz, .int bef, .int ear, .int top, .int rd_, .int fl, .long (lN x), .int nx, .int ti]))] [.ref ra, .int (nI t)]) (vp_Si (fun r : Int32 => r = nI (plc (x, rg, sh) t))) 0 0 (fun _ => False) := by
  refine ro_enter (by decide) rfl (Nat.le_of_ble_eq_true rfl) ?_
  intro p e s m below meth c ls C hK hN hP hl
  obtain ⟨hx, hb, hr, hml, hown, hlocks, hts⟩ := C
  have hl : lv_has ls 4 [(0, .ref ra), (1, .int (nI t))] := hl
  have hin_X8 : ∀ w ∈ wsX80, w ∈ wsX8_placeOf := by decide +kernel
  have hl_119 := hts (.fieldLink RX8 119 "EscapeCoderModel" "above" "J") (by decide +kernel)
  have hl_66 := hts (.fieldLink RX8 66 "EscapeCoderModel" "range" "J") (by decide +kernel)
  have hu : 1 ≤ rg / t := (Nat.le_div_iff_mul_le (by omega)).mpr (by omega)
  have hu2 : rg / t ≤ rg := Nat.div_le_self _ _
  have hu3 : x / (rg / t) ≤ x := Nat.div_le_self _ _
  refine lv_aload_n hx hb dX8_placeOf_0 rfl (lv_at hl 0 rfl) ?_
  refine va_get (D := D) (ci := 7) (v := .long (lN x)) (C := RX8) (T := TX8) (N := 30) hx hb hts hin_X8 hown hK hP 0 rfl rfl 27 (by decide) hl_119 (fun _ h9 => h9) rfl dX8_placeOf_1 ?_
  refine lv_aload_n hx hb dX8_placeOf_4 rfl (lv_at hl 0 rfl) ?_
  refine va_get (D := D) (ci := 7) (v := .long (lN rg)) (C := RX8) (T := TX8) (N := 30) hx hb hts hin_X8 hown hK hP 0 rfl rfl 20 (by decide) hl_66 (fun _ h9 => h9) rfl dX8_placeOf_5 ?_
  refine lv_iload_n hx hb dX8_placeOf_8 rfl (lv_at hl 1 rfl) ?_
  refine lv_i2l (v := lN t) hx hb dX8_placeOf_9 (nI_l (by omega)) ?_
  refine lv_ldiv hx hb dX8_placeOf_10 (lN_ne0 ht.1 (by omega)) ?_
  refine tp_l (y := lN (rg / t)) (pk_lDiv (by omega) (by omega) (by omega)) ?_
  refine lv_ldiv hx hb dX8_placeOf_11 (lN_ne0 hu (by omega)) ?_
  refine tp_l (y := lN (x / (rg / t))) (pk_lDiv (by omega) (by omega) (by omega)) ?_
  refine lv_lstore_n (lv' := [(2, .long (lN (x / (rg / t)))), (0, .ref ra), (1, .int (nI t))]) hx hb dX8_placeOf_12 rfl hl (by decide) rfl (fun ls hl => ?_)
  refine lv_lload_n hx hb dX8_placeOf_13 rfl (lv_at hl 0 rfl) ?_
  refine lv_iload_n hx hb dX8_placeOf_14 rfl (lv_at hl 2 rfl) ?_
  refine lv_i2l (v := lN t) hx hb dX8_placeOf_15 (nI_l (by omega)) ?_
  refine lv_lconst (v := lN 1) hx hb dX8_placeOf_16 (by decide) ?_
  refine lv_lsub hx hb dX8_placeOf_17 ?_
  refine tp_l (y := lN (t - 1)) (lN_sub ht.1) ?_
  refine W.lcmp hx hb dX8_placeOf_18 ?_
  refine bl_le (tgt := 28) hx hb dX8_placeOf_19 (by decide) (by omega) (by omega) (fun h1 => ?_) (fun h1 => ?_)
  · refine lv_lload_n hx hb dX8_placeOf_28 rfl (lv_at hl 0 rfl) ?_
    refine lv_l2i (v := nI (x / (rg / t))) hx hb dX8_placeOf_29 (lN_i _) ?_
    exact ro_iret hx hb hr hlocks (by show _ = nI (min (x / (rg / t)) (t - 1)); rw [Nat.min_eq_left h1]) dX8_placeOf_30
  · refine lv_iload_n hx hb dX8_placeOf_22 rfl (lv_at hl 2 rfl) ?_
    refine lv_iconst (v := nI 1) hx hb dX8_placeOf_23 (by decide) ?_
    refine lv_isub hx hb dX8_placeOf_24 ?_
    refine lv_goto (tgt := 30) hx hb dX8_placeOf_25 (by decide) ?_
    exact ro_iret hx hb hr hlocks (by show _ = nI (min (x / (rg / t)) (t - 1)); rw [Nat.min_eq_right (by omega)]; exact pk_sub ht.1) dX8_placeOf_30

set_option maxHeartbeats 4000000 in
set_option maxRecDepth 100000 in
theorem c_x_addLow (l : Launch) (D : va_G) (ca : Nat → ClassId) (ra : Nat) (yt : Nat) (yc : Nat) (yo : Nat) (yk : Nat) (ys : Nat) (yn : Nat) (y0 : Nat) (y1 : Nat) (y2 : Nat) (y3 : Nat) (yz : Nat) (Tx : List Nat) (Ox : List Nat) (N : List Nd) (st : List Stq) (lim : Nat) (sh : Nat) (rs : Nat) (rt : Nat) (rg : Nat) (bef : Int32) (ear : Int32) (top : Int32) (rd_ : Int32) (fl : Int32) (nx : Int32) (ti : Int32) (ab : Int64) (uc : Nat → Int32) (x : Nat) (n : Nat) (by_ : Nat) (hB : BB uc (dig n x)) (hn8 : n ≤ 8000) (hby : by_ < 2 ^ 40) (sz : Nat) : Met l yX8_addLow wsX8_addLow { frames := 0, cells := 0, slots := 0, locals := 0 } (rwP D vwCl (ATy ca) [(ra, .inr (7, [.ref yt, .int (nI Tx.length), .ref yc, .int (nI (dig n x).length), .ref yo, .int (nI Ox.length), .int (nI lim), .ref yk, .ref ys, .ref yn, .int (nI N.length), .ref y0, .ref y1, .ref y2, .ref y3, .int (nI st.length), .int (nI (escN st)), .int (nI sh), .int (nI rs), .int (nI rt), .long (lN rg), .ref yz, .int bef, .int ear, .int top, .int rd_, .int (nI 0), .long ab, .int nx, .int ti])), (yc, .inl (ca 2, 8000, .inl uc))] sz [.ref ra, .long (lN by_)]) (va_Qv (fun (u : (Nat → Int32)) => BB u (dig n (x + by_))) (bB D vwCl (fun (u : (Nat → Int32)) => [(ra, .inr (7, [.ref yt, .int (nI Tx.length), .ref yc, .int (nI (dig n (x + by_)).length), .ref yo, .int (nI Ox.length), .int (nI lim), .ref yk, .ref ys, .ref yn, .int (nI N.length), .ref y0, .ref y1, .ref y2, .ref y3, .int (nI st.length), .int (nI (escN st)), .int (nI sh), .int (nI rs), .int (nI rt), .long (lN rg), .ref yz, .int bef, .int ear, .int top, .int rd_, .int (nI 0), .long ab, .int nx, .int ti])), (yc, .inl (ca 2, 8000, .inl u))]) (va_A [(ra, .inr (7, [.ref yt, .int (nI Tx.length), .ref yc, .int (nI (dig n x).length), .ref yo, .int (nI Ox.length), .int (nI lim), .ref yk, .ref ys, .ref yn, .int (nI N.length), .ref y0, .ref y1, .ref y2, .ref y3, .int (nI st.length), .int (nI (escN st)), .int (nI sh), .int (nI rs), .int (nI rt), .long (lN rg), .ref yz, .int bef, .int ear, .int top, .int rd_, .int (nI 0), .long ab, .int nx, .int ti])), (yc, .inl (ca 2, 8000, .inl uc))] sz)) (va_A [(ra, .inr (7, [.ref yt, .int (nI Tx.length), .ref yc, .int (nI (dig n x).length), .ref yo, .int (nI Ox.length), .int (nI lim), .ref yk, .ref ys, .ref yn, .int (nI N.length), .ref y0, .ref y1, .ref y2, .ref y3, .int (nI st.length), .int (nI (escN st)), .int (nI sh), .int (nI rs), .int (nI rt), .long (lN rg), .ref yz, .int bef, .int ear, .int top, .int rd_, .int (nI 0), .long ab, .int nx, .int ti])), (yc, .inl (ca 2, 8000, .inl uc))] sz)) 0 0 (va_A [(ra, .inr (7, [.ref yt, .int (nI Tx.length), .ref yc, .int (nI (dig n x).length), .ref yo, .int (nI Ox.length), .int (nI lim), .ref yk, .ref ys, .ref yn, .int (nI N.length), .ref y0, .ref y1, .ref y2, .ref y3, .int (nI st.length), .int (nI (escN st)), .int (nI sh), .int (nI rs), .int (nI rt), .long (lN rg), .ref yz, .int bef, .int ear, .int top, .int rd_, .int (nI 0), .long ab, .int nx, .int ti])), (yc, .inl (ca 2, 8000, .inl uc))] sz) := by
  refine rw_enter (Q := fun A => va_Qv (fun (u : (Nat → Int32)) => BB u (dig n (x + by_))) (bB D vwCl (fun (u : (Nat → Int32)) => [(ra, .inr (7, [.ref yt, .int (nI Tx.length), .ref yc, .int (nI (dig n (x + by_)).length), .ref yo, .int (nI Ox.length), .int (nI lim), .ref yk, .ref ys, .ref yn, .int (nI N.length), .ref y0, .ref y1, .ref y2, .ref y3, .int (nI st.length), .int (nI (escN st)), .int (nI sh), .int (nI rs), .int (nI rt), .long (lN rg), .ref yz, .int bef, .int ear, .int top, .int rd_, .int (nI 0), .long ab, .int nx, .int ti])), (yc, .inl (ca 2, 8000, .inl u))]) A) A) (by decide) rfl (Nat.le_of_ble_eq_true rfl) ?_
  intro p e s m below meth c ls A C hnm hK hN hP hD hA hl
  have hS : va_S A s.heap s.heap [] := va_S.rf
  obtain ⟨hx, hb, hr, hml, hown, hlocks, hts⟩ := C
  have hl : lv_has ls 6 [(0, .ref ra), (1, .long (lN by_))] := hl
  have hin_X8 : ∀ w ∈ wsX80, w ∈ wsX8_addLow := by decide +kernel
  have hl_136 := hts (.fieldLink RX8 136 "EscapeCoderModel" "isFull" "Z") (by decide +kernel)
  have hl_13 := hts (.fieldLink RX8 13 "EscapeCoderModel" "code" "[B") (by decide +kernel)
  have hl_57 := hts (.fieldLink RX8 57 "EscapeCoderModel" "codeSize" "I") (by decide +kernel)
  have hlo : ∀ (k : Nat) (y : Nat) (cy : Nat) (Z : List Nat) (uc1 : Nat → Int32), (cy < 2 ^ 41) → (k ≤ n) → ((dig k y ++ Z).length = n) → (BB uc1 (dig k y ++ Z)) → (dig k (y + cy) ++ Z = dig n (x + by_)) → ∀ (H : Heap) (locs : List Loc), va_P D vwCl [(ra, .inr (7, [.ref yt, .int (nI Tx.length), .ref yc, .int (nI (dig n x).length), .ref yo, .int (nI Ox.length), .int (nI lim), .ref yk, .ref ys, .ref yn, .int (nI N.length), .ref y0, .ref y1, .ref y2, .ref y3, .int (nI st.length), .int (nI (escN st)), .int (nI sh), .int (nI rs), .int (nI rt), .long (lN rg), .ref yz, .int bef, .int ear, .int top, .int rd_, .int (nI 0), .long ab, .int nx, .int ti])), (yc, .inl (ca 2, 8000, .inl uc1))] H → va_D A [(ra, .inr (7, [.ref yt, .int (nI Tx.length), .ref yc, .int (nI (dig n x).length), .ref yo, .int (nI Ox.length), .int (nI lim), .ref yk, .ref ys, .ref yn, .int (nI N.length), .ref y0, .ref y1, .ref y2, .ref y3, .int (nI st.length), .int (nI (escN st)), .int (nI sh), .int (nI rs), .int (nI rt), .long (lN rg), .ref yz, .int bef, .int ear, .int top, .int rd_, .int (nI 0), .long ab, .int nx, .int ti])), (yc, .inl (ca 2, 8000, .inl uc1))] → va_S A s.heap H locs → ∀ (ls : Array Slot), lv_has ls 6 [(5, .int (nI k - nI 1)), (3, .long (lN cy)), (0, .ref ra), (1, .long (lN by_))] → W p l e ({ frames := 0, cells := 0, slots := 0, locals := 0 } : Room) s m ([.ref ra, .long (lN by_)] : List Value).toArray below meth c H locs 0 0 (MQ below (va_Qv (fun (u : (Nat → Int32)) => BB u (dig n (x + by_))) (bB D vwCl (fun (u : (Nat → Int32)) => [(ra, .inr (7, [.ref yt, .int (nI Tx.length), .ref yc, .int (nI (dig n (x + by_)).length), .ref yo, .int (nI Ox.length), .int (nI lim), .ref yk, .ref ys, .ref yn, .int (nI N.length), .ref y0, .ref y1, .ref y2, .ref y3, .int (nI st.length), .int (nI (escN st)), .int (nI sh), .int (nI rs), .int (nI rt), .long (lN rg), .ref yz, .int bef, .int ear, .int top, .int rd_, .int (nI 0), .long ab, .int nx, .int ti])), (yc, .inl (ca 2, 8000, .inl u))]) A) A) ([.ref ra, .long (lN by_)] : List Value).toArray s 0 0 A) (F0 m 10 ls []) := by
    intro k
    induction k with
    | zero =>
      intro y cy Z uc1 hcy hkn hlen hB1 hE H locs hP hD hS ls hl
      refine lv_iload hx hb dX8_addLow_10 (lv_at hl 0 rfl) ?_
      refine lv_if_lt (tgt := 64) hx hb dX8_addLow_12 (by decide) (fun h1 => ?_) (fun h1 => ?_)
      · have hP : va_P D vwCl [(ra, .inr (7, [.ref yt, .int (nI Tx.length), .ref yc, .int (nI (dig n (x + by_)).length), .ref yo, .int (nI Ox.length), .int (nI lim), .ref yk, .ref ys, .ref yn, .int (nI N.length), .ref y0, .ref y1, .ref y2, .ref y3, .int (nI st.length), .int (nI (escN st)), .int (nI sh), .int (nI rs), .int (nI rt), .long (lN rg), .ref yz, .int bef, .int ear, .int top, .int rd_, .int (nI 0), .long ab, .int nx, .int ti])), (yc, .inl (ca 2, 8000, .inl uc1))] H := by rw [dig_len, ← dig_len n x]; exact hP
        have hD : va_D A [(ra, .inr (7, [.ref yt, .int (nI Tx.length), .ref yc, .int (nI (dig n (x + by_)).length), .ref yo, .int (nI Ox.length), .int (nI lim), .ref yk, .ref ys, .ref yn, .int (nI N.length), .ref y0, .ref y1, .ref y2, .ref y3, .int (nI st.length), .int (nI (escN st)), .int (nI sh), .int (nI rs), .int (nI rt), .long (lN rg), .ref yz, .int bef, .int ear, .int top, .int rd_, .int (nI 0), .long ab, .int nx, .int ti])), (yc, .inl (ca 2, 8000, .inl uc1))] := by rw [dig_len, ← dig_len n x]; exact hD
        exact rw_vret (u := uc1) hx hb hr hlocks (by rw [← hE]; exact hB1) (hP.sub [0, 1] rfl) (hD.sub [0, 1] (by decide) rfl) hS (Nat.le_refl _) (Nat.le_refl _) dX8_addLow_64
      · exact absurd pred_0 h1
    | succ k ih =>
      intro y cy Z uc1 hcy hkn hlen hB1 hE H locs hP hD hS ls hl
      rw [pred_s] at hl
      refine lv_iload hx hb dX8_addLow_10 (lv_at hl 0 rfl) ?_
      refine lv_if_lt (tgt := 64) hx hb dX8_addLow_12 (by decide) (fun h1 => ?_) (fun h1 => ?_)
      · exact absurd h1 (nI_pos (by omega))
      · refine lv_lload_n hx hb dX8_addLow_15 rfl (lv_at hl 1 rfl) ?_
        refine lv_lconst (v := lN 0) hx hb dX8_addLow_16 (by decide) ?_
        refine W.lcmp hx hb dX8_addLow_17 ?_
        refine bl_le (tgt := 64) hx hb dX8_addLow_18 (by decide) (by omega) (by omega) (fun h2 => ?_) (fun h2 => ?_)
        · have hc0 : cy = 0 := by omega
          subst hc0
          rw [Nat.add_zero] at hE
          have hP : va_P D vwCl [(ra, .inr (7, [.ref yt, .int (nI Tx.length), .ref yc, .int (nI (dig n (x + by_)).length), .ref yo, .int (nI Ox.length), .int (nI lim), .ref yk, .ref ys, .ref yn, .int (nI N.length), .ref y0, .ref y1, .ref y2, .ref y3, .int (nI st.length), .int (nI (escN st)), .int (nI sh), .int (nI rs), .int (nI rt), .long (lN rg), .ref yz, .int bef, .int ear, .int top, .int rd_, .int (nI 0), .long ab, .int nx, .int ti])), (yc, .inl (ca 2, 8000, .inl uc1))] H := by rw [dig_len, ← dig_len n x]; exact hP
          have hD : va_D A [(ra, .inr (7, [.ref yt, .int (nI Tx.length), .ref yc, .int (nI (dig n (x + by_)).length), .ref yo, .int (nI Ox.length), .int (nI lim), .ref yk, .ref ys, .ref yn, .int (nI N.length), .ref y0, .ref y1, .ref y2, .ref y3, .int (nI st.length), .int (nI (escN st)), .int (nI sh), .int (nI rs), .int (nI rt), .long (lN rg), .ref yz, .int bef, .int ear, .int top, .int rd_, .int (nI 0), .long ab, .int nx, .int ti])), (yc, .inl (ca 2, 8000, .inl uc1))] := by rw [dig_len, ← dig_len n x]; exact hD
          exact rw_vret (u := uc1) hx hb hr hlocks (by rw [← hE]; exact hB1) (hP.sub [0, 1] rfl) (hD.sub [0, 1] (by decide) rfl) hS (Nat.le_refl _) (Nat.le_refl _) dX8_addLow_64
        · refine lv_aload_n hx hb dX8_addLow_21 rfl (lv_at hl 2 rfl) ?_
          refine va_get (D := D) (ci := 7) (v := .int (nI 0)) (C := RX8) (T := TX8) (N := 30) hx hb hts hin_X8 hown hK hP 0 rfl rfl 26 (by decide) hl_136 (fun _ h9 => h9) rfl dX8_addLow_22 ?_
          refine lv_if_ne (tgt := 64) hx hb dX8_addLow_25 (by decide) (fun h3 => ?_) (fun h3 => ?_)
          · exact absurd rfl h3
          · have hv : uc1 k &&& nI 255 = nI (y % 256) := by rw [hB1 k (by omega), dig_last]
            have hy9 : y % 256 < 256 := Nat.mod_lt _ (by decide)
            refine lv_lload_n hx hb dX8_addLow_28 rfl (lv_at hl 1 rfl) ?_
            refine lv_aload_n hx hb dX8_addLow_29 rfl (lv_at hl 2 rfl) ?_
            refine va_get (D := D) (ci := 7) (v := .ref yc) (C := RX8) (T := TX8) (N := 30) hx hb hts hin_X8 hown hK hP 0 rfl rfl 2 (by decide) hl_13 (fun _ h9 => h9) rfl dX8_addLow_30 ?_
            refine lv_iload hx hb dX8_addLow_33 (lv_at hl 0 rfl) ?_
            refine ld_b hx hb hK hP 1 2 rfl rfl (j := k) (by omega) (by omega) dX8_addLow_35 ?_
            refine lv_sipush (v := nI 255) hx hb dX8_addLow_36 (by decide) ?_
            refine lv_iand hx hb dX8_addLow_39 ?_
            refine tp_i (y := nI (y % 256)) (hv) ?_
            refine lv_i2l (v := lN (y % 256)) hx hb dX8_addLow_40 (nI_l (by omega)) ?_
            refine lv_ladd hx hb dX8_addLow_41 ?_
            refine tp_l (y := lN (cy + y % 256)) (lN_add _ _) ?_
            refine lv_lstore_n (lv' := [(3, .long (lN (cy + y % 256))), (5, .int (nI k)), (0, .ref ra), (1, .long (lN by_))]) hx hb dX8_addLow_42 rfl hl (by decide) rfl (fun ls hl => ?_)
            refine lv_aload_n hx hb dX8_addLow_43 rfl (lv_at hl 2 rfl) ?_
            refine va_get (D := D) (ci := 7) (v := .ref yc) (C := RX8) (T := TX8) (N := 30) hx hb hts hin_X8 hown hK hP 0 rfl rfl 2 (by decide) hl_13 (fun _ h9 => h9) rfl dX8_addLow_44 ?_
            refine lv_iload hx hb dX8_addLow_47 (lv_at hl 1 rfl) ?_
            refine lv_lload_n hx hb dX8_addLow_49 rfl (lv_at hl 0 rfl) ?_
            refine lv_l2i (v := nI (cy + y % 256)) hx hb dX8_addLow_50 (lN_i _) ?_
            refine lv_i2b (v := ((nI (cy + y % 256)).toInt8.toInt32)) hx hb dX8_addLow_51 (rfl) ?_
            refine st_b hx hb hK hP hD hS 1 2 rfl rfl (j := k) (by omega) (by omega) dX8_addLow_52 (fun H locs hP hD hS => ?_)
            have hP : va_P D vwCl [(ra, .inr (7, [.ref yt, .int (nI Tx.length), .ref yc, .int (nI (dig n x).length), .ref yo, .int (nI Ox.length), .int (nI lim), .ref yk, .ref ys, .ref yn, .int (nI N.length), .ref y0, .ref y1, .ref y2, .ref y3, .int (nI st.length), .int (nI (escN st)), .int (nI sh), .int (nI rs), .int (nI rt), .long (lN rg), .ref yz, .int bef, .int ear, .int top, .int rd_, .int (nI 0), .long ab, .int nx, .int ti])), (yc, .inl (ca 2, 8000, .inl (upd uc1 k (vp_nar .byte ((nI (cy + y % 256)).toInt8.toInt32)))))] H := hP
            have hD : va_D A [(ra, .inr (7, [.ref yt, .int (nI Tx.length), .ref yc, .int (nI (dig n x).length), .ref yo, .int (nI Ox.length), .int (nI lim), .ref yk, .ref ys, .ref yn, .int (nI N.length), .ref y0, .ref y1, .ref y2, .ref y3, .int (nI st.length), .int (nI (escN st)), .int (nI sh), .int (nI rs), .int (nI rt), .long (lN rg), .ref yz, .int bef, .int ear, .int top, .int rd_, .int (nI 0), .long ab, .int nx, .int ti])), (yc, .inl (ca 2, 8000, .inl (upd uc1 k (vp_nar .byte ((nI (cy + y % 256)).toInt8.toInt32)))))] := hD
            refine lv_lload_n hx hb dX8_addLow_53 rfl (lv_at hl 0 rfl) ?_
            refine lv_bipush (v := nI 8) hx hb dX8_addLow_54 (by decide) ?_
            refine lv_lshr (v := lN ((cy + y % 256) / 256)) hx hb dX8_addLow_56 (shs8 (by omega)) ?_
            refine lv_lstore_n (lv' := [(3, .long (lN ((cy + y % 256) / 256))), (5, .int (nI k)), (0, .ref ra), (1, .long (lN by_))]) hx hb dX8_addLow_57 rfl hl (by decide) rfl (fun ls hl => ?_)
            refine lv_iinc (v := nI k - nI 1) (lv' := [(5, .int (nI k - nI 1)), (3, .long (lN ((cy + y % 256) / 256))), (0, .ref ra), (1, .long (lN by_))]) hx hb dX8_addLow_58 hl (k := 1) rfl (dec_k k) (by decide) rfl (fun ls hl => ?_)
            refine lv_goto (tgt := 10) hx hb dX8_addLow_61 (by decide) ?_
            exact ih (y / 256) ((cy + y % 256) / 256) ((cy + y % 256) % 256 :: Z) (upd uc1 k (vp_nar .byte ((nI (cy + y % 256)).toInt8.toInt32))) (by omega) (by omega) (by rw [← dig_set, List.length_set]; exact hlen) (by rw [← dig_set]; exact BB_set hB1 (byte_c _) (by omega)) (by rw [← hE, add_dig]) H locs hP hD hS _ (lv_sub hl [0, 1, 2, 3] rfl)
  refine lv_lload_n hx hb dX8_addLow_0 rfl (lv_at hl 1 rfl) ?_
  refine lv_lstore_n (lv' := [(3, .long (lN by_)), (0, .ref ra), (1, .long (lN by_))]) hx hb dX8_addLow_1 rfl hl (by decide) rfl (fun ls hl => ?_)
  refine lv_aload_n hx hb dX8_addLow_2 rfl (lv_at hl 1 rfl) ?_
  refine va_get (D := D) (ci := 7) (v := .int (nI (dig n x).length)) (C := RX8) (T := TX8) (N := 30) hx hb hts hin_X8 hown hK hP 0 rfl rfl 3 (by decide) hl_57 (fun _ h9 => h9) rfl dX8_addLow_3 ?_
  refine lv_iconst (v := nI 1) hx hb dX8_addLow_6 (by decide) ?_
  refine lv_isub hx hb dX8_addLow_7 ?_
  refine lv_istore (lv' := [(5, .int ((nI (dig n x).length) - (nI 1))), (3, .long (lN by_)), (0, .ref ra), (1, .long (lN by_))]) hx hb dX8_addLow_8 hl (by decide) rfl (fun ls hl => ?_)
  have hdl : nI (dig n x).length = nI n := by rw [dig_len]
  exact hlo n x by_ [] uc (by omega) (Nat.le_refl _) (by rw [List.append_nil, dig_len]) (by rw [List.append_nil]; exact hB) (by rw [List.append_nil]) s.heap [] hP hD hS _ (by rw [← dig_len n x]; exact (lv_sub hl [0, 1, 2, 3] rfl))
