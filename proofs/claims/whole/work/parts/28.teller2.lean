set_option maxHeartbeats 4000000 in
set_option maxRecDepth 100000 in
theorem c_T_liveBegin (l : Launch) (D : va_G) (ca : Nat → ClassId) (at_ : Nat) (as_ : Nat) (qo : Nat) (ql : Nat) (qm : Nat) (am : Nat) (lt : Nat) (tn : Nat) (ou : Nat) (to : Int32) (lv : Nat → Int32) (lz : Nat → Int32) (N : List Nd) (X : List Nat) (w : Int32) (hLv : LvR lv lz N X) (hX : ∀ j, j < X.length → X.getD j 0 < N.length) (hX2 : X.length ≤ 256) : Met l yX6_liveBeginOf wsX6_liveBeginOf { frames := 0, cells := 0, slots := 0, locals := 0 } (roP D vwCl (ATy ca) [(at_, .inr (5, [.ref am, .ref as_, .ref qo, .ref ql, .ref qm, .int (nI X.length), .int (nI lt), .int (nI tn), .int (nI ou), .int to])), (ql, .inl (ca 0, 256, .inl lv)), (qm, .inl (ca 0, 256, .inl lz))] [.ref at_, .int w]) (vp_Si (fun r : Int32 => r = nI (bgS w (X.map (nd N)) 0))) 0 0 (fun _ => False) := by
  refine ro_enter (by decide) rfl (Nat.le_of_ble_eq_true rfl) ?_
  intro p e s m below meth c ls C hK hN hP hl
  obtain ⟨hx, hb, hr, hml, hown, hlocks, hts⟩ := C
  have hl : lv_has ls 4 [(0, .ref at_), (1, .int w)] := hl
  have hin_X6 : ∀ w ∈ wsX60, w ∈ wsX6_liveBeginOf := by decide +kernel
  have hl_56 := hts (.fieldLink RX6 56 "EscapeCoder$Teller" "lives" "I") (by decide +kernel)
  have hl_23 := hts (.fieldLink RX6 23 "EscapeCoder$Teller" "liveByte" "[I") (by decide +kernel)
  have hl_26 := hts (.fieldLink RX6 26 "EscapeCoder$Teller" "liveCount" "[I") (by decide +kernel)
  refine lv_iconst (v := nI 0) hx hb dX6_liveBeginOf_0 (by decide) ?_
  refine lv_istore_n (lv' := [(2, .int (nI 0)), (0, .ref at_), (1, .int w)]) hx hb dX6_liveBeginOf_1 rfl hl (by decide) rfl (fun ls hl => ?_)
  refine lv_iconst (v := nI 0) hx hb dX6_liveBeginOf_2 (by decide) ?_
  refine lv_istore_n (lv' := [(3, .int (nI 0)), (2, .int (nI 0)), (0, .ref at_), (1, .int w)]) hx hb dX6_liveBeginOf_3 rfl hl (by decide) rfl (fun ls hl => ?_)
  have hlo : ∀ (z : Nat) (i : Nat) (a : Nat), (i + z = X.length) → (bgS w ((X.drop i).map (nd N)) a = bgS w (X.map (nd N)) 0) → ∀ (ls : Array Slot), lv_has ls 4 [(3, .int (nI i)), (2, .int (nI a)), (0, .ref at_), (1, .int w)] → W p l e ({ frames := 0, cells := 0, slots := 0, locals := 0 } : Room) s m ([.ref at_, .int w] : List Value).toArray below meth c s.heap [] 0 0 (MQ below (vp_Si (fun r : Int32 => r = nI (bgS w (X.map (nd N)) 0))) ([.ref at_, .int w] : List Value).toArray s 0 0 (fun _ => False)) (F0 m 4 ls []) := by
    intro z
    induction z with
    | zero =>
      intro i a hiz hE ls hl
      refine lv_iload_n hx hb dX6_liveBeginOf_4 rfl (lv_at hl 0 rfl) ?_
      refine lv_aload_n hx hb dX6_liveBeginOf_5 rfl (lv_at hl 2 rfl) ?_
      refine va_get (D := D) (ci := 5) (v := .int (nI X.length)) (C := RX6) (T := TX6) (N := 10) hx hb hts hin_X6 hown hK hP 0 rfl rfl 5 (by decide) hl_56 (fun _ h9 => h9) rfl dX6_liveBeginOf_6 ?_
      refine bn_ge (tgt := 39) hx hb dX6_liveBeginOf_9 (by decide) (by omega) (by omega) (fun h1 => ?_) (fun h1 => ?_)
      · refine lv_iload_n hx hb dX6_liveBeginOf_39 rfl (lv_at hl 1 rfl) ?_
        rw [List.drop_eq_nil_of_le (by omega)] at hE
        exact ro_iret hx hb hr hlocks (by rw [← hE]; rfl) dX6_liveBeginOf_40
      · exact absurd h1 (by omega)
    | succ z ih =>
      intro i a hiz hE ls hl
      have hXi := hX i (by omega)
      rw [drop_getD (show i < X.length by omega), List.map_cons] at hE
      refine lv_iload_n hx hb dX6_liveBeginOf_4 rfl (lv_at hl 0 rfl) ?_
      refine lv_aload_n hx hb dX6_liveBeginOf_5 rfl (lv_at hl 2 rfl) ?_
      refine va_get (D := D) (ci := 5) (v := .int (nI X.length)) (C := RX6) (T := TX6) (N := 10) hx hb hts hin_X6 hown hK hP 0 rfl rfl 5 (by decide) hl_56 (fun _ h9 => h9) rfl dX6_liveBeginOf_6 ?_
      refine bn_ge (tgt := 39) hx hb dX6_liveBeginOf_9 (by decide) (by omega) (by omega) (fun h1 => ?_) (fun h1 => ?_)
      · exact absurd h1 (by omega)
      · refine lv_aload_n hx hb dX6_liveBeginOf_12 rfl (lv_at hl 2 rfl) ?_
        refine va_get (D := D) (ci := 5) (v := .ref ql) (C := RX6) (T := TX6) (N := 10) hx hb hts hin_X6 hown hK hP 0 rfl rfl 3 (by decide) hl_23 (fun _ h9 => h9) rfl dX6_liveBeginOf_13 ?_
        refine lv_iload_n hx hb dX6_liveBeginOf_16 rfl (lv_at hl 0 rfl) ?_
        refine ld_i hx hb hK hP 1 0 rfl rfl (j := i) (by omega) (by decide) dX6_liveBeginOf_17 ?_
        refine tp_i (y := nI (nd N (X.getD i 0)).2.1) ((hLv i h1).1) ?_
        refine lv_iload_n hx hb dX6_liveBeginOf_18 rfl (lv_at hl 3 rfl) ?_
        refine lv_icmp_ne (tgt := 24) hx hb dX6_liveBeginOf_19 (by decide) (fun h2 => ?_) (fun h2 => ?_)
        · refine lv_iload_n hx hb dX6_liveBeginOf_24 rfl (lv_at hl 1 rfl) ?_
          refine lv_aload_n hx hb dX6_liveBeginOf_25 rfl (lv_at hl 2 rfl) ?_
          refine va_get (D := D) (ci := 5) (v := .ref qm) (C := RX6) (T := TX6) (N := 10) hx hb hts hin_X6 hown hK hP 0 rfl rfl 4 (by decide) hl_26 (fun _ h9 => h9) rfl dX6_liveBeginOf_26 ?_
          refine lv_iload_n hx hb dX6_liveBeginOf_29 rfl (lv_at hl 0 rfl) ?_
          refine ld_i hx hb hK hP 2 0 rfl rfl (j := i) (by omega) (by decide) dX6_liveBeginOf_30 ?_
          refine tp_i (y := nI (nd N (X.getD i 0)).2.2) ((hLv i h1).2) ?_
          refine lv_iadd hx hb dX6_liveBeginOf_31 ?_
          refine tp_i (y := nI (a + (nd N (X.getD i 0)).2.2)) (nI_add _ _) ?_
          refine lv_istore_n (lv' := [(2, .int (nI (a + (nd N (X.getD i 0)).2.2))), (3, .int (nI i)), (0, .ref at_), (1, .int w)]) hx hb dX6_liveBeginOf_32 rfl hl (by decide) rfl (fun ls hl => ?_)
          refine lv_iinc (v := nI (i + 1)) (lv' := [(3, .int (nI (i + 1))), (2, .int (nI (a + (nd N (X.getD i 0)).2.2))), (0, .ref at_), (1, .int w)]) hx hb dX6_liveBeginOf_33 hl (k := 1) rfl (nI_1 _) (by decide) rfl (fun ls hl => ?_)
          refine lv_goto (tgt := 4) hx hb dX6_liveBeginOf_36 (by decide) ?_
          exact ih (i + 1) (a + (nd N (X.getD i 0)).2.2) (by omega) (by rw [← hE, bgS_c, if_neg h2]) _ (lv_sub hl [0, 1, 2, 3] rfl)
        · refine lv_iload_n hx hb dX6_liveBeginOf_22 rfl (lv_at hl 1 rfl) ?_
          exact ro_iret hx hb hr hlocks (by rw [← hE]; unfold bgS; rw [if_pos h2]) dX6_liveBeginOf_23
  exact hlo X.length 0 0 (by omega) rfl _ (lv_sub hl [0, 1, 2, 3] rfl)

set_option maxHeartbeats 4000000 in
set_option maxRecDepth 100000 in
theorem c_T_putOut (l : Launch) (D : va_G) (ca : Nat → ClassId) (at_ : Nat) (as_ : Nat) (qo : Nat) (ql : Nat) (qm : Nat) (am : Nat) (lt : Nat) (tn : Nat) (ou : Nat) (to : Int32) (lv : Nat → Int32) (lz : Nat → Int32) (N : List Nd) (X : List Nat) (os : Nat → Int32) (out : Nat → Bool) (hLv : LvR lv lz N X) (hX : ∀ j, j < X.length → X.getD j 0 < N.length) (hX2 : X.length ≤ 256) (hO : OR os tn out) (hOS : OS os tn) (hok : okN N) (sz : Nat) : Met l yX6_putLiveOut wsX6_putLiveOut { frames := 1, cells := 0, slots := 0, locals := 20 } (rwP D vwCl (ATy ca) [(at_, .inr (5, [.ref am, .ref as_, .ref qo, .ref ql, .ref qm, .int (nI X.length), .int (nI lt), .int (nI tn), .int (nI ou), .int to])), (ql, .inl (ca 0, 256, .inl lv)), (qm, .inl (ca 0, 256, .inl lz)), (qo, .inl (ca 0, 256, .inl os))] sz [.ref at_]) (va_Qv (fun (u : (Nat → Int32)) => OR u tn (fun y => out y || X.any (fun i => (nd N i).2.1 == y)) ∧ OS u tn) (bB D vwCl (fun (u : (Nat → Int32)) => [(at_, .inr (5, [.ref am, .ref as_, .ref qo, .ref ql, .ref qm, .int (nI X.length), .int (nI lt), .int (nI tn), .int (nI (ou + X.length)), .int to])), (ql, .inl (ca 0, 256, .inl lv)), (qm, .inl (ca 0, 256, .inl lz)), (qo, .inl (ca 0, 256, .inl u))]) (va_A [(at_, .inr (5, [.ref am, .ref as_, .ref qo, .ref ql, .ref qm, .int (nI X.length), .int (nI lt), .int (nI tn), .int (nI ou), .int to])), (ql, .inl (ca 0, 256, .inl lv)), (qm, .inl (ca 0, 256, .inl lz)), (qo, .inl (ca 0, 256, .inl os))] sz)) (va_A [(at_, .inr (5, [.ref am, .ref as_, .ref qo, .ref ql, .ref qm, .int (nI X.length), .int (nI lt), .int (nI tn), .int (nI ou), .int to])), (ql, .inl (ca 0, 256, .inl lv)), (qm, .inl (ca 0, 256, .inl lz)), (qo, .inl (ca 0, 256, .inl os))] sz)) 0 0 (va_A [(at_, .inr (5, [.ref am, .ref as_, .ref qo, .ref ql, .ref qm, .int (nI X.length), .int (nI lt), .int (nI tn), .int (nI ou), .int to])), (ql, .inl (ca 0, 256, .inl lv)), (qm, .inl (ca 0, 256, .inl lz)), (qo, .inl (ca 0, 256, .inl os))] sz) := by
  refine rw_enter (Q := fun A => va_Qv (fun (u : (Nat → Int32)) => OR u tn (fun y => out y || X.any (fun i => (nd N i).2.1 == y)) ∧ OS u tn) (bB D vwCl (fun (u : (Nat → Int32)) => [(at_, .inr (5, [.ref am, .ref as_, .ref qo, .ref ql, .ref qm, .int (nI X.length), .int (nI lt), .int (nI tn), .int (nI (ou + X.length)), .int to])), (ql, .inl (ca 0, 256, .inl lv)), (qm, .inl (ca 0, 256, .inl lz)), (qo, .inl (ca 0, 256, .inl u))]) A) A) (by decide) rfl (Nat.le_of_ble_eq_true rfl) ?_
  intro p e s m below meth c ls A C hnm hK hN hP hD hA hl
  have hS : va_S A s.heap s.heap [] := va_S.rf
  obtain ⟨hx, hb, hr, hml, hown, hlocks, hts⟩ := C
  have hl : lv_has ls 2 [(0, .ref at_)] := hl
  have hin_X6 : ∀ w ∈ wsX60, w ∈ wsX6_putLiveOut := by decide +kernel
  have hl_56 := hts (.fieldLink RX6 56 "EscapeCoder$Teller" "lives" "I") (by decide +kernel)
  have hl_36 := hts (.fieldLink RX6 36 "EscapeCoder$Teller" "outs" "I") (by decide +kernel)
  have hl_23 := hts (.fieldLink RX6 23 "EscapeCoder$Teller" "liveByte" "[I") (by decide +kernel)
  have hw_0fc290 := hts (.initialized RX7) (by decide +kernel)
  have hw_1af174 := hts (.static yX7_isByte) (by decide +kernel)
  have hl_19 := hts (.fieldLink RX6 19 "EscapeCoder$Teller" "outSince" "[I") (by decide +kernel)
  have hl_33 := hts (.fieldLink RX6 33 "EscapeCoder$Teller" "turn" "I") (by decide +kernel)
  refine lv_iconst (v := nI 0) hx hb dX6_putLiveOut_0 (by decide) ?_
  refine lv_istore_n (lv' := [(1, .int (nI 0)), (0, .ref at_)]) hx hb dX6_putLiveOut_1 rfl hl (by decide) rfl (fun ls hl => ?_)
  have hlo : ∀ (z : Nat) (i : Nat) (os2 : Nat → Int32), (i + z = X.length) → (OR os2 tn (fun y => out y || (X.take i).any (fun i => (nd N i).2.1 == y))) → (OS os2 tn) → ∀ (H : Heap) (locs : List Loc), va_P D vwCl [(at_, .inr (5, [.ref am, .ref as_, .ref qo, .ref ql, .ref qm, .int (nI X.length), .int (nI lt), .int (nI tn), .int (nI ou), .int to])), (ql, .inl (ca 0, 256, .inl lv)), (qm, .inl (ca 0, 256, .inl lz)), (qo, .inl (ca 0, 256, .inl os2))] H → va_D A [(at_, .inr (5, [.ref am, .ref as_, .ref qo, .ref ql, .ref qm, .int (nI X.length), .int (nI lt), .int (nI tn), .int (nI ou), .int to])), (ql, .inl (ca 0, 256, .inl lv)), (qm, .inl (ca 0, 256, .inl lz)), (qo, .inl (ca 0, 256, .inl os2))] → va_S A s.heap H locs → ∀ (ls : Array Slot), lv_has ls 2 [(1, .int (nI i)), (0, .ref at_)] → W p l e ({ frames := 1, cells := 0, slots := 0, locals := 20 } : Room) s m ([.ref at_] : List Value).toArray below meth c H locs 0 0 (MQ below (va_Qv (fun (u : (Nat → Int32)) => OR u tn (fun y => out y || X.any (fun i => (nd N i).2.1 == y)) ∧ OS u tn) (bB D vwCl (fun (u : (Nat → Int32)) => [(at_, .inr (5, [.ref am, .ref as_, .ref qo, .ref ql, .ref qm, .int (nI X.length), .int (nI lt), .int (nI tn), .int (nI (ou + X.length)), .int to])), (ql, .inl (ca 0, 256, .inl lv)), (qm, .inl (ca 0, 256, .inl lz)), (qo, .inl (ca 0, 256, .inl u))]) A) A) ([.ref at_] : List Value).toArray s 0 0 A) (F0 m 2 ls []) := by
    intro z
    induction z with
    | zero =>
      intro i os2 hiz hO2 hS2 H locs hP hD hS ls hl
      refine lv_iload_n hx hb dX6_putLiveOut_2 rfl (lv_at hl 0 rfl) ?_
      refine lv_aload_n hx hb dX6_putLiveOut_3 rfl (lv_at hl 1 rfl) ?_
      refine va_get (D := D) (ci := 5) (v := .int (nI X.length)) (C := RX6) (T := TX6) (N := 10) hx hb hts hin_X6 hown hK hP 0 rfl rfl 5 (by decide) hl_56 (fun _ h9 => h9) rfl dX6_putLiveOut_4 ?_
      refine bn_ge (tgt := 43) hx hb dX6_putLiveOut_7 (by decide) (by omega) (by omega) (fun h1 => ?_) (fun h1 => ?_)
      · refine lv_aload_n hx hb dX6_putLiveOut_43 rfl (lv_at hl 1 rfl) ?_
        refine lv_dup hx hb dX6_putLiveOut_44 rfl ?_
        refine va_get (D := D) (ci := 5) (v := .int (nI ou)) (C := RX6) (T := TX6) (N := 10) hx hb hts hin_X6 hown hK hP 0 rfl rfl 8 (by decide) hl_36 (fun _ h9 => h9) rfl dX6_putLiveOut_45 ?_
        refine lv_aload_n hx hb dX6_putLiveOut_48 rfl (lv_at hl 1 rfl) ?_
        refine va_get (D := D) (ci := 5) (v := .int (nI X.length)) (C := RX6) (T := TX6) (N := 10) hx hb hts hin_X6 hown hK hP 0 rfl rfl 5 (by decide) hl_56 (fun _ h9 => h9) rfl dX6_putLiveOut_49 ?_
        refine lv_iadd hx hb dX6_putLiveOut_52 ?_
        refine tp_i (y := nI (ou + X.length)) (nI_add _ _) ?_
        refine va_put (D := D) (ci := 5) (v := .int (nI (ou + X.length))) (ty := .int) (C := RX6) (T := TX6) (N := 10) hx hb hts hin_X6 tyX6 tyX6_ok nmX6 hown hK hP hD hS 0 rfl rfl 8 (by decide) hl_36 (fun _ h9 => h9) rfl (by decide +kernel) rfl rfl (Nat.le_of_ble_eq_true rfl) dX6_putLiveOut_53 (fun H locs hP hD hS => ?_)
        have hP : va_P D vwCl [(at_, .inr (5, [.ref am, .ref as_, .ref qo, .ref ql, .ref qm, .int (nI X.length), .int (nI lt), .int (nI tn), .int (nI (ou + X.length)), .int to])), (ql, .inl (ca 0, 256, .inl lv)), (qm, .inl (ca 0, 256, .inl lz)), (qo, .inl (ca 0, 256, .inl os2))] H := hP
        have hD : va_D A [(at_, .inr (5, [.ref am, .ref as_, .ref qo, .ref ql, .ref qm, .int (nI X.length), .int (nI lt), .int (nI tn), .int (nI (ou + X.length)), .int to])), (ql, .inl (ca 0, 256, .inl lv)), (qm, .inl (ca 0, 256, .inl lz)), (qo, .inl (ca 0, 256, .inl os2))] := hD
        rw [List.take_of_length_le (by omega)] at hO2
        exact rw_vret (u := os2) hx hb hr hlocks (⟨hO2, hS2⟩) (hP.sub [0, 1, 2, 3] rfl) (hD.sub [0, 1, 2, 3] (by decide) rfl) hS (Nat.le_refl _) (Nat.le_refl _) dX6_putLiveOut_56
      · exact absurd h1 (by omega)
    | succ z ih =>
      intro i os2 hiz hO2 hS2 H locs hP hD hS ls hl
      have hXi := hX i (by omega)
      have hm := hok.1 (nd N (X.getD i 0)) (by rw [nd_eq hXi]; exact List.getElem_mem hXi)
      refine lv_iload_n hx hb dX6_putLiveOut_2 rfl (lv_at hl 0 rfl) ?_
      refine lv_aload_n hx hb dX6_putLiveOut_3 rfl (lv_at hl 1 rfl) ?_
      refine va_get (D := D) (ci := 5) (v := .int (nI X.length)) (C := RX6) (T := TX6) (N := 10) hx hb hts hin_X6 hown hK hP 0 rfl rfl 5 (by decide) hl_56 (fun _ h9 => h9) rfl dX6_putLiveOut_4 ?_
      refine bn_ge (tgt := 43) hx hb dX6_putLiveOut_7 (by decide) (by omega) (by omega) (fun h1 => ?_) (fun h1 => ?_)
      · exact absurd h1 (by omega)
      · refine lv_aload_n hx hb dX6_putLiveOut_10 rfl (lv_at hl 1 rfl) ?_
        refine va_get (D := D) (ci := 5) (v := .ref ql) (C := RX6) (T := TX6) (N := 10) hx hb hts hin_X6 hown hK hP 0 rfl rfl 3 (by decide) hl_23 (fun _ h9 => h9) rfl dX6_putLiveOut_11 ?_
        refine lv_iload_n hx hb dX6_putLiveOut_14 rfl (lv_at hl 0 rfl) ?_
        refine ld_i hx hb hK hP 1 0 rfl rfl (j := i) (by omega) (by decide) dX6_putLiveOut_15 ?_
        refine tp_i (y := nI (nd N (X.getD i 0)).2.1) ((hLv i h1).1) ?_
        refine vp_callSi (va_Run.run (va_runSN (As := [.int (nI (nd N (X.getD i 0)).2.1)]) (rest := []) ⟨hx, hb, hml, hown, hts⟩ (c_isByte l D ca (nI (nd N (X.getD i 0)).2.1) ) ⟨va_cnB 1 hts gX6_putLiveOut_X7_isByte_n111 rfl rfl rfl (nw_X6_111 hN) hw_0fc290 (by decide +kernel) ⟨Nat.le_of_ble_eq_true rfl, Nat.le_of_ble_eq_true rfl⟩, hw_1af174, trivial⟩ ⟨roP_blind, roP_at hK hN (hP.sub [] rfl)⟩ rfl rfl hl.1 rfl (lv_room (Nat.le_of_ble_eq_true rfl)) dX6_putLiveOut_16 ⟨Nat.le_of_ble_eq_true rfl, Nat.le_of_ble_eq_true rfl⟩)) (fun r_1 hq => ?_)
        rw [isB_of hm.2.1] at hq
        subst hq
        refine bb_eq (tgt := 37) hx hb dX6_putLiveOut_19 (by decide) (fun h2 => ?_) (fun h2 => ?_)
        · exact absurd h2 (by decide)
        · refine lv_aload_n hx hb dX6_putLiveOut_22 rfl (lv_at hl 1 rfl) ?_
          refine va_get (D := D) (ci := 5) (v := .ref qo) (C := RX6) (T := TX6) (N := 10) hx hb hts hin_X6 hown hK hP 0 rfl rfl 2 (by decide) hl_19 (fun _ h9 => h9) rfl dX6_putLiveOut_23 ?_
          refine lv_aload_n hx hb dX6_putLiveOut_26 rfl (lv_at hl 1 rfl) ?_
          refine va_get (D := D) (ci := 5) (v := .ref ql) (C := RX6) (T := TX6) (N := 10) hx hb hts hin_X6 hown hK hP 0 rfl rfl 3 (by decide) hl_23 (fun _ h9 => h9) rfl dX6_putLiveOut_27 ?_
          refine lv_iload_n hx hb dX6_putLiveOut_30 rfl (lv_at hl 0 rfl) ?_
          refine ld_i hx hb hK hP 1 0 rfl rfl (j := i) (by omega) (by decide) dX6_putLiveOut_31 ?_
          refine tp_i (y := nI (nd N (X.getD i 0)).2.1) ((hLv i h1).1) ?_
          refine lv_aload_n hx hb dX6_putLiveOut_32 rfl (lv_at hl 1 rfl) ?_
          refine va_get (D := D) (ci := 5) (v := .int (nI tn)) (C := RX6) (T := TX6) (N := 10) hx hb hts hin_X6 hown hK hP 0 rfl rfl 7 (by decide) hl_33 (fun _ h9 => h9) rfl dX6_putLiveOut_33 ?_
          refine st_i hx hb hK hP hD hS 3 0 rfl rfl (j := (nd N (X.getD i 0)).2.1) (hm.2.1) (by decide) dX6_putLiveOut_36 (fun H locs hP hD hS => ?_)
          have hP : va_P D vwCl [(at_, .inr (5, [.ref am, .ref as_, .ref qo, .ref ql, .ref qm, .int (nI X.length), .int (nI lt), .int (nI tn), .int (nI ou), .int to])), (ql, .inl (ca 0, 256, .inl lv)), (qm, .inl (ca 0, 256, .inl lz)), (qo, .inl (ca 0, 256, .inl (upd os2 ((nd N (X.getD i 0)).2.1) (nI tn))))] H := hP
          have hD : va_D A [(at_, .inr (5, [.ref am, .ref as_, .ref qo, .ref ql, .ref qm, .int (nI X.length), .int (nI lt), .int (nI tn), .int (nI ou), .int to])), (ql, .inl (ca 0, 256, .inl lv)), (qm, .inl (ca 0, 256, .inl lz)), (qo, .inl (ca 0, 256, .inl (upd os2 ((nd N (X.getD i 0)).2.1) (nI tn))))] := hD
          refine lv_iinc (v := nI (i + 1)) (lv' := [(1, .int (nI (i + 1))), (0, .ref at_)]) hx hb dX6_putLiveOut_37 hl (k := 0) rfl (nI_1 _) (by decide) rfl (fun ls hl => ?_)
          refine lv_goto (tgt := 2) hx hb dX6_putLiveOut_40 (by decide) ?_
          exact ih (i + 1) _ (by omega) (OR_put hO2 hm.2.1 (show i < X.length by omega)) (OS_put hS2) H locs hP hD hS _ (lv_sub hl [0, 1] rfl)
  exact hlo X.length 0 os (by omega) (fun y hy => by simpa using hO y hy) hOS s.heap [] hP hD hS _ (lv_sub hl [0, 1] rfl)

set_option maxHeartbeats 4000000 in
set_option maxRecDepth 100000 in
theorem c_T_plainBegin (l : Launch) (D : va_G) (ca : Nat → ClassId) (at_ : Nat) (as_ : Nat) (qo : Nat) (ql : Nat) (qm : Nat) (am : Nat) (li : Nat) (lt : Nat) (tn : Nat) (ou : Nat) (to : Int32) (os : Nat → Int32) (out : Nat → Bool) (w : Nat) (hO : OR os tn out) (hw : w ≤ 256) : Met l yX6_plainBeginOf wsX6_plainBeginOf { frames := 2, cells := 0, slots := 0, locals := 41 } (roP D vwCl (ATy ca) [(at_, .inr (5, [.ref am, .ref as_, .ref qo, .ref ql, .ref qm, .int (nI li), .int (nI lt), .int (nI tn), .int (nI ou), .int to])), (qo, .inl (ca 0, 256, .inl os))] [.ref at_, .int (nI w)]) (vp_Si (fun r : Int32 => r = nI (cn out w))) 0 0 (fun _ => False) := by
  refine ro_enter (by decide) rfl (Nat.le_of_ble_eq_true rfl) ?_
  intro p e s m below meth c ls C hK hN hP hl
  obtain ⟨hx, hb, hr, hml, hown, hlocks, hts⟩ := C
  have hl : lv_has ls 4 [(0, .ref at_), (1, .int (nI w))] := hl
  refine lv_iconst (v := nI 0) hx hb dX6_plainBeginOf_0 (by decide) ?_
  refine lv_istore_n (lv' := [(2, .int (nI 0)), (0, .ref at_), (1, .int (nI w))]) hx hb dX6_plainBeginOf_1 rfl hl (by decide) rfl (fun ls hl => ?_)
  refine lv_iconst (v := nI 0) hx hb dX6_plainBeginOf_2 (by decide) ?_
  refine lv_istore_n (lv' := [(3, .int (nI 0)), (2, .int (nI 0)), (0, .ref at_), (1, .int (nI w))]) hx hb dX6_plainBeginOf_3 rfl hl (by decide) rfl (fun ls hl => ?_)
  have hlo : ∀ (z : Nat) (i : Nat), (i + z = w) → ∀ (ls : Array Slot), lv_has ls 4 [(3, .int (nI i)), (2, .int (nI (cn out i))), (0, .ref at_), (1, .int (nI w))] → W p l e ({ frames := 2, cells := 0, slots := 0, locals := 41 } : Room) s m ([.ref at_, .int (nI w)] : List Value).toArray below meth c s.heap [] 0 0 (MQ below (vp_Si (fun r : Int32 => r = nI (cn out w))) ([.ref at_, .int (nI w)] : List Value).toArray s 0 0 (fun _ => False)) (F0 m 4 ls []) := by
    intro z
    induction z with
    | zero =>
      intro i hiz ls hl
      refine lv_iload_n hx hb dX6_plainBeginOf_4 rfl (lv_at hl 0 rfl) ?_
      refine lv_iload_n hx hb dX6_plainBeginOf_5 rfl (lv_at hl 3 rfl) ?_
      refine bn_ge (tgt := 33) hx hb dX6_plainBeginOf_6 (by decide) (by omega) (by omega) (fun h1 => ?_) (fun h1 => ?_)
      · refine lv_iload_n hx hb dX6_plainBeginOf_33 rfl (lv_at hl 1 rfl) ?_
        exact ro_iret hx hb hr hlocks (by rw [show i = w by omega]) dX6_plainBeginOf_34
      · exact absurd h1 (by omega)
    | succ z ih =>
      intro i hiz ls hl
      refine lv_iload_n hx hb dX6_plainBeginOf_4 rfl (lv_at hl 0 rfl) ?_
      refine lv_iload_n hx hb dX6_plainBeginOf_5 rfl (lv_at hl 3 rfl) ?_
      refine bn_ge (tgt := 33) hx hb dX6_plainBeginOf_6 (by decide) (by omega) (by omega) (fun h1 => ?_) (fun h1 => ?_)
      · exact absurd h1 (by omega)
      · refine lv_iload_n hx hb dX6_plainBeginOf_9 rfl (lv_at hl 0 rfl) ?_
        refine lv_sipush (v := nI 256) hx hb dX6_plainBeginOf_10 (by decide) ?_
        refine bn_ge (tgt := 33) hx hb dX6_plainBeginOf_13 (by decide) (by omega) (by omega) (fun h2 => ?_) (fun h2 => ?_)
        · exact absurd h2 (by omega)
        · refine lv_aload_n hx hb dX6_plainBeginOf_16 rfl (lv_at hl 2 rfl) ?_
          refine lv_iload_n hx hb dX6_plainBeginOf_17 rfl (lv_at hl 0 rfl) ?_
          refine vp_callSi (va_Run.run (va_runV (As := [.int (nI i)]) (rest := []) ⟨hx, hb, hml, hown, hts⟩ (c_T_isOut l D ca at_ as_ qo ql qm am li lt tn ou to os out i (hO) (by omega)) (cwV 1 hts gX6_plainBeginOf_X6_isOut rfl rfl rfl (by decide +kernel) ⟨Nat.le_of_ble_eq_true rfl, Nat.le_of_ble_eq_true rfl⟩) ⟨roP_blind, va_recv hK hP (ci := 5) (q0 := 0) rfl rfl, roP_at hK hN (hP.sub [0, 1] rfl)⟩ rfl rfl hl.1 rfl (lv_room (Nat.le_of_ble_eq_true rfl)) dX6_plainBeginOf_18 ⟨Nat.le_of_ble_eq_true rfl, Nat.le_of_ble_eq_true rfl⟩)) (fun r_1 hq => ?_)
          subst hq
          refine bb_ne (tgt := 27) hx hb dX6_plainBeginOf_21 (by decide) (fun h3 => ?_) (fun h3 => ?_)
          · refine lv_iinc (v := nI (i + 1)) (lv' := [(3, .int (nI (i + 1))), (2, .int (nI (cn out i))), (0, .ref at_), (1, .int (nI w))]) hx hb dX6_plainBeginOf_27 hl (k := 0) rfl (nI_1 _) (by decide) rfl (fun ls hl => ?_)
            refine lv_goto (tgt := 4) hx hb dX6_plainBeginOf_30 (by decide) ?_
            have e5 : cn out (i + 1) = cn out i := by show cn out i + _ = _; rw [if_pos h3]; rfl
            rw [← e5] at hl
            exact ih (i + 1) (by omega) _ (lv_sub hl [0, 1, 2, 3] rfl)
          · refine lv_iinc (v := nI ((cn out i) + 1)) (lv' := [(2, .int (nI ((cn out i) + 1))), (3, .int (nI i)), (0, .ref at_), (1, .int (nI w))]) hx hb dX6_plainBeginOf_24 hl (k := 1) rfl (nI_1 _) (by decide) rfl (fun ls hl => ?_)
            refine lv_iinc (v := nI (i + 1)) (lv' := [(3, .int (nI (i + 1))), (2, .int (nI ((cn out i) + 1))), (0, .ref at_), (1, .int (nI w))]) hx hb dX6_plainBeginOf_27 hl (k := 1) rfl (nI_1 _) (by decide) rfl (fun ls hl => ?_)
            refine lv_goto (tgt := 4) hx hb dX6_plainBeginOf_30 (by decide) ?_
            have e5 : cn out (i + 1) = cn out i + 1 := by show cn out i + _ = _; rw [if_neg (by rw [h3]; decide)]
            rw [← e5] at hl
            exact ih (i + 1) (by omega) _ (lv_sub hl [0, 1, 2, 3] rfl)
  exact hlo w 0 (by omega) _ (lv_sub hl [0, 1, 2, 3] rfl)

set_option maxHeartbeats 4000000 in
set_option maxRecDepth 100000 in
theorem c_T_plainBegin_n (l : Launch) (D : va_G) (ca : Nat → ClassId) (at_ : Nat) (as_ : Nat) (qo : Nat) (ql : Nat) (qm : Nat) (am : Nat) (li : Nat) (lt : Nat) (tn : Nat) (ou : Nat) (to : Int32)  : Met l yX6_plainBeginOf wsX6_plainBeginOf { frames := 0, cells := 0, slots := 0, locals := 0 } (roP D vwCl (ATy ca) [(at_, .inr (5, [.ref am, .ref as_, .ref qo, .ref ql, .ref qm, .int (nI li), .int (nI lt), .int (nI tn), .int (nI ou), .int to]))] [.ref at_, .int (-1)]) (vp_Si (fun r : Int32 => r = nI 0)) 0 0 (fun _ => False) := by
  refine ro_enter (by decide) rfl (Nat.le_of_ble_eq_true rfl) ?_
  intro p e s m below meth c ls C hK hN hP hl
  obtain ⟨hx, hb, hr, hml, hown, hlocks, hts⟩ := C
  have hl : lv_has ls 4 [(0, .ref at_), (1, .int (-1))] := hl
  refine lv_iconst (v := nI 0) hx hb dX6_plainBeginOf_0 (by decide) ?_
  refine lv_istore_n (lv' := [(2, .int (nI 0)), (0, .ref at_), (1, .int (-1))]) hx hb dX6_plainBeginOf_1 rfl hl (by decide) rfl (fun ls hl => ?_)
  refine lv_iconst (v := nI 0) hx hb dX6_plainBeginOf_2 (by decide) ?_
  refine lv_istore_n (lv' := [(3, .int (nI 0)), (2, .int (nI 0)), (0, .ref at_), (1, .int (-1))]) hx hb dX6_plainBeginOf_3 rfl hl (by decide) rfl (fun ls hl => ?_)
  refine lv_iload_n hx hb dX6_plainBeginOf_4 rfl (lv_at hl 0 rfl) ?_
  refine lv_iload_n hx hb dX6_plainBeginOf_5 rfl (lv_at hl 3 rfl) ?_
  refine lv_icmp_ge (tgt := 33) hx hb dX6_plainBeginOf_6 (by decide) (fun h1 => ?_) (fun h1 => ?_)
  · refine lv_iload_n hx hb dX6_plainBeginOf_33 rfl (lv_at hl 1 rfl) ?_
    exact ro_iret hx hb hr hlocks (rfl) dX6_plainBeginOf_34
  · exact absurd (by decide) h1

set_option maxHeartbeats 4000000 in
set_option maxRecDepth 100000 in
theorem c_T_plainSym (l : Launch) (D : va_G) (ca : Nat → ClassId) (at_ : Nat) (as_ : Nat) (qo : Nat) (ql : Nat) (qm : Nat) (am : Nat) (li : Nat) (lt : Nat) (tn : Nat) (ou : Nat) (to : Int32) (os : Nat → Int32) (out : Nat → Bool) (pl : Nat) (hO : OR os tn out) (hpl : pl < 2 ^ 30) : Met l yX6_plainSymbolAt wsX6_plainSymbolAt { frames := 2, cells := 0, slots := 0, locals := 41 } (roP D vwCl (ATy ca) [(at_, .inr (5, [.ref am, .ref as_, .ref qo, .ref ql, .ref qm, .int (nI li), .int (nI lt), .int (nI tn), .int (nI ou), .int to])), (qo, .inl (ca 0, 256, .inl os))] [.ref at_, .int (nI pl)]) (vp_Si (fun r : Int32 => r = nI (symAt out pl))) 0 0 (fun _ => False) := by
  refine ro_enter (by decide) rfl (Nat.le_of_ble_eq_true rfl) ?_
  intro p e s m below meth c ls C hK hN hP hl
  obtain ⟨hx, hb, hr, hml, hown, hlocks, hts⟩ := C
  have hl : lv_has ls 4 [(0, .ref at_), (1, .int (nI pl))] := hl
  refine lv_iconst (v := nI 0) hx hb dX6_plainSymbolAt_0 (by decide) ?_
  refine lv_istore_n (lv' := [(2, .int (nI 0)), (0, .ref at_), (1, .int (nI pl))]) hx hb dX6_plainSymbolAt_1 rfl hl (by decide) rfl (fun ls hl => ?_)
  refine lv_iconst (v := nI 0) hx hb dX6_plainSymbolAt_2 (by decide) ?_
  refine lv_istore_n (lv' := [(3, .int (nI 0)), (2, .int (nI 0)), (0, .ref at_), (1, .int (nI pl))]) hx hb dX6_plainSymbolAt_3 rfl hl (by decide) rfl (fun ls hl => ?_)
  have hlo : ∀ (z : Nat) (i : Nat), (i + z = 256) → (∀ b, b < i → ¬ (!(out b) && cn out b == pl) = true) → ∀ (ls : Array Slot), lv_has ls 4 [(3, .int (nI i)), (2, .int (nI (cn out i))), (0, .ref at_), (1, .int (nI pl))] → W p l e ({ frames := 2, cells := 0, slots := 0, locals := 41 } : Room) s m ([.ref at_, .int (nI pl)] : List Value).toArray below meth c s.heap [] 0 0 (MQ below (vp_Si (fun r : Int32 => r = nI (symAt out pl))) ([.ref at_, .int (nI pl)] : List Value).toArray s 0 0 (fun _ => False)) (F0 m 4 ls []) := by
    intro z
    induction z with
    | zero =>
      intro i hiz hno ls hl
      refine lv_iload_n hx hb dX6_plainSymbolAt_4 rfl (lv_at hl 0 rfl) ?_
      refine lv_sipush (v := nI 256) hx hb dX6_plainSymbolAt_5 (by decide) ?_
      refine bn_ge (tgt := 35) hx hb dX6_plainSymbolAt_8 (by decide) (by omega) (by omega) (fun h1 => ?_) (fun h1 => ?_)
      · refine lv_sipush (v := nI 256) hx hb dX6_plainSymbolAt_35 (by decide) ?_
        exact ro_iret hx hb hr hlocks (by rw [symAt_none (fun b hb => hno b (by omega))]) dX6_plainSymbolAt_38
      · exact absurd h1 (by omega)
    | succ z ih =>
      intro i hiz hno ls hl
      have hci := cn_le out i
      refine lv_iload_n hx hb dX6_plainSymbolAt_4 rfl (lv_at hl 0 rfl) ?_
      refine lv_sipush (v := nI 256) hx hb dX6_plainSymbolAt_5 (by decide) ?_
      refine bn_ge (tgt := 35) hx hb dX6_plainSymbolAt_8 (by decide) (by omega) (by omega) (fun h1 => ?_) (fun h1 => ?_)
      · exact absurd h1 (by omega)
      · refine lv_aload_n hx hb dX6_plainSymbolAt_11 rfl (lv_at hl 2 rfl) ?_
        refine lv_iload_n hx hb dX6_plainSymbolAt_12 rfl (lv_at hl 0 rfl) ?_
        refine vp_callSi (va_Run.run (va_runV (As := [.int (nI i)]) (rest := []) ⟨hx, hb, hml, hown, hts⟩ (c_T_isOut l D ca at_ as_ qo ql qm am li lt tn ou to os out i (hO) (by omega)) (cwV 1 hts gX6_plainSymbolAt_X6_isOut rfl rfl rfl (by decide +kernel) ⟨Nat.le_of_ble_eq_true rfl, Nat.le_of_ble_eq_true rfl⟩) ⟨roP_blind, va_recv hK hP (ci := 5) (q0 := 0) rfl rfl, roP_at hK hN (hP.sub [0, 1] rfl)⟩ rfl rfl hl.1 rfl (lv_room (Nat.le_of_ble_eq_true rfl)) dX6_plainSymbolAt_13 ⟨Nat.le_of_ble_eq_true rfl, Nat.le_of_ble_eq_true rfl⟩)) (fun r_1 hq => ?_)
        subst hq
        refine bb_ne (tgt := 29) hx hb dX6_plainSymbolAt_16 (by decide) (fun h3 => ?_) (fun h3 => ?_)
        · refine lv_iinc (v := nI (i + 1)) (lv' := [(3, .int (nI (i + 1))), (2, .int (nI (cn out i))), (0, .ref at_), (1, .int (nI pl))]) hx hb dX6_plainSymbolAt_29 hl (k := 0) rfl (nI_1 _) (by decide) rfl (fun ls hl => ?_)
          refine lv_goto (tgt := 4) hx hb dX6_plainSymbolAt_32 (by decide) ?_
          have e5 : cn out (i + 1) = cn out i := by show cn out i + _ = _; rw [if_pos h3]; rfl
          rw [← e5] at hl
          exact ih (i + 1) (by omega) (fun b hb => by
            by_cases e6 : b = i
            · subst e6
              simp [h3]
            · exact hno b (by omega)) _ (lv_sub hl [0, 1, 2, 3] rfl)
        · refine lv_iload_n hx hb dX6_plainSymbolAt_19 rfl (lv_at hl 1 rfl) ?_
          refine lv_iload_n hx hb dX6_plainSymbolAt_20 rfl (lv_at hl 3 rfl) ?_
          refine bn_ne (tgt := 26) hx hb dX6_plainSymbolAt_21 (by decide) (by omega) (by omega) (fun h4 => ?_) (fun h4 => ?_)
          · refine lv_iinc (v := nI ((cn out i) + 1)) (lv' := [(2, .int (nI ((cn out i) + 1))), (3, .int (nI i)), (0, .ref at_), (1, .int (nI pl))]) hx hb dX6_plainSymbolAt_26 hl (k := 1) rfl (nI_1 _) (by decide) rfl (fun ls hl => ?_)
            refine lv_iinc (v := nI (i + 1)) (lv' := [(3, .int (nI (i + 1))), (2, .int (nI ((cn out i) + 1))), (0, .ref at_), (1, .int (nI pl))]) hx hb dX6_plainSymbolAt_29 hl (k := 1) rfl (nI_1 _) (by decide) rfl (fun ls hl => ?_)
            refine lv_goto (tgt := 4) hx hb dX6_plainSymbolAt_32 (by decide) ?_
            have e5 : cn out (i + 1) = cn out i + 1 := by show cn out i + _ = _; rw [if_neg (by rw [h3]; decide)]
            rw [← e5] at hl
            exact ih (i + 1) (by omega) (fun b hb => by
              by_cases e6 : b = i
              · subst e6
                simp [h3, h4]
              · exact hno b (by omega)) _ (lv_sub hl [0, 1, 2, 3] rfl)
          · refine lv_iload_n hx hb dX6_plainSymbolAt_24 rfl (lv_at hl 0 rfl) ?_
            exact ro_iret hx hb hr hlocks (by rw [symAt_some h1 (by simp [h3, h4]) hno]) dX6_plainSymbolAt_25
  exact hlo 256 0 rfl (fun b hb => absurd hb (Nat.not_lt_zero _)) _ (lv_sub hl [0, 1, 2, 3] rfl)
