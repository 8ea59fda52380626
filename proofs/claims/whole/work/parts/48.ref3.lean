set_option maxHeartbeats 4000000 in
set_option maxRecDepth 100000 in
theorem c_x_learn (l : Launch) (D : va_G) (ca : Nat → ClassId) (ra : Nat) (yt : Nat) (yc : Nat) (yo : Nat) (yk : Nat) (ys : Nat) (yn : Nat) (y0 : Nat) (y1 : Nat) (y2 : Nat) (y3 : Nat) (yz : Nat) (Tx : List Nat) (Cd : List Nat) (Ox : List Nat) (N : List Nd) (st : List Stq) (lim : Nat) (sh : Nat) (rs : Nat) (rt : Nat) (rg : Nat) (rd_ : Int32) (fl : Int32) (nx : Int32) (ti : Int32) (ab : Int64) (hs : List Nat) (uk : Nat → Int32) (us : Nat → Int32) (un : Nat → Int32) (b : Nat) (lo : Nat) (td : Int32) (Q : List Nd × Nat × Nat) (hNN : NN uk us un N) (hok : okN N) (hbb : b < 256) (hlim : N.length ≤ lim ∧ lim ≤ 6000) (hhs : ∀ j, hs.getD j 0 < 256) (hhl : hs.length < 2 ^ 30) (htd : (if td < nI 0 then nI 0 else td) = nI lo) (hlo2 : lo < 2 ^ 30) (hQ : lrn lim (kAt hs) b lo (topO hs + 1) (N, rs, rt) = Q) (sz : Nat) : Met l yX8_learn wsX8_learn { frames := 2, cells := 0, slots := 0, locals := 43 } (rwP D vwCl (ATy ca) [(ra, .inr (7, [.ref yt, .int (nI Tx.length), .ref yc, .int (nI Cd.length), .ref yo, .int (nI Ox.length), .int (nI lim), .ref yk, .ref ys, .ref yn, .int (nI N.length), .ref y0, .ref y1, .ref y2, .ref y3, .int (nI st.length), .int (nI (escN st)), .int (nI sh), .int (nI rs), .int (nI rt), .long (lN rg), .ref yz, .int (nI (hs.getD 0 0)), .int (nI (hs.getD 1 0)), .int (nI hs.length), .int rd_, .int fl, .long ab, .int nx, .int ti])), (yk, .inl (ca 0, 6000, .inl uk)), (ys, .inl (ca 3, 6000, .inl us)), (yn, .inl (ca 3, 6000, .inl un))] sz [.ref ra, .int (nI b), .int td]) (va_Qv (fun (u : (Nat → Int32) × (Nat → Int32) × (Nat → Int32)) => NN u.1 u.2.1 u.2.2 Q.1) (bB D vwCl (fun (u : (Nat → Int32) × (Nat → Int32) × (Nat → Int32)) => [(ra, .inr (7, [.ref yt, .int (nI Tx.length), .ref yc, .int (nI Cd.length), .ref yo, .int (nI Ox.length), .int (nI lim), .ref yk, .ref ys, .ref yn, .int (nI Q.1.length), .ref y0, .ref y1, .ref y2, .ref y3, .int (nI st.length), .int (nI (escN st)), .int (nI sh), .int (nI Q.2.1), .int (nI Q.2.2), .long (lN rg), .ref yz, .int (nI (hs.getD 0 0)), .int (nI (hs.getD 1 0)), .int (nI hs.length), .int rd_, .int fl, .long ab, .int nx, .int ti])), (yk, .inl (ca 0, 6000, .inl u.1)), (ys, .inl (ca 3, 6000, .inl u.2.1)), (yn, .inl (ca 3, 6000, .inl u.2.2))]) (va_A [(ra, .inr (7, [.ref yt, .int (nI Tx.length), .ref yc, .int (nI Cd.length), .ref yo, .int (nI Ox.length), .int (nI lim), .ref yk, .ref ys, .ref yn, .int (nI N.length), .ref y0, .ref y1, .ref y2, .ref y3, .int (nI st.length), .int (nI (escN st)), .int (nI sh), .int (nI rs), .int (nI rt), .long (lN rg), .ref yz, .int (nI (hs.getD 0 0)), .int (nI (hs.getD 1 0)), .int (nI hs.length), .int rd_, .int fl, .long ab, .int nx, .int ti])), (yk, .inl (ca 0, 6000, .inl uk)), (ys, .inl (ca 3, 6000, .inl us)), (yn, .inl (ca 3, 6000, .inl un))] sz)) (va_A [(ra, .inr (7, [.ref yt, .int (nI Tx.length), .ref yc, .int (nI Cd.length), .ref yo, .int (nI Ox.length), .int (nI lim), .ref yk, .ref ys, .ref yn, .int (nI N.length), .ref y0, .ref y1, .ref y2, .ref y3, .int (nI st.length), .int (nI (escN st)), .int (nI sh), .int (nI rs), .int (nI rt), .long (lN rg), .ref yz, .int (nI (hs.getD 0 0)), .int (nI (hs.getD 1 0)), .int (nI hs.length), .int rd_, .int fl, .long ab, .int nx, .int ti])), (yk, .inl (ca 0, 6000, .inl uk)), (ys, .inl (ca 3, 6000, .inl us)), (yn, .inl (ca 3, 6000, .inl un))] sz)) 0 0 (va_A [(ra, .inr (7, [.ref yt, .int (nI Tx.length), .ref yc, .int (nI Cd.length), .ref yo, .int (nI Ox.length), .int (nI lim), .ref yk, .ref ys, .ref yn, .int (nI N.length), .ref y0, .ref y1, .ref y2, .ref y3, .int (nI st.length), .int (nI (escN st)), .int (nI sh), .int (nI rs), .int (nI rt), .long (lN rg), .ref yz, .int (nI (hs.getD 0 0)), .int (nI (hs.getD 1 0)), .int (nI hs.length), .int rd_, .int fl, .long ab, .int nx, .int ti])), (yk, .inl (ca 0, 6000, .inl uk)), (ys, .inl (ca 3, 6000, .inl us)), (yn, .inl (ca 3, 6000, .inl un))] sz) := by
  refine rw_enter (Q := fun A => va_Qv (fun (u : (Nat → Int32) × (Nat → Int32) × (Nat → Int32)) => NN u.1 u.2.1 u.2.2 Q.1) (bB D vwCl (fun (u : (Nat → Int32) × (Nat → Int32) × (Nat → Int32)) => [(ra, .inr (7, [.ref yt, .int (nI Tx.length), .ref yc, .int (nI Cd.length), .ref yo, .int (nI Ox.length), .int (nI lim), .ref yk, .ref ys, .ref yn, .int (nI Q.1.length), .ref y0, .ref y1, .ref y2, .ref y3, .int (nI st.length), .int (nI (escN st)), .int (nI sh), .int (nI Q.2.1), .int (nI Q.2.2), .long (lN rg), .ref yz, .int (nI (hs.getD 0 0)), .int (nI (hs.getD 1 0)), .int (nI hs.length), .int rd_, .int fl, .long ab, .int nx, .int ti])), (yk, .inl (ca 0, 6000, .inl u.1)), (ys, .inl (ca 3, 6000, .inl u.2.1)), (yn, .inl (ca 3, 6000, .inl u.2.2))]) A) A) (by decide) rfl (Nat.le_of_ble_eq_true rfl) ?_
  intro p e s m below meth c ls A C hnm hK hN hP hD hA hl
  have hS : va_S A s.heap s.heap [] := va_S.rf
  obtain ⟨hx, hb, hr, hml, hown, hlocks, hts⟩ := C
  have hl : lv_has ls 7 [(0, .ref ra), (1, .int (nI b)), (2, .int td)] := hl
  have hin_X8 : ∀ w ∈ wsX80, w ∈ wsX8_learn := by decide +kernel
  have hl_70 := hts (.fieldLink RX8 70 "EscapeCoderModel" "nodes" "I") (by decide +kernel)
  have hl_19 := hts (.fieldLink RX8 19 "EscapeCoderModel" "limit" "I") (by decide +kernel)
  have hl_85 := hts (.fieldLink RX8 85 "EscapeCoderModel" "resets" "I") (by decide +kernel)
  have hl_23 := hts (.fieldLink RX8 23 "EscapeCoderModel" "context" "[I") (by decide +kernel)
  have hl_27 := hts (.fieldLink RX8 27 "EscapeCoderModel" "symbol" "[S") (by decide +kernel)
  have hl_31 := hts (.fieldLink RX8 31 "EscapeCoderModel" "counts" "[S") (by decide +kernel)
  have hl_88 := hts (.fieldLink RX8 88 "EscapeCoderModel" "told" "I") (by decide +kernel)
  have hto := topO_le hs
  have hkb : ∀ o, kAt hs o < 131072 := kAt_lt hhs
  have hlo : ∀ (z : Nat) (rs1 : Nat) (rt1 : Nat) (N1 : List Nd) (uk1 : Nat → Int32) (us1 : Nat → Int32) (un1 : Nat → Int32), (NN uk1 us1 un1 N1) → (okN N1) → (N1.length ≤ lim) → (z ≤ topO hs + 1) → (lrn lim (kAt hs) b lo z (N1, rs1, rt1) = Q) → ∀ (H : Heap) (locs : List Loc), va_P D vwCl [(ra, .inr (7, [.ref yt, .int (nI Tx.length), .ref yc, .int (nI Cd.length), .ref yo, .int (nI Ox.length), .int (nI lim), .ref yk, .ref ys, .ref yn, .int (nI N1.length), .ref y0, .ref y1, .ref y2, .ref y3, .int (nI st.length), .int (nI (escN st)), .int (nI sh), .int (nI rs1), .int (nI rt1), .long (lN rg), .ref yz, .int (nI (hs.getD 0 0)), .int (nI (hs.getD 1 0)), .int (nI hs.length), .int rd_, .int fl, .long ab, .int nx, .int ti])), (yk, .inl (ca 0, 6000, .inl uk1)), (ys, .inl (ca 3, 6000, .inl us1)), (yn, .inl (ca 3, 6000, .inl un1))] H → va_D A [(ra, .inr (7, [.ref yt, .int (nI Tx.length), .ref yc, .int (nI Cd.length), .ref yo, .int (nI Ox.length), .int (nI lim), .ref yk, .ref ys, .ref yn, .int (nI N1.length), .ref y0, .ref y1, .ref y2, .ref y3, .int (nI st.length), .int (nI (escN st)), .int (nI sh), .int (nI rs1), .int (nI rt1), .long (lN rg), .ref yz, .int (nI (hs.getD 0 0)), .int (nI (hs.getD 1 0)), .int (nI hs.length), .int rd_, .int fl, .long ab, .int nx, .int ti])), (yk, .inl (ca 0, 6000, .inl uk1)), (ys, .inl (ca 3, 6000, .inl us1)), (yn, .inl (ca 3, 6000, .inl un1))] → va_S A s.heap H locs → ∀ (ls : Array Slot), lv_has ls 7 [(4, .int (nI z - nI 1)), (3, .int (nI lo)), (0, .ref ra), (1, .int (nI b)), (2, .int td)] → W p l e ({ frames := 2, cells := 0, slots := 0, locals := 43 } : Room) s m ([.ref ra, .int (nI b), .int td] : List Value).toArray below meth c H locs 0 0 (MQ below (va_Qv (fun (u : (Nat → Int32) × (Nat → Int32) × (Nat → Int32)) => NN u.1 u.2.1 u.2.2 Q.1) (bB D vwCl (fun (u : (Nat → Int32) × (Nat → Int32) × (Nat → Int32)) => [(ra, .inr (7, [.ref yt, .int (nI Tx.length), .ref yc, .int (nI Cd.length), .ref yo, .int (nI Ox.length), .int (nI lim), .ref yk, .ref ys, .ref yn, .int (nI Q.1.length), .ref y0, .ref y1, .ref y2, .ref y3, .int (nI st.length), .int (nI (escN st)), .int (nI sh), .int (nI Q.2.1), .int (nI Q.2.2), .long (lN rg), .ref yz, .int (nI (hs.getD 0 0)), .int (nI (hs.getD 1 0)), .int (nI hs.length), .int rd_, .int fl, .long ab, .int nx, .int ti])), (yk, .inl (ca 0, 6000, .inl u.1)), (ys, .inl (ca 3, 6000, .inl u.2.1)), (yn, .inl (ca 3, 6000, .inl u.2.2))]) A) A) ([.ref ra, .int (nI b), .int td] : List Value).toArray s 0 0 A) (F0 m 28 ls []) := by
    intro z
    induction z with
    | zero =>
      intro rs1 rt1 N1 uk1 us1 un1 hN1 hok1 hlen hz hE H locs hP hD hS ls hl
      refine lv_iload hx hb dX8_learn_28 (lv_at hl 0 rfl) ?_
      refine lv_iload_n hx hb dX8_learn_30 rfl (lv_at hl 1 rfl) ?_
      refine lv_icmp_lt (tgt := 166) hx hb dX8_learn_31 (by decide) (fun h1 => ?_) (fun h1 => ?_)
      · have hE1 : (N1, rs1, rt1) = Q := hE
        have hP : va_P D vwCl [(ra, .inr (7, [.ref yt, .int (nI Tx.length), .ref yc, .int (nI Cd.length), .ref yo, .int (nI Ox.length), .int (nI lim), .ref yk, .ref ys, .ref yn, .int (nI Q.1.length), .ref y0, .ref y1, .ref y2, .ref y3, .int (nI st.length), .int (nI (escN st)), .int (nI sh), .int (nI Q.2.1), .int (nI Q.2.2), .long (lN rg), .ref yz, .int (nI (hs.getD 0 0)), .int (nI (hs.getD 1 0)), .int (nI hs.length), .int rd_, .int fl, .long ab, .int nx, .int ti])), (yk, .inl (ca 0, 6000, .inl uk1)), (ys, .inl (ca 3, 6000, .inl us1)), (yn, .inl (ca 3, 6000, .inl un1))] H := by rw [← hE1]; exact hP
        have hD : va_D A [(ra, .inr (7, [.ref yt, .int (nI Tx.length), .ref yc, .int (nI Cd.length), .ref yo, .int (nI Ox.length), .int (nI lim), .ref yk, .ref ys, .ref yn, .int (nI Q.1.length), .ref y0, .ref y1, .ref y2, .ref y3, .int (nI st.length), .int (nI (escN st)), .int (nI sh), .int (nI Q.2.1), .int (nI Q.2.2), .long (lN rg), .ref yz, .int (nI (hs.getD 0 0)), .int (nI (hs.getD 1 0)), .int (nI hs.length), .int rd_, .int fl, .long ab, .int nx, .int ti])), (yk, .inl (ca 0, 6000, .inl uk1)), (ys, .inl (ca 3, 6000, .inl us1)), (yn, .inl (ca 3, 6000, .inl un1))] := by rw [← hE1]; exact hD
        exact rw_vret (u := (uk1, us1, un1)) hx hb hr hlocks (by rw [← hE1]; exact hN1) (hP.sub [0, 1, 2, 3] rfl) (hD.sub [0, 1, 2, 3] (by decide) rfl) hS (Nat.le_refl _) (Nat.le_refl _) dX8_learn_166
      · exact absurd (pred_lt (by omega)) h1
    | succ z ih =>
      intro rs1 rt1 N1 uk1 us1 un1 hN1 hok1 hlen hz hE H locs hP hD hS ls hl
      rw [pred_s] at hl
      refine lv_iload hx hb dX8_learn_28 (lv_at hl 0 rfl) ?_
      refine lv_iload_n hx hb dX8_learn_30 rfl (lv_at hl 1 rfl) ?_
      refine bn_lt (tgt := 166) hx hb dX8_learn_31 (by decide) (by omega) (by omega) (fun h1 => ?_) (fun h1 => ?_)
      · have hE1 : (N1, rs1, rt1) = Q := by rw [← hE, lrn_s, if_pos h1]
        have hP : va_P D vwCl [(ra, .inr (7, [.ref yt, .int (nI Tx.length), .ref yc, .int (nI Cd.length), .ref yo, .int (nI Ox.length), .int (nI lim), .ref yk, .ref ys, .ref yn, .int (nI Q.1.length), .ref y0, .ref y1, .ref y2, .ref y3, .int (nI st.length), .int (nI (escN st)), .int (nI sh), .int (nI Q.2.1), .int (nI Q.2.2), .long (lN rg), .ref yz, .int (nI (hs.getD 0 0)), .int (nI (hs.getD 1 0)), .int (nI hs.length), .int rd_, .int fl, .long ab, .int nx, .int ti])), (yk, .inl (ca 0, 6000, .inl uk1)), (ys, .inl (ca 3, 6000, .inl us1)), (yn, .inl (ca 3, 6000, .inl un1))] H := by rw [← hE1]; exact hP
        have hD : va_D A [(ra, .inr (7, [.ref yt, .int (nI Tx.length), .ref yc, .int (nI Cd.length), .ref yo, .int (nI Ox.length), .int (nI lim), .ref yk, .ref ys, .ref yn, .int (nI Q.1.length), .ref y0, .ref y1, .ref y2, .ref y3, .int (nI st.length), .int (nI (escN st)), .int (nI sh), .int (nI Q.2.1), .int (nI Q.2.2), .long (lN rg), .ref yz, .int (nI (hs.getD 0 0)), .int (nI (hs.getD 1 0)), .int (nI hs.length), .int rd_, .int fl, .long ab, .int nx, .int ti])), (yk, .inl (ca 0, 6000, .inl uk1)), (ys, .inl (ca 3, 6000, .inl us1)), (yn, .inl (ca 3, 6000, .inl un1))] := by rw [← hE1]; exact hD
        exact rw_vret (u := (uk1, us1, un1)) hx hb hr hlocks (by rw [← hE1]; exact hN1) (hP.sub [0, 1, 2, 3] rfl) (hD.sub [0, 1, 2, 3] (by decide) rfl) hS (Nat.le_refl _) (Nat.le_refl _) dX8_learn_166
      · rw [lrn_s, if_neg (show ¬ z < lo by omega)] at hE
        have hokn := lrn1_ok (rs := rs1) (rt := rt1) hok1 hlen (hkb z) hbb
        have hlnn := lrn1_len (k := kAt hs z) (b := b) (q := (N1, rs1, rt1)) hlen
        refine lv_aload_n hx hb dX8_learn_34 rfl (lv_at hl 2 rfl) ?_
        refine lv_iload hx hb dX8_learn_35 (lv_at hl 0 rfl) ?_
        refine vp_callSi (va_Run.run (va_runV (As := [.int (nI z)]) (rest := []) ⟨hx, hb, hml, hown, hts⟩ (c_x_here l D ca ra yt yc yo yk ys yn y0 y1 y2 y3 yz Tx Cd Ox N1 st lim sh rs1 rt1 rg rd_ fl nx ti ab hs z (by omega)) (cwV 1 hts gX8_learn_X8_here rfl rfl rfl (by decide +kernel) ⟨Nat.le_of_ble_eq_true rfl, Nat.le_of_ble_eq_true rfl⟩) ⟨roP_blind, va_recv hK hP (ci := 7) (q0 := 0) rfl rfl, roP_at hK hN (hP.sub [0] rfl)⟩ rfl rfl hl.1 rfl (lv_room (Nat.le_of_ble_eq_true rfl)) dX8_learn_37 ⟨Nat.le_of_ble_eq_true rfl, Nat.le_of_ble_eq_true rfl⟩)) (fun r_1 hhe => ?_)
        subst hhe
        refine lv_istore (lv' := [(5, .int (nI (kAt hs z))), (4, .int (nI z)), (3, .int (nI lo)), (0, .ref ra), (1, .int (nI b)), (2, .int td)]) hx hb dX8_learn_40 hl (by decide) rfl (fun ls hl => ?_)
        refine lv_aload_n hx hb dX8_learn_42 rfl (lv_at hl 3 rfl) ?_
        refine lv_iload hx hb dX8_learn_43 (lv_at hl 0 rfl) ?_
        refine lv_iload_n hx hb dX8_learn_45 rfl (lv_at hl 4 rfl) ?_
        refine vp_callSi (va_Run.run (va_runV (As := [.int (nI (kAt hs z)), .int (nI b)]) (rest := []) ⟨hx, hb, hml, hown, hts⟩ (c_x_find l D ca ra yt yc yo yk ys yn y0 y1 y2 y3 yz Tx Cd Ox N1 st lim sh rs1 rt1 rg (nI (hs.getD 0 0)) (nI (hs.getD 1 0)) (nI hs.length) rd_ fl nx ti ab uk1 us1 un1 (kAt hs z) (nI b) (hN1) (hok1) (by omega) (hkb z)) (cwV 2 hts gX8_learn_X8_find rfl rfl rfl (by decide +kernel) ⟨Nat.le_of_ble_eq_true rfl, Nat.le_of_ble_eq_true rfl⟩) ⟨roP_blind, va_recv hK hP (ci := 7) (q0 := 0) rfl rfl, roP_at hK hN (hP.sub [0, 1, 2, 3] rfl)⟩ rfl rfl hl.1 rfl (lv_room (Nat.le_of_ble_eq_true rfl)) dX8_learn_46 ⟨Nat.le_of_ble_eq_true rfl, Nat.le_of_ble_eq_true rfl⟩)) (fun r_2 hfi => ?_)
        rcases hnx : nix N1 (kAt hs z) (nI b) with _ | j
        · rw [hnx] at hfi
          subst hfi
          have hna := nix_n hbb hnx
          refine lv_istore (lv' := [(6, .int (-1)), (5, .int (nI (kAt hs z))), (4, .int (nI z)), (3, .int (nI lo)), (0, .ref ra), (1, .int (nI b)), (2, .int td)]) hx hb dX8_learn_49 hl (by decide) rfl (fun ls hl => ?_)
          refine lv_iload hx hb dX8_learn_51 (lv_at hl 0 rfl) ?_
          refine lv_iconst (v := (-1)) hx hb dX8_learn_53 (by decide) ?_
          refine lv_icmp_ne (tgt := 129) hx hb dX8_learn_54 (by decide) (fun h2 => ?_) (fun h2 => ?_)
          · exact absurd rfl h2
          · refine lv_aload_n hx hb dX8_learn_57 rfl (lv_at hl 4 rfl) ?_
            refine va_get (D := D) (ci := 7) (v := .int (nI N1.length)) (C := RX8) (T := TX8) (N := 30) hx hb hts hin_X8 hown hK hP 0 rfl rfl 10 (by decide) hl_70 (fun _ h9 => h9) rfl dX8_learn_58 ?_
            refine lv_aload_n hx hb dX8_learn_61 rfl (lv_at hl 4 rfl) ?_
            refine va_get (D := D) (ci := 7) (v := .int (nI lim)) (C := RX8) (T := TX8) (N := 30) hx hb hts hin_X8 hown hK hP 0 rfl rfl 6 (by decide) hl_19 (fun _ h9 => h9) rfl dX8_learn_62 ?_
            refine bn_ne (tgt := 84) hx hb dX8_learn_65 (by decide) (by omega) (by omega) (fun h3 => ?_) (fun h3 => ?_)
            · have e1 := lrn1_add (lim := lim) (rs := rs1) (rt := rt1) hna (by omega)
              rw [e1] at hE hokn hlnn
              rw [if_pos rfl] at hE
              refine lv_aload_n hx hb dX8_learn_84 rfl (lv_at hl 4 rfl) ?_
              refine va_get (D := D) (ci := 7) (v := .ref yk) (C := RX8) (T := TX8) (N := 30) hx hb hts hin_X8 hown hK hP 0 rfl rfl 7 (by decide) hl_23 (fun _ h9 => h9) rfl dX8_learn_85 ?_
              refine lv_aload_n hx hb dX8_learn_88 rfl (lv_at hl 4 rfl) ?_
              refine va_get (D := D) (ci := 7) (v := .int (nI N1.length)) (C := RX8) (T := TX8) (N := 30) hx hb hts hin_X8 hown hK hP 0 rfl rfl 10 (by decide) hl_70 (fun _ h9 => h9) rfl dX8_learn_89 ?_
              refine lv_iload hx hb dX8_learn_92 (lv_at hl 1 rfl) ?_
              refine st_i hx hb hK hP hD hS 1 0 rfl rfl (j := N1.length) (by omega) (by omega) dX8_learn_94 (fun H locs hP hD hS => ?_)
              have hP : va_P D vwCl [(ra, .inr (7, [.ref yt, .int (nI Tx.length), .ref yc, .int (nI Cd.length), .ref yo, .int (nI Ox.length), .int (nI lim), .ref yk, .ref ys, .ref yn, .int (nI N1.length), .ref y0, .ref y1, .ref y2, .ref y3, .int (nI st.length), .int (nI (escN st)), .int (nI sh), .int (nI rs1), .int (nI rt1), .long (lN rg), .ref yz, .int (nI (hs.getD 0 0)), .int (nI (hs.getD 1 0)), .int (nI hs.length), .int rd_, .int fl, .long ab, .int nx, .int ti])), (yk, .inl (ca 0, 6000, .inl (upd uk1 N1.length (nI (kAt hs z))))), (ys, .inl (ca 3, 6000, .inl us1)), (yn, .inl (ca 3, 6000, .inl un1))] H := hP
              have hD : va_D A [(ra, .inr (7, [.ref yt, .int (nI Tx.length), .ref yc, .int (nI Cd.length), .ref yo, .int (nI Ox.length), .int (nI lim), .ref yk, .ref ys, .ref yn, .int (nI N1.length), .ref y0, .ref y1, .ref y2, .ref y3, .int (nI st.length), .int (nI (escN st)), .int (nI sh), .int (nI rs1), .int (nI rt1), .long (lN rg), .ref yz, .int (nI (hs.getD 0 0)), .int (nI (hs.getD 1 0)), .int (nI hs.length), .int rd_, .int fl, .long ab, .int nx, .int ti])), (yk, .inl (ca 0, 6000, .inl (upd uk1 N1.length (nI (kAt hs z))))), (ys, .inl (ca 3, 6000, .inl us1)), (yn, .inl (ca 3, 6000, .inl un1))] := hD
              refine lv_aload_n hx hb dX8_learn_95 rfl (lv_at hl 4 rfl) ?_
              refine va_get (D := D) (ci := 7) (v := .ref ys) (C := RX8) (T := TX8) (N := 30) hx hb hts hin_X8 hown hK hP 0 rfl rfl 8 (by decide) hl_27 (fun _ h9 => h9) rfl dX8_learn_96 ?_
              refine lv_aload_n hx hb dX8_learn_99 rfl (lv_at hl 4 rfl) ?_
              refine va_get (D := D) (ci := 7) (v := .int (nI N1.length)) (C := RX8) (T := TX8) (N := 30) hx hb hts hin_X8 hown hK hP 0 rfl rfl 10 (by decide) hl_70 (fun _ h9 => h9) rfl dX8_learn_100 ?_
              refine lv_iload_n hx hb dX8_learn_103 rfl (lv_at hl 5 rfl) ?_
              refine lv_i2s (v := ((nI b).toInt16.toInt32)) hx hb dX8_learn_104 (rfl) ?_
              refine st_s hx hb hK hP hD hS 2 3 rfl rfl (j := N1.length) (by omega) (by omega) dX8_learn_105 (fun H locs hP hD hS => ?_)
              have hP : va_P D vwCl [(ra, .inr (7, [.ref yt, .int (nI Tx.length), .ref yc, .int (nI Cd.length), .ref yo, .int (nI Ox.length), .int (nI lim), .ref yk, .ref ys, .ref yn, .int (nI N1.length), .ref y0, .ref y1, .ref y2, .ref y3, .int (nI st.length), .int (nI (escN st)), .int (nI sh), .int (nI rs1), .int (nI rt1), .long (lN rg), .ref yz, .int (nI (hs.getD 0 0)), .int (nI (hs.getD 1 0)), .int (nI hs.length), .int rd_, .int fl, .long ab, .int nx, .int ti])), (yk, .inl (ca 0, 6000, .inl (upd uk1 N1.length (nI (kAt hs z))))), (ys, .inl (ca 3, 6000, .inl (upd us1 N1.length (vp_nar .short ((nI b).toInt16.toInt32))))), (yn, .inl (ca 3, 6000, .inl un1))] H := hP
              have hD : va_D A [(ra, .inr (7, [.ref yt, .int (nI Tx.length), .ref yc, .int (nI Cd.length), .ref yo, .int (nI Ox.length), .int (nI lim), .ref yk, .ref ys, .ref yn, .int (nI N1.length), .ref y0, .ref y1, .ref y2, .ref y3, .int (nI st.length), .int (nI (escN st)), .int (nI sh), .int (nI rs1), .int (nI rt1), .long (lN rg), .ref yz, .int (nI (hs.getD 0 0)), .int (nI (hs.getD 1 0)), .int (nI hs.length), .int rd_, .int fl, .long ab, .int nx, .int ti])), (yk, .inl (ca 0, 6000, .inl (upd uk1 N1.length (nI (kAt hs z))))), (ys, .inl (ca 3, 6000, .inl (upd us1 N1.length (vp_nar .short ((nI b).toInt16.toInt32))))), (yn, .inl (ca 3, 6000, .inl un1))] := hD
              refine lv_aload_n hx hb dX8_learn_106 rfl (lv_at hl 4 rfl) ?_
              refine va_get (D := D) (ci := 7) (v := .ref yn) (C := RX8) (T := TX8) (N := 30) hx hb hts hin_X8 hown hK hP 0 rfl rfl 9 (by decide) hl_31 (fun _ h9 => h9) rfl dX8_learn_107 ?_
              refine lv_aload_n hx hb dX8_learn_110 rfl (lv_at hl 4 rfl) ?_
              refine va_get (D := D) (ci := 7) (v := .int (nI N1.length)) (C := RX8) (T := TX8) (N := 30) hx hb hts hin_X8 hown hK hP 0 rfl rfl 10 (by decide) hl_70 (fun _ h9 => h9) rfl dX8_learn_111 ?_
              refine lv_iconst (v := nI 1) hx hb dX8_learn_114 (by decide) ?_
              refine st_s hx hb hK hP hD hS 3 3 rfl rfl (j := N1.length) (by omega) (by omega) dX8_learn_115 (fun H locs hP hD hS => ?_)
              have hP : va_P D vwCl [(ra, .inr (7, [.ref yt, .int (nI Tx.length), .ref yc, .int (nI Cd.length), .ref yo, .int (nI Ox.length), .int (nI lim), .ref yk, .ref ys, .ref yn, .int (nI N1.length), .ref y0, .ref y1, .ref y2, .ref y3, .int (nI st.length), .int (nI (escN st)), .int (nI sh), .int (nI rs1), .int (nI rt1), .long (lN rg), .ref yz, .int (nI (hs.getD 0 0)), .int (nI (hs.getD 1 0)), .int (nI hs.length), .int rd_, .int fl, .long ab, .int nx, .int ti])), (yk, .inl (ca 0, 6000, .inl (upd uk1 N1.length (nI (kAt hs z))))), (ys, .inl (ca 3, 6000, .inl (upd us1 N1.length (vp_nar .short ((nI b).toInt16.toInt32))))), (yn, .inl (ca 3, 6000, .inl (upd un1 N1.length (vp_nar .short (nI 1)))))] H := hP
              have hD : va_D A [(ra, .inr (7, [.ref yt, .int (nI Tx.length), .ref yc, .int (nI Cd.length), .ref yo, .int (nI Ox.length), .int (nI lim), .ref yk, .ref ys, .ref yn, .int (nI N1.length), .ref y0, .ref y1, .ref y2, .ref y3, .int (nI st.length), .int (nI (escN st)), .int (nI sh), .int (nI rs1), .int (nI rt1), .long (lN rg), .ref yz, .int (nI (hs.getD 0 0)), .int (nI (hs.getD 1 0)), .int (nI hs.length), .int rd_, .int fl, .long ab, .int nx, .int ti])), (yk, .inl (ca 0, 6000, .inl (upd uk1 N1.length (nI (kAt hs z))))), (ys, .inl (ca 3, 6000, .inl (upd us1 N1.length (vp_nar .short ((nI b).toInt16.toInt32))))), (yn, .inl (ca 3, 6000, .inl (upd un1 N1.length (vp_nar .short (nI 1)))))] := hD
              refine lv_aload_n hx hb dX8_learn_116 rfl (lv_at hl 4 rfl) ?_
              refine lv_dup hx hb dX8_learn_117 rfl ?_
              refine va_get (D := D) (ci := 7) (v := .int (nI N1.length)) (C := RX8) (T := TX8) (N := 30) hx hb hts hin_X8 hown hK hP 0 rfl rfl 10 (by decide) hl_70 (fun _ h9 => h9) rfl dX8_learn_118 ?_
              refine lv_iconst (v := nI 1) hx hb dX8_learn_121 (by decide) ?_
              refine lv_iadd hx hb dX8_learn_122 ?_
              refine tp_i (y := nI (N1.length + 1)) (nI_1 _) ?_
              refine va_put (D := D) (ci := 7) (v := .int (nI (N1.length + 1))) (ty := .int) (C := RX8) (T := TX8) (N := 30) hx hb hts hin_X8 tyX8 tyX8_ok nmX8 hown hK hP hD hS 0 rfl rfl 10 (by decide) hl_70 (fun _ h9 => h9) rfl (by decide +kernel) rfl rfl (Nat.le_of_ble_eq_true rfl) dX8_learn_123 (fun H locs hP hD hS => ?_)
              have hP : va_P D vwCl [(ra, .inr (7, [.ref yt, .int (nI Tx.length), .ref yc, .int (nI Cd.length), .ref yo, .int (nI Ox.length), .int (nI lim), .ref yk, .ref ys, .ref yn, .int (nI (N1.length + 1)), .ref y0, .ref y1, .ref y2, .ref y3, .int (nI st.length), .int (nI (escN st)), .int (nI sh), .int (nI rs1), .int (nI rt1), .long (lN rg), .ref yz, .int (nI (hs.getD 0 0)), .int (nI (hs.getD 1 0)), .int (nI hs.length), .int rd_, .int fl, .long ab, .int nx, .int ti])), (yk, .inl (ca 0, 6000, .inl (upd uk1 N1.length (nI (kAt hs z))))), (ys, .inl (ca 3, 6000, .inl (upd us1 N1.length (vp_nar .short ((nI b).toInt16.toInt32))))), (yn, .inl (ca 3, 6000, .inl (upd un1 N1.length (vp_nar .short (nI 1)))))] H := hP
              have hD : va_D A [(ra, .inr (7, [.ref yt, .int (nI Tx.length), .ref yc, .int (nI Cd.length), .ref yo, .int (nI Ox.length), .int (nI lim), .ref yk, .ref ys, .ref yn, .int (nI (N1.length + 1)), .ref y0, .ref y1, .ref y2, .ref y3, .int (nI st.length), .int (nI (escN st)), .int (nI sh), .int (nI rs1), .int (nI rt1), .long (lN rg), .ref yz, .int (nI (hs.getD 0 0)), .int (nI (hs.getD 1 0)), .int (nI hs.length), .int rd_, .int fl, .long ab, .int nx, .int ti])), (yk, .inl (ca 0, 6000, .inl (upd uk1 N1.length (nI (kAt hs z))))), (ys, .inl (ca 3, 6000, .inl (upd us1 N1.length (vp_nar .short ((nI b).toInt16.toInt32))))), (yn, .inl (ca 3, 6000, .inl (upd un1 N1.length (vp_nar .short (nI 1)))))] := hD
              have hP : va_P D vwCl [(ra, .inr (7, [.ref yt, .int (nI Tx.length), .ref yc, .int (nI Cd.length), .ref yo, .int (nI Ox.length), .int (nI lim), .ref yk, .ref ys, .ref yn, .int (nI (N1 ++ [((kAt hs z : Nat), (b : Nat), (1 : Nat))]).length), .ref y0, .ref y1, .ref y2, .ref y3, .int (nI st.length), .int (nI (escN st)), .int (nI sh), .int (nI rs1), .int (nI rt1), .long (lN rg), .ref yz, .int (nI (hs.getD 0 0)), .int (nI (hs.getD 1 0)), .int (nI hs.length), .int rd_, .int fl, .long ab, .int nx, .int ti])), (yk, .inl (ca 0, 6000, .inl (upd uk1 N1.length (nI (kAt hs z))))), (ys, .inl (ca 3, 6000, .inl (upd us1 N1.length (vp_nar .short ((nI b).toInt16.toInt32))))), (yn, .inl (ca 3, 6000, .inl (upd un1 N1.length (vp_nar .short (nI 1)))))] H := by rw [List.length_append, List.length_singleton]; exact hP
              have hD : va_D A [(ra, .inr (7, [.ref yt, .int (nI Tx.length), .ref yc, .int (nI Cd.length), .ref yo, .int (nI Ox.length), .int (nI lim), .ref yk, .ref ys, .ref yn, .int (nI (N1 ++ [((kAt hs z : Nat), (b : Nat), (1 : Nat))]).length), .ref y0, .ref y1, .ref y2, .ref y3, .int (nI st.length), .int (nI (escN st)), .int (nI sh), .int (nI rs1), .int (nI rt1), .long (lN rg), .ref yz, .int (nI (hs.getD 0 0)), .int (nI (hs.getD 1 0)), .int (nI hs.length), .int rd_, .int fl, .long ab, .int nx, .int ti])), (yk, .inl (ca 0, 6000, .inl (upd uk1 N1.length (nI (kAt hs z))))), (ys, .inl (ca 3, 6000, .inl (upd us1 N1.length (vp_nar .short ((nI b).toInt16.toInt32))))), (yn, .inl (ca 3, 6000, .inl (upd un1 N1.length (vp_nar .short (nI 1)))))] := by rw [List.length_append, List.length_singleton]; exact hD
              refine lv_goto (tgt := 160) hx hb dX8_learn_126 (by decide) ?_
              refine lv_iinc (v := nI z - nI 1) (lv' := [(4, .int (nI z - nI 1)), (6, .int (-1)), (5, .int (nI (kAt hs z))), (3, .int (nI lo)), (0, .ref ra), (1, .int (nI b)), (2, .int td)]) hx hb dX8_learn_160 hl (k := 2) rfl (dec_k z) (by decide) rfl (fun ls hl => ?_)
              refine lv_goto (tgt := 28) hx hb dX8_learn_163 (by decide) ?_
              exact ih rs1 rt1 (N1 ++ [(kAt hs z, b, 1)]) (upd uk1 N1.length (nI (kAt hs z))) (upd us1 N1.length (vp_nar .short ((nI b).toInt16.toInt32))) (upd un1 N1.length (vp_nar .short (nI 1))) (NN_app hN1 rfl (short_ok (by omega)) short_1) (hokn) (hlnn) (by omega) (hE) H locs (hP.sub [0, 1, 2, 3] rfl) (hD.sub [0, 1, 2, 3] (by decide) rfl) hS _ (lv_sub hl [0, 3, 4, 5, 6] rfl)
            · have e1 := lrn1_full (lim := lim) (rs := rs1) (rt := rt1) hna (by omega)
              rw [e1] at hE
              rw [if_neg Bool.false_ne_true] at hE
              refine lv_aload_n hx hb dX8_learn_68 rfl (lv_at hl 4 rfl) ?_
              refine lv_iconst (v := nI 0) hx hb dX8_learn_69 (by decide) ?_
              refine va_put (D := D) (ci := 7) (v := .int (nI 0)) (ty := .int) (C := RX8) (T := TX8) (N := 30) hx hb hts hin_X8 tyX8 tyX8_ok nmX8 hown hK hP hD hS 0 rfl rfl 10 (by decide) hl_70 (fun _ h9 => h9) rfl (by decide +kernel) rfl rfl (Nat.le_of_ble_eq_true rfl) dX8_learn_70 (fun H locs hP hD hS => ?_)
              have hP : va_P D vwCl [(ra, .inr (7, [.ref yt, .int (nI Tx.length), .ref yc, .int (nI Cd.length), .ref yo, .int (nI Ox.length), .int (nI lim), .ref yk, .ref ys, .ref yn, .int (nI 0), .ref y0, .ref y1, .ref y2, .ref y3, .int (nI st.length), .int (nI (escN st)), .int (nI sh), .int (nI rs1), .int (nI rt1), .long (lN rg), .ref yz, .int (nI (hs.getD 0 0)), .int (nI (hs.getD 1 0)), .int (nI hs.length), .int rd_, .int fl, .long ab, .int nx, .int ti])), (yk, .inl (ca 0, 6000, .inl uk1)), (ys, .inl (ca 3, 6000, .inl us1)), (yn, .inl (ca 3, 6000, .inl un1))] H := hP
              have hD : va_D A [(ra, .inr (7, [.ref yt, .int (nI Tx.length), .ref yc, .int (nI Cd.length), .ref yo, .int (nI Ox.length), .int (nI lim), .ref yk, .ref ys, .ref yn, .int (nI 0), .ref y0, .ref y1, .ref y2, .ref y3, .int (nI st.length), .int (nI (escN st)), .int (nI sh), .int (nI rs1), .int (nI rt1), .long (lN rg), .ref yz, .int (nI (hs.getD 0 0)), .int (nI (hs.getD 1 0)), .int (nI hs.length), .int rd_, .int fl, .long ab, .int nx, .int ti])), (yk, .inl (ca 0, 6000, .inl uk1)), (ys, .inl (ca 3, 6000, .inl us1)), (yn, .inl (ca 3, 6000, .inl un1))] := hD
              refine lv_aload_n hx hb dX8_learn_73 rfl (lv_at hl 4 rfl) ?_
              refine lv_dup hx hb dX8_learn_74 rfl ?_
              refine va_get (D := D) (ci := 7) (v := .int (nI rt1)) (C := RX8) (T := TX8) (N := 30) hx hb hts hin_X8 hown hK hP 0 rfl rfl 19 (by decide) hl_85 (fun _ h9 => h9) rfl dX8_learn_75 ?_
              refine lv_iconst (v := nI 1) hx hb dX8_learn_78 (by decide) ?_
              refine lv_iadd hx hb dX8_learn_79 ?_
              refine va_put (D := D) (ci := 7) (v := .int ((nI rt1) + (nI 1))) (ty := .int) (C := RX8) (T := TX8) (N := 30) hx hb hts hin_X8 tyX8 tyX8_ok nmX8 hown hK hP hD hS 0 rfl rfl 19 (by decide) hl_85 (fun _ h9 => h9) rfl (by decide +kernel) rfl rfl (Nat.le_of_ble_eq_true rfl) dX8_learn_80 (fun H locs hP hD hS => ?_)
              have hP : va_P D vwCl [(ra, .inr (7, [.ref yt, .int (nI Tx.length), .ref yc, .int (nI Cd.length), .ref yo, .int (nI Ox.length), .int (nI lim), .ref yk, .ref ys, .ref yn, .int (nI 0), .ref y0, .ref y1, .ref y2, .ref y3, .int (nI st.length), .int (nI (escN st)), .int (nI sh), .int (nI rs1), .int ((nI rt1) + (nI 1)), .long (lN rg), .ref yz, .int (nI (hs.getD 0 0)), .int (nI (hs.getD 1 0)), .int (nI hs.length), .int rd_, .int fl, .long ab, .int nx, .int ti])), (yk, .inl (ca 0, 6000, .inl uk1)), (ys, .inl (ca 3, 6000, .inl us1)), (yn, .inl (ca 3, 6000, .inl un1))] H := hP
              have hD : va_D A [(ra, .inr (7, [.ref yt, .int (nI Tx.length), .ref yc, .int (nI Cd.length), .ref yo, .int (nI Ox.length), .int (nI lim), .ref yk, .ref ys, .ref yn, .int (nI 0), .ref y0, .ref y1, .ref y2, .ref y3, .int (nI st.length), .int (nI (escN st)), .int (nI sh), .int (nI rs1), .int ((nI rt1) + (nI 1)), .long (lN rg), .ref yz, .int (nI (hs.getD 0 0)), .int (nI (hs.getD 1 0)), .int (nI hs.length), .int rd_, .int fl, .long ab, .int nx, .int ti])), (yk, .inl (ca 0, 6000, .inl uk1)), (ys, .inl (ca 3, 6000, .inl us1)), (yn, .inl (ca 3, 6000, .inl un1))] := hD
              have hE1 : (([] : List Nd), rs1, rt1 + 1) = Q := hE
              have hP : va_P D vwCl [(ra, .inr (7, [.ref yt, .int (nI Tx.length), .ref yc, .int (nI Cd.length), .ref yo, .int (nI Ox.length), .int (nI lim), .ref yk, .ref ys, .ref yn, .int (nI Q.1.length), .ref y0, .ref y1, .ref y2, .ref y3, .int (nI st.length), .int (nI (escN st)), .int (nI sh), .int (nI Q.2.1), .int (nI Q.2.2), .long (lN rg), .ref yz, .int (nI (hs.getD 0 0)), .int (nI (hs.getD 1 0)), .int (nI hs.length), .int rd_, .int fl, .long ab, .int nx, .int ti])), (yk, .inl (ca 0, 6000, .inl uk1)), (ys, .inl (ca 3, 6000, .inl us1)), (yn, .inl (ca 3, 6000, .inl un1))] H := by rw [← hE1]; dsimp only; rw [← nI_1]; exact hP
              have hD : va_D A [(ra, .inr (7, [.ref yt, .int (nI Tx.length), .ref yc, .int (nI Cd.length), .ref yo, .int (nI Ox.length), .int (nI lim), .ref yk, .ref ys, .ref yn, .int (nI Q.1.length), .ref y0, .ref y1, .ref y2, .ref y3, .int (nI st.length), .int (nI (escN st)), .int (nI sh), .int (nI Q.2.1), .int (nI Q.2.2), .long (lN rg), .ref yz, .int (nI (hs.getD 0 0)), .int (nI (hs.getD 1 0)), .int (nI hs.length), .int rd_, .int fl, .long ab, .int nx, .int ti])), (yk, .inl (ca 0, 6000, .inl uk1)), (ys, .inl (ca 3, 6000, .inl us1)), (yn, .inl (ca 3, 6000, .inl un1))] := by rw [← hE1]; dsimp only; rw [← nI_1]; exact hD
              exact rw_vret (u := (uk1, us1, un1)) hx hb hr hlocks (by rw [← hE1]; exact NN_nil _ _ _) (hP.sub [0, 1, 2, 3] rfl) (hD.sub [0, 1, 2, 3] (by decide) rfl) hS (Nat.le_refl _) (Nat.le_refl _) dX8_learn_83
        · rw [hnx] at hfi
          subst hfi
          obtain ⟨hj, j1, j2, j3, j4⟩ := nix_s hbb hok1 hnx
          have hoj := okN_at hok1 hj
          refine lv_istore (lv' := [(6, .int (nI j)), (5, .int (nI (kAt hs z))), (4, .int (nI z)), (3, .int (nI lo)), (0, .ref ra), (1, .int (nI b)), (2, .int td)]) hx hb dX8_learn_49 hl (by decide) rfl (fun ls hl => ?_)
          refine lv_iload hx hb dX8_learn_51 (lv_at hl 0 rfl) ?_
          refine lv_iconst (v := (-1)) hx hb dX8_learn_53 (by decide) ?_
          refine lv_icmp_ne (tgt := 129) hx hb dX8_learn_54 (by decide) (fun h2 => ?_) (fun h2 => ?_)
          · refine lv_aload_n hx hb dX8_learn_129 rfl (lv_at hl 4 rfl) ?_
            refine va_get (D := D) (ci := 7) (v := .ref yn) (C := RX8) (T := TX8) (N := 30) hx hb hts hin_X8 hown hK hP 0 rfl rfl 9 (by decide) hl_31 (fun _ h9 => h9) rfl dX8_learn_130 ?_
            refine lv_iload hx hb dX8_learn_133 (lv_at hl 0 rfl) ?_
            refine ld_s hx hb hK hP 3 3 rfl rfl (j := j) (by omega) (by omega) dX8_learn_135 ?_
            refine tp_i (y := nI (nd N1 j).2.2) ((hN1 j hj).2.2) ?_
            refine lv_sipush (v := nI 255) hx hb dX8_learn_136 (by decide) ?_
            refine bn_ne (tgt := 148) hx hb dX8_learn_139 (by decide) (by omega) (by omega) (fun h3 => ?_) (fun h3 => ?_)
            · have e1 := lrn1_inc (lim := lim) (rs := rs1) (rt := rt1) j3 (by rw [j4]; omega)
              rw [e1] at hE hokn hlnn
              rw [if_pos rfl] at hE
              refine lv_aload_n hx hb dX8_learn_148 rfl (lv_at hl 4 rfl) ?_
              refine va_get (D := D) (ci := 7) (v := .ref yn) (C := RX8) (T := TX8) (N := 30) hx hb hts hin_X8 hown hK hP 0 rfl rfl 9 (by decide) hl_31 (fun _ h9 => h9) rfl dX8_learn_149 ?_
              refine lv_iload hx hb dX8_learn_152 (lv_at hl 0 rfl) ?_
              refine lv_dup2_11 hx hb dX8_learn_154 rfl rfl ?_
              refine ld_s hx hb hK hP 3 3 rfl rfl (j := j) (by omega) (by omega) dX8_learn_155 ?_
              refine tp_i (y := nI (nd N1 j).2.2) ((hN1 j hj).2.2) ?_
              refine lv_iconst (v := nI 1) hx hb dX8_learn_156 (by decide) ?_
              refine lv_iadd hx hb dX8_learn_157 ?_
              refine tp_i (y := nI ((nd N1 j).2.2 + 1)) (nI_1 _) ?_
              refine lv_i2s (v := ((nI ((nd N1 j).2.2 + 1)).toInt16.toInt32)) hx hb dX8_learn_158 (rfl) ?_
              refine st_s hx hb hK hP hD hS 3 3 rfl rfl (j := j) (by omega) (by omega) dX8_learn_159 (fun H locs hP hD hS => ?_)
              have hP : va_P D vwCl [(ra, .inr (7, [.ref yt, .int (nI Tx.length), .ref yc, .int (nI Cd.length), .ref yo, .int (nI Ox.length), .int (nI lim), .ref yk, .ref ys, .ref yn, .int (nI N1.length), .ref y0, .ref y1, .ref y2, .ref y3, .int (nI st.length), .int (nI (escN st)), .int (nI sh), .int (nI rs1), .int (nI rt1), .long (lN rg), .ref yz, .int (nI (hs.getD 0 0)), .int (nI (hs.getD 1 0)), .int (nI hs.length), .int rd_, .int fl, .long ab, .int nx, .int ti])), (yk, .inl (ca 0, 6000, .inl uk1)), (ys, .inl (ca 3, 6000, .inl us1)), (yn, .inl (ca 3, 6000, .inl (upd un1 j (vp_nar .short ((nI ((nd N1 j).2.2 + 1)).toInt16.toInt32)))))] H := hP
              have hD : va_D A [(ra, .inr (7, [.ref yt, .int (nI Tx.length), .ref yc, .int (nI Cd.length), .ref yo, .int (nI Ox.length), .int (nI lim), .ref yk, .ref ys, .ref yn, .int (nI N1.length), .ref y0, .ref y1, .ref y2, .ref y3, .int (nI st.length), .int (nI (escN st)), .int (nI sh), .int (nI rs1), .int (nI rt1), .long (lN rg), .ref yz, .int (nI (hs.getD 0 0)), .int (nI (hs.getD 1 0)), .int (nI hs.length), .int rd_, .int fl, .long ab, .int nx, .int ti])), (yk, .inl (ca 0, 6000, .inl uk1)), (ys, .inl (ca 3, 6000, .inl us1)), (yn, .inl (ca 3, 6000, .inl (upd un1 j (vp_nar .short ((nI ((nd N1 j).2.2 + 1)).toInt16.toInt32)))))] := hD
              have hP : va_P D vwCl [(ra, .inr (7, [.ref yt, .int (nI Tx.length), .ref yc, .int (nI Cd.length), .ref yo, .int (nI Ox.length), .int (nI lim), .ref yk, .ref ys, .ref yn, .int (nI (incN (kAt hs z) b N1).length), .ref y0, .ref y1, .ref y2, .ref y3, .int (nI st.length), .int (nI (escN st)), .int (nI sh), .int (nI rs1), .int (nI rt1), .long (lN rg), .ref yz, .int (nI (hs.getD 0 0)), .int (nI (hs.getD 1 0)), .int (nI hs.length), .int rd_, .int fl, .long ab, .int nx, .int ti])), (yk, .inl (ca 0, 6000, .inl uk1)), (ys, .inl (ca 3, 6000, .inl us1)), (yn, .inl (ca 3, 6000, .inl (upd un1 j (vp_nar .short ((nI ((nd N1 j).2.2 + 1)).toInt16.toInt32)))))] H := by rw [incN_len]; exact hP
              have hD : va_D A [(ra, .inr (7, [.ref yt, .int (nI Tx.length), .ref yc, .int (nI Cd.length), .ref yo, .int (nI Ox.length), .int (nI lim), .ref yk, .ref ys, .ref yn, .int (nI (incN (kAt hs z) b N1).length), .ref y0, .ref y1, .ref y2, .ref y3, .int (nI st.length), .int (nI (escN st)), .int (nI sh), .int (nI rs1), .int (nI rt1), .long (lN rg), .ref yz, .int (nI (hs.getD 0 0)), .int (nI (hs.getD 1 0)), .int (nI hs.length), .int rd_, .int fl, .long ab, .int nx, .int ti])), (yk, .inl (ca 0, 6000, .inl uk1)), (ys, .inl (ca 3, 6000, .inl us1)), (yn, .inl (ca 3, 6000, .inl (upd un1 j (vp_nar .short ((nI ((nd N1 j).2.2 + 1)).toInt16.toInt32)))))] := by rw [incN_len]; exact hD
              refine lv_iinc (v := nI z - nI 1) (lv' := [(4, .int (nI z - nI 1)), (6, .int (nI j)), (5, .int (nI (kAt hs z))), (3, .int (nI lo)), (0, .ref ra), (1, .int (nI b)), (2, .int td)]) hx hb dX8_learn_160 hl (k := 2) rfl (dec_k z) (by decide) rfl (fun ls hl => ?_)
              refine lv_goto (tgt := 28) hx hb dX8_learn_163 (by decide) ?_
              exact ih rs1 rt1 (incN (kAt hs z) b N1) uk1 us1 (upd un1 j (vp_nar .short ((nI ((nd N1 j).2.2 + 1)).toInt16.toInt32))) (NN_inc hN1 hok1 hj j1 j2 (short_ok (by omega))) (hokn) (hlnn) (by omega) (hE) H locs (hP.sub [0, 1, 2, 3] rfl) (hD.sub [0, 1, 2, 3] (by decide) rfl) hS _ (lv_sub hl [0, 3, 4, 5, 6] rfl)
            · have e1 := lrn1_res (lim := lim) (rs := rs1) (rt := rt1) j3 (by rw [j4]; omega)
              rw [e1] at hE hokn hlnn
              rw [if_pos rfl] at hE
              refine lv_aload_n hx hb dX8_learn_142 rfl (lv_at hl 4 rfl) ?_
              refine lv_iload hx hb dX8_learn_143 (lv_at hl 1 rfl) ?_
              refine rw_callv (wc := [(ra, .inr (7, [.ref yt, .int (nI Tx.length), .ref yc, .int (nI Cd.length), .ref yo, .int (nI Ox.length), .int (nI lim), .ref yk, .ref ys, .ref yn, .int (nI N1.length), .ref y0, .ref y1, .ref y2, .ref y3, .int (nI st.length), .int (nI (escN st)), .int (nI sh), .int (nI rs1), .int (nI rt1), .long (lN rg), .ref yz, .int (nI (hs.getD 0 0)), .int (nI (hs.getD 1 0)), .int (nI hs.length), .int rd_, .int fl, .long ab, .int nx, .int ti])), (yk, .inl (ca 0, 6000, .inl uk1)), (ys, .inl (ca 3, 6000, .inl us1)), (yn, .inl (ca 3, 6000, .inl un1))]) (wr := []) hP hD hS hA [0, 1, 2, 3] [] rfl rfl (by decide) (by decide) (va_runV (As := [.int (nI (kAt hs z))]) (rest := []) ⟨hx, hb, hml, hown, hts⟩ (c_x_halve l D ca ra yt yc yo yk ys yn y0 y1 y2 y3 yz Tx Cd Ox N1 st lim sh rs1 rt1 rg (nI (hs.getD 0 0)) (nI (hs.getD 1 0)) (nI hs.length) rd_ fl nx ti ab uk1 us1 un1 (kAt hs z) (hN1) (hok1) (by omega) (hkb z) H.size) (cwV 1 hts gX8_learn_X8_halve rfl rfl rfl (by decide +kernel) ⟨Nat.le_of_ble_eq_true rfl, Nat.le_of_ble_eq_true rfl⟩) ⟨rwP_blind, va_recv hK hP (ci := 7) (q0 := 0) rfl rfl, rwP_at hK hN (hP.sub [0, 1, 2, 3] rfl) (hD.sub [0, 1, 2, 3] (by decide) rfl)⟩ rfl rfl hl.1 rfl (lv_room (Nat.le_of_ble_eq_true rfl)) dX8_learn_145 ⟨Nat.le_of_ble_eq_true rfl, Nat.le_of_ble_eq_true rfl⟩) (fun u H locs hha hP hD hS => ?_)
              obtain ⟨un1_4, rfl⟩ : ∃ z, z = u := ⟨_, rfl⟩
              try dsimp only at hha
              have hP : va_P D vwCl [(ra, .inr (7, [.ref yt, .int (nI Tx.length), .ref yc, .int (nI Cd.length), .ref yo, .int (nI Ox.length), .int (nI lim), .ref yk, .ref ys, .ref yn, .int (nI (halv (kAt hs z) N1).length), .ref y0, .ref y1, .ref y2, .ref y3, .int (nI st.length), .int (nI (escN st)), .int (nI sh), .int (nI (rs1 + 1)), .int (nI rt1), .long (lN rg), .ref yz, .int (nI (hs.getD 0 0)), .int (nI (hs.getD 1 0)), .int (nI hs.length), .int rd_, .int fl, .long ab, .int nx, .int ti])), (yk, .inl (ca 0, 6000, .inl uk1)), (ys, .inl (ca 3, 6000, .inl us1)), (yn, .inl (ca 3, 6000, .inl un1_4))] H := hP
              have hD : va_D A [(ra, .inr (7, [.ref yt, .int (nI Tx.length), .ref yc, .int (nI Cd.length), .ref yo, .int (nI Ox.length), .int (nI lim), .ref yk, .ref ys, .ref yn, .int (nI (halv (kAt hs z) N1).length), .ref y0, .ref y1, .ref y2, .ref y3, .int (nI st.length), .int (nI (escN st)), .int (nI sh), .int (nI (rs1 + 1)), .int (nI rt1), .long (lN rg), .ref yz, .int (nI (hs.getD 0 0)), .int (nI (hs.getD 1 0)), .int (nI hs.length), .int rd_, .int fl, .long ab, .int nx, .int ti])), (yk, .inl (ca 0, 6000, .inl uk1)), (ys, .inl (ca 3, 6000, .inl us1)), (yn, .inl (ca 3, 6000, .inl un1_4))] := hD
              have hjh : j < (halv (kAt hs z) N1).length := by rw [halv_len]; exact hj
              have hnh := halv_nd hj j1
              have hch := (hha j hjh).2.2
              rw [hnh] at hch
              dsimp only at hch
              refine lv_aload_n hx hb dX8_learn_148 rfl (lv_at hl 4 rfl) ?_
              refine va_get (D := D) (ci := 7) (v := .ref yn) (C := RX8) (T := TX8) (N := 30) hx hb hts hin_X8 hown hK hP 0 rfl rfl 9 (by decide) hl_31 (fun _ h9 => h9) rfl dX8_learn_149 ?_
              refine lv_iload hx hb dX8_learn_152 (lv_at hl 0 rfl) ?_
              refine lv_dup2_11 hx hb dX8_learn_154 rfl rfl ?_
              refine ld_s hx hb hK hP 3 3 rfl rfl (j := j) (by omega) (by omega) dX8_learn_155 ?_
              refine tp_i (y := nI (((nd N1 j).2.2 + 1) / 2)) (hch) ?_
              refine lv_iconst (v := nI 1) hx hb dX8_learn_156 (by decide) ?_
              refine lv_iadd hx hb dX8_learn_157 ?_
              refine tp_i (y := nI (((nd N1 j).2.2 + 1) / 2 + 1)) (nI_1 _) ?_
              refine lv_i2s (v := ((nI (((nd N1 j).2.2 + 1) / 2 + 1)).toInt16.toInt32)) hx hb dX8_learn_158 (rfl) ?_
              refine st_s hx hb hK hP hD hS 3 3 rfl rfl (j := j) (by omega) (by omega) dX8_learn_159 (fun H locs hP hD hS => ?_)
              have hP : va_P D vwCl [(ra, .inr (7, [.ref yt, .int (nI Tx.length), .ref yc, .int (nI Cd.length), .ref yo, .int (nI Ox.length), .int (nI lim), .ref yk, .ref ys, .ref yn, .int (nI (halv (kAt hs z) N1).length), .ref y0, .ref y1, .ref y2, .ref y3, .int (nI st.length), .int (nI (escN st)), .int (nI sh), .int (nI (rs1 + 1)), .int (nI rt1), .long (lN rg), .ref yz, .int (nI (hs.getD 0 0)), .int (nI (hs.getD 1 0)), .int (nI hs.length), .int rd_, .int fl, .long ab, .int nx, .int ti])), (yk, .inl (ca 0, 6000, .inl uk1)), (ys, .inl (ca 3, 6000, .inl us1)), (yn, .inl (ca 3, 6000, .inl (upd un1_4 j (vp_nar .short ((nI (((nd N1 j).2.2 + 1) / 2 + 1)).toInt16.toInt32)))))] H := hP
              have hD : va_D A [(ra, .inr (7, [.ref yt, .int (nI Tx.length), .ref yc, .int (nI Cd.length), .ref yo, .int (nI Ox.length), .int (nI lim), .ref yk, .ref ys, .ref yn, .int (nI (halv (kAt hs z) N1).length), .ref y0, .ref y1, .ref y2, .ref y3, .int (nI st.length), .int (nI (escN st)), .int (nI sh), .int (nI (rs1 + 1)), .int (nI rt1), .long (lN rg), .ref yz, .int (nI (hs.getD 0 0)), .int (nI (hs.getD 1 0)), .int (nI hs.length), .int rd_, .int fl, .long ab, .int nx, .int ti])), (yk, .inl (ca 0, 6000, .inl uk1)), (ys, .inl (ca 3, 6000, .inl us1)), (yn, .inl (ca 3, 6000, .inl (upd un1_4 j (vp_nar .short ((nI (((nd N1 j).2.2 + 1) / 2 + 1)).toInt16.toInt32)))))] := hD
              have hP : va_P D vwCl [(ra, .inr (7, [.ref yt, .int (nI Tx.length), .ref yc, .int (nI Cd.length), .ref yo, .int (nI Ox.length), .int (nI lim), .ref yk, .ref ys, .ref yn, .int (nI (incN (kAt hs z) b (halv (kAt hs z) N1)).length), .ref y0, .ref y1, .ref y2, .ref y3, .int (nI st.length), .int (nI (escN st)), .int (nI sh), .int (nI (rs1 + 1)), .int (nI rt1), .long (lN rg), .ref yz, .int (nI (hs.getD 0 0)), .int (nI (hs.getD 1 0)), .int (nI hs.length), .int rd_, .int fl, .long ab, .int nx, .int ti])), (yk, .inl (ca 0, 6000, .inl uk1)), (ys, .inl (ca 3, 6000, .inl us1)), (yn, .inl (ca 3, 6000, .inl (upd un1_4 j (vp_nar .short ((nI (((nd N1 j).2.2 + 1) / 2 + 1)).toInt16.toInt32)))))] H := by rw [incN_len]; exact hP
              have hD : va_D A [(ra, .inr (7, [.ref yt, .int (nI Tx.length), .ref yc, .int (nI Cd.length), .ref yo, .int (nI Ox.length), .int (nI lim), .ref yk, .ref ys, .ref yn, .int (nI (incN (kAt hs z) b (halv (kAt hs z) N1)).length), .ref y0, .ref y1, .ref y2, .ref y3, .int (nI st.length), .int (nI (escN st)), .int (nI sh), .int (nI (rs1 + 1)), .int (nI rt1), .long (lN rg), .ref yz, .int (nI (hs.getD 0 0)), .int (nI (hs.getD 1 0)), .int (nI hs.length), .int rd_, .int fl, .long ab, .int nx, .int ti])), (yk, .inl (ca 0, 6000, .inl uk1)), (ys, .inl (ca 3, 6000, .inl us1)), (yn, .inl (ca 3, 6000, .inl (upd un1_4 j (vp_nar .short ((nI (((nd N1 j).2.2 + 1) / 2 + 1)).toInt16.toInt32)))))] := by rw [incN_len]; exact hD
              refine lv_iinc (v := nI z - nI 1) (lv' := [(4, .int (nI z - nI 1)), (6, .int (nI j)), (5, .int (nI (kAt hs z))), (3, .int (nI lo)), (0, .ref ra), (1, .int (nI b)), (2, .int td)]) hx hb dX8_learn_160 hl (k := 2) rfl (dec_k z) (by decide) rfl (fun ls hl => ?_)
              refine lv_goto (tgt := 28) hx hb dX8_learn_163 (by decide) ?_
              exact ih (rs1 + 1) rt1 (incN (kAt hs z) b (halv (kAt hs z) N1)) uk1 us1 (upd un1_4 j (vp_nar .short ((nI (((nd N1 j).2.2 + 1) / 2 + 1)).toInt16.toInt32))) (NN_inc hha (okN_halv hok1) hjh (by rw [hnh]) (by rw [hnh]; exact j2) (by rw [hnh]; exact short_ok (by omega))) (hokn) (hlnn) (by omega) (hE) H locs (hP.sub [0, 1, 2, 3] rfl) (hD.sub [0, 1, 2, 3] (by decide) rfl) hS _ (lv_sub hl [0, 3, 4, 5, 6] rfl)
          · exact absurd h2 (nI_m1n (by omega))
  refine lv_iload_n hx hb dX8_learn_0 rfl (lv_at hl 2 rfl) ?_
  refine lv_if_ge (tgt := 8) hx hb dX8_learn_1 (by decide) (fun h1 => ?_) (fun h1 => ?_)
  · refine lv_iload_n hx hb dX8_learn_8 rfl (lv_at hl 2 rfl) ?_
    refine lv_istore_n (lv' := [(3, .int td), (0, .ref ra), (1, .int (nI b)), (2, .int td)]) hx hb dX8_learn_9 rfl hl (by decide) rfl (fun ls hl => ?_)
    refine lv_aload_n hx hb dX8_learn_10 rfl (lv_at hl 1 rfl) ?_
    refine va_get (D := D) (ci := 7) (v := .int (nI hs.length)) (C := RX8) (T := TX8) (N := 30) hx hb hts hin_X8 hown hK hP 0 rfl rfl 24 (by decide) hl_88 (fun _ h9 => h9) rfl dX8_learn_11 ?_
    refine lv_iconst (v := nI 2) hx hb dX8_learn_14 (by decide) ?_
    refine bn_ge (tgt := 25) hx hb dX8_learn_15 (by decide) (by omega) (by omega) (fun h2 => ?_) (fun h2 => ?_)
    · have ht9 : topO hs = 2 := by unfold topO; omega
      refine lv_iconst (v := nI 2) hx hb dX8_learn_25 (by decide) ?_
      refine lv_istore (lv' := [(4, .int (nI 2)), (3, .int td), (0, .ref ra), (1, .int (nI b)), (2, .int td)]) hx hb dX8_learn_26 hl (by decide) rfl (fun ls hl => ?_)
      have hv4 : nI 2 = nI (topO hs + 1) - nI 1 := by rw [pred_s, ht9]
      rw [hv4] at hl
      have hv3 : td = nI lo := by rw [← htd]; exact (if_neg (Int32.not_lt.mpr h1)).symm
      subst hv3
      exact hlo (topO hs + 1) rs rt N uk us un hNN hok hlim.1 (Nat.le_refl _) hQ s.heap [] hP hD hS _ (lv_sub hl [0, 1, 2, 3, 4] rfl)
    · have ht9 : topO hs = hs.length := by unfold topO; omega
      refine lv_aload_n hx hb dX8_learn_18 rfl (lv_at hl 1 rfl) ?_
      refine va_get (D := D) (ci := 7) (v := .int (nI hs.length)) (C := RX8) (T := TX8) (N := 30) hx hb hts hin_X8 hown hK hP 0 rfl rfl 24 (by decide) hl_88 (fun _ h9 => h9) rfl dX8_learn_19 ?_
      refine lv_goto (tgt := 26) hx hb dX8_learn_22 (by decide) ?_
      refine lv_istore (lv' := [(4, .int (nI hs.length)), (3, .int td), (0, .ref ra), (1, .int (nI b)), (2, .int td)]) hx hb dX8_learn_26 hl (by decide) rfl (fun ls hl => ?_)
      have hv4 : nI hs.length = nI (topO hs + 1) - nI 1 := by rw [pred_s, ht9]
      rw [hv4] at hl
      have hv3 : td = nI lo := by rw [← htd]; exact (if_neg (Int32.not_lt.mpr h1)).symm
      subst hv3
      exact hlo (topO hs + 1) rs rt N uk us un hNN hok hlim.1 (Nat.le_refl _) hQ s.heap [] hP hD hS _ (lv_sub hl [0, 1, 2, 3, 4] rfl)
  · refine lv_iconst (v := nI 0) hx hb dX8_learn_4 (by decide) ?_
    refine lv_goto (tgt := 9) hx hb dX8_learn_5 (by decide) ?_
    refine lv_istore_n (lv' := [(3, .int (nI 0)), (0, .ref ra), (1, .int (nI b)), (2, .int td)]) hx hb dX8_learn_9 rfl hl (by decide) rfl (fun ls hl => ?_)
    refine lv_aload_n hx hb dX8_learn_10 rfl (lv_at hl 1 rfl) ?_
    refine va_get (D := D) (ci := 7) (v := .int (nI hs.length)) (C := RX8) (T := TX8) (N := 30) hx hb hts hin_X8 hown hK hP 0 rfl rfl 24 (by decide) hl_88 (fun _ h9 => h9) rfl dX8_learn_11 ?_
    refine lv_iconst (v := nI 2) hx hb dX8_learn_14 (by decide) ?_
    refine bn_ge (tgt := 25) hx hb dX8_learn_15 (by decide) (by omega) (by omega) (fun h2 => ?_) (fun h2 => ?_)
    · have ht9 : topO hs = 2 := by unfold topO; omega
      refine lv_iconst (v := nI 2) hx hb dX8_learn_25 (by decide) ?_
      refine lv_istore (lv' := [(4, .int (nI 2)), (3, .int (nI 0)), (0, .ref ra), (1, .int (nI b)), (2, .int td)]) hx hb dX8_learn_26 hl (by decide) rfl (fun ls hl => ?_)
      have hv4 : nI 2 = nI (topO hs + 1) - nI 1 := by rw [pred_s, ht9]
      rw [hv4] at hl
      have hv3 : nI 0 = nI lo := by rw [← htd]; exact (if_pos (Int32.not_le.mp h1)).symm
      rw [hv3] at hl
      exact hlo (topO hs + 1) rs rt N uk us un hNN hok hlim.1 (Nat.le_refl _) hQ s.heap [] hP hD hS _ (lv_sub hl [0, 1, 2, 3, 4] rfl)
    · have ht9 : topO hs = hs.length := by unfold topO; omega
      refine lv_aload_n hx hb dX8_learn_18 rfl (lv_at hl 1 rfl) ?_
      refine va_get (D := D) (ci := 7) (v := .int (nI hs.length)) (C := RX8) (T := TX8) (N := 30) hx hb hts hin_X8 hown hK hP 0 rfl rfl 24 (by decide) hl_88 (fun _ h9 => h9) rfl dX8_learn_19 ?_
      refine lv_goto (tgt := 26) hx hb dX8_learn_22 (by decide) ?_
      refine lv_istore (lv' := [(4, .int (nI hs.length)), (3, .int (nI 0)), (0, .ref ra), (1, .int (nI b)), (2, .int td)]) hx hb dX8_learn_26 hl (by decide) rfl (fun ls hl => ?_)
      have hv4 : nI hs.length = nI (topO hs + 1) - nI 1 := by rw [pred_s, ht9]
      rw [hv4] at hl
      have hv3 : nI 0 = nI lo := by rw [← htd]; exact (if_pos (Int32.not_le.mp h1)).symm
      rw [hv3] at hl
      exact hlo (topO hs + 1) rs rt N uk us un hNN hok hlim.1 (Nat.le_refl _) hQ s.heap [] hP hD hS _ (lv_sub hl [0, 1, 2, 3, 4] rfl)
