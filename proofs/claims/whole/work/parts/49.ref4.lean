set_option maxHeartbeats 4000000 in
set_option maxRecDepth 100000 in
theorem c_x_narrow_W (l : Launch) (D : va_G) (ca : Nat → ClassId) (ra : Nat) (yt : Nat) (yc : Nat) (yo : Nat) (yk : Nat) (ys : Nat) (yn : Nat) (y0 : Nat) (y1 : Nat) (y2 : Nat) (y3 : Nat) (yz : Nat) (Tx : List Nat) (Ox : List Nat) (N : List Nd) (st : List Stq) (lim : Nat) (sh : Nat) (rs : Nat) (rt : Nat) (rg : Nat) (bef : Int32) (ear : Int32) (top : Int32) (nx : Int32) (ti : Int32) (ab : Int64) (uc : Nat → Int32) (x : Nat) (a : Nat) (f : Nat) (t : Nat) (V : Iv) (hB : BB uc (dig (4 + sh) x)) (hs8 : sh ≤ 7992) (hrg : 16777216 ≤ rg ∧ rg < 4294967296) (ht : 1 ≤ t ∧ t < 32768) (haf : 1 ≤ f ∧ a + f ≤ t) (hV : nar false [] a f t (x, rg, sh) = V) (sz : Nat) : Met l yX8_narrow wsX8_narrow { frames := 1, cells := 0, slots := 0, locals := 25 } (rwP D vwCl (ATy ca) [(ra, .inr (7, [.ref yt, .int (nI Tx.length), .ref yc, .int (nI (dig (4 + sh) x).length), .ref yo, .int (nI Ox.length), .int (nI lim), .ref yk, .ref ys, .ref yn, .int (nI N.length), .ref y0, .ref y1, .ref y2, .ref y3, .int (nI st.length), .int (nI (escN st)), .int (nI sh), .int (nI rs), .int (nI rt), .long (lN rg), .ref yz, .int bef, .int ear, .int top, .int (nI 0), .int (nI 0), .long ab, .int nx, .int ti])), (yc, .inl (ca 2, 8000, .inl uc))] sz [.ref ra, .int (nI a), .int (nI f), .int (nI t)]) (va_Qv (fun (u : (Nat → Int32)) => BB u (dig (4 + V.2.2) V.1)) (bB D vwCl (fun (u : (Nat → Int32)) => [(ra, .inr (7, [.ref yt, .int (nI Tx.length), .ref yc, .int (nI (dig (4 + V.2.2) V.1).length), .ref yo, .int (nI Ox.length), .int (nI lim), .ref yk, .ref ys, .ref yn, .int (nI N.length), .ref y0, .ref y1, .ref y2, .ref y3, .int (nI st.length), .int (nI (escN st)), .int (nI V.2.2), .int (nI rs), .int (nI rt), .long (lN V.2.1), .ref yz, .int bef, .int ear, .int top, .int (nI 0), .int (nI 0), .long ab, .int nx, .int ti])), (yc, .inl (ca 2, 8000, .inl u))]) (va_A [(ra, .inr (7, [.ref yt, .int (nI Tx.length), .ref yc, .int (nI (dig (4 + sh) x).length), .ref yo, .int (nI Ox.length), .int (nI lim), .ref yk, .ref ys, .ref yn, .int (nI N.length), .ref y0, .ref y1, .ref y2, .ref y3, .int (nI st.length), .int (nI (escN st)), .int (nI sh), .int (nI rs), .int (nI rt), .long (lN rg), .ref yz, .int bef, .int ear, .int top, .int (nI 0), .int (nI 0), .long ab, .int nx, .int ti])), (yc, .inl (ca 2, 8000, .inl uc))] sz)) (va_A [(ra, .inr (7, [.ref yt, .int (nI Tx.length), .ref yc, .int (nI (dig (4 + sh) x).length), .ref yo, .int (nI Ox.length), .int (nI lim), .ref yk, .ref ys, .ref yn, .int (nI N.length), .ref y0, .ref y1, .ref y2, .ref y3, .int (nI st.length), .int (nI (escN st)), .int (nI sh), .int (nI rs), .int (nI rt), .long (lN rg), .ref yz, .int bef, .int ear, .int top, .int (nI 0), .int (nI 0), .long ab, .int nx, .int ti])), (yc, .inl (ca 2, 8000, .inl uc))] sz)) 0 0 (va_A [(ra, .inr (7, [.ref yt, .int (nI Tx.length), .ref yc, .int (nI (dig (4 + sh) x).length), .ref yo, .int (nI Ox.length), .int (nI lim), .ref yk, .ref ys, .ref yn, .int (nI N.length), .ref y0, .ref y1, .ref y2, .ref y3, .int (nI st.length), .int (nI (escN st)), .int (nI sh), .int (nI rs), .int (nI rt), .long (lN rg), .ref yz, .int bef, .int ear, .int top, .int (nI 0), .int (nI 0), .long ab, .int nx, .int ti])), (yc, .inl (ca 2, 8000, .inl uc))] sz) := by
  refine rw_enter (Q := fun A => va_Qv (fun (u : (Nat → Int32)) => BB u (dig (4 + V.2.2) V.1)) (bB D vwCl (fun (u : (Nat → Int32)) => [(ra, .inr (7, [.ref yt, .int (nI Tx.length), .ref yc, .int (nI (dig (4 + V.2.2) V.1).length), .ref yo, .int (nI Ox.length), .int (nI lim), .ref yk, .ref ys, .ref yn, .int (nI N.length), .ref y0, .ref y1, .ref y2, .ref y3, .int (nI st.length), .int (nI (escN st)), .int (nI V.2.2), .int (nI rs), .int (nI rt), .long (lN V.2.1), .ref yz, .int bef, .int ear, .int top, .int (nI 0), .int (nI 0), .long ab, .int nx, .int ti])), (yc, .inl (ca 2, 8000, .inl u))]) A) A) (by decide) rfl (Nat.le_of_ble_eq_true rfl) ?_
  intro p e s m below meth c ls A C hnm hK hN hP hD hA hl
  have hS : va_S A s.heap s.heap [] := va_S.rf
  obtain ⟨hx, hb, hr, hml, hown, hlocks, hts⟩ := C
  have hl : lv_has ls 8 [(0, .ref ra), (1, .int (nI a)), (2, .int (nI f)), (3, .int (nI t))] := hl
  have hin_X8 : ∀ w ∈ wsX80, w ∈ wsX8_narrow := by decide +kernel
  have hl_66 := hts (.fieldLink RX8 66 "EscapeCoderModel" "range" "J") (by decide +kernel)
  have hw_bc6518 := hts (.constantLong RX8 126 (lN 16777216)) (by decide +kernel)
  have hw_086c3a := hts (.constantLong RX8 128 (lN 256)) (by decide +kernel)
  have hl_79 := hts (.fieldLink RX8 79 "EscapeCoderModel" "shifts" "I") (by decide +kernel)
  have hl_115 := hts (.fieldLink RX8 115 "EscapeCoderModel" "reads" "Z") (by decide +kernel)
  have hl_57 := hts (.fieldLink RX8 57 "EscapeCoderModel" "codeSize" "I") (by decide +kernel)
  have hl_13 := hts (.fieldLink RX8 13 "EscapeCoderModel" "code" "[B") (by decide +kernel)
  have hnr := nar_r hrg.1 ht haf.1 haf.2
  have hlo : ∀ (k : Nat) (x1 : Nat) (R1 : Nat) (s1 : Nat) (uc1 : Nat → Int32), (BB uc1 (dig (4 + s1) x1)) → (s1 + k ≤ sh + 4) → (16777216 ≤ R1 * 256 ^ k) → (R1 < 4294967296) → (shf false [] k (x1, R1, s1) = V) → ∀ (H : Heap) (locs : List Loc), va_P D vwCl [(ra, .inr (7, [.ref yt, .int (nI Tx.length), .ref yc, .int (nI (dig (4 + s1) x1).length), .ref yo, .int (nI Ox.length), .int (nI lim), .ref yk, .ref ys, .ref yn, .int (nI N.length), .ref y0, .ref y1, .ref y2, .ref y3, .int (nI st.length), .int (nI (escN st)), .int (nI s1), .int (nI rs), .int (nI rt), .long (lN R1), .ref yz, .int bef, .int ear, .int top, .int (nI 0), .int (nI 0), .long ab, .int nx, .int ti])), (yc, .inl (ca 2, 8000, .inl uc1))] H → va_D A [(ra, .inr (7, [.ref yt, .int (nI Tx.length), .ref yc, .int (nI (dig (4 + s1) x1).length), .ref yo, .int (nI Ox.length), .int (nI lim), .ref yk, .ref ys, .ref yn, .int (nI N.length), .ref y0, .ref y1, .ref y2, .ref y3, .int (nI st.length), .int (nI (escN st)), .int (nI s1), .int (nI rs), .int (nI rt), .long (lN R1), .ref yz, .int bef, .int ear, .int top, .int (nI 0), .int (nI 0), .long ab, .int nx, .int ti])), (yc, .inl (ca 2, 8000, .inl uc1))] → va_S A s.heap H locs → ∀ (ls : Array Slot), lv_has ls 8 [(0, .ref ra)] → W p l e ({ frames := 1, cells := 0, slots := 0, locals := 25 } : Room) s m ([.ref ra, .int (nI a), .int (nI f), .int (nI t)] : List Value).toArray below meth c H locs 0 0 (MQ below (va_Qv (fun (u : (Nat → Int32)) => BB u (dig (4 + V.2.2) V.1)) (bB D vwCl (fun (u : (Nat → Int32)) => [(ra, .inr (7, [.ref yt, .int (nI Tx.length), .ref yc, .int (nI (dig (4 + V.2.2) V.1).length), .ref yo, .int (nI Ox.length), .int (nI lim), .ref yk, .ref ys, .ref yn, .int (nI N.length), .ref y0, .ref y1, .ref y2, .ref y3, .int (nI st.length), .int (nI (escN st)), .int (nI V.2.2), .int (nI rs), .int (nI rt), .long (lN V.2.1), .ref yz, .int bef, .int ear, .int top, .int (nI 0), .int (nI 0), .long ab, .int nx, .int ti])), (yc, .inl (ca 2, 8000, .inl u))]) A) A) ([.ref ra, .int (nI a), .int (nI f), .int (nI t)] : List Value).toArray s 0 0 A) (F0 m 69 ls []) := by
    intro k
    induction k with
    | zero =>
      intro x1 R1 s1 uc1 hB1 hs1 hfu hR2 hE H locs hP hD hS ls hl
      rw [Nat.pow_zero, Nat.mul_one] at hfu
      refine lv_aload_n hx hb dX8_narrow_69 rfl (lv_at hl 0 rfl) ?_
      refine va_get (D := D) (ci := 7) (v := .long (lN R1)) (C := RX8) (T := TX8) (N := 30) hx hb hts hin_X8 hown hK hP 0 rfl rfl 20 (by decide) hl_66 (fun _ h9 => h9) rfl dX8_narrow_70 ?_
      refine lv_ldc2 (v := lN 16777216) hx hb hown hw_bc6518 dX8_narrow_73 ?_
      refine W.lcmp hx hb dX8_narrow_76 ?_
      refine bl_ge (tgt := 196) hx hb dX8_narrow_77 (by decide) (by omega) (by omega) (fun h1 => ?_) (fun h1 => ?_)
      · have hE1 : (x1, R1, s1) = V := hE
        have hP : va_P D vwCl [(ra, .inr (7, [.ref yt, .int (nI Tx.length), .ref yc, .int (nI (dig (4 + V.2.2) V.1).length), .ref yo, .int (nI Ox.length), .int (nI lim), .ref yk, .ref ys, .ref yn, .int (nI N.length), .ref y0, .ref y1, .ref y2, .ref y3, .int (nI st.length), .int (nI (escN st)), .int (nI V.2.2), .int (nI rs), .int (nI rt), .long (lN V.2.1), .ref yz, .int bef, .int ear, .int top, .int (nI 0), .int (nI 0), .long ab, .int nx, .int ti])), (yc, .inl (ca 2, 8000, .inl uc1))] H := by rw [← hE1]; exact hP
        have hD : va_D A [(ra, .inr (7, [.ref yt, .int (nI Tx.length), .ref yc, .int (nI (dig (4 + V.2.2) V.1).length), .ref yo, .int (nI Ox.length), .int (nI lim), .ref yk, .ref ys, .ref yn, .int (nI N.length), .ref y0, .ref y1, .ref y2, .ref y3, .int (nI st.length), .int (nI (escN st)), .int (nI V.2.2), .int (nI rs), .int (nI rt), .long (lN V.2.1), .ref yz, .int bef, .int ear, .int top, .int (nI 0), .int (nI 0), .long ab, .int nx, .int ti])), (yc, .inl (ca 2, 8000, .inl uc1))] := by rw [← hE1]; exact hD
        exact rw_vret (u := uc1) hx hb hr hlocks (by rw [← hE1]; exact hB1) (hP.sub [0, 1] rfl) (hD.sub [0, 1] (by decide) rfl) hS (Nat.le_refl _) (Nat.le_refl _) dX8_narrow_196
      · exact absurd h1 (by omega)
    | succ k ih =>
      intro x1 R1 s1 uc1 hB1 hs1 hfu hR2 hE H locs hP hD hS ls hl
      refine lv_aload_n hx hb dX8_narrow_69 rfl (lv_at hl 0 rfl) ?_
      refine va_get (D := D) (ci := 7) (v := .long (lN R1)) (C := RX8) (T := TX8) (N := 30) hx hb hts hin_X8 hown hK hP 0 rfl rfl 20 (by decide) hl_66 (fun _ h9 => h9) rfl dX8_narrow_70 ?_
      refine lv_ldc2 (v := lN 16777216) hx hb hown hw_bc6518 dX8_narrow_73 ?_
      refine W.lcmp hx hb dX8_narrow_76 ?_
      refine bl_ge (tgt := 196) hx hb dX8_narrow_77 (by decide) (by omega) (by omega) (fun h1 => ?_) (fun h1 => ?_)
      · have hE1 : (x1, R1, s1) = V := by rw [← hE, shf_s, if_neg (by show ¬ R1 < 16777216; omega)]
        have hP : va_P D vwCl [(ra, .inr (7, [.ref yt, .int (nI Tx.length), .ref yc, .int (nI (dig (4 + V.2.2) V.1).length), .ref yo, .int (nI Ox.length), .int (nI lim), .ref yk, .ref ys, .ref yn, .int (nI N.length), .ref y0, .ref y1, .ref y2, .ref y3, .int (nI st.length), .int (nI (escN st)), .int (nI V.2.2), .int (nI rs), .int (nI rt), .long (lN V.2.1), .ref yz, .int bef, .int ear, .int top, .int (nI 0), .int (nI 0), .long ab, .int nx, .int ti])), (yc, .inl (ca 2, 8000, .inl uc1))] H := by rw [← hE1]; exact hP
        have hD : va_D A [(ra, .inr (7, [.ref yt, .int (nI Tx.length), .ref yc, .int (nI (dig (4 + V.2.2) V.1).length), .ref yo, .int (nI Ox.length), .int (nI lim), .ref yk, .ref ys, .ref yn, .int (nI N.length), .ref y0, .ref y1, .ref y2, .ref y3, .int (nI st.length), .int (nI (escN st)), .int (nI V.2.2), .int (nI rs), .int (nI rt), .long (lN V.2.1), .ref yz, .int bef, .int ear, .int top, .int (nI 0), .int (nI 0), .long ab, .int nx, .int ti])), (yc, .inl (ca 2, 8000, .inl uc1))] := by rw [← hE1]; exact hD
        exact rw_vret (u := uc1) hx hb hr hlocks (by rw [← hE1]; exact hB1) (hP.sub [0, 1] rfl) (hD.sub [0, 1] (by decide) rfl) hS (Nat.le_refl _) (Nat.le_refl _) dX8_narrow_196
      · have hE2 : shf false [] k (x1 * 256, R1 * 256, s1 + 1) = V := by rw [← hE, shf_s, if_pos (by show R1 < 16777216; omega)]; rfl
        refine lv_aload_n hx hb dX8_narrow_80 rfl (lv_at hl 0 rfl) ?_
        refine lv_dup hx hb dX8_narrow_81 rfl ?_
        refine va_get (D := D) (ci := 7) (v := .long (lN R1)) (C := RX8) (T := TX8) (N := 30) hx hb hts hin_X8 hown hK hP 0 rfl rfl 20 (by decide) hl_66 (fun _ h9 => h9) rfl dX8_narrow_82 ?_
        refine lv_ldc2 (v := lN 256) hx hb hown hw_086c3a dX8_narrow_85 ?_
        refine lv_lmul hx hb dX8_narrow_88 ?_
        refine tp_l (y := lN (R1 * 256)) (lN_mul R1 256) ?_
        refine va_put (D := D) (ci := 7) (v := .long (lN (R1 * 256))) (ty := .long) (C := RX8) (T := TX8) (N := 30) hx hb hts hin_X8 tyX8 tyX8_ok nmX8 hown hK hP hD hS 0 rfl rfl 20 (by decide) hl_66 (fun _ h9 => h9) rfl (by decide +kernel) rfl rfl (Nat.le_of_ble_eq_true rfl) dX8_narrow_89 (fun H locs hP hD hS => ?_)
        have hP : va_P D vwCl [(ra, .inr (7, [.ref yt, .int (nI Tx.length), .ref yc, .int (nI (dig (4 + s1) x1).length), .ref yo, .int (nI Ox.length), .int (nI lim), .ref yk, .ref ys, .ref yn, .int (nI N.length), .ref y0, .ref y1, .ref y2, .ref y3, .int (nI st.length), .int (nI (escN st)), .int (nI s1), .int (nI rs), .int (nI rt), .long (lN (R1 * 256)), .ref yz, .int bef, .int ear, .int top, .int (nI 0), .int (nI 0), .long ab, .int nx, .int ti])), (yc, .inl (ca 2, 8000, .inl uc1))] H := hP
        have hD : va_D A [(ra, .inr (7, [.ref yt, .int (nI Tx.length), .ref yc, .int (nI (dig (4 + s1) x1).length), .ref yo, .int (nI Ox.length), .int (nI lim), .ref yk, .ref ys, .ref yn, .int (nI N.length), .ref y0, .ref y1, .ref y2, .ref y3, .int (nI st.length), .int (nI (escN st)), .int (nI s1), .int (nI rs), .int (nI rt), .long (lN (R1 * 256)), .ref yz, .int bef, .int ear, .int top, .int (nI 0), .int (nI 0), .long ab, .int nx, .int ti])), (yc, .inl (ca 2, 8000, .inl uc1))] := hD
        refine lv_aload_n hx hb dX8_narrow_92 rfl (lv_at hl 0 rfl) ?_
        refine lv_dup hx hb dX8_narrow_93 rfl ?_
        refine va_get (D := D) (ci := 7) (v := .int (nI s1)) (C := RX8) (T := TX8) (N := 30) hx hb hts hin_X8 hown hK hP 0 rfl rfl 17 (by decide) hl_79 (fun _ h9 => h9) rfl dX8_narrow_94 ?_
        refine lv_iconst (v := nI 1) hx hb dX8_narrow_97 (by decide) ?_
        refine lv_iadd hx hb dX8_narrow_98 ?_
        refine tp_i (y := nI (s1 + 1)) (nI_1 _) ?_
        refine va_put (D := D) (ci := 7) (v := .int (nI (s1 + 1))) (ty := .int) (C := RX8) (T := TX8) (N := 30) hx hb hts hin_X8 tyX8 tyX8_ok nmX8 hown hK hP hD hS 0 rfl rfl 17 (by decide) hl_79 (fun _ h9 => h9) rfl (by decide +kernel) rfl rfl (Nat.le_of_ble_eq_true rfl) dX8_narrow_99 (fun H locs hP hD hS => ?_)
        have hP : va_P D vwCl [(ra, .inr (7, [.ref yt, .int (nI Tx.length), .ref yc, .int (nI (dig (4 + s1) x1).length), .ref yo, .int (nI Ox.length), .int (nI lim), .ref yk, .ref ys, .ref yn, .int (nI N.length), .ref y0, .ref y1, .ref y2, .ref y3, .int (nI st.length), .int (nI (escN st)), .int (nI (s1 + 1)), .int (nI rs), .int (nI rt), .long (lN (R1 * 256)), .ref yz, .int bef, .int ear, .int top, .int (nI 0), .int (nI 0), .long ab, .int nx, .int ti])), (yc, .inl (ca 2, 8000, .inl uc1))] H := hP
        have hD : va_D A [(ra, .inr (7, [.ref yt, .int (nI Tx.length), .ref yc, .int (nI (dig (4 + s1) x1).length), .ref yo, .int (nI Ox.length), .int (nI lim), .ref yk, .ref ys, .ref yn, .int (nI N.length), .ref y0, .ref y1, .ref y2, .ref y3, .int (nI st.length), .int (nI (escN st)), .int (nI (s1 + 1)), .int (nI rs), .int (nI rt), .long (lN (R1 * 256)), .ref yz, .int bef, .int ear, .int top, .int (nI 0), .int (nI 0), .long ab, .int nx, .int ti])), (yc, .inl (ca 2, 8000, .inl uc1))] := hD
        refine lv_aload_n hx hb dX8_narrow_102 rfl (lv_at hl 0 rfl) ?_
        refine va_get (D := D) (ci := 7) (v := .int (nI 0)) (C := RX8) (T := TX8) (N := 30) hx hb hts hin_X8 hown hK hP 0 rfl rfl 25 (by decide) hl_115 (fun _ h9 => h9) rfl dX8_narrow_103 ?_
        refine lv_if_eq (tgt := 155) hx hb dX8_narrow_106 (by decide) (fun h2 => ?_) (fun h2 => ?_)
        · have hdl := dig_len (4 + s1) x1
          refine lv_aload_n hx hb dX8_narrow_155 rfl (lv_at hl 0 rfl) ?_
          refine va_get (D := D) (ci := 7) (v := .int (nI (dig (4 + s1) x1).length)) (C := RX8) (T := TX8) (N := 30) hx hb hts hin_X8 hown hK hP 0 rfl rfl 3 (by decide) hl_57 (fun _ h9 => h9) rfl dX8_narrow_156 ?_
          refine lv_sipush (v := nI 8000) hx hb dX8_narrow_159 (by decide) ?_
          refine bn_ge (tgt := 188) hx hb dX8_narrow_162 (by decide) (by omega) (by omega) (fun h3 => ?_) (fun h3 => ?_)
          · exact absurd h3 (by omega)
          · refine lv_aload_n hx hb dX8_narrow_165 rfl (lv_at hl 0 rfl) ?_
            refine va_get (D := D) (ci := 7) (v := .ref yc) (C := RX8) (T := TX8) (N := 30) hx hb hts hin_X8 hown hK hP 0 rfl rfl 2 (by decide) hl_13 (fun _ h9 => h9) rfl dX8_narrow_166 ?_
            refine lv_aload_n hx hb dX8_narrow_169 rfl (lv_at hl 0 rfl) ?_
            refine va_get (D := D) (ci := 7) (v := .int (nI (dig (4 + s1) x1).length)) (C := RX8) (T := TX8) (N := 30) hx hb hts hin_X8 hown hK hP 0 rfl rfl 3 (by decide) hl_57 (fun _ h9 => h9) rfl dX8_narrow_170 ?_
            refine lv_iconst (v := nI 0) hx hb dX8_narrow_173 (by decide) ?_
            refine st_b hx hb hK hP hD hS 1 2 rfl rfl (j := (dig (4 + s1) x1).length) (by omega) (by omega) dX8_narrow_174 (fun H locs hP hD hS => ?_)
            have hP : va_P D vwCl [(ra, .inr (7, [.ref yt, .int (nI Tx.length), .ref yc, .int (nI (dig (4 + s1) x1).length), .ref yo, .int (nI Ox.length), .int (nI lim), .ref yk, .ref ys, .ref yn, .int (nI N.length), .ref y0, .ref y1, .ref y2, .ref y3, .int (nI st.length), .int (nI (escN st)), .int (nI (s1 + 1)), .int (nI rs), .int (nI rt), .long (lN (R1 * 256)), .ref yz, .int bef, .int ear, .int top, .int (nI 0), .int (nI 0), .long ab, .int nx, .int ti])), (yc, .inl (ca 2, 8000, .inl (upd uc1 ((dig (4 + s1) x1).length) (vp_nar .byte (nI 0)))))] H := hP
            have hD : va_D A [(ra, .inr (7, [.ref yt, .int (nI Tx.length), .ref yc, .int (nI (dig (4 + s1) x1).length), .ref yo, .int (nI Ox.length), .int (nI lim), .ref yk, .ref ys, .ref yn, .int (nI N.length), .ref y0, .ref y1, .ref y2, .ref y3, .int (nI st.length), .int (nI (escN st)), .int (nI (s1 + 1)), .int (nI rs), .int (nI rt), .long (lN (R1 * 256)), .ref yz, .int bef, .int ear, .int top, .int (nI 0), .int (nI 0), .long ab, .int nx, .int ti])), (yc, .inl (ca 2, 8000, .inl (upd uc1 ((dig (4 + s1) x1).length) (vp_nar .byte (nI 0)))))] := hD
            refine lv_aload_n hx hb dX8_narrow_175 rfl (lv_at hl 0 rfl) ?_
            refine lv_dup hx hb dX8_narrow_176 rfl ?_
            refine va_get (D := D) (ci := 7) (v := .int (nI (dig (4 + s1) x1).length)) (C := RX8) (T := TX8) (N := 30) hx hb hts hin_X8 hown hK hP 0 rfl rfl 3 (by decide) hl_57 (fun _ h9 => h9) rfl dX8_narrow_177 ?_
            refine lv_iconst (v := nI 1) hx hb dX8_narrow_180 (by decide) ?_
            refine lv_iadd hx hb dX8_narrow_181 ?_
            refine va_put (D := D) (ci := 7) (v := .int ((nI (dig (4 + s1) x1).length) + (nI 1))) (ty := .int) (C := RX8) (T := TX8) (N := 30) hx hb hts hin_X8 tyX8 tyX8_ok nmX8 hown hK hP hD hS 0 rfl rfl 3 (by decide) hl_57 (fun _ h9 => h9) rfl (by decide +kernel) rfl rfl (Nat.le_of_ble_eq_true rfl) dX8_narrow_182 (fun H locs hP hD hS => ?_)
            have hP : va_P D vwCl [(ra, .inr (7, [.ref yt, .int (nI Tx.length), .ref yc, .int ((nI (dig (4 + s1) x1).length) + (nI 1)), .ref yo, .int (nI Ox.length), .int (nI lim), .ref yk, .ref ys, .ref yn, .int (nI N.length), .ref y0, .ref y1, .ref y2, .ref y3, .int (nI st.length), .int (nI (escN st)), .int (nI (s1 + 1)), .int (nI rs), .int (nI rt), .long (lN (R1 * 256)), .ref yz, .int bef, .int ear, .int top, .int (nI 0), .int (nI 0), .long ab, .int nx, .int ti])), (yc, .inl (ca 2, 8000, .inl (upd uc1 ((dig (4 + s1) x1).length) (vp_nar .byte (nI 0)))))] H := hP
            have hD : va_D A [(ra, .inr (7, [.ref yt, .int (nI Tx.length), .ref yc, .int ((nI (dig (4 + s1) x1).length) + (nI 1)), .ref yo, .int (nI Ox.length), .int (nI lim), .ref yk, .ref ys, .ref yn, .int (nI N.length), .ref y0, .ref y1, .ref y2, .ref y3, .int (nI st.length), .int (nI (escN st)), .int (nI (s1 + 1)), .int (nI rs), .int (nI rt), .long (lN (R1 * 256)), .ref yz, .int bef, .int ear, .int top, .int (nI 0), .int (nI 0), .long ab, .int nx, .int ti])), (yc, .inl (ca 2, 8000, .inl (upd uc1 ((dig (4 + s1) x1).length) (vp_nar .byte (nI 0)))))] := hD
            refine lv_goto (tgt := 69) hx hb dX8_narrow_185 (by decide) ?_
            have e3 : dig (4 + (s1 + 1)) (x1 * 256) = dig (4 + s1) x1 ++ [0] := dig_0 _ _
            have hP : va_P D vwCl [(ra, .inr (7, [.ref yt, .int (nI Tx.length), .ref yc, .int (nI (dig (4 + (s1 + 1)) (x1 * 256)).length), .ref yo, .int (nI Ox.length), .int (nI lim), .ref yk, .ref ys, .ref yn, .int (nI N.length), .ref y0, .ref y1, .ref y2, .ref y3, .int (nI st.length), .int (nI (escN st)), .int (nI (s1 + 1)), .int (nI rs), .int (nI rt), .long (lN (R1 * 256)), .ref yz, .int bef, .int ear, .int top, .int (nI 0), .int (nI 0), .long ab, .int nx, .int ti])), (yc, .inl (ca 2, 8000, .inl (upd uc1 ((dig (4 + s1) x1).length) (vp_nar .byte (nI 0)))))] H := by rw [e3, List.length_append, List.length_singleton, ← nI_1 ((dig (4 + s1) x1).length)]; exact hP
            have hD : va_D A [(ra, .inr (7, [.ref yt, .int (nI Tx.length), .ref yc, .int (nI (dig (4 + (s1 + 1)) (x1 * 256)).length), .ref yo, .int (nI Ox.length), .int (nI lim), .ref yk, .ref ys, .ref yn, .int (nI N.length), .ref y0, .ref y1, .ref y2, .ref y3, .int (nI st.length), .int (nI (escN st)), .int (nI (s1 + 1)), .int (nI rs), .int (nI rt), .long (lN (R1 * 256)), .ref yz, .int bef, .int ear, .int top, .int (nI 0), .int (nI 0), .long ab, .int nx, .int ti])), (yc, .inl (ca 2, 8000, .inl (upd uc1 ((dig (4 + s1) x1).length) (vp_nar .byte (nI 0)))))] := by rw [e3, List.length_append, List.length_singleton, ← nI_1 ((dig (4 + s1) x1).length)]; exact hD
            exact ih (x1 * 256) (R1 * 256) (s1 + 1) (upd uc1 ((dig (4 + s1) x1).length) (vp_nar .byte (nI 0))) (by rw [e3]; exact BB_app hB1 byte_0 rfl) (by omega) (pow_fu hfu) (by omega) hE2 H locs hP hD hS _ (lv_sub hl [0] rfl)
        · exact absurd rfl h2
  refine lv_aload_n hx hb dX8_narrow_0 rfl (lv_at hl 0 rfl) ?_
  refine va_get (D := D) (ci := 7) (v := .long (lN rg)) (C := RX8) (T := TX8) (N := 30) hx hb hts hin_X8 hown hK hP 0 rfl rfl 20 (by decide) hl_66 (fun _ h9 => h9) rfl dX8_narrow_1 ?_
  refine lv_iload_n hx hb dX8_narrow_4 rfl (lv_at hl 3 rfl) ?_
  refine lv_i2l (v := lN t) hx hb dX8_narrow_5 (nI_l (by omega)) ?_
  refine lv_ldiv hx hb dX8_narrow_6 (lN_ne0 ht.1 (by omega)) ?_
  refine tp_l (y := lN (rg / t)) (pk_lDiv (by omega) (by omega) (by omega)) ?_
  refine lv_lstore (lv' := [(4, .long (lN (rg / t))), (0, .ref ra), (1, .int (nI a)), (2, .int (nI f)), (3, .int (nI t))]) hx hb dX8_narrow_7 hl (by decide) rfl (fun ls hl => ?_)
  refine lv_lload hx hb dX8_narrow_9 (lv_at hl 0 rfl) ?_
  refine lv_iload_n hx hb dX8_narrow_11 rfl (lv_at hl 2 rfl) ?_
  refine lv_i2l (v := lN a) hx hb dX8_narrow_12 (nI_l (by omega)) ?_
  refine lv_lmul hx hb dX8_narrow_13 ?_
  refine tp_l (y := lN (rg / t * a)) (lN_mul _ _) ?_
  refine lv_lstore (lv' := [(6, .long (lN (rg / t * a))), (4, .long (lN (rg / t))), (0, .ref ra), (1, .int (nI a)), (2, .int (nI f)), (3, .int (nI t))]) hx hb dX8_narrow_14 hl (by decide) rfl (fun ls hl => ?_)
  refine lv_aload_n hx hb dX8_narrow_16 rfl (lv_at hl 2 rfl) ?_
  refine lv_iload_n hx hb dX8_narrow_17 rfl (lv_at hl 3 rfl) ?_
  refine lv_iload_n hx hb dX8_narrow_18 rfl (lv_at hl 4 rfl) ?_
  refine lv_iadd hx hb dX8_narrow_19 ?_
  refine tp_i (y := nI (a + f)) (nI_add a f) ?_
  refine lv_iload_n hx hb dX8_narrow_20 rfl (lv_at hl 5 rfl) ?_
  refine bn_ne (tgt := 34) hx hb dX8_narrow_21 (by decide) (by omega) (by omega) (fun h1 => ?_) (fun h1 => ?_)
  · refine lv_lload hx hb dX8_narrow_34 (lv_at hl 1 rfl) ?_
    refine lv_iload_n hx hb dX8_narrow_36 rfl (lv_at hl 4 rfl) ?_
    refine lv_i2l (v := lN f) hx hb dX8_narrow_37 (nI_l (by omega)) ?_
    refine lv_lmul hx hb dX8_narrow_38 ?_
    refine tp_l (y := lN (rg / t * f)) (lN_mul _ _) ?_
    rw [if_neg h1] at hnr
    refine va_put (D := D) (ci := 7) (v := .long (lN (rg / t * f))) (ty := .long) (C := RX8) (T := TX8) (N := 30) hx hb hts hin_X8 tyX8 tyX8_ok nmX8 hown hK hP hD hS 0 rfl rfl 20 (by decide) hl_66 (fun _ h9 => h9) rfl (by decide +kernel) rfl rfl (Nat.le_of_ble_eq_true rfl) dX8_narrow_39 (fun H locs hP hD hS => ?_)
    have hP : va_P D vwCl [(ra, .inr (7, [.ref yt, .int (nI Tx.length), .ref yc, .int (nI (dig (4 + sh) x).length), .ref yo, .int (nI Ox.length), .int (nI lim), .ref yk, .ref ys, .ref yn, .int (nI N.length), .ref y0, .ref y1, .ref y2, .ref y3, .int (nI st.length), .int (nI (escN st)), .int (nI sh), .int (nI rs), .int (nI rt), .long (lN (rg / t * f)), .ref yz, .int bef, .int ear, .int top, .int (nI 0), .int (nI 0), .long ab, .int nx, .int ti])), (yc, .inl (ca 2, 8000, .inl uc))] H := hP
    have hD : va_D A [(ra, .inr (7, [.ref yt, .int (nI Tx.length), .ref yc, .int (nI (dig (4 + sh) x).length), .ref yo, .int (nI Ox.length), .int (nI lim), .ref yk, .ref ys, .ref yn, .int (nI N.length), .ref y0, .ref y1, .ref y2, .ref y3, .int (nI st.length), .int (nI (escN st)), .int (nI sh), .int (nI rs), .int (nI rt), .long (lN (rg / t * f)), .ref yz, .int bef, .int ear, .int top, .int (nI 0), .int (nI 0), .long ab, .int nx, .int ti])), (yc, .inl (ca 2, 8000, .inl uc))] := hD
    refine lv_aload_n hx hb dX8_narrow_42 rfl (lv_at hl 2 rfl) ?_
    refine va_get (D := D) (ci := 7) (v := .int (nI 0)) (C := RX8) (T := TX8) (N := 30) hx hb hts hin_X8 hown hK hP 0 rfl rfl 25 (by decide) hl_115 (fun _ h9 => h9) rfl dX8_narrow_43 ?_
    refine lv_if_eq (tgt := 63) hx hb dX8_narrow_46 (by decide) (fun h2 => ?_) (fun h2 => ?_)
    · have hE0 : shf false [] 4 (x + rg / t * a, rg / t * f, sh) = V := by rw [← hV]; unfold nar; dsimp only; rw [if_neg h1]; rfl
      refine lv_aload_n hx hb dX8_narrow_63 rfl (lv_at hl 2 rfl) ?_
      refine lv_lload hx hb dX8_narrow_64 (lv_at hl 0 rfl) ?_
      refine rw_callv (wc := [(ra, .inr (7, [.ref yt, .int (nI Tx.length), .ref yc, .int (nI (dig (4 + sh) x).length), .ref yo, .int (nI Ox.length), .int (nI lim), .ref yk, .ref ys, .ref yn, .int (nI N.length), .ref y0, .ref y1, .ref y2, .ref y3, .int (nI st.length), .int (nI (escN st)), .int (nI sh), .int (nI rs), .int (nI rt), .long (lN (rg / t * f)), .ref yz, .int bef, .int ear, .int top, .int (nI 0), .int (nI 0), .long ab, .int nx, .int ti])), (yc, .inl (ca 2, 8000, .inl uc))]) (wr := []) hP hD hS hA [0, 1] [] rfl rfl (by decide) (by decide) (va_runV (As := [.long (lN (rg / t * a))]) (rest := []) ⟨hx, hb, hml, hown, hts⟩ (c_x_addLow l D ca ra yt yc yo yk ys yn y0 y1 y2 y3 yz Tx Ox N st lim sh rs rt (rg / t * f) bef ear top (nI 0) (nI 0) nx ti ab uc x (4 + sh) (rg / t * a) (hB) (by omega) (by omega) H.size) (cwV 1 hts gX8_narrow_X8_addLow rfl rfl rfl (by decide +kernel) ⟨Nat.le_of_ble_eq_true rfl, Nat.le_of_ble_eq_true rfl⟩) ⟨rwP_blind, va_recv hK hP (ci := 7) (q0 := 0) rfl rfl, rwP_at hK hN (hP.sub [0, 1] rfl) (hD.sub [0, 1] (by decide) rfl)⟩ rfl rfl hl.1 rfl (lv_room (Nat.le_of_ble_eq_true rfl)) dX8_narrow_66 ⟨Nat.le_of_ble_eq_true rfl, Nat.le_of_ble_eq_true rfl⟩) (fun u H locs hal hP hD hS => ?_)
      obtain ⟨uc1_2, rfl⟩ : ∃ z, z = u := ⟨_, rfl⟩
      try dsimp only at hal
      have hP : va_P D vwCl [(ra, .inr (7, [.ref yt, .int (nI Tx.length), .ref yc, .int (nI (dig (4 + sh) (x + (rg / t * a))).length), .ref yo, .int (nI Ox.length), .int (nI lim), .ref yk, .ref ys, .ref yn, .int (nI N.length), .ref y0, .ref y1, .ref y2, .ref y3, .int (nI st.length), .int (nI (escN st)), .int (nI sh), .int (nI rs), .int (nI rt), .long (lN (rg / t * f)), .ref yz, .int bef, .int ear, .int top, .int (nI 0), .int (nI 0), .long ab, .int nx, .int ti])), (yc, .inl (ca 2, 8000, .inl uc1_2))] H := hP
      have hD : va_D A [(ra, .inr (7, [.ref yt, .int (nI Tx.length), .ref yc, .int (nI (dig (4 + sh) (x + (rg / t * a))).length), .ref yo, .int (nI Ox.length), .int (nI lim), .ref yk, .ref ys, .ref yn, .int (nI N.length), .ref y0, .ref y1, .ref y2, .ref y3, .int (nI st.length), .int (nI (escN st)), .int (nI sh), .int (nI rs), .int (nI rt), .long (lN (rg / t * f)), .ref yz, .int bef, .int ear, .int top, .int (nI 0), .int (nI 0), .long ab, .int nx, .int ti])), (yc, .inl (ca 2, 8000, .inl uc1_2))] := hD
      exact hlo 4 (x + rg / t * a) (rg / t * f) sh uc1_2 hal (by omega) (by have h9 := hnr.2.2.1; omega) (by omega) hE0 H locs (hP.sub [0, 1] rfl) (hD.sub [0, 1] (by decide) rfl) hS _ (lv_sub hl [2] rfl)
    · exact absurd rfl h2
  · refine lv_aload_n hx hb dX8_narrow_24 rfl (lv_at hl 2 rfl) ?_
    refine va_get (D := D) (ci := 7) (v := .long (lN rg)) (C := RX8) (T := TX8) (N := 30) hx hb hts hin_X8 hown hK hP 0 rfl rfl 20 (by decide) hl_66 (fun _ h9 => h9) rfl dX8_narrow_25 ?_
    refine lv_lload hx hb dX8_narrow_28 (lv_at hl 0 rfl) ?_
    refine lv_lsub hx hb dX8_narrow_30 ?_
    refine tp_l (y := lN (rg - rg / t * a)) (lN_sub hnr.2.1) ?_
    rw [if_pos h1] at hnr
    refine lv_goto (tgt := 39) hx hb dX8_narrow_31 (by decide) ?_
    refine va_put (D := D) (ci := 7) (v := .long (lN (rg - rg / t * a))) (ty := .long) (C := RX8) (T := TX8) (N := 30) hx hb hts hin_X8 tyX8 tyX8_ok nmX8 hown hK hP hD hS 0 rfl rfl 20 (by decide) hl_66 (fun _ h9 => h9) rfl (by decide +kernel) rfl rfl (Nat.le_of_ble_eq_true rfl) dX8_narrow_39 (fun H locs hP hD hS => ?_)
    have hP : va_P D vwCl [(ra, .inr (7, [.ref yt, .int (nI Tx.length), .ref yc, .int (nI (dig (4 + sh) x).length), .ref yo, .int (nI Ox.length), .int (nI lim), .ref yk, .ref ys, .ref yn, .int (nI N.length), .ref y0, .ref y1, .ref y2, .ref y3, .int (nI st.length), .int (nI (escN st)), .int (nI sh), .int (nI rs), .int (nI rt), .long (lN (rg - rg / t * a)), .ref yz, .int bef, .int ear, .int top, .int (nI 0), .int (nI 0), .long ab, .int nx, .int ti])), (yc, .inl (ca 2, 8000, .inl uc))] H := hP
    have hD : va_D A [(ra, .inr (7, [.ref yt, .int (nI Tx.length), .ref yc, .int (nI (dig (4 + sh) x).length), .ref yo, .int (nI Ox.length), .int (nI lim), .ref yk, .ref ys, .ref yn, .int (nI N.length), .ref y0, .ref y1, .ref y2, .ref y3, .int (nI st.length), .int (nI (escN st)), .int (nI sh), .int (nI rs), .int (nI rt), .long (lN (rg - rg / t * a)), .ref yz, .int bef, .int ear, .int top, .int (nI 0), .int (nI 0), .long ab, .int nx, .int ti])), (yc, .inl (ca 2, 8000, .inl uc))] := hD
    refine lv_aload_n hx hb dX8_narrow_42 rfl (lv_at hl 2 rfl) ?_
    refine va_get (D := D) (ci := 7) (v := .int (nI 0)) (C := RX8) (T := TX8) (N := 30) hx hb hts hin_X8 hown hK hP 0 rfl rfl 25 (by decide) hl_115 (fun _ h9 => h9) rfl dX8_narrow_43 ?_
    refine lv_if_eq (tgt := 63) hx hb dX8_narrow_46 (by decide) (fun h2 => ?_) (fun h2 => ?_)
    · have hE0 : shf false [] 4 (x + rg / t * a, rg - rg / t * a, sh) = V := by rw [← hV]; unfold nar; dsimp only; rw [if_pos h1]; rfl
      refine lv_aload_n hx hb dX8_narrow_63 rfl (lv_at hl 2 rfl) ?_
      refine lv_lload hx hb dX8_narrow_64 (lv_at hl 0 rfl) ?_
      refine rw_callv (wc := [(ra, .inr (7, [.ref yt, .int (nI Tx.length), .ref yc, .int (nI (dig (4 + sh) x).length), .ref yo, .int (nI Ox.length), .int (nI lim), .ref yk, .ref ys, .ref yn, .int (nI N.length), .ref y0, .ref y1, .ref y2, .ref y3, .int (nI st.length), .int (nI (escN st)), .int (nI sh), .int (nI rs), .int (nI rt), .long (lN (rg - rg / t * a)), .ref yz, .int bef, .int ear, .int top, .int (nI 0), .int (nI 0), .long ab, .int nx, .int ti])), (yc, .inl (ca 2, 8000, .inl uc))]) (wr := []) hP hD hS hA [0, 1] [] rfl rfl (by decide) (by decide) (va_runV (As := [.long (lN (rg / t * a))]) (rest := []) ⟨hx, hb, hml, hown, hts⟩ (c_x_addLow l D ca ra yt yc yo yk ys yn y0 y1 y2 y3 yz Tx Ox N st lim sh rs rt (rg - rg / t * a) bef ear top (nI 0) (nI 0) nx ti ab uc x (4 + sh) (rg / t * a) (hB) (by omega) (by omega) H.size) (cwV 1 hts gX8_narrow_X8_addLow rfl rfl rfl (by decide +kernel) ⟨Nat.le_of_ble_eq_true rfl, Nat.le_of_ble_eq_true rfl⟩) ⟨rwP_blind, va_recv hK hP (ci := 7) (q0 := 0) rfl rfl, rwP_at hK hN (hP.sub [0, 1] rfl) (hD.sub [0, 1] (by decide) rfl)⟩ rfl rfl hl.1 rfl (lv_room (Nat.le_of_ble_eq_true rfl)) dX8_narrow_66 ⟨Nat.le_of_ble_eq_true rfl, Nat.le_of_ble_eq_true rfl⟩) (fun u H locs hal hP hD hS => ?_)
      obtain ⟨uc1_4, rfl⟩ : ∃ z, z = u := ⟨_, rfl⟩
      try dsimp only at hal
      have hP : va_P D vwCl [(ra, .inr (7, [.ref yt, .int (nI Tx.length), .ref yc, .int (nI (dig (4 + sh) (x + (rg / t * a))).length), .ref yo, .int (nI Ox.length), .int (nI lim), .ref yk, .ref ys, .ref yn, .int (nI N.length), .ref y0, .ref y1, .ref y2, .ref y3, .int (nI st.length), .int (nI (escN st)), .int (nI sh), .int (nI rs), .int (nI rt), .long (lN (rg - rg / t * a)), .ref yz, .int bef, .int ear, .int top, .int (nI 0), .int (nI 0), .long ab, .int nx, .int ti])), (yc, .inl (ca 2, 8000, .inl uc1_4))] H := hP
      have hD : va_D A [(ra, .inr (7, [.ref yt, .int (nI Tx.length), .ref yc, .int (nI (dig (4 + sh) (x + (rg / t * a))).length), .ref yo, .int (nI Ox.length), .int (nI lim), .ref yk, .ref ys, .ref yn, .int (nI N.length), .ref y0, .ref y1, .ref y2, .ref y3, .int (nI st.length), .int (nI (escN st)), .int (nI sh), .int (nI rs), .int (nI rt), .long (lN (rg - rg / t * a)), .ref yz, .int bef, .int ear, .int top, .int (nI 0), .int (nI 0), .long ab, .int nx, .int ti])), (yc, .inl (ca 2, 8000, .inl uc1_4))] := hD
      exact hlo 4 (x + rg / t * a) (rg - rg / t * a) sh uc1_4 hal (by omega) (by have h9 := hnr.2.2.1; omega) (by omega) hE0 H locs (hP.sub [0, 1] rfl) (hD.sub [0, 1] (by decide) rfl) hS _ (lv_sub hl [2] rfl)
    · exact absurd rfl h2

set_option maxHeartbeats 4000000 in
set_option maxRecDepth 100000 in
theorem c_x_narrow_R (l : Launch) (D : va_G) (ca : Nat → ClassId) (ra : Nat) (yt : Nat) (yc : Nat) (yo : Nat) (yk : Nat) (ys : Nat) (yn : Nat) (y0 : Nat) (y1 : Nat) (y2 : Nat) (y3 : Nat) (yz : Nat) (Tx : List Nat) (Cd : List Nat) (Ox : List Nat) (N : List Nd) (st : List Stq) (lim : Nat) (sh : Nat) (rs : Nat) (rt : Nat) (rg : Nat) (bef : Int32) (ear : Int32) (top : Int32) (fl : Int32) (ti : Int32) (uc : Nat → Int32) (x : Nat) (a : Nat) (f : Nat) (t : Nat) (V : Iv) (hB : BB uc Cd) (hL : Cd.length ≤ 8000) (hyc : ∀ j, Cd.getD j 0 < 256) (hs8 : sh < 2 ^ 29) (hpl : rg / t * a ≤ x ∧ x - rg / t * a ≤ (if a + f = t then rg - rg / t * a else rg / t * f)) (hrg : 16777216 ≤ rg ∧ rg < 4294967296) (ht : 1 ≤ t ∧ t < 32768) (haf : 1 ≤ f ∧ a + f ≤ t) (hV : nar true Cd a f t (x, rg, sh) = V) (sz : Nat) : Met l yX8_narrow wsX8_narrow { frames := 1, cells := 0, slots := 0, locals := 21 } (rwP D vwCl (ATy ca) [(ra, .inr (7, [.ref yt, .int (nI Tx.length), .ref yc, .int (nI Cd.length), .ref yo, .int (nI Ox.length), .int (nI lim), .ref yk, .ref ys, .ref yn, .int (nI N.length), .ref y0, .ref y1, .ref y2, .ref y3, .int (nI st.length), .int (nI (escN st)), .int (nI sh), .int (nI rs), .int (nI rt), .long (lN rg), .ref yz, .int bef, .int ear, .int top, .int (nI 1), .int fl, .long (lN x), .int (nI (4 + sh)), .int ti])), (yc, .inl (ca 2, 8000, .inl uc))] sz [.ref ra, .int (nI a), .int (nI f), .int (nI t)]) (va_Qv (fun (u : Unit) => True) (bB D vwCl (fun (u : Unit) => [(ra, .inr (7, [.ref yt, .int (nI Tx.length), .ref yc, .int (nI Cd.length), .ref yo, .int (nI Ox.length), .int (nI lim), .ref yk, .ref ys, .ref yn, .int (nI N.length), .ref y0, .ref y1, .ref y2, .ref y3, .int (nI st.length), .int (nI (escN st)), .int (nI V.2.2), .int (nI rs), .int (nI rt), .long (lN V.2.1), .ref yz, .int bef, .int ear, .int top, .int (nI 1), .int fl, .long (lN V.1), .int (nI (4 + V.2.2)), .int ti])), (yc, .inl (ca 2, 8000, .inl uc))]) (va_A [(ra, .inr (7, [.ref yt, .int (nI Tx.length), .ref yc, .int (nI Cd.length), .ref yo, .int (nI Ox.length), .int (nI lim), .ref yk, .ref ys, .ref yn, .int (nI N.length), .ref y0, .ref y1, .ref y2, .ref y3, .int (nI st.length), .int (nI (escN st)), .int (nI sh), .int (nI rs), .int (nI rt), .long (lN rg), .ref yz, .int bef, .int ear, .int top, .int (nI 1), .int fl, .long (lN x), .int (nI (4 + sh)), .int ti])), (yc, .inl (ca 2, 8000, .inl uc))] sz)) (va_A [(ra, .inr (7, [.ref yt, .int (nI Tx.length), .ref yc, .int (nI Cd.length), .ref yo, .int (nI Ox.length), .int (nI lim), .ref yk, .ref ys, .ref yn, .int (nI N.length), .ref y0, .ref y1, .ref y2, .ref y3, .int (nI st.length), .int (nI (escN st)), .int (nI sh), .int (nI rs), .int (nI rt), .long (lN rg), .ref yz, .int bef, .int ear, .int top, .int (nI 1), .int fl, .long (lN x), .int (nI (4 + sh)), .int ti])), (yc, .inl (ca 2, 8000, .inl uc))] sz)) 0 0 (va_A [(ra, .inr (7, [.ref yt, .int (nI Tx.length), .ref yc, .int (nI Cd.length), .ref yo, .int (nI Ox.length), .int (nI lim), .ref yk, .ref ys, .ref yn, .int (nI N.length), .ref y0, .ref y1, .ref y2, .ref y3, .int (nI st.length), .int (nI (escN st)), .int (nI sh), .int (nI rs), .int (nI rt), .long (lN rg), .ref yz, .int bef, .int ear, .int top, .int (nI 1), .int fl, .long (lN x), .int (nI (4 + sh)), .int ti])), (yc, .inl (ca 2, 8000, .inl uc))] sz) := by
  refine rw_enter (Q := fun A => va_Qv (fun (u : Unit) => True) (bB D vwCl (fun (u : Unit) => [(ra, .inr (7, [.ref yt, .int (nI Tx.length), .ref yc, .int (nI Cd.length), .ref yo, .int (nI Ox.length), .int (nI lim), .ref yk, .ref ys, .ref yn, .int (nI N.length), .ref y0, .ref y1, .ref y2, .ref y3, .int (nI st.length), .int (nI (escN st)), .int (nI V.2.2), .int (nI rs), .int (nI rt), .long (lN V.2.1), .ref yz, .int bef, .int ear, .int top, .int (nI 1), .int fl, .long (lN V.1), .int (nI (4 + V.2.2)), .int ti])), (yc, .inl (ca 2, 8000, .inl uc))]) A) A) (by decide) rfl (Nat.le_of_ble_eq_true rfl) ?_
  intro p e s m below meth c ls A C hnm hK hN hP hD hA hl
  have hS : va_S A s.heap s.heap [] := va_S.rf
  obtain ⟨hx, hb, hr, hml, hown, hlocks, hts⟩ := C
  have hl : lv_has ls 8 [(0, .ref ra), (1, .int (nI a)), (2, .int (nI f)), (3, .int (nI t))] := hl
  have hin_X8 : ∀ w ∈ wsX80, w ∈ wsX8_narrow := by decide +kernel
  have hl_66 := hts (.fieldLink RX8 66 "EscapeCoderModel" "range" "J") (by decide +kernel)
  have hw_bc6518 := hts (.constantLong RX8 126 (lN 16777216)) (by decide +kernel)
  have hw_086c3a := hts (.constantLong RX8 128 (lN 256)) (by decide +kernel)
  have hl_79 := hts (.fieldLink RX8 79 "EscapeCoderModel" "shifts" "I") (by decide +kernel)
  have hl_115 := hts (.fieldLink RX8 115 "EscapeCoderModel" "reads" "Z") (by decide +kernel)
  have hl_119 := hts (.fieldLink RX8 119 "EscapeCoderModel" "above" "J") (by decide +kernel)
  have hw_2f1b91 := hts (.constantLong RX8 134 (lN 35184372088832)) (by decide +kernel)
  have hnr := nar_r hrg.1 ht haf.1 haf.2
  have hlo : ∀ (k : Nat) (x1 : Nat) (R1 : Nat) (s1 : Nat), (x1 < 2 * R1) → (s1 + k ≤ sh + 4) → (16777216 ≤ R1 * 256 ^ k) → (R1 < 4294967296) → (shf true Cd k (x1, R1, s1) = V) → ∀ (H : Heap) (locs : List Loc), va_P D vwCl [(ra, .inr (7, [.ref yt, .int (nI Tx.length), .ref yc, .int (nI Cd.length), .ref yo, .int (nI Ox.length), .int (nI lim), .ref yk, .ref ys, .ref yn, .int (nI N.length), .ref y0, .ref y1, .ref y2, .ref y3, .int (nI st.length), .int (nI (escN st)), .int (nI s1), .int (nI rs), .int (nI rt), .long (lN R1), .ref yz, .int bef, .int ear, .int top, .int (nI 1), .int fl, .long (lN x1), .int (nI (4 + s1)), .int ti])), (yc, .inl (ca 2, 8000, .inl uc))] H → va_D A [(ra, .inr (7, [.ref yt, .int (nI Tx.length), .ref yc, .int (nI Cd.length), .ref yo, .int (nI Ox.length), .int (nI lim), .ref yk, .ref ys, .ref yn, .int (nI N.length), .ref y0, .ref y1, .ref y2, .ref y3, .int (nI st.length), .int (nI (escN st)), .int (nI s1), .int (nI rs), .int (nI rt), .long (lN R1), .ref yz, .int bef, .int ear, .int top, .int (nI 1), .int fl, .long (lN x1), .int (nI (4 + s1)), .int ti])), (yc, .inl (ca 2, 8000, .inl uc))] → va_S A s.heap H locs → ∀ (ls : Array Slot), lv_has ls 8 [(0, .ref ra)] → W p l e ({ frames := 1, cells := 0, slots := 0, locals := 21 } : Room) s m ([.ref ra, .int (nI a), .int (nI f), .int (nI t)] : List Value).toArray below meth c H locs 0 0 (MQ below (va_Qv (fun (u : Unit) => True) (bB D vwCl (fun (u : Unit) => [(ra, .inr (7, [.ref yt, .int (nI Tx.length), .ref yc, .int (nI Cd.length), .ref yo, .int (nI Ox.length), .int (nI lim), .ref yk, .ref ys, .ref yn, .int (nI N.length), .ref y0, .ref y1, .ref y2, .ref y3, .int (nI st.length), .int (nI (escN st)), .int (nI V.2.2), .int (nI rs), .int (nI rt), .long (lN V.2.1), .ref yz, .int bef, .int ear, .int top, .int (nI 1), .int fl, .long (lN V.1), .int (nI (4 + V.2.2)), .int ti])), (yc, .inl (ca 2, 8000, .inl uc))]) A) A) ([.ref ra, .int (nI a), .int (nI f), .int (nI t)] : List Value).toArray s 0 0 A) (F0 m 69 ls []) := by
    intro k
    induction k with
    | zero =>
      intro x1 R1 s1 hx1 hs1 hfu hR2 hE H locs hP hD hS ls hl
      rw [Nat.pow_zero, Nat.mul_one] at hfu
      refine lv_aload_n hx hb dX8_narrow_69 rfl (lv_at hl 0 rfl) ?_
      refine va_get (D := D) (ci := 7) (v := .long (lN R1)) (C := RX8) (T := TX8) (N := 30) hx hb hts hin_X8 hown hK hP 0 rfl rfl 20 (by decide) hl_66 (fun _ h9 => h9) rfl dX8_narrow_70 ?_
      refine lv_ldc2 (v := lN 16777216) hx hb hown hw_bc6518 dX8_narrow_73 ?_
      refine W.lcmp hx hb dX8_narrow_76 ?_
      refine bl_ge (tgt := 196) hx hb dX8_narrow_77 (by decide) (by omega) (by omega) (fun h1 => ?_) (fun h1 => ?_)
      · have hE1 : (x1, R1, s1) = V := hE
        have hP : va_P D vwCl [(ra, .inr (7, [.ref yt, .int (nI Tx.length), .ref yc, .int (nI Cd.length), .ref yo, .int (nI Ox.length), .int (nI lim), .ref yk, .ref ys, .ref yn, .int (nI N.length), .ref y0, .ref y1, .ref y2, .ref y3, .int (nI st.length), .int (nI (escN st)), .int (nI V.2.2), .int (nI rs), .int (nI rt), .long (lN V.2.1), .ref yz, .int bef, .int ear, .int top, .int (nI 1), .int fl, .long (lN V.1), .int (nI (4 + V.2.2)), .int ti])), (yc, .inl (ca 2, 8000, .inl uc))] H := by rw [← hE1]; exact hP
        have hD : va_D A [(ra, .inr (7, [.ref yt, .int (nI Tx.length), .ref yc, .int (nI Cd.length), .ref yo, .int (nI Ox.length), .int (nI lim), .ref yk, .ref ys, .ref yn, .int (nI N.length), .ref y0, .ref y1, .ref y2, .ref y3, .int (nI st.length), .int (nI (escN st)), .int (nI V.2.2), .int (nI rs), .int (nI rt), .long (lN V.2.1), .ref yz, .int bef, .int ear, .int top, .int (nI 1), .int fl, .long (lN V.1), .int (nI (4 + V.2.2)), .int ti])), (yc, .inl (ca 2, 8000, .inl uc))] := by rw [← hE1]; exact hD
        exact rw_vret (u := ()) hx hb hr hlocks (trivial) (hP.sub [0, 1] rfl) (hD.sub [0, 1] (by decide) rfl) hS (Nat.le_refl _) (Nat.le_refl _) dX8_narrow_196
      · exact absurd h1 (by omega)
    | succ k ih =>
      intro x1 R1 s1 hx1 hs1 hfu hR2 hE H locs hP hD hS ls hl
      refine lv_aload_n hx hb dX8_narrow_69 rfl (lv_at hl 0 rfl) ?_
      refine va_get (D := D) (ci := 7) (v := .long (lN R1)) (C := RX8) (T := TX8) (N := 30) hx hb hts hin_X8 hown hK hP 0 rfl rfl 20 (by decide) hl_66 (fun _ h9 => h9) rfl dX8_narrow_70 ?_
      refine lv_ldc2 (v := lN 16777216) hx hb hown hw_bc6518 dX8_narrow_73 ?_
      refine W.lcmp hx hb dX8_narrow_76 ?_
      refine bl_ge (tgt := 196) hx hb dX8_narrow_77 (by decide) (by omega) (by omega) (fun h1 => ?_) (fun h1 => ?_)
      · have hE1 : (x1, R1, s1) = V := by rw [← hE, shf_s, if_neg (by show ¬ R1 < 16777216; omega)]
        have hP : va_P D vwCl [(ra, .inr (7, [.ref yt, .int (nI Tx.length), .ref yc, .int (nI Cd.length), .ref yo, .int (nI Ox.length), .int (nI lim), .ref yk, .ref ys, .ref yn, .int (nI N.length), .ref y0, .ref y1, .ref y2, .ref y3, .int (nI st.length), .int (nI (escN st)), .int (nI V.2.2), .int (nI rs), .int (nI rt), .long (lN V.2.1), .ref yz, .int bef, .int ear, .int top, .int (nI 1), .int fl, .long (lN V.1), .int (nI (4 + V.2.2)), .int ti])), (yc, .inl (ca 2, 8000, .inl uc))] H := by rw [← hE1]; exact hP
        have hD : va_D A [(ra, .inr (7, [.ref yt, .int (nI Tx.length), .ref yc, .int (nI Cd.length), .ref yo, .int (nI Ox.length), .int (nI lim), .ref yk, .ref ys, .ref yn, .int (nI N.length), .ref y0, .ref y1, .ref y2, .ref y3, .int (nI st.length), .int (nI (escN st)), .int (nI V.2.2), .int (nI rs), .int (nI rt), .long (lN V.2.1), .ref yz, .int bef, .int ear, .int top, .int (nI 1), .int fl, .long (lN V.1), .int (nI (4 + V.2.2)), .int ti])), (yc, .inl (ca 2, 8000, .inl uc))] := by rw [← hE1]; exact hD
        exact rw_vret (u := ()) hx hb hr hlocks (trivial) (hP.sub [0, 1] rfl) (hD.sub [0, 1] (by decide) rfl) hS (Nat.le_refl _) (Nat.le_refl _) dX8_narrow_196
      · have hE2 : shf true Cd k (x1 * 256 + Cd.getD (4 + s1) 0, R1 * 256, s1 + 1) = V := by rw [← hE, shf_s, if_pos (by show R1 < 16777216; omega)]; rfl
        refine lv_aload_n hx hb dX8_narrow_80 rfl (lv_at hl 0 rfl) ?_
        refine lv_dup hx hb dX8_narrow_81 rfl ?_
        refine va_get (D := D) (ci := 7) (v := .long (lN R1)) (C := RX8) (T := TX8) (N := 30) hx hb hts hin_X8 hown hK hP 0 rfl rfl 20 (by decide) hl_66 (fun _ h9 => h9) rfl dX8_narrow_82 ?_
        refine lv_ldc2 (v := lN 256) hx hb hown hw_086c3a dX8_narrow_85 ?_
        refine lv_lmul hx hb dX8_narrow_88 ?_
        refine tp_l (y := lN (R1 * 256)) (lN_mul R1 256) ?_
        refine va_put (D := D) (ci := 7) (v := .long (lN (R1 * 256))) (ty := .long) (C := RX8) (T := TX8) (N := 30) hx hb hts hin_X8 tyX8 tyX8_ok nmX8 hown hK hP hD hS 0 rfl rfl 20 (by decide) hl_66 (fun _ h9 => h9) rfl (by decide +kernel) rfl rfl (Nat.le_of_ble_eq_true rfl) dX8_narrow_89 (fun H locs hP hD hS => ?_)
        have hP : va_P D vwCl [(ra, .inr (7, [.ref yt, .int (nI Tx.length), .ref yc, .int (nI Cd.length), .ref yo, .int (nI Ox.length), .int (nI lim), .ref yk, .ref ys, .ref yn, .int (nI N.length), .ref y0, .ref y1, .ref y2, .ref y3, .int (nI st.length), .int (nI (escN st)), .int (nI s1), .int (nI rs), .int (nI rt), .long (lN (R1 * 256)), .ref yz, .int bef, .int ear, .int top, .int (nI 1), .int fl, .long (lN x1), .int (nI (4 + s1)), .int ti])), (yc, .inl (ca 2, 8000, .inl uc))] H := hP
        have hD : va_D A [(ra, .inr (7, [.ref yt, .int (nI Tx.length), .ref yc, .int (nI Cd.length), .ref yo, .int (nI Ox.length), .int (nI lim), .ref yk, .ref ys, .ref yn, .int (nI N.length), .ref y0, .ref y1, .ref y2, .ref y3, .int (nI st.length), .int (nI (escN st)), .int (nI s1), .int (nI rs), .int (nI rt), .long (lN (R1 * 256)), .ref yz, .int bef, .int ear, .int top, .int (nI 1), .int fl, .long (lN x1), .int (nI (4 + s1)), .int ti])), (yc, .inl (ca 2, 8000, .inl uc))] := hD
        refine lv_aload_n hx hb dX8_narrow_92 rfl (lv_at hl 0 rfl) ?_
        refine lv_dup hx hb dX8_narrow_93 rfl ?_
        refine va_get (D := D) (ci := 7) (v := .int (nI s1)) (C := RX8) (T := TX8) (N := 30) hx hb hts hin_X8 hown hK hP 0 rfl rfl 17 (by decide) hl_79 (fun _ h9 => h9) rfl dX8_narrow_94 ?_
        refine lv_iconst (v := nI 1) hx hb dX8_narrow_97 (by decide) ?_
        refine lv_iadd hx hb dX8_narrow_98 ?_
        refine tp_i (y := nI (s1 + 1)) (nI_1 _) ?_
        refine va_put (D := D) (ci := 7) (v := .int (nI (s1 + 1))) (ty := .int) (C := RX8) (T := TX8) (N := 30) hx hb hts hin_X8 tyX8 tyX8_ok nmX8 hown hK hP hD hS 0 rfl rfl 17 (by decide) hl_79 (fun _ h9 => h9) rfl (by decide +kernel) rfl rfl (Nat.le_of_ble_eq_true rfl) dX8_narrow_99 (fun H locs hP hD hS => ?_)
        have hP : va_P D vwCl [(ra, .inr (7, [.ref yt, .int (nI Tx.length), .ref yc, .int (nI Cd.length), .ref yo, .int (nI Ox.length), .int (nI lim), .ref yk, .ref ys, .ref yn, .int (nI N.length), .ref y0, .ref y1, .ref y2, .ref y3, .int (nI st.length), .int (nI (escN st)), .int (nI (s1 + 1)), .int (nI rs), .int (nI rt), .long (lN (R1 * 256)), .ref yz, .int bef, .int ear, .int top, .int (nI 1), .int fl, .long (lN x1), .int (nI (4 + s1)), .int ti])), (yc, .inl (ca 2, 8000, .inl uc))] H := hP
        have hD : va_D A [(ra, .inr (7, [.ref yt, .int (nI Tx.length), .ref yc, .int (nI Cd.length), .ref yo, .int (nI Ox.length), .int (nI lim), .ref yk, .ref ys, .ref yn, .int (nI N.length), .ref y0, .ref y1, .ref y2, .ref y3, .int (nI st.length), .int (nI (escN st)), .int (nI (s1 + 1)), .int (nI rs), .int (nI rt), .long (lN (R1 * 256)), .ref yz, .int bef, .int ear, .int top, .int (nI 1), .int fl, .long (lN x1), .int (nI (4 + s1)), .int ti])), (yc, .inl (ca 2, 8000, .inl uc))] := hD
        refine lv_aload_n hx hb dX8_narrow_102 rfl (lv_at hl 0 rfl) ?_
        refine va_get (D := D) (ci := 7) (v := .int (nI 1)) (C := RX8) (T := TX8) (N := 30) hx hb hts hin_X8 hown hK hP 0 rfl rfl 25 (by decide) hl_115 (fun _ h9 => h9) rfl dX8_narrow_103 ?_
        refine lv_if_eq (tgt := 155) hx hb dX8_narrow_106 (by decide) (fun h2 => ?_) (fun h2 => ?_)
        · exact absurd h2 (by decide)
        · have hb9 := hyc (4 + s1)
          refine lv_aload_n hx hb dX8_narrow_109 rfl (lv_at hl 0 rfl) ?_
          refine lv_aload_n hx hb dX8_narrow_110 rfl (lv_at hl 0 rfl) ?_
          refine va_get (D := D) (ci := 7) (v := .long (lN x1)) (C := RX8) (T := TX8) (N := 30) hx hb hts hin_X8 hown hK hP 0 rfl rfl 27 (by decide) hl_119 (fun _ h9 => h9) rfl dX8_narrow_111 ?_
          refine lv_ldc2 (v := lN 256) hx hb hown hw_086c3a dX8_narrow_114 ?_
          refine lv_lmul hx hb dX8_narrow_117 ?_
          refine tp_l (y := lN (x1 * 256)) (lN_mul x1 256) ?_
          refine lv_aload_n hx hb dX8_narrow_118 rfl (lv_at hl 0 rfl) ?_
          refine rw_calli (wc := [(ra, .inr (7, [.ref yt, .int (nI Tx.length), .ref yc, .int (nI Cd.length), .ref yo, .int (nI Ox.length), .int (nI lim), .ref yk, .ref ys, .ref yn, .int (nI N.length), .ref y0, .ref y1, .ref y2, .ref y3, .int (nI st.length), .int (nI (escN st)), .int (nI (s1 + 1)), .int (nI rs), .int (nI rt), .long (lN (R1 * 256)), .ref yz, .int bef, .int ear, .int top, .int (nI 1), .int fl, .long (lN x1), .int (nI (4 + s1)), .int ti])), (yc, .inl (ca 2, 8000, .inl uc))]) (wr := []) hP hD hS hA [0, 1] [] rfl rfl (by decide) (by decide) (va_runV (As := []) (rest := [.long (lN (x1 * 256)), .ref ra]) ⟨hx, hb, hml, hown, hts⟩ (c_x_next l D ca ra yt yc yo yk ys yn y0 y1 y2 y3 yz Tx Cd Ox N st lim (s1 + 1) rs rt (R1 * 256) bef ear top (nI 1) fl (nI 0) ti (lN x1) uc (4 + s1) (hB) (hL) (by omega) H.size) (cwV 0 hts gX8_narrow_X8_nextByte rfl rfl rfl (by decide +kernel) ⟨Nat.le_of_ble_eq_true rfl, Nat.le_of_ble_eq_true rfl⟩) ⟨rwP_blind, va_recv hK hP (ci := 7) (q0 := 0) rfl rfl, rwP_at hK hN (hP.sub [0, 1] rfl) (hD.sub [0, 1] (by decide) rfl)⟩ rfl rfl hl.1 rfl (lv_room (Nat.le_of_ble_eq_true rfl)) dX8_narrow_119 ⟨Nat.le_of_ble_eq_true rfl, Nat.le_of_ble_eq_true rfl⟩) (fun r_1 u H locs hnb hP hD hS => ?_)
          try dsimp only at hnb
          have hP : va_P D vwCl [(ra, .inr (7, [.ref yt, .int (nI Tx.length), .ref yc, .int (nI Cd.length), .ref yo, .int (nI Ox.length), .int (nI lim), .ref yk, .ref ys, .ref yn, .int (nI N.length), .ref y0, .ref y1, .ref y2, .ref y3, .int (nI st.length), .int (nI (escN st)), .int (nI (s1 + 1)), .int (nI rs), .int (nI rt), .long (lN (R1 * 256)), .ref yz, .int bef, .int ear, .int top, .int (nI 1), .int fl, .long (lN x1), .int (nI ((4 + s1) + 1)), .int ti])), (yc, .inl (ca 2, 8000, .inl uc))] H := hP
          have hD : va_D A [(ra, .inr (7, [.ref yt, .int (nI Tx.length), .ref yc, .int (nI Cd.length), .ref yo, .int (nI Ox.length), .int (nI lim), .ref yk, .ref ys, .ref yn, .int (nI N.length), .ref y0, .ref y1, .ref y2, .ref y3, .int (nI st.length), .int (nI (escN st)), .int (nI (s1 + 1)), .int (nI rs), .int (nI rt), .long (lN (R1 * 256)), .ref yz, .int bef, .int ear, .int top, .int (nI 1), .int fl, .long (lN x1), .int (nI ((4 + s1) + 1)), .int ti])), (yc, .inl (ca 2, 8000, .inl uc))] := hD
          subst hnb
          refine lv_i2l (v := lN (Cd.getD (4 + s1) 0)) hx hb dX8_narrow_122 (nI_l (by omega)) ?_
          refine lv_ladd hx hb dX8_narrow_123 ?_
          refine tp_l (y := lN (x1 * 256 + Cd.getD (4 + s1) 0)) (lN_add _ _) ?_
          refine va_put (D := D) (ci := 7) (v := .long (lN (x1 * 256 + Cd.getD (4 + s1) 0))) (ty := .long) (C := RX8) (T := TX8) (N := 30) hx hb hts hin_X8 tyX8 tyX8_ok nmX8 hown hK hP hD hS 0 rfl rfl 27 (by decide) hl_119 (fun _ h9 => h9) rfl (by decide +kernel) rfl rfl (Nat.le_of_ble_eq_true rfl) dX8_narrow_124 (fun H locs hP hD hS => ?_)
          have hP : va_P D vwCl [(ra, .inr (7, [.ref yt, .int (nI Tx.length), .ref yc, .int (nI Cd.length), .ref yo, .int (nI Ox.length), .int (nI lim), .ref yk, .ref ys, .ref yn, .int (nI N.length), .ref y0, .ref y1, .ref y2, .ref y3, .int (nI st.length), .int (nI (escN st)), .int (nI (s1 + 1)), .int (nI rs), .int (nI rt), .long (lN (R1 * 256)), .ref yz, .int bef, .int ear, .int top, .int (nI 1), .int fl, .long (lN (x1 * 256 + Cd.getD (4 + s1) 0)), .int (nI ((4 + s1) + 1)), .int ti])), (yc, .inl (ca 2, 8000, .inl uc))] H := hP
          have hD : va_D A [(ra, .inr (7, [.ref yt, .int (nI Tx.length), .ref yc, .int (nI Cd.length), .ref yo, .int (nI Ox.length), .int (nI lim), .ref yk, .ref ys, .ref yn, .int (nI N.length), .ref y0, .ref y1, .ref y2, .ref y3, .int (nI st.length), .int (nI (escN st)), .int (nI (s1 + 1)), .int (nI rs), .int (nI rt), .long (lN (R1 * 256)), .ref yz, .int bef, .int ear, .int top, .int (nI 1), .int fl, .long (lN (x1 * 256 + Cd.getD (4 + s1) 0)), .int (nI ((4 + s1) + 1)), .int ti])), (yc, .inl (ca 2, 8000, .inl uc))] := hD
          refine lv_aload_n hx hb dX8_narrow_127 rfl (lv_at hl 0 rfl) ?_
          refine lv_aload_n hx hb dX8_narrow_128 rfl (lv_at hl 0 rfl) ?_
          refine va_get (D := D) (ci := 7) (v := .long (lN (x1 * 256 + Cd.getD (4 + s1) 0))) (C := RX8) (T := TX8) (N := 30) hx hb hts hin_X8 hown hK hP 0 rfl rfl 27 (by decide) hl_119 (fun _ h9 => h9) rfl dX8_narrow_129 ?_
          refine lv_ldc2 (v := lN 35184372088832) hx hb hown hw_2f1b91 dX8_narrow_132 ?_
          refine W.lcmp hx hb dX8_narrow_135 ?_
          refine bl_le (tgt := 145) hx hb dX8_narrow_136 (by decide) (by omega) (by omega) (fun h3 => ?_) (fun h3 => ?_)
          · refine lv_aload_n hx hb dX8_narrow_145 rfl (lv_at hl 0 rfl) ?_
            refine va_get (D := D) (ci := 7) (v := .long (lN (x1 * 256 + Cd.getD (4 + s1) 0))) (C := RX8) (T := TX8) (N := 30) hx hb hts hin_X8 hown hK hP 0 rfl rfl 27 (by decide) hl_119 (fun _ h9 => h9) rfl dX8_narrow_146 ?_
            refine va_put (D := D) (ci := 7) (v := .long (lN (x1 * 256 + Cd.getD (4 + s1) 0))) (ty := .long) (C := RX8) (T := TX8) (N := 30) hx hb hts hin_X8 tyX8 tyX8_ok nmX8 hown hK hP hD hS 0 rfl rfl 27 (by decide) hl_119 (fun _ h9 => h9) rfl (by decide +kernel) rfl rfl (Nat.le_of_ble_eq_true rfl) dX8_narrow_149 (fun H locs hP hD hS => ?_)
            have hP : va_P D vwCl [(ra, .inr (7, [.ref yt, .int (nI Tx.length), .ref yc, .int (nI Cd.length), .ref yo, .int (nI Ox.length), .int (nI lim), .ref yk, .ref ys, .ref yn, .int (nI N.length), .ref y0, .ref y1, .ref y2, .ref y3, .int (nI st.length), .int (nI (escN st)), .int (nI (s1 + 1)), .int (nI rs), .int (nI rt), .long (lN (R1 * 256)), .ref yz, .int bef, .int ear, .int top, .int (nI 1), .int fl, .long (lN (x1 * 256 + Cd.getD (4 + s1) 0)), .int (nI ((4 + s1) + 1)), .int ti])), (yc, .inl (ca 2, 8000, .inl uc))] H := hP
            have hD : va_D A [(ra, .inr (7, [.ref yt, .int (nI Tx.length), .ref yc, .int (nI Cd.length), .ref yo, .int (nI Ox.length), .int (nI lim), .ref yk, .ref ys, .ref yn, .int (nI N.length), .ref y0, .ref y1, .ref y2, .ref y3, .int (nI st.length), .int (nI (escN st)), .int (nI (s1 + 1)), .int (nI rs), .int (nI rt), .long (lN (R1 * 256)), .ref yz, .int bef, .int ear, .int top, .int (nI 1), .int fl, .long (lN (x1 * 256 + Cd.getD (4 + s1) 0)), .int (nI ((4 + s1) + 1)), .int ti])), (yc, .inl (ca 2, 8000, .inl uc))] := hD
            refine lv_goto (tgt := 69) hx hb dX8_narrow_152 (by decide) ?_
            have hP : va_P D vwCl [(ra, .inr (7, [.ref yt, .int (nI Tx.length), .ref yc, .int (nI Cd.length), .ref yo, .int (nI Ox.length), .int (nI lim), .ref yk, .ref ys, .ref yn, .int (nI N.length), .ref y0, .ref y1, .ref y2, .ref y3, .int (nI st.length), .int (nI (escN st)), .int (nI (s1 + 1)), .int (nI rs), .int (nI rt), .long (lN (R1 * 256)), .ref yz, .int bef, .int ear, .int top, .int (nI 1), .int fl, .long (lN (x1 * 256 + Cd.getD (4 + s1) 0)), .int (nI (4 + (s1 + 1))), .int ti])), (yc, .inl (ca 2, 8000, .inl uc))] H := by rw [show 4 + (s1 + 1) = 4 + s1 + 1 from rfl]; exact hP
            have hD : va_D A [(ra, .inr (7, [.ref yt, .int (nI Tx.length), .ref yc, .int (nI Cd.length), .ref yo, .int (nI Ox.length), .int (nI lim), .ref yk, .ref ys, .ref yn, .int (nI N.length), .ref y0, .ref y1, .ref y2, .ref y3, .int (nI st.length), .int (nI (escN st)), .int (nI (s1 + 1)), .int (nI rs), .int (nI rt), .long (lN (R1 * 256)), .ref yz, .int bef, .int ear, .int top, .int (nI 1), .int fl, .long (lN (x1 * 256 + Cd.getD (4 + s1) 0)), .int (nI (4 + (s1 + 1))), .int ti])), (yc, .inl (ca 2, 8000, .inl uc))] := by rw [show 4 + (s1 + 1) = 4 + s1 + 1 from rfl]; exact hD
            exact ih (x1 * 256 + Cd.getD (4 + s1) 0) (R1 * 256) (s1 + 1) (by omega) (by omega) (pow_fu hfu) (by omega) hE2 H locs (hP.sub [0, 1] rfl) (hD.sub [0, 1] (by decide) rfl) hS _ (lv_sub hl [0] rfl)
          · exact absurd h3 (by omega)
  refine lv_aload_n hx hb dX8_narrow_0 rfl (lv_at hl 0 rfl) ?_
  refine va_get (D := D) (ci := 7) (v := .long (lN rg)) (C := RX8) (T := TX8) (N := 30) hx hb hts hin_X8 hown hK hP 0 rfl rfl 20 (by decide) hl_66 (fun _ h9 => h9) rfl dX8_narrow_1 ?_
  refine lv_iload_n hx hb dX8_narrow_4 rfl (lv_at hl 3 rfl) ?_
  refine lv_i2l (v := lN t) hx hb dX8_narrow_5 (nI_l (by omega)) ?_
  refine lv_ldiv hx hb dX8_narrow_6 (lN_ne0 ht.1 (by omega)) ?_
  refine tp_l (y := lN (rg / t)) (pk_lDiv (by omega) (by omega) (by omega)) ?_
  refine lv_lstore (lv' := [(4, .long (lN (rg / t))), (0, .ref ra), (1, .int (nI a)), (2, .int (nI f)), (3, .int (nI t))]) hx hb dX8_narrow_7 hl (by decide) rfl (fun ls hl => ?_)
  refine lv_lload hx hb dX8_narrow_9 (lv_at hl 0 rfl) ?_
  refine lv_iload_n hx hb dX8_narrow_11 rfl (lv_at hl 2 rfl) ?_
  refine lv_i2l (v := lN a) hx hb dX8_narrow_12 (nI_l (by omega)) ?_
  refine lv_lmul hx hb dX8_narrow_13 ?_
  refine tp_l (y := lN (rg / t * a)) (lN_mul _ _) ?_
  refine lv_lstore (lv' := [(6, .long (lN (rg / t * a))), (4, .long (lN (rg / t))), (0, .ref ra), (1, .int (nI a)), (2, .int (nI f)), (3, .int (nI t))]) hx hb dX8_narrow_14 hl (by decide) rfl (fun ls hl => ?_)
  refine lv_aload_n hx hb dX8_narrow_16 rfl (lv_at hl 2 rfl) ?_
  refine lv_iload_n hx hb dX8_narrow_17 rfl (lv_at hl 3 rfl) ?_
  refine lv_iload_n hx hb dX8_narrow_18 rfl (lv_at hl 4 rfl) ?_
  refine lv_iadd hx hb dX8_narrow_19 ?_
  refine tp_i (y := nI (a + f)) (nI_add a f) ?_
  refine lv_iload_n hx hb dX8_narrow_20 rfl (lv_at hl 5 rfl) ?_
  refine bn_ne (tgt := 34) hx hb dX8_narrow_21 (by decide) (by omega) (by omega) (fun h1 => ?_) (fun h1 => ?_)
  · refine lv_lload hx hb dX8_narrow_34 (lv_at hl 1 rfl) ?_
    refine lv_iload_n hx hb dX8_narrow_36 rfl (lv_at hl 4 rfl) ?_
    refine lv_i2l (v := lN f) hx hb dX8_narrow_37 (nI_l (by omega)) ?_
    refine lv_lmul hx hb dX8_narrow_38 ?_
    refine tp_l (y := lN (rg / t * f)) (lN_mul _ _) ?_
    rw [if_neg h1] at hnr hpl
    refine va_put (D := D) (ci := 7) (v := .long (lN (rg / t * f))) (ty := .long) (C := RX8) (T := TX8) (N := 30) hx hb hts hin_X8 tyX8 tyX8_ok nmX8 hown hK hP hD hS 0 rfl rfl 20 (by decide) hl_66 (fun _ h9 => h9) rfl (by decide +kernel) rfl rfl (Nat.le_of_ble_eq_true rfl) dX8_narrow_39 (fun H locs hP hD hS => ?_)
    have hP : va_P D vwCl [(ra, .inr (7, [.ref yt, .int (nI Tx.length), .ref yc, .int (nI Cd.length), .ref yo, .int (nI Ox.length), .int (nI lim), .ref yk, .ref ys, .ref yn, .int (nI N.length), .ref y0, .ref y1, .ref y2, .ref y3, .int (nI st.length), .int (nI (escN st)), .int (nI sh), .int (nI rs), .int (nI rt), .long (lN (rg / t * f)), .ref yz, .int bef, .int ear, .int top, .int (nI 1), .int fl, .long (lN x), .int (nI (4 + sh)), .int ti])), (yc, .inl (ca 2, 8000, .inl uc))] H := hP
    have hD : va_D A [(ra, .inr (7, [.ref yt, .int (nI Tx.length), .ref yc, .int (nI Cd.length), .ref yo, .int (nI Ox.length), .int (nI lim), .ref yk, .ref ys, .ref yn, .int (nI N.length), .ref y0, .ref y1, .ref y2, .ref y3, .int (nI st.length), .int (nI (escN st)), .int (nI sh), .int (nI rs), .int (nI rt), .long (lN (rg / t * f)), .ref yz, .int bef, .int ear, .int top, .int (nI 1), .int fl, .long (lN x), .int (nI (4 + sh)), .int ti])), (yc, .inl (ca 2, 8000, .inl uc))] := hD
    refine lv_aload_n hx hb dX8_narrow_42 rfl (lv_at hl 2 rfl) ?_
    refine va_get (D := D) (ci := 7) (v := .int (nI 1)) (C := RX8) (T := TX8) (N := 30) hx hb hts hin_X8 hown hK hP 0 rfl rfl 25 (by decide) hl_115 (fun _ h9 => h9) rfl dX8_narrow_43 ?_
    refine lv_if_eq (tgt := 63) hx hb dX8_narrow_46 (by decide) (fun h2 => ?_) (fun h2 => ?_)
    · exact absurd h2 (by decide)
    · have hE0 : shf true Cd 4 (x - rg / t * a, rg / t * f, sh) = V := by rw [← hV]; unfold nar; dsimp only; rw [if_neg h1]; rfl
      refine lv_aload_n hx hb dX8_narrow_49 rfl (lv_at hl 2 rfl) ?_
      refine lv_dup hx hb dX8_narrow_50 rfl ?_
      refine va_get (D := D) (ci := 7) (v := .long (lN x)) (C := RX8) (T := TX8) (N := 30) hx hb hts hin_X8 hown hK hP 0 rfl rfl 27 (by decide) hl_119 (fun _ h9 => h9) rfl dX8_narrow_51 ?_
      refine lv_lload hx hb dX8_narrow_54 (lv_at hl 0 rfl) ?_
      refine lv_lsub hx hb dX8_narrow_56 ?_
      refine tp_l (y := lN (x - rg / t * a)) (lN_sub hpl.1) ?_
      refine va_put (D := D) (ci := 7) (v := .long (lN (x - rg / t * a))) (ty := .long) (C := RX8) (T := TX8) (N := 30) hx hb hts hin_X8 tyX8 tyX8_ok nmX8 hown hK hP hD hS 0 rfl rfl 27 (by decide) hl_119 (fun _ h9 => h9) rfl (by decide +kernel) rfl rfl (Nat.le_of_ble_eq_true rfl) dX8_narrow_57 (fun H locs hP hD hS => ?_)
      have hP : va_P D vwCl [(ra, .inr (7, [.ref yt, .int (nI Tx.length), .ref yc, .int (nI Cd.length), .ref yo, .int (nI Ox.length), .int (nI lim), .ref yk, .ref ys, .ref yn, .int (nI N.length), .ref y0, .ref y1, .ref y2, .ref y3, .int (nI st.length), .int (nI (escN st)), .int (nI sh), .int (nI rs), .int (nI rt), .long (lN (rg / t * f)), .ref yz, .int bef, .int ear, .int top, .int (nI 1), .int fl, .long (lN (x - rg / t * a)), .int (nI (4 + sh)), .int ti])), (yc, .inl (ca 2, 8000, .inl uc))] H := hP
      have hD : va_D A [(ra, .inr (7, [.ref yt, .int (nI Tx.length), .ref yc, .int (nI Cd.length), .ref yo, .int (nI Ox.length), .int (nI lim), .ref yk, .ref ys, .ref yn, .int (nI N.length), .ref y0, .ref y1, .ref y2, .ref y3, .int (nI st.length), .int (nI (escN st)), .int (nI sh), .int (nI rs), .int (nI rt), .long (lN (rg / t * f)), .ref yz, .int bef, .int ear, .int top, .int (nI 1), .int fl, .long (lN (x - rg / t * a)), .int (nI (4 + sh)), .int ti])), (yc, .inl (ca 2, 8000, .inl uc))] := hD
      refine lv_goto (tgt := 69) hx hb dX8_narrow_60 (by decide) ?_
      exact hlo 4 (x - rg / t * a) (rg / t * f) sh (by have h9 := hnr.2.2.1; omega) (by omega) (by have h9 := hnr.2.2.1; omega) (by omega) hE0 H locs (hP.sub [0, 1] rfl) (hD.sub [0, 1] (by decide) rfl) hS _ (lv_sub hl [2] rfl)
  · refine lv_aload_n hx hb dX8_narrow_24 rfl (lv_at hl 2 rfl) ?_
    refine va_get (D := D) (ci := 7) (v := .long (lN rg)) (C := RX8) (T := TX8) (N := 30) hx hb hts hin_X8 hown hK hP 0 rfl rfl 20 (by decide) hl_66 (fun _ h9 => h9) rfl dX8_narrow_25 ?_
    refine lv_lload hx hb dX8_narrow_28 (lv_at hl 0 rfl) ?_
    refine lv_lsub hx hb dX8_narrow_30 ?_
    refine tp_l (y := lN (rg - rg / t * a)) (lN_sub hnr.2.1) ?_
    rw [if_pos h1] at hnr hpl
    refine lv_goto (tgt := 39) hx hb dX8_narrow_31 (by decide) ?_
    refine va_put (D := D) (ci := 7) (v := .long (lN (rg - rg / t * a))) (ty := .long) (C := RX8) (T := TX8) (N := 30) hx hb hts hin_X8 tyX8 tyX8_ok nmX8 hown hK hP hD hS 0 rfl rfl 20 (by decide) hl_66 (fun _ h9 => h9) rfl (by decide +kernel) rfl rfl (Nat.le_of_ble_eq_true rfl) dX8_narrow_39 (fun H locs hP hD hS => ?_)
    have hP : va_P D vwCl [(ra, .inr (7, [.ref yt, .int (nI Tx.length), .ref yc, .int (nI Cd.length), .ref yo, .int (nI Ox.length), .int (nI lim), .ref yk, .ref ys, .ref yn, .int (nI N.length), .ref y0, .ref y1, .ref y2, .ref y3, .int (nI st.length), .int (nI (escN st)), .int (nI sh), .int (nI rs), .int (nI rt), .long (lN (rg - rg / t * a)), .ref yz, .int bef, .int ear, .int top, .int (nI 1), .int fl, .long (lN x), .int (nI (4 + sh)), .int ti])), (yc, .inl (ca 2, 8000, .inl uc))] H := hP
    have hD : va_D A [(ra, .inr (7, [.ref yt, .int (nI Tx.length), .ref yc, .int (nI Cd.length), .ref yo, .int (nI Ox.length), .int (nI lim), .ref yk, .ref ys, .ref yn, .int (nI N.length), .ref y0, .ref y1, .ref y2, .ref y3, .int (nI st.length), .int (nI (escN st)), .int (nI sh), .int (nI rs), .int (nI rt), .long (lN (rg - rg / t * a)), .ref yz, .int bef, .int ear, .int top, .int (nI 1), .int fl, .long (lN x), .int (nI (4 + sh)), .int ti])), (yc, .inl (ca 2, 8000, .inl uc))] := hD
    refine lv_aload_n hx hb dX8_narrow_42 rfl (lv_at hl 2 rfl) ?_
    refine va_get (D := D) (ci := 7) (v := .int (nI 1)) (C := RX8) (T := TX8) (N := 30) hx hb hts hin_X8 hown hK hP 0 rfl rfl 25 (by decide) hl_115 (fun _ h9 => h9) rfl dX8_narrow_43 ?_
    refine lv_if_eq (tgt := 63) hx hb dX8_narrow_46 (by decide) (fun h2 => ?_) (fun h2 => ?_)
    · exact absurd h2 (by decide)
    · have hE0 : shf true Cd 4 (x - rg / t * a, rg - rg / t * a, sh) = V := by rw [← hV]; unfold nar; dsimp only; rw [if_pos h1]; rfl
      refine lv_aload_n hx hb dX8_narrow_49 rfl (lv_at hl 2 rfl) ?_
      refine lv_dup hx hb dX8_narrow_50 rfl ?_
      refine va_get (D := D) (ci := 7) (v := .long (lN x)) (C := RX8) (T := TX8) (N := 30) hx hb hts hin_X8 hown hK hP 0 rfl rfl 27 (by decide) hl_119 (fun _ h9 => h9) rfl dX8_narrow_51 ?_
      refine lv_lload hx hb dX8_narrow_54 (lv_at hl 0 rfl) ?_
      refine lv_lsub hx hb dX8_narrow_56 ?_
      refine tp_l (y := lN (x - rg / t * a)) (lN_sub hpl.1) ?_
      refine va_put (D := D) (ci := 7) (v := .long (lN (x - rg / t * a))) (ty := .long) (C := RX8) (T := TX8) (N := 30) hx hb hts hin_X8 tyX8 tyX8_ok nmX8 hown hK hP hD hS 0 rfl rfl 27 (by decide) hl_119 (fun _ h9 => h9) rfl (by decide +kernel) rfl rfl (Nat.le_of_ble_eq_true rfl) dX8_narrow_57 (fun H locs hP hD hS => ?_)
      have hP : va_P D vwCl [(ra, .inr (7, [.ref yt, .int (nI Tx.length), .ref yc, .int (nI Cd.length), .ref yo, .int (nI Ox.length), .int (nI lim), .ref yk, .ref ys, .ref yn, .int (nI N.length), .ref y0, .ref y1, .ref y2, .ref y3, .int (nI st.length), .int (nI (escN st)), .int (nI sh), .int (nI rs), .int (nI rt), .long (lN (rg - rg / t * a)), .ref yz, .int bef, .int ear, .int top, .int (nI 1), .int fl, .long (lN (x - rg / t * a)), .int (nI (4 + sh)), .int ti])), (yc, .inl (ca 2, 8000, .inl uc))] H := hP
      have hD : va_D A [(ra, .inr (7, [.ref yt, .int (nI Tx.length), .ref yc, .int (nI Cd.length), .ref yo, .int (nI Ox.length), .int (nI lim), .ref yk, .ref ys, .ref yn, .int (nI N.length), .ref y0, .ref y1, .ref y2, .ref y3, .int (nI st.length), .int (nI (escN st)), .int (nI sh), .int (nI rs), .int (nI rt), .long (lN (rg - rg / t * a)), .ref yz, .int bef, .int ear, .int top, .int (nI 1), .int fl, .long (lN (x - rg / t * a)), .int (nI (4 + sh)), .int ti])), (yc, .inl (ca 2, 8000, .inl uc))] := hD
      refine lv_goto (tgt := 69) hx hb dX8_narrow_60 (by decide) ?_
      exact hlo 4 (x - rg / t * a) (rg - rg / t * a) sh (by have h9 := hnr.2.2.1; omega) (by omega) (by have h9 := hnr.2.2.1; omega) (by omega) hE0 H locs (hP.sub [0, 1] rfl) (hD.sub [0, 1] (by decide) rfl) hS _ (lv_sub hl [2] rfl)
