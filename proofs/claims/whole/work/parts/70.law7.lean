set_option maxHeartbeats 8000000 in
set_option maxRecDepth 100000 in
theorem law_loop {p : Program} {e : Env} {s : State} {m : MethodId} {below : List Frame} {meth : Method} {c : Code} (l : Launch) {b L : Nat} {xs : Nat → Int32} (hL : L ≤ 2560) (C0 : lw_At p s m meth c b L xs) (D : va_G) (ca : Nat → ClassId) (hK : va_K D vwCl (ATy ca) s) : ∀ (z i : Nat), L + 1 ≤ i + z → i ≤ L → LSt p l e s m below meth c b D ca 18 i := by
  obtain ⟨hx, hb, hr, hml, hown, hts0, hX, hbl, hlocks, hgv⟩ := id C0
  have hts : ∀ w ∈ wsL_law, w.before #[Value.ref b] s = true := fun w h => hts0 w (wsL_law_in w h)
  have hown : s.vm.findClass RL = some m.cls := hown
  have hN : NW s := law_nw hts0
  have hA : ∀ q : Nat, s.heap.size ≤ q → AL s q := fun _ h => h
  have hbA : ¬ AL s b := Nat.not_le.mpr hbl
  intro z
  induction z with
  | zero =>
    intro i hz hi
    exact absurd hz (by omega)
  | succ z ih =>
    intro i hz hi
    unfold LSt
    intro ae tx ic ox as_ am at_ iw ir qt qi qu qs qb qc qn kk kf kl kn ko kb qo ql qm ra yt yc yo yk ys yn y0 y1 y2 y3 yz lim sh rs rt rg tn gt gi gu gs gn gc li lt ou Tx Cd Ox N st ft fi fu nb nc nn ck cf cl ct co bk os lv lz ut uc uo uk us un u0 u1 u2 u3 uz sf tpc bfc erc to svw svr tkn bef ear top rd_ fl nx ti rgw low rgr ahd ab hLI hLC hLR H locs hP hD hS ls hl
    obtain ⟨a1, a2, ⟨a3, a4, a5⟩, a6, ⟨b1, b2, b3, b4, b5, b6⟩, a7, a8, a9, a10⟩ := id hLI
    refine lv_iload_n hx hb dL_law_18 rfl (lv_at hl 0 rfl) ?_
    refine lv_aload_n hx hb dL_law_19 rfl (lv_at hl 3 rfl) ?_
    refine va_slen hx hb hX hbl hbA hS dL_law_20 ?_
    refine tp_i (y := nI L) (rfl) ?_
    refine lv_iconst (v := nI 5) hx hb dL_law_21 (by decide) ?_
    refine lv_isub hx hb dL_law_22 ?_
    refine lv_icmp_gt (tgt := 503) hx hb dL_law_23 (by decide) (fun hgt => ?_) (fun hgt => ?_)
    · refine lv_iconst (v := 1) hx hb dL_law_503 (by decide) ?_
      exact va_forget hS.2.2 (W.widen (k := 600000) (n := 7302250) (by omega) (by omega) (lw_ret hx hb hr hlocks dL_law_504))
    · have hi5 : i + 5 ≤ L := Nat.not_lt.mp (fun q => hgt ((law_gt (by omega) hL).mpr q))
      have next := ih (i + 5) (by omega) hi5
      refine lv_aload_n hx hb dL_law_26 rfl (lv_at hl 3 rfl) ?_
      refine lv_iload_n hx hb dL_law_27 rfl (lv_at hl 0 rfl) ?_
      refine sl hx hb hX hbl hbA hS (j := i) (by omega) hL dL_law_28 ?_
      refine lv_bipush (v := nI 15) hx hb dL_law_29 (by decide) ?_
      refine lv_iand hx hb dL_law_31 ?_
      obtain ⟨w, hw⟩ : ∃ w : Int32, w = ((xs i) &&& (nI 15)) := ⟨_, rfl⟩
      rw [← hw]
      by_cases e0 : w.toInt = 0
      · refine lv_tableIn (tgt := 104) hx hb dL_law_32 (by rw [e0]; decide) (by rw [e0]; decide) (by rw [e0]; rfl) (by decide) ?_
        exact law_begin l hL C0 D ca hK i hi5 next ae tx ic ox as_ am at_ iw ir qt qi qu qs qb qc qn kk kf kl kn ko kb qo ql qm ra yt yc yo yk ys yn y0 y1 y2 y3 yz lim sh rs rt rg tn gt gi gu gs gn gc li lt ou Tx Cd Ox N st ft fi fu nb nc nn ck cf cl ct co bk os lv lz ut uc uo uk us un u0 u1 u2 u3 uz sf tpc bfc erc to svw svr tkn bef ear top rd_ fl nx ti rgw low rgr ahd ab hLI hLC hLR _ _ hP hD hS _ hl
      · by_cases e1 : w.toInt = 1
        · refine lv_tableIn (tgt := 127) hx hb dL_law_32 (by rw [e1]; decide) (by rw [e1]; decide) (by rw [e1]; rfl) (by decide) ?_
          exact law_feed l hL C0 D ca hK i hi5 next ae tx ic ox as_ am at_ iw ir qt qi qu qs qb qc qn kk kf kl kn ko kb qo ql qm ra yt yc yo yk ys yn y0 y1 y2 y3 yz lim sh rs rt rg tn gt gi gu gs gn gc li lt ou Tx Cd Ox N st ft fi fu nb nc nn ck cf cl ct co bk os lv lz ut uc uo uk us un u0 u1 u2 u3 uz sf tpc bfc erc to svw svr tkn bef ear top rd_ fl nx ti rgw low rgr ahd ab hLI hLC hLR _ _ hP hD hS _ hl
        · by_cases e2 : w.toInt = 2
          · refine lv_tableIn (tgt := 150) hx hb dL_law_32 (by rw [e2]; decide) (by rw [e2]; decide) (by rw [e2]; rfl) (by decide) ?_
            exact law_cut l hL C0 D ca hK i hi5 next ae tx ic ox as_ am at_ iw ir qt qi qu qs qb qc qn kk kf kl kn ko kb qo ql qm ra yt yc yo yk ys yn y0 y1 y2 y3 yz lim sh rs rt rg tn gt gi gu gs gn gc li lt ou Tx Cd Ox N st ft fi fu nb nc nn ck cf cl ct co bk os lv lz ut uc uo uk us un u0 u1 u2 u3 uz sf tpc bfc erc to svw svr tkn bef ear top rd_ fl nx ti rgw low rgr ahd ab hLI hLC hLR _ _ hP hD hS _ hl
          · by_cases e3 : w.toInt = 3
            · refine lv_tableIn (tgt := 173) hx hb dL_law_32 (by rw [e3]; decide) (by rw [e3]; decide) (by rw [e3]; rfl) (by decide) ?_
              exact law_encode l hL C0 D ca hK i hi5 next ae tx ic ox as_ am at_ iw ir qt qi qu qs qb qc qn kk kf kl kn ko kb qo ql qm ra yt yc yo yk ys yn y0 y1 y2 y3 yz lim sh rs rt rg tn gt gi gu gs gn gc li lt ou Tx Cd Ox N st ft fi fu nb nc nn ck cf cl ct co bk os lv lz ut uc uo uk us un u0 u1 u2 u3 uz sf tpc bfc erc to svw svr tkn bef ear top rd_ fl nx ti rgw low rgr ahd ab hLI hLC hLR _ _ hP hD hS _ hl
            · by_cases e4 : w.toInt = 4
              · refine lv_tableIn (tgt := 186) hx hb dL_law_32 (by rw [e4]; decide) (by rw [e4]; decide) (by rw [e4]; rfl) (by decide) ?_
                exact law_decode l hL C0 D ca hK i hi5 next ae tx ic ox as_ am at_ iw ir qt qi qu qs qb qc qn kk kf kl kn ko kb qo ql qm ra yt yc yo yk ys yn y0 y1 y2 y3 yz lim sh rs rt rg tn gt gi gu gs gn gc li lt ou Tx Cd Ox N st ft fi fu nb nc nn ck cf cl ct co bk os lv lz ut uc uo uk us un u0 u1 u2 u3 uz sf tpc bfc erc to svw svr tkn bef ear top rd_ fl nx ti rgw low rgr ahd ab hLI hLC hLR _ _ hP hD hS _ hl
              · by_cases e5 : w.toInt = 5
                · refine lv_tableIn (tgt := 199) hx hb dL_law_32 (by rw [e5]; decide) (by rw [e5]; decide) (by rw [e5]; rfl) (by decide) ?_
                  exact law_push l hL C0 D ca hK i hi5 next ae tx ic ox as_ am at_ iw ir qt qi qu qs qb qc qn kk kf kl kn ko kb qo ql qm ra yt yc yo yk ys yn y0 y1 y2 y3 yz lim sh rs rt rg tn gt gi gu gs gn gc li lt ou Tx Cd Ox N st ft fi fu nb nc nn ck cf cl ct co bk os lv lz ut uc uo uk us un u0 u1 u2 u3 uz sf tpc bfc erc to svw svr tkn bef ear top rd_ fl nx ti rgw low rgr ahd ab hLI hLC hLR _ _ hP hD hS _ hl
                · by_cases e6 : w.toInt = 6
                  · refine lv_tableIn (tgt := 222) hx hb dL_law_32 (by rw [e6]; decide) (by rw [e6]; decide) (by rw [e6]; rfl) (by decide) ?_
                    exact law_change l hL C0 D ca hK i hi5 next ae tx ic ox as_ am at_ iw ir qt qi qu qs qb qc qn kk kf kl kn ko kb qo ql qm ra yt yc yo yk ys yn y0 y1 y2 y3 yz lim sh rs rt rg tn gt gi gu gs gn gc li lt ou Tx Cd Ox N st ft fi fu nb nc nn ck cf cl ct co bk os lv lz ut uc uo uk us un u0 u1 u2 u3 uz sf tpc bfc erc to svw svr tkn bef ear top rd_ fl nx ti rgw low rgr ahd ab hLI hLC hLR _ _ hP hD hS _ hl
                  · by_cases e7 : w.toInt = 7
                    · refine lv_tableIn (tgt := 255) hx hb dL_law_32 (by rw [e7]; decide) (by rw [e7]; decide) (by rw [e7]; rfl) (by decide) ?_
                      exact law_keep l hL C0 D ca hK i hi5 next ae tx ic ox as_ am at_ iw ir qt qi qu qs qb qc qn kk kf kl kn ko kb qo ql qm ra yt yc yo yk ys yn y0 y1 y2 y3 yz lim sh rs rt rg tn gt gi gu gs gn gc li lt ou Tx Cd Ox N st ft fi fu nb nc nn ck cf cl ct co bk os lv lz ut uc uo uk us un u0 u1 u2 u3 uz sf tpc bfc erc to svw svr tkn bef ear top rd_ fl nx ti rgw low rgr ahd ab hLI hLC hLR _ _ hP hD hS _ hl
                    · by_cases e8 : w.toInt = 8
                      · refine lv_tableIn (tgt := 278) hx hb dL_law_32 (by rw [e8]; decide) (by rw [e8]; decide) (by rw [e8]; rfl) (by decide) ?_
                        exact law_at l hL C0 D ca hK i hi5 next ae tx ic ox as_ am at_ iw ir qt qi qu qs qb qc qn kk kf kl kn ko kb qo ql qm ra yt yc yo yk ys yn y0 y1 y2 y3 yz lim sh rs rt rg tn gt gi gu gs gn gc li lt ou Tx Cd Ox N st ft fi fu nb nc nn ck cf cl ct co bk os lv lz ut uc uo uk us un u0 u1 u2 u3 uz sf tpc bfc erc to svw svr tkn bef ear top rd_ fl nx ti rgw low rgr ahd ab hLI hLC hLR _ _ hP hD hS _ hl
                      · by_cases e9 : w.toInt = 9
                        · refine lv_tableIn (tgt := 311) hx hb dL_law_32 (by rw [e9]; decide) (by rw [e9]; decide) (by rw [e9]; rfl) (by decide) ?_
                          exact law_size l hL C0 D ca hK i hi5 next ae tx ic ox as_ am at_ iw ir qt qi qu qs qb qc qn kk kf kl kn ko kb qo ql qm ra yt yc yo yk ys yn y0 y1 y2 y3 yz lim sh rs rt rg tn gt gi gu gs gn gc li lt ou Tx Cd Ox N st ft fi fu nb nc nn ck cf cl ct co bk os lv lz ut uc uo uk us un u0 u1 u2 u3 uz sf tpc bfc erc to svw svr tkn bef ear top rd_ fl nx ti rgw low rgr ahd ab hLI hLC hLR _ _ hP hD hS _ hl
                        · by_cases e10 : w.toInt = 10
                          · refine lv_tableIn (tgt := 334) hx hb dL_law_32 (by rw [e10]; decide) (by rw [e10]; decide) (by rw [e10]; rfl) (by decide) ?_
                            exact law_step l hL C0 D ca hK i hi5 next ae tx ic ox as_ am at_ iw ir qt qi qu qs qb qc qn kk kf kl kn ko kb qo ql qm ra yt yc yo yk ys yn y0 y1 y2 y3 yz lim sh rs rt rg tn gt gi gu gs gn gc li lt ou Tx Cd Ox N st ft fi fu nb nc nn ck cf cl ct co bk os lv lz ut uc uo uk us un u0 u1 u2 u3 uz sf tpc bfc erc to svw svr tkn bef ear top rd_ fl nx ti rgw low rgr ahd ab hLI hLC hLR _ _ hP hD hS _ hl
                          · by_cases e11 : w.toInt = 11
                            · refine lv_tableIn (tgt := 367) hx hb dL_law_32 (by rw [e11]; decide) (by rw [e11]; decide) (by rw [e11]; rfl) (by decide) ?_
                              exact law_count l hL C0 D ca hK i hi5 next ae tx ic ox as_ am at_ iw ir qt qi qu qs qb qc qn kk kf kl kn ko kb qo ql qm ra yt yc yo yk ys yn y0 y1 y2 y3 yz lim sh rs rt rg tn gt gi gu gs gn gc li lt ou Tx Cd Ox N st ft fi fu nb nc nn ck cf cl ct co bk os lv lz ut uc uo uk us un u0 u1 u2 u3 uz sf tpc bfc erc to svw svr tkn bef ear top rd_ fl nx ti rgw low rgr ahd ab hLI hLC hLR _ _ hP hD hS _ hl
                            · by_cases e12 : w.toInt = 12
                              · refine lv_tableIn (tgt := 391) hx hb dL_law_32 (by rw [e12]; decide) (by rw [e12]; decide) (by rw [e12]; rfl) (by decide) ?_
                                exact law_learnt l hL C0 D ca hK i hi5 next ae tx ic ox as_ am at_ iw ir qt qi qu qs qb qc qn kk kf kl kn ko kb qo ql qm ra yt yc yo yk ys yn y0 y1 y2 y3 yz lim sh rs rt rg tn gt gi gu gs gn gc li lt ou Tx Cd Ox N st ft fi fu nb nc nn ck cf cl ct co bk os lv lz ut uc uo uk us un u0 u1 u2 u3 uz sf tpc bfc erc to svw svr tkn bef ear top rd_ fl nx ti rgw low rgr ahd ab hLI hLC hLR _ _ hP hD hS _ hl
                              · by_cases e13 : w.toInt = 13
                                · refine lv_tableIn (tgt := 444) hx hb dL_law_32 (by rw [e13]; decide) (by rw [e13]; decide) (by rw [e13]; rfl) (by decide) ?_
                                  exact law_node l hL C0 D ca hK i hi5 next ae tx ic ox as_ am at_ iw ir qt qi qu qs qb qc qn kk kf kl kn ko kb qo ql qm ra yt yc yo yk ys yn y0 y1 y2 y3 yz lim sh rs rt rg tn gt gi gu gs gn gc li lt ou Tx Cd Ox N st ft fi fu nb nc nn ck cf cl ct co bk os lv lz ut uc uo uk us un u0 u1 u2 u3 uz sf tpc bfc erc to svw svr tkn bef ear top rd_ fl nx ti rgw low rgr ahd ab hLI hLC hLR _ _ hP hD hS _ hl
                                · refine lv_tableOut (tgt := 497) hx hb dL_law_32 (by omega) (by decide) ?_
                                  refine lv_iinc (v := nI (i + 5)) (lv' := [(3, .int (nI (i + 5))), (2, .ref ra), (1, .ref ae), (0, .ref b)]) hx hb dL_law_497 hl (k := 0) rfl (by rw [← nI_add]; rfl) (by decide) rfl (fun ls hl => ?_)
                                  refine lv_goto (tgt := 18) hx hb dL_law_500 (by decide) ?_
                                  exact next ae tx ic ox as_ am at_ iw ir qt qi qu qs qb qc qn kk kf kl kn ko kb qo ql qm ra yt yc yo yk ys yn y0 y1 y2 y3 yz lim sh rs rt rg tn gt gi gu gs gn gc li lt ou Tx Cd Ox N st ft fi fu nb nc nn ck cf cl ct co bk os lv lz ut uc uo uk us un u0 u1 u2 u3 uz sf tpc bfc erc to svw svr tkn bef ear top rd_ fl nx ti rgw low rgr ahd ab (LI_up hLI) (hLC) (hLR) _ _ (hP.sub [0, 1, 2, 3, 4, 5, 6, 7, 8, 9, 10, 11, 12, 13, 14, 15, 16, 17, 18, 19, 20, 21, 22, 23, 24, 25, 26, 27, 28, 29, 30, 31, 32, 33, 34, 35, 36] rfl) (hD.sub [0, 1, 2, 3, 4, 5, 6, 7, 8, 9, 10, 11, 12, 13, 14, 15, 16, 17, 18, 19, 20, 21, 22, 23, 24, 25, 26, 27, 28, 29, 30, 31, 32, 33, 34, 35, 36] (by decide) rfl) hS _ (lv_sub hl [0, 1, 2, 3] rfl)
