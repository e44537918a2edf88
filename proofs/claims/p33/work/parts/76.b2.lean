/-! THE LAW'S ACTS: lots that come -/
set_option maxHeartbeats 8000000 in
set_option maxRecDepth 100000 in
theorem br_del (l : Launch) (D : KD) (b : Nat) {sh : List KSh} (hsh : shP sh) (hG : GS sh 190) (σ : KS) (q i f N : Nat → Nat) (r : Nat) (hs : Nat → Nat → Nat) (T : Nat → Nat) (n t : Nat) (hL : CI σ N r hs T n) (hJJ : JJ q i f N) (hGd : Gd (1000 + 4000000 * t) N) (h0 : q 0 ≤ t) (ht : t < 44) (x y : Int32) (kd k iv bx tr g : Nat) (hk : q 2 = 0 ∧ k = 0 ∨ k < q 2) (hiv : iv = 1 ∧ (k < q 2 ∧ 0 < f (4 * k + 1)) ∨ iv = 0 ∧ ¬ (k < q 2 ∧ 0 < f (4 * k + 1))) (hbx : bx < 6) (htr : tr < 5) (hg1 : 1 ≤ g) (hg2 : g ≤ 20000) (hkd : kd < 4) {pg : Program} {e : Env} {s : State} {m : MethodId} {below : List Frame} {meth : Method} {c : Code} {ca sl z : Nat} (hca : ca ≤ room_1.cells) (hsl : sl ≤ room_1.slots) (X : KX pg s m meth c #[Value.ref z] D b cL_law 22 ret RL) (kS : ∀ σ' : KS, LX (t + 1) σ' → K pg l e room_1 s m #[Value.ref z] below meth c (lw_Z below #[Value.ref z] s) D b 22 ca sl sh σ' 1680 [(7, .int y), (0, .ref z), (1, rf b 0), (2, rf b 190), (3, rf b (190 + 1)), (4, rf b (190 + 2)), (5, .int (nI t))] []) (kC : ∀ σ' : KS, LX (t + 1) σ' → K pg l e room_1 s m #[Value.ref z] below meth c (lw_Z below #[Value.ref z] s) D b 22 ca sl sh σ' 1697 [(0, .ref z), (1, rf b 0), (2, rf b 190), (3, rf b (190 + 1)), (4, rf b (190 + 2)), (5, .int (nI t))] []) : K pg l e room_1 s m #[Value.ref z] below meth c (lw_Z below #[Value.ref z] s) D b 22 ca sl sh (wG σ 190 q i f) 264 [(0, .ref z), (1, rf b 0), (2, rf b 190), (3, rf b (190 + 1)), (4, rf b (190 + 2)), (5, .int (nI t)), (6, .int x), (7, .int y), (8, .int (nI kd)), (9, .int (nI k)), (10, .int (nI iv)), (11, .int (nI bx)), (12, .int (nI tr)), (13, .int (nI g))] [] := by
  obtain ⟨hJ, hF, hCn⟩ := id hJJ
  obtain ⟨hI, hU, hBb⟩ := id hGd
  have h2 := qi_2 hI
  have h16 := fi_2 hF
  have hB : N 10 < 2 ^ 31 := by have := hBb 10 (by omega); omega
  have hk16 : k < 16 := by omega
  have hiv1 : iv ≤ 1 := by rcases hiv with w | w <;> omega
  have hBq : 1000 ≤ 1000 + 4000000 * t := by omega
  refine K_iload X 8 dL_law_264 rfl ?_
  refine K_iconst X dL_law_266 cii_4 ?_
  refine K_icmpN_ne (tgt := 274) X dL_law_267 (by decide) (by omega) (by omega) (fun c267 => ?_) (fun c267 => ?_)
  · refine K_iconst X dL_law_274 cii_0 ?_
    refine K_istore X (ls' := [(14, _), (0, _), (1, _), (2, _), (3, _), (4, _), (5, _), (6, _), (7, _), (8, _), (9, _), (10, _), (11, _), (12, _), (13, _)]) dL_law_275 (by decide) rfl ?_
    refine K_aload_n X 3 dL_law_277 rfl rfl ?_
    refine K_iconst X dL_law_278 cii_2 ?_
    refine K_iald X _ hG.1 rfl (by omega) (by decide) ((wG_q _)) dL_law_279 ?_
    refine K_bipush X dL_law_280 cib_16 ?_
    refine K_icmpN_ne (tgt := 288) X dL_law_282 (by decide) (by omega) (by omega) (fun c282 => ?_) (fun c282 => ?_)
    · refine K_iload X 8 dL_law_288 rfl ?_
      refine K_bipush X dL_law_290 cib_6 ?_
      refine K_callSE X (c_L_low l D b _ _ _ (by omega) (by omega)) my_L_low wt_L_low wm_L_30 ⟨rfl, rfl, Nat.le_of_ble_eq_true rfl, Nat.le_of_ble_eq_true rfl, hca, hsl⟩ rfl rfl (Nat.le_of_ble_eq_true rfl) dL_law_292 ?_
      obtain ⟨fi, hfie⟩ : ∃ fi, fi = lz y % 6 := ⟨_, rfl⟩
      rw [← hfie]
      have hfi : fi < 6 := by rw [hfie]; exact Nat.mod_lt _ (by decide)
      refine K_istore X (ls' := [(15, _), (14, _), (0, _), (1, _), (2, _), (3, _), (4, _), (5, _), (6, _), (7, _), (8, _), (9, _), (10, _), (11, _), (12, _), (13, _)]) dL_law_295 (by decide) rfl ?_
      refine K_iload X 8 dL_law_297 rfl ?_
      refine K_iconst X dL_law_299 cii_4 ?_
      refine K_ishr X dL_law_300 (fun z300 => ?_)
      refine K_bipush X dL_law_301 cib_101 ?_
      refine K_callSE X (c_L_low l D b _ _ _ (by omega) (by omega)) my_L_low wt_L_low wm_L_30 ⟨rfl, rfl, Nat.le_of_ble_eq_true rfl, Nat.le_of_ble_eq_true rfl, hca, hsl⟩ rfl rfl (Nat.le_of_ble_eq_true rfl) dL_law_303 ?_
      obtain ⟨fr, hfre⟩ : ∃ fr, fr = lz z300 % 101 := ⟨_, rfl⟩
      rw [← hfre]
      have hfr : fr < 101 := by rw [hfre]; exact Nat.mod_lt _ (by decide)
      refine K_istore X (ls' := [(16, _), (15, _), (14, _), (0, _), (1, _), (2, _), (3, _), (4, _), (5, _), (6, _), (7, _), (8, _), (9, _), (10, _), (11, _), (12, _), (13, _)]) dL_law_306 (by decide) rfl ?_
      have hfat := fAt_le f bx (q 2)
      have hq15 : q 2 < 16 := by have : ¬ q 2 = 16 := c282; omega
      refine K_iload X 14 dL_law_308 rfl ?_
      refine K_aload_n X 5 dL_law_310 rfl rfl ?_
      refine K_aload X 7 dL_law_311 rfl ?_
      refine K_callSE X (c_L_at l D b _ 190 _ _ _ _ hG hF (by omega)) my_L_at wt_L_at wm_L_16 ⟨rfl, rfl, Nat.le_of_ble_eq_true rfl, Nat.le_of_ble_eq_true rfl, hca, hsl⟩ rfl rfl (Nat.le_of_ble_eq_true rfl) dL_law_313 ?_
      refine K_iconst X dL_law_316 cii_3 ?_
      refine K_icmpN_ge (tgt := 324) X dL_law_317 (by decide) (by omega) (by omega) (fun c317 => ?_) (fun c317 => ?_)
      · refine K_iconst X dL_law_324 cii_0 ?_
        refine K_istore X (ls' := [(17, _), (16, _), (15, _), (14, _), (0, _), (1, _), (2, _), (3, _), (4, _), (5, _), (6, _), (7, _), (8, _), (9, _), (10, _), (11, _), (12, _), (13, _)]) dL_law_325 (by decide) rfl ?_
        refine K_iload X 3 dL_law_327 rfl ?_
        refine K_ifN_eq (tgt := 386) X dL_law_329 (by decide) (by omega) (fun c329 => ?_) (fun c329 => ?_)
        · refine K_iload X 0 dL_law_386 rfl ?_
          refine K_ifN_eq (tgt := 399) X dL_law_388 (by decide) (by omega) (fun c388 => ?_) (fun c388 => ?_)
          · refine K_bipush X dL_law_399 cib_m3 ?_
            refine K_istore X (ls' := [(18, _), (17, _), (16, _), (15, _), (14, _), (0, _), (1, _), (2, _), (3, _), (4, _), (5, _), (6, _), (7, _), (8, _), (9, _), (10, _), (11, _), (12, _), (13, _)]) dL_law_401 (by decide) rfl ?_
            refine K_iload X 4 dL_law_403 rfl ?_
            refine K_ifN_eq (tgt := 423) X dL_law_405 (by decide) (by omega) (fun c405 => ?_) (fun c405 => ?_)
            · have hod := od_del_f (N := N) hJ hU hq15 hfi hg1 hg2 (show fr ≤ 100 from by omega) hbx (by omega)
              refine K_aload_n X 6 dL_law_423 rfl rfl ?_
              refine K_iload X 3 dL_law_424 rfl ?_
              refine K_iload X 18 dL_law_426 rfl ?_
              refine K_iload X 2 dL_law_428 rfl ?_
              refine K_iload X 16 dL_law_430 rfl ?_
              refine K_callVP X (c_X5_deliver l D b hsh _ _ _ _ _ _ _ _ _ _ (hL.wg h2) hI hU hB) my_X5_deliver mv_X5_deliver wm_L_87 (sf_c hsh) rfl ⟨rfl, rfl, Nat.le_of_ble_eq_true rfl, Nat.le_of_ble_eq_true rfl, hca, hsl⟩ rfl rfl (Nat.le_of_ble_eq_true rfl) dL_law_432 (fun σ432 h432 => ?_)
              refine K_st (AR.id (AR.cf AR.wG h432.1)).symm ?_
              refine K_iload X 0 dL_law_435 rfl ?_
              refine K_icmp_eq (tgt := 442) X dL_law_437 (by decide) (fun c437 => ?_) (fun c437 => ?_)
              · refine K_iload X 0 dL_law_442 rfl ?_
                refine K_if_ge (tgt := 450) X dL_law_444 (by decide) (fun c444 => ?_) (fun c444 => ?_)
                · exact absurd c444 (by decide)
                · refine K_goto (tgt := 1697) X dL_law_447 (by decide) ?_
                  exact K_sub [5, 6, 7, 8, 9, 10] rfl (kC _ (LX.mk ((h432.n hod).wg h2) AR.wG hJJ (hGd.up (by omega)) (Nat.le_succ_of_le h0)))
              · exact absurd (congrArg Prod.fst hod) c437
            · exact absurd rfl c405
          · exact absurd rfl c388
        · exact absurd rfl c329
      · refine K_iconst X dL_law_320 cii_1 ?_
        refine K_goto (tgt := 325) X dL_law_321 (by decide) ?_
        refine K_istore X (ls' := [(17, _), (16, _), (15, _), (14, _), (0, _), (1, _), (2, _), (3, _), (4, _), (5, _), (6, _), (7, _), (8, _), (9, _), (10, _), (11, _), (12, _), (13, _)]) dL_law_325 (by decide) rfl ?_
        refine K_iload X 3 dL_law_327 rfl ?_
        refine K_ifN_eq (tgt := 386) X dL_law_329 (by decide) (by omega) (fun c329 => ?_) (fun c329 => ?_)
        · refine K_iload X 0 dL_law_386 rfl ?_
          refine K_ifN_eq (tgt := 399) X dL_law_388 (by decide) (by omega) (fun c388 => ?_) (fun c388 => ?_)
          · exact absurd c388 (by decide)
          · refine K_aload_n X 6 dL_law_391 rfl rfl ?_
            refine K_iconst X dL_law_392 cii_2 ?_
            refine K_iald X _ hG.1 rfl (by omega) (by decide) ((wG_q _)) dL_law_393 ?_
            refine K_iconst X dL_law_394 cii_1 ?_
            refine K_iaddN X dL_law_395 ?_
            refine K_goto (tgt := 401) X dL_law_396 (by decide) ?_
            refine K_istore X (ls' := [(18, _), (17, _), (16, _), (15, _), (14, _), (0, _), (1, _), (2, _), (3, _), (4, _), (5, _), (6, _), (7, _), (8, _), (9, _), (10, _), (11, _), (12, _), (13, _)]) dL_law_401 (by decide) rfl ?_
            refine K_iload X 4 dL_law_403 rfl ?_
            refine K_ifN_eq (tgt := 423) X dL_law_405 (by decide) (by omega) (fun c405 => ?_) (fun c405 => ?_)
            · have hod := od_del_t (N := N) hJ hU hq15 hfi hg1 hg2 (show fr ≤ 100 from by omega) hbx (by omega)
              refine K_aload_n X 6 dL_law_423 rfl rfl ?_
              refine K_iload X 3 dL_law_424 rfl ?_
              refine K_iload X 18 dL_law_426 rfl ?_
              refine K_iload X 2 dL_law_428 rfl ?_
              refine K_iload X 16 dL_law_430 rfl ?_
              refine K_callVP X (c_X5_deliver l D b hsh _ _ _ _ _ _ _ _ _ _ (hL.wg h2) hI hU hB) my_X5_deliver mv_X5_deliver wm_L_87 (sf_c hsh) rfl ⟨rfl, rfl, Nat.le_of_ble_eq_true rfl, Nat.le_of_ble_eq_true rfl, hca, hsl⟩ rfl rfl (Nat.le_of_ble_eq_true rfl) dL_law_432 (fun σ432 h432 => ?_)
              refine K_st (AR.id (AR.cf AR.wG h432.1)).symm ?_
              refine K_iload X 0 dL_law_435 rfl ?_
              refine K_icmp_eq (tgt := 442) X dL_law_437 (by decide) (fun c437 => ?_) (fun c437 => ?_)
              · refine K_iload X 0 dL_law_442 rfl ?_
                refine K_ifN_ge (tgt := 450) X dL_law_444 (by decide) (by omega) ?_
                refine K_iconst X dL_law_450 cii_4 ?_
                refine K_aload_n X 7 dL_law_451 rfl rfl ?_
                refine K_iconst X dL_law_452 cii_2 ?_
                refine K_iald X _ hG.1 rfl (by omega) (by decide) ((wG_q _)) dL_law_453 ?_
                refine K_imulN X dL_law_454 ?_
                refine K_istore X (ls' := [(19, _), (18, _), (17, _), (16, _), (15, _), (14, _), (0, _), (1, _), (2, _), (3, _), (4, _), (5, _), (6, _), (7, _), (8, _), (9, _), (10, _), (11, _), (12, _), (13, _)]) dL_law_455 (by decide) rfl ?_
                refine K_aload X 10 dL_law_457 rfl ?_
                refine K_iload X 0 dL_law_459 rfl ?_
                refine K_iload X 5 dL_law_461 rfl ?_
                refine K_ifN_eq (tgt := 476) X dL_law_463 (by decide) (by omega) (fun c463 => ?_) (fun c463 => ?_)
                · refine K_iload X 4 dL_law_476 rfl ?_
                  refine K_iast X _ hG.2.2 rfl (by omega) (by decide) dL_law_478 ?_
                  refine K_st wG_uf ?_
                  refine K_aload X 10 dL_law_479 rfl ?_
                  refine K_iload X 0 dL_law_481 rfl ?_
                  refine K_iconst X dL_law_483 cii_1 ?_
                  refine K_iaddN X dL_law_484 ?_
                  refine K_iload X 19 dL_law_485 rfl ?_
                  refine K_iast X _ hG.2.2 rfl (by omega) (by decide) dL_law_487 ?_
                  refine K_st wG_uf ?_
                  refine K_aload X 10 dL_law_488 rfl ?_
                  refine K_iload X 0 dL_law_490 rfl ?_
                  refine K_iconst X dL_law_492 cii_2 ?_
                  refine K_iaddN X dL_law_493 ?_
                  refine K_iload X 5 dL_law_494 rfl ?_
                  refine K_ifN_eq (tgt := 511) X dL_law_496 (by decide) (by omega) (fun c496 => ?_) (fun c496 => ?_)
                  · refine K_iload X 3 dL_law_511 rfl ?_
                    refine K_iast X _ hG.2.2 rfl (by omega) (by decide) dL_law_513 ?_
                    refine K_st wG_uf ?_
                    refine K_aload X 10 dL_law_514 rfl ?_
                    refine K_iload X 0 dL_law_516 rfl ?_
                    refine K_iconst X dL_law_518 cii_3 ?_
                    refine K_iaddN X dL_law_519 ?_
                    refine K_iload X 17 dL_law_520 rfl ?_
                    refine K_iast X _ hG.2.2 rfl (by omega) (by decide) dL_law_522 ?_
                    refine K_st wG_uf ?_
                    refine K_st (show _ = wG σ432 190 q i (fAd f (q 2) fi g fr bx) from rfl) ?_
                    refine K_aload X 10 dL_law_523 rfl ?_
                    refine K_iconst X dL_law_525 cii_4 ?_
                    refine K_iload X 15 dL_law_526 rfl ?_
                    refine K_imulN X dL_law_528 ?_
                    refine K_iconst X dL_law_529 cii_1 ?_
                    refine K_iaddN X dL_law_530 ?_
                    refine K_dup2 X dL_law_531 rfl rfl ?_
                    refine K_iald X _ hG.2.2 rfl (by omega) (by decide) ((wG_f _)) dL_law_532 ?_
                    refine K_iload X 5 dL_law_533 rfl ?_
                    refine K_ifN_eq (tgt := 543) X dL_law_535 (by decide) (by omega) (fun c535 => ?_) (fun c535 => ?_)
                    · refine K_iconst X dL_law_543 cii_0 ?_
                      refine K_isubN X dL_law_544 (by omega) ?_
                      refine K_iast X _ hG.2.2 rfl (by omega) (by decide) dL_law_545 ?_
                      refine K_st wG_uf ?_
                      refine K_st (show _ = wG σ432 190 q i (fAd f (q 2) fi g fr bx) from congrArg (fun z => wG σ432 190 q i z) (uN_id rfl)) ?_
                      refine K_aload_n X 8 dL_law_546 rfl rfl ?_
                      refine K_iconst X dL_law_547 cii_2 ?_
                      refine K_dup2 X dL_law_548 rfl rfl ?_
                      refine K_iald X _ hG.1 rfl (by omega) (by decide) ((wG_q _)) dL_law_549 ?_
                      refine K_iconst X dL_law_550 cii_1 ?_
                      refine K_iaddN X dL_law_551 ?_
                      refine K_iast X _ hG.1 rfl (by omega) (by decide) dL_law_552 ?_
                      refine K_st wG_uq ?_
                      refine K_aload_n X 8 dL_law_553 rfl rfl ?_
                      refine K_iconst X dL_law_554 cii_3 ?_
                      refine K_dup2 X dL_law_555 rfl rfl ?_
                      refine K_iald X _ hG.1 rfl (by omega) (by decide) (x := nI (q 3)) ((wG_q 3).trans rfl) dL_law_556 ?_
                      refine K_iload X 5 dL_law_557 rfl ?_
                      refine K_ifN_eq (tgt := 566) X dL_law_559 (by decide) (by omega) (fun c559 => ?_) (fun c559 => ?_)
                      · refine K_iload X 19 dL_law_566 rfl ?_
                        refine K_iaddN X dL_law_568 ?_
                        refine K_iast X _ hG.1 rfl (by omega) (by decide) dL_law_569 ?_
                        refine K_st wG_uq ?_
                        refine K_aload_n X 8 dL_law_570 rfl rfl ?_
                        refine K_bipush X dL_law_571 cib_6 ?_
                        refine K_dup2 X dL_law_573 rfl rfl ?_
                        refine K_iald X _ hG.1 rfl (by omega) (by decide) (x := nI (q 6)) ((wG_q 6).trans rfl) dL_law_574 ?_
                        refine K_iload X 5 dL_law_575 rfl ?_
                        refine K_ifN_eq (tgt := 584) X dL_law_577 (by decide) (by omega) (fun c577 => ?_) (fun c577 => ?_)
                        · refine K_iload X 19 dL_law_584 rfl ?_
                          refine K_aload_n X 8 dL_law_586 rfl rfl ?_
                          refine K_bipush X dL_law_587 cib_16 ?_
                          refine K_iload X 4 dL_law_589 rfl ?_
                          refine K_iaddN X dL_law_591 ?_
                          refine K_iald X _ hG.1 rfl (by omega) (by decide) (x := nI (q (16 + fi))) ((wG_q _).trans (congrArg nI (by rw [uN_n (by omega), uN_n (by omega)]))) dL_law_592 ?_
                          refine K_imulN X dL_law_593 ?_
                          refine K_sipush X dL_law_594 cis_1000 ?_
                          refine K_idivN X dL_law_597 (by exact qW_b hg2 (fi_c hF hfi)) (by decide) (by decide) ?_
                          refine K_iaddN X dL_law_598 ?_
                          refine K_iast X _ hG.1 rfl (by omega) (by decide) dL_law_599 ?_
                          refine K_st wG_uq ?_
                          refine K_goto (tgt := 1680) X dL_law_600 (by decide) ?_
                          have hgd := g_deliver hGd hBq (congrArg Prod.snd hod)
                          exact K_sub [13, 6, 7, 8, 9, 10, 11] rfl (kS _ (LX.mk ((h432.s hod).wg (qi_2 hgd.1)) AR.wG (jj_deliver hJJ hq15 hfi hg1 hg2 (show fr ≤ 100 from by omega) hbx) hgd (Nat.le_succ_of_le h0)))
                        · exact absurd rfl c577
                      · exact absurd rfl c559
                    · exact absurd rfl c535
                  · exact absurd rfl c496
                · exact absurd rfl c463
              · exact absurd (congrArg Prod.fst hod) c437
            · exact absurd rfl c405
        · exact absurd rfl c329
    · refine K_goto (tgt := 1697) X dL_law_285 (by decide) ?_
      exact K_sub [1, 2, 3, 4, 5, 6] rfl (kC _ (LX.mk (hL.wg h2) AR.wG hJJ (hGd.up (by omega)) (Nat.le_succ_of_le h0)))
  · exact absurd c267 (by omega)

set_option maxHeartbeats 8000000 in
set_option maxRecDepth 100000 in
theorem br_div (l : Launch) (D : KD) (b : Nat) {sh : List KSh} (hsh : shP sh) (hG : GS sh 190) (σ : KS) (q i f N : Nat → Nat) (r : Nat) (hs : Nat → Nat → Nat) (T : Nat → Nat) (n t : Nat) (hL : CI σ N r hs T n) (hJJ : JJ q i f N) (hGd : Gd (1000 + 4000000 * t) N) (h0 : q 0 ≤ t) (ht : t < 44) (x y : Int32) (kd k iv bx tr g : Nat) (hk : q 2 = 0 ∧ k = 0 ∨ k < q 2) (hiv : iv = 1 ∧ (k < q 2 ∧ 0 < f (4 * k + 1)) ∨ iv = 0 ∧ ¬ (k < q 2 ∧ 0 < f (4 * k + 1))) (hbx : bx < 6) (htr : tr < 5) (hg1 : 1 ≤ g) (hg2 : g ≤ 20000) (hkd : kd = 4) {pg : Program} {e : Env} {s : State} {m : MethodId} {below : List Frame} {meth : Method} {c : Code} {ca sl z : Nat} (hca : ca ≤ room_1.cells) (hsl : sl ≤ room_1.slots) (X : KX pg s m meth c #[Value.ref z] D b cL_law 22 ret RL) (kS : ∀ σ' : KS, LX (t + 1) σ' → K pg l e room_1 s m #[Value.ref z] below meth c (lw_Z below #[Value.ref z] s) D b 22 ca sl sh σ' 1680 [(7, .int y), (0, .ref z), (1, rf b 0), (2, rf b 190), (3, rf b (190 + 1)), (4, rf b (190 + 2)), (5, .int (nI t))] []) (kC : ∀ σ' : KS, LX (t + 1) σ' → K pg l e room_1 s m #[Value.ref z] below meth c (lw_Z below #[Value.ref z] s) D b 22 ca sl sh σ' 1697 [(0, .ref z), (1, rf b 0), (2, rf b 190), (3, rf b (190 + 1)), (4, rf b (190 + 2)), (5, .int (nI t))] []) : K pg l e room_1 s m #[Value.ref z] below meth c (lw_Z below #[Value.ref z] s) D b 22 ca sl sh (wG σ 190 q i f) 264 [(0, .ref z), (1, rf b 0), (2, rf b 190), (3, rf b (190 + 1)), (4, rf b (190 + 2)), (5, .int (nI t)), (6, .int x), (7, .int y), (8, .int (nI kd)), (9, .int (nI k)), (10, .int (nI iv)), (11, .int (nI bx)), (12, .int (nI tr)), (13, .int (nI g))] [] := by
  obtain ⟨hJ, hF, hCn⟩ := id hJJ
  obtain ⟨hI, hU, hBb⟩ := id hGd
  have h2 := qi_2 hI
  have h16 := fi_2 hF
  have hB : N 10 < 2 ^ 31 := by have := hBb 10 (by omega); omega
  have hk16 : k < 16 := by omega
  have hiv1 : iv ≤ 1 := by rcases hiv with w | w <;> omega
  have hBq : 1000 ≤ 1000 + 4000000 * t := by omega
  refine K_iload X 8 dL_law_264 rfl ?_
  refine K_iconst X dL_law_266 cii_4 ?_
  refine K_icmpN_ne (tgt := 274) X dL_law_267 (by decide) (by omega) (by omega) (fun c267 => ?_) (fun c267 => ?_)
  · exact absurd hkd c267
  · refine K_iconst X dL_law_270 cii_1 ?_
    refine K_goto (tgt := 275) X dL_law_271 (by decide) ?_
    refine K_istore X (ls' := [(14, _), (0, _), (1, _), (2, _), (3, _), (4, _), (5, _), (6, _), (7, _), (8, _), (9, _), (10, _), (11, _), (12, _), (13, _)]) dL_law_275 (by decide) rfl ?_
    refine K_aload_n X 3 dL_law_277 rfl rfl ?_
    refine K_iconst X dL_law_278 cii_2 ?_
    refine K_iald X _ hG.1 rfl (by omega) (by decide) ((wG_q _)) dL_law_279 ?_
    refine K_bipush X dL_law_280 cib_16 ?_
    refine K_icmpN_ne (tgt := 288) X dL_law_282 (by decide) (by omega) (by omega) (fun c282 => ?_) (fun c282 => ?_)
    · refine K_iload X 8 dL_law_288 rfl ?_
      refine K_bipush X dL_law_290 cib_6 ?_
      refine K_callSE X (c_L_low l D b _ _ _ (by omega) (by omega)) my_L_low wt_L_low wm_L_30 ⟨rfl, rfl, Nat.le_of_ble_eq_true rfl, Nat.le_of_ble_eq_true rfl, hca, hsl⟩ rfl rfl (Nat.le_of_ble_eq_true rfl) dL_law_292 ?_
      obtain ⟨fi, hfie⟩ : ∃ fi, fi = lz y % 6 := ⟨_, rfl⟩
      rw [← hfie]
      have hfi : fi < 6 := by rw [hfie]; exact Nat.mod_lt _ (by decide)
      refine K_istore X (ls' := [(15, _), (14, _), (0, _), (1, _), (2, _), (3, _), (4, _), (5, _), (6, _), (7, _), (8, _), (9, _), (10, _), (11, _), (12, _), (13, _)]) dL_law_295 (by decide) rfl ?_
      refine K_iload X 8 dL_law_297 rfl ?_
      refine K_iconst X dL_law_299 cii_4 ?_
      refine K_ishr X dL_law_300 (fun z300 => ?_)
      refine K_bipush X dL_law_301 cib_101 ?_
      refine K_callSE X (c_L_low l D b _ _ _ (by omega) (by omega)) my_L_low wt_L_low wm_L_30 ⟨rfl, rfl, Nat.le_of_ble_eq_true rfl, Nat.le_of_ble_eq_true rfl, hca, hsl⟩ rfl rfl (Nat.le_of_ble_eq_true rfl) dL_law_303 ?_
      obtain ⟨fr, hfre⟩ : ∃ fr, fr = lz z300 % 101 := ⟨_, rfl⟩
      rw [← hfre]
      have hfr : fr < 101 := by rw [hfre]; exact Nat.mod_lt _ (by decide)
      refine K_istore X (ls' := [(16, _), (15, _), (14, _), (0, _), (1, _), (2, _), (3, _), (4, _), (5, _), (6, _), (7, _), (8, _), (9, _), (10, _), (11, _), (12, _), (13, _)]) dL_law_306 (by decide) rfl ?_
      have hfat := fAt_le f bx (q 2)
      have hq15 : q 2 < 16 := by have : ¬ q 2 = 16 := c282; omega
      refine K_iload X 14 dL_law_308 rfl ?_
      refine K_aload_n X 5 dL_law_310 rfl rfl ?_
      refine K_aload X 7 dL_law_311 rfl ?_
      refine K_callSE X (c_L_at l D b _ 190 _ _ _ _ hG hF (by omega)) my_L_at wt_L_at wm_L_16 ⟨rfl, rfl, Nat.le_of_ble_eq_true rfl, Nat.le_of_ble_eq_true rfl, hca, hsl⟩ rfl rfl (Nat.le_of_ble_eq_true rfl) dL_law_313 ?_
      refine K_iconst X dL_law_316 cii_3 ?_
      refine K_icmpN_ge (tgt := 324) X dL_law_317 (by decide) (by omega) (by omega) (fun c317 => ?_) (fun c317 => ?_)
      · refine K_iconst X dL_law_324 cii_0 ?_
        refine K_istore X (ls' := [(17, _), (16, _), (15, _), (14, _), (0, _), (1, _), (2, _), (3, _), (4, _), (5, _), (6, _), (7, _), (8, _), (9, _), (10, _), (11, _), (12, _), (13, _)]) dL_law_325 (by decide) rfl ?_
        refine K_iload X 3 dL_law_327 rfl ?_
        refine K_ifN_eq (tgt := 386) X dL_law_329 (by decide) (by omega) (fun c329 => ?_) (fun c329 => ?_)
        · exact absurd c329 (by decide)
        · refine K_iload X 14 dL_law_332 rfl ?_
          refine K_ifN_ne (tgt := 341) X dL_law_334 (by decide) (by omega) (fun c334 => ?_) (fun c334 => ?_)
          · have his : k < q 2 ∧ 0 < f (4 * k + 1) := by rcases hiv with w | w; exact w.2; exact absurd w.1 c334
            have b1 := fi_l1 hF his.1
            have bb0 := fi_l0 hF his.1
            have bb2 := fi_l2 hF his.1
            refine K_iload X 17 dL_law_341 rfl ?_
            refine K_sipush X dL_law_343 cis_19999 ?_
            refine K_icmpN_le (tgt := 354) X dL_law_346 (by decide) (by omega) (by omega) (fun c346 => ?_) (fun c346 => ?_)
            · refine K_iload X 17 dL_law_354 rfl ?_
              refine K_aload X 8 dL_law_356 rfl ?_
              refine K_iconst X dL_law_358 cii_4 ?_
              refine K_iload X 13 dL_law_359 rfl ?_
              refine K_imulN X dL_law_361 ?_
              refine K_iconst X dL_law_362 cii_1 ?_
              refine K_iaddN X dL_law_363 ?_
              refine K_iald X _ hG.2.2 rfl (by omega) (by decide) ((wG_f _)) dL_law_364 ?_
              refine K_icmpN_ge (tgt := 373) X dL_law_365 (by decide) (by omega) (by omega) (fun c365 => ?_) (fun c365 => ?_)
              · refine K_bipush X dL_law_373 cib_m3 ?_
                refine K_goto (tgt := 401) X dL_law_375 (by decide) ?_
                refine K_istore X (ls' := [(18, _), (17, _), (16, _), (15, _), (14, _), (0, _), (1, _), (2, _), (3, _), (4, _), (5, _), (6, _), (7, _), (8, _), (9, _), (10, _), (11, _), (12, _), (13, _)]) dL_law_401 (by decide) rfl ?_
                refine K_iload X 4 dL_law_403 rfl ?_
                refine K_ifN_eq (tgt := 423) X dL_law_405 (by decide) (by omega) (fun c405 => ?_) (fun c405 => ?_)
                · exact absurd c405 (by decide)
                · have hod := od_div_2 (N := N) hJ hU hF his.1 his.2 hbx hg1 (g := g) (by omega) (by omega)
                  refine K_aload_n X 6 dL_law_408 rfl rfl ?_
                  refine K_iload X 14 dL_law_409 rfl ?_
                  refine K_iconst X dL_law_411 cii_1 ?_
                  refine K_iaddN X dL_law_412 ?_
                  refine K_iload X 18 dL_law_413 rfl ?_
                  refine K_iload X 16 dL_law_415 rfl ?_
                  refine K_callVP X (c_X5_divide l D b hsh _ _ _ _ _ _ _ _ _ (hL.wg h2) hI hU hB) my_X5_divide mv_X5_divide wm_L_83 (sf_c hsh) rfl ⟨rfl, rfl, Nat.le_of_ble_eq_true rfl, Nat.le_of_ble_eq_true rfl, hca, hsl⟩ rfl rfl (Nat.le_of_ble_eq_true rfl) dL_law_417 (fun σ417 h417 => ?_)
                  refine K_st (AR.id (AR.cf AR.wG h417.1)).symm ?_
                  refine K_goto (tgt := 435) X dL_law_420 (by decide) ?_
                  refine K_iload X 0 dL_law_435 rfl ?_
                  refine K_icmp_eq (tgt := 442) X dL_law_437 (by decide) (fun c437 => ?_) (fun c437 => ?_)
                  · refine K_iload X 0 dL_law_442 rfl ?_
                    refine K_if_ge (tgt := 450) X dL_law_444 (by decide) (fun c444 => ?_) (fun c444 => ?_)
                    · exact absurd c444 (by decide)
                    · refine K_goto (tgt := 1697) X dL_law_447 (by decide) ?_
                      exact K_sub [5, 6, 7, 8, 9, 10] rfl (kC _ (LX.mk ((h417.n hod).wg h2) AR.wG hJJ (hGd.up (by omega)) (Nat.le_succ_of_le h0)))
                  · exact absurd (congrArg Prod.fst hod) c437
              · refine K_iload X 0 dL_law_368 rfl ?_
                refine K_ifN_ne (tgt := 378) X dL_law_370 (by decide) (by omega) (fun c370 => ?_) (fun c370 => ?_)
                · exact absurd rfl c370
                · refine K_bipush X dL_law_373 cib_m3 ?_
                  refine K_goto (tgt := 401) X dL_law_375 (by decide) ?_
                  refine K_istore X (ls' := [(18, _), (17, _), (16, _), (15, _), (14, _), (0, _), (1, _), (2, _), (3, _), (4, _), (5, _), (6, _), (7, _), (8, _), (9, _), (10, _), (11, _), (12, _), (13, _)]) dL_law_401 (by decide) rfl ?_
                  refine K_iload X 4 dL_law_403 rfl ?_
                  refine K_ifN_eq (tgt := 423) X dL_law_405 (by decide) (by omega) (fun c405 => ?_) (fun c405 => ?_)
                  · exact absurd c405 (by decide)
                  · have hod := od_div_3 (N := N) hJ hU hF hq15 his.1 his.2 hbx hg1 (g := g) (by omega) (by omega) (by omega)
                    refine K_aload_n X 6 dL_law_408 rfl rfl ?_
                    refine K_iload X 14 dL_law_409 rfl ?_
                    refine K_iconst X dL_law_411 cii_1 ?_
                    refine K_iaddN X dL_law_412 ?_
                    refine K_iload X 18 dL_law_413 rfl ?_
                    refine K_iload X 16 dL_law_415 rfl ?_
                    refine K_callVP X (c_X5_divide l D b hsh _ _ _ _ _ _ _ _ _ (hL.wg h2) hI hU hB) my_X5_divide mv_X5_divide wm_L_83 (sf_c hsh) rfl ⟨rfl, rfl, Nat.le_of_ble_eq_true rfl, Nat.le_of_ble_eq_true rfl, hca, hsl⟩ rfl rfl (Nat.le_of_ble_eq_true rfl) dL_law_417 (fun σ417 h417 => ?_)
                    refine K_st (AR.id (AR.cf AR.wG h417.1)).symm ?_
                    refine K_goto (tgt := 435) X dL_law_420 (by decide) ?_
                    refine K_iload X 0 dL_law_435 rfl ?_
                    refine K_icmp_eq (tgt := 442) X dL_law_437 (by decide) (fun c437 => ?_) (fun c437 => ?_)
                    · refine K_iload X 0 dL_law_442 rfl ?_
                      refine K_if_ge (tgt := 450) X dL_law_444 (by decide) (fun c444 => ?_) (fun c444 => ?_)
                      · exact absurd c444 (by decide)
                      · refine K_goto (tgt := 1697) X dL_law_447 (by decide) ?_
                        exact K_sub [5, 6, 7, 8, 9, 10] rfl (kC _ (LX.mk ((h417.n hod).wg h2) AR.wG hJJ (hGd.up (by omega)) (Nat.le_succ_of_le h0)))
                    · exact absurd (congrArg Prod.fst hod) c437
            · refine K_bipush X dL_law_349 cib_m2 ?_
              refine K_goto (tgt := 401) X dL_law_351 (by decide) ?_
              refine K_istore X (ls' := [(18, _), (17, _), (16, _), (15, _), (14, _), (0, _), (1, _), (2, _), (3, _), (4, _), (5, _), (6, _), (7, _), (8, _), (9, _), (10, _), (11, _), (12, _), (13, _)]) dL_law_401 (by decide) rfl ?_
              refine K_iload X 4 dL_law_403 rfl ?_
              refine K_ifN_eq (tgt := 423) X dL_law_405 (by decide) (by omega) (fun c405 => ?_) (fun c405 => ?_)
              · exact absurd c405 (by decide)
              · have hod := od_div_1 (N := N) hJ hU hF his.1 his.2 hbx hg2 (g := g) (by omega)
                refine K_aload_n X 6 dL_law_408 rfl rfl ?_
                refine K_iload X 14 dL_law_409 rfl ?_
                refine K_iconst X dL_law_411 cii_1 ?_
                refine K_iaddN X dL_law_412 ?_
                refine K_iload X 18 dL_law_413 rfl ?_
                refine K_iload X 16 dL_law_415 rfl ?_
                refine K_callVP X (c_X5_divide l D b hsh _ _ _ _ _ _ _ _ _ (hL.wg h2) hI hU hB) my_X5_divide mv_X5_divide wm_L_83 (sf_c hsh) rfl ⟨rfl, rfl, Nat.le_of_ble_eq_true rfl, Nat.le_of_ble_eq_true rfl, hca, hsl⟩ rfl rfl (Nat.le_of_ble_eq_true rfl) dL_law_417 (fun σ417 h417 => ?_)
                refine K_st (AR.id (AR.cf AR.wG h417.1)).symm ?_
                refine K_goto (tgt := 435) X dL_law_420 (by decide) ?_
                refine K_iload X 0 dL_law_435 rfl ?_
                refine K_icmp_eq (tgt := 442) X dL_law_437 (by decide) (fun c437 => ?_) (fun c437 => ?_)
                · refine K_iload X 0 dL_law_442 rfl ?_
                  refine K_if_ge (tgt := 450) X dL_law_444 (by decide) (fun c444 => ?_) (fun c444 => ?_)
                  · exact absurd c444 (by decide)
                  · refine K_goto (tgt := 1697) X dL_law_447 (by decide) ?_
                    exact K_sub [5, 6, 7, 8, 9, 10] rfl (kC _ (LX.mk ((h417.n hod).wg h2) AR.wG hJJ (hGd.up (by omega)) (Nat.le_succ_of_le h0)))
                · exact absurd (congrArg Prod.fst hod) c437
          · refine K_iconst X dL_law_337 cii_m1 ?_
            refine K_goto (tgt := 401) X dL_law_338 (by decide) ?_
            refine K_istore X (ls' := [(18, _), (17, _), (16, _), (15, _), (14, _), (0, _), (1, _), (2, _), (3, _), (4, _), (5, _), (6, _), (7, _), (8, _), (9, _), (10, _), (11, _), (12, _), (13, _)]) dL_law_401 (by decide) rfl ?_
            refine K_iload X 4 dL_law_403 rfl ?_
            refine K_ifN_eq (tgt := 423) X dL_law_405 (by decide) (by omega) (fun c405 => ?_) (fun c405 => ?_)
            · exact absurd c405 (by decide)
            · have hno : ¬ (k < q 2 ∧ 0 < f (4 * k + 1)) := by rcases hiv with w | w; exact absurd (w.1.symm.trans c334) (by decide); exact w.2
              have hod : oDivide N (nI (k + 1)) (nI g) (nI bx) = (-1, none) := od_no hJ hF (by omega) hno _
              refine K_aload_n X 6 dL_law_408 rfl rfl ?_
              refine K_iload X 14 dL_law_409 rfl ?_
              refine K_iconst X dL_law_411 cii_1 ?_
              refine K_iaddN X dL_law_412 ?_
              refine K_iload X 18 dL_law_413 rfl ?_
              refine K_iload X 16 dL_law_415 rfl ?_
              refine K_callVP X (c_X5_divide l D b hsh _ _ _ _ _ _ _ _ _ (hL.wg h2) hI hU hB) my_X5_divide mv_X5_divide wm_L_83 (sf_c hsh) rfl ⟨rfl, rfl, Nat.le_of_ble_eq_true rfl, Nat.le_of_ble_eq_true rfl, hca, hsl⟩ rfl rfl (Nat.le_of_ble_eq_true rfl) dL_law_417 (fun σ417 h417 => ?_)
              refine K_st (AR.id (AR.cf AR.wG h417.1)).symm ?_
              refine K_goto (tgt := 435) X dL_law_420 (by decide) ?_
              refine K_iload X 0 dL_law_435 rfl ?_
              refine K_icmp_eq (tgt := 442) X dL_law_437 (by decide) (fun c437 => ?_) (fun c437 => ?_)
              · refine K_iload X 0 dL_law_442 rfl ?_
                refine K_if_ge (tgt := 450) X dL_law_444 (by decide) (fun c444 => ?_) (fun c444 => ?_)
                · exact absurd c444 (by decide)
                · refine K_goto (tgt := 1697) X dL_law_447 (by decide) ?_
                  exact K_sub [5, 6, 7, 8, 9, 10] rfl (kC _ (LX.mk ((h417.n hod).wg h2) AR.wG hJJ (hGd.up (by omega)) (Nat.le_succ_of_le h0)))
              · exact absurd (congrArg Prod.fst hod) c437
      · refine K_iconst X dL_law_320 cii_1 ?_
        refine K_goto (tgt := 325) X dL_law_321 (by decide) ?_
        refine K_istore X (ls' := [(17, _), (16, _), (15, _), (14, _), (0, _), (1, _), (2, _), (3, _), (4, _), (5, _), (6, _), (7, _), (8, _), (9, _), (10, _), (11, _), (12, _), (13, _)]) dL_law_325 (by decide) rfl ?_
        refine K_iload X 3 dL_law_327 rfl ?_
        refine K_ifN_eq (tgt := 386) X dL_law_329 (by decide) (by omega) (fun c329 => ?_) (fun c329 => ?_)
        · exact absurd c329 (by decide)
        · refine K_iload X 14 dL_law_332 rfl ?_
          refine K_ifN_ne (tgt := 341) X dL_law_334 (by decide) (by omega) (fun c334 => ?_) (fun c334 => ?_)
          · have his : k < q 2 ∧ 0 < f (4 * k + 1) := by rcases hiv with w | w; exact w.2; exact absurd w.1 c334
            have b1 := fi_l1 hF his.1
            have bb0 := fi_l0 hF his.1
            have bb2 := fi_l2 hF his.1
            refine K_iload X 17 dL_law_341 rfl ?_
            refine K_sipush X dL_law_343 cis_19999 ?_
            refine K_icmpN_le (tgt := 354) X dL_law_346 (by decide) (by omega) (by omega) (fun c346 => ?_) (fun c346 => ?_)
            · refine K_iload X 17 dL_law_354 rfl ?_
              refine K_aload X 8 dL_law_356 rfl ?_
              refine K_iconst X dL_law_358 cii_4 ?_
              refine K_iload X 13 dL_law_359 rfl ?_
              refine K_imulN X dL_law_361 ?_
              refine K_iconst X dL_law_362 cii_1 ?_
              refine K_iaddN X dL_law_363 ?_
              refine K_iald X _ hG.2.2 rfl (by omega) (by decide) ((wG_f _)) dL_law_364 ?_
              refine K_icmpN_ge (tgt := 373) X dL_law_365 (by decide) (by omega) (by omega) (fun c365 => ?_) (fun c365 => ?_)
              · refine K_bipush X dL_law_373 cib_m3 ?_
                refine K_goto (tgt := 401) X dL_law_375 (by decide) ?_
                refine K_istore X (ls' := [(18, _), (17, _), (16, _), (15, _), (14, _), (0, _), (1, _), (2, _), (3, _), (4, _), (5, _), (6, _), (7, _), (8, _), (9, _), (10, _), (11, _), (12, _), (13, _)]) dL_law_401 (by decide) rfl ?_
                refine K_iload X 4 dL_law_403 rfl ?_
                refine K_ifN_eq (tgt := 423) X dL_law_405 (by decide) (by omega) (fun c405 => ?_) (fun c405 => ?_)
                · exact absurd c405 (by decide)
                · have hod := od_div_2 (N := N) hJ hU hF his.1 his.2 hbx hg1 (g := g) (by omega) (by omega)
                  refine K_aload_n X 6 dL_law_408 rfl rfl ?_
                  refine K_iload X 14 dL_law_409 rfl ?_
                  refine K_iconst X dL_law_411 cii_1 ?_
                  refine K_iaddN X dL_law_412 ?_
                  refine K_iload X 18 dL_law_413 rfl ?_
                  refine K_iload X 16 dL_law_415 rfl ?_
                  refine K_callVP X (c_X5_divide l D b hsh _ _ _ _ _ _ _ _ _ (hL.wg h2) hI hU hB) my_X5_divide mv_X5_divide wm_L_83 (sf_c hsh) rfl ⟨rfl, rfl, Nat.le_of_ble_eq_true rfl, Nat.le_of_ble_eq_true rfl, hca, hsl⟩ rfl rfl (Nat.le_of_ble_eq_true rfl) dL_law_417 (fun σ417 h417 => ?_)
                  refine K_st (AR.id (AR.cf AR.wG h417.1)).symm ?_
                  refine K_goto (tgt := 435) X dL_law_420 (by decide) ?_
                  refine K_iload X 0 dL_law_435 rfl ?_
                  refine K_icmp_eq (tgt := 442) X dL_law_437 (by decide) (fun c437 => ?_) (fun c437 => ?_)
                  · refine K_iload X 0 dL_law_442 rfl ?_
                    refine K_if_ge (tgt := 450) X dL_law_444 (by decide) (fun c444 => ?_) (fun c444 => ?_)
                    · exact absurd c444 (by decide)
                    · refine K_goto (tgt := 1697) X dL_law_447 (by decide) ?_
                      exact K_sub [5, 6, 7, 8, 9, 10] rfl (kC _ (LX.mk ((h417.n hod).wg h2) AR.wG hJJ (hGd.up (by omega)) (Nat.le_succ_of_le h0)))
                  · exact absurd (congrArg Prod.fst hod) c437
              · refine K_iload X 0 dL_law_368 rfl ?_
                refine K_ifN_ne (tgt := 378) X dL_law_370 (by decide) (by omega) (fun c370 => ?_) (fun c370 => ?_)
                · refine K_aload_n X 6 dL_law_378 rfl rfl ?_
                  refine K_iconst X dL_law_379 cii_2 ?_
                  refine K_iald X _ hG.1 rfl (by omega) (by decide) ((wG_q _)) dL_law_380 ?_
                  refine K_iconst X dL_law_381 cii_1 ?_
                  refine K_iaddN X dL_law_382 ?_
                  refine K_goto (tgt := 401) X dL_law_383 (by decide) ?_
                  refine K_istore X (ls' := [(18, _), (17, _), (16, _), (15, _), (14, _), (0, _), (1, _), (2, _), (3, _), (4, _), (5, _), (6, _), (7, _), (8, _), (9, _), (10, _), (11, _), (12, _), (13, _)]) dL_law_401 (by decide) rfl ?_
                  refine K_iload X 4 dL_law_403 rfl ?_
                  refine K_ifN_eq (tgt := 423) X dL_law_405 (by decide) (by omega) (fun c405 => ?_) (fun c405 => ?_)
                  · exact absurd c405 (by decide)
                  · have hod := od_div_4 (N := N) hJ hU hF hq15 his.1 his.2 hbx hg1 (g := g) (by omega) (by omega) (by omega)
                    refine K_aload_n X 6 dL_law_408 rfl rfl ?_
                    refine K_iload X 14 dL_law_409 rfl ?_
                    refine K_iconst X dL_law_411 cii_1 ?_
                    refine K_iaddN X dL_law_412 ?_
                    refine K_iload X 18 dL_law_413 rfl ?_
                    refine K_iload X 16 dL_law_415 rfl ?_
                    refine K_callVP X (c_X5_divide l D b hsh _ _ _ _ _ _ _ _ _ (hL.wg h2) hI hU hB) my_X5_divide mv_X5_divide wm_L_83 (sf_c hsh) rfl ⟨rfl, rfl, Nat.le_of_ble_eq_true rfl, Nat.le_of_ble_eq_true rfl, hca, hsl⟩ rfl rfl (Nat.le_of_ble_eq_true rfl) dL_law_417 (fun σ417 h417 => ?_)
                    refine K_st (AR.id (AR.cf AR.wG h417.1)).symm ?_
                    refine K_goto (tgt := 435) X dL_law_420 (by decide) ?_
                    refine K_iload X 0 dL_law_435 rfl ?_
                    refine K_icmp_eq (tgt := 442) X dL_law_437 (by decide) (fun c437 => ?_) (fun c437 => ?_)
                    · refine K_iload X 0 dL_law_442 rfl ?_
                      refine K_ifN_ge (tgt := 450) X dL_law_444 (by decide) (by omega) ?_
                      refine K_iconst X dL_law_450 cii_4 ?_
                      refine K_aload_n X 7 dL_law_451 rfl rfl ?_
                      refine K_iconst X dL_law_452 cii_2 ?_
                      refine K_iald X _ hG.1 rfl (by omega) (by decide) ((wG_q _)) dL_law_453 ?_
                      refine K_imulN X dL_law_454 ?_
                      refine K_istore X (ls' := [(19, _), (18, _), (17, _), (16, _), (15, _), (14, _), (0, _), (1, _), (2, _), (3, _), (4, _), (5, _), (6, _), (7, _), (8, _), (9, _), (10, _), (11, _), (12, _), (13, _)]) dL_law_455 (by decide) rfl ?_
                      refine K_aload X 10 dL_law_457 rfl ?_
                      refine K_iload X 0 dL_law_459 rfl ?_
                      refine K_iload X 5 dL_law_461 rfl ?_
                      refine K_ifN_eq (tgt := 476) X dL_law_463 (by decide) (by omega) (fun c463 => ?_) (fun c463 => ?_)
                      · exact absurd c463 (by decide)
                      · refine K_aload X 10 dL_law_466 rfl ?_
                        refine K_iconst X dL_law_468 cii_4 ?_
                        refine K_iload X 15 dL_law_469 rfl ?_
                        refine K_imulN X dL_law_471 ?_
                        refine K_iald X _ hG.2.2 rfl (by omega) (by decide) ((wG_f _)) dL_law_472 ?_
                        refine K_goto (tgt := 478) X dL_law_473 (by decide) ?_
                        refine K_iast X _ hG.2.2 rfl (by omega) (by decide) dL_law_478 ?_
                        refine K_st wG_uf ?_
                        refine K_aload X 10 dL_law_479 rfl ?_
                        refine K_iload X 0 dL_law_481 rfl ?_
                        refine K_iconst X dL_law_483 cii_1 ?_
                        refine K_iaddN X dL_law_484 ?_
                        refine K_iload X 19 dL_law_485 rfl ?_
                        refine K_iast X _ hG.2.2 rfl (by omega) (by decide) dL_law_487 ?_
                        refine K_st wG_uf ?_
                        refine K_aload X 10 dL_law_488 rfl ?_
                        refine K_iload X 0 dL_law_490 rfl ?_
                        refine K_iconst X dL_law_492 cii_2 ?_
                        refine K_iaddN X dL_law_493 ?_
                        refine K_iload X 5 dL_law_494 rfl ?_
                        refine K_ifN_eq (tgt := 511) X dL_law_496 (by decide) (by omega) (fun c496 => ?_) (fun c496 => ?_)
                        · exact absurd c496 (by decide)
                        · refine K_aload X 10 dL_law_499 rfl ?_
                          refine K_iconst X dL_law_501 cii_4 ?_
                          refine K_iload X 15 dL_law_502 rfl ?_
                          refine K_imulN X dL_law_504 ?_
                          refine K_iconst X dL_law_505 cii_2 ?_
                          refine K_iaddN X dL_law_506 ?_
                          refine K_iald X _ hG.2.2 rfl (by omega) (by decide) (x := nI (f (4 * k + 2))) ((wG_f _).trans (congrArg nI (by rw [uN_n (by omega), uN_n (by omega)]))) dL_law_507 ?_
                          refine K_goto (tgt := 513) X dL_law_508 (by decide) ?_
                          refine K_iast X _ hG.2.2 rfl (by omega) (by decide) dL_law_513 ?_
                          refine K_st wG_uf ?_
                          refine K_aload X 10 dL_law_514 rfl ?_
                          refine K_iload X 0 dL_law_516 rfl ?_
                          refine K_iconst X dL_law_518 cii_3 ?_
                          refine K_iaddN X dL_law_519 ?_
                          refine K_iload X 17 dL_law_520 rfl ?_
                          refine K_iast X _ hG.2.2 rfl (by omega) (by decide) dL_law_522 ?_
                          refine K_st wG_uf ?_
                          refine K_st (show _ = wG σ417 190 q i (fAd f (q 2) (f (4 * k)) g (f (4 * k + 2)) bx) from rfl) ?_
                          refine K_aload X 10 dL_law_523 rfl ?_
                          refine K_iconst X dL_law_525 cii_4 ?_
                          refine K_iload X 15 dL_law_526 rfl ?_
                          refine K_imulN X dL_law_528 ?_
                          refine K_iconst X dL_law_529 cii_1 ?_
                          refine K_iaddN X dL_law_530 ?_
                          refine K_dup2 X dL_law_531 rfl rfl ?_
                          refine K_iald X _ hG.2.2 rfl (by omega) (by decide) (x := nI (f (4 * k + 1))) ((wG_f _).trans (congrArg nI (fAd_o (by omega)))) dL_law_532 ?_
                          refine K_iload X 5 dL_law_533 rfl ?_
                          refine K_ifN_eq (tgt := 543) X dL_law_535 (by decide) (by omega) (fun c535 => ?_) (fun c535 => ?_)
                          · exact absurd c535 (by decide)
                          · refine K_iload X 19 dL_law_538 rfl ?_
                            refine K_goto (tgt := 544) X dL_law_540 (by decide) ?_
                            refine K_isubN X dL_law_544 (by omega) ?_
                            refine K_iast X _ hG.2.2 rfl (by omega) (by decide) dL_law_545 ?_
                            refine K_st wG_uf ?_
                            refine K_aload_n X 8 dL_law_546 rfl rfl ?_
                            refine K_iconst X dL_law_547 cii_2 ?_
                            refine K_dup2 X dL_law_548 rfl rfl ?_
                            refine K_iald X _ hG.1 rfl (by omega) (by decide) ((wG_q _)) dL_law_549 ?_
                            refine K_iconst X dL_law_550 cii_1 ?_
                            refine K_iaddN X dL_law_551 ?_
                            refine K_iast X _ hG.1 rfl (by omega) (by decide) dL_law_552 ?_
                            refine K_st wG_uq ?_
                            refine K_aload_n X 8 dL_law_553 rfl rfl ?_
                            refine K_iconst X dL_law_554 cii_3 ?_
                            refine K_dup2 X dL_law_555 rfl rfl ?_
                            refine K_iald X _ hG.1 rfl (by omega) (by decide) (x := nI (q 3)) ((wG_q 3).trans rfl) dL_law_556 ?_
                            refine K_iload X 5 dL_law_557 rfl ?_
                            refine K_ifN_eq (tgt := 566) X dL_law_559 (by decide) (by omega) (fun c559 => ?_) (fun c559 => ?_)
                            · exact absurd c559 (by decide)
                            · refine K_iconst X dL_law_562 cii_0 ?_
                              refine K_goto (tgt := 568) X dL_law_563 (by decide) ?_
                              refine K_iaddN X dL_law_568 ?_
                              refine K_iast X _ hG.1 rfl (by omega) (by decide) dL_law_569 ?_
                              refine K_st wG_uq ?_
                              refine K_st (show _ = wG σ417 190 (uN q 2 (q 2 + 1)) i _ from congrArg (fun z => wG σ417 190 z i _) (uN_id rfl)) ?_
                              refine K_aload_n X 8 dL_law_570 rfl rfl ?_
                              refine K_bipush X dL_law_571 cib_6 ?_
                              refine K_dup2 X dL_law_573 rfl rfl ?_
                              refine K_iald X _ hG.1 rfl (by omega) (by decide) (x := nI (q 6)) ((wG_q 6).trans rfl) dL_law_574 ?_
                              refine K_iload X 5 dL_law_575 rfl ?_
                              refine K_ifN_eq (tgt := 584) X dL_law_577 (by decide) (by omega) (fun c577 => ?_) (fun c577 => ?_)
                              · exact absurd c577 (by decide)
                              · refine K_iconst X dL_law_580 cii_0 ?_
                                refine K_goto (tgt := 598) X dL_law_581 (by decide) ?_
                                refine K_iaddN X dL_law_598 ?_
                                refine K_iast X _ hG.1 rfl (by omega) (by decide) dL_law_599 ?_
                                refine K_st wG_uq ?_
                                refine K_st (show _ = wG σ417 190 (uN q 2 (q 2 + 1)) i _ from congrArg (fun z => wG σ417 190 z i _) (uN_id rfl)) ?_
                                refine K_goto (tgt := 1680) X dL_law_600 (by decide) ?_
                                have hgd := g_divide hGd (congrArg Prod.snd hod)
                                exact K_sub [13, 6, 7, 8, 9, 10, 11] rfl (kS _ (LX.mk ((h417.s hod).wg (qi_2 hgd.1)) AR.wG (jj_divide hJJ hq15 his.1 hg1 (by omega) hbx) hgd (Nat.le_succ_of_le h0)))
                    · exact absurd (congrArg Prod.fst hod) c437
                · exact absurd c370 (by decide)
            · refine K_bipush X dL_law_349 cib_m2 ?_
              refine K_goto (tgt := 401) X dL_law_351 (by decide) ?_
              refine K_istore X (ls' := [(18, _), (17, _), (16, _), (15, _), (14, _), (0, _), (1, _), (2, _), (3, _), (4, _), (5, _), (6, _), (7, _), (8, _), (9, _), (10, _), (11, _), (12, _), (13, _)]) dL_law_401 (by decide) rfl ?_
              refine K_iload X 4 dL_law_403 rfl ?_
              refine K_ifN_eq (tgt := 423) X dL_law_405 (by decide) (by omega) (fun c405 => ?_) (fun c405 => ?_)
              · exact absurd c405 (by decide)
              · have hod := od_div_1 (N := N) hJ hU hF his.1 his.2 hbx hg2 (g := g) (by omega)
                refine K_aload_n X 6 dL_law_408 rfl rfl ?_
                refine K_iload X 14 dL_law_409 rfl ?_
                refine K_iconst X dL_law_411 cii_1 ?_
                refine K_iaddN X dL_law_412 ?_
                refine K_iload X 18 dL_law_413 rfl ?_
                refine K_iload X 16 dL_law_415 rfl ?_
                refine K_callVP X (c_X5_divide l D b hsh _ _ _ _ _ _ _ _ _ (hL.wg h2) hI hU hB) my_X5_divide mv_X5_divide wm_L_83 (sf_c hsh) rfl ⟨rfl, rfl, Nat.le_of_ble_eq_true rfl, Nat.le_of_ble_eq_true rfl, hca, hsl⟩ rfl rfl (Nat.le_of_ble_eq_true rfl) dL_law_417 (fun σ417 h417 => ?_)
                refine K_st (AR.id (AR.cf AR.wG h417.1)).symm ?_
                refine K_goto (tgt := 435) X dL_law_420 (by decide) ?_
                refine K_iload X 0 dL_law_435 rfl ?_
                refine K_icmp_eq (tgt := 442) X dL_law_437 (by decide) (fun c437 => ?_) (fun c437 => ?_)
                · refine K_iload X 0 dL_law_442 rfl ?_
                  refine K_if_ge (tgt := 450) X dL_law_444 (by decide) (fun c444 => ?_) (fun c444 => ?_)
                  · exact absurd c444 (by decide)
                  · refine K_goto (tgt := 1697) X dL_law_447 (by decide) ?_
                    exact K_sub [5, 6, 7, 8, 9, 10] rfl (kC _ (LX.mk ((h417.n hod).wg h2) AR.wG hJJ (hGd.up (by omega)) (Nat.le_succ_of_le h0)))
                · exact absurd (congrArg Prod.fst hod) c437
          · refine K_iconst X dL_law_337 cii_m1 ?_
            refine K_goto (tgt := 401) X dL_law_338 (by decide) ?_
            refine K_istore X (ls' := [(18, _), (17, _), (16, _), (15, _), (14, _), (0, _), (1, _), (2, _), (3, _), (4, _), (5, _), (6, _), (7, _), (8, _), (9, _), (10, _), (11, _), (12, _), (13, _)]) dL_law_401 (by decide) rfl ?_
            refine K_iload X 4 dL_law_403 rfl ?_
            refine K_ifN_eq (tgt := 423) X dL_law_405 (by decide) (by omega) (fun c405 => ?_) (fun c405 => ?_)
            · exact absurd c405 (by decide)
            · have hno : ¬ (k < q 2 ∧ 0 < f (4 * k + 1)) := by rcases hiv with w | w; exact absurd (w.1.symm.trans c334) (by decide); exact w.2
              have hod : oDivide N (nI (k + 1)) (nI g) (nI bx) = (-1, none) := od_no hJ hF (by omega) hno _
              refine K_aload_n X 6 dL_law_408 rfl rfl ?_
              refine K_iload X 14 dL_law_409 rfl ?_
              refine K_iconst X dL_law_411 cii_1 ?_
              refine K_iaddN X dL_law_412 ?_
              refine K_iload X 18 dL_law_413 rfl ?_
              refine K_iload X 16 dL_law_415 rfl ?_
              refine K_callVP X (c_X5_divide l D b hsh _ _ _ _ _ _ _ _ _ (hL.wg h2) hI hU hB) my_X5_divide mv_X5_divide wm_L_83 (sf_c hsh) rfl ⟨rfl, rfl, Nat.le_of_ble_eq_true rfl, Nat.le_of_ble_eq_true rfl, hca, hsl⟩ rfl rfl (Nat.le_of_ble_eq_true rfl) dL_law_417 (fun σ417 h417 => ?_)
              refine K_st (AR.id (AR.cf AR.wG h417.1)).symm ?_
              refine K_goto (tgt := 435) X dL_law_420 (by decide) ?_
              refine K_iload X 0 dL_law_435 rfl ?_
              refine K_icmp_eq (tgt := 442) X dL_law_437 (by decide) (fun c437 => ?_) (fun c437 => ?_)
              · refine K_iload X 0 dL_law_442 rfl ?_
                refine K_if_ge (tgt := 450) X dL_law_444 (by decide) (fun c444 => ?_) (fun c444 => ?_)
                · exact absurd c444 (by decide)
                · refine K_goto (tgt := 1697) X dL_law_447 (by decide) ?_
                  exact K_sub [5, 6, 7, 8, 9, 10] rfl (kC _ (LX.mk ((h417.n hod).wg h2) AR.wG hJJ (hGd.up (by omega)) (Nat.le_succ_of_le h0)))
              · exact absurd (congrArg Prod.fst hod) c437
    · refine K_goto (tgt := 1697) X dL_law_285 (by decide) ?_
      exact K_sub [1, 2, 3, 4, 5, 6] rfl (kC _ (LX.mk (hL.wg h2) AR.wG hJJ (hGd.up (by omega)) (Nat.le_succ_of_le h0)))
