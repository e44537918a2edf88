/-! THE REFERENCE: the next lot, the coldest box, the answers that change nothing -/
set_option maxHeartbeats 4000000 in
set_option maxRecDepth 100000 in
theorem c_X6_nextFor (l : Launch) (D : KD) (b : Nat) (σ : KS) (N : Nat → Nat) (kd fr pr : Nat) (hP : PF σ.2.2) (hI : qIr N) (h1 : kd < 6) (hf1 : fr ≤ 100) (hp1 : pr ≤ 9999) : Ct l D b yX6_nextFor cX6_nextFor 7 (some .int) (rM 2 45) 0 0 [rf b 190, .int (nI kd), .int (nI fr), .int (nI pr)] shF (wN σ N) shF (pE (some (.int (qO (qNx N kd fr pr (N 2))))) (wN σ N)) := by
  have h2 := qi_2 hI
  refine Ct.of (ls := [(0, rf b 190), (1, .int (nI kd)), (2, .int (nI fr)), (3, .int (nI pr))]) (by decide) (Nat.le_of_ble_eq_true rfl) rfl ?_
  intro pg e s m args below meth c Q hQ X hnm
  refine K_bipush X dX6_nextFor_0 cib_m6 ?_
  refine K_istore X (ls' := [(4, _), (0, _), (1, _), (2, _), (3, _)]) dX6_nextFor_2 (by decide) rfl ?_
  refine K_iconst X dX6_nextFor_4 cii_0 ?_
  refine K_istore X (ls' := [(5, _), (4, _), (0, _), (1, _), (2, _), (3, _)]) dX6_nextFor_5 (by decide) rfl ?_
  have loop : ∀ i : Nat, i ≤ N 2 → K pg l e (rM 2 45) s m args below meth c Q D b 7 0 0 shF (wN σ N) 7 [(0, rf b 190), (1, .int (nI kd)), (2, .int (nI fr)), (3, .int (nI pr)), (4, .int (qO (qNx N kd fr pr i))), (5, .int (nI i))] [] := by
    refine kup (fun i hi ih => ?_)
    refine K_iload X 5 dX6_nextFor_7 rfl ?_
    refine K_aload_n X 0 dX6_nextFor_9 rfl rfl ?_
    refine K_get X 0 kFd6 rfl (by decide) sf_m wf_X6_7 rfl (v := rf b (191)) (kv_a (pf_m0 hP)) dX6_nextFor_10 ?_
    refine K_iconst X dX6_nextFor_13 cii_2 ?_
    refine K_iald X _ sf_ms rfl (by omega) (by decide) (wN_at _) dX6_nextFor_14 ?_
    refine K_icmpN_ge (tgt := 123) X dX6_nextFor_15 (by decide) (by omega) (by omega) (fun c15 => ?_) (fun c15 => ?_)
    · refine K_iload X 4 dX6_nextFor_123 rfl ?_
      exact K_iret X hQ dX6_nextFor_125 (⟨by rw [show i = N 2 from by omega], rfl⟩)
    · refine K_aload_n X 0 dX6_nextFor_18 rfl rfl ?_
      refine K_iload X 5 dX6_nextFor_19 rfl ?_
      refine K_iconst X dX6_nextFor_21 cii_1 ?_
      refine K_callVE X (c_X6_part l D b _ _ _ _ hP (by omega)) my_X6_part mv_X6_part wm_X6_30 sf_m rfl ⟨rfl, rfl, Nat.le_of_ble_eq_true rfl, Nat.le_of_ble_eq_true rfl, Nat.le_of_ble_eq_true rfl, Nat.le_of_ble_eq_true rfl⟩ rfl rfl (Nat.le_of_ble_eq_true rfl) dX6_nextFor_22 ?_
      refine K_iload_n X 1 dX6_nextFor_25 rfl rfl ?_
      refine K_icmpN_ne (tgt := 76) X dX6_nextFor_26 (by decide) (by have := qi_l1 hI (show i < N 2 from by omega); omega) (by omega) (fun c26 => ?_) (fun c26 => ?_)
      · refine K_iconst X dX6_nextFor_76 cii_0 ?_
        refine K_istore X (ls' := [(6, _), (0, _), (1, _), (2, _), (3, _), (4, _), (5, _)]) dX6_nextFor_77 (by decide) rfl ?_
        refine K_iload X 0 dX6_nextFor_79 rfl ?_
        refine K_ifN_eq (tgt := 113) X dX6_nextFor_81 (by decide) (by omega) (fun c81 => ?_) (fun c81 => ?_)
        · refine K_iload X 5 dX6_nextFor_113 rfl ?_
          refine K_istore X (ls' := [(4, _), (6, _), (0, _), (1, _), (2, _), (3, _), (5, _)]) dX6_nextFor_115 (by decide) rfl ?_
          refine K_iinc X 6 (ls' := [(5, _), (4, _), (6, _), (0, _), (1, _), (2, _), (3, _)]) dX6_nextFor_117 rfl (inc_1 _) (by decide) rfl ?_
          refine K_goto (tgt := 7) X dX6_nextFor_120 (by decide) ?_
          have hf : qFits N kd fr pr i = false := by unfold qFits; simp [c26]
          rw [show qNx N kd fr pr (i + 1) = qNx N kd fr pr i from if_neg (fun q => by rw [hf] at q; exact absurd q.1 (by decide))] at ih
          exact K_sub [3, 4, 5, 6, 1, 0] rfl (ih (by omega))
        · exact absurd rfl c81
      · refine K_aload_n X 0 dX6_nextFor_29 rfl rfl ?_
        refine K_iload X 5 dX6_nextFor_30 rfl ?_
        refine K_iconst X dX6_nextFor_32 cii_4 ?_
        refine K_callVE X (c_X6_part l D b _ _ _ _ hP (by omega)) my_X6_part mv_X6_part wm_X6_30 sf_m rfl ⟨rfl, rfl, Nat.le_of_ble_eq_true rfl, Nat.le_of_ble_eq_true rfl, Nat.le_of_ble_eq_true rfl, Nat.le_of_ble_eq_true rfl⟩ rfl rfl (Nat.le_of_ble_eq_true rfl) dX6_nextFor_33 ?_
        refine K_callSE X (c_X6_isTrayPlace l D b _ _ (by have := qi_l4 hI (show i < N 2 from by omega); omega)) my_X6_isTrayPlace wt_X6_isTrayPlace wm_X6_98 ⟨rfl, rfl, Nat.le_of_ble_eq_true rfl, Nat.le_of_ble_eq_true rfl, Nat.le_of_ble_eq_true rfl, Nat.le_of_ble_eq_true rfl⟩ rfl rfl (Nat.le_of_ble_eq_true rfl) dX6_nextFor_36 ?_
        refine K_ifB_eq (tgt := 76) X dX6_nextFor_39 (by decide) (fun c39 => ?_) (fun c39 => ?_)
        · refine K_iconst X dX6_nextFor_76 cii_0 ?_
          refine K_istore X (ls' := [(6, _), (0, _), (1, _), (2, _), (3, _), (4, _), (5, _)]) dX6_nextFor_77 (by decide) rfl ?_
          refine K_iload X 0 dX6_nextFor_79 rfl ?_
          refine K_ifN_eq (tgt := 113) X dX6_nextFor_81 (by decide) (by omega) (fun c81 => ?_) (fun c81 => ?_)
          · refine K_iload X 5 dX6_nextFor_113 rfl ?_
            refine K_istore X (ls' := [(4, _), (6, _), (0, _), (1, _), (2, _), (3, _), (5, _)]) dX6_nextFor_115 (by decide) rfl ?_
            refine K_iinc X 6 (ls' := [(5, _), (4, _), (6, _), (0, _), (1, _), (2, _), (3, _)]) dX6_nextFor_117 rfl (inc_1 _) (by decide) rfl ?_
            refine K_goto (tgt := 7) X dX6_nextFor_120 (by decide) ?_
            have hf : qFits N kd fr pr i = false := by unfold qFits; rw [c39]; simp
            rw [show qNx N kd fr pr (i + 1) = qNx N kd fr pr i from if_neg (fun q => by rw [hf] at q; exact absurd q.1 (by decide))] at ih
            exact K_sub [3, 4, 5, 6, 1, 0] rfl (ih (by omega))
          · exact absurd rfl c81
        · refine K_aload_n X 0 dX6_nextFor_42 rfl rfl ?_
          refine K_iload X 5 dX6_nextFor_43 rfl ?_
          refine K_callVE X (c_X6_isSold l D b _ _ _ hP hI (by omega)) my_X6_isSold mv_X6_isSold wm_X6_101 sf_m rfl ⟨rfl, rfl, Nat.le_of_ble_eq_true rfl, Nat.le_of_ble_eq_true rfl, Nat.le_of_ble_eq_true rfl, Nat.le_of_ble_eq_true rfl⟩ rfl rfl (Nat.le_of_ble_eq_true rfl) dX6_nextFor_45 ?_
          refine K_ifB_eq (tgt := 76) X dX6_nextFor_48 (by decide) (fun c48 => ?_) (fun c48 => ?_)
          · refine K_iconst X dX6_nextFor_76 cii_0 ?_
            refine K_istore X (ls' := [(6, _), (0, _), (1, _), (2, _), (3, _), (4, _), (5, _)]) dX6_nextFor_77 (by decide) rfl ?_
            refine K_iload X 0 dX6_nextFor_79 rfl ?_
            refine K_ifN_eq (tgt := 113) X dX6_nextFor_81 (by decide) (by omega) (fun c81 => ?_) (fun c81 => ?_)
            · refine K_iload X 5 dX6_nextFor_113 rfl ?_
              refine K_istore X (ls' := [(4, _), (6, _), (0, _), (1, _), (2, _), (3, _), (5, _)]) dX6_nextFor_115 (by decide) rfl ?_
              refine K_iinc X 6 (ls' := [(5, _), (4, _), (6, _), (0, _), (1, _), (2, _), (3, _)]) dX6_nextFor_117 rfl (inc_1 _) (by decide) rfl ?_
              refine K_goto (tgt := 7) X dX6_nextFor_120 (by decide) ?_
              have hf : qFits N kd fr pr i = false := by unfold qFits; rw [c48]; simp
              rw [show qNx N kd fr pr (i + 1) = qNx N kd fr pr i from if_neg (fun q => by rw [hf] at q; exact absurd q.1 (by decide))] at ih
              exact K_sub [3, 4, 5, 6, 1, 0] rfl (ih (by omega))
            · exact absurd rfl c81
          · refine K_aload_n X 0 dX6_nextFor_51 rfl rfl ?_
            refine K_iload X 5 dX6_nextFor_52 rfl ?_
            refine K_iconst X dX6_nextFor_54 cii_3 ?_
            refine K_callVE X (c_X6_part l D b _ _ _ _ hP (by omega)) my_X6_part mv_X6_part wm_X6_30 sf_m rfl ⟨rfl, rfl, Nat.le_of_ble_eq_true rfl, Nat.le_of_ble_eq_true rfl, Nat.le_of_ble_eq_true rfl, Nat.le_of_ble_eq_true rfl⟩ rfl rfl (Nat.le_of_ble_eq_true rfl) dX6_nextFor_55 ?_
            refine K_iload_n X 2 dX6_nextFor_58 rfl rfl ?_
            refine K_icmpN_lt (tgt := 76) X dX6_nextFor_59 (by decide) (by have := qi_l3 hI (show i < N 2 from by omega); omega) (by omega) (fun c59 => ?_) (fun c59 => ?_)
            · refine K_iconst X dX6_nextFor_76 cii_0 ?_
              refine K_istore X (ls' := [(6, _), (0, _), (1, _), (2, _), (3, _), (4, _), (5, _)]) dX6_nextFor_77 (by decide) rfl ?_
              refine K_iload X 0 dX6_nextFor_79 rfl ?_
              refine K_ifN_eq (tgt := 113) X dX6_nextFor_81 (by decide) (by omega) (fun c81 => ?_) (fun c81 => ?_)
              · refine K_iload X 5 dX6_nextFor_113 rfl ?_
                refine K_istore X (ls' := [(4, _), (6, _), (0, _), (1, _), (2, _), (3, _), (5, _)]) dX6_nextFor_115 (by decide) rfl ?_
                refine K_iinc X 6 (ls' := [(5, _), (4, _), (6, _), (0, _), (1, _), (2, _), (3, _)]) dX6_nextFor_117 rfl (inc_1 _) (by decide) rfl ?_
                refine K_goto (tgt := 7) X dX6_nextFor_120 (by decide) ?_
                have hf : qFits N kd fr pr i = false := by unfold qFits; rw [decide_eq_false (p := fr ≤ qL N i 3) (by omega)]; simp
                rw [show qNx N kd fr pr (i + 1) = qNx N kd fr pr i from if_neg (fun q => by rw [hf] at q; exact absurd q.1 (by decide))] at ih
                exact K_sub [3, 4, 5, 6, 1, 0] rfl (ih (by omega))
              · exact absurd rfl c81
            · refine K_aload_n X 0 dX6_nextFor_62 rfl rfl ?_
              refine K_iload X 5 dX6_nextFor_63 rfl ?_
              refine K_callVE X (c_X6_priceOf l D b _ _ _ hP hI (by omega)) my_X6_priceOf mv_X6_priceOf wm_X6_92 sf_m rfl ⟨rfl, rfl, Nat.le_of_ble_eq_true rfl, Nat.le_of_ble_eq_true rfl, Nat.le_of_ble_eq_true rfl, Nat.le_of_ble_eq_true rfl⟩ rfl rfl (Nat.le_of_ble_eq_true rfl) dX6_nextFor_65 ?_
              refine K_iload_n X 3 dX6_nextFor_68 rfl rfl ?_
              refine K_icmpN_gt (tgt := 76) X dX6_nextFor_69 (by decide) (by have := qPrice_le hI (show i < N 2 from by omega); omega) (by omega) (fun c69 => ?_) (fun c69 => ?_)
              · refine K_iconst X dX6_nextFor_76 cii_0 ?_
                refine K_istore X (ls' := [(6, _), (0, _), (1, _), (2, _), (3, _), (4, _), (5, _)]) dX6_nextFor_77 (by decide) rfl ?_
                refine K_iload X 0 dX6_nextFor_79 rfl ?_
                refine K_ifN_eq (tgt := 113) X dX6_nextFor_81 (by decide) (by omega) (fun c81 => ?_) (fun c81 => ?_)
                · refine K_iload X 5 dX6_nextFor_113 rfl ?_
                  refine K_istore X (ls' := [(4, _), (6, _), (0, _), (1, _), (2, _), (3, _), (5, _)]) dX6_nextFor_115 (by decide) rfl ?_
                  refine K_iinc X 6 (ls' := [(5, _), (4, _), (6, _), (0, _), (1, _), (2, _), (3, _)]) dX6_nextFor_117 rfl (inc_1 _) (by decide) rfl ?_
                  refine K_goto (tgt := 7) X dX6_nextFor_120 (by decide) ?_
                  have hf : qFits N kd fr pr i = false := by unfold qFits; rw [decide_eq_false (p := qPrice N i ≤ pr) (by omega)]; simp
                  rw [show qNx N kd fr pr (i + 1) = qNx N kd fr pr i from if_neg (fun q => by rw [hf] at q; exact absurd q.1 (by decide))] at ih
                  exact K_sub [3, 4, 5, 6, 1, 0] rfl (ih (by omega))
                · exact absurd rfl c81
              · refine K_iconst X dX6_nextFor_72 cii_1 ?_
                refine K_goto (tgt := 77) X dX6_nextFor_73 (by decide) ?_
                refine K_istore X (ls' := [(6, _), (0, _), (1, _), (2, _), (3, _), (4, _), (5, _)]) dX6_nextFor_77 (by decide) rfl ?_
                refine K_iload X 0 dX6_nextFor_79 rfl ?_
                refine K_ifN_eq (tgt := 113) X dX6_nextFor_81 (by decide) (by omega) (fun c81 => ?_) (fun c81 => ?_)
                · exact absurd c81 (by decide)
                · refine K_iload X 5 dX6_nextFor_84 rfl ?_
                  refine K_bipush X dX6_nextFor_86 cib_m6 ?_
                  refine K_icmp_eq (tgt := 108) X dX6_nextFor_88 (by decide) (fun c88 => ?_) (fun c88 => ?_)
                  · refine K_iload X 6 dX6_nextFor_108 rfl ?_
                    refine K_goto (tgt := 115) X dX6_nextFor_110 (by decide) ?_
                    refine K_istore X (ls' := [(4, _), (6, _), (0, _), (1, _), (2, _), (3, _), (5, _)]) dX6_nextFor_115 (by decide) rfl ?_
                    refine K_iinc X 6 (ls' := [(5, _), (4, _), (6, _), (0, _), (1, _), (2, _), (3, _)]) dX6_nextFor_117 rfl (inc_1 _) (by decide) rfl ?_
                    refine K_goto (tgt := 7) X dX6_nextFor_120 (by decide) ?_
                    have hf : qFits N kd fr pr i = true := by unfold qFits; rw [decide_eq_true c26, c39, c48, decide_eq_true (show fr ≤ qL N i 3 from by omega), decide_eq_true (show qPrice N i ≤ pr from by omega)]; rfl
                    have hn : qNx N kd fr pr i = none := (qO_n (fun j hj => by have := qNx_lt hj; omega)).mp c88
                    rw [show qNx N kd fr pr (i + 1) = some i from if_pos ⟨hf, by rw [hn]; rfl⟩] at ih
                    exact K_sub [3, 4, 5, 6, 1, 0] rfl (ih (by omega))
                  · obtain ⟨j, hj⟩ := qO_ex c88
                    have hjl := qNx_lt hj
                    rw [hj]
                    refine K_aload_n X 1 dX6_nextFor_91 rfl rfl ?_
                    refine K_iload X 6 dX6_nextFor_92 rfl ?_
                    refine K_iconst X dX6_nextFor_94 cii_3 ?_
                    refine K_callVE X (c_X6_part l D b _ _ _ _ hP (by omega)) my_X6_part mv_X6_part wm_X6_30 sf_m rfl ⟨rfl, rfl, Nat.le_of_ble_eq_true rfl, Nat.le_of_ble_eq_true rfl, Nat.le_of_ble_eq_true rfl, Nat.le_of_ble_eq_true rfl⟩ rfl rfl (Nat.le_of_ble_eq_true rfl) dX6_nextFor_95 ?_
                    refine K_aload_n X 1 dX6_nextFor_98 rfl rfl ?_
                    refine K_iload X 5 dX6_nextFor_99 rfl ?_
                    refine K_iconst X dX6_nextFor_101 cii_3 ?_
                    refine K_callVE X (c_X6_part l D b _ _ _ _ hP (by omega)) my_X6_part mv_X6_part wm_X6_30 sf_m rfl ⟨rfl, rfl, Nat.le_of_ble_eq_true rfl, Nat.le_of_ble_eq_true rfl, Nat.le_of_ble_eq_true rfl, Nat.le_of_ble_eq_true rfl⟩ rfl rfl (Nat.le_of_ble_eq_true rfl) dX6_nextFor_102 ?_
                    refine K_icmpN_ge (tgt := 113) X dX6_nextFor_105 (by decide) (by have := qi_l3 hI (show i < N 2 from by omega); omega) (by have := qi_l3 hI (show j < N 2 from by omega); omega) (fun c105 => ?_) (fun c105 => ?_)
                    · refine K_iload X 5 dX6_nextFor_113 rfl ?_
                      refine K_istore X (ls' := [(4, _), (6, _), (0, _), (1, _), (2, _), (3, _), (5, _)]) dX6_nextFor_115 (by decide) rfl ?_
                      refine K_iinc X 6 (ls' := [(5, _), (4, _), (6, _), (0, _), (1, _), (2, _), (3, _)]) dX6_nextFor_117 rfl (inc_1 _) (by decide) rfl ?_
                      refine K_goto (tgt := 7) X dX6_nextFor_120 (by decide) ?_
                      have hf : qFits N kd fr pr i = true := by unfold qFits; rw [decide_eq_true c26, c39, c48, decide_eq_true (show fr ≤ qL N i 3 from by omega), decide_eq_true (show qPrice N i ≤ pr from by omega)]; rfl
                      rw [show qNx N kd fr pr (i + 1) = some j from (if_neg (fun q => by have h := q.2; rw [hj] at h; exact absurd (of_decide_eq_true h) (by omega))).trans hj] at ih
                      exact K_sub [3, 4, 5, 6, 1, 0] rfl (ih (by omega))
                    · refine K_iload X 6 dX6_nextFor_108 rfl ?_
                      refine K_goto (tgt := 115) X dX6_nextFor_110 (by decide) ?_
                      refine K_istore X (ls' := [(4, _), (6, _), (0, _), (1, _), (2, _), (3, _), (5, _)]) dX6_nextFor_115 (by decide) rfl ?_
                      refine K_iinc X 6 (ls' := [(5, _), (4, _), (6, _), (0, _), (1, _), (2, _), (3, _)]) dX6_nextFor_117 rfl (inc_1 _) (by decide) rfl ?_
                      refine K_goto (tgt := 7) X dX6_nextFor_120 (by decide) ?_
                      have hf : qFits N kd fr pr i = true := by unfold qFits; rw [decide_eq_true c26, c39, c48, decide_eq_true (show fr ≤ qL N i 3 from by omega), decide_eq_true (show qPrice N i ≤ pr from by omega)]; rfl
                      rw [show qNx N kd fr pr (i + 1) = some i from if_pos ⟨hf, by rw [hj]; exact decide_eq_true (by omega)⟩] at ih
                      exact K_sub [3, 4, 5, 6, 1, 0] rfl (ih (by omega))
  exact K_sub [2, 3, 4, 5, 1, 0] rfl (loop 0 (Nat.zero_le _))

set_option maxHeartbeats 4000000 in
set_option maxRecDepth 100000 in
theorem c_X6_coldest (l : Launch) (D : KD) (b : Nat) (σ : KS) (N : Nat → Nat) (hP : PF σ.2.2) (hI : qIr N) : Ct l D b yX6_coldest cX6_coldest 4 (some .int) (rM 2 45) 0 0 [rf b 190] shF (wN σ N) shF (pE (some (.int (qO (qCold N 6)))) (wN σ N)) := by
  have h2 := qi_2 hI
  refine Ct.of (ls := [(0, rf b 190)]) (by decide) (Nat.le_of_ble_eq_true rfl) rfl ?_
  intro pg e s m args below meth c Q hQ X hnm
  refine K_bipush X dX6_coldest_0 cib_m6 ?_
  refine K_istore_n X (ls' := [(1, _), (0, _)]) dX6_coldest_2 rfl (by decide) rfl ?_
  refine K_iconst X dX6_coldest_3 cii_0 ?_
  refine K_istore_n X (ls' := [(2, _), (1, _), (0, _)]) dX6_coldest_4 rfl (by decide) rfl ?_
  have loop : ∀ i : Nat, i ≤ 6 → K pg l e (rM 2 45) s m args below meth c Q D b 4 0 0 shF (wN σ N) 5 [(0, rf b 190), (1, .int (qO (qCold N i))), (2, .int (nI i))] [] := by
    refine kup (fun i hi ih => ?_)
    refine K_iload_n X 2 dX6_coldest_5 rfl rfl ?_
    refine K_bipush X dX6_coldest_6 cib_6 ?_
    refine K_icmpN_ge (tgt := 69) X dX6_coldest_8 (by decide) (by omega) (by omega) (fun c8 => ?_) (fun c8 => ?_)
    · refine K_iload_n X 1 dX6_coldest_69 rfl rfl ?_
      exact K_iret X hQ dX6_coldest_70 (⟨by rw [show i = 6 from by omega], rfl⟩)
    · refine K_aload_n X 0 dX6_coldest_11 rfl rfl ?_
      refine K_iload_n X 2 dX6_coldest_12 rfl rfl ?_
      refine K_callVE X (c_X6_lotsAt l D b _ _ _ hP hI (by omega)) my_X6_lotsAt mv_X6_lotsAt wm_X6_60 sf_m rfl ⟨rfl, rfl, Nat.le_of_ble_eq_true rfl, Nat.le_of_ble_eq_true rfl, Nat.le_of_ble_eq_true rfl, Nat.le_of_ble_eq_true rfl⟩ rfl rfl (Nat.le_of_ble_eq_true rfl) dX6_coldest_13 ?_
      refine K_iconst X dX6_coldest_16 cii_3 ?_
      refine K_icmpN_ge (tgt := 24) X dX6_coldest_17 (by decide) (by have := qCnt_le N i (N 2); omega) (by omega) (fun c17 => ?_) (fun c17 => ?_)
      · refine K_iconst X dX6_coldest_24 cii_0 ?_
        refine K_istore_n X (ls' := [(3, _), (0, _), (1, _), (2, _)]) dX6_coldest_25 rfl (by decide) rfl ?_
        refine K_iload_n X 0 dX6_coldest_26 rfl rfl ?_
        refine K_ifN_eq (tgt := 61) X dX6_coldest_27 (by decide) (by omega) (fun c27 => ?_) (fun c27 => ?_)
        · refine K_iload_n X 2 dX6_coldest_61 rfl rfl ?_
          refine K_istore_n X (ls' := [(1, _), (3, _), (0, _), (2, _)]) dX6_coldest_62 rfl (by decide) rfl ?_
          refine K_iinc X 3 (ls' := [(2, _), (1, _), (3, _), (0, _)]) dX6_coldest_63 rfl (inc_1 _) (by decide) rfl ?_
          refine K_goto (tgt := 5) X dX6_coldest_66 (by decide) ?_
          rw [show qCold N (i + 1) = qCold N i from if_neg (fun q => by have := q.1; omega)] at ih
          exact K_sub [3, 1, 0] rfl (ih (by omega))
        · exact absurd rfl c27
      · refine K_iconst X dX6_coldest_20 cii_1 ?_
        refine K_goto (tgt := 25) X dX6_coldest_21 (by decide) ?_
        refine K_istore_n X (ls' := [(3, _), (0, _), (1, _), (2, _)]) dX6_coldest_25 rfl (by decide) rfl ?_
        refine K_iload_n X 0 dX6_coldest_26 rfl rfl ?_
        refine K_ifN_eq (tgt := 61) X dX6_coldest_27 (by decide) (by omega) (fun c27 => ?_) (fun c27 => ?_)
        · exact absurd c27 (by decide)
        · refine K_iload_n X 2 dX6_coldest_30 rfl rfl ?_
          refine K_bipush X dX6_coldest_31 cib_m6 ?_
          refine K_icmp_eq (tgt := 57) X dX6_coldest_33 (by decide) (fun c33 => ?_) (fun c33 => ?_)
          · refine K_iload_n X 3 dX6_coldest_57 rfl rfl ?_
            refine K_goto (tgt := 62) X dX6_coldest_58 (by decide) ?_
            refine K_istore_n X (ls' := [(1, _), (3, _), (0, _), (2, _)]) dX6_coldest_62 rfl (by decide) rfl ?_
            refine K_iinc X 3 (ls' := [(2, _), (1, _), (3, _), (0, _)]) dX6_coldest_63 rfl (inc_1 _) (by decide) rfl ?_
            refine K_goto (tgt := 5) X dX6_coldest_66 (by decide) ?_
            have hn : qCold N i = none := (qO_n (fun j hj => by have := qCold_lt hj; omega)).mp c33
            rw [show qCold N (i + 1) = some i from if_pos ⟨by omega, by rw [hn]; rfl⟩] at ih
            exact K_sub [3, 1, 0] rfl (ih (by omega))
          · obtain ⟨j, hj⟩ := qO_ex c33
            have hjl := qCold_lt hj
            rw [hj]
            refine K_aload_n X 1 dX6_coldest_36 rfl rfl ?_
            refine K_get X 0 kFd6 rfl (by decide) sf_m wf_X6_7 rfl (v := rf b (191)) (kv_a (pf_m0 hP)) dX6_coldest_37 ?_
            refine K_bipush X dX6_coldest_40 cib_34 ?_
            refine K_iload_n X 3 dX6_coldest_42 rfl rfl ?_
            refine K_iaddN X dX6_coldest_43 ?_
            refine K_iald X _ sf_ms rfl (by omega) (by decide) (wN_at _) dX6_coldest_44 ?_
            refine K_aload_n X 1 dX6_coldest_45 rfl rfl ?_
            refine K_get X 0 kFd6 rfl (by decide) sf_m wf_X6_7 rfl (v := rf b (191)) (kv_a (pf_m0 hP)) dX6_coldest_46 ?_
            refine K_bipush X dX6_coldest_49 cib_34 ?_
            refine K_iload_n X 2 dX6_coldest_51 rfl rfl ?_
            refine K_iaddN X dX6_coldest_52 ?_
            refine K_iald X _ sf_ms rfl (by omega) (by decide) (wN_at _) dX6_coldest_53 ?_
            refine K_icmpN_le (tgt := 61) X dX6_coldest_54 (by decide) (by have := qi_i hI (show i < 11 from by omega); omega) (by have := qi_i hI (show j < 11 from by omega); omega) (fun c54 => ?_) (fun c54 => ?_)
            · refine K_iload_n X 2 dX6_coldest_61 rfl rfl ?_
              refine K_istore_n X (ls' := [(1, _), (3, _), (0, _), (2, _)]) dX6_coldest_62 rfl (by decide) rfl ?_
              refine K_iinc X 3 (ls' := [(2, _), (1, _), (3, _), (0, _)]) dX6_coldest_63 rfl (inc_1 _) (by decide) rfl ?_
              refine K_goto (tgt := 5) X dX6_coldest_66 (by decide) ?_
              rw [show qCold N (i + 1) = some j from (if_neg (fun q => by have h := q.2; rw [hj] at h; exact absurd (of_decide_eq_true h) (by omega))).trans hj] at ih
              exact K_sub [3, 1, 0] rfl (ih (by omega))
            · refine K_iload_n X 3 dX6_coldest_57 rfl rfl ?_
              refine K_goto (tgt := 62) X dX6_coldest_58 (by decide) ?_
              refine K_istore_n X (ls' := [(1, _), (3, _), (0, _), (2, _)]) dX6_coldest_62 rfl (by decide) rfl ?_
              refine K_iinc X 3 (ls' := [(2, _), (1, _), (3, _), (0, _)]) dX6_coldest_63 rfl (inc_1 _) (by decide) rfl ?_
              refine K_goto (tgt := 5) X dX6_coldest_66 (by decide) ?_
              rw [show qCold N (i + 1) = some i from if_pos ⟨by omega, by rw [hj]; exact decide_eq_true (by omega)⟩] at ih
              exact K_sub [3, 1, 0] rfl (ih (by omega))
  exact K_sub [2, 1, 0] rfl (loop 0 (Nat.zero_le _))

set_option maxHeartbeats 4000000 in
set_option maxRecDepth 100000 in
theorem c_X6_countOf (l : Launch) (D : KD) (b : Nat) (σ : KS) (N : Nat → Nat) (v : Nat) (hP : PF σ.2.2) (hI : qIr N) (hB : ∀ i, i < 11 → N i < 2 ^ 31) (hv : v ≤ 10) : Ct l D b yX6_countOf cX6_countOf 2 (some .long) (rM 2 44) 0 0 [rf b 190, .int (nI v)] shF (wN σ N) shF (pE (some (.long (lN (qCount N v)))) (wN σ N)) := by
  have h2 := qi_2 hI
  refine Ct.of (ls := [(0, rf b 190), (1, .int (nI v))]) (by decide) (Nat.le_of_ble_eq_true rfl) rfl ?_
  intro pg e s m args below meth c Q hQ X hnm
  refine K_iload_n X 1 dX6_countOf_0 rfl rfl ?_
  refine K_iconst X dX6_countOf_1 cii_3 ?_
  refine K_icmpN_ge (tgt := 15) X dX6_countOf_2 (by decide) (by omega) (by omega) (fun c2 => ?_) (fun c2 => ?_)
  · refine K_iload_n X 1 dX6_countOf_15 rfl rfl ?_
    refine K_iconst X dX6_countOf_16 cii_3 ?_
    refine K_icmpN_ne (tgt := 28) X dX6_countOf_17 (by decide) (by omega) (by omega) (fun c17 => ?_) (fun c17 => ?_)
    · refine K_aload_n X 0 dX6_countOf_28 rfl rfl ?_
      refine K_get X 0 kFd6 rfl (by decide) sf_m wf_X6_7 rfl (v := rf b (191)) (kv_a (pf_m0 hP)) dX6_countOf_29 ?_
      refine K_iload_n X 1 dX6_countOf_32 rfl rfl ?_
      refine K_iconst X dX6_countOf_33 cii_1 ?_
      refine K_isubN X dX6_countOf_34 (by omega) ?_
      refine K_iald X _ sf_ms rfl (by omega) (by decide) (wN_at _) dX6_countOf_35 ?_
      refine K_i2lN X dX6_countOf_36 (by have := hB (v - 1) (by omega); omega) ?_
      exact K_lret X hQ dX6_countOf_37 (⟨by rw [show qCount N v = N (v - 1) from (if_neg (by omega)).trans (if_neg (by omega))], rfl⟩)
    · refine K_aload_n X 0 dX6_countOf_20 rfl rfl ?_
      refine K_callVE X (c_X6_allGrams l D b _ _ hP hI) my_X6_allGrams mv_X6_allGrams wm_X6_129 sf_m rfl ⟨rfl, rfl, Nat.le_of_ble_eq_true rfl, Nat.le_of_ble_eq_true rfl, Nat.le_of_ble_eq_true rfl, Nat.le_of_ble_eq_true rfl⟩ rfl rfl (Nat.le_of_ble_eq_true rfl) dX6_countOf_21 ?_
      refine K_i2lN X dX6_countOf_24 (by have := qSum_le hI (Nat.le_refl _); omega) ?_
      refine K_goto (tgt := 37) X dX6_countOf_25 (by decide) ?_
      exact K_lret X hQ dX6_countOf_37 (⟨by rw [show qCount N v = qSum N (N 2) from (if_neg (by omega)).trans (if_pos c17)], rfl⟩)
  · refine K_aload_n X 0 dX6_countOf_5 rfl rfl ?_
    refine K_get X 0 kFd6 rfl (by decide) sf_m wf_X6_7 rfl (v := rf b (191)) (kv_a (pf_m0 hP)) dX6_countOf_6 ?_
    refine K_iload_n X 1 dX6_countOf_9 rfl rfl ?_
    refine K_iald X _ sf_ms rfl (by omega) (by decide) (wN_at _) dX6_countOf_10 ?_
    refine K_i2lN X dX6_countOf_11 (by have := hB v (by omega); omega) ?_
    refine K_goto (tgt := 37) X dX6_countOf_12 (by decide) ?_
    exact K_lret X hQ dX6_countOf_37 (⟨by rw [show qCount N v = N v from if_pos (by omega)], rfl⟩)

set_option maxHeartbeats 4000000 in
set_option maxRecDepth 100000 in
theorem c_X6_ofLot (l : Launch) (D : KD) (b : Nat) (σ : KS) (N : Nat → Nat) (k w : Nat) (hP : PF σ.2.2) (hI : qIr N) (hk : k < N 2) (hw : w ≤ 6) : Ct l D b yX6_ofLot cX6_ofLot 4 (some .int) (rM 2 45) 0 0 [rf b 190, .int (nI k), .int (nI w)] shF (wN σ N) shF (pE (some (.int (qOfLot N k w))) (wN σ N)) := by
  have h2 := qi_2 hI
  refine Ct.of (ls := [(0, rf b 190), (1, .int (nI k)), (2, .int (nI w))]) (by decide) (Nat.le_of_ble_eq_true rfl) rfl ?_
  intro pg e s m args below meth c Q hQ X hnm
  refine K_aload_n X 0 dX6_ofLot_0 rfl rfl ?_
  refine K_iload_n X 1 dX6_ofLot_1 rfl rfl ?_
  refine K_iconst X dX6_ofLot_2 cii_4 ?_
  refine K_callVE X (c_X6_part l D b _ _ _ _ hP (by omega)) my_X6_part mv_X6_part wm_X6_30 sf_m rfl ⟨rfl, rfl, Nat.le_of_ble_eq_true rfl, Nat.le_of_ble_eq_true rfl, Nat.le_of_ble_eq_true rfl, Nat.le_of_ble_eq_true rfl⟩ rfl rfl (Nat.le_of_ble_eq_true rfl) dX6_ofLot_3 ?_
  refine K_istore_n X (ls' := [(3, _), (0, _), (1, _), (2, _)]) dX6_ofLot_6 rfl (by decide) rfl ?_
  refine K_iload_n X 3 dX6_ofLot_7 rfl rfl ?_
  by_cases hw0 : w = 0
  · subst hw0
    refine K_tabIn (off := 40) (tgt := 48) X dX6_ofLot_8 (by decide) (by decide) rfl (by decide) ?_
    refine K_aload_n X 1 dX6_ofLot_48 rfl rfl ?_
    refine K_iload_n X 2 dX6_ofLot_49 rfl rfl ?_
    refine K_iconst X dX6_ofLot_50 cii_1 ?_
    refine K_callVE X (c_X6_part l D b _ _ _ _ hP (by omega)) my_X6_part mv_X6_part wm_X6_30 sf_m rfl ⟨rfl, rfl, Nat.le_of_ble_eq_true rfl, Nat.le_of_ble_eq_true rfl, Nat.le_of_ble_eq_true rfl, Nat.le_of_ble_eq_true rfl⟩ rfl rfl (Nat.le_of_ble_eq_true rfl) dX6_ofLot_51 ?_
    exact K_iret X hQ dX6_ofLot_54 (⟨rfl, rfl⟩)
  by_cases hw1 : w = 1
  · subst hw1
    refine K_tabIn (off := 47) (tgt := 55) X dX6_ofLot_8 (by decide) (by decide) rfl (by decide) ?_
    refine K_aload_n X 1 dX6_ofLot_55 rfl rfl ?_
    refine K_iload_n X 2 dX6_ofLot_56 rfl rfl ?_
    refine K_iconst X dX6_ofLot_57 cii_2 ?_
    refine K_callVE X (c_X6_part l D b _ _ _ _ hP (by omega)) my_X6_part mv_X6_part wm_X6_30 sf_m rfl ⟨rfl, rfl, Nat.le_of_ble_eq_true rfl, Nat.le_of_ble_eq_true rfl, Nat.le_of_ble_eq_true rfl, Nat.le_of_ble_eq_true rfl⟩ rfl rfl (Nat.le_of_ble_eq_true rfl) dX6_ofLot_58 ?_
    exact K_iret X hQ dX6_ofLot_61 (⟨rfl, rfl⟩)
  by_cases hw2 : w = 2
  · subst hw2
    refine K_tabIn (off := 54) (tgt := 62) X dX6_ofLot_8 (by decide) (by decide) rfl (by decide) ?_
    refine K_aload_n X 1 dX6_ofLot_62 rfl rfl ?_
    refine K_iload_n X 2 dX6_ofLot_63 rfl rfl ?_
    refine K_iconst X dX6_ofLot_64 cii_3 ?_
    refine K_callVE X (c_X6_part l D b _ _ _ _ hP (by omega)) my_X6_part mv_X6_part wm_X6_30 sf_m rfl ⟨rfl, rfl, Nat.le_of_ble_eq_true rfl, Nat.le_of_ble_eq_true rfl, Nat.le_of_ble_eq_true rfl, Nat.le_of_ble_eq_true rfl⟩ rfl rfl (Nat.le_of_ble_eq_true rfl) dX6_ofLot_65 ?_
    exact K_iret X hQ dX6_ofLot_68 (⟨rfl, rfl⟩)
  by_cases hw3 : w = 3
  · subst hw3
    refine K_tabIn (off := 61) (tgt := 69) X dX6_ofLot_8 (by decide) (by decide) rfl (by decide) ?_
    refine K_iload_n X 0 dX6_ofLot_69 rfl rfl ?_
    refine K_callSE X (c_X6_isTrayPlace l D b _ _ (by have := qi_l4 hI hk; omega)) my_X6_isTrayPlace wt_X6_isTrayPlace wm_X6_98 ⟨rfl, rfl, Nat.le_of_ble_eq_true rfl, Nat.le_of_ble_eq_true rfl, Nat.le_of_ble_eq_true rfl, Nat.le_of_ble_eq_true rfl⟩ rfl rfl (Nat.le_of_ble_eq_true rfl) dX6_ofLot_70 ?_
    refine K_ifB_eq (tgt := 81) X dX6_ofLot_73 (by decide) (fun c73 => ?_) (fun c73 => ?_)
    · refine K_iload_n X 0 dX6_ofLot_81 rfl rfl ?_
      exact K_iret X hQ dX6_ofLot_82 (⟨by rw [qOfLot_3, if_neg (by rw [c73]; decide)], rfl⟩)
    · refine K_bipush X dX6_ofLot_76 cib_m6 ?_
      refine K_goto (tgt := 82) X dX6_ofLot_78 (by decide) ?_
      exact K_iret X hQ dX6_ofLot_82 (⟨by rw [qOfLot_3, if_pos c73], rfl⟩)
  by_cases hw4 : w = 4
  · subst hw4
    refine K_tabIn (off := 75) (tgt := 83) X dX6_ofLot_8 (by decide) (by decide) rfl (by decide) ?_
    refine K_iload_n X 0 dX6_ofLot_83 rfl rfl ?_
    refine K_callSE X (c_X6_isTrayPlace l D b _ _ (by have := qi_l4 hI hk; omega)) my_X6_isTrayPlace wt_X6_isTrayPlace wm_X6_98 ⟨rfl, rfl, Nat.le_of_ble_eq_true rfl, Nat.le_of_ble_eq_true rfl, Nat.le_of_ble_eq_true rfl, Nat.le_of_ble_eq_true rfl⟩ rfl rfl (Nat.le_of_ble_eq_true rfl) dX6_ofLot_84 ?_
    refine K_ifB_eq (tgt := 97) X dX6_ofLot_87 (by decide) (fun c87 => ?_) (fun c87 => ?_)
    · refine K_bipush X dX6_ofLot_97 cib_m6 ?_
      exact K_iret X hQ dX6_ofLot_99 (⟨by rw [qOfLot_4, if_neg (by rw [c87]; decide)], rfl⟩)
    · refine K_iload_n X 0 dX6_ofLot_90 rfl rfl ?_
      refine K_bipush X dX6_ofLot_91 cib_6 ?_
      refine K_isubN X dX6_ofLot_93 (by have := qTray_t c87; omega) ?_
      refine K_goto (tgt := 99) X dX6_ofLot_94 (by decide) ?_
      exact K_iret X hQ dX6_ofLot_99 (⟨by rw [qOfLot_4, if_pos c87], rfl⟩)
  by_cases hw5 : w = 5
  · subst hw5
    refine K_tabIn (off := 92) (tgt := 100) X dX6_ofLot_8 (by decide) (by decide) rfl (by decide) ?_
    refine K_aload_n X 1 dX6_ofLot_100 rfl rfl ?_
    refine K_iload_n X 2 dX6_ofLot_101 rfl rfl ?_
    refine K_callVE X (c_X6_priceOf l D b _ _ _ hP hI (by omega)) my_X6_priceOf mv_X6_priceOf wm_X6_92 sf_m rfl ⟨rfl, rfl, Nat.le_of_ble_eq_true rfl, Nat.le_of_ble_eq_true rfl, Nat.le_of_ble_eq_true rfl, Nat.le_of_ble_eq_true rfl⟩ rfl rfl (Nat.le_of_ble_eq_true rfl) dX6_ofLot_102 ?_
    exact K_iret X hQ dX6_ofLot_105 (⟨rfl, rfl⟩)
  refine K_tabOut (tgt := 106) X dX6_ofLot_8 (Or.inr (by rw [nI_toInt (by omega)]; omega)) (by decide) ?_
  have hw6 : w = 6 := by omega
  subst hw6
  refine K_aload_n X 1 dX6_ofLot_106 rfl rfl ?_
  refine K_iload_n X 2 dX6_ofLot_107 rfl rfl ?_
  refine K_iconst X dX6_ofLot_108 cii_2 ?_
  refine K_callVE X (c_X6_part l D b _ _ _ _ hP (by omega)) my_X6_part mv_X6_part wm_X6_30 sf_m rfl ⟨rfl, rfl, Nat.le_of_ble_eq_true rfl, Nat.le_of_ble_eq_true rfl, Nat.le_of_ble_eq_true rfl, Nat.le_of_ble_eq_true rfl⟩ rfl rfl (Nat.le_of_ble_eq_true rfl) dX6_ofLot_109 ?_
  refine K_aload_n X 1 dX6_ofLot_112 rfl rfl ?_
  refine K_iload_n X 2 dX6_ofLot_113 rfl rfl ?_
  refine K_callVE X (c_X6_priceOf l D b _ _ _ hP hI (by omega)) my_X6_priceOf mv_X6_priceOf wm_X6_92 sf_m rfl ⟨rfl, rfl, Nat.le_of_ble_eq_true rfl, Nat.le_of_ble_eq_true rfl, Nat.le_of_ble_eq_true rfl, Nat.le_of_ble_eq_true rfl⟩ rfl rfl (Nat.le_of_ble_eq_true rfl) dX6_ofLot_114 ?_
  refine K_callSE X (c_X6_worthOf l D b _ _ _ (qW_b (qi_l2 hI hk) (qPrice_le hI hk))) my_X6_worthOf wt_X6_worthOf wm_X6_70 ⟨rfl, rfl, Nat.le_of_ble_eq_true rfl, Nat.le_of_ble_eq_true rfl, Nat.le_of_ble_eq_true rfl, Nat.le_of_ble_eq_true rfl⟩ rfl rfl (Nat.le_of_ble_eq_true rfl) dX6_ofLot_117 ?_
  exact K_iret X hQ dX6_ofLot_120 (⟨rfl, rfl⟩)

set_option maxHeartbeats 4000000 in
set_option maxRecDepth 100000 in
theorem c_X6_ofBox (l : Launch) (D : KD) (b : Nat) (σ : KS) (N : Nat → Nat) (bx w : Nat) (hP : PF σ.2.2) (hI : qIr N) (h1 : bx < 6) (hw : w ≤ 3) : Ct l D b yX6_ofBox cX6_ofBox 3 (some .int) (rM 3 66) 0 0 [rf b 190, .int (nI bx), .int (nI w)] shF (wN σ N) shF (pE (some (.int (qOfBox N bx w))) (wN σ N)) := by
  have h2 := qi_2 hI
  refine Ct.of (ls := [(0, rf b 190), (1, .int (nI bx)), (2, .int (nI w))]) (by decide) (Nat.le_of_ble_eq_true rfl) rfl ?_
  intro pg e s m args below meth c Q hQ X hnm
  refine K_iload_n X 2 dX6_ofBox_0 rfl rfl ?_
  refine K_ifN_ne (tgt := 16) X dX6_ofBox_1 (by decide) (by omega) (fun c1 => ?_) (fun c1 => ?_)
  · refine K_iload_n X 2 dX6_ofBox_16 rfl rfl ?_
    refine K_iconst X dX6_ofBox_17 cii_1 ?_
    refine K_icmpN_ne (tgt := 29) X dX6_ofBox_18 (by decide) (by omega) (by omega) (fun c18 => ?_) (fun c18 => ?_)
    · refine K_iload_n X 2 dX6_ofBox_29 rfl rfl ?_
      refine K_iconst X dX6_ofBox_30 cii_2 ?_
      refine K_icmpN_ne (tgt := 42) X dX6_ofBox_31 (by decide) (by omega) (by omega) (fun c31 => ?_) (fun c31 => ?_)
      · refine K_aload_n X 0 dX6_ofBox_42 rfl rfl ?_
        refine K_iload_n X 1 dX6_ofBox_43 rfl rfl ?_
        refine K_callVE X (c_X6_numberAt l D b _ _ _ hP hI (by omega)) my_X6_numberAt mv_X6_numberAt wm_X6_144 sf_m rfl ⟨rfl, rfl, Nat.le_of_ble_eq_true rfl, Nat.le_of_ble_eq_true rfl, Nat.le_of_ble_eq_true rfl, Nat.le_of_ble_eq_true rfl⟩ rfl rfl (Nat.le_of_ble_eq_true rfl) dX6_ofBox_44 ?_
        exact K_iret X hQ dX6_ofBox_47 (⟨by rw [show qOfBox N bx w = _ from (if_neg (by omega)).trans ((if_neg (by omega)).trans (if_neg (by omega)))], rfl⟩)
      · refine K_aload_n X 0 dX6_ofBox_34 rfl rfl ?_
        refine K_iload_n X 1 dX6_ofBox_35 rfl rfl ?_
        refine K_callVE X (c_X6_gramsAt l D b _ _ _ hP hI (by omega)) my_X6_gramsAt mv_X6_gramsAt wm_X6_141 sf_m rfl ⟨rfl, rfl, Nat.le_of_ble_eq_true rfl, Nat.le_of_ble_eq_true rfl, Nat.le_of_ble_eq_true rfl, Nat.le_of_ble_eq_true rfl⟩ rfl rfl (Nat.le_of_ble_eq_true rfl) dX6_ofBox_36 ?_
        refine K_goto (tgt := 47) X dX6_ofBox_39 (by decide) ?_
        exact K_iret X hQ dX6_ofBox_47 (⟨by rw [show qOfBox N bx w = _ from (if_neg (by omega)).trans ((if_neg (by omega)).trans (if_pos (by omega)))], rfl⟩)
    · refine K_aload_n X 0 dX6_ofBox_21 rfl rfl ?_
      refine K_iload_n X 1 dX6_ofBox_22 rfl rfl ?_
      refine K_callVE X (c_X6_lotsAt l D b _ _ _ hP hI (by omega)) my_X6_lotsAt mv_X6_lotsAt wm_X6_60 sf_m rfl ⟨rfl, rfl, Nat.le_of_ble_eq_true rfl, Nat.le_of_ble_eq_true rfl, Nat.le_of_ble_eq_true rfl, Nat.le_of_ble_eq_true rfl⟩ rfl rfl (Nat.le_of_ble_eq_true rfl) dX6_ofBox_23 ?_
      refine K_goto (tgt := 47) X dX6_ofBox_26 (by decide) ?_
      exact K_iret X hQ dX6_ofBox_47 (⟨by rw [show qOfBox N bx w = _ from (if_neg (by omega)).trans (if_pos (by omega))], rfl⟩)
  · refine K_aload_n X 0 dX6_ofBox_4 rfl rfl ?_
    refine K_get X 0 kFd6 rfl (by decide) sf_m wf_X6_7 rfl (v := rf b (191)) (kv_a (pf_m0 hP)) dX6_ofBox_5 ?_
    refine K_bipush X dX6_ofBox_8 cib_34 ?_
    refine K_iload_n X 1 dX6_ofBox_10 rfl rfl ?_
    refine K_iaddN X dX6_ofBox_11 ?_
    refine K_iald X _ sf_ms rfl (by omega) (by decide) (wN_at _) dX6_ofBox_12 ?_
    refine K_goto (tgt := 47) X dX6_ofBox_13 (by decide) ?_
    exact K_iret X hQ dX6_ofBox_47 (⟨by rw [show qOfBox N bx w = _ from if_pos (by omega)], rfl⟩)

set_option maxHeartbeats 4000000 in
set_option maxRecDepth 100000 in
theorem c_X6_ofTray (l : Launch) (D : KD) (b : Nat) (σ : KS) (N : Nat → Nat) (t w : Nat) (hP : PF σ.2.2) (hI : qIr N) (h1 : t < 5) (hw : w ≤ 3) : Ct l D b yX6_ofTray cX6_ofTray 3 (some .int) (rM 3 66) 0 0 [rf b 190, .int (nI t), .int (nI w)] shF (wN σ N) shF (pE (some (.int (qOfTray N t w))) (wN σ N)) := by
  have h2 := qi_2 hI
  refine Ct.of (ls := [(0, rf b 190), (1, .int (nI t)), (2, .int (nI w))]) (by decide) (Nat.le_of_ble_eq_true rfl) rfl ?_
  intro pg e s m args below meth c Q hQ X hnm
  refine K_iload_n X 2 dX6_ofTray_0 rfl rfl ?_
  refine K_ifN_ne (tgt := 16) X dX6_ofTray_1 (by decide) (by omega) (fun c1 => ?_) (fun c1 => ?_)
  · refine K_aload_n X 0 dX6_ofTray_16 rfl rfl ?_
    refine K_bipush X dX6_ofTray_17 cib_6 ?_
    refine K_iload_n X 1 dX6_ofTray_19 rfl rfl ?_
    refine K_iaddN X dX6_ofTray_20 ?_
    refine K_callVE X (c_X6_numberAt l D b _ _ _ hP hI (by omega)) my_X6_numberAt mv_X6_numberAt wm_X6_144 sf_m rfl ⟨rfl, rfl, Nat.le_of_ble_eq_true rfl, Nat.le_of_ble_eq_true rfl, Nat.le_of_ble_eq_true rfl, Nat.le_of_ble_eq_true rfl⟩ rfl rfl (Nat.le_of_ble_eq_true rfl) dX6_ofTray_21 ?_
    exact K_iret X hQ dX6_ofTray_24 (⟨by rw [show qOfTray N t w = _ from if_neg (by omega)], rfl⟩)
  · refine K_aload_n X 0 dX6_ofTray_4 rfl rfl ?_
    refine K_get X 0 kFd6 rfl (by decide) sf_m wf_X6_7 rfl (v := rf b (191)) (kv_a (pf_m0 hP)) dX6_ofTray_5 ?_
    refine K_bipush X dX6_ofTray_8 cib_40 ?_
    refine K_iload_n X 1 dX6_ofTray_10 rfl rfl ?_
    refine K_iaddN X dX6_ofTray_11 ?_
    refine K_iald X _ sf_ms rfl (by omega) (by decide) (wN_at _) dX6_ofTray_12 ?_
    refine K_goto (tgt := 24) X dX6_ofTray_13 (by decide) ?_
    exact K_iret X hQ dX6_ofTray_24 (⟨by rw [show qOfTray N t w = _ from if_pos (by omega)], rfl⟩)

set_option maxHeartbeats 4000000 in
set_option maxRecDepth 100000 in
theorem c_X6_ofKind (l : Launch) (D : KD) (b : Nat) (σ : KS) (N : Nat → Nat) (kd w : Nat) (hP : PF σ.2.2) (hI : qIr N) (h1 : kd < 6) (hw : w ≤ 3) : Ct l D b yX6_ofKind cX6_ofKind 3 (some .int) (rM 2 45) 0 0 [rf b 190, .int (nI kd), .int (nI w)] shF (wN σ N) shF (pE (some (.int (qOfKind N kd w))) (wN σ N)) := by
  have h2 := qi_2 hI
  refine Ct.of (ls := [(0, rf b 190), (1, .int (nI kd)), (2, .int (nI w))]) (by decide) (Nat.le_of_ble_eq_true rfl) rfl ?_
  intro pg e s m args below meth c Q hQ X hnm
  refine K_iload_n X 2 dX6_ofKind_0 rfl rfl ?_
  refine K_ifN_ne (tgt := 16) X dX6_ofKind_1 (by decide) (by omega) (fun c1 => ?_) (fun c1 => ?_)
  · refine K_iload_n X 2 dX6_ofKind_16 rfl rfl ?_
    refine K_iconst X dX6_ofKind_17 cii_1 ?_
    refine K_icmpN_ne (tgt := 33) X dX6_ofKind_18 (by decide) (by omega) (by omega) (fun c18 => ?_) (fun c18 => ?_)
    · refine K_iload_n X 2 dX6_ofKind_33 rfl rfl ?_
      refine K_iconst X dX6_ofKind_34 cii_2 ?_
      refine K_icmpN_ne (tgt := 46) X dX6_ofKind_35 (by decide) (by omega) (by omega) (fun c35 => ?_) (fun c35 => ?_)
      · refine K_aload_n X 0 dX6_ofKind_46 rfl rfl ?_
        refine K_iload_n X 1 dX6_ofKind_47 rfl rfl ?_
        refine K_callVE X (c_X6_freshest l D b _ _ _ hP hI (by omega)) my_X6_freshest mv_X6_freshest wm_X6_156 sf_m rfl ⟨rfl, rfl, Nat.le_of_ble_eq_true rfl, Nat.le_of_ble_eq_true rfl, Nat.le_of_ble_eq_true rfl, Nat.le_of_ble_eq_true rfl⟩ rfl rfl (Nat.le_of_ble_eq_true rfl) dX6_ofKind_48 ?_
        exact K_iret X hQ dX6_ofKind_51 (⟨by rw [show qOfKind N kd w = _ from (if_neg (by omega)).trans ((if_neg (by omega)).trans (if_neg (by omega)))], rfl⟩)
      · refine K_aload_n X 0 dX6_ofKind_38 rfl rfl ?_
        refine K_iload_n X 1 dX6_ofKind_39 rfl rfl ?_
        refine K_callVE X (c_X6_gramsOfKind l D b _ _ _ hP hI (by omega)) my_X6_gramsOfKind mv_X6_gramsOfKind wm_X6_153 sf_m rfl ⟨rfl, rfl, Nat.le_of_ble_eq_true rfl, Nat.le_of_ble_eq_true rfl, Nat.le_of_ble_eq_true rfl, Nat.le_of_ble_eq_true rfl⟩ rfl rfl (Nat.le_of_ble_eq_true rfl) dX6_ofKind_40 ?_
        refine K_goto (tgt := 51) X dX6_ofKind_43 (by decide) ?_
        exact K_iret X hQ dX6_ofKind_51 (⟨by rw [show qOfKind N kd w = _ from (if_neg (by omega)).trans ((if_neg (by omega)).trans (if_pos (by omega)))], rfl⟩)
    · refine K_aload_n X 0 dX6_ofKind_21 rfl rfl ?_
      refine K_get X 0 kFd6 rfl (by decide) sf_m wf_X6_7 rfl (v := rf b (191)) (kv_a (pf_m0 hP)) dX6_ofKind_22 ?_
      refine K_bipush X dX6_ofKind_25 cib_17 ?_
      refine K_iload_n X 1 dX6_ofKind_27 rfl rfl ?_
      refine K_iaddN X dX6_ofKind_28 ?_
      refine K_iald X _ sf_ms rfl (by omega) (by decide) (wN_at _) dX6_ofKind_29 ?_
      refine K_goto (tgt := 51) X dX6_ofKind_30 (by decide) ?_
      exact K_iret X hQ dX6_ofKind_51 (⟨by rw [show qOfKind N kd w = _ from (if_neg (by omega)).trans (if_pos (by omega))], rfl⟩)
  · refine K_aload_n X 0 dX6_ofKind_4 rfl rfl ?_
    refine K_get X 0 kFd6 rfl (by decide) sf_m wf_X6_7 rfl (v := rf b (191)) (kv_a (pf_m0 hP)) dX6_ofKind_5 ?_
    refine K_bipush X dX6_ofKind_8 cib_11 ?_
    refine K_iload_n X 1 dX6_ofKind_10 rfl rfl ?_
    refine K_iaddN X dX6_ofKind_11 ?_
    refine K_iald X _ sf_ms rfl (by omega) (by decide) (wN_at _) dX6_ofKind_12 ?_
    refine K_goto (tgt := 51) X dX6_ofKind_13 (by decide) ?_
    exact K_iret X hQ dX6_ofKind_51 (⟨by rw [show qOfKind N kd w = _ from if_pos (by omega)], rfl⟩)

set_option maxHeartbeats 4000000 in
set_option maxRecDepth 100000 in
theorem c_X6_count (l : Launch) (D : KD) (b : Nat) (σ : KS) (N : Nat → Nat) (x : Int32) (hP : PF σ.2.2) (hI : qIr N) (hB : ∀ i, i < 11 → N i < 2 ^ 31) : Ct l D b yX6_count cX6_count 2 (some .long) (rM 3 65) 0 0 [rf b 190, .int x] shF (wN σ N) shF (pE (some (.long (aCount N x))) (wN σ N)) := by
  have h2 := qi_2 hI
  refine Ct.of (ls := [(0, rf b 190), (1, .int x)]) (by decide) (Nat.le_of_ble_eq_true rfl) rfl ?_
  intro pg e s m args below meth c Q hQ X hnm
  refine K_iload_n X 1 dX6_count_0 rfl rfl ?_
  refine K_iconst X dX6_count_1 cii_0 ?_
  refine K_bipush X dX6_count_2 cib_10 ?_
  refine K_callSE X (c_X6_withinQ l D b _ _ _ _) my_X6_within wt_X6_within wm_X6_38 ⟨rfl, rfl, Nat.le_of_ble_eq_true rfl, Nat.le_of_ble_eq_true rfl, Nat.le_of_ble_eq_true rfl, Nat.le_of_ble_eq_true rfl⟩ rfl rfl (Nat.le_of_ble_eq_true rfl) dX6_count_4 ?_
  refine K_ifB_eq (tgt := 18) X dX6_count_7 (by decide) (fun c7 => ?_) (fun c7 => ?_)
  · refine K_ldc2 X wq_X6_136 dX6_count_18 ?_
    exact K_lret X hQ dX6_count_21 (⟨by unfold aCount; rw [qI_f c7], rfl⟩)
  · obtain ⟨v, hlv, hhv, rfl⟩ := qIn_ex (lo := 0) (hi := 10) (by decide) (by decide) c7
    refine K_aload_n X 0 dX6_count_10 rfl rfl ?_
    refine K_iload_n X 1 dX6_count_11 rfl rfl ?_
    refine K_callVE X (c_X6_countOf l D b _ _ _ hP hI hB (by omega)) my_X6_countOf mv_X6_countOf wm_X6_132 sf_m rfl ⟨rfl, rfl, Nat.le_of_ble_eq_true rfl, Nat.le_of_ble_eq_true rfl, Nat.le_of_ble_eq_true rfl, Nat.le_of_ble_eq_true rfl⟩ rfl rfl (Nat.le_of_ble_eq_true rfl) dX6_count_12 ?_
    refine K_goto (tgt := 21) X dX6_count_15 (by decide) ?_
    exact K_lret X hQ dX6_count_21 (⟨by unfold aCount; rw [if_pos c7, nI_clamp (by omega)], rfl⟩)

set_option maxHeartbeats 4000000 in
set_option maxRecDepth 100000 in
theorem c_X6_lot (l : Launch) (D : KD) (b : Nat) (σ : KS) (N : Nat → Nat) (x y : Int32) (hP : PF σ.2.2) (hI : qIr N) : Ct l D b yX6_lot cX6_lot 4 (some .int) (rM 3 68) 0 0 [rf b 190, .int x, .int y] shF (wN σ N) shF (pE (some (.int (aLot N x y))) (wN σ N)) := by
  have h2 := qi_2 hI
  refine Ct.of (ls := [(0, rf b 190), (1, .int x), (2, .int y)]) (by decide) (Nat.le_of_ble_eq_true rfl) rfl ?_
  intro pg e s m args below meth c Q hQ X hnm
  refine K_aload_n X 0 dX6_lot_0 rfl rfl ?_
  refine K_iload_n X 1 dX6_lot_1 rfl rfl ?_
  refine K_callVE X (c_X6_find l D b _ _ _ hP (by omega)) my_X6_find mv_X6_find wm_X6_89 sf_m rfl ⟨rfl, rfl, Nat.le_of_ble_eq_true rfl, Nat.le_of_ble_eq_true rfl, Nat.le_of_ble_eq_true rfl, Nat.le_of_ble_eq_true rfl⟩ rfl rfl (Nat.le_of_ble_eq_true rfl) dX6_lot_2 ?_
  refine K_istore_n X (ls' := [(3, _), (0, _), (1, _), (2, _)]) dX6_lot_5 rfl (by decide) rfl ?_
  refine K_iload_n X 0 dX6_lot_6 rfl rfl ?_
  refine K_bipush X dX6_lot_7 cib_m6 ?_
  refine K_icmp_ne (tgt := 14) X dX6_lot_9 (by decide) (fun c9 => ?_) (fun c9 => ?_)
  · obtain ⟨j, hj⟩ := qO_ex c9
    have hjl := qF_lt hj
    rw [hj]
    refine K_iload_n X 3 dX6_lot_14 rfl rfl ?_
    refine K_iconst X dX6_lot_15 cii_0 ?_
    refine K_bipush X dX6_lot_16 cib_6 ?_
    refine K_callSE X (c_X6_withinQ l D b _ _ _ _) my_X6_within wt_X6_within wm_X6_38 ⟨rfl, rfl, Nat.le_of_ble_eq_true rfl, Nat.le_of_ble_eq_true rfl, Nat.le_of_ble_eq_true rfl, Nat.le_of_ble_eq_true rfl⟩ rfl rfl (Nat.le_of_ble_eq_true rfl) dX6_lot_18 ?_
    refine K_ifB_eq (tgt := 33) X dX6_lot_21 (by decide) (fun c21 => ?_) (fun c21 => ?_)
    · refine K_bipush X dX6_lot_33 cib_m2 ?_
      exact K_iret X hQ dX6_lot_35 (⟨by unfold aLot; rw [aOf_s hj, qI_f c21], rfl⟩)
    · obtain ⟨v, hlv, hhv, rfl⟩ := qIn_ex (lo := 0) (hi := 6) (by decide) (by decide) c21
      refine K_aload_n X 1 dX6_lot_24 rfl rfl ?_
      refine K_iload_n X 0 dX6_lot_25 rfl rfl ?_
      refine K_iload_n X 3 dX6_lot_26 rfl rfl ?_
      refine K_callVE X (c_X6_ofLot l D b _ _ _ _ hP hI (by omega) (by omega)) my_X6_ofLot mv_X6_ofLot wm_X6_138 sf_m rfl ⟨rfl, rfl, Nat.le_of_ble_eq_true rfl, Nat.le_of_ble_eq_true rfl, Nat.le_of_ble_eq_true rfl, Nat.le_of_ble_eq_true rfl⟩ rfl rfl (Nat.le_of_ble_eq_true rfl) dX6_lot_27 ?_
      refine K_goto (tgt := 35) X dX6_lot_30 (by decide) ?_
      exact K_iret X hQ dX6_lot_35 (⟨by unfold aLot; rw [aOf_s hj, if_pos c21, nI_clamp (by omega)], rfl⟩)
  · refine K_iconst X dX6_lot_12 cii_m1 ?_
    exact K_iret X hQ dX6_lot_13 (⟨by unfold aLot; rw [aOf_n (qF_no h2 c9)], rfl⟩)

set_option maxHeartbeats 4000000 in
set_option maxRecDepth 100000 in
theorem c_X6_freshAfter (l : Launch) (D : KD) (b : Nat) (σ : KS) (N : Nat → Nat) (x y : Int32) (hP : PF σ.2.2) (hI : qIr N) : Ct l D b yX6_freshAfter cX6_freshAfter 4 (some .int) (rM 3 69) 0 0 [rf b 190, .int x, .int y] shF (wN σ N) shF (pE (some (.int (aFresh N x y))) (wN σ N)) := by
  have h2 := qi_2 hI
  refine Ct.of (ls := [(0, rf b 190), (1, .int x), (2, .int y)]) (by decide) (Nat.le_of_ble_eq_true rfl) rfl ?_
  intro pg e s m args below meth c Q hQ X hnm
  refine K_aload_n X 0 dX6_freshAfter_0 rfl rfl ?_
  refine K_iload_n X 1 dX6_freshAfter_1 rfl rfl ?_
  refine K_callVE X (c_X6_find l D b _ _ _ hP (by omega)) my_X6_find mv_X6_find wm_X6_89 sf_m rfl ⟨rfl, rfl, Nat.le_of_ble_eq_true rfl, Nat.le_of_ble_eq_true rfl, Nat.le_of_ble_eq_true rfl, Nat.le_of_ble_eq_true rfl⟩ rfl rfl (Nat.le_of_ble_eq_true rfl) dX6_freshAfter_2 ?_
  refine K_istore_n X (ls' := [(3, _), (0, _), (1, _), (2, _)]) dX6_freshAfter_5 rfl (by decide) rfl ?_
  refine K_iload_n X 0 dX6_freshAfter_6 rfl rfl ?_
  refine K_bipush X dX6_freshAfter_7 cib_m6 ?_
  refine K_icmp_ne (tgt := 14) X dX6_freshAfter_9 (by decide) (fun c9 => ?_) (fun c9 => ?_)
  · obtain ⟨j, hj⟩ := qO_ex c9
    have hjl := qF_lt hj
    rw [hj]
    refine K_iload_n X 3 dX6_freshAfter_14 rfl rfl ?_
    refine K_iconst X dX6_freshAfter_15 cii_0 ?_
    refine K_bipush X dX6_freshAfter_16 cib_100 ?_
    refine K_callSE X (c_X6_withinQ l D b _ _ _ _) my_X6_within wt_X6_within wm_X6_38 ⟨rfl, rfl, Nat.le_of_ble_eq_true rfl, Nat.le_of_ble_eq_true rfl, Nat.le_of_ble_eq_true rfl, Nat.le_of_ble_eq_true rfl⟩ rfl rfl (Nat.le_of_ble_eq_true rfl) dX6_freshAfter_18 ?_
    refine K_ifB_eq (tgt := 33) X dX6_freshAfter_21 (by decide) (fun c21 => ?_) (fun c21 => ?_)
    · refine K_bipush X dX6_freshAfter_33 cib_m2 ?_
      exact K_iret X hQ dX6_freshAfter_35 (⟨by unfold aFresh; rw [aOf_s hj, qI_f c21], rfl⟩)
    · obtain ⟨v, hlv, hhv, rfl⟩ := qIn_ex (lo := 0) (hi := 100) (by decide) (by decide) c21
      refine K_aload_n X 1 dX6_freshAfter_24 rfl rfl ?_
      refine K_iload_n X 0 dX6_freshAfter_25 rfl rfl ?_
      refine K_iload_n X 3 dX6_freshAfter_26 rfl rfl ?_
      refine K_callVE X (c_X6_freshIn l D b _ _ _ _ hP hI (by omega) (by omega)) my_X6_freshIn mv_X6_freshIn wm_X6_162 sf_m rfl ⟨rfl, rfl, Nat.le_of_ble_eq_true rfl, Nat.le_of_ble_eq_true rfl, Nat.le_of_ble_eq_true rfl, Nat.le_of_ble_eq_true rfl⟩ rfl rfl (Nat.le_of_ble_eq_true rfl) dX6_freshAfter_27 ?_
      refine K_goto (tgt := 35) X dX6_freshAfter_30 (by decide) ?_
      exact K_iret X hQ dX6_freshAfter_35 (⟨by unfold aFresh; rw [aOf_s hj, if_pos c21, nI_clamp (by omega)], rfl⟩)
  · refine K_iconst X dX6_freshAfter_12 cii_m1 ?_
    exact K_iret X hQ dX6_freshAfter_13 (⟨by unfold aFresh; rw [aOf_n (qF_no h2 c9)], rfl⟩)

set_option maxHeartbeats 4000000 in
set_option maxRecDepth 100000 in
theorem c_X6_hoursLeft (l : Launch) (D : KD) (b : Nat) (σ : KS) (N : Nat → Nat) (x : Int32) (hP : PF σ.2.2) (hI : qIr N) : Ct l D b yX6_hoursLeft cX6_hoursLeft 3 (some .int) (rM 4 92) 0 0 [rf b 190, .int x] shF (wN σ N) shF (pE (some (.int (aLeft N x))) (wN σ N)) := by
  have h2 := qi_2 hI
  refine Ct.of (ls := [(0, rf b 190), (1, .int x)]) (by decide) (Nat.le_of_ble_eq_true rfl) rfl ?_
  intro pg e s m args below meth c Q hQ X hnm
  refine K_aload_n X 0 dX6_hoursLeft_0 rfl rfl ?_
  refine K_iload_n X 1 dX6_hoursLeft_1 rfl rfl ?_
  refine K_callVE X (c_X6_find l D b _ _ _ hP (by omega)) my_X6_find mv_X6_find wm_X6_89 sf_m rfl ⟨rfl, rfl, Nat.le_of_ble_eq_true rfl, Nat.le_of_ble_eq_true rfl, Nat.le_of_ble_eq_true rfl, Nat.le_of_ble_eq_true rfl⟩ rfl rfl (Nat.le_of_ble_eq_true rfl) dX6_hoursLeft_2 ?_
  refine K_istore_n X (ls' := [(2, _), (0, _), (1, _)]) dX6_hoursLeft_5 rfl (by decide) rfl ?_
  refine K_iload_n X 0 dX6_hoursLeft_6 rfl rfl ?_
  refine K_bipush X dX6_hoursLeft_7 cib_m6 ?_
  refine K_icmp_ne (tgt := 16) X dX6_hoursLeft_9 (by decide) (fun c9 => ?_) (fun c9 => ?_)
  · obtain ⟨j, hj⟩ := qO_ex c9
    have hjl := qF_lt hj
    rw [hj]
    refine K_aload_n X 1 dX6_hoursLeft_16 rfl rfl ?_
    refine K_iload_n X 0 dX6_hoursLeft_17 rfl rfl ?_
    refine K_callVE X (c_X6_leftOf l D b _ _ _ hP hI (by omega)) my_X6_leftOf mv_X6_leftOf wm_X6_165 sf_m rfl ⟨rfl, rfl, Nat.le_of_ble_eq_true rfl, Nat.le_of_ble_eq_true rfl, Nat.le_of_ble_eq_true rfl, Nat.le_of_ble_eq_true rfl⟩ rfl rfl (Nat.le_of_ble_eq_true rfl) dX6_hoursLeft_18 ?_
    exact K_iret X hQ dX6_hoursLeft_21 (⟨by unfold aLeft; rw [aOf_s hj], rfl⟩)
  · refine K_iconst X dX6_hoursLeft_12 cii_m1 ?_
    refine K_goto (tgt := 21) X dX6_hoursLeft_13 (by decide) ?_
    exact K_iret X hQ dX6_hoursLeft_21 (⟨by unfold aLeft; rw [aOf_n (qF_no h2 c9)], rfl⟩)

set_option maxHeartbeats 4000000 in
set_option maxRecDepth 100000 in
theorem c_X6_bestHour (l : Launch) (D : KD) (b : Nat) (σ : KS) (N : Nat → Nat) (x : Int32) (hP : PF σ.2.2) (hI : qIr N) : Ct l D b yX6_bestHour cX6_bestHour 3 (some .int) (rM 4 94) 0 0 [rf b 190, .int x] shF (wN σ N) shF (pE (some (.int (aBest N x))) (wN σ N)) := by
  have h2 := qi_2 hI
  refine Ct.of (ls := [(0, rf b 190), (1, .int x)]) (by decide) (Nat.le_of_ble_eq_true rfl) rfl ?_
  intro pg e s m args below meth c Q hQ X hnm
  refine K_aload_n X 0 dX6_bestHour_0 rfl rfl ?_
  refine K_iload_n X 1 dX6_bestHour_1 rfl rfl ?_
  refine K_callVE X (c_X6_find l D b _ _ _ hP (by omega)) my_X6_find mv_X6_find wm_X6_89 sf_m rfl ⟨rfl, rfl, Nat.le_of_ble_eq_true rfl, Nat.le_of_ble_eq_true rfl, Nat.le_of_ble_eq_true rfl, Nat.le_of_ble_eq_true rfl⟩ rfl rfl (Nat.le_of_ble_eq_true rfl) dX6_bestHour_2 ?_
  refine K_istore_n X (ls' := [(2, _), (0, _), (1, _)]) dX6_bestHour_5 rfl (by decide) rfl ?_
  refine K_iload_n X 0 dX6_bestHour_6 rfl rfl ?_
  refine K_bipush X dX6_bestHour_7 cib_m6 ?_
  refine K_icmp_ne (tgt := 16) X dX6_bestHour_9 (by decide) (fun c9 => ?_) (fun c9 => ?_)
  · obtain ⟨j, hj⟩ := qO_ex c9
    have hjl := qF_lt hj
    rw [hj]
    refine K_aload_n X 1 dX6_bestHour_16 rfl rfl ?_
    refine K_iload_n X 0 dX6_bestHour_17 rfl rfl ?_
    refine K_callVE X (c_X6_bestOf l D b _ _ _ hP hI (by omega)) my_X6_bestOf mv_X6_bestOf wm_X6_168 sf_m rfl ⟨rfl, rfl, Nat.le_of_ble_eq_true rfl, Nat.le_of_ble_eq_true rfl, Nat.le_of_ble_eq_true rfl, Nat.le_of_ble_eq_true rfl⟩ rfl rfl (Nat.le_of_ble_eq_true rfl) dX6_bestHour_18 ?_
    exact K_iret X hQ dX6_bestHour_21 (⟨by unfold aBest; rw [aOf_s hj], rfl⟩)
  · refine K_iconst X dX6_bestHour_12 cii_m1 ?_
    refine K_goto (tgt := 21) X dX6_bestHour_13 (by decide) ?_
    exact K_iret X hQ dX6_bestHour_21 (⟨by unfold aBest; rw [aOf_n (qF_no h2 c9)], rfl⟩)

set_option maxHeartbeats 4000000 in
set_option maxRecDepth 100000 in
theorem c_X6_box (l : Launch) (D : KD) (b : Nat) (σ : KS) (N : Nat → Nat) (x y : Int32) (hP : PF σ.2.2) (hI : qIr N) : Ct l D b yX6_box cX6_box 3 (some .int) (rM 4 88) 0 0 [rf b 190, .int x, .int y] shF (wN σ N) shF (pE (some (.int (aBox N x y))) (wN σ N)) := by
  have h2 := qi_2 hI
  refine Ct.of (ls := [(0, rf b 190), (1, .int x), (2, .int y)]) (by decide) (Nat.le_of_ble_eq_true rfl) rfl ?_
  intro pg e s m args below meth c Q hQ X hnm
  refine K_iload_n X 1 dX6_box_0 rfl rfl ?_
  refine K_callSE X (c_X6_isBox l D b _ _) my_X6_isBox wt_X6_isBox wm_X6_64 ⟨rfl, rfl, Nat.le_of_ble_eq_true rfl, Nat.le_of_ble_eq_true rfl, Nat.le_of_ble_eq_true rfl, Nat.le_of_ble_eq_true rfl⟩ rfl rfl (Nat.le_of_ble_eq_true rfl) dX6_box_1 ?_
  refine K_ifB_ne (tgt := 9) X dX6_box_4 (by decide) (fun c4 => ?_) (fun c4 => ?_)
  · obtain ⟨u, hlu, hhu, rfl⟩ := qIn_ex (lo := 0) (hi := 5) (by decide) (by decide) c4
    refine K_iload_n X 2 dX6_box_9 rfl rfl ?_
    refine K_iconst X dX6_box_10 cii_0 ?_
    refine K_iconst X dX6_box_11 cii_3 ?_
    refine K_callSE X (c_X6_withinQ l D b _ _ _ _) my_X6_within wt_X6_within wm_X6_38 ⟨rfl, rfl, Nat.le_of_ble_eq_true rfl, Nat.le_of_ble_eq_true rfl, Nat.le_of_ble_eq_true rfl, Nat.le_of_ble_eq_true rfl⟩ rfl rfl (Nat.le_of_ble_eq_true rfl) dX6_box_12 ?_
    refine K_ifB_eq (tgt := 27) X dX6_box_15 (by decide) (fun c15 => ?_) (fun c15 => ?_)
    · refine K_bipush X dX6_box_27 cib_m2 ?_
      exact K_iret X hQ dX6_box_29 (⟨by unfold aBox; rw [if_pos c4, qI_f c15], rfl⟩)
    · obtain ⟨v, hlv, hhv, rfl⟩ := qIn_ex (lo := 0) (hi := 3) (by decide) (by decide) c15
      refine K_aload_n X 0 dX6_box_18 rfl rfl ?_
      refine K_iload_n X 1 dX6_box_19 rfl rfl ?_
      refine K_iload_n X 2 dX6_box_20 rfl rfl ?_
      refine K_callVE X (c_X6_ofBox l D b _ _ _ _ hP hI (by omega) (by omega)) my_X6_ofBox mv_X6_ofBox wm_X6_147 sf_m rfl ⟨rfl, rfl, Nat.le_of_ble_eq_true rfl, Nat.le_of_ble_eq_true rfl, Nat.le_of_ble_eq_true rfl, Nat.le_of_ble_eq_true rfl⟩ rfl rfl (Nat.le_of_ble_eq_true rfl) dX6_box_21 ?_
      refine K_goto (tgt := 29) X dX6_box_24 (by decide) ?_
      exact K_iret X hQ dX6_box_29 (⟨by unfold aBox; rw [if_pos c4, if_pos c15, nI_clamp (by omega), nI_clamp (by omega)], rfl⟩)
  · refine K_iconst X dX6_box_7 cii_m1 ?_
    exact K_iret X hQ dX6_box_8 (⟨by unfold aBox; rw [qI_f c4], rfl⟩)

set_option maxHeartbeats 4000000 in
set_option maxRecDepth 100000 in
theorem c_X6_tray (l : Launch) (D : KD) (b : Nat) (σ : KS) (N : Nat → Nat) (x y : Int32) (hP : PF σ.2.2) (hI : qIr N) : Ct l D b yX6_tray cX6_tray 3 (some .int) (rM 4 88) 0 0 [rf b 190, .int x, .int y] shF (wN σ N) shF (pE (some (.int (aTray N x y))) (wN σ N)) := by
  have h2 := qi_2 hI
  refine Ct.of (ls := [(0, rf b 190), (1, .int x), (2, .int y)]) (by decide) (Nat.le_of_ble_eq_true rfl) rfl ?_
  intro pg e s m args below meth c Q hQ X hnm
  refine K_iload_n X 1 dX6_tray_0 rfl rfl ?_
  refine K_callSE X (c_X6_isTray l D b _ _) my_X6_isTray wt_X6_isTray wm_X6_86 ⟨rfl, rfl, Nat.le_of_ble_eq_true rfl, Nat.le_of_ble_eq_true rfl, Nat.le_of_ble_eq_true rfl, Nat.le_of_ble_eq_true rfl⟩ rfl rfl (Nat.le_of_ble_eq_true rfl) dX6_tray_1 ?_
  refine K_ifB_ne (tgt := 9) X dX6_tray_4 (by decide) (fun c4 => ?_) (fun c4 => ?_)
  · obtain ⟨u, hlu, hhu, rfl⟩ := qIn_ex (lo := 0) (hi := 4) (by decide) (by decide) c4
    refine K_iload_n X 2 dX6_tray_9 rfl rfl ?_
    refine K_iconst X dX6_tray_10 cii_0 ?_
    refine K_iconst X dX6_tray_11 cii_1 ?_
    refine K_callSE X (c_X6_withinQ l D b _ _ _ _) my_X6_within wt_X6_within wm_X6_38 ⟨rfl, rfl, Nat.le_of_ble_eq_true rfl, Nat.le_of_ble_eq_true rfl, Nat.le_of_ble_eq_true rfl, Nat.le_of_ble_eq_true rfl⟩ rfl rfl (Nat.le_of_ble_eq_true rfl) dX6_tray_12 ?_
    refine K_ifB_eq (tgt := 27) X dX6_tray_15 (by decide) (fun c15 => ?_) (fun c15 => ?_)
    · refine K_bipush X dX6_tray_27 cib_m2 ?_
      exact K_iret X hQ dX6_tray_29 (⟨by unfold aTray; rw [if_pos c4, qI_f c15], rfl⟩)
    · obtain ⟨v, hlv, hhv, rfl⟩ := qIn_ex (lo := 0) (hi := 1) (by decide) (by decide) c15
      refine K_aload_n X 0 dX6_tray_18 rfl rfl ?_
      refine K_iload_n X 1 dX6_tray_19 rfl rfl ?_
      refine K_iload_n X 2 dX6_tray_20 rfl rfl ?_
      refine K_callVE X (c_X6_ofTray l D b _ _ _ _ hP hI (by omega) (by omega)) my_X6_ofTray mv_X6_ofTray wm_X6_150 sf_m rfl ⟨rfl, rfl, Nat.le_of_ble_eq_true rfl, Nat.le_of_ble_eq_true rfl, Nat.le_of_ble_eq_true rfl, Nat.le_of_ble_eq_true rfl⟩ rfl rfl (Nat.le_of_ble_eq_true rfl) dX6_tray_21 ?_
      refine K_goto (tgt := 29) X dX6_tray_24 (by decide) ?_
      exact K_iret X hQ dX6_tray_29 (⟨by unfold aTray; rw [if_pos c4, if_pos c15, nI_clamp (by omega), nI_clamp (by omega)], rfl⟩)
  · refine K_iconst X dX6_tray_7 cii_m1 ?_
    exact K_iret X hQ dX6_tray_8 (⟨by unfold aTray; rw [qI_f c4], rfl⟩)

set_option maxHeartbeats 4000000 in
set_option maxRecDepth 100000 in
theorem c_X6_kind (l : Launch) (D : KD) (b : Nat) (σ : KS) (N : Nat → Nat) (x y : Int32) (hP : PF σ.2.2) (hI : qIr N) : Ct l D b yX6_kind cX6_kind 3 (some .int) (rM 3 67) 0 0 [rf b 190, .int x, .int y] shF (wN σ N) shF (pE (some (.int (aKind N x y))) (wN σ N)) := by
  have h2 := qi_2 hI
  refine Ct.of (ls := [(0, rf b 190), (1, .int x), (2, .int y)]) (by decide) (Nat.le_of_ble_eq_true rfl) rfl ?_
  intro pg e s m args below meth c Q hQ X hnm
  refine K_iload_n X 1 dX6_kind_0 rfl rfl ?_
  refine K_callSE X (c_X6_isKind l D b _ _) my_X6_isKind wt_X6_isKind wm_X6_46 ⟨rfl, rfl, Nat.le_of_ble_eq_true rfl, Nat.le_of_ble_eq_true rfl, Nat.le_of_ble_eq_true rfl, Nat.le_of_ble_eq_true rfl⟩ rfl rfl (Nat.le_of_ble_eq_true rfl) dX6_kind_1 ?_
  refine K_ifB_ne (tgt := 9) X dX6_kind_4 (by decide) (fun c4 => ?_) (fun c4 => ?_)
  · obtain ⟨u, hlu, hhu, rfl⟩ := qIn_ex (lo := 0) (hi := 5) (by decide) (by decide) c4
    refine K_iload_n X 2 dX6_kind_9 rfl rfl ?_
    refine K_iconst X dX6_kind_10 cii_0 ?_
    refine K_iconst X dX6_kind_11 cii_3 ?_
    refine K_callSE X (c_X6_withinQ l D b _ _ _ _) my_X6_within wt_X6_within wm_X6_38 ⟨rfl, rfl, Nat.le_of_ble_eq_true rfl, Nat.le_of_ble_eq_true rfl, Nat.le_of_ble_eq_true rfl, Nat.le_of_ble_eq_true rfl⟩ rfl rfl (Nat.le_of_ble_eq_true rfl) dX6_kind_12 ?_
    refine K_ifB_eq (tgt := 27) X dX6_kind_15 (by decide) (fun c15 => ?_) (fun c15 => ?_)
    · refine K_bipush X dX6_kind_27 cib_m2 ?_
      exact K_iret X hQ dX6_kind_29 (⟨by unfold aKind; rw [if_pos c4, qI_f c15], rfl⟩)
    · obtain ⟨v, hlv, hhv, rfl⟩ := qIn_ex (lo := 0) (hi := 3) (by decide) (by decide) c15
      refine K_aload_n X 0 dX6_kind_18 rfl rfl ?_
      refine K_iload_n X 1 dX6_kind_19 rfl rfl ?_
      refine K_iload_n X 2 dX6_kind_20 rfl rfl ?_
      refine K_callVE X (c_X6_ofKind l D b _ _ _ _ hP hI (by omega) (by omega)) my_X6_ofKind mv_X6_ofKind wm_X6_159 sf_m rfl ⟨rfl, rfl, Nat.le_of_ble_eq_true rfl, Nat.le_of_ble_eq_true rfl, Nat.le_of_ble_eq_true rfl, Nat.le_of_ble_eq_true rfl⟩ rfl rfl (Nat.le_of_ble_eq_true rfl) dX6_kind_21 ?_
      refine K_goto (tgt := 29) X dX6_kind_24 (by decide) ?_
      exact K_iret X hQ dX6_kind_29 (⟨by unfold aKind; rw [if_pos c4, if_pos c15, nI_clamp (by omega), nI_clamp (by omega)], rfl⟩)
  · refine K_iconst X dX6_kind_7 cii_m1 ?_
    exact K_iret X hQ dX6_kind_8 (⟨by unfold aKind; rw [qI_f c4], rfl⟩)

set_option maxHeartbeats 4000000 in
set_option maxRecDepth 100000 in
theorem c_X6_cut (l : Launch) (D : KD) (b : Nat) (σ : KS) (N : Nat → Nat) (x : Int32) (hP : PF σ.2.2) : Ct l D b yX6_cut cX6_cut 2 (some .int) (rM 2 42) 0 0 [rf b 190, .int x] shF (wN σ N) shF (pE (some (.int (aCut N x))) (wN σ N)) := by
  refine Ct.of (ls := [(0, rf b 190), (1, .int x)]) (by decide) (Nat.le_of_ble_eq_true rfl) rfl ?_
  intro pg e s m args below meth c Q hQ X hnm
  refine K_iload_n X 1 dX6_cut_0 rfl rfl ?_
  refine K_callSE X (c_X6_isHour l D b _ _) my_X6_isHour wt_X6_isHour wm_X6_53 ⟨rfl, rfl, Nat.le_of_ble_eq_true rfl, Nat.le_of_ble_eq_true rfl, Nat.le_of_ble_eq_true rfl, Nat.le_of_ble_eq_true rfl⟩ rfl rfl (Nat.le_of_ble_eq_true rfl) dX6_cut_1 ?_
  refine K_ifB_eq (tgt := 19) X dX6_cut_4 (by decide) (fun c4 => ?_) (fun c4 => ?_)
  · refine K_iconst X dX6_cut_19 cii_m1 ?_
    exact K_iret X hQ dX6_cut_20 (⟨by unfold aCut; rw [qI_f c4], rfl⟩)
  · obtain ⟨u, hlu, hhu, rfl⟩ := qIn_ex (lo := 0) (hi := 10) (by decide) (by decide) c4
    refine K_aload_n X 0 dX6_cut_7 rfl rfl ?_
    refine K_get X 0 kFd6 rfl (by decide) sf_m wf_X6_7 rfl (v := rf b (191)) (kv_a (pf_m0 hP)) dX6_cut_8 ?_
    refine K_bipush X dX6_cut_11 cib_23 ?_
    refine K_iload_n X 1 dX6_cut_13 rfl rfl ?_
    refine K_iaddN X dX6_cut_14 ?_
    refine K_iald X _ sf_ms rfl (by omega) (by decide) (wN_at _) dX6_cut_15 ?_
    refine K_goto (tgt := 20) X dX6_cut_16 (by decide) ?_
    exact K_iret X hQ dX6_cut_20 (⟨by unfold aCut; rw [if_pos c4, nI_clamp (by omega)], rfl⟩)

set_option maxHeartbeats 4000000 in
set_option maxRecDepth 100000 in
theorem c_X6_worth (l : Launch) (D : KD) (b : Nat) (σ : KS) (N : Nat → Nat) (hP : PF σ.2.2) (hI : qIr N) : Ct l D b yX6_worth cX6_worth 1 (some .long) (rM 3 68) 0 0 [rf b 190] shF (wN σ N) shF (pE (some (.long (lN (qWorth N (N 2))))) (wN σ N)) := by
  refine Ct.of (ls := [(0, rf b 190)]) (by decide) (Nat.le_of_ble_eq_true rfl) rfl ?_
  intro pg e s m args below meth c Q hQ X hnm
  refine K_aload_n X 0 dX6_worth_0 rfl rfl ?_
  refine K_callVE X (c_X6_allWorth l D b _ _ hP hI) my_X6_allWorth mv_X6_allWorth wm_X6_171 sf_m rfl ⟨rfl, rfl, Nat.le_of_ble_eq_true rfl, Nat.le_of_ble_eq_true rfl, Nat.le_of_ble_eq_true rfl, Nat.le_of_ble_eq_true rfl⟩ rfl rfl (Nat.le_of_ble_eq_true rfl) dX6_worth_1 ?_
  exact K_lret X hQ dX6_worth_4 (⟨rfl, rfl⟩)
