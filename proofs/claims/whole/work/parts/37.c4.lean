/-! THE CLASS: sales, the hour, the night, copies -/
set_option maxHeartbeats 4000000 in
set_option maxRecDepth 100000 in
theorem c_X4_sell (l : Launch) (D : KD) (b : Nat) (σ : KS) (o : Nat) (π N : Nat → Nat) (kd g fr pr : Nat) (hP : PF σ.2.2) (ho : o ∈ shL) (hR : Rs σ o π N) (hI : qIr N) (hU : qU N) (h1 : kd < 6) (hg : g < 2 ^ 31) (hf1 : fr ≤ 100) (hp1 : pr ≤ 9999) : Ct l D b yX4_sell cX4_sell 8 (some .int) (rM 3 72) 0 0 [rf b o, .int (nI kd), .int (nI g), .int (nI fr), .int (nI pr)] shF σ shF (pS (some (.int (nI (qOr kd fr pr g 17 0 N).1))) (fun τ => SP σ τ o (qOr kd fr pr g 17 0 N).2)) := by
  obtain ⟨σ0, e0⟩ : ∃ z, z = σ := ⟨σ, rfl⟩
  have hP0 : PF σ0.2.2 := by rw [e0]; exact hP
  have hF : Fr σ0 σ o := by rw [e0]; exact Fr.rf
  refine Ct.of (ls := [(0, rf b o), (1, .int (nI kd)), (2, .int (nI g)), (3, .int (nI fr)), (4, .int (nI pr))]) (by decide) (Nat.le_of_ble_eq_true rfl) rfl ?_
  intro pg e s m args below meth c Q hQ X hnm
  refine K_iload_n X 2 dX4_sell_0 rfl rfl ?_
  refine K_istore X (ls' := [(5, _), (0, _), (1, _), (2, _), (3, _), (4, _)]) dX4_sell_1 (by decide) rfl ?_
  refine K_iconst X dX4_sell_3 cii_0 ?_
  refine K_istore X (ls' := [(6, _), (5, _), (0, _), (1, _), (2, _), (3, _), (4, _)]) dX4_sell_4 (by decide) rfl ?_
  have loop : ∀ i : Nat, i ≤ 5 → ∀ (M : Nat → Nat) (sd : Nat) (τ : KS) (π : Nat → Nat), Rs τ o π M → Fr σ0 τ o → qIr M → sd ≤ g → (sd = g ∨ qTn M (M 2) + i ≤ 5) → qOr kd fr pr g (17 - i) sd M = qOr kd fr pr g 17 0 N → K pg l e (rM 3 72) s m args below meth c Q D b 8 0 0 shF τ 6 [(0, rf b o), (1, .int (nI kd)), (2, .int (nI g)), (3, .int (nI fr)), (4, .int (nI pr)), (5, .int (nI (g - sd))), (6, .int (nI i))] [] := by
    refine kup (fun i hi ih => ?_)
    intro M sd σ π hR hF hI hsg hT hQ2
    have hP := hF.PF ho hP0
    refine K_iload X 6 dX4_sell_6 rfl ?_
    refine K_iconst X dX4_sell_8 cii_5 ?_
    refine K_icmpN_ge (tgt := 63) X dX4_sell_9 (by decide) (by omega) (by omega) (fun c9 => ?_) (fun c9 => ?_)
    · refine K_iload_n X 2 dX4_sell_63 rfl rfl ?_
      refine K_iload X 5 dX4_sell_64 rfl ?_
      refine K_isubN X dX4_sell_66 (by omega) ?_
      exact K_iret X hQ dX4_sell_67 (by rw [show 17 - i = (16 - i) + 1 from by omega, qOr_end (fun z => by have hTn : sd < g → qTn M (M 2) = 0 := by { intro z; omega }; rcases hq : qNx M kd fr pr (M 2) with _ | j; (rfl); (have := hTn z; have := qTn_pos (qNx_lt hq) (qFits_t (qNx_fits hq)); omega))] at hQ2; rw [← hQ2, show g - (g - sd) = sd from by omega]; exact ⟨rfl, ⟨_, hR⟩, by rw [← e0]; exact hF⟩)
    · refine K_iload X 5 dX4_sell_12 rfl ?_
      refine K_ifN_le (tgt := 63) X dX4_sell_14 (by decide) (by omega) (fun c14 => ?_) (fun c14 => ?_)
      · refine K_iload_n X 2 dX4_sell_63 rfl rfl ?_
        refine K_iload X 5 dX4_sell_64 rfl ?_
        refine K_isubN X dX4_sell_66 (by omega) ?_
        exact K_iret X hQ dX4_sell_67 (by rw [show 17 - i = (16 - i) + 1 from by omega, qOr_end (fun z => by omega)] at hQ2; rw [← hQ2, show g - (g - sd) = sd from by omega]; exact ⟨rfl, ⟨_, hR⟩, by rw [← e0]; exact hF⟩)
      · refine K_aload_n X 0 dX4_sell_17 rfl rfl ?_
        refine K_iload_n X 1 dX4_sell_18 rfl rfl ?_
        refine K_iload_n X 3 dX4_sell_19 rfl rfl ?_
        refine K_aload_n X 0 dX4_sell_20 rfl rfl ?_
        refine K_get X 3 kFd4 rfl (by decide) (so_0 o ho) wf_X4_15 rfl (v := .int (nI (M 9))) (congrArg Value.int (rs_i hR 3 (by decide))) dX4_sell_21 ?_
        refine K_max X wm_X4_137 wt_max wn_Math wc_max ⟨Nat.le_of_ble_eq_true rfl, Nat.le_of_ble_eq_true rfl, Nat.le_of_ble_eq_true rfl, Nat.le_of_ble_eq_true rfl⟩ dX4_sell_24 ?_
        rw [kMax (by omega) (by have := qi_9 hI; omega)]
        refine K_iload X 4 dX4_sell_27 rfl ?_
        refine K_callVE X (c_X4_nextLotToSell l D b _ _ _ _ _ _ _ _ hP ho hR hI h1 hf1 hp1 rfl) my_X4_nextLotToSell mv_X4_nextLotToSell wm_X4_142 (so_0 o ho) rfl ⟨rfl, rfl, Nat.le_of_ble_eq_true rfl, Nat.le_of_ble_eq_true rfl, Nat.le_of_ble_eq_true rfl, Nat.le_of_ble_eq_true rfl⟩ rfl rfl (Nat.le_of_ble_eq_true rfl) dX4_sell_29 ?_
        refine K_istore X (ls' := [(7, _), (0, _), (1, _), (2, _), (3, _), (4, _), (5, _), (6, _)]) dX4_sell_32 (by decide) rfl ?_
        refine K_iload X 0 dX4_sell_34 rfl ?_
        refine K_bipush X dX4_sell_36 cib_m6 ?_
        refine K_icmp_ne (tgt := 44) X dX4_sell_38 (by decide) (fun c38 => ?_) (fun c38 => ?_)
        · obtain ⟨k, hk⟩ := qO_ex c38
          have hkl := qNx_lt hk
          rw [hk]
          have hg1 : sd < g := by omega
          have hmw : qMuch M k (g - sd) ≤ g - sd := by unfold qMuch; split <;> omega
          have hml : qMuch M k (g - sd) ≤ qL M k 2 := by unfold qMuch; split <;> omega
          have h6 := qFits_t (qNx_fits hk)
          obtain ⟨a1, a2, a3⟩ := qSell_k hI hkl hml
          refine K_iload X 6 dX4_sell_44 rfl ?_
          refine K_aload_n X 1 dX4_sell_46 rfl rfl ?_
          refine K_iload X 0 dX4_sell_47 rfl ?_
          refine K_iload X 6 dX4_sell_49 rfl ?_
          refine K_callVP X (c_X4_sellFromLotAt l D b _ _ _ _ _ _ hP ho hR hI hkl (by omega)) my_X4_sellFromLotAt mv_X4_sellFromLotAt wm_X4_145 (so_0 o ho) rfl ⟨rfl, rfl, Nat.le_of_ble_eq_true rfl, Nat.le_of_ble_eq_true rfl, Nat.le_of_ble_eq_true rfl, Nat.le_of_ble_eq_true rfl⟩ rfl rfl (Nat.le_of_ble_eq_true rfl) dX4_sell_51 (fun σ51 h51 => ?_)
          refine K_gen (φ := fun τ => SP _ τ o _) h51 (fun σ h => ?_)
          obtain ⟨⟨π, hR⟩, hF1⟩ := h
          have hF := hF.tr hF1
          have hP := hF.PF ho hP0
          refine K_isubN X dX4_sell_54 (by exact hmw) ?_
          rw [Nat.sub_sub]
          refine K_istore X (ls' := [(5, _), (7, _), (0, _), (1, _), (2, _), (3, _), (4, _), (6, _)]) dX4_sell_55 (by decide) rfl ?_
          refine K_iinc X 7 (ls' := [(6, _), (5, _), (7, _), (0, _), (1, _), (2, _), (3, _), (4, _)]) dX4_sell_57 rfl (inc_1 _) (by decide) rfl ?_
          refine K_goto (tgt := 6) X dX4_sell_60 (by decide) ?_
          rw [show 17 - i = (16 - i) + 1 from by omega, qOr_go hk hg1] at hQ2
          exact K_sub [3, 4, 5, 6, 7, 1, 0] rfl (ih (by omega) (qSell M k (qMuch M k (g - sd))) (sd + qMuch M k (g - sd)) σ _ hR hF a1 (by omega) (by by_cases z : qL M k 2 < g - sd; (have hz : qMuch M k (g - sd) = qL M k 2 := if_pos z; have := qTn_sell hkl h6 (m := qMuch M k (g - sd)) (by omega); have := hT; omega); (have hz : qMuch M k (g - sd) = g - sd := if_neg z; omega)) (by rw [show 17 - (i + 1) = 16 - i from by omega]; exact hQ2))
        · refine K_goto (tgt := 63) X dX4_sell_41 (by decide) ?_
          refine K_iload_n X 3 dX4_sell_63 rfl rfl ?_
          refine K_iload X 6 dX4_sell_64 rfl ?_
          refine K_isubN X dX4_sell_66 (by omega) ?_
          exact K_iret X hQ dX4_sell_67 (by rw [show 17 - i = (16 - i) + 1 from by omega, qOr_end (fun z => (qO_n (fun j hj => by have := qNx_lt hj; have := qi_2 hI; omega)).mp c38)] at hQ2; rw [← hQ2, show g - (g - sd) = sd from by omega]; exact ⟨rfl, ⟨_, hR⟩, by rw [← e0]; exact hF⟩)
  exact K_sub [2, 3, 4, 5, 6, 1, 0] rfl (loop 0 (Nat.zero_le _) N 0 σ π hR hF hI (Nat.zero_le _) (by have := qTn_5 hI hU; omega) rfl)

theorem c_X5_iceB (l : Launch) (D : KD) (b : Nat) (σ : KS) (ic me : Nat) (h1 : ic < 2 ^ 30) (h2 : me ≤ 500) : Ct l D b yX5_iceAnHourLater cX5_iceAnHourLater 3 (some .int) (rM 1 21) 0 0 [.int (nI ic), .int (nI 0), .int (nI me)] shF σ shF (pE (some (.int (nI (ic - me)))) σ) := by
  have h := c_X5_iceAnHourLater l D b σ ic 0 me h1 h2
  rw [if_neg (by decide), show kB (qTray 0) = nI 0 from by decide] at h
  exact h
theorem c_X5_iceT (l : Launch) (D : KD) (b : Nat) (σ : KS) (ic me : Nat) (h1 : ic < 2 ^ 30) (h2 : me ≤ 500) : Ct l D b yX5_iceAnHourLater cX5_iceAnHourLater 3 (some .int) (rM 1 21) 0 0 [.int (nI ic), .int (nI 1), .int (nI me)] shF σ shF (pE (some (.int (nI (ic - 2 * me)))) σ) := by
  have h := c_X5_iceAnHourLater l D b σ ic 6 me h1 h2
  rw [if_pos (by decide), show kB (qTray 6) = nI 1 from by decide] at h
  exact h

set_option maxHeartbeats 4000000 in
set_option maxRecDepth 100000 in
theorem c_X4_passHour (l : Launch) (D : KD) (b : Nat) (σ : KS) (o : Nat) (π N : Nat → Nat) (hP : PF σ.2.2) (ho : o ∈ shL) (hR : Rs σ o π N) (hI : qIr N) : Ct l D b yX4_passHour cX4_passHour 3 none (rM 3 63) 0 0 [rf b o] shF σ shF (pS none (fun τ => SP σ τ o (qPass N))) := by
  obtain ⟨σ0, e0⟩ : ∃ z, z = σ := ⟨σ, rfl⟩
  have hP0 : PF σ0.2.2 := by rw [e0]; exact hP
  have hF : Fr σ0 σ o := by rw [e0]; exact Fr.rf
  have h2 := qi_2 hI
  refine Ct.of (ls := [(0, rf b o)]) (by decide) (Nat.le_of_ble_eq_true rfl) rfl ?_
  intro pg e s m args below meth c Q hQ X hnm
  refine K_iconst X dX4_passHour_0 cii_0 ?_
  refine K_istore_n X (ls' := [(1, _), (0, _)]) dX4_passHour_1 rfl (by decide) rfl ?_
  have loop : ∀ i : Nat, i ≤ N 2 → ∀ (τ : KS), Rs τ o π (qP1 N i) → Fr σ0 τ o → K pg l e (rM 3 63) s m args below meth c Q D b 3 0 0 shF τ 2 [(0, rf b o), (1, .int (nI i))] [] := by
    refine kup (fun i hi ih => ?_)
    intro σ hR hF
    have hP := hF.PF ho hP0
    obtain ⟨hIM, hM2⟩ := qIr_P1 hI hi
    refine K_iload_n X 1 dX4_passHour_2 rfl rfl ?_
    refine K_aload_n X 0 dX4_passHour_3 rfl rfl ?_
    refine K_get X 5 kFd4 rfl (by decide) (so_0 o ho) wf_X4_50 rfl (v := .int (nI ((qP1 N i) 2))) (congrArg Value.int (rs_i hR 5 (by decide))) dX4_passHour_4 ?_
    rw [hM2]
    refine K_icmpN_ge (tgt := 43) X dX4_passHour_7 (by decide) (by omega) (by omega) (fun c7 => ?_) (fun c7 => ?_)
    · refine K_iconst X dX4_passHour_43 cii_0 ?_
      refine K_istore_n X (ls' := [(1, _), (0, _)]) dX4_passHour_44 rfl (by decide) rfl ?_
      have loop2 : ∀ j : Nat, j ≤ 6 → ∀ (τ : KS), Rs τ o π (qP2 (qP1 N (N 2)) j) → Fr σ0 τ o → K pg l e (rM 3 63) s m args below meth c Q D b 3 0 0 shF τ 45 [(0, rf b o), (1, .int (nI j))] [] := by
        refine kup (fun j hj jh => ?_)
        intro σ hR hF
        have hP := hF.PF ho hP0
        have hI2 := (qIr_P2 (j := j) (qIr_P1 hI (Nat.le_refl _)).1 (by omega)).1
        have e2 : qP2 (qP1 N (N 2)) j 2 = N 2 := (qIr_P2 (qIr_P1 hI (Nat.le_refl _)).1 (by omega)).2.trans (qIr_P1 hI (Nat.le_refl _)).2
        refine K_iload_n X 1 dX4_passHour_45 rfl rfl ?_
        refine K_bipush X dX4_passHour_46 cib_6 ?_
        refine K_icmpN_ge (tgt := 77) X dX4_passHour_48 (by decide) (by omega) (by omega) (fun c48 => ?_) (fun c48 => ?_)
        · refine K_iconst X dX4_passHour_77 cii_0 ?_
          refine K_istore_n X (ls' := [(1, _), (0, _)]) dX4_passHour_78 rfl (by decide) rfl ?_
          have loop3 : ∀ j : Nat, j ≤ 5 → ∀ (τ : KS), Rs τ o π (qP2 (qP1 N (N 2)) (6 + j)) → Fr σ0 τ o → K pg l e (rM 3 63) s m args below meth c Q D b 3 0 0 shF τ 79 [(0, rf b o), (1, .int (nI j))] [] := by
            refine kup (fun j hj jh => ?_)
            intro σ hR hF
            have hP := hF.PF ho hP0
            have hI2 := (qIr_P2 (j := 6 + j) (qIr_P1 hI (Nat.le_refl _)).1 (by omega)).1
            refine K_iload_n X 1 dX4_passHour_79 rfl rfl ?_
            refine K_iconst X dX4_passHour_80 cii_5 ?_
            refine K_icmpN_ge (tgt := 110) X dX4_passHour_81 (by decide) (by omega) (by omega) (fun c81 => ?_) (fun c81 => ?_)
            · rw [show 6 + j = 11 from by omega] at hR
              refine K_aload_n X 0 dX4_passHour_110 rfl rfl ?_
              refine K_dup X dX4_passHour_111 rfl ?_
              refine K_get X 1 kFd4 rfl (by decide) (so_0 o ho) wf_X4_44 rfl (v := .int (nI (N 1))) (congrArg Value.int ((rs_i hR 1 (by decide)).trans (congrArg nI (show qP2 (qP1 N (N 2)) 11 1 = N 1 from (qP2_n (by omega)).trans (qP1_n (fun z _ => by omega)))))) dX4_passHour_112 ?_
              refine K_iconst X dX4_passHour_115 cii_1 ?_
              refine K_iaddN X dX4_passHour_116 ?_
              refine K_putI X 1 kFd4 rfl (by decide) (so_0 o ho) wf_X4_44 rfl rfl rfl dX4_passHour_117 ?_
              refine K_gen (φ := fun τ => Rs τ o π (qPass N) ∧ Fr _ τ o) ⟨hR.int (by rw [(qIr_P2 (qIr_P1 hI (Nat.le_refl _)).1 (Nat.le_refl _)).2, (qIr_P1 hI (Nat.le_refl _)).2]; exact h2) (k := 1) (by decide), hF.tr (Fr.i (by omega) (by omega))⟩ (fun σ hs => ?_)
              obtain ⟨hR, hF⟩ := hs
              have hP := hF.PF ho hP0
              exact K_vret X hQ dX4_passHour_120 (⟨rfl, ⟨_, hR⟩, by rw [← e0]; exact hF⟩)
            · refine K_aload_n X 0 dX4_passHour_84 rfl rfl ?_
              refine K_get X 15 kFd4 rfl (by decide) (so_0 o ho) wf_X4_31 rfl (v := rf b (o + 5)) (kv_a (ps_15 hP ho)) dX4_passHour_85 ?_
              refine K_iload_n X 1 dX4_passHour_88 rfl rfl ?_
              refine K_aload_n X 0 dX4_passHour_89 rfl rfl ?_
              refine K_get X 15 kFd4 rfl (by decide) (so_0 o ho) wf_X4_31 rfl (v := rf b (o + 5)) (kv_a (ps_15 hP ho)) dX4_passHour_90 ?_
              refine K_iload_n X 1 dX4_passHour_93 rfl rfl ?_
              refine K_iald X _ (so_5 o ho) rfl (by omega) (by decide) (x := nI ((qP2 (qP1 N (N 2)) (6 + j)) (40 + j))) (rs_a hR 5 (by decide) (by decide) (show _ < 5 from by omega)) dX4_passHour_94 ?_
              refine K_iconst X dX4_passHour_95 cii_1 ?_
              refine K_aload_n X 0 dX4_passHour_96 rfl rfl ?_
              refine K_get X 2 kFd4 rfl (by decide) (so_0 o ho) wf_X4_9 rfl (v := .int (nI ((qP2 (qP1 N (N 2)) (6 + j)) 8))) (congrArg Value.int (rs_i hR 2 (by decide))) dX4_passHour_97 ?_
              refine K_callSNE (host := RX5) X (c_X5_iceT l D b _ _ _ (by have := qi_i hI2 (show 6 + j < 11 from by omega); rw [show 34 + (6 + j) = 40 + j from by omega] at this; omega) (qi_8 hI2)) my_X5_iceAnHourLater wt_X5_iceAnHourLater (by decide +kernel) ⟨rfl, rfl, Nat.le_of_ble_eq_true rfl, Nat.le_of_ble_eq_true rfl, Nat.le_of_ble_eq_true rfl, Nat.le_of_ble_eq_true rfl⟩ rfl rfl (Nat.le_of_ble_eq_true rfl) dX4_passHour_100 ?_
              refine K_iast X _ (so_5 o ho) rfl (by omega) (by decide) dX4_passHour_103 ?_
              refine K_gen (φ := fun τ => Rs τ o π (qP2 (qP1 N (N 2)) (6 + (j + 1))) ∧ Fr _ τ o) ⟨(by have h := hR.arr (a := 5) (k := j) (v := (qP2 (qP1 N (N 2)) (6 + j)) (40 + j) - 2 * (qP2 (qP1 N (N 2)) (6 + j)) 8) (by decide) (by decide) (show j < 5 from by omega); rw [show qP2 (qP1 N (N 2)) (6 + (j + 1)) = uN (qP2 (qP1 N (N 2)) (6 + j)) (34 + (6 + j)) ((qP2 (qP1 N (N 2)) (6 + j)) (34 + (6 + j)) - 2 * (qP2 (qP1 N (N 2)) (6 + j)) 8) from congrArg (fun z => uN (qP2 (qP1 N (N 2)) (6 + j)) (34 + (6 + j)) ((qP2 (qP1 N (N 2)) (6 + j)) (34 + (6 + j)) - z)) (if_pos (Nat.le_add_right 6 j)), show 34 + (6 + j) = 40 + j from by omega]; exact h), hF.tr (Fr.i (by omega) (by omega))⟩ (fun σ hs => ?_)
              obtain ⟨hR, hF⟩ := hs
              have hP := hF.PF ho hP0
              refine K_iinc X 1 (ls' := [(1, _), (0, _)]) dX4_passHour_104 rfl (inc_1 _) (by decide) rfl ?_
              refine K_goto (tgt := 79) X dX4_passHour_107 (by decide) ?_
              exact K_sub [1, 0] rfl (jh (by omega) σ hR hF)
          exact K_sub [1, 0] rfl (loop3 0 (Nat.zero_le _) σ (by rw [show j = 6 from by omega] at hR; exact hR) hF)
        · refine K_aload_n X 0 dX4_passHour_51 rfl rfl ?_
          refine K_get X 14 kFd4 rfl (by decide) (so_0 o ho) wf_X4_28 rfl (v := rf b (o + 4)) (kv_a (ps_14 hP ho)) dX4_passHour_52 ?_
          refine K_iload_n X 1 dX4_passHour_55 rfl rfl ?_
          refine K_aload_n X 0 dX4_passHour_56 rfl rfl ?_
          refine K_get X 14 kFd4 rfl (by decide) (so_0 o ho) wf_X4_28 rfl (v := rf b (o + 4)) (kv_a (ps_14 hP ho)) dX4_passHour_57 ?_
          refine K_iload_n X 1 dX4_passHour_60 rfl rfl ?_
          refine K_iald X _ (so_4 o ho) rfl (by omega) (by decide) (x := nI ((qP2 (qP1 N (N 2)) j) (34 + j))) (rs_a hR 4 (by decide) (by decide) (show _ < 6 from by omega)) dX4_passHour_61 ?_
          refine K_iconst X dX4_passHour_62 cii_0 ?_
          refine K_aload_n X 0 dX4_passHour_63 rfl rfl ?_
          refine K_get X 2 kFd4 rfl (by decide) (so_0 o ho) wf_X4_9 rfl (v := .int (nI ((qP2 (qP1 N (N 2)) j) 8))) (congrArg Value.int (rs_i hR 2 (by decide))) dX4_passHour_64 ?_
          refine K_callSNE (host := RX5) X (c_X5_iceB l D b _ _ _ (by have := qi_i hI2 (show j < 11 from by omega); omega) (qi_8 hI2)) my_X5_iceAnHourLater wt_X5_iceAnHourLater (by decide +kernel) ⟨rfl, rfl, Nat.le_of_ble_eq_true rfl, Nat.le_of_ble_eq_true rfl, Nat.le_of_ble_eq_true rfl, Nat.le_of_ble_eq_true rfl⟩ rfl rfl (Nat.le_of_ble_eq_true rfl) dX4_passHour_67 ?_
          refine K_iast X _ (so_4 o ho) rfl (by omega) (by decide) dX4_passHour_70 ?_
          refine K_gen (φ := fun τ => Rs τ o π (qP2 (qP1 N (N 2)) (j + 1)) ∧ Fr _ τ o) ⟨(by have h := hR.arr (a := 4) (k := j) (v := (qP2 (qP1 N (N 2)) j) (34 + j) - (qP2 (qP1 N (N 2)) j) 8) (by decide) (by decide) (show j < 6 from by omega); rw [show qP2 (qP1 N (N 2)) (j + 1) = uN (qP2 (qP1 N (N 2)) j) (34 + j) ((qP2 (qP1 N (N 2)) j) (34 + j) - (qP2 (qP1 N (N 2)) j) 8) from congrArg (fun z => uN (qP2 (qP1 N (N 2)) j) (34 + j) ((qP2 (qP1 N (N 2)) j) (34 + j) - z)) (if_neg (by omega))]; exact h), hF.tr (Fr.i (by omega) (by omega))⟩ (fun σ hs => ?_)
          obtain ⟨hR, hF⟩ := hs
          have hP := hF.PF ho hP0
          refine K_iinc X 1 (ls' := [(1, _), (0, _)]) dX4_passHour_71 rfl (inc_1 _) (by decide) rfl ?_
          refine K_goto (tgt := 45) X dX4_passHour_74 (by decide) ?_
          exact K_sub [1, 0] rfl (jh (by omega) σ hR hF)
      exact K_sub [1, 0] rfl (loop2 0 (Nat.zero_le _) σ (by rw [show i = N 2 from by omega] at hR; exact hR) hF)
    · have hty : kB (decide (qTy (qL (qP1 N i) i 4) ≠ -6)) = kB (qTray (qL (qP1 N i) i 4)) := by congr 1; exact decide_eq_decide.mpr ⟨fun z => Decidable.byContradiction (fun y => z ((qTy_n (by have := qi_l4 hIM (show i < qP1 N i 2 from by omega); omega)).mpr y)), fun z y => (qTy_n (by have := qi_l4 hIM (show i < qP1 N i 2 from by omega); omega)).mp y z⟩
      refine K_aload_n X 0 dX4_passHour_10 rfl rfl ?_
      refine K_get X 16 kFd4 rfl (by decide) (so_0 o ho) wf_X4_36 rfl (v := rf b (o + 6)) (kv_a (ps_16 hP ho)) dX4_passHour_11 ?_
      refine K_iload_n X 1 dX4_passHour_14 rfl rfl ?_
      refine K_aald (z := o + 7 + π i) X _ (so_6 o ho) (by decide) rfl (by omega) (by decide) (rs_r hR (by omega)) dX4_passHour_15 ?_
      refine K_astore_n X (ls' := [(2, _), (0, _), (1, _)]) dX4_passHour_16 rfl (by decide) rfl ?_
      refine K_aload_n X 0 dX4_passHour_17 rfl rfl ?_
      refine K_aload_n X 0 dX4_passHour_18 rfl rfl ?_
      refine K_get X 3 kFd3 rfl (by decide) (so_l ho (rs_lt hR (by omega))) wf_X4_105 rfl (v := .int (nI (qL (qP1 N i) i 3))) (congrArg Value.int (rs_l hR (show i < qP1 N i 2 from by omega) 3 (by decide))) dX4_passHour_19 ?_
      refine K_aload_n X 0 dX4_passHour_22 rfl rfl ?_
      refine K_callVE X (c_X3_isOnTray l D b _ _ _ (so_l ho (rs_lt hR (by omega))) (rs_l5 hR (show i < qP1 N i 2 from by omega))) my_X3_isOnTray mv_X3_isOnTray wm_X4_148 (so_l ho (rs_lt hR (by omega))) rfl ⟨rfl, rfl, Nat.le_of_ble_eq_true rfl, Nat.le_of_ble_eq_true rfl, Nat.le_of_ble_eq_true rfl, Nat.le_of_ble_eq_true rfl⟩ rfl rfl (Nat.le_of_ble_eq_true rfl) dX4_passHour_23 ?_
      rw [hty]
      refine K_aload_n X 1 dX4_passHour_26 rfl rfl ?_
      refine K_aload_n X 0 dX4_passHour_27 rfl rfl ?_
      refine K_callVE X (c_X4_iceAt l D b _ _ _ _ _ hP ho hR hIM (show i < qP1 N i 2 from by omega)) my_X4_iceAt mv_X4_iceAt wm_X4_159 (so_0 o ho) rfl ⟨rfl, rfl, Nat.le_of_ble_eq_true rfl, Nat.le_of_ble_eq_true rfl, Nat.le_of_ble_eq_true rfl, Nat.le_of_ble_eq_true rfl⟩ rfl rfl (Nat.le_of_ble_eq_true rfl) dX4_passHour_28 ?_
      refine K_callSNE (host := RX5) X (c_X5_freshAnHourLater l D b _ _ _ _ (by have := qi_l3 hIM (show i < qP1 N i 2 from by omega); omega) (by have := qi_i hIM (qi_l4 hIM (show i < qP1 N i 2 from by omega)); omega)) my_X5_freshAnHourLater wt_X5_freshAnHourLater (by decide +kernel) ⟨rfl, rfl, Nat.le_of_ble_eq_true rfl, Nat.le_of_ble_eq_true rfl, Nat.le_of_ble_eq_true rfl, Nat.le_of_ble_eq_true rfl⟩ rfl rfl (Nat.le_of_ble_eq_true rfl) dX4_passHour_31 ?_
      refine K_putI X 3 kFd3 rfl (by decide) (so_l ho (rs_lt hR (by omega))) wf_X4_105 rfl rfl rfl dX4_passHour_34 ?_
      refine K_gen (φ := fun τ => Rs τ o π (qP1 N (i + 1)) ∧ Fr _ τ o) ⟨Rs.lotf hR (by omega) (show i < qP1 N i 2 from by omega) (show 3 < 4 from by decide), hF.tr (Fr.i (by omega) (by have := rs_lt hR (show i < 16 from by omega); omega))⟩ (fun σ hs => ?_)
      obtain ⟨hR, hF⟩ := hs
      have hP := hF.PF ho hP0
      refine K_iinc X 2 (ls' := [(1, _), (2, _), (0, _)]) dX4_passHour_37 rfl (inc_1 _) (by decide) rfl ?_
      refine K_goto (tgt := 2) X dX4_passHour_40 (by decide) ?_
      exact K_sub [2, 0] rfl (ih (by omega) σ hR hF)
  exact K_sub [1, 0] rfl (loop 0 (Nat.zero_le _) σ hR hF)

set_option maxHeartbeats 4000000 in
set_option maxRecDepth 100000 in
theorem c_X4_discardLotsBelowLimit (l : Launch) (D : KD) (b : Nat) (σ : KS) (o : Nat) (π N : Nat → Nat) (hP : PF σ.2.2) (ho : o ∈ shL) (hR : Rs σ o π N) (hI : qIr N) : Ct l D b yX4_discardLotsBelowLimit cX4_discardLotsBelowLimit 3 (some .int) (rM 2 45) 0 0 [rf b o] shF σ shF (pS (some (.int (nI (qC1 (N 2) N 5 - N 5)))) (fun τ => SP σ τ o (qC1 (N 2) N))) := by
  obtain ⟨σ0, e0⟩ : ∃ z, z = σ := ⟨σ, rfl⟩
  have hP0 : PF σ0.2.2 := by rw [e0]; exact hP
  have hF : Fr σ0 σ o := by rw [e0]; exact Fr.rf
  have h2 := qi_2 hI
  refine Ct.of (ls := [(0, rf b o)]) (by decide) (Nat.le_of_ble_eq_true rfl) rfl ?_
  intro pg e s m args below meth c Q hQ X hnm
  refine K_iconst X dX4_discardLotsBelowLimit_0 cii_0 ?_
  refine K_istore_n X (ls' := [(1, _), (0, _)]) dX4_discardLotsBelowLimit_1 rfl (by decide) rfl ?_
  refine K_aload_n X 1 dX4_discardLotsBelowLimit_2 rfl rfl ?_
  refine K_get X 5 kFd4 rfl (by decide) (so_0 o ho) wf_X4_50 rfl (v := .int (nI (N 2))) (congrArg Value.int (rs_i hR 5 (by decide))) dX4_discardLotsBelowLimit_3 ?_
  refine K_iconst X dX4_discardLotsBelowLimit_6 cii_1 ?_
  refine K_isub X dX4_discardLotsBelowLimit_7 ?_
  rw [qM_sub]
  refine K_istore_n X (ls' := [(2, _), (1, _), (0, _)]) dX4_discardLotsBelowLimit_8 rfl (by decide) rfl ?_
  have loop : ∀ i : Nat, i ≤ 16 → ∀ (M : Nat → Nat) (τ : KS) (π : Nat → Nat), Rs τ o π M → Fr σ0 τ o → i ≤ M 2 → qIr M → N 5 ≤ M 5 → qC1 i M = qC1 (N 2) N → K pg l e (rM 2 45) s m args below meth c Q D b 3 0 0 shF τ 9 [(0, rf b o), (1, .int (nI (M 5 - N 5))), (2, .int (qM i))] [] := by
    intro i
    induction i with
    | zero =>
      intro hi M σ π hR hF hiM hIM h5 hQ2
      have hP := hF.PF ho hP0
      have hM2 := qi_2 hIM
      refine K_iload_n X 2 dX4_discardLotsBelowLimit_9 rfl rfl ?_
      refine K_if_lt (tgt := 43) X dX4_discardLotsBelowLimit_10 (by decide) (fun c10 => ?_) (fun c10 => ?_)
      · refine K_iload_n X 1 dX4_discardLotsBelowLimit_43 rfl rfl ?_
        exact K_iret X hQ dX4_discardLotsBelowLimit_44 (by rw [← hQ2]; exact ⟨rfl, ⟨_, hR⟩, by rw [← e0]; exact hF⟩)
      · exact absurd (show (-1 : Int32) < 0 from by decide) c10
    | succ i ih =>
      intro hi M σ π hR hF hiM hIM h5 hQ2
      have hP := hF.PF ho hP0
      have hM2 := qi_2 hIM
      refine K_iload_n X 2 dX4_discardLotsBelowLimit_9 rfl rfl ?_
      refine K_if_lt (tgt := 43) X dX4_discardLotsBelowLimit_10 (by decide) (fun c10 => ?_) (fun c10 => ?_)
      · exact absurd c10 (nI_pos (by omega))
      · refine K_aload_n X 0 dX4_discardLotsBelowLimit_13 rfl rfl ?_
        refine K_get X 16 kFd4 rfl (by decide) (so_0 o ho) wf_X4_36 rfl (v := rf b (o + 6)) (kv_a (ps_16 hP ho)) dX4_discardLotsBelowLimit_14 ?_
        refine K_iload_n X 2 dX4_discardLotsBelowLimit_17 rfl rfl ?_
        refine K_aald (z := o + 7 + π i) X _ (so_6 o ho) (by decide) rfl (by omega) (by decide) (rs_r hR (by omega)) dX4_discardLotsBelowLimit_18 ?_
        refine K_get X 3 kFd3 rfl (by decide) (so_l ho (rs_lt hR (by omega))) wf_X4_105 rfl (v := .int (nI (qL M i 3))) (congrArg Value.int (rs_l hR (show i < M 2 from by omega) 3 (by decide))) dX4_discardLotsBelowLimit_19 ?_
        refine K_aload_n X 0 dX4_discardLotsBelowLimit_22 rfl rfl ?_
        refine K_get X 3 kFd4 rfl (by decide) (so_0 o ho) wf_X4_15 rfl (v := .int (nI (M 9))) (congrArg Value.int (rs_i hR 3 (by decide))) dX4_discardLotsBelowLimit_23 ?_
        refine K_icmpN_ge (tgt := 37) X dX4_discardLotsBelowLimit_26 (by decide) (by have := qi_l3 hIM (show i < M 2 from by omega); omega) (by have := qi_9 hIM; omega) (fun c26 => ?_) (fun c26 => ?_)
        · refine K_iinc X 2 (ls' := [(2, _), (0, _), (1, _)]) dX4_discardLotsBelowLimit_37 rfl (inc_mq _) (by decide) rfl ?_
          refine K_goto (tgt := 9) X dX4_discardLotsBelowLimit_40 (by decide) ?_
          rw [show qC1 (i + 1) M = qC1 i M from congrArg (qC1 i) (if_pos (decide_eq_true (by omega)))] at hQ2
          exact K_sub [1, 2, 0] rfl (ih (by omega) M σ _ hR hF (by omega) hIM h5 hQ2)
        · refine K_iload_n X 1 dX4_discardLotsBelowLimit_29 rfl rfl ?_
          refine K_aload_n X 0 dX4_discardLotsBelowLimit_30 rfl rfl ?_
          refine K_iload_n X 2 dX4_discardLotsBelowLimit_31 rfl rfl ?_
          refine K_callVP X (c_X4_discardLotAt l D b _ _ _ _ _ hP ho hR hIM (show i < M 2 from by omega)) my_X4_discardLotAt mv_X4_discardLotAt wm_X4_176 (so_0 o ho) rfl ⟨rfl, rfl, Nat.le_of_ble_eq_true rfl, Nat.le_of_ble_eq_true rfl, Nat.le_of_ble_eq_true rfl, Nat.le_of_ble_eq_true rfl⟩ rfl rfl (Nat.le_of_ble_eq_true rfl) dX4_discardLotsBelowLimit_32 (fun σ32 h32 => ?_)
          refine K_gen (φ := fun τ => SP _ τ o _) h32 (fun σ h => ?_)
          obtain ⟨⟨π, hR⟩, hF1⟩ := h
          have hF := hF.tr hF1
          have hP := hF.PF ho hP0
          refine K_iaddN X dX4_discardLotsBelowLimit_35 ?_
          refine K_istore_n X (ls' := [(1, _), (0, _), (2, _)]) dX4_discardLotsBelowLimit_36 rfl (by decide) rfl ?_
          refine K_iinc X 2 (ls' := [(2, _), (1, _), (0, _)]) dX4_discardLotsBelowLimit_37 rfl (inc_mq _) (by decide) rfl ?_
          refine K_goto (tgt := 9) X dX4_discardLotsBelowLimit_40 (by decide) ?_
          rw [show qC1 (i + 1) M = qC1 i (qThrow M i) from congrArg (qC1 i) (if_neg (fun z => by have := of_decide_eq_true z; omega))] at hQ2
          have ht5 := qThrow_5 (N := M) (k := i) (by omega)
          rw [show M 5 - N 5 + qL M i 2 = qThrow M i 5 - N 5 from by omega]
          exact K_sub [2, 1, 0] rfl (ih (by omega) (qThrow M i) σ _ hR hF (by rw [qThrow_2 (by omega)]; omega) (qIr_throw hIM (by omega)) (by omega) hQ2)
  rw [show nI 0 = nI (N 5 - N 5) from by rw [Nat.sub_self]]
  exact K_sub [2, 1, 0] rfl (loop (N 2) h2 N σ π hR hF (Nat.le_refl _) hI (Nat.le_refl _) rfl)
