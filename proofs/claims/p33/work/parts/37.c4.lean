/-! THE CLASS: sales, the hour, the night, copies -/
set_option maxHeartbeats 4000000 in
set_option maxRecDepth 100000 in
theorem c_X4_sell (l : Launch) (D : KD) (b : Nat) {sh : List KSh} (hsh : shP sh) (σ : KS) (o : Nat) (π N : Nat → Nat) (kd g fr pr : Nat) (hP : PF σ.2.2) (ho : o ∈ shL) (hR : Rs σ o π N) (hI : qIr N) (hU : qU N) (h1 : kd < 6) (hg : g < 2 ^ 31) (hf1 : fr ≤ 100) (hp1 : pr ≤ 9999) : Ct l D b yX4_sell cX4_sell 8 (some .int) (rM 3 72) 0 0 [rf b o, .int (nI kd), .int (nI g), .int (nI fr), .int (nI pr)] sh σ sh (pS (some (.int (nI (qOr kd fr pr g 17 0 N).1))) (fun τ => SP σ τ o (qOr kd fr pr g 17 0 N).2)) := by
  obtain ⟨σ0, e0⟩ : ∃ z, z = σ := ⟨σ, rfl⟩
  have hP0 : PF σ0.2.2 := by rw [e0]; exact hP
  have hF : Fr σ0 σ o := by rw [e0]; exact Fr.rf
  refine Ct.of (ls := [(0, rf b o), (1, .int (nI kd)), (2, .int (nI g)), (3, .int (nI fr)), (4, .int (nI pr))]) (by decide) (Nat.le_of_ble_eq_true rfl) rfl ?_
  intro pg e s m args below meth c Q hQ X hnm
  refine K_iload_n X 2 dX4_sell_0 rfl rfl ?_
  refine K_istore X (ls' := [(5, _), (0, _), (1, _), (2, _), (3, _), (4, _)]) dX4_sell_1 (by decide) rfl ?_
  refine K_iconst X dX4_sell_3 cii_0 ?_
  refine K_istore X (ls' := [(6, _), (5, _), (0, _), (1, _), (2, _), (3, _), (4, _)]) dX4_sell_4 (by decide) rfl ?_
  have loop : ∀ i : Nat, i ≤ 5 → ∀ (M : Nat → Nat) (sd : Nat) (τ : KS) (π : Nat → Nat), Rs τ o π M → Fr σ0 τ o → qIr M → sd ≤ g → (sd = g ∨ qTn M (M 2) + i ≤ 5) → qOr kd fr pr g (17 - i) sd M = qOr kd fr pr g 17 0 N → K pg l e (rM 3 72) s m args below meth c Q D b 8 0 0 sh τ 6 [(0, rf b o), (1, .int (nI kd)), (2, .int (nI g)), (3, .int (nI fr)), (4, .int (nI pr)), (5, .int (nI (g - sd))), (6, .int (nI i))] [] := by
    refine kup (fun i hi ih => ?_)
    intro M sd σ π hR hF hI hsg hT hQ2
    have hP := hF.PF ho hP0
    refine K_iload X 6 dX4_sell_6 rfl ?_
    refine K_iconst X dX4_sell_8 cii_5 ?_
    refine K_icmpN_ge (tgt := 63) X dX4_sell_9 (by decide) (by omega) (by omega) (fun c9 => ?_) (fun c9 => ?_)
    · refine K_iload_n X 2 dX4_sell_63 rfl rfl ?_
      refine K_iload X 5 dX4_sell_64 rfl ?_
      refine K_isubN X dX4_sell_66 (by omega) ?_
      exact K_iret X hQ dX4_sell_67 (by rw [show 17 - i = (16 - i) + 1 from by omega, qOr_end (fun z => by have hTn : sd < g → qTn M (M 2) = 0 := by { intro z; omega }; rcases hq : qNx M kd fr pr (M 2) with _ | j; (rfl); (have := hTn z; have := qTn_pos (qNx_lt hq) (qFits_t (qNx_fits hq)); omega))] at hQ2; rw [← hQ2, show g - (g - sd) = sd from by omega]; exact ⟨rfl, ⟨_, hR⟩, by rw [← e0]; exact hF⟩)
    · refine K_iload X 5 dX4_sell_12 rfl ?_
      refine K_ifN_le (tgt := 63) X dX4_sell_14 (by decide) (by omega) (fun c14 => ?_) (fun c14 => ?_)
      · refine K_iload_n X 2 dX4_sell_63 rfl rfl ?_
        refine K_iload X 5 dX4_sell_64 rfl ?_
        refine K_isubN X dX4_sell_66 (by omega) ?_
        exact K_iret X hQ dX4_sell_67 (by rw [show 17 - i = (16 - i) + 1 from by omega, qOr_end (fun z => by omega)] at hQ2; rw [← hQ2, show g - (g - sd) = sd from by omega]; exact ⟨rfl, ⟨_, hR⟩, by rw [← e0]; exact hF⟩)
      · refine K_aload_n X 0 dX4_sell_17 rfl rfl ?_
        refine K_iload_n X 1 dX4_sell_18 rfl rfl ?_
        refine K_iload_n X 3 dX4_sell_19 rfl rfl ?_
        refine K_aload_n X 0 dX4_sell_20 rfl rfl ?_
        refine K_get X 3 kFd4 rfl (by decide) (so_0 hsh o ho) wf_X4_15 rfl (v := .int (nI (M 9))) (congrArg Value.int (rs_i hR 3 (by decide))) dX4_sell_21 ?_
        refine K_max X wm_X4_136 wt_max wn_Math wc_max ⟨Nat.le_of_ble_eq_true rfl, Nat.le_of_ble_eq_true rfl, Nat.le_of_ble_eq_true rfl, Nat.le_of_ble_eq_true rfl⟩ dX4_sell_24 ?_
        rw [kMax (by omega) (by have := qi_9 hI; omega)]
        refine K_iload X 4 dX4_sell_27 rfl ?_
        refine K_callVE X (c_X4_nextLotToSell l D b hsh _ _ _ _ _ _ _ _ hP ho hR hI h1 hf1 hp1 rfl) my_X4_nextLotToSell mv_X4_nextLotToSell wm_X4_141 (so_0 hsh o ho) rfl ⟨rfl, rfl, Nat.le_of_ble_eq_true rfl, Nat.le_of_ble_eq_true rfl, Nat.le_of_ble_eq_true rfl, Nat.le_of_ble_eq_true rfl⟩ rfl rfl (Nat.le_of_ble_eq_true rfl) dX4_sell_29 ?_
        refine K_istore X (ls' := [(7, _), (0, _), (1, _), (2, _), (3, _), (4, _), (5, _), (6, _)]) dX4_sell_32 (by decide) rfl ?_
        refine K_iload X 0 dX4_sell_34 rfl ?_
        refine K_bipush X dX4_sell_36 cib_m6 ?_
        refine K_icmp_ne (tgt := 44) X dX4_sell_38 (by decide) (fun c38 => ?_) (fun c38 => ?_)
        · obtain ⟨k, hk⟩ := qO_ex c38
          have hkl := qNx_lt hk
          rw [hk]
          have hg1 : sd < g := by omega
          have hmw : qMuch M k (g - sd) ≤ g - sd := by unfold qMuch; split <;> omega
          have hml : qMuch M k (g - sd) ≤ qL M k 2 := by unfold qMuch; split <;> omega
          have h6 := qFits_t (qNx_fits hk)
          obtain ⟨a1, a2, a3⟩ := qSell_k hI hkl hml
          refine K_iload X 6 dX4_sell_44 rfl ?_
          refine K_aload_n X 1 dX4_sell_46 rfl rfl ?_
          refine K_iload X 0 dX4_sell_47 rfl ?_
          refine K_iload X 6 dX4_sell_49 rfl ?_
          refine K_callVP X (c_X4_sellFromLotAt l D b hsh _ _ _ _ _ _ hP ho hR hI hkl (by omega)) my_X4_sellFromLotAt mv_X4_sellFromLotAt wm_X4_144 (so_0 hsh o ho) rfl ⟨rfl, rfl, Nat.le_of_ble_eq_true rfl, Nat.le_of_ble_eq_true rfl, Nat.le_of_ble_eq_true rfl, Nat.le_of_ble_eq_true rfl⟩ rfl rfl (Nat.le_of_ble_eq_true rfl) dX4_sell_51 (fun σ51 h51 => ?_)
          refine K_gen (φ := fun τ => SP _ τ o _) h51 (fun σ h => ?_)
          obtain ⟨⟨π, hR⟩, hF1⟩ := h
          have hF := hF.tr hF1
          have hP := hF.PF ho hP0
          refine K_isubN X dX4_sell_54 (by exact hmw) ?_
          rw [Nat.sub_sub]
          refine K_istore X (ls' := [(5, _), (7, _), (0, _), (1, _), (2, _), (3, _), (4, _), (6, _)]) dX4_sell_55 (by decide) rfl ?_
          refine K_iinc X 7 (ls' := [(6, _), (5, _), (7, _), (0, _), (1, _), (2, _), (3, _), (4, _)]) dX4_sell_57 rfl (inc_1 _) (by decide) rfl ?_
          refine K_goto (tgt := 6) X dX4_sell_60 (by decide) ?_
          rw [show 17 - i = (16 - i) + 1 from by omega, qOr_go hk hg1] at hQ2
          exact K_sub [3, 4, 5, 6, 7, 1, 0] rfl (ih (by omega) (qSell M k (qMuch M k (g - sd))) (sd + qMuch M k (g - sd)) σ _ hR hF a1 (by omega) (by by_cases z : qL M k 2 < g - sd; (have hz : qMuch M k (g - sd) = qL M k 2 := if_pos z; have := qTn_sell hkl h6 (m := qMuch M k (g - sd)) (by omega); have := hT; omega); (have hz : qMuch M k (g - sd) = g - sd := if_neg z; omega)) (by rw [show 17 - (i + 1) = 16 - i from by omega]; exact hQ2))
        · refine K_goto (tgt := 63) X dX4_sell_41 (by decide) ?_
          refine K_iload_n X 3 dX4_sell_63 rfl rfl ?_
          refine K_iload X 6 dX4_sell_64 rfl ?_
          refine K_isubN X dX4_sell_66 (by omega) ?_
          exact K_iret X hQ dX4_sell_67 (by rw [show 17 - i = (16 - i) + 1 from by omega, qOr_end (fun z => (qO_n (fun j hj => by have := qNx_lt hj; have := qi_2 hI; omega)).mp c38)] at hQ2; rw [← hQ2, show g - (g - sd) = sd from by omega]; exact ⟨rfl, ⟨_, hR⟩, by rw [← e0]; exact hF⟩)
  exact K_sub [2, 3, 4, 5, 6, 1, 0] rfl (loop 0 (Nat.zero_le _) N 0 σ π hR hF hI (Nat.zero_le _) (by have := qTn_5 hI hU; omega) rfl)

theorem c_X5_iceB (l : Launch) (D : KD) (b : Nat) {sh : List KSh} (hsh : shP sh) (σ : KS) (ic me : Nat) (h1 : ic < 2 ^ 30) (h2 : me ≤ 500) : Ct l D b yX5_iceAnHourLater cX5_iceAnHourLater 3 (some .int) (rM 1 21) 0 0 [.int (nI ic), .int (nI 0), .int (nI me)] sh σ sh (pE (some (.int (nI (ic - me)))) σ) := by
  have h := c_X5_iceAnHourLater l D b hsh σ ic 0 me h1 h2
  rw [if_neg (by decide), show kB (qTray 0) = nI 0 from by decide] at h
  exact h
theorem c_X5_iceT (l : Launch) (D : KD) (b : Nat) {sh : List KSh} (hsh : shP sh) (σ : KS) (ic me : Nat) (h1 : ic < 2 ^ 30) (h2 : me ≤ 500) : Ct l D b yX5_iceAnHourLater cX5_iceAnHourLater 3 (some .int) (rM 1 21) 0 0 [.int (nI ic), .int (nI 1), .int (nI me)] sh σ sh (pE (some (.int (nI (ic - 2 * me)))) σ) := by
  have h := c_X5_iceAnHourLater l D b hsh σ ic 6 me h1 h2
  rw [if_pos (by decide), show kB (qTray 6) = nI 1 from by decide] at h
  exact h

set_option maxHeartbeats 4000000 in
set_option maxRecDepth 100000 in
theorem c_X4_passHour (l : Launch) (D : KD) (b : Nat) {sh : List KSh} (hsh : shP sh) (σ : KS) (o : Nat) (π N : Nat → Nat) (hP : PF σ.2.2) (ho : o ∈ shL) (hR : Rs σ o π N) (hI : qIr N) : Ct l D b yX4_passHour cX4_passHour 3 none (rM 3 63) 0 0 [rf b o] sh σ sh (pS none (fun τ => SP σ τ o (qPass N))) := by
  obtain ⟨σ0, e0⟩ : ∃ z, z = σ := ⟨σ, rfl⟩
  have hP0 : PF σ0.2.2 := by rw [e0]; exact hP
  have hF : Fr σ0 σ o := by rw [e0]; exact Fr.rf
  have h2 := qi_2 hI
  refine Ct.of (ls := [(0, rf b o)]) (by decide) (Nat.le_of_ble_eq_true rfl) rfl ?_
  intro pg e s m args below meth c Q hQ X hnm
  refine K_iconst X dX4_passHour_0 cii_0 ?_
  refine K_istore_n X (ls' := [(1, _), (0, _)]) dX4_passHour_1 rfl (by decide) rfl ?_
  have loop : ∀ i : Nat, i ≤ N 2 → ∀ (τ : KS), Rs τ o π (qP1 N i) → Fr σ0 τ o → K pg l e (rM 3 63) s m args below meth c Q D b 3 0 0 sh τ 2 [(0, rf b o), (1, .int (nI i))] [] := by
    refine kup (fun i hi ih => ?_)
    intro σ hR hF
    have hP := hF.PF ho hP0
    obtain ⟨hIM, hM2⟩ := qIr_P1 hI hi
    refine K_iload_n X 1 dX4_passHour_2 rfl rfl ?_
    refine K_aload_n X 0 dX4_passHour_3 rfl rfl ?_
    refine K_get X 5 kFd4 rfl (by decide) (so_0 hsh o ho) wf_X4_50 rfl (v := .int (nI ((qP1 N i) 2))) (congrArg Value.int (rs_i hR 5 (by decide))) dX4_passHour_4 ?_
    rw [hM2]
    refine K_icmpN_ge (tgt := 43) X dX4_passHour_7 (by decide) (by omega) (by omega) (fun c7 => ?_) (fun c7 => ?_)
    · refine K_iconst X dX4_passHour_43 cii_0 ?_
      refine K_istore_n X (ls' := [(1, _), (0, _)]) dX4_passHour_44 rfl (by decide) rfl ?_
      have loop2 : ∀ j : Nat, j ≤ 6 → ∀ (τ : KS), Rs τ o π (qP2 (qP1 N (N 2)) j) → Fr σ0 τ o → K pg l e (rM 3 63) s m args below meth c Q D b 3 0 0 sh τ 45 [(0, rf b o), (1, .int (nI j))] [] := by
        refine kup (fun j hj jh => ?_)
        intro σ hR hF
        have hP := hF.PF ho hP0
        have hI2 := (qIr_P2 (j := j) (qIr_P1 hI (Nat.le_refl _)).1 (by omega)).1
        have e2 : qP2 (qP1 N (N 2)) j 2 = N 2 := (qIr_P2 (qIr_P1 hI (Nat.le_refl _)).1 (by omega)).2.trans (qIr_P1 hI (Nat.le_refl _)).2
        refine K_iload_n X 1 dX4_passHour_45 rfl rfl ?_
        refine K_bipush X dX4_passHour_46 cib_6 ?_
        refine K_icmpN_ge (tgt := 77) X dX4_passHour_48 (by decide) (by omega) (by omega) (fun c48 => ?_) (fun c48 => ?_)
        · refine K_iconst X dX4_passHour_77 cii_0 ?_
          refine K_istore_n X (ls' := [(1, _), (0, _)]) dX4_passHour_78 rfl (by decide) rfl ?_
          have loop3 : ∀ j : Nat, j ≤ 5 → ∀ (τ : KS), Rs τ o π (qP2 (qP1 N (N 2)) (6 + j)) → Fr σ0 τ o → K pg l e (rM 3 63) s m args below meth c Q D b 3 0 0 sh τ 79 [(0, rf b o), (1, .int (nI j))] [] := by
            refine kup (fun j hj jh => ?_)
            intro σ hR hF
            have hP := hF.PF ho hP0
            have hI2 := (qIr_P2 (j := 6 + j) (qIr_P1 hI (Nat.le_refl _)).1 (by omega)).1
            refine K_iload_n X 1 dX4_passHour_79 rfl rfl ?_
            refine K_iconst X dX4_passHour_80 cii_5 ?_
            refine K_icmpN_ge (tgt := 110) X dX4_passHour_81 (by decide) (by omega) (by omega) (fun c81 => ?_) (fun c81 => ?_)
            · rw [show 6 + j = 11 from by omega] at hR
              refine K_aload_n X 0 dX4_passHour_110 rfl rfl ?_
              refine K_dup X dX4_passHour_111 rfl ?_
              refine K_get X 1 kFd4 rfl (by decide) (so_0 hsh o ho) wf_X4_44 rfl (v := .int (nI (N 1))) (congrArg Value.int ((rs_i hR 1 (by decide)).trans (congrArg nI (show qP2 (qP1 N (N 2)) 11 1 = N 1 from (qP2_n (by omega)).trans (qP1_n (fun z _ => by omega)))))) dX4_passHour_112 ?_
              refine K_iconst X dX4_passHour_115 cii_1 ?_
              refine K_iaddN X dX4_passHour_116 ?_
              refine K_putI X 1 kFd4 rfl (by decide) (so_0 hsh o ho) wf_X4_44 rfl rfl rfl dX4_passHour_117 ?_
              refine K_gen (φ := fun τ => Rs τ o π (qPass N) ∧ Fr _ τ o) ⟨hR.int (by rw [(qIr_P2 (qIr_P1 hI (Nat.le_refl _)).1 (Nat.le_refl _)).2, (qIr_P1 hI (Nat.le_refl _)).2]; exact h2) (k := 1) (by decide), hF.tr (Fr.i (by omega) (by omega))⟩ (fun σ hs => ?_)
              obtain ⟨hR, hF⟩ := hs
              have hP := hF.PF ho hP0
              exact K_vret X hQ dX4_passHour_120 (⟨rfl, ⟨_, hR⟩, by rw [← e0]; exact hF⟩)
            · refine K_aload_n X 0 dX4_passHour_84 rfl rfl ?_
              refine K_get X 15 kFd4 rfl (by decide) (so_0 hsh o ho) wf_X4_31 rfl (v := rf b (o + 5)) (kv_a (ps_15 hP ho)) dX4_passHour_85 ?_
              refine K_iload_n X 1 dX4_passHour_88 rfl rfl ?_
              refine K_aload_n X 0 dX4_passHour_89 rfl rfl ?_
              refine K_get X 15 kFd4 rfl (by decide) (so_0 hsh o ho) wf_X4_31 rfl (v := rf b (o + 5)) (kv_a (ps_15 hP ho)) dX4_passHour_90 ?_
              refine K_iload_n X 1 dX4_passHour_93 rfl rfl ?_
              refine K_iald X _ (so_5 hsh o ho) rfl (by omega) (by decide) (x := nI ((qP2 (qP1 N (N 2)) (6 + j)) (40 + j))) (rs_a hR 5 (by decide) (by decide) (show _ < 5 from by omega)) dX4_passHour_94 ?_
              refine K_iconst X dX4_passHour_95 cii_1 ?_
              refine K_aload_n X 0 dX4_passHour_96 rfl rfl ?_
              refine K_get X 2 kFd4 rfl (by decide) (so_0 hsh o ho) wf_X4_9 rfl (v := .int (nI ((qP2 (qP1 N (N 2)) (6 + j)) 8))) (congrArg Value.int (rs_i hR 2 (by decide))) dX4_passHour_97 ?_
              refine K_callSNE (host := RX5) X (c_X5_iceT l D b hsh _ _ _ (by have := qi_i hI2 (show 6 + j < 11 from by omega); rw [show 34 + (6 + j) = 40 + j from by omega] at this; omega) (qi_8 hI2)) my_X5_iceAnHourLater wt_X5_iceAnHourLater (by decide +kernel) ⟨rfl, rfl, Nat.le_of_ble_eq_true rfl, Nat.le_of_ble_eq_true rfl, Nat.le_of_ble_eq_true rfl, Nat.le_of_ble_eq_true rfl⟩ rfl rfl (Nat.le_of_ble_eq_true rfl) dX4_passHour_100 ?_
              refine K_iast X _ (so_5 hsh o ho) rfl (by omega) (by decide) dX4_passHour_103 ?_
              refine K_gen (φ := fun τ => Rs τ o π (qP2 (qP1 N (N 2)) (6 + (j + 1))) ∧ Fr _ τ o) ⟨(by have h := hR.arr (a := 5) (k := j) (v := (qP2 (qP1 N (N 2)) (6 + j)) (40 + j) - 2 * (qP2 (qP1 N (N 2)) (6 + j)) 8) (by decide) (by decide) (show j < 5 from by omega); rw [show qP2 (qP1 N (N 2)) (6 + (j + 1)) = uN (qP2 (qP1 N (N 2)) (6 + j)) (34 + (6 + j)) ((qP2 (qP1 N (N 2)) (6 + j)) (34 + (6 + j)) - 2 * (qP2 (qP1 N (N 2)) (6 + j)) 8) from congrArg (fun z => uN (qP2 (qP1 N (N 2)) (6 + j)) (34 + (6 + j)) ((qP2 (qP1 N (N 2)) (6 + j)) (34 + (6 + j)) - z)) (if_pos (Nat.le_add_right 6 j)), show 34 + (6 + j) = 40 + j from by omega]; exact h), hF.tr (Fr.i (by omega) (by omega))⟩ (fun σ hs => ?_)
              obtain ⟨hR, hF⟩ := hs
              have hP := hF.PF ho hP0
              refine K_iinc X 1 (ls' := [(1, _), (0, _)]) dX4_passHour_104 rfl (inc_1 _) (by decide) rfl ?_
              refine K_goto (tgt := 79) X dX4_passHour_107 (by decide) ?_
              exact K_sub [1, 0] rfl (jh (by omega) σ hR hF)
          exact K_sub [1, 0] rfl (loop3 0 (Nat.zero_le _) σ (by rw [show j = 6 from by omega] at hR; exact hR) hF)
        · refine K_aload_n X 0 dX4_passHour_51 rfl rfl ?_
          refine K_get X 14 kFd4 rfl (by decide) (so_0 hsh o ho) wf_X4_28 rfl (v := rf b (o + 4)) (kv_a (ps_14 hP ho)) dX4_passHour_52 ?_
          refine K_iload_n X 1 dX4_passHour_55 rfl rfl ?_
          refine K_aload_n X 0 dX4_passHour_56 rfl rfl ?_
          refine K_get X 14 kFd4 rfl (by decide) (so_0 hsh o ho) wf_X4_28 rfl (v := rf b (o + 4)) (kv_a (ps_14 hP ho)) dX4_passHour_57 ?_
          refine K_iload_n X 1 dX4_passHour_60 rfl rfl ?_
          refine K_iald X _ (so_4 hsh o ho) rfl (by omega) (by decide) (x := nI ((qP2 (qP1 N (N 2)) j) (34 + j))) (rs_a hR 4 (by decide) (by decide) (show _ < 6 from by omega)) dX4_passHour_61 ?_
          refine K_iconst X dX4_passHour_62 cii_0 ?_
          refine K_aload_n X 0 dX4_passHour_63 rfl rfl ?_
          refine K_get X 2 kFd4 rfl (by decide) (so_0 hsh o ho) wf_X4_9 rfl (v := .int (nI ((qP2 (qP1 N (N 2)) j) 8))) (congrArg Value.int (rs_i hR 2 (by decide))) dX4_passHour_64 ?_
          refine K_callSNE (host := RX5) X (c_X5_iceB l D b hsh _ _ _ (by have := qi_i hI2 (show j < 11 from by omega); omega) (qi_8 hI2)) my_X5_iceAnHourLater wt_X5_iceAnHourLater (by decide +kernel) ⟨rfl, rfl, Nat.le_of_ble_eq_true rfl, Nat.le_of_ble_eq_true rfl, Nat.le_of_ble_eq_true rfl, Nat.le_of_ble_eq_true rfl⟩ rfl rfl (Nat.le_of_ble_eq_true rfl) dX4_passHour_67 ?_
          refine K_iast X _ (so_4 hsh o ho) rfl (by omega) (by decide) dX4_passHour_70 ?_
          refine K_gen (φ := fun τ => Rs τ o π (qP2 (qP1 N (N 2)) (j + 1)) ∧ Fr _ τ o) ⟨(by have h := hR.arr (a := 4) (k := j) (v := (qP2 (qP1 N (N 2)) j) (34 + j) - (qP2 (qP1 N (N 2)) j) 8) (by decide) (by decide) (show j < 6 from by omega); rw [show qP2 (qP1 N (N 2)) (j + 1) = uN (qP2 (qP1 N (N 2)) j) (34 + j) ((qP2 (qP1 N (N 2)) j) (34 + j) - (qP2 (qP1 N (N 2)) j) 8) from congrArg (fun z => uN (qP2 (qP1 N (N 2)) j) (34 + j) ((qP2 (qP1 N (N 2)) j) (34 + j) - z)) (if_neg (by omega))]; exact h), hF.tr (Fr.i (by omega) (by omega))⟩ (fun σ hs => ?_)
          obtain ⟨hR, hF⟩ := hs
          have hP := hF.PF ho hP0
          refine K_iinc X 1 (ls' := [(1, _), (0, _)]) dX4_passHour_71 rfl (inc_1 _) (by decide) rfl ?_
          refine K_goto (tgt := 45) X dX4_passHour_74 (by decide) ?_
          exact K_sub [1, 0] rfl (jh (by omega) σ hR hF)
      exact K_sub [1, 0] rfl (loop2 0 (Nat.zero_le _) σ (by rw [show i = N 2 from by omega] at hR; exact hR) hF)
    · have hty : kB (decide (qTy (qL (qP1 N i) i 4) ≠ -6)) = kB (qTray (qL (qP1 N i) i 4)) := by congr 1; exact decide_eq_decide.mpr ⟨fun z => Decidable.byContradiction (fun y => z ((qTy_n (by have := qi_l4 hIM (show i < qP1 N i 2 from by omega); omega)).mpr y)), fun z y => (qTy_n (by have := qi_l4 hIM (show i < qP1 N i 2 from by omega); omega)).mp y z⟩
      refine K_aload_n X 0 dX4_passHour_10 rfl rfl ?_
      refine K_get X 16 kFd4 rfl (by decide) (so_0 hsh o ho) wf_X4_36 rfl (v := rf b (o + 6)) (kv_a (ps_16 hP ho)) dX4_passHour_11 ?_
      refine K_iload_n X 1 dX4_passHour_14 rfl rfl ?_
      refine K_aald (z := o + 7 + π i) X _ (so_6 hsh o ho) (by decide) rfl (by omega) (by decide) (rs_r hR (by omega)) dX4_passHour_15 ?_
      refine K_astore_n X (ls' := [(2, _), (0, _), (1, _)]) dX4_passHour_16 rfl (by decide) rfl ?_
      refine K_aload_n X 0 dX4_passHour_17 rfl rfl ?_
      refine K_aload_n X 0 dX4_passHour_18 rfl rfl ?_
      refine K_get X 3 kFd3 rfl (by decide) (so_l hsh ho (rs_lt hR (by omega))) wf_X4_104 rfl (v := .int (nI (qL (qP1 N i) i 3))) (congrArg Value.int (rs_l hR (show i < qP1 N i 2 from by omega) 3 (by decide))) dX4_passHour_19 ?_
      refine K_aload_n X 0 dX4_passHour_22 rfl rfl ?_
      refine K_callVE X (c_X3_isOnTray l D b hsh _ _ _ (so_l hsh ho (rs_lt hR (by omega))) (rs_l5 hR (show i < qP1 N i 2 from by omega))) my_X3_isOnTray mv_X3_isOnTray wm_X4_147 (so_l hsh ho (rs_lt hR (by omega))) rfl ⟨rfl, rfl, Nat.le_of_ble_eq_true rfl, Nat.le_of_ble_eq_true rfl, Nat.le_of_ble_eq_true rfl, Nat.le_of_ble_eq_true rfl⟩ rfl rfl (Nat.le_of_ble_eq_true rfl) dX4_passHour_23 ?_
      rw [hty]
      refine K_aload_n X 1 dX4_passHour_26 rfl rfl ?_
      refine K_aload_n X 0 dX4_passHour_27 rfl rfl ?_
      refine K_callVE X (c_X4_iceAt l D b hsh _ _ _ _ _ hP ho hR hIM (show i < qP1 N i 2 from by omega)) my_X4_iceAt mv_X4_iceAt wm_X4_158 (so_0 hsh o ho) rfl ⟨rfl, rfl, Nat.le_of_ble_eq_true rfl, Nat.le_of_ble_eq_true rfl, Nat.le_of_ble_eq_true rfl, Nat.le_of_ble_eq_true rfl⟩ rfl rfl (Nat.le_of_ble_eq_true rfl) dX4_passHour_28 ?_
      refine K_callSNE (host := RX5) X (c_X5_freshAnHourLater l D b hsh _ _ _ _ (by have := qi_l3 hIM (show i < qP1 N i 2 from by omega); omega) (by have := qi_i hIM (qi_l4 hIM (show i < qP1 N i 2 from by omega)); omega)) my_X5_freshAnHourLater wt_X5_freshAnHourLater (by decide +kernel) ⟨rfl, rfl, Nat.le_of_ble_eq_true rfl, Nat.le_of_ble_eq_true rfl, Nat.le_of_ble_eq_true rfl, Nat.le_of_ble_eq_true rfl⟩ rfl rfl (Nat.le_of_ble_eq_true rfl) dX4_passHour_31 ?_
      refine K_putI X 3 kFd3 rfl (by decide) (so_l hsh ho (rs_lt hR (by omega))) wf_X4_104 rfl rfl rfl dX4_passHour_34 ?_
      refine K_gen (φ := fun τ => Rs τ o π (qP1 N (i + 1)) ∧ Fr _ τ o) ⟨Rs.lotf hR (by omega) (show i < qP1 N i 2 from by omega) (show 3 < 4 from by decide), hF.tr (Fr.i (by omega) (by have := rs_lt hR (show i < 16 from by omega); omega))⟩ (fun σ hs => ?_)
      obtain ⟨hR, hF⟩ := hs
      have hP := hF.PF ho hP0
      refine K_iinc X 2 (ls' := [(1, _), (2, _), (0, _)]) dX4_passHour_37 rfl (inc_1 _) (by decide) rfl ?_
      refine K_goto (tgt := 2) X dX4_passHour_40 (by decide) ?_
      exact K_sub [2, 0] rfl (ih (by omega) σ hR hF)
  exact K_sub [1, 0] rfl (loop 0 (Nat.zero_le _) σ hR hF)

set_option maxHeartbeats 4000000 in
set_option maxRecDepth 100000 in
theorem c_X4_discardLotsBelowLimit (l : Launch) (D : KD) (b : Nat) {sh : List KSh} (hsh : shP sh) (σ : KS) (o : Nat) (π N : Nat → Nat) (hP : PF σ.2.2) (ho : o ∈ shL) (hR : Rs σ o π N) (hI : qIr N) : Ct l D b yX4_discardLotsBelowLimit cX4_discardLotsBelowLimit 3 (some .int) (rM 2 45) 0 0 [rf b o] sh σ sh (pS (some (.int (nI (qC1 (N 2) N 5 - N 5)))) (fun τ => SP σ τ o (qC1 (N 2) N))) := by
  obtain ⟨σ0, e0⟩ : ∃ z, z = σ := ⟨σ, rfl⟩
  have hP0 : PF σ0.2.2 := by rw [e0]; exact hP
  have hF : Fr σ0 σ o := by rw [e0]; exact Fr.rf
  have h2 := qi_2 hI
  refine Ct.of (ls := [(0, rf b o)]) (by decide) (Nat.le_of_ble_eq_true rfl) rfl ?_
  intro pg e s m args below meth c Q hQ X hnm
  refine K_iconst X dX4_discardLotsBelowLimit_0 cii_0 ?_
  refine K_istore_n X (ls' := [(1, _), (0, _)]) dX4_discardLotsBelowLimit_1 rfl (by decide) rfl ?_
  refine K_aload_n X 1 dX4_discardLotsBelowLimit_2 rfl rfl ?_
  refine K_get X 5 kFd4 rfl (by decide) (so_0 hsh o ho) wf_X4_50 rfl (v := .int (nI (N 2))) (congrArg Value.int (rs_i hR 5 (by decide))) dX4_discardLotsBelowLimit_3 ?_
  refine K_iconst X dX4_discardLotsBelowLimit_6 cii_1 ?_
  refine K_isub X dX4_discardLotsBelowLimit_7 ?_
  rw [qM_sub]
  refine K_istore_n X (ls' := [(2, _), (1, _), (0, _)]) dX4_discardLotsBelowLimit_8 rfl (by decide) rfl ?_
  have loop : ∀ i : Nat, i ≤ 16 → ∀ (M : Nat → Nat) (τ : KS) (π : Nat → Nat), Rs τ o π M → Fr σ0 τ o → i ≤ M 2 → qIr M → N 5 ≤ M 5 → qC1 i M = qC1 (N 2) N → K pg l e (rM 2 45) s m args below meth c Q D b 3 0 0 sh τ 9 [(0, rf b o), (1, .int (nI (M 5 - N 5))), (2, .int (qM i))] [] := by
    intro i
    induction i with
    | zero =>
      intro hi M σ π hR hF hiM hIM h5 hQ2
      have hP := hF.PF ho hP0
      have hM2 := qi_2 hIM
      refine K_iload_n X 2 dX4_discardLotsBelowLimit_9 rfl rfl ?_
      refine K_if_lt (tgt := 43) X dX4_discardLotsBelowLimit_10 (by decide) (fun c10 => ?_) (fun c10 => ?_)
      · refine K_iload_n X 1 dX4_discardLotsBelowLimit_43 rfl rfl ?_
        exact K_iret X hQ dX4_discardLotsBelowLimit_44 (by rw [← hQ2]; exact ⟨rfl, ⟨_, hR⟩, by rw [← e0]; exact hF⟩)
      · exact absurd (show (-1 : Int32) < 0 from by decide) c10
    | succ i ih =>
      intro hi M σ π hR hF hiM hIM h5 hQ2
      have hP := hF.PF ho hP0
      have hM2 := qi_2 hIM
      refine K_iload_n X 2 dX4_discardLotsBelowLimit_9 rfl rfl ?_
      refine K_if_lt (tgt := 43) X dX4_discardLotsBelowLimit_10 (by decide) (fun c10 => ?_) (fun c10 => ?_)
      · exact absurd c10 (nI_pos (by omega))
      · refine K_aload_n X 0 dX4_discardLotsBelowLimit_13 rfl rfl ?_
        refine K_get X 16 kFd4 rfl (by decide) (so_0 hsh o ho) wf_X4_36 rfl (v := rf b (o + 6)) (kv_a (ps_16 hP ho)) dX4_discardLotsBelowLimit_14 ?_
        refine K_iload_n X 2 dX4_discardLotsBelowLimit_17 rfl rfl ?_
        refine K_aald (z := o + 7 + π i) X _ (so_6 hsh o ho) (by decide) rfl (by omega) (by decide) (rs_r hR (by omega)) dX4_discardLotsBelowLimit_18 ?_
        refine K_get X 3 kFd3 rfl (by decide) (so_l hsh ho (rs_lt hR (by omega))) wf_X4_104 rfl (v := .int (nI (qL M i 3))) (congrArg Value.int (rs_l hR (show i < M 2 from by omega) 3 (by decide))) dX4_discardLotsBelowLimit_19 ?_
        refine K_aload_n X 0 dX4_discardLotsBelowLimit_22 rfl rfl ?_
        refine K_get X 3 kFd4 rfl (by decide) (so_0 hsh o ho) wf_X4_15 rfl (v := .int (nI (M 9))) (congrArg Value.int (rs_i hR 3 (by decide))) dX4_discardLotsBelowLimit_23 ?_
        refine K_icmpN_ge (tgt := 37) X dX4_discardLotsBelowLimit_26 (by decide) (by have := qi_l3 hIM (show i < M 2 from by omega); omega) (by have := qi_9 hIM; omega) (fun c26 => ?_) (fun c26 => ?_)
        · refine K_iinc X 2 (ls' := [(2, _), (0, _), (1, _)]) dX4_discardLotsBelowLimit_37 rfl (inc_mq _) (by decide) rfl ?_
          refine K_goto (tgt := 9) X dX4_discardLotsBelowLimit_40 (by decide) ?_
          rw [show qC1 (i + 1) M = qC1 i M from congrArg (qC1 i) (if_pos (decide_eq_true (by omega)))] at hQ2
          exact K_sub [1, 2, 0] rfl (ih (by omega) M σ _ hR hF (by omega) hIM h5 hQ2)
        · refine K_iload_n X 1 dX4_discardLotsBelowLimit_29 rfl rfl ?_
          refine K_aload_n X 0 dX4_discardLotsBelowLimit_30 rfl rfl ?_
          refine K_iload_n X 2 dX4_discardLotsBelowLimit_31 rfl rfl ?_
          refine K_callVP X (c_X4_discardLotAt l D b hsh _ _ _ _ _ hP ho hR hIM (show i < M 2 from by omega)) my_X4_discardLotAt mv_X4_discardLotAt wm_X4_175 (so_0 hsh o ho) rfl ⟨rfl, rfl, Nat.le_of_ble_eq_true rfl, Nat.le_of_ble_eq_true rfl, Nat.le_of_ble_eq_true rfl, Nat.le_of_ble_eq_true rfl⟩ rfl rfl (Nat.le_of_ble_eq_true rfl) dX4_discardLotsBelowLimit_32 (fun σ32 h32 => ?_)
          refine K_gen (φ := fun τ => SP _ τ o _) h32 (fun σ h => ?_)
          obtain ⟨⟨π, hR⟩, hF1⟩ := h
          have hF := hF.tr hF1
          have hP := hF.PF ho hP0
          refine K_iaddN X dX4_discardLotsBelowLimit_35 ?_
          refine K_istore_n X (ls' := [(1, _), (0, _), (2, _)]) dX4_discardLotsBelowLimit_36 rfl (by decide) rfl ?_
          refine K_iinc X 2 (ls' := [(2, _), (1, _), (0, _)]) dX4_discardLotsBelowLimit_37 rfl (inc_mq _) (by decide) rfl ?_
          refine K_goto (tgt := 9) X dX4_discardLotsBelowLimit_40 (by decide) ?_
          rw [show qC1 (i + 1) M = qC1 i (qThrow M i) from congrArg (qC1 i) (if_neg (fun z => by have := of_decide_eq_true z; omega))] at hQ2
          have ht5 := qThrow_5 (N := M) (k := i) (by omega)
          rw [show M 5 - N 5 + qL M i 2 = qThrow M i 5 - N 5 from by omega]
          exact K_sub [2, 1, 0] rfl (ih (by omega) (qThrow M i) σ _ hR hF (by rw [qThrow_2 (by omega)]; omega) (qIr_throw hIM (by omega)) (by omega) hQ2)
  rw [show nI 0 = nI (N 5 - N 5) from by rw [Nat.sub_self]]
  exact K_sub [2, 1, 0] rfl (loop (N 2) h2 N σ π hR hF (Nat.le_refl _) hI (Nat.le_refl _) rfl)

set_option maxHeartbeats 4000000 in
set_option maxRecDepth 100000 in
theorem c_X4_clearTray (l : Launch) (D : KD) (b : Nat) {sh : List KSh} (hsh : shP sh) (σ : KS) (o : Nat) (π N : Nat → Nat) (t : Nat) (hP : PF σ.2.2) (ho : o ∈ shL) (hR : Rs σ o π N) (hI : qIr N) (hU : qU N) (hB : N 10 < 2 ^ 31) (h1 : t < 5) : Ct l D b yX4_clearTray cX4_clearTray 4 (some .int) (rM 3 67) 0 0 [rf b o, .int (nI t)] sh σ sh (pS (some (.int (nI (qC2s N (6 + t) 5 - N 5)))) (fun τ => SP σ τ o (uN (qC2s N (6 + t)) (34 + (6 + t)) 0))) := by
  obtain ⟨σ0, e0⟩ : ∃ z, z = σ := ⟨σ, rfl⟩
  have hP0 : PF σ0.2.2 := by rw [e0]; exact hP
  have hF : Fr σ0 σ o := by rw [e0]; exact Fr.rf
  have h2 := qi_2 hI
  have hIM : qIr (uN N (34 + (6 + t)) 0) := qIr_ice hI (by omega) (by omega)
  have hUM : qU (uN N (34 + (6 + t)) 0) := qU_lo hU (by omega) (by omega) (by omega)
  have e2 : (uN N (34 + (6 + t)) 0) 2 = N 2 := uN_n (by omega)
  have hfst : qFst (uN N (34 + (6 + t)) 0) (6 + t) ((uN N (34 + (6 + t)) 0) 2) none = qFst N (6 + t) (N 2) none := by rw [e2]; exact qFst_congr (fun k _ => uN_n (by omega))
  refine Ct.of (ls := [(0, rf b o), (1, .int (nI t))]) (by decide) (Nat.le_of_ble_eq_true rfl) rfl ?_
  intro pg e s m args below meth c Q hQ X hnm
  refine K_aload_n X 0 dX4_clearTray_0 rfl rfl ?_
  refine K_get X 15 kFd4 rfl (by decide) (so_0 hsh o ho) wf_X4_31 rfl (v := rf b (o + 5)) (kv_a (ps_15 hP ho)) dX4_clearTray_1 ?_
  refine K_iload_n X 1 dX4_clearTray_4 rfl rfl ?_
  refine K_iconst X dX4_clearTray_5 cii_0 ?_
  refine K_iast X _ (so_5 hsh o ho) rfl (by omega) (by decide) dX4_clearTray_6 ?_
  refine K_gen (φ := fun τ => Rs τ o π ((uN N (34 + (6 + t)) 0)) ∧ Fr _ τ o) ⟨(by have h := hR.arr (a := 5) (k := t) (v := 0) (by decide) (by decide) (show t < 5 from by omega); rw [show qAb 5 + t = 34 + (6 + t) from by show 40 + t = _; omega] at h; exact h), hF.tr (Fr.i (by omega) (by omega))⟩ (fun σ hs => ?_)
  obtain ⟨hR, hF⟩ := hs
  have hP := hF.PF ho hP0
  refine K_aload_n X 0 dX4_clearTray_7 rfl rfl ?_
  refine K_iload_n X 1 dX4_clearTray_8 rfl rfl ?_
  refine K_callVE X (c_X4_indexOnTray l D b hsh _ _ _ _ _ hP ho hR hIM h1) my_X4_indexOnTray mv_X4_indexOnTray wm_X4_89 (so_0 hsh o ho) rfl ⟨rfl, rfl, Nat.le_of_ble_eq_true rfl, Nat.le_of_ble_eq_true rfl, Nat.le_of_ble_eq_true rfl, Nat.le_of_ble_eq_true rfl⟩ rfl rfl (Nat.le_of_ble_eq_true rfl) dX4_clearTray_9 ?_
  refine K_istore_n X (ls' := [(2, _), (0, _), (1, _)]) dX4_clearTray_12 rfl (by decide) rfl ?_
  refine K_iload_n X 0 dX4_clearTray_13 rfl rfl ?_
  refine K_bipush X dX4_clearTray_14 cib_m6 ?_
  refine K_icmp_ne (tgt := 21) X dX4_clearTray_16 (by decide) (fun c16 => ?_) (fun c16 => ?_)
  · obtain ⟨j, hf⟩ := qO_ex c16
    have hjl : j < (uN N (34 + (6 + t)) 0) 2 := qFst_lt hf (Nat.le_refl _) (fun q hq => by cases hq)
    have hjN : j < N 2 := by rw [← e2]; exact hjl
    rw [hf]
    refine K_aload_n X 1 dX4_clearTray_21 rfl rfl ?_
    refine K_callVE X (c_X4_boxForTheNight l D b hsh _ _ _ _ hP ho hR hIM) my_X4_boxForTheNight mv_X4_boxForTheNight wm_X4_178 (so_0 hsh o ho) rfl ⟨rfl, rfl, Nat.le_of_ble_eq_true rfl, Nat.le_of_ble_eq_true rfl, Nat.le_of_ble_eq_true rfl, Nat.le_of_ble_eq_true rfl⟩ rfl rfl (Nat.le_of_ble_eq_true rfl) dX4_clearTray_22 ?_
    refine K_istore_n X (ls' := [(3, _), (2, _), (0, _), (1, _)]) dX4_clearTray_25 rfl (by decide) rfl ?_
    refine K_iload_n X 0 dX4_clearTray_26 rfl rfl ?_
    refine K_bipush X dX4_clearTray_27 cib_m6 ?_
    refine K_icmp_ne (tgt := 38) X dX4_clearTray_29 (by decide) (fun c29 => ?_) (fun c29 => ?_)
    · obtain ⟨bx, hbx⟩ := qO_ex c29
      have hb6 := qCold_lt hbx
      rw [hbx]
      refine K_aload_n X 2 dX4_clearTray_38 rfl rfl ?_
      refine K_get X 16 kFd4 rfl (by decide) (so_0 hsh o ho) wf_X4_36 rfl (v := rf b (o + 6)) (kv_a (ps_16 hP ho)) dX4_clearTray_39 ?_
      refine K_iload_n X 1 dX4_clearTray_42 rfl rfl ?_
      refine K_aald (z := o + 7 + π j) X _ (so_6 hsh o ho) (by decide) rfl (by omega) (by decide) (rs_r hR (by omega)) dX4_clearTray_43 ?_
      refine K_iload_n X 0 dX4_clearTray_44 rfl rfl ?_
      refine K_callVE0 X (c_X3_putInBox l D b hsh _ _ _ (so_l hsh ho (rs_lt hR (show j < 16 from by omega)))) my_X3_putInBox mv_X3_putInBox wm_X4_121 (so_l hsh ho (rs_lt hR (by omega))) rfl ⟨rfl, rfl, Nat.le_of_ble_eq_true rfl, Nat.le_of_ble_eq_true rfl, Nat.le_of_ble_eq_true rfl, Nat.le_of_ble_eq_true rfl⟩ rfl rfl (Nat.le_of_ble_eq_true rfl) dX4_clearTray_45 ?_
      refine K_gen (φ := fun τ => Rs τ o π (uN (uN N (34 + (6 + t)) 0) (45 + 5 * j + 4) bx) ∧ Fr _ τ o) ⟨Rs.box hR (by omega) hjl hb6, hF.tr (Fr.i (by omega) (by have := rs_lt hR (show j < 16 from by omega); omega))⟩ (fun σ hs => ?_)
      obtain ⟨hR, hF⟩ := hs
      have hP := hF.PF ho hP0
      refine K_iconst X dX4_clearTray_48 cii_0 ?_
      exact K_iret X hQ dX4_clearTray_49 (by have hq : qC2s (uN N (34 + (6 + t)) 0) (6 + t) = uN (uN N (34 + (6 + t)) 0) (45 + 5 * j + 4) bx := by { unfold qC2s; rw [hf]; dsimp only; rw [hbx] }; have h5 : (qC2s (uN N (34 + (6 + t)) 0) (6 + t)) 5 = (uN N (34 + (6 + t)) 0) 5 := by { rw [hq]; exact uN_n (by omega) }; rw [qC2s_u h1, show (uN (qC2s N (6 + t)) (34 + (6 + t)) 0) 5 = qC2s N (6 + t) 5 from uN_n (by omega), show (uN N (34 + (6 + t)) 0) 5 = N 5 from uN_n (by omega)] at h5; rw [show qC2s N (6 + t) 5 - N 5 = 0 from by omega, ← qC2s_u h1, hq]; exact ⟨rfl, ⟨_, hR⟩, by rw [← e0]; exact hF⟩)
    · refine K_aload_n X 2 dX4_clearTray_32 rfl rfl ?_
      refine K_iload_n X 1 dX4_clearTray_33 rfl rfl ?_
      refine K_callVP X (c_X4_discardLotAt l D b hsh _ _ _ _ _ hP ho hR hIM hjl) my_X4_discardLotAt mv_X4_discardLotAt wm_X4_175 (so_0 hsh o ho) rfl ⟨rfl, rfl, Nat.le_of_ble_eq_true rfl, Nat.le_of_ble_eq_true rfl, Nat.le_of_ble_eq_true rfl, Nat.le_of_ble_eq_true rfl⟩ rfl rfl (Nat.le_of_ble_eq_true rfl) dX4_clearTray_34 (fun σ34 h34 => ?_)
      refine K_gen (φ := fun τ => SP _ τ o _) h34 (fun σ h => ?_)
      obtain ⟨⟨π, hR⟩, hF1⟩ := h
      have hF := hF.tr hF1
      have hP := hF.PF ho hP0
      exact K_iret X hQ dX4_clearTray_37 (by have hq : qC2s (uN N (34 + (6 + t)) 0) (6 + t) = qThrow (uN N (34 + (6 + t)) 0) j := by { unfold qC2s; rw [hf]; dsimp only; rw [(qO_n (fun z hz => by have := qCold_lt hz; omega)).mp c29] }; have h5 := qThrow_5 hjl; rw [← hq, qC2s_u h1, show (uN (qC2s N (6 + t)) (34 + (6 + t)) 0) 5 = qC2s N (6 + t) 5 from uN_n (by omega), show (uN N (34 + (6 + t)) 0) 5 = N 5 from uN_n (by omega)] at h5; rw [show qC2s N (6 + t) 5 - N 5 = qL (uN N (34 + (6 + t)) 0) j 2 from by omega, ← qC2s_u h1, hq]; exact ⟨rfl, ⟨_, hR⟩, by rw [← e0]; exact hF⟩)
  · refine K_iconst X dX4_clearTray_19 cii_0 ?_
    exact K_iret X hQ dX4_clearTray_20 (by have hf := (qO_n (fun z hz => by have : z < (uN N (34 + (6 + t)) 0) 2 := qFst_lt hz (Nat.le_refl _) (fun q hq => by cases hq); omega)).mp c16; have hq : qC2s N (6 + t) = N := by { unfold qC2s; rw [← hfst, hf] }; rw [hq, Nat.sub_self]; exact ⟨rfl, ⟨_, hR⟩, by rw [← e0]; exact hF⟩)

set_option maxHeartbeats 4000000 in
set_option maxRecDepth 100000 in
theorem c_X4_closeDay (l : Launch) (D : KD) (b : Nat) {sh : List KSh} (hsh : shP sh) (σ : KS) (o : Nat) (π N : Nat → Nat) (hP : PF σ.2.2) (ho : o ∈ shL) (hR : Rs σ o π N) (hI : qIr N) (hU : qU N) (hB : N 10 < 2 ^ 31) : Ct l D b yX4_closeDay cX4_closeDay 3 (some .int) (rM 4 90) 0 0 [rf b o] sh σ sh (pS (some (.int (nI (qClose N 5 - N 5)))) (fun τ => SP σ τ o (qClose N))) := by
  obtain ⟨σ0, e0⟩ : ∃ z, z = σ := ⟨σ, rfl⟩
  have hP0 : PF σ0.2.2 := by rw [e0]; exact hP
  have hF : Fr σ0 σ o := by rw [e0]; exact Fr.rf
  have hI1 := qC1_k hI (Nat.le_refl _)
  have hU1 := qC1_U hU (Nat.le_refl _)
  refine Ct.of (ls := [(0, rf b o)]) (by decide) (Nat.le_of_ble_eq_true rfl) rfl ?_
  intro pg e s m args below meth c Q hQ X hnm
  refine K_aload_n X 0 dX4_closeDay_0 rfl rfl ?_
  refine K_callVP X (c_X4_discardLotsBelowLimit l D b hsh _ _ _ _ hP ho hR hI) my_X4_discardLotsBelowLimit mv_X4_discardLotsBelowLimit wm_X4_168 (so_0 hsh o ho) rfl ⟨rfl, rfl, Nat.le_of_ble_eq_true rfl, Nat.le_of_ble_eq_true rfl, Nat.le_of_ble_eq_true rfl, Nat.le_of_ble_eq_true rfl⟩ rfl rfl (Nat.le_of_ble_eq_true rfl) dX4_closeDay_1 (fun σ1 h1 => ?_)
  refine K_gen (φ := fun τ => SP _ τ o _) h1 (fun σ h => ?_)
  obtain ⟨⟨π, hR⟩, hF1⟩ := h
  have hF := hF.tr hF1
  have hP := hF.PF ho hP0
  refine K_istore_n X (ls' := [(1, _), (0, _)]) dX4_closeDay_4 rfl (by decide) rfl ?_
  refine K_iconst X dX4_closeDay_5 cii_0 ?_
  refine K_istore_n X (ls' := [(2, _), (1, _), (0, _)]) dX4_closeDay_6 rfl (by decide) rfl ?_
  have loop2 : ∀ j : Nat, j ≤ 5 → ∀ (τ : KS) (π : Nat → Nat), Rs τ o π (qC2 (qC1 (N 2) N) j) → Fr σ0 τ o → K pg l e (rM 4 90) s m args below meth c Q D b 3 0 0 sh τ 7 [(0, rf b o), (1, .int (nI ((qC2 (qC1 (N 2) N) j) 5 - N 5))), (2, .int (nI j))] [] := by
    refine kup (fun j hj jh => ?_)
    intro σ π hR hF
    have hP := hF.PF ho hP0
    have hIM := (qC2_k hI1.1 (j := j) (by omega)).1
    have hUM := qC2_U hU1.1 j (by omega)
    refine K_iload_n X 2 dX4_closeDay_7 rfl rfl ?_
    refine K_iconst X dX4_closeDay_8 cii_5 ?_
    refine K_icmpN_ge (tgt := 26) X dX4_closeDay_9 (by decide) (by omega) (by omega) (fun c9 => ?_) (fun c9 => ?_)
    · rw [show j = 5 from by omega] at hR hIM ⊢
      refine K_aload_n X 0 dX4_closeDay_26 rfl rfl ?_
      refine K_dup X dX4_closeDay_27 rfl ?_
      refine K_get X 0 kFd4 rfl (by decide) (so_0 hsh o ho) wf_X4_41 rfl (v := .int (nI (qC3 N 0))) (congrArg Value.int (rs_i hR 0 (by decide))) dX4_closeDay_28 ?_
      refine K_iconst X dX4_closeDay_31 cii_1 ?_
      refine K_iaddN X dX4_closeDay_32 ?_
      refine K_putI X 0 kFd4 rfl (by decide) (so_0 hsh o ho) wf_X4_41 rfl rfl rfl dX4_closeDay_33 ?_
      refine K_gen (φ := fun τ => Rs τ o π (uN (qC3 N) 0 (qC3 N 0 + 1)) ∧ Fr _ τ o) ⟨hR.int (qi_2 hIM) (k := 0) (by decide), hF.tr (Fr.i (by omega) (by omega))⟩ (fun σ hs => ?_)
      obtain ⟨hR, hF⟩ := hs
      have hP := hF.PF ho hP0
      refine K_aload_n X 0 dX4_closeDay_36 rfl rfl ?_
      refine K_iconst X dX4_closeDay_37 cii_0 ?_
      refine K_putI X 1 kFd4 rfl (by decide) (so_0 hsh o ho) wf_X4_44 rfl rfl rfl dX4_closeDay_38 ?_
      refine K_gen (φ := fun τ => Rs τ o π (qClose N) ∧ Fr _ τ o) ⟨hR.int (by rw [uN_n (by decide)]; exact qi_2 hIM) (k := 1) (by decide), hF.tr (Fr.i (by omega) (by omega))⟩ (fun σ hs => ?_)
      obtain ⟨hR, hF⟩ := hs
      have hP := hF.PF ho hP0
      refine K_iload_n X 1 dX4_closeDay_41 rfl rfl ?_
      exact K_iret X hQ dX4_closeDay_42 (by rw [show qClose N 5 = qC3 N 5 from (uN_n (by decide)).trans (uN_n (by decide))]; exact ⟨rfl, ⟨_, hR⟩, by rw [← e0]; exact hF⟩)
    · refine K_iload_n X 1 dX4_closeDay_12 rfl rfl ?_
      refine K_aload_n X 0 dX4_closeDay_13 rfl rfl ?_
      refine K_iload_n X 2 dX4_closeDay_14 rfl rfl ?_
      refine K_callVP X (c_X4_clearTray l D b hsh _ _ _ _ _ hP ho hR hIM hUM.1 (by rw [hUM.2, hU1.2]; exact hB) (by omega)) my_X4_clearTray mv_X4_clearTray wm_X4_172 (so_0 hsh o ho) rfl ⟨rfl, rfl, Nat.le_of_ble_eq_true rfl, Nat.le_of_ble_eq_true rfl, Nat.le_of_ble_eq_true rfl, Nat.le_of_ble_eq_true rfl⟩ rfl rfl (Nat.le_of_ble_eq_true rfl) dX4_closeDay_15 (fun σ15 h15 => ?_)
      refine K_gen (φ := fun τ => SP _ τ o _) h15 (fun σ h => ?_)
      obtain ⟨⟨π, hR⟩, hF1⟩ := h
      have hF := hF.tr hF1
      have hP := hF.PF ho hP0
      refine K_iaddN X dX4_closeDay_18 ?_
      rw [show (qC2 (qC1 (N 2) N) j) 5 - N 5 + (qC2s (qC2 (qC1 (N 2) N) j) (6 + j) 5 - (qC2 (qC1 (N 2) N) j) 5) = qC2 (qC1 (N 2) N) (j + 1) 5 - N 5 from by have h1 := (qC2s_k hIM (6 + j)).2.1; have h0 := Nat.le_trans hI1.2.1 (qC2_k hI1.1 (j := j) (by omega)).2.1; have : qC2 (qC1 (N 2) N) (j + 1) 5 = qC2s (qC2 (qC1 (N 2) N) j) (6 + j) 5 := uN_n (by omega); omega]
      refine K_istore_n X (ls' := [(1, _), (0, _), (2, _)]) dX4_closeDay_19 rfl (by decide) rfl ?_
      refine K_iinc X 2 (ls' := [(2, _), (1, _), (0, _)]) dX4_closeDay_20 rfl (inc_1 _) (by decide) rfl ?_
      refine K_goto (tgt := 7) X dX4_closeDay_23 (by decide) ?_
      exact K_sub [2, 1, 0] rfl (jh (by omega) σ _ hR hF)
  exact K_sub [2, 1, 0] rfl (loop2 0 (Nat.zero_le _) σ _ hR hF)

set_option maxHeartbeats 4000000 in
set_option maxRecDepth 100000 in
theorem c_X3_copyFrom (l : Launch) (D : KD) (b : Nat) {sh : List KSh} (hsh : shP sh) (σ : KS) (a c1 : Nat) (h1 : sh[a]? = some (.inl 3)) (h2 : sh[c1]? = some (.inl 3)) (hne : a ≠ c1) : Ct l D b yX3_copyFrom cX3_copyFrom 2 none (rM 0 0) 0 0 [rf b a, rf b c1] sh σ sh (pE none (wI σ a (upd (upd (upd (upd (upd (upd (σ.1 a) 0 (σ.1 c1 0)) 1 (σ.1 c1 1)) 2 (σ.1 c1 2)) 3 (σ.1 c1 3)) 4 (σ.1 c1 4)) 5 (σ.1 c1 5)))) := by
  refine Ct.of (ls := [(0, rf b a), (1, rf b c1)]) (by decide) (Nat.le_of_ble_eq_true rfl) rfl ?_
  intro pg e s m args below meth c Q hQ X hnm
  refine K_aload_n X 0 dX3_copyFrom_0 rfl rfl ?_
  refine K_aload_n X 1 dX3_copyFrom_1 rfl rfl ?_
  refine K_get X 0 kFd3 rfl (by decide) h2 wf_X3_18 rfl (v := .int _) rfl dX3_copyFrom_2 ?_
  refine K_putI X 0 kFd3 rfl (by decide) h1 wf_X3_18 rfl rfl rfl dX3_copyFrom_5 ?_
  refine K_aload_n X 0 dX3_copyFrom_8 rfl rfl ?_
  refine K_aload_n X 1 dX3_copyFrom_9 rfl rfl ?_
  refine K_get X 1 kFd3 rfl (by decide) h2 wf_X3_21 rfl (v := .int (σ.1 c1 1)) (congrArg Value.int (congrFun (wI_ne hne.symm) _)) dX3_copyFrom_10 ?_
  refine K_putI X 1 kFd3 rfl (by decide) h1 wf_X3_21 rfl rfl rfl dX3_copyFrom_13 ?_
  refine K_st (wI_upd rfl) ?_
  refine K_aload_n X 0 dX3_copyFrom_16 rfl rfl ?_
  refine K_aload_n X 1 dX3_copyFrom_17 rfl rfl ?_
  refine K_get X 2 kFd3 rfl (by decide) h2 wf_X3_24 rfl (v := .int (σ.1 c1 2)) (congrArg Value.int (congrFun (wI_ne hne.symm) _)) dX3_copyFrom_18 ?_
  refine K_putI X 2 kFd3 rfl (by decide) h1 wf_X3_24 rfl rfl rfl dX3_copyFrom_21 ?_
  refine K_st (wI_upd rfl) ?_
  refine K_aload_n X 0 dX3_copyFrom_24 rfl rfl ?_
  refine K_aload_n X 1 dX3_copyFrom_25 rfl rfl ?_
  refine K_get X 3 kFd3 rfl (by decide) h2 wf_X3_27 rfl (v := .int (σ.1 c1 3)) (congrArg Value.int (congrFun (wI_ne hne.symm) _)) dX3_copyFrom_26 ?_
  refine K_putI X 3 kFd3 rfl (by decide) h1 wf_X3_27 rfl rfl rfl dX3_copyFrom_29 ?_
  refine K_st (wI_upd rfl) ?_
  refine K_aload_n X 0 dX3_copyFrom_32 rfl rfl ?_
  refine K_aload_n X 1 dX3_copyFrom_33 rfl rfl ?_
  refine K_get X 4 kFd3 rfl (by decide) h2 wf_X3_9 rfl (v := .int (σ.1 c1 4)) (congrArg Value.int (congrFun (wI_ne hne.symm) _)) dX3_copyFrom_34 ?_
  refine K_putI X 4 kFd3 rfl (by decide) h1 wf_X3_9 rfl rfl rfl dX3_copyFrom_37 ?_
  refine K_st (wI_upd rfl) ?_
  refine K_aload_n X 0 dX3_copyFrom_40 rfl rfl ?_
  refine K_aload_n X 1 dX3_copyFrom_41 rfl rfl ?_
  refine K_get X 5 kFd3 rfl (by decide) h2 wf_X3_15 rfl (v := .int (σ.1 c1 5)) (congrArg Value.int (congrFun (wI_ne hne.symm) _)) dX3_copyFrom_42 ?_
  refine K_putI X 5 kFd3 rfl (by decide) h1 wf_X3_15 rfl rfl rfl dX3_copyFrom_45 ?_
  refine K_st (wI_upd rfl) ?_
  exact K_vret X hQ dX3_copyFrom_48 (⟨rfl, rfl⟩)

theorem updSix {f g : Nat → Int32} {j : Nat} (hj : j < 6) : upd (upd (upd (upd (upd (upd f 0 (g 0)) 1 (g 1)) 2 (g 2)) 3 (g 3)) 4 (g 4)) 5 (g 5) j = g j := by
  rcases (show j = 0 ∨ j = 1 ∨ j = 2 ∨ j = 3 ∨ j = 4 ∨ j = 5 from by omega) with rfl | rfl | rfl | rfl | rfl | rfl <;> simp [upd]

set_option maxHeartbeats 4000000 in
set_option maxRecDepth 100000 in
theorem c_X4_copyFrom (l : Launch) (D : KD) (b : Nat) {sh : List KSh} (hsh : shP sh) (σ : KS) (o q : Nat) (ρ π N : Nat → Nat) (hP : PF σ.2.2) (ho : o ∈ shL) (hq : q ∈ shL) (hne : o ≠ q) (hp : Rp σ o ρ) (hR : Rs σ q π N) (h16 : N 2 ≤ 16) : Ct l D b yX4_copyFrom cX4_copyFrom 3 none (rM 1 26) 0 0 [rf b o, rf b q] sh σ sh (pS none (fun τ => SP σ τ o N)) := by
  obtain ⟨σ0, e0⟩ : ∃ z, z = σ := ⟨σ, rfl⟩
  have hP0 : PF σ0.2.2 := by rw [e0]; exact hP
  have hR0 : Rs σ0 q π N := by rw [e0]; exact hR
  have hC : Cp σ0 σ o ρ N 0 := by rw [e0]; exact Cp.init hp
  refine Ct.of (ls := [(0, rf b o), (1, rf b q)]) (by decide) (Nat.le_of_ble_eq_true rfl) rfl ?_
  intro pg e s m args below meth c Q hQ X hnm
  refine K_aload_n X 0 dX4_copyFrom_0 rfl rfl ?_
  refine K_aload_n X 1 dX4_copyFrom_1 rfl rfl ?_
  refine K_get X 0 kFd4 rfl (by decide) (so_0 hsh q hq) wf_X4_41 rfl (v := .int (nI (N 0))) (congrArg Value.int (rs_i hR 0 (by decide))) dX4_copyFrom_2 ?_
  refine K_putI X 0 kFd4 rfl (by decide) (so_0 hsh o ho) wf_X4_41 rfl rfl rfl dX4_copyFrom_5 ?_
  refine K_gen (φ := fun τ => Cp σ0 τ o ρ N (1)) (hC.int (k := 0) (by decide)) (fun σ hC => ?_)
  have hP := hC.1.PF ho hP0
  have hR := hC.1.keep ho hq hne hR0 h16
  refine K_aload_n X 0 dX4_copyFrom_8 rfl rfl ?_
  refine K_aload_n X 1 dX4_copyFrom_9 rfl rfl ?_
  refine K_get X 1 kFd4 rfl (by decide) (so_0 hsh q hq) wf_X4_44 rfl (v := .int (nI (N 1))) (congrArg Value.int (rs_i hR 1 (by decide))) dX4_copyFrom_10 ?_
  refine K_putI X 1 kFd4 rfl (by decide) (so_0 hsh o ho) wf_X4_44 rfl rfl rfl dX4_copyFrom_13 ?_
  refine K_gen (φ := fun τ => Cp σ0 τ o ρ N (2)) (hC.int (k := 1) (by decide)) (fun σ hC => ?_)
  have hP := hC.1.PF ho hP0
  have hR := hC.1.keep ho hq hne hR0 h16
  refine K_aload_n X 0 dX4_copyFrom_16 rfl rfl ?_
  refine K_aload_n X 1 dX4_copyFrom_17 rfl rfl ?_
  refine K_get X 2 kFd4 rfl (by decide) (so_0 hsh q hq) wf_X4_9 rfl (v := .int (nI (N 8))) (congrArg Value.int (rs_i hR 2 (by decide))) dX4_copyFrom_18 ?_
  refine K_putI X 2 kFd4 rfl (by decide) (so_0 hsh o ho) wf_X4_9 rfl rfl rfl dX4_copyFrom_21 ?_
  refine K_gen (φ := fun τ => Cp σ0 τ o ρ N (3)) (hC.int (k := 2) (by decide)) (fun σ hC => ?_)
  have hP := hC.1.PF ho hP0
  have hR := hC.1.keep ho hq hne hR0 h16
  refine K_aload_n X 0 dX4_copyFrom_24 rfl rfl ?_
  refine K_aload_n X 1 dX4_copyFrom_25 rfl rfl ?_
  refine K_get X 3 kFd4 rfl (by decide) (so_0 hsh q hq) wf_X4_15 rfl (v := .int (nI (N 9))) (congrArg Value.int (rs_i hR 3 (by decide))) dX4_copyFrom_26 ?_
  refine K_putI X 3 kFd4 rfl (by decide) (so_0 hsh o ho) wf_X4_15 rfl rfl rfl dX4_copyFrom_29 ?_
  refine K_gen (φ := fun τ => Cp σ0 τ o ρ N (4)) (hC.int (k := 3) (by decide)) (fun σ hC => ?_)
  have hP := hC.1.PF ho hP0
  have hR := hC.1.keep ho hq hne hR0 h16
  refine K_aload_n X 0 dX4_copyFrom_32 rfl rfl ?_
  refine K_aload_n X 1 dX4_copyFrom_33 rfl rfl ?_
  refine K_get X 4 kFd4 rfl (by decide) (so_0 hsh q hq) wf_X4_47 rfl (v := .int (nI (N 10))) (congrArg Value.int (rs_i hR 4 (by decide))) dX4_copyFrom_34 ?_
  refine K_putI X 4 kFd4 rfl (by decide) (so_0 hsh o ho) wf_X4_47 rfl rfl rfl dX4_copyFrom_37 ?_
  refine K_gen (φ := fun τ => Cp σ0 τ o ρ N (5)) (hC.int (k := 4) (by decide)) (fun σ hC => ?_)
  have hP := hC.1.PF ho hP0
  have hR := hC.1.keep ho hq hne hR0 h16
  refine K_aload_n X 0 dX4_copyFrom_40 rfl rfl ?_
  refine K_aload_n X 1 dX4_copyFrom_41 rfl rfl ?_
  refine K_get X 5 kFd4 rfl (by decide) (so_0 hsh q hq) wf_X4_50 rfl (v := .int (nI (N 2))) (congrArg Value.int (rs_i hR 5 (by decide))) dX4_copyFrom_42 ?_
  refine K_putI X 5 kFd4 rfl (by decide) (so_0 hsh o ho) wf_X4_50 rfl rfl rfl dX4_copyFrom_45 ?_
  refine K_gen (φ := fun τ => Cp σ0 τ o ρ N (6)) (hC.int (k := 5) (by decide)) (fun σ hC => ?_)
  have hP := hC.1.PF ho hP0
  have hR := hC.1.keep ho hq hne hR0 h16
  refine K_aload_n X 0 dX4_copyFrom_48 rfl rfl ?_
  refine K_aload_n X 1 dX4_copyFrom_49 rfl rfl ?_
  refine K_get X 6 kFd4 rfl (by decide) (so_0 hsh q hq) wf_X4_53 rfl (v := .long (lN (N 3))) (congrArg Value.long (rs_j hR 6 (by decide) (by decide))) dX4_copyFrom_50 ?_
  refine K_putL X 6 kFd4 rfl (by decide) (so_0 hsh o ho) wf_X4_53 rfl rfl rfl dX4_copyFrom_53 ?_
  refine K_gen (φ := fun τ => Cp σ0 τ o ρ N (7)) (hC.long (k := 6) (by decide) (by decide)) (fun σ hC => ?_)
  have hP := hC.1.PF ho hP0
  have hR := hC.1.keep ho hq hne hR0 h16
  refine K_aload_n X 0 dX4_copyFrom_56 rfl rfl ?_
  refine K_aload_n X 1 dX4_copyFrom_57 rfl rfl ?_
  refine K_get X 7 kFd4 rfl (by decide) (so_0 hsh q hq) wf_X4_57 rfl (v := .long (lN (N 4))) (congrArg Value.long (rs_j hR 7 (by decide) (by decide))) dX4_copyFrom_58 ?_
  refine K_putL X 7 kFd4 rfl (by decide) (so_0 hsh o ho) wf_X4_57 rfl rfl rfl dX4_copyFrom_61 ?_
  refine K_gen (φ := fun τ => Cp σ0 τ o ρ N (8)) (hC.long (k := 7) (by decide) (by decide)) (fun σ hC => ?_)
  have hP := hC.1.PF ho hP0
  have hR := hC.1.keep ho hq hne hR0 h16
  refine K_aload_n X 0 dX4_copyFrom_64 rfl rfl ?_
  refine K_aload_n X 1 dX4_copyFrom_65 rfl rfl ?_
  refine K_get X 8 kFd4 rfl (by decide) (so_0 hsh q hq) wf_X4_60 rfl (v := .long (lN (N 5))) (congrArg Value.long (rs_j hR 8 (by decide) (by decide))) dX4_copyFrom_66 ?_
  refine K_putL X 8 kFd4 rfl (by decide) (so_0 hsh o ho) wf_X4_60 rfl rfl rfl dX4_copyFrom_69 ?_
  refine K_gen (φ := fun τ => Cp σ0 τ o ρ N (9)) (hC.long (k := 8) (by decide) (by decide)) (fun σ hC => ?_)
  have hP := hC.1.PF ho hP0
  have hR := hC.1.keep ho hq hne hR0 h16
  refine K_aload_n X 0 dX4_copyFrom_72 rfl rfl ?_
  refine K_aload_n X 1 dX4_copyFrom_73 rfl rfl ?_
  refine K_get X 9 kFd4 rfl (by decide) (so_0 hsh q hq) wf_X4_63 rfl (v := .long (lN (N 6))) (congrArg Value.long (rs_j hR 9 (by decide) (by decide))) dX4_copyFrom_74 ?_
  refine K_putL X 9 kFd4 rfl (by decide) (so_0 hsh o ho) wf_X4_63 rfl rfl rfl dX4_copyFrom_77 ?_
  refine K_gen (φ := fun τ => Cp σ0 τ o ρ N (10)) (hC.long (k := 9) (by decide) (by decide)) (fun σ hC => ?_)
  have hP := hC.1.PF ho hP0
  have hR := hC.1.keep ho hq hne hR0 h16
  refine K_aload_n X 0 dX4_copyFrom_80 rfl rfl ?_
  refine K_aload_n X 1 dX4_copyFrom_81 rfl rfl ?_
  refine K_get X 10 kFd4 rfl (by decide) (so_0 hsh q hq) wf_X4_66 rfl (v := .long (lN (N 7))) (congrArg Value.long (rs_j hR 10 (by decide) (by decide))) dX4_copyFrom_82 ?_
  refine K_putL X 10 kFd4 rfl (by decide) (so_0 hsh o ho) wf_X4_66 rfl rfl rfl dX4_copyFrom_85 ?_
  refine K_gen (φ := fun τ => Cp σ0 τ o ρ N (11)) (hC.long (k := 10) (by decide) (by decide)) (fun σ hC => ?_)
  have hP := hC.1.PF ho hP0
  have hR := hC.1.keep ho hq hne hR0 h16
  refine K_aload_n X 1 dX4_copyFrom_88 rfl rfl ?_
  refine K_get X 11 kFd4 rfl (by decide) (so_0 hsh q hq) wf_X4_18 rfl (v := rf b (q + 1)) (kv_a (ps_11 hP hq)) dX4_copyFrom_89 ?_
  refine K_iconst X dX4_copyFrom_92 cii_0 ?_
  refine K_aload_n X 0 dX4_copyFrom_93 rfl rfl ?_
  refine K_get X 11 kFd4 rfl (by decide) (so_0 hsh o ho) wf_X4_18 rfl (v := rf b (o + 1)) (kv_a (ps_11 hP ho)) dX4_copyFrom_94 ?_
  refine K_iconst X dX4_copyFrom_97 cii_0 ?_
  refine K_bipush X dX4_copyFrom_98 cib_6 ?_
  refine K_copy X wm_X4_69 wna_acopy wt_acopy wn_System (so_1 hsh q hq) (so_1 hsh o ho) _ rfl rfl rfl (by decide) (by decide) (by decide) ⟨Nat.le_of_ble_eq_true rfl, Nat.le_of_ble_eq_true rfl⟩ dX4_copyFrom_100 ?_
  refine K_gen (φ := fun τ => Cp σ0 τ o ρ N (12)) (hC.arr (k := 1) (by decide) (by decide) (fun j hj => (if_pos hj).trans (rs_a hR 1 (by decide) (by decide) hj))) (fun σ hC => ?_)
  have hP := hC.1.PF ho hP0
  have hR := hC.1.keep ho hq hne hR0 h16
  refine K_aload_n X 1 dX4_copyFrom_103 rfl rfl ?_
  refine K_get X 12 kFd4 rfl (by decide) (so_0 hsh q hq) wf_X4_22 rfl (v := rf b (q + 2)) (kv_a (ps_12 hP hq)) dX4_copyFrom_104 ?_
  refine K_iconst X dX4_copyFrom_107 cii_0 ?_
  refine K_aload_n X 0 dX4_copyFrom_108 rfl rfl ?_
  refine K_get X 12 kFd4 rfl (by decide) (so_0 hsh o ho) wf_X4_22 rfl (v := rf b (o + 2)) (kv_a (ps_12 hP ho)) dX4_copyFrom_109 ?_
  refine K_iconst X dX4_copyFrom_112 cii_0 ?_
  refine K_bipush X dX4_copyFrom_113 cib_6 ?_
  refine K_copy X wm_X4_69 wna_acopy wt_acopy wn_System (so_2 hsh q hq) (so_2 hsh o ho) _ rfl rfl rfl (by decide) (by decide) (by decide) ⟨Nat.le_of_ble_eq_true rfl, Nat.le_of_ble_eq_true rfl⟩ dX4_copyFrom_115 ?_
  refine K_gen (φ := fun τ => Cp σ0 τ o ρ N (13)) (hC.arr (k := 2) (by decide) (by decide) (fun j hj => (if_pos hj).trans (rs_a hR 2 (by decide) (by decide) hj))) (fun σ hC => ?_)
  have hP := hC.1.PF ho hP0
  have hR := hC.1.keep ho hq hne hR0 h16
  refine K_aload_n X 1 dX4_copyFrom_118 rfl rfl ?_
  refine K_get X 13 kFd4 rfl (by decide) (so_0 hsh q hq) wf_X4_25 rfl (v := rf b (q + 3)) (kv_a (ps_13 hP hq)) dX4_copyFrom_119 ?_
  refine K_iconst X dX4_copyFrom_122 cii_0 ?_
  refine K_aload_n X 0 dX4_copyFrom_123 rfl rfl ?_
  refine K_get X 13 kFd4 rfl (by decide) (so_0 hsh o ho) wf_X4_25 rfl (v := rf b (o + 3)) (kv_a (ps_13 hP ho)) dX4_copyFrom_124 ?_
  refine K_iconst X dX4_copyFrom_127 cii_0 ?_
  refine K_bipush X dX4_copyFrom_128 cib_11 ?_
  refine K_copy X wm_X4_69 wna_acopy wt_acopy wn_System (so_3 hsh q hq) (so_3 hsh o ho) _ rfl rfl rfl (by decide) (by decide) (by decide) ⟨Nat.le_of_ble_eq_true rfl, Nat.le_of_ble_eq_true rfl⟩ dX4_copyFrom_130 ?_
  refine K_gen (φ := fun τ => Cp σ0 τ o ρ N (14)) (hC.arr (k := 3) (by decide) (by decide) (fun j hj => (if_pos hj).trans (rs_a hR 3 (by decide) (by decide) hj))) (fun σ hC => ?_)
  have hP := hC.1.PF ho hP0
  have hR := hC.1.keep ho hq hne hR0 h16
  refine K_aload_n X 1 dX4_copyFrom_133 rfl rfl ?_
  refine K_get X 14 kFd4 rfl (by decide) (so_0 hsh q hq) wf_X4_28 rfl (v := rf b (q + 4)) (kv_a (ps_14 hP hq)) dX4_copyFrom_134 ?_
  refine K_iconst X dX4_copyFrom_137 cii_0 ?_
  refine K_aload_n X 0 dX4_copyFrom_138 rfl rfl ?_
  refine K_get X 14 kFd4 rfl (by decide) (so_0 hsh o ho) wf_X4_28 rfl (v := rf b (o + 4)) (kv_a (ps_14 hP ho)) dX4_copyFrom_139 ?_
  refine K_iconst X dX4_copyFrom_142 cii_0 ?_
  refine K_bipush X dX4_copyFrom_143 cib_6 ?_
  refine K_copy X wm_X4_69 wna_acopy wt_acopy wn_System (so_4 hsh q hq) (so_4 hsh o ho) _ rfl rfl rfl (by decide) (by decide) (by decide) ⟨Nat.le_of_ble_eq_true rfl, Nat.le_of_ble_eq_true rfl⟩ dX4_copyFrom_145 ?_
  refine K_gen (φ := fun τ => Cp σ0 τ o ρ N (15)) (hC.arr (k := 4) (by decide) (by decide) (fun j hj => (if_pos hj).trans (rs_a hR 4 (by decide) (by decide) hj))) (fun σ hC => ?_)
  have hP := hC.1.PF ho hP0
  have hR := hC.1.keep ho hq hne hR0 h16
  refine K_aload_n X 1 dX4_copyFrom_148 rfl rfl ?_
  refine K_get X 15 kFd4 rfl (by decide) (so_0 hsh q hq) wf_X4_31 rfl (v := rf b (q + 5)) (kv_a (ps_15 hP hq)) dX4_copyFrom_149 ?_
  refine K_iconst X dX4_copyFrom_152 cii_0 ?_
  refine K_aload_n X 0 dX4_copyFrom_153 rfl rfl ?_
  refine K_get X 15 kFd4 rfl (by decide) (so_0 hsh o ho) wf_X4_31 rfl (v := rf b (o + 5)) (kv_a (ps_15 hP ho)) dX4_copyFrom_154 ?_
  refine K_iconst X dX4_copyFrom_157 cii_0 ?_
  refine K_iconst X dX4_copyFrom_158 cii_5 ?_
  refine K_copy X wm_X4_69 wna_acopy wt_acopy wn_System (so_5 hsh q hq) (so_5 hsh o ho) _ rfl rfl rfl (by decide) (by decide) (by decide) ⟨Nat.le_of_ble_eq_true rfl, Nat.le_of_ble_eq_true rfl⟩ dX4_copyFrom_159 ?_
  refine K_gen (φ := fun τ => Cp σ0 τ o ρ N (16)) (hC.arr (k := 5) (by decide) (by decide) (fun j hj => (if_pos hj).trans (rs_a hR 5 (by decide) (by decide) hj))) (fun σ hC => ?_)
  have hP := hC.1.PF ho hP0
  have hR := hC.1.keep ho hq hne hR0 h16
  refine K_iconst X dX4_copyFrom_162 cii_0 ?_
  refine K_istore_n X (ls' := [(2, _), (0, _), (1, _)]) dX4_copyFrom_163 rfl (by decide) rfl ?_
  have loop : ∀ i : Nat, i ≤ N 2 → ∀ (τ : KS), Cp σ0 τ o ρ N (16 + i) → K pg l e (rM 1 26) s m args below meth c Q D b 3 0 0 sh τ 164 [(0, rf b o), (1, rf b q), (2, .int (nI i))] [] := by
    refine kup (fun i hi ih => ?_)
    intro σ hC
    have hP := hC.1.PF ho hP0
    have hR := hC.1.keep ho hq hne hR0 h16
    refine K_iload_n X 2 dX4_copyFrom_164 rfl rfl ?_
    refine K_aload_n X 0 dX4_copyFrom_165 rfl rfl ?_
    refine K_get X 5 kFd4 rfl (by decide) (so_0 hsh o ho) wf_X4_50 rfl (v := .int (nI (N 2))) (congrArg Value.int (hC.2.2.1 5 (by omega) (by decide))) dX4_copyFrom_166 ?_
    refine K_icmpN_ge (tgt := 193) X dX4_copyFrom_169 (by decide) (by omega) (by omega) (fun c169 => ?_) (fun c169 => ?_)
    · exact K_vret X hQ dX4_copyFrom_193 (⟨rfl, ⟨_, hC.done h16 (by omega)⟩, by rw [← e0]; exact hC.1⟩)
    · refine K_aload_n X 0 dX4_copyFrom_172 rfl rfl ?_
      refine K_get X 16 kFd4 rfl (by decide) (so_0 hsh o ho) wf_X4_36 rfl (v := rf b (o + 6)) (kv_a (ps_16 hP ho)) dX4_copyFrom_173 ?_
      refine K_iload_n X 2 dX4_copyFrom_176 rfl rfl ?_
      refine K_aald (z := o + 7 + ρ i) X _ (so_6 hsh o ho) (by decide) rfl (by omega) (by decide) ((hC.2.1.1 i (by omega)).1) dX4_copyFrom_177 ?_
      refine K_aload_n X 1 dX4_copyFrom_178 rfl rfl ?_
      refine K_get X 16 kFd4 rfl (by decide) (so_0 hsh q hq) wf_X4_36 rfl (v := rf b (q + 6)) (kv_a (ps_16 hP hq)) dX4_copyFrom_179 ?_
      refine K_iload_n X 2 dX4_copyFrom_182 rfl rfl ?_
      refine K_aald (z := q + 7 + π i) X _ (so_6 hsh q hq) (by decide) rfl (by omega) (by decide) (rs_r hR (by omega)) dX4_copyFrom_183 ?_
      refine K_callVE0 X (c_X3_copyFrom l D b hsh _ _ _ (so_l hsh ho (hC.2.1.1 i (by omega)).2) (so_l hsh hq (rs_lt hR (by omega))) (by have := shL_d o ho q hq hne; have := (hC.2.1.1 i (by omega)).2; have := rs_lt hR (show i < 16 from by omega); omega)) my_X3_copyFrom mv_X3_copyFrom wm_X4_75 (so_l hsh ho (hC.2.1.1 i (by omega)).2) rfl ⟨rfl, rfl, Nat.le_of_ble_eq_true rfl, Nat.le_of_ble_eq_true rfl, Nat.le_of_ble_eq_true rfl, Nat.le_of_ble_eq_true rfl⟩ rfl rfl (Nat.le_of_ble_eq_true rfl) dX4_copyFrom_184 ?_
      refine K_gen (φ := fun τ => Cp σ0 τ o ρ N (16 + (i + 1))) (hC.lot (k := i) (by omega) (fun j hj => (updSix (by omega)).trans (rs_l hR (show i < N 2 from by omega) j hj)) ((updSix (by decide)).trans (rs_l4 hR (by omega))) ((updSix (by decide)).trans (rs_l5 hR (by omega)))) (fun σ hC => ?_)
      have hP := hC.1.PF ho hP0
      have hR := hC.1.keep ho hq hne hR0 h16
      refine K_iinc X 2 (ls' := [(2, _), (0, _), (1, _)]) dX4_copyFrom_187 rfl (inc_1 _) (by decide) rfl ?_
      refine K_goto (tgt := 164) X dX4_copyFrom_190 (by decide) ?_
      exact K_sub [1, 2, 0] rfl (ih (by omega) σ hC)
  exact K_sub [1, 2, 0] rfl (loop 0 (Nat.zero_le _) σ hC)
