/-! THE CLASS: sales, the hour, the night, copies -/
set_option maxHeartbeats 4000000 in
set_option maxRecDepth 100000 in
theorem c_X4_sell (l : Launch) (D : KD) (b : Nat) (σ : KS) (o : Nat) (π N : Nat → Nat) (kd g fr pr : Nat) (hP : PF σ.2.2) (ho : o ∈ shL) (hR : Rs σ o π N) (hI : qIr N) (hU : qU N) (h1 : kd < 6) (hg : g < 2 ^ 31) (hf1 : fr ≤ 100) (hp1 : pr ≤ 9999) : Ct l D b yX4_sell cX4_sell 8 (some .int) (rM 3 72) 0 0 [rf b o, .int (nI kd), .int (nI g), .int (nI fr), .int (nI pr)] shF σ shF (pS (some (.int (nI (qOr kd fr pr g 17 0 N).1))) (fun τ => SP σ τ o (qOr kd fr pr g 17 0 N).2)) := by
  obtain ⟨σ0, e0⟩ : ∃ z, z = σ := ⟨σ, rfl⟩
  have hP0 : PF σ0.2.2 := by rw [e0]; exact hP
  have hF : Fr σ0 σ o := by rw [e0]; exact Fr.rf
  refine Ct.of (ls := [(0, rf b o), (1, .int (nI kd)), (2, .int (nI g)), (3, .int (nI fr)), (4, .int (nI pr))]) (by decide) (Nat.le_of_ble_eq_true rfl) rfl ?_
  intro pg e s m args below meth c Q hQ X hnm
  refine K_iload_n X 2 dX4_sell_0 rfl rfl ?_
  refine K_istore X (ls' := [(5, _), (0, _), (1, _), (2, _), (3, _), (4, _)]) dX4_sell_1 (by decide) rfl ?_
  refine K_iconst X dX4_sell_3 cii_0 ?_
  refine K_istore X (ls' := [(6, _), (5, _), (0, _), (1, _), (2, _), (3, _), (4, _)]) dX4_sell_4 (by decide) rfl ?_
  have loop : ∀ i : Nat, i ≤ 5 → ∀ (M : Nat → Nat) (sd : Nat) (τ : KS) (π : Nat → Nat), Rs τ o π M → Fr σ0 τ o → qIr M → sd ≤ g → (sd = g ∨ qTn M (M 2) + i ≤ 5) → qOr kd fr pr g (17 - i) sd M = qOr kd fr pr g 17 0 N → K pg l e (rM 3 72) s m args below meth c Q D b 8 0 0 shF τ 6 [(0, rf b o), (1, .int (nI kd)), (2, .int (nI g)), (3, .int (nI fr)), (4, .int (nI pr)), (5, .int (nI (g - sd))), (6, .int (nI i))] [] := by
    refine kup (fun i hi ih => ?_)
    intro M sd σ π hR hF hI hsg hT hQ2
    have hP := hF.PF ho hP0
    refine K_iload X 6 dX4_sell_6 rfl ?_
    refine K_iconst X dX4_sell_8 cii_5 ?_
    refine K_icmpN_ge (tgt := 63) X dX4_sell_9 (by decide) (by omega) (by omega) (fun c9 => ?_) (fun c9 => ?_)
    · refine K_iload_n X 2 dX4_sell_63 rfl rfl ?_
      refine K_iload X 5 dX4_sell_64 rfl ?_
      refine K_isubN X dX4_sell_66 (by omega) ?_
      exact K_iret X hQ dX4_sell_67 (by rw [show 17 - i = (16 - i) + 1 from by omega, qOr_end (fun z => by have hTn : sd < g → qTn M (M 2) = 0 := by { intro z; omega }; rcases hq : qNx M kd fr pr (M 2) with _ | j; (rfl); (have := hTn z; have := qTn_pos (qNx_lt hq) (qFits_t (qNx_fits hq)); omega))] at hQ2; rw [← hQ2, show g - (g - sd) = sd from by omega]; exact ⟨rfl, ⟨_, hR⟩, by rw [← e0]; exact hF⟩)
    · refine K_iload X 5 dX4_sell_12 rfl ?_
      refine K_ifN_le (tgt := 63) X dX4_sell_14 (by decide) (by omega) (fun c14 => ?_) (fun c14 => ?_)
      · refine K_iload_n X 2 dX4_sell_63 rfl rfl ?_
        refine K_iload X 5 dX4_sell_64 rfl ?_
        refine K_isubN X dX4_sell_66 (by omega) ?_
        exact K_iret X hQ dX4_sell_67 (by rw [show 17 - i = (16 - i) + 1 from by omega, qOr_end (fun z => by omega)] at hQ2; rw [← hQ2, show g - (g - sd) = sd from by omega]; exact ⟨rfl, ⟨_, hR⟩, by rw [← e0]; exact hF⟩)
      · refine K_aload_n X 0 dX4_sell_17 rfl rfl ?_
        refine K_iload_n X 1 dX4_sell_18 rfl rfl ?_
        refine K_iload_n X 3 dX4_sell_19 rfl rfl ?_
        refine K_aload_n X 0 dX4_sell_20 rfl rfl ?_
        refine K_get X 3 kFd4 rfl (by decide) (so_0 o ho) wf_X4_15 rfl (v := .int (nI (M 9))) (congrArg Value.int (rs_i hR 3 (by decide))) dX4_sell_21 ?_
        refine K_max X wm_X4_137 wt_max wn_Math wc_max ⟨Nat.le_of_ble_eq_true rfl, Nat.le_of_ble_eq_true rfl, Nat.le_of_ble_eq_true rfl, Nat.le_of_ble_eq_true rfl⟩ dX4_sell_24 ?_
        rw [kMax (by omega) (by have := qi_9 hI; omega)]
        refine K_iload X 4 dX4_sell_27 rfl ?_
        refine K_callVE X (c_X4_nextLotToSell l D b _ _ _ _ _ _ _ _ hP ho hR hI h1 hf1 hp1 rfl) my_X4_nextLotToSell mv_X4_nextLotToSell wm_X4_142 (so_0 o ho) rfl ⟨rfl, rfl, Nat.le_of_ble_eq_true rfl, Nat.le_of_ble_eq_true rfl, Nat.le_of_ble_eq_true rfl, Nat.le_of_ble_eq_true rfl⟩ rfl rfl (Nat.le_of_ble_eq_true rfl) dX4_sell_29 ?_
        refine K_istore X (ls' := [(7, _), (0, _), (1, _), (2, _), (3, _), (4, _), (5, _), (6, _)]) dX4_sell_32 (by decide) rfl ?_
        refine K_iload X 0 dX4_sell_34 rfl ?_
        refine K_bipush X dX4_sell_36 cib_m6 ?_
        refine K_icmp_ne (tgt := 44) X dX4_sell_38 (by decide) (fun c38 => ?_) (fun c38 => ?_)
        · obtain ⟨k, hk⟩ := qO_ex c38
          have hkl := qNx_lt hk
          rw [hk]
          have hg1 : sd < g := by omega
          have hmw : qMuch M k (g - sd) ≤ g - sd := by unfold qMuch; split <;> omega
          have hml : qMuch M k (g - sd) ≤ qL M k 2 := by unfold qMuch; split <;> omega
          have h6 := qFits_t (qNx_fits hk)
          obtain ⟨a1, a2, a3⟩ := qSell_k hI hkl hml
          refine K_iload X 6 dX4_sell_44 rfl ?_
          refine K_aload_n X 1 dX4_sell_46 rfl rfl ?_
          refine K_iload X 0 dX4_sell_47 rfl ?_
          refine K_iload X 6 dX4_sell_49 rfl ?_
          refine K_callVP X (c_X4_sellFromLotAt l D b _ _ _ _ _ _ hP ho hR hI hkl (by omega)) my_X4_sellFromLotAt mv_X4_sellFromLotAt wm_X4_145 (so_0 o ho) rfl ⟨rfl, rfl, Nat.le_of_ble_eq_true rfl, Nat.le_of_ble_eq_true rfl, Nat.le_of_ble_eq_true rfl, Nat.le_of_ble_eq_true rfl⟩ rfl rfl (Nat.le_of_ble_eq_true rfl) dX4_sell_51 (fun σ51 h51 => ?_)
          refine K_gen (φ := fun τ => SP _ τ o _) h51 (fun σ h => ?_)
          obtain ⟨⟨π, hR⟩, hF1⟩ := h
          have hF := hF.tr hF1
          have hP := hF.PF ho hP0
          refine K_isubN X dX4_sell_54 (by exact hmw) ?_
          rw [Nat.sub_sub]
          refine K_istore X (ls' := [(5, _), (7, _), (0, _), (1, _), (2, _), (3, _), (4, _), (6, _)]) dX4_sell_55 (by decide) rfl ?_
          refine K_iinc X 7 (ls' := [(6, _), (5, _), (7, _), (0, _), (1, _), (2, _), (3, _), (4, _)]) dX4_sell_57 rfl (inc_1 _) (by decide) rfl ?_
          refine K_goto (tgt := 6) X dX4_sell_60 (by decide) ?_
          rw [show 17 - i = (16 - i) + 1 from by omega, qOr_go hk hg1] at hQ2
          exact K_sub [3, 4, 5, 6, 7, 1, 0] rfl (ih (by omega) (qSell M k (qMuch M k (g - sd))) (sd + qMuch M k (g - sd)) σ _ hR hF a1 (by omega) (by by_cases z : qL M k 2 < g - sd; (have hz : qMuch M k (g - sd) = qL M k 2 := if_pos z; have := qTn_sell hkl h6 (m := qMuch M k (g - sd)) (by omega); have := hT; omega); (have hz : qMuch M k (g - sd) = g - sd := if_neg z; omega)) (by rw [show 17 - (i + 1) = 16 - i from by omega]; exact hQ2))
        · refine K_goto (tgt := 63) X dX4_sell_41 (by decide) ?_
          refine K_iload_n X 3 dX4_sell_63 rfl rfl ?_
          refine K_iload X 6 dX4_sell_64 rfl ?_
          refine K_isubN X dX4_sell_66 (by omega) ?_
          exact K_iret X hQ dX4_sell_67 (by rw [show 17 - i = (16 - i) + 1 from by omega, qOr_end (fun z => (qO_n (fun j hj => by have := qNx_lt hj; have := qi_2 hI; omega)).mp c38)] at hQ2; rw [← hQ2, show g - (g - sd) = sd from by omega]; exact ⟨rfl, ⟨_, hR⟩, by rw [← e0]; exact hF⟩)
  exact K_sub [2, 3, 4, 5, 6, 1, 0] rfl (loop 0 (Nat.zero_le _) N 0 σ π hR hF hI (Nat.zero_le _) (by have := qTn_5 hI hU; omega) rfl)
