/-! THE CLASS: the digest -/
set_option maxHeartbeats 4000000 in
set_option maxRecDepth 100000 in
theorem c_X5_mixedWithPlaces (l : Launch) (D : KD) (b : Nat) (σ : KS) (π N : Nat → Nat) (h : Int64) (hP : PF σ.2.2) (hR : Rs σ 1 π N) (hI : qIr N) : Ct l D b yX5_mixedWithPlaces cX5_mixedWithPlaces 7 (some .long) (rM 3 66) 0 0 [rf b 0, .long h] shF σ shF (pE (some (.long (dTrays N (dBoxes N h 6) 5))) σ) := by
  have h2 := qi_2 hI
  have ho := s1_in
  refine Ct.of (ls := [(0, rf b 0), (1, .long h)]) (by decide) (Nat.le_of_ble_eq_true rfl) rfl ?_
  intro pg e s m args below meth c Q hQ X hnm
  refine K_lload_n X 1 dX5_mixedWithPlaces_0 rfl rfl ?_
  refine K_lstore_n X (ls' := [(3, _), (0, _), (1, _)]) dX5_mixedWithPlaces_1 rfl (by decide) rfl ?_
  refine K_iconst X dX5_mixedWithPlaces_2 cii_0 ?_
  refine K_istore X (ls' := [(5, _), (3, _), (0, _), (1, _)]) dX5_mixedWithPlaces_3 (by decide) rfl ?_
  have lp1 : ∀ i : Nat, i ≤ 6 → K pg l e (rM 3 66) s m args below meth c Q D b 7 0 0 shF σ 5 [(0, rf b 0), (3, .long (dBoxes N h i)), (5, .int (nI i))] [] := by
    refine kup (fun i hi ih => ?_)
    refine K_iload X 2 dX5_mixedWithPlaces_5 rfl ?_
    refine K_bipush X dX5_mixedWithPlaces_7 cib_6 ?_
    refine K_icmpN_ge (tgt := 47) X dX5_mixedWithPlaces_9 (by decide) (by omega) (by omega) (fun c9 => ?_) (fun c9 => ?_)
    · rw [show i = 6 from by omega]
      refine K_iconst X dX5_mixedWithPlaces_47 cii_0 ?_
      refine K_istore X (ls' := [(5, _), (0, _), (3, _)]) dX5_mixedWithPlaces_48 (by decide) rfl ?_
      have lp3 : ∀ i : Nat, i ≤ 5 → K pg l e (rM 3 66) s m args below meth c Q D b 7 0 0 shF σ 50 [(0, rf b 0), (3, .long (dTrays N (dBoxes N h 6) i)), (5, .int (nI i))] [] := by
        refine kup (fun i hi ih => ?_)
        refine K_iload X 2 dX5_mixedWithPlaces_50 rfl ?_
        refine K_iconst X dX5_mixedWithPlaces_52 cii_5 ?_
        refine K_icmpN_ge (tgt := 91) X dX5_mixedWithPlaces_53 (by decide) (by omega) (by omega) (fun c53 => ?_) (fun c53 => ?_)
        · refine K_lload_n X 1 dX5_mixedWithPlaces_91 rfl rfl ?_
          exact K_lret X hQ dX5_mixedWithPlaces_92 (⟨by rw [show i = 5 from by omega], rfl⟩)
        · refine K_iconst X dX5_mixedWithPlaces_56 cii_0 ?_
          refine K_istore X (ls' := [(6, _), (0, _), (3, _), (5, _)]) dX5_mixedWithPlaces_57 (by decide) rfl ?_
          have lp4 : ∀ j : Nat, j ≤ 2 → K pg l e (rM 3 66) s m args below meth c Q D b 7 0 0 shF σ 59 [(0, rf b 0), (3, .long (dF (fun w => (qOfTray N i w).toInt64) (dTrays N (dBoxes N h 6) i) j)), (5, .int (nI i)), (6, .int (nI j))] [] := by
            refine kup (fun j hj jh => ?_)
            refine K_iload X 3 dX5_mixedWithPlaces_59 rfl ?_
            refine K_iconst X dX5_mixedWithPlaces_61 cii_2 ?_
            refine K_icmpN_ge (tgt := 85) X dX5_mixedWithPlaces_62 (by decide) (by omega) (by omega) (fun c62 => ?_) (fun c62 => ?_)
            · rw [show j = 2 from by omega]
              refine K_iinc X 2 (ls' := [(5, _), (0, _), (3, _), (6, _)]) dX5_mixedWithPlaces_85 rfl (inc_1 _) (by decide) rfl ?_
              refine K_goto (tgt := 50) X dX5_mixedWithPlaces_88 (by decide) ?_
              rw [show dTrays N (dBoxes N h 6) (i + 1) = dF (fun w => (qOfTray N i w).toInt64) (dTrays N (dBoxes N h 6) i) 2 from rfl] at ih
              exact K_sub [1, 2, 0] rfl (ih (by omega))
            · refine K_lload_n X 1 dX5_mixedWithPlaces_65 rfl rfl ?_
              refine K_aload_n X 0 dX5_mixedWithPlaces_66 rfl rfl ?_
              refine K_iload X 2 dX5_mixedWithPlaces_67 rfl ?_
              refine K_iload X 3 dX5_mixedWithPlaces_69 rfl ?_
              refine K_callVE X (c_X5_tray l D b _ _ _ _ _ hP hR hI) my_X5_tray mv_X5_tray wm_X5_294 sf_c rfl ⟨rfl, rfl, Nat.le_of_ble_eq_true rfl, Nat.le_of_ble_eq_true rfl, Nat.le_of_ble_eq_true rfl, Nat.le_of_ble_eq_true rfl⟩ rfl rfl (Nat.le_of_ble_eq_true rfl) dX5_mixedWithPlaces_71 ?_
              rw [aTray_in (v := i) (u := j) (by rw [qIn_nI (by decide) (by decide) (by omega), decide_eq_true (Nat.zero_le _), decide_eq_true (by omega)]; rfl) (by rw [qIn_nI (by decide) (by decide) (by omega), decide_eq_true (Nat.zero_le _), decide_eq_true (by omega)]; rfl) (by omega) (by omega)]
              refine K_i2l X dX5_mixedWithPlaces_74 ?_
              refine K_callSE X (c_X5_mixed l D b _ _ _) my_X5_mixed wt_X5_mixed wm_X5_259 ⟨rfl, rfl, Nat.le_of_ble_eq_true rfl, Nat.le_of_ble_eq_true rfl, Nat.le_of_ble_eq_true rfl, Nat.le_of_ble_eq_true rfl⟩ rfl rfl (Nat.le_of_ble_eq_true rfl) dX5_mixedWithPlaces_75 ?_
              refine K_lstore_n X (ls' := [(3, _), (0, _), (5, _), (6, _)]) dX5_mixedWithPlaces_78 rfl (by decide) rfl ?_
              refine K_iinc X 3 (ls' := [(6, _), (3, _), (0, _), (5, _)]) dX5_mixedWithPlaces_79 rfl (inc_1 _) (by decide) rfl ?_
              refine K_goto (tgt := 59) X dX5_mixedWithPlaces_82 (by decide) ?_
              rw [dF_s] at jh
              exact K_sub [2, 1, 3, 0] rfl (jh (by omega))
          exact K_sub [1, 2, 3, 0] rfl (lp4 0 (Nat.zero_le _))
      exact K_sub [1, 2, 0] rfl (lp3 0 (Nat.zero_le _))
    · refine K_iconst X dX5_mixedWithPlaces_12 cii_0 ?_
      refine K_istore X (ls' := [(6, _), (0, _), (3, _), (5, _)]) dX5_mixedWithPlaces_13 (by decide) rfl ?_
      have lp2 : ∀ j : Nat, j ≤ 4 → K pg l e (rM 3 66) s m args below meth c Q D b 7 0 0 shF σ 15 [(0, rf b 0), (3, .long (dF (fun w => (qOfBox N i w).toInt64) (dBoxes N h i) j)), (5, .int (nI i)), (6, .int (nI j))] [] := by
        refine kup (fun j hj jh => ?_)
        refine K_iload X 3 dX5_mixedWithPlaces_15 rfl ?_
        refine K_iconst X dX5_mixedWithPlaces_17 cii_4 ?_
        refine K_icmpN_ge (tgt := 41) X dX5_mixedWithPlaces_18 (by decide) (by omega) (by omega) (fun c18 => ?_) (fun c18 => ?_)
        · rw [show j = 4 from by omega]
          refine K_iinc X 2 (ls' := [(5, _), (0, _), (3, _), (6, _)]) dX5_mixedWithPlaces_41 rfl (inc_1 _) (by decide) rfl ?_
          refine K_goto (tgt := 5) X dX5_mixedWithPlaces_44 (by decide) ?_
          rw [dBoxes_s] at ih
          exact K_sub [1, 2, 0] rfl (ih (by omega))
        · refine K_lload_n X 1 dX5_mixedWithPlaces_21 rfl rfl ?_
          refine K_aload_n X 0 dX5_mixedWithPlaces_22 rfl rfl ?_
          refine K_iload X 2 dX5_mixedWithPlaces_23 rfl ?_
          refine K_iload X 3 dX5_mixedWithPlaces_25 rfl ?_
          refine K_callVE X (c_X5_box l D b _ _ _ _ _ hP hR hI) my_X5_box mv_X5_box wm_X5_292 sf_c rfl ⟨rfl, rfl, Nat.le_of_ble_eq_true rfl, Nat.le_of_ble_eq_true rfl, Nat.le_of_ble_eq_true rfl, Nat.le_of_ble_eq_true rfl⟩ rfl rfl (Nat.le_of_ble_eq_true rfl) dX5_mixedWithPlaces_27 ?_
          rw [aBox_in (v := i) (u := j) (by rw [qIn_nI (by decide) (by decide) (by omega), decide_eq_true (Nat.zero_le _), decide_eq_true (by omega)]; rfl) (by rw [qIn_nI (by decide) (by decide) (by omega), decide_eq_true (Nat.zero_le _), decide_eq_true (by omega)]; rfl) (by omega) (by omega)]
          refine K_i2l X dX5_mixedWithPlaces_30 ?_
          refine K_callSE X (c_X5_mixed l D b _ _ _) my_X5_mixed wt_X5_mixed wm_X5_259 ⟨rfl, rfl, Nat.le_of_ble_eq_true rfl, Nat.le_of_ble_eq_true rfl, Nat.le_of_ble_eq_true rfl, Nat.le_of_ble_eq_true rfl⟩ rfl rfl (Nat.le_of_ble_eq_true rfl) dX5_mixedWithPlaces_31 ?_
          refine K_lstore_n X (ls' := [(3, _), (0, _), (5, _), (6, _)]) dX5_mixedWithPlaces_34 rfl (by decide) rfl ?_
          refine K_iinc X 3 (ls' := [(6, _), (3, _), (0, _), (5, _)]) dX5_mixedWithPlaces_35 rfl (inc_1 _) (by decide) rfl ?_
          refine K_goto (tgt := 15) X dX5_mixedWithPlaces_38 (by decide) ?_
          rw [dF_s] at jh
          exact K_sub [2, 1, 3, 0] rfl (jh (by omega))
      exact K_sub [1, 2, 3, 0] rfl (lp2 0 (Nat.zero_le _))
  exact K_sub [2, 1, 0] rfl (lp1 0 (Nat.zero_le _))

set_option maxHeartbeats 4000000 in
set_option maxRecDepth 100000 in
theorem c_X5_mixedWithLot (l : Launch) (D : KD) (b : Nat) (σ : KS) (π N : Nat → Nat) (h : Int64) (k : Nat) (hP : PF σ.2.2) (hR : Rs σ 1 π N) (hI : qIr N) (hU : qU N) (hB : N 10 < 2 ^ 31) (hk : k < N 2) : Ct l D b yX5_mixedWithLot cX5_mixedWithLot 7 (some .long) (rM 5 111) 0 0 [rf b 0, .long h, .int (nI (qL N k 0))] shF σ shF (pS (some (.long (dLot N k h))) (fun τ => Fc σ τ)) := by
  have h2 := qi_2 hI
  have ho := s1_in
  have hf : qF N (nI (qL N k 0)) (N 2) = some k := qF_hit hU.1 (fun z hz => by have := hU.2.1 z hz; omega) rfl hk (Nat.le_refl _)
  refine Ct.of (ls := [(0, rf b 0), (1, .long h), (3, .int (nI (qL N k 0)))]) (by decide) (Nat.le_of_ble_eq_true rfl) rfl ?_
  intro pg e s m args below meth c Q hQ X hnm
  refine K_lload_n X 1 dX5_mixedWithLot_0 rfl rfl ?_
  refine K_iload_n X 2 dX5_mixedWithLot_1 rfl rfl ?_
  refine K_i2l X dX5_mixedWithLot_2 ?_
  refine K_callSE X (c_X5_mixed l D b _ _ _) my_X5_mixed wt_X5_mixed wm_X5_259 ⟨rfl, rfl, Nat.le_of_ble_eq_true rfl, Nat.le_of_ble_eq_true rfl, Nat.le_of_ble_eq_true rfl, Nat.le_of_ble_eq_true rfl⟩ rfl rfl (Nat.le_of_ble_eq_true rfl) dX5_mixedWithLot_3 ?_
  refine K_lstore X (ls' := [(4, _), (0, _), (1, _), (3, _)]) dX5_mixedWithLot_6 (by decide) rfl ?_
  refine K_iconst X dX5_mixedWithLot_8 cii_0 ?_
  refine K_istore X (ls' := [(6, _), (4, _), (0, _), (1, _), (3, _)]) dX5_mixedWithLot_9 (by decide) rfl ?_
  have loop : ∀ i : Nat, i ≤ 7 → K pg l e (rM 5 111) s m args below meth c Q D b 7 0 0 shF σ 11 [(0, rf b 0), (3, .int (nI (qL N k 0))), (4, .long (dF (fun w => (qOfLot N k w).toInt64) (31 * h + (nI (qL N k 0)).toInt64) i)), (6, .int (nI i))] [] := by
    refine kup (fun i hi ih => ?_)
    refine K_iload X 3 dX5_mixedWithLot_11 rfl ?_
    refine K_bipush X dX5_mixedWithLot_13 cib_7 ?_
    refine K_icmpN_ge (tgt := 39) X dX5_mixedWithLot_15 (by decide) (by omega) (by omega) (fun c15 => ?_) (fun c15 => ?_)
    · rw [show i = 7 from by omega]
      refine K_lload X 2 dX5_mixedWithLot_39 rfl ?_
      refine K_aload_n X 0 dX5_mixedWithLot_41 rfl rfl ?_
      refine K_iload_n X 1 dX5_mixedWithLot_42 rfl rfl ?_
      refine K_callVP X (c_X5_hoursLeft l D b _ _ _ _ hP hR hI hU hB) my_X5_hoursLeft mv_X5_hoursLeft wm_X5_286 sf_c rfl ⟨rfl, rfl, Nat.le_of_ble_eq_true rfl, Nat.le_of_ble_eq_true rfl, Nat.le_of_ble_eq_true rfl, Nat.le_of_ble_eq_true rfl⟩ rfl rfl (Nat.le_of_ble_eq_true rfl) dX5_mixedWithLot_43 (fun σ43 h43 => ?_)
      rw [show aLeft N (nI (qL N k 0)) = qO (qLf N k 101) from aOf_s hf]
      have hP1 := h43.pf hP
      have hR1 := hR.fc h2 h43
      refine K_i2l X dX5_mixedWithLot_46 ?_
      refine K_callSE X (c_X5_mixed l D b _ _ _) my_X5_mixed wt_X5_mixed wm_X5_259 ⟨rfl, rfl, Nat.le_of_ble_eq_true rfl, Nat.le_of_ble_eq_true rfl, Nat.le_of_ble_eq_true rfl, Nat.le_of_ble_eq_true rfl⟩ rfl rfl (Nat.le_of_ble_eq_true rfl) dX5_mixedWithLot_47 ?_
      refine K_lstore X (ls' := [(4, _), (0, _), (3, _), (6, _)]) dX5_mixedWithLot_50 (by decide) rfl ?_
      refine K_lload X 0 dX5_mixedWithLot_52 rfl ?_
      refine K_aload_n X 1 dX5_mixedWithLot_54 rfl rfl ?_
      refine K_iload_n X 2 dX5_mixedWithLot_55 rfl rfl ?_
      refine K_callVP X (c_X5_bestHour l D b _ _ _ _ hP1 hR1 hI hU hB) my_X5_bestHour mv_X5_bestHour wm_X5_289 sf_c rfl ⟨rfl, rfl, Nat.le_of_ble_eq_true rfl, Nat.le_of_ble_eq_true rfl, Nat.le_of_ble_eq_true rfl, Nat.le_of_ble_eq_true rfl⟩ rfl rfl (Nat.le_of_ble_eq_true rfl) dX5_mixedWithLot_56 (fun σ56 h56 => ?_)
      rw [show aBest N (nI (qL N k 0)) = qHf (qBs N k (11 - N 1)) from aOf_s hf]
      refine K_i2l X dX5_mixedWithLot_59 ?_
      refine K_callSE X (c_X5_mixed l D b _ _ _) my_X5_mixed wt_X5_mixed wm_X5_259 ⟨rfl, rfl, Nat.le_of_ble_eq_true rfl, Nat.le_of_ble_eq_true rfl, Nat.le_of_ble_eq_true rfl, Nat.le_of_ble_eq_true rfl⟩ rfl rfl (Nat.le_of_ble_eq_true rfl) dX5_mixedWithLot_60 ?_
      exact K_lret X hQ dX5_mixedWithLot_63 (⟨rfl, h43.tr h56⟩)
    · refine K_lload X 2 dX5_mixedWithLot_18 rfl ?_
      refine K_aload_n X 0 dX5_mixedWithLot_20 rfl rfl ?_
      refine K_iload_n X 1 dX5_mixedWithLot_21 rfl rfl ?_
      refine K_iload X 3 dX5_mixedWithLot_22 rfl ?_
      refine K_callVE X (c_X5_lot l D b _ _ _ _ _ hP hR hI hU hB) my_X5_lot mv_X5_lot wm_X5_283 sf_c rfl ⟨rfl, rfl, Nat.le_of_ble_eq_true rfl, Nat.le_of_ble_eq_true rfl, Nat.le_of_ble_eq_true rfl, Nat.le_of_ble_eq_true rfl⟩ rfl rfl (Nat.le_of_ble_eq_true rfl) dX5_mixedWithLot_24 ?_
      rw [aLot_in hf (by rw [qIn_nI (by decide) (by decide) (by omega), decide_eq_true (Nat.zero_le _), decide_eq_true (by omega)]; rfl) (by omega)]
      refine K_i2l X dX5_mixedWithLot_27 ?_
      refine K_callSE X (c_X5_mixed l D b _ _ _) my_X5_mixed wt_X5_mixed wm_X5_259 ⟨rfl, rfl, Nat.le_of_ble_eq_true rfl, Nat.le_of_ble_eq_true rfl, Nat.le_of_ble_eq_true rfl, Nat.le_of_ble_eq_true rfl⟩ rfl rfl (Nat.le_of_ble_eq_true rfl) dX5_mixedWithLot_28 ?_
      refine K_lstore X (ls' := [(4, _), (0, _), (3, _), (6, _)]) dX5_mixedWithLot_31 (by decide) rfl ?_
      refine K_iinc X 3 (ls' := [(6, _), (4, _), (0, _), (3, _)]) dX5_mixedWithLot_33 rfl (inc_1 _) (by decide) rfl ?_
      refine K_goto (tgt := 11) X dX5_mixedWithLot_36 (by decide) ?_
      rw [dF_s] at ih
      exact K_sub [2, 3, 1, 0] rfl (ih (by omega))
  exact K_sub [2, 4, 1, 0] rfl (loop 0 (Nat.zero_le _))

set_option maxHeartbeats 4000000 in
set_option maxRecDepth 100000 in
theorem c_X5_digest (l : Launch) (D : KD) (b : Nat) (σ : KS) (π N : Nat → Nat) (hP : PF σ.2.2) (hR : Rs σ 1 π N) (hI : qIr N) (hU : qU N) (hB : N 10 < 2 ^ 31) : Ct l D b yX5_digest cX5_digest 5 (some .long) (rM 6 137) 0 0 [rf b 0] shF σ shF (pS (some (.long (aDigest N))) (fun τ => Fc σ τ)) := by
  have h2 := qi_2 hI
  have ho := s1_in
  obtain ⟨σ0, e0⟩ : ∃ z, z = σ := ⟨σ, rfl⟩
  have hP0 : PF σ0.2.2 := by rw [e0]; exact hP
  have hR0 : Rs σ0 1 π N := by rw [e0]; exact hR
  have hFc : Fc σ0 σ := by rw [e0]; exact Fc.rf
  refine Ct.of (ls := [(0, rf b 0)]) (by decide) (Nat.le_of_ble_eq_true rfl) rfl ?_
  intro pg e s m args below meth c Q hQ X hnm
  refine K_ldc2 X wq_X5_254 dX5_digest_0 ?_
  obtain ⟨z0, hz0⟩ : ∃ z, z = (186 : Int64) := ⟨_, rfl⟩
  rw [← hz0]
  refine K_lstore_n X (ls' := [(1, _), (0, _)]) dX5_digest_3 rfl (by decide) rfl ?_
  refine K_iconst X dX5_digest_4 cii_0 ?_
  refine K_istore_n X (ls' := [(3, _), (1, _), (0, _)]) dX5_digest_5 rfl (by decide) rfl ?_
  have lp1 : ∀ i : Nat, i ≤ 11 → K pg l e (rM 6 137) s m args below meth c Q D b 5 0 0 shF σ 6 [(0, rf b 0), (1, .long (dF (fun w => lN (qCount N w)) z0 i)), (3, .int (nI i))] [] := by
    refine kup (fun i hi ih => ?_)
    refine K_iload_n X 2 dX5_digest_6 rfl rfl ?_
    refine K_bipush X dX5_digest_7 cib_11 ?_
    refine K_icmpN_ge (tgt := 28) X dX5_digest_9 (by decide) (by omega) (by omega) (fun c9 => ?_) (fun c9 => ?_)
    · rw [show i = 11 from by omega]
      obtain ⟨z1, hz1⟩ : ∃ z, z = dF (fun w => lN (qCount N w)) z0 11 := ⟨_, rfl⟩
      rw [← hz1]
      refine K_iconst X dX5_digest_28 cii_0 ?_
      refine K_istore_n X (ls' := [(3, _), (0, _), (1, _)]) dX5_digest_29 rfl (by decide) rfl ?_
      have lp2 : ∀ i : Nat, i ≤ N 2 → ∀ (τ : KS), Fc σ0 τ → K pg l e (rM 6 137) s m args below meth c Q D b 5 0 0 shF τ 30 [(0, rf b 0), (1, .long (dLots N z1 i)), (3, .int (nI i))] [] := by
        refine kup (fun i hi ih => ?_)
        intro σ hFc
        have hP := hFc.pf hP0
        have hR := hR0.fc h2 hFc
        refine K_iload_n X 2 dX5_digest_30 rfl rfl ?_
        refine K_aload_n X 0 dX5_digest_31 rfl rfl ?_
        refine K_get X 0 kFd5 rfl (by decide) sf_c wf_X5_10 rfl (v := rf b (1)) (kv_o (pf_00 hP)) dX5_digest_32 ?_
        refine K_get X 5 kFd4 rfl (by decide) (so_0 1 ho) wf_X5_161 rfl (v := .int (nI (N 2))) (congrArg Value.int (rs_i hR 5 (by decide))) dX5_digest_35 ?_
        refine K_icmpN_ge (tgt := 65) X dX5_digest_38 (by decide) (by omega) (by omega) (fun c38 => ?_) (fun c38 => ?_)
        · rw [show i = N 2 from by omega]
          obtain ⟨z2, hz2⟩ : ∃ z, z = dLots N z1 (N 2) := ⟨_, rfl⟩
          rw [← hz2]
          refine K_aload_n X 0 dX5_digest_65 rfl rfl ?_
          refine K_lload_n X 1 dX5_digest_66 rfl rfl ?_
          refine K_callVE X (c_X5_mixedWithPlaces l D b _ _ _ _ hP hR hI) my_X5_mixedWithPlaces mv_X5_mixedWithPlaces wm_X5_270 sf_c rfl ⟨rfl, rfl, Nat.le_of_ble_eq_true rfl, Nat.le_of_ble_eq_true rfl, Nat.le_of_ble_eq_true rfl, Nat.le_of_ble_eq_true rfl⟩ rfl rfl (Nat.le_of_ble_eq_true rfl) dX5_digest_67 ?_
          refine K_lstore_n X (ls' := [(1, _), (0, _), (3, _)]) dX5_digest_70 rfl (by decide) rfl ?_
          obtain ⟨z4, hz4⟩ : ∃ z, z = dTrays N (dBoxes N z2 6) 5 := ⟨_, rfl⟩
          rw [← hz4]
          refine K_iconst X dX5_digest_71 cii_0 ?_
          refine K_istore_n X (ls' := [(3, _), (1, _), (0, _)]) dX5_digest_72 rfl (by decide) rfl ?_
          have lp7 : ∀ i : Nat, i ≤ 6 → K pg l e (rM 6 137) s m args below meth c Q D b 5 0 0 shF σ 73 [(0, rf b 0), (1, .long (dKinds N z4 i)), (3, .int (nI i))] [] := by
            refine kup (fun i hi ih => ?_)
            refine K_iload_n X 2 dX5_digest_73 rfl rfl ?_
            refine K_bipush X dX5_digest_74 cib_6 ?_
            refine K_icmpN_ge (tgt := 113) X dX5_digest_76 (by decide) (by omega) (by omega) (fun c76 => ?_) (fun c76 => ?_)
            · rw [show i = 6 from by omega]
              obtain ⟨z5, hz5⟩ : ∃ z, z = dKinds N z4 6 := ⟨_, rfl⟩
              rw [← hz5]
              refine K_iconst X dX5_digest_113 cii_0 ?_
              refine K_istore_n X (ls' := [(3, _), (0, _), (1, _)]) dX5_digest_114 rfl (by decide) rfl ?_
              have lp9 : ∀ i : Nat, i ≤ 11 → K pg l e (rM 6 137) s m args below meth c Q D b 5 0 0 shF σ 115 [(0, rf b 0), (1, .long (dF (fun h => (nI (N (23 + h))).toInt64) z5 i)), (3, .int (nI i))] [] := by
                refine kup (fun i hi ih => ?_)
                refine K_iload_n X 2 dX5_digest_115 rfl rfl ?_
                refine K_bipush X dX5_digest_116 cib_10 ?_
                refine K_icmpN_gt (tgt := 138) X dX5_digest_118 (by decide) (by omega) (by omega) (fun c118 => ?_) (fun c118 => ?_)
                · rw [show i = 11 from by omega]
                  obtain ⟨z6, hz6⟩ : ∃ z, z = dF (fun h => (nI (N (23 + h))).toInt64) z5 11 := ⟨_, rfl⟩
                  rw [← hz6]
                  refine K_lload_n X 1 dX5_digest_138 rfl rfl ?_
                  refine K_aload_n X 0 dX5_digest_139 rfl rfl ?_
                  refine K_callVE X (c_X5_worth l D b _ _ _ hP hR hI) my_X5_worth mv_X5_worth wm_X5_279 sf_c rfl ⟨rfl, rfl, Nat.le_of_ble_eq_true rfl, Nat.le_of_ble_eq_true rfl, Nat.le_of_ble_eq_true rfl, Nat.le_of_ble_eq_true rfl⟩ rfl rfl (Nat.le_of_ble_eq_true rfl) dX5_digest_140 ?_
                  refine K_callSE X (c_X5_mixed l D b _ _ _) my_X5_mixed wt_X5_mixed wm_X5_259 ⟨rfl, rfl, Nat.le_of_ble_eq_true rfl, Nat.le_of_ble_eq_true rfl, Nat.le_of_ble_eq_true rfl, Nat.le_of_ble_eq_true rfl⟩ rfl rfl (Nat.le_of_ble_eq_true rfl) dX5_digest_143 ?_
                  exact K_lret X hQ dX5_digest_146 (⟨by rw [hz6, hz5, hz4, hz2, hz1, hz0]; unfold aDigest dH6 dH5 dH4 dH3 dH2 dH1; rfl, by rw [← e0]; exact hFc⟩)
                · refine K_lload_n X 1 dX5_digest_121 rfl rfl ?_
                  refine K_aload_n X 0 dX5_digest_122 rfl rfl ?_
                  refine K_iload_n X 2 dX5_digest_123 rfl rfl ?_
                  refine K_callVE X (c_X5_cut l D b _ _ _ _ hP hR hI) my_X5_cut mv_X5_cut wm_X5_276 sf_c rfl ⟨rfl, rfl, Nat.le_of_ble_eq_true rfl, Nat.le_of_ble_eq_true rfl, Nat.le_of_ble_eq_true rfl, Nat.le_of_ble_eq_true rfl⟩ rfl rfl (Nat.le_of_ble_eq_true rfl) dX5_digest_124 ?_
                  rw [show aCut N (nI i) = nI (N (23 + i)) from by unfold aCut; rw [if_pos (by rw [qIn_nI (by decide) (by decide) (by omega), decide_eq_true (Nat.zero_le _), decide_eq_true (by omega)]; rfl), nI_clamp (by omega)]]
                  refine K_i2l X dX5_digest_127 ?_
                  refine K_callSE X (c_X5_mixed l D b _ _ _) my_X5_mixed wt_X5_mixed wm_X5_259 ⟨rfl, rfl, Nat.le_of_ble_eq_true rfl, Nat.le_of_ble_eq_true rfl, Nat.le_of_ble_eq_true rfl, Nat.le_of_ble_eq_true rfl⟩ rfl rfl (Nat.le_of_ble_eq_true rfl) dX5_digest_128 ?_
                  refine K_lstore_n X (ls' := [(1, _), (0, _), (3, _)]) dX5_digest_131 rfl (by decide) rfl ?_
                  refine K_iinc X 2 (ls' := [(3, _), (1, _), (0, _)]) dX5_digest_132 rfl (inc_1 _) (by decide) rfl ?_
                  refine K_goto (tgt := 115) X dX5_digest_135 (by decide) ?_
                  rw [dF_s] at ih
                  exact K_sub [2, 1, 0] rfl (ih (by omega))
              exact K_sub [1, 2, 0] rfl (lp9 0 (Nat.zero_le _))
            · refine K_iconst X dX5_digest_79 cii_0 ?_
              refine K_istore X (ls' := [(4, _), (0, _), (1, _), (3, _)]) dX5_digest_80 (by decide) rfl ?_
              have lp8 : ∀ j : Nat, j ≤ 4 → K pg l e (rM 6 137) s m args below meth c Q D b 5 0 0 shF σ 82 [(0, rf b 0), (1, .long (dF (fun w => (qOfKind N i w).toInt64) (dKinds N z4 i) j)), (3, .int (nI i)), (4, .int (nI j))] [] := by
                refine kup (fun j hj jh => ?_)
                refine K_iload X 3 dX5_digest_82 rfl ?_
                refine K_iconst X dX5_digest_84 cii_4 ?_
                refine K_icmpN_ge (tgt := 107) X dX5_digest_85 (by decide) (by omega) (by omega) (fun c85 => ?_) (fun c85 => ?_)
                · rw [show j = 4 from by omega]
                  refine K_iinc X 2 (ls' := [(3, _), (0, _), (1, _), (4, _)]) dX5_digest_107 rfl (inc_1 _) (by decide) rfl ?_
                  refine K_goto (tgt := 73) X dX5_digest_110 (by decide) ?_
                  rw [dKinds_s] at ih
                  exact K_sub [1, 2, 0] rfl (ih (by omega))
                · refine K_lload_n X 1 dX5_digest_88 rfl rfl ?_
                  refine K_aload_n X 0 dX5_digest_89 rfl rfl ?_
                  refine K_iload_n X 2 dX5_digest_90 rfl rfl ?_
                  refine K_iload X 3 dX5_digest_91 rfl ?_
                  refine K_callVE X (c_X5_kind l D b _ _ _ _ _ hP hR hI) my_X5_kind mv_X5_kind wm_X5_274 sf_c rfl ⟨rfl, rfl, Nat.le_of_ble_eq_true rfl, Nat.le_of_ble_eq_true rfl, Nat.le_of_ble_eq_true rfl, Nat.le_of_ble_eq_true rfl⟩ rfl rfl (Nat.le_of_ble_eq_true rfl) dX5_digest_93 ?_
                  rw [aKind_in (v := i) (u := j) (by rw [qIn_nI (by decide) (by decide) (by omega), decide_eq_true (Nat.zero_le _), decide_eq_true (by omega)]; rfl) (by rw [qIn_nI (by decide) (by decide) (by omega), decide_eq_true (Nat.zero_le _), decide_eq_true (by omega)]; rfl) (by omega) (by omega)]
                  refine K_i2l X dX5_digest_96 ?_
                  refine K_callSE X (c_X5_mixed l D b _ _ _) my_X5_mixed wt_X5_mixed wm_X5_259 ⟨rfl, rfl, Nat.le_of_ble_eq_true rfl, Nat.le_of_ble_eq_true rfl, Nat.le_of_ble_eq_true rfl, Nat.le_of_ble_eq_true rfl⟩ rfl rfl (Nat.le_of_ble_eq_true rfl) dX5_digest_97 ?_
                  refine K_lstore_n X (ls' := [(1, _), (0, _), (3, _), (4, _)]) dX5_digest_100 rfl (by decide) rfl ?_
                  refine K_iinc X 3 (ls' := [(4, _), (1, _), (0, _), (3, _)]) dX5_digest_101 rfl (inc_1 _) (by decide) rfl ?_
                  refine K_goto (tgt := 82) X dX5_digest_104 (by decide) ?_
                  rw [dF_s] at jh
                  exact K_sub [2, 1, 3, 0] rfl (jh (by omega))
              exact K_sub [1, 2, 3, 0] rfl (lp8 0 (Nat.zero_le _))
          exact K_sub [2, 1, 0] rfl (lp7 0 (Nat.zero_le _))
        · refine K_aload_n X 0 dX5_digest_41 rfl rfl ?_
          refine K_lload_n X 1 dX5_digest_42 rfl rfl ?_
          refine K_aload_n X 0 dX5_digest_43 rfl rfl ?_
          refine K_get X 0 kFd5 rfl (by decide) sf_c wf_X5_10 rfl (v := rf b (1)) (kv_o (pf_00 hP)) dX5_digest_44 ?_
          refine K_get X 16 kFd4 rfl (by decide) (so_0 1 ho) wf_X5_219 rfl (v := rf b (1 + 6)) (kv_a (ps_16 hP ho)) dX5_digest_47 ?_
          refine K_iload_n X 2 dX5_digest_50 rfl rfl ?_
          refine K_aald (z := 1 + 7 + π i) X _ (so_6 1 ho) (by decide) rfl (by omega) (by decide) (rs_r hR (by omega)) dX5_digest_51 ?_
          refine K_get X 0 kFd3 rfl (by decide) (so_l ho (rs_lt hR (by omega))) wf_X5_263 rfl (v := .int (nI (qL N i 0))) (congrArg Value.int (rs_l hR (show i < N 2 from by omega) 0 (by decide))) dX5_digest_52 ?_
          refine K_callVP X (c_X5_mixedWithLot l D b _ _ _ _ _ hP hR hI hU hB (by omega)) my_X5_mixedWithLot mv_X5_mixedWithLot wm_X5_266 sf_c rfl ⟨rfl, rfl, Nat.le_of_ble_eq_true rfl, Nat.le_of_ble_eq_true rfl, Nat.le_of_ble_eq_true rfl, Nat.le_of_ble_eq_true rfl⟩ rfl rfl (Nat.le_of_ble_eq_true rfl) dX5_digest_55 (fun σ55 h55 => ?_)
          refine K_gen (φ := fun τ => Fc σ0 τ) (hFc.tr h55) (fun σ hFc => ?_)
          refine K_lstore_n X (ls' := [(1, _), (0, _), (3, _)]) dX5_digest_58 rfl (by decide) rfl ?_
          refine K_iinc X 2 (ls' := [(3, _), (1, _), (0, _)]) dX5_digest_59 rfl (inc_1 _) (by decide) rfl ?_
          refine K_goto (tgt := 30) X dX5_digest_62 (by decide) ?_
          rw [dLots_s] at ih
          exact K_sub [2, 1, 0] rfl (ih (by omega) σ hFc)
      exact K_sub [1, 2, 0] rfl (lp2 0 (Nat.zero_le _) σ hFc)
    · refine K_lload_n X 1 dX5_digest_12 rfl rfl ?_
      refine K_aload_n X 0 dX5_digest_13 rfl rfl ?_
      refine K_iload_n X 2 dX5_digest_14 rfl rfl ?_
      refine K_callVE X (c_X5_count l D b _ _ _ _ hP hR hI) my_X5_count mv_X5_count wm_X5_256 sf_c rfl ⟨rfl, rfl, Nat.le_of_ble_eq_true rfl, Nat.le_of_ble_eq_true rfl, Nat.le_of_ble_eq_true rfl, Nat.le_of_ble_eq_true rfl⟩ rfl rfl (Nat.le_of_ble_eq_true rfl) dX5_digest_15 ?_
      rw [aCount_in (by rw [qIn_nI (by decide) (by decide) (by omega), decide_eq_true (Nat.zero_le _), decide_eq_true (by omega)]; rfl) (by omega)]
      refine K_callSE X (c_X5_mixed l D b _ _ _) my_X5_mixed wt_X5_mixed wm_X5_259 ⟨rfl, rfl, Nat.le_of_ble_eq_true rfl, Nat.le_of_ble_eq_true rfl, Nat.le_of_ble_eq_true rfl, Nat.le_of_ble_eq_true rfl⟩ rfl rfl (Nat.le_of_ble_eq_true rfl) dX5_digest_18 ?_
      refine K_lstore_n X (ls' := [(1, _), (0, _), (3, _)]) dX5_digest_21 rfl (by decide) rfl ?_
      refine K_iinc X 2 (ls' := [(3, _), (1, _), (0, _)]) dX5_digest_22 rfl (inc_1 _) (by decide) rfl ?_
      refine K_goto (tgt := 6) X dX5_digest_25 (by decide) ?_
      rw [dF_s] at ih
      exact K_sub [2, 1, 0] rfl (ih (by omega))
  exact K_sub [2, 1, 0] rfl (lp1 0 (Nat.zero_le _))
