/-! THE REFERENCE: what changes a shop's numbers -/
set_option maxHeartbeats 4000000 in
set_option maxRecDepth 100000 in
theorem c_X6_drops (l : Launch) (D : KD) (b : Nat) (σ : KS) (N : Nat → Nat) (k : Nat) (hP : PF σ.2.2) (h2 : N 2 ≤ 16) (hk : k < N 2) : Ct l D b yX6_drops cX6_drops 3 none (rM 0 0) 0 0 [rf b 190, .int (nI k)] shF (wN σ N) shF (pE none (wN σ (qDrop N k))) := by
  refine Ct.of (ls := [(0, rf b 190), (1, .int (nI k))]) (by decide) (Nat.le_of_ble_eq_true rfl) rfl ?_
  intro pg e s m args below meth c Q hQ X hnm
  refine K_aload_n X 0 dX6_drops_0 rfl rfl ?_
  refine K_get X 0 kFd6 rfl (by decide) sf_m wf_X6_7 rfl (v := rf b (191)) (kv_a (pf_m0 hP)) dX6_drops_1 ?_
  refine K_iconst X dX6_drops_4 cii_2 ?_
  refine K_dup2 X dX6_drops_5 rfl rfl ?_
  refine K_iald X _ sf_ms rfl (by omega) (by decide) (wN_at _) dX6_drops_6 ?_
  refine K_iconst X dX6_drops_7 cii_1 ?_
  refine K_isubN X dX6_drops_8 (by omega) ?_
  refine K_iast X _ sf_ms rfl (by omega) (by decide) dX6_drops_9 ?_
  refine K_st wN_u ?_
  refine K_bipush X dX6_drops_10 cib_45 ?_
  refine K_iconst X dX6_drops_12 cii_5 ?_
  refine K_iload_n X 1 dX6_drops_13 rfl rfl ?_
  refine K_imulN X dX6_drops_14 ?_
  refine K_iaddN X dX6_drops_15 ?_
  refine K_istore_n X (ls' := [(2, _), (0, _), (1, _)]) dX6_drops_16 rfl (by decide) rfl ?_
  have loop : ∀ i : Nat, i ≤ 5 * (N 2 - 1 - k) → K pg l e (rM 0 0) s m args below meth c Q D b 3 0 0 shF (wN σ (qD1 N k i)) 17 [(0, rf b 190), (1, .int (nI k)), (2, .int (nI (45 + 5 * k + i)))] [] := by
    refine kup (fun i hi ih => ?_)
    refine K_iload_n X 2 dX6_drops_17 rfl rfl ?_
    refine K_bipush X dX6_drops_18 cib_45 ?_
    refine K_iconst X dX6_drops_20 cii_5 ?_
    refine K_aload_n X 0 dX6_drops_21 rfl rfl ?_
    refine K_get X 0 kFd6 rfl (by decide) sf_m wf_X6_7 rfl (v := rf b (191)) (kv_a (pf_m0 hP)) dX6_drops_22 ?_
    refine K_iconst X dX6_drops_25 cii_2 ?_
    refine K_iald X _ sf_ms rfl (by omega) (by decide) (wN_at _) dX6_drops_26 ?_
    rw [qD1_2]
    refine K_imulN X dX6_drops_27 ?_
    refine K_iaddN X dX6_drops_28 ?_
    refine K_icmpN_ge (tgt := 52) X dX6_drops_29 (by decide) (by omega) (by omega) (fun c29 => ?_) (fun c29 => ?_)
    · rw [show i = 5 * (N 2 - 1 - k) from by omega]
      refine K_iconst X dX6_drops_52 cii_0 ?_
      refine K_istore_n X (ls' := [(2, _), (0, _), (1, _)]) dX6_drops_53 rfl (by decide) rfl ?_
      have loop2 : ∀ j : Nat, j ≤ 5 → K pg l e (rM 0 0) s m args below meth c Q D b 3 0 0 shF (wN σ (qD2 (qD1 N k (5 * (N 2 - 1 - k))) (N 2 - 1) j)) 54 [(0, rf b 190), (2, .int (nI j))] [] := by
        refine kup (fun j hj jh => ?_)
        refine K_iload_n X 1 dX6_drops_54 rfl rfl ?_
        refine K_iconst X dX6_drops_55 cii_5 ?_
        refine K_icmpN_ge (tgt := 84) X dX6_drops_56 (by decide) (by omega) (by omega) (fun c56 => ?_) (fun c56 => ?_)
        · exact K_vret X hQ dX6_drops_84 (⟨rfl, by rw [show j = 5 from by omega]; rfl⟩)
        · refine K_aload_n X 0 dX6_drops_59 rfl rfl ?_
          refine K_get X 0 kFd6 rfl (by decide) sf_m wf_X6_7 rfl (v := rf b (191)) (kv_a (pf_m0 hP)) dX6_drops_60 ?_
          refine K_bipush X dX6_drops_63 cib_45 ?_
          refine K_iconst X dX6_drops_65 cii_5 ?_
          refine K_aload_n X 0 dX6_drops_66 rfl rfl ?_
          refine K_get X 0 kFd6 rfl (by decide) sf_m wf_X6_7 rfl (v := rf b (191)) (kv_a (pf_m0 hP)) dX6_drops_67 ?_
          refine K_iconst X dX6_drops_70 cii_2 ?_
          refine K_iald X _ sf_ms rfl (by omega) (by decide) (wN_at _) dX6_drops_71 ?_
          rw [qD2_2, qD1_2]
          refine K_imulN X dX6_drops_72 ?_
          refine K_iaddN X dX6_drops_73 ?_
          refine K_iload_n X 1 dX6_drops_74 rfl rfl ?_
          refine K_iaddN X dX6_drops_75 ?_
          refine K_iconst X dX6_drops_76 cii_0 ?_
          refine K_iast X _ sf_ms rfl (by omega) (by decide) dX6_drops_77 ?_
          refine K_st wN_u ?_
          refine K_iinc X 1 (ls' := [(2, _), (0, _)]) dX6_drops_78 rfl (inc_1 _) (by decide) rfl ?_
          refine K_goto (tgt := 54) X dX6_drops_81 (by decide) ?_
          exact K_sub [1, 0] rfl (jh (by omega))
      exact K_sub [1, 0] rfl (loop2 0 (Nat.zero_le _))
    · refine K_aload_n X 0 dX6_drops_32 rfl rfl ?_
      refine K_get X 0 kFd6 rfl (by decide) sf_m wf_X6_7 rfl (v := rf b (191)) (kv_a (pf_m0 hP)) dX6_drops_33 ?_
      refine K_iload_n X 2 dX6_drops_36 rfl rfl ?_
      refine K_aload_n X 0 dX6_drops_37 rfl rfl ?_
      refine K_get X 0 kFd6 rfl (by decide) sf_m wf_X6_7 rfl (v := rf b (191)) (kv_a (pf_m0 hP)) dX6_drops_38 ?_
      refine K_iload_n X 2 dX6_drops_41 rfl rfl ?_
      refine K_iconst X dX6_drops_42 cii_5 ?_
      refine K_iaddN X dX6_drops_43 ?_
      refine K_iald X _ sf_ms rfl (by omega) (by decide) (wN_at _) dX6_drops_44 ?_
      refine K_iast X _ sf_ms rfl (by omega) (by decide) dX6_drops_45 ?_
      refine K_st wN_u ?_
      refine K_iinc X 2 (ls' := [(2, _), (0, _), (1, _)]) dX6_drops_46 rfl (inc_1 _) (by decide) rfl ?_
      refine K_goto (tgt := 17) X dX6_drops_49 (by decide) ?_
      exact K_sub [1, 2, 0] rfl (ih (by omega))
  exact K_sub [1, 2, 0] rfl (loop 0 (Nat.zero_le _))

set_option maxHeartbeats 4000000 in
set_option maxRecDepth 100000 in
theorem c_X6_throwsAway (l : Launch) (D : KD) (b : Nat) (σ : KS) (N : Nat → Nat) (k : Nat) (hP : PF σ.2.2) (h2 : N 2 ≤ 16) (hk : k < N 2) : Ct l D b yX6_throwsAway cX6_throwsAway 2 none (rM 1 22) 0 0 [rf b 190, .int (nI k)] shF (wN σ N) shF (pE none (wN σ (qThrow N k))) := by
  refine Ct.of (ls := [(0, rf b 190), (1, .int (nI k))]) (by decide) (Nat.le_of_ble_eq_true rfl) rfl ?_
  intro pg e s m args below meth c Q hQ X hnm
  refine K_aload_n X 0 dX6_throwsAway_0 rfl rfl ?_
  refine K_get X 0 kFd6 rfl (by decide) sf_m wf_X6_7 rfl (v := rf b (191)) (kv_a (pf_m0 hP)) dX6_throwsAway_1 ?_
  refine K_iconst X dX6_throwsAway_4 cii_5 ?_
  refine K_dup2 X dX6_throwsAway_5 rfl rfl ?_
  refine K_iald X _ sf_ms rfl (by omega) (by decide) (wN_at _) dX6_throwsAway_6 ?_
  refine K_aload_n X 0 dX6_throwsAway_7 rfl rfl ?_
  refine K_iload_n X 1 dX6_throwsAway_8 rfl rfl ?_
  refine K_iconst X dX6_throwsAway_9 cii_2 ?_
  refine K_callVE X (c_X6_part l D b _ _ _ _ hP (by omega)) my_X6_part mv_X6_part wm_X6_30 sf_m rfl ⟨rfl, rfl, Nat.le_of_ble_eq_true rfl, Nat.le_of_ble_eq_true rfl, Nat.le_of_ble_eq_true rfl, Nat.le_of_ble_eq_true rfl⟩ rfl rfl (Nat.le_of_ble_eq_true rfl) dX6_throwsAway_10 ?_
  refine K_iaddN X dX6_throwsAway_13 ?_
  refine K_iast X _ sf_ms rfl (by omega) (by decide) dX6_throwsAway_14 ?_
  refine K_st wN_u ?_
  refine K_aload_n X 0 dX6_throwsAway_15 rfl rfl ?_
  refine K_iload_n X 1 dX6_throwsAway_16 rfl rfl ?_
  refine K_callVE0 X (c_X6_drops l D b _ _ _ hP (by rw [uN_n (by omega)]; exact h2) (by rw [uN_n (by omega)]; exact hk)) my_X6_drops mv_X6_drops wm_X6_34 sf_m rfl ⟨rfl, rfl, Nat.le_of_ble_eq_true rfl, Nat.le_of_ble_eq_true rfl, Nat.le_of_ble_eq_true rfl, Nat.le_of_ble_eq_true rfl⟩ rfl rfl (Nat.le_of_ble_eq_true rfl) dX6_throwsAway_17 ?_
  exact K_vret X hQ dX6_throwsAway_20 (⟨rfl, rfl⟩)

set_option maxHeartbeats 4000000 in
set_option maxRecDepth 100000 in
theorem c_X6_adds (l : Launch) (D : KD) (b : Nat) (σ : KS) (N : Nat → Nat) (kd g fr bx : Nat) (hP : PF σ.2.2) (h2 : N 2 < 16) : Ct l D b yX6_adds cX6_adds 6 (some .int) (rM 1 23) 0 0 [rf b 190, .int (nI kd), .int (nI g), .int (nI fr), .int (nI bx)] shF (wN σ N) shF (pE (some (.int (nI (N 10 + 1)))) (wN σ (qAdd N kd g fr bx))) := by
  refine Ct.of (ls := [(0, rf b 190), (1, .int (nI kd)), (2, .int (nI g)), (3, .int (nI fr)), (4, .int (nI bx))]) (by decide) (Nat.le_of_ble_eq_true rfl) rfl ?_
  intro pg e s m args below meth c Q hQ X hnm
  refine K_aload_n X 0 dX6_adds_0 rfl rfl ?_
  refine K_get X 0 kFd6 rfl (by decide) sf_m wf_X6_7 rfl (v := rf b (191)) (kv_a (pf_m0 hP)) dX6_adds_1 ?_
  refine K_iconst X dX6_adds_4 cii_2 ?_
  refine K_iald X _ sf_ms rfl (by omega) (by decide) (wN_at _) dX6_adds_5 ?_
  refine K_istore X (ls' := [(5, _), (0, _), (1, _), (2, _), (3, _), (4, _)]) dX6_adds_6 (by decide) rfl ?_
  refine K_aload_n X 1 dX6_adds_8 rfl rfl ?_
  refine K_get X 0 kFd6 rfl (by decide) sf_m wf_X6_7 rfl (v := rf b (191)) (kv_a (pf_m0 hP)) dX6_adds_9 ?_
  refine K_iconst X dX6_adds_12 cii_2 ?_
  refine K_dup2 X dX6_adds_13 rfl rfl ?_
  refine K_iald X _ sf_ms rfl (by omega) (by decide) (wN_at _) dX6_adds_14 ?_
  refine K_iconst X dX6_adds_15 cii_1 ?_
  refine K_iaddN X dX6_adds_16 ?_
  refine K_iast X _ sf_ms rfl (by omega) (by decide) dX6_adds_17 ?_
  refine K_st wN_u ?_
  refine K_aload_n X 1 dX6_adds_18 rfl rfl ?_
  refine K_get X 0 kFd6 rfl (by decide) sf_m wf_X6_7 rfl (v := rf b (191)) (kv_a (pf_m0 hP)) dX6_adds_19 ?_
  refine K_bipush X dX6_adds_22 cib_10 ?_
  refine K_dup2 X dX6_adds_24 rfl rfl ?_
  refine K_iald X _ sf_ms rfl (by omega) (by decide) (wN_at _) dX6_adds_25 ?_
  rw [uN_n (show 10 ≠ 2 from by omega)]
  refine K_iconst X dX6_adds_26 cii_1 ?_
  refine K_iaddN X dX6_adds_27 ?_
  refine K_iast X _ sf_ms rfl (by omega) (by decide) dX6_adds_28 ?_
  refine K_st wN_u ?_
  refine K_aload_n X 1 dX6_adds_29 rfl rfl ?_
  refine K_iload X 0 dX6_adds_30 rfl ?_
  refine K_iconst X dX6_adds_32 cii_0 ?_
  refine K_aload_n X 1 dX6_adds_33 rfl rfl ?_
  refine K_get X 0 kFd6 rfl (by decide) sf_m wf_X6_7 rfl (v := rf b (191)) (kv_a (pf_m0 hP)) dX6_adds_34 ?_
  refine K_bipush X dX6_adds_37 cib_10 ?_
  refine K_iald X _ sf_ms rfl (by omega) (by decide) (wN_at _) dX6_adds_39 ?_
  rw [uN_s]
  refine K_callVE0 X (c_X6_setPart l D b _ _ _ _ _ hP (by omega)) my_X6_setPart mv_X6_setPart wm_X6_56 sf_m rfl ⟨rfl, rfl, Nat.le_of_ble_eq_true rfl, Nat.le_of_ble_eq_true rfl, Nat.le_of_ble_eq_true rfl, Nat.le_of_ble_eq_true rfl⟩ rfl rfl (Nat.le_of_ble_eq_true rfl) dX6_adds_40 ?_
  refine K_aload_n X 1 dX6_adds_43 rfl rfl ?_
  refine K_iload X 0 dX6_adds_44 rfl ?_
  refine K_iconst X dX6_adds_46 cii_1 ?_
  refine K_iload_n X 2 dX6_adds_47 rfl rfl ?_
  refine K_callVE0 X (c_X6_setPart l D b _ _ _ _ _ hP (by omega)) my_X6_setPart mv_X6_setPart wm_X6_56 sf_m rfl ⟨rfl, rfl, Nat.le_of_ble_eq_true rfl, Nat.le_of_ble_eq_true rfl, Nat.le_of_ble_eq_true rfl, Nat.le_of_ble_eq_true rfl⟩ rfl rfl (Nat.le_of_ble_eq_true rfl) dX6_adds_48 ?_
  refine K_aload_n X 1 dX6_adds_51 rfl rfl ?_
  refine K_iload X 0 dX6_adds_52 rfl ?_
  refine K_iconst X dX6_adds_54 cii_2 ?_
  refine K_iload_n X 3 dX6_adds_55 rfl rfl ?_
  refine K_callVE0 X (c_X6_setPart l D b _ _ _ _ _ hP (by omega)) my_X6_setPart mv_X6_setPart wm_X6_56 sf_m rfl ⟨rfl, rfl, Nat.le_of_ble_eq_true rfl, Nat.le_of_ble_eq_true rfl, Nat.le_of_ble_eq_true rfl, Nat.le_of_ble_eq_true rfl⟩ rfl rfl (Nat.le_of_ble_eq_true rfl) dX6_adds_56 ?_
  refine K_aload_n X 1 dX6_adds_59 rfl rfl ?_
  refine K_iload X 0 dX6_adds_60 rfl ?_
  refine K_iconst X dX6_adds_62 cii_3 ?_
  refine K_iload_n X 4 dX6_adds_63 rfl rfl ?_
  refine K_callVE0 X (c_X6_setPart l D b _ _ _ _ _ hP (by omega)) my_X6_setPart mv_X6_setPart wm_X6_56 sf_m rfl ⟨rfl, rfl, Nat.le_of_ble_eq_true rfl, Nat.le_of_ble_eq_true rfl, Nat.le_of_ble_eq_true rfl, Nat.le_of_ble_eq_true rfl⟩ rfl rfl (Nat.le_of_ble_eq_true rfl) dX6_adds_64 ?_
  refine K_aload_n X 1 dX6_adds_67 rfl rfl ?_
  refine K_iload X 0 dX6_adds_68 rfl ?_
  refine K_iconst X dX6_adds_70 cii_4 ?_
  refine K_iload X 5 dX6_adds_71 rfl ?_
  refine K_callVE0 X (c_X6_setPart l D b _ _ _ _ _ hP (by omega)) my_X6_setPart mv_X6_setPart wm_X6_56 sf_m rfl ⟨rfl, rfl, Nat.le_of_ble_eq_true rfl, Nat.le_of_ble_eq_true rfl, Nat.le_of_ble_eq_true rfl, Nat.le_of_ble_eq_true rfl⟩ rfl rfl (Nat.le_of_ble_eq_true rfl) dX6_adds_73 ?_
  refine K_aload_n X 1 dX6_adds_76 rfl rfl ?_
  refine K_get X 0 kFd6 rfl (by decide) sf_m wf_X6_7 rfl (v := rf b (191)) (kv_a (pf_m0 hP)) dX6_adds_77 ?_
  refine K_bipush X dX6_adds_80 cib_10 ?_
  refine K_iald X _ sf_ms rfl (by omega) (by decide) (wN_at _) dX6_adds_82 ?_
  rw [uN_n (show 10 ≠ 45 + 5 * N 2 + 4 from by omega), uN_n (show 10 ≠ 45 + 5 * N 2 + 3 from by omega), uN_n (show 10 ≠ 45 + 5 * N 2 + 2 from by omega), uN_n (show 10 ≠ 45 + 5 * N 2 + 1 from by omega), uN_n (show 10 ≠ 45 + 5 * N 2 + 0 from by omega), uN_s]
  exact K_iret X hQ dX6_adds_83 (⟨rfl, rfl⟩)

set_option maxHeartbeats 4000000 in
set_option maxRecDepth 100000 in
theorem c_X6_whyNotRoom (l : Launch) (D : KD) (b : Nat) (σ : KS) (N : Nat → Nat) (bx : Nat) (hP : PF σ.2.2) (hI : qIr N) (h1 : bx < 6) : Ct l D b yX6_whyNotRoom cX6_whyNotRoom 2 (some .int) (rM 2 45) 0 0 [rf b 190, .int (nI bx)] shF (wN σ N) shF (pE (some (.int (qRoom N bx))) (wN σ N)) := by
  have h2 := qi_2 hI
  refine Ct.of (ls := [(0, rf b 190), (1, .int (nI bx))]) (by decide) (Nat.le_of_ble_eq_true rfl) rfl ?_
  intro pg e s m args below meth c Q hQ X hnm
  refine K_aload_n X 0 dX6_whyNotRoom_0 rfl rfl ?_
  refine K_iload_n X 1 dX6_whyNotRoom_1 rfl rfl ?_
  refine K_callVE X (c_X6_lotsAt l D b _ _ _ hP hI (by omega)) my_X6_lotsAt mv_X6_lotsAt wm_X6_60 sf_m rfl ⟨rfl, rfl, Nat.le_of_ble_eq_true rfl, Nat.le_of_ble_eq_true rfl, Nat.le_of_ble_eq_true rfl, Nat.le_of_ble_eq_true rfl⟩ rfl rfl (Nat.le_of_ble_eq_true rfl) dX6_whyNotRoom_2 ?_
  refine K_iconst X dX6_whyNotRoom_5 cii_3 ?_
  refine K_icmpN_ne (tgt := 14) X dX6_whyNotRoom_6 (by decide) (by have := qCnt_le N bx (N 2); omega) (by omega) (fun c6 => ?_) (fun c6 => ?_)
  · refine K_aload_n X 0 dX6_whyNotRoom_14 rfl rfl ?_
    refine K_get X 0 kFd6 rfl (by decide) sf_m wf_X6_7 rfl (v := rf b (191)) (kv_a (pf_m0 hP)) dX6_whyNotRoom_15 ?_
    refine K_iconst X dX6_whyNotRoom_18 cii_2 ?_
    refine K_iald X _ sf_ms rfl (by omega) (by decide) (wN_at _) dX6_whyNotRoom_19 ?_
    refine K_bipush X dX6_whyNotRoom_20 cib_16 ?_
    refine K_icmpN_ne (tgt := 30) X dX6_whyNotRoom_22 (by decide) (by omega) (by omega) (fun c22 => ?_) (fun c22 => ?_)
    · refine K_iconst X dX6_whyNotRoom_30 cii_0 ?_
      exact K_iret X hQ dX6_whyNotRoom_31 (⟨by rw [show qRoom N bx = 0 from (if_neg c6).trans (if_neg c22)]; rfl, rfl⟩)
    · refine K_bipush X dX6_whyNotRoom_25 cib_m4 ?_
      refine K_goto (tgt := 31) X dX6_whyNotRoom_27 (by decide) ?_
      exact K_iret X hQ dX6_whyNotRoom_31 (⟨by rw [show qRoom N bx = -4 from (if_neg c6).trans (if_pos c22)], rfl⟩)
  · refine K_bipush X dX6_whyNotRoom_9 cib_m3 ?_
    refine K_goto (tgt := 31) X dX6_whyNotRoom_11 (by decide) ?_
    exact K_iret X hQ dX6_whyNotRoom_31 (⟨by rw [show qRoom N bx = -3 from if_pos c6], rfl⟩)

set_option maxHeartbeats 4000000 in
set_option maxRecDepth 100000 in
theorem c_X6_whyNotDelivered (l : Launch) (D : KD) (b : Nat) (σ : KS) (N : Nat → Nat) (kd g fr bx : Int32) (hP : PF σ.2.2) (hI : qIr N) : Ct l D b yX6_whyNotDelivered cX6_whyNotDelivered 5 (some .int) (rM 3 66) 0 0 [rf b 190, .int kd, .int g, .int fr, .int bx] shF (wN σ N) shF (pE (some (.int (aWhy N kd g fr bx))) (wN σ N)) := by
  have h2 := qi_2 hI
  refine Ct.of (ls := [(0, rf b 190), (1, .int kd), (2, .int g), (3, .int fr), (4, .int bx)]) (by decide) (Nat.le_of_ble_eq_true rfl) rfl ?_
  intro pg e s m args below meth c Q hQ X hnm
  refine K_iload_n X 1 dX6_whyNotDelivered_0 rfl rfl ?_
  refine K_callSE X (c_X6_isKind l D b _ _) my_X6_isKind wt_X6_isKind wm_X6_46 ⟨rfl, rfl, Nat.le_of_ble_eq_true rfl, Nat.le_of_ble_eq_true rfl, Nat.le_of_ble_eq_true rfl, Nat.le_of_ble_eq_true rfl⟩ rfl rfl (Nat.le_of_ble_eq_true rfl) dX6_whyNotDelivered_1 ?_
  refine K_ifB_eq (tgt := 15) X dX6_whyNotDelivered_4 (by decide) (fun c4 => ?_) (fun c4 => ?_)
  · refine K_iconst X dX6_whyNotDelivered_15 cii_m1 ?_
    exact K_iret X hQ dX6_whyNotDelivered_16 (⟨by unfold aWhy; rw [if_neg (by rw [c4]; simp)], rfl⟩)
  · refine K_iload X 4 dX6_whyNotDelivered_7 rfl ?_
    refine K_callSE X (c_X6_isBox l D b _ _) my_X6_isBox wt_X6_isBox wm_X6_64 ⟨rfl, rfl, Nat.le_of_ble_eq_true rfl, Nat.le_of_ble_eq_true rfl, Nat.le_of_ble_eq_true rfl, Nat.le_of_ble_eq_true rfl⟩ rfl rfl (Nat.le_of_ble_eq_true rfl) dX6_whyNotDelivered_9 ?_
    refine K_ifB_ne (tgt := 17) X dX6_whyNotDelivered_12 (by decide) (fun c12 => ?_) (fun c12 => ?_)
    · refine K_iload_n X 2 dX6_whyNotDelivered_17 rfl rfl ?_
      refine K_iconst X dX6_whyNotDelivered_18 cii_1 ?_
      refine K_sipush X dX6_whyNotDelivered_19 cis_20000 ?_
      refine K_callSE X (c_X6_withinQ l D b _ _ _ _) my_X6_within wt_X6_within wm_X6_38 ⟨rfl, rfl, Nat.le_of_ble_eq_true rfl, Nat.le_of_ble_eq_true rfl, Nat.le_of_ble_eq_true rfl, Nat.le_of_ble_eq_true rfl⟩ rfl rfl (Nat.le_of_ble_eq_true rfl) dX6_whyNotDelivered_22 ?_
      refine K_ifB_eq (tgt := 47) X dX6_whyNotDelivered_25 (by decide) (fun c25 => ?_) (fun c25 => ?_)
      · refine K_bipush X dX6_whyNotDelivered_47 cib_m2 ?_
        exact K_iret X hQ dX6_whyNotDelivered_49 (⟨by unfold aWhy; rw [if_pos (by rw [c4, c12]; rfl), if_neg (by rw [c25]; simp)], rfl⟩)
      · refine K_iload_n X 3 dX6_whyNotDelivered_28 rfl rfl ?_
        refine K_iconst X dX6_whyNotDelivered_29 cii_0 ?_
        refine K_bipush X dX6_whyNotDelivered_30 cib_100 ?_
        refine K_callSE X (c_X6_withinQ l D b _ _ _ _) my_X6_within wt_X6_within wm_X6_38 ⟨rfl, rfl, Nat.le_of_ble_eq_true rfl, Nat.le_of_ble_eq_true rfl, Nat.le_of_ble_eq_true rfl, Nat.le_of_ble_eq_true rfl⟩ rfl rfl (Nat.le_of_ble_eq_true rfl) dX6_whyNotDelivered_32 ?_
        refine K_ifB_eq (tgt := 47) X dX6_whyNotDelivered_35 (by decide) (fun c35 => ?_) (fun c35 => ?_)
        · refine K_bipush X dX6_whyNotDelivered_47 cib_m2 ?_
          exact K_iret X hQ dX6_whyNotDelivered_49 (⟨by unfold aWhy; rw [if_pos (by rw [c4, c12]; rfl), if_neg (by rw [c35]; simp)], rfl⟩)
        · obtain ⟨v, hlv, hhv, rfl⟩ := qIn_ex (lo := 0) (hi := 5) (by decide) (by decide) c12
          refine K_aload_n X 0 dX6_whyNotDelivered_38 rfl rfl ?_
          refine K_iload X 4 dX6_whyNotDelivered_39 rfl ?_
          refine K_callVE X (c_X6_whyNotRoom l D b _ _ _ hP hI (by omega)) my_X6_whyNotRoom mv_X6_whyNotRoom wm_X6_67 sf_m rfl ⟨rfl, rfl, Nat.le_of_ble_eq_true rfl, Nat.le_of_ble_eq_true rfl, Nat.le_of_ble_eq_true rfl, Nat.le_of_ble_eq_true rfl⟩ rfl rfl (Nat.le_of_ble_eq_true rfl) dX6_whyNotDelivered_41 ?_
          refine K_goto (tgt := 49) X dX6_whyNotDelivered_44 (by decide) ?_
          exact K_iret X hQ dX6_whyNotDelivered_49 (⟨by unfold aWhy; rw [if_pos (by rw [c4, c12]; rfl), if_pos (by rw [c25, c35]; rfl), nI_clamp (by omega)], rfl⟩)
    · refine K_iconst X dX6_whyNotDelivered_15 cii_m1 ?_
      exact K_iret X hQ dX6_whyNotDelivered_16 (⟨by unfold aWhy; rw [if_neg (by rw [c12]; simp)], rfl⟩)

set_option maxHeartbeats 4000000 in
set_option maxRecDepth 100000 in
theorem c_X6_delivers (l : Launch) (D : KD) (b : Nat) (σ : KS) (N : Nat → Nat) (kd g fr bx : Nat) (hP : PF σ.2.2) (hI : qIr N) (h1 : kd < 6) (hg : g ≤ 20000) (h2 : N 2 < 16) : Ct l D b yX6_delivers cX6_delivers 5 (some .int) (rM 2 48) 0 0 [rf b 190, .int (nI kd), .int (nI g), .int (nI fr), .int (nI bx)] shF (wN σ N) shF (pE (some (.int (nI (N 10 + 1)))) (wN σ (qDel N kd g fr bx))) := by
  refine Ct.of (ls := [(0, rf b 190), (1, .int (nI kd)), (2, .int (nI g)), (3, .int (nI fr)), (4, .int (nI bx))]) (by decide) (Nat.le_of_ble_eq_true rfl) rfl ?_
  intro pg e s m args below meth c Q hQ X hnm
  refine K_aload_n X 0 dX6_delivers_0 rfl rfl ?_
  refine K_get X 0 kFd6 rfl (by decide) sf_m wf_X6_7 rfl (v := rf b (191)) (kv_a (pf_m0 hP)) dX6_delivers_1 ?_
  refine K_iconst X dX6_delivers_4 cii_3 ?_
  refine K_dup2 X dX6_delivers_5 rfl rfl ?_
  refine K_iald X _ sf_ms rfl (by omega) (by decide) (wN_at _) dX6_delivers_6 ?_
  refine K_iload_n X 2 dX6_delivers_7 rfl rfl ?_
  refine K_iaddN X dX6_delivers_8 ?_
  refine K_iast X _ sf_ms rfl (by omega) (by decide) dX6_delivers_9 ?_
  refine K_st wN_u ?_
  refine K_aload_n X 0 dX6_delivers_10 rfl rfl ?_
  refine K_get X 0 kFd6 rfl (by decide) sf_m wf_X6_7 rfl (v := rf b (191)) (kv_a (pf_m0 hP)) dX6_delivers_11 ?_
  refine K_bipush X dX6_delivers_14 cib_6 ?_
  refine K_dup2 X dX6_delivers_16 rfl rfl ?_
  refine K_iald X _ sf_ms rfl (by omega) (by decide) (wN_at _) dX6_delivers_17 ?_
  rw [uN_n (show 6 ≠ 3 from by omega)]
  refine K_iload_n X 2 dX6_delivers_18 rfl rfl ?_
  refine K_aload_n X 0 dX6_delivers_19 rfl rfl ?_
  refine K_get X 0 kFd6 rfl (by decide) sf_m wf_X6_7 rfl (v := rf b (191)) (kv_a (pf_m0 hP)) dX6_delivers_20 ?_
  refine K_bipush X dX6_delivers_23 cib_17 ?_
  refine K_iload_n X 1 dX6_delivers_25 rfl rfl ?_
  refine K_iaddN X dX6_delivers_26 ?_
  refine K_iald X _ sf_ms rfl (by omega) (by decide) (wN_at _) dX6_delivers_27 ?_
  rw [uN_n (show 17 + kd ≠ 3 from by omega)]
  refine K_callSE X (c_X6_worthOf l D b _ _ _ (qW_b hg (qi_c hI h1))) my_X6_worthOf wt_X6_worthOf wm_X6_70 ⟨rfl, rfl, Nat.le_of_ble_eq_true rfl, Nat.le_of_ble_eq_true rfl, Nat.le_of_ble_eq_true rfl, Nat.le_of_ble_eq_true rfl⟩ rfl rfl (Nat.le_of_ble_eq_true rfl) dX6_delivers_28 ?_
  refine K_iaddN X dX6_delivers_31 ?_
  refine K_iast X _ sf_ms rfl (by omega) (by decide) dX6_delivers_32 ?_
  refine K_st wN_u ?_
  refine K_aload_n X 0 dX6_delivers_33 rfl rfl ?_
  refine K_iload_n X 1 dX6_delivers_34 rfl rfl ?_
  refine K_iload_n X 2 dX6_delivers_35 rfl rfl ?_
  refine K_iload_n X 3 dX6_delivers_36 rfl rfl ?_
  refine K_iload X 4 dX6_delivers_37 rfl ?_
  refine K_callVE X (c_X6_adds l D b _ _ _ _ _ _ hP (by rw [uN_n (by omega), uN_n (by omega)]; exact h2)) my_X6_adds mv_X6_adds wm_X6_73 sf_m rfl ⟨rfl, rfl, Nat.le_of_ble_eq_true rfl, Nat.le_of_ble_eq_true rfl, Nat.le_of_ble_eq_true rfl, Nat.le_of_ble_eq_true rfl⟩ rfl rfl (Nat.le_of_ble_eq_true rfl) dX6_delivers_39 ?_
  exact K_iret X hQ dX6_delivers_42 (⟨by rw [uN_n (by omega), uN_n (by omega)], rfl⟩)

set_option maxHeartbeats 4000000 in
set_option maxRecDepth 100000 in
theorem c_X6_passesHour (l : Launch) (D : KD) (b : Nat) (σ : KS) (N : Nat → Nat) (hP : PF σ.2.2) (hI : qIr N) : Ct l D b yX6_passesHour cX6_passesHour 2 none (rM 2 43) 0 0 [rf b 190] shF (wN σ N) shF (pE none (wN σ (qPass N))) := by
  have h2 := qi_2 hI
  refine Ct.of (ls := [(0, rf b 190)]) (by decide) (Nat.le_of_ble_eq_true rfl) rfl ?_
  intro pg e s m args below meth c Q hQ X hnm
  refine K_iconst X dX6_passesHour_0 cii_0 ?_
  refine K_istore_n X (ls' := [(1, _), (0, _)]) dX6_passesHour_1 rfl (by decide) rfl ?_
  have loop : ∀ i : Nat, i ≤ N 2 → K pg l e (rM 2 43) s m args below meth c Q D b 2 0 0 shF (wN σ (qP1 N i)) 2 [(0, rf b 190), (1, .int (nI i))] [] := by
    refine kup (fun i hi ih => ?_)
    refine K_iload_n X 1 dX6_passesHour_2 rfl rfl ?_
    refine K_aload_n X 0 dX6_passesHour_3 rfl rfl ?_
    refine K_get X 0 kFd6 rfl (by decide) sf_m wf_X6_7 rfl (v := rf b (191)) (kv_a (pf_m0 hP)) dX6_passesHour_4 ?_
    refine K_iconst X dX6_passesHour_7 cii_2 ?_
    refine K_iald X _ sf_ms rfl (by omega) (by decide) (wN_at _) dX6_passesHour_8 ?_
    rw [show qP1 N i 2 = N 2 from qP1_n (by omega)]
    refine K_icmpN_ge (tgt := 56) X dX6_passesHour_9 (by decide) (by omega) (by omega) (fun c9 => ?_) (fun c9 => ?_)
    · rw [show i = N 2 from by omega]
      refine K_iconst X dX6_passesHour_56 cii_0 ?_
      refine K_istore_n X (ls' := [(1, _), (0, _)]) dX6_passesHour_57 rfl (by decide) rfl ?_
      have loop2 : ∀ j : Nat, j ≤ 11 → K pg l e (rM 2 43) s m args below meth c Q D b 2 0 0 shF (wN σ (qP2 (qP1 N (N 2)) j)) 58 [(0, rf b 190), (1, .int (nI j))] [] := by
        refine kup (fun j hj jh => ?_)
        refine K_iload_n X 1 dX6_passesHour_58 rfl rfl ?_
        refine K_bipush X dX6_passesHour_59 cib_11 ?_
        refine K_icmpN_ge (tgt := 93) X dX6_passesHour_61 (by decide) (by omega) (by omega) (fun c61 => ?_) (fun c61 => ?_)
        · refine K_aload_n X 0 dX6_passesHour_93 rfl rfl ?_
          refine K_get X 0 kFd6 rfl (by decide) sf_m wf_X6_7 rfl (v := rf b (191)) (kv_a (pf_m0 hP)) dX6_passesHour_94 ?_
          refine K_iconst X dX6_passesHour_97 cii_1 ?_
          refine K_dup2 X dX6_passesHour_98 rfl rfl ?_
          refine K_iald X _ sf_ms rfl (by omega) (by decide) (wN_at _) dX6_passesHour_99 ?_
          rw [show j = 11 from by omega, show qP2 (qP1 N (N 2)) 11 1 = N 1 from (qP2_n (by omega)).trans (qP1_n (by omega))]
          refine K_iconst X dX6_passesHour_100 cii_1 ?_
          refine K_iaddN X dX6_passesHour_101 ?_
          refine K_iast X _ sf_ms rfl (by omega) (by decide) dX6_passesHour_102 ?_
          refine K_st wN_u ?_
          exact K_vret X hQ dX6_passesHour_103 (⟨rfl, rfl⟩)
        · refine K_aload_n X 0 dX6_passesHour_64 rfl rfl ?_
          refine K_get X 0 kFd6 rfl (by decide) sf_m wf_X6_7 rfl (v := rf b (191)) (kv_a (pf_m0 hP)) dX6_passesHour_65 ?_
          refine K_bipush X dX6_passesHour_68 cib_34 ?_
          refine K_iload_n X 1 dX6_passesHour_70 rfl rfl ?_
          refine K_iaddN X dX6_passesHour_71 ?_
          refine K_aload_n X 0 dX6_passesHour_72 rfl rfl ?_
          refine K_iload_n X 1 dX6_passesHour_73 rfl rfl ?_
          refine K_aload_n X 0 dX6_passesHour_74 rfl rfl ?_
          refine K_get X 0 kFd6 rfl (by decide) sf_m wf_X6_7 rfl (v := rf b (191)) (kv_a (pf_m0 hP)) dX6_passesHour_75 ?_
          refine K_bipush X dX6_passesHour_78 cib_34 ?_
          refine K_iload_n X 1 dX6_passesHour_80 rfl rfl ?_
          refine K_iaddN X dX6_passesHour_81 ?_
          refine K_iald X _ sf_ms rfl (by omega) (by decide) (wN_at _) dX6_passesHour_82 ?_
          refine K_callVE X (c_X6_iceThen l D b _ _ _ _ hP (by omega) (by rw [qP2_n (by omega), qP1_n (by omega)]; have := qi_i hI (show j < 11 from by omega); omega) (by rw [qP2_n (by omega), qP1_n (by omega)]; exact qi_8 hI)) my_X6_iceThen mv_X6_iceThen wm_X6_113 sf_m rfl ⟨rfl, rfl, Nat.le_of_ble_eq_true rfl, Nat.le_of_ble_eq_true rfl, Nat.le_of_ble_eq_true rfl, Nat.le_of_ble_eq_true rfl⟩ rfl rfl (Nat.le_of_ble_eq_true rfl) dX6_passesHour_83 ?_
          refine K_iast X _ sf_ms rfl (by omega) (by decide) dX6_passesHour_86 ?_
          refine K_st wN_u ?_
          refine K_iinc X 1 (ls' := [(1, _), (0, _)]) dX6_passesHour_87 rfl (inc_1 _) (by decide) rfl ?_
          refine K_goto (tgt := 58) X dX6_passesHour_90 (by decide) ?_
          exact K_sub [1, 0] rfl (jh (by omega))
      exact K_sub [1, 0] rfl (loop2 0 (Nat.zero_le _))
    · refine K_aload_n X 0 dX6_passesHour_12 rfl rfl ?_
      refine K_iload_n X 1 dX6_passesHour_13 rfl rfl ?_
      refine K_iconst X dX6_passesHour_14 cii_3 ?_
      refine K_aload_n X 0 dX6_passesHour_15 rfl rfl ?_
      refine K_iload_n X 1 dX6_passesHour_16 rfl rfl ?_
      refine K_iconst X dX6_passesHour_17 cii_3 ?_
      refine K_callVE X (c_X6_part l D b _ _ _ _ hP (by omega)) my_X6_part mv_X6_part wm_X6_30 sf_m rfl ⟨rfl, rfl, Nat.le_of_ble_eq_true rfl, Nat.le_of_ble_eq_true rfl, Nat.le_of_ble_eq_true rfl, Nat.le_of_ble_eq_true rfl⟩ rfl rfl (Nat.le_of_ble_eq_true rfl) dX6_passesHour_18 ?_
      refine K_aload_n X 0 dX6_passesHour_21 rfl rfl ?_
      refine K_iload_n X 1 dX6_passesHour_22 rfl rfl ?_
      refine K_iconst X dX6_passesHour_23 cii_4 ?_
      refine K_callVE X (c_X6_part l D b _ _ _ _ hP (by omega)) my_X6_part mv_X6_part wm_X6_30 sf_m rfl ⟨rfl, rfl, Nat.le_of_ble_eq_true rfl, Nat.le_of_ble_eq_true rfl, Nat.le_of_ble_eq_true rfl, Nat.le_of_ble_eq_true rfl⟩ rfl rfl (Nat.le_of_ble_eq_true rfl) dX6_passesHour_24 ?_
      refine K_aload_n X 0 dX6_passesHour_27 rfl rfl ?_
      refine K_get X 0 kFd6 rfl (by decide) sf_m wf_X6_7 rfl (v := rf b (191)) (kv_a (pf_m0 hP)) dX6_passesHour_28 ?_
      refine K_bipush X dX6_passesHour_31 cib_34 ?_
      refine K_aload_n X 0 dX6_passesHour_33 rfl rfl ?_
      refine K_iload_n X 1 dX6_passesHour_34 rfl rfl ?_
      refine K_iconst X dX6_passesHour_35 cii_4 ?_
      refine K_callVE X (c_X6_part l D b _ _ _ _ hP (by omega)) my_X6_part mv_X6_part wm_X6_30 sf_m rfl ⟨rfl, rfl, Nat.le_of_ble_eq_true rfl, Nat.le_of_ble_eq_true rfl, Nat.le_of_ble_eq_true rfl, Nat.le_of_ble_eq_true rfl⟩ rfl rfl (Nat.le_of_ble_eq_true rfl) dX6_passesHour_36 ?_
      refine K_iaddN X dX6_passesHour_39 ?_
      refine K_iald X _ sf_ms rfl (by have h4 := qi_l4 hI (show i < N 2 from by omega); have e := (show qL (qP1 N i) i 4 = qL N i 4 from qP1_n (by omega)); omega) (by decide) (wN_at _) dX6_passesHour_40 ?_
      refine K_callSE X (c_X6_loss l D b _ _ _ (by have h4 := qi_l4 hI (show i < N 2 from by omega); have e := (show qL (qP1 N i) i 4 = qL N i 4 from qP1_n (by omega)); omega) (by have h4 := qi_l4 hI (show i < N 2 from by omega); have e := (show qL (qP1 N i) i 4 = qL N i 4 from qP1_n (by omega)); have := qi_i hI h4; have e2 : qP1 N i (34 + qL (qP1 N i) i 4) = N (34 + qL N i 4) := (by rw [e]; exact qP1_n (by omega)); omega)) my_X6_loss wt_X6_loss wm_X6_107 ⟨rfl, rfl, Nat.le_of_ble_eq_true rfl, Nat.le_of_ble_eq_true rfl, Nat.le_of_ble_eq_true rfl, Nat.le_of_ble_eq_true rfl⟩ rfl rfl (Nat.le_of_ble_eq_true rfl) dX6_passesHour_41 ?_
      refine K_callSE X (c_X6_freshThen l D b _ _ _ (by have := qi_l3 hI (show i < N 2 from by omega); have e : qL (qP1 N i) i 3 = qL N i 3 := (qP1_n (by omega)); omega) (by have := qLoss_le (qL (qP1 N i) i 4) (qP1 N i (34 + qL (qP1 N i) i 4)); omega)) my_X6_freshThen wt_X6_freshThen wm_X6_110 ⟨rfl, rfl, Nat.le_of_ble_eq_true rfl, Nat.le_of_ble_eq_true rfl, Nat.le_of_ble_eq_true rfl, Nat.le_of_ble_eq_true rfl⟩ rfl rfl (Nat.le_of_ble_eq_true rfl) dX6_passesHour_44 ?_
      refine K_callVE0 X (c_X6_setPart l D b _ _ _ _ _ hP (by omega)) my_X6_setPart mv_X6_setPart wm_X6_56 sf_m rfl ⟨rfl, rfl, Nat.le_of_ble_eq_true rfl, Nat.le_of_ble_eq_true rfl, Nat.le_of_ble_eq_true rfl, Nat.le_of_ble_eq_true rfl⟩ rfl rfl (Nat.le_of_ble_eq_true rfl) dX6_passesHour_47 ?_
      refine K_iinc X 1 (ls' := [(1, _), (0, _)]) dX6_passesHour_50 rfl (inc_1 _) (by decide) rfl ?_
      refine K_goto (tgt := 2) X dX6_passesHour_53 (by decide) ?_
      exact K_sub [1, 0] rfl (ih (by omega))
  exact K_sub [1, 0] rfl (loop 0 (Nat.zero_le _))

set_option maxHeartbeats 4000000 in
set_option maxRecDepth 100000 in
theorem c_X6_closes (l : Launch) (D : KD) (b : Nat) (σ : KS) (N : Nat → Nat) (hP : PF σ.2.2) (hI : qIr N) : Ct l D b yX6_closes cX6_closes 5 (some .int) (rM 3 68) 0 0 [rf b 190] shF (wN σ N) shF (pE (some (.int (nI (qClose N 5 - N 5)))) (wN σ (qClose N))) := by
  have h2 := qi_2 hI
  refine Ct.of (ls := [(0, rf b 190)]) (by decide) (Nat.le_of_ble_eq_true rfl) rfl ?_
  intro pg e s m args below meth c Q hQ X hnm
  refine K_aload_n X 0 dX6_closes_0 rfl rfl ?_
  refine K_get X 0 kFd6 rfl (by decide) sf_m wf_X6_7 rfl (v := rf b (191)) (kv_a (pf_m0 hP)) dX6_closes_1 ?_
  refine K_iconst X dX6_closes_4 cii_5 ?_
  refine K_iald X _ sf_ms rfl (by omega) (by decide) (wN_at _) dX6_closes_5 ?_
  refine K_istore_n X (ls' := [(1, _), (0, _)]) dX6_closes_6 rfl (by decide) rfl ?_
  refine K_aload_n X 1 dX6_closes_7 rfl rfl ?_
  refine K_get X 0 kFd6 rfl (by decide) sf_m wf_X6_7 rfl (v := rf b (191)) (kv_a (pf_m0 hP)) dX6_closes_8 ?_
  refine K_iconst X dX6_closes_11 cii_2 ?_
  refine K_iald X _ sf_ms rfl (by omega) (by decide) (wN_at _) dX6_closes_12 ?_
  refine K_iconst X dX6_closes_13 cii_1 ?_
  refine K_isub X dX6_closes_14 ?_
  rw [qM_sub]
  refine K_istore_n X (ls' := [(2, _), (1, _), (0, _)]) dX6_closes_15 rfl (by decide) rfl ?_
  have loop : ∀ (i : Nat) (M : Nat → Nat), i ≤ M 2 → qIr M → qC1 i M = qC1 (N 2) N → K pg l e (rM 3 68) s m args below meth c Q D b 5 0 0 shF (wN σ M) 16 [(0, rf b 190), (1, .int (nI (N 5))), (2, .int (qM i))] [] := by
    intro i
    induction i with
    | zero =>
      intro M hi hM hg
      refine K_iload_n X 2 dX6_closes_16 rfl rfl ?_
      refine K_if_lt (tgt := 39) X dX6_closes_17 (by decide) (fun c17 => ?_) (fun c17 => ?_)
      · rw [show M = qC1 (N 2) N from hg]
        refine K_bipush X dX6_closes_39 cib_6 ?_
        refine K_istore_n X (ls' := [(2, _), (0, _), (1, _)]) dX6_closes_41 rfl (by decide) rfl ?_
        have loop2 : ∀ j : Nat, j ≤ 5 → K pg l e (rM 3 68) s m args below meth c Q D b 5 0 0 shF (wN σ (qC2 (qC1 (N 2) N) j)) 42 [(0, rf b 190), (1, .int (nI (N 5))), (2, .int (nI (6 + j)))] [] := by
          refine kup (fun j hj jh => ?_)
          refine K_iload_n X 2 dX6_closes_42 rfl rfl ?_
          refine K_bipush X dX6_closes_43 cib_11 ?_
          refine K_icmpN_ge (tgt := 111) X dX6_closes_45 (by decide) (by omega) (by omega) (fun c45 => ?_) (fun c45 => ?_)
          · rw [show j = 5 from by omega]
            have h5 : N 5 ≤ qClose N 5 := qClose_5 hI
            refine K_aload_n X 0 dX6_closes_111 rfl rfl ?_
            refine K_get X 0 kFd6 rfl (by decide) sf_m wf_X6_7 rfl (v := rf b (191)) (kv_a (pf_m0 hP)) dX6_closes_112 ?_
            refine K_iconst X dX6_closes_115 cii_0 ?_
            refine K_dup2 X dX6_closes_116 rfl rfl ?_
            refine K_iald X _ sf_ms rfl (by omega) (by decide) (wN_at _) dX6_closes_117 ?_
            refine K_iconst X dX6_closes_118 cii_1 ?_
            refine K_iaddN X dX6_closes_119 ?_
            refine K_iast X _ sf_ms rfl (by omega) (by decide) dX6_closes_120 ?_
            refine K_st wN_u ?_
            refine K_aload_n X 0 dX6_closes_121 rfl rfl ?_
            refine K_get X 0 kFd6 rfl (by decide) sf_m wf_X6_7 rfl (v := rf b (191)) (kv_a (pf_m0 hP)) dX6_closes_122 ?_
            refine K_iconst X dX6_closes_125 cii_1 ?_
            refine K_iconst X dX6_closes_126 cii_0 ?_
            refine K_iast X _ sf_ms rfl (by omega) (by decide) dX6_closes_127 ?_
            refine K_st wN_u ?_
            refine K_aload_n X 0 dX6_closes_128 rfl rfl ?_
            refine K_get X 0 kFd6 rfl (by decide) sf_m wf_X6_7 rfl (v := rf b (191)) (kv_a (pf_m0 hP)) dX6_closes_129 ?_
            refine K_iconst X dX6_closes_132 cii_5 ?_
            refine K_iald X _ sf_ms rfl (by omega) (by decide) (wN_at _) dX6_closes_133 ?_
            refine K_iload_n X 1 dX6_closes_134 rfl rfl ?_
            refine K_isubN X dX6_closes_135 (by exact h5) ?_
            exact K_iret X hQ dX6_closes_136 (⟨rfl, rfl⟩)
          · refine K_aload_n X 0 dX6_closes_48 rfl rfl ?_
            refine K_iload_n X 2 dX6_closes_49 rfl rfl ?_
            refine K_callVE X (c_X6_firstAt l D b _ _ _ hP (qC2_k (qC1_k hI (Nat.le_refl _)).1 (show j ≤ 5 from by omega)).1 (by omega)) my_X6_firstAt mv_X6_firstAt wm_X6_119 sf_m rfl ⟨rfl, rfl, Nat.le_of_ble_eq_true rfl, Nat.le_of_ble_eq_true rfl, Nat.le_of_ble_eq_true rfl, Nat.le_of_ble_eq_true rfl⟩ rfl rfl (Nat.le_of_ble_eq_true rfl) dX6_closes_50 ?_
            refine K_istore_n X (ls' := [(3, _), (0, _), (1, _), (2, _)]) dX6_closes_53 rfl (by decide) rfl ?_
            refine K_aload_n X 1 dX6_closes_54 rfl rfl ?_
            refine K_callVE X (c_X6_coldest l D b _ _ hP (qC2_k (qC1_k hI (Nat.le_refl _)).1 (show j ≤ 5 from by omega)).1) my_X6_coldest mv_X6_coldest wm_X6_122 sf_m rfl ⟨rfl, rfl, Nat.le_of_ble_eq_true rfl, Nat.le_of_ble_eq_true rfl, Nat.le_of_ble_eq_true rfl, Nat.le_of_ble_eq_true rfl⟩ rfl rfl (Nat.le_of_ble_eq_true rfl) dX6_closes_55 ?_
            refine K_istore X (ls' := [(4, _), (3, _), (0, _), (1, _), (2, _)]) dX6_closes_58 (by decide) rfl ?_
            refine K_iload_n X 1 dX6_closes_60 rfl rfl ?_
            refine K_bipush X dX6_closes_61 cib_m6 ?_
            refine K_icmp_eq (tgt := 81) X dX6_closes_63 (by decide) (fun c63 => ?_) (fun c63 => ?_)
            · refine K_iload_n X 1 dX6_closes_81 rfl rfl ?_
              refine K_bipush X dX6_closes_82 cib_m6 ?_
              refine K_icmp_eq (tgt := 95) X dX6_closes_84 (by decide) (fun c84 => ?_) (fun c84 => ?_)
              · refine K_aload_n X 2 dX6_closes_95 rfl rfl ?_
                refine K_get X 0 kFd6 rfl (by decide) sf_m wf_X6_7 rfl (v := rf b (191)) (kv_a (pf_m0 hP)) dX6_closes_96 ?_
                refine K_bipush X dX6_closes_99 cib_34 ?_
                refine K_iload_n X 4 dX6_closes_101 rfl rfl ?_
                refine K_iaddN X dX6_closes_102 ?_
                refine K_iconst X dX6_closes_103 cii_0 ?_
                refine K_iast X _ sf_ms rfl (by omega) (by decide) dX6_closes_104 ?_
                refine K_st wN_u ?_
                refine K_iinc X 4 (ls' := [(2, _), (4, _), (3, _), (0, _), (1, _)]) dX6_closes_105 rfl (inc_1 _) (by decide) rfl ?_
                refine K_goto (tgt := 42) X dX6_closes_108 (by decide) ?_
                have hs : qC2s (qC2 (qC1 (N 2) N) j) (6 + j) = (qC2 (qC1 (N 2) N) j) := by unfold qC2s; rw [(qO_n (fun z hz => by have : z < (qC2 (qC1 (N 2) N) j) 2 := qFst_lt hz (Nat.le_refl _) (fun q hq => by cases hq); have := qi_2 (qC2_k (qC1_k hI (Nat.le_refl _)).1 (show j ≤ 5 from by omega)).1; omega)).mp c63]
                rw [show qC2 (qC1 (N 2) N) (j + 1) = _ from congrArg (fun z => uN z (34 + (6 + j)) 0) hs] at jh
                exact K_sub [3, 4, 0] rfl (jh (by omega))
              · exact absurd c63 c84
            · refine K_iload X 0 dX6_closes_66 rfl ?_
              refine K_bipush X dX6_closes_68 cib_m6 ?_
              refine K_icmp_ne (tgt := 81) X dX6_closes_70 (by decide) (fun c70 => ?_) (fun c70 => ?_)
              · refine K_iload_n X 1 dX6_closes_81 rfl rfl ?_
                refine K_bipush X dX6_closes_82 cib_m6 ?_
                refine K_icmp_eq (tgt := 95) X dX6_closes_84 (by decide) (fun c84 => ?_) (fun c84 => ?_)
                · exact absurd c84 c63
                · obtain ⟨k, hk⟩ := qO_ex c63
                  have hkl : k < (qC2 (qC1 (N 2) N) j) 2 := qFst_lt hk (Nat.le_refl _) (fun q hq => by cases hq)
                  obtain ⟨bx, hbx⟩ := qO_ex c70
                  have hk16 := qi_2 (qC2_k (qC1_k hI (Nat.le_refl _)).1 (show j ≤ 5 from by omega)).1
                  rw [hk, hbx]
                  refine K_aload_n X 2 dX6_closes_87 rfl rfl ?_
                  refine K_iload_n X 1 dX6_closes_88 rfl rfl ?_
                  refine K_iconst X dX6_closes_89 cii_4 ?_
                  refine K_iload X 0 dX6_closes_90 rfl ?_
                  refine K_callVE0 X (c_X6_setPart l D b _ _ _ _ _ hP (by omega)) my_X6_setPart mv_X6_setPart wm_X6_56 sf_m rfl ⟨rfl, rfl, Nat.le_of_ble_eq_true rfl, Nat.le_of_ble_eq_true rfl, Nat.le_of_ble_eq_true rfl, Nat.le_of_ble_eq_true rfl⟩ rfl rfl (Nat.le_of_ble_eq_true rfl) dX6_closes_92 ?_
                  refine K_aload_n X 2 dX6_closes_95 rfl rfl ?_
                  refine K_get X 0 kFd6 rfl (by decide) sf_m wf_X6_7 rfl (v := rf b (191)) (kv_a (pf_m0 hP)) dX6_closes_96 ?_
                  refine K_bipush X dX6_closes_99 cib_34 ?_
                  refine K_iload_n X 4 dX6_closes_101 rfl rfl ?_
                  refine K_iaddN X dX6_closes_102 ?_
                  refine K_iconst X dX6_closes_103 cii_0 ?_
                  refine K_iast X _ sf_ms rfl (by omega) (by decide) dX6_closes_104 ?_
                  refine K_st wN_u ?_
                  refine K_iinc X 4 (ls' := [(2, _), (4, _), (3, _), (0, _), (1, _)]) dX6_closes_105 rfl (inc_1 _) (by decide) rfl ?_
                  refine K_goto (tgt := 42) X dX6_closes_108 (by decide) ?_
                  have hs : qC2s (qC2 (qC1 (N 2) N) j) (6 + j) = uN (qC2 (qC1 (N 2) N) j) (45 + 5 * k + 4) bx := by unfold qC2s; rw [hk]; dsimp only; rw [hbx]
                  rw [show qC2 (qC1 (N 2) N) (j + 1) = _ from congrArg (fun z => uN z (34 + (6 + j)) 0) hs] at jh
                  exact K_sub [3, 4, 0] rfl (jh (by omega))
              · obtain ⟨k, hk⟩ := qO_ex c63
                have hkl : k < (qC2 (qC1 (N 2) N) j) 2 := qFst_lt hk (Nat.le_refl _) (fun q hq => by cases hq)
                have hcn := (qO_n (fun z hz => by have := qCold_lt hz; omega)).mp c70
                rw [hk]
                refine K_aload_n X 2 dX6_closes_73 rfl rfl ?_
                refine K_iload_n X 1 dX6_closes_74 rfl rfl ?_
                refine K_callVE0 X (c_X6_throwsAway l D b _ _ _ hP (qi_2 (qC2_k (qC1_k hI (Nat.le_refl _)).1 (show j ≤ 5 from by omega)).1) hkl) my_X6_throwsAway mv_X6_throwsAway wm_X6_95 sf_m rfl ⟨rfl, rfl, Nat.le_of_ble_eq_true rfl, Nat.le_of_ble_eq_true rfl, Nat.le_of_ble_eq_true rfl, Nat.le_of_ble_eq_true rfl⟩ rfl rfl (Nat.le_of_ble_eq_true rfl) dX6_closes_75 ?_
                refine K_goto (tgt := 95) X dX6_closes_78 (by decide) ?_
                refine K_aload_n X 2 dX6_closes_95 rfl rfl ?_
                refine K_get X 0 kFd6 rfl (by decide) sf_m wf_X6_7 rfl (v := rf b (191)) (kv_a (pf_m0 hP)) dX6_closes_96 ?_
                refine K_bipush X dX6_closes_99 cib_34 ?_
                refine K_iload_n X 4 dX6_closes_101 rfl rfl ?_
                refine K_iaddN X dX6_closes_102 ?_
                refine K_iconst X dX6_closes_103 cii_0 ?_
                refine K_iast X _ sf_ms rfl (by omega) (by decide) dX6_closes_104 ?_
                refine K_st wN_u ?_
                refine K_iinc X 4 (ls' := [(2, _), (4, _), (3, _), (0, _), (1, _)]) dX6_closes_105 rfl (inc_1 _) (by decide) rfl ?_
                refine K_goto (tgt := 42) X dX6_closes_108 (by decide) ?_
                have hs : qC2s (qC2 (qC1 (N 2) N) j) (6 + j) = qThrow (qC2 (qC1 (N 2) N) j) k := by unfold qC2s; rw [hk]; dsimp only; rw [hcn]
                rw [show qC2 (qC1 (N 2) N) (j + 1) = _ from congrArg (fun z => uN z (34 + (6 + j)) 0) hs] at jh
                exact K_sub [3, 4, 0] rfl (jh (by omega))
        exact K_sub [1, 2, 0] rfl (loop2 0 (Nat.zero_le _))
      · exact absurd (show (-1 : Int32) < 0 from by decide) c17
    | succ i ih =>
      intro M hi hM hg
      refine K_iload_n X 2 dX6_closes_16 rfl rfl ?_
      refine K_if_lt (tgt := 39) X dX6_closes_17 (by decide) (fun c17 => ?_) (fun c17 => ?_)
      · exact absurd c17 (nI_pos (by have := qi_2 hM; omega))
      · refine K_aload_n X 0 dX6_closes_20 rfl rfl ?_
        refine K_iload_n X 2 dX6_closes_21 rfl rfl ?_
        refine K_callVE X (c_X6_isSold l D b _ _ _ hP hM (by omega)) my_X6_isSold mv_X6_isSold wm_X6_101 sf_m rfl ⟨rfl, rfl, Nat.le_of_ble_eq_true rfl, Nat.le_of_ble_eq_true rfl, Nat.le_of_ble_eq_true rfl, Nat.le_of_ble_eq_true rfl⟩ rfl rfl (Nat.le_of_ble_eq_true rfl) dX6_closes_22 ?_
        refine K_ifB_ne (tgt := 33) X dX6_closes_25 (by decide) (fun c25 => ?_) (fun c25 => ?_)
        · refine K_iinc X 2 (ls' := [(2, _), (0, _), (1, _)]) dX6_closes_33 rfl (inc_mq _) (by decide) rfl ?_
          refine K_goto (tgt := 16) X dX6_closes_36 (by decide) ?_
          exact K_sub [1, 2, 0] rfl (ih M (by omega) hM (by rw [← hg]; exact (congrArg (qC1 i) (if_pos c25)).symm))
        · refine K_aload_n X 0 dX6_closes_28 rfl rfl ?_
          refine K_iload_n X 2 dX6_closes_29 rfl rfl ?_
          refine K_callVE0 X (c_X6_throwsAway l D b _ _ _ hP (qi_2 hM) (by omega)) my_X6_throwsAway mv_X6_throwsAway wm_X6_95 sf_m rfl ⟨rfl, rfl, Nat.le_of_ble_eq_true rfl, Nat.le_of_ble_eq_true rfl, Nat.le_of_ble_eq_true rfl, Nat.le_of_ble_eq_true rfl⟩ rfl rfl (Nat.le_of_ble_eq_true rfl) dX6_closes_30 ?_
          refine K_iinc X 2 (ls' := [(2, _), (0, _), (1, _)]) dX6_closes_33 rfl (inc_mq _) (by decide) rfl ?_
          refine K_goto (tgt := 16) X dX6_closes_36 (by decide) ?_
          exact K_sub [1, 2, 0] rfl (ih (qThrow M i) (by rw [qThrow_2 (by omega)]; omega) (qIr_throw hM (by omega)) (by rw [← hg]; exact (congrArg (qC1 i) (if_neg (by rw [c25]; decide))).symm))
  exact K_sub [2, 1, 0] rfl (loop (N 2) N (Nat.le_refl _) hI rfl)

set_option maxHeartbeats 4000000 in
set_option maxRecDepth 100000 in
theorem c_X6_copies (l : Launch) (D : KD) (b : Nat) (σ : KS) (a1 a2 n1 n2 f t : Nat) (h1 : shF[a1]? = some (.inr (.int, n1))) (h2 : shF[a2]? = some (.inr (.int, n2))) (hne : a1 ≠ a2) (hf : f + 125 ≤ n1) (ht : t + 125 ≤ n2) (hn1 : n1 < 2 ^ 31) (hn2 : n2 < 2 ^ 31) : Ct l D b yX6_copies cX6_copies 5 none (rM 0 0) 0 0 [rf b a1, .int (nI f), rf b a2, .int (nI t)] shF σ shF (pE none (wI σ a2 (qCpy (σ.1 a1) (σ.1 a2) f t 125))) := by
  refine Ct.of (ls := [(0, rf b a1), (1, .int (nI f)), (2, rf b a2), (3, .int (nI t))]) (by decide) (Nat.le_of_ble_eq_true rfl) rfl ?_
  intro pg e s m args below meth c Q hQ X hnm
  refine K_iconst X dX6_copies_0 cii_0 ?_
  refine K_istore X (ls' := [(4, _), (0, _), (1, _), (2, _), (3, _)]) dX6_copies_1 (by decide) rfl ?_
  refine K_st (σ' := wI σ a2 (qCpy (σ.1 a1) (σ.1 a2) f t 0)) (by rw [qCpy_0, wI_id rfl]) ?_
  have loop : ∀ i : Nat, i ≤ 125 → K pg l e (rM 0 0) s m args below meth c Q D b 5 0 0 shF (wI σ a2 (qCpy (σ.1 a1) (σ.1 a2) f t i)) 3 [(0, rf b a1), (1, .int (nI f)), (2, rf b a2), (3, .int (nI t)), (4, .int (nI i))] [] := by
    refine kup (fun i hi ih => ?_)
    refine K_iload X 4 dX6_copies_3 rfl ?_
    refine K_bipush X dX6_copies_5 cib_125 ?_
    refine K_icmpN_ge (tgt := 28) X dX6_copies_7 (by decide) (by omega) (by omega) (fun c7 => ?_) (fun c7 => ?_)
    · exact K_vret X hQ dX6_copies_28 (⟨rfl, by rw [show i = 125 from by omega]⟩)
    · refine K_aload_n X 2 dX6_copies_10 rfl rfl ?_
      refine K_iload_n X 3 dX6_copies_11 rfl rfl ?_
      refine K_iload X 4 dX6_copies_12 rfl ?_
      refine K_iaddN X dX6_copies_14 ?_
      refine K_aload_n X 0 dX6_copies_15 rfl rfl ?_
      refine K_iload_n X 1 dX6_copies_16 rfl rfl ?_
      refine K_iload X 4 dX6_copies_17 rfl ?_
      refine K_iaddN X dX6_copies_19 ?_
      refine K_iald X _ h1 rfl (by omega) hn1 (congrFun (wI_ne hne) _) dX6_copies_20 ?_
      refine K_iast X _ h2 rfl (by omega) hn2 dX6_copies_21 ?_
      refine K_st (wI_upd qCpy_s) ?_
      refine K_iinc X 4 (ls' := [(4, _), (0, _), (1, _), (2, _), (3, _)]) dX6_copies_22 rfl (inc_1 _) (by decide) rfl ?_
      refine K_goto (tgt := 3) X dX6_copies_25 (by decide) ?_
      exact K_sub [1, 2, 3, 4, 0] rfl (ih (by omega))
  exact K_sub [1, 2, 3, 4, 0] rfl (loop 0 (Nat.zero_le _))
