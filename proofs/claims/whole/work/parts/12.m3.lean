/-! THE REFERENCE: forecasts and worth -/
set_option maxHeartbeats 4000000 in
set_option maxRecDepth 100000 in
theorem c_X6_loss (l : Launch) (D : KD) (b : Nat) (σ : KS) (pl ice : Nat) (h1 : pl < 11) (h2 : ice < 2 ^ 30) : Ct l D b yX6_loss cX6_loss 2 (some .int) (rM 1 20) 0 0 [.int (nI pl), .int (nI ice)] shF σ shF (pE (some (.int (nI (qLoss pl ice)))) σ) := by
  refine Ct.of (ls := [(0, .int (nI pl)), (1, .int (nI ice))]) (by decide) (Nat.le_of_ble_eq_true rfl) rfl ?_
  intro pg e s m args below meth c Q hQ X hnm
  refine K_iload_n X 0 dX6_loss_0 rfl rfl ?_
  refine K_callSE X (c_X6_isTrayPlace l D b _ _ (by omega)) my_X6_isTrayPlace wt_X6_isTrayPlace wm_X6_98 ⟨rfl, rfl, Nat.le_of_ble_eq_true rfl, Nat.le_of_ble_eq_true rfl, Nat.le_of_ble_eq_true rfl, Nat.le_of_ble_eq_true rfl⟩ rfl rfl (Nat.le_of_ble_eq_true rfl) dX6_loss_1 ?_
  refine K_ifB_eq (tgt := 20) X dX6_loss_4 (by decide) (fun c4 => ?_) (fun c4 => ?_)
  · refine K_iload_n X 1 dX6_loss_20 rfl rfl ?_
    refine K_ifN_le (tgt := 28) X dX6_loss_21 (by decide) (by omega) (fun c21 => ?_) (fun c21 => ?_)
    · refine K_bipush X dX6_loss_28 cib_6 ?_
      exact K_iret X hQ dX6_loss_30 (⟨congrArg (fun z => some (Value.int (nI z))) ((if_neg (qTray_f c4)).trans (if_neg (by omega))).symm, rfl⟩)
    · refine K_iconst X dX6_loss_24 cii_1 ?_
      refine K_goto (tgt := 30) X dX6_loss_25 (by decide) ?_
      exact K_iret X hQ dX6_loss_30 (⟨congrArg (fun z => some (Value.int (nI z))) ((if_neg (qTray_f c4)).trans (if_pos (by omega))).symm, rfl⟩)
  · refine K_iload_n X 1 dX6_loss_7 rfl rfl ?_
    refine K_ifN_le (tgt := 15) X dX6_loss_8 (by decide) (by omega) (fun c8 => ?_) (fun c8 => ?_)
    · refine K_bipush X dX6_loss_15 cib_9 ?_
      refine K_goto (tgt := 30) X dX6_loss_17 (by decide) ?_
      exact K_iret X hQ dX6_loss_30 (⟨congrArg (fun z => some (Value.int (nI z))) ((if_pos (qTray_t c4)).trans (if_neg (by omega))).symm, rfl⟩)
    · refine K_iconst X dX6_loss_11 cii_2 ?_
      refine K_goto (tgt := 30) X dX6_loss_12 (by decide) ?_
      exact K_iret X hQ dX6_loss_30 (⟨congrArg (fun z => some (Value.int (nI z))) ((if_pos (qTray_t c4)).trans (if_pos (by omega))).symm, rfl⟩)

set_option maxHeartbeats 4000000 in
set_option maxRecDepth 100000 in
theorem c_X6_iceThen (l : Launch) (D : KD) (b : Nat) (σ : KS) (N : Nat → Nat) (pl ice : Nat) (hP : PF σ.2.2) (h1 : pl < 11) (h2 : ice < 2 ^ 30) (h8 : N 8 ≤ 500) : Ct l D b yX6_iceThen cX6_iceThen 4 (some .int) (rM 1 20) 0 0 [rf b 190, .int (nI pl), .int (nI ice)] shF (wN σ N) shF (pE (some (.int (nI (ice - qMelt N pl)))) (wN σ N)) := by
  refine Ct.of (ls := [(0, rf b 190), (1, .int (nI pl)), (2, .int (nI ice))]) (by decide) (Nat.le_of_ble_eq_true rfl) rfl ?_
  intro pg e s m args below meth c Q hQ X hnm
  refine K_iload_n X 2 dX6_iceThen_0 rfl rfl ?_
  refine K_iload_n X 1 dX6_iceThen_1 rfl rfl ?_
  refine K_callSE X (c_X6_isTrayPlace l D b _ _ (by omega)) my_X6_isTrayPlace wt_X6_isTrayPlace wm_X6_98 ⟨rfl, rfl, Nat.le_of_ble_eq_true rfl, Nat.le_of_ble_eq_true rfl, Nat.le_of_ble_eq_true rfl, Nat.le_of_ble_eq_true rfl⟩ rfl rfl (Nat.le_of_ble_eq_true rfl) dX6_iceThen_2 ?_
  refine K_ifB_eq (tgt := 20) X dX6_iceThen_5 (by decide) (fun c5 => ?_) (fun c5 => ?_)
  · refine K_aload_n X 0 dX6_iceThen_20 rfl rfl ?_
    refine K_get X 0 kFd6 rfl (by decide) sf_m wf_X6_7 rfl (v := rf b (191)) (kv_a (pf_m0 hP)) dX6_iceThen_21 ?_
    refine K_bipush X dX6_iceThen_24 cib_8 ?_
    refine K_iald X _ sf_ms rfl (by omega) (by decide) (wN_at _) dX6_iceThen_26 ?_
    refine K_isub X dX6_iceThen_27 ?_
    refine K_istore_n X (ls' := [(3, _), (0, _), (1, _), (2, _)]) dX6_iceThen_28 rfl (by decide) rfl ?_
    refine K_iload_n X 0 dX6_iceThen_29 rfl rfl ?_
    refine K_if_ge (tgt := 37) X dX6_iceThen_30 (by decide) (fun c30 => ?_) (fun c30 => ?_)
    · refine K_iload_n X 0 dX6_iceThen_37 rfl rfl ?_
      exact K_iret X hQ dX6_iceThen_38 (⟨by rw [pk_sub (kDif_ge (by omega) (by omega) c30), qMelt_f c5], rfl⟩)
    · refine K_iconst X dX6_iceThen_33 cii_0 ?_
      refine K_goto (tgt := 38) X dX6_iceThen_34 (by decide) ?_
      exact K_iret X hQ dX6_iceThen_38 (⟨by rw [qMelt_f c5, show ice - N 8 = 0 from by have := kDif_lt (by omega) (by omega) c30; omega], rfl⟩)
  · refine K_iconst X dX6_iceThen_8 cii_2 ?_
    refine K_aload_n X 0 dX6_iceThen_9 rfl rfl ?_
    refine K_get X 0 kFd6 rfl (by decide) sf_m wf_X6_7 rfl (v := rf b (191)) (kv_a (pf_m0 hP)) dX6_iceThen_10 ?_
    refine K_bipush X dX6_iceThen_13 cib_8 ?_
    refine K_iald X _ sf_ms rfl (by omega) (by decide) (wN_at _) dX6_iceThen_15 ?_
    refine K_imulN X dX6_iceThen_16 ?_
    refine K_goto (tgt := 27) X dX6_iceThen_17 (by decide) ?_
    refine K_isub X dX6_iceThen_27 ?_
    refine K_istore_n X (ls' := [(3, _), (0, _), (1, _), (2, _)]) dX6_iceThen_28 rfl (by decide) rfl ?_
    refine K_iload_n X 0 dX6_iceThen_29 rfl rfl ?_
    refine K_if_ge (tgt := 37) X dX6_iceThen_30 (by decide) (fun c30 => ?_) (fun c30 => ?_)
    · refine K_iload_n X 0 dX6_iceThen_37 rfl rfl ?_
      exact K_iret X hQ dX6_iceThen_38 (⟨by rw [pk_sub (kDif_ge (by omega) (by omega) c30), qMelt_t c5], rfl⟩)
    · refine K_iconst X dX6_iceThen_33 cii_0 ?_
      refine K_goto (tgt := 38) X dX6_iceThen_34 (by decide) ?_
      exact K_iret X hQ dX6_iceThen_38 (⟨by rw [qMelt_t c5, show ice - 2 * N 8 = 0 from by have := kDif_lt (by omega) (by omega) c30; omega], rfl⟩)

set_option maxHeartbeats 4000000 in
set_option maxRecDepth 100000 in
theorem c_X6_freshThen (l : Launch) (D : KD) (b : Nat) (σ : KS) (f z : Nat) (h1 : f < 2 ^ 31) (h2 : z < 2 ^ 31) : Ct l D b yX6_freshThen cX6_freshThen 2 (some .int) (rM 0 0) 0 0 [.int (nI f), .int (nI z)] shF σ shF (pE (some (.int (nI (f - z)))) σ) := by
  refine Ct.of (ls := [(0, .int (nI f)), (1, .int (nI z))]) (by decide) (Nat.le_of_ble_eq_true rfl) rfl ?_
  intro pg e s m args below meth c Q hQ X hnm
  refine K_iload_n X 0 dX6_freshThen_0 rfl rfl ?_
  refine K_iload_n X 1 dX6_freshThen_1 rfl rfl ?_
  refine K_icmpN_ge (tgt := 9) X dX6_freshThen_2 (by decide) (by omega) (by omega) (fun c2 => ?_) (fun c2 => ?_)
  · refine K_iload_n X 0 dX6_freshThen_9 rfl rfl ?_
    refine K_iload_n X 1 dX6_freshThen_10 rfl rfl ?_
    refine K_isubN X dX6_freshThen_11 (by omega) ?_
    exact K_iret X hQ dX6_freshThen_12 (⟨rfl, rfl⟩)
  · refine K_iconst X dX6_freshThen_5 cii_0 ?_
    refine K_goto (tgt := 12) X dX6_freshThen_6 (by decide) ?_
    exact K_iret X hQ dX6_freshThen_12 (⟨by rw [show f - z = 0 from by omega], rfl⟩)

set_option maxHeartbeats 4000000 in
set_option maxRecDepth 100000 in
theorem c_X6_freshIn (l : Launch) (D : KD) (b : Nat) (σ : KS) (N : Nat → Nat) (k hs : Nat) (hP : PF σ.2.2) (hI : qIr N) (hk : k < N 2) (hh : hs < 2 ^ 30) : Ct l D b yX6_freshIn cX6_freshIn 7 (some .int) (rM 2 43) 0 0 [rf b 190, .int (nI k), .int (nI hs)] shF (wN σ N) shF (pE (some (.int (nI (qFI N k hs).1))) (wN σ N)) := by
  have h2 := qi_2 hI
  refine Ct.of (ls := [(0, rf b 190), (1, .int (nI k)), (2, .int (nI hs))]) (by decide) (Nat.le_of_ble_eq_true rfl) rfl ?_
  intro pg e s m args below meth c Q hQ X hnm
  refine K_aload_n X 0 dX6_freshIn_0 rfl rfl ?_
  refine K_iload_n X 1 dX6_freshIn_1 rfl rfl ?_
  refine K_iconst X dX6_freshIn_2 cii_4 ?_
  refine K_callVE X (c_X6_part l D b _ _ _ _ hP (by omega)) my_X6_part mv_X6_part wm_X6_30 sf_m rfl ⟨rfl, rfl, Nat.le_of_ble_eq_true rfl, Nat.le_of_ble_eq_true rfl, Nat.le_of_ble_eq_true rfl, Nat.le_of_ble_eq_true rfl⟩ rfl rfl (Nat.le_of_ble_eq_true rfl) dX6_freshIn_3 ?_
  refine K_istore_n X (ls' := [(3, _), (0, _), (1, _), (2, _)]) dX6_freshIn_6 rfl (by decide) rfl ?_
  refine K_aload_n X 1 dX6_freshIn_7 rfl rfl ?_
  refine K_get X 0 kFd6 rfl (by decide) sf_m wf_X6_7 rfl (v := rf b (191)) (kv_a (pf_m0 hP)) dX6_freshIn_8 ?_
  refine K_bipush X dX6_freshIn_11 cib_34 ?_
  refine K_iload_n X 0 dX6_freshIn_13 rfl rfl ?_
  refine K_iaddN X dX6_freshIn_14 ?_
  refine K_iald X _ sf_ms rfl (by have := qi_l4 hI hk; omega) (by decide) (wN_at _) dX6_freshIn_15 ?_
  refine K_istore X (ls' := [(4, _), (3, _), (0, _), (1, _), (2, _)]) dX6_freshIn_16 (by decide) rfl ?_
  refine K_aload_n X 2 dX6_freshIn_18 rfl rfl ?_
  refine K_iload_n X 3 dX6_freshIn_19 rfl rfl ?_
  refine K_iconst X dX6_freshIn_20 cii_3 ?_
  refine K_callVE X (c_X6_part l D b _ _ _ _ hP (by omega)) my_X6_part mv_X6_part wm_X6_30 sf_m rfl ⟨rfl, rfl, Nat.le_of_ble_eq_true rfl, Nat.le_of_ble_eq_true rfl, Nat.le_of_ble_eq_true rfl, Nat.le_of_ble_eq_true rfl⟩ rfl rfl (Nat.le_of_ble_eq_true rfl) dX6_freshIn_21 ?_
  refine K_istore X (ls' := [(5, _), (4, _), (3, _), (0, _), (1, _), (2, _)]) dX6_freshIn_24 (by decide) rfl ?_
  refine K_iconst X dX6_freshIn_26 cii_0 ?_
  refine K_istore X (ls' := [(6, _), (5, _), (4, _), (3, _), (0, _), (1, _), (2, _)]) dX6_freshIn_27 (by decide) rfl ?_
  have loop : ∀ i : Nat, i ≤ hs → K pg l e (rM 2 43) s m args below meth c Q D b 7 0 0 shF (wN σ N) 29 [(0, rf b 190), (1, .int (nI k)), (2, .int (nI hs)), (3, .int (nI (qL N k 4))), (4, .int (nI (qFI N k i).2)), (5, .int (nI (qFI N k i).1)), (6, .int (nI i))] [] := by
    refine kup (fun i hi ih => ?_)
    refine K_iload X 6 dX6_freshIn_29 rfl ?_
    refine K_iload_n X 2 dX6_freshIn_31 rfl rfl ?_
    refine K_icmpN_ge (tgt := 63) X dX6_freshIn_32 (by decide) (by omega) (by omega) (fun c32 => ?_) (fun c32 => ?_)
    · refine K_iload X 5 dX6_freshIn_63 rfl ?_
      exact K_iret X hQ dX6_freshIn_65 (⟨by rw [show i = hs from by omega], rfl⟩)
    · refine K_iload X 5 dX6_freshIn_35 rfl ?_
      refine K_iload_n X 3 dX6_freshIn_37 rfl rfl ?_
      refine K_iload X 4 dX6_freshIn_38 rfl ?_
      refine K_callSE X (c_X6_loss l D b _ _ _ (qi_l4 hI hk) (by have := (qFI_le N k i).2; have := qi_i hI (qi_l4 hI hk); omega)) my_X6_loss wt_X6_loss wm_X6_107 ⟨rfl, rfl, Nat.le_of_ble_eq_true rfl, Nat.le_of_ble_eq_true rfl, Nat.le_of_ble_eq_true rfl, Nat.le_of_ble_eq_true rfl⟩ rfl rfl (Nat.le_of_ble_eq_true rfl) dX6_freshIn_40 ?_
      refine K_callSE X (c_X6_freshThen l D b _ _ _ (by have := (qFI_le N k i).1; have := qi_l3 hI hk; omega) (by have := qLoss_le (qL N k 4) (qFI N k i).2; omega)) my_X6_freshThen wt_X6_freshThen wm_X6_110 ⟨rfl, rfl, Nat.le_of_ble_eq_true rfl, Nat.le_of_ble_eq_true rfl, Nat.le_of_ble_eq_true rfl, Nat.le_of_ble_eq_true rfl⟩ rfl rfl (Nat.le_of_ble_eq_true rfl) dX6_freshIn_43 ?_
      refine K_istore X (ls' := [(5, _), (0, _), (1, _), (2, _), (3, _), (4, _), (6, _)]) dX6_freshIn_46 (by decide) rfl ?_
      refine K_aload_n X 1 dX6_freshIn_48 rfl rfl ?_
      refine K_iload_n X 4 dX6_freshIn_49 rfl rfl ?_
      refine K_iload X 5 dX6_freshIn_50 rfl ?_
      refine K_callVE X (c_X6_iceThen l D b _ _ _ _ hP (qi_l4 hI hk) (by have := (qFI_le N k i).2; have := qi_i hI (qi_l4 hI hk); omega) (qi_8 hI)) my_X6_iceThen mv_X6_iceThen wm_X6_113 sf_m rfl ⟨rfl, rfl, Nat.le_of_ble_eq_true rfl, Nat.le_of_ble_eq_true rfl, Nat.le_of_ble_eq_true rfl, Nat.le_of_ble_eq_true rfl⟩ rfl rfl (Nat.le_of_ble_eq_true rfl) dX6_freshIn_52 ?_
      refine K_istore X (ls' := [(4, _), (5, _), (0, _), (1, _), (2, _), (3, _), (6, _)]) dX6_freshIn_55 (by decide) rfl ?_
      refine K_iinc X 6 (ls' := [(6, _), (4, _), (5, _), (0, _), (1, _), (2, _), (3, _)]) dX6_freshIn_57 rfl (inc_1 _) (by decide) rfl ?_
      refine K_goto (tgt := 29) X dX6_freshIn_60 (by decide) ?_
      exact K_sub [3, 4, 5, 6, 1, 2, 0] rfl (ih (by omega))
  exact K_sub [4, 5, 6, 3, 2, 1, 0] rfl (loop 0 (Nat.zero_le _))

set_option maxHeartbeats 4000000 in
set_option maxRecDepth 100000 in
theorem c_X6_leftOf (l : Launch) (D : KD) (b : Nat) (σ : KS) (N : Nat → Nat) (k : Nat) (hP : PF σ.2.2) (hI : qIr N) (hk : k < N 2) : Ct l D b yX6_leftOf cX6_leftOf 4 (some .int) (rM 3 69) 0 0 [rf b 190, .int (nI k)] shF (wN σ N) shF (pE (some (.int (qO (qLf N k 101)))) (wN σ N)) := by
  have h2 := qi_2 hI
  refine Ct.of (ls := [(0, rf b 190), (1, .int (nI k))]) (by decide) (Nat.le_of_ble_eq_true rfl) rfl ?_
  intro pg e s m args below meth c Q hQ X hnm
  refine K_bipush X dX6_leftOf_0 cib_m6 ?_
  refine K_istore_n X (ls' := [(2, _), (0, _), (1, _)]) dX6_leftOf_2 rfl (by decide) rfl ?_
  refine K_iconst X dX6_leftOf_3 cii_0 ?_
  refine K_istore_n X (ls' := [(3, _), (2, _), (0, _), (1, _)]) dX6_leftOf_4 rfl (by decide) rfl ?_
  have loop : ∀ i : Nat, i ≤ 101 → K pg l e (rM 3 69) s m args below meth c Q D b 4 0 0 shF (wN σ N) 5 [(0, rf b 190), (1, .int (nI k)), (2, .int (qO (qLf N k i))), (3, .int (nI i))] [] := by
    refine kup (fun i hi ih => ?_)
    refine K_iload_n X 3 dX6_leftOf_5 rfl rfl ?_
    refine K_bipush X dX6_leftOf_6 cib_100 ?_
    refine K_icmpN_gt (tgt := 39) X dX6_leftOf_8 (by decide) (by omega) (by omega) (fun c8 => ?_) (fun c8 => ?_)
    · refine K_iload_n X 2 dX6_leftOf_39 rfl rfl ?_
      exact K_iret X hQ dX6_leftOf_40 (⟨by rw [show i = 101 from by omega], rfl⟩)
    · refine K_aload_n X 0 dX6_leftOf_11 rfl rfl ?_
      refine K_iload_n X 1 dX6_leftOf_12 rfl rfl ?_
      refine K_iload_n X 3 dX6_leftOf_13 rfl rfl ?_
      refine K_callVE X (c_X6_freshIn l D b _ _ _ _ hP hI (by omega) (by omega)) my_X6_freshIn mv_X6_freshIn wm_X6_162 sf_m rfl ⟨rfl, rfl, Nat.le_of_ble_eq_true rfl, Nat.le_of_ble_eq_true rfl, Nat.le_of_ble_eq_true rfl, Nat.le_of_ble_eq_true rfl⟩ rfl rfl (Nat.le_of_ble_eq_true rfl) dX6_leftOf_14 ?_
      refine K_aload_n X 0 dX6_leftOf_17 rfl rfl ?_
      refine K_get X 0 kFd6 rfl (by decide) sf_m wf_X6_7 rfl (v := rf b (191)) (kv_a (pf_m0 hP)) dX6_leftOf_18 ?_
      refine K_bipush X dX6_leftOf_21 cib_9 ?_
      refine K_iald X _ sf_ms rfl (by omega) (by decide) (wN_at _) dX6_leftOf_23 ?_
      refine K_icmpN_lt (tgt := 31) X dX6_leftOf_24 (by decide) (by have := (qFI_le N k i).1; have := qi_l3 hI hk; omega) (by have := qi_9 hI; omega) (fun c24 => ?_) (fun c24 => ?_)
      · refine K_iload_n X 2 dX6_leftOf_31 rfl rfl ?_
        refine K_istore_n X (ls' := [(2, _), (0, _), (1, _), (3, _)]) dX6_leftOf_32 rfl (by decide) rfl ?_
        refine K_iinc X 3 (ls' := [(3, _), (2, _), (0, _), (1, _)]) dX6_leftOf_33 rfl (inc_1 _) (by decide) rfl ?_
        refine K_goto (tgt := 5) X dX6_leftOf_36 (by decide) ?_
        rw [show qLf N k (i + 1) = qLf N k i from if_neg (by omega)] at ih
        exact K_sub [2, 3, 1, 0] rfl (ih (by omega))
      · refine K_iload_n X 3 dX6_leftOf_27 rfl rfl ?_
        refine K_goto (tgt := 32) X dX6_leftOf_28 (by decide) ?_
        refine K_istore_n X (ls' := [(2, _), (0, _), (1, _), (3, _)]) dX6_leftOf_32 rfl (by decide) rfl ?_
        refine K_iinc X 3 (ls' := [(3, _), (2, _), (0, _), (1, _)]) dX6_leftOf_33 rfl (inc_1 _) (by decide) rfl ?_
        refine K_goto (tgt := 5) X dX6_leftOf_36 (by decide) ?_
        rw [show qLf N k (i + 1) = some i from if_pos (by omega)] at ih
        exact K_sub [2, 3, 1, 0] rfl (ih (by omega))
  exact K_sub [2, 3, 1, 0] rfl (loop 0 (Nat.zero_le _))

set_option maxHeartbeats 4000000 in
set_option maxRecDepth 100000 in
theorem c_X6_bestOf (l : Launch) (D : KD) (b : Nat) (σ : KS) (N : Nat → Nat) (k : Nat) (hP : PF σ.2.2) (hI : qIr N) (hk : k < N 2) : Ct l D b yX6_bestOf cX6_bestOf 6 (some .int) (rM 3 69) 0 0 [rf b 190, .int (nI k)] shF (wN σ N) shF (pE (some (.int (qHf (qBs N k (11 - N 1))))) (wN σ N)) := by
  have h2 := qi_2 hI
  have h1 := qi_1 hI
  refine Ct.of (ls := [(0, rf b 190), (1, .int (nI k))]) (by decide) (Nat.le_of_ble_eq_true rfl) rfl ?_
  intro pg e s m args below meth c Q hQ X hnm
  refine K_bipush X dX6_bestOf_0 cib_m6 ?_
  refine K_istore_n X (ls' := [(2, _), (0, _), (1, _)]) dX6_bestOf_2 rfl (by decide) rfl ?_
  refine K_bipush X dX6_bestOf_3 cib_m6 ?_
  refine K_istore_n X (ls' := [(3, _), (2, _), (0, _), (1, _)]) dX6_bestOf_5 rfl (by decide) rfl ?_
  refine K_aload_n X 2 dX6_bestOf_6 rfl rfl ?_
  refine K_get X 0 kFd6 rfl (by decide) sf_m wf_X6_7 rfl (v := rf b (191)) (kv_a (pf_m0 hP)) dX6_bestOf_7 ?_
  refine K_iconst X dX6_bestOf_10 cii_1 ?_
  refine K_iald X _ sf_ms rfl (by omega) (by decide) (wN_at _) dX6_bestOf_11 ?_
  refine K_istore X (ls' := [(4, _), (3, _), (2, _), (0, _), (1, _)]) dX6_bestOf_12 (by decide) rfl ?_
  have loop : ∀ i : Nat, i ≤ 11 - N 1 → K pg l e (rM 3 69) s m args below meth c Q D b 6 0 0 shF (wN σ N) 14 [(0, rf b 190), (1, .int (nI k)), (2, .int (qHf (qBs N k i))), (3, .int (qHm (qBs N k i))), (4, .int (nI (N 1 + i)))] [] := by
    refine kup (fun i hi ih => ?_)
    refine K_iload X 4 dX6_bestOf_14 rfl ?_
    refine K_bipush X dX6_bestOf_16 cib_10 ?_
    refine K_icmpN_gt (tgt := 90) X dX6_bestOf_18 (by decide) (by omega) (by omega) (fun c18 => ?_) (fun c18 => ?_)
    · refine K_iload_n X 2 dX6_bestOf_90 rfl rfl ?_
      exact K_iret X hQ dX6_bestOf_91 (⟨by rw [show i = 11 - N 1 from by omega], rfl⟩)
    · refine K_aload_n X 0 dX6_bestOf_21 rfl rfl ?_
      refine K_iload_n X 1 dX6_bestOf_22 rfl rfl ?_
      refine K_iconst X dX6_bestOf_23 cii_2 ?_
      refine K_callVE X (c_X6_part l D b _ _ _ _ hP (by omega)) my_X6_part mv_X6_part wm_X6_30 sf_m rfl ⟨rfl, rfl, Nat.le_of_ble_eq_true rfl, Nat.le_of_ble_eq_true rfl, Nat.le_of_ble_eq_true rfl, Nat.le_of_ble_eq_true rfl⟩ rfl rfl (Nat.le_of_ble_eq_true rfl) dX6_bestOf_24 ?_
      refine K_aload_n X 0 dX6_bestOf_27 rfl rfl ?_
      refine K_aload_n X 0 dX6_bestOf_28 rfl rfl ?_
      refine K_iload_n X 1 dX6_bestOf_29 rfl rfl ?_
      refine K_iconst X dX6_bestOf_30 cii_1 ?_
      refine K_callVE X (c_X6_part l D b _ _ _ _ hP (by omega)) my_X6_part mv_X6_part wm_X6_30 sf_m rfl ⟨rfl, rfl, Nat.le_of_ble_eq_true rfl, Nat.le_of_ble_eq_true rfl, Nat.le_of_ble_eq_true rfl, Nat.le_of_ble_eq_true rfl⟩ rfl rfl (Nat.le_of_ble_eq_true rfl) dX6_bestOf_31 ?_
      refine K_aload_n X 0 dX6_bestOf_34 rfl rfl ?_
      refine K_iload_n X 1 dX6_bestOf_35 rfl rfl ?_
      refine K_iload X 4 dX6_bestOf_36 rfl ?_
      refine K_aload_n X 0 dX6_bestOf_38 rfl rfl ?_
      refine K_get X 0 kFd6 rfl (by decide) sf_m wf_X6_7 rfl (v := rf b (191)) (kv_a (pf_m0 hP)) dX6_bestOf_39 ?_
      refine K_iconst X dX6_bestOf_42 cii_1 ?_
      refine K_iald X _ sf_ms rfl (by omega) (by decide) (wN_at _) dX6_bestOf_43 ?_
      refine K_isubN X dX6_bestOf_44 (by omega) ?_
      rw [show N 1 + i - N 1 = i from by omega]
      refine K_callVE X (c_X6_freshIn l D b _ _ _ _ hP hI (by omega) (by omega)) my_X6_freshIn mv_X6_freshIn wm_X6_162 sf_m rfl ⟨rfl, rfl, Nat.le_of_ble_eq_true rfl, Nat.le_of_ble_eq_true rfl, Nat.le_of_ble_eq_true rfl, Nat.le_of_ble_eq_true rfl⟩ rfl rfl (Nat.le_of_ble_eq_true rfl) dX6_bestOf_45 ?_
      refine K_iload X 4 dX6_bestOf_48 rfl ?_
      refine K_callVE X (c_X6_priceWith l D b _ _ _ _ _ hP (qi_l1 hI hk) (Nat.le_trans (qFI_le N k i).1 (qi_l3 hI hk)) (by omega) (qi_p hI (qi_l1 hI hk)) (qi_t hI (by omega))) my_X6_priceWith mv_X6_priceWith wm_X6_42 sf_m rfl ⟨rfl, rfl, Nat.le_of_ble_eq_true rfl, Nat.le_of_ble_eq_true rfl, Nat.le_of_ble_eq_true rfl, Nat.le_of_ble_eq_true rfl⟩ rfl rfl (Nat.le_of_ble_eq_true rfl) dX6_bestOf_50 ?_
      refine K_callSE X (c_X6_worthOf l D b _ _ _ (qW_b (qi_l2 hI hk) (qPr_le (qi_p hI (qi_l1 hI hk)) (Nat.le_trans (qFI_le N k i).1 (qi_l3 hI hk))))) my_X6_worthOf wt_X6_worthOf wm_X6_70 ⟨rfl, rfl, Nat.le_of_ble_eq_true rfl, Nat.le_of_ble_eq_true rfl, Nat.le_of_ble_eq_true rfl, Nat.le_of_ble_eq_true rfl⟩ rfl rfl (Nat.le_of_ble_eq_true rfl) dX6_bestOf_53 ?_
      refine K_istore X (ls' := [(5, _), (0, _), (1, _), (2, _), (3, _), (4, _)]) dX6_bestOf_56 (by decide) rfl ?_
      refine K_iload X 0 dX6_bestOf_58 rfl ?_
      refine K_iload_n X 4 dX6_bestOf_60 rfl rfl ?_
      refine K_icmp_le (tgt := 69) X dX6_bestOf_61 (by decide) (fun c61 => ?_) (fun c61 => ?_)
      · refine K_iload_n X 3 dX6_bestOf_69 rfl rfl ?_
        refine K_istore_n X (ls' := [(2, _), (5, _), (0, _), (1, _), (3, _), (4, _)]) dX6_bestOf_70 rfl (by decide) rfl ?_
        refine K_iload X 1 dX6_bestOf_71 rfl ?_
        refine K_iload_n X 4 dX6_bestOf_73 rfl rfl ?_
        refine K_icmp_le (tgt := 82) X dX6_bestOf_74 (by decide) (fun c74 => ?_) (fun c74 => ?_)
        · refine K_iload_n X 4 dX6_bestOf_82 rfl rfl ?_
          refine K_istore_n X (ls' := [(3, _), (2, _), (5, _), (0, _), (1, _), (4, _)]) dX6_bestOf_83 rfl (by decide) rfl ?_
          refine K_iinc X 5 (ls' := [(4, _), (3, _), (2, _), (5, _), (0, _), (1, _)]) dX6_bestOf_84 rfl (inc_1 _) (by decide) rfl ?_
          refine K_goto (tgt := 14) X dX6_bestOf_87 (by decide) ?_
          have hb : qBs N k (i + 1) = qBs N k i := qB_le (w := qWat N k i) (by have : qWat N k i ≤ 199980 := qW_le (qi_l2 hI hk) (qPr_le (qi_p hI (qi_l1 hI hk)) (Nat.le_trans (qFI_le N k i).1 (qi_l3 hI hk))); omega) (fun q hq => by have := (qBs_b hI hk hq).1; omega) c61
          rw [hb] at ih
          exact K_sub [4, 5, 2, 1, 0] rfl (ih (by omega))
        · exact absurd c61 c74
      · refine K_iload X 5 dX6_bestOf_64 rfl ?_
        refine K_goto (tgt := 70) X dX6_bestOf_66 (by decide) ?_
        refine K_istore_n X (ls' := [(2, _), (5, _), (0, _), (1, _), (3, _), (4, _)]) dX6_bestOf_70 rfl (by decide) rfl ?_
        refine K_iload X 1 dX6_bestOf_71 rfl ?_
        refine K_iload_n X 4 dX6_bestOf_73 rfl rfl ?_
        refine K_icmp_le (tgt := 82) X dX6_bestOf_74 (by decide) (fun c74 => ?_) (fun c74 => ?_)
        · exact absurd c74 c61
        · refine K_iload X 1 dX6_bestOf_77 rfl ?_
          refine K_goto (tgt := 83) X dX6_bestOf_79 (by decide) ?_
          refine K_istore_n X (ls' := [(3, _), (2, _), (5, _), (0, _), (1, _), (4, _)]) dX6_bestOf_83 rfl (by decide) rfl ?_
          refine K_iinc X 5 (ls' := [(4, _), (3, _), (2, _), (5, _), (0, _), (1, _)]) dX6_bestOf_84 rfl (inc_1 _) (by decide) rfl ?_
          refine K_goto (tgt := 14) X dX6_bestOf_87 (by decide) ?_
          have hb : qBs N k (i + 1) = some (N 1 + i, qWat N k i) := qB_gt (w := qWat N k i) (by have : qWat N k i ≤ 199980 := qW_le (qi_l2 hI hk) (qPr_le (qi_p hI (qi_l1 hI hk)) (Nat.le_trans (qFI_le N k i).1 (qi_l3 hI hk))); omega) (fun q hq => by have := (qBs_b hI hk hq).1; omega) c61
          rw [hb] at ih
          exact K_sub [4, 5, 2, 1, 0] rfl (ih (by omega))
  exact K_sub [3, 4, 2, 1, 0] rfl (loop 0 (Nat.zero_le _))

set_option maxHeartbeats 4000000 in
set_option maxRecDepth 100000 in
theorem c_X6_allWorth (l : Launch) (D : KD) (b : Nat) (σ : KS) (N : Nat → Nat) (hP : PF σ.2.2) (hI : qIr N) : Ct l D b yX6_allWorth cX6_allWorth 4 (some .long) (rM 2 45) 0 0 [rf b 190] shF (wN σ N) shF (pE (some (.long (lN (qWorth N (N 2))))) (wN σ N)) := by
  have h2 := qi_2 hI
  refine Ct.of (ls := [(0, rf b 190)]) (by decide) (Nat.le_of_ble_eq_true rfl) rfl ?_
  intro pg e s m args below meth c Q hQ X hnm
  refine K_lconst (v := lN 0) X dX6_allWorth_0 rfl ?_
  refine K_lstore_n X (ls' := [(1, _), (0, _)]) dX6_allWorth_1 rfl (by decide) rfl ?_
  refine K_iconst X dX6_allWorth_2 cii_0 ?_
  refine K_istore_n X (ls' := [(3, _), (1, _), (0, _)]) dX6_allWorth_3 rfl (by decide) rfl ?_
  have loop : ∀ i : Nat, i ≤ N 2 → K pg l e (rM 2 45) s m args below meth c Q D b 4 0 0 shF (wN σ N) 4 [(0, rf b 190), (1, .long (lN (qWorth N i))), (3, .int (nI i))] [] := by
    refine kup (fun i hi ih => ?_)
    refine K_iload_n X 2 dX6_allWorth_4 rfl rfl ?_
    refine K_aload_n X 0 dX6_allWorth_5 rfl rfl ?_
    refine K_get X 0 kFd6 rfl (by decide) sf_m wf_X6_7 rfl (v := rf b (191)) (kv_a (pf_m0 hP)) dX6_allWorth_6 ?_
    refine K_iconst X dX6_allWorth_9 cii_2 ?_
    refine K_iald X _ sf_ms rfl (by omega) (by decide) (wN_at _) dX6_allWorth_10 ?_
    refine K_icmpN_ge (tgt := 50) X dX6_allWorth_11 (by decide) (by omega) (by omega) (fun c11 => ?_) (fun c11 => ?_)
    · refine K_lload_n X 1 dX6_allWorth_50 rfl rfl ?_
      exact K_lret X hQ dX6_allWorth_51 (⟨by rw [show i = N 2 from by omega], rfl⟩)
    · refine K_lload_n X 1 dX6_allWorth_14 rfl rfl ?_
      refine K_aload_n X 0 dX6_allWorth_15 rfl rfl ?_
      refine K_iload_n X 2 dX6_allWorth_16 rfl rfl ?_
      refine K_callVE X (c_X6_isSold l D b _ _ _ hP hI (by omega)) my_X6_isSold mv_X6_isSold wm_X6_101 sf_m rfl ⟨rfl, rfl, Nat.le_of_ble_eq_true rfl, Nat.le_of_ble_eq_true rfl, Nat.le_of_ble_eq_true rfl, Nat.le_of_ble_eq_true rfl⟩ rfl rfl (Nat.le_of_ble_eq_true rfl) dX6_allWorth_17 ?_
      refine K_ifB_eq (tgt := 41) X dX6_allWorth_20 (by decide) (fun c20 => ?_) (fun c20 => ?_)
      · refine K_lconst (v := lN 0) X dX6_allWorth_41 rfl ?_
        refine K_laddN X dX6_allWorth_42 ?_
        refine K_lstore_n X (ls' := [(1, _), (0, _), (3, _)]) dX6_allWorth_43 rfl (by decide) rfl ?_
        refine K_iinc X 2 (ls' := [(3, _), (1, _), (0, _)]) dX6_allWorth_44 rfl (inc_1 _) (by decide) rfl ?_
        refine K_goto (tgt := 4) X dX6_allWorth_47 (by decide) ?_
        rw [show qWorth N (i + 1) = qWorth N i + 0 from congrArg (qWorth N i + ·) (if_neg (by rw [c20]; decide))] at ih
        exact K_sub [2, 1, 0] rfl (ih (by omega))
      · refine K_aload_n X 0 dX6_allWorth_23 rfl rfl ?_
        refine K_iload_n X 2 dX6_allWorth_24 rfl rfl ?_
        refine K_iconst X dX6_allWorth_25 cii_2 ?_
        refine K_callVE X (c_X6_part l D b _ _ _ _ hP (by omega)) my_X6_part mv_X6_part wm_X6_30 sf_m rfl ⟨rfl, rfl, Nat.le_of_ble_eq_true rfl, Nat.le_of_ble_eq_true rfl, Nat.le_of_ble_eq_true rfl, Nat.le_of_ble_eq_true rfl⟩ rfl rfl (Nat.le_of_ble_eq_true rfl) dX6_allWorth_26 ?_
        refine K_aload_n X 0 dX6_allWorth_29 rfl rfl ?_
        refine K_iload_n X 2 dX6_allWorth_30 rfl rfl ?_
        refine K_callVE X (c_X6_priceOf l D b _ _ _ hP hI (by omega)) my_X6_priceOf mv_X6_priceOf wm_X6_92 sf_m rfl ⟨rfl, rfl, Nat.le_of_ble_eq_true rfl, Nat.le_of_ble_eq_true rfl, Nat.le_of_ble_eq_true rfl, Nat.le_of_ble_eq_true rfl⟩ rfl rfl (Nat.le_of_ble_eq_true rfl) dX6_allWorth_31 ?_
        refine K_callSE X (c_X6_worthOf l D b _ _ _ (qW_b (qi_l2 hI (by omega)) (qPrice_le hI (by omega)))) my_X6_worthOf wt_X6_worthOf wm_X6_70 ⟨rfl, rfl, Nat.le_of_ble_eq_true rfl, Nat.le_of_ble_eq_true rfl, Nat.le_of_ble_eq_true rfl, Nat.le_of_ble_eq_true rfl⟩ rfl rfl (Nat.le_of_ble_eq_true rfl) dX6_allWorth_34 ?_
        refine K_i2lN X dX6_allWorth_37 (by have := qW_le (qi_l2 hI (show i < N 2 from by omega)) (qPrice_le hI (show i < N 2 from by omega)); omega) ?_
        refine K_goto (tgt := 42) X dX6_allWorth_38 (by decide) ?_
        refine K_laddN X dX6_allWorth_42 ?_
        refine K_lstore_n X (ls' := [(1, _), (0, _), (3, _)]) dX6_allWorth_43 rfl (by decide) rfl ?_
        refine K_iinc X 2 (ls' := [(3, _), (1, _), (0, _)]) dX6_allWorth_44 rfl (inc_1 _) (by decide) rfl ?_
        refine K_goto (tgt := 4) X dX6_allWorth_47 (by decide) ?_
        rw [show qWorth N (i + 1) = qWorth N i + qW (qL N i 2) (qPrice N i) from congrArg (qWorth N i + ·) (if_pos c20)] at ih
        exact K_sub [2, 1, 0] rfl (ih (by omega))
  exact K_sub [2, 1, 0] rfl (loop 0 (Nat.zero_le _))
