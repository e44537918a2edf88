/-! THE REFERENCE: what reads a shop's numbers -/
set_option maxHeartbeats 4000000 in
set_option maxRecDepth 100000 in
theorem c_X6_isSold (l : Launch) (D : KD) (b : Nat) (σ : KS) (N : Nat → Nat) (k : Nat) (hP : PF σ.2.2) (hI : qIr N) (hk : k < N 2) : Ct l D b yX6_isSold cX6_isSold 2 (some .boolean) (rM 1 22) 0 0 [rf b 190, .int (nI k)] shF (wN σ N) shF (pE (some (.int (kB (qSold N k)))) (wN σ N)) := by
  have h2 := qi_2 hI
  refine Ct.of (ls := [(0, rf b 190), (1, .int (nI k))]) (by decide) (Nat.le_of_ble_eq_true rfl) rfl ?_
  intro pg e s m args below meth c Q hQ X hnm
  refine K_aload_n X 0 dX6_isSold_0 rfl rfl ?_
  refine K_iload_n X 1 dX6_isSold_1 rfl rfl ?_
  refine K_iconst X dX6_isSold_2 cii_3 ?_
  refine K_callVE X (c_X6_part l D b _ _ _ _ hP (by omega)) my_X6_part mv_X6_part wm_X6_30 sf_m rfl ⟨rfl, rfl, Nat.le_of_ble_eq_true rfl, Nat.le_of_ble_eq_true rfl, Nat.le_of_ble_eq_true rfl, Nat.le_of_ble_eq_true rfl⟩ rfl rfl (Nat.le_of_ble_eq_true rfl) dX6_isSold_3 ?_
  refine K_aload_n X 0 dX6_isSold_6 rfl rfl ?_
  refine K_get X 0 kFd6 rfl (by decide) sf_m wf_X6_7 rfl (v := rf b (191)) (kv_a (pf_m0 hP)) dX6_isSold_7 ?_
  refine K_bipush X dX6_isSold_10 cib_9 ?_
  refine K_iald X _ sf_ms rfl (by omega) (by decide) (wN_at _) dX6_isSold_12 ?_
  refine K_icmpN_lt (tgt := 20) X dX6_isSold_13 (by decide) (by have := qi_l3 hI hk; omega) (by have := qi_9 hI; omega) (fun c13 => ?_) (fun c13 => ?_)
  · refine K_iconst X dX6_isSold_20 cii_0 ?_
    exact K_zret X false rfl hQ dX6_isSold_21 (⟨by rw [show qSold N k = false from decide_eq_false (by omega)], rfl⟩)
  · refine K_iconst X dX6_isSold_16 cii_1 ?_
    refine K_goto (tgt := 21) X dX6_isSold_17 (by decide) ?_
    exact K_zret X true rfl hQ dX6_isSold_21 (⟨by rw [show qSold N k = true from decide_eq_true (by omega)], rfl⟩)

set_option maxHeartbeats 4000000 in
set_option maxRecDepth 100000 in
theorem c_X6_lotsAt (l : Launch) (D : KD) (b : Nat) (σ : KS) (N : Nat → Nat) (pl : Nat) (hP : PF σ.2.2) (hI : qIr N) (hpl : pl < 11) : Ct l D b yX6_lotsAt cX6_lotsAt 4 (some .int) (rM 1 22) 0 0 [rf b 190, .int (nI pl)] shF (wN σ N) shF (pE (some (.int (nI (qCnt N pl (N 2))))) (wN σ N)) := by
  have h2 := qi_2 hI
  refine Ct.of (ls := [(0, rf b 190), (1, .int (nI pl))]) (by decide) (Nat.le_of_ble_eq_true rfl) rfl ?_
  intro pg e s m args below meth c Q hQ X hnm
  refine K_iconst X dX6_lotsAt_0 cii_0 ?_
  refine K_istore_n X (ls' := [(2, _), (0, _), (1, _)]) dX6_lotsAt_1 rfl (by decide) rfl ?_
  refine K_iconst X dX6_lotsAt_2 cii_0 ?_
  refine K_istore_n X (ls' := [(3, _), (2, _), (0, _), (1, _)]) dX6_lotsAt_3 rfl (by decide) rfl ?_
  have loop : ∀ i : Nat, i ≤ N 2 → K pg l e (rM 1 22) s m args below meth c Q D b 4 0 0 shF (wN σ N) 4 [(0, rf b 190), (1, .int (nI pl)), (2, .int (nI (qCnt N pl i))), (3, .int (nI i))] [] := by
    refine kup (fun i hi ih => ?_)
    refine K_iload_n X 3 dX6_lotsAt_4 rfl rfl ?_
    refine K_aload_n X 0 dX6_lotsAt_5 rfl rfl ?_
    refine K_get X 0 kFd6 rfl (by decide) sf_m wf_X6_7 rfl (v := rf b (191)) (kv_a (pf_m0 hP)) dX6_lotsAt_6 ?_
    refine K_iconst X dX6_lotsAt_9 cii_2 ?_
    refine K_iald X _ sf_ms rfl (by omega) (by decide) (wN_at _) dX6_lotsAt_10 ?_
    refine K_icmpN_ge (tgt := 38) X dX6_lotsAt_11 (by decide) (by omega) (by omega) (fun c11 => ?_) (fun c11 => ?_)
    · refine K_iload_n X 2 dX6_lotsAt_38 rfl rfl ?_
      exact K_iret X hQ dX6_lotsAt_39 (⟨by rw [show i = N 2 from by omega], rfl⟩)
    · refine K_iload_n X 2 dX6_lotsAt_14 rfl rfl ?_
      refine K_aload_n X 0 dX6_lotsAt_15 rfl rfl ?_
      refine K_iload_n X 3 dX6_lotsAt_16 rfl rfl ?_
      refine K_iconst X dX6_lotsAt_17 cii_4 ?_
      refine K_callVE X (c_X6_part l D b _ _ _ _ hP (by omega)) my_X6_part mv_X6_part wm_X6_30 sf_m rfl ⟨rfl, rfl, Nat.le_of_ble_eq_true rfl, Nat.le_of_ble_eq_true rfl, Nat.le_of_ble_eq_true rfl, Nat.le_of_ble_eq_true rfl⟩ rfl rfl (Nat.le_of_ble_eq_true rfl) dX6_lotsAt_18 ?_
      refine K_iload_n X 1 dX6_lotsAt_21 rfl rfl ?_
      refine K_icmpN_ne (tgt := 29) X dX6_lotsAt_22 (by decide) (by have := qi_l4 hI (show i < N 2 from by omega); omega) (by omega) (fun c22 => ?_) (fun c22 => ?_)
      · refine K_iconst X dX6_lotsAt_29 cii_0 ?_
        refine K_iaddN X dX6_lotsAt_30 ?_
        refine K_istore_n X (ls' := [(2, _), (0, _), (1, _), (3, _)]) dX6_lotsAt_31 rfl (by decide) rfl ?_
        refine K_iinc X 3 (ls' := [(3, _), (2, _), (0, _), (1, _)]) dX6_lotsAt_32 rfl (inc_1 _) (by decide) rfl ?_
        refine K_goto (tgt := 4) X dX6_lotsAt_35 (by decide) ?_
        rw [show qCnt N pl (i + 1) = qCnt N pl i + 0 from congrArg (qCnt N pl i + ·) (if_neg c22)] at ih
        exact K_sub [2, 3, 1, 0] rfl (ih (by omega))
      · refine K_iconst X dX6_lotsAt_25 cii_1 ?_
        refine K_goto (tgt := 30) X dX6_lotsAt_26 (by decide) ?_
        refine K_iaddN X dX6_lotsAt_30 ?_
        refine K_istore_n X (ls' := [(2, _), (0, _), (1, _), (3, _)]) dX6_lotsAt_31 rfl (by decide) rfl ?_
        refine K_iinc X 3 (ls' := [(3, _), (2, _), (0, _), (1, _)]) dX6_lotsAt_32 rfl (inc_1 _) (by decide) rfl ?_
        refine K_goto (tgt := 4) X dX6_lotsAt_35 (by decide) ?_
        rw [show qCnt N pl (i + 1) = qCnt N pl i + 1 from congrArg (qCnt N pl i + ·) (if_pos c22)] at ih
        exact K_sub [2, 3, 1, 0] rfl (ih (by omega))
  exact K_sub [2, 3, 1, 0] rfl (loop 0 (Nat.zero_le _))

set_option maxHeartbeats 4000000 in
set_option maxRecDepth 100000 in
theorem c_X6_firstAt (l : Launch) (D : KD) (b : Nat) (σ : KS) (N : Nat → Nat) (pl : Nat) (hP : PF σ.2.2) (hI : qIr N) (hpl : pl < 11) : Ct l D b yX6_firstAt cX6_firstAt 4 (some .int) (rM 1 22) 0 0 [rf b 190, .int (nI pl)] shF (wN σ N) shF (pE (some (.int (qO (qFst N pl (N 2) none)))) (wN σ N)) := by
  have h2 := qi_2 hI
  refine Ct.of (ls := [(0, rf b 190), (1, .int (nI pl))]) (by decide) (Nat.le_of_ble_eq_true rfl) rfl ?_
  intro pg e s m args below meth c Q hQ X hnm
  refine K_bipush X dX6_firstAt_0 cib_m6 ?_
  refine K_istore_n X (ls' := [(2, _), (0, _), (1, _)]) dX6_firstAt_2 rfl (by decide) rfl ?_
  refine K_aload_n X 1 dX6_firstAt_3 rfl rfl ?_
  refine K_get X 0 kFd6 rfl (by decide) sf_m wf_X6_7 rfl (v := rf b (191)) (kv_a (pf_m0 hP)) dX6_firstAt_4 ?_
  refine K_iconst X dX6_firstAt_7 cii_2 ?_
  refine K_iald X _ sf_ms rfl (by omega) (by decide) (wN_at _) dX6_firstAt_8 ?_
  refine K_iconst X dX6_firstAt_9 cii_1 ?_
  refine K_isub X dX6_firstAt_10 ?_
  rw [qM_sub]
  refine K_istore_n X (ls' := [(3, _), (2, _), (0, _), (1, _)]) dX6_firstAt_11 rfl (by decide) rfl ?_
  have loop : ∀ (i : Nat) (f : Option Nat), i ≤ N 2 → qFst N pl i f = qFst N pl (N 2) none → K pg l e (rM 1 22) s m args below meth c Q D b 4 0 0 shF (wN σ N) 12 [(0, rf b 190), (1, .int (nI pl)), (2, .int (qO f)), (3, .int (qM i))] [] := by
    intro i
    induction i with
    | zero =>
      intro f hi hg
      refine K_iload_n X 3 dX6_firstAt_12 rfl rfl ?_
      refine K_if_lt (tgt := 38) X dX6_firstAt_13 (by decide) (fun c13 => ?_) (fun c13 => ?_)
      · refine K_iload_n X 2 dX6_firstAt_38 rfl rfl ?_
        exact K_iret X hQ dX6_firstAt_39 (⟨by rw [← hg]; rfl, rfl⟩)
      · exact absurd (show (-1 : Int32) < 0 from by decide) c13
    | succ i ih =>
      intro f hi hg
      refine K_iload_n X 3 dX6_firstAt_12 rfl rfl ?_
      refine K_if_lt (tgt := 38) X dX6_firstAt_13 (by decide) (fun c13 => ?_) (fun c13 => ?_)
      · exact absurd c13 (nI_pos (by omega))
      · refine K_aload_n X 0 dX6_firstAt_16 rfl rfl ?_
        refine K_iload_n X 3 dX6_firstAt_17 rfl rfl ?_
        refine K_iconst X dX6_firstAt_18 cii_4 ?_
        refine K_callVE X (c_X6_part l D b _ _ _ _ hP (by omega)) my_X6_part mv_X6_part wm_X6_30 sf_m rfl ⟨rfl, rfl, Nat.le_of_ble_eq_true rfl, Nat.le_of_ble_eq_true rfl, Nat.le_of_ble_eq_true rfl, Nat.le_of_ble_eq_true rfl⟩ rfl rfl (Nat.le_of_ble_eq_true rfl) dX6_firstAt_19 ?_
        refine K_iload_n X 1 dX6_firstAt_22 rfl rfl ?_
        refine K_icmpN_ne (tgt := 30) X dX6_firstAt_23 (by decide) (by have := qi_l4 hI (show i < N 2 from by omega); omega) (by omega) (fun c23 => ?_) (fun c23 => ?_)
        · refine K_iload_n X 2 dX6_firstAt_30 rfl rfl ?_
          refine K_istore_n X (ls' := [(2, _), (0, _), (1, _), (3, _)]) dX6_firstAt_31 rfl (by decide) rfl ?_
          refine K_iinc X 3 (ls' := [(3, _), (2, _), (0, _), (1, _)]) dX6_firstAt_32 rfl (inc_mq _) (by decide) rfl ?_
          refine K_goto (tgt := 12) X dX6_firstAt_35 (by decide) ?_
          exact K_sub [2, 3, 1, 0] rfl (ih f (by omega) (by rw [← hg]; exact (congrArg (qFst N pl i) (if_neg c23)).symm))
        · refine K_iload_n X 3 dX6_firstAt_26 rfl rfl ?_
          refine K_goto (tgt := 31) X dX6_firstAt_27 (by decide) ?_
          refine K_istore_n X (ls' := [(2, _), (0, _), (1, _), (3, _)]) dX6_firstAt_31 rfl (by decide) rfl ?_
          refine K_iinc X 3 (ls' := [(3, _), (2, _), (0, _), (1, _)]) dX6_firstAt_32 rfl (inc_mq _) (by decide) rfl ?_
          refine K_goto (tgt := 12) X dX6_firstAt_35 (by decide) ?_
          exact K_sub [2, 3, 1, 0] rfl (ih (some i) (by omega) (by rw [← hg]; exact (congrArg (qFst N pl i) (if_pos c23)).symm))
  exact K_sub [2, 3, 1, 0] rfl (loop (N 2) none (Nat.le_refl _) rfl)

set_option maxHeartbeats 4000000 in
set_option maxRecDepth 100000 in
theorem c_X6_priceOf (l : Launch) (D : KD) (b : Nat) (σ : KS) (N : Nat → Nat) (k : Nat) (hP : PF σ.2.2) (hI : qIr N) (hk : k < N 2) : Ct l D b yX6_priceOf cX6_priceOf 2 (some .int) (rM 1 24) 0 0 [rf b 190, .int (nI k)] shF (wN σ N) shF (pE (some (.int (nI (qPrice N k)))) (wN σ N)) := by
  have h2 := qi_2 hI
  refine Ct.of (ls := [(0, rf b 190), (1, .int (nI k))]) (by decide) (Nat.le_of_ble_eq_true rfl) rfl ?_
  intro pg e s m args below meth c Q hQ X hnm
  refine K_aload_n X 0 dX6_priceOf_0 rfl rfl ?_
  refine K_aload_n X 0 dX6_priceOf_1 rfl rfl ?_
  refine K_iload_n X 1 dX6_priceOf_2 rfl rfl ?_
  refine K_iconst X dX6_priceOf_3 cii_1 ?_
  refine K_callVE X (c_X6_part l D b _ _ _ _ hP (by omega)) my_X6_part mv_X6_part wm_X6_30 sf_m rfl ⟨rfl, rfl, Nat.le_of_ble_eq_true rfl, Nat.le_of_ble_eq_true rfl, Nat.le_of_ble_eq_true rfl, Nat.le_of_ble_eq_true rfl⟩ rfl rfl (Nat.le_of_ble_eq_true rfl) dX6_priceOf_4 ?_
  refine K_aload_n X 0 dX6_priceOf_7 rfl rfl ?_
  refine K_iload_n X 1 dX6_priceOf_8 rfl rfl ?_
  refine K_iconst X dX6_priceOf_9 cii_3 ?_
  refine K_callVE X (c_X6_part l D b _ _ _ _ hP (by omega)) my_X6_part mv_X6_part wm_X6_30 sf_m rfl ⟨rfl, rfl, Nat.le_of_ble_eq_true rfl, Nat.le_of_ble_eq_true rfl, Nat.le_of_ble_eq_true rfl, Nat.le_of_ble_eq_true rfl⟩ rfl rfl (Nat.le_of_ble_eq_true rfl) dX6_priceOf_10 ?_
  refine K_aload_n X 0 dX6_priceOf_13 rfl rfl ?_
  refine K_get X 0 kFd6 rfl (by decide) sf_m wf_X6_7 rfl (v := rf b (191)) (kv_a (pf_m0 hP)) dX6_priceOf_14 ?_
  refine K_iconst X dX6_priceOf_17 cii_1 ?_
  refine K_iald X _ sf_ms rfl (by omega) (by decide) (wN_at _) dX6_priceOf_18 ?_
  refine K_callVE X (c_X6_priceWith l D b _ _ _ _ _ hP (qi_l1 hI hk) (qi_l3 hI hk) (by have := qi_1 hI; omega) (qi_p hI (qi_l1 hI hk)) (qi_t hI (by have := qi_1 hI; omega))) my_X6_priceWith mv_X6_priceWith wm_X6_42 sf_m rfl ⟨rfl, rfl, Nat.le_of_ble_eq_true rfl, Nat.le_of_ble_eq_true rfl, Nat.le_of_ble_eq_true rfl, Nat.le_of_ble_eq_true rfl⟩ rfl rfl (Nat.le_of_ble_eq_true rfl) dX6_priceOf_19 ?_
  exact K_iret X hQ dX6_priceOf_22 (⟨rfl, rfl⟩)

set_option maxHeartbeats 4000000 in
set_option maxRecDepth 100000 in
theorem c_X6_allGrams (l : Launch) (D : KD) (b : Nat) (σ : KS) (N : Nat → Nat) (hP : PF σ.2.2) (hI : qIr N) : Ct l D b yX6_allGrams cX6_allGrams 3 (some .int) (rM 1 22) 0 0 [rf b 190] shF (wN σ N) shF (pE (some (.int (nI (qSum N (N 2))))) (wN σ N)) := by
  have h2 := qi_2 hI
  refine Ct.of (ls := [(0, rf b 190)]) (by decide) (Nat.le_of_ble_eq_true rfl) rfl ?_
  intro pg e s m args below meth c Q hQ X hnm
  refine K_iconst X dX6_allGrams_0 cii_0 ?_
  refine K_istore_n X (ls' := [(1, _), (0, _)]) dX6_allGrams_1 rfl (by decide) rfl ?_
  refine K_iconst X dX6_allGrams_2 cii_0 ?_
  refine K_istore_n X (ls' := [(2, _), (1, _), (0, _)]) dX6_allGrams_3 rfl (by decide) rfl ?_
  have loop : ∀ i : Nat, i ≤ N 2 → K pg l e (rM 1 22) s m args below meth c Q D b 3 0 0 shF (wN σ N) 4 [(0, rf b 190), (1, .int (nI (qSum N i))), (2, .int (nI i))] [] := by
    refine kup (fun i hi ih => ?_)
    refine K_iload_n X 2 dX6_allGrams_4 rfl rfl ?_
    refine K_aload_n X 0 dX6_allGrams_5 rfl rfl ?_
    refine K_get X 0 kFd6 rfl (by decide) sf_m wf_X6_7 rfl (v := rf b (191)) (kv_a (pf_m0 hP)) dX6_allGrams_6 ?_
    refine K_iconst X dX6_allGrams_9 cii_2 ?_
    refine K_iald X _ sf_ms rfl (by omega) (by decide) (wN_at _) dX6_allGrams_10 ?_
    refine K_icmpN_ge (tgt := 29) X dX6_allGrams_11 (by decide) (by omega) (by omega) (fun c11 => ?_) (fun c11 => ?_)
    · refine K_iload_n X 1 dX6_allGrams_29 rfl rfl ?_
      exact K_iret X hQ dX6_allGrams_30 (⟨by rw [show i = N 2 from by omega], rfl⟩)
    · refine K_iload_n X 1 dX6_allGrams_14 rfl rfl ?_
      refine K_aload_n X 0 dX6_allGrams_15 rfl rfl ?_
      refine K_iload_n X 2 dX6_allGrams_16 rfl rfl ?_
      refine K_iconst X dX6_allGrams_17 cii_2 ?_
      refine K_callVE X (c_X6_part l D b _ _ _ _ hP (by omega)) my_X6_part mv_X6_part wm_X6_30 sf_m rfl ⟨rfl, rfl, Nat.le_of_ble_eq_true rfl, Nat.le_of_ble_eq_true rfl, Nat.le_of_ble_eq_true rfl, Nat.le_of_ble_eq_true rfl⟩ rfl rfl (Nat.le_of_ble_eq_true rfl) dX6_allGrams_18 ?_
      refine K_iaddN X dX6_allGrams_21 ?_
      refine K_istore_n X (ls' := [(1, _), (0, _), (2, _)]) dX6_allGrams_22 rfl (by decide) rfl ?_
      refine K_iinc X 2 (ls' := [(2, _), (1, _), (0, _)]) dX6_allGrams_23 rfl (inc_1 _) (by decide) rfl ?_
      refine K_goto (tgt := 4) X dX6_allGrams_26 (by decide) ?_
      exact K_sub [2, 1, 0] rfl (ih (by omega))
  exact K_sub [2, 1, 0] rfl (loop 0 (Nat.zero_le _))

set_option maxHeartbeats 4000000 in
set_option maxRecDepth 100000 in
theorem c_X6_gramsAt (l : Launch) (D : KD) (b : Nat) (σ : KS) (N : Nat → Nat) (pl : Nat) (hP : PF σ.2.2) (hI : qIr N) (hpl : pl < 11) : Ct l D b yX6_gramsAt cX6_gramsAt 4 (some .int) (rM 1 22) 0 0 [rf b 190, .int (nI pl)] shF (wN σ N) shF (pE (some (.int (nI (qGAt N pl (N 2))))) (wN σ N)) := by
  have h2 := qi_2 hI
  refine Ct.of (ls := [(0, rf b 190), (1, .int (nI pl))]) (by decide) (Nat.le_of_ble_eq_true rfl) rfl ?_
  intro pg e s m args below meth c Q hQ X hnm
  refine K_iconst X dX6_gramsAt_0 cii_0 ?_
  refine K_istore_n X (ls' := [(2, _), (0, _), (1, _)]) dX6_gramsAt_1 rfl (by decide) rfl ?_
  refine K_iconst X dX6_gramsAt_2 cii_0 ?_
  refine K_istore_n X (ls' := [(3, _), (2, _), (0, _), (1, _)]) dX6_gramsAt_3 rfl (by decide) rfl ?_
  have loop : ∀ i : Nat, i ≤ N 2 → K pg l e (rM 1 22) s m args below meth c Q D b 4 0 0 shF (wN σ N) 4 [(0, rf b 190), (1, .int (nI pl)), (2, .int (nI (qGAt N pl i))), (3, .int (nI i))] [] := by
    refine kup (fun i hi ih => ?_)
    refine K_iload_n X 3 dX6_gramsAt_4 rfl rfl ?_
    refine K_aload_n X 0 dX6_gramsAt_5 rfl rfl ?_
    refine K_get X 0 kFd6 rfl (by decide) sf_m wf_X6_7 rfl (v := rf b (191)) (kv_a (pf_m0 hP)) dX6_gramsAt_6 ?_
    refine K_iconst X dX6_gramsAt_9 cii_2 ?_
    refine K_iald X _ sf_ms rfl (by omega) (by decide) (wN_at _) dX6_gramsAt_10 ?_
    refine K_icmpN_ge (tgt := 43) X dX6_gramsAt_11 (by decide) (by omega) (by omega) (fun c11 => ?_) (fun c11 => ?_)
    · refine K_iload_n X 2 dX6_gramsAt_43 rfl rfl ?_
      exact K_iret X hQ dX6_gramsAt_44 (⟨by rw [show i = N 2 from by omega], rfl⟩)
    · refine K_iload_n X 2 dX6_gramsAt_14 rfl rfl ?_
      refine K_aload_n X 0 dX6_gramsAt_15 rfl rfl ?_
      refine K_iload_n X 3 dX6_gramsAt_16 rfl rfl ?_
      refine K_iconst X dX6_gramsAt_17 cii_4 ?_
      refine K_callVE X (c_X6_part l D b _ _ _ _ hP (by omega)) my_X6_part mv_X6_part wm_X6_30 sf_m rfl ⟨rfl, rfl, Nat.le_of_ble_eq_true rfl, Nat.le_of_ble_eq_true rfl, Nat.le_of_ble_eq_true rfl, Nat.le_of_ble_eq_true rfl⟩ rfl rfl (Nat.le_of_ble_eq_true rfl) dX6_gramsAt_18 ?_
      refine K_iload_n X 1 dX6_gramsAt_21 rfl rfl ?_
      refine K_icmpN_ne (tgt := 34) X dX6_gramsAt_22 (by decide) (by have := qi_l4 hI (show i < N 2 from by omega); omega) (by omega) (fun c22 => ?_) (fun c22 => ?_)
      · refine K_iconst X dX6_gramsAt_34 cii_0 ?_
        refine K_iaddN X dX6_gramsAt_35 ?_
        refine K_istore_n X (ls' := [(2, _), (0, _), (1, _), (3, _)]) dX6_gramsAt_36 rfl (by decide) rfl ?_
        refine K_iinc X 3 (ls' := [(3, _), (2, _), (0, _), (1, _)]) dX6_gramsAt_37 rfl (inc_1 _) (by decide) rfl ?_
        refine K_goto (tgt := 4) X dX6_gramsAt_40 (by decide) ?_
        rw [show qGAt N pl (i + 1) = qGAt N pl i + 0 from congrArg (qGAt N pl i + ·) (if_neg c22)] at ih
        exact K_sub [2, 3, 1, 0] rfl (ih (by omega))
      · refine K_aload_n X 0 dX6_gramsAt_25 rfl rfl ?_
        refine K_iload_n X 3 dX6_gramsAt_26 rfl rfl ?_
        refine K_iconst X dX6_gramsAt_27 cii_2 ?_
        refine K_callVE X (c_X6_part l D b _ _ _ _ hP (by omega)) my_X6_part mv_X6_part wm_X6_30 sf_m rfl ⟨rfl, rfl, Nat.le_of_ble_eq_true rfl, Nat.le_of_ble_eq_true rfl, Nat.le_of_ble_eq_true rfl, Nat.le_of_ble_eq_true rfl⟩ rfl rfl (Nat.le_of_ble_eq_true rfl) dX6_gramsAt_28 ?_
        refine K_goto (tgt := 35) X dX6_gramsAt_31 (by decide) ?_
        refine K_iaddN X dX6_gramsAt_35 ?_
        refine K_istore_n X (ls' := [(2, _), (0, _), (1, _), (3, _)]) dX6_gramsAt_36 rfl (by decide) rfl ?_
        refine K_iinc X 3 (ls' := [(3, _), (2, _), (0, _), (1, _)]) dX6_gramsAt_37 rfl (inc_1 _) (by decide) rfl ?_
        refine K_goto (tgt := 4) X dX6_gramsAt_40 (by decide) ?_
        rw [show qGAt N pl (i + 1) = qGAt N pl i + qL N i 2 from congrArg (qGAt N pl i + ·) (if_pos c22)] at ih
        exact K_sub [2, 3, 1, 0] rfl (ih (by omega))
  exact K_sub [2, 3, 1, 0] rfl (loop 0 (Nat.zero_le _))

set_option maxHeartbeats 4000000 in
set_option maxRecDepth 100000 in
theorem c_X6_gramsOfKind (l : Launch) (D : KD) (b : Nat) (σ : KS) (N : Nat → Nat) (kd : Nat) (hP : PF σ.2.2) (hI : qIr N) (hkd : kd < 6) : Ct l D b yX6_gramsOfKind cX6_gramsOfKind 4 (some .int) (rM 1 22) 0 0 [rf b 190, .int (nI kd)] shF (wN σ N) shF (pE (some (.int (nI (qGKd N kd (N 2))))) (wN σ N)) := by
  have h2 := qi_2 hI
  refine Ct.of (ls := [(0, rf b 190), (1, .int (nI kd))]) (by decide) (Nat.le_of_ble_eq_true rfl) rfl ?_
  intro pg e s m args below meth c Q hQ X hnm
  refine K_iconst X dX6_gramsOfKind_0 cii_0 ?_
  refine K_istore_n X (ls' := [(2, _), (0, _), (1, _)]) dX6_gramsOfKind_1 rfl (by decide) rfl ?_
  refine K_iconst X dX6_gramsOfKind_2 cii_0 ?_
  refine K_istore_n X (ls' := [(3, _), (2, _), (0, _), (1, _)]) dX6_gramsOfKind_3 rfl (by decide) rfl ?_
  have loop : ∀ i : Nat, i ≤ N 2 → K pg l e (rM 1 22) s m args below meth c Q D b 4 0 0 shF (wN σ N) 4 [(0, rf b 190), (1, .int (nI kd)), (2, .int (nI (qGKd N kd i))), (3, .int (nI i))] [] := by
    refine kup (fun i hi ih => ?_)
    refine K_iload_n X 3 dX6_gramsOfKind_4 rfl rfl ?_
    refine K_aload_n X 0 dX6_gramsOfKind_5 rfl rfl ?_
    refine K_get X 0 kFd6 rfl (by decide) sf_m wf_X6_7 rfl (v := rf b (191)) (kv_a (pf_m0 hP)) dX6_gramsOfKind_6 ?_
    refine K_iconst X dX6_gramsOfKind_9 cii_2 ?_
    refine K_iald X _ sf_ms rfl (by omega) (by decide) (wN_at _) dX6_gramsOfKind_10 ?_
    refine K_icmpN_ge (tgt := 43) X dX6_gramsOfKind_11 (by decide) (by omega) (by omega) (fun c11 => ?_) (fun c11 => ?_)
    · refine K_iload_n X 2 dX6_gramsOfKind_43 rfl rfl ?_
      exact K_iret X hQ dX6_gramsOfKind_44 (⟨by rw [show i = N 2 from by omega], rfl⟩)
    · refine K_iload_n X 2 dX6_gramsOfKind_14 rfl rfl ?_
      refine K_aload_n X 0 dX6_gramsOfKind_15 rfl rfl ?_
      refine K_iload_n X 3 dX6_gramsOfKind_16 rfl rfl ?_
      refine K_iconst X dX6_gramsOfKind_17 cii_1 ?_
      refine K_callVE X (c_X6_part l D b _ _ _ _ hP (by omega)) my_X6_part mv_X6_part wm_X6_30 sf_m rfl ⟨rfl, rfl, Nat.le_of_ble_eq_true rfl, Nat.le_of_ble_eq_true rfl, Nat.le_of_ble_eq_true rfl, Nat.le_of_ble_eq_true rfl⟩ rfl rfl (Nat.le_of_ble_eq_true rfl) dX6_gramsOfKind_18 ?_
      refine K_iload_n X 1 dX6_gramsOfKind_21 rfl rfl ?_
      refine K_icmpN_ne (tgt := 34) X dX6_gramsOfKind_22 (by decide) (by have := qi_l1 hI (show i < N 2 from by omega); omega) (by omega) (fun c22 => ?_) (fun c22 => ?_)
      · refine K_iconst X dX6_gramsOfKind_34 cii_0 ?_
        refine K_iaddN X dX6_gramsOfKind_35 ?_
        refine K_istore_n X (ls' := [(2, _), (0, _), (1, _), (3, _)]) dX6_gramsOfKind_36 rfl (by decide) rfl ?_
        refine K_iinc X 3 (ls' := [(3, _), (2, _), (0, _), (1, _)]) dX6_gramsOfKind_37 rfl (inc_1 _) (by decide) rfl ?_
        refine K_goto (tgt := 4) X dX6_gramsOfKind_40 (by decide) ?_
        rw [show qGKd N kd (i + 1) = qGKd N kd i + 0 from congrArg (qGKd N kd i + ·) (if_neg c22)] at ih
        exact K_sub [2, 3, 1, 0] rfl (ih (by omega))
      · refine K_aload_n X 0 dX6_gramsOfKind_25 rfl rfl ?_
        refine K_iload_n X 3 dX6_gramsOfKind_26 rfl rfl ?_
        refine K_iconst X dX6_gramsOfKind_27 cii_2 ?_
        refine K_callVE X (c_X6_part l D b _ _ _ _ hP (by omega)) my_X6_part mv_X6_part wm_X6_30 sf_m rfl ⟨rfl, rfl, Nat.le_of_ble_eq_true rfl, Nat.le_of_ble_eq_true rfl, Nat.le_of_ble_eq_true rfl, Nat.le_of_ble_eq_true rfl⟩ rfl rfl (Nat.le_of_ble_eq_true rfl) dX6_gramsOfKind_28 ?_
        refine K_goto (tgt := 35) X dX6_gramsOfKind_31 (by decide) ?_
        refine K_iaddN X dX6_gramsOfKind_35 ?_
        refine K_istore_n X (ls' := [(2, _), (0, _), (1, _), (3, _)]) dX6_gramsOfKind_36 rfl (by decide) rfl ?_
        refine K_iinc X 3 (ls' := [(3, _), (2, _), (0, _), (1, _)]) dX6_gramsOfKind_37 rfl (inc_1 _) (by decide) rfl ?_
        refine K_goto (tgt := 4) X dX6_gramsOfKind_40 (by decide) ?_
        rw [show qGKd N kd (i + 1) = qGKd N kd i + qL N i 2 from congrArg (qGKd N kd i + ·) (if_pos c22)] at ih
        exact K_sub [2, 3, 1, 0] rfl (ih (by omega))
  exact K_sub [2, 3, 1, 0] rfl (loop 0 (Nat.zero_le _))

set_option maxHeartbeats 4000000 in
set_option maxRecDepth 100000 in
theorem c_X6_freshest (l : Launch) (D : KD) (b : Nat) (σ : KS) (N : Nat → Nat) (kd : Nat) (hP : PF σ.2.2) (hI : qIr N) (hkd : kd < 6) : Ct l D b yX6_freshest cX6_freshest 4 (some .int) (rM 1 22) 0 0 [rf b 190, .int (nI kd)] shF (wN σ N) shF (pE (some (.int (qNum N (qFr N kd (N 2))))) (wN σ N)) := by
  have h2 := qi_2 hI
  refine Ct.of (ls := [(0, rf b 190), (1, .int (nI kd))]) (by decide) (Nat.le_of_ble_eq_true rfl) rfl ?_
  intro pg e s m args below meth c Q hQ X hnm
  refine K_bipush X dX6_freshest_0 cib_m6 ?_
  refine K_istore_n X (ls' := [(2, _), (0, _), (1, _)]) dX6_freshest_2 rfl (by decide) rfl ?_
  refine K_iconst X dX6_freshest_3 cii_0 ?_
  refine K_istore_n X (ls' := [(3, _), (2, _), (0, _), (1, _)]) dX6_freshest_4 rfl (by decide) rfl ?_
  have loop : ∀ i : Nat, i ≤ N 2 → K pg l e (rM 1 22) s m args below meth c Q D b 4 0 0 shF (wN σ N) 5 [(0, rf b 190), (1, .int (nI kd)), (2, .int (qO (qFr N kd i))), (3, .int (nI i))] [] := by
    refine kup (fun i hi ih => ?_)
    refine K_iload_n X 3 dX6_freshest_5 rfl rfl ?_
    refine K_aload_n X 0 dX6_freshest_6 rfl rfl ?_
    refine K_get X 0 kFd6 rfl (by decide) sf_m wf_X6_7 rfl (v := rf b (191)) (kv_a (pf_m0 hP)) dX6_freshest_7 ?_
    refine K_iconst X dX6_freshest_10 cii_2 ?_
    refine K_iald X _ sf_ms rfl (by omega) (by decide) (wN_at _) dX6_freshest_11 ?_
    refine K_icmpN_ge (tgt := 58) X dX6_freshest_12 (by decide) (by omega) (by omega) (fun c12 => ?_) (fun c12 => ?_)
    · refine K_iload_n X 2 dX6_freshest_58 rfl rfl ?_
      refine K_bipush X dX6_freshest_59 cib_m6 ?_
      refine K_icmp_ne (tgt := 69) X dX6_freshest_61 (by decide) (fun c61 => ?_) (fun c61 => ?_)
      · have hi2 : i = N 2 := by omega
        rw [hi2] at c61
        obtain ⟨j, hj⟩ := qO_ex c61
        have hjl := qFr_lt hj
        rw [hi2, hj]
        refine K_aload_n X 0 dX6_freshest_69 rfl rfl ?_
        refine K_iload_n X 2 dX6_freshest_70 rfl rfl ?_
        refine K_iconst X dX6_freshest_71 cii_0 ?_
        refine K_callVE X (c_X6_part l D b _ _ _ _ hP (by omega)) my_X6_part mv_X6_part wm_X6_30 sf_m rfl ⟨rfl, rfl, Nat.le_of_ble_eq_true rfl, Nat.le_of_ble_eq_true rfl, Nat.le_of_ble_eq_true rfl, Nat.le_of_ble_eq_true rfl⟩ rfl rfl (Nat.le_of_ble_eq_true rfl) dX6_freshest_72 ?_
        exact K_iret X hQ dX6_freshest_75 (⟨by rw [hj]; rfl, rfl⟩)
      · refine K_bipush X dX6_freshest_64 cib_m6 ?_
        refine K_goto (tgt := 75) X dX6_freshest_66 (by decide) ?_
        exact K_iret X hQ dX6_freshest_75 (⟨by rw [show i = N 2 from by omega] at c61; rw [(qO_n (fun j hj => by have := qFr_lt hj; omega)).mp c61]; rfl, rfl⟩)
    · refine K_aload_n X 0 dX6_freshest_15 rfl rfl ?_
      refine K_iload_n X 3 dX6_freshest_16 rfl rfl ?_
      refine K_iconst X dX6_freshest_17 cii_1 ?_
      refine K_callVE X (c_X6_part l D b _ _ _ _ hP (by omega)) my_X6_part mv_X6_part wm_X6_30 sf_m rfl ⟨rfl, rfl, Nat.le_of_ble_eq_true rfl, Nat.le_of_ble_eq_true rfl, Nat.le_of_ble_eq_true rfl, Nat.le_of_ble_eq_true rfl⟩ rfl rfl (Nat.le_of_ble_eq_true rfl) dX6_freshest_18 ?_
      refine K_iload_n X 1 dX6_freshest_21 rfl rfl ?_
      refine K_icmpN_ne (tgt := 50) X dX6_freshest_22 (by decide) (by have := qi_l1 hI (show i < N 2 from by omega); omega) (by omega) (fun c22 => ?_) (fun c22 => ?_)
      · refine K_iload_n X 2 dX6_freshest_50 rfl rfl ?_
        refine K_istore_n X (ls' := [(2, _), (0, _), (1, _), (3, _)]) dX6_freshest_51 rfl (by decide) rfl ?_
        refine K_iinc X 3 (ls' := [(3, _), (2, _), (0, _), (1, _)]) dX6_freshest_52 rfl (inc_1 _) (by decide) rfl ?_
        refine K_goto (tgt := 5) X dX6_freshest_55 (by decide) ?_
        rw [show qFr N kd (i + 1) = qFr N kd i from if_neg (fun q => c22 q.1)] at ih
        exact K_sub [2, 3, 1, 0] rfl (ih (by omega))
      · refine K_iload_n X 2 dX6_freshest_25 rfl rfl ?_
        refine K_bipush X dX6_freshest_26 cib_m6 ?_
        refine K_icmp_eq (tgt := 46) X dX6_freshest_28 (by decide) (fun c28 => ?_) (fun c28 => ?_)
        · refine K_iload_n X 3 dX6_freshest_46 rfl rfl ?_
          refine K_goto (tgt := 51) X dX6_freshest_47 (by decide) ?_
          refine K_istore_n X (ls' := [(2, _), (0, _), (1, _), (3, _)]) dX6_freshest_51 rfl (by decide) rfl ?_
          refine K_iinc X 3 (ls' := [(3, _), (2, _), (0, _), (1, _)]) dX6_freshest_52 rfl (inc_1 _) (by decide) rfl ?_
          refine K_goto (tgt := 5) X dX6_freshest_55 (by decide) ?_
          have hn : qFr N kd i = none := (qO_n (fun j hj => by have := qFr_lt hj; omega)).mp c28
          rw [show qFr N kd (i + 1) = some i from if_pos ⟨c22, by rw [hn]; rfl⟩] at ih
          exact K_sub [2, 3, 1, 0] rfl (ih (by omega))
        · obtain ⟨j, hj⟩ := qO_ex c28
          have hjl := qFr_lt hj
          rw [hj]
          refine K_aload_n X 0 dX6_freshest_31 rfl rfl ?_
          refine K_iload_n X 3 dX6_freshest_32 rfl rfl ?_
          refine K_iconst X dX6_freshest_33 cii_3 ?_
          refine K_callVE X (c_X6_part l D b _ _ _ _ hP (by omega)) my_X6_part mv_X6_part wm_X6_30 sf_m rfl ⟨rfl, rfl, Nat.le_of_ble_eq_true rfl, Nat.le_of_ble_eq_true rfl, Nat.le_of_ble_eq_true rfl, Nat.le_of_ble_eq_true rfl⟩ rfl rfl (Nat.le_of_ble_eq_true rfl) dX6_freshest_34 ?_
          refine K_aload_n X 0 dX6_freshest_37 rfl rfl ?_
          refine K_iload_n X 2 dX6_freshest_38 rfl rfl ?_
          refine K_iconst X dX6_freshest_39 cii_3 ?_
          refine K_callVE X (c_X6_part l D b _ _ _ _ hP (by omega)) my_X6_part mv_X6_part wm_X6_30 sf_m rfl ⟨rfl, rfl, Nat.le_of_ble_eq_true rfl, Nat.le_of_ble_eq_true rfl, Nat.le_of_ble_eq_true rfl, Nat.le_of_ble_eq_true rfl⟩ rfl rfl (Nat.le_of_ble_eq_true rfl) dX6_freshest_40 ?_
          refine K_icmpN_le (tgt := 50) X dX6_freshest_43 (by decide) (by have := qi_l3 hI (show i < N 2 from by omega); omega) (by have := qi_l3 hI (show j < N 2 from by omega); omega) (fun c43 => ?_) (fun c43 => ?_)
          · refine K_iload_n X 2 dX6_freshest_50 rfl rfl ?_
            refine K_istore_n X (ls' := [(2, _), (0, _), (1, _), (3, _)]) dX6_freshest_51 rfl (by decide) rfl ?_
            refine K_iinc X 3 (ls' := [(3, _), (2, _), (0, _), (1, _)]) dX6_freshest_52 rfl (inc_1 _) (by decide) rfl ?_
            refine K_goto (tgt := 5) X dX6_freshest_55 (by decide) ?_
            rw [show qFr N kd (i + 1) = some j from (if_neg (fun q => by have h := q.2; rw [hj] at h; exact absurd (of_decide_eq_true h) (by omega))).trans hj] at ih
            exact K_sub [2, 3, 1, 0] rfl (ih (by omega))
          · refine K_iload_n X 3 dX6_freshest_46 rfl rfl ?_
            refine K_goto (tgt := 51) X dX6_freshest_47 (by decide) ?_
            refine K_istore_n X (ls' := [(2, _), (0, _), (1, _), (3, _)]) dX6_freshest_51 rfl (by decide) rfl ?_
            refine K_iinc X 3 (ls' := [(3, _), (2, _), (0, _), (1, _)]) dX6_freshest_52 rfl (inc_1 _) (by decide) rfl ?_
            refine K_goto (tgt := 5) X dX6_freshest_55 (by decide) ?_
            rw [show qFr N kd (i + 1) = some i from if_pos ⟨c22, by rw [hj]; exact decide_eq_true (by omega)⟩] at ih
            exact K_sub [2, 3, 1, 0] rfl (ih (by omega))
  exact K_sub [2, 3, 1, 0] rfl (loop 0 (Nat.zero_le _))

set_option maxHeartbeats 4000000 in
set_option maxRecDepth 100000 in
theorem c_X6_numberAt (l : Launch) (D : KD) (b : Nat) (σ : KS) (N : Nat → Nat) (pl : Nat) (hP : PF σ.2.2) (hI : qIr N) (hpl : pl < 11) : Ct l D b yX6_numberAt cX6_numberAt 2 (some .int) (rM 2 45) 0 0 [rf b 190, .int (nI pl)] shF (wN σ N) shF (pE (some (.int (qNum N (qFst N pl (N 2) none)))) (wN σ N)) := by
  have h2 := qi_2 hI
  refine Ct.of (ls := [(0, rf b 190), (1, .int (nI pl))]) (by decide) (Nat.le_of_ble_eq_true rfl) rfl ?_
  intro pg e s m args below meth c Q hQ X hnm
  refine K_aload_n X 0 dX6_numberAt_0 rfl rfl ?_
  refine K_iload_n X 1 dX6_numberAt_1 rfl rfl ?_
  refine K_callVE X (c_X6_firstAt l D b _ _ _ hP hI (by omega)) my_X6_firstAt mv_X6_firstAt wm_X6_119 sf_m rfl ⟨rfl, rfl, Nat.le_of_ble_eq_true rfl, Nat.le_of_ble_eq_true rfl, Nat.le_of_ble_eq_true rfl, Nat.le_of_ble_eq_true rfl⟩ rfl rfl (Nat.le_of_ble_eq_true rfl) dX6_numberAt_2 ?_
  refine K_bipush X dX6_numberAt_5 cib_m6 ?_
  refine K_icmp_ne (tgt := 15) X dX6_numberAt_7 (by decide) (fun c7 => ?_) (fun c7 => ?_)
  · obtain ⟨j, hj⟩ := qO_ex c7
    have hjl : j < N 2 := qFst_lt hj (Nat.le_refl _) (fun q hq => by cases hq)
    refine K_aload_n X 0 dX6_numberAt_15 rfl rfl ?_
    refine K_aload_n X 0 dX6_numberAt_16 rfl rfl ?_
    refine K_iload_n X 1 dX6_numberAt_17 rfl rfl ?_
    refine K_callVE X (c_X6_firstAt l D b _ _ _ hP hI (by omega)) my_X6_firstAt mv_X6_firstAt wm_X6_119 sf_m rfl ⟨rfl, rfl, Nat.le_of_ble_eq_true rfl, Nat.le_of_ble_eq_true rfl, Nat.le_of_ble_eq_true rfl, Nat.le_of_ble_eq_true rfl⟩ rfl rfl (Nat.le_of_ble_eq_true rfl) dX6_numberAt_18 ?_
    rw [hj]
    refine K_iconst X dX6_numberAt_21 cii_0 ?_
    refine K_callVE X (c_X6_part l D b _ _ _ _ hP (by omega)) my_X6_part mv_X6_part wm_X6_30 sf_m rfl ⟨rfl, rfl, Nat.le_of_ble_eq_true rfl, Nat.le_of_ble_eq_true rfl, Nat.le_of_ble_eq_true rfl, Nat.le_of_ble_eq_true rfl⟩ rfl rfl (Nat.le_of_ble_eq_true rfl) dX6_numberAt_22 ?_
    exact K_iret X hQ dX6_numberAt_25 (⟨by rw [hj]; rfl, rfl⟩)
  · refine K_bipush X dX6_numberAt_10 cib_m6 ?_
    refine K_goto (tgt := 25) X dX6_numberAt_12 (by decide) ?_
    exact K_iret X hQ dX6_numberAt_25 (⟨by rw [(qO_n (fun j hj => by have : j < N 2 := qFst_lt hj (Nat.le_refl _) (fun q hq => by cases hq); omega)).mp c7]; rfl, rfl⟩)
