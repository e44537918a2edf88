/-! THE CLASS: sums, prices, ice, the next lot -/
set_option maxHeartbeats 4000000 in
set_option maxRecDepth 100000 in
theorem c_X4_lotsInBox (l : Launch) (D : KD) (b : Nat) {sh : List KSh} (hsh : shP sh) (σ : KS) (o : Nat) (π N : Nat → Nat) (bx : Nat) (hP : PF σ.2.2) (ho : o ∈ shL) (hR : Rs σ o π N) (hI : qIr N) (h1 : bx < 6) : Ct l D b yX4_lotsInBox cX4_lotsInBox 4 (some .int) (rM 0 0) 0 0 [rf b o, .int (nI bx)] sh σ sh (pE (some (.int (nI (qCnt N bx (N 2))))) σ) := by
  have h2 := qi_2 hI
  refine Ct.of (ls := [(0, rf b o), (1, .int (nI bx))]) (by decide) (Nat.le_of_ble_eq_true rfl) rfl ?_
  intro pg e s m args below meth c Q hQ X hnm
  refine K_iconst X dX4_lotsInBox_0 cii_0 ?_
  refine K_istore_n X (ls' := [(2, _), (0, _), (1, _)]) dX4_lotsInBox_1 rfl (by decide) rfl ?_
  refine K_iconst X dX4_lotsInBox_2 cii_0 ?_
  refine K_istore_n X (ls' := [(3, _), (2, _), (0, _), (1, _)]) dX4_lotsInBox_3 rfl (by decide) rfl ?_
  have loop : ∀ i : Nat, i ≤ N 2 → K pg l e (rM 0 0) s m args below meth c Q D b 4 0 0 sh σ 4 [(0, rf b o), (1, .int (nI bx)), (2, .int (nI (qCnt N bx i))), (3, .int (nI i))] [] := by
    refine kup (fun i hi ih => ?_)
    refine K_iload_n X 3 dX4_lotsInBox_4 rfl rfl ?_
    refine K_aload_n X 0 dX4_lotsInBox_5 rfl rfl ?_
    refine K_get X 5 kFd4 rfl (by decide) (so_0 hsh o ho) wf_X4_50 rfl (v := .int (nI (N 2))) (congrArg Value.int (rs_i hR 5 (by decide))) dX4_lotsInBox_6 ?_
    refine K_icmpN_ge (tgt := 34) X dX4_lotsInBox_9 (by decide) (by omega) (by omega) (fun c9 => ?_) (fun c9 => ?_)
    · refine K_iload_n X 2 dX4_lotsInBox_34 rfl rfl ?_
      exact K_iret X hQ dX4_lotsInBox_35 (⟨by rw [show i = N 2 from by omega], rfl⟩)
    · refine K_aload_n X 0 dX4_lotsInBox_12 rfl rfl ?_
      refine K_get X 16 kFd4 rfl (by decide) (so_0 hsh o ho) wf_X4_36 rfl (v := rf b (o + 6)) (kv_a (ps_16 hP ho)) dX4_lotsInBox_13 ?_
      refine K_iload_n X 3 dX4_lotsInBox_16 rfl rfl ?_
      refine K_aald (z := o + 7 + π i) X _ (so_6 hsh o ho) (by decide) rfl (by omega) (by decide) (rs_r hR (by omega)) dX4_lotsInBox_17 ?_
      refine K_get X 4 kFd3 rfl (by decide) (so_l hsh ho (rs_lt hR (by omega))) wf_X4_92 rfl (v := .int (qBx (qL N i 4))) (congrArg Value.int (rs_l4 hR (by omega))) dX4_lotsInBox_18 ?_
      refine K_iload_n X 1 dX4_lotsInBox_21 rfl rfl ?_
      refine K_icmp_ne (tgt := 28) X dX4_lotsInBox_22 (by decide) (fun c22 => ?_) (fun c22 => ?_)
      · refine K_iinc X 3 (ls' := [(3, _), (0, _), (1, _), (2, _)]) dX4_lotsInBox_28 rfl (inc_1 _) (by decide) rfl ?_
        refine K_goto (tgt := 4) X dX4_lotsInBox_31 (by decide) ?_
        rw [show qCnt N bx (i + 1) = qCnt N bx i + 0 from congrArg (qCnt N bx i + ·) (if_neg (fun z => c22 ((qBx_eq (by have := qi_l4 hI (show i < N 2 from by omega); omega) (by omega)).mpr z)))] at ih
        exact K_sub [1, 2, 3, 0] rfl (ih (by omega))
      · refine K_iinc X 2 (ls' := [(2, _), (0, _), (1, _), (3, _)]) dX4_lotsInBox_25 rfl (inc_1 _) (by decide) rfl ?_
        refine K_iinc X 3 (ls' := [(3, _), (2, _), (0, _), (1, _)]) dX4_lotsInBox_28 rfl (inc_1 _) (by decide) rfl ?_
        refine K_goto (tgt := 4) X dX4_lotsInBox_31 (by decide) ?_
        rw [show qCnt N bx (i + 1) = qCnt N bx i + 1 from congrArg (qCnt N bx i + ·) (if_pos ((qBx_eq (by have := qi_l4 hI (show i < N 2 from by omega); omega) (by omega)).mp c22))] at ih
        exact K_sub [2, 3, 1, 0] rfl (ih (by omega))
  exact K_sub [2, 3, 1, 0] rfl (loop 0 (Nat.zero_le _))

set_option maxHeartbeats 4000000 in
set_option maxRecDepth 100000 in
theorem c_X4_gramsInBox (l : Launch) (D : KD) (b : Nat) {sh : List KSh} (hsh : shP sh) (σ : KS) (o : Nat) (π N : Nat → Nat) (bx : Nat) (hP : PF σ.2.2) (ho : o ∈ shL) (hR : Rs σ o π N) (hI : qIr N) (h1 : bx < 6) : Ct l D b yX4_gramsInBox cX4_gramsInBox 4 (some .int) (rM 0 0) 0 0 [rf b o, .int (nI bx)] sh σ sh (pE (some (.int (nI (qGAt N bx (N 2))))) σ) := by
  have h2 := qi_2 hI
  refine Ct.of (ls := [(0, rf b o), (1, .int (nI bx))]) (by decide) (Nat.le_of_ble_eq_true rfl) rfl ?_
  intro pg e s m args below meth c Q hQ X hnm
  refine K_iconst X dX4_gramsInBox_0 cii_0 ?_
  refine K_istore_n X (ls' := [(2, _), (0, _), (1, _)]) dX4_gramsInBox_1 rfl (by decide) rfl ?_
  refine K_iconst X dX4_gramsInBox_2 cii_0 ?_
  refine K_istore_n X (ls' := [(3, _), (2, _), (0, _), (1, _)]) dX4_gramsInBox_3 rfl (by decide) rfl ?_
  have loop : ∀ i : Nat, i ≤ N 2 → K pg l e (rM 0 0) s m args below meth c Q D b 4 0 0 sh σ 4 [(0, rf b o), (1, .int (nI bx)), (2, .int (nI (qGAt N bx i))), (3, .int (nI i))] [] := by
    refine kup (fun i hi ih => ?_)
    refine K_iload_n X 3 dX4_gramsInBox_4 rfl rfl ?_
    refine K_aload_n X 0 dX4_gramsInBox_5 rfl rfl ?_
    refine K_get X 5 kFd4 rfl (by decide) (so_0 hsh o ho) wf_X4_50 rfl (v := .int (nI (N 2))) (congrArg Value.int (rs_i hR 5 (by decide))) dX4_gramsInBox_6 ?_
    refine K_icmpN_ge (tgt := 43) X dX4_gramsInBox_9 (by decide) (by omega) (by omega) (fun c9 => ?_) (fun c9 => ?_)
    · refine K_iload_n X 2 dX4_gramsInBox_43 rfl rfl ?_
      exact K_iret X hQ dX4_gramsInBox_44 (⟨by rw [show i = N 2 from by omega], rfl⟩)
    · refine K_aload_n X 0 dX4_gramsInBox_12 rfl rfl ?_
      refine K_get X 16 kFd4 rfl (by decide) (so_0 hsh o ho) wf_X4_36 rfl (v := rf b (o + 6)) (kv_a (ps_16 hP ho)) dX4_gramsInBox_13 ?_
      refine K_iload_n X 3 dX4_gramsInBox_16 rfl rfl ?_
      refine K_aald (z := o + 7 + π i) X _ (so_6 hsh o ho) (by decide) rfl (by omega) (by decide) (rs_r hR (by omega)) dX4_gramsInBox_17 ?_
      refine K_get X 4 kFd3 rfl (by decide) (so_l hsh ho (rs_lt hR (by omega))) wf_X4_92 rfl (v := .int (qBx (qL N i 4))) (congrArg Value.int (rs_l4 hR (by omega))) dX4_gramsInBox_18 ?_
      refine K_iload_n X 1 dX4_gramsInBox_21 rfl rfl ?_
      refine K_icmp_ne (tgt := 37) X dX4_gramsInBox_22 (by decide) (fun c22 => ?_) (fun c22 => ?_)
      · refine K_iinc X 3 (ls' := [(3, _), (0, _), (1, _), (2, _)]) dX4_gramsInBox_37 rfl (inc_1 _) (by decide) rfl ?_
        refine K_goto (tgt := 4) X dX4_gramsInBox_40 (by decide) ?_
        rw [show qGAt N bx (i + 1) = qGAt N bx i + 0 from congrArg (qGAt N bx i + ·) (if_neg (fun z => c22 ((qBx_eq (by have := qi_l4 hI (show i < N 2 from by omega); omega) (by omega)).mpr z)))] at ih
        exact K_sub [1, 2, 3, 0] rfl (ih (by omega))
      · refine K_iload_n X 2 dX4_gramsInBox_25 rfl rfl ?_
        refine K_aload_n X 0 dX4_gramsInBox_26 rfl rfl ?_
        refine K_get X 16 kFd4 rfl (by decide) (so_0 hsh o ho) wf_X4_36 rfl (v := rf b (o + 6)) (kv_a (ps_16 hP ho)) dX4_gramsInBox_27 ?_
        refine K_iload_n X 3 dX4_gramsInBox_30 rfl rfl ?_
        refine K_aald (z := o + 7 + π i) X _ (so_6 hsh o ho) (by decide) rfl (by omega) (by decide) (rs_r hR (by omega)) dX4_gramsInBox_31 ?_
        refine K_get X 2 kFd3 rfl (by decide) (so_l hsh ho (rs_lt hR (by omega))) wf_X4_98 rfl (v := .int (nI (qL N i 2))) (congrArg Value.int (rs_l hR (by omega) 2 (by decide))) dX4_gramsInBox_32 ?_
        refine K_iaddN X dX4_gramsInBox_35 ?_
        refine K_istore_n X (ls' := [(2, _), (0, _), (1, _), (3, _)]) dX4_gramsInBox_36 rfl (by decide) rfl ?_
        refine K_iinc X 3 (ls' := [(3, _), (2, _), (0, _), (1, _)]) dX4_gramsInBox_37 rfl (inc_1 _) (by decide) rfl ?_
        refine K_goto (tgt := 4) X dX4_gramsInBox_40 (by decide) ?_
        rw [show qGAt N bx (i + 1) = qGAt N bx i + qL N i 2 from congrArg (qGAt N bx i + ·) (if_pos ((qBx_eq (by have := qi_l4 hI (show i < N 2 from by omega); omega) (by omega)).mp c22))] at ih
        exact K_sub [2, 3, 1, 0] rfl (ih (by omega))
  exact K_sub [2, 3, 1, 0] rfl (loop 0 (Nat.zero_le _))

set_option maxHeartbeats 4000000 in
set_option maxRecDepth 100000 in
theorem c_X4_gramsInShop (l : Launch) (D : KD) (b : Nat) {sh : List KSh} (hsh : shP sh) (σ : KS) (o : Nat) (π N : Nat → Nat) (hP : PF σ.2.2) (ho : o ∈ shL) (hR : Rs σ o π N) (hI : qIr N) : Ct l D b yX4_gramsInShop cX4_gramsInShop 3 (some .int) (rM 0 0) 0 0 [rf b o] sh σ sh (pE (some (.int (nI (qSum N (N 2))))) σ) := by
  have h2 := qi_2 hI
  refine Ct.of (ls := [(0, rf b o)]) (by decide) (Nat.le_of_ble_eq_true rfl) rfl ?_
  intro pg e s m args below meth c Q hQ X hnm
  refine K_iconst X dX4_gramsInShop_0 cii_0 ?_
  refine K_istore_n X (ls' := [(1, _), (0, _)]) dX4_gramsInShop_1 rfl (by decide) rfl ?_
  refine K_iconst X dX4_gramsInShop_2 cii_0 ?_
  refine K_istore_n X (ls' := [(2, _), (1, _), (0, _)]) dX4_gramsInShop_3 rfl (by decide) rfl ?_
  have loop : ∀ i : Nat, i ≤ N 2 → K pg l e (rM 0 0) s m args below meth c Q D b 3 0 0 sh σ 4 [(0, rf b o), (1, .int (nI (qSum N i))), (2, .int (nI i))] [] := by
    refine kup (fun i hi ih => ?_)
    refine K_iload_n X 2 dX4_gramsInShop_4 rfl rfl ?_
    refine K_aload_n X 0 dX4_gramsInShop_5 rfl rfl ?_
    refine K_get X 5 kFd4 rfl (by decide) (so_0 hsh o ho) wf_X4_50 rfl (v := .int (nI (N 2))) (congrArg Value.int (rs_i hR 5 (by decide))) dX4_gramsInShop_6 ?_
    refine K_icmpN_ge (tgt := 30) X dX4_gramsInShop_9 (by decide) (by omega) (by omega) (fun c9 => ?_) (fun c9 => ?_)
    · refine K_iload_n X 1 dX4_gramsInShop_30 rfl rfl ?_
      exact K_iret X hQ dX4_gramsInShop_31 (⟨by rw [show i = N 2 from by omega], rfl⟩)
    · refine K_iload_n X 1 dX4_gramsInShop_12 rfl rfl ?_
      refine K_aload_n X 0 dX4_gramsInShop_13 rfl rfl ?_
      refine K_get X 16 kFd4 rfl (by decide) (so_0 hsh o ho) wf_X4_36 rfl (v := rf b (o + 6)) (kv_a (ps_16 hP ho)) dX4_gramsInShop_14 ?_
      refine K_iload_n X 2 dX4_gramsInShop_17 rfl rfl ?_
      refine K_aald (z := o + 7 + π i) X _ (so_6 hsh o ho) (by decide) rfl (by omega) (by decide) (rs_r hR (by omega)) dX4_gramsInShop_18 ?_
      refine K_get X 2 kFd3 rfl (by decide) (so_l hsh ho (rs_lt hR (by omega))) wf_X4_98 rfl (v := .int (nI (qL N i 2))) (congrArg Value.int (rs_l hR (by omega) 2 (by decide))) dX4_gramsInShop_19 ?_
      refine K_iaddN X dX4_gramsInShop_22 ?_
      refine K_istore_n X (ls' := [(1, _), (0, _), (2, _)]) dX4_gramsInShop_23 rfl (by decide) rfl ?_
      refine K_iinc X 2 (ls' := [(2, _), (1, _), (0, _)]) dX4_gramsInShop_24 rfl (inc_1 _) (by decide) rfl ?_
      refine K_goto (tgt := 4) X dX4_gramsInShop_27 (by decide) ?_
      exact K_sub [2, 1, 0] rfl (ih (by omega))
  exact K_sub [2, 1, 0] rfl (loop 0 (Nat.zero_le _))

set_option maxHeartbeats 4000000 in
set_option maxRecDepth 100000 in
theorem c_X4_gramsOfKind (l : Launch) (D : KD) (b : Nat) {sh : List KSh} (hsh : shP sh) (σ : KS) (o : Nat) (π N : Nat → Nat) (kd : Nat) (hP : PF σ.2.2) (ho : o ∈ shL) (hR : Rs σ o π N) (hI : qIr N) (h1 : kd < 6) : Ct l D b yX4_gramsOfKind cX4_gramsOfKind 4 (some .int) (rM 0 0) 0 0 [rf b o, .int (nI kd)] sh σ sh (pE (some (.int (nI (qGKd N kd (N 2))))) σ) := by
  have h2 := qi_2 hI
  refine Ct.of (ls := [(0, rf b o), (1, .int (nI kd))]) (by decide) (Nat.le_of_ble_eq_true rfl) rfl ?_
  intro pg e s m args below meth c Q hQ X hnm
  refine K_iconst X dX4_gramsOfKind_0 cii_0 ?_
  refine K_istore_n X (ls' := [(2, _), (0, _), (1, _)]) dX4_gramsOfKind_1 rfl (by decide) rfl ?_
  refine K_iconst X dX4_gramsOfKind_2 cii_0 ?_
  refine K_istore_n X (ls' := [(3, _), (2, _), (0, _), (1, _)]) dX4_gramsOfKind_3 rfl (by decide) rfl ?_
  have loop : ∀ i : Nat, i ≤ N 2 → K pg l e (rM 0 0) s m args below meth c Q D b 4 0 0 sh σ 4 [(0, rf b o), (1, .int (nI kd)), (2, .int (nI (qGKd N kd i))), (3, .int (nI i))] [] := by
    refine kup (fun i hi ih => ?_)
    refine K_iload_n X 3 dX4_gramsOfKind_4 rfl rfl ?_
    refine K_aload_n X 0 dX4_gramsOfKind_5 rfl rfl ?_
    refine K_get X 5 kFd4 rfl (by decide) (so_0 hsh o ho) wf_X4_50 rfl (v := .int (nI (N 2))) (congrArg Value.int (rs_i hR 5 (by decide))) dX4_gramsOfKind_6 ?_
    refine K_icmpN_ge (tgt := 43) X dX4_gramsOfKind_9 (by decide) (by omega) (by omega) (fun c9 => ?_) (fun c9 => ?_)
    · refine K_iload_n X 2 dX4_gramsOfKind_43 rfl rfl ?_
      exact K_iret X hQ dX4_gramsOfKind_44 (⟨by rw [show i = N 2 from by omega], rfl⟩)
    · refine K_aload_n X 0 dX4_gramsOfKind_12 rfl rfl ?_
      refine K_get X 16 kFd4 rfl (by decide) (so_0 hsh o ho) wf_X4_36 rfl (v := rf b (o + 6)) (kv_a (ps_16 hP ho)) dX4_gramsOfKind_13 ?_
      refine K_iload_n X 3 dX4_gramsOfKind_16 rfl rfl ?_
      refine K_aald (z := o + 7 + π i) X _ (so_6 hsh o ho) (by decide) rfl (by omega) (by decide) (rs_r hR (by omega)) dX4_gramsOfKind_17 ?_
      refine K_get X 1 kFd3 rfl (by decide) (so_l hsh ho (rs_lt hR (by omega))) wf_X4_101 rfl (v := .int (nI (qL N i 1))) (congrArg Value.int (rs_l hR (by omega) 1 (by decide))) dX4_gramsOfKind_18 ?_
      refine K_iload_n X 1 dX4_gramsOfKind_21 rfl rfl ?_
      refine K_icmpN_ne (tgt := 37) X dX4_gramsOfKind_22 (by decide) (by have := qi_l1 hI (show i < N 2 from by omega); omega) (by omega) (fun c22 => ?_) (fun c22 => ?_)
      · refine K_iinc X 3 (ls' := [(3, _), (0, _), (1, _), (2, _)]) dX4_gramsOfKind_37 rfl (inc_1 _) (by decide) rfl ?_
        refine K_goto (tgt := 4) X dX4_gramsOfKind_40 (by decide) ?_
        rw [show qGKd N kd (i + 1) = qGKd N kd i + 0 from congrArg (qGKd N kd i + ·) (if_neg c22)] at ih
        exact K_sub [1, 2, 3, 0] rfl (ih (by omega))
      · refine K_iload_n X 2 dX4_gramsOfKind_25 rfl rfl ?_
        refine K_aload_n X 0 dX4_gramsOfKind_26 rfl rfl ?_
        refine K_get X 16 kFd4 rfl (by decide) (so_0 hsh o ho) wf_X4_36 rfl (v := rf b (o + 6)) (kv_a (ps_16 hP ho)) dX4_gramsOfKind_27 ?_
        refine K_iload_n X 3 dX4_gramsOfKind_30 rfl rfl ?_
        refine K_aald (z := o + 7 + π i) X _ (so_6 hsh o ho) (by decide) rfl (by omega) (by decide) (rs_r hR (by omega)) dX4_gramsOfKind_31 ?_
        refine K_get X 2 kFd3 rfl (by decide) (so_l hsh ho (rs_lt hR (by omega))) wf_X4_98 rfl (v := .int (nI (qL N i 2))) (congrArg Value.int (rs_l hR (by omega) 2 (by decide))) dX4_gramsOfKind_32 ?_
        refine K_iaddN X dX4_gramsOfKind_35 ?_
        refine K_istore_n X (ls' := [(2, _), (0, _), (1, _), (3, _)]) dX4_gramsOfKind_36 rfl (by decide) rfl ?_
        refine K_iinc X 3 (ls' := [(3, _), (2, _), (0, _), (1, _)]) dX4_gramsOfKind_37 rfl (inc_1 _) (by decide) rfl ?_
        refine K_goto (tgt := 4) X dX4_gramsOfKind_40 (by decide) ?_
        rw [show qGKd N kd (i + 1) = qGKd N kd i + qL N i 2 from congrArg (qGKd N kd i + ·) (if_pos c22)] at ih
        exact K_sub [2, 3, 1, 0] rfl (ih (by omega))
  exact K_sub [2, 3, 1, 0] rfl (loop 0 (Nat.zero_le _))

set_option maxHeartbeats 4000000 in
set_option maxRecDepth 100000 in
theorem c_X4_isBoxFull (l : Launch) (D : KD) (b : Nat) {sh : List KSh} (hsh : shP sh) (σ : KS) (o : Nat) (π N : Nat → Nat) (bx : Nat) (hP : PF σ.2.2) (ho : o ∈ shL) (hR : Rs σ o π N) (hI : qIr N) (h1 : bx < 6) : Ct l D b yX4_isBoxFull cX4_isBoxFull 2 (some .boolean) (rM 1 23) 0 0 [rf b o, .int (nI bx)] sh σ sh (pE (some (.int (kB (decide (3 ≤ qCnt N bx (N 2)))))) σ) := by
  have h2 := qi_2 hI
  refine Ct.of (ls := [(0, rf b o), (1, .int (nI bx))]) (by decide) (Nat.le_of_ble_eq_true rfl) rfl ?_
  intro pg e s m args below meth c Q hQ X hnm
  refine K_aload_n X 0 dX4_isBoxFull_0 rfl rfl ?_
  refine K_iload_n X 1 dX4_isBoxFull_1 rfl rfl ?_
  refine K_callVE X (c_X4_lotsInBox l D b hsh _ _ _ _ _ hP ho hR hI (by omega)) my_X4_lotsInBox mv_X4_lotsInBox wm_X4_95 (so_0 hsh o ho) rfl ⟨rfl, rfl, Nat.le_of_ble_eq_true rfl, Nat.le_of_ble_eq_true rfl, Nat.le_of_ble_eq_true rfl, Nat.le_of_ble_eq_true rfl⟩ rfl rfl (Nat.le_of_ble_eq_true rfl) dX4_isBoxFull_2 ?_
  refine K_iconst X dX4_isBoxFull_5 cii_3 ?_
  refine K_icmpN_lt (tgt := 13) X dX4_isBoxFull_6 (by decide) (by have := qCnt_le N bx (N 2); omega) (by omega) (fun c6 => ?_) (fun c6 => ?_)
  · refine K_iconst X dX4_isBoxFull_13 cii_0 ?_
    exact K_zret X false rfl hQ dX4_isBoxFull_14 (⟨by rw [decide_eq_false (by omega)], rfl⟩)
  · refine K_iconst X dX4_isBoxFull_9 cii_1 ?_
    refine K_goto (tgt := 14) X dX4_isBoxFull_10 (by decide) ?_
    exact K_zret X true rfl hQ dX4_isBoxFull_14 (⟨by rw [decide_eq_true (by omega)], rfl⟩)

set_option maxHeartbeats 4000000 in
set_option maxRecDepth 100000 in
theorem c_X4_freshestLotOfKind (l : Launch) (D : KD) (b : Nat) {sh : List KSh} (hsh : shP sh) (σ : KS) (o : Nat) (π N : Nat → Nat) (kd : Nat) (hP : PF σ.2.2) (ho : o ∈ shL) (hR : Rs σ o π N) (hI : qIr N) (h1 : kd < 6) : Ct l D b yX4_freshestLotOfKind cX4_freshestLotOfKind 5 (some .int) (rM 0 0) 0 0 [rf b o, .int (nI kd)] sh σ sh (pE (some (.int (qNum N (qFr N kd (N 2))))) σ) := by
  have h2 := qi_2 hI
  refine Ct.of (ls := [(0, rf b o), (1, .int (nI kd))]) (by decide) (Nat.le_of_ble_eq_true rfl) rfl ?_
  intro pg e s m args below meth c Q hQ X hnm
  refine K_bipush X dX4_freshestLotOfKind_0 cib_m6 ?_
  refine K_istore_n X (ls' := [(2, _), (0, _), (1, _)]) dX4_freshestLotOfKind_2 rfl (by decide) rfl ?_
  refine K_iconst X dX4_freshestLotOfKind_3 cii_m1 ?_
  refine K_istore_n X (ls' := [(3, _), (2, _), (0, _), (1, _)]) dX4_freshestLotOfKind_4 rfl (by decide) rfl ?_
  refine K_iconst X dX4_freshestLotOfKind_5 cii_0 ?_
  refine K_istore X (ls' := [(4, _), (3, _), (2, _), (0, _), (1, _)]) dX4_freshestLotOfKind_6 (by decide) rfl ?_
  have loop : ∀ i : Nat, i ≤ N 2 → K pg l e (rM 0 0) s m args below meth c Q D b 5 0 0 sh σ 8 [(0, rf b o), (1, .int (nI kd)), (2, .int (qNum N (qFr N kd i))), (3, .int (qFm N (qFr N kd i))), (4, .int (nI i))] [] := by
    refine kup (fun i hi ih => ?_)
    refine K_iload X 4 dX4_freshestLotOfKind_8 rfl ?_
    refine K_aload_n X 0 dX4_freshestLotOfKind_10 rfl rfl ?_
    refine K_get X 5 kFd4 rfl (by decide) (so_0 hsh o ho) wf_X4_50 rfl (v := .int (nI (N 2))) (congrArg Value.int (rs_i hR 5 (by decide))) dX4_freshestLotOfKind_11 ?_
    refine K_icmpN_ge (tgt := 73) X dX4_freshestLotOfKind_14 (by decide) (by omega) (by omega) (fun c14 => ?_) (fun c14 => ?_)
    · refine K_iload_n X 2 dX4_freshestLotOfKind_73 rfl rfl ?_
      exact K_iret X hQ dX4_freshestLotOfKind_74 (⟨by rw [show i = N 2 from by omega], rfl⟩)
    · refine K_aload_n X 0 dX4_freshestLotOfKind_17 rfl rfl ?_
      refine K_get X 16 kFd4 rfl (by decide) (so_0 hsh o ho) wf_X4_36 rfl (v := rf b (o + 6)) (kv_a (ps_16 hP ho)) dX4_freshestLotOfKind_18 ?_
      refine K_iload X 4 dX4_freshestLotOfKind_21 rfl ?_
      refine K_aald (z := o + 7 + π i) X _ (so_6 hsh o ho) (by decide) rfl (by omega) (by decide) (rs_r hR (by omega)) dX4_freshestLotOfKind_23 ?_
      refine K_get X 1 kFd3 rfl (by decide) (so_l hsh ho (rs_lt hR (by omega))) wf_X4_101 rfl (v := .int (nI (qL N i 1))) (congrArg Value.int (rs_l hR (by omega) 1 (by decide))) dX4_freshestLotOfKind_24 ?_
      refine K_iload_n X 1 dX4_freshestLotOfKind_27 rfl rfl ?_
      refine K_icmpN_ne (tgt := 67) X dX4_freshestLotOfKind_28 (by decide) (by have := qi_l1 hI (show i < N 2 from by omega); omega) (by omega) (fun c28 => ?_) (fun c28 => ?_)
      · refine K_iinc X 4 (ls' := [(4, _), (0, _), (1, _), (2, _), (3, _)]) dX4_freshestLotOfKind_67 rfl (inc_1 _) (by decide) rfl ?_
        refine K_goto (tgt := 8) X dX4_freshestLotOfKind_70 (by decide) ?_
        rw [show qFr N kd (i + 1) = qFr N kd i from if_neg (fun q => c28 q.1)] at ih
        exact K_sub [1, 2, 3, 4, 0] rfl (ih (by omega))
      · refine K_aload_n X 0 dX4_freshestLotOfKind_31 rfl rfl ?_
        refine K_get X 16 kFd4 rfl (by decide) (so_0 hsh o ho) wf_X4_36 rfl (v := rf b (o + 6)) (kv_a (ps_16 hP ho)) dX4_freshestLotOfKind_32 ?_
        refine K_iload X 4 dX4_freshestLotOfKind_35 rfl ?_
        refine K_aald (z := o + 7 + π i) X _ (so_6 hsh o ho) (by decide) rfl (by omega) (by decide) (rs_r hR (by omega)) dX4_freshestLotOfKind_37 ?_
        refine K_get X 3 kFd3 rfl (by decide) (so_l hsh ho (rs_lt hR (by omega))) wf_X4_104 rfl (v := .int (nI (qL N i 3))) (congrArg Value.int (rs_l hR (by omega) 3 (by decide))) dX4_freshestLotOfKind_38 ?_
        refine K_iload_n X 3 dX4_freshestLotOfKind_41 rfl rfl ?_
        refine K_icmp_le (tgt := 67) X dX4_freshestLotOfKind_42 (by decide) (fun c42 => ?_) (fun c42 => ?_)
        · refine K_iinc X 4 (ls' := [(4, _), (0, _), (1, _), (2, _), (3, _)]) dX4_freshestLotOfKind_67 rfl (inc_1 _) (by decide) rfl ?_
          refine K_goto (tgt := 8) X dX4_freshestLotOfKind_70 (by decide) ?_
          rw [show qFr N kd (i + 1) = qFr N kd i from if_neg (fun q => qGr_le (by have := qi_l3 hI (show i < N 2 from by omega); omega) (fun j hj => by have := qFr_lt hj; have := qi_l3 hI (show j < N 2 from by omega); omega) c42 q.2)] at ih
          exact K_sub [1, 2, 3, 4, 0] rfl (ih (by omega))
        · refine K_aload_n X 0 dX4_freshestLotOfKind_45 rfl rfl ?_
          refine K_get X 16 kFd4 rfl (by decide) (so_0 hsh o ho) wf_X4_36 rfl (v := rf b (o + 6)) (kv_a (ps_16 hP ho)) dX4_freshestLotOfKind_46 ?_
          refine K_iload X 4 dX4_freshestLotOfKind_49 rfl ?_
          refine K_aald (z := o + 7 + π i) X _ (so_6 hsh o ho) (by decide) rfl (by omega) (by decide) (rs_r hR (by omega)) dX4_freshestLotOfKind_51 ?_
          refine K_get X 3 kFd3 rfl (by decide) (so_l hsh ho (rs_lt hR (by omega))) wf_X4_104 rfl (v := .int (nI (qL N i 3))) (congrArg Value.int (rs_l hR (by omega) 3 (by decide))) dX4_freshestLotOfKind_52 ?_
          refine K_istore_n X (ls' := [(3, _), (0, _), (1, _), (2, _), (4, _)]) dX4_freshestLotOfKind_55 rfl (by decide) rfl ?_
          refine K_aload_n X 1 dX4_freshestLotOfKind_56 rfl rfl ?_
          refine K_get X 16 kFd4 rfl (by decide) (so_0 hsh o ho) wf_X4_36 rfl (v := rf b (o + 6)) (kv_a (ps_16 hP ho)) dX4_freshestLotOfKind_57 ?_
          refine K_iload X 4 dX4_freshestLotOfKind_60 rfl ?_
          refine K_aald (z := o + 7 + π i) X _ (so_6 hsh o ho) (by decide) rfl (by omega) (by decide) (rs_r hR (by omega)) dX4_freshestLotOfKind_62 ?_
          refine K_get X 0 kFd3 rfl (by decide) (so_l hsh ho (rs_lt hR (by omega))) wf_X4_79 rfl (v := .int (nI (qL N i 0))) (congrArg Value.int (rs_l hR (by omega) 0 (by decide))) dX4_freshestLotOfKind_63 ?_
          refine K_istore_n X (ls' := [(2, _), (3, _), (0, _), (1, _), (4, _)]) dX4_freshestLotOfKind_66 rfl (by decide) rfl ?_
          refine K_iinc X 4 (ls' := [(4, _), (2, _), (3, _), (0, _), (1, _)]) dX4_freshestLotOfKind_67 rfl (inc_1 _) (by decide) rfl ?_
          refine K_goto (tgt := 8) X dX4_freshestLotOfKind_70 (by decide) ?_
          rw [show qFr N kd (i + 1) = some i from if_pos ⟨c28, qGr_gt (by have := qi_l3 hI (show i < N 2 from by omega); omega) (fun j hj => by have := qFr_lt hj; have := qi_l3 hI (show j < N 2 from by omega); omega) c42⟩] at ih
          exact K_sub [3, 4, 1, 2, 0] rfl (ih (by omega))
  exact K_sub [3, 4, 2, 1, 0] rfl (loop 0 (Nat.zero_le _))

set_option maxHeartbeats 4000000 in
set_option maxRecDepth 100000 in
theorem c_X4_priceAt (l : Launch) (D : KD) (b : Nat) {sh : List KSh} (hsh : shP sh) (σ : KS) (o : Nat) (π N : Nat → Nat) (kd fr h : Nat) (hP : PF σ.2.2) (ho : o ∈ shL) (hR : Rs σ o π N) (hI : qIr N) (h1 : kd < 6) (h2 : fr ≤ 100) (h3 : h < 11) : Ct l D b yX4_priceAt cX4_priceAt 5 (some .int) (rM 0 0) 0 0 [rf b o, .int (nI kd), .int (nI fr), .int (nI h)] sh σ sh (pE (some (.int (nI (qPr N kd fr h)))) σ) := by
  have hp := qi_p hI h1
  have hc := qi_t hI h3
  have hb0 := Nat.mul_le_mul hp (show 50 + fr / 2 ≤ 100 from by omega)
  have hb1 : N (11 + kd) * (50 + fr / 2) < 2 ^ 31 := by omega
  have hb3 := Nat.mul_le_mul (show N (11 + kd) * (50 + fr / 2) / 100 ≤ 9999 from by omega) (show 100 - N (23 + h) ≤ 100 from by omega)
  have hb2 : N (11 + kd) * (50 + fr / 2) / 100 * (100 - N (23 + h)) < 2 ^ 31 := by omega
  refine Ct.of (ls := [(0, rf b o), (1, .int (nI kd)), (2, .int (nI fr)), (3, .int (nI h))]) (by decide) (Nat.le_of_ble_eq_true rfl) rfl ?_
  intro pg e s m args below meth c Q hQ X hnm
  refine K_aload_n X 0 dX4_priceAt_0 rfl rfl ?_
  refine K_get X 11 kFd4 rfl (by decide) (so_0 hsh o ho) wf_X4_18 rfl (v := rf b (o + 1)) (kv_a (ps_11 hP ho)) dX4_priceAt_1 ?_
  refine K_iload_n X 1 dX4_priceAt_4 rfl rfl ?_
  refine K_iald X _ (so_1 hsh o ho) rfl (by omega) (by decide) (x := nI (N (11 + kd))) (rs_a hR 1 (by decide) (by decide) (show _ < 6 from by omega)) dX4_priceAt_5 ?_
  refine K_bipush X dX4_priceAt_6 cib_50 ?_
  refine K_iload_n X 2 dX4_priceAt_8 rfl rfl ?_
  refine K_iconst X dX4_priceAt_9 cii_2 ?_
  refine K_idivN X dX4_priceAt_10 (by omega) (by decide) (by decide) ?_
  refine K_iaddN X dX4_priceAt_11 ?_
  refine K_imulN X dX4_priceAt_12 ?_
  refine K_bipush X dX4_priceAt_13 cib_100 ?_
  refine K_idivN X dX4_priceAt_15 (by exact hb1) (by decide) (by decide) ?_
  refine K_istore X (ls' := [(4, _), (0, _), (1, _), (2, _), (3, _)]) dX4_priceAt_16 (by decide) rfl ?_
  refine K_iload X 0 dX4_priceAt_18 rfl ?_
  refine K_bipush X dX4_priceAt_20 cib_100 ?_
  refine K_aload_n X 1 dX4_priceAt_22 rfl rfl ?_
  refine K_get X 13 kFd4 rfl (by decide) (so_0 hsh o ho) wf_X4_25 rfl (v := rf b (o + 3)) (kv_a (ps_13 hP ho)) dX4_priceAt_23 ?_
  refine K_iload_n X 4 dX4_priceAt_26 rfl rfl ?_
  refine K_iald X _ (so_3 hsh o ho) rfl (by omega) (by decide) (x := nI (N (23 + h))) (rs_a hR 3 (by decide) (by decide) (show _ < 11 from by omega)) dX4_priceAt_27 ?_
  refine K_isubN X dX4_priceAt_28 (by omega) ?_
  refine K_imulN X dX4_priceAt_29 ?_
  refine K_bipush X dX4_priceAt_30 cib_100 ?_
  refine K_idivN X dX4_priceAt_32 (by exact hb2) (by decide) (by decide) ?_
  exact K_iret X hQ dX4_priceAt_33 (⟨rfl, rfl⟩)

set_option maxHeartbeats 4000000 in
set_option maxRecDepth 100000 in
theorem c_X4_priceOf (l : Launch) (D : KD) (b : Nat) {sh : List KSh} (hsh : shP sh) (σ : KS) (o : Nat) (π N : Nat → Nat) (k : Nat) (hP : PF σ.2.2) (ho : o ∈ shL) (hR : Rs σ o π N) (hI : qIr N) (hk : k < N 2) : Ct l D b yX4_priceOf cX4_priceOf 2 (some .int) (rM 1 24) 0 0 [rf b o, rf b (o + 7 + π k)] sh σ sh (pE (some (.int (nI (qPrice N k)))) σ) := by
  have h2 := qi_2 hI
  refine Ct.of (ls := [(0, rf b o), (1, rf b (o + 7 + π k))]) (by decide) (Nat.le_of_ble_eq_true rfl) rfl ?_
  intro pg e s m args below meth c Q hQ X hnm
  refine K_aload_n X 0 dX4_priceOf_0 rfl rfl ?_
  refine K_aload_n X 1 dX4_priceOf_1 rfl rfl ?_
  refine K_get X 1 kFd3 rfl (by decide) (so_l hsh ho (rs_lt hR (by omega))) wf_X4_101 rfl (v := .int (nI (qL N k 1))) (congrArg Value.int (rs_l hR hk 1 (by decide))) dX4_priceOf_2 ?_
  refine K_aload_n X 1 dX4_priceOf_5 rfl rfl ?_
  refine K_get X 3 kFd3 rfl (by decide) (so_l hsh ho (rs_lt hR (by omega))) wf_X4_104 rfl (v := .int (nI (qL N k 3))) (congrArg Value.int (rs_l hR hk 3 (by decide))) dX4_priceOf_6 ?_
  refine K_aload_n X 0 dX4_priceOf_9 rfl rfl ?_
  refine K_get X 1 kFd4 rfl (by decide) (so_0 hsh o ho) wf_X4_44 rfl (v := .int (nI (N 1))) (congrArg Value.int (rs_i hR 1 (by decide))) dX4_priceOf_10 ?_
  refine K_callVE X (c_X4_priceAt l D b hsh _ _ _ _ _ _ _ hP ho hR hI (qi_l1 hI hk) (qi_l3 hI hk) (by have := qi_1 hI; omega)) my_X4_priceAt mv_X4_priceAt wm_X4_107 (so_0 hsh o ho) rfl ⟨rfl, rfl, Nat.le_of_ble_eq_true rfl, Nat.le_of_ble_eq_true rfl, Nat.le_of_ble_eq_true rfl, Nat.le_of_ble_eq_true rfl⟩ rfl rfl (Nat.le_of_ble_eq_true rfl) dX4_priceOf_13 ?_
  exact K_iret X hQ dX4_priceOf_16 (⟨rfl, rfl⟩)

set_option maxHeartbeats 4000000 in
set_option maxRecDepth 100000 in
theorem c_X4_iceAt (l : Launch) (D : KD) (b : Nat) {sh : List KSh} (hsh : shP sh) (σ : KS) (o : Nat) (π N : Nat → Nat) (k : Nat) (hP : PF σ.2.2) (ho : o ∈ shL) (hR : Rs σ o π N) (hI : qIr N) (hk : k < N 2) : Ct l D b yX4_iceAt cX4_iceAt 2 (some .int) (rM 2 42) 0 0 [rf b o, rf b (o + 7 + π k)] sh σ sh (pE (some (.int (nI (N (34 + qL N k 4))))) σ) := by
  have h2 := qi_2 hI
  have h4 := qi_l4 hI hk
  refine Ct.of (ls := [(0, rf b o), (1, rf b (o + 7 + π k))]) (by decide) (Nat.le_of_ble_eq_true rfl) rfl ?_
  intro pg e s m args below meth c Q hQ X hnm
  by_cases h6 : 6 ≤ qL N k 4
  · refine K_aload_n X 1 dX4_iceAt_0 rfl rfl ?_
    refine K_get X 5 kFd3 rfl (by decide) (so_l hsh ho (rs_lt hR (by omega))) wf_X4_86 rfl (v := .int (nI (qL N k 4 - 6))) (congrArg Value.int ((rs_l5 hR hk).trans (if_pos h6))) dX4_iceAt_1 ?_
    refine K_callSNE (host := RX5) X (c_X5_isTray l D b hsh _ _) my_X5_isTray wt_X5_isTray (by decide +kernel) ⟨rfl, rfl, Nat.le_of_ble_eq_true rfl, Nat.le_of_ble_eq_true rfl, Nat.le_of_ble_eq_true rfl, Nat.le_of_ble_eq_true rfl⟩ rfl rfl (Nat.le_of_ble_eq_true rfl) dX4_iceAt_4 ?_
    refine K_ifB_eq (tgt := 20) X dX4_iceAt_7 (by decide) (fun c7 => ?_) (fun c7 => ?_)
    · exact absurd c7 (by rw [qIn_yes (by decide) (by omega) (by omega)]; decide)
    · refine K_aload_n X 0 dX4_iceAt_10 rfl rfl ?_
      refine K_get X 15 kFd4 rfl (by decide) (so_0 hsh o ho) wf_X4_31 rfl (v := rf b (o + 5)) (kv_a (ps_15 hP ho)) dX4_iceAt_11 ?_
      refine K_aload_n X 1 dX4_iceAt_14 rfl rfl ?_
      refine K_get X 5 kFd3 rfl (by decide) (so_l hsh ho (rs_lt hR (by omega))) wf_X4_86 rfl (v := .int (nI (qL N k 4 - 6))) (congrArg Value.int ((rs_l5 hR hk).trans (if_pos h6))) dX4_iceAt_15 ?_
      refine K_iald X _ (so_5 hsh o ho) rfl (by omega) (by decide) (x := nI (N (40 + (qL N k 4 - 6)))) (rs_a hR 5 (by decide) (by decide) (show _ < 5 from by omega)) dX4_iceAt_18 ?_
      exact K_iret X hQ dX4_iceAt_19 (⟨by rw [show 40 + (qL N k 4 - 6) = 34 + qL N k 4 from by omega], rfl⟩)
  · refine K_aload_n X 1 dX4_iceAt_0 rfl rfl ?_
    refine K_get X 5 kFd3 rfl (by decide) (so_l hsh ho (rs_lt hR (by omega))) wf_X4_86 rfl (v := .int ((-6))) (congrArg Value.int ((rs_l5 hR hk).trans (if_neg h6))) dX4_iceAt_1 ?_
    refine K_callSNE (host := RX5) X (c_X5_isTray l D b hsh _ _) my_X5_isTray wt_X5_isTray (by decide +kernel) ⟨rfl, rfl, Nat.le_of_ble_eq_true rfl, Nat.le_of_ble_eq_true rfl, Nat.le_of_ble_eq_true rfl, Nat.le_of_ble_eq_true rfl⟩ rfl rfl (Nat.le_of_ble_eq_true rfl) dX4_iceAt_4 ?_
    refine K_ifB_eq (tgt := 20) X dX4_iceAt_7 (by decide) (fun c7 => ?_) (fun c7 => ?_)
    · refine K_aload_n X 1 dX4_iceAt_20 rfl rfl ?_
      refine K_get X 4 kFd3 rfl (by decide) (so_l hsh ho (rs_lt hR (by omega))) wf_X4_92 rfl (v := .int (nI (qL N k 4))) (congrArg Value.int ((rs_l4 hR hk).trans (if_neg h6))) dX4_iceAt_21 ?_
      refine K_callSNE (host := RX5) X (c_X5_isBox l D b hsh _ _) my_X5_isBox wt_X5_isBox (by decide +kernel) ⟨rfl, rfl, Nat.le_of_ble_eq_true rfl, Nat.le_of_ble_eq_true rfl, Nat.le_of_ble_eq_true rfl, Nat.le_of_ble_eq_true rfl⟩ rfl rfl (Nat.le_of_ble_eq_true rfl) dX4_iceAt_24 ?_
      refine K_ifB_eq (tgt := 42) X dX4_iceAt_27 (by decide) (fun c27 => ?_) (fun c27 => ?_)
      · exact absurd c27 (by rw [qIn_yes (by decide) (by omega) (by omega)]; decide)
      · refine K_aload_n X 0 dX4_iceAt_30 rfl rfl ?_
        refine K_get X 14 kFd4 rfl (by decide) (so_0 hsh o ho) wf_X4_28 rfl (v := rf b (o + 4)) (kv_a (ps_14 hP ho)) dX4_iceAt_31 ?_
        refine K_aload_n X 1 dX4_iceAt_34 rfl rfl ?_
        refine K_get X 4 kFd3 rfl (by decide) (so_l hsh ho (rs_lt hR (by omega))) wf_X4_92 rfl (v := .int (nI (qL N k 4))) (congrArg Value.int ((rs_l4 hR hk).trans (if_neg h6))) dX4_iceAt_35 ?_
        refine K_iald X _ (so_4 hsh o ho) rfl (by omega) (by decide) (x := nI (N (34 + qL N k 4))) (rs_a hR 4 (by decide) (by decide) (show _ < 6 from by omega)) dX4_iceAt_38 ?_
        refine K_goto (tgt := 43) X dX4_iceAt_39 (by decide) ?_
        exact K_iret X hQ dX4_iceAt_43 (⟨rfl, rfl⟩)
    · exact absurd c7 (by rw [qIn_m6]; decide)

set_option maxHeartbeats 4000000 in
set_option maxRecDepth 100000 in
theorem c_X4_refusalOfNewLot (l : Launch) (D : KD) (b : Nat) {sh : List KSh} (hsh : shP sh) (σ : KS) (o : Nat) (π N : Nat → Nat) (bx : Nat) (hP : PF σ.2.2) (ho : o ∈ shL) (hR : Rs σ o π N) (hI : qIr N) (hU : qU N) (h1 : bx < 6) : Ct l D b yX4_refusalOfNewLot cX4_refusalOfNewLot 2 (some .int) (rM 2 44) 0 0 [rf b o, .int (nI bx)] sh σ sh (pE (some (.int (qRoom N bx))) σ) := by
  have h2 := qi_2 hI
  refine Ct.of (ls := [(0, rf b o), (1, .int (nI bx))]) (by decide) (Nat.le_of_ble_eq_true rfl) rfl ?_
  intro pg e s m args below meth c Q hQ X hnm
  refine K_aload_n X 0 dX4_refusalOfNewLot_0 rfl rfl ?_
  refine K_iload_n X 1 dX4_refusalOfNewLot_1 rfl rfl ?_
  refine K_callVE X (c_X4_isBoxFull l D b hsh _ _ _ _ _ hP ho hR hI (by omega)) my_X4_isBoxFull mv_X4_isBoxFull wm_X4_118 (so_0 hsh o ho) rfl ⟨rfl, rfl, Nat.le_of_ble_eq_true rfl, Nat.le_of_ble_eq_true rfl, Nat.le_of_ble_eq_true rfl, Nat.le_of_ble_eq_true rfl⟩ rfl rfl (Nat.le_of_ble_eq_true rfl) dX4_refusalOfNewLot_2 ?_
  refine K_ifB_eq (tgt := 11) X dX4_refusalOfNewLot_5 (by decide) (fun c5 => ?_) (fun c5 => ?_)
  · refine K_aload_n X 0 dX4_refusalOfNewLot_11 rfl rfl ?_
    refine K_get X 5 kFd4 rfl (by decide) (so_0 hsh o ho) wf_X4_50 rfl (v := .int (nI (N 2))) (congrArg Value.int (rs_i hR 5 (by decide))) dX4_refusalOfNewLot_12 ?_
    refine K_bipush X dX4_refusalOfNewLot_15 cib_16 ?_
    refine K_icmpN_lt (tgt := 25) X dX4_refusalOfNewLot_17 (by decide) (by omega) (by omega) (fun c17 => ?_) (fun c17 => ?_)
    · refine K_iconst X dX4_refusalOfNewLot_25 cii_0 ?_
      exact K_iret X hQ dX4_refusalOfNewLot_26 (⟨by rw [show qRoom N bx = 0 from (if_neg (by have := of_decide_eq_false c5; omega)).trans (if_neg (by omega))]; rfl, rfl⟩)
    · refine K_bipush X dX4_refusalOfNewLot_20 cib_m4 ?_
      refine K_goto (tgt := 26) X dX4_refusalOfNewLot_22 (by decide) ?_
      exact K_iret X hQ dX4_refusalOfNewLot_26 (⟨by rw [show qRoom N bx = -4 from (if_neg (by have := of_decide_eq_false c5; omega)).trans (if_pos (by omega))], rfl⟩)
  · refine K_bipush X dX4_refusalOfNewLot_8 cib_m3 ?_
    exact K_iret X hQ dX4_refusalOfNewLot_10 (⟨by rw [show qRoom N bx = -3 from if_pos (by have := of_decide_eq_true c5; have := hU.2.2.1 bx h1; omega)], rfl⟩)

set_option maxHeartbeats 4000000 in
set_option maxRecDepth 100000 in
theorem c_X4_nextLotToSell (l : Launch) (D : KD) (b : Nat) {sh : List KSh} (hsh : shP sh) (σ : KS) (o : Nat) (π N : Nat → Nat) (kd fr mx pr : Nat) (hP : PF σ.2.2) (ho : o ∈ shL) (hR : Rs σ o π N) (hI : qIr N) (h1 : kd < 6) (hf1 : fr ≤ 100) (hp1 : pr ≤ 9999) (hmx : mx = max fr (N 9)) : Ct l D b yX4_nextLotToSell cX4_nextLotToSell 8 (some .int) (rM 2 45) 0 0 [rf b o, .int (nI kd), .int (nI mx), .int (nI pr)] sh σ sh (pE (some (.int (qO (qNx N kd fr pr (N 2))))) σ) := by
  have h2 := qi_2 hI
  have h9 := qi_9 hI
  refine Ct.of (ls := [(0, rf b o), (1, .int (nI kd)), (2, .int (nI mx)), (3, .int (nI pr))]) (by decide) (Nat.le_of_ble_eq_true rfl) rfl ?_
  intro pg e s m args below meth c Q hQ X hnm
  refine K_bipush X dX4_nextLotToSell_0 cib_m6 ?_
  refine K_istore X (ls' := [(4, _), (0, _), (1, _), (2, _), (3, _)]) dX4_nextLotToSell_2 (by decide) rfl ?_
  refine K_iconst X dX4_nextLotToSell_4 cii_0 ?_
  refine K_istore X (ls' := [(5, _), (4, _), (0, _), (1, _), (2, _), (3, _)]) dX4_nextLotToSell_5 (by decide) rfl ?_
  have loop : ∀ i : Nat, i ≤ N 2 → K pg l e (rM 2 45) s m args below meth c Q D b 8 0 0 sh σ 7 [(0, rf b o), (1, .int (nI kd)), (2, .int (nI mx)), (3, .int (nI pr)), (4, .int (qO (qNx N kd fr pr i))), (5, .int (nI i))] [] := by
    refine kup (fun i hi ih => ?_)
    refine K_iload X 5 dX4_nextLotToSell_7 rfl ?_
    refine K_aload_n X 0 dX4_nextLotToSell_9 rfl rfl ?_
    refine K_get X 5 kFd4 rfl (by decide) (so_0 hsh o ho) wf_X4_50 rfl (v := .int (nI (N 2))) (congrArg Value.int (rs_i hR 5 (by decide))) dX4_nextLotToSell_10 ?_
    refine K_icmpN_ge (tgt := 108) X dX4_nextLotToSell_13 (by decide) (by omega) (by omega) (fun c13 => ?_) (fun c13 => ?_)
    · refine K_iload X 4 dX4_nextLotToSell_108 rfl ?_
      exact K_iret X hQ dX4_nextLotToSell_110 (⟨by rw [show i = N 2 from by omega], rfl⟩)
    · refine K_aload_n X 0 dX4_nextLotToSell_16 rfl rfl ?_
      refine K_get X 16 kFd4 rfl (by decide) (so_0 hsh o ho) wf_X4_36 rfl (v := rf b (o + 6)) (kv_a (ps_16 hP ho)) dX4_nextLotToSell_17 ?_
      refine K_iload X 5 dX4_nextLotToSell_20 rfl ?_
      refine K_aald (z := o + 7 + π i) X _ (so_6 hsh o ho) (by decide) rfl (by omega) (by decide) (rs_r hR (by omega)) dX4_nextLotToSell_22 ?_
      refine K_astore X (ls' := [(6, _), (0, _), (1, _), (2, _), (3, _), (4, _), (5, _)]) dX4_nextLotToSell_23 (by decide) rfl ?_
      refine K_aload X 0 dX4_nextLotToSell_25 rfl ?_
      refine K_callVE X (c_X3_isOnTray l D b hsh _ _ _ (so_l hsh ho (rs_lt hR (by omega))) (rs_l5 hR (by omega))) my_X3_isOnTray mv_X3_isOnTray wm_X4_147 (so_l hsh ho (rs_lt hR (by omega))) rfl ⟨rfl, rfl, Nat.le_of_ble_eq_true rfl, Nat.le_of_ble_eq_true rfl, Nat.le_of_ble_eq_true rfl, Nat.le_of_ble_eq_true rfl⟩ rfl rfl (Nat.le_of_ble_eq_true rfl) dX4_nextLotToSell_27 ?_
      refine K_ifB_eq (tgt := 65) X dX4_nextLotToSell_30 (by decide) (fun c30 => ?_) (fun c30 => ?_)
      · refine K_iconst X dX4_nextLotToSell_65 cii_0 ?_
        refine K_istore X (ls' := [(7, _), (6, _), (0, _), (1, _), (2, _), (3, _), (4, _), (5, _)]) dX4_nextLotToSell_66 (by decide) rfl ?_
        refine K_iload X 0 dX4_nextLotToSell_68 rfl ?_
        refine K_ifN_eq (tgt := 102) X dX4_nextLotToSell_70 (by decide) (by omega) (fun c70 => ?_) (fun c70 => ?_)
        · refine K_iinc X 7 (ls' := [(5, _), (7, _), (6, _), (0, _), (1, _), (2, _), (3, _), (4, _)]) dX4_nextLotToSell_102 rfl (inc_1 _) (by decide) rfl ?_
          refine K_goto (tgt := 7) X dX4_nextLotToSell_105 (by decide) ?_
          have ht : qTray (qL N i 4) = false := decide_eq_false ((qTy_n (by have := qi_l4 hI (show i < N 2 from by omega); omega)).mp (Decidable.not_not.mp (of_decide_eq_false c30)))
          have hf : qFits N kd fr pr i = false := by unfold qFits; rw [ht]; simp
          rw [show qNx N kd fr pr (i + 1) = qNx N kd fr pr i from if_neg (fun q => by rw [hf] at q; exact absurd q.1 (by decide))] at ih
          exact K_sub [3, 4, 5, 6, 7, 0] rfl (ih (by omega))
        · exact absurd rfl c70
      · refine K_aload X 0 dX4_nextLotToSell_33 rfl ?_
        refine K_get X 1 kFd3 rfl (by decide) (so_l hsh ho (rs_lt hR (by omega))) wf_X4_101 rfl (v := .int (nI (qL N i 1))) (congrArg Value.int (rs_l hR (by omega) 1 (by decide))) dX4_nextLotToSell_35 ?_
        refine K_iload_n X 2 dX4_nextLotToSell_38 rfl rfl ?_
        refine K_icmpN_ne (tgt := 65) X dX4_nextLotToSell_39 (by decide) (by have := qi_l1 hI (show i < N 2 from by omega); omega) (by omega) (fun c39 => ?_) (fun c39 => ?_)
        · refine K_iconst X dX4_nextLotToSell_65 cii_0 ?_
          refine K_istore X (ls' := [(7, _), (6, _), (0, _), (1, _), (2, _), (3, _), (4, _), (5, _)]) dX4_nextLotToSell_66 (by decide) rfl ?_
          refine K_iload X 0 dX4_nextLotToSell_68 rfl ?_
          refine K_ifN_eq (tgt := 102) X dX4_nextLotToSell_70 (by decide) (by omega) (fun c70 => ?_) (fun c70 => ?_)
          · refine K_iinc X 7 (ls' := [(5, _), (7, _), (6, _), (0, _), (1, _), (2, _), (3, _), (4, _)]) dX4_nextLotToSell_102 rfl (inc_1 _) (by decide) rfl ?_
            refine K_goto (tgt := 7) X dX4_nextLotToSell_105 (by decide) ?_
            have ht : qTray (qL N i 4) = true := decide_eq_true (Decidable.not_not.mp (fun z => of_decide_eq_true c30 ((qTy_n (by have := qi_l4 hI (show i < N 2 from by omega); omega)).mpr z)))
            have hf : qFits N kd fr pr i = false := by unfold qFits; simp [c39]
            rw [show qNx N kd fr pr (i + 1) = qNx N kd fr pr i from if_neg (fun q => by rw [hf] at q; exact absurd q.1 (by decide))] at ih
            exact K_sub [3, 4, 5, 6, 7, 0] rfl (ih (by omega))
          · exact absurd rfl c70
        · refine K_aload X 0 dX4_nextLotToSell_42 rfl ?_
          refine K_get X 3 kFd3 rfl (by decide) (so_l hsh ho (rs_lt hR (by omega))) wf_X4_104 rfl (v := .int (nI (qL N i 3))) (congrArg Value.int (rs_l hR (by omega) 3 (by decide))) dX4_nextLotToSell_44 ?_
          refine K_iload_n X 3 dX4_nextLotToSell_47 rfl rfl ?_
          refine K_icmpN_lt (tgt := 65) X dX4_nextLotToSell_48 (by decide) (by have := qi_l3 hI (show i < N 2 from by omega); omega) (by omega) (fun c48 => ?_) (fun c48 => ?_)
          · refine K_iconst X dX4_nextLotToSell_65 cii_0 ?_
            refine K_istore X (ls' := [(7, _), (6, _), (0, _), (1, _), (2, _), (3, _), (4, _), (5, _)]) dX4_nextLotToSell_66 (by decide) rfl ?_
            refine K_iload X 0 dX4_nextLotToSell_68 rfl ?_
            refine K_ifN_eq (tgt := 102) X dX4_nextLotToSell_70 (by decide) (by omega) (fun c70 => ?_) (fun c70 => ?_)
            · refine K_iinc X 7 (ls' := [(5, _), (7, _), (6, _), (0, _), (1, _), (2, _), (3, _), (4, _)]) dX4_nextLotToSell_102 rfl (inc_1 _) (by decide) rfl ?_
              refine K_goto (tgt := 7) X dX4_nextLotToSell_105 (by decide) ?_
              have ht : qTray (qL N i 4) = true := decide_eq_true (Decidable.not_not.mp (fun z => of_decide_eq_true c30 ((qTy_n (by have := qi_l4 hI (show i < N 2 from by omega); omega)).mpr z)))
              have hf : qFits N kd fr pr i = false := by unfold qFits; by_cases hs : N 9 ≤ qL N i 3; (rw [decide_eq_false (p := fr ≤ qL N i 3) (by omega)]; simp); (rw [show qSold N i = false from decide_eq_false hs]; simp)
              rw [show qNx N kd fr pr (i + 1) = qNx N kd fr pr i from if_neg (fun q => by rw [hf] at q; exact absurd q.1 (by decide))] at ih
              exact K_sub [3, 4, 5, 6, 7, 0] rfl (ih (by omega))
            · exact absurd rfl c70
          · refine K_aload_n X 1 dX4_nextLotToSell_51 rfl rfl ?_
            refine K_aload X 0 dX4_nextLotToSell_52 rfl ?_
            refine K_callVE X (c_X4_priceOf l D b hsh _ _ _ _ _ hP ho hR hI (by omega)) my_X4_priceOf mv_X4_priceOf wm_X4_151 (so_0 hsh o ho) rfl ⟨rfl, rfl, Nat.le_of_ble_eq_true rfl, Nat.le_of_ble_eq_true rfl, Nat.le_of_ble_eq_true rfl, Nat.le_of_ble_eq_true rfl⟩ rfl rfl (Nat.le_of_ble_eq_true rfl) dX4_nextLotToSell_54 ?_
            refine K_iload_n X 4 dX4_nextLotToSell_57 rfl rfl ?_
            refine K_icmpN_gt (tgt := 65) X dX4_nextLotToSell_58 (by decide) (by have := qPrice_le hI (show i < N 2 from by omega); omega) (by omega) (fun c58 => ?_) (fun c58 => ?_)
            · refine K_iconst X dX4_nextLotToSell_65 cii_0 ?_
              refine K_istore X (ls' := [(7, _), (6, _), (0, _), (1, _), (2, _), (3, _), (4, _), (5, _)]) dX4_nextLotToSell_66 (by decide) rfl ?_
              refine K_iload X 0 dX4_nextLotToSell_68 rfl ?_
              refine K_ifN_eq (tgt := 102) X dX4_nextLotToSell_70 (by decide) (by omega) (fun c70 => ?_) (fun c70 => ?_)
              · refine K_iinc X 7 (ls' := [(5, _), (7, _), (6, _), (0, _), (1, _), (2, _), (3, _), (4, _)]) dX4_nextLotToSell_102 rfl (inc_1 _) (by decide) rfl ?_
                refine K_goto (tgt := 7) X dX4_nextLotToSell_105 (by decide) ?_
                have ht : qTray (qL N i 4) = true := decide_eq_true (Decidable.not_not.mp (fun z => of_decide_eq_true c30 ((qTy_n (by have := qi_l4 hI (show i < N 2 from by omega); omega)).mpr z)))
                have hf : qFits N kd fr pr i = false := by unfold qFits; rw [decide_eq_false (p := qPrice N i ≤ pr) (by omega)]; simp
                rw [show qNx N kd fr pr (i + 1) = qNx N kd fr pr i from if_neg (fun q => by rw [hf] at q; exact absurd q.1 (by decide))] at ih
                exact K_sub [3, 4, 5, 6, 7, 0] rfl (ih (by omega))
              · exact absurd rfl c70
            · refine K_iconst X dX4_nextLotToSell_61 cii_1 ?_
              refine K_goto (tgt := 66) X dX4_nextLotToSell_62 (by decide) ?_
              refine K_istore X (ls' := [(7, _), (6, _), (0, _), (1, _), (2, _), (3, _), (4, _), (5, _)]) dX4_nextLotToSell_66 (by decide) rfl ?_
              refine K_iload X 0 dX4_nextLotToSell_68 rfl ?_
              refine K_ifN_eq (tgt := 102) X dX4_nextLotToSell_70 (by decide) (by omega) (fun c70 => ?_) (fun c70 => ?_)
              · exact absurd c70 (by decide)
              · refine K_iload X 6 dX4_nextLotToSell_73 rfl ?_
                refine K_bipush X dX4_nextLotToSell_75 cib_m6 ?_
                refine K_icmp_eq (tgt := 98) X dX4_nextLotToSell_77 (by decide) (fun c77 => ?_) (fun c77 => ?_)
                · refine K_iload X 7 dX4_nextLotToSell_98 rfl ?_
                  refine K_istore X (ls' := [(4, _), (7, _), (6, _), (0, _), (1, _), (2, _), (3, _), (5, _)]) dX4_nextLotToSell_100 (by decide) rfl ?_
                  refine K_iinc X 7 (ls' := [(5, _), (4, _), (7, _), (6, _), (0, _), (1, _), (2, _), (3, _)]) dX4_nextLotToSell_102 rfl (inc_1 _) (by decide) rfl ?_
                  refine K_goto (tgt := 7) X dX4_nextLotToSell_105 (by decide) ?_
                  have ht : qTray (qL N i 4) = true := decide_eq_true (Decidable.not_not.mp (fun z => of_decide_eq_true c30 ((qTy_n (by have := qi_l4 hI (show i < N 2 from by omega); omega)).mpr z)))
                  have hf : qFits N kd fr pr i = true := by unfold qFits; rw [decide_eq_true c39, ht, show qSold N i = true from decide_eq_true (by omega), decide_eq_true (show fr ≤ qL N i 3 from by omega), decide_eq_true (show qPrice N i ≤ pr from by omega)]; rfl
                  have hn : qNx N kd fr pr i = none := (qO_n (fun j hj => by have := qNx_lt hj; omega)).mp c77
                  rw [show qNx N kd fr pr (i + 1) = some i from if_pos ⟨hf, by rw [hn]; rfl⟩] at ih
                  exact K_sub [4, 5, 6, 7, 1, 0] rfl (ih (by omega))
                · obtain ⟨j, hj⟩ := qO_ex c77
                  have hjl := qNx_lt hj
                  rw [hj]
                  refine K_aload X 1 dX4_nextLotToSell_80 rfl ?_
                  refine K_get X 3 kFd3 rfl (by decide) (so_l hsh ho (rs_lt hR (by omega))) wf_X4_104 rfl (v := .int (nI (qL N i 3))) (congrArg Value.int (rs_l hR (by omega) 3 (by decide))) dX4_nextLotToSell_82 ?_
                  refine K_aload_n X 2 dX4_nextLotToSell_85 rfl rfl ?_
                  refine K_get X 16 kFd4 rfl (by decide) (so_0 hsh o ho) wf_X4_36 rfl (v := rf b (o + 6)) (kv_a (ps_16 hP ho)) dX4_nextLotToSell_86 ?_
                  refine K_iload X 6 dX4_nextLotToSell_89 rfl ?_
                  refine K_aald (z := o + 7 + π j) X _ (so_6 hsh o ho) (by decide) rfl (by omega) (by decide) (rs_r hR (by omega)) dX4_nextLotToSell_91 ?_
                  refine K_get X 3 kFd3 rfl (by decide) (so_l hsh ho (rs_lt hR (by omega))) wf_X4_104 rfl (v := .int (nI (qL N j 3))) (congrArg Value.int (rs_l hR (by omega) 3 (by decide))) dX4_nextLotToSell_92 ?_
                  refine K_icmpN_ge (tgt := 102) X dX4_nextLotToSell_95 (by decide) (by have := qi_l3 hI (show i < N 2 from by omega); omega) (by have := qi_l3 hI (show j < N 2 from by omega); omega) (fun c95 => ?_) (fun c95 => ?_)
                  · refine K_iinc X 7 (ls' := [(5, _), (7, _), (6, _), (0, _), (1, _), (2, _), (3, _), (4, _)]) dX4_nextLotToSell_102 rfl (inc_1 _) (by decide) rfl ?_
                    refine K_goto (tgt := 7) X dX4_nextLotToSell_105 (by decide) ?_
                    have ht : qTray (qL N i 4) = true := decide_eq_true (Decidable.not_not.mp (fun z => of_decide_eq_true c30 ((qTy_n (by have := qi_l4 hI (show i < N 2 from by omega); omega)).mpr z)))
                    have hf : qFits N kd fr pr i = true := by unfold qFits; rw [decide_eq_true c39, ht, show qSold N i = true from decide_eq_true (by omega), decide_eq_true (show fr ≤ qL N i 3 from by omega), decide_eq_true (show qPrice N i ≤ pr from by omega)]; rfl
                    rw [show qNx N kd fr pr (i + 1) = some j from (if_neg (fun q => by have h := q.2; rw [hj] at h; exact absurd (of_decide_eq_true h) (by omega))).trans hj] at ih
                    exact K_sub [3, 4, 5, 6, 7, 0] rfl (ih (by omega))
                  · refine K_iload X 7 dX4_nextLotToSell_98 rfl ?_
                    refine K_istore X (ls' := [(4, _), (7, _), (6, _), (0, _), (1, _), (2, _), (3, _), (5, _)]) dX4_nextLotToSell_100 (by decide) rfl ?_
                    refine K_iinc X 7 (ls' := [(5, _), (4, _), (7, _), (6, _), (0, _), (1, _), (2, _), (3, _)]) dX4_nextLotToSell_102 rfl (inc_1 _) (by decide) rfl ?_
                    refine K_goto (tgt := 7) X dX4_nextLotToSell_105 (by decide) ?_
                    have ht : qTray (qL N i 4) = true := decide_eq_true (Decidable.not_not.mp (fun z => of_decide_eq_true c30 ((qTy_n (by have := qi_l4 hI (show i < N 2 from by omega); omega)).mpr z)))
                    have hf : qFits N kd fr pr i = true := by unfold qFits; rw [decide_eq_true c39, ht, show qSold N i = true from decide_eq_true (by omega), decide_eq_true (show fr ≤ qL N i 3 from by omega), decide_eq_true (show qPrice N i ≤ pr from by omega)]; rfl
                    rw [show qNx N kd fr pr (i + 1) = some i from if_pos ⟨hf, by rw [hj]; exact decide_eq_true (by omega)⟩] at ih
                    exact K_sub [4, 5, 6, 7, 1, 0] rfl (ih (by omega))
  exact K_sub [2, 3, 4, 5, 1, 0] rfl (loop 0 (Nat.zero_le _))

set_option maxHeartbeats 4000000 in
set_option maxRecDepth 100000 in
theorem c_X4_boxForTheNight (l : Launch) (D : KD) (b : Nat) {sh : List KSh} (hsh : shP sh) (σ : KS) (o : Nat) (π N : Nat → Nat) (hP : PF σ.2.2) (ho : o ∈ shL) (hR : Rs σ o π N) (hI : qIr N) : Ct l D b yX4_boxForTheNight cX4_boxForTheNight 4 (some .int) (rM 2 44) 0 0 [rf b o] sh σ sh (pE (some (.int (qO (qCold N 6)))) σ) := by
  have h2 := qi_2 hI
  refine Ct.of (ls := [(0, rf b o)]) (by decide) (Nat.le_of_ble_eq_true rfl) rfl ?_
  intro pg e s m args below meth c Q hQ X hnm
  refine K_bipush X dX4_boxForTheNight_0 cib_m6 ?_
  refine K_istore_n X (ls' := [(1, _), (0, _)]) dX4_boxForTheNight_2 rfl (by decide) rfl ?_
  refine K_iconst X dX4_boxForTheNight_3 cii_m1 ?_
  refine K_istore_n X (ls' := [(2, _), (1, _), (0, _)]) dX4_boxForTheNight_4 rfl (by decide) rfl ?_
  refine K_iconst X dX4_boxForTheNight_5 cii_0 ?_
  refine K_istore_n X (ls' := [(3, _), (2, _), (1, _), (0, _)]) dX4_boxForTheNight_6 rfl (by decide) rfl ?_
  have loop : ∀ i : Nat, i ≤ 6 → K pg l e (rM 2 44) s m args below meth c Q D b 4 0 0 sh σ 7 [(0, rf b o), (1, .int (qO (qCold N i))), (2, .int (qMm N (qCold N i))), (3, .int (nI i))] [] := by
    refine kup (fun i hi ih => ?_)
    refine K_iload_n X 3 dX4_boxForTheNight_7 rfl rfl ?_
    refine K_bipush X dX4_boxForTheNight_8 cib_6 ?_
    refine K_icmpN_ge (tgt := 46) X dX4_boxForTheNight_10 (by decide) (by omega) (by omega) (fun c10 => ?_) (fun c10 => ?_)
    · refine K_iload_n X 1 dX4_boxForTheNight_46 rfl rfl ?_
      exact K_iret X hQ dX4_boxForTheNight_47 (⟨by rw [show i = 6 from by omega], rfl⟩)
    · refine K_aload_n X 0 dX4_boxForTheNight_13 rfl rfl ?_
      refine K_iload_n X 3 dX4_boxForTheNight_14 rfl rfl ?_
      refine K_callVE X (c_X4_isBoxFull l D b hsh _ _ _ _ _ hP ho hR hI (by omega)) my_X4_isBoxFull mv_X4_isBoxFull wm_X4_118 (so_0 hsh o ho) rfl ⟨rfl, rfl, Nat.le_of_ble_eq_true rfl, Nat.le_of_ble_eq_true rfl, Nat.le_of_ble_eq_true rfl, Nat.le_of_ble_eq_true rfl⟩ rfl rfl (Nat.le_of_ble_eq_true rfl) dX4_boxForTheNight_15 ?_
      refine K_ifB_ne (tgt := 40) X dX4_boxForTheNight_18 (by decide) (fun c18 => ?_) (fun c18 => ?_)
      · refine K_iinc X 3 (ls' := [(3, _), (0, _), (1, _), (2, _)]) dX4_boxForTheNight_40 rfl (inc_1 _) (by decide) rfl ?_
        refine K_goto (tgt := 7) X dX4_boxForTheNight_43 (by decide) ?_
        rw [show qCold N (i + 1) = qCold N i from if_neg (fun q => by have := of_decide_eq_true c18; have := q.1; omega)] at ih
        exact K_sub [1, 2, 3, 0] rfl (ih (by omega))
      · refine K_aload_n X 0 dX4_boxForTheNight_21 rfl rfl ?_
        refine K_get X 14 kFd4 rfl (by decide) (so_0 hsh o ho) wf_X4_28 rfl (v := rf b (o + 4)) (kv_a (ps_14 hP ho)) dX4_boxForTheNight_22 ?_
        refine K_iload_n X 3 dX4_boxForTheNight_25 rfl rfl ?_
        refine K_iald X _ (so_4 hsh o ho) rfl (by omega) (by decide) (x := nI (N (34 + i))) (rs_a hR 4 (by decide) (by decide) (show _ < 6 from by omega)) dX4_boxForTheNight_26 ?_
        refine K_iload_n X 2 dX4_boxForTheNight_27 rfl rfl ?_
        refine K_icmp_le (tgt := 40) X dX4_boxForTheNight_28 (by decide) (fun c28 => ?_) (fun c28 => ?_)
        · refine K_iinc X 3 (ls' := [(3, _), (0, _), (1, _), (2, _)]) dX4_boxForTheNight_40 rfl (inc_1 _) (by decide) rfl ?_
          refine K_goto (tgt := 7) X dX4_boxForTheNight_43 (by decide) ?_
          rw [show qCold N (i + 1) = qCold N i from if_neg (fun q => qMo_le (by have := qi_i hI (show i < 11 from by omega); omega) (fun j hj => by have := qCold_lt hj; have := qi_i hI (show j < 11 from by omega); omega) c28 q.2)] at ih
          exact K_sub [1, 2, 3, 0] rfl (ih (by omega))
        · refine K_aload_n X 0 dX4_boxForTheNight_31 rfl rfl ?_
          refine K_get X 14 kFd4 rfl (by decide) (so_0 hsh o ho) wf_X4_28 rfl (v := rf b (o + 4)) (kv_a (ps_14 hP ho)) dX4_boxForTheNight_32 ?_
          refine K_iload_n X 3 dX4_boxForTheNight_35 rfl rfl ?_
          refine K_iald X _ (so_4 hsh o ho) rfl (by omega) (by decide) (x := nI (N (34 + i))) (rs_a hR 4 (by decide) (by decide) (show _ < 6 from by omega)) dX4_boxForTheNight_36 ?_
          refine K_istore_n X (ls' := [(2, _), (0, _), (1, _), (3, _)]) dX4_boxForTheNight_37 rfl (by decide) rfl ?_
          refine K_iload_n X 3 dX4_boxForTheNight_38 rfl rfl ?_
          refine K_istore_n X (ls' := [(1, _), (2, _), (0, _), (3, _)]) dX4_boxForTheNight_39 rfl (by decide) rfl ?_
          refine K_iinc X 3 (ls' := [(3, _), (1, _), (2, _), (0, _)]) dX4_boxForTheNight_40 rfl (inc_1 _) (by decide) rfl ?_
          refine K_goto (tgt := 7) X dX4_boxForTheNight_43 (by decide) ?_
          rw [show qCold N (i + 1) = some i from if_pos ⟨by have := of_decide_eq_false c18; omega, qMo_gt (by have := qi_i hI (show i < 11 from by omega); omega) (fun j hj => by have := qCold_lt hj; have := qi_i hI (show j < 11 from by omega); omega) c28⟩] at ih
          exact K_sub [3, 1, 2, 0] rfl (ih (by omega))
  exact K_sub [3, 2, 1, 0] rfl (loop 0 (Nat.zero_le _))
