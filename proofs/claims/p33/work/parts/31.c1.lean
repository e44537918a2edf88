/-! THE CLASS: its lots, what reads a shop -/
set_option maxHeartbeats 4000000 in
set_option maxRecDepth 100000 in
theorem c_X3_isOnTray (l : Launch) (D : KD) (b : Nat) {sh : List KSh} (hsh : shP sh) (σ : KS) (a : Nat) (x : Int32) (hs : sh[a]? = some (.inl 3)) (hx : σ.1 a 5 = x) : Ct l D b yX3_isOnTray cX3_isOnTray 1 (some .boolean) (rM 0 0) 0 0 [rf b a] sh σ sh (pE (some (.int (kB (decide (x ≠ -6))))) σ) := by
  refine Ct.of (ls := [(0, rf b a)]) (by decide) (Nat.le_of_ble_eq_true rfl) rfl ?_
  intro pg e s m args below meth c Q hQ X hnm
  refine K_aload_n X 0 dX3_isOnTray_0 rfl rfl ?_
  refine K_get X 5 kFd3 rfl (by decide) hs wf_X3_15 rfl (v := .int (x)) (congrArg Value.int (hx)) dX3_isOnTray_1 ?_
  refine K_bipush X dX3_isOnTray_4 cib_m6 ?_
  refine K_icmp_eq (tgt := 13) X dX3_isOnTray_6 (by decide) (fun c6 => ?_) (fun c6 => ?_)
  · refine K_iconst X dX3_isOnTray_13 cii_0 ?_
    exact K_zret X false rfl hQ dX3_isOnTray_14 (⟨by rw [decide_eq_false (fun z => z c6)], rfl⟩)
  · refine K_iconst X dX3_isOnTray_9 cii_1 ?_
    refine K_goto (tgt := 14) X dX3_isOnTray_10 (by decide) ?_
    exact K_zret X true rfl hQ dX3_isOnTray_14 (⟨by rw [decide_eq_true c6], rfl⟩)

set_option maxHeartbeats 4000000 in
set_option maxRecDepth 100000 in
theorem c_X3_putInBox (l : Launch) (D : KD) (b : Nat) {sh : List KSh} (hsh : shP sh) (σ : KS) (a : Nat) (x : Int32) (hs : sh[a]? = some (.inl 3)) : Ct l D b yX3_putInBox cX3_putInBox 2 none (rM 0 0) 0 0 [rf b a, .int x] sh σ sh (pE none (wI σ a (upd (upd (σ.1 a) 4 x) 5 (-6)))) := by
  refine Ct.of (ls := [(0, rf b a), (1, .int x)]) (by decide) (Nat.le_of_ble_eq_true rfl) rfl ?_
  intro pg e s m args below meth c Q hQ X hnm
  refine K_aload_n X 0 dX3_putInBox_0 rfl rfl ?_
  refine K_iload_n X 1 dX3_putInBox_1 rfl rfl ?_
  refine K_putI X 4 kFd3 rfl (by decide) hs wf_X3_9 rfl rfl rfl dX3_putInBox_2 ?_
  refine K_aload_n X 0 dX3_putInBox_5 rfl rfl ?_
  refine K_bipush X dX3_putInBox_6 cib_m6 ?_
  refine K_putI X 5 kFd3 rfl (by decide) hs wf_X3_15 rfl rfl rfl dX3_putInBox_8 ?_
  refine K_st (wI_upd rfl) ?_
  exact K_vret X hQ dX3_putInBox_11 (⟨rfl, rfl⟩)

set_option maxHeartbeats 4000000 in
set_option maxRecDepth 100000 in
theorem c_X3_putOnTray (l : Launch) (D : KD) (b : Nat) {sh : List KSh} (hsh : shP sh) (σ : KS) (a : Nat) (x : Int32) (hs : sh[a]? = some (.inl 3)) : Ct l D b yX3_putOnTray cX3_putOnTray 2 none (rM 0 0) 0 0 [rf b a, .int x] sh σ sh (pE none (wI σ a (upd (upd (σ.1 a) 5 x) 4 (-6)))) := by
  refine Ct.of (ls := [(0, rf b a), (1, .int x)]) (by decide) (Nat.le_of_ble_eq_true rfl) rfl ?_
  intro pg e s m args below meth c Q hQ X hnm
  refine K_aload_n X 0 dX3_putOnTray_0 rfl rfl ?_
  refine K_iload_n X 1 dX3_putOnTray_1 rfl rfl ?_
  refine K_putI X 5 kFd3 rfl (by decide) hs wf_X3_15 rfl rfl rfl dX3_putOnTray_2 ?_
  refine K_aload_n X 0 dX3_putOnTray_5 rfl rfl ?_
  refine K_bipush X dX3_putOnTray_6 cib_m6 ?_
  refine K_putI X 4 kFd3 rfl (by decide) hs wf_X3_9 rfl rfl rfl dX3_putOnTray_8 ?_
  refine K_st (wI_upd rfl) ?_
  exact K_vret X hQ dX3_putOnTray_11 (⟨rfl, rfl⟩)

set_option maxHeartbeats 4000000 in
set_option maxRecDepth 100000 in
theorem c_X4_indexOfLot (l : Launch) (D : KD) (b : Nat) {sh : List KSh} (hsh : shP sh) (σ : KS) (o : Nat) (π N : Nat → Nat) (x : Int32) (hP : PF σ.2.2) (ho : o ∈ shL) (hR : Rs σ o π N) (hI : qIr N) (hU : qU N) (hB : N 10 < 2 ^ 31) : Ct l D b yX4_indexOfLot cX4_indexOfLot 3 (some .int) (rM 0 0) 0 0 [rf b o, .int x] sh σ sh (pE (some (.int (qO (qF N x (N 2))))) σ) := by
  have h2 := qi_2 hI
  refine Ct.of (ls := [(0, rf b o), (1, .int x)]) (by decide) (Nat.le_of_ble_eq_true rfl) rfl ?_
  intro pg e s m args below meth c Q hQ X hnm
  refine K_iconst X dX4_indexOfLot_0 cii_0 ?_
  refine K_istore_n X (ls' := [(2, _), (0, _), (1, _)]) dX4_indexOfLot_1 rfl (by decide) rfl ?_
  have loop : ∀ i : Nat, i ≤ N 2 → (∀ k, k < i → ¬ nI (qL N k 0) = x) → K pg l e (rM 0 0) s m args below meth c Q D b 3 0 0 sh σ 2 [(0, rf b o), (1, .int x), (2, .int (nI i))] [] := by
    refine kup (fun i hi ih => ?_)
    intro hno
    refine K_iload_n X 2 dX4_indexOfLot_2 rfl rfl ?_
    refine K_aload_n X 0 dX4_indexOfLot_3 rfl rfl ?_
    refine K_get X 5 kFd4 rfl (by decide) (so_0 hsh o ho) wf_X4_50 rfl (v := .int (nI (N 2))) (congrArg Value.int (rs_i hR 5 (by decide))) dX4_indexOfLot_4 ?_
    refine K_icmpN_ge (tgt := 31) X dX4_indexOfLot_7 (by decide) (by omega) (by omega) (fun c7 => ?_) (fun c7 => ?_)
    · refine K_bipush X dX4_indexOfLot_31 cib_m6 ?_
      exact K_iret X hQ dX4_indexOfLot_33 (⟨by rw [qF_none (fun k hk => hno k (by omega))]; rfl, rfl⟩)
    · refine K_aload_n X 0 dX4_indexOfLot_10 rfl rfl ?_
      refine K_get X 16 kFd4 rfl (by decide) (so_0 hsh o ho) wf_X4_36 rfl (v := rf b (o + 6)) (kv_a (ps_16 hP ho)) dX4_indexOfLot_11 ?_
      refine K_iload_n X 2 dX4_indexOfLot_14 rfl rfl ?_
      refine K_aald (z := o + 7 + π i) X _ (so_6 hsh o ho) (by decide) rfl (by omega) (by decide) (rs_r hR (by omega)) dX4_indexOfLot_15 ?_
      refine K_get X 0 kFd3 rfl (by decide) (so_l hsh ho (rs_lt hR (by omega))) wf_X4_79 rfl (v := .int (nI (qL N i 0))) (congrArg Value.int (rs_l hR (by omega) 0 (by decide))) dX4_indexOfLot_16 ?_
      refine K_iload_n X 1 dX4_indexOfLot_19 rfl rfl ?_
      refine K_icmp_ne (tgt := 25) X dX4_indexOfLot_20 (by decide) (fun c20 => ?_) (fun c20 => ?_)
      · refine K_iinc X 2 (ls' := [(2, _), (0, _), (1, _)]) dX4_indexOfLot_25 rfl (inc_1 _) (by decide) rfl ?_
        refine K_goto (tgt := 2) X dX4_indexOfLot_28 (by decide) ?_
        exact K_sub [1, 2, 0] rfl (ih (by omega) (fun k hk => by by_cases q : k = i; (rw [q]; exact c20); exact hno k (by omega)))
      · refine K_iload_n X 2 dX4_indexOfLot_23 rfl rfl ?_
        exact K_iret X hQ dX4_indexOfLot_24 (⟨by rw [qF_hit hU.1 (fun k hk => by have := hU.2.1 k hk; have := hB; omega) c20 (show i < N 2 from by omega) (Nat.le_refl _)]; rfl, rfl⟩)
  exact K_sub [1, 2, 0] rfl (loop 0 (Nat.zero_le _) (fun k hk => by omega))

set_option maxHeartbeats 4000000 in
set_option maxRecDepth 100000 in
theorem c_X5_within (l : Launch) (D : KD) (b : Nat) {sh : List KSh} (hsh : shP sh) (σ : KS) (v lo hi : Int32) : Ct l D b yX5_within cX5_within 3 (some .boolean) (rM 0 0) 0 0 [.int v, .int lo, .int hi] sh σ sh (pE (some (.int (kB (decide (lo ≤ v) && decide (v ≤ hi))))) σ) := by
  refine Ct.of (ls := [(0, .int v), (1, .int lo), (2, .int hi)]) (by decide) (Nat.le_of_ble_eq_true rfl) rfl ?_
  intro pg e s m args below meth c Q hQ X hnm
  refine K_iload_n X 1 dX5_within_0 rfl rfl ?_
  refine K_iload_n X 0 dX5_within_1 rfl rfl ?_
  refine K_icmp_gt (tgt := 14) X dX5_within_2 (by decide) (fun c2 => ?_) (fun c2 => ?_)
  · refine K_iconst X dX5_within_14 cii_0 ?_
    exact K_zret X false rfl hQ dX5_within_15 (⟨congrArg (fun z => some (Value.int z)) (kw2 c2), rfl⟩)
  · refine K_iload_n X 0 dX5_within_5 rfl rfl ?_
    refine K_iload_n X 2 dX5_within_6 rfl rfl ?_
    refine K_icmp_gt (tgt := 14) X dX5_within_7 (by decide) (fun c7 => ?_) (fun c7 => ?_)
    · refine K_iconst X dX5_within_14 cii_0 ?_
      exact K_zret X false rfl hQ dX5_within_15 (⟨congrArg (fun z => some (Value.int z)) (kw3 c7), rfl⟩)
    · refine K_iconst X dX5_within_10 cii_1 ?_
      refine K_goto (tgt := 15) X dX5_within_11 (by decide) ?_
      exact K_zret X true rfl hQ dX5_within_15 (⟨congrArg (fun z => some (Value.int z)) (kw1 c2 c7), rfl⟩)

theorem c_X5_withinQ (l : Launch) (D : KD) (b : Nat) {sh : List KSh} (hsh : shP sh) (σ : KS) (v : Int32) (lo hi : Nat) : Ct l D b yX5_within cX5_within 3 (some .boolean) (rM 0 0) 0 0 [.int v, .int (nI lo), .int (nI hi)] sh σ sh (pE (some (.int (kB (qIn lo hi v)))) σ) := c_X5_within l D b hsh σ v (nI lo) (nI hi)

set_option maxHeartbeats 4000000 in
set_option maxRecDepth 100000 in
theorem c_X5_isKind (l : Launch) (D : KD) (b : Nat) {sh : List KSh} (hsh : shP sh) (σ : KS) (v : Int32) : Ct l D b yX5_isKind cX5_isKind 1 (some .boolean) (rM 1 22) 0 0 [.int v] sh σ sh (pE (some (.int (kB (qIn 0 5 v)))) σ) := by
  refine Ct.of (ls := [(0, .int v)]) (by decide) (Nat.le_of_ble_eq_true rfl) rfl ?_
  intro pg e s m args below meth c Q hQ X hnm
  refine K_iload_n X 0 dX5_isKind_0 rfl rfl ?_
  refine K_iconst X dX5_isKind_1 cii_0 ?_
  refine K_iconst X dX5_isKind_2 cii_5 ?_
  refine K_callSE X (c_X5_withinQ l D b hsh _ _ _ _) my_X5_within wt_X5_within wm_X5_44 ⟨rfl, rfl, Nat.le_of_ble_eq_true rfl, Nat.le_of_ble_eq_true rfl, Nat.le_of_ble_eq_true rfl, Nat.le_of_ble_eq_true rfl⟩ rfl rfl (Nat.le_of_ble_eq_true rfl) dX5_isKind_3 ?_
  exact K_zret X _ rfl hQ dX5_isKind_6 (⟨rfl, rfl⟩)

set_option maxHeartbeats 4000000 in
set_option maxRecDepth 100000 in
theorem c_X5_isBox (l : Launch) (D : KD) (b : Nat) {sh : List KSh} (hsh : shP sh) (σ : KS) (v : Int32) : Ct l D b yX5_isBox cX5_isBox 1 (some .boolean) (rM 1 22) 0 0 [.int v] sh σ sh (pE (some (.int (kB (qIn 0 5 v)))) σ) := by
  refine Ct.of (ls := [(0, .int v)]) (by decide) (Nat.le_of_ble_eq_true rfl) rfl ?_
  intro pg e s m args below meth c Q hQ X hnm
  refine K_iload_n X 0 dX5_isBox_0 rfl rfl ?_
  refine K_iconst X dX5_isBox_1 cii_0 ?_
  refine K_iconst X dX5_isBox_2 cii_5 ?_
  refine K_callSE X (c_X5_withinQ l D b hsh _ _ _ _) my_X5_within wt_X5_within wm_X5_44 ⟨rfl, rfl, Nat.le_of_ble_eq_true rfl, Nat.le_of_ble_eq_true rfl, Nat.le_of_ble_eq_true rfl, Nat.le_of_ble_eq_true rfl⟩ rfl rfl (Nat.le_of_ble_eq_true rfl) dX5_isBox_3 ?_
  exact K_zret X _ rfl hQ dX5_isBox_6 (⟨rfl, rfl⟩)

set_option maxHeartbeats 4000000 in
set_option maxRecDepth 100000 in
theorem c_X5_isTray (l : Launch) (D : KD) (b : Nat) {sh : List KSh} (hsh : shP sh) (σ : KS) (v : Int32) : Ct l D b yX5_isTray cX5_isTray 1 (some .boolean) (rM 1 22) 0 0 [.int v] sh σ sh (pE (some (.int (kB (qIn 0 4 v)))) σ) := by
  refine Ct.of (ls := [(0, .int v)]) (by decide) (Nat.le_of_ble_eq_true rfl) rfl ?_
  intro pg e s m args below meth c Q hQ X hnm
  refine K_iload_n X 0 dX5_isTray_0 rfl rfl ?_
  refine K_iconst X dX5_isTray_1 cii_0 ?_
  refine K_iconst X dX5_isTray_2 cii_4 ?_
  refine K_callSE X (c_X5_withinQ l D b hsh _ _ _ _) my_X5_within wt_X5_within wm_X5_44 ⟨rfl, rfl, Nat.le_of_ble_eq_true rfl, Nat.le_of_ble_eq_true rfl, Nat.le_of_ble_eq_true rfl, Nat.le_of_ble_eq_true rfl⟩ rfl rfl (Nat.le_of_ble_eq_true rfl) dX5_isTray_3 ?_
  exact K_zret X _ rfl hQ dX5_isTray_6 (⟨rfl, rfl⟩)

set_option maxHeartbeats 4000000 in
set_option maxRecDepth 100000 in
theorem c_X5_isHour (l : Launch) (D : KD) (b : Nat) {sh : List KSh} (hsh : shP sh) (σ : KS) (v : Int32) : Ct l D b yX5_isHour cX5_isHour 1 (some .boolean) (rM 1 22) 0 0 [.int v] sh σ sh (pE (some (.int (kB (qIn 0 10 v)))) σ) := by
  refine Ct.of (ls := [(0, .int v)]) (by decide) (Nat.le_of_ble_eq_true rfl) rfl ?_
  intro pg e s m args below meth c Q hQ X hnm
  refine K_iload_n X 0 dX5_isHour_0 rfl rfl ?_
  refine K_iconst X dX5_isHour_1 cii_0 ?_
  refine K_bipush X dX5_isHour_2 cib_10 ?_
  refine K_callSE X (c_X5_withinQ l D b hsh _ _ _ _) my_X5_within wt_X5_within wm_X5_44 ⟨rfl, rfl, Nat.le_of_ble_eq_true rfl, Nat.le_of_ble_eq_true rfl, Nat.le_of_ble_eq_true rfl, Nat.le_of_ble_eq_true rfl⟩ rfl rfl (Nat.le_of_ble_eq_true rfl) dX5_isHour_4 ?_
  exact K_zret X _ rfl hQ dX5_isHour_7 (⟨rfl, rfl⟩)

set_option maxHeartbeats 4000000 in
set_option maxRecDepth 100000 in
theorem c_X5_moneyFor (l : Launch) (D : KD) (b : Nat) {sh : List KSh} (hsh : shP sh) (σ : KS) (g q : Nat) (hb : g * q < 2 ^ 31) : Ct l D b yX5_moneyFor cX5_moneyFor 2 (some .int) (rM 0 0) 0 0 [.int (nI g), .int (nI q)] sh σ sh (pE (some (.int (nI (qW g q)))) σ) := by
  refine Ct.of (ls := [(0, .int (nI g)), (1, .int (nI q))]) (by decide) (Nat.le_of_ble_eq_true rfl) rfl ?_
  intro pg e s m args below meth c Q hQ X hnm
  refine K_iload_n X 0 dX5_moneyFor_0 rfl rfl ?_
  refine K_iload_n X 1 dX5_moneyFor_1 rfl rfl ?_
  refine K_imulN X dX5_moneyFor_2 ?_
  refine K_sipush X dX5_moneyFor_3 cis_1000 ?_
  refine K_idivN X dX5_moneyFor_6 (by exact hb) (by decide) (by decide) ?_
  exact K_iret X hQ dX5_moneyFor_7 (⟨rfl, rfl⟩)

set_option maxHeartbeats 4000000 in
set_option maxRecDepth 100000 in
theorem c_X5_freshAnHourLater (l : Launch) (D : KD) (b : Nat) {sh : List KSh} (hsh : shP sh) (σ : KS) (f pl ic : Nat) (h1 : f < 2 ^ 30) (h2 : ic < 2 ^ 30) : Ct l D b yX5_freshAnHourLater cX5_freshAnHourLater 4 (some .int) (rM 1 21) 0 0 [.int (nI f), .int (kB (qTray pl)), .int (nI ic)] sh σ sh (pE (some (.int (nI (f - qLoss pl ic)))) σ) := by
  refine Ct.of (ls := [(0, .int (nI f)), (1, .int (kB (qTray pl))), (2, .int (nI ic))]) (by decide) (Nat.le_of_ble_eq_true rfl) rfl ?_
  intro pg e s m args below meth c Q hQ X hnm
  refine K_iload_n X 1 dX5_freshAnHourLater_0 rfl rfl ?_
  refine K_ifB_eq (tgt := 18) X dX5_freshAnHourLater_1 (by decide) (fun c1 => ?_) (fun c1 => ?_)
  · refine K_iload_n X 2 dX5_freshAnHourLater_18 rfl rfl ?_
    refine K_ifN_le (tgt := 26) X dX5_freshAnHourLater_19 (by decide) (by omega) (fun c19 => ?_) (fun c19 => ?_)
    · refine K_bipush X dX5_freshAnHourLater_26 cib_6 ?_
      refine K_istore_n X (ls' := [(3, _), (0, _), (1, _), (2, _)]) dX5_freshAnHourLater_28 rfl (by decide) rfl ?_
      refine K_iconst X dX5_freshAnHourLater_29 cii_0 ?_
      refine K_iload_n X 1 dX5_freshAnHourLater_30 rfl rfl ?_
      refine K_iload_n X 0 dX5_freshAnHourLater_31 rfl rfl ?_
      refine K_isub X dX5_freshAnHourLater_32 ?_
      refine K_max X wm_X5_298 wt_max wn_Math wc_max ⟨Nat.le_of_ble_eq_true rfl, Nat.le_of_ble_eq_true rfl, Nat.le_of_ble_eq_true rfl, Nat.le_of_ble_eq_true rfl⟩ dX5_freshAnHourLater_33 ?_
      rw [kMax0 (by omega) (by omega)]
      exact K_iret X hQ dX5_freshAnHourLater_36 (⟨by rw [show qLoss pl ic = 6 from (if_neg (qTray_f c1)).trans (if_neg (by omega))], rfl⟩)
    · refine K_iconst X dX5_freshAnHourLater_22 cii_1 ?_
      refine K_goto (tgt := 28) X dX5_freshAnHourLater_23 (by decide) ?_
      refine K_istore_n X (ls' := [(3, _), (0, _), (1, _), (2, _)]) dX5_freshAnHourLater_28 rfl (by decide) rfl ?_
      refine K_iconst X dX5_freshAnHourLater_29 cii_0 ?_
      refine K_iload_n X 1 dX5_freshAnHourLater_30 rfl rfl ?_
      refine K_iload_n X 0 dX5_freshAnHourLater_31 rfl rfl ?_
      refine K_isub X dX5_freshAnHourLater_32 ?_
      refine K_max X wm_X5_298 wt_max wn_Math wc_max ⟨Nat.le_of_ble_eq_true rfl, Nat.le_of_ble_eq_true rfl, Nat.le_of_ble_eq_true rfl, Nat.le_of_ble_eq_true rfl⟩ dX5_freshAnHourLater_33 ?_
      rw [kMax0 (by omega) (by omega)]
      exact K_iret X hQ dX5_freshAnHourLater_36 (⟨by rw [show qLoss pl ic = 1 from (if_neg (qTray_f c1)).trans (if_pos (by omega))], rfl⟩)
  · refine K_iload_n X 2 dX5_freshAnHourLater_4 rfl rfl ?_
    refine K_ifN_le (tgt := 12) X dX5_freshAnHourLater_5 (by decide) (by omega) (fun c5 => ?_) (fun c5 => ?_)
    · refine K_bipush X dX5_freshAnHourLater_12 cib_9 ?_
      refine K_istore_n X (ls' := [(3, _), (0, _), (1, _), (2, _)]) dX5_freshAnHourLater_14 rfl (by decide) rfl ?_
      refine K_goto (tgt := 29) X dX5_freshAnHourLater_15 (by decide) ?_
      refine K_iconst X dX5_freshAnHourLater_29 cii_0 ?_
      refine K_iload_n X 1 dX5_freshAnHourLater_30 rfl rfl ?_
      refine K_iload_n X 0 dX5_freshAnHourLater_31 rfl rfl ?_
      refine K_isub X dX5_freshAnHourLater_32 ?_
      refine K_max X wm_X5_298 wt_max wn_Math wc_max ⟨Nat.le_of_ble_eq_true rfl, Nat.le_of_ble_eq_true rfl, Nat.le_of_ble_eq_true rfl, Nat.le_of_ble_eq_true rfl⟩ dX5_freshAnHourLater_33 ?_
      rw [kMax0 (by omega) (by omega)]
      exact K_iret X hQ dX5_freshAnHourLater_36 (⟨by rw [show qLoss pl ic = 9 from (if_pos (qTray_t c1)).trans (if_neg (by omega))], rfl⟩)
    · refine K_iconst X dX5_freshAnHourLater_8 cii_2 ?_
      refine K_goto (tgt := 14) X dX5_freshAnHourLater_9 (by decide) ?_
      refine K_istore_n X (ls' := [(3, _), (0, _), (1, _), (2, _)]) dX5_freshAnHourLater_14 rfl (by decide) rfl ?_
      refine K_goto (tgt := 29) X dX5_freshAnHourLater_15 (by decide) ?_
      refine K_iconst X dX5_freshAnHourLater_29 cii_0 ?_
      refine K_iload_n X 1 dX5_freshAnHourLater_30 rfl rfl ?_
      refine K_iload_n X 0 dX5_freshAnHourLater_31 rfl rfl ?_
      refine K_isub X dX5_freshAnHourLater_32 ?_
      refine K_max X wm_X5_298 wt_max wn_Math wc_max ⟨Nat.le_of_ble_eq_true rfl, Nat.le_of_ble_eq_true rfl, Nat.le_of_ble_eq_true rfl, Nat.le_of_ble_eq_true rfl⟩ dX5_freshAnHourLater_33 ?_
      rw [kMax0 (by omega) (by omega)]
      exact K_iret X hQ dX5_freshAnHourLater_36 (⟨by rw [show qLoss pl ic = 2 from (if_pos (qTray_t c1)).trans (if_pos (by omega))], rfl⟩)

set_option maxHeartbeats 4000000 in
set_option maxRecDepth 100000 in
theorem c_X5_iceAnHourLater (l : Launch) (D : KD) (b : Nat) {sh : List KSh} (hsh : shP sh) (σ : KS) (ic pl me : Nat) (h1 : ic < 2 ^ 30) (h2 : me ≤ 500) : Ct l D b yX5_iceAnHourLater cX5_iceAnHourLater 3 (some .int) (rM 1 21) 0 0 [.int (nI ic), .int (kB (qTray pl)), .int (nI me)] sh σ sh (pE (some (.int (nI (ic - (if 6 ≤ pl then 2 * me else me))))) σ) := by
  refine Ct.of (ls := [(0, .int (nI ic)), (1, .int (kB (qTray pl))), (2, .int (nI me))]) (by decide) (Nat.le_of_ble_eq_true rfl) rfl ?_
  intro pg e s m args below meth c Q hQ X hnm
  refine K_iconst X dX5_iceAnHourLater_0 cii_0 ?_
  refine K_iload_n X 0 dX5_iceAnHourLater_1 rfl rfl ?_
  refine K_iload_n X 1 dX5_iceAnHourLater_2 rfl rfl ?_
  refine K_ifB_eq (tgt := 12) X dX5_iceAnHourLater_3 (by decide) (fun c3 => ?_) (fun c3 => ?_)
  · refine K_iload_n X 2 dX5_iceAnHourLater_12 rfl rfl ?_
    refine K_isub X dX5_iceAnHourLater_13 ?_
    refine K_max X wm_X5_298 wt_max wn_Math wc_max ⟨Nat.le_of_ble_eq_true rfl, Nat.le_of_ble_eq_true rfl, Nat.le_of_ble_eq_true rfl, Nat.le_of_ble_eq_true rfl⟩ dX5_iceAnHourLater_14 ?_
    rw [kMax0 (by omega) (by omega)]
    exact K_iret X hQ dX5_iceAnHourLater_17 (⟨by rw [show (if 6 ≤ pl then 2 * me else me) = me from if_neg (qTray_f c3)], rfl⟩)
  · refine K_iconst X dX5_iceAnHourLater_6 cii_2 ?_
    refine K_iload_n X 2 dX5_iceAnHourLater_7 rfl rfl ?_
    refine K_imulN X dX5_iceAnHourLater_8 ?_
    refine K_goto (tgt := 13) X dX5_iceAnHourLater_9 (by decide) ?_
    refine K_isub X dX5_iceAnHourLater_13 ?_
    refine K_max X wm_X5_298 wt_max wn_Math wc_max ⟨Nat.le_of_ble_eq_true rfl, Nat.le_of_ble_eq_true rfl, Nat.le_of_ble_eq_true rfl, Nat.le_of_ble_eq_true rfl⟩ dX5_iceAnHourLater_14 ?_
    rw [kMax0 (by omega) (by omega)]
    exact K_iret X hQ dX5_iceAnHourLater_17 (⟨by rw [show (if 6 ≤ pl then 2 * me else me) = 2 * me from if_pos (qTray_t c3)], rfl⟩)

set_option maxHeartbeats 4000000 in
set_option maxRecDepth 100000 in
theorem c_X4_findLot (l : Launch) (D : KD) (b : Nat) {sh : List KSh} (hsh : shP sh) (σ : KS) (o : Nat) (π N : Nat → Nat) (x : Int32) (hP : PF σ.2.2) (ho : o ∈ shL) (hR : Rs σ o π N) (hI : qIr N) (hU : qU N) (hB : N 10 < 2 ^ 31) : Ct l D b yX4_findLot cX4_findLot 3 (some (.object "FishCounter$Lot")) (rM 1 22) 0 0 [rf b o, .int x] sh σ sh (pE (some (rL b o π (qF N x (N 2)))) σ) := by
  have h2 := qi_2 hI
  refine Ct.of (ls := [(0, rf b o), (1, .int x)]) (by decide) (Nat.le_of_ble_eq_true rfl) rfl ?_
  intro pg e s m args below meth c Q hQ X hnm
  refine K_aload_n X 0 dX4_findLot_0 rfl rfl ?_
  refine K_iload_n X 1 dX4_findLot_1 rfl rfl ?_
  refine K_callVE X (c_X4_indexOfLot l D b hsh _ _ _ _ _ hP ho hR hI hU hB) my_X4_indexOfLot mv_X4_indexOfLot wm_X4_82 (so_0 hsh o ho) rfl ⟨rfl, rfl, Nat.le_of_ble_eq_true rfl, Nat.le_of_ble_eq_true rfl, Nat.le_of_ble_eq_true rfl, Nat.le_of_ble_eq_true rfl⟩ rfl rfl (Nat.le_of_ble_eq_true rfl) dX4_findLot_2 ?_
  refine K_istore_n X (ls' := [(2, _), (0, _), (1, _)]) dX4_findLot_5 rfl (by decide) rfl ?_
  refine K_iload_n X 0 dX4_findLot_6 rfl rfl ?_
  refine K_bipush X dX4_findLot_7 cib_m6 ?_
  refine K_icmp_ne (tgt := 16) X dX4_findLot_9 (by decide) (fun c9 => ?_) (fun c9 => ?_)
  · obtain ⟨j, hj⟩ := qO_ex c9
    have hjl := qF_lt hj
    rw [hj]
    refine K_aload_n X 1 dX4_findLot_16 rfl rfl ?_
    refine K_get X 16 kFd4 rfl (by decide) (so_0 hsh o ho) wf_X4_36 rfl (v := rf b (o + 6)) (kv_a (ps_16 hP ho)) dX4_findLot_17 ?_
    refine K_iload_n X 0 dX4_findLot_20 rfl rfl ?_
    refine K_aald (z := o + 7 + π j) X _ (so_6 hsh o ho) (by decide) rfl (by omega) (by decide) (rs_r hR (by omega)) dX4_findLot_21 ?_
    exact K_aret X hQ dX4_findLot_22 (⟨by rw [hj]; rfl, rfl⟩)
  · refine K_null X dX4_findLot_12 ?_
    refine K_goto (tgt := 22) X dX4_findLot_13 (by decide) ?_
    exact K_aretN X hQ dX4_findLot_22 (⟨by rw [qF_no h2 c9]; rfl, rfl⟩)

set_option maxHeartbeats 4000000 in
set_option maxRecDepth 100000 in
theorem c_X4_indexOnTray (l : Launch) (D : KD) (b : Nat) {sh : List KSh} (hsh : shP sh) (σ : KS) (o : Nat) (π N : Nat → Nat) (t : Nat) (hP : PF σ.2.2) (ho : o ∈ shL) (hR : Rs σ o π N) (hI : qIr N) (h1 : t < 5) : Ct l D b yX4_indexOnTray cX4_indexOnTray 3 (some .int) (rM 0 0) 0 0 [rf b o, .int (nI t)] sh σ sh (pE (some (.int (qO (qFst N (6 + t) (N 2) none)))) σ) := by
  have h2 := qi_2 hI
  refine Ct.of (ls := [(0, rf b o), (1, .int (nI t))]) (by decide) (Nat.le_of_ble_eq_true rfl) rfl ?_
  intro pg e s m args below meth c Q hQ X hnm
  refine K_iconst X dX4_indexOnTray_0 cii_0 ?_
  refine K_istore_n X (ls' := [(2, _), (0, _), (1, _)]) dX4_indexOnTray_1 rfl (by decide) rfl ?_
  have loop : ∀ i : Nat, i ≤ N 2 → (∀ k, k < i → qL N k 4 ≠ 6 + t) → K pg l e (rM 0 0) s m args below meth c Q D b 3 0 0 sh σ 2 [(0, rf b o), (1, .int (nI t)), (2, .int (nI i))] [] := by
    refine kup (fun i hi ih => ?_)
    intro hno
    refine K_iload_n X 2 dX4_indexOnTray_2 rfl rfl ?_
    refine K_aload_n X 0 dX4_indexOnTray_3 rfl rfl ?_
    refine K_get X 5 kFd4 rfl (by decide) (so_0 hsh o ho) wf_X4_50 rfl (v := .int (nI (N 2))) (congrArg Value.int (rs_i hR 5 (by decide))) dX4_indexOnTray_4 ?_
    refine K_icmpN_ge (tgt := 31) X dX4_indexOnTray_7 (by decide) (by omega) (by omega) (fun c7 => ?_) (fun c7 => ?_)
    · refine K_bipush X dX4_indexOnTray_31 cib_m6 ?_
      exact K_iret X hQ dX4_indexOnTray_33 (⟨by rw [qFst_no (fun k hk => hno k (by omega))]; rfl, rfl⟩)
    · refine K_aload_n X 0 dX4_indexOnTray_10 rfl rfl ?_
      refine K_get X 16 kFd4 rfl (by decide) (so_0 hsh o ho) wf_X4_36 rfl (v := rf b (o + 6)) (kv_a (ps_16 hP ho)) dX4_indexOnTray_11 ?_
      refine K_iload_n X 2 dX4_indexOnTray_14 rfl rfl ?_
      refine K_aald (z := o + 7 + π i) X _ (so_6 hsh o ho) (by decide) rfl (by omega) (by decide) (rs_r hR (by omega)) dX4_indexOnTray_15 ?_
      refine K_get X 5 kFd3 rfl (by decide) (so_l hsh ho (rs_lt hR (by omega))) wf_X4_86 rfl (v := .int (qTy (qL N i 4))) (congrArg Value.int (rs_l5 hR (by omega))) dX4_indexOnTray_16 ?_
      refine K_iload_n X 1 dX4_indexOnTray_19 rfl rfl ?_
      refine K_icmp_ne (tgt := 25) X dX4_indexOnTray_20 (by decide) (fun c20 => ?_) (fun c20 => ?_)
      · refine K_iinc X 2 (ls' := [(2, _), (0, _), (1, _)]) dX4_indexOnTray_25 rfl (inc_1 _) (by decide) rfl ?_
        refine K_goto (tgt := 2) X dX4_indexOnTray_28 (by decide) ?_
        exact K_sub [1, 2, 0] rfl (ih (by omega) (fun k hk => by by_cases q : k = i; (rw [q]; exact fun z => c20 ((qTy_eq (by have := qi_l4 hI (show i < N 2 from by omega); omega) (by omega)).mpr z)); exact hno k (by omega)))
      · refine K_iload_n X 2 dX4_indexOnTray_23 rfl rfl ?_
        exact K_iret X hQ dX4_indexOnTray_24 (⟨by rw [qFst_hit hno ((qTy_eq (by have := qi_l4 hI (show i < N 2 from by omega); omega) (by omega)).mp c20) (show i < N 2 from by omega)]; rfl, rfl⟩)
  exact K_sub [1, 2, 0] rfl (loop 0 (Nat.zero_le _) (fun k hk => by omega))

set_option maxHeartbeats 4000000 in
set_option maxRecDepth 100000 in
theorem c_X4_firstLotInBox (l : Launch) (D : KD) (b : Nat) {sh : List KSh} (hsh : shP sh) (σ : KS) (o : Nat) (π N : Nat → Nat) (bx : Nat) (hP : PF σ.2.2) (ho : o ∈ shL) (hR : Rs σ o π N) (hI : qIr N) (h1 : bx < 6) : Ct l D b yX4_firstLotInBox cX4_firstLotInBox 3 (some .int) (rM 0 0) 0 0 [rf b o, .int (nI bx)] sh σ sh (pE (some (.int (qNum N (qFst N bx (N 2) none)))) σ) := by
  have h2 := qi_2 hI
  refine Ct.of (ls := [(0, rf b o), (1, .int (nI bx))]) (by decide) (Nat.le_of_ble_eq_true rfl) rfl ?_
  intro pg e s m args below meth c Q hQ X hnm
  refine K_iconst X dX4_firstLotInBox_0 cii_0 ?_
  refine K_istore_n X (ls' := [(2, _), (0, _), (1, _)]) dX4_firstLotInBox_1 rfl (by decide) rfl ?_
  have loop : ∀ i : Nat, i ≤ N 2 → (∀ k, k < i → qL N k 4 ≠ bx) → K pg l e (rM 0 0) s m args below meth c Q D b 3 0 0 sh σ 2 [(0, rf b o), (1, .int (nI bx)), (2, .int (nI i))] [] := by
    refine kup (fun i hi ih => ?_)
    intro hno
    refine K_iload_n X 2 dX4_firstLotInBox_2 rfl rfl ?_
    refine K_aload_n X 0 dX4_firstLotInBox_3 rfl rfl ?_
    refine K_get X 5 kFd4 rfl (by decide) (so_0 hsh o ho) wf_X4_50 rfl (v := .int (nI (N 2))) (congrArg Value.int (rs_i hR 5 (by decide))) dX4_firstLotInBox_4 ?_
    refine K_icmpN_ge (tgt := 39) X dX4_firstLotInBox_7 (by decide) (by omega) (by omega) (fun c7 => ?_) (fun c7 => ?_)
    · refine K_bipush X dX4_firstLotInBox_39 cib_m6 ?_
      exact K_iret X hQ dX4_firstLotInBox_41 (⟨by rw [qFst_no (fun k hk => hno k (by omega))]; rfl, rfl⟩)
    · refine K_aload_n X 0 dX4_firstLotInBox_10 rfl rfl ?_
      refine K_get X 16 kFd4 rfl (by decide) (so_0 hsh o ho) wf_X4_36 rfl (v := rf b (o + 6)) (kv_a (ps_16 hP ho)) dX4_firstLotInBox_11 ?_
      refine K_iload_n X 2 dX4_firstLotInBox_14 rfl rfl ?_
      refine K_aald (z := o + 7 + π i) X _ (so_6 hsh o ho) (by decide) rfl (by omega) (by decide) (rs_r hR (by omega)) dX4_firstLotInBox_15 ?_
      refine K_get X 4 kFd3 rfl (by decide) (so_l hsh ho (rs_lt hR (by omega))) wf_X4_92 rfl (v := .int (qBx (qL N i 4))) (congrArg Value.int (rs_l4 hR (by omega))) dX4_firstLotInBox_16 ?_
      refine K_iload_n X 1 dX4_firstLotInBox_19 rfl rfl ?_
      refine K_icmp_ne (tgt := 33) X dX4_firstLotInBox_20 (by decide) (fun c20 => ?_) (fun c20 => ?_)
      · refine K_iinc X 2 (ls' := [(2, _), (0, _), (1, _)]) dX4_firstLotInBox_33 rfl (inc_1 _) (by decide) rfl ?_
        refine K_goto (tgt := 2) X dX4_firstLotInBox_36 (by decide) ?_
        exact K_sub [1, 2, 0] rfl (ih (by omega) (fun k hk => by by_cases q : k = i; (rw [q]; exact fun z => c20 ((qBx_eq (by have := qi_l4 hI (show i < N 2 from by omega); omega) (by omega)).mpr z)); exact hno k (by omega)))
      · refine K_aload_n X 0 dX4_firstLotInBox_23 rfl rfl ?_
        refine K_get X 16 kFd4 rfl (by decide) (so_0 hsh o ho) wf_X4_36 rfl (v := rf b (o + 6)) (kv_a (ps_16 hP ho)) dX4_firstLotInBox_24 ?_
        refine K_iload_n X 2 dX4_firstLotInBox_27 rfl rfl ?_
        refine K_aald (z := o + 7 + π i) X _ (so_6 hsh o ho) (by decide) rfl (by omega) (by decide) (rs_r hR (by omega)) dX4_firstLotInBox_28 ?_
        refine K_get X 0 kFd3 rfl (by decide) (so_l hsh ho (rs_lt hR (by omega))) wf_X4_79 rfl (v := .int (nI (qL N i 0))) (congrArg Value.int (rs_l hR (by omega) 0 (by decide))) dX4_firstLotInBox_29 ?_
        exact K_iret X hQ dX4_firstLotInBox_32 (⟨by rw [qFst_hit hno ((qBx_eq (by have := qi_l4 hI (show i < N 2 from by omega); omega) (by omega)).mp c20) (show i < N 2 from by omega)]; rfl, rfl⟩)
  exact K_sub [1, 2, 0] rfl (loop 0 (Nat.zero_le _) (fun k hk => by omega))

set_option maxHeartbeats 4000000 in
set_option maxRecDepth 100000 in
theorem c_X4_numberOnTray (l : Launch) (D : KD) (b : Nat) {sh : List KSh} (hsh : shP sh) (σ : KS) (o : Nat) (π N : Nat → Nat) (t : Nat) (hP : PF σ.2.2) (ho : o ∈ shL) (hR : Rs σ o π N) (hI : qIr N) (h1 : t < 5) : Ct l D b yX4_numberOnTray cX4_numberOnTray 3 (some .int) (rM 1 22) 0 0 [rf b o, .int (nI t)] sh σ sh (pE (some (.int (qNum N (qFst N (6 + t) (N 2) none)))) σ) := by
  have h2 := qi_2 hI
  refine Ct.of (ls := [(0, rf b o), (1, .int (nI t))]) (by decide) (Nat.le_of_ble_eq_true rfl) rfl ?_
  intro pg e s m args below meth c Q hQ X hnm
  refine K_aload_n X 0 dX4_numberOnTray_0 rfl rfl ?_
  refine K_iload_n X 1 dX4_numberOnTray_1 rfl rfl ?_
  refine K_callVE X (c_X4_indexOnTray l D b hsh _ _ _ _ _ hP ho hR hI (by omega)) my_X4_indexOnTray mv_X4_indexOnTray wm_X4_89 (so_0 hsh o ho) rfl ⟨rfl, rfl, Nat.le_of_ble_eq_true rfl, Nat.le_of_ble_eq_true rfl, Nat.le_of_ble_eq_true rfl, Nat.le_of_ble_eq_true rfl⟩ rfl rfl (Nat.le_of_ble_eq_true rfl) dX4_numberOnTray_2 ?_
  refine K_istore_n X (ls' := [(2, _), (0, _), (1, _)]) dX4_numberOnTray_5 rfl (by decide) rfl ?_
  refine K_iload_n X 0 dX4_numberOnTray_6 rfl rfl ?_
  refine K_bipush X dX4_numberOnTray_7 cib_m6 ?_
  refine K_icmp_ne (tgt := 17) X dX4_numberOnTray_9 (by decide) (fun c9 => ?_) (fun c9 => ?_)
  · obtain ⟨j, hf⟩ := qO_ex c9
    have hjl : j < N 2 := qFst_lt hf (Nat.le_refl _) (fun q hq => by cases hq)
    rw [hf]
    refine K_aload_n X 1 dX4_numberOnTray_17 rfl rfl ?_
    refine K_get X 16 kFd4 rfl (by decide) (so_0 hsh o ho) wf_X4_36 rfl (v := rf b (o + 6)) (kv_a (ps_16 hP ho)) dX4_numberOnTray_18 ?_
    refine K_iload_n X 0 dX4_numberOnTray_21 rfl rfl ?_
    refine K_aald (z := o + 7 + π j) X _ (so_6 hsh o ho) (by decide) rfl (by omega) (by decide) (rs_r hR (by omega)) dX4_numberOnTray_22 ?_
    refine K_get X 0 kFd3 rfl (by decide) (so_l hsh ho (rs_lt hR (by omega))) wf_X4_79 rfl (v := .int (nI (qL N j 0))) (congrArg Value.int (rs_l hR hjl 0 (by decide))) dX4_numberOnTray_23 ?_
    exact K_iret X hQ dX4_numberOnTray_26 (⟨by rw [hf]; rfl, rfl⟩)
  · refine K_bipush X dX4_numberOnTray_12 cib_m6 ?_
    refine K_goto (tgt := 26) X dX4_numberOnTray_14 (by decide) ?_
    exact K_iret X hQ dX4_numberOnTray_26 (by have hf := (qO_n (fun z hz => by have : z < N 2 := qFst_lt hz (Nat.le_refl _) (fun q hq => by cases hq); omega)).mp c9; exact ⟨by rw [hf]; rfl, rfl⟩)
