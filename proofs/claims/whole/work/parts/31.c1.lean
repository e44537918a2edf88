/-! THE CLASS: its lots, what reads a shop -/
set_option maxHeartbeats 4000000 in
set_option maxRecDepth 100000 in
theorem c_X3_isOnTray (l : Launch) (D : KD) (b : Nat) (σ : KS) (a : Nat) (x : Int32) (hs : shF[a]? = some (.inl 3)) (hx : σ.1 a 5 = x) : Ct l D b yX3_isOnTray cX3_isOnTray 1 (some .boolean) (rM 0 0) 0 0 [rf b a] shF σ shF (pE (some (.int (kB (decide (x ≠ -6))))) σ) := by
  refine Ct.of (ls := [(0, rf b a)]) (by decide) (Nat.le_of_ble_eq_true rfl) rfl ?_
  intro pg e s m args below meth c Q hQ X hnm
  refine K_aload_n X 0 dX3_isOnTray_0 rfl rfl ?_
  refine K_get X 5 kFd3 rfl (by decide) hs wf_X3_15 rfl (v := .int (x)) (congrArg Value.int (hx)) dX3_isOnTray_1 ?_
  refine K_bipush X dX3_isOnTray_4 cib_m6 ?_
  refine K_icmp_eq (tgt := 13) X dX3_isOnTray_6 (by decide) (fun c6 => ?_) (fun c6 => ?_)
  · refine K_iconst X dX3_isOnTray_13 cii_0 ?_
    exact K_zret X false rfl hQ dX3_isOnTray_14 (⟨by rw [decide_eq_false (fun z => z c6)], rfl⟩)
  · refine K_iconst X dX3_isOnTray_9 cii_1 ?_
    refine K_goto (tgt := 14) X dX3_isOnTray_10 (by decide) ?_
    exact K_zret X true rfl hQ dX3_isOnTray_14 (⟨by rw [decide_eq_true c6], rfl⟩)

set_option maxHeartbeats 4000000 in
set_option maxRecDepth 100000 in
theorem c_X3_putInBox (l : Launch) (D : KD) (b : Nat) (σ : KS) (a : Nat) (x : Int32) (hs : shF[a]? = some (.inl 3)) : Ct l D b yX3_putInBox cX3_putInBox 2 none (rM 0 0) 0 0 [rf b a, .int x] shF σ shF (pE none (wI σ a (upd (upd (σ.1 a) 4 x) 5 (-6)))) := by
  refine Ct.of (ls := [(0, rf b a), (1, .int x)]) (by decide) (Nat.le_of_ble_eq_true rfl) rfl ?_
  intro pg e s m args below meth c Q hQ X hnm
  refine K_aload_n X 0 dX3_putInBox_0 rfl rfl ?_
  refine K_iload_n X 1 dX3_putInBox_1 rfl rfl ?_
  refine K_putI X 4 kFd3 rfl (by decide) hs wf_X3_9 rfl rfl rfl dX3_putInBox_2 ?_
  refine K_aload_n X 0 dX3_putInBox_5 rfl rfl ?_
  refine K_bipush X dX3_putInBox_6 cib_m6 ?_
  refine K_putI X 5 kFd3 rfl (by decide) hs wf_X3_15 rfl rfl rfl dX3_putInBox_8 ?_
  refine K_st (wI_upd rfl) ?_
  exact K_vret X hQ dX3_putInBox_11 (⟨rfl, rfl⟩)

set_option maxHeartbeats 4000000 in
set_option maxRecDepth 100000 in
theorem c_X3_putOnTray (l : Launch) (D : KD) (b : Nat) (σ : KS) (a : Nat) (x : Int32) (hs : shF[a]? = some (.inl 3)) : Ct l D b yX3_putOnTray cX3_putOnTray 2 none (rM 0 0) 0 0 [rf b a, .int x] shF σ shF (pE none (wI σ a (upd (upd (σ.1 a) 5 x) 4 (-6)))) := by
  refine Ct.of (ls := [(0, rf b a), (1, .int x)]) (by decide) (Nat.le_of_ble_eq_true rfl) rfl ?_
  intro pg e s m args below meth c Q hQ X hnm
  refine K_aload_n X 0 dX3_putOnTray_0 rfl rfl ?_
  refine K_iload_n X 1 dX3_putOnTray_1 rfl rfl ?_
  refine K_putI X 5 kFd3 rfl (by decide) hs wf_X3_15 rfl rfl rfl dX3_putOnTray_2 ?_
  refine K_aload_n X 0 dX3_putOnTray_5 rfl rfl ?_
  refine K_bipush X dX3_putOnTray_6 cib_m6 ?_
  refine K_putI X 4 kFd3 rfl (by decide) hs wf_X3_9 rfl rfl rfl dX3_putOnTray_8 ?_
  refine K_st (wI_upd rfl) ?_
  exact K_vret X hQ dX3_putOnTray_11 (⟨rfl, rfl⟩)

set_option maxHeartbeats 4000000 in
set_option maxRecDepth 100000 in
theorem c_X4_indexOfLot (l : Launch) (D : KD) (b : Nat) (σ : KS) (o : Nat) (π N : Nat → Nat) (x : Int32) (hP : PF σ.2.2) (ho : o ∈ shL) (hR : Rs σ o π N) (hI : qIr N) (hU : qU N) (hB : ∀ i, N i < 2 ^ 31) : Ct l D b yX4_indexOfLot cX4_indexOfLot 3 (some .int) (rM 0 0) 0 0 [rf b o, .int x] shF σ shF (pE (some (.int (qO (qF N x (N 2))))) σ) := by
  have h2 := qi_2 hI
  refine Ct.of (ls := [(0, rf b o), (1, .int x)]) (by decide) (Nat.le_of_ble_eq_true rfl) rfl ?_
  intro pg e s m args below meth c Q hQ X hnm
  refine K_iconst X dX4_indexOfLot_0 cii_0 ?_
  refine K_istore_n X (ls' := [(2, _), (0, _), (1, _)]) dX4_indexOfLot_1 rfl (by decide) rfl ?_
  have loop : ∀ i : Nat, i ≤ N 2 → (∀ k, k < i → ¬ nI (qL N k 0) = x) → K pg l e (rM 0 0) s m args below meth c Q D b 3 0 0 shF σ 2 [(0, rf b o), (1, .int x), (2, .int (nI i))] [] := by
    refine kup (fun i hi ih => ?_)
    intro hno
    refine K_iload_n X 2 dX4_indexOfLot_2 rfl rfl ?_
    refine K_aload_n X 0 dX4_indexOfLot_3 rfl rfl ?_
    refine K_get X 5 kFd4 rfl (by decide) (so_0 o ho) wf_X4_50 rfl (v := .int (nI (N 2))) (congrArg Value.int (rs_i hR 5 (by decide))) dX4_indexOfLot_4 ?_
    refine K_icmpN_ge (tgt := 31) X dX4_indexOfLot_7 (by decide) (by omega) (by omega) (fun c7 => ?_) (fun c7 => ?_)
    · refine K_bipush X dX4_indexOfLot_31 cib_m6 ?_
      exact K_iret X hQ dX4_indexOfLot_33 (⟨by rw [qF_none (fun k hk => hno k (by omega))]; rfl, rfl⟩)
    · refine K_aload_n X 0 dX4_indexOfLot_10 rfl rfl ?_
      refine K_get X 16 kFd4 rfl (by decide) (so_0 o ho) wf_X4_36 rfl (v := rf b (o + 6)) (kv_a (ps_16 hP ho)) dX4_indexOfLot_11 ?_
      refine K_iload_n X 2 dX4_indexOfLot_14 rfl rfl ?_
      refine K_aald (z := o + 7 + π i) X _ (so_6 o ho) (by decide) rfl (by omega) (by decide) (rs_r hR (by omega)) dX4_indexOfLot_15 ?_
      refine K_get X 0 kFd3 rfl (by decide) (so_l ho (rs_lt hR (by omega))) wf_X4_79 rfl (v := .int (nI (qL N i 0))) (congrArg Value.int (rs_l hR (by omega) 0 (by decide))) dX4_indexOfLot_16 ?_
      refine K_iload_n X 1 dX4_indexOfLot_19 rfl rfl ?_
      refine K_icmp_ne (tgt := 25) X dX4_indexOfLot_20 (by decide) (fun c20 => ?_) (fun c20 => ?_)
      · refine K_iinc X 2 (ls' := [(2, _), (0, _), (1, _)]) dX4_indexOfLot_25 rfl (inc_1 _) (by decide) rfl ?_
        refine K_goto (tgt := 2) X dX4_indexOfLot_28 (by decide) ?_
        exact K_sub [1, 2, 0] rfl (ih (by omega) (fun k hk => by by_cases q : k = i; (rw [q]; exact c20); exact hno k (by omega)))
      · refine K_iload_n X 2 dX4_indexOfLot_23 rfl rfl ?_
        exact K_iret X hQ dX4_indexOfLot_24 (⟨by rw [qF_hit hU.1 (fun k hk => by have := hU.2.1 k hk; have := hB 10; omega) c20 (show i < N 2 from by omega) (Nat.le_refl _)]; rfl, rfl⟩)
  exact K_sub [1, 2, 0] rfl (loop 0 (Nat.zero_le _) (fun k hk => by omega))
