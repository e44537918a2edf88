/-! THE REFERENCE: its small methods -/
theorem kw1 {v lo hi : Int32} (h1 : ¬ v < lo) (h2 : ¬ hi < v) : kB true = kB (decide (lo ≤ v) && decide (v ≤ hi)) := by rw [decide_eq_true (Int32.not_lt.mp h1), decide_eq_true (Int32.not_lt.mp h2)]; rfl
theorem kw2 {v lo hi : Int32} (h1 : v < lo) : kB false = kB (decide (lo ≤ v) && decide (v ≤ hi)) := by rw [decide_eq_false (fun q => Int32.not_lt.mpr q h1)]; rfl
theorem kw3 {v lo hi : Int32} (h2 : hi < v) : kB false = kB (decide (lo ≤ v) && decide (v ≤ hi)) := by rw [decide_eq_false (p := v ≤ hi) (fun q => Int32.not_lt.mpr q h2), Bool.and_false]
set_option maxHeartbeats 4000000 in
set_option maxRecDepth 100000 in
theorem c_X6_within (l : Launch) (D : KD) (b : Nat) (σ : KS) (v lo hi : Int32) : Ct l D b yX6_within cX6_within 3 (some .boolean) (rM 0 0) 0 0 [.int v, .int lo, .int hi] shF σ shF (pE (some (.int (kB (decide (lo ≤ v) && decide (v ≤ hi))))) σ) := by
  refine Ct.of (ls := [(0, .int v), (1, .int lo), (2, .int hi)]) (by decide) (Nat.le_of_ble_eq_true rfl) rfl ?_
  intro pg e s m args below meth c Q hQ X hnm
  refine K_iload_n X 0 dX6_within_0 rfl rfl ?_
  refine K_iload_n X 1 dX6_within_1 rfl rfl ?_
  refine K_icmp_lt (tgt := 14) X dX6_within_2 (by decide) (fun c2 => ?_) (fun c2 => ?_)
  · refine K_iconst X dX6_within_14 cii_0 ?_
    exact K_zret X false rfl hQ dX6_within_15 (⟨congrArg (fun z => some (Value.int z)) (kw2 c2), rfl⟩)
  · refine K_iload_n X 0 dX6_within_5 rfl rfl ?_
    refine K_iload_n X 2 dX6_within_6 rfl rfl ?_
    refine K_icmp_gt (tgt := 14) X dX6_within_7 (by decide) (fun c7 => ?_) (fun c7 => ?_)
    · refine K_iconst X dX6_within_14 cii_0 ?_
      exact K_zret X false rfl hQ dX6_within_15 (⟨congrArg (fun z => some (Value.int z)) (kw3 c7), rfl⟩)
    · refine K_iconst X dX6_within_10 cii_1 ?_
      refine K_goto (tgt := 15) X dX6_within_11 (by decide) ?_
      exact K_zret X true rfl hQ dX6_within_15 (⟨congrArg (fun z => some (Value.int z)) (kw1 c2 c7), rfl⟩)

theorem c_X6_withinQ (l : Launch) (D : KD) (b : Nat) (σ : KS) (v : Int32) (lo hi : Nat) : Ct l D b yX6_within cX6_within 3 (some .boolean) (rM 0 0) 0 0 [.int v, .int (nI lo), .int (nI hi)] shF σ shF (pE (some (.int (kB (qIn lo hi v)))) σ) := c_X6_within l D b σ v (nI lo) (nI hi)

set_option maxHeartbeats 4000000 in
set_option maxRecDepth 100000 in
theorem c_X6_isKind (l : Launch) (D : KD) (b : Nat) (σ : KS) (v : Int32) : Ct l D b yX6_isKind cX6_isKind 1 (some .boolean) (rM 1 22) 0 0 [.int v] shF σ shF (pE (some (.int (kB (qIn 0 5 v)))) σ) := by
  refine Ct.of (ls := [(0, .int v)]) (by decide) (Nat.le_of_ble_eq_true rfl) rfl ?_
  intro pg e s m args below meth c Q hQ X hnm
  refine K_iload_n X 0 dX6_isKind_0 rfl rfl ?_
  refine K_iconst X dX6_isKind_1 cii_0 ?_
  refine K_iconst X dX6_isKind_2 cii_5 ?_
  refine K_callSE X (c_X6_withinQ l D b _ _ _ _) my_X6_within wt_X6_within wm_X6_38 ⟨rfl, rfl, Nat.le_of_ble_eq_true rfl, Nat.le_of_ble_eq_true rfl, Nat.le_of_ble_eq_true rfl, Nat.le_of_ble_eq_true rfl⟩ rfl rfl (Nat.le_of_ble_eq_true rfl) dX6_isKind_3 ?_
  exact K_zret X _ rfl hQ dX6_isKind_6 (⟨rfl, rfl⟩)

set_option maxHeartbeats 4000000 in
set_option maxRecDepth 100000 in
theorem c_X6_isBox (l : Launch) (D : KD) (b : Nat) (σ : KS) (v : Int32) : Ct l D b yX6_isBox cX6_isBox 1 (some .boolean) (rM 1 22) 0 0 [.int v] shF σ shF (pE (some (.int (kB (qIn 0 5 v)))) σ) := by
  refine Ct.of (ls := [(0, .int v)]) (by decide) (Nat.le_of_ble_eq_true rfl) rfl ?_
  intro pg e s m args below meth c Q hQ X hnm
  refine K_iload_n X 0 dX6_isBox_0 rfl rfl ?_
  refine K_iconst X dX6_isBox_1 cii_0 ?_
  refine K_iconst X dX6_isBox_2 cii_5 ?_
  refine K_callSE X (c_X6_withinQ l D b _ _ _ _) my_X6_within wt_X6_within wm_X6_38 ⟨rfl, rfl, Nat.le_of_ble_eq_true rfl, Nat.le_of_ble_eq_true rfl, Nat.le_of_ble_eq_true rfl, Nat.le_of_ble_eq_true rfl⟩ rfl rfl (Nat.le_of_ble_eq_true rfl) dX6_isBox_3 ?_
  exact K_zret X _ rfl hQ dX6_isBox_6 (⟨rfl, rfl⟩)

set_option maxHeartbeats 4000000 in
set_option maxRecDepth 100000 in
theorem c_X6_isTray (l : Launch) (D : KD) (b : Nat) (σ : KS) (v : Int32) : Ct l D b yX6_isTray cX6_isTray 1 (some .boolean) (rM 1 22) 0 0 [.int v] shF σ shF (pE (some (.int (kB (qIn 0 4 v)))) σ) := by
  refine Ct.of (ls := [(0, .int v)]) (by decide) (Nat.le_of_ble_eq_true rfl) rfl ?_
  intro pg e s m args below meth c Q hQ X hnm
  refine K_iload_n X 0 dX6_isTray_0 rfl rfl ?_
  refine K_iconst X dX6_isTray_1 cii_0 ?_
  refine K_iconst X dX6_isTray_2 cii_4 ?_
  refine K_callSE X (c_X6_withinQ l D b _ _ _ _) my_X6_within wt_X6_within wm_X6_38 ⟨rfl, rfl, Nat.le_of_ble_eq_true rfl, Nat.le_of_ble_eq_true rfl, Nat.le_of_ble_eq_true rfl, Nat.le_of_ble_eq_true rfl⟩ rfl rfl (Nat.le_of_ble_eq_true rfl) dX6_isTray_3 ?_
  exact K_zret X _ rfl hQ dX6_isTray_6 (⟨rfl, rfl⟩)

set_option maxHeartbeats 4000000 in
set_option maxRecDepth 100000 in
theorem c_X6_isHour (l : Launch) (D : KD) (b : Nat) (σ : KS) (v : Int32) : Ct l D b yX6_isHour cX6_isHour 1 (some .boolean) (rM 1 22) 0 0 [.int v] shF σ shF (pE (some (.int (kB (qIn 0 10 v)))) σ) := by
  refine Ct.of (ls := [(0, .int v)]) (by decide) (Nat.le_of_ble_eq_true rfl) rfl ?_
  intro pg e s m args below meth c Q hQ X hnm
  refine K_iload_n X 0 dX6_isHour_0 rfl rfl ?_
  refine K_iconst X dX6_isHour_1 cii_0 ?_
  refine K_bipush X dX6_isHour_2 cib_10 ?_
  refine K_callSE X (c_X6_withinQ l D b _ _ _ _) my_X6_within wt_X6_within wm_X6_38 ⟨rfl, rfl, Nat.le_of_ble_eq_true rfl, Nat.le_of_ble_eq_true rfl, Nat.le_of_ble_eq_true rfl, Nat.le_of_ble_eq_true rfl⟩ rfl rfl (Nat.le_of_ble_eq_true rfl) dX6_isHour_4 ?_
  exact K_zret X _ rfl hQ dX6_isHour_7 (⟨rfl, rfl⟩)

set_option maxHeartbeats 4000000 in
set_option maxRecDepth 100000 in
theorem c_X6_isTrayPlace (l : Launch) (D : KD) (b : Nat) (σ : KS) (v : Nat) (hv : v < 2 ^ 31) : Ct l D b yX6_isTrayPlace cX6_isTrayPlace 1 (some .boolean) (rM 0 0) 0 0 [.int (nI v)] shF σ shF (pE (some (.int (kB (qTray v)))) σ) := by
  refine Ct.of (ls := [(0, .int (nI v))]) (by decide) (Nat.le_of_ble_eq_true rfl) rfl ?_
  intro pg e s m args below meth c Q hQ X hnm
  refine K_iload_n X 0 dX6_isTrayPlace_0 rfl rfl ?_
  refine K_bipush X dX6_isTrayPlace_1 cib_6 ?_
  refine K_icmpN_lt (tgt := 10) X dX6_isTrayPlace_3 (by decide) (by omega) (by decide) (fun c3 => ?_) (fun c3 => ?_)
  · refine K_iconst X dX6_isTrayPlace_10 cii_0 ?_
    exact K_zret X false rfl hQ dX6_isTrayPlace_11 (⟨by rw [show qTray v = false from by unfold qTray; simp; omega], rfl⟩)
  · refine K_iconst X dX6_isTrayPlace_6 cii_1 ?_
    refine K_goto (tgt := 11) X dX6_isTrayPlace_7 (by decide) ?_
    exact K_zret X true rfl hQ dX6_isTrayPlace_11 (⟨by rw [show qTray v = true from by unfold qTray; simp; omega], rfl⟩)

set_option maxHeartbeats 4000000 in
set_option maxRecDepth 100000 in
theorem c_X6_part (l : Launch) (D : KD) (b : Nat) (σ : KS) (N : Nat → Nat) (k w : Nat) (hP : PF σ.2.2) (hk : 45 + 5 * k + w < 125) : Ct l D b yX6_part cX6_part 3 (some .int) (rM 0 0) 0 0 [rf b 190, .int (nI k), .int (nI w)] shF (wN σ N) shF (pE (some (.int (nI (qL N k w)))) (wN σ N)) := by
  refine Ct.of (ls := [(0, rf b 190), (1, .int (nI k)), (2, .int (nI w))]) (by decide) (Nat.le_of_ble_eq_true rfl) rfl ?_
  intro pg e s m args below meth c Q hQ X hnm
  refine K_aload_n X 0 dX6_part_0 rfl rfl ?_
  refine K_get X 0 kFd6 rfl (by decide) sf_m wf_X6_7 rfl (v := rf b (191)) (kv_a (pf_m0 hP)) dX6_part_1 ?_
  refine K_bipush X dX6_part_4 cib_45 ?_
  refine K_iconst X dX6_part_6 cii_5 ?_
  refine K_iload_n X 1 dX6_part_7 rfl rfl ?_
  refine K_imulN X dX6_part_8 ?_
  refine K_iaddN X dX6_part_9 ?_
  refine K_iload_n X 2 dX6_part_10 rfl rfl ?_
  refine K_iaddN X dX6_part_11 ?_
  refine K_iald X _ sf_ms rfl (by omega) (by decide) (wN_at _) dX6_part_12 ?_
  exact K_iret X hQ dX6_part_13 (⟨rfl, rfl⟩)

set_option maxHeartbeats 4000000 in
set_option maxRecDepth 100000 in
theorem c_X6_setPart (l : Launch) (D : KD) (b : Nat) (σ : KS) (N : Nat → Nat) (k w v : Nat) (hP : PF σ.2.2) (hk : 45 + 5 * k + w < 125) : Ct l D b yX6_setPart cX6_setPart 4 none (rM 0 0) 0 0 [rf b 190, .int (nI k), .int (nI w), .int (nI v)] shF (wN σ N) shF (pE none (wN σ (uN N (45 + 5 * k + w) v))) := by
  refine Ct.of (ls := [(0, rf b 190), (1, .int (nI k)), (2, .int (nI w)), (3, .int (nI v))]) (by decide) (Nat.le_of_ble_eq_true rfl) rfl ?_
  intro pg e s m args below meth c Q hQ X hnm
  refine K_aload_n X 0 dX6_setPart_0 rfl rfl ?_
  refine K_get X 0 kFd6 rfl (by decide) sf_m wf_X6_7 rfl (v := rf b (191)) (kv_a (pf_m0 hP)) dX6_setPart_1 ?_
  refine K_bipush X dX6_setPart_4 cib_45 ?_
  refine K_iconst X dX6_setPart_6 cii_5 ?_
  refine K_iload_n X 1 dX6_setPart_7 rfl rfl ?_
  refine K_imulN X dX6_setPart_8 ?_
  refine K_iaddN X dX6_setPart_9 ?_
  refine K_iload_n X 2 dX6_setPart_10 rfl rfl ?_
  refine K_iaddN X dX6_setPart_11 ?_
  refine K_iload_n X 3 dX6_setPart_12 rfl rfl ?_
  refine K_iast X _ sf_ms rfl (by omega) (by decide) dX6_setPart_13 ?_
  refine K_st wN_u ?_
  exact K_vret X hQ dX6_setPart_14 (⟨rfl, rfl⟩)

set_option maxHeartbeats 4000000 in
set_option maxRecDepth 100000 in
theorem c_X6_find (l : Launch) (D : KD) (b : Nat) (σ : KS) (N : Nat → Nat) (x : Int32) (hP : PF σ.2.2) (h2 : N 2 ≤ 16) : Ct l D b yX6_find cX6_find 4 (some .int) (rM 1 22) 0 0 [rf b 190, .int x] shF (wN σ N) shF (pE (some (.int (qO (qF N x (N 2))))) (wN σ N)) := by
  refine Ct.of (ls := [(0, rf b 190), (1, .int x)]) (by decide) (Nat.le_of_ble_eq_true rfl) rfl ?_
  intro pg e s m args below meth c Q hQ X hnm
  refine K_bipush X dX6_find_0 cib_m6 ?_
  refine K_istore_n X (ls' := [(2, _), (0, _), (1, _)]) dX6_find_2 rfl (by decide) rfl ?_
  refine K_iconst X dX6_find_3 cii_0 ?_
  refine K_istore_n X (ls' := [(3, _), (2, _), (0, _), (1, _)]) dX6_find_4 rfl (by decide) rfl ?_
  have loop : ∀ i : Nat, i ≤ N 2 → K pg l e (rM 1 22) s m args below meth c Q D b 4 0 0 shF (wN σ N) 5 [(0, rf b 190), (1, .int x), (2, .int (qO (qF N x i))), (3, .int (nI i))] [] := by
    refine kup (fun i hi ih => ?_)
    refine K_iload_n X 3 dX6_find_5 rfl rfl ?_
    refine K_aload_n X 0 dX6_find_6 rfl rfl ?_
    refine K_get X 0 kFd6 rfl (by decide) sf_m wf_X6_7 rfl (v := rf b (191)) (kv_a (pf_m0 hP)) dX6_find_7 ?_
    refine K_iconst X dX6_find_10 cii_2 ?_
    refine K_iald X _ sf_ms rfl (by omega) (by decide) (wN_at _) dX6_find_11 ?_
    refine K_icmpN_ge (tgt := 37) X dX6_find_12 (by decide) (by omega) (by omega) (fun c12 => ?_) (fun c12 => ?_)
    · refine K_iload_n X 2 dX6_find_37 rfl rfl ?_
      exact K_iret X hQ dX6_find_38 (⟨by rw [show i = N 2 from by omega], rfl⟩)
    · refine K_aload_n X 0 dX6_find_15 rfl rfl ?_
      refine K_iload_n X 3 dX6_find_16 rfl rfl ?_
      refine K_iconst X dX6_find_17 cii_0 ?_
      refine K_callVE X (c_X6_part l D b _ _ _ _ hP (by omega)) my_X6_part mv_X6_part wm_X6_30 sf_m rfl ⟨rfl, rfl, Nat.le_of_ble_eq_true rfl, Nat.le_of_ble_eq_true rfl, Nat.le_of_ble_eq_true rfl, Nat.le_of_ble_eq_true rfl⟩ rfl rfl (Nat.le_of_ble_eq_true rfl) dX6_find_18 ?_
      refine K_iload_n X 1 dX6_find_21 rfl rfl ?_
      refine K_icmp_ne (tgt := 29) X dX6_find_22 (by decide) (fun c22 => ?_) (fun c22 => ?_)
      · refine K_iload_n X 2 dX6_find_29 rfl rfl ?_
        refine K_istore_n X (ls' := [(2, _), (0, _), (1, _), (3, _)]) dX6_find_30 rfl (by decide) rfl ?_
        refine K_iinc X 3 (ls' := [(3, _), (2, _), (0, _), (1, _)]) dX6_find_31 rfl (inc_1 _) (by decide) rfl ?_
        refine K_goto (tgt := 5) X dX6_find_34 (by decide) ?_
        rw [show qF N x (i + 1) = qF N x i from if_neg c22] at ih
        exact K_sub [2, 3, 1, 0] rfl (ih (by omega))
      · refine K_iload_n X 3 dX6_find_25 rfl rfl ?_
        refine K_goto (tgt := 30) X dX6_find_26 (by decide) ?_
        refine K_istore_n X (ls' := [(2, _), (0, _), (1, _), (3, _)]) dX6_find_30 rfl (by decide) rfl ?_
        refine K_iinc X 3 (ls' := [(3, _), (2, _), (0, _), (1, _)]) dX6_find_31 rfl (inc_1 _) (by decide) rfl ?_
        refine K_goto (tgt := 5) X dX6_find_34 (by decide) ?_
        rw [show qF N x (i + 1) = some i from if_pos c22] at ih
        exact K_sub [2, 3, 1, 0] rfl (ih (by omega))
  exact K_sub [2, 3, 1, 0] rfl (loop 0 (Nat.zero_le _))

set_option maxHeartbeats 4000000 in
set_option maxRecDepth 100000 in
theorem c_X6_priceWith (l : Launch) (D : KD) (b : Nat) (σ : KS) (N : Nat → Nat) (kd fr h : Nat) (hP : PF σ.2.2) (h1 : kd < 6) (h2 : fr ≤ 100) (h3 : h < 11) (hp : N (11 + kd) ≤ 9999) (hc : N (23 + h) ≤ 90) : Ct l D b yX6_priceWith cX6_priceWith 5 (some .int) (rM 0 0) 0 0 [rf b 190, .int (nI kd), .int (nI fr), .int (nI h)] shF (wN σ N) shF (pE (some (.int (nI (qPr N kd fr h)))) (wN σ N)) := by
  have hb0 := Nat.mul_le_mul hp (show 50 + fr / 2 ≤ 100 from by omega)
  have hb1 : N (11 + kd) * (50 + fr / 2) < 2 ^ 31 := by omega
  have hb3 := Nat.mul_le_mul (show N (11 + kd) * (50 + fr / 2) / 100 ≤ 9999 from by omega) (show 100 - N (23 + h) ≤ 100 from by omega)
  have hb2 : N (11 + kd) * (50 + fr / 2) / 100 * (100 - N (23 + h)) < 2 ^ 31 := by omega
  refine Ct.of (ls := [(0, rf b 190), (1, .int (nI kd)), (2, .int (nI fr)), (3, .int (nI h))]) (by decide) (Nat.le_of_ble_eq_true rfl) rfl ?_
  intro pg e s m args below meth c Q hQ X hnm
  refine K_aload_n X 0 dX6_priceWith_0 rfl rfl ?_
  refine K_get X 0 kFd6 rfl (by decide) sf_m wf_X6_7 rfl (v := rf b (191)) (kv_a (pf_m0 hP)) dX6_priceWith_1 ?_
  refine K_bipush X dX6_priceWith_4 cib_11 ?_
  refine K_iload_n X 1 dX6_priceWith_6 rfl rfl ?_
  refine K_iaddN X dX6_priceWith_7 ?_
  refine K_iald X _ sf_ms rfl (by omega) (by decide) (wN_at _) dX6_priceWith_8 ?_
  refine K_bipush X dX6_priceWith_9 cib_50 ?_
  refine K_iload_n X 2 dX6_priceWith_11 rfl rfl ?_
  refine K_iconst X dX6_priceWith_12 cii_2 ?_
  refine K_idivN X dX6_priceWith_13 (by omega) (by decide) (by decide) ?_
  refine K_iaddN X dX6_priceWith_14 ?_
  refine K_imulN X dX6_priceWith_15 ?_
  refine K_bipush X dX6_priceWith_16 cib_100 ?_
  refine K_idivN X dX6_priceWith_18 (by exact hb1) (by decide) (by decide) ?_
  refine K_istore X (ls' := [(4, _), (0, _), (1, _), (2, _), (3, _)]) dX6_priceWith_19 (by decide) rfl ?_
  refine K_iload X 0 dX6_priceWith_21 rfl ?_
  refine K_bipush X dX6_priceWith_23 cib_100 ?_
  refine K_aload_n X 1 dX6_priceWith_25 rfl rfl ?_
  refine K_get X 0 kFd6 rfl (by decide) sf_m wf_X6_7 rfl (v := rf b (191)) (kv_a (pf_m0 hP)) dX6_priceWith_26 ?_
  refine K_bipush X dX6_priceWith_29 cib_23 ?_
  refine K_iload_n X 4 dX6_priceWith_31 rfl rfl ?_
  refine K_iaddN X dX6_priceWith_32 ?_
  refine K_iald X _ sf_ms rfl (by omega) (by decide) (wN_at _) dX6_priceWith_33 ?_
  refine K_isubN X dX6_priceWith_34 (by omega) ?_
  refine K_imulN X dX6_priceWith_35 ?_
  refine K_bipush X dX6_priceWith_36 cib_100 ?_
  refine K_idivN X dX6_priceWith_38 (by exact hb2) (by decide) (by decide) ?_
  exact K_iret X hQ dX6_priceWith_39 (⟨rfl, rfl⟩)

set_option maxHeartbeats 4000000 in
set_option maxRecDepth 100000 in
theorem c_X6_worthOf (l : Launch) (D : KD) (b : Nat) (σ : KS) (g q : Nat) (hb : g * q < 2 ^ 31) : Ct l D b yX6_worthOf cX6_worthOf 2 (some .int) (rM 0 0) 0 0 [.int (nI g), .int (nI q)] shF σ shF (pE (some (.int (nI (qW g q)))) σ) := by
  refine Ct.of (ls := [(0, .int (nI g)), (1, .int (nI q))]) (by decide) (Nat.le_of_ble_eq_true rfl) rfl ?_
  intro pg e s m args below meth c Q hQ X hnm
  refine K_iload_n X 0 dX6_worthOf_0 rfl rfl ?_
  refine K_iload_n X 1 dX6_worthOf_1 rfl rfl ?_
  refine K_imulN X dX6_worthOf_2 ?_
  refine K_sipush X dX6_worthOf_3 cis_1000 ?_
  refine K_idivN X dX6_worthOf_6 (by exact hb) (by decide) (by decide) ?_
  exact K_iret X hQ dX6_worthOf_7 (⟨rfl, rfl⟩)
