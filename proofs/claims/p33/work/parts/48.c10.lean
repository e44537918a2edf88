set_option maxHeartbeats 4000000 in
set_option maxRecDepth 100000 in
theorem c_X5_ifClosed (l : Launch) (D : KD) (b : Nat) {sh : List KSh} (hsh : shP sh) (σ : KS) (N : Nat → Nat) (r : Nat) (hs : Nat → Nat → Nat) (T : Nat → Nat) (n : Nat) (hC : CI σ N r hs T n) (x : Int32) (hI : qIr N) (hU : qU N) (hB : N 10 < 2 ^ 31) : Ct l D b yX5_ifClosed cX5_ifClosed 3 (some .int) (rM 5 112) 0 0 [rf b 0, .int x] sh σ sh (pS (some (.int (aIfC N x))) (fun τ => Cf σ τ ∧ CI τ N r hs T n)) := by
  have h2 := qi_2 hI
  have h1 := qi_1 hI
  have ho := s1_in
  have ho4 := s24_in
  have hP := hC.1
  obtain ⟨π, hR⟩ := hC.2.1
  obtain ⟨ρ4, hp4⟩ := hC.2.2.1
  obtain ⟨σ0, e0⟩ : ∃ z, z = σ := ⟨σ, rfl⟩
  have hCx : CI σ0 N r hs T n := by rw [e0]; exact hC
  have hP0 : PF σ0.2.2 := by rw [e0]; exact hP
  have hF : Fr σ0 σ 24 := by rw [e0]; exact Fr.rf
  refine Ct.of (ls := [(0, rf b 0), (1, .int x)]) (by decide) (Nat.le_of_ble_eq_true rfl) rfl ?_
  intro pg e s m args below meth c Q hQ X hnm
  refine K_iload_n X 1 dX5_ifClosed_0 rfl rfl ?_
  refine K_iconst X dX5_ifClosed_1 cii_0 ?_
  refine K_bipush X dX5_ifClosed_2 cib_10 ?_
  refine K_callSE X (c_X5_withinQ l D b hsh _ _ _ _) my_X5_within wt_X5_within wm_X5_44 ⟨rfl, rfl, Nat.le_of_ble_eq_true rfl, Nat.le_of_ble_eq_true rfl, Nat.le_of_ble_eq_true rfl, Nat.le_of_ble_eq_true rfl⟩ rfl rfl (Nat.le_of_ble_eq_true rfl) dX5_ifClosed_4 ?_
  refine K_ifB_ne (tgt := 13) X dX5_ifClosed_7 (by decide) (fun c7 => ?_) (fun c7 => ?_)
  · obtain ⟨v, hlv, hhv, rfl⟩ := qIn_ex (lo := 0) (hi := 10) (by decide) (by decide) c7
    refine K_aload_n X 0 dX5_ifClosed_13 rfl rfl ?_
    refine K_get X 1 kFd5 rfl (by decide) (sf_c hsh) wf_X5_16 rfl (v := rf b (24)) (kv_o (pf_01 hP)) dX5_ifClosed_14 ?_
    refine K_aload_n X 0 dX5_ifClosed_17 rfl rfl ?_
    refine K_get X 0 kFd5 rfl (by decide) (sf_c hsh) wf_X5_10 rfl (v := rf b (1)) (kv_o (pf_00 hP)) dX5_ifClosed_18 ?_
    refine K_callVP0 X (c_X4_copyFrom l D b hsh _ 24 1 _ _ _ hP ho4 ho (by decide) hp4 hR h2) my_X4_copyFrom mv_X4_copyFrom wm_X5_216 (so_0 hsh 24 ho4) rfl ⟨rfl, rfl, Nat.le_of_ble_eq_true rfl, Nat.le_of_ble_eq_true rfl, Nat.le_of_ble_eq_true rfl, Nat.le_of_ble_eq_true rfl⟩ rfl rfl (Nat.le_of_ble_eq_true rfl) dX5_ifClosed_21 (fun σ21 h21 => ?_)
    refine K_gen (φ := fun τ => SP _ τ 24 (N)) h21 (fun σ h => ?_)
    obtain ⟨⟨π, hR⟩, hF1⟩ := h
    have hF := hF.tr hF1
    have hP := hF.PF ho4 hP0
    refine K_iconst X dX5_ifClosed_24 cii_0 ?_
    refine K_istore_n X (ls' := [(2, _), (0, _), (1, _)]) dX5_ifClosed_25 rfl (by decide) rfl ?_
    have loop : ∀ i : Nat, i ≤ v → ∀ (τ : KS) (π : Nat → Nat), Rs τ 24 π (qPs N i) → Fr σ0 τ 24 → i ≤ 10 - N 1 → K pg l e (rM 5 112) s m args below meth c Q D b 3 0 0 sh τ 26 [(0, rf b 0), (1, .int (nI v)), (2, .int (nI i))] [] := by
      refine kup (fun i hi ih => ?_)
      intro σ π hR hF hi4
      have hP := hF.PF ho4 hP0
      obtain ⟨hqI, hq1, hq5⟩ := qPs_k hI (j := i) hi4
      refine K_iload_n X 2 dX5_ifClosed_26 rfl rfl ?_
      refine K_iload_n X 1 dX5_ifClosed_27 rfl rfl ?_
      refine K_icmpN_ge (tgt := 56) X dX5_ifClosed_28 (by decide) (by omega) (by omega) (fun c28 => ?_) (fun c28 => ?_)
      · refine K_aload_n X 0 dX5_ifClosed_56 rfl rfl ?_
        refine K_get X 1 kFd5 rfl (by decide) (sf_c hsh) wf_X5_16 rfl (v := rf b (24)) (kv_o (pf_01 hP)) dX5_ifClosed_57 ?_
        refine K_callVP X (c_X4_closeDay l D b hsh _ _ _ _ hP ho4 hR hqI (qPs_U hU i).1 (by rw [(qPs_U hU i).2]; exact hB)) my_X4_closeDay mv_X4_closeDay wm_X5_157 (so_0 hsh 24 ho4) rfl ⟨rfl, rfl, Nat.le_of_ble_eq_true rfl, Nat.le_of_ble_eq_true rfl, Nat.le_of_ble_eq_true rfl, Nat.le_of_ble_eq_true rfl⟩ rfl rfl (Nat.le_of_ble_eq_true rfl) dX5_ifClosed_60 (fun σ60 h60 => ?_)
        refine K_gen (φ := fun τ => SP _ τ 24 (qClose (qPs N i))) h60 (fun σ h => ?_)
        obtain ⟨⟨π, hR⟩, hF1⟩ := h
        have hF := hF.tr hF1
        have hP := hF.PF ho4 hP0
        exact K_iret X hQ dX5_ifClosed_63 (⟨by unfold aIfC qIfC; rw [if_pos c7, tN_nI (by omega), show min v (10 - N 1) = i from by omega, hq5], by rw [← e0]; exact Cf.fr ho4 hF, (hCx.tr h2 hF ⟨_, rs_p hR⟩)⟩)
      · refine K_aload_n X 0 dX5_ifClosed_31 rfl rfl ?_
        refine K_get X 1 kFd5 rfl (by decide) (sf_c hsh) wf_X5_16 rfl (v := rf b (24)) (kv_o (pf_01 hP)) dX5_ifClosed_32 ?_
        refine K_get X 1 kFd4 rfl (by decide) (so_0 hsh 24 ho4) wf_X5_148 rfl (v := .int (nI ((qPs N i) 1))) (congrArg Value.int (rs_i hR 1 (by decide))) dX5_ifClosed_35 ?_
        rw [hq1]
        refine K_bipush X dX5_ifClosed_38 cib_10 ?_
        refine K_icmpN_ge (tgt := 56) X dX5_ifClosed_40 (by decide) (by omega) (by omega) (fun c40 => ?_) (fun c40 => ?_)
        · refine K_aload_n X 0 dX5_ifClosed_56 rfl rfl ?_
          refine K_get X 1 kFd5 rfl (by decide) (sf_c hsh) wf_X5_16 rfl (v := rf b (24)) (kv_o (pf_01 hP)) dX5_ifClosed_57 ?_
          refine K_callVP X (c_X4_closeDay l D b hsh _ _ _ _ hP ho4 hR hqI (qPs_U hU i).1 (by rw [(qPs_U hU i).2]; exact hB)) my_X4_closeDay mv_X4_closeDay wm_X5_157 (so_0 hsh 24 ho4) rfl ⟨rfl, rfl, Nat.le_of_ble_eq_true rfl, Nat.le_of_ble_eq_true rfl, Nat.le_of_ble_eq_true rfl, Nat.le_of_ble_eq_true rfl⟩ rfl rfl (Nat.le_of_ble_eq_true rfl) dX5_ifClosed_60 (fun σ60 h60 => ?_)
          refine K_gen (φ := fun τ => SP _ τ 24 (qClose (qPs N i))) h60 (fun σ h => ?_)
          obtain ⟨⟨π, hR⟩, hF1⟩ := h
          have hF := hF.tr hF1
          have hP := hF.PF ho4 hP0
          exact K_iret X hQ dX5_ifClosed_63 (⟨by unfold aIfC qIfC; rw [if_pos c7, tN_nI (by omega), show min v (10 - N 1) = i from by omega, hq5], by rw [← e0]; exact Cf.fr ho4 hF, (hCx.tr h2 hF ⟨_, rs_p hR⟩)⟩)
        · refine K_aload_n X 0 dX5_ifClosed_43 rfl rfl ?_
          refine K_get X 1 kFd5 rfl (by decide) (sf_c hsh) wf_X5_16 rfl (v := rf b (24)) (kv_o (pf_01 hP)) dX5_ifClosed_44 ?_
          refine K_callVP0 X (c_X4_passHour l D b hsh _ _ _ _ hP ho4 hR hqI) my_X4_passHour mv_X4_passHour wm_X5_151 (so_0 hsh 24 ho4) rfl ⟨rfl, rfl, Nat.le_of_ble_eq_true rfl, Nat.le_of_ble_eq_true rfl, Nat.le_of_ble_eq_true rfl, Nat.le_of_ble_eq_true rfl⟩ rfl rfl (Nat.le_of_ble_eq_true rfl) dX5_ifClosed_47 (fun σ47 h47 => ?_)
          refine K_gen (φ := fun τ => SP _ τ 24 (qPs N (i + 1))) h47 (fun σ h => ?_)
          obtain ⟨⟨π, hR⟩, hF1⟩ := h
          have hF := hF.tr hF1
          have hP := hF.PF ho4 hP0
          refine K_iinc X 2 (ls' := [(2, _), (0, _), (1, _)]) dX5_ifClosed_50 rfl (inc_1 _) (by decide) rfl ?_
          refine K_goto (tgt := 26) X dX5_ifClosed_53 (by decide) ?_
          exact K_sub [1, 2, 0] rfl (ih (by omega) σ _ hR hF (by omega))
    exact K_sub [1, 2, 0] rfl (loop 0 (Nat.zero_le _) σ π hR hF (Nat.zero_le _))
  · refine K_bipush X dX5_ifClosed_10 cib_m2 ?_
    exact K_iret X hQ dX5_ifClosed_12 (⟨by unfold aIfC; rw [qI_f c7] <;> rfl, Cf.rf, hC⟩)
