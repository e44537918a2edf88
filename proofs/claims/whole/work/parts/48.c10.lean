/-! THE CLASS: undo, the forecast of closing, all deliveries -/
set_option maxHeartbeats 4000000 in
set_option maxRecDepth 100000 in
theorem c_X5_undo (l : Launch) (D : KD) (b : Nat) (σ : KS) (N : Nat → Nat) (r : Nat) (hs : Nat → Nat → Nat) (T : Nat → Nat) (n : Nat) (hC : CI σ N r hs T n) : Ct l D b yX5_undo cX5_undo 1 (some .int) (rM 3 69) 0 0 [rf b 0] shF σ shF (pS (some (.int (if r = 0 then -3 else nI (r - 1)))) (fun τ => Cf σ τ ∧ if r = 0 then CI τ N r hs T n else CI τ (hs (r - 1)) (r - 1) hs T n)) := by
  have hP := hC.1
  obtain ⟨π, hR⟩ := hC.2.1
  obtain ⟨nx, h1, h2, hr, h4, h5, h6⟩ := hC.2.2.2.1
  refine Ct.of (ls := [(0, rf b 0)]) (by decide) (Nat.le_of_ble_eq_true rfl) rfl ?_
  intro pg e s m args below meth c Q hQ X hnm
  refine K_aload_n X 0 dX5_undo_0 rfl rfl ?_
  refine K_get X 3 kFd5 rfl (by decide) sf_c wf_X5_29 rfl (v := rf b (48)) (kv_o (pf_03 hP)) dX5_undo_1 ?_
  refine K_get X 0 kFd2 rfl (by decide) sf_h wf_X5_248 rfl (v := .int (nI r)) (congrArg Value.int (hr)) dX5_undo_4 ?_
  refine K_ifN_ne (tgt := 13) X dX5_undo_7 (by decide) (by omega) (fun c7 => ?_) (fun c7 => ?_)
  · refine K_aload_n X 0 dX5_undo_13 rfl rfl ?_
    refine K_get X 3 kFd5 rfl (by decide) sf_c wf_X5_29 rfl (v := rf b (48)) (kv_o (pf_03 hP)) dX5_undo_14 ?_
    refine K_aload_n X 0 dX5_undo_17 rfl rfl ?_
    refine K_get X 0 kFd5 rfl (by decide) sf_c wf_X5_10 rfl (v := rf b (1)) (kv_o (pf_00 hP)) dX5_undo_18 ?_
    refine K_callVP0 X (c_X2_restore l D b _ _ _ _ hP (rs_p hR) c7 hC.2.2.2.1) my_X2_restore mv_X2_restore wm_X5_251 sf_h rfl ⟨rfl, rfl, Nat.le_of_ble_eq_true rfl, Nat.le_of_ble_eq_true rfl, Nat.le_of_ble_eq_true rfl, Nat.le_of_ble_eq_true rfl⟩ rfl rfl (Nat.le_of_ble_eq_true rfl) dX5_undo_21 (fun σ21 h21 => ?_)
    obtain ⟨nx2, i1, i2, i3, i4, -⟩ := h21.1
    have hP := (hC.undo h21).2.1
    refine K_aload_n X 0 dX5_undo_24 rfl rfl ?_
    refine K_get X 3 kFd5 rfl (by decide) sf_c wf_X5_29 rfl (v := rf b (48)) (kv_o (pf_03 hP)) dX5_undo_25 ?_
    refine K_get X 0 kFd2 rfl (by decide) sf_h wf_X5_248 rfl (v := .int (nI (r - 1))) (congrArg Value.int (i3)) dX5_undo_28 ?_
    exact K_iret X hQ dX5_undo_31 (⟨by rw [if_neg c7], (hC.undo h21).1, by rw [if_neg c7]; exact (hC.undo h21).2⟩)
  · refine K_bipush X dX5_undo_10 cib_m3 ?_
    exact K_iret X hQ dX5_undo_12 (⟨by rw [if_pos c7] <;> rfl, Cf.rf, by rw [if_pos c7]; exact hC⟩)

set_option maxHeartbeats 4000000 in
set_option maxRecDepth 100000 in
theorem c_X5_ifClosed (l : Launch) (D : KD) (b : Nat) (σ : KS) (N : Nat → Nat) (r : Nat) (hs : Nat → Nat → Nat) (T : Nat → Nat) (n : Nat) (hC : CI σ N r hs T n) (x : Int32) (hI : qIr N) (hU : qU N) (hB : N 10 < 2 ^ 31) : Ct l D b yX5_ifClosed cX5_ifClosed 3 (some .int) (rM 5 112) 0 0 [rf b 0, .int x] shF σ shF (pS (some (.int (aIfC N x))) (fun τ => Cf σ τ ∧ CI τ N r hs T n)) := by
  have h2 := qi_2 hI
  have h1 := qi_1 hI
  have ho := s1_in
  have ho4 := s24_in
  have hP := hC.1
  obtain ⟨π, hR⟩ := hC.2.1
  obtain ⟨ρ4, hp4⟩ := hC.2.2.1
  obtain ⟨σ0, e0⟩ : ∃ z, z = σ := ⟨σ, rfl⟩
  have hCx : CI σ0 N r hs T n := by rw [e0]; exact hC
  have hP0 : PF σ0.2.2 := by rw [e0]; exact hP
  have hF : Fr σ0 σ 24 := by rw [e0]; exact Fr.rf
  refine Ct.of (ls := [(0, rf b 0), (1, .int x)]) (by decide) (Nat.le_of_ble_eq_true rfl) rfl ?_
  intro pg e s m args below meth c Q hQ X hnm
  refine K_iload_n X 1 dX5_ifClosed_0 rfl rfl ?_
  refine K_iconst X dX5_ifClosed_1 cii_0 ?_
  refine K_bipush X dX5_ifClosed_2 cib_10 ?_
  refine K_callSE X (c_X5_withinQ l D b _ _ _ _) my_X5_within wt_X5_within wm_X5_44 ⟨rfl, rfl, Nat.le_of_ble_eq_true rfl, Nat.le_of_ble_eq_true rfl, Nat.le_of_ble_eq_true rfl, Nat.le_of_ble_eq_true rfl⟩ rfl rfl (Nat.le_of_ble_eq_true rfl) dX5_ifClosed_4 ?_
  refine K_ifB_ne (tgt := 13) X dX5_ifClosed_7 (by decide) (fun c7 => ?_) (fun c7 => ?_)
  · obtain ⟨v, hlv, hhv, rfl⟩ := qIn_ex (lo := 0) (hi := 10) (by decide) (by decide) c7
    refine K_aload_n X 0 dX5_ifClosed_13 rfl rfl ?_
    refine K_get X 1 kFd5 rfl (by decide) sf_c wf_X5_16 rfl (v := rf b (24)) (kv_o (pf_01 hP)) dX5_ifClosed_14 ?_
    refine K_aload_n X 0 dX5_ifClosed_17 rfl rfl ?_
    refine K_get X 0 kFd5 rfl (by decide) sf_c wf_X5_10 rfl (v := rf b (1)) (kv_o (pf_00 hP)) dX5_ifClosed_18 ?_
    refine K_callVP0 X (c_X4_copyFrom l D b _ 24 1 _ _ _ hP ho4 ho (by decide) hp4 hR h2) my_X4_copyFrom mv_X4_copyFrom wm_X5_216 (so_0 24 ho4) rfl ⟨rfl, rfl, Nat.le_of_ble_eq_true rfl, Nat.le_of_ble_eq_true rfl, Nat.le_of_ble_eq_true rfl, Nat.le_of_ble_eq_true rfl⟩ rfl rfl (Nat.le_of_ble_eq_true rfl) dX5_ifClosed_21 (fun σ21 h21 => ?_)
    refine K_gen (φ := fun τ => SP _ τ 24 (N)) h21 (fun σ h => ?_)
    obtain ⟨⟨π, hR⟩, hF1⟩ := h
    have hF := hF.tr hF1
    have hP := hF.PF ho4 hP0
    refine K_iconst X dX5_ifClosed_24 cii_0 ?_
    refine K_istore_n X (ls' := [(2, _), (0, _), (1, _)]) dX5_ifClosed_25 rfl (by decide) rfl ?_
    have loop : ∀ i : Nat, i ≤ v → ∀ (τ : KS) (π : Nat → Nat), Rs τ 24 π (qPs N i) → Fr σ0 τ 24 → i ≤ 10 - N 1 → K pg l e (rM 5 112) s m args below meth c Q D b 3 0 0 shF τ 26 [(0, rf b 0), (1, .int (nI v)), (2, .int (nI i))] [] := by
      refine kup (fun i hi ih => ?_)
      intro σ π hR hF hi4
      have hP := hF.PF ho4 hP0
      obtain ⟨hqI, hq1, hq5⟩ := qPs_k hI (j := i) hi4
      refine K_iload_n X 2 dX5_ifClosed_26 rfl rfl ?_
      refine K_iload_n X 1 dX5_ifClosed_27 rfl rfl ?_
      refine K_icmpN_ge (tgt := 56) X dX5_ifClosed_28 (by decide) (by omega) (by omega) (fun c28 => ?_) (fun c28 => ?_)
      · refine K_aload_n X 0 dX5_ifClosed_56 rfl rfl ?_
        refine K_get X 1 kFd5 rfl (by decide) sf_c wf_X5_16 rfl (v := rf b (24)) (kv_o (pf_01 hP)) dX5_ifClosed_57 ?_
        refine K_callVP X (c_X4_closeDay l D b _ _ _ _ hP ho4 hR hqI (qPs_U hU i).1 (by rw [(qPs_U hU i).2]; exact hB)) my_X4_closeDay mv_X4_closeDay wm_X5_157 (so_0 24 ho4) rfl ⟨rfl, rfl, Nat.le_of_ble_eq_true rfl, Nat.le_of_ble_eq_true rfl, Nat.le_of_ble_eq_true rfl, Nat.le_of_ble_eq_true rfl⟩ rfl rfl (Nat.le_of_ble_eq_true rfl) dX5_ifClosed_60 (fun σ60 h60 => ?_)
        refine K_gen (φ := fun τ => SP _ τ 24 (qClose (qPs N i))) h60 (fun σ h => ?_)
        obtain ⟨⟨π, hR⟩, hF1⟩ := h
        have hF := hF.tr hF1
        have hP := hF.PF ho4 hP0
        exact K_iret X hQ dX5_ifClosed_63 (⟨by unfold aIfC qIfC; rw [if_pos c7, tN_nI (by omega), show min v (10 - N 1) = i from by omega, hq5], by rw [← e0]; exact Cf.fr ho4 hF, (hCx.tr h2 hF ⟨_, rs_p hR⟩)⟩)
      · refine K_aload_n X 0 dX5_ifClosed_31 rfl rfl ?_
        refine K_get X 1 kFd5 rfl (by decide) sf_c wf_X5_16 rfl (v := rf b (24)) (kv_o (pf_01 hP)) dX5_ifClosed_32 ?_
        refine K_get X 1 kFd4 rfl (by decide) (so_0 24 ho4) wf_X5_148 rfl (v := .int (nI ((qPs N i) 1))) (congrArg Value.int (rs_i hR 1 (by decide))) dX5_ifClosed_35 ?_
        rw [hq1]
        refine K_bipush X dX5_ifClosed_38 cib_10 ?_
        refine K_icmpN_ge (tgt := 56) X dX5_ifClosed_40 (by decide) (by omega) (by omega) (fun c40 => ?_) (fun c40 => ?_)
        · refine K_aload_n X 0 dX5_ifClosed_56 rfl rfl ?_
          refine K_get X 1 kFd5 rfl (by decide) sf_c wf_X5_16 rfl (v := rf b (24)) (kv_o (pf_01 hP)) dX5_ifClosed_57 ?_
          refine K_callVP X (c_X4_closeDay l D b _ _ _ _ hP ho4 hR hqI (qPs_U hU i).1 (by rw [(qPs_U hU i).2]; exact hB)) my_X4_closeDay mv_X4_closeDay wm_X5_157 (so_0 24 ho4) rfl ⟨rfl, rfl, Nat.le_of_ble_eq_true rfl, Nat.le_of_ble_eq_true rfl, Nat.le_of_ble_eq_true rfl, Nat.le_of_ble_eq_true rfl⟩ rfl rfl (Nat.le_of_ble_eq_true rfl) dX5_ifClosed_60 (fun σ60 h60 => ?_)
          refine K_gen (φ := fun τ => SP _ τ 24 (qClose (qPs N i))) h60 (fun σ h => ?_)
          obtain ⟨⟨π, hR⟩, hF1⟩ := h
          have hF := hF.tr hF1
          have hP := hF.PF ho4 hP0
          exact K_iret X hQ dX5_ifClosed_63 (⟨by unfold aIfC qIfC; rw [if_pos c7, tN_nI (by omega), show min v (10 - N 1) = i from by omega, hq5], by rw [← e0]; exact Cf.fr ho4 hF, (hCx.tr h2 hF ⟨_, rs_p hR⟩)⟩)
        · refine K_aload_n X 0 dX5_ifClosed_43 rfl rfl ?_
          refine K_get X 1 kFd5 rfl (by decide) sf_c wf_X5_16 rfl (v := rf b (24)) (kv_o (pf_01 hP)) dX5_ifClosed_44 ?_
          refine K_callVP0 X (c_X4_passHour l D b _ _ _ _ hP ho4 hR hqI) my_X4_passHour mv_X4_passHour wm_X5_151 (so_0 24 ho4) rfl ⟨rfl, rfl, Nat.le_of_ble_eq_true rfl, Nat.le_of_ble_eq_true rfl, Nat.le_of_ble_eq_true rfl, Nat.le_of_ble_eq_true rfl⟩ rfl rfl (Nat.le_of_ble_eq_true rfl) dX5_ifClosed_47 (fun σ47 h47 => ?_)
          refine K_gen (φ := fun τ => SP _ τ 24 (qPs N (i + 1))) h47 (fun σ h => ?_)
          obtain ⟨⟨π, hR⟩, hF1⟩ := h
          have hF := hF.tr hF1
          have hP := hF.PF ho4 hP0
          refine K_iinc X 2 (ls' := [(2, _), (0, _), (1, _)]) dX5_ifClosed_50 rfl (inc_1 _) (by decide) rfl ?_
          refine K_goto (tgt := 26) X dX5_ifClosed_53 (by decide) ?_
          exact K_sub [1, 2, 0] rfl (ih (by omega) σ _ hR hF (by omega))
    exact K_sub [1, 2, 0] rfl (loop 0 (Nat.zero_le _) σ π hR hF (Nat.zero_le _))
  · refine K_bipush X dX5_ifClosed_10 cib_m2 ?_
    exact K_iret X hQ dX5_ifClosed_12 (⟨by unfold aIfC; rw [qI_f c7] <;> rfl, Cf.rf, hC⟩)

set_option maxHeartbeats 4000000 in
set_option maxRecDepth 100000 in
theorem c_X5_deliverAll (l : Launch) (D : KD) (b : Nat) (σ : KS) (N : Nat → Nat) (r : Nat) (hs : Nat → Nat → Nat) (T : Nat → Nat) (n : Nat) (hC : CI σ N r hs T n) (hI : qIr N) (hU : qU N) (hn : n ≤ 80) (hT : ∀ j, j < n → T j < 128) : Ct l D b yX5_deliverAll cX5_deliverAll 2 (some .int) (rM 4 87) 0 0 [rf b 0] shF σ shF (pS (some (.int (oDelAll T n N).1)) (fun τ => CD σ N r hs T n (oDelAll T n N).2 τ)) := by
  have h2 := qi_2 hI
  have ho := s1_in
  have hP := hC.1
  obtain ⟨x0, x1⟩ := hC.2.2.2.2
  obtain ⟨σ0, e0⟩ : ∃ z, z = σ := ⟨σ, rfl⟩
  have hK : Cf σ0 σ := by rw [e0]; exact Cf.rf
  refine Ct.of (ls := [(0, rf b 0)]) (by decide) (Nat.le_of_ble_eq_true rfl) rfl ?_
  intro pg e s m args below meth c Q hQ X hnm
  refine K_st (σ' := wI σ 188 (σ.1 188)) (wI_id rfl).symm ?_
  refine K_aload_n X 0 dX5_deliverAll_0 rfl rfl ?_
  refine K_get X 4 kFd5 rfl (by decide) sf_c wf_X5_36 rfl (v := rf b (188)) (kv_o (pf_04 hP)) dX5_deliverAll_1 ?_
  refine K_callVP X (c_X0_firstError l D b σ (σ.1 188) T n hP hn x0 hT x1) my_X0_firstError mv_X0_firstError wm_X5_230 sf_t rfl ⟨rfl, rfl, Nat.le_of_ble_eq_true rfl, Nat.le_of_ble_eq_true rfl, Nat.le_of_ble_eq_true rfl, Nat.le_of_ble_eq_true rfl⟩ rfl rfl (Nat.le_of_ble_eq_true rfl) dX5_deliverAll_4 (fun σ4 h4 => ?_)
  obtain ⟨G, rfl, g0⟩ := h4
  refine K_gen (φ := fun τ => CI τ N r hs T n ∧ Cf σ0 τ) ⟨hC.ro h2 (Or.inr ⟨rfl, g0⟩), hK.tr (Cf.i (by decide))⟩ (fun σ hz => ?_)
  obtain ⟨hC, hK⟩ := hz
  have hP := hC.1
  obtain ⟨π, hR⟩ := hC.2.1
  refine K_bipush X dX5_deliverAll_7 cib_m6 ?_
  refine K_icmp_eq (tgt := 15) X dX5_deliverAll_9 (by decide) (fun c9 => ?_) (fun c9 => ?_)
  · have hok : xErr T n 81 0 = -6 := c9
    refine K_aload_n X 0 dX5_deliverAll_15 rfl rfl ?_
    refine K_get X 3 kFd5 rfl (by decide) sf_c wf_X5_29 rfl (v := rf b (48)) (kv_o (pf_03 hP)) dX5_deliverAll_16 ?_
    refine K_aload_n X 0 dX5_deliverAll_19 rfl rfl ?_
    refine K_get X 0 kFd5 rfl (by decide) sf_c wf_X5_10 rfl (v := rf b (1)) (kv_o (pf_00 hP)) dX5_deliverAll_20 ?_
    refine K_callVP0 X (c_X2_save l D b _ _ _ _ _ hP hR h2 hC.2.2.2.1) my_X2_save mv_X2_save wm_X5_48 sf_h rfl ⟨rfl, rfl, Nat.le_of_ble_eq_true rfl, Nat.le_of_ble_eq_true rfl, Nat.le_of_ble_eq_true rfl, Nat.le_of_ble_eq_true rfl⟩ rfl rfl (Nat.le_of_ble_eq_true rfl) dX5_deliverAll_23 (fun σ23 h23 => ?_)
    refine K_gen (φ := fun τ => Hs τ (qRr r + 1) (hsN hs r N) ∧ Fh _ τ) h23 (fun σ hv => ?_)
    have hC := hC.fh h2 hv
    have hK := hK.tr hv.2.cf
    have hP := hC.1
    refine K_st (σ' := wI σ 188 (σ.1 188)) (wI_id rfl).symm ?_
    refine K_iconst X dX5_deliverAll_26 cii_0 ?_
    refine K_istore_n X (ls' := [(1, _), (0, _)]) dX5_deliverAll_27 rfl (by decide) rfl ?_
    refine K_aload_n X 1 dX5_deliverAll_28 rfl rfl ?_
    refine K_get X 4 kFd5 rfl (by decide) sf_c wf_X5_36 rfl (v := rf b (188)) (kv_o (pf_04 hP)) dX5_deliverAll_29 ?_
    refine K_callVE0 X (c_X0_startReading l D b σ (σ.1 188)) my_X0_startReading mv_X0_startReading wm_X5_233 sf_t rfl ⟨rfl, rfl, Nat.le_of_ble_eq_true rfl, Nat.le_of_ble_eq_true rfl, Nat.le_of_ble_eq_true rfl, Nat.le_of_ble_eq_true rfl⟩ rfl rfl (Nat.le_of_ble_eq_true rfl) dX5_deliverAll_32 ?_
    refine K_gen (φ := fun τ => CI τ N (qRr r + 1) (hsN hs r N) T n ∧ Cf σ0 τ ∧ τ.1 188 5 = nI 0) ⟨hC.ro h2 (Or.inr ⟨rfl, rfl⟩), hK.tr (Cf.i (by decide)), by rw [wI_self]; rfl⟩ (fun σ hz => ?_)
    obtain ⟨hC, hK, h5⟩ := hz
    have loop : ∀ i : Nat, i ≤ 16 → ∀ (p : Nat) (M : Nat → Nat) (τ : KS), CI τ M (qRr r + 1) (hsN hs r N) T n → Cf σ0 τ → τ.1 188 5 = nI p → p ≤ n → qIr M → qU M → M 2 = N 2 + i → xDA T n (81 - i) p M i = xDA T n 81 0 N 0 → K pg l e (rM 4 87) s m args below meth c Q D b 2 0 0 shF τ 35 [(0, rf b 0), (1, .int (nI i))] [] := by
      refine kup (fun i hi ih => ?_)
      intro p M σ hC hK h5 hp hI hU hMi hg
      have hM2 := qi_2 hI
      have hP := hC.1
      obtain ⟨x0, x1⟩ := hC.2.2.2.2
      have hb := xItem_b (T := T) hp
      refine K_iload_n X 1 dX5_deliverAll_35 rfl rfl ?_
      refine K_bipush X dX5_deliverAll_36 cib_16 ?_
      refine K_icmpN_ge (tgt := 123) X dX5_deliverAll_38 (by decide) (by omega) (by omega) (fun c38 => ?_) (fun c38 => ?_)
      · refine K_aload_n X 0 dX5_deliverAll_123 rfl rfl ?_
        refine K_get X 4 kFd5 rfl (by decide) sf_c wf_X5_36 rfl (v := rf b (188)) (kv_o (pf_04 hP)) dX5_deliverAll_124 ?_
        refine K_iconst X dX5_deliverAll_127 cii_0 ?_
        refine K_putI X 0 kFd0 rfl (by decide) sf_t wf_X5_223 rfl rfl rfl dX5_deliverAll_128 ?_
        refine K_iload_n X 1 dX5_deliverAll_131 rfl rfl ?_
        exact K_iret X hQ dX5_deliverAll_132 (by have hg2 : (i, M) = xDA T n 81 0 N 0 := (by rw [← hg]; exact (xDA_stop (fun q hq => qRoom_16 (by omega))).symm); rw [show oDelAll T n N = (nI i, some M) from by unfold oDelAll; rw [if_pos hok, ← hg2]]; exact ⟨rfl, by rw [← e0]; exact hK.tr (Cf.i (by decide)), hC.tx hM2 (fun x hx => wI_ne (by omega)) rfl ⟨(congrFun wI_self 0).trans (if_pos rfl), fun k hk => by omega⟩⟩)
      · refine K_aload_n X 0 dX5_deliverAll_41 rfl rfl ?_
        refine K_get X 4 kFd5 rfl (by decide) sf_c wf_X5_36 rfl (v := rf b (188)) (kv_o (pf_04 hP)) dX5_deliverAll_42 ?_
        refine K_st (σ' := wI σ 188 (σ.1 188)) (wI_id rfl).symm ?_
        refine K_callVP X (c_X0_readItem l D b σ (σ.1 188) T n p hP hn x0 hT x1 h5 hp) my_X0_readItem mv_X0_readItem wm_X5_236 sf_t rfl ⟨rfl, rfl, Nat.le_of_ble_eq_true rfl, Nat.le_of_ble_eq_true rfl, Nat.le_of_ble_eq_true rfl, Nat.le_of_ble_eq_true rfl⟩ rfl rfl (Nat.le_of_ble_eq_true rfl) dX5_deliverAll_45 (fun σ45 h45 => ?_)
        obtain ⟨Y, rfl, y0, y5, yq⟩ := h45
        refine K_gen (φ := fun τ => CI τ M (qRr r + 1) (hsN hs r N) T n ∧ Cf σ0 τ ∧ τ.1 188 = Y) ⟨hC.ro hM2 (Or.inr ⟨rfl, y0⟩), hK.tr (Cf.i (by decide)), wI_self⟩ (fun σ hz => ?_)
        obtain ⟨hC, hK, hY⟩ := hz
        have hP := hC.1
        obtain ⟨π, hR⟩ := hC.2.1
        obtain ⟨x0, x1⟩ := hC.2.2.2.2
        refine K_ifB_eq (tgt := 123) X dX5_deliverAll_48 (by decide) (fun c48 => ?_) (fun c48 => ?_)
        · refine K_aload_n X 0 dX5_deliverAll_123 rfl rfl ?_
          refine K_get X 4 kFd5 rfl (by decide) sf_c wf_X5_36 rfl (v := rf b (188)) (kv_o (pf_04 hP)) dX5_deliverAll_124 ?_
          refine K_iconst X dX5_deliverAll_127 cii_0 ?_
          refine K_putI X 0 kFd0 rfl (by decide) sf_t wf_X5_223 rfl rfl rfl dX5_deliverAll_128 ?_
          refine K_iload_n X 1 dX5_deliverAll_131 rfl rfl ?_
          exact K_iret X hQ dX5_deliverAll_132 (by have hg2 : (i, M) = xDA T n 81 0 N 0 := (by rw [← hg]; exact (xDA_stop (fun q hq => by rw [hq] at c48; cases c48)).symm); rw [show oDelAll T n N = (nI i, some M) from by unfold oDelAll; rw [if_pos hok, ← hg2]]; exact ⟨rfl, by rw [← e0]; exact hK.tr (Cf.i (by decide)), hC.tx hM2 (fun x hx => wI_ne (by omega)) rfl ⟨(congrFun wI_self 0).trans (if_pos rfl), fun k hk => by omega⟩⟩)
        · obtain ⟨q, hq⟩ := isS_t c48
          obtain ⟨z1, z2, z3, z4, z5⟩ := hb.2 q hq
          obtain ⟨e1, e2, e3, e4⟩ := yq q hq
          refine K_aload_n X 0 dX5_deliverAll_51 rfl rfl ?_
          refine K_get X 0 kFd5 rfl (by decide) sf_c wf_X5_10 rfl (v := rf b (1)) (kv_o (pf_00 hP)) dX5_deliverAll_52 ?_
          refine K_aload_n X 0 dX5_deliverAll_55 rfl rfl ?_
          refine K_get X 4 kFd5 rfl (by decide) sf_c wf_X5_36 rfl (v := rf b (188)) (kv_o (pf_04 hP)) dX5_deliverAll_56 ?_
          refine K_get X 4 kFd0 rfl (by decide) sf_t wf_X5_240 rfl (v := .int (nI q.2.2.2)) (congrArg Value.int ((congrFun hY 4).trans e4)) dX5_deliverAll_59 ?_
          refine K_callVE X (c_X4_refusalOfNewLot l D b _ _ _ _ _ hP ho hR hI hU (by omega)) my_X4_refusalOfNewLot mv_X4_refusalOfNewLot wm_X5_75 (so_0 1 ho) rfl ⟨rfl, rfl, Nat.le_of_ble_eq_true rfl, Nat.le_of_ble_eq_true rfl, Nat.le_of_ble_eq_true rfl, Nat.le_of_ble_eq_true rfl⟩ rfl rfl (Nat.le_of_ble_eq_true rfl) dX5_deliverAll_62 ?_
          refine K_if_eq (tgt := 71) X dX5_deliverAll_65 (by decide) (fun c65 => ?_) (fun c65 => ?_)
          · obtain ⟨r1, r2⟩ := qRoom_0 c65
            refine K_aload_n X 0 dX5_deliverAll_71 rfl rfl ?_
            refine K_get X 0 kFd5 rfl (by decide) sf_c wf_X5_10 rfl (v := rf b (1)) (kv_o (pf_00 hP)) dX5_deliverAll_72 ?_
            refine K_aload_n X 0 dX5_deliverAll_75 rfl rfl ?_
            refine K_get X 4 kFd5 rfl (by decide) sf_c wf_X5_36 rfl (v := rf b (188)) (kv_o (pf_04 hP)) dX5_deliverAll_76 ?_
            refine K_get X 1 kFd0 rfl (by decide) sf_t wf_X5_241 rfl (v := .int (nI q.1)) (congrArg Value.int ((congrFun hY 1).trans e1)) dX5_deliverAll_79 ?_
            refine K_aload_n X 0 dX5_deliverAll_82 rfl rfl ?_
            refine K_get X 4 kFd5 rfl (by decide) sf_c wf_X5_36 rfl (v := rf b (188)) (kv_o (pf_04 hP)) dX5_deliverAll_83 ?_
            refine K_get X 2 kFd0 rfl (by decide) sf_t wf_X5_242 rfl (v := .int (nI q.2.1)) (congrArg Value.int ((congrFun hY 2).trans e2)) dX5_deliverAll_86 ?_
            refine K_aload_n X 0 dX5_deliverAll_89 rfl rfl ?_
            refine K_get X 4 kFd5 rfl (by decide) sf_c wf_X5_36 rfl (v := rf b (188)) (kv_o (pf_04 hP)) dX5_deliverAll_90 ?_
            refine K_get X 3 kFd0 rfl (by decide) sf_t wf_X5_243 rfl (v := .int (nI q.2.2.1)) (congrArg Value.int ((congrFun hY 3).trans e3)) dX5_deliverAll_93 ?_
            refine K_aload_n X 0 dX5_deliverAll_96 rfl rfl ?_
            refine K_get X 4 kFd5 rfl (by decide) sf_c wf_X5_36 rfl (v := rf b (188)) (kv_o (pf_04 hP)) dX5_deliverAll_97 ?_
            refine K_get X 4 kFd0 rfl (by decide) sf_t wf_X5_240 rfl (v := .int (nI q.2.2.2)) (congrArg Value.int ((congrFun hY 4).trans e4)) dX5_deliverAll_100 ?_
            refine K_callVP X (c_X4_buyLot l D b _ _ _ _ _ _ _ _ hP ho hR hI (by omega) (by omega) (by omega) (by omega)) my_X4_buyLot mv_X4_buyLot wm_X5_79 (so_0 1 ho) rfl ⟨rfl, rfl, Nat.le_of_ble_eq_true rfl, Nat.le_of_ble_eq_true rfl, Nat.le_of_ble_eq_true rfl, Nat.le_of_ble_eq_true rfl⟩ rfl rfl (Nat.le_of_ble_eq_true rfl) dX5_deliverAll_103 (fun σ103 h103 => ?_)
            refine K_gen (φ := fun τ => SP _ τ 1 _) h103 (fun σ h => ?_)
            have hY : σ.1 188 = Y := ((h.2.1 188 (by omega)).1).trans hY
            have hK := hK.tr (Cf.fr s1_in h.2)
            have hC := hC.sh h
            have hP := hC.1
            obtain ⟨x0, x1⟩ := hC.2.2.2.2
            refine K_pop X dX5_deliverAll_106 rfl ?_
            refine K_iinc X 1 (ls' := [(1, _), (0, _)]) dX5_deliverAll_107 rfl (inc_1 _) (by decide) rfl ?_
            refine K_aload_n X 1 dX5_deliverAll_110 rfl rfl ?_
            refine K_get X 4 kFd5 rfl (by decide) sf_c wf_X5_36 rfl (v := rf b (188)) (kv_o (pf_04 hP)) dX5_deliverAll_111 ?_
            refine K_bipush X dX5_deliverAll_114 cib_59 ?_
            refine K_st (σ' := wI σ 188 Y) (wI_id hY).symm ?_
            refine K_callVE X (c_X0_skipSign l D b σ Y T n (xItem T n p).2 59 hP hn (by rw [← hY]; exact x0) hT x1 y5 hb.1 (by decide)) my_X0_skipSign mv_X0_skipSign wm_X5_244 sf_t rfl ⟨rfl, rfl, Nat.le_of_ble_eq_true rfl, Nat.le_of_ble_eq_true rfl, Nat.le_of_ble_eq_true rfl, Nat.le_of_ble_eq_true rfl⟩ rfl rfl (Nat.le_of_ble_eq_true rfl) dX5_deliverAll_116 ?_
            refine K_pop X dX5_deliverAll_119 rfl ?_
            refine K_goto (tgt := 35) X dX5_deliverAll_120 (by decide) ?_
            exact K_sub [1, 0] rfl (ih (by omega) ((xItem T n p).2 + (if xIs T n 59 (xItem T n p).2 = true then 1 else 0)) _ _ (hC.ro (by rw [qDel_2]; omega) (Or.inr ⟨rfl, congrFun hY.symm 0⟩)) (hK.tr (Cf.i (by decide))) ((congrFun wI_self 5).trans (if_pos rfl)) (by by_cases hx : xIs T n 59 (xItem T n p).2 = true; (rw [if_pos hx]; exact xIs_lt hx); (rw [if_neg hx]; exact hb.1)) (qIr_del hI (by omega) (by omega) z3 z4 (by omega)) (qU_del hU (by omega) r1) (by rw [qDel_2]; omega) (by rw [← hg, show 81 - i = (80 - i) + 1 from by omega, xDA_s (by omega) hq, if_pos c65, show 81 - (i + 1) = 80 - i from by omega]))
          · refine K_goto (tgt := 123) X dX5_deliverAll_68 (by decide) ?_
            refine K_aload_n X 0 dX5_deliverAll_123 rfl rfl ?_
            refine K_get X 4 kFd5 rfl (by decide) sf_c wf_X5_36 rfl (v := rf b (188)) (kv_o (pf_04 hP)) dX5_deliverAll_124 ?_
            refine K_iconst X dX5_deliverAll_127 cii_0 ?_
            refine K_putI X 0 kFd0 rfl (by decide) sf_t wf_X5_223 rfl rfl rfl dX5_deliverAll_128 ?_
            refine K_iload_n X 1 dX5_deliverAll_131 rfl rfl ?_
            exact K_iret X hQ dX5_deliverAll_132 (by have hg2 : (i, M) = xDA T n 81 0 N 0 := (by rw [← hg]; exact (xDA_stop (fun z hz => by rw [hq] at hz; cases hz; exact c65)).symm); rw [show oDelAll T n N = (nI i, some M) from by unfold oDelAll; rw [if_pos hok, ← hg2]]; exact ⟨rfl, by rw [← e0]; exact hK.tr (Cf.i (by decide)), hC.tx hM2 (fun x hx => wI_ne (by omega)) rfl ⟨(congrFun wI_self 0).trans (if_pos rfl), fun k hk => by omega⟩⟩)
    exact K_sub [1, 0] rfl (loop 0 (Nat.zero_le _) 0 N σ hC hK h5 (Nat.zero_le _) hI hU rfl rfl)
  · refine K_bipush X dX5_deliverAll_12 cib_m5 ?_
    exact K_iret X hQ dX5_deliverAll_14 (by rw [show oDelAll T n N = (-5, none) from by unfold oDelAll; rw [if_neg c9]]; exact ⟨rfl, by rw [← e0]; exact hK, hC⟩)
