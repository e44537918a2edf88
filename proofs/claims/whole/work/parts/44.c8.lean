/-! THE CLASS: the calls that change the shop -/
set_option maxHeartbeats 4000000 in
set_option maxRecDepth 100000 in
theorem c_X5_setPrice (l : Launch) (D : KD) (b : Nat) (σ : KS) (N : Nat → Nat) (r : Nat) (hs : Nat → Nat → Nat) (T : Nat → Nat) (n : Nat) (kd pr co : Int32) (hC : CI σ N r hs T n) (hI : qIr N) (hU : qU N) (hB : N 10 < 2 ^ 31) : Ct l D b yX5_setPrice cX5_setPrice 5 (some .int) (rM 3 69) 0 0 [rf b 0, .int kd, .int pr, .int co] shF σ shF (pS (some (.int (oSetPrice N kd pr co).1)) (fun τ => CO σ N r hs T n (oSetPrice N kd pr co).2 τ)) := by
  have h2 := qi_2 hI
  have ho := s1_in
  have hP := hC.1
  obtain ⟨π, hR⟩ := hC.2.1
  refine Ct.of (ls := [(0, rf b 0), (1, .int kd), (2, .int pr), (3, .int co)]) (by decide) (Nat.le_of_ble_eq_true rfl) rfl ?_
  intro pg e s m args below meth c Q hQ X hnm
  refine K_iload_n X 1 dX5_setPrice_0 rfl rfl ?_
  refine K_callSE X (c_X5_isKind l D b _ _) my_X5_isKind wt_X5_isKind wm_X5_40 ⟨rfl, rfl, Nat.le_of_ble_eq_true rfl, Nat.le_of_ble_eq_true rfl, Nat.le_of_ble_eq_true rfl, Nat.le_of_ble_eq_true rfl⟩ rfl rfl (Nat.le_of_ble_eq_true rfl) dX5_setPrice_1 ?_
  refine K_ifB_ne (tgt := 9) X dX5_setPrice_4 (by decide) (fun c4 => ?_) (fun c4 => ?_)
  · obtain ⟨u, hlu, hhu, rfl⟩ := qIn_ex (lo := 0) (hi := 5) (by decide) (by decide) c4
    refine K_iload_n X 2 dX5_setPrice_9 rfl rfl ?_
    refine K_iconst X dX5_setPrice_10 cii_1 ?_
    refine K_sipush X dX5_setPrice_11 cis_9999 ?_
    refine K_callSE X (c_X5_withinQ l D b _ _ _ _) my_X5_within wt_X5_within wm_X5_44 ⟨rfl, rfl, Nat.le_of_ble_eq_true rfl, Nat.le_of_ble_eq_true rfl, Nat.le_of_ble_eq_true rfl, Nat.le_of_ble_eq_true rfl⟩ rfl rfl (Nat.le_of_ble_eq_true rfl) dX5_setPrice_14 ?_
    refine K_ifB_eq (tgt := 31) X dX5_setPrice_17 (by decide) (fun c17 => ?_) (fun c17 => ?_)
    · refine K_bipush X dX5_setPrice_31 cib_m2 ?_
      exact K_iret X hQ dX5_setPrice_33 (by rw [show oSetPrice N (nI u) pr co = (-2, none) from by unfold oSetPrice; rw [if_pos c4, if_neg (by rw [c17]; simp)]]; exact ⟨rfl, Cf.rf, hC⟩)
    · obtain ⟨v, hlv, hhv, rfl⟩ := qIn_ex (lo := 1) (hi := 9999) (by decide) (by decide) c17
      refine K_iload_n X 3 dX5_setPrice_20 rfl rfl ?_
      refine K_iconst X dX5_setPrice_21 cii_1 ?_
      refine K_sipush X dX5_setPrice_22 cis_9999 ?_
      refine K_callSE X (c_X5_withinQ l D b _ _ _ _) my_X5_within wt_X5_within wm_X5_44 ⟨rfl, rfl, Nat.le_of_ble_eq_true rfl, Nat.le_of_ble_eq_true rfl, Nat.le_of_ble_eq_true rfl, Nat.le_of_ble_eq_true rfl⟩ rfl rfl (Nat.le_of_ble_eq_true rfl) dX5_setPrice_25 ?_
      refine K_ifB_ne (tgt := 34) X dX5_setPrice_28 (by decide) (fun c28 => ?_) (fun c28 => ?_)
      · obtain ⟨z, hlz, hhz, rfl⟩ := qIn_ex (lo := 1) (hi := 9999) (by decide) (by decide) c28
        refine K_aload_n X 0 dX5_setPrice_34 rfl rfl ?_
        refine K_get X 3 kFd5 rfl (by decide) sf_c wf_X5_29 rfl (v := rf b (48)) (kv_o (pf_03 hP)) dX5_setPrice_35 ?_
        refine K_aload_n X 0 dX5_setPrice_38 rfl rfl ?_
        refine K_get X 0 kFd5 rfl (by decide) sf_c wf_X5_10 rfl (v := rf b (1)) (kv_o (pf_00 hP)) dX5_setPrice_39 ?_
        refine K_callVP0 X (c_X2_save l D b _ _ _ _ _ hP hR h2 hC.2.2.2.1) my_X2_save mv_X2_save wm_X5_48 sf_h rfl ⟨rfl, rfl, Nat.le_of_ble_eq_true rfl, Nat.le_of_ble_eq_true rfl, Nat.le_of_ble_eq_true rfl, Nat.le_of_ble_eq_true rfl⟩ rfl rfl (Nat.le_of_ble_eq_true rfl) dX5_setPrice_42 (fun σ42 h42 => ?_)
        refine K_gen (φ := fun τ => Hs τ (qRr r + 1) (hsN hs r N) ∧ Fh _ τ) h42 (fun σ hv => ?_)
        have hC := hC.fh h2 hv
        have hR := hv.2.rs hR h2
        have hK := hv.2.cf
        have hP := hC.1
        have hP0 := hP
        have hF := Fr.rf (σ := σ) (o := 1)
        refine K_aload_n X 0 dX5_setPrice_45 rfl rfl ?_
        refine K_get X 0 kFd5 rfl (by decide) sf_c wf_X5_10 rfl (v := rf b (1)) (kv_o (pf_00 hP)) dX5_setPrice_46 ?_
        refine K_get X 11 kFd4 rfl (by decide) (so_0 1 ho) wf_X5_52 rfl (v := rf b (1 + 1)) (kv_a (ps_11 hP ho)) dX5_setPrice_49 ?_
        refine K_iload_n X 1 dX5_setPrice_52 rfl rfl ?_
        refine K_iald X _ (so_1 1 ho) rfl (by omega) (by decide) (x := nI (N (11 + u))) (rs_a hR 1 (by decide) (by decide) (show _ < 6 from by omega)) dX5_setPrice_53 ?_
        refine K_istore X (ls' := [(4, _), (0, _), (1, _), (2, _), (3, _)]) dX5_setPrice_54 (by decide) rfl ?_
        refine K_aload_n X 1 dX5_setPrice_56 rfl rfl ?_
        refine K_get X 0 kFd5 rfl (by decide) sf_c wf_X5_10 rfl (v := rf b (1)) (kv_o (pf_00 hP)) dX5_setPrice_57 ?_
        refine K_get X 11 kFd4 rfl (by decide) (so_0 1 ho) wf_X5_52 rfl (v := rf b (1 + 1)) (kv_a (ps_11 hP ho)) dX5_setPrice_60 ?_
        refine K_iload_n X 2 dX5_setPrice_63 rfl rfl ?_
        refine K_iload_n X 3 dX5_setPrice_64 rfl rfl ?_
        refine K_iast X _ (so_1 1 ho) rfl (by omega) (by decide) dX5_setPrice_65 ?_
        refine K_gen (φ := fun τ => Rs τ 1 π (uN N (11 + u) v) ∧ Fr _ τ 1) ⟨hR.arr (a := 1) (k := u) (v := v) (by decide) (by decide) (show u < 6 from by omega), hF.tr (Fr.i (by omega) (by omega))⟩ (fun σ hs => ?_)
        obtain ⟨hR, hF⟩ := hs
        have hP := hF.PF ho hP0
        refine K_aload_n X 1 dX5_setPrice_66 rfl rfl ?_
        refine K_get X 0 kFd5 rfl (by decide) sf_c wf_X5_10 rfl (v := rf b (1)) (kv_o (pf_00 hP)) dX5_setPrice_67 ?_
        refine K_get X 12 kFd4 rfl (by decide) (so_0 1 ho) wf_X5_56 rfl (v := rf b (1 + 2)) (kv_a (ps_12 hP ho)) dX5_setPrice_70 ?_
        refine K_iload_n X 2 dX5_setPrice_73 rfl rfl ?_
        refine K_iload_n X 4 dX5_setPrice_74 rfl rfl ?_
        refine K_iast X _ (so_2 1 ho) rfl (by omega) (by decide) dX5_setPrice_75 ?_
        refine K_gen (φ := fun τ => Rs τ 1 π (uN (uN N (11 + u) v) (17 + u) z) ∧ Fr _ τ 1) ⟨hR.arr (a := 2) (k := u) (v := z) (by decide) (by decide) (show u < 6 from by omega), hF.tr (Fr.i (by omega) (by omega))⟩ (fun σ hs => ?_)
        obtain ⟨hR, hF⟩ := hs
        have hP := hF.PF ho hP0
        refine K_iload X 0 dX5_setPrice_76 rfl ?_
        exact K_iret X hQ dX5_setPrice_78 (by rw [show oSetPrice N (nI u) (nI v) (nI z) = (nI (N (11 + u)), some (uN (uN N (11 + u) v) (17 + u) z)) from by unfold oSetPrice; rw [if_pos c4, if_pos (by rw [c17, c28]; rfl), tN_nI (by omega), tN_nI (by omega), tN_nI (by omega)]]; exact ⟨rfl, hK.tr (Cf.fr s1_in hF), hC.sh ⟨⟨_, hR⟩, hF⟩⟩)
      · refine K_bipush X dX5_setPrice_31 cib_m2 ?_
        exact K_iret X hQ dX5_setPrice_33 (by rw [show oSetPrice N (nI u) (nI v) co = (-2, none) from by unfold oSetPrice; rw [if_pos c4, if_neg (by rw [c28]; simp)]]; exact ⟨rfl, Cf.rf, hC⟩)
  · refine K_iconst X dX5_setPrice_7 cii_m1 ?_
    exact K_iret X hQ dX5_setPrice_8 (by rw [show oSetPrice N kd pr co = (-1, none) from by unfold oSetPrice; rw [qI_f c4]]; exact ⟨rfl, Cf.rf, hC⟩)

set_option maxHeartbeats 4000000 in
set_option maxRecDepth 100000 in
theorem c_X5_setCut (l : Launch) (D : KD) (b : Nat) (σ : KS) (N : Nat → Nat) (r : Nat) (hs : Nat → Nat → Nat) (T : Nat → Nat) (n : Nat) (h pr : Int32) (hC : CI σ N r hs T n) (hI : qIr N) (hU : qU N) (hB : N 10 < 2 ^ 31) : Ct l D b yX5_setCut cX5_setCut 4 (some .int) (rM 3 69) 0 0 [rf b 0, .int h, .int pr] shF σ shF (pS (some (.int (oSetCut N h pr).1)) (fun τ => CO σ N r hs T n (oSetCut N h pr).2 τ)) := by
  have h2 := qi_2 hI
  have ho := s1_in
  have hP := hC.1
  obtain ⟨π, hR⟩ := hC.2.1
  refine Ct.of (ls := [(0, rf b 0), (1, .int h), (2, .int pr)]) (by decide) (Nat.le_of_ble_eq_true rfl) rfl ?_
  intro pg e s m args below meth c Q hQ X hnm
  refine K_iload_n X 1 dX5_setCut_0 rfl rfl ?_
  refine K_callSE X (c_X5_isHour l D b _ _) my_X5_isHour wt_X5_isHour wm_X5_59 ⟨rfl, rfl, Nat.le_of_ble_eq_true rfl, Nat.le_of_ble_eq_true rfl, Nat.le_of_ble_eq_true rfl, Nat.le_of_ble_eq_true rfl⟩ rfl rfl (Nat.le_of_ble_eq_true rfl) dX5_setCut_1 ?_
  refine K_ifB_ne (tgt := 9) X dX5_setCut_4 (by decide) (fun c4 => ?_) (fun c4 => ?_)
  · obtain ⟨u, hlu, hhu, rfl⟩ := qIn_ex (lo := 0) (hi := 10) (by decide) (by decide) c4
    refine K_iload_n X 2 dX5_setCut_9 rfl rfl ?_
    refine K_iconst X dX5_setCut_10 cii_0 ?_
    refine K_bipush X dX5_setCut_11 cib_90 ?_
    refine K_callSE X (c_X5_withinQ l D b _ _ _ _) my_X5_within wt_X5_within wm_X5_44 ⟨rfl, rfl, Nat.le_of_ble_eq_true rfl, Nat.le_of_ble_eq_true rfl, Nat.le_of_ble_eq_true rfl, Nat.le_of_ble_eq_true rfl⟩ rfl rfl (Nat.le_of_ble_eq_true rfl) dX5_setCut_13 ?_
    refine K_ifB_ne (tgt := 22) X dX5_setCut_16 (by decide) (fun c16 => ?_) (fun c16 => ?_)
    · obtain ⟨v, hlv, hhv, rfl⟩ := qIn_ex (lo := 0) (hi := 90) (by decide) (by decide) c16
      refine K_aload_n X 0 dX5_setCut_22 rfl rfl ?_
      refine K_get X 3 kFd5 rfl (by decide) sf_c wf_X5_29 rfl (v := rf b (48)) (kv_o (pf_03 hP)) dX5_setCut_23 ?_
      refine K_aload_n X 0 dX5_setCut_26 rfl rfl ?_
      refine K_get X 0 kFd5 rfl (by decide) sf_c wf_X5_10 rfl (v := rf b (1)) (kv_o (pf_00 hP)) dX5_setCut_27 ?_
      refine K_callVP0 X (c_X2_save l D b _ _ _ _ _ hP hR h2 hC.2.2.2.1) my_X2_save mv_X2_save wm_X5_48 sf_h rfl ⟨rfl, rfl, Nat.le_of_ble_eq_true rfl, Nat.le_of_ble_eq_true rfl, Nat.le_of_ble_eq_true rfl, Nat.le_of_ble_eq_true rfl⟩ rfl rfl (Nat.le_of_ble_eq_true rfl) dX5_setCut_30 (fun σ30 h30 => ?_)
      refine K_gen (φ := fun τ => Hs τ (qRr r + 1) (hsN hs r N) ∧ Fh _ τ) h30 (fun σ hv => ?_)
      have hC := hC.fh h2 hv
      have hR := hv.2.rs hR h2
      have hK := hv.2.cf
      have hP := hC.1
      have hP0 := hP
      have hF := Fr.rf (σ := σ) (o := 1)
      refine K_aload_n X 0 dX5_setCut_33 rfl rfl ?_
      refine K_get X 0 kFd5 rfl (by decide) sf_c wf_X5_10 rfl (v := rf b (1)) (kv_o (pf_00 hP)) dX5_setCut_34 ?_
      refine K_get X 13 kFd4 rfl (by decide) (so_0 1 ho) wf_X5_62 rfl (v := rf b (1 + 3)) (kv_a (ps_13 hP ho)) dX5_setCut_37 ?_
      refine K_iload_n X 1 dX5_setCut_40 rfl rfl ?_
      refine K_iald X _ (so_3 1 ho) rfl (by omega) (by decide) (x := nI (N (23 + u))) (rs_a hR 3 (by decide) (by decide) (show _ < 11 from by omega)) dX5_setCut_41 ?_
      refine K_istore_n X (ls' := [(3, _), (0, _), (1, _), (2, _)]) dX5_setCut_42 rfl (by decide) rfl ?_
      refine K_aload_n X 1 dX5_setCut_43 rfl rfl ?_
      refine K_get X 0 kFd5 rfl (by decide) sf_c wf_X5_10 rfl (v := rf b (1)) (kv_o (pf_00 hP)) dX5_setCut_44 ?_
      refine K_get X 13 kFd4 rfl (by decide) (so_0 1 ho) wf_X5_62 rfl (v := rf b (1 + 3)) (kv_a (ps_13 hP ho)) dX5_setCut_47 ?_
      refine K_iload_n X 2 dX5_setCut_50 rfl rfl ?_
      refine K_iload_n X 3 dX5_setCut_51 rfl rfl ?_
      refine K_iast X _ (so_3 1 ho) rfl (by omega) (by decide) dX5_setCut_52 ?_
      refine K_gen (φ := fun τ => Rs τ 1 π (uN N (23 + u) v) ∧ Fr _ τ 1) ⟨hR.arr (a := 3) (k := u) (v := v) (by decide) (by decide) (show u < 11 from by omega), hF.tr (Fr.i (by omega) (by omega))⟩ (fun σ hs => ?_)
      obtain ⟨hR, hF⟩ := hs
      have hP := hF.PF ho hP0
      refine K_iload_n X 0 dX5_setCut_53 rfl rfl ?_
      exact K_iret X hQ dX5_setCut_54 (by rw [show oSetCut N (nI u) (nI v) = (nI (N (23 + u)), some (uN N (23 + u) v)) from by unfold oSetCut; rw [if_pos c4, if_pos c16, tN_nI (by omega), tN_nI (by omega)]]; exact ⟨rfl, hK.tr (Cf.fr s1_in hF), hC.sh ⟨⟨_, hR⟩, hF⟩⟩)
    · refine K_bipush X dX5_setCut_19 cib_m2 ?_
      exact K_iret X hQ dX5_setCut_21 (by rw [show oSetCut N (nI u) pr = (-2, none) from by unfold oSetCut; rw [if_pos c4, qI_f c16]]; exact ⟨rfl, Cf.rf, hC⟩)
  · refine K_iconst X dX5_setCut_7 cii_m1 ?_
    exact K_iret X hQ dX5_setCut_8 (by rw [show oSetCut N h pr = (-1, none) from by unfold oSetCut; rw [qI_f c4]]; exact ⟨rfl, Cf.rf, hC⟩)

set_option maxHeartbeats 4000000 in
set_option maxRecDepth 100000 in
theorem c_X5_setMelting (l : Launch) (D : KD) (b : Nat) (σ : KS) (N : Nat → Nat) (r : Nat) (hs : Nat → Nat → Nat) (T : Nat → Nat) (n : Nat) (m0 li : Int32) (hC : CI σ N r hs T n) (hI : qIr N) (hU : qU N) (hB : N 10 < 2 ^ 31) : Ct l D b yX5_setMelting cX5_setMelting 4 (some .int) (rM 3 69) 0 0 [rf b 0, .int m0, .int li] shF σ shF (pS (some (.int (oSetMelt N m0 li).1)) (fun τ => CO σ N r hs T n (oSetMelt N m0 li).2 τ)) := by
  have h2 := qi_2 hI
  have ho := s1_in
  have hP := hC.1
  obtain ⟨π, hR⟩ := hC.2.1
  refine Ct.of (ls := [(0, rf b 0), (1, .int m0), (2, .int li)]) (by decide) (Nat.le_of_ble_eq_true rfl) rfl ?_
  intro pg e s m args below meth c Q hQ X hnm
  refine K_iload_n X 1 dX5_setMelting_0 rfl rfl ?_
  refine K_iconst X dX5_setMelting_1 cii_0 ?_
  refine K_sipush X dX5_setMelting_2 cis_500 ?_
  refine K_callSE X (c_X5_withinQ l D b _ _ _ _) my_X5_within wt_X5_within wm_X5_44 ⟨rfl, rfl, Nat.le_of_ble_eq_true rfl, Nat.le_of_ble_eq_true rfl, Nat.le_of_ble_eq_true rfl, Nat.le_of_ble_eq_true rfl⟩ rfl rfl (Nat.le_of_ble_eq_true rfl) dX5_setMelting_5 ?_
  refine K_ifB_eq (tgt := 21) X dX5_setMelting_8 (by decide) (fun c8 => ?_) (fun c8 => ?_)
  · refine K_bipush X dX5_setMelting_21 cib_m2 ?_
    exact K_iret X hQ dX5_setMelting_23 (by rw [show oSetMelt N m0 li = (-2, none) from by unfold oSetMelt; rw [if_neg (by rw [c8]; simp)]]; exact ⟨rfl, Cf.rf, hC⟩)
  · obtain ⟨u, hlu, hhu, rfl⟩ := qIn_ex (lo := 0) (hi := 500) (by decide) (by decide) c8
    refine K_iload_n X 2 dX5_setMelting_11 rfl rfl ?_
    refine K_iconst X dX5_setMelting_12 cii_0 ?_
    refine K_bipush X dX5_setMelting_13 cib_100 ?_
    refine K_callSE X (c_X5_withinQ l D b _ _ _ _) my_X5_within wt_X5_within wm_X5_44 ⟨rfl, rfl, Nat.le_of_ble_eq_true rfl, Nat.le_of_ble_eq_true rfl, Nat.le_of_ble_eq_true rfl, Nat.le_of_ble_eq_true rfl⟩ rfl rfl (Nat.le_of_ble_eq_true rfl) dX5_setMelting_15 ?_
    refine K_ifB_ne (tgt := 24) X dX5_setMelting_18 (by decide) (fun c18 => ?_) (fun c18 => ?_)
    · obtain ⟨v, hlv, hhv, rfl⟩ := qIn_ex (lo := 0) (hi := 100) (by decide) (by decide) c18
      refine K_aload_n X 0 dX5_setMelting_24 rfl rfl ?_
      refine K_get X 3 kFd5 rfl (by decide) sf_c wf_X5_29 rfl (v := rf b (48)) (kv_o (pf_03 hP)) dX5_setMelting_25 ?_
      refine K_aload_n X 0 dX5_setMelting_28 rfl rfl ?_
      refine K_get X 0 kFd5 rfl (by decide) sf_c wf_X5_10 rfl (v := rf b (1)) (kv_o (pf_00 hP)) dX5_setMelting_29 ?_
      refine K_callVP0 X (c_X2_save l D b _ _ _ _ _ hP hR h2 hC.2.2.2.1) my_X2_save mv_X2_save wm_X5_48 sf_h rfl ⟨rfl, rfl, Nat.le_of_ble_eq_true rfl, Nat.le_of_ble_eq_true rfl, Nat.le_of_ble_eq_true rfl, Nat.le_of_ble_eq_true rfl⟩ rfl rfl (Nat.le_of_ble_eq_true rfl) dX5_setMelting_32 (fun σ32 h32 => ?_)
      refine K_gen (φ := fun τ => Hs τ (qRr r + 1) (hsN hs r N) ∧ Fh _ τ) h32 (fun σ hv => ?_)
      have hC := hC.fh h2 hv
      have hR := hv.2.rs hR h2
      have hK := hv.2.cf
      have hP := hC.1
      have hP0 := hP
      have hF := Fr.rf (σ := σ) (o := 1)
      refine K_aload_n X 0 dX5_setMelting_35 rfl rfl ?_
      refine K_get X 0 kFd5 rfl (by decide) sf_c wf_X5_10 rfl (v := rf b (1)) (kv_o (pf_00 hP)) dX5_setMelting_36 ?_
      refine K_get X 3 kFd4 rfl (by decide) (so_0 1 ho) wf_X5_65 rfl (v := .int (nI (N 9))) (congrArg Value.int (rs_i hR 3 (by decide))) dX5_setMelting_39 ?_
      refine K_istore_n X (ls' := [(3, _), (0, _), (1, _), (2, _)]) dX5_setMelting_42 rfl (by decide) rfl ?_
      refine K_aload_n X 1 dX5_setMelting_43 rfl rfl ?_
      refine K_get X 0 kFd5 rfl (by decide) sf_c wf_X5_10 rfl (v := rf b (1)) (kv_o (pf_00 hP)) dX5_setMelting_44 ?_
      refine K_iload_n X 2 dX5_setMelting_47 rfl rfl ?_
      refine K_putI X 2 kFd4 rfl (by decide) (so_0 1 ho) wf_X5_69 rfl rfl rfl dX5_setMelting_48 ?_
      refine K_gen (φ := fun τ => Rs τ 1 π (uN N 8 u) ∧ Fr _ τ 1) ⟨hR.int (by omega) (k := 2) (by decide), hF.tr (Fr.i (by omega) (by omega))⟩ (fun σ hs => ?_)
      obtain ⟨hR, hF⟩ := hs
      have hP := hF.PF ho hP0
      refine K_aload_n X 1 dX5_setMelting_51 rfl rfl ?_
      refine K_get X 0 kFd5 rfl (by decide) sf_c wf_X5_10 rfl (v := rf b (1)) (kv_o (pf_00 hP)) dX5_setMelting_52 ?_
      refine K_iload_n X 3 dX5_setMelting_55 rfl rfl ?_
      refine K_putI X 3 kFd4 rfl (by decide) (so_0 1 ho) wf_X5_65 rfl rfl rfl dX5_setMelting_56 ?_
      refine K_gen (φ := fun τ => Rs τ 1 π (uN (uN N 8 u) 9 v) ∧ Fr _ τ 1) ⟨hR.int (by rw [uN_n (by decide)]; omega) (k := 3) (by decide), hF.tr (Fr.i (by omega) (by omega))⟩ (fun σ hs => ?_)
      obtain ⟨hR, hF⟩ := hs
      have hP := hF.PF ho hP0
      refine K_iload_n X 0 dX5_setMelting_59 rfl rfl ?_
      exact K_iret X hQ dX5_setMelting_60 (by rw [show oSetMelt N (nI u) (nI v) = (nI (N 9), some (uN (uN N 8 u) 9 v)) from by unfold oSetMelt; rw [if_pos (by rw [c8, c18]; rfl), tN_nI (by omega), tN_nI (by omega)]]; exact ⟨rfl, hK.tr (Cf.fr s1_in hF), hC.sh ⟨⟨_, hR⟩, hF⟩⟩)
    · refine K_bipush X dX5_setMelting_21 cib_m2 ?_
      exact K_iret X hQ dX5_setMelting_23 (by rw [show oSetMelt N (nI u) li = (-2, none) from by unfold oSetMelt; rw [if_neg (by rw [c18]; simp)]]; exact ⟨rfl, Cf.rf, hC⟩)

set_option maxHeartbeats 4000000 in
set_option maxRecDepth 100000 in
theorem c_X5_deliver (l : Launch) (D : KD) (b : Nat) (σ : KS) (N : Nat → Nat) (r : Nat) (hs : Nat → Nat → Nat) (T : Nat → Nat) (n : Nat) (kd g fr bx : Int32) (hC : CI σ N r hs T n) (hI : qIr N) (hU : qU N) (hB : N 10 < 2 ^ 31) : Ct l D b yX5_deliver cX5_deliver 6 (some .int) (rM 3 70) 0 0 [rf b 0, .int kd, .int g, .int fr, .int bx] shF σ shF (pS (some (.int (oDeliver N kd g fr bx).1)) (fun τ => CO σ N r hs T n (oDeliver N kd g fr bx).2 τ)) := by
  have h2 := qi_2 hI
  have ho := s1_in
  have hP := hC.1
  obtain ⟨π, hR⟩ := hC.2.1
  refine Ct.of (ls := [(0, rf b 0), (1, .int kd), (2, .int g), (3, .int fr), (4, .int bx)]) (by decide) (Nat.le_of_ble_eq_true rfl) rfl ?_
  intro pg e s m args below meth c Q hQ X hnm
  refine K_iload_n X 1 dX5_deliver_0 rfl rfl ?_
  refine K_callSE X (c_X5_isKind l D b _ _) my_X5_isKind wt_X5_isKind wm_X5_40 ⟨rfl, rfl, Nat.le_of_ble_eq_true rfl, Nat.le_of_ble_eq_true rfl, Nat.le_of_ble_eq_true rfl, Nat.le_of_ble_eq_true rfl⟩ rfl rfl (Nat.le_of_ble_eq_true rfl) dX5_deliver_1 ?_
  refine K_ifB_eq (tgt := 15) X dX5_deliver_4 (by decide) (fun c4 => ?_) (fun c4 => ?_)
  · refine K_iconst X dX5_deliver_15 cii_m1 ?_
    exact K_iret X hQ dX5_deliver_16 (by rw [show oDeliver N kd g fr bx = (-1, none) from by have ha : aWhy N kd g fr bx = -1 := (by unfold aWhy; rw [if_neg (by rw [c4]; simp)]); unfold oDeliver; rw [ha, if_neg (by decide)]]; exact ⟨rfl, Cf.rf, hC⟩)
  · obtain ⟨u, hlu, hhu, rfl⟩ := qIn_ex (lo := 0) (hi := 5) (by decide) (by decide) c4
    refine K_iload X 4 dX5_deliver_7 rfl ?_
    refine K_callSE X (c_X5_isBox l D b _ _) my_X5_isBox wt_X5_isBox wm_X5_72 ⟨rfl, rfl, Nat.le_of_ble_eq_true rfl, Nat.le_of_ble_eq_true rfl, Nat.le_of_ble_eq_true rfl, Nat.le_of_ble_eq_true rfl⟩ rfl rfl (Nat.le_of_ble_eq_true rfl) dX5_deliver_9 ?_
    refine K_ifB_ne (tgt := 17) X dX5_deliver_12 (by decide) (fun c12 => ?_) (fun c12 => ?_)
    · obtain ⟨y, hly, hhy, rfl⟩ := qIn_ex (lo := 0) (hi := 5) (by decide) (by decide) c12
      refine K_iload_n X 2 dX5_deliver_17 rfl rfl ?_
      refine K_iconst X dX5_deliver_18 cii_1 ?_
      refine K_sipush X dX5_deliver_19 cis_20000 ?_
      refine K_callSE X (c_X5_withinQ l D b _ _ _ _) my_X5_within wt_X5_within wm_X5_44 ⟨rfl, rfl, Nat.le_of_ble_eq_true rfl, Nat.le_of_ble_eq_true rfl, Nat.le_of_ble_eq_true rfl, Nat.le_of_ble_eq_true rfl⟩ rfl rfl (Nat.le_of_ble_eq_true rfl) dX5_deliver_22 ?_
      refine K_ifB_eq (tgt := 38) X dX5_deliver_25 (by decide) (fun c25 => ?_) (fun c25 => ?_)
      · refine K_bipush X dX5_deliver_38 cib_m2 ?_
        exact K_iret X hQ dX5_deliver_40 (by rw [show oDeliver N (nI u) g fr (nI y) = (-2, none) from by have ha : aWhy N (nI u) g fr (nI y) = -2 := (by unfold aWhy; rw [if_pos (by rw [c4, c12]; rfl), if_neg (by rw [c25]; simp)]); unfold oDeliver; rw [ha, if_neg (by decide)]]; exact ⟨rfl, Cf.rf, hC⟩)
      · obtain ⟨v, hlv, hhv, rfl⟩ := qIn_ex (lo := 1) (hi := 20000) (by decide) (by decide) c25
        refine K_iload_n X 3 dX5_deliver_28 rfl rfl ?_
        refine K_iconst X dX5_deliver_29 cii_0 ?_
        refine K_bipush X dX5_deliver_30 cib_100 ?_
        refine K_callSE X (c_X5_withinQ l D b _ _ _ _) my_X5_within wt_X5_within wm_X5_44 ⟨rfl, rfl, Nat.le_of_ble_eq_true rfl, Nat.le_of_ble_eq_true rfl, Nat.le_of_ble_eq_true rfl, Nat.le_of_ble_eq_true rfl⟩ rfl rfl (Nat.le_of_ble_eq_true rfl) dX5_deliver_32 ?_
        refine K_ifB_ne (tgt := 41) X dX5_deliver_35 (by decide) (fun c35 => ?_) (fun c35 => ?_)
        · obtain ⟨z, hlz, hhz, rfl⟩ := qIn_ex (lo := 0) (hi := 100) (by decide) (by decide) c35
          refine K_aload_n X 0 dX5_deliver_41 rfl rfl ?_
          refine K_get X 0 kFd5 rfl (by decide) sf_c wf_X5_10 rfl (v := rf b (1)) (kv_o (pf_00 hP)) dX5_deliver_42 ?_
          refine K_iload X 4 dX5_deliver_45 rfl ?_
          refine K_callVE X (c_X4_refusalOfNewLot l D b _ _ _ _ _ hP ho hR hI hU (by omega)) my_X4_refusalOfNewLot mv_X4_refusalOfNewLot wm_X5_75 (so_0 1 ho) rfl ⟨rfl, rfl, Nat.le_of_ble_eq_true rfl, Nat.le_of_ble_eq_true rfl, Nat.le_of_ble_eq_true rfl, Nat.le_of_ble_eq_true rfl⟩ rfl rfl (Nat.le_of_ble_eq_true rfl) dX5_deliver_47 ?_
          refine K_istore X (ls' := [(5, _), (0, _), (1, _), (2, _), (3, _), (4, _)]) dX5_deliver_50 (by decide) rfl ?_
          refine K_iload X 0 dX5_deliver_52 rfl ?_
          refine K_if_eq (tgt := 60) X dX5_deliver_54 (by decide) (fun c54 => ?_) (fun c54 => ?_)
          · obtain ⟨r1, r2⟩ := qRoom_0 c54
            refine K_aload_n X 1 dX5_deliver_60 rfl rfl ?_
            refine K_get X 3 kFd5 rfl (by decide) sf_c wf_X5_29 rfl (v := rf b (48)) (kv_o (pf_03 hP)) dX5_deliver_61 ?_
            refine K_aload_n X 1 dX5_deliver_64 rfl rfl ?_
            refine K_get X 0 kFd5 rfl (by decide) sf_c wf_X5_10 rfl (v := rf b (1)) (kv_o (pf_00 hP)) dX5_deliver_65 ?_
            refine K_callVP0 X (c_X2_save l D b _ _ _ _ _ hP hR h2 hC.2.2.2.1) my_X2_save mv_X2_save wm_X5_48 sf_h rfl ⟨rfl, rfl, Nat.le_of_ble_eq_true rfl, Nat.le_of_ble_eq_true rfl, Nat.le_of_ble_eq_true rfl, Nat.le_of_ble_eq_true rfl⟩ rfl rfl (Nat.le_of_ble_eq_true rfl) dX5_deliver_68 (fun σ68 h68 => ?_)
            refine K_gen (φ := fun τ => Hs τ (qRr r + 1) (hsN hs r N) ∧ Fh _ τ) h68 (fun σ hv => ?_)
            have hC := hC.fh h2 hv
            have hR := hv.2.rs hR h2
            have hK := hv.2.cf
            have hP := hC.1
            have hP0 := hP
            have hF := Fr.rf (σ := σ) (o := 1)
            refine K_aload_n X 1 dX5_deliver_71 rfl rfl ?_
            refine K_get X 0 kFd5 rfl (by decide) sf_c wf_X5_10 rfl (v := rf b (1)) (kv_o (pf_00 hP)) dX5_deliver_72 ?_
            refine K_iload_n X 2 dX5_deliver_75 rfl rfl ?_
            refine K_iload_n X 3 dX5_deliver_76 rfl rfl ?_
            refine K_iload_n X 4 dX5_deliver_77 rfl rfl ?_
            refine K_iload X 5 dX5_deliver_78 rfl ?_
            refine K_callVP X (c_X4_buyLot l D b _ _ _ _ _ _ _ _ hP ho hR hI (by omega) (by omega) (by omega) (by omega)) my_X4_buyLot mv_X4_buyLot wm_X5_79 (so_0 1 ho) rfl ⟨rfl, rfl, Nat.le_of_ble_eq_true rfl, Nat.le_of_ble_eq_true rfl, Nat.le_of_ble_eq_true rfl, Nat.le_of_ble_eq_true rfl⟩ rfl rfl (Nat.le_of_ble_eq_true rfl) dX5_deliver_80 (fun σ80 h80 => ?_)
            refine K_gen (φ := fun τ => SP _ τ 1 (_)) h80 (fun σ h => ?_)
            obtain ⟨⟨π, hR⟩, hF1⟩ := h
            have hF := hF.tr hF1
            have hP := hF.PF ho hP0
            exact K_iret X hQ dX5_deliver_83 (by rw [show oDeliver N (nI u) (nI v) (nI z) (nI y) = (nI (N 10 + 1), some (qDel N u v z y)) from by unfold oDeliver; rw [aWhy_in (by omega) ⟨by omega, by omega⟩ (by omega) (by omega), if_pos (by rw [c54]; decide), tN_nI (by omega), tN_nI (by omega), tN_nI (by omega), tN_nI (by omega)]]; exact ⟨rfl, hK.tr (Cf.fr s1_in hF), hC.sh ⟨⟨_, hR⟩, hF⟩⟩)
          · refine K_iload X 0 dX5_deliver_57 rfl ?_
            exact K_iret X hQ dX5_deliver_59 (by rw [show oDeliver N (nI u) (nI v) (nI z) (nI y) = (qRoom N y, none) from by unfold oDeliver; rw [aWhy_in (by omega) ⟨by omega, by omega⟩ (by omega) (by omega), if_neg (qRoom_no c54)]]; exact ⟨rfl, Cf.rf, hC⟩)
        · refine K_bipush X dX5_deliver_38 cib_m2 ?_
          exact K_iret X hQ dX5_deliver_40 (by rw [show oDeliver N (nI u) (nI v) fr (nI y) = (-2, none) from by have ha : aWhy N (nI u) (nI v) fr (nI y) = -2 := (by unfold aWhy; rw [if_pos (by rw [c4, c12]; rfl), if_neg (by rw [c35]; simp)]); unfold oDeliver; rw [ha, if_neg (by decide)]]; exact ⟨rfl, Cf.rf, hC⟩)
    · refine K_iconst X dX5_deliver_15 cii_m1 ?_
      exact K_iret X hQ dX5_deliver_16 (by rw [show oDeliver N (nI u) g fr bx = (-1, none) from by have ha : aWhy N (nI u) g fr bx = -1 := (by unfold aWhy; rw [if_neg (by rw [c12]; simp)]); unfold oDeliver; rw [ha, if_neg (by decide)]]; exact ⟨rfl, Cf.rf, hC⟩)

set_option maxHeartbeats 4000000 in
set_option maxRecDepth 100000 in
theorem c_X5_iceBox (l : Launch) (D : KD) (b : Nat) (σ : KS) (N : Nat → Nat) (r : Nat) (hs : Nat → Nat → Nat) (T : Nat → Nat) (n : Nat) (x g : Int32) (hC : CI σ N r hs T n) (hI : qIr N) (hU : qU N) (hB : N 10 < 2 ^ 31) : Ct l D b yX5_iceBox cX5_iceBox 3 (some .int) (rM 3 69) 0 0 [rf b 0, .int x, .int g] shF σ shF (pS (some (.int (oIceBox N x g).1)) (fun τ => CO σ N r hs T n (oIceBox N x g).2 τ)) := by
  have h2 := qi_2 hI
  have ho := s1_in
  have hP := hC.1
  obtain ⟨π, hR⟩ := hC.2.1
  refine Ct.of (ls := [(0, rf b 0), (1, .int x), (2, .int g)]) (by decide) (Nat.le_of_ble_eq_true rfl) rfl ?_
  intro pg e s m args below meth c Q hQ X hnm
  refine K_iload_n X 1 dX5_iceBox_0 rfl rfl ?_
  refine K_callSE X (c_X5_isBox l D b _ _) my_X5_isBox wt_X5_isBox wm_X5_72 ⟨rfl, rfl, Nat.le_of_ble_eq_true rfl, Nat.le_of_ble_eq_true rfl, Nat.le_of_ble_eq_true rfl, Nat.le_of_ble_eq_true rfl⟩ rfl rfl (Nat.le_of_ble_eq_true rfl) dX5_iceBox_1 ?_
  refine K_ifB_ne (tgt := 9) X dX5_iceBox_4 (by decide) (fun c4 => ?_) (fun c4 => ?_)
  · obtain ⟨u, hlu, hhu, rfl⟩ := qIn_ex (lo := 0) (hi := 5) (by decide) (by decide) c4
    refine K_iload_n X 2 dX5_iceBox_9 rfl rfl ?_
    refine K_iconst X dX5_iceBox_10 cii_1 ?_
    refine K_sipush X dX5_iceBox_11 cis_5000 ?_
    refine K_callSE X (c_X5_withinQ l D b _ _ _ _) my_X5_within wt_X5_within wm_X5_44 ⟨rfl, rfl, Nat.le_of_ble_eq_true rfl, Nat.le_of_ble_eq_true rfl, Nat.le_of_ble_eq_true rfl, Nat.le_of_ble_eq_true rfl⟩ rfl rfl (Nat.le_of_ble_eq_true rfl) dX5_iceBox_14 ?_
    refine K_ifB_ne (tgt := 23) X dX5_iceBox_17 (by decide) (fun c17 => ?_) (fun c17 => ?_)
    · obtain ⟨v, hlv, hhv, rfl⟩ := qIn_ex (lo := 1) (hi := 5000) (by decide) (by decide) c17
      refine K_aload_n X 0 dX5_iceBox_23 rfl rfl ?_
      refine K_get X 3 kFd5 rfl (by decide) sf_c wf_X5_29 rfl (v := rf b (48)) (kv_o (pf_03 hP)) dX5_iceBox_24 ?_
      refine K_aload_n X 0 dX5_iceBox_27 rfl rfl ?_
      refine K_get X 0 kFd5 rfl (by decide) sf_c wf_X5_10 rfl (v := rf b (1)) (kv_o (pf_00 hP)) dX5_iceBox_28 ?_
      refine K_callVP0 X (c_X2_save l D b _ _ _ _ _ hP hR h2 hC.2.2.2.1) my_X2_save mv_X2_save wm_X5_48 sf_h rfl ⟨rfl, rfl, Nat.le_of_ble_eq_true rfl, Nat.le_of_ble_eq_true rfl, Nat.le_of_ble_eq_true rfl, Nat.le_of_ble_eq_true rfl⟩ rfl rfl (Nat.le_of_ble_eq_true rfl) dX5_iceBox_31 (fun σ31 h31 => ?_)
      refine K_gen (φ := fun τ => Hs τ (qRr r + 1) (hsN hs r N) ∧ Fh _ τ) h31 (fun σ hv => ?_)
      have hC := hC.fh h2 hv
      have hR := hv.2.rs hR h2
      have hK := hv.2.cf
      have hP := hC.1
      have hP0 := hP
      have hF := Fr.rf (σ := σ) (o := 1)
      refine K_aload_n X 0 dX5_iceBox_34 rfl rfl ?_
      refine K_get X 0 kFd5 rfl (by decide) sf_c wf_X5_10 rfl (v := rf b (1)) (kv_o (pf_00 hP)) dX5_iceBox_35 ?_
      refine K_get X 14 kFd4 rfl (by decide) (so_0 1 ho) wf_X5_83 rfl (v := rf b (1 + 4)) (kv_a (ps_14 hP ho)) dX5_iceBox_38 ?_
      refine K_iload_n X 1 dX5_iceBox_41 rfl rfl ?_
      refine K_sipush X dX5_iceBox_42 cis_5000 ?_
      refine K_aload_n X 0 dX5_iceBox_45 rfl rfl ?_
      refine K_get X 0 kFd5 rfl (by decide) sf_c wf_X5_10 rfl (v := rf b (1)) (kv_o (pf_00 hP)) dX5_iceBox_46 ?_
      refine K_get X 14 kFd4 rfl (by decide) (so_0 1 ho) wf_X5_83 rfl (v := rf b (1 + 4)) (kv_a (ps_14 hP ho)) dX5_iceBox_49 ?_
      refine K_iload_n X 1 dX5_iceBox_52 rfl rfl ?_
      refine K_iald X _ (so_4 1 ho) rfl (by omega) (by decide) (x := nI (N (34 + u))) (rs_a hR 4 (by decide) (by decide) (show _ < 6 from by omega)) dX5_iceBox_53 ?_
      refine K_iload_n X 2 dX5_iceBox_54 rfl rfl ?_
      refine K_iaddN X dX5_iceBox_55 ?_
      refine K_min X wm_X5_86 wt_min wn_Math wc_min ⟨Nat.le_of_ble_eq_true rfl, Nat.le_of_ble_eq_true rfl, Nat.le_of_ble_eq_true rfl, Nat.le_of_ble_eq_true rfl⟩ dX5_iceBox_56 ?_
      rw [kMin (by have := qi_i hI (show u < 11 from by omega); omega) (by decide), qIce_min]
      refine K_iast X _ (so_4 1 ho) rfl (by omega) (by decide) dX5_iceBox_59 ?_
      refine K_gen (φ := fun τ => Rs τ 1 π (uN N (34 + u) (qIce N u v)) ∧ Fr _ τ 1) ⟨hR.arr (a := 4) (k := u) (v := qIce N u v) (by decide) (by decide) (show u < 6 from by omega), hF.tr (Fr.i (by omega) (by omega))⟩ (fun σ hs => ?_)
      obtain ⟨hR, hF⟩ := hs
      have hP := hF.PF ho hP0
      refine K_aload_n X 0 dX5_iceBox_60 rfl rfl ?_
      refine K_get X 0 kFd5 rfl (by decide) sf_c wf_X5_10 rfl (v := rf b (1)) (kv_o (pf_00 hP)) dX5_iceBox_61 ?_
      refine K_get X 14 kFd4 rfl (by decide) (so_0 1 ho) wf_X5_83 rfl (v := rf b (1 + 4)) (kv_a (ps_14 hP ho)) dX5_iceBox_64 ?_
      refine K_iload_n X 1 dX5_iceBox_67 rfl rfl ?_
      refine K_iald X _ (so_4 1 ho) rfl (by omega) (by decide) (x := nI ((uN N (34 + u) (qIce N u v)) (34 + u))) (rs_a hR 4 (by decide) (by decide) (show _ < 6 from by omega)) dX5_iceBox_68 ?_
      rw [uN_s]
      exact K_iret X hQ dX5_iceBox_69 (by rw [show oIceBox N (nI u) (nI v) = (nI (qIce N u v), some (uN N (34 + u) (qIce N u v))) from by unfold oIceBox; unfold oIce; rw [if_pos c4, if_pos c17, tN_nI (by omega), tN_nI (by omega)]]; exact ⟨rfl, hK.tr (Cf.fr s1_in hF), hC.sh ⟨⟨_, hR⟩, hF⟩⟩)
    · refine K_bipush X dX5_iceBox_20 cib_m2 ?_
      exact K_iret X hQ dX5_iceBox_22 (by rw [show oIceBox N (nI u) g = (-2, none) from by unfold oIceBox; unfold oIce; rw [if_pos c4, qI_f c17]]; exact ⟨rfl, Cf.rf, hC⟩)
  · refine K_iconst X dX5_iceBox_7 cii_m1 ?_
    exact K_iret X hQ dX5_iceBox_8 (by rw [show oIceBox N x g = (-1, none) from by unfold oIceBox; rw [qI_f c4]]; exact ⟨rfl, Cf.rf, hC⟩)

set_option maxHeartbeats 4000000 in
set_option maxRecDepth 100000 in
theorem c_X5_iceTray (l : Launch) (D : KD) (b : Nat) (σ : KS) (N : Nat → Nat) (r : Nat) (hs : Nat → Nat → Nat) (T : Nat → Nat) (n : Nat) (x g : Int32) (hC : CI σ N r hs T n) (hI : qIr N) (hU : qU N) (hB : N 10 < 2 ^ 31) : Ct l D b yX5_iceTray cX5_iceTray 3 (some .int) (rM 3 69) 0 0 [rf b 0, .int x, .int g] shF σ shF (pS (some (.int (oIceTray N x g).1)) (fun τ => CO σ N r hs T n (oIceTray N x g).2 τ)) := by
  have h2 := qi_2 hI
  have ho := s1_in
  have hP := hC.1
  obtain ⟨π, hR⟩ := hC.2.1
  refine Ct.of (ls := [(0, rf b 0), (1, .int x), (2, .int g)]) (by decide) (Nat.le_of_ble_eq_true rfl) rfl ?_
  intro pg e s m args below meth c Q hQ X hnm
  refine K_iload_n X 1 dX5_iceTray_0 rfl rfl ?_
  refine K_callSE X (c_X5_isTray l D b _ _) my_X5_isTray wt_X5_isTray wm_X5_92 ⟨rfl, rfl, Nat.le_of_ble_eq_true rfl, Nat.le_of_ble_eq_true rfl, Nat.le_of_ble_eq_true rfl, Nat.le_of_ble_eq_true rfl⟩ rfl rfl (Nat.le_of_ble_eq_true rfl) dX5_iceTray_1 ?_
  refine K_ifB_ne (tgt := 9) X dX5_iceTray_4 (by decide) (fun c4 => ?_) (fun c4 => ?_)
  · obtain ⟨u, hlu, hhu, rfl⟩ := qIn_ex (lo := 0) (hi := 4) (by decide) (by decide) c4
    refine K_iload_n X 2 dX5_iceTray_9 rfl rfl ?_
    refine K_iconst X dX5_iceTray_10 cii_1 ?_
    refine K_sipush X dX5_iceTray_11 cis_5000 ?_
    refine K_callSE X (c_X5_withinQ l D b _ _ _ _) my_X5_within wt_X5_within wm_X5_44 ⟨rfl, rfl, Nat.le_of_ble_eq_true rfl, Nat.le_of_ble_eq_true rfl, Nat.le_of_ble_eq_true rfl, Nat.le_of_ble_eq_true rfl⟩ rfl rfl (Nat.le_of_ble_eq_true rfl) dX5_iceTray_14 ?_
    refine K_ifB_ne (tgt := 23) X dX5_iceTray_17 (by decide) (fun c17 => ?_) (fun c17 => ?_)
    · obtain ⟨v, hlv, hhv, rfl⟩ := qIn_ex (lo := 1) (hi := 5000) (by decide) (by decide) c17
      refine K_aload_n X 0 dX5_iceTray_23 rfl rfl ?_
      refine K_get X 3 kFd5 rfl (by decide) sf_c wf_X5_29 rfl (v := rf b (48)) (kv_o (pf_03 hP)) dX5_iceTray_24 ?_
      refine K_aload_n X 0 dX5_iceTray_27 rfl rfl ?_
      refine K_get X 0 kFd5 rfl (by decide) sf_c wf_X5_10 rfl (v := rf b (1)) (kv_o (pf_00 hP)) dX5_iceTray_28 ?_
      refine K_callVP0 X (c_X2_save l D b _ _ _ _ _ hP hR h2 hC.2.2.2.1) my_X2_save mv_X2_save wm_X5_48 sf_h rfl ⟨rfl, rfl, Nat.le_of_ble_eq_true rfl, Nat.le_of_ble_eq_true rfl, Nat.le_of_ble_eq_true rfl, Nat.le_of_ble_eq_true rfl⟩ rfl rfl (Nat.le_of_ble_eq_true rfl) dX5_iceTray_31 (fun σ31 h31 => ?_)
      refine K_gen (φ := fun τ => Hs τ (qRr r + 1) (hsN hs r N) ∧ Fh _ τ) h31 (fun σ hv => ?_)
      have hC := hC.fh h2 hv
      have hR := hv.2.rs hR h2
      have hK := hv.2.cf
      have hP := hC.1
      have hP0 := hP
      have hF := Fr.rf (σ := σ) (o := 1)
      refine K_aload_n X 0 dX5_iceTray_34 rfl rfl ?_
      refine K_get X 0 kFd5 rfl (by decide) sf_c wf_X5_10 rfl (v := rf b (1)) (kv_o (pf_00 hP)) dX5_iceTray_35 ?_
      refine K_get X 15 kFd4 rfl (by decide) (so_0 1 ho) wf_X5_95 rfl (v := rf b (1 + 5)) (kv_a (ps_15 hP ho)) dX5_iceTray_38 ?_
      refine K_iload_n X 1 dX5_iceTray_41 rfl rfl ?_
      refine K_sipush X dX5_iceTray_42 cis_5000 ?_
      refine K_aload_n X 0 dX5_iceTray_45 rfl rfl ?_
      refine K_get X 0 kFd5 rfl (by decide) sf_c wf_X5_10 rfl (v := rf b (1)) (kv_o (pf_00 hP)) dX5_iceTray_46 ?_
      refine K_get X 15 kFd4 rfl (by decide) (so_0 1 ho) wf_X5_95 rfl (v := rf b (1 + 5)) (kv_a (ps_15 hP ho)) dX5_iceTray_49 ?_
      refine K_iload_n X 1 dX5_iceTray_52 rfl rfl ?_
      refine K_iald X _ (so_5 1 ho) rfl (by omega) (by decide) (x := nI (N (40 + u))) (rs_a hR 5 (by decide) (by decide) (show _ < 5 from by omega)) dX5_iceTray_53 ?_
      rw [show 40 + u = 34 + (6 + u) from by omega]
      refine K_iload_n X 2 dX5_iceTray_54 rfl rfl ?_
      refine K_iaddN X dX5_iceTray_55 ?_
      refine K_min X wm_X5_86 wt_min wn_Math wc_min ⟨Nat.le_of_ble_eq_true rfl, Nat.le_of_ble_eq_true rfl, Nat.le_of_ble_eq_true rfl, Nat.le_of_ble_eq_true rfl⟩ dX5_iceTray_56 ?_
      rw [kMin (by have := qi_i hI (show (6 + u) < 11 from by omega); omega) (by decide), qIce_min]
      refine K_iast X _ (so_5 1 ho) rfl (by omega) (by decide) dX5_iceTray_59 ?_
      refine K_gen (φ := fun τ => Rs τ 1 π (uN N (34 + (6 + u)) (qIce N (6 + u) v)) ∧ Fr _ τ 1) ⟨(by have h := hR.arr (a := 5) (k := u) (v := qIce N (6 + u) v) (by decide) (by decide) (show u < 5 from by omega); rw [show qAb 5 + u = 34 + (6 + u) from (by show 40 + u = _; omega)] at h; exact h), hF.tr (Fr.i (by omega) (by omega))⟩ (fun σ hs => ?_)
      obtain ⟨hR, hF⟩ := hs
      have hP := hF.PF ho hP0
      refine K_aload_n X 0 dX5_iceTray_60 rfl rfl ?_
      refine K_get X 0 kFd5 rfl (by decide) sf_c wf_X5_10 rfl (v := rf b (1)) (kv_o (pf_00 hP)) dX5_iceTray_61 ?_
      refine K_get X 15 kFd4 rfl (by decide) (so_0 1 ho) wf_X5_95 rfl (v := rf b (1 + 5)) (kv_a (ps_15 hP ho)) dX5_iceTray_64 ?_
      refine K_iload_n X 1 dX5_iceTray_67 rfl rfl ?_
      refine K_iald X _ (so_5 1 ho) rfl (by omega) (by decide) (x := nI ((uN N (34 + (6 + u)) (qIce N (6 + u) v)) (40 + u))) (rs_a hR 5 (by decide) (by decide) (show _ < 5 from by omega)) dX5_iceTray_68 ?_
      rw [show 40 + u = 34 + (6 + u) from by omega]
      rw [uN_s]
      exact K_iret X hQ dX5_iceTray_69 (by rw [show oIceTray N (nI u) (nI v) = (nI (qIce N (6 + u) v), some (uN N (34 + (6 + u)) (qIce N (6 + u) v))) from by unfold oIceTray; unfold oIce; rw [if_pos c4, if_pos c17, tN_nI (by omega), tN_nI (by omega)]]; exact ⟨rfl, hK.tr (Cf.fr s1_in hF), hC.sh ⟨⟨_, hR⟩, hF⟩⟩)
    · refine K_bipush X dX5_iceTray_20 cib_m2 ?_
      exact K_iret X hQ dX5_iceTray_22 (by rw [show oIceTray N (nI u) g = (-2, none) from by unfold oIceTray; unfold oIce; rw [if_pos c4, qI_f c17]]; exact ⟨rfl, Cf.rf, hC⟩)
  · refine K_iconst X dX5_iceTray_7 cii_m1 ?_
    exact K_iret X hQ dX5_iceTray_8 (by rw [show oIceTray N x g = (-1, none) from by unfold oIceTray; rw [qI_f c4]]; exact ⟨rfl, Cf.rf, hC⟩)
