/-! THE CLASS: the calls that change the shop -/
set_option maxHeartbeats 4000000 in
set_option maxRecDepth 100000 in
theorem c_X5_setPrice (l : Launch) (D : KD) (b : Nat) {sh : List KSh} (hsh : shP sh) (σ : KS) (N : Nat → Nat) (r : Nat) (hs : Nat → Nat → Nat) (T : Nat → Nat) (n : Nat) (kd pr co : Int32) (hC : CI σ N r hs T n) (hI : qIr N) (hU : qU N) (hB : N 10 < 2 ^ 31) : Ct l D b yX5_setPrice cX5_setPrice 5 (some .int) (rM 3 69) 0 0 [rf b 0, .int kd, .int pr, .int co] sh σ sh (pS (some (.int (oSetPrice N kd pr co).1)) (fun τ => CO σ N r hs T n (oSetPrice N kd pr co).2 τ)) := by
  have h2 := qi_2 hI
  have ho := s1_in
  have hP := hC.1
  obtain ⟨π, hR⟩ := hC.2.1
  refine Ct.of (ls := [(0, rf b 0), (1, .int kd), (2, .int pr), (3, .int co)]) (by decide) (Nat.le_of_ble_eq_true rfl) rfl ?_
  intro pg e s m args below meth c Q hQ X hnm
  refine K_iload_n X 1 dX5_setPrice_0 rfl rfl ?_
  refine K_callSE X (c_X5_isKind l D b hsh _ _) my_X5_isKind wt_X5_isKind wm_X5_40 ⟨rfl, rfl, Nat.le_of_ble_eq_true rfl, Nat.le_of_ble_eq_true rfl, Nat.le_of_ble_eq_true rfl, Nat.le_of_ble_eq_true rfl⟩ rfl rfl (Nat.le_of_ble_eq_true rfl) dX5_setPrice_1 ?_
  refine K_ifB_ne (tgt := 9) X dX5_setPrice_4 (by decide) (fun c4 => ?_) (fun c4 => ?_)
  · obtain ⟨u, hlu, hhu, rfl⟩ := qIn_ex (lo := 0) (hi := 5) (by decide) (by decide) c4
    refine K_iload_n X 2 dX5_setPrice_9 rfl rfl ?_
    refine K_iconst X dX5_setPrice_10 cii_1 ?_
    refine K_sipush X dX5_setPrice_11 cis_9999 ?_
    refine K_callSE X (c_X5_withinQ l D b hsh _ _ _ _) my_X5_within wt_X5_within wm_X5_44 ⟨rfl, rfl, Nat.le_of_ble_eq_true rfl, Nat.le_of_ble_eq_true rfl, Nat.le_of_ble_eq_true rfl, Nat.le_of_ble_eq_true rfl⟩ rfl rfl (Nat.le_of_ble_eq_true rfl) dX5_setPrice_14 ?_
    refine K_ifB_eq (tgt := 31) X dX5_setPrice_17 (by decide) (fun c17 => ?_) (fun c17 => ?_)
    · refine K_bipush X dX5_setPrice_31 cib_m2 ?_
      exact K_iret X hQ dX5_setPrice_33 (by rw [show oSetPrice N (nI u) pr co = (-2, none) from by unfold oSetPrice; rw [if_pos c4, if_neg (by rw [c17]; simp)]]; exact ⟨rfl, Cf.rf, hC⟩)
    · obtain ⟨v, hlv, hhv, rfl⟩ := qIn_ex (lo := 1) (hi := 9999) (by decide) (by decide) c17
      refine K_iload_n X 3 dX5_setPrice_20 rfl rfl ?_
      refine K_iconst X dX5_setPrice_21 cii_1 ?_
      refine K_sipush X dX5_setPrice_22 cis_9999 ?_
      refine K_callSE X (c_X5_withinQ l D b hsh _ _ _ _) my_X5_within wt_X5_within wm_X5_44 ⟨rfl, rfl, Nat.le_of_ble_eq_true rfl, Nat.le_of_ble_eq_true rfl, Nat.le_of_ble_eq_true rfl, Nat.le_of_ble_eq_true rfl⟩ rfl rfl (Nat.le_of_ble_eq_true rfl) dX5_setPrice_25 ?_
      refine K_ifB_ne (tgt := 34) X dX5_setPrice_28 (by decide) (fun c28 => ?_) (fun c28 => ?_)
      · obtain ⟨z, hlz, hhz, rfl⟩ := qIn_ex (lo := 1) (hi := 9999) (by decide) (by decide) c28
        refine K_aload_n X 0 dX5_setPrice_34 rfl rfl ?_
        refine K_get X 3 kFd5 rfl (by decide) (sf_c hsh) wf_X5_29 rfl (v := rf b (48)) (kv_o (pf_03 hP)) dX5_setPrice_35 ?_
        refine K_aload_n X 0 dX5_setPrice_38 rfl rfl ?_
        refine K_get X 0 kFd5 rfl (by decide) (sf_c hsh) wf_X5_10 rfl (v := rf b (1)) (kv_o (pf_00 hP)) dX5_setPrice_39 ?_
        refine K_callVP0 X (c_X2_save l D b hsh _ _ _ _ _ hP hR h2 hC.2.2.2.1) my_X2_save mv_X2_save wm_X5_48 (sf_h hsh) rfl ⟨rfl, rfl, Nat.le_of_ble_eq_true rfl, Nat.le_of_ble_eq_true rfl, Nat.le_of_ble_eq_true rfl, Nat.le_of_ble_eq_true rfl⟩ rfl rfl (Nat.le_of_ble_eq_true rfl) dX5_setPrice_42 (fun σ42 h42 => ?_)
        refine K_gen (φ := fun τ => Hs τ (qRr r + 1) (hsN hs r N) ∧ Fh _ τ) h42 (fun σ hv => ?_)
        have hC := hC.fh h2 hv
        have hR := hv.2.rs hR h2
        have hK := hv.2.cf
        have hP := hC.1
        have hP0 := hP
        have hF := Fr.rf (σ := σ) (o := 1)
        refine K_aload_n X 0 dX5_setPrice_45 rfl rfl ?_
        refine K_get X 0 kFd5 rfl (by decide) (sf_c hsh) wf_X5_10 rfl (v := rf b (1)) (kv_o (pf_00 hP)) dX5_setPrice_46 ?_
        refine K_get X 11 kFd4 rfl (by decide) (so_0 hsh 1 ho) wf_X5_52 rfl (v := rf b (1 + 1)) (kv_a (ps_11 hP ho)) dX5_setPrice_49 ?_
        refine K_iload_n X 1 dX5_setPrice_52 rfl rfl ?_
        refine K_iald X _ (so_1 hsh 1 ho) rfl (by omega) (by decide) (x := nI (N (11 + u))) (rs_a hR 1 (by decide) (by decide) (show _ < 6 from by omega)) dX5_setPrice_53 ?_
        refine K_istore X (ls' := [(4, _), (0, _), (1, _), (2, _), (3, _)]) dX5_setPrice_54 (by decide) rfl ?_
        refine K_aload_n X 1 dX5_setPrice_56 rfl rfl ?_
        refine K_get X 0 kFd5 rfl (by decide) (sf_c hsh) wf_X5_10 rfl (v := rf b (1)) (kv_o (pf_00 hP)) dX5_setPrice_57 ?_
        refine K_get X 11 kFd4 rfl (by decide) (so_0 hsh 1 ho) wf_X5_52 rfl (v := rf b (1 + 1)) (kv_a (ps_11 hP ho)) dX5_setPrice_60 ?_
        refine K_iload_n X 2 dX5_setPrice_63 rfl rfl ?_
        refine K_iload_n X 3 dX5_setPrice_64 rfl rfl ?_
        refine K_iast X _ (so_1 hsh 1 ho) rfl (by omega) (by decide) dX5_setPrice_65 ?_
        refine K_gen (φ := fun τ => Rs τ 1 π (uN N (11 + u) v) ∧ Fr _ τ 1) ⟨hR.arr (a := 1) (k := u) (v := v) (by decide) (by decide) (show u < 6 from by omega), hF.tr (Fr.i (by omega) (by omega))⟩ (fun σ hs => ?_)
        obtain ⟨hR, hF⟩ := hs
        have hP := hF.PF ho hP0
        refine K_aload_n X 1 dX5_setPrice_66 rfl rfl ?_
        refine K_get X 0 kFd5 rfl (by decide) (sf_c hsh) wf_X5_10 rfl (v := rf b (1)) (kv_o (pf_00 hP)) dX5_setPrice_67 ?_
        refine K_get X 12 kFd4 rfl (by decide) (so_0 hsh 1 ho) wf_X5_56 rfl (v := rf b (1 + 2)) (kv_a (ps_12 hP ho)) dX5_setPrice_70 ?_
        refine K_iload_n X 2 dX5_setPrice_73 rfl rfl ?_
        refine K_iload_n X 4 dX5_setPrice_74 rfl rfl ?_
        refine K_iast X _ (so_2 hsh 1 ho) rfl (by omega) (by decide) dX5_setPrice_75 ?_
        refine K_gen (φ := fun τ => Rs τ 1 π (uN (uN N (11 + u) v) (17 + u) z) ∧ Fr _ τ 1) ⟨hR.arr (a := 2) (k := u) (v := z) (by decide) (by decide) (show u < 6 from by omega), hF.tr (Fr.i (by omega) (by omega))⟩ (fun σ hs => ?_)
        obtain ⟨hR, hF⟩ := hs
        have hP := hF.PF ho hP0
        refine K_iload X 0 dX5_setPrice_76 rfl ?_
        exact K_iret X hQ dX5_setPrice_78 (by rw [show oSetPrice N (nI u) (nI v) (nI z) = (nI (N (11 + u)), some (uN (uN N (11 + u) v) (17 + u) z)) from by unfold oSetPrice; rw [if_pos c4, if_pos (by rw [c17, c28]; rfl), tN_nI (by omega), tN_nI (by omega), tN_nI (by omega)]]; exact ⟨rfl, hK.tr (Cf.fr s1_in hF), hC.sh ⟨⟨_, hR⟩, hF⟩⟩)
      · refine K_bipush X dX5_setPrice_31 cib_m2 ?_
        exact K_iret X hQ dX5_setPrice_33 (by rw [show oSetPrice N (nI u) (nI v) co = (-2, none) from by unfold oSetPrice; rw [if_pos c4, if_neg (by rw [c28]; simp)]]; exact ⟨rfl, Cf.rf, hC⟩)
  · refine K_iconst X dX5_setPrice_7 cii_m1 ?_
    exact K_iret X hQ dX5_setPrice_8 (by rw [show oSetPrice N kd pr co = (-1, none) from by unfold oSetPrice; rw [qI_f c4]]; exact ⟨rfl, Cf.rf, hC⟩)

set_option maxHeartbeats 4000000 in
set_option maxRecDepth 100000 in
theorem c_X5_setCut (l : Launch) (D : KD) (b : Nat) {sh : List KSh} (hsh : shP sh) (σ : KS) (N : Nat → Nat) (r : Nat) (hs : Nat → Nat → Nat) (T : Nat → Nat) (n : Nat) (h pr : Int32) (hC : CI σ N r hs T n) (hI : qIr N) (hU : qU N) (hB : N 10 < 2 ^ 31) : Ct l D b yX5_setCut cX5_setCut 4 (some .int) (rM 3 69) 0 0 [rf b 0, .int h, .int pr] sh σ sh (pS (some (.int (oSetCut N h pr).1)) (fun τ => CO σ N r hs T n (oSetCut N h pr).2 τ)) := by
  have h2 := qi_2 hI
  have ho := s1_in
  have hP := hC.1
  obtain ⟨π, hR⟩ := hC.2.1
  refine Ct.of (ls := [(0, rf b 0), (1, .int h), (2, .int pr)]) (by decide) (Nat.le_of_ble_eq_true rfl) rfl ?_
  intro pg e s m args below meth c Q hQ X hnm
  refine K_iload_n X 1 dX5_setCut_0 rfl rfl ?_
  refine K_callSE X (c_X5_isHour l D b hsh _ _) my_X5_isHour wt_X5_isHour wm_X5_59 ⟨rfl, rfl, Nat.le_of_ble_eq_true rfl, Nat.le_of_ble_eq_true rfl, Nat.le_of_ble_eq_true rfl, Nat.le_of_ble_eq_true rfl⟩ rfl rfl (Nat.le_of_ble_eq_true rfl) dX5_setCut_1 ?_
  refine K_ifB_ne (tgt := 9) X dX5_setCut_4 (by decide) (fun c4 => ?_) (fun c4 => ?_)
  · obtain ⟨u, hlu, hhu, rfl⟩ := qIn_ex (lo := 0) (hi := 10) (by decide) (by decide) c4
    refine K_iload_n X 2 dX5_setCut_9 rfl rfl ?_
    refine K_iconst X dX5_setCut_10 cii_0 ?_
    refine K_bipush X dX5_setCut_11 cib_90 ?_
    refine K_callSE X (c_X5_withinQ l D b hsh _ _ _ _) my_X5_within wt_X5_within wm_X5_44 ⟨rfl, rfl, Nat.le_of_ble_eq_true rfl, Nat.le_of_ble_eq_true rfl, Nat.le_of_ble_eq_true rfl, Nat.le_of_ble_eq_true rfl⟩ rfl rfl (Nat.le_of_ble_eq_true rfl) dX5_setCut_13 ?_
    refine K_ifB_ne (tgt := 22) X dX5_setCut_16 (by decide) (fun c16 => ?_) (fun c16 => ?_)
    · obtain ⟨v, hlv, hhv, rfl⟩ := qIn_ex (lo := 0) (hi := 90) (by decide) (by decide) c16
      refine K_aload_n X 0 dX5_setCut_22 rfl rfl ?_
      refine K_get X 3 kFd5 rfl (by decide) (sf_c hsh) wf_X5_29 rfl (v := rf b (48)) (kv_o (pf_03 hP)) dX5_setCut_23 ?_
      refine K_aload_n X 0 dX5_setCut_26 rfl rfl ?_
      refine K_get X 0 kFd5 rfl (by decide) (sf_c hsh) wf_X5_10 rfl (v := rf b (1)) (kv_o (pf_00 hP)) dX5_setCut_27 ?_
      refine K_callVP0 X (c_X2_save l D b hsh _ _ _ _ _ hP hR h2 hC.2.2.2.1) my_X2_save mv_X2_save wm_X5_48 (sf_h hsh) rfl ⟨rfl, rfl, Nat.le_of_ble_eq_true rfl, Nat.le_of_ble_eq_true rfl, Nat.le_of_ble_eq_true rfl, Nat.le_of_ble_eq_true rfl⟩ rfl rfl (Nat.le_of_ble_eq_true rfl) dX5_setCut_30 (fun σ30 h30 => ?_)
      refine K_gen (φ := fun τ => Hs τ (qRr r + 1) (hsN hs r N) ∧ Fh _ τ) h30 (fun σ hv => ?_)
      have hC := hC.fh h2 hv
      have hR := hv.2.rs hR h2
      have hK := hv.2.cf
      have hP := hC.1
      have hP0 := hP
      have hF := Fr.rf (σ := σ) (o := 1)
      refine K_aload_n X 0 dX5_setCut_33 rfl rfl ?_
      refine K_get X 0 kFd5 rfl (by decide) (sf_c hsh) wf_X5_10 rfl (v := rf b (1)) (kv_o (pf_00 hP)) dX5_setCut_34 ?_
      refine K_get X 13 kFd4 rfl (by decide) (so_0 hsh 1 ho) wf_X5_62 rfl (v := rf b (1 + 3)) (kv_a (ps_13 hP ho)) dX5_setCut_37 ?_
      refine K_iload_n X 1 dX5_setCut_40 rfl rfl ?_
      refine K_iald X _ (so_3 hsh 1 ho) rfl (by omega) (by decide) (x := nI (N (23 + u))) (rs_a hR 3 (by decide) (by decide) (show _ < 11 from by omega)) dX5_setCut_41 ?_
      refine K_istore_n X (ls' := [(3, _), (0, _), (1, _), (2, _)]) dX5_setCut_42 rfl (by decide) rfl ?_
      refine K_aload_n X 1 dX5_setCut_43 rfl rfl ?_
      refine K_get X 0 kFd5 rfl (by decide) (sf_c hsh) wf_X5_10 rfl (v := rf b (1)) (kv_o (pf_00 hP)) dX5_setCut_44 ?_
      refine K_get X 13 kFd4 rfl (by decide) (so_0 hsh 1 ho) wf_X5_62 rfl (v := rf b (1 + 3)) (kv_a (ps_13 hP ho)) dX5_setCut_47 ?_
      refine K_iload_n X 2 dX5_setCut_50 rfl rfl ?_
      refine K_iload_n X 3 dX5_setCut_51 rfl rfl ?_
      refine K_iast X _ (so_3 hsh 1 ho) rfl (by omega) (by decide) dX5_setCut_52 ?_
      refine K_gen (φ := fun τ => Rs τ 1 π (uN N (23 + u) v) ∧ Fr _ τ 1) ⟨hR.arr (a := 3) (k := u) (v := v) (by decide) (by decide) (show u < 11 from by omega), hF.tr (Fr.i (by omega) (by omega))⟩ (fun σ hs => ?_)
      obtain ⟨hR, hF⟩ := hs
      have hP := hF.PF ho hP0
      refine K_iload_n X 0 dX5_setCut_53 rfl rfl ?_
      exact K_iret X hQ dX5_setCut_54 (by rw [show oSetCut N (nI u) (nI v) = (nI (N (23 + u)), some (uN N (23 + u) v)) from by unfold oSetCut; rw [if_pos c4, if_pos c16, tN_nI (by omega), tN_nI (by omega)]]; exact ⟨rfl, hK.tr (Cf.fr s1_in hF), hC.sh ⟨⟨_, hR⟩, hF⟩⟩)
    · refine K_bipush X dX5_setCut_19 cib_m2 ?_
      exact K_iret X hQ dX5_setCut_21 (by rw [show oSetCut N (nI u) pr = (-2, none) from by unfold oSetCut; rw [if_pos c4, qI_f c16]]; exact ⟨rfl, Cf.rf, hC⟩)
  · refine K_iconst X dX5_setCut_7 cii_m1 ?_
    exact K_iret X hQ dX5_setCut_8 (by rw [show oSetCut N h pr = (-1, none) from by unfold oSetCut; rw [qI_f c4]]; exact ⟨rfl, Cf.rf, hC⟩)

set_option maxHeartbeats 4000000 in
set_option maxRecDepth 100000 in
theorem c_X5_setMelting (l : Launch) (D : KD) (b : Nat) {sh : List KSh} (hsh : shP sh) (σ : KS) (N : Nat → Nat) (r : Nat) (hs : Nat → Nat → Nat) (T : Nat → Nat) (n : Nat) (m0 li : Int32) (hC : CI σ N r hs T n) (hI : qIr N) (hU : qU N) (hB : N 10 < 2 ^ 31) : Ct l D b yX5_setMelting cX5_setMelting 4 (some .int) (rM 3 69) 0 0 [rf b 0, .int m0, .int li] sh σ sh (pS (some (.int (oSetMelt N m0 li).1)) (fun τ => CO σ N r hs T n (oSetMelt N m0 li).2 τ)) := by
  have h2 := qi_2 hI
  have ho := s1_in
  have hP := hC.1
  obtain ⟨π, hR⟩ := hC.2.1
  refine Ct.of (ls := [(0, rf b 0), (1, .int m0), (2, .int li)]) (by decide) (Nat.le_of_ble_eq_true rfl) rfl ?_
  intro pg e s m args below meth c Q hQ X hnm
  refine K_iload_n X 1 dX5_setMelting_0 rfl rfl ?_
  refine K_iconst X dX5_setMelting_1 cii_0 ?_
  refine K_sipush X dX5_setMelting_2 cis_500 ?_
  refine K_callSE X (c_X5_withinQ l D b hsh _ _ _ _) my_X5_within wt_X5_within wm_X5_44 ⟨rfl, rfl, Nat.le_of_ble_eq_true rfl, Nat.le_of_ble_eq_true rfl, Nat.le_of_ble_eq_true rfl, Nat.le_of_ble_eq_true rfl⟩ rfl rfl (Nat.le_of_ble_eq_true rfl) dX5_setMelting_5 ?_
  refine K_ifB_eq (tgt := 21) X dX5_setMelting_8 (by decide) (fun c8 => ?_) (fun c8 => ?_)
  · refine K_bipush X dX5_setMelting_21 cib_m2 ?_
    exact K_iret X hQ dX5_setMelting_23 (by rw [show oSetMelt N m0 li = (-2, none) from by unfold oSetMelt; rw [if_neg (by rw [c8]; simp)]]; exact ⟨rfl, Cf.rf, hC⟩)
  · obtain ⟨u, hlu, hhu, rfl⟩ := qIn_ex (lo := 0) (hi := 500) (by decide) (by decide) c8
    refine K_iload_n X 2 dX5_setMelting_11 rfl rfl ?_
    refine K_iconst X dX5_setMelting_12 cii_0 ?_
    refine K_bipush X dX5_setMelting_13 cib_100 ?_
    refine K_callSE X (c_X5_withinQ l D b hsh _ _ _ _) my_X5_within wt_X5_within wm_X5_44 ⟨rfl, rfl, Nat.le_of_ble_eq_true rfl, Nat.le_of_ble_eq_true rfl, Nat.le_of_ble_eq_true rfl, Nat.le_of_ble_eq_true rfl⟩ rfl rfl (Nat.le_of_ble_eq_true rfl) dX5_setMelting_15 ?_
    refine K_ifB_ne (tgt := 24) X dX5_setMelting_18 (by decide) (fun c18 => ?_) (fun c18 => ?_)
    · obtain ⟨v, hlv, hhv, rfl⟩ := qIn_ex (lo := 0) (hi := 100) (by decide) (by decide) c18
      refine K_aload_n X 0 dX5_setMelting_24 rfl rfl ?_
      refine K_get X 3 kFd5 rfl (by decide) (sf_c hsh) wf_X5_29 rfl (v := rf b (48)) (kv_o (pf_03 hP)) dX5_setMelting_25 ?_
      refine K_aload_n X 0 dX5_setMelting_28 rfl rfl ?_
      refine K_get X 0 kFd5 rfl (by decide) (sf_c hsh) wf_X5_10 rfl (v := rf b (1)) (kv_o (pf_00 hP)) dX5_setMelting_29 ?_
      refine K_callVP0 X (c_X2_save l D b hsh _ _ _ _ _ hP hR h2 hC.2.2.2.1) my_X2_save mv_X2_save wm_X5_48 (sf_h hsh) rfl ⟨rfl, rfl, Nat.le_of_ble_eq_true rfl, Nat.le_of_ble_eq_true rfl, Nat.le_of_ble_eq_true rfl, Nat.le_of_ble_eq_true rfl⟩ rfl rfl (Nat.le_of_ble_eq_true rfl) dX5_setMelting_32 (fun σ32 h32 => ?_)
      refine K_gen (φ := fun τ => Hs τ (qRr r + 1) (hsN hs r N) ∧ Fh _ τ) h32 (fun σ hv => ?_)
      have hC := hC.fh h2 hv
      have hR := hv.2.rs hR h2
      have hK := hv.2.cf
      have hP := hC.1
      have hP0 := hP
      have hF := Fr.rf (σ := σ) (o := 1)
      refine K_aload_n X 0 dX5_setMelting_35 rfl rfl ?_
      refine K_get X 0 kFd5 rfl (by decide) (sf_c hsh) wf_X5_10 rfl (v := rf b (1)) (kv_o (pf_00 hP)) dX5_setMelting_36 ?_
      refine K_get X 3 kFd4 rfl (by decide) (so_0 hsh 1 ho) wf_X5_65 rfl (v := .int (nI (N 9))) (congrArg Value.int (rs_i hR 3 (by decide))) dX5_setMelting_39 ?_
      refine K_istore_n X (ls' := [(3, _), (0, _), (1, _), (2, _)]) dX5_setMelting_42 rfl (by decide) rfl ?_
      refine K_aload_n X 1 dX5_setMelting_43 rfl rfl ?_
      refine K_get X 0 kFd5 rfl (by decide) (sf_c hsh) wf_X5_10 rfl (v := rf b (1)) (kv_o (pf_00 hP)) dX5_setMelting_44 ?_
      refine K_iload_n X 2 dX5_setMelting_47 rfl rfl ?_
      refine K_putI X 2 kFd4 rfl (by decide) (so_0 hsh 1 ho) wf_X5_69 rfl rfl rfl dX5_setMelting_48 ?_
      refine K_gen (φ := fun τ => Rs τ 1 π (uN N 8 u) ∧ Fr _ τ 1) ⟨hR.int (by omega) (k := 2) (by decide), hF.tr (Fr.i (by omega) (by omega))⟩ (fun σ hs => ?_)
      obtain ⟨hR, hF⟩ := hs
      have hP := hF.PF ho hP0
      refine K_aload_n X 1 dX5_setMelting_51 rfl rfl ?_
      refine K_get X 0 kFd5 rfl (by decide) (sf_c hsh) wf_X5_10 rfl (v := rf b (1)) (kv_o (pf_00 hP)) dX5_setMelting_52 ?_
      refine K_iload_n X 3 dX5_setMelting_55 rfl rfl ?_
      refine K_putI X 3 kFd4 rfl (by decide) (so_0 hsh 1 ho) wf_X5_65 rfl rfl rfl dX5_setMelting_56 ?_
      refine K_gen (φ := fun τ => Rs τ 1 π (uN (uN N 8 u) 9 v) ∧ Fr _ τ 1) ⟨hR.int (by rw [uN_n (by decide)]; omega) (k := 3) (by decide), hF.tr (Fr.i (by omega) (by omega))⟩ (fun σ hs => ?_)
      obtain ⟨hR, hF⟩ := hs
      have hP := hF.PF ho hP0
      refine K_iload_n X 0 dX5_setMelting_59 rfl rfl ?_
      exact K_iret X hQ dX5_setMelting_60 (by rw [show oSetMelt N (nI u) (nI v) = (nI (N 9), some (uN (uN N 8 u) 9 v)) from by unfold oSetMelt; rw [if_pos (by rw [c8, c18]; rfl), tN_nI (by omega), tN_nI (by omega)]]; exact ⟨rfl, hK.tr (Cf.fr s1_in hF), hC.sh ⟨⟨_, hR⟩, hF⟩⟩)
    · refine K_bipush X dX5_setMelting_21 cib_m2 ?_
      exact K_iret X hQ dX5_setMelting_23 (by rw [show oSetMelt N (nI u) li = (-2, none) from by unfold oSetMelt; rw [if_neg (by rw [c18]; simp)]]; exact ⟨rfl, Cf.rf, hC⟩)

set_option maxHeartbeats 4000000 in
set_option maxRecDepth 100000 in
theorem c_X5_deliver (l : Launch) (D : KD) (b : Nat) {sh : List KSh} (hsh : shP sh) (σ : KS) (N : Nat → Nat) (r : Nat) (hs : Nat → Nat → Nat) (T : Nat → Nat) (n : Nat) (kd g fr bx : Int32) (hC : CI σ N r hs T n) (hI : qIr N) (hU : qU N) (hB : N 10 < 2 ^ 31) : Ct l D b yX5_deliver cX5_deliver 6 (some .int) (rM 3 70) 0 0 [rf b 0, .int kd, .int g, .int fr, .int bx] sh σ sh (pS (some (.int (oDeliver N kd g fr bx).1)) (fun τ => CO σ N r hs T n (oDeliver N kd g fr bx).2 τ)) := by
  have h2 := qi_2 hI
  have ho := s1_in
  have hP := hC.1
  obtain ⟨π, hR⟩ := hC.2.1
  refine Ct.of (ls := [(0, rf b 0), (1, .int kd), (2, .int g), (3, .int fr), (4, .int bx)]) (by decide) (Nat.le_of_ble_eq_true rfl) rfl ?_
  intro pg e s m args below meth c Q hQ X hnm
  refine K_iload_n X 1 dX5_deliver_0 rfl rfl ?_
  refine K_callSE X (c_X5_isKind l D b hsh _ _) my_X5_isKind wt_X5_isKind wm_X5_40 ⟨rfl, rfl, Nat.le_of_ble_eq_true rfl, Nat.le_of_ble_eq_true rfl, Nat.le_of_ble_eq_true rfl, Nat.le_of_ble_eq_true rfl⟩ rfl rfl (Nat.le_of_ble_eq_true rfl) dX5_deliver_1 ?_
  refine K_ifB_eq (tgt := 15) X dX5_deliver_4 (by decide) (fun c4 => ?_) (fun c4 => ?_)
  · refine K_iconst X dX5_deliver_15 cii_m1 ?_
    exact K_iret X hQ dX5_deliver_16 (by rw [show oDeliver N kd g fr bx = (-1, none) from by have ha : aWhy N kd g fr bx = -1 := (by unfold aWhy; rw [if_neg (by rw [c4]; simp)]); unfold oDeliver; rw [ha, if_neg (by decide)]]; exact ⟨rfl, Cf.rf, hC⟩)
  · obtain ⟨u, hlu, hhu, rfl⟩ := qIn_ex (lo := 0) (hi := 5) (by decide) (by decide) c4
    refine K_iload X 4 dX5_deliver_7 rfl ?_
    refine K_callSE X (c_X5_isBox l D b hsh _ _) my_X5_isBox wt_X5_isBox wm_X5_72 ⟨rfl, rfl, Nat.le_of_ble_eq_true rfl, Nat.le_of_ble_eq_true rfl, Nat.le_of_ble_eq_true rfl, Nat.le_of_ble_eq_true rfl⟩ rfl rfl (Nat.le_of_ble_eq_true rfl) dX5_deliver_9 ?_
    refine K_ifB_ne (tgt := 17) X dX5_deliver_12 (by decide) (fun c12 => ?_) (fun c12 => ?_)
    · obtain ⟨y, hly, hhy, rfl⟩ := qIn_ex (lo := 0) (hi := 5) (by decide) (by decide) c12
      refine K_iload_n X 2 dX5_deliver_17 rfl rfl ?_
      refine K_iconst X dX5_deliver_18 cii_1 ?_
      refine K_sipush X dX5_deliver_19 cis_20000 ?_
      refine K_callSE X (c_X5_withinQ l D b hsh _ _ _ _) my_X5_within wt_X5_within wm_X5_44 ⟨rfl, rfl, Nat.le_of_ble_eq_true rfl, Nat.le_of_ble_eq_true rfl, Nat.le_of_ble_eq_true rfl, Nat.le_of_ble_eq_true rfl⟩ rfl rfl (Nat.le_of_ble_eq_true rfl) dX5_deliver_22 ?_
      refine K_ifB_eq (tgt := 38) X dX5_deliver_25 (by decide) (fun c25 => ?_) (fun c25 => ?_)
      · refine K_bipush X dX5_deliver_38 cib_m2 ?_
        exact K_iret X hQ dX5_deliver_40 (by rw [show oDeliver N (nI u) g fr (nI y) = (-2, none) from by have ha : aWhy N (nI u) g fr (nI y) = -2 := (by unfold aWhy; rw [if_pos (by rw [c4, c12]; rfl), if_neg (by rw [c25]; simp)]); unfold oDeliver; rw [ha, if_neg (by decide)]]; exact ⟨rfl, Cf.rf, hC⟩)
      · obtain ⟨v, hlv, hhv, rfl⟩ := qIn_ex (lo := 1) (hi := 20000) (by decide) (by decide) c25
        refine K_iload_n X 3 dX5_deliver_28 rfl rfl ?_
        refine K_iconst X dX5_deliver_29 cii_0 ?_
        refine K_bipush X dX5_deliver_30 cib_100 ?_
        refine K_callSE X (c_X5_withinQ l D b hsh _ _ _ _) my_X5_within wt_X5_within wm_X5_44 ⟨rfl, rfl, Nat.le_of_ble_eq_true rfl, Nat.le_of_ble_eq_true rfl, Nat.le_of_ble_eq_true rfl, Nat.le_of_ble_eq_true rfl⟩ rfl rfl (Nat.le_of_ble_eq_true rfl) dX5_deliver_32 ?_
        refine K_ifB_ne (tgt := 41) X dX5_deliver_35 (by decide) (fun c35 => ?_) (fun c35 => ?_)
        · obtain ⟨z, hlz, hhz, rfl⟩ := qIn_ex (lo := 0) (hi := 100) (by decide) (by decide) c35
          refine K_aload_n X 0 dX5_deliver_41 rfl rfl ?_
          refine K_get X 0 kFd5 rfl (by decide) (sf_c hsh) wf_X5_10 rfl (v := rf b (1)) (kv_o (pf_00 hP)) dX5_deliver_42 ?_
          refine K_iload X 4 dX5_deliver_45 rfl ?_
          refine K_callVE X (c_X4_refusalOfNewLot l D b hsh _ _ _ _ _ hP ho hR hI hU (by omega)) my_X4_refusalOfNewLot mv_X4_refusalOfNewLot wm_X5_75 (so_0 hsh 1 ho) rfl ⟨rfl, rfl, Nat.le_of_ble_eq_true rfl, Nat.le_of_ble_eq_true rfl, Nat.le_of_ble_eq_true rfl, Nat.le_of_ble_eq_true rfl⟩ rfl rfl (Nat.le_of_ble_eq_true rfl) dX5_deliver_47 ?_
          refine K_istore X (ls' := [(5, _), (0, _), (1, _), (2, _), (3, _), (4, _)]) dX5_deliver_50 (by decide) rfl ?_
          refine K_iload X 0 dX5_deliver_52 rfl ?_
          refine K_if_eq (tgt := 60) X dX5_deliver_54 (by decide) (fun c54 => ?_) (fun c54 => ?_)
          · obtain ⟨r1, r2⟩ := qRoom_0 c54
            refine K_aload_n X 1 dX5_deliver_60 rfl rfl ?_
            refine K_get X 3 kFd5 rfl (by decide) (sf_c hsh) wf_X5_29 rfl (v := rf b (48)) (kv_o (pf_03 hP)) dX5_deliver_61 ?_
            refine K_aload_n X 1 dX5_deliver_64 rfl rfl ?_
            refine K_get X 0 kFd5 rfl (by decide) (sf_c hsh) wf_X5_10 rfl (v := rf b (1)) (kv_o (pf_00 hP)) dX5_deliver_65 ?_
            refine K_callVP0 X (c_X2_save l D b hsh _ _ _ _ _ hP hR h2 hC.2.2.2.1) my_X2_save mv_X2_save wm_X5_48 (sf_h hsh) rfl ⟨rfl, rfl, Nat.le_of_ble_eq_true rfl, Nat.le_of_ble_eq_true rfl, Nat.le_of_ble_eq_true rfl, Nat.le_of_ble_eq_true rfl⟩ rfl rfl (Nat.le_of_ble_eq_true rfl) dX5_deliver_68 (fun σ68 h68 => ?_)
            refine K_gen (φ := fun τ => Hs τ (qRr r + 1) (hsN hs r N) ∧ Fh _ τ) h68 (fun σ hv => ?_)
            have hC := hC.fh h2 hv
            have hR := hv.2.rs hR h2
            have hK := hv.2.cf
            have hP := hC.1
            have hP0 := hP
            have hF := Fr.rf (σ := σ) (o := 1)
            refine K_aload_n X 1 dX5_deliver_71 rfl rfl ?_
            refine K_get X 0 kFd5 rfl (by decide) (sf_c hsh) wf_X5_10 rfl (v := rf b (1)) (kv_o (pf_00 hP)) dX5_deliver_72 ?_
            refine K_iload_n X 2 dX5_deliver_75 rfl rfl ?_
            refine K_iload_n X 3 dX5_deliver_76 rfl rfl ?_
            refine K_iload_n X 4 dX5_deliver_77 rfl rfl ?_
            refine K_iload X 5 dX5_deliver_78 rfl ?_
            refine K_callVP X (c_X4_buyLot l D b hsh _ _ _ _ _ _ _ _ hP ho hR hI (by omega) (by omega) (by omega) (by omega)) my_X4_buyLot mv_X4_buyLot wm_X5_79 (so_0 hsh 1 ho) rfl ⟨rfl, rfl, Nat.le_of_ble_eq_true rfl, Nat.le_of_ble_eq_true rfl, Nat.le_of_ble_eq_true rfl, Nat.le_of_ble_eq_true rfl⟩ rfl rfl (Nat.le_of_ble_eq_true rfl) dX5_deliver_80 (fun σ80 h80 => ?_)
            refine K_gen (φ := fun τ => SP _ τ 1 (_)) h80 (fun σ h => ?_)
            obtain ⟨⟨π, hR⟩, hF1⟩ := h
            have hF := hF.tr hF1
            have hP := hF.PF ho hP0
            exact K_iret X hQ dX5_deliver_83 (by rw [show oDeliver N (nI u) (nI v) (nI z) (nI y) = (nI (N 10 + 1), some (qDel N u v z y)) from by unfold oDeliver; rw [aWhy_in (by omega) ⟨by omega, by omega⟩ (by omega) (by omega), if_pos (by rw [c54]; decide), tN_nI (by omega), tN_nI (by omega), tN_nI (by omega), tN_nI (by omega)]]; exact ⟨rfl, hK.tr (Cf.fr s1_in hF), hC.sh ⟨⟨_, hR⟩, hF⟩⟩)
          · refine K_iload X 0 dX5_deliver_57 rfl ?_
            exact K_iret X hQ dX5_deliver_59 (by rw [show oDeliver N (nI u) (nI v) (nI z) (nI y) = (qRoom N y, none) from by unfold oDeliver; rw [aWhy_in (by omega) ⟨by omega, by omega⟩ (by omega) (by omega), if_neg (qRoom_no c54)]]; exact ⟨rfl, Cf.rf, hC⟩)
        · refine K_bipush X dX5_deliver_38 cib_m2 ?_
          exact K_iret X hQ dX5_deliver_40 (by rw [show oDeliver N (nI u) (nI v) fr (nI y) = (-2, none) from by have ha : aWhy N (nI u) (nI v) fr (nI y) = -2 := (by unfold aWhy; rw [if_pos (by rw [c4, c12]; rfl), if_neg (by rw [c35]; simp)]); unfold oDeliver; rw [ha, if_neg (by decide)]]; exact ⟨rfl, Cf.rf, hC⟩)
    · refine K_iconst X dX5_deliver_15 cii_m1 ?_
      exact K_iret X hQ dX5_deliver_16 (by rw [show oDeliver N (nI u) g fr bx = (-1, none) from by have ha : aWhy N (nI u) g fr bx = -1 := (by unfold aWhy; rw [if_neg (by rw [c12]; simp)]); unfold oDeliver; rw [ha, if_neg (by decide)]]; exact ⟨rfl, Cf.rf, hC⟩)

set_option maxHeartbeats 4000000 in
set_option maxRecDepth 100000 in
theorem c_X5_iceBox (l : Launch) (D : KD) (b : Nat) {sh : List KSh} (hsh : shP sh) (σ : KS) (N : Nat → Nat) (r : Nat) (hs : Nat → Nat → Nat) (T : Nat → Nat) (n : Nat) (x g : Int32) (hC : CI σ N r hs T n) (hI : qIr N) (hU : qU N) (hB : N 10 < 2 ^ 31) : Ct l D b yX5_iceBox cX5_iceBox 3 (some .int) (rM 3 69) 0 0 [rf b 0, .int x, .int g] sh σ sh (pS (some (.int (oIceBox N x g).1)) (fun τ => CO σ N r hs T n (oIceBox N x g).2 τ)) := by
  have h2 := qi_2 hI
  have ho := s1_in
  have hP := hC.1
  obtain ⟨π, hR⟩ := hC.2.1
  refine Ct.of (ls := [(0, rf b 0), (1, .int x), (2, .int g)]) (by decide) (Nat.le_of_ble_eq_true rfl) rfl ?_
  intro pg e s m args below meth c Q hQ X hnm
  refine K_iload_n X 1 dX5_iceBox_0 rfl rfl ?_
  refine K_callSE X (c_X5_isBox l D b hsh _ _) my_X5_isBox wt_X5_isBox wm_X5_72 ⟨rfl, rfl, Nat.le_of_ble_eq_true rfl, Nat.le_of_ble_eq_true rfl, Nat.le_of_ble_eq_true rfl, Nat.le_of_ble_eq_true rfl⟩ rfl rfl (Nat.le_of_ble_eq_true rfl) dX5_iceBox_1 ?_
  refine K_ifB_ne (tgt := 9) X dX5_iceBox_4 (by decide) (fun c4 => ?_) (fun c4 => ?_)
  · obtain ⟨u, hlu, hhu, rfl⟩ := qIn_ex (lo := 0) (hi := 5) (by decide) (by decide) c4
    refine K_iload_n X 2 dX5_iceBox_9 rfl rfl ?_
    refine K_iconst X dX5_iceBox_10 cii_1 ?_
    refine K_sipush X dX5_iceBox_11 cis_5000 ?_
    refine K_callSE X (c_X5_withinQ l D b hsh _ _ _ _) my_X5_within wt_X5_within wm_X5_44 ⟨rfl, rfl, Nat.le_of_ble_eq_true rfl, Nat.le_of_ble_eq_true rfl, Nat.le_of_ble_eq_true rfl, Nat.le_of_ble_eq_true rfl⟩ rfl rfl (Nat.le_of_ble_eq_true rfl) dX5_iceBox_14 ?_
    refine K_ifB_ne (tgt := 23) X dX5_iceBox_17 (by decide) (fun c17 => ?_) (fun c17 => ?_)
    · obtain ⟨v, hlv, hhv, rfl⟩ := qIn_ex (lo := 1) (hi := 5000) (by decide) (by decide) c17
      refine K_aload_n X 0 dX5_iceBox_23 rfl rfl ?_
      refine K_get X 3 kFd5 rfl (by decide) (sf_c hsh) wf_X5_29 rfl (v := rf b (48)) (kv_o (pf_03 hP)) dX5_iceBox_24 ?_
      refine K_aload_n X 0 dX5_iceBox_27 rfl rfl ?_
      refine K_get X 0 kFd5 rfl (by decide) (sf_c hsh) wf_X5_10 rfl (v := rf b (1)) (kv_o (pf_00 hP)) dX5_iceBox_28 ?_
      refine K_callVP0 X (c_X2_save l D b hsh _ _ _ _ _ hP hR h2 hC.2.2.2.1) my_X2_save mv_X2_save wm_X5_48 (sf_h hsh) rfl ⟨rfl, rfl, Nat.le_of_ble_eq_true rfl, Nat.le_of_ble_eq_true rfl, Nat.le_of_ble_eq_true rfl, Nat.le_of_ble_eq_true rfl⟩ rfl rfl (Nat.le_of_ble_eq_true rfl) dX5_iceBox_31 (fun σ31 h31 => ?_)
      refine K_gen (φ := fun τ => Hs τ (qRr r + 1) (hsN hs r N) ∧ Fh _ τ) h31 (fun σ hv => ?_)
      have hC := hC.fh h2 hv
      have hR := hv.2.rs hR h2
      have hK := hv.2.cf
      have hP := hC.1
      have hP0 := hP
      have hF := Fr.rf (σ := σ) (o := 1)
      refine K_aload_n X 0 dX5_iceBox_34 rfl rfl ?_
      refine K_get X 0 kFd5 rfl (by decide) (sf_c hsh) wf_X5_10 rfl (v := rf b (1)) (kv_o (pf_00 hP)) dX5_iceBox_35 ?_
      refine K_get X 14 kFd4 rfl (by decide) (so_0 hsh 1 ho) wf_X5_83 rfl (v := rf b (1 + 4)) (kv_a (ps_14 hP ho)) dX5_iceBox_38 ?_
      refine K_iload_n X 1 dX5_iceBox_41 rfl rfl ?_
      refine K_sipush X dX5_iceBox_42 cis_5000 ?_
      refine K_aload_n X 0 dX5_iceBox_45 rfl rfl ?_
      refine K_get X 0 kFd5 rfl (by decide) (sf_c hsh) wf_X5_10 rfl (v := rf b (1)) (kv_o (pf_00 hP)) dX5_iceBox_46 ?_
      refine K_get X 14 kFd4 rfl (by decide) (so_0 hsh 1 ho) wf_X5_83 rfl (v := rf b (1 + 4)) (kv_a (ps_14 hP ho)) dX5_iceBox_49 ?_
      refine K_iload_n X 1 dX5_iceBox_52 rfl rfl ?_
      refine K_iald X _ (so_4 hsh 1 ho) rfl (by omega) (by decide) (x := nI (N (34 + u))) (rs_a hR 4 (by decide) (by decide) (show _ < 6 from by omega)) dX5_iceBox_53 ?_
      refine K_iload_n X 2 dX5_iceBox_54 rfl rfl ?_
      refine K_iaddN X dX5_iceBox_55 ?_
      refine K_min X wm_X5_86 wt_min wn_Math wc_min ⟨Nat.le_of_ble_eq_true rfl, Nat.le_of_ble_eq_true rfl, Nat.le_of_ble_eq_true rfl, Nat.le_of_ble_eq_true rfl⟩ dX5_iceBox_56 ?_
      rw [kMin (by have := qi_i hI (show u < 11 from by omega); omega) (by decide), qIce_min]
      refine K_iast X _ (so_4 hsh 1 ho) rfl (by omega) (by decide) dX5_iceBox_59 ?_
      refine K_gen (φ := fun τ => Rs τ 1 π (uN N (34 + u) (qIce N u v)) ∧ Fr _ τ 1) ⟨hR.arr (a := 4) (k := u) (v := qIce N u v) (by decide) (by decide) (show u < 6 from by omega), hF.tr (Fr.i (by omega) (by omega))⟩ (fun σ hs => ?_)
      obtain ⟨hR, hF⟩ := hs
      have hP := hF.PF ho hP0
      refine K_aload_n X 0 dX5_iceBox_60 rfl rfl ?_
      refine K_get X 0 kFd5 rfl (by decide) (sf_c hsh) wf_X5_10 rfl (v := rf b (1)) (kv_o (pf_00 hP)) dX5_iceBox_61 ?_
      refine K_get X 14 kFd4 rfl (by decide) (so_0 hsh 1 ho) wf_X5_83 rfl (v := rf b (1 + 4)) (kv_a (ps_14 hP ho)) dX5_iceBox_64 ?_
      refine K_iload_n X 1 dX5_iceBox_67 rfl rfl ?_
      refine K_iald X _ (so_4 hsh 1 ho) rfl (by omega) (by decide) (x := nI ((uN N (34 + u) (qIce N u v)) (34 + u))) (rs_a hR 4 (by decide) (by decide) (show _ < 6 from by omega)) dX5_iceBox_68 ?_
      rw [uN_s]
      exact K_iret X hQ dX5_iceBox_69 (by rw [show oIceBox N (nI u) (nI v) = (nI (qIce N u v), some (uN N (34 + u) (qIce N u v))) from by unfold oIceBox; unfold oIce; rw [if_pos c4, if_pos c17, tN_nI (by omega), tN_nI (by omega)]]; exact ⟨rfl, hK.tr (Cf.fr s1_in hF), hC.sh ⟨⟨_, hR⟩, hF⟩⟩)
    · refine K_bipush X dX5_iceBox_20 cib_m2 ?_
      exact K_iret X hQ dX5_iceBox_22 (by rw [show oIceBox N (nI u) g = (-2, none) from by unfold oIceBox; unfold oIce; rw [if_pos c4, qI_f c17]]; exact ⟨rfl, Cf.rf, hC⟩)
  · refine K_iconst X dX5_iceBox_7 cii_m1 ?_
    exact K_iret X hQ dX5_iceBox_8 (by rw [show oIceBox N x g = (-1, none) from by unfold oIceBox; rw [qI_f c4]]; exact ⟨rfl, Cf.rf, hC⟩)

set_option maxHeartbeats 4000000 in
set_option maxRecDepth 100000 in
theorem c_X5_iceTray (l : Launch) (D : KD) (b : Nat) {sh : List KSh} (hsh : shP sh) (σ : KS) (N : Nat → Nat) (r : Nat) (hs : Nat → Nat → Nat) (T : Nat → Nat) (n : Nat) (x g : Int32) (hC : CI σ N r hs T n) (hI : qIr N) (hU : qU N) (hB : N 10 < 2 ^ 31) : Ct l D b yX5_iceTray cX5_iceTray 3 (some .int) (rM 3 69) 0 0 [rf b 0, .int x, .int g] sh σ sh (pS (some (.int (oIceTray N x g).1)) (fun τ => CO σ N r hs T n (oIceTray N x g).2 τ)) := by
  have h2 := qi_2 hI
  have ho := s1_in
  have hP := hC.1
  obtain ⟨π, hR⟩ := hC.2.1
  refine Ct.of (ls := [(0, rf b 0), (1, .int x), (2, .int g)]) (by decide) (Nat.le_of_ble_eq_true rfl) rfl ?_
  intro pg e s m args below meth c Q hQ X hnm
  refine K_iload_n X 1 dX5_iceTray_0 rfl rfl ?_
  refine K_callSE X (c_X5_isTray l D b hsh _ _) my_X5_isTray wt_X5_isTray wm_X5_92 ⟨rfl, rfl, Nat.le_of_ble_eq_true rfl, Nat.le_of_ble_eq_true rfl, Nat.le_of_ble_eq_true rfl, Nat.le_of_ble_eq_true rfl⟩ rfl rfl (Nat.le_of_ble_eq_true rfl) dX5_iceTray_1 ?_
  refine K_ifB_ne (tgt := 9) X dX5_iceTray_4 (by decide) (fun c4 => ?_) (fun c4 => ?_)
  · obtain ⟨u, hlu, hhu, rfl⟩ := qIn_ex (lo := 0) (hi := 4) (by decide) (by decide) c4
    refine K_iload_n X 2 dX5_iceTray_9 rfl rfl ?_
    refine K_iconst X dX5_iceTray_10 cii_1 ?_
    refine K_sipush X dX5_iceTray_11 cis_5000 ?_
    refine K_callSE X (c_X5_withinQ l D b hsh _ _ _ _) my_X5_within wt_X5_within wm_X5_44 ⟨rfl, rfl, Nat.le_of_ble_eq_true rfl, Nat.le_of_ble_eq_true rfl, Nat.le_of_ble_eq_true rfl, Nat.le_of_ble_eq_true rfl⟩ rfl rfl (Nat.le_of_ble_eq_true rfl) dX5_iceTray_14 ?_
    refine K_ifB_ne (tgt := 23) X dX5_iceTray_17 (by decide) (fun c17 => ?_) (fun c17 => ?_)
    · obtain ⟨v, hlv, hhv, rfl⟩ := qIn_ex (lo := 1) (hi := 5000) (by decide) (by decide) c17
      refine K_aload_n X 0 dX5_iceTray_23 rfl rfl ?_
      refine K_get X 3 kFd5 rfl (by decide) (sf_c hsh) wf_X5_29 rfl (v := rf b (48)) (kv_o (pf_03 hP)) dX5_iceTray_24 ?_
      refine K_aload_n X 0 dX5_iceTray_27 rfl rfl ?_
      refine K_get X 0 kFd5 rfl (by decide) (sf_c hsh) wf_X5_10 rfl (v := rf b (1)) (kv_o (pf_00 hP)) dX5_iceTray_28 ?_
      refine K_callVP0 X (c_X2_save l D b hsh _ _ _ _ _ hP hR h2 hC.2.2.2.1) my_X2_save mv_X2_save wm_X5_48 (sf_h hsh) rfl ⟨rfl, rfl, Nat.le_of_ble_eq_true rfl, Nat.le_of_ble_eq_true rfl, Nat.le_of_ble_eq_true rfl, Nat.le_of_ble_eq_true rfl⟩ rfl rfl (Nat.le_of_ble_eq_true rfl) dX5_iceTray_31 (fun σ31 h31 => ?_)
      refine K_gen (φ := fun τ => Hs τ (qRr r + 1) (hsN hs r N) ∧ Fh _ τ) h31 (fun σ hv => ?_)
      have hC := hC.fh h2 hv
      have hR := hv.2.rs hR h2
      have hK := hv.2.cf
      have hP := hC.1
      have hP0 := hP
      have hF := Fr.rf (σ := σ) (o := 1)
      refine K_aload_n X 0 dX5_iceTray_34 rfl rfl ?_
      refine K_get X 0 kFd5 rfl (by decide) (sf_c hsh) wf_X5_10 rfl (v := rf b (1)) (kv_o (pf_00 hP)) dX5_iceTray_35 ?_
      refine K_get X 15 kFd4 rfl (by decide) (so_0 hsh 1 ho) wf_X5_95 rfl (v := rf b (1 + 5)) (kv_a (ps_15 hP ho)) dX5_iceTray_38 ?_
      refine K_iload_n X 1 dX5_iceTray_41 rfl rfl ?_
      refine K_sipush X dX5_iceTray_42 cis_5000 ?_
      refine K_aload_n X 0 dX5_iceTray_45 rfl rfl ?_
      refine K_get X 0 kFd5 rfl (by decide) (sf_c hsh) wf_X5_10 rfl (v := rf b (1)) (kv_o (pf_00 hP)) dX5_iceTray_46 ?_
      refine K_get X 15 kFd4 rfl (by decide) (so_0 hsh 1 ho) wf_X5_95 rfl (v := rf b (1 + 5)) (kv_a (ps_15 hP ho)) dX5_iceTray_49 ?_
      refine K_iload_n X 1 dX5_iceTray_52 rfl rfl ?_
      refine K_iald X _ (so_5 hsh 1 ho) rfl (by omega) (by decide) (x := nI (N (40 + u))) (rs_a hR 5 (by decide) (by decide) (show _ < 5 from by omega)) dX5_iceTray_53 ?_
      rw [show 40 + u = 34 + (6 + u) from by omega]
      refine K_iload_n X 2 dX5_iceTray_54 rfl rfl ?_
      refine K_iaddN X dX5_iceTray_55 ?_
      refine K_min X wm_X5_86 wt_min wn_Math wc_min ⟨Nat.le_of_ble_eq_true rfl, Nat.le_of_ble_eq_true rfl, Nat.le_of_ble_eq_true rfl, Nat.le_of_ble_eq_true rfl⟩ dX5_iceTray_56 ?_
      rw [kMin (by have := qi_i hI (show (6 + u) < 11 from by omega); omega) (by decide), qIce_min]
      refine K_iast X _ (so_5 hsh 1 ho) rfl (by omega) (by decide) dX5_iceTray_59 ?_
      refine K_gen (φ := fun τ => Rs τ 1 π (uN N (34 + (6 + u)) (qIce N (6 + u) v)) ∧ Fr _ τ 1) ⟨(by have h := hR.arr (a := 5) (k := u) (v := qIce N (6 + u) v) (by decide) (by decide) (show u < 5 from by omega); rw [show qAb 5 + u = 34 + (6 + u) from (by show 40 + u = _; omega)] at h; exact h), hF.tr (Fr.i (by omega) (by omega))⟩ (fun σ hs => ?_)
      obtain ⟨hR, hF⟩ := hs
      have hP := hF.PF ho hP0
      refine K_aload_n X 0 dX5_iceTray_60 rfl rfl ?_
      refine K_get X 0 kFd5 rfl (by decide) (sf_c hsh) wf_X5_10 rfl (v := rf b (1)) (kv_o (pf_00 hP)) dX5_iceTray_61 ?_
      refine K_get X 15 kFd4 rfl (by decide) (so_0 hsh 1 ho) wf_X5_95 rfl (v := rf b (1 + 5)) (kv_a (ps_15 hP ho)) dX5_iceTray_64 ?_
      refine K_iload_n X 1 dX5_iceTray_67 rfl rfl ?_
      refine K_iald X _ (so_5 hsh 1 ho) rfl (by omega) (by decide) (x := nI ((uN N (34 + (6 + u)) (qIce N (6 + u) v)) (40 + u))) (rs_a hR 5 (by decide) (by decide) (show _ < 5 from by omega)) dX5_iceTray_68 ?_
      rw [show 40 + u = 34 + (6 + u) from by omega]
      rw [uN_s]
      exact K_iret X hQ dX5_iceTray_69 (by rw [show oIceTray N (nI u) (nI v) = (nI (qIce N (6 + u) v), some (uN N (34 + (6 + u)) (qIce N (6 + u) v))) from by unfold oIceTray; unfold oIce; rw [if_pos c4, if_pos c17, tN_nI (by omega), tN_nI (by omega)]]; exact ⟨rfl, hK.tr (Cf.fr s1_in hF), hC.sh ⟨⟨_, hR⟩, hF⟩⟩)
    · refine K_bipush X dX5_iceTray_20 cib_m2 ?_
      exact K_iret X hQ dX5_iceTray_22 (by rw [show oIceTray N (nI u) g = (-2, none) from by unfold oIceTray; unfold oIce; rw [if_pos c4, qI_f c17]]; exact ⟨rfl, Cf.rf, hC⟩)
  · refine K_iconst X dX5_iceTray_7 cii_m1 ?_
    exact K_iret X hQ dX5_iceTray_8 (by rw [show oIceTray N x g = (-1, none) from by unfold oIceTray; rw [qI_f c4]]; exact ⟨rfl, Cf.rf, hC⟩)

set_option maxHeartbeats 4000000 in
set_option maxRecDepth 100000 in
theorem c_X5_toTray (l : Launch) (D : KD) (b : Nat) {sh : List KSh} (hsh : shP sh) (σ : KS) (N : Nat → Nat) (r : Nat) (hs : Nat → Nat → Nat) (T : Nat → Nat) (n : Nat) (x y : Int32) (hC : CI σ N r hs T n) (hI : qIr N) (hU : qU N) (hB : N 10 < 2 ^ 31) : Ct l D b yX5_toTray cX5_toTray 4 (some .int) (rM 3 69) 0 0 [rf b 0, .int x, .int y] sh σ sh (pS (some (.int (oToTray N x y).1)) (fun τ => CO σ N r hs T n (oToTray N x y).2 τ)) := by
  have h2 := qi_2 hI
  have ho := s1_in
  have hP := hC.1
  obtain ⟨π, hR⟩ := hC.2.1
  refine Ct.of (ls := [(0, rf b 0), (1, .int x), (2, .int y)]) (by decide) (Nat.le_of_ble_eq_true rfl) rfl ?_
  intro pg e s m args below meth c Q hQ X hnm
  refine K_aload_n X 0 dX5_toTray_0 rfl rfl ?_
  refine K_get X 0 kFd5 rfl (by decide) (sf_c hsh) wf_X5_10 rfl (v := rf b (1)) (kv_o (pf_00 hP)) dX5_toTray_1 ?_
  refine K_iload_n X 1 dX5_toTray_4 rfl rfl ?_
  refine K_callVE X (c_X4_findLot l D b hsh _ _ _ _ _ hP ho hR hI hU hB) my_X4_findLot mv_X4_findLot wm_X5_98 (so_0 hsh 1 ho) rfl ⟨rfl, rfl, Nat.le_of_ble_eq_true rfl, Nat.le_of_ble_eq_true rfl, Nat.le_of_ble_eq_true rfl, Nat.le_of_ble_eq_true rfl⟩ rfl rfl (Nat.le_of_ble_eq_true rfl) dX5_toTray_5 ?_
  rcases hf : qF N x (N 2) with _ | j
  · refine K_astore_nN X (ls' := [(3, _), (0, _), (1, _), (2, _)]) dX5_toTray_8 rfl (by decide) rfl ?_
    refine K_aload_nN X 0 dX5_toTray_9 rfl rfl ?_
    refine K_ifnullN (tgt := 20) X dX5_toTray_10 (by decide) ?_
    refine K_iconst X dX5_toTray_20 cii_m1 ?_
    exact K_iret X hQ dX5_toTray_21 (by rw [show oToTray N x y = (-1, none) from by unfold oToTray; rw [oOf_n hf]]; exact ⟨rfl, Cf.rf, hC⟩)
  · have hjl : j < N 2 := qF_lt hf
    refine K_astore_n X (ls' := [(3, _), (0, _), (1, _), (2, _)]) dX5_toTray_8 rfl (by decide) rfl ?_
    refine K_aload_n X 0 dX5_toTray_9 rfl rfl ?_
    refine K_ifnull (tgt := 20) X dX5_toTray_10 (by decide) ?_
    refine K_iload_n X 3 dX5_toTray_13 rfl rfl ?_
    refine K_callSE X (c_X5_isTray l D b hsh _ _) my_X5_isTray wt_X5_isTray wm_X5_92 ⟨rfl, rfl, Nat.le_of_ble_eq_true rfl, Nat.le_of_ble_eq_true rfl, Nat.le_of_ble_eq_true rfl, Nat.le_of_ble_eq_true rfl⟩ rfl rfl (Nat.le_of_ble_eq_true rfl) dX5_toTray_14 ?_
    refine K_ifB_ne (tgt := 22) X dX5_toTray_17 (by decide) (fun c17 => ?_) (fun c17 => ?_)
    · obtain ⟨t, hlt, hht, rfl⟩ := qIn_ex (lo := 0) (hi := 4) (by decide) (by decide) c17
      refine K_aload_n X 1 dX5_toTray_22 rfl rfl ?_
      refine K_get X 0 kFd5 rfl (by decide) (sf_c hsh) wf_X5_10 rfl (v := rf b (1)) (kv_o (pf_00 hP)) dX5_toTray_23 ?_
      refine K_iload_n X 3 dX5_toTray_26 rfl rfl ?_
      refine K_callVE X (c_X4_indexOnTray l D b hsh _ _ _ _ _ hP ho hR hI (by omega)) my_X4_indexOnTray mv_X4_indexOnTray wm_X5_102 (so_0 hsh 1 ho) rfl ⟨rfl, rfl, Nat.le_of_ble_eq_true rfl, Nat.le_of_ble_eq_true rfl, Nat.le_of_ble_eq_true rfl, Nat.le_of_ble_eq_true rfl⟩ rfl rfl (Nat.le_of_ble_eq_true rfl) dX5_toTray_27 ?_
      refine K_bipush X dX5_toTray_30 cib_m6 ?_
      refine K_icmp_eq (tgt := 38) X dX5_toTray_32 (by decide) (fun c32 => ?_) (fun c32 => ?_)
      · have hf2 := (qO_n (fun z hz => by have : z < N 2 := qFst_lt hz (Nat.le_refl _) (fun q hq => by cases hq); omega)).mp c32
        refine K_aload_n X 1 dX5_toTray_38 rfl rfl ?_
        refine K_get X 3 kFd5 rfl (by decide) (sf_c hsh) wf_X5_29 rfl (v := rf b (48)) (kv_o (pf_03 hP)) dX5_toTray_39 ?_
        refine K_aload_n X 1 dX5_toTray_42 rfl rfl ?_
        refine K_get X 0 kFd5 rfl (by decide) (sf_c hsh) wf_X5_10 rfl (v := rf b (1)) (kv_o (pf_00 hP)) dX5_toTray_43 ?_
        refine K_callVP0 X (c_X2_save l D b hsh _ _ _ _ _ hP hR h2 hC.2.2.2.1) my_X2_save mv_X2_save wm_X5_48 (sf_h hsh) rfl ⟨rfl, rfl, Nat.le_of_ble_eq_true rfl, Nat.le_of_ble_eq_true rfl, Nat.le_of_ble_eq_true rfl, Nat.le_of_ble_eq_true rfl⟩ rfl rfl (Nat.le_of_ble_eq_true rfl) dX5_toTray_46 (fun σ46 h46 => ?_)
        refine K_gen (φ := fun τ => Hs τ (qRr r + 1) (hsN hs r N) ∧ Fh _ τ) h46 (fun σ hv => ?_)
        have hC := hC.fh h2 hv
        have hR := hv.2.rs hR h2
        have hK := hv.2.cf
        have hP := hC.1
        have hP0 := hP
        have hF := Fr.rf (σ := σ) (o := 1)
        refine K_aload_n X 0 dX5_toTray_49 rfl rfl ?_
        refine K_iload_n X 3 dX5_toTray_50 rfl rfl ?_
        refine K_callVE0 X (c_X3_putOnTray l D b hsh _ _ _ (so_l hsh ho (rs_lt hR (by omega)))) my_X3_putOnTray mv_X3_putOnTray wm_X5_105 (so_l hsh ho (rs_lt hR (by omega))) rfl ⟨rfl, rfl, Nat.le_of_ble_eq_true rfl, Nat.le_of_ble_eq_true rfl, Nat.le_of_ble_eq_true rfl, Nat.le_of_ble_eq_true rfl⟩ rfl rfl (Nat.le_of_ble_eq_true rfl) dX5_toTray_51 ?_
        refine K_gen (φ := fun τ => Rs τ 1 π (uN N (45 + 5 * j + 4) (6 + t)) ∧ Fr _ τ 1) ⟨Rs.tray hR h2 hjl, hF.tr (Fr.i (by omega) (by have := rs_lt hR (show j < 16 from by omega); omega))⟩ (fun σ hs => ?_)
        obtain ⟨hR, hF⟩ := hs
        have hP := hF.PF ho hP0
        refine K_aload_n X 1 dX5_toTray_54 rfl rfl ?_
        refine K_get X 0 kFd5 rfl (by decide) (sf_c hsh) wf_X5_10 rfl (v := rf b (1)) (kv_o (pf_00 hP)) dX5_toTray_55 ?_
        refine K_aload_n X 0 dX5_toTray_58 rfl rfl ?_
        refine K_callVE X (c_X4_priceOf l D b hsh _ _ _ _ _ hP ho hR (qIr_l hI (by omega) ⟨by omega, by omega, by omega, fun _ => by omega⟩) (by rw [uN_n (by omega)]; exact hjl)) my_X4_priceOf mv_X4_priceOf wm_X5_111 (so_0 hsh 1 ho) rfl ⟨rfl, rfl, Nat.le_of_ble_eq_true rfl, Nat.le_of_ble_eq_true rfl, Nat.le_of_ble_eq_true rfl, Nat.le_of_ble_eq_true rfl⟩ rfl rfl (Nat.le_of_ble_eq_true rfl) dX5_toTray_59 ?_
        exact K_iret X hQ dX5_toTray_62 (by rw [show oToTray N x (nI t) = (nI (qPrice (uN N (45 + 5 * j + 4) (6 + t)) j), some (uN N (45 + 5 * j + 4) (6 + t))) from by unfold oToTray; rw [oOf_s hf, if_pos c17, tN_nI (by omega), if_pos (qCnt_0 (qFst_nn hf2).2)]]; exact ⟨rfl, hK.tr (Cf.fr s1_in hF), hC.sh ⟨⟨_, hR⟩, hF⟩⟩)
      · refine K_bipush X dX5_toTray_35 cib_m3 ?_
        exact K_iret X hQ dX5_toTray_37 (by obtain ⟨z, hf2⟩ := qO_ex c32; rw [show oToTray N x (nI t) = (-3, none) from by unfold oToTray; rw [oOf_s hf, if_pos c17, tN_nI (by omega), if_neg (qCnt_p (qFst_lt hf2 (Nat.le_refl _) (fun q hq => by cases hq)) (qFst_f hf2 (fun q hq => by cases hq)))]]; exact ⟨rfl, Cf.rf, hC⟩)
    · refine K_iconst X dX5_toTray_20 cii_m1 ?_
      exact K_iret X hQ dX5_toTray_21 (by rw [show oToTray N x y = (-1, none) from by unfold oToTray; rw [oOf_s hf, qI_f c17]]; exact ⟨rfl, Cf.rf, hC⟩)

set_option maxHeartbeats 4000000 in
set_option maxRecDepth 100000 in
theorem c_X5_toBox (l : Launch) (D : KD) (b : Nat) {sh : List KSh} (hsh : shP sh) (σ : KS) (N : Nat → Nat) (r : Nat) (hs : Nat → Nat → Nat) (T : Nat → Nat) (n : Nat) (x y : Int32) (hC : CI σ N r hs T n) (hI : qIr N) (hU : qU N) (hB : N 10 < 2 ^ 31) : Ct l D b yX5_toBox cX5_toBox 4 (some .int) (rM 3 69) 0 0 [rf b 0, .int x, .int y] sh σ sh (pS (some (.int (oToBox N x y).1)) (fun τ => CO σ N r hs T n (oToBox N x y).2 τ)) := by
  have h2 := qi_2 hI
  have ho := s1_in
  have hP := hC.1
  obtain ⟨π, hR⟩ := hC.2.1
  refine Ct.of (ls := [(0, rf b 0), (1, .int x), (2, .int y)]) (by decide) (Nat.le_of_ble_eq_true rfl) rfl ?_
  intro pg e s m args below meth c Q hQ X hnm
  refine K_aload_n X 0 dX5_toBox_0 rfl rfl ?_
  refine K_get X 0 kFd5 rfl (by decide) (sf_c hsh) wf_X5_10 rfl (v := rf b (1)) (kv_o (pf_00 hP)) dX5_toBox_1 ?_
  refine K_iload_n X 1 dX5_toBox_4 rfl rfl ?_
  refine K_callVE X (c_X4_findLot l D b hsh _ _ _ _ _ hP ho hR hI hU hB) my_X4_findLot mv_X4_findLot wm_X5_98 (so_0 hsh 1 ho) rfl ⟨rfl, rfl, Nat.le_of_ble_eq_true rfl, Nat.le_of_ble_eq_true rfl, Nat.le_of_ble_eq_true rfl, Nat.le_of_ble_eq_true rfl⟩ rfl rfl (Nat.le_of_ble_eq_true rfl) dX5_toBox_5 ?_
  rcases hf : qF N x (N 2) with _ | j
  · refine K_astore_nN X (ls' := [(3, _), (0, _), (1, _), (2, _)]) dX5_toBox_8 rfl (by decide) rfl ?_
    refine K_aload_nN X 0 dX5_toBox_9 rfl rfl ?_
    refine K_ifnullN (tgt := 20) X dX5_toBox_10 (by decide) ?_
    refine K_iconst X dX5_toBox_20 cii_m1 ?_
    exact K_iret X hQ dX5_toBox_21 (by rw [show oToBox N x y = (-1, none) from by unfold oToBox; rw [oOf_n hf]]; exact ⟨rfl, Cf.rf, hC⟩)
  · have hjl : j < N 2 := qF_lt hf
    refine K_astore_n X (ls' := [(3, _), (0, _), (1, _), (2, _)]) dX5_toBox_8 rfl (by decide) rfl ?_
    refine K_aload_n X 0 dX5_toBox_9 rfl rfl ?_
    refine K_ifnull (tgt := 20) X dX5_toBox_10 (by decide) ?_
    refine K_iload_n X 3 dX5_toBox_13 rfl rfl ?_
    refine K_callSE X (c_X5_isBox l D b hsh _ _) my_X5_isBox wt_X5_isBox wm_X5_72 ⟨rfl, rfl, Nat.le_of_ble_eq_true rfl, Nat.le_of_ble_eq_true rfl, Nat.le_of_ble_eq_true rfl, Nat.le_of_ble_eq_true rfl⟩ rfl rfl (Nat.le_of_ble_eq_true rfl) dX5_toBox_14 ?_
    refine K_ifB_ne (tgt := 22) X dX5_toBox_17 (by decide) (fun c17 => ?_) (fun c17 => ?_)
    · obtain ⟨t, hlt, hht, rfl⟩ := qIn_ex (lo := 0) (hi := 5) (by decide) (by decide) c17
      refine K_aload_n X 0 dX5_toBox_22 rfl rfl ?_
      refine K_get X 4 kFd3 rfl (by decide) (so_l hsh ho (rs_lt hR (by omega))) wf_X5_115 rfl (v := .int (qBx (qL N j 4))) (congrArg Value.int (rs_l4 hR hjl)) dX5_toBox_23 ?_
      refine K_iload_n X 3 dX5_toBox_26 rfl rfl ?_
      refine K_icmp_eq (tgt := 41) X dX5_toBox_27 (by decide) (fun c27 => ?_) (fun c27 => ?_)
      · refine K_bipush X dX5_toBox_41 cib_m3 ?_
        exact K_iret X hQ dX5_toBox_43 (by rw [show oToBox N x (nI t) = (-3, none) from by unfold oToBox; rw [oOf_s hf, if_pos c17, tN_nI (by omega), if_pos (Or.inl ((qBx_eq (by have := qi_l4 hI hjl; omega) (by omega)).mp c27))]]; exact ⟨rfl, Cf.rf, hC⟩)
      · refine K_aload_n X 1 dX5_toBox_30 rfl rfl ?_
        refine K_get X 0 kFd5 rfl (by decide) (sf_c hsh) wf_X5_10 rfl (v := rf b (1)) (kv_o (pf_00 hP)) dX5_toBox_31 ?_
        refine K_iload_n X 3 dX5_toBox_34 rfl rfl ?_
        refine K_callVE X (c_X4_isBoxFull l D b hsh _ _ _ _ _ hP ho hR hI (by omega)) my_X4_isBoxFull mv_X4_isBoxFull wm_X5_118 (so_0 hsh 1 ho) rfl ⟨rfl, rfl, Nat.le_of_ble_eq_true rfl, Nat.le_of_ble_eq_true rfl, Nat.le_of_ble_eq_true rfl, Nat.le_of_ble_eq_true rfl⟩ rfl rfl (Nat.le_of_ble_eq_true rfl) dX5_toBox_35 ?_
        refine K_ifB_eq (tgt := 44) X dX5_toBox_38 (by decide) (fun c38 => ?_) (fun c38 => ?_)
        · refine K_aload_n X 1 dX5_toBox_44 rfl rfl ?_
          refine K_get X 3 kFd5 rfl (by decide) (sf_c hsh) wf_X5_29 rfl (v := rf b (48)) (kv_o (pf_03 hP)) dX5_toBox_45 ?_
          refine K_aload_n X 1 dX5_toBox_48 rfl rfl ?_
          refine K_get X 0 kFd5 rfl (by decide) (sf_c hsh) wf_X5_10 rfl (v := rf b (1)) (kv_o (pf_00 hP)) dX5_toBox_49 ?_
          refine K_callVP0 X (c_X2_save l D b hsh _ _ _ _ _ hP hR h2 hC.2.2.2.1) my_X2_save mv_X2_save wm_X5_48 (sf_h hsh) rfl ⟨rfl, rfl, Nat.le_of_ble_eq_true rfl, Nat.le_of_ble_eq_true rfl, Nat.le_of_ble_eq_true rfl, Nat.le_of_ble_eq_true rfl⟩ rfl rfl (Nat.le_of_ble_eq_true rfl) dX5_toBox_52 (fun σ52 h52 => ?_)
          refine K_gen (φ := fun τ => Hs τ (qRr r + 1) (hsN hs r N) ∧ Fh _ τ) h52 (fun σ hv => ?_)
          have hC := hC.fh h2 hv
          have hR := hv.2.rs hR h2
          have hK := hv.2.cf
          have hP := hC.1
          have hP0 := hP
          have hF := Fr.rf (σ := σ) (o := 1)
          refine K_aload_n X 0 dX5_toBox_55 rfl rfl ?_
          refine K_iload_n X 3 dX5_toBox_56 rfl rfl ?_
          refine K_callVE0 X (c_X3_putInBox l D b hsh _ _ _ (so_l hsh ho (rs_lt hR (by omega)))) my_X3_putInBox mv_X3_putInBox wm_X5_121 (so_l hsh ho (rs_lt hR (by omega))) rfl ⟨rfl, rfl, Nat.le_of_ble_eq_true rfl, Nat.le_of_ble_eq_true rfl, Nat.le_of_ble_eq_true rfl, Nat.le_of_ble_eq_true rfl⟩ rfl rfl (Nat.le_of_ble_eq_true rfl) dX5_toBox_57 ?_
          refine K_gen (φ := fun τ => Rs τ 1 π (uN N (45 + 5 * j + 4) t) ∧ Fr _ τ 1) ⟨Rs.box hR h2 hjl (by omega), hF.tr (Fr.i (by omega) (by have := rs_lt hR (show j < 16 from by omega); omega))⟩ (fun σ hs => ?_)
          obtain ⟨hR, hF⟩ := hs
          have hP := hF.PF ho hP0
          refine K_aload_n X 1 dX5_toBox_60 rfl rfl ?_
          refine K_get X 0 kFd5 rfl (by decide) (sf_c hsh) wf_X5_10 rfl (v := rf b (1)) (kv_o (pf_00 hP)) dX5_toBox_61 ?_
          refine K_iload_n X 3 dX5_toBox_64 rfl rfl ?_
          refine K_callVE X (c_X4_lotsInBox l D b hsh _ _ _ _ _ hP ho hR (qIr_l hI (by omega) ⟨by omega, by omega, by omega, fun _ => by omega⟩) (by omega)) my_X4_lotsInBox mv_X4_lotsInBox wm_X5_124 (so_0 hsh 1 ho) rfl ⟨rfl, rfl, Nat.le_of_ble_eq_true rfl, Nat.le_of_ble_eq_true rfl, Nat.le_of_ble_eq_true rfl, Nat.le_of_ble_eq_true rfl⟩ rfl rfl (Nat.le_of_ble_eq_true rfl) dX5_toBox_65 ?_
          rw [uN_n (k := 2) (by omega)]
          exact K_iret X hQ dX5_toBox_68 (by rw [show oToBox N x (nI t) = (nI (qCnt (uN N (45 + 5 * j + 4) t) t (N 2)), some (uN N (45 + 5 * j + 4) t)) from by unfold oToBox; rw [oOf_s hf, if_pos c17, tN_nI (by omega), if_neg (fun q => q.elim (fun z => c27 ((qBx_eq (by have := qi_l4 hI hjl; omega) (by omega)).mpr z)) (fun z => by have := of_decide_eq_false c38; omega))]]; exact ⟨rfl, hK.tr (Cf.fr s1_in hF), hC.sh ⟨⟨_, hR⟩, hF⟩⟩)
        · refine K_bipush X dX5_toBox_41 cib_m3 ?_
          exact K_iret X hQ dX5_toBox_43 (by rw [show oToBox N x (nI t) = (-3, none) from by unfold oToBox; rw [oOf_s hf, if_pos c17, tN_nI (by omega), if_pos (Or.inr (by have := of_decide_eq_true c38; have := hU.2.2.1 t (by omega); omega))]]; exact ⟨rfl, Cf.rf, hC⟩)
    · refine K_iconst X dX5_toBox_20 cii_m1 ?_
      exact K_iret X hQ dX5_toBox_21 (by rw [show oToBox N x y = (-1, none) from by unfold oToBox; rw [oOf_s hf, qI_f c17]]; exact ⟨rfl, Cf.rf, hC⟩)

set_option maxHeartbeats 4000000 in
set_option maxRecDepth 100000 in
theorem c_X5_divide (l : Launch) (D : KD) (b : Nat) {sh : List KSh} (hsh : shP sh) (σ : KS) (N : Nat → Nat) (r : Nat) (hs : Nat → Nat → Nat) (T : Nat → Nat) (n : Nat) (x g bx : Int32) (hC : CI σ N r hs T n) (hI : qIr N) (hU : qU N) (hB : N 10 < 2 ^ 31) : Ct l D b yX5_divide cX5_divide 6 (some .int) (rM 3 69) 0 0 [rf b 0, .int x, .int g, .int bx] sh σ sh (pS (some (.int (oDivide N x g bx).1)) (fun τ => CO σ N r hs T n (oDivide N x g bx).2 τ)) := by
  have h2 := qi_2 hI
  have ho := s1_in
  have hP := hC.1
  obtain ⟨π, hR⟩ := hC.2.1
  refine Ct.of (ls := [(0, rf b 0), (1, .int x), (2, .int g), (3, .int bx)]) (by decide) (Nat.le_of_ble_eq_true rfl) rfl ?_
  intro pg e s m args below meth c Q hQ X hnm
  refine K_aload_n X 0 dX5_divide_0 rfl rfl ?_
  refine K_get X 0 kFd5 rfl (by decide) (sf_c hsh) wf_X5_10 rfl (v := rf b (1)) (kv_o (pf_00 hP)) dX5_divide_1 ?_
  refine K_iload_n X 1 dX5_divide_4 rfl rfl ?_
  refine K_callVE X (c_X4_findLot l D b hsh _ _ _ _ _ hP ho hR hI hU hB) my_X4_findLot mv_X4_findLot wm_X5_98 (so_0 hsh 1 ho) rfl ⟨rfl, rfl, Nat.le_of_ble_eq_true rfl, Nat.le_of_ble_eq_true rfl, Nat.le_of_ble_eq_true rfl, Nat.le_of_ble_eq_true rfl⟩ rfl rfl (Nat.le_of_ble_eq_true rfl) dX5_divide_5 ?_
  rcases hf : qF N x (N 2) with _ | j
  · refine K_astoreN X (ls' := [(4, _), (0, _), (1, _), (2, _), (3, _)]) dX5_divide_8 (by decide) rfl ?_
    refine K_aloadN X 0 dX5_divide_10 rfl ?_
    refine K_ifnullN (tgt := 22) X dX5_divide_12 (by decide) ?_
    refine K_iconst X dX5_divide_22 cii_m1 ?_
    exact K_iret X hQ dX5_divide_23 (by rw [show oDivide N x g bx = (-1, none) from by unfold oDivide; rw [oOf_n hf]]; exact ⟨rfl, Cf.rf, hC⟩)
  · have hjl : j < N 2 := qF_lt hf
    refine K_astore X (ls' := [(4, _), (0, _), (1, _), (2, _), (3, _)]) dX5_divide_8 (by decide) rfl ?_
    refine K_aload X 0 dX5_divide_10 rfl ?_
    refine K_ifnull (tgt := 22) X dX5_divide_12 (by decide) ?_
    refine K_iload_n X 4 dX5_divide_15 rfl rfl ?_
    refine K_callSE X (c_X5_isBox l D b hsh _ _) my_X5_isBox wt_X5_isBox wm_X5_72 ⟨rfl, rfl, Nat.le_of_ble_eq_true rfl, Nat.le_of_ble_eq_true rfl, Nat.le_of_ble_eq_true rfl, Nat.le_of_ble_eq_true rfl⟩ rfl rfl (Nat.le_of_ble_eq_true rfl) dX5_divide_16 ?_
    refine K_ifB_ne (tgt := 24) X dX5_divide_19 (by decide) (fun c19 => ?_) (fun c19 => ?_)
    · obtain ⟨t, hlt, hht, rfl⟩ := qIn_ex (lo := 0) (hi := 5) (by decide) (by decide) c19
      refine K_iload_n X 3 dX5_divide_24 rfl rfl ?_
      refine K_iconst X dX5_divide_25 cii_1 ?_
      refine K_sipush X dX5_divide_26 cis_19999 ?_
      refine K_callSE X (c_X5_withinQ l D b hsh _ _ _ _) my_X5_within wt_X5_within wm_X5_44 ⟨rfl, rfl, Nat.le_of_ble_eq_true rfl, Nat.le_of_ble_eq_true rfl, Nat.le_of_ble_eq_true rfl, Nat.le_of_ble_eq_true rfl⟩ rfl rfl (Nat.le_of_ble_eq_true rfl) dX5_divide_29 ?_
      refine K_ifB_ne (tgt := 38) X dX5_divide_32 (by decide) (fun c32 => ?_) (fun c32 => ?_)
      · obtain ⟨u, hlu, hhu, rfl⟩ := qIn_ex (lo := 1) (hi := 19999) (by decide) (by decide) c32
        refine K_iload_n X 3 dX5_divide_38 rfl rfl ?_
        refine K_aload X 0 dX5_divide_39 rfl ?_
        refine K_get X 2 kFd3 rfl (by decide) (so_l hsh ho (rs_lt hR (by omega))) wf_X5_127 rfl (v := .int (nI (qL N j 2))) (congrArg Value.int (rs_l hR hjl 2 (by decide))) dX5_divide_41 ?_
        refine K_icmpN_lt (tgt := 50) X dX5_divide_44 (by decide) (by omega) (by have := qi_l2 hI hjl; omega) (fun c44 => ?_) (fun c44 => ?_)
        · refine K_aload_n X 1 dX5_divide_50 rfl rfl ?_
          refine K_get X 0 kFd5 rfl (by decide) (sf_c hsh) wf_X5_10 rfl (v := rf b (1)) (kv_o (pf_00 hP)) dX5_divide_51 ?_
          refine K_iload_n X 4 dX5_divide_54 rfl rfl ?_
          refine K_callVE X (c_X4_refusalOfNewLot l D b hsh _ _ _ _ _ hP ho hR hI hU (by omega)) my_X4_refusalOfNewLot mv_X4_refusalOfNewLot wm_X5_75 (so_0 hsh 1 ho) rfl ⟨rfl, rfl, Nat.le_of_ble_eq_true rfl, Nat.le_of_ble_eq_true rfl, Nat.le_of_ble_eq_true rfl, Nat.le_of_ble_eq_true rfl⟩ rfl rfl (Nat.le_of_ble_eq_true rfl) dX5_divide_55 ?_
          refine K_istore X (ls' := [(5, _), (4, _), (0, _), (1, _), (2, _), (3, _)]) dX5_divide_58 (by decide) rfl ?_
          refine K_iload X 0 dX5_divide_60 rfl ?_
          refine K_if_eq (tgt := 68) X dX5_divide_62 (by decide) (fun c62 => ?_) (fun c62 => ?_)
          · obtain ⟨r1, r2⟩ := qRoom_0 c62
            refine K_aload_n X 2 dX5_divide_68 rfl rfl ?_
            refine K_get X 3 kFd5 rfl (by decide) (sf_c hsh) wf_X5_29 rfl (v := rf b (48)) (kv_o (pf_03 hP)) dX5_divide_69 ?_
            refine K_aload_n X 2 dX5_divide_72 rfl rfl ?_
            refine K_get X 0 kFd5 rfl (by decide) (sf_c hsh) wf_X5_10 rfl (v := rf b (1)) (kv_o (pf_00 hP)) dX5_divide_73 ?_
            refine K_callVP0 X (c_X2_save l D b hsh _ _ _ _ _ hP hR h2 hC.2.2.2.1) my_X2_save mv_X2_save wm_X5_48 (sf_h hsh) rfl ⟨rfl, rfl, Nat.le_of_ble_eq_true rfl, Nat.le_of_ble_eq_true rfl, Nat.le_of_ble_eq_true rfl, Nat.le_of_ble_eq_true rfl⟩ rfl rfl (Nat.le_of_ble_eq_true rfl) dX5_divide_76 (fun σ76 h76 => ?_)
            refine K_gen (φ := fun τ => Hs τ (qRr r + 1) (hsN hs r N) ∧ Fh _ τ) h76 (fun σ hv => ?_)
            have hC := hC.fh h2 hv
            have hR := hv.2.rs hR h2
            have hK := hv.2.cf
            have hP := hC.1
            have hP0 := hP
            have hF := Fr.rf (σ := σ) (o := 1)
            refine K_aload X 1 dX5_divide_79 rfl ?_
            refine K_dup X dX5_divide_81 rfl ?_
            refine K_get X 2 kFd3 rfl (by decide) (so_l hsh ho (rs_lt hR (by omega))) wf_X5_127 rfl (v := .int (nI (qL N j 2))) (congrArg Value.int (rs_l hR hjl 2 (by decide))) dX5_divide_82 ?_
            refine K_iload_n X 4 dX5_divide_85 rfl rfl ?_
            refine K_isubN X dX5_divide_86 (by omega) ?_
            refine K_putI X 2 kFd3 rfl (by decide) (so_l hsh ho (rs_lt hR (by omega))) wf_X5_127 rfl rfl rfl dX5_divide_87 ?_
            refine K_gen (φ := fun τ => Rs τ 1 π (uN N (45 + 5 * j + 2) (qL N j 2 - u)) ∧ Fr _ τ 1) ⟨hR.lotf h2 hjl (show 2 < 4 from by decide), hF.tr (Fr.i (by omega) (by have := rs_lt hR (show j < 16 from by omega); omega))⟩ (fun σ hs => ?_)
            obtain ⟨hR, hF⟩ := hs
            have hP := hF.PF ho hP0
            have hjM : j < (uN N (45 + 5 * j + 2) (qL N j 2 - u)) 2 := by rw [uN_n (by omega)]; exact hjl
            refine K_aload_n X 2 dX5_divide_90 rfl rfl ?_
            refine K_get X 0 kFd5 rfl (by decide) (sf_c hsh) wf_X5_10 rfl (v := rf b (1)) (kv_o (pf_00 hP)) dX5_divide_91 ?_
            refine K_aload X 1 dX5_divide_94 rfl ?_
            refine K_get X 1 kFd3 rfl (by decide) (so_l hsh ho (rs_lt hR (by omega))) wf_X5_130 rfl (v := .int (nI (qL (uN N (45 + 5 * j + 2) (qL N j 2 - u)) j 1))) (congrArg Value.int (rs_l hR hjM 1 (by decide))) dX5_divide_96 ?_
            rw [show qL (uN N (45 + 5 * j + 2) (qL N j 2 - u)) j 1 = qL N j 1 from uN_n (by omega)]
            refine K_iload_n X 4 dX5_divide_99 rfl rfl ?_
            refine K_aload X 1 dX5_divide_100 rfl ?_
            refine K_get X 3 kFd3 rfl (by decide) (so_l hsh ho (rs_lt hR (by omega))) wf_X5_133 rfl (v := .int (nI (qL (uN N (45 + 5 * j + 2) (qL N j 2 - u)) j 3))) (congrArg Value.int (rs_l hR hjM 3 (by decide))) dX5_divide_102 ?_
            rw [show qL (uN N (45 + 5 * j + 2) (qL N j 2 - u)) j 3 = qL N j 3 from uN_n (by omega)]
            refine K_iload_n X 5 dX5_divide_105 rfl rfl ?_
            refine K_callVP X (c_X4_addLot l D b hsh _ _ _ _ _ _ _ _ hP ho hR (by rw [uN_n (by omega)]; omega) (by omega)) my_X4_addLot mv_X4_addLot wm_X5_136 (so_0 hsh 1 ho) rfl ⟨rfl, rfl, Nat.le_of_ble_eq_true rfl, Nat.le_of_ble_eq_true rfl, Nat.le_of_ble_eq_true rfl, Nat.le_of_ble_eq_true rfl⟩ rfl rfl (Nat.le_of_ble_eq_true rfl) dX5_divide_106 (fun σ106 h106 => ?_)
            rw [show (uN N (45 + 5 * j + 2) (qL N j 2 - u)) 10 = N 10 from uN_n (by omega)]
            refine K_gen (φ := fun τ => SP _ τ 1 (_)) h106 (fun σ h => ?_)
            obtain ⟨⟨π, hR⟩, hF1⟩ := h
            have hF := hF.tr hF1
            have hP := hF.PF ho hP0
            exact K_iret X hQ dX5_divide_109 (by rw [show oDivide N x (nI u) (nI t) = (nI (N 10 + 1), some (qAdd (uN N (45 + 5 * j + 2) (qL N j 2 - u)) (qL N j 1) u (qL N j 3) t)) from by unfold oDivide; rw [oOf_s hf, if_pos c19, if_pos c32, tN_nI (by omega), tN_nI (by omega), show qWhyD N j u t = qRoom N t from if_pos c44, if_pos (by rw [c62]; decide)]]; exact ⟨rfl, hK.tr (Cf.fr s1_in hF), hC.sh ⟨⟨_, hR⟩, hF⟩⟩)
          · refine K_iload X 0 dX5_divide_65 rfl ?_
            exact K_iret X hQ dX5_divide_67 (by rw [show oDivide N x (nI u) (nI t) = (qRoom N t, none) from by unfold oDivide; rw [oOf_s hf, if_pos c19, if_pos c32, tN_nI (by omega), tN_nI (by omega), show qWhyD N j u t = qRoom N t from if_pos c44, if_neg (qRoom_no c62)]]; exact ⟨rfl, Cf.rf, hC⟩)
        · refine K_bipush X dX5_divide_47 cib_m3 ?_
          exact K_iret X hQ dX5_divide_49 (by rw [show oDivide N x (nI u) (nI t) = (-3, none) from by unfold oDivide; rw [oOf_s hf, if_pos c19, if_pos c32, tN_nI (by omega), tN_nI (by omega), show qWhyD N j u t = -3 from if_neg (by omega), if_neg (by decide)]]; exact ⟨rfl, Cf.rf, hC⟩)
      · refine K_bipush X dX5_divide_35 cib_m2 ?_
        exact K_iret X hQ dX5_divide_37 (by rw [show oDivide N x g (nI t) = (-2, none) from by unfold oDivide; rw [oOf_s hf, if_pos c19, qI_f c32]]; exact ⟨rfl, Cf.rf, hC⟩)
    · refine K_iconst X dX5_divide_22 cii_m1 ?_
      exact K_iret X hQ dX5_divide_23 (by rw [show oDivide N x g bx = (-1, none) from by unfold oDivide; rw [oOf_s hf, qI_f c19]]; exact ⟨rfl, Cf.rf, hC⟩)

set_option maxHeartbeats 4000000 in
set_option maxRecDepth 100000 in
theorem c_X5_throwAway (l : Launch) (D : KD) (b : Nat) {sh : List KSh} (hsh : shP sh) (σ : KS) (N : Nat → Nat) (r : Nat) (hs : Nat → Nat → Nat) (T : Nat → Nat) (n : Nat) (x : Int32) (hC : CI σ N r hs T n) (hI : qIr N) (hU : qU N) (hB : N 10 < 2 ^ 31) : Ct l D b yX5_throwAway cX5_throwAway 3 (some .int) (rM 3 69) 0 0 [rf b 0, .int x] sh σ sh (pS (some (.int (oThrow N x).1)) (fun τ => CO σ N r hs T n (oThrow N x).2 τ)) := by
  have h2 := qi_2 hI
  have ho := s1_in
  have hP := hC.1
  obtain ⟨π, hR⟩ := hC.2.1
  refine Ct.of (ls := [(0, rf b 0), (1, .int x)]) (by decide) (Nat.le_of_ble_eq_true rfl) rfl ?_
  intro pg e s m args below meth c Q hQ X hnm
  refine K_aload_n X 0 dX5_throwAway_0 rfl rfl ?_
  refine K_get X 0 kFd5 rfl (by decide) (sf_c hsh) wf_X5_10 rfl (v := rf b (1)) (kv_o (pf_00 hP)) dX5_throwAway_1 ?_
  refine K_iload_n X 1 dX5_throwAway_4 rfl rfl ?_
  refine K_callVE X (c_X4_indexOfLot l D b hsh _ _ _ _ _ hP ho hR hI hU hB) my_X4_indexOfLot mv_X4_indexOfLot wm_X5_139 (so_0 hsh 1 ho) rfl ⟨rfl, rfl, Nat.le_of_ble_eq_true rfl, Nat.le_of_ble_eq_true rfl, Nat.le_of_ble_eq_true rfl, Nat.le_of_ble_eq_true rfl⟩ rfl rfl (Nat.le_of_ble_eq_true rfl) dX5_throwAway_5 ?_
  refine K_istore_n X (ls' := [(2, _), (0, _), (1, _)]) dX5_throwAway_8 rfl (by decide) rfl ?_
  refine K_iload_n X 0 dX5_throwAway_9 rfl rfl ?_
  refine K_bipush X dX5_throwAway_10 cib_m6 ?_
  refine K_icmp_ne (tgt := 17) X dX5_throwAway_12 (by decide) (fun c12 => ?_) (fun c12 => ?_)
  · obtain ⟨j, hj⟩ := qO_ex c12
    have hjl := qF_lt hj
    rw [hj]
    refine K_aload_n X 1 dX5_throwAway_17 rfl rfl ?_
    refine K_get X 3 kFd5 rfl (by decide) (sf_c hsh) wf_X5_29 rfl (v := rf b (48)) (kv_o (pf_03 hP)) dX5_throwAway_18 ?_
    refine K_aload_n X 1 dX5_throwAway_21 rfl rfl ?_
    refine K_get X 0 kFd5 rfl (by decide) (sf_c hsh) wf_X5_10 rfl (v := rf b (1)) (kv_o (pf_00 hP)) dX5_throwAway_22 ?_
    refine K_callVP0 X (c_X2_save l D b hsh _ _ _ _ _ hP hR h2 hC.2.2.2.1) my_X2_save mv_X2_save wm_X5_48 (sf_h hsh) rfl ⟨rfl, rfl, Nat.le_of_ble_eq_true rfl, Nat.le_of_ble_eq_true rfl, Nat.le_of_ble_eq_true rfl, Nat.le_of_ble_eq_true rfl⟩ rfl rfl (Nat.le_of_ble_eq_true rfl) dX5_throwAway_25 (fun σ25 h25 => ?_)
    refine K_gen (φ := fun τ => Hs τ (qRr r + 1) (hsN hs r N) ∧ Fh _ τ) h25 (fun σ hv => ?_)
    have hC := hC.fh h2 hv
    have hR := hv.2.rs hR h2
    have hK := hv.2.cf
    have hP := hC.1
    have hP0 := hP
    have hF := Fr.rf (σ := σ) (o := 1)
    refine K_aload_n X 1 dX5_throwAway_28 rfl rfl ?_
    refine K_get X 0 kFd5 rfl (by decide) (sf_c hsh) wf_X5_10 rfl (v := rf b (1)) (kv_o (pf_00 hP)) dX5_throwAway_29 ?_
    refine K_iload_n X 0 dX5_throwAway_32 rfl rfl ?_
    refine K_callVP X (c_X4_discardLotAt l D b hsh _ _ _ _ _ hP ho hR hI hjl) my_X4_discardLotAt mv_X4_discardLotAt wm_X5_142 (so_0 hsh 1 ho) rfl ⟨rfl, rfl, Nat.le_of_ble_eq_true rfl, Nat.le_of_ble_eq_true rfl, Nat.le_of_ble_eq_true rfl, Nat.le_of_ble_eq_true rfl⟩ rfl rfl (Nat.le_of_ble_eq_true rfl) dX5_throwAway_33 (fun σ33 h33 => ?_)
    refine K_gen (φ := fun τ => SP _ τ 1 (_)) h33 (fun σ h => ?_)
    obtain ⟨⟨π, hR⟩, hF1⟩ := h
    have hF := hF.tr hF1
    have hP := hF.PF ho hP0
    exact K_iret X hQ dX5_throwAway_36 (by rw [show oThrow N x = (nI (qL N j 2), some (qThrow N j)) from by unfold oThrow; rw [oOf_s hj]]; exact ⟨rfl, hK.tr (Cf.fr s1_in hF), hC.sh ⟨⟨_, hR⟩, hF⟩⟩)
  · refine K_iconst X dX5_throwAway_15 cii_m1 ?_
    exact K_iret X hQ dX5_throwAway_16 (by rw [show oThrow N x = (-1, none) from by unfold oThrow; rw [oOf_n (qF_no h2 c12)]]; exact ⟨rfl, Cf.rf, hC⟩)

set_option maxHeartbeats 4000000 in
set_option maxRecDepth 100000 in
theorem c_X5_order (l : Launch) (D : KD) (b : Nat) {sh : List KSh} (hsh : shP sh) (σ : KS) (N : Nat → Nat) (r : Nat) (hs : Nat → Nat → Nat) (T : Nat → Nat) (n : Nat) (kd g fr pr : Int32) (hC : CI σ N r hs T n) (hI : qIr N) (hU : qU N) (hB : N 10 < 2 ^ 31) : Ct l D b yX5_order cX5_order 5 (some .int) (rM 4 99) 0 0 [rf b 0, .int kd, .int g, .int fr, .int pr] sh σ sh (pS (some (.int (oOrder N kd g fr pr).1)) (fun τ => CO σ N r hs T n (oOrder N kd g fr pr).2 τ)) := by
  have h2 := qi_2 hI
  have ho := s1_in
  have hP := hC.1
  obtain ⟨π, hR⟩ := hC.2.1
  refine Ct.of (ls := [(0, rf b 0), (1, .int kd), (2, .int g), (3, .int fr), (4, .int pr)]) (by decide) (Nat.le_of_ble_eq_true rfl) rfl ?_
  intro pg e s m args below meth c Q hQ X hnm
  refine K_iload_n X 1 dX5_order_0 rfl rfl ?_
  refine K_callSE X (c_X5_isKind l D b hsh _ _) my_X5_isKind wt_X5_isKind wm_X5_40 ⟨rfl, rfl, Nat.le_of_ble_eq_true rfl, Nat.le_of_ble_eq_true rfl, Nat.le_of_ble_eq_true rfl, Nat.le_of_ble_eq_true rfl⟩ rfl rfl (Nat.le_of_ble_eq_true rfl) dX5_order_1 ?_
  refine K_ifB_ne (tgt := 9) X dX5_order_4 (by decide) (fun c4 => ?_) (fun c4 => ?_)
  · obtain ⟨u, hlu, hhu, rfl⟩ := qIn_ex (lo := 0) (hi := 5) (by decide) (by decide) c4
    refine K_iload_n X 2 dX5_order_9 rfl rfl ?_
    refine K_iconst X dX5_order_10 cii_1 ?_
    refine K_sipush X dX5_order_11 cis_20000 ?_
    refine K_callSE X (c_X5_withinQ l D b hsh _ _ _ _) my_X5_within wt_X5_within wm_X5_44 ⟨rfl, rfl, Nat.le_of_ble_eq_true rfl, Nat.le_of_ble_eq_true rfl, Nat.le_of_ble_eq_true rfl, Nat.le_of_ble_eq_true rfl⟩ rfl rfl (Nat.le_of_ble_eq_true rfl) dX5_order_14 ?_
    refine K_ifB_eq (tgt := 42) X dX5_order_17 (by decide) (fun c17 => ?_) (fun c17 => ?_)
    · refine K_bipush X dX5_order_42 cib_m2 ?_
      exact K_iret X hQ dX5_order_44 (by rw [show oOrder N (nI u) g fr pr = (-2, none) from by unfold oOrder; rw [if_pos c4, if_neg (by rw [c17]; simp)]]; exact ⟨rfl, Cf.rf, hC⟩)
    · obtain ⟨v, hlv, hhv, rfl⟩ := qIn_ex (lo := 1) (hi := 20000) (by decide) (by decide) c17
      refine K_iload_n X 3 dX5_order_20 rfl rfl ?_
      refine K_iconst X dX5_order_21 cii_0 ?_
      refine K_bipush X dX5_order_22 cib_100 ?_
      refine K_callSE X (c_X5_withinQ l D b hsh _ _ _ _) my_X5_within wt_X5_within wm_X5_44 ⟨rfl, rfl, Nat.le_of_ble_eq_true rfl, Nat.le_of_ble_eq_true rfl, Nat.le_of_ble_eq_true rfl, Nat.le_of_ble_eq_true rfl⟩ rfl rfl (Nat.le_of_ble_eq_true rfl) dX5_order_24 ?_
      refine K_ifB_eq (tgt := 42) X dX5_order_27 (by decide) (fun c27 => ?_) (fun c27 => ?_)
      · refine K_bipush X dX5_order_42 cib_m2 ?_
        exact K_iret X hQ dX5_order_44 (by rw [show oOrder N (nI u) (nI v) fr pr = (-2, none) from by unfold oOrder; rw [if_pos c4, if_neg (by rw [c27]; simp)]]; exact ⟨rfl, Cf.rf, hC⟩)
      · obtain ⟨z, hlz, hhz, rfl⟩ := qIn_ex (lo := 0) (hi := 100) (by decide) (by decide) c27
        refine K_iload X 4 dX5_order_30 rfl ?_
        refine K_iconst X dX5_order_32 cii_1 ?_
        refine K_sipush X dX5_order_33 cis_9999 ?_
        refine K_callSE X (c_X5_withinQ l D b hsh _ _ _ _) my_X5_within wt_X5_within wm_X5_44 ⟨rfl, rfl, Nat.le_of_ble_eq_true rfl, Nat.le_of_ble_eq_true rfl, Nat.le_of_ble_eq_true rfl, Nat.le_of_ble_eq_true rfl⟩ rfl rfl (Nat.le_of_ble_eq_true rfl) dX5_order_36 ?_
        refine K_ifB_ne (tgt := 45) X dX5_order_39 (by decide) (fun c39 => ?_) (fun c39 => ?_)
        · obtain ⟨y, hly, hhy, rfl⟩ := qIn_ex (lo := 1) (hi := 9999) (by decide) (by decide) c39
          refine K_aload_n X 0 dX5_order_45 rfl rfl ?_
          refine K_get X 3 kFd5 rfl (by decide) (sf_c hsh) wf_X5_29 rfl (v := rf b (48)) (kv_o (pf_03 hP)) dX5_order_46 ?_
          refine K_aload_n X 0 dX5_order_49 rfl rfl ?_
          refine K_get X 0 kFd5 rfl (by decide) (sf_c hsh) wf_X5_10 rfl (v := rf b (1)) (kv_o (pf_00 hP)) dX5_order_50 ?_
          refine K_callVP0 X (c_X2_save l D b hsh _ _ _ _ _ hP hR h2 hC.2.2.2.1) my_X2_save mv_X2_save wm_X5_48 (sf_h hsh) rfl ⟨rfl, rfl, Nat.le_of_ble_eq_true rfl, Nat.le_of_ble_eq_true rfl, Nat.le_of_ble_eq_true rfl, Nat.le_of_ble_eq_true rfl⟩ rfl rfl (Nat.le_of_ble_eq_true rfl) dX5_order_53 (fun σ53 h53 => ?_)
          refine K_gen (φ := fun τ => Hs τ (qRr r + 1) (hsN hs r N) ∧ Fh _ τ) h53 (fun σ hv => ?_)
          have hC := hC.fh h2 hv
          have hR := hv.2.rs hR h2
          have hK := hv.2.cf
          have hP := hC.1
          have hP0 := hP
          have hF := Fr.rf (σ := σ) (o := 1)
          refine K_aload_n X 0 dX5_order_56 rfl rfl ?_
          refine K_get X 0 kFd5 rfl (by decide) (sf_c hsh) wf_X5_10 rfl (v := rf b (1)) (kv_o (pf_00 hP)) dX5_order_57 ?_
          refine K_iload_n X 1 dX5_order_60 rfl rfl ?_
          refine K_iload_n X 2 dX5_order_61 rfl rfl ?_
          refine K_iload_n X 3 dX5_order_62 rfl rfl ?_
          refine K_iload X 4 dX5_order_63 rfl ?_
          refine K_callVP X (c_X4_sell l D b hsh _ _ _ _ _ _ _ _ hP ho hR hI hU (by omega) (by omega) (by omega) (by omega)) my_X4_sell mv_X4_sell wm_X5_145 (so_0 hsh 1 ho) rfl ⟨rfl, rfl, Nat.le_of_ble_eq_true rfl, Nat.le_of_ble_eq_true rfl, Nat.le_of_ble_eq_true rfl, Nat.le_of_ble_eq_true rfl⟩ rfl rfl (Nat.le_of_ble_eq_true rfl) dX5_order_65 (fun σ65 h65 => ?_)
          refine K_gen (φ := fun τ => SP _ τ 1 (_)) h65 (fun σ h => ?_)
          obtain ⟨⟨π, hR⟩, hF1⟩ := h
          have hF := hF.tr hF1
          have hP := hF.PF ho hP0
          exact K_iret X hQ dX5_order_68 (by rw [show oOrder N (nI u) (nI v) (nI z) (nI y) = (nI (qOr u z y v 17 0 N).1, some ((qOr u z y v 17 0 N).2)) from by unfold oOrder; rw [if_pos c4, if_pos (by rw [c17, c27, c39]; rfl), tN_nI (by omega), tN_nI (by omega), tN_nI (by omega), tN_nI (by omega)]]; exact ⟨rfl, hK.tr (Cf.fr s1_in hF), hC.sh ⟨⟨_, hR⟩, hF⟩⟩)
        · refine K_bipush X dX5_order_42 cib_m2 ?_
          exact K_iret X hQ dX5_order_44 (by rw [show oOrder N (nI u) (nI v) (nI z) pr = (-2, none) from by unfold oOrder; rw [if_pos c4, if_neg (by rw [c39]; simp)]]; exact ⟨rfl, Cf.rf, hC⟩)
  · refine K_iconst X dX5_order_7 cii_m1 ?_
    exact K_iret X hQ dX5_order_8 (by rw [show oOrder N kd g fr pr = (-1, none) from by unfold oOrder; rw [qI_f c4]]; exact ⟨rfl, Cf.rf, hC⟩)

set_option maxHeartbeats 4000000 in
set_option maxRecDepth 100000 in
theorem c_X5_pass (l : Launch) (D : KD) (b : Nat) {sh : List KSh} (hsh : shP sh) (σ : KS) (N : Nat → Nat) (r : Nat) (hs : Nat → Nat → Nat) (T : Nat → Nat) (n : Nat) (hC : CI σ N r hs T n) (hI : qIr N) (hU : qU N) (hB : N 10 < 2 ^ 31) : Ct l D b yX5_pass cX5_pass 1 (some .int) (rM 4 85) 0 0 [rf b 0] sh σ sh (pS (some (.int (oPass N).1)) (fun τ => CO σ N r hs T n (oPass N).2 τ)) := by
  have h2 := qi_2 hI
  have ho := s1_in
  have hP := hC.1
  obtain ⟨π, hR⟩ := hC.2.1
  refine Ct.of (ls := [(0, rf b 0)]) (by decide) (Nat.le_of_ble_eq_true rfl) rfl ?_
  intro pg e s m args below meth c Q hQ X hnm
  refine K_aload_n X 0 dX5_pass_0 rfl rfl ?_
  refine K_get X 0 kFd5 rfl (by decide) (sf_c hsh) wf_X5_10 rfl (v := rf b (1)) (kv_o (pf_00 hP)) dX5_pass_1 ?_
  refine K_get X 1 kFd4 rfl (by decide) (so_0 hsh 1 ho) wf_X5_148 rfl (v := .int (nI (N 1))) (congrArg Value.int (rs_i hR 1 (by decide))) dX5_pass_4 ?_
  refine K_bipush X dX5_pass_7 cib_10 ?_
  refine K_icmpN_lt (tgt := 15) X dX5_pass_9 (by decide) (by have := qi_1 hI; omega) (by omega) (fun c9 => ?_) (fun c9 => ?_)
  · refine K_aload_n X 0 dX5_pass_15 rfl rfl ?_
    refine K_get X 3 kFd5 rfl (by decide) (sf_c hsh) wf_X5_29 rfl (v := rf b (48)) (kv_o (pf_03 hP)) dX5_pass_16 ?_
    refine K_aload_n X 0 dX5_pass_19 rfl rfl ?_
    refine K_get X 0 kFd5 rfl (by decide) (sf_c hsh) wf_X5_10 rfl (v := rf b (1)) (kv_o (pf_00 hP)) dX5_pass_20 ?_
    refine K_callVP0 X (c_X2_save l D b hsh _ _ _ _ _ hP hR h2 hC.2.2.2.1) my_X2_save mv_X2_save wm_X5_48 (sf_h hsh) rfl ⟨rfl, rfl, Nat.le_of_ble_eq_true rfl, Nat.le_of_ble_eq_true rfl, Nat.le_of_ble_eq_true rfl, Nat.le_of_ble_eq_true rfl⟩ rfl rfl (Nat.le_of_ble_eq_true rfl) dX5_pass_23 (fun σ23 h23 => ?_)
    refine K_gen (φ := fun τ => Hs τ (qRr r + 1) (hsN hs r N) ∧ Fh _ τ) h23 (fun σ hv => ?_)
    have hC := hC.fh h2 hv
    have hR := hv.2.rs hR h2
    have hK := hv.2.cf
    have hP := hC.1
    have hP0 := hP
    have hF := Fr.rf (σ := σ) (o := 1)
    refine K_aload_n X 0 dX5_pass_26 rfl rfl ?_
    refine K_get X 0 kFd5 rfl (by decide) (sf_c hsh) wf_X5_10 rfl (v := rf b (1)) (kv_o (pf_00 hP)) dX5_pass_27 ?_
    refine K_callVP0 X (c_X4_passHour l D b hsh _ _ _ _ hP ho hR hI) my_X4_passHour mv_X4_passHour wm_X5_151 (so_0 hsh 1 ho) rfl ⟨rfl, rfl, Nat.le_of_ble_eq_true rfl, Nat.le_of_ble_eq_true rfl, Nat.le_of_ble_eq_true rfl, Nat.le_of_ble_eq_true rfl⟩ rfl rfl (Nat.le_of_ble_eq_true rfl) dX5_pass_30 (fun σ30 h30 => ?_)
    refine K_gen (φ := fun τ => SP _ τ 1 (qPass N)) h30 (fun σ h => ?_)
    obtain ⟨⟨π, hR⟩, hF1⟩ := h
    have hF := hF.tr hF1
    have hP := hF.PF ho hP0
    refine K_aload_n X 0 dX5_pass_33 rfl rfl ?_
    refine K_get X 0 kFd5 rfl (by decide) (sf_c hsh) wf_X5_10 rfl (v := rf b (1)) (kv_o (pf_00 hP)) dX5_pass_34 ?_
    refine K_get X 1 kFd4 rfl (by decide) (so_0 hsh 1 ho) wf_X5_148 rfl (v := .int (nI (qPass N 1))) (congrArg Value.int (rs_i hR 1 (by decide))) dX5_pass_37 ?_
    rw [qPass_1]
    exact K_iret X hQ dX5_pass_40 (by rw [show oPass N  = (nI (N 1 + 1), some (qPass N)) from by unfold oPass; rw [if_neg (by omega)]]; exact ⟨rfl, hK.tr (Cf.fr s1_in hF), hC.sh ⟨⟨_, hR⟩, hF⟩⟩)
  · refine K_bipush X dX5_pass_12 cib_m3 ?_
    exact K_iret X hQ dX5_pass_14 (by rw [show oPass N  = (-3, none) from by unfold oPass; rw [if_pos (by have := qi_1 hI; omega)]]; exact ⟨rfl, Cf.rf, hC⟩)

set_option maxHeartbeats 4000000 in
set_option maxRecDepth 100000 in
theorem c_X5_close (l : Launch) (D : KD) (b : Nat) {sh : List KSh} (hsh : shP sh) (σ : KS) (N : Nat → Nat) (r : Nat) (hs : Nat → Nat → Nat) (T : Nat → Nat) (n : Nat) (hC : CI σ N r hs T n) (hI : qIr N) (hU : qU N) (hB : N 10 < 2 ^ 31) : Ct l D b yX5_close cX5_close 1 (some .int) (rM 5 112) 0 0 [rf b 0] sh σ sh (pS (some (.int (oClose N).1)) (fun τ => CO σ N r hs T n (oClose N).2 τ)) := by
  have h2 := qi_2 hI
  have ho := s1_in
  have hP := hC.1
  obtain ⟨π, hR⟩ := hC.2.1
  refine Ct.of (ls := [(0, rf b 0)]) (by decide) (Nat.le_of_ble_eq_true rfl) rfl ?_
  intro pg e s m args below meth c Q hQ X hnm
  refine K_aload_n X 0 dX5_close_0 rfl rfl ?_
  refine K_get X 0 kFd5 rfl (by decide) (sf_c hsh) wf_X5_10 rfl (v := rf b (1)) (kv_o (pf_00 hP)) dX5_close_1 ?_
  refine K_get X 0 kFd4 rfl (by decide) (so_0 hsh 1 ho) wf_X5_154 rfl (v := .int (nI (N 0))) (congrArg Value.int (rs_i hR 0 (by decide))) dX5_close_4 ?_
  refine K_sipush X dX5_close_7 cis_999 ?_
  refine K_icmpN_lt (tgt := 16) X dX5_close_10 (by decide) (by have := qi_0 hI; omega) (by omega) (fun c10 => ?_) (fun c10 => ?_)
  · refine K_aload_n X 0 dX5_close_16 rfl rfl ?_
    refine K_get X 3 kFd5 rfl (by decide) (sf_c hsh) wf_X5_29 rfl (v := rf b (48)) (kv_o (pf_03 hP)) dX5_close_17 ?_
    refine K_aload_n X 0 dX5_close_20 rfl rfl ?_
    refine K_get X 0 kFd5 rfl (by decide) (sf_c hsh) wf_X5_10 rfl (v := rf b (1)) (kv_o (pf_00 hP)) dX5_close_21 ?_
    refine K_callVP0 X (c_X2_save l D b hsh _ _ _ _ _ hP hR h2 hC.2.2.2.1) my_X2_save mv_X2_save wm_X5_48 (sf_h hsh) rfl ⟨rfl, rfl, Nat.le_of_ble_eq_true rfl, Nat.le_of_ble_eq_true rfl, Nat.le_of_ble_eq_true rfl, Nat.le_of_ble_eq_true rfl⟩ rfl rfl (Nat.le_of_ble_eq_true rfl) dX5_close_24 (fun σ24 h24 => ?_)
    refine K_gen (φ := fun τ => Hs τ (qRr r + 1) (hsN hs r N) ∧ Fh _ τ) h24 (fun σ hv => ?_)
    have hC := hC.fh h2 hv
    have hR := hv.2.rs hR h2
    have hK := hv.2.cf
    have hP := hC.1
    have hP0 := hP
    have hF := Fr.rf (σ := σ) (o := 1)
    refine K_aload_n X 0 dX5_close_27 rfl rfl ?_
    refine K_get X 0 kFd5 rfl (by decide) (sf_c hsh) wf_X5_10 rfl (v := rf b (1)) (kv_o (pf_00 hP)) dX5_close_28 ?_
    refine K_callVP X (c_X4_closeDay l D b hsh _ _ _ _ hP ho hR hI hU hB) my_X4_closeDay mv_X4_closeDay wm_X5_157 (so_0 hsh 1 ho) rfl ⟨rfl, rfl, Nat.le_of_ble_eq_true rfl, Nat.le_of_ble_eq_true rfl, Nat.le_of_ble_eq_true rfl, Nat.le_of_ble_eq_true rfl⟩ rfl rfl (Nat.le_of_ble_eq_true rfl) dX5_close_31 (fun σ31 h31 => ?_)
    refine K_gen (φ := fun τ => SP _ τ 1 (_)) h31 (fun σ h => ?_)
    obtain ⟨⟨π, hR⟩, hF1⟩ := h
    have hF := hF.tr hF1
    have hP := hF.PF ho hP0
    exact K_iret X hQ dX5_close_34 (by rw [show oClose N  = (nI (qClose N 5 - N 5), some (qClose N)) from by unfold oClose; rw [if_neg (by omega)]]; exact ⟨rfl, hK.tr (Cf.fr s1_in hF), hC.sh ⟨⟨_, hR⟩, hF⟩⟩)
  · refine K_bipush X dX5_close_13 cib_m4 ?_
    exact K_iret X hQ dX5_close_15 (by rw [show oClose N  = (-4, none) from by unfold oClose; rw [if_pos (by have := qi_0 hI; omega)]]; exact ⟨rfl, Cf.rf, hC⟩)
