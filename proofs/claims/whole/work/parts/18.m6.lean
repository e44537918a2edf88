/-! THE REFERENCE: the calls that change it -/
set_option maxHeartbeats 4000000 in
set_option maxRecDepth 100000 in
theorem c_X6_record (l : Launch) (D : KD) (b : Nat) (σ : KS) (N : Nat → Nat) (r : Nat) (hP : PF σ.2.2) (hr : σ.1 190 3 = nI r) (hr6 : r ≤ 6) : Ct l D b yX6_record cX6_record 2 none (rM 1 24) 0 0 [rf b 190] shF (wN σ N) shF (pE none (wN (wRec σ N r) N)) := by
  refine Ct.of (ls := [(0, rf b 190)]) (by decide) (Nat.le_of_ble_eq_true rfl) rfl ?_
  intro pg e s m args below meth c Q hQ X hnm
  have tail : ∀ (z : Nat) (H : Nat → Int32), z ≤ 5 → wN (wH σ (z + 1) (qCpy (fun k => nI (N k)) H 0 (z * 125) 125)) N = wN (wRec σ N r) N → K pg l e (rM 1 24) s m args below meth c Q D b 2 0 0 shF (wN (wH σ z H) N) 49 [(0, rf b 190)] [] := by
    intro z H hz hend
    refine K_aload_n X 0 dX6_record_49 rfl rfl ?_
    refine K_get X 0 kFd6 rfl (by decide) sf_m wf_X6_7 rfl (v := rf b (191)) (kv_a (pf_m0 hP)) dX6_record_50 ?_
    refine K_iconst X dX6_record_53 cii_0 ?_
    refine K_aload_n X 0 dX6_record_54 rfl rfl ?_
    refine K_get X 2 kFd6 rfl (by decide) sf_m wf_X6_16 rfl (v := rf b (193)) (kv_a (pf_m2 hP)) dX6_record_55 ?_
    refine K_aload_n X 0 dX6_record_58 rfl rfl ?_
    refine K_get X 3 kFd6 rfl (by decide) sf_m wf_X6_22 rfl (v := .int (nI z)) (congrArg Value.int (wH_r)) dX6_record_59 ?_
    refine K_bipush X dX6_record_62 cib_125 ?_
    refine K_imulN X dX6_record_64 ?_
    refine K_callSE0 X (c_X6_copies l D b _ 191 193 125 750 0 _ sf_ms sf_mh (by decide) (by decide) (by omega) (by decide) (by decide)) my_X6_copies wt_X6_copies wm_X6_26 ⟨rfl, rfl, Nat.le_of_ble_eq_true rfl, Nat.le_of_ble_eq_true rfl, Nat.le_of_ble_eq_true rfl, Nat.le_of_ble_eq_true rfl⟩ rfl rfl (Nat.le_of_ble_eq_true rfl) dX6_record_65 ?_
    refine K_st (σ' := wN (wH σ z (qCpy (fun k => nI (N k)) H 0 (z * 125) 125)) N) (by rw [wN_row, wH_H, wH_H2]) ?_
    refine K_aload_n X 0 dX6_record_68 rfl rfl ?_
    refine K_dup X dX6_record_69 rfl ?_
    refine K_get X 3 kFd6 rfl (by decide) sf_m wf_X6_22 rfl (v := .int (nI z)) (congrArg Value.int (wH_r)) dX6_record_70 ?_
    refine K_iconst X dX6_record_73 cii_1 ?_
    refine K_iaddN X dX6_record_74 ?_
    refine K_putI X 3 kFd6 rfl (by decide) sf_m wf_X6_22 rfl rfl rfl dX6_record_75 ?_
    refine K_st wH_r2 ?_
    exact K_vret X hQ dX6_record_78 (⟨rfl, hend⟩)
  refine K_aload_n X 0 dX6_record_0 rfl rfl ?_
  refine K_get X 3 kFd6 rfl (by decide) sf_m wf_X6_22 rfl (v := .int (nI r)) (congrArg Value.int ((congrFun (wN_ne (by decide)) 3).trans hr)) dX6_record_1 ?_
  refine K_bipush X dX6_record_4 cib_6 ?_
  refine K_icmpN_ne (tgt := 49) X dX6_record_6 (by decide) (by omega) (by omega) (fun c6 => ?_) (fun c6 => ?_)
  · refine K_st (σ' := wN (wH σ r (σ.1 193)) N) (by rw [wH_id hr]) ?_
    exact tail r _ (by omega) (by unfold wRec qRr qRH; rw [if_neg c6, if_neg c6])
  · subst c6
    refine K_iconst X dX6_record_9 cii_0 ?_
    refine K_istore_n X (ls' := [(1, _), (0, _)]) dX6_record_10 rfl (by decide) rfl ?_
    refine K_st (σ' := wN (wH σ 6 (qSh (σ.1 193) 0)) N) (by rw [qSh_0, wH_id hr]) ?_
    have loop : ∀ i : Nat, i ≤ 625 → K pg l e (rM 1 24) s m args below meth c Q D b 2 0 0 shF (wN (wH σ 6 (qSh (σ.1 193) i)) N) 11 [(0, rf b 190), (1, .int (nI i))] [] := by
      refine kup (fun i hi ih => ?_)
      refine K_iload_n X 1 dX6_record_11 rfl rfl ?_
      refine K_sipush X dX6_record_12 cis_625 ?_
      refine K_icmpN_ge (tgt := 39) X dX6_record_15 (by decide) (by omega) (by omega) (fun c15 => ?_) (fun c15 => ?_)
      · rw [show i = 625 from by omega]
        refine K_aload_n X 0 dX6_record_39 rfl rfl ?_
        refine K_dup X dX6_record_40 rfl ?_
        refine K_get X 3 kFd6 rfl (by decide) sf_m wf_X6_22 rfl (v := .int (nI 6)) (congrArg Value.int (wH_r)) dX6_record_41 ?_
        refine K_iconst X dX6_record_44 cii_1 ?_
        refine K_isubN X dX6_record_45 (by omega) ?_
        refine K_putI X 3 kFd6 rfl (by decide) sf_m wf_X6_22 rfl rfl rfl dX6_record_46 ?_
        refine K_st wH_r2 ?_
        exact K_sub [0] rfl (tail 5 _ (by omega) rfl)
      · refine K_aload_n X 0 dX6_record_18 rfl rfl ?_
        refine K_get X 2 kFd6 rfl (by decide) sf_m wf_X6_16 rfl (v := rf b (193)) (kv_a (pf_m2 hP)) dX6_record_19 ?_
        refine K_iload_n X 1 dX6_record_22 rfl rfl ?_
        refine K_aload_n X 0 dX6_record_23 rfl rfl ?_
        refine K_get X 2 kFd6 rfl (by decide) sf_m wf_X6_16 rfl (v := rf b (193)) (kv_a (pf_m2 hP)) dX6_record_24 ?_
        refine K_iload_n X 1 dX6_record_27 rfl rfl ?_
        refine K_bipush X dX6_record_28 cib_125 ?_
        refine K_iaddN X dX6_record_30 ?_
        refine K_iald X _ sf_mh rfl (by omega) (by decide) ((congrFun wH_H _).trans qSh_at) dX6_record_31 ?_
        refine K_iast X _ sf_mh rfl (by omega) (by decide) dX6_record_32 ?_
        refine K_st (σ' := wN (wH σ 6 (qSh (σ.1 193) (i + 1))) N) (by rw [wH_H, qSh_s, wH_H2]) ?_
        refine K_iinc X 1 (ls' := [(1, _), (0, _)]) dX6_record_33 rfl (inc_1 _) (by decide) rfl ?_
        refine K_goto (tgt := 11) X dX6_record_36 (by decide) ?_
        exact K_sub [1, 0] rfl (ih (by omega))
    exact K_sub [1, 0] rfl (loop 0 (Nat.zero_le _))

set_option maxHeartbeats 4000000 in
set_option maxRecDepth 100000 in
theorem c_X6_setPrice (l : Launch) (D : KD) (b : Nat) (σ : KS) (N : Nat → Nat) (r : Nat) (kd pr co : Int32) (hP : PF σ.2.2) (hr : σ.1 190 3 = nI r) (hr6 : r ≤ 6) (hI : qIr N) : Ct l D b yX6_setPrice cX6_setPrice 5 (some .int) (rM 2 45) 0 0 [rf b 190, .int kd, .int pr, .int co] shF (wN σ N) shF (pE (some (.int (oSetPrice N kd pr co).1)) (wA σ N r (oSetPrice N kd pr co).2)) := by
  have h2 := qi_2 hI
  refine Ct.of (ls := [(0, rf b 190), (1, .int kd), (2, .int pr), (3, .int co)]) (by decide) (Nat.le_of_ble_eq_true rfl) rfl ?_
  intro pg e s m args below meth c Q hQ X hnm
  refine K_iload_n X 1 dX6_setPrice_0 rfl rfl ?_
  refine K_callSE X (c_X6_isKind l D b _ _) my_X6_isKind wt_X6_isKind wm_X6_46 ⟨rfl, rfl, Nat.le_of_ble_eq_true rfl, Nat.le_of_ble_eq_true rfl, Nat.le_of_ble_eq_true rfl, Nat.le_of_ble_eq_true rfl⟩ rfl rfl (Nat.le_of_ble_eq_true rfl) dX6_setPrice_1 ?_
  refine K_ifB_ne (tgt := 9) X dX6_setPrice_4 (by decide) (fun c4 => ?_) (fun c4 => ?_)
  · obtain ⟨u, hlu, hhu, rfl⟩ := qIn_ex (lo := 0) (hi := 5) (by decide) (by decide) c4
    refine K_iload_n X 2 dX6_setPrice_9 rfl rfl ?_
    refine K_iconst X dX6_setPrice_10 cii_1 ?_
    refine K_sipush X dX6_setPrice_11 cis_9999 ?_
    refine K_callSE X (c_X6_withinQ l D b _ _ _ _) my_X6_within wt_X6_within wm_X6_38 ⟨rfl, rfl, Nat.le_of_ble_eq_true rfl, Nat.le_of_ble_eq_true rfl, Nat.le_of_ble_eq_true rfl, Nat.le_of_ble_eq_true rfl⟩ rfl rfl (Nat.le_of_ble_eq_true rfl) dX6_setPrice_14 ?_
    refine K_ifB_eq (tgt := 31) X dX6_setPrice_17 (by decide) (fun c17 => ?_) (fun c17 => ?_)
    · refine K_bipush X dX6_setPrice_31 cib_m2 ?_
      exact K_iret X hQ dX6_setPrice_33 (by rw [show oSetPrice N (nI u) pr co = (-2, none) from by unfold oSetPrice; rw [if_pos c4, if_neg (by rw [c17]; simp)]]; exact ⟨rfl, rfl⟩)
    · obtain ⟨v, hlv, hhv, rfl⟩ := qIn_ex (lo := 1) (hi := 9999) (by decide) (by decide) c17
      refine K_iload_n X 3 dX6_setPrice_20 rfl rfl ?_
      refine K_iconst X dX6_setPrice_21 cii_1 ?_
      refine K_sipush X dX6_setPrice_22 cis_9999 ?_
      refine K_callSE X (c_X6_withinQ l D b _ _ _ _) my_X6_within wt_X6_within wm_X6_38 ⟨rfl, rfl, Nat.le_of_ble_eq_true rfl, Nat.le_of_ble_eq_true rfl, Nat.le_of_ble_eq_true rfl, Nat.le_of_ble_eq_true rfl⟩ rfl rfl (Nat.le_of_ble_eq_true rfl) dX6_setPrice_25 ?_
      refine K_ifB_ne (tgt := 34) X dX6_setPrice_28 (by decide) (fun c28 => ?_) (fun c28 => ?_)
      · obtain ⟨z, hlz, hhz, rfl⟩ := qIn_ex (lo := 1) (hi := 9999) (by decide) (by decide) c28
        refine K_aload_n X 0 dX6_setPrice_34 rfl rfl ?_
        refine K_callVE0 X (c_X6_record l D b _ _ _ hP hr hr6) my_X6_record mv_X6_record wm_X6_50 sf_m rfl ⟨rfl, rfl, Nat.le_of_ble_eq_true rfl, Nat.le_of_ble_eq_true rfl, Nat.le_of_ble_eq_true rfl, Nat.le_of_ble_eq_true rfl⟩ rfl rfl (Nat.le_of_ble_eq_true rfl) dX6_setPrice_35 ?_
        refine K_aload_n X 0 dX6_setPrice_38 rfl rfl ?_
        refine K_get X 0 kFd6 rfl (by decide) sf_m wf_X6_7 rfl (v := rf b (191)) (kv_a (pf_m0 hP)) dX6_setPrice_39 ?_
        refine K_bipush X dX6_setPrice_42 cib_11 ?_
        refine K_iload_n X 1 dX6_setPrice_44 rfl rfl ?_
        refine K_iaddN X dX6_setPrice_45 ?_
        refine K_iald X _ sf_ms rfl (by omega) (by decide) (wN_at _) dX6_setPrice_46 ?_
        refine K_istore X (ls' := [(4, _), (0, _), (1, _), (2, _), (3, _)]) dX6_setPrice_47 (by decide) rfl ?_
        refine K_aload_n X 1 dX6_setPrice_49 rfl rfl ?_
        refine K_get X 0 kFd6 rfl (by decide) sf_m wf_X6_7 rfl (v := rf b (191)) (kv_a (pf_m0 hP)) dX6_setPrice_50 ?_
        refine K_bipush X dX6_setPrice_53 cib_11 ?_
        refine K_iload_n X 2 dX6_setPrice_55 rfl rfl ?_
        refine K_iaddN X dX6_setPrice_56 ?_
        refine K_iload_n X 3 dX6_setPrice_57 rfl rfl ?_
        refine K_iast X _ sf_ms rfl (by omega) (by decide) dX6_setPrice_58 ?_
        refine K_st wN_u ?_
        refine K_aload_n X 1 dX6_setPrice_59 rfl rfl ?_
        refine K_get X 0 kFd6 rfl (by decide) sf_m wf_X6_7 rfl (v := rf b (191)) (kv_a (pf_m0 hP)) dX6_setPrice_60 ?_
        refine K_bipush X dX6_setPrice_63 cib_17 ?_
        refine K_iload_n X 2 dX6_setPrice_65 rfl rfl ?_
        refine K_iaddN X dX6_setPrice_66 ?_
        refine K_iload_n X 4 dX6_setPrice_67 rfl rfl ?_
        refine K_iast X _ sf_ms rfl (by omega) (by decide) dX6_setPrice_68 ?_
        refine K_st wN_u ?_
        refine K_iload X 0 dX6_setPrice_69 rfl ?_
        exact K_iret X hQ dX6_setPrice_71 (by rw [show oSetPrice N (nI u) (nI v) (nI z) = (nI (N (11 + u)), some (uN (uN N (11 + u) v) (17 + u) z)) from by unfold oSetPrice; rw [if_pos c4, if_pos (by rw [c17, c28]; rfl), tN_nI (by omega), tN_nI (by omega), tN_nI (by omega)]]; exact ⟨rfl, rfl⟩)
      · refine K_bipush X dX6_setPrice_31 cib_m2 ?_
        exact K_iret X hQ dX6_setPrice_33 (by rw [show oSetPrice N (nI u) (nI v) co = (-2, none) from by unfold oSetPrice; rw [if_pos c4, if_neg (by rw [c28]; simp)]]; exact ⟨rfl, rfl⟩)
  · refine K_iconst X dX6_setPrice_7 cii_m1 ?_
    exact K_iret X hQ dX6_setPrice_8 (by rw [show oSetPrice N kd pr co = (-1, none) from by unfold oSetPrice; rw [qI_f c4]]; exact ⟨rfl, rfl⟩)

set_option maxHeartbeats 4000000 in
set_option maxRecDepth 100000 in
theorem c_X6_setCut (l : Launch) (D : KD) (b : Nat) (σ : KS) (N : Nat → Nat) (r : Nat) (h pr : Int32) (hP : PF σ.2.2) (hr : σ.1 190 3 = nI r) (hr6 : r ≤ 6) (hI : qIr N) : Ct l D b yX6_setCut cX6_setCut 4 (some .int) (rM 2 45) 0 0 [rf b 190, .int h, .int pr] shF (wN σ N) shF (pE (some (.int (oSetCut N h pr).1)) (wA σ N r (oSetCut N h pr).2)) := by
  have h2 := qi_2 hI
  refine Ct.of (ls := [(0, rf b 190), (1, .int h), (2, .int pr)]) (by decide) (Nat.le_of_ble_eq_true rfl) rfl ?_
  intro pg e s m args below meth c Q hQ X hnm
  refine K_iload_n X 1 dX6_setCut_0 rfl rfl ?_
  refine K_callSE X (c_X6_isHour l D b _ _) my_X6_isHour wt_X6_isHour wm_X6_53 ⟨rfl, rfl, Nat.le_of_ble_eq_true rfl, Nat.le_of_ble_eq_true rfl, Nat.le_of_ble_eq_true rfl, Nat.le_of_ble_eq_true rfl⟩ rfl rfl (Nat.le_of_ble_eq_true rfl) dX6_setCut_1 ?_
  refine K_ifB_ne (tgt := 9) X dX6_setCut_4 (by decide) (fun c4 => ?_) (fun c4 => ?_)
  · obtain ⟨u, hlu, hhu, rfl⟩ := qIn_ex (lo := 0) (hi := 10) (by decide) (by decide) c4
    refine K_iload_n X 2 dX6_setCut_9 rfl rfl ?_
    refine K_iconst X dX6_setCut_10 cii_0 ?_
    refine K_bipush X dX6_setCut_11 cib_90 ?_
    refine K_callSE X (c_X6_withinQ l D b _ _ _ _) my_X6_within wt_X6_within wm_X6_38 ⟨rfl, rfl, Nat.le_of_ble_eq_true rfl, Nat.le_of_ble_eq_true rfl, Nat.le_of_ble_eq_true rfl, Nat.le_of_ble_eq_true rfl⟩ rfl rfl (Nat.le_of_ble_eq_true rfl) dX6_setCut_13 ?_
    refine K_ifB_ne (tgt := 22) X dX6_setCut_16 (by decide) (fun c16 => ?_) (fun c16 => ?_)
    · obtain ⟨v, hlv, hhv, rfl⟩ := qIn_ex (lo := 0) (hi := 90) (by decide) (by decide) c16
      refine K_aload_n X 0 dX6_setCut_22 rfl rfl ?_
      refine K_callVE0 X (c_X6_record l D b _ _ _ hP hr hr6) my_X6_record mv_X6_record wm_X6_50 sf_m rfl ⟨rfl, rfl, Nat.le_of_ble_eq_true rfl, Nat.le_of_ble_eq_true rfl, Nat.le_of_ble_eq_true rfl, Nat.le_of_ble_eq_true rfl⟩ rfl rfl (Nat.le_of_ble_eq_true rfl) dX6_setCut_23 ?_
      refine K_aload_n X 0 dX6_setCut_26 rfl rfl ?_
      refine K_get X 0 kFd6 rfl (by decide) sf_m wf_X6_7 rfl (v := rf b (191)) (kv_a (pf_m0 hP)) dX6_setCut_27 ?_
      refine K_bipush X dX6_setCut_30 cib_23 ?_
      refine K_iload_n X 1 dX6_setCut_32 rfl rfl ?_
      refine K_iaddN X dX6_setCut_33 ?_
      refine K_iald X _ sf_ms rfl (by omega) (by decide) (wN_at _) dX6_setCut_34 ?_
      refine K_istore_n X (ls' := [(3, _), (0, _), (1, _), (2, _)]) dX6_setCut_35 rfl (by decide) rfl ?_
      refine K_aload_n X 1 dX6_setCut_36 rfl rfl ?_
      refine K_get X 0 kFd6 rfl (by decide) sf_m wf_X6_7 rfl (v := rf b (191)) (kv_a (pf_m0 hP)) dX6_setCut_37 ?_
      refine K_bipush X dX6_setCut_40 cib_23 ?_
      refine K_iload_n X 2 dX6_setCut_42 rfl rfl ?_
      refine K_iaddN X dX6_setCut_43 ?_
      refine K_iload_n X 3 dX6_setCut_44 rfl rfl ?_
      refine K_iast X _ sf_ms rfl (by omega) (by decide) dX6_setCut_45 ?_
      refine K_st wN_u ?_
      refine K_iload_n X 0 dX6_setCut_46 rfl rfl ?_
      exact K_iret X hQ dX6_setCut_47 (by rw [show oSetCut N (nI u) (nI v) = (nI (N (23 + u)), some (uN N (23 + u) v)) from by unfold oSetCut; rw [if_pos c4, if_pos c16, tN_nI (by omega), tN_nI (by omega)]]; exact ⟨rfl, rfl⟩)
    · refine K_bipush X dX6_setCut_19 cib_m2 ?_
      exact K_iret X hQ dX6_setCut_21 (by rw [show oSetCut N (nI u) pr = (-2, none) from by unfold oSetCut; rw [if_pos c4, qI_f c16]]; exact ⟨rfl, rfl⟩)
  · refine K_iconst X dX6_setCut_7 cii_m1 ?_
    exact K_iret X hQ dX6_setCut_8 (by rw [show oSetCut N h pr = (-1, none) from by unfold oSetCut; rw [qI_f c4]]; exact ⟨rfl, rfl⟩)

set_option maxHeartbeats 4000000 in
set_option maxRecDepth 100000 in
theorem c_X6_setMelting (l : Launch) (D : KD) (b : Nat) (σ : KS) (N : Nat → Nat) (r : Nat) (m0 li : Int32) (hP : PF σ.2.2) (hr : σ.1 190 3 = nI r) (hr6 : r ≤ 6) (hI : qIr N) : Ct l D b yX6_setMelting cX6_setMelting 4 (some .int) (rM 2 45) 0 0 [rf b 190, .int m0, .int li] shF (wN σ N) shF (pE (some (.int (oSetMelt N m0 li).1)) (wA σ N r (oSetMelt N m0 li).2)) := by
  have h2 := qi_2 hI
  refine Ct.of (ls := [(0, rf b 190), (1, .int m0), (2, .int li)]) (by decide) (Nat.le_of_ble_eq_true rfl) rfl ?_
  intro pg e s m args below meth c Q hQ X hnm
  refine K_iload_n X 1 dX6_setMelting_0 rfl rfl ?_
  refine K_iconst X dX6_setMelting_1 cii_0 ?_
  refine K_sipush X dX6_setMelting_2 cis_500 ?_
  refine K_callSE X (c_X6_withinQ l D b _ _ _ _) my_X6_within wt_X6_within wm_X6_38 ⟨rfl, rfl, Nat.le_of_ble_eq_true rfl, Nat.le_of_ble_eq_true rfl, Nat.le_of_ble_eq_true rfl, Nat.le_of_ble_eq_true rfl⟩ rfl rfl (Nat.le_of_ble_eq_true rfl) dX6_setMelting_5 ?_
  refine K_ifB_eq (tgt := 21) X dX6_setMelting_8 (by decide) (fun c8 => ?_) (fun c8 => ?_)
  · refine K_bipush X dX6_setMelting_21 cib_m2 ?_
    exact K_iret X hQ dX6_setMelting_23 (by rw [show oSetMelt N m0 li = (-2, none) from by unfold oSetMelt; rw [if_neg (by rw [c8]; simp)]]; exact ⟨rfl, rfl⟩)
  · obtain ⟨u, hlu, hhu, rfl⟩ := qIn_ex (lo := 0) (hi := 500) (by decide) (by decide) c8
    refine K_iload_n X 2 dX6_setMelting_11 rfl rfl ?_
    refine K_iconst X dX6_setMelting_12 cii_0 ?_
    refine K_bipush X dX6_setMelting_13 cib_100 ?_
    refine K_callSE X (c_X6_withinQ l D b _ _ _ _) my_X6_within wt_X6_within wm_X6_38 ⟨rfl, rfl, Nat.le_of_ble_eq_true rfl, Nat.le_of_ble_eq_true rfl, Nat.le_of_ble_eq_true rfl, Nat.le_of_ble_eq_true rfl⟩ rfl rfl (Nat.le_of_ble_eq_true rfl) dX6_setMelting_15 ?_
    refine K_ifB_ne (tgt := 24) X dX6_setMelting_18 (by decide) (fun c18 => ?_) (fun c18 => ?_)
    · obtain ⟨v, hlv, hhv, rfl⟩ := qIn_ex (lo := 0) (hi := 100) (by decide) (by decide) c18
      refine K_aload_n X 0 dX6_setMelting_24 rfl rfl ?_
      refine K_callVE0 X (c_X6_record l D b _ _ _ hP hr hr6) my_X6_record mv_X6_record wm_X6_50 sf_m rfl ⟨rfl, rfl, Nat.le_of_ble_eq_true rfl, Nat.le_of_ble_eq_true rfl, Nat.le_of_ble_eq_true rfl, Nat.le_of_ble_eq_true rfl⟩ rfl rfl (Nat.le_of_ble_eq_true rfl) dX6_setMelting_25 ?_
      refine K_aload_n X 0 dX6_setMelting_28 rfl rfl ?_
      refine K_get X 0 kFd6 rfl (by decide) sf_m wf_X6_7 rfl (v := rf b (191)) (kv_a (pf_m0 hP)) dX6_setMelting_29 ?_
      refine K_bipush X dX6_setMelting_32 cib_9 ?_
      refine K_iald X _ sf_ms rfl (by omega) (by decide) (wN_at _) dX6_setMelting_34 ?_
      refine K_istore_n X (ls' := [(3, _), (0, _), (1, _), (2, _)]) dX6_setMelting_35 rfl (by decide) rfl ?_
      refine K_aload_n X 1 dX6_setMelting_36 rfl rfl ?_
      refine K_get X 0 kFd6 rfl (by decide) sf_m wf_X6_7 rfl (v := rf b (191)) (kv_a (pf_m0 hP)) dX6_setMelting_37 ?_
      refine K_bipush X dX6_setMelting_40 cib_8 ?_
      refine K_iload_n X 2 dX6_setMelting_42 rfl rfl ?_
      refine K_iast X _ sf_ms rfl (by omega) (by decide) dX6_setMelting_43 ?_
      refine K_st wN_u ?_
      refine K_aload_n X 1 dX6_setMelting_44 rfl rfl ?_
      refine K_get X 0 kFd6 rfl (by decide) sf_m wf_X6_7 rfl (v := rf b (191)) (kv_a (pf_m0 hP)) dX6_setMelting_45 ?_
      refine K_bipush X dX6_setMelting_48 cib_9 ?_
      refine K_iload_n X 3 dX6_setMelting_50 rfl rfl ?_
      refine K_iast X _ sf_ms rfl (by omega) (by decide) dX6_setMelting_51 ?_
      refine K_st wN_u ?_
      refine K_iload_n X 0 dX6_setMelting_52 rfl rfl ?_
      exact K_iret X hQ dX6_setMelting_53 (by rw [show oSetMelt N (nI u) (nI v) = (nI (N 9), some (uN (uN N 8 u) 9 v)) from by unfold oSetMelt; rw [if_pos (by rw [c8, c18]; rfl), tN_nI (by omega), tN_nI (by omega)]]; exact ⟨rfl, rfl⟩)
    · refine K_bipush X dX6_setMelting_21 cib_m2 ?_
      exact K_iret X hQ dX6_setMelting_23 (by rw [show oSetMelt N (nI u) li = (-2, none) from by unfold oSetMelt; rw [if_neg (by rw [c18]; simp)]]; exact ⟨rfl, rfl⟩)

set_option maxHeartbeats 4000000 in
set_option maxRecDepth 100000 in
theorem c_X6_deliver (l : Launch) (D : KD) (b : Nat) (σ : KS) (N : Nat → Nat) (r : Nat) (kd g fr bx : Int32) (hP : PF σ.2.2) (hr : σ.1 190 3 = nI r) (hr6 : r ≤ 6) (hI : qIr N) : Ct l D b yX6_deliver cX6_deliver 6 (some .int) (rM 4 90) 0 0 [rf b 190, .int kd, .int g, .int fr, .int bx] shF (wN σ N) shF (pE (some (.int (oDeliver N kd g fr bx).1)) (wA σ N r (oDeliver N kd g fr bx).2)) := by
  have h2 := qi_2 hI
  refine Ct.of (ls := [(0, rf b 190), (1, .int kd), (2, .int g), (3, .int fr), (4, .int bx)]) (by decide) (Nat.le_of_ble_eq_true rfl) rfl ?_
  intro pg e s m args below meth c Q hQ X hnm
  refine K_aload_n X 0 dX6_deliver_0 rfl rfl ?_
  refine K_iload_n X 1 dX6_deliver_1 rfl rfl ?_
  refine K_iload_n X 2 dX6_deliver_2 rfl rfl ?_
  refine K_iload_n X 3 dX6_deliver_3 rfl rfl ?_
  refine K_iload X 4 dX6_deliver_4 rfl ?_
  refine K_callVE X (c_X6_whyNotDelivered l D b _ _ _ _ _ _ hP hI) my_X6_whyNotDelivered mv_X6_whyNotDelivered wm_X6_77 sf_m rfl ⟨rfl, rfl, Nat.le_of_ble_eq_true rfl, Nat.le_of_ble_eq_true rfl, Nat.le_of_ble_eq_true rfl, Nat.le_of_ble_eq_true rfl⟩ rfl rfl (Nat.le_of_ble_eq_true rfl) dX6_deliver_6 ?_
  refine K_istore X (ls' := [(5, _), (0, _), (1, _), (2, _), (3, _), (4, _)]) dX6_deliver_9 (by decide) rfl ?_
  refine K_iload X 0 dX6_deliver_11 rfl ?_
  refine K_if_ge (tgt := 19) X dX6_deliver_13 (by decide) (fun c13 => ?_) (fun c13 => ?_)
  · obtain ⟨⟨a1, a2⟩, ⟨a3, a4⟩, a5, a6⟩ := aWhy_ge c13
    obtain ⟨u, hlu, hhu, rfl⟩ := qIn_ex (lo := 0) (hi := 5) (by decide) (by decide) a1
    obtain ⟨v, hlv, hhv, rfl⟩ := qIn_ex (lo := 1) (hi := 20000) (by decide) (by decide) a3
    obtain ⟨z, hlz, hhz, rfl⟩ := qIn_ex (lo := 0) (hi := 100) (by decide) (by decide) a4
    obtain ⟨y, hly, hhy, rfl⟩ := qIn_ex (lo := 0) (hi := 5) (by decide) (by decide) a2
    refine K_aload_n X 1 dX6_deliver_19 rfl rfl ?_
    refine K_callVE0 X (c_X6_record l D b _ _ _ hP hr hr6) my_X6_record mv_X6_record wm_X6_50 sf_m rfl ⟨rfl, rfl, Nat.le_of_ble_eq_true rfl, Nat.le_of_ble_eq_true rfl, Nat.le_of_ble_eq_true rfl, Nat.le_of_ble_eq_true rfl⟩ rfl rfl (Nat.le_of_ble_eq_true rfl) dX6_deliver_20 ?_
    refine K_aload_n X 1 dX6_deliver_23 rfl rfl ?_
    refine K_iload_n X 2 dX6_deliver_24 rfl rfl ?_
    refine K_iload_n X 3 dX6_deliver_25 rfl rfl ?_
    refine K_iload_n X 4 dX6_deliver_26 rfl rfl ?_
    refine K_iload X 5 dX6_deliver_27 rfl ?_
    refine K_callVE X (c_X6_delivers l D b _ _ _ _ _ _ hP hI (by omega) (by omega) (by omega)) my_X6_delivers mv_X6_delivers wm_X6_80 sf_m rfl ⟨rfl, rfl, Nat.le_of_ble_eq_true rfl, Nat.le_of_ble_eq_true rfl, Nat.le_of_ble_eq_true rfl, Nat.le_of_ble_eq_true rfl⟩ rfl rfl (Nat.le_of_ble_eq_true rfl) dX6_deliver_29 ?_
    exact K_iret X hQ dX6_deliver_32 (by rw [show oDeliver N (nI u) (nI v) (nI z) (nI y) = (nI (N 10 + 1), some (qDel N u v z y)) from by unfold oDeliver; rw [if_pos c13, tN_nI (by omega), tN_nI (by omega), tN_nI (by omega), tN_nI (by omega)]]; exact ⟨rfl, rfl⟩)
  · refine K_iload X 0 dX6_deliver_16 rfl ?_
    exact K_iret X hQ dX6_deliver_18 (by rw [show oDeliver N kd g fr bx = (aWhy N kd g fr bx, none) from by unfold oDeliver; rw [if_neg c13]]; exact ⟨rfl, rfl⟩)

set_option maxHeartbeats 4000000 in
set_option maxRecDepth 100000 in
theorem c_X6_ices (l : Launch) (D : KD) (b : Nat) (σ : KS) (N : Nat → Nat) (r : Nat) (pl : Nat) (g : Int32) (hP : PF σ.2.2) (hr : σ.1 190 3 = nI r) (hr6 : r ≤ 6) (hI : qIr N) (h1 : pl < 11) : Ct l D b yX6_ices cX6_ices 4 (some .int) (rM 2 45) 0 0 [rf b 190, .int (nI pl), .int g] shF (wN σ N) shF (pE (some (.int (oIce N pl g).1)) (wA σ N r (oIce N pl g).2)) := by
  have h2 := qi_2 hI
  refine Ct.of (ls := [(0, rf b 190), (1, .int (nI pl)), (2, .int g)]) (by decide) (Nat.le_of_ble_eq_true rfl) rfl ?_
  intro pg e s m args below meth c Q hQ X hnm
  refine K_iload_n X 2 dX6_ices_0 rfl rfl ?_
  refine K_iconst X dX6_ices_1 cii_1 ?_
  refine K_sipush X dX6_ices_2 cis_5000 ?_
  refine K_callSE X (c_X6_withinQ l D b _ _ _ _) my_X6_within wt_X6_within wm_X6_38 ⟨rfl, rfl, Nat.le_of_ble_eq_true rfl, Nat.le_of_ble_eq_true rfl, Nat.le_of_ble_eq_true rfl, Nat.le_of_ble_eq_true rfl⟩ rfl rfl (Nat.le_of_ble_eq_true rfl) dX6_ices_5 ?_
  refine K_ifB_ne (tgt := 14) X dX6_ices_8 (by decide) (fun c8 => ?_) (fun c8 => ?_)
  · obtain ⟨u, hlu, hhu, rfl⟩ := qIn_ex (lo := 1) (hi := 5000) (by decide) (by decide) c8
    refine K_aload_n X 0 dX6_ices_14 rfl rfl ?_
    refine K_callVE0 X (c_X6_record l D b _ _ _ hP hr hr6) my_X6_record mv_X6_record wm_X6_50 sf_m rfl ⟨rfl, rfl, Nat.le_of_ble_eq_true rfl, Nat.le_of_ble_eq_true rfl, Nat.le_of_ble_eq_true rfl, Nat.le_of_ble_eq_true rfl⟩ rfl rfl (Nat.le_of_ble_eq_true rfl) dX6_ices_15 ?_
    refine K_aload_n X 0 dX6_ices_18 rfl rfl ?_
    refine K_get X 0 kFd6 rfl (by decide) sf_m wf_X6_7 rfl (v := rf b (191)) (kv_a (pf_m0 hP)) dX6_ices_19 ?_
    refine K_bipush X dX6_ices_22 cib_34 ?_
    refine K_iload_n X 1 dX6_ices_24 rfl rfl ?_
    refine K_iaddN X dX6_ices_25 ?_
    refine K_iald X _ sf_ms rfl (by omega) (by decide) (wN_at _) dX6_ices_26 ?_
    refine K_iload_n X 2 dX6_ices_27 rfl rfl ?_
    refine K_iaddN X dX6_ices_28 ?_
    refine K_istore_n X (ls' := [(3, _), (0, _), (1, _), (2, _)]) dX6_ices_29 rfl (by decide) rfl ?_
    refine K_aload_n X 1 dX6_ices_30 rfl rfl ?_
    refine K_get X 0 kFd6 rfl (by decide) sf_m wf_X6_7 rfl (v := rf b (191)) (kv_a (pf_m0 hP)) dX6_ices_31 ?_
    refine K_bipush X dX6_ices_34 cib_34 ?_
    refine K_iload_n X 2 dX6_ices_36 rfl rfl ?_
    refine K_iaddN X dX6_ices_37 ?_
    refine K_iload_n X 0 dX6_ices_38 rfl rfl ?_
    refine K_sipush X dX6_ices_39 cis_5000 ?_
    refine K_icmpN_le (tgt := 51) X dX6_ices_42 (by decide) (by have := qi_i hI h1; omega) (by omega) (fun c42 => ?_) (fun c42 => ?_)
    · refine K_iload_n X 0 dX6_ices_51 rfl rfl ?_
      refine K_iast X _ sf_ms rfl (by omega) (by decide) dX6_ices_52 ?_
      refine K_st wN_u ?_
      refine K_aload_n X 1 dX6_ices_53 rfl rfl ?_
      refine K_get X 0 kFd6 rfl (by decide) sf_m wf_X6_7 rfl (v := rf b (191)) (kv_a (pf_m0 hP)) dX6_ices_54 ?_
      refine K_bipush X dX6_ices_57 cib_34 ?_
      refine K_iload_n X 2 dX6_ices_59 rfl rfl ?_
      refine K_iaddN X dX6_ices_60 ?_
      refine K_iald X _ sf_ms rfl (by omega) (by decide) (wN_at _) dX6_ices_61 ?_
      rw [uN_s]
      exact K_iret X hQ dX6_ices_62 (by rw [show oIce N pl (nI u) = (nI (N (34 + pl) + u), some (uN N (34 + pl) (N (34 + pl) + u))) from by unfold oIce; rw [if_pos c8, tN_nI (by omega), show qIce N pl u = N (34 + pl) + u from if_neg (by omega)]]; exact ⟨rfl, rfl⟩)
    · refine K_sipush X dX6_ices_45 cis_5000 ?_
      refine K_goto (tgt := 52) X dX6_ices_48 (by decide) ?_
      refine K_iast X _ sf_ms rfl (by omega) (by decide) dX6_ices_52 ?_
      refine K_st wN_u ?_
      refine K_aload_n X 1 dX6_ices_53 rfl rfl ?_
      refine K_get X 0 kFd6 rfl (by decide) sf_m wf_X6_7 rfl (v := rf b (191)) (kv_a (pf_m0 hP)) dX6_ices_54 ?_
      refine K_bipush X dX6_ices_57 cib_34 ?_
      refine K_iload_n X 2 dX6_ices_59 rfl rfl ?_
      refine K_iaddN X dX6_ices_60 ?_
      refine K_iald X _ sf_ms rfl (by omega) (by decide) (wN_at _) dX6_ices_61 ?_
      rw [uN_s]
      exact K_iret X hQ dX6_ices_62 (by rw [show oIce N pl (nI u) = (nI (5000), some (uN N (34 + pl) (5000))) from by unfold oIce; rw [if_pos c8, tN_nI (by omega), show qIce N pl u = 5000 from if_pos (by omega)]]; exact ⟨rfl, rfl⟩)
  · refine K_bipush X dX6_ices_11 cib_m2 ?_
    exact K_iret X hQ dX6_ices_13 (by rw [show oIce N pl g = (-2, none) from by unfold oIce; rw [qI_f c8]]; exact ⟨rfl, rfl⟩)

set_option maxHeartbeats 4000000 in
set_option maxRecDepth 100000 in
theorem c_X6_iceBox (l : Launch) (D : KD) (b : Nat) (σ : KS) (N : Nat → Nat) (r : Nat) (x g : Int32) (hP : PF σ.2.2) (hr : σ.1 190 3 = nI r) (hr6 : r ≤ 6) (hI : qIr N) : Ct l D b yX6_iceBox cX6_iceBox 3 (some .int) (rM 3 68) 0 0 [rf b 190, .int x, .int g] shF (wN σ N) shF (pE (some (.int (oIceBox N x g).1)) (wA σ N r (oIceBox N x g).2)) := by
  have h2 := qi_2 hI
  refine Ct.of (ls := [(0, rf b 190), (1, .int x), (2, .int g)]) (by decide) (Nat.le_of_ble_eq_true rfl) rfl ?_
  intro pg e s m args below meth c Q hQ X hnm
  refine K_iload_n X 1 dX6_iceBox_0 rfl rfl ?_
  refine K_callSE X (c_X6_isBox l D b _ _) my_X6_isBox wt_X6_isBox wm_X6_64 ⟨rfl, rfl, Nat.le_of_ble_eq_true rfl, Nat.le_of_ble_eq_true rfl, Nat.le_of_ble_eq_true rfl, Nat.le_of_ble_eq_true rfl⟩ rfl rfl (Nat.le_of_ble_eq_true rfl) dX6_iceBox_1 ?_
  refine K_ifB_eq (tgt := 16) X dX6_iceBox_4 (by decide) (fun c4 => ?_) (fun c4 => ?_)
  · refine K_iconst X dX6_iceBox_16 cii_m1 ?_
    exact K_iret X hQ dX6_iceBox_17 (by rw [show oIceBox N x g = (-1, none) from by unfold oIceBox; rw [qI_f c4]]; exact ⟨rfl, rfl⟩)
  · obtain ⟨u, hlu, hhu, rfl⟩ := qIn_ex (lo := 0) (hi := 5) (by decide) (by decide) c4
    refine K_aload_n X 0 dX6_iceBox_7 rfl rfl ?_
    refine K_iload_n X 1 dX6_iceBox_8 rfl rfl ?_
    refine K_iload_n X 2 dX6_iceBox_9 rfl rfl ?_
    refine K_callVE X (c_X6_ices l D b _ _ _ _ _ hP hr hr6 hI (by omega)) my_X6_ices mv_X6_ices wm_X6_83 sf_m rfl ⟨rfl, rfl, Nat.le_of_ble_eq_true rfl, Nat.le_of_ble_eq_true rfl, Nat.le_of_ble_eq_true rfl, Nat.le_of_ble_eq_true rfl⟩ rfl rfl (Nat.le_of_ble_eq_true rfl) dX6_iceBox_10 ?_
    refine K_goto (tgt := 17) X dX6_iceBox_13 (by decide) ?_
    exact K_iret X hQ dX6_iceBox_17 (by rw [show oIceBox N (nI u) g = oIce N u g from by unfold oIceBox; rw [if_pos c4, tN_nI (by omega)]]; exact ⟨rfl, rfl⟩)

set_option maxHeartbeats 4000000 in
set_option maxRecDepth 100000 in
theorem c_X6_iceTray (l : Launch) (D : KD) (b : Nat) (σ : KS) (N : Nat → Nat) (r : Nat) (x g : Int32) (hP : PF σ.2.2) (hr : σ.1 190 3 = nI r) (hr6 : r ≤ 6) (hI : qIr N) : Ct l D b yX6_iceTray cX6_iceTray 3 (some .int) (rM 3 68) 0 0 [rf b 190, .int x, .int g] shF (wN σ N) shF (pE (some (.int (oIceTray N x g).1)) (wA σ N r (oIceTray N x g).2)) := by
  have h2 := qi_2 hI
  refine Ct.of (ls := [(0, rf b 190), (1, .int x), (2, .int g)]) (by decide) (Nat.le_of_ble_eq_true rfl) rfl ?_
  intro pg e s m args below meth c Q hQ X hnm
  refine K_iload_n X 1 dX6_iceTray_0 rfl rfl ?_
  refine K_callSE X (c_X6_isTray l D b _ _) my_X6_isTray wt_X6_isTray wm_X6_86 ⟨rfl, rfl, Nat.le_of_ble_eq_true rfl, Nat.le_of_ble_eq_true rfl, Nat.le_of_ble_eq_true rfl, Nat.le_of_ble_eq_true rfl⟩ rfl rfl (Nat.le_of_ble_eq_true rfl) dX6_iceTray_1 ?_
  refine K_ifB_eq (tgt := 19) X dX6_iceTray_4 (by decide) (fun c4 => ?_) (fun c4 => ?_)
  · refine K_iconst X dX6_iceTray_19 cii_m1 ?_
    exact K_iret X hQ dX6_iceTray_20 (by rw [show oIceTray N x g = (-1, none) from by unfold oIceTray; rw [qI_f c4]]; exact ⟨rfl, rfl⟩)
  · obtain ⟨u, hlu, hhu, rfl⟩ := qIn_ex (lo := 0) (hi := 4) (by decide) (by decide) c4
    refine K_aload_n X 0 dX6_iceTray_7 rfl rfl ?_
    refine K_bipush X dX6_iceTray_8 cib_6 ?_
    refine K_iload_n X 1 dX6_iceTray_10 rfl rfl ?_
    refine K_iaddN X dX6_iceTray_11 ?_
    refine K_iload_n X 2 dX6_iceTray_12 rfl rfl ?_
    refine K_callVE X (c_X6_ices l D b _ _ _ _ _ hP hr hr6 hI (by omega)) my_X6_ices mv_X6_ices wm_X6_83 sf_m rfl ⟨rfl, rfl, Nat.le_of_ble_eq_true rfl, Nat.le_of_ble_eq_true rfl, Nat.le_of_ble_eq_true rfl, Nat.le_of_ble_eq_true rfl⟩ rfl rfl (Nat.le_of_ble_eq_true rfl) dX6_iceTray_13 ?_
    refine K_goto (tgt := 20) X dX6_iceTray_16 (by decide) ?_
    exact K_iret X hQ dX6_iceTray_20 (by rw [show oIceTray N (nI u) g = oIce N (6 + u) g from by unfold oIceTray; rw [if_pos c4, tN_nI (by omega)]]; exact ⟨rfl, rfl⟩)

set_option maxHeartbeats 4000000 in
set_option maxRecDepth 100000 in
theorem c_X6_toTray (l : Launch) (D : KD) (b : Nat) (σ : KS) (N : Nat → Nat) (r : Nat) (x y : Int32) (hP : PF σ.2.2) (hr : σ.1 190 3 = nI r) (hr6 : r ≤ 6) (hI : qIr N) : Ct l D b yX6_toTray cX6_toTray 4 (some .int) (rM 2 45) 0 0 [rf b 190, .int x, .int y] shF (wN σ N) shF (pE (some (.int (oToTray N x y).1)) (wA σ N r (oToTray N x y).2)) := by
  have h2 := qi_2 hI
  refine Ct.of (ls := [(0, rf b 190), (1, .int x), (2, .int y)]) (by decide) (Nat.le_of_ble_eq_true rfl) rfl ?_
  intro pg e s m args below meth c Q hQ X hnm
  refine K_aload_n X 0 dX6_toTray_0 rfl rfl ?_
  refine K_iload_n X 1 dX6_toTray_1 rfl rfl ?_
  refine K_callVE X (c_X6_find l D b _ _ _ hP (by omega)) my_X6_find mv_X6_find wm_X6_89 sf_m rfl ⟨rfl, rfl, Nat.le_of_ble_eq_true rfl, Nat.le_of_ble_eq_true rfl, Nat.le_of_ble_eq_true rfl, Nat.le_of_ble_eq_true rfl⟩ rfl rfl (Nat.le_of_ble_eq_true rfl) dX6_toTray_2 ?_
  refine K_istore_n X (ls' := [(3, _), (0, _), (1, _), (2, _)]) dX6_toTray_5 rfl (by decide) rfl ?_
  refine K_iload_n X 0 dX6_toTray_6 rfl rfl ?_
  refine K_bipush X dX6_toTray_7 cib_m6 ?_
  refine K_icmp_eq (tgt := 19) X dX6_toTray_9 (by decide) (fun c9 => ?_) (fun c9 => ?_)
  · refine K_iconst X dX6_toTray_19 cii_m1 ?_
    exact K_iret X hQ dX6_toTray_20 (by rw [show oToTray N x y = (-1, none) from by unfold oToTray; rw [oOf_n (qF_no h2 c9)]]; exact ⟨rfl, rfl⟩)
  · obtain ⟨j, hj⟩ := qO_ex c9
    have hjl := qF_lt hj
    refine K_iload_n X 3 dX6_toTray_12 rfl rfl ?_
    refine K_callSE X (c_X6_isTray l D b _ _) my_X6_isTray wt_X6_isTray wm_X6_86 ⟨rfl, rfl, Nat.le_of_ble_eq_true rfl, Nat.le_of_ble_eq_true rfl, Nat.le_of_ble_eq_true rfl, Nat.le_of_ble_eq_true rfl⟩ rfl rfl (Nat.le_of_ble_eq_true rfl) dX6_toTray_13 ?_
    refine K_ifB_ne (tgt := 21) X dX6_toTray_16 (by decide) (fun c16 => ?_) (fun c16 => ?_)
    · obtain ⟨t, hlt, hht, rfl⟩ := qIn_ex (lo := 0) (hi := 4) (by decide) (by decide) c16
      rw [hj]
      refine K_aload_n X 1 dX6_toTray_21 rfl rfl ?_
      refine K_bipush X dX6_toTray_22 cib_6 ?_
      refine K_iload_n X 3 dX6_toTray_24 rfl rfl ?_
      refine K_iaddN X dX6_toTray_25 ?_
      refine K_callVE X (c_X6_lotsAt l D b _ _ _ hP hI (by omega)) my_X6_lotsAt mv_X6_lotsAt wm_X6_60 sf_m rfl ⟨rfl, rfl, Nat.le_of_ble_eq_true rfl, Nat.le_of_ble_eq_true rfl, Nat.le_of_ble_eq_true rfl, Nat.le_of_ble_eq_true rfl⟩ rfl rfl (Nat.le_of_ble_eq_true rfl) dX6_toTray_26 ?_
      refine K_ifN_le (tgt := 35) X dX6_toTray_29 (by decide) (by have := qCnt_le N (6 + t) (N 2); omega) (fun c29 => ?_) (fun c29 => ?_)
      · refine K_aload_n X 1 dX6_toTray_35 rfl rfl ?_
        refine K_callVE0 X (c_X6_record l D b _ _ _ hP hr hr6) my_X6_record mv_X6_record wm_X6_50 sf_m rfl ⟨rfl, rfl, Nat.le_of_ble_eq_true rfl, Nat.le_of_ble_eq_true rfl, Nat.le_of_ble_eq_true rfl, Nat.le_of_ble_eq_true rfl⟩ rfl rfl (Nat.le_of_ble_eq_true rfl) dX6_toTray_36 ?_
        refine K_aload_n X 1 dX6_toTray_39 rfl rfl ?_
        refine K_iload_n X 0 dX6_toTray_40 rfl rfl ?_
        refine K_iconst X dX6_toTray_41 cii_4 ?_
        refine K_bipush X dX6_toTray_42 cib_6 ?_
        refine K_iload_n X 3 dX6_toTray_44 rfl rfl ?_
        refine K_iaddN X dX6_toTray_45 ?_
        refine K_callVE0 X (c_X6_setPart l D b _ _ _ _ _ hP (by omega)) my_X6_setPart mv_X6_setPart wm_X6_56 sf_m rfl ⟨rfl, rfl, Nat.le_of_ble_eq_true rfl, Nat.le_of_ble_eq_true rfl, Nat.le_of_ble_eq_true rfl, Nat.le_of_ble_eq_true rfl⟩ rfl rfl (Nat.le_of_ble_eq_true rfl) dX6_toTray_46 ?_
        refine K_aload_n X 1 dX6_toTray_49 rfl rfl ?_
        refine K_iload_n X 0 dX6_toTray_50 rfl rfl ?_
        refine K_callVE X (c_X6_priceOf l D b _ _ _ hP (qIr_l hI (by omega) ⟨by omega, by omega, by omega, by omega⟩) (by rw [uN_n (by omega)]; exact hjl)) my_X6_priceOf mv_X6_priceOf wm_X6_92 sf_m rfl ⟨rfl, rfl, Nat.le_of_ble_eq_true rfl, Nat.le_of_ble_eq_true rfl, Nat.le_of_ble_eq_true rfl, Nat.le_of_ble_eq_true rfl⟩ rfl rfl (Nat.le_of_ble_eq_true rfl) dX6_toTray_51 ?_
        exact K_iret X hQ dX6_toTray_54 (by rw [show oToTray N x (nI t) = (nI (qPrice (uN N (45 + 5 * j + 4) (6 + t)) j), some (uN N (45 + 5 * j + 4) (6 + t))) from by unfold oToTray; rw [oOf_s hj, if_pos c16, tN_nI (by omega), if_pos c29]]; exact ⟨rfl, rfl⟩)
      · refine K_bipush X dX6_toTray_32 cib_m3 ?_
        exact K_iret X hQ dX6_toTray_34 (by rw [show oToTray N x (nI t) = (-3, none) from by unfold oToTray; rw [oOf_s hj, if_pos c16, tN_nI (by omega), if_neg c29]]; exact ⟨rfl, rfl⟩)
    · refine K_iconst X dX6_toTray_19 cii_m1 ?_
      exact K_iret X hQ dX6_toTray_20 (by rw [show oToTray N x y = (-1, none) from by unfold oToTray; rw [oOf_s hj, qI_f c16]]; exact ⟨rfl, rfl⟩)

set_option maxHeartbeats 4000000 in
set_option maxRecDepth 100000 in
theorem c_X6_toBox (l : Launch) (D : KD) (b : Nat) (σ : KS) (N : Nat → Nat) (r : Nat) (x y : Int32) (hP : PF σ.2.2) (hr : σ.1 190 3 = nI r) (hr6 : r ≤ 6) (hI : qIr N) : Ct l D b yX6_toBox cX6_toBox 4 (some .int) (rM 2 45) 0 0 [rf b 190, .int x, .int y] shF (wN σ N) shF (pE (some (.int (oToBox N x y).1)) (wA σ N r (oToBox N x y).2)) := by
  have h2 := qi_2 hI
  refine Ct.of (ls := [(0, rf b 190), (1, .int x), (2, .int y)]) (by decide) (Nat.le_of_ble_eq_true rfl) rfl ?_
  intro pg e s m args below meth c Q hQ X hnm
  refine K_aload_n X 0 dX6_toBox_0 rfl rfl ?_
  refine K_iload_n X 1 dX6_toBox_1 rfl rfl ?_
  refine K_callVE X (c_X6_find l D b _ _ _ hP (by omega)) my_X6_find mv_X6_find wm_X6_89 sf_m rfl ⟨rfl, rfl, Nat.le_of_ble_eq_true rfl, Nat.le_of_ble_eq_true rfl, Nat.le_of_ble_eq_true rfl, Nat.le_of_ble_eq_true rfl⟩ rfl rfl (Nat.le_of_ble_eq_true rfl) dX6_toBox_2 ?_
  refine K_istore_n X (ls' := [(3, _), (0, _), (1, _), (2, _)]) dX6_toBox_5 rfl (by decide) rfl ?_
  refine K_iload_n X 0 dX6_toBox_6 rfl rfl ?_
  refine K_bipush X dX6_toBox_7 cib_m6 ?_
  refine K_icmp_eq (tgt := 19) X dX6_toBox_9 (by decide) (fun c9 => ?_) (fun c9 => ?_)
  · refine K_iconst X dX6_toBox_19 cii_m1 ?_
    exact K_iret X hQ dX6_toBox_20 (by rw [show oToBox N x y = (-1, none) from by unfold oToBox; rw [oOf_n (qF_no h2 c9)]]; exact ⟨rfl, rfl⟩)
  · obtain ⟨j, hj⟩ := qO_ex c9
    have hjl := qF_lt hj
    refine K_iload_n X 3 dX6_toBox_12 rfl rfl ?_
    refine K_callSE X (c_X6_isBox l D b _ _) my_X6_isBox wt_X6_isBox wm_X6_64 ⟨rfl, rfl, Nat.le_of_ble_eq_true rfl, Nat.le_of_ble_eq_true rfl, Nat.le_of_ble_eq_true rfl, Nat.le_of_ble_eq_true rfl⟩ rfl rfl (Nat.le_of_ble_eq_true rfl) dX6_toBox_13 ?_
    refine K_ifB_ne (tgt := 21) X dX6_toBox_16 (by decide) (fun c16 => ?_) (fun c16 => ?_)
    · obtain ⟨t, hlt, hht, rfl⟩ := qIn_ex (lo := 0) (hi := 5) (by decide) (by decide) c16
      rw [hj]
      refine K_aload_n X 1 dX6_toBox_21 rfl rfl ?_
      refine K_iload_n X 0 dX6_toBox_22 rfl rfl ?_
      refine K_iconst X dX6_toBox_23 cii_4 ?_
      refine K_callVE X (c_X6_part l D b _ _ _ _ hP (by omega)) my_X6_part mv_X6_part wm_X6_30 sf_m rfl ⟨rfl, rfl, Nat.le_of_ble_eq_true rfl, Nat.le_of_ble_eq_true rfl, Nat.le_of_ble_eq_true rfl, Nat.le_of_ble_eq_true rfl⟩ rfl rfl (Nat.le_of_ble_eq_true rfl) dX6_toBox_24 ?_
      refine K_iload_n X 3 dX6_toBox_27 rfl rfl ?_
      refine K_icmpN_eq (tgt := 40) X dX6_toBox_28 (by decide) (by have := qi_l4 hI hjl; omega) (by omega) (fun c28 => ?_) (fun c28 => ?_)
      · refine K_bipush X dX6_toBox_40 cib_m3 ?_
        exact K_iret X hQ dX6_toBox_42 (by rw [show oToBox N x (nI t) = (-3, none) from by unfold oToBox; rw [oOf_s hj, if_pos c16, tN_nI (by omega), if_pos (Or.inl c28)]]; exact ⟨rfl, rfl⟩)
      · refine K_aload_n X 1 dX6_toBox_31 rfl rfl ?_
        refine K_iload_n X 3 dX6_toBox_32 rfl rfl ?_
        refine K_callVE X (c_X6_lotsAt l D b _ _ _ hP hI (by omega)) my_X6_lotsAt mv_X6_lotsAt wm_X6_60 sf_m rfl ⟨rfl, rfl, Nat.le_of_ble_eq_true rfl, Nat.le_of_ble_eq_true rfl, Nat.le_of_ble_eq_true rfl, Nat.le_of_ble_eq_true rfl⟩ rfl rfl (Nat.le_of_ble_eq_true rfl) dX6_toBox_33 ?_
        refine K_iconst X dX6_toBox_36 cii_3 ?_
        refine K_icmpN_ne (tgt := 43) X dX6_toBox_37 (by decide) (by have := qCnt_le N t (N 2); omega) (by omega) (fun c37 => ?_) (fun c37 => ?_)
        · refine K_aload_n X 1 dX6_toBox_43 rfl rfl ?_
          refine K_callVE0 X (c_X6_record l D b _ _ _ hP hr hr6) my_X6_record mv_X6_record wm_X6_50 sf_m rfl ⟨rfl, rfl, Nat.le_of_ble_eq_true rfl, Nat.le_of_ble_eq_true rfl, Nat.le_of_ble_eq_true rfl, Nat.le_of_ble_eq_true rfl⟩ rfl rfl (Nat.le_of_ble_eq_true rfl) dX6_toBox_44 ?_
          refine K_aload_n X 1 dX6_toBox_47 rfl rfl ?_
          refine K_iload_n X 0 dX6_toBox_48 rfl rfl ?_
          refine K_iconst X dX6_toBox_49 cii_4 ?_
          refine K_iload_n X 3 dX6_toBox_50 rfl rfl ?_
          refine K_callVE0 X (c_X6_setPart l D b _ _ _ _ _ hP (by omega)) my_X6_setPart mv_X6_setPart wm_X6_56 sf_m rfl ⟨rfl, rfl, Nat.le_of_ble_eq_true rfl, Nat.le_of_ble_eq_true rfl, Nat.le_of_ble_eq_true rfl, Nat.le_of_ble_eq_true rfl⟩ rfl rfl (Nat.le_of_ble_eq_true rfl) dX6_toBox_51 ?_
          refine K_aload_n X 1 dX6_toBox_54 rfl rfl ?_
          refine K_iload_n X 3 dX6_toBox_55 rfl rfl ?_
          refine K_callVE X (c_X6_lotsAt l D b _ _ _ hP (qIr_l hI (by omega) ⟨by omega, by omega, by omega, by omega⟩) (by omega)) my_X6_lotsAt mv_X6_lotsAt wm_X6_60 sf_m rfl ⟨rfl, rfl, Nat.le_of_ble_eq_true rfl, Nat.le_of_ble_eq_true rfl, Nat.le_of_ble_eq_true rfl, Nat.le_of_ble_eq_true rfl⟩ rfl rfl (Nat.le_of_ble_eq_true rfl) dX6_toBox_56 ?_
          rw [uN_n (k := 2) (by omega)]
          exact K_iret X hQ dX6_toBox_59 (by rw [show oToBox N x (nI t) = (nI (qCnt (uN N (45 + 5 * j + 4) t) t (N 2)), some (uN N (45 + 5 * j + 4) t)) from by unfold oToBox; rw [oOf_s hj, if_pos c16, tN_nI (by omega), if_neg (fun q => q.elim c28 c37)]]; exact ⟨rfl, rfl⟩)
        · refine K_bipush X dX6_toBox_40 cib_m3 ?_
          exact K_iret X hQ dX6_toBox_42 (by rw [show oToBox N x (nI t) = (-3, none) from by unfold oToBox; rw [oOf_s hj, if_pos c16, tN_nI (by omega), if_pos (Or.inr c37)]]; exact ⟨rfl, rfl⟩)
    · refine K_iconst X dX6_toBox_19 cii_m1 ?_
      exact K_iret X hQ dX6_toBox_20 (by rw [show oToBox N x y = (-1, none) from by unfold oToBox; rw [oOf_s hj, qI_f c16]]; exact ⟨rfl, rfl⟩)

set_option maxHeartbeats 4000000 in
set_option maxRecDepth 100000 in
theorem c_X6_divide (l : Launch) (D : KD) (b : Nat) (σ : KS) (N : Nat → Nat) (r : Nat) (x g bx : Int32) (hP : PF σ.2.2) (hr : σ.1 190 3 = nI r) (hr6 : r ≤ 6) (hI : qIr N) : Ct l D b yX6_divide cX6_divide 6 (some .int) (rM 3 66) 0 0 [rf b 190, .int x, .int g, .int bx] shF (wN σ N) shF (pE (some (.int (oDivide N x g bx).1)) (wA σ N r (oDivide N x g bx).2)) := by
  have h2 := qi_2 hI
  refine Ct.of (ls := [(0, rf b 190), (1, .int x), (2, .int g), (3, .int bx)]) (by decide) (Nat.le_of_ble_eq_true rfl) rfl ?_
  intro pg e s m args below meth c Q hQ X hnm
  refine K_aload_n X 0 dX6_divide_0 rfl rfl ?_
  refine K_iload_n X 1 dX6_divide_1 rfl rfl ?_
  refine K_callVE X (c_X6_find l D b _ _ _ hP (by omega)) my_X6_find mv_X6_find wm_X6_89 sf_m rfl ⟨rfl, rfl, Nat.le_of_ble_eq_true rfl, Nat.le_of_ble_eq_true rfl, Nat.le_of_ble_eq_true rfl, Nat.le_of_ble_eq_true rfl⟩ rfl rfl (Nat.le_of_ble_eq_true rfl) dX6_divide_2 ?_
  refine K_istore X (ls' := [(4, _), (0, _), (1, _), (2, _), (3, _)]) dX6_divide_5 (by decide) rfl ?_
  refine K_iload X 0 dX6_divide_7 rfl ?_
  refine K_bipush X dX6_divide_9 cib_m6 ?_
  refine K_icmp_eq (tgt := 21) X dX6_divide_11 (by decide) (fun c11 => ?_) (fun c11 => ?_)
  · refine K_iconst X dX6_divide_21 cii_m1 ?_
    exact K_iret X hQ dX6_divide_22 (by rw [show oDivide N x g bx = (-1, none) from by unfold oDivide; rw [oOf_n (qF_no h2 c11)]]; exact ⟨rfl, rfl⟩)
  · obtain ⟨j, hj⟩ := qO_ex c11
    have hjl := qF_lt hj
    refine K_iload_n X 4 dX6_divide_14 rfl rfl ?_
    refine K_callSE X (c_X6_isBox l D b _ _) my_X6_isBox wt_X6_isBox wm_X6_64 ⟨rfl, rfl, Nat.le_of_ble_eq_true rfl, Nat.le_of_ble_eq_true rfl, Nat.le_of_ble_eq_true rfl, Nat.le_of_ble_eq_true rfl⟩ rfl rfl (Nat.le_of_ble_eq_true rfl) dX6_divide_15 ?_
    refine K_ifB_ne (tgt := 23) X dX6_divide_18 (by decide) (fun c18 => ?_) (fun c18 => ?_)
    · obtain ⟨t, hlt, hht, rfl⟩ := qIn_ex (lo := 0) (hi := 5) (by decide) (by decide) c18
      rw [hj]
      refine K_iload_n X 3 dX6_divide_23 rfl rfl ?_
      refine K_iconst X dX6_divide_24 cii_1 ?_
      refine K_sipush X dX6_divide_25 cis_19999 ?_
      refine K_callSE X (c_X6_withinQ l D b _ _ _ _) my_X6_within wt_X6_within wm_X6_38 ⟨rfl, rfl, Nat.le_of_ble_eq_true rfl, Nat.le_of_ble_eq_true rfl, Nat.le_of_ble_eq_true rfl, Nat.le_of_ble_eq_true rfl⟩ rfl rfl (Nat.le_of_ble_eq_true rfl) dX6_divide_28 ?_
      refine K_ifB_ne (tgt := 37) X dX6_divide_31 (by decide) (fun c31 => ?_) (fun c31 => ?_)
      · obtain ⟨u, hlu, hhu, rfl⟩ := qIn_ex (lo := 1) (hi := 19999) (by decide) (by decide) c31
        refine K_iload_n X 3 dX6_divide_37 rfl rfl ?_
        refine K_aload_n X 1 dX6_divide_38 rfl rfl ?_
        refine K_iload X 0 dX6_divide_39 rfl ?_
        refine K_iconst X dX6_divide_41 cii_2 ?_
        refine K_callVE X (c_X6_part l D b _ _ _ _ hP (by omega)) my_X6_part mv_X6_part wm_X6_30 sf_m rfl ⟨rfl, rfl, Nat.le_of_ble_eq_true rfl, Nat.le_of_ble_eq_true rfl, Nat.le_of_ble_eq_true rfl, Nat.le_of_ble_eq_true rfl⟩ rfl rfl (Nat.le_of_ble_eq_true rfl) dX6_divide_42 ?_
        refine K_icmpN_lt (tgt := 53) X dX6_divide_45 (by decide) (by omega) (by have := qi_l2 hI hjl; omega) (fun c45 => ?_) (fun c45 => ?_)
        · have hwy : qWhyD N j u t = qRoom N t := if_pos c45
          refine K_aload_n X 1 dX6_divide_53 rfl rfl ?_
          refine K_iload_n X 4 dX6_divide_54 rfl rfl ?_
          refine K_callVE X (c_X6_whyNotRoom l D b _ _ _ hP hI (by omega)) my_X6_whyNotRoom mv_X6_whyNotRoom wm_X6_67 sf_m rfl ⟨rfl, rfl, Nat.le_of_ble_eq_true rfl, Nat.le_of_ble_eq_true rfl, Nat.le_of_ble_eq_true rfl, Nat.le_of_ble_eq_true rfl⟩ rfl rfl (Nat.le_of_ble_eq_true rfl) dX6_divide_55 ?_
          refine K_istore X (ls' := [(5, _), (4, _), (0, _), (1, _), (2, _), (3, _)]) dX6_divide_58 (by decide) rfl ?_
          refine K_iload X 0 dX6_divide_60 rfl ?_
          refine K_if_ge (tgt := 68) X dX6_divide_62 (by decide) (fun c62 => ?_) (fun c62 => ?_)
          · obtain ⟨q1, q2⟩ := qRoom_ge c62
            refine K_aload_n X 2 dX6_divide_68 rfl rfl ?_
            refine K_callVE0 X (c_X6_record l D b _ _ _ hP hr hr6) my_X6_record mv_X6_record wm_X6_50 sf_m rfl ⟨rfl, rfl, Nat.le_of_ble_eq_true rfl, Nat.le_of_ble_eq_true rfl, Nat.le_of_ble_eq_true rfl, Nat.le_of_ble_eq_true rfl⟩ rfl rfl (Nat.le_of_ble_eq_true rfl) dX6_divide_69 ?_
            refine K_aload_n X 2 dX6_divide_72 rfl rfl ?_
            refine K_iload X 1 dX6_divide_73 rfl ?_
            refine K_iconst X dX6_divide_75 cii_2 ?_
            refine K_aload_n X 2 dX6_divide_76 rfl rfl ?_
            refine K_iload X 1 dX6_divide_77 rfl ?_
            refine K_iconst X dX6_divide_79 cii_2 ?_
            refine K_callVE X (c_X6_part l D b _ _ _ _ hP (by omega)) my_X6_part mv_X6_part wm_X6_30 sf_m rfl ⟨rfl, rfl, Nat.le_of_ble_eq_true rfl, Nat.le_of_ble_eq_true rfl, Nat.le_of_ble_eq_true rfl, Nat.le_of_ble_eq_true rfl⟩ rfl rfl (Nat.le_of_ble_eq_true rfl) dX6_divide_80 ?_
            refine K_iload_n X 4 dX6_divide_83 rfl rfl ?_
            refine K_isubN X dX6_divide_84 (by omega) ?_
            refine K_callVE0 X (c_X6_setPart l D b _ _ _ _ _ hP (by omega)) my_X6_setPart mv_X6_setPart wm_X6_56 sf_m rfl ⟨rfl, rfl, Nat.le_of_ble_eq_true rfl, Nat.le_of_ble_eq_true rfl, Nat.le_of_ble_eq_true rfl, Nat.le_of_ble_eq_true rfl⟩ rfl rfl (Nat.le_of_ble_eq_true rfl) dX6_divide_85 ?_
            refine K_aload_n X 2 dX6_divide_88 rfl rfl ?_
            refine K_aload_n X 2 dX6_divide_89 rfl rfl ?_
            refine K_iload X 1 dX6_divide_90 rfl ?_
            refine K_iconst X dX6_divide_92 cii_1 ?_
            refine K_callVE X (c_X6_part l D b _ _ _ _ hP (by omega)) my_X6_part mv_X6_part wm_X6_30 sf_m rfl ⟨rfl, rfl, Nat.le_of_ble_eq_true rfl, Nat.le_of_ble_eq_true rfl, Nat.le_of_ble_eq_true rfl, Nat.le_of_ble_eq_true rfl⟩ rfl rfl (Nat.le_of_ble_eq_true rfl) dX6_divide_93 ?_
            rw [show qL (uN N (45 + 5 * j + 2) (qL N j 2 - u)) j 1 = qL N j 1 from uN_n (by omega)]
            refine K_iload_n X 4 dX6_divide_96 rfl rfl ?_
            refine K_aload_n X 2 dX6_divide_97 rfl rfl ?_
            refine K_iload X 1 dX6_divide_98 rfl ?_
            refine K_iconst X dX6_divide_100 cii_3 ?_
            refine K_callVE X (c_X6_part l D b _ _ _ _ hP (by omega)) my_X6_part mv_X6_part wm_X6_30 sf_m rfl ⟨rfl, rfl, Nat.le_of_ble_eq_true rfl, Nat.le_of_ble_eq_true rfl, Nat.le_of_ble_eq_true rfl, Nat.le_of_ble_eq_true rfl⟩ rfl rfl (Nat.le_of_ble_eq_true rfl) dX6_divide_101 ?_
            rw [show qL (uN N (45 + 5 * j + 2) (qL N j 2 - u)) j 3 = qL N j 3 from uN_n (by omega)]
            refine K_iload_n X 5 dX6_divide_104 rfl rfl ?_
            refine K_callVE X (c_X6_adds l D b _ _ _ _ _ _ hP (by rw [uN_n (by omega)]; omega)) my_X6_adds mv_X6_adds wm_X6_73 sf_m rfl ⟨rfl, rfl, Nat.le_of_ble_eq_true rfl, Nat.le_of_ble_eq_true rfl, Nat.le_of_ble_eq_true rfl, Nat.le_of_ble_eq_true rfl⟩ rfl rfl (Nat.le_of_ble_eq_true rfl) dX6_divide_105 ?_
            rw [uN_n (show 10 ≠ 45 + 5 * j + 2 from by omega)]
            exact K_iret X hQ dX6_divide_108 (by rw [show oDivide N x (nI u) (nI t) = (nI (N 10 + 1), some (qAdd (uN N (45 + 5 * j + 2) (qL N j 2 - u)) (qL N j 1) u (qL N j 3) t)) from by unfold oDivide; rw [oOf_s hj, if_pos c18, if_pos c31, tN_nI (by omega), tN_nI (by omega), hwy, if_pos c62]]; exact ⟨rfl, rfl⟩)
          · refine K_iload X 0 dX6_divide_65 rfl ?_
            exact K_iret X hQ dX6_divide_67 (by rw [show oDivide N x (nI u) (nI t) = (qRoom N t, none) from by unfold oDivide; rw [oOf_s hj, if_pos c18, if_pos c31, tN_nI (by omega), tN_nI (by omega), hwy, if_neg c62]]; exact ⟨rfl, rfl⟩)
        · have hwy : qWhyD N j u t = -3 := if_neg c45
          refine K_bipush X dX6_divide_48 cib_m3 ?_
          refine K_goto (tgt := 58) X dX6_divide_50 (by decide) ?_
          refine K_istore X (ls' := [(5, _), (4, _), (0, _), (1, _), (2, _), (3, _)]) dX6_divide_58 (by decide) rfl ?_
          refine K_iload X 0 dX6_divide_60 rfl ?_
          refine K_if_ge (tgt := 68) X dX6_divide_62 (by decide) (fun c62 => ?_) (fun c62 => ?_)
          · exact absurd c62 (by decide)
          · refine K_iload X 0 dX6_divide_65 rfl ?_
            exact K_iret X hQ dX6_divide_67 (by rw [show oDivide N x (nI u) (nI t) = (-3, none) from by unfold oDivide; rw [oOf_s hj, if_pos c18, if_pos c31, tN_nI (by omega), tN_nI (by omega), hwy, if_neg (by decide)]]; exact ⟨rfl, rfl⟩)
      · refine K_bipush X dX6_divide_34 cib_m2 ?_
        exact K_iret X hQ dX6_divide_36 (by rw [show oDivide N x g (nI t) = (-2, none) from by unfold oDivide; rw [oOf_s hj, if_pos c18, qI_f c31]]; exact ⟨rfl, rfl⟩)
    · refine K_iconst X dX6_divide_21 cii_m1 ?_
      exact K_iret X hQ dX6_divide_22 (by rw [show oDivide N x g bx = (-1, none) from by unfold oDivide; rw [oOf_s hj, qI_f c18]]; exact ⟨rfl, rfl⟩)

set_option maxHeartbeats 4000000 in
set_option maxRecDepth 100000 in
theorem c_X6_throwAway (l : Launch) (D : KD) (b : Nat) (σ : KS) (N : Nat → Nat) (r : Nat) (x : Int32) (hP : PF σ.2.2) (hr : σ.1 190 3 = nI r) (hr6 : r ≤ 6) (hI : qIr N) : Ct l D b yX6_throwAway cX6_throwAway 4 (some .int) (rM 2 45) 0 0 [rf b 190, .int x] shF (wN σ N) shF (pE (some (.int (oThrow N x).1)) (wA σ N r (oThrow N x).2)) := by
  have h2 := qi_2 hI
  refine Ct.of (ls := [(0, rf b 190), (1, .int x)]) (by decide) (Nat.le_of_ble_eq_true rfl) rfl ?_
  intro pg e s m args below meth c Q hQ X hnm
  refine K_aload_n X 0 dX6_throwAway_0 rfl rfl ?_
  refine K_iload_n X 1 dX6_throwAway_1 rfl rfl ?_
  refine K_callVE X (c_X6_find l D b _ _ _ hP (by omega)) my_X6_find mv_X6_find wm_X6_89 sf_m rfl ⟨rfl, rfl, Nat.le_of_ble_eq_true rfl, Nat.le_of_ble_eq_true rfl, Nat.le_of_ble_eq_true rfl, Nat.le_of_ble_eq_true rfl⟩ rfl rfl (Nat.le_of_ble_eq_true rfl) dX6_throwAway_2 ?_
  refine K_istore_n X (ls' := [(2, _), (0, _), (1, _)]) dX6_throwAway_5 rfl (by decide) rfl ?_
  refine K_iload_n X 0 dX6_throwAway_6 rfl rfl ?_
  refine K_bipush X dX6_throwAway_7 cib_m6 ?_
  refine K_icmp_ne (tgt := 14) X dX6_throwAway_9 (by decide) (fun c9 => ?_) (fun c9 => ?_)
  · obtain ⟨j, hj⟩ := qO_ex c9
    have hjl := qF_lt hj
    rw [hj]
    refine K_aload_n X 1 dX6_throwAway_14 rfl rfl ?_
    refine K_callVE0 X (c_X6_record l D b _ _ _ hP hr hr6) my_X6_record mv_X6_record wm_X6_50 sf_m rfl ⟨rfl, rfl, Nat.le_of_ble_eq_true rfl, Nat.le_of_ble_eq_true rfl, Nat.le_of_ble_eq_true rfl, Nat.le_of_ble_eq_true rfl⟩ rfl rfl (Nat.le_of_ble_eq_true rfl) dX6_throwAway_15 ?_
    refine K_aload_n X 1 dX6_throwAway_18 rfl rfl ?_
    refine K_iload_n X 0 dX6_throwAway_19 rfl rfl ?_
    refine K_iconst X dX6_throwAway_20 cii_2 ?_
    refine K_callVE X (c_X6_part l D b _ _ _ _ hP (by omega)) my_X6_part mv_X6_part wm_X6_30 sf_m rfl ⟨rfl, rfl, Nat.le_of_ble_eq_true rfl, Nat.le_of_ble_eq_true rfl, Nat.le_of_ble_eq_true rfl, Nat.le_of_ble_eq_true rfl⟩ rfl rfl (Nat.le_of_ble_eq_true rfl) dX6_throwAway_21 ?_
    refine K_istore_n X (ls' := [(3, _), (2, _), (0, _), (1, _)]) dX6_throwAway_24 rfl (by decide) rfl ?_
    refine K_aload_n X 2 dX6_throwAway_25 rfl rfl ?_
    refine K_iload_n X 1 dX6_throwAway_26 rfl rfl ?_
    refine K_callVE0 X (c_X6_throwsAway l D b _ _ _ hP (by omega) (by omega)) my_X6_throwsAway mv_X6_throwsAway wm_X6_95 sf_m rfl ⟨rfl, rfl, Nat.le_of_ble_eq_true rfl, Nat.le_of_ble_eq_true rfl, Nat.le_of_ble_eq_true rfl, Nat.le_of_ble_eq_true rfl⟩ rfl rfl (Nat.le_of_ble_eq_true rfl) dX6_throwAway_27 ?_
    refine K_iload_n X 0 dX6_throwAway_30 rfl rfl ?_
    exact K_iret X hQ dX6_throwAway_31 (by rw [show oThrow N x = (nI (qL N j 2), some (qThrow N j)) from by unfold oThrow; rw [oOf_s hj]]; exact ⟨rfl, rfl⟩)
  · refine K_iconst X dX6_throwAway_12 cii_m1 ?_
    exact K_iret X hQ dX6_throwAway_13 (by rw [show oThrow N x = (-1, none) from by unfold oThrow; rw [oOf_n (qF_no h2 c9)]]; exact ⟨rfl, rfl⟩)

set_option maxHeartbeats 4000000 in
set_option maxRecDepth 100000 in
theorem c_X6_pass (l : Launch) (D : KD) (b : Nat) (σ : KS) (N : Nat → Nat) (r : Nat)  (hP : PF σ.2.2) (hr : σ.1 190 3 = nI r) (hr6 : r ≤ 6) (hI : qIr N) : Ct l D b yX6_pass cX6_pass 1 (some .int) (rM 3 64) 0 0 [rf b 190] shF (wN σ N) shF (pE (some (.int (oPass N).1)) (wA σ N r (oPass N).2)) := by
  have h2 := qi_2 hI
  refine Ct.of (ls := [(0, rf b 190)]) (by decide) (Nat.le_of_ble_eq_true rfl) rfl ?_
  intro pg e s m args below meth c Q hQ X hnm
  refine K_aload_n X 0 dX6_pass_0 rfl rfl ?_
  refine K_get X 0 kFd6 rfl (by decide) sf_m wf_X6_7 rfl (v := rf b (191)) (kv_a (pf_m0 hP)) dX6_pass_1 ?_
  refine K_iconst X dX6_pass_4 cii_1 ?_
  refine K_iald X _ sf_ms rfl (by omega) (by decide) (wN_at _) dX6_pass_5 ?_
  refine K_bipush X dX6_pass_6 cib_10 ?_
  refine K_icmpN_ne (tgt := 14) X dX6_pass_8 (by decide) (by have := qi_1 hI; omega) (by omega) (fun c8 => ?_) (fun c8 => ?_)
  · refine K_aload_n X 0 dX6_pass_14 rfl rfl ?_
    refine K_callVE0 X (c_X6_record l D b _ _ _ hP hr hr6) my_X6_record mv_X6_record wm_X6_50 sf_m rfl ⟨rfl, rfl, Nat.le_of_ble_eq_true rfl, Nat.le_of_ble_eq_true rfl, Nat.le_of_ble_eq_true rfl, Nat.le_of_ble_eq_true rfl⟩ rfl rfl (Nat.le_of_ble_eq_true rfl) dX6_pass_15 ?_
    refine K_aload_n X 0 dX6_pass_18 rfl rfl ?_
    refine K_callVE0 X (c_X6_passesHour l D b _ _ hP hI) my_X6_passesHour mv_X6_passesHour wm_X6_116 sf_m rfl ⟨rfl, rfl, Nat.le_of_ble_eq_true rfl, Nat.le_of_ble_eq_true rfl, Nat.le_of_ble_eq_true rfl, Nat.le_of_ble_eq_true rfl⟩ rfl rfl (Nat.le_of_ble_eq_true rfl) dX6_pass_19 ?_
    refine K_aload_n X 0 dX6_pass_22 rfl rfl ?_
    refine K_get X 0 kFd6 rfl (by decide) sf_m wf_X6_7 rfl (v := rf b (191)) (kv_a (pf_m0 hP)) dX6_pass_23 ?_
    refine K_iconst X dX6_pass_26 cii_1 ?_
    refine K_iald X _ sf_ms rfl (by omega) (by decide) (wN_at _) dX6_pass_27 ?_
    rw [qPass_1]
    exact K_iret X hQ dX6_pass_28 (by rw [show oPass N  = (nI (N 1 + 1), some (qPass N)) from by unfold oPass; rw [if_neg c8]]; exact ⟨rfl, rfl⟩)
  · refine K_bipush X dX6_pass_11 cib_m3 ?_
    exact K_iret X hQ dX6_pass_13 (by rw [show oPass N  = (-3, none) from by unfold oPass; rw [if_pos c8]]; exact ⟨rfl, rfl⟩)

set_option maxHeartbeats 4000000 in
set_option maxRecDepth 100000 in
theorem c_X6_close (l : Launch) (D : KD) (b : Nat) (σ : KS) (N : Nat → Nat) (r : Nat)  (hP : PF σ.2.2) (hr : σ.1 190 3 = nI r) (hr6 : r ≤ 6) (hI : qIr N) : Ct l D b yX6_close cX6_close 1 (some .int) (rM 4 92) 0 0 [rf b 190] shF (wN σ N) shF (pE (some (.int (oClose N).1)) (wA σ N r (oClose N).2)) := by
  have h2 := qi_2 hI
  refine Ct.of (ls := [(0, rf b 190)]) (by decide) (Nat.le_of_ble_eq_true rfl) rfl ?_
  intro pg e s m args below meth c Q hQ X hnm
  refine K_aload_n X 0 dX6_close_0 rfl rfl ?_
  refine K_get X 0 kFd6 rfl (by decide) sf_m wf_X6_7 rfl (v := rf b (191)) (kv_a (pf_m0 hP)) dX6_close_1 ?_
  refine K_iconst X dX6_close_4 cii_0 ?_
  refine K_iald X _ sf_ms rfl (by omega) (by decide) (wN_at _) dX6_close_5 ?_
  refine K_sipush X dX6_close_6 cis_999 ?_
  refine K_icmpN_ne (tgt := 15) X dX6_close_9 (by decide) (by have := qi_0 hI; omega) (by omega) (fun c9 => ?_) (fun c9 => ?_)
  · refine K_aload_n X 0 dX6_close_15 rfl rfl ?_
    refine K_callVE0 X (c_X6_record l D b _ _ _ hP hr hr6) my_X6_record mv_X6_record wm_X6_50 sf_m rfl ⟨rfl, rfl, Nat.le_of_ble_eq_true rfl, Nat.le_of_ble_eq_true rfl, Nat.le_of_ble_eq_true rfl, Nat.le_of_ble_eq_true rfl⟩ rfl rfl (Nat.le_of_ble_eq_true rfl) dX6_close_16 ?_
    refine K_aload_n X 0 dX6_close_19 rfl rfl ?_
    refine K_callVE X (c_X6_closes l D b _ _ hP hI) my_X6_closes mv_X6_closes wm_X6_126 sf_m rfl ⟨rfl, rfl, Nat.le_of_ble_eq_true rfl, Nat.le_of_ble_eq_true rfl, Nat.le_of_ble_eq_true rfl, Nat.le_of_ble_eq_true rfl⟩ rfl rfl (Nat.le_of_ble_eq_true rfl) dX6_close_20 ?_
    exact K_iret X hQ dX6_close_23 (by rw [show oClose N  = (nI (qClose N 5 - N 5), some (qClose N)) from by unfold oClose; rw [if_neg c9]]; exact ⟨rfl, rfl⟩)
  · refine K_bipush X dX6_close_12 cib_m4 ?_
    exact K_iret X hQ dX6_close_14 (by rw [show oClose N  = (-4, none) from by unfold oClose; rw [if_pos c9]]; exact ⟨rfl, rfl⟩)
