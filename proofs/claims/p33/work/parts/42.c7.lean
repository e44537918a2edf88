/-! THE CLASS: what the forecast answers -/
set_option maxHeartbeats 4000000 in
set_option maxRecDepth 100000 in
theorem c_X5_freshAfter (l : Launch) (D : KD) (b : Nat) {sh : List KSh} (hsh : shP sh) (σ : KS) (π N : Nat → Nat) (x y : Int32) (hP : PF σ.2.2) (hR : Rs σ 1 π N) (hI : qIr N) (hU : qU N) (hB : N 10 < 2 ^ 31) : Ct l D b yX5_freshAfter cX5_freshAfter 5 (some .int) (rM 4 85) 0 0 [rf b 0, .int x, .int y] sh σ sh (pS (some (.int (aFresh N x y))) (fun τ => Fc σ τ)) := by
  have h2 := qi_2 hI
  have ho := s1_in
  refine Ct.of (ls := [(0, rf b 0), (1, .int x), (2, .int y)]) (by decide) (Nat.le_of_ble_eq_true rfl) rfl ?_
  intro pg e s m args below meth c Q hQ X hnm
  refine K_aload_n X 0 dX5_freshAfter_0 rfl rfl ?_
  refine K_get X 0 kFd5 rfl (by decide) (sf_c hsh) wf_X5_10 rfl (v := rf b (1)) (kv_o (pf_00 hP)) dX5_freshAfter_1 ?_
  refine K_iload_n X 1 dX5_freshAfter_4 rfl rfl ?_
  refine K_callVE X (c_X4_findLot l D b hsh _ _ _ _ _ hP ho hR hI hU hB) my_X4_findLot mv_X4_findLot wm_X5_98 (so_0 hsh 1 ho) rfl ⟨rfl, rfl, Nat.le_of_ble_eq_true rfl, Nat.le_of_ble_eq_true rfl, Nat.le_of_ble_eq_true rfl, Nat.le_of_ble_eq_true rfl⟩ rfl rfl (Nat.le_of_ble_eq_true rfl) dX5_freshAfter_5 ?_
  rcases hf : qF N x (N 2) with _ | j
  · refine K_astore_nN X (ls' := [(3, _), (0, _), (1, _), (2, _)]) dX5_freshAfter_8 rfl (by decide) rfl ?_
    refine K_aload_nN X 0 dX5_freshAfter_9 rfl rfl ?_
    refine K_ifnonnullN (tgt := 15) X dX5_freshAfter_10 (by decide) ?_
    refine K_iconst X dX5_freshAfter_13 cii_m1 ?_
    exact K_iret X hQ dX5_freshAfter_14 (⟨by rw [show aFresh N x y = -1 from aOf_n hf] <;> rfl, Fc.rf⟩)
  · have hjl : j < N 2 := qF_lt hf
    refine K_astore_n X (ls' := [(3, _), (0, _), (1, _), (2, _)]) dX5_freshAfter_8 rfl (by decide) rfl ?_
    refine K_aload_n X 0 dX5_freshAfter_9 rfl rfl ?_
    refine K_ifnonnull (tgt := 15) X dX5_freshAfter_10 (by decide) ?_
    refine K_iload_n X 3 dX5_freshAfter_15 rfl rfl ?_
    refine K_iconst X dX5_freshAfter_16 cii_0 ?_
    refine K_bipush X dX5_freshAfter_17 cib_100 ?_
    refine K_callSE X (c_X5_withinQ l D b hsh _ _ _ _) my_X5_within wt_X5_within wm_X5_44 ⟨rfl, rfl, Nat.le_of_ble_eq_true rfl, Nat.le_of_ble_eq_true rfl, Nat.le_of_ble_eq_true rfl, Nat.le_of_ble_eq_true rfl⟩ rfl rfl (Nat.le_of_ble_eq_true rfl) dX5_freshAfter_19 ?_
    refine K_ifB_ne (tgt := 28) X dX5_freshAfter_22 (by decide) (fun c22 => ?_) (fun c22 => ?_)
    · obtain ⟨v, hlv, hhv, rfl⟩ := qIn_ex (lo := 0) (hi := 100) (by decide) (by decide) c22
      refine K_aload_n X 1 dX5_freshAfter_28 rfl rfl ?_
      refine K_get X 2 kFd5 rfl (by decide) (sf_c hsh) wf_X5_22 rfl (v := rf b (47)) (kv_o (pf_02 hP)) dX5_freshAfter_29 ?_
      refine K_aload_n X 1 dX5_freshAfter_32 rfl rfl ?_
      refine K_get X 0 kFd5 rfl (by decide) (sf_c hsh) wf_X5_10 rfl (v := rf b (1)) (kv_o (pf_00 hP)) dX5_freshAfter_33 ?_
      refine K_aload_n X 0 dX5_freshAfter_36 rfl rfl ?_
      refine K_callVP0 X (c_X1_start l D b hsh _ _ _ _ hP hR hI hjl) my_X1_start mv_X1_start wm_X5_206 (sf_fc hsh) rfl ⟨rfl, rfl, Nat.le_of_ble_eq_true rfl, Nat.le_of_ble_eq_true rfl, Nat.le_of_ble_eq_true rfl, Nat.le_of_ble_eq_true rfl⟩ rfl rfl (Nat.le_of_ble_eq_true rfl) dX5_freshAfter_37 (fun σ37 h37 => ?_)
      obtain ⟨G, rfl, hG⟩ := h37
      refine K_iconst X dX5_freshAfter_40 cii_0 ?_
      refine K_istore X (ls' := [(4, _), (3, _), (0, _), (1, _), (2, _)]) dX5_freshAfter_41 (by decide) rfl ?_
      have loop : ∀ i : Nat, i ≤ v → ∀ G : Nat → Int32, Fo G N j i → K pg l e (rM 4 85) s m args below meth c Q D b 5 0 0 sh (wI σ 47 G) 43 [(0, rf b 0), (2, .int (nI v)), (3, rf b (1 + 7 + π j)), (4, .int (nI i))] [] := by
        refine kup (fun i hi ih => ?_)
        intro G hG 
        refine K_iload X 3 dX5_freshAfter_43 rfl ?_
        refine K_iload_n X 1 dX5_freshAfter_45 rfl rfl ?_
        refine K_icmpN_ge (tgt := 62) X dX5_freshAfter_46 (by decide) (by omega) (by omega) (fun c46 => ?_) (fun c46 => ?_)
        · refine K_aload_n X 0 dX5_freshAfter_62 rfl rfl ?_
          refine K_get X 2 kFd5 rfl (by decide) (sf_c hsh) wf_X5_22 rfl (v := rf b (47)) (kv_o (pf_02 hP)) dX5_freshAfter_63 ?_
          refine K_get X 0 kFd1 rfl (by decide) (sf_fc hsh) wf_X5_211 rfl (v := .int (nI (qFI N j i).1)) (congrArg Value.int ((congrFun wI_self _).trans hG.1)) dX5_freshAfter_66 ?_
          exact K_iret X hQ dX5_freshAfter_69 (⟨by unfold aFresh; rw [aOf_s hf, if_pos c22, nI_clamp (by omega), show i = v from by omega], Fc.mk⟩)
        · refine K_aload_n X 0 dX5_freshAfter_49 rfl rfl ?_
          refine K_get X 2 kFd5 rfl (by decide) (sf_c hsh) wf_X5_22 rfl (v := rf b (47)) (kv_o (pf_02 hP)) dX5_freshAfter_50 ?_
          refine K_callVP0 X (c_X1_passHour l D b hsh _ _ _ _ _ hI hjl hG) my_X1_passHour mv_X1_passHour wm_X5_210 (sf_fc hsh) rfl ⟨rfl, rfl, Nat.le_of_ble_eq_true rfl, Nat.le_of_ble_eq_true rfl, Nat.le_of_ble_eq_true rfl, Nat.le_of_ble_eq_true rfl⟩ rfl rfl (Nat.le_of_ble_eq_true rfl) dX5_freshAfter_53 (fun σ53 h53 => ?_)
          obtain ⟨G, rfl, hG⟩ := h53
          refine K_iinc X 3 (ls' := [(4, _), (0, _), (2, _), (3, _)]) dX5_freshAfter_56 rfl (inc_1 _) (by decide) rfl ?_
          refine K_goto (tgt := 43) X dX5_freshAfter_59 (by decide) ?_
          exact K_sub [1, 2, 3, 0] rfl (ih (by omega) G hG)
      exact K_sub [2, 4, 1, 0] rfl (loop 0 (Nat.zero_le _) G hG)
    · refine K_bipush X dX5_freshAfter_25 cib_m2 ?_
      exact K_iret X hQ dX5_freshAfter_27 (⟨by unfold aFresh; rw [aOf_s hf, qI_f c22] <;> rfl, Fc.rf⟩)

set_option maxHeartbeats 4000000 in
set_option maxRecDepth 100000 in
theorem c_X5_hoursLeft (l : Launch) (D : KD) (b : Nat) {sh : List KSh} (hsh : shP sh) (σ : KS) (π N : Nat → Nat) (x : Int32) (hP : PF σ.2.2) (hR : Rs σ 1 π N) (hI : qIr N) (hU : qU N) (hB : N 10 < 2 ^ 31) : Ct l D b yX5_hoursLeft cX5_hoursLeft 4 (some .int) (rM 4 85) 0 0 [rf b 0, .int x] sh σ sh (pS (some (.int (aLeft N x))) (fun τ => Fc σ τ)) := by
  have h2 := qi_2 hI
  have ho := s1_in
  refine Ct.of (ls := [(0, rf b 0), (1, .int x)]) (by decide) (Nat.le_of_ble_eq_true rfl) rfl ?_
  intro pg e s m args below meth c Q hQ X hnm
  refine K_aload_n X 0 dX5_hoursLeft_0 rfl rfl ?_
  refine K_get X 0 kFd5 rfl (by decide) (sf_c hsh) wf_X5_10 rfl (v := rf b (1)) (kv_o (pf_00 hP)) dX5_hoursLeft_1 ?_
  refine K_iload_n X 1 dX5_hoursLeft_4 rfl rfl ?_
  refine K_callVE X (c_X4_findLot l D b hsh _ _ _ _ _ hP ho hR hI hU hB) my_X4_findLot mv_X4_findLot wm_X5_98 (so_0 hsh 1 ho) rfl ⟨rfl, rfl, Nat.le_of_ble_eq_true rfl, Nat.le_of_ble_eq_true rfl, Nat.le_of_ble_eq_true rfl, Nat.le_of_ble_eq_true rfl⟩ rfl rfl (Nat.le_of_ble_eq_true rfl) dX5_hoursLeft_5 ?_
  rcases hf : qF N x (N 2) with _ | j
  · refine K_astore_nN X (ls' := [(2, _), (0, _), (1, _)]) dX5_hoursLeft_8 rfl (by decide) rfl ?_
    refine K_aload_nN X 0 dX5_hoursLeft_9 rfl rfl ?_
    refine K_ifnonnullN (tgt := 15) X dX5_hoursLeft_10 (by decide) ?_
    refine K_iconst X dX5_hoursLeft_13 cii_m1 ?_
    exact K_iret X hQ dX5_hoursLeft_14 (⟨by rw [show aLeft N x = -1 from aOf_n hf] <;> rfl, Fc.rf⟩)
  · have hjl : j < N 2 := qF_lt hf
    refine K_astore_n X (ls' := [(2, _), (0, _), (1, _)]) dX5_hoursLeft_8 rfl (by decide) rfl ?_
    refine K_aload_n X 0 dX5_hoursLeft_9 rfl rfl ?_
    refine K_ifnonnull (tgt := 15) X dX5_hoursLeft_10 (by decide) ?_
    refine K_aload_n X 0 dX5_hoursLeft_15 rfl rfl ?_
    refine K_get X 3 kFd3 rfl (by decide) (so_l hsh ho (rs_lt hR (by omega))) wf_X5_133 rfl (v := .int (nI (qL N j 3))) (congrArg Value.int (rs_l hR hjl 3 (by decide))) dX5_hoursLeft_16 ?_
    refine K_aload_n X 1 dX5_hoursLeft_19 rfl rfl ?_
    refine K_get X 0 kFd5 rfl (by decide) (sf_c hsh) wf_X5_10 rfl (v := rf b (1)) (kv_o (pf_00 hP)) dX5_hoursLeft_20 ?_
    refine K_get X 3 kFd4 rfl (by decide) (so_0 hsh 1 ho) wf_X5_65 rfl (v := .int (nI (N 9))) (congrArg Value.int (rs_i hR 3 (by decide))) dX5_hoursLeft_23 ?_
    refine K_icmpN_ge (tgt := 32) X dX5_hoursLeft_26 (by decide) (by have := qi_l3 hI hjl; omega) (by have := qi_9 hI; omega) (fun c26 => ?_) (fun c26 => ?_)
    · refine K_aload_n X 1 dX5_hoursLeft_32 rfl rfl ?_
      refine K_get X 2 kFd5 rfl (by decide) (sf_c hsh) wf_X5_22 rfl (v := rf b (47)) (kv_o (pf_02 hP)) dX5_hoursLeft_33 ?_
      refine K_aload_n X 1 dX5_hoursLeft_36 rfl rfl ?_
      refine K_get X 0 kFd5 rfl (by decide) (sf_c hsh) wf_X5_10 rfl (v := rf b (1)) (kv_o (pf_00 hP)) dX5_hoursLeft_37 ?_
      refine K_aload_n X 0 dX5_hoursLeft_40 rfl rfl ?_
      refine K_callVP0 X (c_X1_start l D b hsh _ _ _ _ hP hR hI hjl) my_X1_start mv_X1_start wm_X5_206 (sf_fc hsh) rfl ⟨rfl, rfl, Nat.le_of_ble_eq_true rfl, Nat.le_of_ble_eq_true rfl, Nat.le_of_ble_eq_true rfl, Nat.le_of_ble_eq_true rfl⟩ rfl rfl (Nat.le_of_ble_eq_true rfl) dX5_hoursLeft_41 (fun σ41 h41 => ?_)
      obtain ⟨G, rfl, hG⟩ := h41
      refine K_iconst X dX5_hoursLeft_44 cii_0 ?_
      refine K_istore_n X (ls' := [(3, _), (2, _), (0, _), (1, _)]) dX5_hoursLeft_45 rfl (by decide) rfl ?_
      have loop : ∀ i : Nat, i ≤ 100 → ∀ G : Nat → Int32, Fo G N j i → N 9 ≤ (qFI N j i).1 → K pg l e (rM 4 85) s m args below meth c Q D b 4 0 0 sh (wI σ 47 G) 46 [(0, rf b 0), (2, rf b (1 + 7 + π j)), (3, .int (nI i))] [] := by
        refine kup (fun i hi ih => ?_)
        intro G hG h9
        refine K_iload_n X 2 dX5_hoursLeft_46 rfl rfl ?_
        refine K_bipush X dX5_hoursLeft_47 cib_100 ?_
        refine K_icmpN_ge (tgt := 84) X dX5_hoursLeft_49 (by decide) (by omega) (by omega) (fun c49 => ?_) (fun c49 => ?_)
        · refine K_bipush X dX5_hoursLeft_84 cib_100 ?_
          exact K_iret X hQ dX5_hoursLeft_86 (⟨by have hi100 : i = 100 := (by omega); rw [hi100] at h9; unfold aLeft; rw [aOf_s hf, qLf_hit (i := 100) (by omega) h9 (fun z z1 z2 => by omega)] <;> rfl, Fc.mk⟩)
        · refine K_aload_n X 0 dX5_hoursLeft_52 rfl rfl ?_
          refine K_get X 2 kFd5 rfl (by decide) (sf_c hsh) wf_X5_22 rfl (v := rf b (47)) (kv_o (pf_02 hP)) dX5_hoursLeft_53 ?_
          refine K_callVP0 X (c_X1_passHour l D b hsh _ _ _ _ _ hI hjl hG) my_X1_passHour mv_X1_passHour wm_X5_210 (sf_fc hsh) rfl ⟨rfl, rfl, Nat.le_of_ble_eq_true rfl, Nat.le_of_ble_eq_true rfl, Nat.le_of_ble_eq_true rfl, Nat.le_of_ble_eq_true rfl⟩ rfl rfl (Nat.le_of_ble_eq_true rfl) dX5_hoursLeft_56 (fun σ56 h56 => ?_)
          obtain ⟨G, rfl, hG⟩ := h56
          refine K_aload_n X 0 dX5_hoursLeft_59 rfl rfl ?_
          refine K_get X 2 kFd5 rfl (by decide) (sf_c hsh) wf_X5_22 rfl (v := rf b (47)) (kv_o (pf_02 hP)) dX5_hoursLeft_60 ?_
          refine K_get X 0 kFd1 rfl (by decide) (sf_fc hsh) wf_X5_211 rfl (v := .int (nI (qFI N j (i + 1)).1)) (congrArg Value.int ((congrFun wI_self _).trans hG.1)) dX5_hoursLeft_63 ?_
          refine K_aload_n X 0 dX5_hoursLeft_66 rfl rfl ?_
          refine K_get X 0 kFd5 rfl (by decide) (sf_c hsh) wf_X5_10 rfl (v := rf b (1)) (kv_o (pf_00 hP)) dX5_hoursLeft_67 ?_
          refine K_get X 3 kFd4 rfl (by decide) (so_0 hsh 1 ho) wf_X5_65 rfl (v := .int (nI (N 9))) (congrArg Value.int (rs_i (hR.fc h2 Fc.mk) 3 (by decide))) dX5_hoursLeft_70 ?_
          refine K_icmpN_ge (tgt := 78) X dX5_hoursLeft_73 (by decide) (by have := (qFI_le N j (i + 1)).1; have := qi_l3 hI hjl; omega) (by have := qi_9 hI; omega) (fun c73 => ?_) (fun c73 => ?_)
          · refine K_iinc X 2 (ls' := [(3, _), (0, _), (2, _)]) dX5_hoursLeft_78 rfl (inc_1 _) (by decide) rfl ?_
            refine K_goto (tgt := 46) X dX5_hoursLeft_81 (by decide) ?_
            exact K_sub [1, 2, 0] rfl (ih (by omega) G hG (by omega))
          · refine K_iload_n X 2 dX5_hoursLeft_76 rfl rfl ?_
            exact K_iret X hQ dX5_hoursLeft_77 (⟨by unfold aLeft; rw [aOf_s hf, qLf_hit (i := i) (by omega) h9 (fun z z1 z2 => by have := qFI_mono (N := N) (k := j) (show i + 1 ≤ z from z1); omega)] <;> rfl, Fc.mk⟩)
      exact K_sub [2, 1, 0] rfl (loop 0 (Nat.zero_le _) G hG (by show N 9 ≤ qL N j 3; omega))
    · refine K_bipush X dX5_hoursLeft_29 cib_m6 ?_
      exact K_iret X hQ dX5_hoursLeft_31 (⟨by unfold aLeft; rw [aOf_s hf, qLf_none (fun z _ => by have : (qFI N j z).1 ≤ qL N j 3 := qFI_mono (Nat.zero_le z); omega)] <;> rfl, Fc.rf⟩)

set_option maxHeartbeats 4000000 in
set_option maxRecDepth 100000 in
theorem c_X5_bestHour (l : Launch) (D : KD) (b : Nat) {sh : List KSh} (hsh : shP sh) (σ : KS) (π N : Nat → Nat) (x : Int32) (hP : PF σ.2.2) (hR : Rs σ 1 π N) (hI : qIr N) (hU : qU N) (hB : N 10 < 2 ^ 31) : Ct l D b yX5_bestHour cX5_bestHour 7 (some .int) (rM 4 85) 0 0 [rf b 0, .int x] sh σ sh (pS (some (.int (aBest N x))) (fun τ => Fc σ τ)) := by
  have h2 := qi_2 hI
  have ho := s1_in
  have h1 := qi_1 hI
  refine Ct.of (ls := [(0, rf b 0), (1, .int x)]) (by decide) (Nat.le_of_ble_eq_true rfl) rfl ?_
  intro pg e s m args below meth c Q hQ X hnm
  refine K_aload_n X 0 dX5_bestHour_0 rfl rfl ?_
  refine K_get X 0 kFd5 rfl (by decide) (sf_c hsh) wf_X5_10 rfl (v := rf b (1)) (kv_o (pf_00 hP)) dX5_bestHour_1 ?_
  refine K_iload_n X 1 dX5_bestHour_4 rfl rfl ?_
  refine K_callVE X (c_X4_findLot l D b hsh _ _ _ _ _ hP ho hR hI hU hB) my_X4_findLot mv_X4_findLot wm_X5_98 (so_0 hsh 1 ho) rfl ⟨rfl, rfl, Nat.le_of_ble_eq_true rfl, Nat.le_of_ble_eq_true rfl, Nat.le_of_ble_eq_true rfl, Nat.le_of_ble_eq_true rfl⟩ rfl rfl (Nat.le_of_ble_eq_true rfl) dX5_bestHour_5 ?_
  rcases hf : qF N x (N 2) with _ | j
  · refine K_astore_nN X (ls' := [(2, _), (0, _), (1, _)]) dX5_bestHour_8 rfl (by decide) rfl ?_
    refine K_aload_nN X 0 dX5_bestHour_9 rfl rfl ?_
    refine K_ifnonnullN (tgt := 15) X dX5_bestHour_10 (by decide) ?_
    refine K_iconst X dX5_bestHour_13 cii_m1 ?_
    exact K_iret X hQ dX5_bestHour_14 (⟨by rw [show aBest N x = -1 from aOf_n hf] <;> rfl, Fc.rf⟩)
  · have hjl : j < N 2 := qF_lt hf
    refine K_astore_n X (ls' := [(2, _), (0, _), (1, _)]) dX5_bestHour_8 rfl (by decide) rfl ?_
    refine K_aload_n X 0 dX5_bestHour_9 rfl rfl ?_
    refine K_ifnonnull (tgt := 15) X dX5_bestHour_10 (by decide) ?_
    refine K_aload_n X 1 dX5_bestHour_15 rfl rfl ?_
    refine K_get X 0 kFd5 rfl (by decide) (sf_c hsh) wf_X5_10 rfl (v := rf b (1)) (kv_o (pf_00 hP)) dX5_bestHour_16 ?_
    refine K_get X 1 kFd4 rfl (by decide) (so_0 hsh 1 ho) wf_X5_148 rfl (v := .int (nI (N 1))) (congrArg Value.int (rs_i hR 1 (by decide))) dX5_bestHour_19 ?_
    refine K_istore_n X (ls' := [(3, _), (2, _), (0, _), (1, _)]) dX5_bestHour_22 rfl (by decide) rfl ?_
    refine K_iconst X dX5_bestHour_23 cii_m1 ?_
    refine K_istore X (ls' := [(4, _), (3, _), (2, _), (0, _), (1, _)]) dX5_bestHour_24 (by decide) rfl ?_
    refine K_aload_n X 3 dX5_bestHour_26 rfl rfl ?_
    refine K_get X 2 kFd5 rfl (by decide) (sf_c hsh) wf_X5_22 rfl (v := rf b (47)) (kv_o (pf_02 hP)) dX5_bestHour_27 ?_
    refine K_aload_n X 3 dX5_bestHour_30 rfl rfl ?_
    refine K_get X 0 kFd5 rfl (by decide) (sf_c hsh) wf_X5_10 rfl (v := rf b (1)) (kv_o (pf_00 hP)) dX5_bestHour_31 ?_
    refine K_aload_n X 2 dX5_bestHour_34 rfl rfl ?_
    refine K_callVP0 X (c_X1_start l D b hsh _ _ _ _ hP hR hI hjl) my_X1_start mv_X1_start wm_X5_206 (sf_fc hsh) rfl ⟨rfl, rfl, Nat.le_of_ble_eq_true rfl, Nat.le_of_ble_eq_true rfl, Nat.le_of_ble_eq_true rfl, Nat.le_of_ble_eq_true rfl⟩ rfl rfl (Nat.le_of_ble_eq_true rfl) dX5_bestHour_35 (fun σ35 h35 => ?_)
    obtain ⟨G, rfl, hG⟩ := h35
    refine K_aload_n X 3 dX5_bestHour_38 rfl rfl ?_
    refine K_get X 0 kFd5 rfl (by decide) (sf_c hsh) wf_X5_10 rfl (v := rf b (1)) (kv_o (pf_00 hP)) dX5_bestHour_39 ?_
    refine K_get X 1 kFd4 rfl (by decide) (so_0 hsh 1 ho) wf_X5_148 rfl (v := .int (nI (N 1))) (congrArg Value.int (rs_i (hR.fc h2 Fc.mk) 1 (by decide))) dX5_bestHour_42 ?_
    refine K_istore X (ls' := [(5, _), (4, _), (3, _), (2, _), (0, _), (1, _)]) dX5_bestHour_45 (by decide) rfl ?_
    have loop : ∀ i : Nat, i ≤ 11 - N 1 → ∀ G : Nat → Int32, Fo G N j i → K pg l e (rM 4 85) s m args below meth c Q D b 7 0 0 sh (wI σ 47 G) 47 [(0, rf b 0), (2, rf b (1 + 7 + π j)), (3, .int (qBh N (qBs N j i))), (4, .int (qBm (qBs N j i))), (5, .int (nI (N 1 + i)))] [] := by
      refine kup (fun i hi ih => ?_)
      intro G hG 
      refine K_iload X 4 dX5_bestHour_47 rfl ?_
      refine K_bipush X dX5_bestHour_49 cib_10 ?_
      refine K_icmpN_gt (tgt := 110) X dX5_bestHour_51 (by decide) (by omega) (by omega) (fun c51 => ?_) (fun c51 => ?_)
      · refine K_iload_n X 2 dX5_bestHour_110 rfl rfl ?_
        exact K_iret X hQ dX5_bestHour_111 (⟨by unfold aBest; rw [aOf_s hf]; obtain ⟨i, rfl⟩ : ∃ z, i = z + 1 := ⟨i - 1, by omega⟩; obtain ⟨q, hq⟩ := qBs_some (N := N) (k := j) (j := i); rw [← show i + 1 = 11 - N 1 from by omega, hq] <;> rfl, Fc.mk⟩)
      · refine K_aload_n X 1 dX5_bestHour_54 rfl rfl ?_
        refine K_get X 2 kFd3 rfl (by decide) (so_l hsh ho (rs_lt hR (by omega))) wf_X5_127 rfl (v := .int (nI (qL N j 2))) (congrArg Value.int (rs_l (hR.fc h2 Fc.mk) hjl 2 (by decide))) dX5_bestHour_55 ?_
        refine K_aload_n X 0 dX5_bestHour_58 rfl rfl ?_
        refine K_get X 0 kFd5 rfl (by decide) (sf_c hsh) wf_X5_10 rfl (v := rf b (1)) (kv_o (pf_00 hP)) dX5_bestHour_59 ?_
        refine K_aload_n X 1 dX5_bestHour_62 rfl rfl ?_
        refine K_get X 1 kFd3 rfl (by decide) (so_l hsh ho (rs_lt hR (by omega))) wf_X5_130 rfl (v := .int (nI (qL N j 1))) (congrArg Value.int (rs_l (hR.fc h2 Fc.mk) hjl 1 (by decide))) dX5_bestHour_63 ?_
        refine K_aload_n X 0 dX5_bestHour_66 rfl rfl ?_
        refine K_get X 2 kFd5 rfl (by decide) (sf_c hsh) wf_X5_22 rfl (v := rf b (47)) (kv_o (pf_02 hP)) dX5_bestHour_67 ?_
        refine K_get X 0 kFd1 rfl (by decide) (sf_fc hsh) wf_X5_211 rfl (v := .int (nI (qFI N j i).1)) (congrArg Value.int ((congrFun wI_self _).trans hG.1)) dX5_bestHour_70 ?_
        refine K_iload X 4 dX5_bestHour_73 rfl ?_
        refine K_callVE X (c_X4_priceAt l D b hsh _ _ _ _ _ _ _ (show PF (wI _ _ _).2.2 from hP) ho (hR.fc h2 Fc.mk) hI (qi_l1 hI hjl) (Nat.le_trans (qFI_le N j i).1 (qi_l3 hI hjl)) (by omega)) my_X4_priceAt mv_X4_priceAt wm_X5_212 (so_0 hsh 1 ho) rfl ⟨rfl, rfl, Nat.le_of_ble_eq_true rfl, Nat.le_of_ble_eq_true rfl, Nat.le_of_ble_eq_true rfl, Nat.le_of_ble_eq_true rfl⟩ rfl rfl (Nat.le_of_ble_eq_true rfl) dX5_bestHour_75 ?_
        refine K_callSE X (c_X5_moneyFor l D b hsh _ _ _ (qW_b (qi_l2 hI hjl) (qPr_le (qi_p hI (qi_l1 hI hjl)) (Nat.le_trans (qFI_le N j i).1 (qi_l3 hI hjl))))) my_X5_moneyFor wt_X5_moneyFor wm_X5_188 ⟨rfl, rfl, Nat.le_of_ble_eq_true rfl, Nat.le_of_ble_eq_true rfl, Nat.le_of_ble_eq_true rfl, Nat.le_of_ble_eq_true rfl⟩ rfl rfl (Nat.le_of_ble_eq_true rfl) dX5_bestHour_78 ?_
        refine K_istore X (ls' := [(6, _), (0, _), (2, _), (3, _), (4, _), (5, _)]) dX5_bestHour_81 (by decide) rfl ?_
        refine K_iload X 0 dX5_bestHour_83 rfl ?_
        refine K_iload X 4 dX5_bestHour_85 rfl ?_
        refine K_icmp_le (tgt := 97) X dX5_bestHour_87 (by decide) (fun c87 => ?_) (fun c87 => ?_)
        · refine K_aload_n X 1 dX5_bestHour_97 rfl rfl ?_
          refine K_get X 2 kFd5 rfl (by decide) (sf_c hsh) wf_X5_22 rfl (v := rf b (47)) (kv_o (pf_02 hP)) dX5_bestHour_98 ?_
          refine K_callVP0 X (c_X1_passHour l D b hsh _ _ _ _ _ hI hjl hG) my_X1_passHour mv_X1_passHour wm_X5_210 (sf_fc hsh) rfl ⟨rfl, rfl, Nat.le_of_ble_eq_true rfl, Nat.le_of_ble_eq_true rfl, Nat.le_of_ble_eq_true rfl, Nat.le_of_ble_eq_true rfl⟩ rfl rfl (Nat.le_of_ble_eq_true rfl) dX5_bestHour_101 (fun σ101 h101 => ?_)
          obtain ⟨G, rfl, hG⟩ := h101
          refine K_iinc X 5 (ls' := [(5, _), (6, _), (0, _), (2, _), (3, _), (4, _)]) dX5_bestHour_104 rfl (inc_1 _) (by decide) rfl ?_
          refine K_goto (tgt := 47) X dX5_bestHour_107 (by decide) ?_
          have hb : qBs N j (i + 1) = qBs N j i := qBn_le (w := qWat N j i) (by have : qWat N j i ≤ 199980 := qW_le (qi_l2 hI hjl) (qPr_le (qi_p hI (qi_l1 hI hjl)) (Nat.le_trans (qFI_le N j i).1 (qi_l3 hI hjl))); omega) (fun q hq => by have := (qBs_b hI hjl hq).1; omega) c87
          rw [hb] at ih
          exact K_sub [2, 3, 4, 5, 0] rfl (ih (by omega) G hG)
        · refine K_iload X 0 dX5_bestHour_90 rfl ?_
          refine K_istore X (ls' := [(4, _), (6, _), (0, _), (2, _), (3, _), (5, _)]) dX5_bestHour_92 (by decide) rfl ?_
          refine K_iload X 5 dX5_bestHour_94 rfl ?_
          refine K_istore_n X (ls' := [(3, _), (4, _), (6, _), (0, _), (2, _), (5, _)]) dX5_bestHour_96 rfl (by decide) rfl ?_
          refine K_aload_n X 3 dX5_bestHour_97 rfl rfl ?_
          refine K_get X 2 kFd5 rfl (by decide) (sf_c hsh) wf_X5_22 rfl (v := rf b (47)) (kv_o (pf_02 hP)) dX5_bestHour_98 ?_
          refine K_callVP0 X (c_X1_passHour l D b hsh _ _ _ _ _ hI hjl hG) my_X1_passHour mv_X1_passHour wm_X5_210 (sf_fc hsh) rfl ⟨rfl, rfl, Nat.le_of_ble_eq_true rfl, Nat.le_of_ble_eq_true rfl, Nat.le_of_ble_eq_true rfl, Nat.le_of_ble_eq_true rfl⟩ rfl rfl (Nat.le_of_ble_eq_true rfl) dX5_bestHour_101 (fun σ101 h101 => ?_)
          obtain ⟨G, rfl, hG⟩ := h101
          refine K_iinc X 5 (ls' := [(5, _), (3, _), (4, _), (6, _), (0, _), (2, _)]) dX5_bestHour_104 rfl (inc_1 _) (by decide) rfl ?_
          refine K_goto (tgt := 47) X dX5_bestHour_107 (by decide) ?_
          have hb : qBs N j (i + 1) = some (N 1 + i, qWat N j i) := qBn_gt (w := qWat N j i) (by have : qWat N j i ≤ 199980 := qW_le (qi_l2 hI hjl) (qPr_le (qi_p hI (qi_l1 hI hjl)) (Nat.le_trans (qFI_le N j i).1 (qi_l3 hI hjl))); omega) (fun q hq => by have := (qBs_b hI hjl hq).1; omega) c87
          rw [hb] at ih
          exact K_sub [4, 5, 1, 2, 0] rfl (ih (by omega) G hG)
    exact K_sub [4, 3, 2, 1, 0] rfl (loop 0 (Nat.zero_le _) G hG)
