/-! THE CLASS: history, forecast -/
set_option maxHeartbeats 4000000 in
set_option maxRecDepth 100000 in
theorem c_X2_save (l : Launch) (D : KD) (b : Nat) {sh : List KSh} (hsh : shP sh) (σ : KS) (N : Nat → Nat) (r : Nat) (hs : Nat → Nat → Nat) (π : Nat → Nat) (hP : PF σ.2.2) (hR : Rs σ 1 π N) (h16 : N 2 ≤ 16) (hH : Hs σ r hs) : Ct l D b yX2_save cX2_save 2 none (rM 2 48) 0 0 [rf b 48, rf b 1] sh σ sh (pS none (fun τ => Hs τ (qRr r + 1) (hsN hs r N) ∧ Fh σ τ)) := by
  obtain ⟨nx, h1, h2, h3, h4, h5, h6⟩ := hH
  obtain ⟨ρ0, hp0⟩ := h5 nx h1
  refine Ct.of (ls := [(0, rf b 48), (1, rf b 1)]) (by decide) (Nat.le_of_ble_eq_true rfl) rfl ?_
  intro pg e s m args below meth c Q hQ X hnm
  refine K_aload_n X 0 dX2_save_0 rfl rfl ?_
  refine K_get X 2 kFd2 rfl (by decide) (sf_h hsh) wf_X2_11 rfl (v := rf b (49)) (kv_a (pf_h hP)) dX2_save_1 ?_
  refine K_aload_n X 0 dX2_save_4 rfl rfl ?_
  refine K_get X 1 kFd2 rfl (by decide) (sf_h hsh) wf_X2_18 rfl (v := .int (nI nx)) (congrArg Value.int (h4)) dX2_save_5 ?_
  refine K_aald (z := 50 + 23 * nx) X _ (sf_hs hsh) (by decide) rfl (by omega) (by decide) (pf_hs hP (by omega)) dX2_save_8 ?_
  refine K_aload_n X 1 dX2_save_9 rfl rfl ?_
  refine K_callVP0 X (c_X4_copyFrom l D b hsh _ _ 1 _ _ _ hP (sv_in nx h1) s1_in (by omega) hp0 hR h16) my_X4_copyFrom mv_X4_copyFrom wm_X2_22 (so_0 hsh (50 + 23 * nx) (sv_in nx h1)) rfl ⟨rfl, rfl, Nat.le_of_ble_eq_true rfl, Nat.le_of_ble_eq_true rfl, Nat.le_of_ble_eq_true rfl, Nat.le_of_ble_eq_true rfl⟩ rfl rfl (Nat.le_of_ble_eq_true rfl) dX2_save_10 (fun σ10 h10 => ?_)
  have h3b := (h10.2.1 48 (by omega)).1
  have hP1 := h10.2.PF (sv_in nx h1) hP
  refine K_aload_n X 0 dX2_save_13 rfl rfl ?_
  refine K_aload_n X 0 dX2_save_14 rfl rfl ?_
  refine K_get X 1 kFd2 rfl (by decide) (sf_h hsh) wf_X2_18 rfl (v := .int (nI nx)) (congrArg Value.int ((congrFun h3b 1).trans h4)) dX2_save_15 ?_
  refine K_iconst X dX2_save_18 cii_1 ?_
  refine K_iaddN X dX2_save_19 ?_
  refine K_bipush X dX2_save_20 cib_6 ?_
  refine K_iremN X dX2_save_22 (by omega) (by decide) (by decide) ?_
  refine K_putI X 1 kFd2 rfl (by decide) (sf_h hsh) wf_X2_18 rfl rfl rfl dX2_save_23 ?_
  refine K_aload_n X 0 dX2_save_26 rfl rfl ?_
  refine K_bipush X dX2_save_27 cib_6 ?_
  refine K_aload_n X 0 dX2_save_29 rfl rfl ?_
  refine K_get X 0 kFd2 rfl (by decide) (sf_h hsh) wf_X2_26 rfl (v := .int (nI r)) (congrArg Value.int ((congrFun wI_self 0).trans ((if_neg (by decide)).trans ((congrFun h3b 0).trans h3)))) dX2_save_30 ?_
  refine K_iconst X dX2_save_33 cii_1 ?_
  refine K_iaddN X dX2_save_34 ?_
  refine K_min X wm_X2_29 wt_min wn_Math wc_min ⟨Nat.le_of_ble_eq_true rfl, Nat.le_of_ble_eq_true rfl, Nat.le_of_ble_eq_true rfl, Nat.le_of_ble_eq_true rfl⟩ dX2_save_35 ?_
  rw [kMin (by omega) (by omega)]
  refine K_putI X 0 kFd2 rfl (by decide) (sf_h hsh) wf_X2_26 rfl rfl rfl dX2_save_38 ?_
  refine K_st (wI_upd rfl) ?_
  exact K_vret X hQ dX2_save_41 (⟨rfl, Hs.save h1 h2 h5 h6 h16 h10 (by show nI _ = _; unfold qRr; congr 1; split <;> split <;> omega) rfl, hP1, fun x hx => ⟨(wI_ne (by omega)).trans (h10.2.1 x (by omega)).1, (h10.2.1 x (by omega)).2, h10.2.2 x (by omega)⟩⟩)

theorem rs_end {σ τ : KS} {r nx : Nat} {hs : Nat → Nat → Nat} {F : Nat → Int32} (h0 : r ≠ 0) (h1 : nx < 6) (h2 : r ≤ 6) (h5 : ∀ i, i < 6 → ∃ ρ, Rp σ (50 + 23 * i) ρ) (h6 : ∀ j, j < r → hs j 2 ≤ 16 ∧ ∃ ρ, Rs σ (50 + 23 * ((nx + 6 - r + j) % 6)) ρ (hs j)) (k : SP (wI σ 48 F) τ 1 (hs (r - 1))) {x : Int32} (e : x = nI (r - 1)) (f1 : τ.1 48 1 = nI ((nx + 6 - 1) % 6)) : Hs (wI τ 48 (upd (τ.1 48) 0 x)) (r - 1) hs ∧ ∃ υ : KS, SP υ (wI τ 48 (upd (τ.1 48) 0 x)) 1 (hs (r - 1)) ∧ υ.2.2 = σ.2.2 ∧ ∀ y, y ≠ 48 → υ.1 y = σ.1 y := by
  subst e
  obtain ⟨⟨π, kR⟩, kF⟩ := k
  have hm := (h6 (r - 1) (by omega)).1
  have kR' : Rs (wI τ 48 (upd (τ.1 48) 0 (nI (r - 1)))) 1 π (hs (r - 1)) := kR.of hm (fun x hx hy => wI_ne (by omega)) rfl rfl
  refine ⟨⟨(nx + 6 - 1) % 6, Nat.mod_lt _ (by decide), by omega, by rw [wI_self]; rfl, by rw [wI_self]; exact f1, fun i hi => ?_, fun j hj => ?_⟩, ?_⟩
  · obtain ⟨ρ, hp⟩ := h5 i hi
    exact ⟨ρ, hp.of (kF.2 _ (by omega))⟩
  · obtain ⟨a, ρ, hp⟩ := h6 j (by omega)
    refine ⟨a, ρ, ?_⟩
    rw [show ((nx + 6 - 1) % 6 + 6 - (r - 1) + j) % 6 = (nx + 6 - r + j) % 6 from by omega]
    have hw : (nx + 6 - r + j) % 6 < 6 := Nat.mod_lt _ (by decide)
    refine hp.of a (fun x hx hy => ?_) ?_ ?_
    · rw [wI_ne (by omega), (kF.1 x (by omega)).1, wI_ne (by omega)]
    · exact (kF.1 _ (by omega)).2
    · exact kF.2 _ (by omega)
  · refine ⟨wI σ 48 (upd (τ.1 48) 0 (nI (r - 1))), ⟨⟨π, kR'⟩, fun x hx => ?_, fun x hx => kF.2 x hx⟩, rfl, fun y hy => wI_ne hy⟩
    by_cases q : x = 48
    · rw [q, wI_self, wI_self]; exact ⟨rfl, (kF.1 48 (by omega)).2⟩
    · rw [wI_ne q, wI_ne q]
      have := kF.1 x hx
      rw [wI_ne q] at this
      exact this

set_option maxHeartbeats 4000000 in
set_option maxRecDepth 100000 in
theorem c_X1_start (l : Launch) (D : KD) (b : Nat) {sh : List KSh} (hsh : shP sh) (σ : KS) (π N : Nat → Nat) (k : Nat) (hP : PF σ.2.2) (hR : Rs σ 1 π N) (hI : qIr N) (hk : k < N 2) : Ct l D b yX1_start cX1_start 3 none (rM 3 63) 0 0 [rf b 47, rf b 1, rf b (1 + 7 + π k)] sh σ sh (pS none (fun τ => ∃ G, τ = wI σ 47 G ∧ Fo G N k 0)) := by
  have h2 := qi_2 hI
  have ho := s1_in
  refine Ct.of (ls := [(0, rf b 47), (1, rf b 1), (2, rf b (1 + 7 + π k))]) (by decide) (Nat.le_of_ble_eq_true rfl) rfl ?_
  intro pg e s m args below meth c Q hQ X hnm
  refine K_aload_n X 0 dX1_start_0 rfl rfl ?_
  refine K_aload_n X 2 dX1_start_1 rfl rfl ?_
  refine K_get X 3 kFd3 rfl (by decide) (so_l hsh ho (rs_lt hR (by omega))) wf_X1_7 rfl (v := .int (nI (qL N k 3))) (congrArg Value.int (rs_l hR hk 3 (by decide))) dX1_start_2 ?_
  refine K_putI X 0 kFd1 rfl (by decide) (sf_fc hsh) wf_X1_13 rfl rfl rfl dX1_start_5 ?_
  refine K_aload_n X 0 dX1_start_8 rfl rfl ?_
  refine K_aload_n X 1 dX1_start_9 rfl rfl ?_
  refine K_aload_n X 2 dX1_start_10 rfl rfl ?_
  refine K_callVE X (c_X4_iceAt l D b hsh _ _ _ _ _ (show PF (wI _ _ _).2.2 from hP) ho (hR.fc h2 Fc.mk) hI hk) my_X4_iceAt mv_X4_iceAt wm_X1_16 (so_0 hsh 1 ho) rfl ⟨rfl, rfl, Nat.le_of_ble_eq_true rfl, Nat.le_of_ble_eq_true rfl, Nat.le_of_ble_eq_true rfl, Nat.le_of_ble_eq_true rfl⟩ rfl rfl (Nat.le_of_ble_eq_true rfl) dX1_start_11 ?_
  refine K_putI X 1 kFd1 rfl (by decide) (sf_fc hsh) wf_X1_22 rfl rfl rfl dX1_start_14 ?_
  refine K_st (wI_upd rfl) ?_
  refine K_aload_n X 0 dX1_start_17 rfl rfl ?_
  refine K_aload_n X 1 dX1_start_18 rfl rfl ?_
  refine K_get X 2 kFd4 rfl (by decide) (so_0 hsh 1 ho) wf_X1_25 rfl (v := .int (nI (N 8))) (congrArg Value.int (rs_i (hR.fc h2 Fc.mk) 2 (by decide))) dX1_start_19 ?_
  refine K_putI X 2 kFd1 rfl (by decide) (sf_fc hsh) wf_X1_28 rfl rfl rfl dX1_start_22 ?_
  refine K_st (wI_upd rfl) ?_
  refine K_aload_n X 0 dX1_start_25 rfl rfl ?_
  refine K_aload_n X 2 dX1_start_26 rfl rfl ?_
  refine K_callVE X (c_X3_isOnTray l D b hsh _ _ _ (so_l hsh ho (rs_lt hR (by omega))) (rs_l5 (hR.fc h2 Fc.mk) hk)) my_X3_isOnTray mv_X3_isOnTray wm_X1_29 (so_l hsh ho (rs_lt hR (by omega))) rfl ⟨rfl, rfl, Nat.le_of_ble_eq_true rfl, Nat.le_of_ble_eq_true rfl, Nat.le_of_ble_eq_true rfl, Nat.le_of_ble_eq_true rfl⟩ rfl rfl (Nat.le_of_ble_eq_true rfl) dX1_start_27 ?_
  rw [kTr (by have := qi_l4 hI hk; omega)]
  refine K_putB X 3 kFd1 rfl (by decide) (sf_fc hsh) wf_X1_33 rfl rfl rfl dX1_start_30 ?_
  refine K_st (wI_upd rfl) ?_
  exact K_vret X hQ dX1_start_33 (⟨rfl, _, rfl, rfl, rfl, rfl, rfl⟩)

set_option maxHeartbeats 4000000 in
set_option maxRecDepth 100000 in
theorem c_X1_passHour (l : Launch) (D : KD) (b : Nat) {sh : List KSh} (hsh : shP sh) (σ : KS) (N : Nat → Nat) (G : Nat → Int32) (k h : Nat) (hI : qIr N) (hk : k < N 2) (hG : Fo G N k h) : Ct l D b yX1_passHour cX1_passHour 1 none (rM 2 44) 0 0 [rf b 47] sh (wI σ 47 G) sh (pS none (fun τ => ∃ G', τ = wI σ 47 G' ∧ Fo G' N k (h + 1))) := by
  obtain ⟨g0, g1, g2, g3⟩ := hG
  refine Ct.of (ls := [(0, rf b 47)]) (by decide) (Nat.le_of_ble_eq_true rfl) rfl ?_
  intro pg e s m args below meth c Q hQ X hnm
  refine K_aload_n X 0 dX1_passHour_0 rfl rfl ?_
  refine K_aload_n X 0 dX1_passHour_1 rfl rfl ?_
  refine K_get X 0 kFd1 rfl (by decide) (sf_fc hsh) wf_X1_13 rfl (v := .int (nI (qFI N k h).1)) (congrArg Value.int ((congrFun wI_self _).trans g0)) dX1_passHour_2 ?_
  refine K_aload_n X 0 dX1_passHour_5 rfl rfl ?_
  refine K_get X 3 kFd1 rfl (by decide) (sf_fc hsh) wf_X1_33 rfl (v := .int (kB (qTray (qL N k 4)))) (congrArg Value.int ((congrFun wI_self _).trans g3)) dX1_passHour_6 ?_
  refine K_aload_n X 0 dX1_passHour_9 rfl rfl ?_
  refine K_get X 1 kFd1 rfl (by decide) (sf_fc hsh) wf_X1_22 rfl (v := .int (nI (qFI N k h).2)) (congrArg Value.int ((congrFun wI_self _).trans g1)) dX1_passHour_10 ?_
  refine K_callSNE (host := RX5) X (c_X5_freshAnHourLater l D b hsh _ _ _ _ (by have := (qFI_le N k h).1; have := qi_l3 hI hk; omega) (by have := (qFI_le N k h).2; have := qi_i hI (qi_l4 hI hk); omega)) my_X5_freshAnHourLater wt_X5_freshAnHourLater (by decide +kernel) ⟨rfl, rfl, Nat.le_of_ble_eq_true rfl, Nat.le_of_ble_eq_true rfl, Nat.le_of_ble_eq_true rfl, Nat.le_of_ble_eq_true rfl⟩ rfl rfl (Nat.le_of_ble_eq_true rfl) dX1_passHour_13 ?_
  refine K_putI X 0 kFd1 rfl (by decide) (sf_fc hsh) wf_X1_13 rfl rfl rfl dX1_passHour_16 ?_
  refine K_st (wI_upd rfl) ?_
  refine K_aload_n X 0 dX1_passHour_19 rfl rfl ?_
  refine K_aload_n X 0 dX1_passHour_20 rfl rfl ?_
  refine K_get X 1 kFd1 rfl (by decide) (sf_fc hsh) wf_X1_22 rfl (v := .int (nI (qFI N k h).2)) (congrArg Value.int ((congrFun wI_self _).trans ((if_neg (by decide)).trans g1))) dX1_passHour_21 ?_
  refine K_aload_n X 0 dX1_passHour_24 rfl rfl ?_
  refine K_get X 3 kFd1 rfl (by decide) (sf_fc hsh) wf_X1_33 rfl (v := .int (kB (qTray (qL N k 4)))) (congrArg Value.int ((congrFun wI_self _).trans ((if_neg (by decide)).trans g3))) dX1_passHour_25 ?_
  refine K_aload_n X 0 dX1_passHour_28 rfl rfl ?_
  refine K_get X 2 kFd1 rfl (by decide) (sf_fc hsh) wf_X1_28 rfl (v := .int (nI (N 8))) (congrArg Value.int ((congrFun wI_self _).trans ((if_neg (by decide)).trans g2))) dX1_passHour_29 ?_
  refine K_callSNE (host := RX5) X (c_X5_iceAnHourLater l D b hsh _ _ _ _ (by have := (qFI_le N k h).2; have := qi_i hI (qi_l4 hI hk); omega) (qi_8 hI)) my_X5_iceAnHourLater wt_X5_iceAnHourLater (by decide +kernel) ⟨rfl, rfl, Nat.le_of_ble_eq_true rfl, Nat.le_of_ble_eq_true rfl, Nat.le_of_ble_eq_true rfl, Nat.le_of_ble_eq_true rfl⟩ rfl rfl (Nat.le_of_ble_eq_true rfl) dX1_passHour_32 ?_
  refine K_putI X 1 kFd1 rfl (by decide) (sf_fc hsh) wf_X1_22 rfl rfl rfl dX1_passHour_35 ?_
  refine K_st (wI_upd rfl) ?_
  exact K_vret X hQ dX1_passHour_38 (⟨rfl, _, rfl, rfl, rfl, g2, g3⟩)
