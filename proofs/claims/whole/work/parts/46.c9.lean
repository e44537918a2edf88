/-! THE CLASS: reading its text -/
set_option maxHeartbeats 4000000 in
set_option maxRecDepth 100000 in
theorem c_X0_digitHere (l : Launch) (D : KD) (b : Nat) (σ : KS) (F : Nat → Int32) (T : Nat → Nat) (n p : Nat) (hP : PF σ.2.2) (hn : n ≤ 80) (h0 : F 0 = nI n) (hT : ∀ j, j < n → T j < 128) (hR : ∀ j, j < n → σ.1 189 j = nI (T j)) (h5 : F 5 = nI p) (hp : p ≤ n) : Ct l D b yX0_digitHere cX0_digitHere 2 (some .int) (rM 0 0) 0 0 [rf b 188] shF (wI σ 188 F) shF (pE (some (.int (qO (xDig T n p)))) (wI σ 188 F)) := by
  refine Ct.of (ls := [(0, rf b 188)]) (by decide) (Nat.le_of_ble_eq_true rfl) rfl ?_
  intro pg e s m args below meth c Q hQ X hnm
  refine K_aload_n X 0 dX0_digitHere_0 rfl rfl ?_
  refine K_get X 5 kFd0 rfl (by decide) sf_t wf_X0_26 rfl (v := .int (nI p)) (congrArg Value.int ((congrFun wI_self 5).trans h5)) dX0_digitHere_1 ?_
  refine K_aload_n X 0 dX0_digitHere_4 rfl rfl ?_
  refine K_get X 0 kFd0 rfl (by decide) sf_t wf_X0_15 rfl (v := .int (nI n)) (congrArg Value.int ((congrFun wI_self 0).trans h0)) dX0_digitHere_5 ?_
  refine K_icmpN_lt (tgt := 14) X dX0_digitHere_8 (by decide) (by omega) (by omega) (fun c8 => ?_) (fun c8 => ?_)
  · refine K_aload_n X 0 dX0_digitHere_14 rfl rfl ?_
    refine K_get X 6 kFd0 rfl (by decide) sf_t wf_X0_9 rfl (v := rf b (189)) (kv_a (pf_t hP)) dX0_digitHere_15 ?_
    refine K_aload_n X 0 dX0_digitHere_18 rfl rfl ?_
    refine K_get X 5 kFd0 rfl (by decide) sf_t wf_X0_26 rfl (v := .int (nI p)) (congrArg Value.int ((congrFun wI_self 5).trans h5)) dX0_digitHere_19 ?_
    refine K_cald X _ sf_ts rfl (by omega) (by decide) ((congrFun (wI_ne (by decide)) _).trans (hR _ (by omega))) dX0_digitHere_22 ?_
    refine K_istore_n X (ls' := [(1, _), (0, _)]) dX0_digitHere_23 rfl (by decide) rfl ?_
    refine K_iload_n X 0 dX0_digitHere_24 rfl rfl ?_
    refine K_bipush X dX0_digitHere_25 cib_48 ?_
    refine K_icmpN_lt (tgt := 43) X dX0_digitHere_27 (by decide) (by have := hT p (by omega); omega) (by omega) (fun c27 => ?_) (fun c27 => ?_)
    · refine K_bipush X dX0_digitHere_43 cib_m6 ?_
      exact K_iret X hQ dX0_digitHere_45 (⟨by rw [show xDig T n p = none from if_neg (by omega)]; rfl, rfl⟩)
    · refine K_iload_n X 0 dX0_digitHere_30 rfl rfl ?_
      refine K_bipush X dX0_digitHere_31 cib_57 ?_
      refine K_icmpN_gt (tgt := 43) X dX0_digitHere_33 (by decide) (by have := hT p (by omega); omega) (by omega) (fun c33 => ?_) (fun c33 => ?_)
      · refine K_bipush X dX0_digitHere_43 cib_m6 ?_
        exact K_iret X hQ dX0_digitHere_45 (⟨by rw [show xDig T n p = none from if_neg (by omega)]; rfl, rfl⟩)
      · refine K_iload_n X 0 dX0_digitHere_36 rfl rfl ?_
        refine K_bipush X dX0_digitHere_37 cib_48 ?_
        refine K_isubN X dX0_digitHere_39 (by omega) ?_
        refine K_goto (tgt := 45) X dX0_digitHere_40 (by decide) ?_
        exact K_iret X hQ dX0_digitHere_45 (⟨by rw [show xDig T n p = some (T p - 48) from if_pos ⟨by omega, by omega, by omega⟩]; rfl, rfl⟩)
  · refine K_bipush X dX0_digitHere_11 cib_m6 ?_
    exact K_iret X hQ dX0_digitHere_13 (⟨by rw [xDig_ge (by omega)]; rfl, rfl⟩)

set_option maxHeartbeats 4000000 in
set_option maxRecDepth 100000 in
theorem c_X0_skipSign (l : Launch) (D : KD) (b : Nat) (σ : KS) (F : Nat → Int32) (T : Nat → Nat) (n p : Nat) (q : Nat) (hP : PF σ.2.2) (hn : n ≤ 80) (h0 : F 0 = nI n) (hT : ∀ j, j < n → T j < 128) (hR : ∀ j, j < n → σ.1 189 j = nI (T j)) (h5 : F 5 = nI p) (hp : p ≤ n) (hq : q < 128) : Ct l D b yX0_skipSign cX0_skipSign 2 (some .boolean) (rM 0 0) 0 0 [rf b 188, .int (nI q)] shF (wI σ 188 F) shF (pE (some (.int (kB (xIs T n q p)))) (wI σ 188 (upd F 5 (nI (p + (if xIs T n q p = true then 1 else 0)))))) := by
  refine Ct.of (ls := [(0, rf b 188), (1, .int (nI q))]) (by decide) (Nat.le_of_ble_eq_true rfl) rfl ?_
  intro pg e s m args below meth c Q hQ X hnm
  refine K_aload_n X 0 dX0_skipSign_0 rfl rfl ?_
  refine K_get X 5 kFd0 rfl (by decide) sf_t wf_X0_26 rfl (v := .int (nI p)) (congrArg Value.int ((congrFun wI_self 5).trans h5)) dX0_skipSign_1 ?_
  refine K_aload_n X 0 dX0_skipSign_4 rfl rfl ?_
  refine K_get X 0 kFd0 rfl (by decide) sf_t wf_X0_15 rfl (v := .int (nI n)) (congrArg Value.int ((congrFun wI_self 0).trans h0)) dX0_skipSign_5 ?_
  refine K_icmpN_ge (tgt := 24) X dX0_skipSign_8 (by decide) (by omega) (by omega) (fun c8 => ?_) (fun c8 => ?_)
  · refine K_iconst X dX0_skipSign_24 cii_0 ?_
    exact K_zret X false rfl hQ dX0_skipSign_25 (⟨by rw [xIs_f1 (by omega)] <;> rfl, by rw [xIs_f1 (by omega)]; exact congrArg (wI σ 188) (upd_id (by rw [if_neg (by decide)]; exact h5)).symm⟩)
  · refine K_aload_n X 0 dX0_skipSign_11 rfl rfl ?_
    refine K_get X 6 kFd0 rfl (by decide) sf_t wf_X0_9 rfl (v := rf b (189)) (kv_a (pf_t hP)) dX0_skipSign_12 ?_
    refine K_aload_n X 0 dX0_skipSign_15 rfl rfl ?_
    refine K_get X 5 kFd0 rfl (by decide) sf_t wf_X0_26 rfl (v := .int (nI p)) (congrArg Value.int ((congrFun wI_self 5).trans h5)) dX0_skipSign_16 ?_
    refine K_cald X _ sf_ts rfl (by omega) (by decide) ((congrFun (wI_ne (by decide)) _).trans (hR _ (by omega))) dX0_skipSign_19 ?_
    refine K_iload_n X 1 dX0_skipSign_20 rfl rfl ?_
    refine K_icmpN_eq (tgt := 26) X dX0_skipSign_21 (by decide) (by have := hT p (by omega); omega) (by omega) (fun c21 => ?_) (fun c21 => ?_)
    · refine K_aload_n X 0 dX0_skipSign_26 rfl rfl ?_
      refine K_dup X dX0_skipSign_27 rfl ?_
      refine K_get X 5 kFd0 rfl (by decide) sf_t wf_X0_26 rfl (v := .int (nI p)) (congrArg Value.int ((congrFun wI_self 5).trans h5)) dX0_skipSign_28 ?_
      refine K_iconst X dX0_skipSign_31 cii_1 ?_
      refine K_iaddN X dX0_skipSign_32 ?_
      refine K_putI X 5 kFd0 rfl (by decide) sf_t wf_X0_26 rfl rfl rfl dX0_skipSign_33 ?_
      refine K_st (wI_upd rfl) ?_
      refine K_iconst X dX0_skipSign_36 cii_1 ?_
      exact K_zret X true rfl hQ dX0_skipSign_37 (⟨by rw [xIs_t (by omega) (by omega)] <;> rfl, by rw [xIs_t (by omega) (by omega)] <;> rfl⟩)
    · refine K_iconst X dX0_skipSign_24 cii_0 ?_
      exact K_zret X false rfl hQ dX0_skipSign_25 (⟨by rw [xIs_f2 (by omega)] <;> rfl, by rw [xIs_f2 (by omega)]; exact congrArg (wI σ 188) (upd_id (by rw [if_neg (by decide)]; exact h5)).symm⟩)

set_option maxHeartbeats 4000000 in
set_option maxRecDepth 100000 in
theorem c_X0_append (l : Launch) (D : KD) (b : Nat) (σ : KS) (F : Nat → Int32) (n : Nat) (x y : Int32) (hP : PF σ.2.2) (hn : n < 80) (h0 : F 0 = nI n) (hx : narrow .char (.int x) = .int y) : Ct l D b yX0_append cX0_append 2 none (rM 0 0) 0 0 [rf b 188, .int x] shF (wI σ 188 F) shF (pE none (wI (wI σ 189 (upd (σ.1 189) n y)) 188 (upd F 0 (nI (n + 1))))) := by
  refine Ct.of (ls := [(0, rf b 188), (1, .int x)]) (by decide) (Nat.le_of_ble_eq_true rfl) rfl ?_
  intro pg e s m args below meth c Q hQ X hnm
  refine K_aload_n X 0 dX0_append_0 rfl rfl ?_
  refine K_get X 6 kFd0 rfl (by decide) sf_t wf_X0_9 rfl (v := rf b (189)) (kv_a (pf_t hP)) dX0_append_1 ?_
  refine K_aload_n X 0 dX0_append_4 rfl rfl ?_
  refine K_get X 0 kFd0 rfl (by decide) sf_t wf_X0_15 rfl (v := .int (nI n)) (congrArg Value.int ((congrFun wI_self 0).trans h0)) dX0_append_5 ?_
  refine K_iload_n X 1 dX0_append_8 rfl rfl ?_
  refine K_cast X _ sf_ts rfl (by omega) (by decide) hx dX0_append_9 ?_
  refine K_st (σ' := wI (wI σ 189 (upd (σ.1 189) n y)) 188 F) (by rw [wI_ne (by decide), wI_comm (by decide)]) ?_
  refine K_aload_n X 0 dX0_append_10 rfl rfl ?_
  refine K_dup X dX0_append_11 rfl ?_
  refine K_get X 0 kFd0 rfl (by decide) sf_t wf_X0_15 rfl (v := .int (nI n)) (congrArg Value.int ((congrFun wI_self 0).trans h0)) dX0_append_12 ?_
  refine K_iconst X dX0_append_15 cii_1 ?_
  refine K_iaddN X dX0_append_16 ?_
  refine K_putI X 0 kFd0 rfl (by decide) sf_t wf_X0_15 rfl rfl rfl dX0_append_17 ?_
  refine K_st (wI_upd rfl) ?_
  exact K_vret X hQ dX0_append_20 (⟨rfl, rfl⟩)

set_option maxHeartbeats 4000000 in
set_option maxRecDepth 100000 in
theorem c_X0_startReading (l : Launch) (D : KD) (b : Nat) (σ : KS) (F : Nat → Int32) : Ct l D b yX0_startReading cX0_startReading 1 none (rM 0 0) 0 0 [rf b 188] shF (wI σ 188 F) shF (pE none (wI σ 188 (upd F 5 (nI 0)))) := by
  refine Ct.of (ls := [(0, rf b 188)]) (by decide) (Nat.le_of_ble_eq_true rfl) rfl ?_
  intro pg e s m args below meth c Q hQ X hnm
  refine K_aload_n X 0 dX0_startReading_0 rfl rfl ?_
  refine K_iconst X dX0_startReading_1 cii_0 ?_
  refine K_putI X 5 kFd0 rfl (by decide) sf_t wf_X0_26 rfl rfl rfl dX0_startReading_2 ?_
  refine K_st (wI_upd rfl) ?_
  exact K_vret X hQ dX0_startReading_5 (⟨rfl, rfl⟩)

set_option maxHeartbeats 4000000 in
set_option maxRecDepth 100000 in
theorem c_X0_readNumber (l : Launch) (D : KD) (b : Nat) (σ : KS) (F : Nat → Int32) (T : Nat → Nat) (n p : Nat) (lo hi : Nat) (hP : PF σ.2.2) (hn : n ≤ 80) (h0 : F 0 = nI n) (hT : ∀ j, j < n → T j < 128) (hR : ∀ j, j < n → σ.1 189 j = nI (T j)) (h5 : F 5 = nI p) (hp : p ≤ n) (hl : lo ≤ 9) (hh : hi ≤ 20000) : Ct l D b yX0_readNumber cX0_readNumber 5 (some .int) (rM 1 22) 0 0 [rf b 188, .int (nI lo), .int (nI hi)] shF (wI σ 188 F) shF (pS (some (.int (xNr (xNum T n lo hi p)))) (fun τ => ∃ G, τ = wI σ 188 G ∧ (∀ k, k ≠ 5 → G k = F k) ∧ G 5 = nI (xNp p (xNum T n lo hi p)))) := by
  refine Ct.of (ls := [(0, rf b 188), (1, .int (nI lo)), (2, .int (nI hi))]) (by decide) (Nat.le_of_ble_eq_true rfl) rfl ?_
  intro pg e s m args below meth c Q hQ X hnm
  refine K_aload_n X 0 dX0_readNumber_0 rfl rfl ?_
  refine K_callVE X (c_X0_digitHere l D b _ F T n p hP hn h0 hT hR h5 (by omega)) my_X0_digitHere mv_X0_digitHere wm_X0_49 sf_t rfl ⟨rfl, rfl, Nat.le_of_ble_eq_true rfl, Nat.le_of_ble_eq_true rfl, Nat.le_of_ble_eq_true rfl, Nat.le_of_ble_eq_true rfl⟩ rfl rfl (Nat.le_of_ble_eq_true rfl) dX0_readNumber_1 ?_
  refine K_istore_n X (ls' := [(3, _), (0, _), (1, _), (2, _)]) dX0_readNumber_4 rfl (by decide) rfl ?_
  refine K_iload_n X 0 dX0_readNumber_5 rfl rfl ?_
  refine K_bipush X dX0_readNumber_6 cib_m6 ?_
  refine K_icmp_eq (tgt := 20) X dX0_readNumber_8 (by decide) (fun c8 => ?_) (fun c8 => ?_)
  · refine K_bipush X dX0_readNumber_20 cib_m6 ?_
    exact K_iret X hQ dX0_readNumber_22 (⟨by rw [show xNum T n lo hi p = none from xNum_f (fun d hd => by rw [qO_dn (fun k hk => by have := xDig_lt hk; omega) c8] at hd; cases hd)]; rfl, F, rfl, fun _ _ => rfl, by rw [show xNum T n lo hi p = none from xNum_f (fun d hd => by rw [qO_dn (fun k hk => by have := xDig_lt hk; omega) c8] at hd; cases hd)]; exact h5⟩)
  · obtain ⟨d, hd⟩ := qO_ex c8
    have hdl := xDig_lt hd
    rw [hd]
    refine K_iload_n X 0 dX0_readNumber_11 rfl rfl ?_
    refine K_iload_n X 2 dX0_readNumber_12 rfl rfl ?_
    refine K_iload_n X 3 dX0_readNumber_13 rfl rfl ?_
    refine K_callSNE (host := RX5) X (c_X5_withinQ l D b _ _ lo hi) my_X5_within wt_X5_within (by decide +kernel) ⟨rfl, rfl, Nat.le_of_ble_eq_true rfl, Nat.le_of_ble_eq_true rfl, Nat.le_of_ble_eq_true rfl, Nat.le_of_ble_eq_true rfl⟩ rfl rfl (Nat.le_of_ble_eq_true rfl) dX0_readNumber_14 ?_
    rw [show qO (some d) = nI d from rfl, qIn_nI (by omega) (by omega) (by omega)]
    refine K_ifB_ne (tgt := 23) X dX0_readNumber_17 (by decide) (fun c17 => ?_) (fun c17 => ?_)
    · have hdb : lo ≤ d ∧ d ≤ hi := by rw [Bool.and_eq_true] at c17; exact ⟨of_decide_eq_true c17.1, of_decide_eq_true c17.2⟩
      have hN := xNum_t hd hdb
      refine K_aload_n X 1 dX0_readNumber_23 rfl rfl ?_
      refine K_dup X dX0_readNumber_24 rfl ?_
      refine K_get X 5 kFd0 rfl (by decide) sf_t wf_X0_26 rfl (v := .int (nI p)) (congrArg Value.int ((congrFun wI_self 5).trans h5)) dX0_readNumber_25 ?_
      refine K_iconst X dX0_readNumber_28 cii_1 ?_
      refine K_iaddN X dX0_readNumber_29 ?_
      refine K_putI X 5 kFd0 rfl (by decide) sf_t wf_X0_26 rfl rfl rfl dX0_readNumber_30 ?_
      refine K_st (wI_upd rfl) ?_
      refine K_iload_n X 0 dX0_readNumber_33 rfl rfl ?_
      refine K_ifN_ne (tgt := 39) X dX0_readNumber_34 (by decide) (by omega) (fun c34 => ?_) (fun c34 => ?_)
      · have loop : ∀ (f v pp : Nat) (G : Nat → Int32), v ≤ hi → pp ≤ n → n < pp + f → (∀ k, k ≠ 5 → G k = F k) → G 5 = nI pp → xMore T n hi f v pp = xMore T n hi 81 d (p + 1) → K pg l e (rM 1 22) s m args below meth c Q D b 5 0 0 shF (wI σ 188 G) 39 [(0, rf b 188), (1, .int (nI lo)), (2, .int (nI hi)), (3, .int (nI v))] [] := by
          intro f
          induction f with
          | zero => intro v pp G hv hpp hf; omega
          | succ f ih =>
            intro v pp G hv hpp hf g1 g5 hg
            have g0 : G 0 = nI n := (g1 0 (by decide)).trans h0
            refine K_aload_n X 0 dX0_readNumber_39 rfl rfl ?_
            refine K_get X 5 kFd0 rfl (by decide) sf_t wf_X0_26 rfl (v := .int (nI pp)) (congrArg Value.int ((congrFun wI_self 5).trans g5)) dX0_readNumber_40 ?_
            refine K_aload_n X 0 dX0_readNumber_43 rfl rfl ?_
            refine K_get X 0 kFd0 rfl (by decide) sf_t wf_X0_15 rfl (v := .int (nI n)) (congrArg Value.int ((congrFun wI_self 0).trans g0)) dX0_readNumber_44 ?_
            refine K_icmpN_ge (tgt := 98) X dX0_readNumber_47 (by decide) (by omega) (by omega) (fun c47 => ?_) (fun c47 => ?_)
            · refine K_iload_n X 3 dX0_readNumber_98 rfl rfl ?_
              exact K_iret X hQ dX0_readNumber_99 (⟨by rw [hN, if_neg c34, ← hg, show xMore T n hi (f + 1) v pp = (v, pp) from xMore_e (xDig_ge (by omega))]; rfl, G, rfl, g1, by rw [hN, if_neg c34, ← hg, show xMore T n hi (f + 1) v pp = (v, pp) from xMore_e (xDig_ge (by omega))]; exact g5⟩)
            · refine K_aload_n X 0 dX0_readNumber_50 rfl rfl ?_
              refine K_callVE X (c_X0_digitHere l D b _ G T n pp hP hn g0 hT hR g5 (by omega)) my_X0_digitHere mv_X0_digitHere wm_X0_49 sf_t rfl ⟨rfl, rfl, Nat.le_of_ble_eq_true rfl, Nat.le_of_ble_eq_true rfl, Nat.le_of_ble_eq_true rfl, Nat.le_of_ble_eq_true rfl⟩ rfl rfl (Nat.le_of_ble_eq_true rfl) dX0_readNumber_51 ?_
              refine K_istore X (ls' := [(4, _), (0, _), (1, _), (2, _), (3, _)]) dX0_readNumber_54 (by decide) rfl ?_
              refine K_iload X 0 dX0_readNumber_56 rfl ?_
              refine K_bipush X dX0_readNumber_58 cib_m6 ?_
              refine K_icmp_eq (tgt := 98) X dX0_readNumber_60 (by decide) (fun c60 => ?_) (fun c60 => ?_)
              · refine K_iload_n X 4 dX0_readNumber_98 rfl rfl ?_
                exact K_iret X hQ dX0_readNumber_99 (⟨by rw [hN, if_neg c34, ← hg, show xMore T n hi (f + 1) v pp = (v, pp) from xMore_e (qO_dn (fun k hk => by have := xDig_lt hk; omega) c60)]; rfl, G, rfl, g1, by rw [hN, if_neg c34, ← hg, show xMore T n hi (f + 1) v pp = (v, pp) from xMore_e (qO_dn (fun k hk => by have := xDig_lt hk; omega) c60)]; exact g5⟩)
              · obtain ⟨e1, he⟩ := qO_ex c60
                have hel := xDig_lt he
                rw [he]
                refine K_bipush X dX0_readNumber_63 cib_10 ?_
                refine K_iload_n X 4 dX0_readNumber_65 rfl rfl ?_
                refine K_imulN X dX0_readNumber_66 ?_
                refine K_iload X 0 dX0_readNumber_67 rfl ?_
                refine K_iaddN X dX0_readNumber_69 ?_
                refine K_iload_n X 3 dX0_readNumber_70 rfl rfl ?_
                refine K_icmpN_le (tgt := 77) X dX0_readNumber_71 (by decide) (by omega) (by omega) (fun c71 => ?_) (fun c71 => ?_)
                · refine K_bipush X dX0_readNumber_77 cib_10 ?_
                  refine K_iload_n X 4 dX0_readNumber_79 rfl rfl ?_
                  refine K_imulN X dX0_readNumber_80 ?_
                  refine K_iload X 0 dX0_readNumber_81 rfl ?_
                  refine K_iaddN X dX0_readNumber_83 ?_
                  refine K_istore_n X (ls' := [(3, _), (4, _), (0, _), (1, _), (2, _)]) dX0_readNumber_84 rfl (by decide) rfl ?_
                  refine K_aload_n X 2 dX0_readNumber_85 rfl rfl ?_
                  refine K_dup X dX0_readNumber_86 rfl ?_
                  refine K_get X 5 kFd0 rfl (by decide) sf_t wf_X0_26 rfl (v := .int (nI pp)) (congrArg Value.int ((congrFun wI_self 5).trans g5)) dX0_readNumber_87 ?_
                  refine K_iconst X dX0_readNumber_90 cii_1 ?_
                  refine K_iaddN X dX0_readNumber_91 ?_
                  refine K_putI X 5 kFd0 rfl (by decide) sf_t wf_X0_26 rfl rfl rfl dX0_readNumber_92 ?_
                  refine K_st (wI_upd rfl) ?_
                  refine K_goto (tgt := 39) X dX0_readNumber_95 (by decide) ?_
                  exact K_sub [2, 3, 4, 0] rfl (ih (10 * v + e1) (pp + 1) _ (by omega) (by omega) (by omega) (fun k hk => (if_neg hk).trans (g1 k hk)) rfl (by rw [← hg, xMore_d he, if_pos (by omega)]))
                · refine K_goto (tgt := 98) X dX0_readNumber_74 (by decide) ?_
                  refine K_iload_n X 4 dX0_readNumber_98 rfl rfl ?_
                  exact K_iret X hQ dX0_readNumber_99 (⟨by rw [hN, if_neg c34, ← hg, show xMore T n hi (f + 1) v pp = (v, pp) from (xMore_d he).trans (if_neg (by omega))]; rfl, G, rfl, g1, by rw [hN, if_neg c34, ← hg, show xMore T n hi (f + 1) v pp = (v, pp) from (xMore_d he).trans (if_neg (by omega))]; exact g5⟩)
        exact K_sub [1, 2, 3, 0] rfl (loop 81 d (p + 1) _ (by omega) (by omega) (by omega) (fun k hk => if_neg hk) rfl rfl)
      · refine K_iload_n X 0 dX0_readNumber_37 rfl rfl ?_
        exact K_iret X hQ dX0_readNumber_38 (⟨by rw [hN, if_pos c34, c34]; rfl, _, rfl, fun k hk => if_neg hk, by rw [hN, if_pos c34]; rfl⟩)
    · refine K_bipush X dX0_readNumber_20 cib_m6 ?_
      exact K_iret X hQ dX0_readNumber_22 (⟨by rw [show xNum T n lo hi p = none from xNum_f (fun z hz => by rw [hd] at hz; cases hz; intro q; rw [decide_eq_true q.1, decide_eq_true q.2] at c17; cases c17)]; rfl, F, rfl, fun _ _ => rfl, by rw [show xNum T n lo hi p = none from xNum_f (fun z hz => by rw [hd] at hz; cases hz; intro q; rw [decide_eq_true q.1, decide_eq_true q.2] at c17; cases c17)]; exact h5⟩)
