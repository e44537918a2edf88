/-! THE CLASS: reading its text -/
set_option maxHeartbeats 4000000 in
set_option maxRecDepth 100000 in
theorem c_X0_digitHere (l : Launch) (D : KD) (b : Nat) (σ : KS) (F : Nat → Int32) (T : Nat → Nat) (n p : Nat) (hP : PF σ.2.2) (hn : n ≤ 80) (h0 : F 0 = nI n) (hT : ∀ j, j < n → T j < 128) (hR : ∀ j, j < n → σ.1 189 j = nI (T j)) (h5 : F 5 = nI p) (hp : p ≤ n) : Ct l D b yX0_digitHere cX0_digitHere 2 (some .int) (rM 0 0) 0 0 [rf b 188] shF (wI σ 188 F) shF (pE (some (.int (qO (xDig T n p)))) (wI σ 188 F)) := by
  refine Ct.of (ls := [(0, rf b 188)]) (by decide) (Nat.le_of_ble_eq_true rfl) rfl ?_
  intro pg e s m args below meth c Q hQ X hnm
  refine K_aload_n X 0 dX0_digitHere_0 rfl rfl ?_
  refine K_get X 5 kFd0 rfl (by decide) sf_t wf_X0_26 rfl (v := .int (nI p)) (congrArg Value.int ((congrFun wI_self 5).trans h5)) dX0_digitHere_1 ?_
  refine K_aload_n X 0 dX0_digitHere_4 rfl rfl ?_
  refine K_get X 0 kFd0 rfl (by decide) sf_t wf_X0_15 rfl (v := .int (nI n)) (congrArg Value.int ((congrFun wI_self 0).trans h0)) dX0_digitHere_5 ?_
  refine K_icmpN_lt (tgt := 14) X dX0_digitHere_8 (by decide) (by omega) (by omega) (fun c8 => ?_) (fun c8 => ?_)
  · refine K_aload_n X 0 dX0_digitHere_14 rfl rfl ?_
    refine K_get X 6 kFd0 rfl (by decide) sf_t wf_X0_9 rfl (v := rf b (189)) (kv_a (pf_t hP)) dX0_digitHere_15 ?_
    refine K_aload_n X 0 dX0_digitHere_18 rfl rfl ?_
    refine K_get X 5 kFd0 rfl (by decide) sf_t wf_X0_26 rfl (v := .int (nI p)) (congrArg Value.int ((congrFun wI_self 5).trans h5)) dX0_digitHere_19 ?_
    refine K_cald X _ sf_ts rfl (by omega) (by decide) ((congrFun (wI_ne (by decide)) _).trans (hR _ (by omega))) dX0_digitHere_22 ?_
    refine K_istore_n X (ls' := [(1, _), (0, _)]) dX0_digitHere_23 rfl (by decide) rfl ?_
    refine K_iload_n X 0 dX0_digitHere_24 rfl rfl ?_
    refine K_bipush X dX0_digitHere_25 cib_48 ?_
    refine K_icmpN_lt (tgt := 43) X dX0_digitHere_27 (by decide) (by have := hT p (by omega); omega) (by omega) (fun c27 => ?_) (fun c27 => ?_)
    · refine K_bipush X dX0_digitHere_43 cib_m6 ?_
      exact K_iret X hQ dX0_digitHere_45 (⟨by rw [show xDig T n p = none from if_neg (by omega)]; rfl, rfl⟩)
    · refine K_iload_n X 0 dX0_digitHere_30 rfl rfl ?_
      refine K_bipush X dX0_digitHere_31 cib_57 ?_
      refine K_icmpN_gt (tgt := 43) X dX0_digitHere_33 (by decide) (by have := hT p (by omega); omega) (by omega) (fun c33 => ?_) (fun c33 => ?_)
      · refine K_bipush X dX0_digitHere_43 cib_m6 ?_
        exact K_iret X hQ dX0_digitHere_45 (⟨by rw [show xDig T n p = none from if_neg (by omega)]; rfl, rfl⟩)
      · refine K_iload_n X 0 dX0_digitHere_36 rfl rfl ?_
        refine K_bipush X dX0_digitHere_37 cib_48 ?_
        refine K_isubN X dX0_digitHere_39 (by omega) ?_
        refine K_goto (tgt := 45) X dX0_digitHere_40 (by decide) ?_
        exact K_iret X hQ dX0_digitHere_45 (⟨by rw [show xDig T n p = some (T p - 48) from if_pos ⟨by omega, by omega, by omega⟩]; rfl, rfl⟩)
  · refine K_bipush X dX0_digitHere_11 cib_m6 ?_
    exact K_iret X hQ dX0_digitHere_13 (⟨by rw [xDig_ge (by omega)]; rfl, rfl⟩)

set_option maxHeartbeats 4000000 in
set_option maxRecDepth 100000 in
theorem c_X0_skipSign (l : Launch) (D : KD) (b : Nat) (σ : KS) (F : Nat → Int32) (T : Nat → Nat) (n p : Nat) (q : Nat) (hP : PF σ.2.2) (hn : n ≤ 80) (h0 : F 0 = nI n) (hT : ∀ j, j < n → T j < 128) (hR : ∀ j, j < n → σ.1 189 j = nI (T j)) (h5 : F 5 = nI p) (hp : p ≤ n) (hq : q < 128) : Ct l D b yX0_skipSign cX0_skipSign 2 (some .boolean) (rM 0 0) 0 0 [rf b 188, .int (nI q)] shF (wI σ 188 F) shF (pE (some (.int (kB (xIs T n q p)))) (wI σ 188 (upd F 5 (nI (p + (if xIs T n q p = true then 1 else 0)))))) := by
  refine Ct.of (ls := [(0, rf b 188), (1, .int (nI q))]) (by decide) (Nat.le_of_ble_eq_true rfl) rfl ?_
  intro pg e s m args below meth c Q hQ X hnm
  refine K_aload_n X 0 dX0_skipSign_0 rfl rfl ?_
  refine K_get X 5 kFd0 rfl (by decide) sf_t wf_X0_26 rfl (v := .int (nI p)) (congrArg Value.int ((congrFun wI_self 5).trans h5)) dX0_skipSign_1 ?_
  refine K_aload_n X 0 dX0_skipSign_4 rfl rfl ?_
  refine K_get X 0 kFd0 rfl (by decide) sf_t wf_X0_15 rfl (v := .int (nI n)) (congrArg Value.int ((congrFun wI_self 0).trans h0)) dX0_skipSign_5 ?_
  refine K_icmpN_ge (tgt := 24) X dX0_skipSign_8 (by decide) (by omega) (by omega) (fun c8 => ?_) (fun c8 => ?_)
  · refine K_iconst X dX0_skipSign_24 cii_0 ?_
    exact K_zret X false rfl hQ dX0_skipSign_25 (⟨by rw [xIs_f1 (by omega)] <;> rfl, by rw [xIs_f1 (by omega)]; exact congrArg (wI σ 188) (upd_id (by rw [if_neg (by decide)]; exact h5)).symm⟩)
  · refine K_aload_n X 0 dX0_skipSign_11 rfl rfl ?_
    refine K_get X 6 kFd0 rfl (by decide) sf_t wf_X0_9 rfl (v := rf b (189)) (kv_a (pf_t hP)) dX0_skipSign_12 ?_
    refine K_aload_n X 0 dX0_skipSign_15 rfl rfl ?_
    refine K_get X 5 kFd0 rfl (by decide) sf_t wf_X0_26 rfl (v := .int (nI p)) (congrArg Value.int ((congrFun wI_self 5).trans h5)) dX0_skipSign_16 ?_
    refine K_cald X _ sf_ts rfl (by omega) (by decide) ((congrFun (wI_ne (by decide)) _).trans (hR _ (by omega))) dX0_skipSign_19 ?_
    refine K_iload_n X 1 dX0_skipSign_20 rfl rfl ?_
    refine K_icmpN_eq (tgt := 26) X dX0_skipSign_21 (by decide) (by have := hT p (by omega); omega) (by omega) (fun c21 => ?_) (fun c21 => ?_)
    · refine K_aload_n X 0 dX0_skipSign_26 rfl rfl ?_
      refine K_dup X dX0_skipSign_27 rfl ?_
      refine K_get X 5 kFd0 rfl (by decide) sf_t wf_X0_26 rfl (v := .int (nI p)) (congrArg Value.int ((congrFun wI_self 5).trans h5)) dX0_skipSign_28 ?_
      refine K_iconst X dX0_skipSign_31 cii_1 ?_
      refine K_iaddN X dX0_skipSign_32 ?_
      refine K_putI X 5 kFd0 rfl (by decide) sf_t wf_X0_26 rfl rfl rfl dX0_skipSign_33 ?_
      refine K_st (wI_upd rfl) ?_
      refine K_iconst X dX0_skipSign_36 cii_1 ?_
      exact K_zret X true rfl hQ dX0_skipSign_37 (⟨by rw [xIs_t (by omega) (by omega)] <;> rfl, by rw [xIs_t (by omega) (by omega)] <;> rfl⟩)
    · refine K_iconst X dX0_skipSign_24 cii_0 ?_
      exact K_zret X false rfl hQ dX0_skipSign_25 (⟨by rw [xIs_f2 (by omega)] <;> rfl, by rw [xIs_f2 (by omega)]; exact congrArg (wI σ 188) (upd_id (by rw [if_neg (by decide)]; exact h5)).symm⟩)

set_option maxHeartbeats 4000000 in
set_option maxRecDepth 100000 in
theorem c_X0_append (l : Launch) (D : KD) (b : Nat) (σ : KS) (F : Nat → Int32) (n : Nat) (x y : Int32) (hP : PF σ.2.2) (hn : n < 80) (h0 : F 0 = nI n) (hx : narrow .char (.int x) = .int y) : Ct l D b yX0_append cX0_append 2 none (rM 0 0) 0 0 [rf b 188, .int x] shF (wI σ 188 F) shF (pE none (wI (wI σ 189 (upd (σ.1 189) n y)) 188 (upd F 0 (nI (n + 1))))) := by
  refine Ct.of (ls := [(0, rf b 188), (1, .int x)]) (by decide) (Nat.le_of_ble_eq_true rfl) rfl ?_
  intro pg e s m args below meth c Q hQ X hnm
  refine K_aload_n X 0 dX0_append_0 rfl rfl ?_
  refine K_get X 6 kFd0 rfl (by decide) sf_t wf_X0_9 rfl (v := rf b (189)) (kv_a (pf_t hP)) dX0_append_1 ?_
  refine K_aload_n X 0 dX0_append_4 rfl rfl ?_
  refine K_get X 0 kFd0 rfl (by decide) sf_t wf_X0_15 rfl (v := .int (nI n)) (congrArg Value.int ((congrFun wI_self 0).trans h0)) dX0_append_5 ?_
  refine K_iload_n X 1 dX0_append_8 rfl rfl ?_
  refine K_cast X _ sf_ts rfl (by omega) (by decide) hx dX0_append_9 ?_
  refine K_st (σ' := wI (wI σ 189 (upd (σ.1 189) n y)) 188 F) (by rw [wI_ne (by decide), wI_comm (by decide)]) ?_
  refine K_aload_n X 0 dX0_append_10 rfl rfl ?_
  refine K_dup X dX0_append_11 rfl ?_
  refine K_get X 0 kFd0 rfl (by decide) sf_t wf_X0_15 rfl (v := .int (nI n)) (congrArg Value.int ((congrFun wI_self 0).trans h0)) dX0_append_12 ?_
  refine K_iconst X dX0_append_15 cii_1 ?_
  refine K_iaddN X dX0_append_16 ?_
  refine K_putI X 0 kFd0 rfl (by decide) sf_t wf_X0_15 rfl rfl rfl dX0_append_17 ?_
  refine K_st (wI_upd rfl) ?_
  exact K_vret X hQ dX0_append_20 (⟨rfl, rfl⟩)

set_option maxHeartbeats 4000000 in
set_option maxRecDepth 100000 in
theorem c_X0_startReading (l : Launch) (D : KD) (b : Nat) (σ : KS) (F : Nat → Int32) : Ct l D b yX0_startReading cX0_startReading 1 none (rM 0 0) 0 0 [rf b 188] shF (wI σ 188 F) shF (pE none (wI σ 188 (upd F 5 (nI 0)))) := by
  refine Ct.of (ls := [(0, rf b 188)]) (by decide) (Nat.le_of_ble_eq_true rfl) rfl ?_
  intro pg e s m args below meth c Q hQ X hnm
  refine K_aload_n X 0 dX0_startReading_0 rfl rfl ?_
  refine K_iconst X dX0_startReading_1 cii_0 ?_
  refine K_putI X 5 kFd0 rfl (by decide) sf_t wf_X0_26 rfl rfl rfl dX0_startReading_2 ?_
  refine K_st (wI_upd rfl) ?_
  exact K_vret X hQ dX0_startReading_5 (⟨rfl, rfl⟩)

set_option maxHeartbeats 4000000 in
set_option maxRecDepth 100000 in
theorem c_X0_readNumber (l : Launch) (D : KD) (b : Nat) (σ : KS) (F : Nat → Int32) (T : Nat → Nat) (n p : Nat) (lo hi : Nat) (hP : PF σ.2.2) (hn : n ≤ 80) (h0 : F 0 = nI n) (hT : ∀ j, j < n → T j < 128) (hR : ∀ j, j < n → σ.1 189 j = nI (T j)) (h5 : F 5 = nI p) (hp : p ≤ n) (hl : lo ≤ 9) (hh : hi ≤ 20000) : Ct l D b yX0_readNumber cX0_readNumber 5 (some .int) (rM 1 22) 0 0 [rf b 188, .int (nI lo), .int (nI hi)] shF (wI σ 188 F) shF (pS (some (.int (xNr (xNum T n lo hi p)))) (fun τ => ∃ G, τ = wI σ 188 G ∧ (∀ k, k ≠ 5 → G k = F k) ∧ G 5 = nI (xNp p (xNum T n lo hi p)))) := by
  refine Ct.of (ls := [(0, rf b 188), (1, .int (nI lo)), (2, .int (nI hi))]) (by decide) (Nat.le_of_ble_eq_true rfl) rfl ?_
  intro pg e s m args below meth c Q hQ X hnm
  refine K_aload_n X 0 dX0_readNumber_0 rfl rfl ?_
  refine K_callVE X (c_X0_digitHere l D b _ F T n p hP hn h0 hT hR h5 (by omega)) my_X0_digitHere mv_X0_digitHere wm_X0_49 sf_t rfl ⟨rfl, rfl, Nat.le_of_ble_eq_true rfl, Nat.le_of_ble_eq_true rfl, Nat.le_of_ble_eq_true rfl, Nat.le_of_ble_eq_true rfl⟩ rfl rfl (Nat.le_of_ble_eq_true rfl) dX0_readNumber_1 ?_
  refine K_istore_n X (ls' := [(3, _), (0, _), (1, _), (2, _)]) dX0_readNumber_4 rfl (by decide) rfl ?_
  refine K_iload_n X 0 dX0_readNumber_5 rfl rfl ?_
  refine K_bipush X dX0_readNumber_6 cib_m6 ?_
  refine K_icmp_eq (tgt := 20) X dX0_readNumber_8 (by decide) (fun c8 => ?_) (fun c8 => ?_)
  · refine K_bipush X dX0_readNumber_20 cib_m6 ?_
    exact K_iret X hQ dX0_readNumber_22 (⟨by rw [show xNum T n lo hi p = none from xNum_f (fun d hd => by rw [qO_dn (fun k hk => by have := xDig_lt hk; omega) c8] at hd; cases hd)]; rfl, F, rfl, fun _ _ => rfl, by rw [show xNum T n lo hi p = none from xNum_f (fun d hd => by rw [qO_dn (fun k hk => by have := xDig_lt hk; omega) c8] at hd; cases hd)]; exact h5⟩)
  · obtain ⟨d, hd⟩ := qO_ex c8
    have hdl := xDig_lt hd
    rw [hd]
    refine K_iload_n X 0 dX0_readNumber_11 rfl rfl ?_
    refine K_iload_n X 2 dX0_readNumber_12 rfl rfl ?_
    refine K_iload_n X 3 dX0_readNumber_13 rfl rfl ?_
    refine K_callSNE (host := RX5) X (c_X5_withinQ l D b _ _ lo hi) my_X5_within wt_X5_within (by decide +kernel) ⟨rfl, rfl, Nat.le_of_ble_eq_true rfl, Nat.le_of_ble_eq_true rfl, Nat.le_of_ble_eq_true rfl, Nat.le_of_ble_eq_true rfl⟩ rfl rfl (Nat.le_of_ble_eq_true rfl) dX0_readNumber_14 ?_
    rw [show qO (some d) = nI d from rfl, qIn_nI (by omega) (by omega) (by omega)]
    refine K_ifB_ne (tgt := 23) X dX0_readNumber_17 (by decide) (fun c17 => ?_) (fun c17 => ?_)
    · have hdb : lo ≤ d ∧ d ≤ hi := by rw [Bool.and_eq_true] at c17; exact ⟨of_decide_eq_true c17.1, of_decide_eq_true c17.2⟩
      have hN := xNum_t hd hdb
      refine K_aload_n X 1 dX0_readNumber_23 rfl rfl ?_
      refine K_dup X dX0_readNumber_24 rfl ?_
      refine K_get X 5 kFd0 rfl (by decide) sf_t wf_X0_26 rfl (v := .int (nI p)) (congrArg Value.int ((congrFun wI_self 5).trans h5)) dX0_readNumber_25 ?_
      refine K_iconst X dX0_readNumber_28 cii_1 ?_
      refine K_iaddN X dX0_readNumber_29 ?_
      refine K_putI X 5 kFd0 rfl (by decide) sf_t wf_X0_26 rfl rfl rfl dX0_readNumber_30 ?_
      refine K_st (wI_upd rfl) ?_
      refine K_iload_n X 0 dX0_readNumber_33 rfl rfl ?_
      refine K_ifN_ne (tgt := 39) X dX0_readNumber_34 (by decide) (by omega) (fun c34 => ?_) (fun c34 => ?_)
      · have loop : ∀ (f v pp : Nat) (G : Nat → Int32), v ≤ hi → pp ≤ n → n < pp + f → (∀ k, k ≠ 5 → G k = F k) → G 5 = nI pp → xMore T n hi f v pp = xMore T n hi 81 d (p + 1) → K pg l e (rM 1 22) s m args below meth c Q D b 5 0 0 shF (wI σ 188 G) 39 [(0, rf b 188), (1, .int (nI lo)), (2, .int (nI hi)), (3, .int (nI v))] [] := by
          intro f
          induction f with
          | zero => intro v pp G hv hpp hf; omega
          | succ f ih =>
            intro v pp G hv hpp hf g1 g5 hg
            have g0 : G 0 = nI n := (g1 0 (by decide)).trans h0
            refine K_aload_n X 0 dX0_readNumber_39 rfl rfl ?_
            refine K_get X 5 kFd0 rfl (by decide) sf_t wf_X0_26 rfl (v := .int (nI pp)) (congrArg Value.int ((congrFun wI_self 5).trans g5)) dX0_readNumber_40 ?_
            refine K_aload_n X 0 dX0_readNumber_43 rfl rfl ?_
            refine K_get X 0 kFd0 rfl (by decide) sf_t wf_X0_15 rfl (v := .int (nI n)) (congrArg Value.int ((congrFun wI_self 0).trans g0)) dX0_readNumber_44 ?_
            refine K_icmpN_ge (tgt := 98) X dX0_readNumber_47 (by decide) (by omega) (by omega) (fun c47 => ?_) (fun c47 => ?_)
            · refine K_iload_n X 3 dX0_readNumber_98 rfl rfl ?_
              exact K_iret X hQ dX0_readNumber_99 (⟨by rw [hN, if_neg c34, ← hg, show xMore T n hi (f + 1) v pp = (v, pp) from xMore_e (xDig_ge (by omega))]; rfl, G, rfl, g1, by rw [hN, if_neg c34, ← hg, show xMore T n hi (f + 1) v pp = (v, pp) from xMore_e (xDig_ge (by omega))]; exact g5⟩)
            · refine K_aload_n X 0 dX0_readNumber_50 rfl rfl ?_
              refine K_callVE X (c_X0_digitHere l D b _ G T n pp hP hn g0 hT hR g5 (by omega)) my_X0_digitHere mv_X0_digitHere wm_X0_49 sf_t rfl ⟨rfl, rfl, Nat.le_of_ble_eq_true rfl, Nat.le_of_ble_eq_true rfl, Nat.le_of_ble_eq_true rfl, Nat.le_of_ble_eq_true rfl⟩ rfl rfl (Nat.le_of_ble_eq_true rfl) dX0_readNumber_51 ?_
              refine K_istore X (ls' := [(4, _), (0, _), (1, _), (2, _), (3, _)]) dX0_readNumber_54 (by decide) rfl ?_
              refine K_iload X 0 dX0_readNumber_56 rfl ?_
              refine K_bipush X dX0_readNumber_58 cib_m6 ?_
              refine K_icmp_eq (tgt := 98) X dX0_readNumber_60 (by decide) (fun c60 => ?_) (fun c60 => ?_)
              · refine K_iload_n X 4 dX0_readNumber_98 rfl rfl ?_
                exact K_iret X hQ dX0_readNumber_99 (⟨by rw [hN, if_neg c34, ← hg, show xMore T n hi (f + 1) v pp = (v, pp) from xMore_e (qO_dn (fun k hk => by have := xDig_lt hk; omega) c60)]; rfl, G, rfl, g1, by rw [hN, if_neg c34, ← hg, show xMore T n hi (f + 1) v pp = (v, pp) from xMore_e (qO_dn (fun k hk => by have := xDig_lt hk; omega) c60)]; exact g5⟩)
              · obtain ⟨e1, he⟩ := qO_ex c60
                have hel := xDig_lt he
                rw [he]
                refine K_bipush X dX0_readNumber_63 cib_10 ?_
                refine K_iload_n X 4 dX0_readNumber_65 rfl rfl ?_
                refine K_imulN X dX0_readNumber_66 ?_
                refine K_iload X 0 dX0_readNumber_67 rfl ?_
                refine K_iaddN X dX0_readNumber_69 ?_
                refine K_iload_n X 3 dX0_readNumber_70 rfl rfl ?_
                refine K_icmpN_le (tgt := 77) X dX0_readNumber_71 (by decide) (by omega) (by omega) (fun c71 => ?_) (fun c71 => ?_)
                · refine K_bipush X dX0_readNumber_77 cib_10 ?_
                  refine K_iload_n X 4 dX0_readNumber_79 rfl rfl ?_
                  refine K_imulN X dX0_readNumber_80 ?_
                  refine K_iload X 0 dX0_readNumber_81 rfl ?_
                  refine K_iaddN X dX0_readNumber_83 ?_
                  refine K_istore_n X (ls' := [(3, _), (4, _), (0, _), (1, _), (2, _)]) dX0_readNumber_84 rfl (by decide) rfl ?_
                  refine K_aload_n X 2 dX0_readNumber_85 rfl rfl ?_
                  refine K_dup X dX0_readNumber_86 rfl ?_
                  refine K_get X 5 kFd0 rfl (by decide) sf_t wf_X0_26 rfl (v := .int (nI pp)) (congrArg Value.int ((congrFun wI_self 5).trans g5)) dX0_readNumber_87 ?_
                  refine K_iconst X dX0_readNumber_90 cii_1 ?_
                  refine K_iaddN X dX0_readNumber_91 ?_
                  refine K_putI X 5 kFd0 rfl (by decide) sf_t wf_X0_26 rfl rfl rfl dX0_readNumber_92 ?_
                  refine K_st (wI_upd rfl) ?_
                  refine K_goto (tgt := 39) X dX0_readNumber_95 (by decide) ?_
                  exact K_sub [2, 3, 4, 0] rfl (ih (10 * v + e1) (pp + 1) _ (by omega) (by omega) (by omega) (fun k hk => (if_neg hk).trans (g1 k hk)) rfl (by rw [← hg, xMore_d he, if_pos (by omega)]))
                · refine K_goto (tgt := 98) X dX0_readNumber_74 (by decide) ?_
                  refine K_iload_n X 4 dX0_readNumber_98 rfl rfl ?_
                  exact K_iret X hQ dX0_readNumber_99 (⟨by rw [hN, if_neg c34, ← hg, show xMore T n hi (f + 1) v pp = (v, pp) from (xMore_d he).trans (if_neg (by omega))]; rfl, G, rfl, g1, by rw [hN, if_neg c34, ← hg, show xMore T n hi (f + 1) v pp = (v, pp) from (xMore_d he).trans (if_neg (by omega))]; exact g5⟩)
        exact K_sub [1, 2, 3, 0] rfl (loop 81 d (p + 1) _ (by omega) (by omega) (by omega) (fun k hk => if_neg hk) rfl rfl)
      · refine K_iload_n X 0 dX0_readNumber_37 rfl rfl ?_
        exact K_iret X hQ dX0_readNumber_38 (⟨by rw [hN, if_pos c34, c34]; rfl, _, rfl, fun k hk => if_neg hk, by rw [hN, if_pos c34]; rfl⟩)
    · refine K_bipush X dX0_readNumber_20 cib_m6 ?_
      exact K_iret X hQ dX0_readNumber_22 (⟨by rw [show xNum T n lo hi p = none from xNum_f (fun z hz => by rw [hd] at hz; cases hz; intro q; rw [decide_eq_true q.1, decide_eq_true q.2] at c17; cases c17)]; rfl, F, rfl, fun _ _ => rfl, by rw [show xNum T n lo hi p = none from xNum_f (fun z hz => by rw [hd] at hz; cases hz; intro q; rw [decide_eq_true q.1, decide_eq_true q.2] at c17; cases c17)]; exact h5⟩)

set_option maxHeartbeats 4000000 in
set_option maxRecDepth 100000 in
theorem c_X0_readItem (l : Launch) (D : KD) (b : Nat) (σ : KS) (F : Nat → Int32) (T : Nat → Nat) (n p : Nat) (hP : PF σ.2.2) (hn : n ≤ 80) (h0 : F 0 = nI n) (hT : ∀ j, j < n → T j < 128) (hR : ∀ j, j < n → σ.1 189 j = nI (T j)) (h5 : F 5 = nI p) (hp : p ≤ n) : Ct l D b yX0_readItem cX0_readItem 1 (some .boolean) (rM 2 46) 0 0 [rf b 188] shF (wI σ 188 F) shF (pS (some (.int (kB (xItem T n p).1.isSome))) (fun τ => ∃ G, τ = wI σ 188 G ∧ xPj F G (xItem T n p))) := by
  refine Ct.of (ls := [(0, rf b 188)]) (by decide) (Nat.le_of_ble_eq_true rfl) rfl ?_
  intro pg e s m args below meth c Q hQ X hnm
  refine K_aload_n X 0 dX0_readItem_0 rfl rfl ?_
  refine K_aload_n X 0 dX0_readItem_1 rfl rfl ?_
  refine K_iconst X dX0_readItem_2 cii_0 ?_
  refine K_iconst X dX0_readItem_3 cii_5 ?_
  refine K_callVP X (c_X0_readNumber l D b _ F T n (p) _ _ hP hn h0 hT hR h5 hp (by omega) (by omega)) my_X0_readNumber mv_X0_readNumber wm_X0_33 sf_t rfl ⟨rfl, rfl, Nat.le_of_ble_eq_true rfl, Nat.le_of_ble_eq_true rfl, Nat.le_of_ble_eq_true rfl, Nat.le_of_ble_eq_true rfl⟩ rfl rfl (Nat.le_of_ble_eq_true rfl) dX0_readItem_4 (fun σ4 h4 => ?_)
  obtain ⟨G1, rfl, a1, b1⟩ := h4
  rcases hq1 : xNum T n 0 5 (p) with _ | q1
  · rw [hq1] at b1
    refine K_putI X 1 kFd0 rfl (by decide) sf_t wf_X0_37 rfl rfl rfl dX0_readItem_7 ?_
    refine K_st (wI_upd rfl) ?_
    obtain ⟨K1, hK1⟩ : ∃ z, z = upd G1 1 (-6) := ⟨_, rfl⟩
    refine K_st (σ' := wI σ 188 K1) (by rw [hK1]; rfl) ?_
    have zz1 : K1 0 = nI n := by rw [hK1]; exact (a1 0 (by decide)).trans h0
    have ss1 : K1 5 = nI (p) := by rw [hK1]; exact b1
    have v1 : K1 1 = -6 := by rw [hK1]; exact if_pos rfl
    refine K_aload_n X 0 dX0_readItem_10 rfl rfl ?_
    refine K_get X 1 kFd0 rfl (by decide) sf_t wf_X0_37 rfl (v := .int (-6)) (congrArg Value.int ((congrFun wI_self 1).trans v1)) dX0_readItem_11 ?_
    refine K_bipush X dX0_readItem_14 cib_m6 ?_
    refine K_icmp_eq (tgt := 28) X dX0_readItem_16 (by decide) (fun c16 => ?_) (fun c16 => ?_)
    · have hX : xItem T n p = (none, p) := by unfold xItem; rw [hq1]
      refine K_iconst X dX0_readItem_28 cii_0 ?_
      exact K_zret X false rfl hQ dX0_readItem_29 (⟨by rw [hX] <;> rfl, K1, rfl, zz1.trans h0.symm, by rw [hX]; exact ss1, by rw [hX]; intro q hq; cases hq⟩)
    · exact absurd rfl c16
  · rw [hq1] at b1
    have bb1 := xNum_b hq1
    refine K_putI X 1 kFd0 rfl (by decide) sf_t wf_X0_37 rfl rfl rfl dX0_readItem_7 ?_
    refine K_st (wI_upd rfl) ?_
    obtain ⟨K1, hK1⟩ : ∃ z, z = upd G1 1 (nI q1.1) := ⟨_, rfl⟩
    refine K_st (σ' := wI σ 188 K1) (by rw [hK1]; rfl) ?_
    have zz1 : K1 0 = nI n := by rw [hK1]; exact (a1 0 (by decide)).trans h0
    have ss1 : K1 5 = nI (q1.2) := by rw [hK1]; exact b1
    have v1 : K1 1 = nI q1.1 := by rw [hK1]; exact if_pos rfl
    refine K_aload_n X 0 dX0_readItem_10 rfl rfl ?_
    refine K_get X 1 kFd0 rfl (by decide) sf_t wf_X0_37 rfl (v := .int (nI q1.1)) (congrArg Value.int ((congrFun wI_self 1).trans v1)) dX0_readItem_11 ?_
    refine K_bipush X dX0_readItem_14 cib_m6 ?_
    refine K_icmp_eq (tgt := 28) X dX0_readItem_16 (by decide) (fun c16 => ?_) (fun c16 => ?_)
    · exact absurd c16 (qO_ne (by omega))
    · refine K_aload_n X 0 dX0_readItem_19 rfl rfl ?_
      refine K_bipush X dX0_readItem_20 cib_58 ?_
      refine K_callVE X (c_X0_skipSign l D b _ K1 T n q1.2 58 hP hn zz1 hT hR ss1 bb1.2.1 (by decide)) my_X0_skipSign mv_X0_skipSign wm_X0_29 sf_t rfl ⟨rfl, rfl, Nat.le_of_ble_eq_true rfl, Nat.le_of_ble_eq_true rfl, Nat.le_of_ble_eq_true rfl, Nat.le_of_ble_eq_true rfl⟩ rfl rfl (Nat.le_of_ble_eq_true rfl) dX0_readItem_22 ?_
      obtain ⟨H1, hH1⟩ : ∃ z, z = upd K1 5 (nI (q1.2 + (if xIs T n 58 q1.2 = true then 1 else 0))) := ⟨_, rfl⟩
      rw [← hH1]
      have z1 : H1 0 = nI n := by rw [hH1]; exact zz1
      have s01 : H1 5 = nI (q1.2 + (if xIs T n 58 q1.2 = true then 1 else 0)) := by rw [hH1]; exact if_pos rfl
      have r11 : H1 1 = nI q1.1 := by rw [hH1]; exact (if_neg (by decide)).trans v1
      refine K_ifB_ne (tgt := 30) X dX0_readItem_25 (by decide) (fun c25 => ?_) (fun c25 => ?_)
      · have s1 : H1 5 = nI (q1.2 + 1) := by rw [s01, c25]; rfl
        have l1 := xIs_lt c25
        refine K_aload_n X 0 dX0_readItem_30 rfl rfl ?_
        refine K_aload_n X 0 dX0_readItem_31 rfl rfl ?_
        refine K_iconst X dX0_readItem_32 cii_1 ?_
        refine K_sipush X dX0_readItem_33 cis_20000 ?_
        refine K_callVP X (c_X0_readNumber l D b _ H1 T n (q1.2 + 1) _ _ hP hn z1 hT hR s1 (by omega) (by omega) (by omega)) my_X0_readNumber mv_X0_readNumber wm_X0_33 sf_t rfl ⟨rfl, rfl, Nat.le_of_ble_eq_true rfl, Nat.le_of_ble_eq_true rfl, Nat.le_of_ble_eq_true rfl, Nat.le_of_ble_eq_true rfl⟩ rfl rfl (Nat.le_of_ble_eq_true rfl) dX0_readItem_36 (fun σ36 h36 => ?_)
        obtain ⟨G2, rfl, a2, b2⟩ := h36
        rcases hq2 : xNum T n 1 20000 (q1.2 + 1) with _ | q2
        · rw [hq2] at b2
          refine K_putI X 2 kFd0 rfl (by decide) sf_t wf_X0_40 rfl rfl rfl dX0_readItem_39 ?_
          refine K_st (wI_upd rfl) ?_
          obtain ⟨K2, hK2⟩ : ∃ z, z = upd G2 2 (-6) := ⟨_, rfl⟩
          refine K_st (σ' := wI σ 188 K2) (by rw [hK2]; rfl) ?_
          have zz2 : K2 0 = nI n := by rw [hK2]; exact (a2 0 (by decide)).trans z1
          have ss2 : K2 5 = nI (q1.2 + 1) := by rw [hK2]; exact b2
          have v2 : K2 2 = -6 := by rw [hK2]; exact if_pos rfl
          have rr21 : K2 1 = nI q1.1 := by rw [hK2]; exact (if_neg (by decide)).trans ((a2 1 (by decide)).trans r11)
          refine K_aload_n X 0 dX0_readItem_42 rfl rfl ?_
          refine K_get X 2 kFd0 rfl (by decide) sf_t wf_X0_40 rfl (v := .int (-6)) (congrArg Value.int ((congrFun wI_self 2).trans v2)) dX0_readItem_43 ?_
          refine K_bipush X dX0_readItem_46 cib_m6 ?_
          refine K_icmp_eq (tgt := 60) X dX0_readItem_48 (by decide) (fun c48 => ?_) (fun c48 => ?_)
          · have hX : xItem T n p = (none, q1.2 + 1) := by unfold xItem; rw [hq1]; show xI2 T n q1.1 q1.2 = _; unfold xI2; rw [if_pos c25, hq2]
            refine K_iconst X dX0_readItem_60 cii_0 ?_
            exact K_zret X false rfl hQ dX0_readItem_61 (⟨by rw [hX] <;> rfl, K2, rfl, zz2.trans h0.symm, by rw [hX]; exact ss2, by rw [hX]; intro q hq; cases hq⟩)
          · exact absurd rfl c48
        · rw [hq2] at b2
          have bb2 := xNum_b hq2
          refine K_putI X 2 kFd0 rfl (by decide) sf_t wf_X0_40 rfl rfl rfl dX0_readItem_39 ?_
          refine K_st (wI_upd rfl) ?_
          obtain ⟨K2, hK2⟩ : ∃ z, z = upd G2 2 (nI q2.1) := ⟨_, rfl⟩
          refine K_st (σ' := wI σ 188 K2) (by rw [hK2]; rfl) ?_
          have zz2 : K2 0 = nI n := by rw [hK2]; exact (a2 0 (by decide)).trans z1
          have ss2 : K2 5 = nI (q2.2) := by rw [hK2]; exact b2
          have v2 : K2 2 = nI q2.1 := by rw [hK2]; exact if_pos rfl
          have rr21 : K2 1 = nI q1.1 := by rw [hK2]; exact (if_neg (by decide)).trans ((a2 1 (by decide)).trans r11)
          refine K_aload_n X 0 dX0_readItem_42 rfl rfl ?_
          refine K_get X 2 kFd0 rfl (by decide) sf_t wf_X0_40 rfl (v := .int (nI q2.1)) (congrArg Value.int ((congrFun wI_self 2).trans v2)) dX0_readItem_43 ?_
          refine K_bipush X dX0_readItem_46 cib_m6 ?_
          refine K_icmp_eq (tgt := 60) X dX0_readItem_48 (by decide) (fun c48 => ?_) (fun c48 => ?_)
          · exact absurd c48 (qO_ne (by omega))
          · refine K_aload_n X 0 dX0_readItem_51 rfl rfl ?_
            refine K_bipush X dX0_readItem_52 cib_47 ?_
            refine K_callVE X (c_X0_skipSign l D b _ K2 T n q2.2 47 hP hn zz2 hT hR ss2 bb2.2.1 (by decide)) my_X0_skipSign mv_X0_skipSign wm_X0_29 sf_t rfl ⟨rfl, rfl, Nat.le_of_ble_eq_true rfl, Nat.le_of_ble_eq_true rfl, Nat.le_of_ble_eq_true rfl, Nat.le_of_ble_eq_true rfl⟩ rfl rfl (Nat.le_of_ble_eq_true rfl) dX0_readItem_54 ?_
            obtain ⟨H2, hH2⟩ : ∃ z, z = upd K2 5 (nI (q2.2 + (if xIs T n 47 q2.2 = true then 1 else 0))) := ⟨_, rfl⟩
            rw [← hH2]
            have z2 : H2 0 = nI n := by rw [hH2]; exact zz2
            have s02 : H2 5 = nI (q2.2 + (if xIs T n 47 q2.2 = true then 1 else 0)) := by rw [hH2]; exact if_pos rfl
            have r21 : H2 1 = nI q1.1 := by rw [hH2]; exact (if_neg (by decide)).trans rr21
            have r22 : H2 2 = nI q2.1 := by rw [hH2]; exact (if_neg (by decide)).trans v2
            refine K_ifB_ne (tgt := 62) X dX0_readItem_57 (by decide) (fun c57 => ?_) (fun c57 => ?_)
            · have s2 : H2 5 = nI (q2.2 + 1) := by rw [s02, c57]; rfl
              have l2 := xIs_lt c57
              refine K_aload_n X 0 dX0_readItem_62 rfl rfl ?_
              refine K_aload_n X 0 dX0_readItem_63 rfl rfl ?_
              refine K_iconst X dX0_readItem_64 cii_0 ?_
              refine K_bipush X dX0_readItem_65 cib_100 ?_
              refine K_callVP X (c_X0_readNumber l D b _ H2 T n (q2.2 + 1) _ _ hP hn z2 hT hR s2 (by omega) (by omega) (by omega)) my_X0_readNumber mv_X0_readNumber wm_X0_33 sf_t rfl ⟨rfl, rfl, Nat.le_of_ble_eq_true rfl, Nat.le_of_ble_eq_true rfl, Nat.le_of_ble_eq_true rfl, Nat.le_of_ble_eq_true rfl⟩ rfl rfl (Nat.le_of_ble_eq_true rfl) dX0_readItem_67 (fun σ67 h67 => ?_)
              obtain ⟨G3, rfl, a3, b3⟩ := h67
              rcases hq3 : xNum T n 0 100 (q2.2 + 1) with _ | q3
              · rw [hq3] at b3
                refine K_putI X 3 kFd0 rfl (by decide) sf_t wf_X0_43 rfl rfl rfl dX0_readItem_70 ?_
                refine K_st (wI_upd rfl) ?_
                obtain ⟨K3, hK3⟩ : ∃ z, z = upd G3 3 (-6) := ⟨_, rfl⟩
                refine K_st (σ' := wI σ 188 K3) (by rw [hK3]; rfl) ?_
                have zz3 : K3 0 = nI n := by rw [hK3]; exact (a3 0 (by decide)).trans z2
                have ss3 : K3 5 = nI (q2.2 + 1) := by rw [hK3]; exact b3
                have v3 : K3 3 = -6 := by rw [hK3]; exact if_pos rfl
                have rr31 : K3 1 = nI q1.1 := by rw [hK3]; exact (if_neg (by decide)).trans ((a3 1 (by decide)).trans r21)
                have rr32 : K3 2 = nI q2.1 := by rw [hK3]; exact (if_neg (by decide)).trans ((a3 2 (by decide)).trans r22)
                refine K_aload_n X 0 dX0_readItem_73 rfl rfl ?_
                refine K_get X 3 kFd0 rfl (by decide) sf_t wf_X0_43 rfl (v := .int (-6)) (congrArg Value.int ((congrFun wI_self 3).trans v3)) dX0_readItem_74 ?_
                refine K_bipush X dX0_readItem_77 cib_m6 ?_
                refine K_icmp_eq (tgt := 91) X dX0_readItem_79 (by decide) (fun c79 => ?_) (fun c79 => ?_)
                · have hX : xItem T n p = (none, q2.2 + 1) := by unfold xItem; rw [hq1]; show xI2 T n q1.1 q1.2 = _; unfold xI2; rw [if_pos c25, hq2]; show xI3 T n q1.1 q2.1 q2.2 = _; unfold xI3; rw [if_pos c57, hq3]
                  refine K_iconst X dX0_readItem_91 cii_0 ?_
                  exact K_zret X false rfl hQ dX0_readItem_92 (⟨by rw [hX] <;> rfl, K3, rfl, zz3.trans h0.symm, by rw [hX]; exact ss3, by rw [hX]; intro q hq; cases hq⟩)
                · exact absurd rfl c79
              · rw [hq3] at b3
                have bb3 := xNum_b hq3
                refine K_putI X 3 kFd0 rfl (by decide) sf_t wf_X0_43 rfl rfl rfl dX0_readItem_70 ?_
                refine K_st (wI_upd rfl) ?_
                obtain ⟨K3, hK3⟩ : ∃ z, z = upd G3 3 (nI q3.1) := ⟨_, rfl⟩
                refine K_st (σ' := wI σ 188 K3) (by rw [hK3]; rfl) ?_
                have zz3 : K3 0 = nI n := by rw [hK3]; exact (a3 0 (by decide)).trans z2
                have ss3 : K3 5 = nI (q3.2) := by rw [hK3]; exact b3
                have v3 : K3 3 = nI q3.1 := by rw [hK3]; exact if_pos rfl
                have rr31 : K3 1 = nI q1.1 := by rw [hK3]; exact (if_neg (by decide)).trans ((a3 1 (by decide)).trans r21)
                have rr32 : K3 2 = nI q2.1 := by rw [hK3]; exact (if_neg (by decide)).trans ((a3 2 (by decide)).trans r22)
                refine K_aload_n X 0 dX0_readItem_73 rfl rfl ?_
                refine K_get X 3 kFd0 rfl (by decide) sf_t wf_X0_43 rfl (v := .int (nI q3.1)) (congrArg Value.int ((congrFun wI_self 3).trans v3)) dX0_readItem_74 ?_
                refine K_bipush X dX0_readItem_77 cib_m6 ?_
                refine K_icmp_eq (tgt := 91) X dX0_readItem_79 (by decide) (fun c79 => ?_) (fun c79 => ?_)
                · exact absurd c79 (qO_ne (by omega))
                · refine K_aload_n X 0 dX0_readItem_82 rfl rfl ?_
                  refine K_bipush X dX0_readItem_83 cib_64 ?_
                  refine K_callVE X (c_X0_skipSign l D b _ K3 T n q3.2 64 hP hn zz3 hT hR ss3 bb3.2.1 (by decide)) my_X0_skipSign mv_X0_skipSign wm_X0_29 sf_t rfl ⟨rfl, rfl, Nat.le_of_ble_eq_true rfl, Nat.le_of_ble_eq_true rfl, Nat.le_of_ble_eq_true rfl, Nat.le_of_ble_eq_true rfl⟩ rfl rfl (Nat.le_of_ble_eq_true rfl) dX0_readItem_85 ?_
                  obtain ⟨H3, hH3⟩ : ∃ z, z = upd K3 5 (nI (q3.2 + (if xIs T n 64 q3.2 = true then 1 else 0))) := ⟨_, rfl⟩
                  rw [← hH3]
                  have z3 : H3 0 = nI n := by rw [hH3]; exact zz3
                  have s03 : H3 5 = nI (q3.2 + (if xIs T n 64 q3.2 = true then 1 else 0)) := by rw [hH3]; exact if_pos rfl
                  have r31 : H3 1 = nI q1.1 := by rw [hH3]; exact (if_neg (by decide)).trans rr31
                  have r32 : H3 2 = nI q2.1 := by rw [hH3]; exact (if_neg (by decide)).trans rr32
                  have r33 : H3 3 = nI q3.1 := by rw [hH3]; exact (if_neg (by decide)).trans v3
                  refine K_ifB_ne (tgt := 93) X dX0_readItem_88 (by decide) (fun c88 => ?_) (fun c88 => ?_)
                  · have s3 : H3 5 = nI (q3.2 + 1) := by rw [s03, c88]; rfl
                    have l3 := xIs_lt c88
                    refine K_aload_n X 0 dX0_readItem_93 rfl rfl ?_
                    refine K_aload_n X 0 dX0_readItem_94 rfl rfl ?_
                    refine K_iconst X dX0_readItem_95 cii_0 ?_
                    refine K_iconst X dX0_readItem_96 cii_5 ?_
                    refine K_callVP X (c_X0_readNumber l D b _ H3 T n (q3.2 + 1) _ _ hP hn z3 hT hR s3 (by omega) (by omega) (by omega)) my_X0_readNumber mv_X0_readNumber wm_X0_33 sf_t rfl ⟨rfl, rfl, Nat.le_of_ble_eq_true rfl, Nat.le_of_ble_eq_true rfl, Nat.le_of_ble_eq_true rfl, Nat.le_of_ble_eq_true rfl⟩ rfl rfl (Nat.le_of_ble_eq_true rfl) dX0_readItem_97 (fun σ97 h97 => ?_)
                    obtain ⟨G4, rfl, a4, b4⟩ := h97
                    rcases hq4 : xNum T n 0 5 (q3.2 + 1) with _ | q4
                    · rw [hq4] at b4
                      refine K_putI X 4 kFd0 rfl (by decide) sf_t wf_X0_46 rfl rfl rfl dX0_readItem_100 ?_
                      refine K_st (wI_upd rfl) ?_
                      obtain ⟨K4, hK4⟩ : ∃ z, z = upd G4 4 (-6) := ⟨_, rfl⟩
                      refine K_st (σ' := wI σ 188 K4) (by rw [hK4]; rfl) ?_
                      have zz4 : K4 0 = nI n := by rw [hK4]; exact (a4 0 (by decide)).trans z3
                      have ss4 : K4 5 = nI (q3.2 + 1) := by rw [hK4]; exact b4
                      have v4 : K4 4 = -6 := by rw [hK4]; exact if_pos rfl
                      have rr41 : K4 1 = nI q1.1 := by rw [hK4]; exact (if_neg (by decide)).trans ((a4 1 (by decide)).trans r31)
                      have rr42 : K4 2 = nI q2.1 := by rw [hK4]; exact (if_neg (by decide)).trans ((a4 2 (by decide)).trans r32)
                      have rr43 : K4 3 = nI q3.1 := by rw [hK4]; exact (if_neg (by decide)).trans ((a4 3 (by decide)).trans r33)
                      refine K_aload_n X 0 dX0_readItem_103 rfl rfl ?_
                      refine K_get X 4 kFd0 rfl (by decide) sf_t wf_X0_46 rfl (v := .int (-6)) (congrArg Value.int ((congrFun wI_self 4).trans v4)) dX0_readItem_104 ?_
                      refine K_bipush X dX0_readItem_107 cib_m6 ?_
                      refine K_icmp_eq (tgt := 116) X dX0_readItem_109 (by decide) (fun c109 => ?_) (fun c109 => ?_)
                      · have hX : xItem T n p = (none, q3.2 + 1) := by unfold xItem; rw [hq1]; show xI2 T n q1.1 q1.2 = _; unfold xI2; rw [if_pos c25, hq2]; show xI3 T n q1.1 q2.1 q2.2 = _; unfold xI3; rw [if_pos c57, hq3]; show xI4 T n q1.1 q2.1 q3.1 q3.2 = _; unfold xI4; rw [if_pos c88, hq4]
                        refine K_iconst X dX0_readItem_116 cii_0 ?_
                        exact K_zret X false rfl hQ dX0_readItem_117 (⟨by rw [hX] <;> rfl, K4, rfl, zz4.trans h0.symm, by rw [hX]; exact ss4, by rw [hX]; intro q hq; cases hq⟩)
                      · exact absurd rfl c109
                    · rw [hq4] at b4
                      have bb4 := xNum_b hq4
                      refine K_putI X 4 kFd0 rfl (by decide) sf_t wf_X0_46 rfl rfl rfl dX0_readItem_100 ?_
                      refine K_st (wI_upd rfl) ?_
                      obtain ⟨K4, hK4⟩ : ∃ z, z = upd G4 4 (nI q4.1) := ⟨_, rfl⟩
                      refine K_st (σ' := wI σ 188 K4) (by rw [hK4]; rfl) ?_
                      have zz4 : K4 0 = nI n := by rw [hK4]; exact (a4 0 (by decide)).trans z3
                      have ss4 : K4 5 = nI (q4.2) := by rw [hK4]; exact b4
                      have v4 : K4 4 = nI q4.1 := by rw [hK4]; exact if_pos rfl
                      have rr41 : K4 1 = nI q1.1 := by rw [hK4]; exact (if_neg (by decide)).trans ((a4 1 (by decide)).trans r31)
                      have rr42 : K4 2 = nI q2.1 := by rw [hK4]; exact (if_neg (by decide)).trans ((a4 2 (by decide)).trans r32)
                      have rr43 : K4 3 = nI q3.1 := by rw [hK4]; exact (if_neg (by decide)).trans ((a4 3 (by decide)).trans r33)
                      refine K_aload_n X 0 dX0_readItem_103 rfl rfl ?_
                      refine K_get X 4 kFd0 rfl (by decide) sf_t wf_X0_46 rfl (v := .int (nI q4.1)) (congrArg Value.int ((congrFun wI_self 4).trans v4)) dX0_readItem_104 ?_
                      refine K_bipush X dX0_readItem_107 cib_m6 ?_
                      refine K_icmp_eq (tgt := 116) X dX0_readItem_109 (by decide) (fun c109 => ?_) (fun c109 => ?_)
                      · exact absurd c109 (qO_ne (by omega))
                      · have hX : xItem T n p = (some (q1.1, q2.1, q3.1, q4.1), q4.2) := by unfold xItem; rw [hq1]; show xI2 T n q1.1 q1.2 = _; unfold xI2; rw [if_pos c25, hq2]; show xI3 T n q1.1 q2.1 q2.2 = _; unfold xI3; rw [if_pos c57, hq3]; show xI4 T n q1.1 q2.1 q3.1 q3.2 = _; unfold xI4; rw [if_pos c88, hq4]
                        refine K_iconst X dX0_readItem_112 cii_1 ?_
                        refine K_goto (tgt := 117) X dX0_readItem_113 (by decide) ?_
                        exact K_zret X true rfl hQ dX0_readItem_117 (⟨by rw [hX] <;> rfl, K4, rfl, zz4.trans h0.symm, by rw [hX]; exact ss4, by rw [hX]; intro q hq; cases hq; exact ⟨rr41, rr42, rr43, v4⟩⟩)
                  · have hX : xItem T n p = (none, q3.2) := by unfold xItem; rw [hq1]; show xI2 T n q1.1 q1.2 = _; unfold xI2; rw [if_pos c25, hq2]; show xI3 T n q1.1 q2.1 q2.2 = _; unfold xI3; rw [if_pos c57, hq3]; show xI4 T n q1.1 q2.1 q3.1 q3.2 = _; unfold xI4; rw [if_neg (by rw [c88]; decide)]
                    refine K_iconst X dX0_readItem_91 cii_0 ?_
                    exact K_zret X false rfl hQ dX0_readItem_92 (⟨by rw [hX] <;> rfl, H3, rfl, z3.trans h0.symm, by rw [hX, s03, c88] <;> rfl, by rw [hX]; intro q hq; cases hq⟩)
            · have hX : xItem T n p = (none, q2.2) := by unfold xItem; rw [hq1]; show xI2 T n q1.1 q1.2 = _; unfold xI2; rw [if_pos c25, hq2]; show xI3 T n q1.1 q2.1 q2.2 = _; unfold xI3; rw [if_neg (by rw [c57]; decide)]
              refine K_iconst X dX0_readItem_60 cii_0 ?_
              exact K_zret X false rfl hQ dX0_readItem_61 (⟨by rw [hX] <;> rfl, H2, rfl, z2.trans h0.symm, by rw [hX, s02, c57] <;> rfl, by rw [hX]; intro q hq; cases hq⟩)
      · have hX : xItem T n p = (none, q1.2) := by unfold xItem; rw [hq1]; show xI2 T n q1.1 q1.2 = _; unfold xI2; rw [if_neg (by rw [c25]; decide)]
        refine K_iconst X dX0_readItem_28 cii_0 ?_
        exact K_zret X false rfl hQ dX0_readItem_29 (⟨by rw [hX] <;> rfl, H1, rfl, z1.trans h0.symm, by rw [hX, s01, c25] <;> rfl, by rw [hX]; intro q hq; cases hq⟩)

set_option maxHeartbeats 4000000 in
set_option maxRecDepth 100000 in
theorem c_X0_firstError (l : Launch) (D : KD) (b : Nat) (σ : KS) (F : Nat → Int32) (T : Nat → Nat) (n : Nat) (hP : PF σ.2.2) (hn : n ≤ 80) (h0 : F 0 = nI n) (hT : ∀ j, j < n → T j < 128) (hR : ∀ j, j < n → σ.1 189 j = nI (T j)) : Ct l D b yX0_firstError cX0_firstError 2 (some .int) (rM 3 66) 0 0 [rf b 188] shF (wI σ 188 F) shF (pS (some (.int (xErr T n 81 0))) (fun τ => ∃ G, τ = wI σ 188 G ∧ G 0 = F 0)) := by
  refine Ct.of (ls := [(0, rf b 188)]) (by decide) (Nat.le_of_ble_eq_true rfl) rfl ?_
  intro pg e s m args below meth c Q hQ X hnm
  refine K_aload_n X 0 dX0_firstError_0 rfl rfl ?_
  refine K_callVE0 X (c_X0_startReading l D b _ F) my_X0_startReading mv_X0_startReading wm_X0_19 sf_t rfl ⟨rfl, rfl, Nat.le_of_ble_eq_true rfl, Nat.le_of_ble_eq_true rfl, Nat.le_of_ble_eq_true rfl, Nat.le_of_ble_eq_true rfl⟩ rfl rfl (Nat.le_of_ble_eq_true rfl) dX0_firstError_1 ?_
  refine K_iconst X dX0_firstError_4 cii_0 ?_
  refine K_istore_n X (ls' := [(1, _), (0, _)]) dX0_firstError_5 rfl (by decide) rfl ?_
  have loop : ∀ i : Nat, i ≤ 80 → ∀ (p : Nat) (G : Nat → Int32), G 0 = nI n → G 5 = nI p → p ≤ n → 2 * i ≤ p → xErr T n (81 - i) p = xErr T n 81 0 → K pg l e (rM 3 66) s m args below meth c Q D b 2 0 0 shF (wI σ 188 G) 6 [(0, rf b 188), (1, .int (nI i))] [] := by
    refine kup (fun i hi ih => ?_)
    intro p G g0 g5 hp hip hg
    rw [show 81 - i = (80 - i) + 1 from by omega] at hg
    have hb := xItem_b (T := T) hp
    refine K_iload_n X 1 dX0_firstError_6 rfl rfl ?_
    refine K_bipush X dX0_firstError_7 cib_80 ?_
    refine K_icmpN_ge (tgt := 58) X dX0_firstError_9 (by decide) (by omega) (by omega) (fun c9 => ?_) (fun c9 => ?_)
    · exfalso
      omega
    · refine K_aload_n X 0 dX0_firstError_12 rfl rfl ?_
      refine K_callVP X (c_X0_readItem l D b _ G T n p hP hn g0 hT hR g5 hp) my_X0_readItem mv_X0_readItem wm_X0_22 sf_t rfl ⟨rfl, rfl, Nat.le_of_ble_eq_true rfl, Nat.le_of_ble_eq_true rfl, Nat.le_of_ble_eq_true rfl, Nat.le_of_ble_eq_true rfl⟩ rfl rfl (Nat.le_of_ble_eq_true rfl) dX0_firstError_13 (fun σ13 h13 => ?_)
      obtain ⟨Y, rfl, y0, y5, yq⟩ := h13
      refine K_ifB_ne (tgt := 24) X dX0_firstError_16 (by decide) (fun c16 => ?_) (fun c16 => ?_)
      · obtain ⟨q, hq⟩ := isS_t c16
        obtain ⟨z1, -⟩ := hb.2 q hq
        refine K_aload_n X 0 dX0_firstError_24 rfl rfl ?_
        refine K_get X 5 kFd0 rfl (by decide) sf_t wf_X0_26 rfl (v := .int (nI (xItem T n p).2)) (congrArg Value.int ((congrFun wI_self 5).trans y5)) dX0_firstError_25 ?_
        refine K_aload_n X 0 dX0_firstError_28 rfl rfl ?_
        refine K_get X 0 kFd0 rfl (by decide) sf_t wf_X0_15 rfl (v := .int (nI n)) (congrArg Value.int ((congrFun wI_self 0).trans (y0.trans g0))) dX0_firstError_29 ?_
        refine K_icmpN_lt (tgt := 38) X dX0_firstError_32 (by decide) (by omega) (by omega) (fun c32 => ?_) (fun c32 => ?_)
        · refine K_aload_n X 0 dX0_firstError_38 rfl rfl ?_
          refine K_bipush X dX0_firstError_39 cib_59 ?_
          refine K_callVE X (c_X0_skipSign l D b _ Y T n (xItem T n p).2 59 hP hn (y0.trans g0) hT hR y5 hb.1 (by decide)) my_X0_skipSign mv_X0_skipSign wm_X0_29 sf_t rfl ⟨rfl, rfl, Nat.le_of_ble_eq_true rfl, Nat.le_of_ble_eq_true rfl, Nat.le_of_ble_eq_true rfl, Nat.le_of_ble_eq_true rfl⟩ rfl rfl (Nat.le_of_ble_eq_true rfl) dX0_firstError_41 ?_
          refine K_ifB_ne (tgt := 52) X dX0_firstError_44 (by decide) (fun c44 => ?_) (fun c44 => ?_)
          · refine K_iinc X 1 (ls' := [(1, _), (0, _)]) dX0_firstError_52 rfl (inc_1 _) (by decide) rfl ?_
            refine K_goto (tgt := 6) X dX0_firstError_55 (by decide) ?_
            exact K_sub [1, 0] rfl (ih (by omega) ((xItem T n p).2 + 1) _ (y0.trans g0) ((if_pos rfl).trans (by rw [c44]; rfl)) (xIs_lt c44) (by omega) (by rw [← hg, xErr_s hq, if_neg (by omega), if_pos c44, show 81 - (i + 1) = 80 - i from by omega]))
          · refine K_aload_n X 0 dX0_firstError_47 rfl rfl ?_
            refine K_get X 5 kFd0 rfl (by decide) sf_t wf_X0_26 rfl (v := .int (nI (xItem T n p).2)) (congrArg Value.int ((congrFun wI_self 5).trans ((if_pos rfl).trans (by rw [c44]; rfl)))) dX0_firstError_48 ?_
            exact K_iret X hQ dX0_firstError_51 (⟨by rw [← hg, xErr_s hq, if_neg (by omega), if_neg (by rw [c44]; decide)], _, rfl, y0.trans (g0.trans h0.symm)⟩)
        · refine K_bipush X dX0_firstError_35 cib_m6 ?_
          exact K_iret X hQ dX0_firstError_37 (⟨by rw [← hg, xErr_s hq, if_pos (by omega)] <;> rfl, Y, rfl, y0.trans (g0.trans h0.symm)⟩)
      · refine K_aload_n X 0 dX0_firstError_19 rfl rfl ?_
        refine K_get X 5 kFd0 rfl (by decide) sf_t wf_X0_26 rfl (v := .int (nI (xItem T n p).2)) (congrArg Value.int ((congrFun wI_self 5).trans y5)) dX0_firstError_20 ?_
        exact K_iret X hQ dX0_firstError_23 (⟨by rw [← hg, xErr_n (isS_f c16)], Y, rfl, y0.trans (g0.trans h0.symm)⟩)
  exact K_sub [1, 0] rfl (loop 0 (Nat.zero_le _) 0 _ h0 rfl (Nat.zero_le _) (Nat.zero_le _) rfl)

set_option maxHeartbeats 4000000 in
set_option maxRecDepth 100000 in
theorem c_X5_syntaxError (l : Launch) (D : KD) (b : Nat) (σ : KS) (N : Nat → Nat) (r : Nat) (hs : Nat → Nat → Nat) (T : Nat → Nat) (n : Nat) (hC : CI σ N r hs T n) (h2 : N 2 ≤ 16) (hn : n ≤ 80) (hT : ∀ j, j < n → T j < 128) : Ct l D b yX5_syntaxError cX5_syntaxError 1 (some .int) (rM 4 87) 0 0 [rf b 0] shF σ shF (pS (some (.int (xErr T n 81 0))) (fun τ => Cf σ τ ∧ CI τ N r hs T n)) := by
  have hP := hC.1
  obtain ⟨x0, x1⟩ := hC.2.2.2.2
  refine Ct.of (ls := [(0, rf b 0)]) (by decide) (Nat.le_of_ble_eq_true rfl) rfl ?_
  intro pg e s m args below meth c Q hQ X hnm
  refine K_st (σ' := wI σ 188 (σ.1 188)) (wI_id rfl).symm ?_
  refine K_aload_n X 0 dX5_syntaxError_0 rfl rfl ?_
  refine K_get X 4 kFd5 rfl (by decide) sf_c wf_X5_36 rfl (v := rf b (188)) (kv_o (pf_04 hP)) dX5_syntaxError_1 ?_
  refine K_callVP X (c_X0_firstError l D b σ (σ.1 188) T n hP hn x0 hT x1) my_X0_firstError mv_X0_firstError wm_X5_230 sf_t rfl ⟨rfl, rfl, Nat.le_of_ble_eq_true rfl, Nat.le_of_ble_eq_true rfl, Nat.le_of_ble_eq_true rfl, Nat.le_of_ble_eq_true rfl⟩ rfl rfl (Nat.le_of_ble_eq_true rfl) dX5_syntaxError_4 (fun σ4 h4 => ?_)
  obtain ⟨G, rfl, g0⟩ := h4
  exact K_iret X hQ dX5_syntaxError_7 (⟨rfl, Cf.i (by decide), hC.ro h2 (Or.inr ⟨rfl, g0⟩)⟩)

set_option maxHeartbeats 4000000 in
set_option maxRecDepth 100000 in
theorem c_X5_clearText (l : Launch) (D : KD) (b : Nat) (σ : KS) (N : Nat → Nat) (r : Nat) (hs : Nat → Nat → Nat) (T : Nat → Nat) (n : Nat) (hC : CI σ N r hs T n) (h2 : N 2 ≤ 16) : Ct l D b yX5_clearText cX5_clearText 2 (some .int) (rM 0 0) 0 0 [rf b 0] shF σ shF (pS (some (.int (nI n))) (fun τ => Cf σ τ ∧ CI τ N r hs T 0)) := by
  have hP := hC.1
  obtain ⟨x0, x1⟩ := hC.2.2.2.2
  refine Ct.of (ls := [(0, rf b 0)]) (by decide) (Nat.le_of_ble_eq_true rfl) rfl ?_
  intro pg e s m args below meth c Q hQ X hnm
  refine K_aload_n X 0 dX5_clearText_0 rfl rfl ?_
  refine K_get X 4 kFd5 rfl (by decide) sf_c wf_X5_36 rfl (v := rf b (188)) (kv_o (pf_04 hP)) dX5_clearText_1 ?_
  refine K_get X 0 kFd0 rfl (by decide) sf_t wf_X5_223 rfl (v := .int (nI n)) (congrArg Value.int (x0)) dX5_clearText_4 ?_
  refine K_istore_n X (ls' := [(1, _), (0, _)]) dX5_clearText_7 rfl (by decide) rfl ?_
  refine K_aload_n X 1 dX5_clearText_8 rfl rfl ?_
  refine K_get X 4 kFd5 rfl (by decide) sf_c wf_X5_36 rfl (v := rf b (188)) (kv_o (pf_04 hP)) dX5_clearText_9 ?_
  refine K_iconst X dX5_clearText_12 cii_0 ?_
  refine K_putI X 0 kFd0 rfl (by decide) sf_t wf_X5_223 rfl rfl rfl dX5_clearText_13 ?_
  refine K_iload_n X 0 dX5_clearText_16 rfl rfl ?_
  exact K_iret X hQ dX5_clearText_17 (⟨rfl, Cf.i (by decide), hC.tx h2 (fun x hx => wI_ne (by omega)) rfl ⟨(congrFun wI_self 0).trans (if_pos rfl), fun k hk => by omega⟩⟩)

theorem ty_at {σ : KS} {T : Nat → Nat} {n u : Nat} {G : Nat → Int32} (x1 : ∀ k, k < n → σ.1 189 k = nI (T k)) {k : Nat} (hk : k < n + 1) : (wI (wI σ 189 (upd (σ.1 189) n (nI u))) 188 G).1 189 k = nI (uN T n u k) := by
  rw [wI_ne (by decide), wI_self]
  unfold upd uN
  by_cases q : k = n
  · rw [if_pos q, if_pos q]
  · rw [if_neg q, if_neg q]; exact x1 k (by omega)

set_option maxHeartbeats 4000000 in
set_option maxRecDepth 100000 in
theorem c_X5_type (l : Launch) (D : KD) (b : Nat) (σ : KS) (N : Nat → Nat) (r : Nat) (hs : Nat → Nat → Nat) (T : Nat → Nat) (n : Nat) (hC : CI σ N r hs T n) (h2 : N 2 ≤ 16) (x : Int32) (hn : n ≤ 80) : Ct l D b yX5_type cX5_type 2 (some .int) (rM 1 22) 0 0 [rf b 0, .int x] shF σ shF (pS (some (.int (oType T n x).1)) (fun τ => Cf σ τ ∧ CI τ N r hs (oType T n x).2.1 (oType T n x).2.2)) := by
  have hP := hC.1
  obtain ⟨x0, x1⟩ := hC.2.2.2.2
  refine Ct.of (ls := [(0, rf b 0), (1, .int x)]) (by decide) (Nat.le_of_ble_eq_true rfl) rfl ?_
  intro pg e s m args below meth c Q hQ X hnm
  refine K_iload_n X 1 dX5_type_0 rfl rfl ?_
  refine K_bipush X dX5_type_1 cib_33 ?_
  refine K_bipush X dX5_type_3 cib_126 ?_
  refine K_callSE X (c_X5_withinQ l D b _ _ _ _) my_X5_within wt_X5_within wm_X5_44 ⟨rfl, rfl, Nat.le_of_ble_eq_true rfl, Nat.le_of_ble_eq_true rfl, Nat.le_of_ble_eq_true rfl, Nat.le_of_ble_eq_true rfl⟩ rfl rfl (Nat.le_of_ble_eq_true rfl) dX5_type_5 ?_
  refine K_ifB_ne (tgt := 14) X dX5_type_8 (by decide) (fun c8 => ?_) (fun c8 => ?_)
  · obtain ⟨u, hlu, hhu, rfl⟩ := qIn_ex (lo := 33) (hi := 126) (by decide) (by decide) c8
    refine K_aload_n X 0 dX5_type_14 rfl rfl ?_
    refine K_get X 4 kFd5 rfl (by decide) sf_c wf_X5_36 rfl (v := rf b (188)) (kv_o (pf_04 hP)) dX5_type_15 ?_
    refine K_get X 0 kFd0 rfl (by decide) sf_t wf_X5_223 rfl (v := .int (nI n)) (congrArg Value.int (x0)) dX5_type_18 ?_
    refine K_bipush X dX5_type_21 cib_80 ?_
    refine K_icmpN_lt (tgt := 29) X dX5_type_23 (by decide) (by omega) (by omega) (fun c23 => ?_) (fun c23 => ?_)
    · refine K_st (σ' := wI σ 188 (σ.1 188)) (wI_id rfl).symm ?_
      refine K_aload_n X 0 dX5_type_29 rfl rfl ?_
      refine K_get X 4 kFd5 rfl (by decide) sf_c wf_X5_36 rfl (v := rf b (188)) (kv_o (pf_04 hP)) dX5_type_30 ?_
      refine K_iload_n X 1 dX5_type_33 rfl rfl ?_
      refine K_i2c X dX5_type_34 ?_
      rw [i2c_nI (by omega)]
      refine K_callVE0 X (c_X0_append l D b σ (σ.1 188) n _ _ hP (by omega) x0 (nar_nI (by omega))) my_X0_append mv_X0_append wm_X5_226 sf_t rfl ⟨rfl, rfl, Nat.le_of_ble_eq_true rfl, Nat.le_of_ble_eq_true rfl, Nat.le_of_ble_eq_true rfl, Nat.le_of_ble_eq_true rfl⟩ rfl rfl (Nat.le_of_ble_eq_true rfl) dX5_type_35 ?_
      refine K_aload_n X 0 dX5_type_38 rfl rfl ?_
      refine K_get X 4 kFd5 rfl (by decide) sf_c wf_X5_36 rfl (v := rf b (188)) (kv_o (pf_04 hP)) dX5_type_39 ?_
      refine K_get X 0 kFd0 rfl (by decide) sf_t wf_X5_223 rfl (v := .int (nI (n + 1))) (congrArg Value.int ((congrFun wI_self 0).trans (if_pos rfl))) dX5_type_42 ?_
      exact K_iret X hQ dX5_type_45 (by rw [show oType T n (nI u) = (nI (n + 1), uN T n u, n + 1) from by unfold oType; rw [if_pos c8, if_neg (by omega), tN_nI (by omega)]]; exact ⟨rfl, (Cf.i (by decide)).tr (Cf.i (by decide)), hC.tx h2 (fun x hx => by rw [wI_ne (by omega), wI_ne (by omega)]) rfl ⟨(congrFun wI_self 0).trans (if_pos rfl), fun k hk => ty_at x1 hk⟩⟩)
    · refine K_bipush X dX5_type_26 cib_m4 ?_
      exact K_iret X hQ dX5_type_28 (by rw [show oType T n (nI u) = (-4, T, n) from by unfold oType; rw [if_pos c8, if_pos (by omega)]]; exact ⟨rfl, Cf.rf, hC⟩)
  · refine K_bipush X dX5_type_11 cib_m2 ?_
    exact K_iret X hQ dX5_type_13 (by rw [show oType T n x = (-2, T, n) from by unfold oType; rw [qI_f c8]]; exact ⟨rfl, Cf.rf, hC⟩)
