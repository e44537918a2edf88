/-! THE REFERENCE: errors of the text, undo, the forecast of closing -/
set_option maxHeartbeats 4000000 in
set_option maxRecDepth 100000 in
theorem c_X6_findError (l : Launch) (D : KD) (b : Nat) (σ : KS) (F : Nat → Int32) (T : Nat → Nat) (n : Nat) (hP : PF σ.2.2) (hn : n ≤ 80) (h5 : F 5 = nI n) (hT : ∀ j, j < n → T j < 128) (hR : ∀ j, j < n → σ.1 194 j = nI (T j)) : Ct l D b yX6_findError cX6_findError 1 (some .int) (rM 4 90) 0 0 [rf b 190] shF (wI σ 190 F) shF (pS (some (.int (xErr T n 81 0))) (fun σ' => ∃ G, σ' = wI σ 190 G ∧ ∀ k, k < 6 → G k = F k)) := by
  refine Ct.of (ls := [(0, rf b 190)]) (by decide) (Nat.le_of_ble_eq_true rfl) rfl ?_
  intro pg e s m args below meth c Q hQ X hnm
  refine K_aload_n X 0 dX6_findError_0 rfl rfl ?_
  refine K_iconst X dX6_findError_1 cii_0 ?_
  refine K_putI X 6 kFd6 rfl (by decide) sf_m wf_X6_178 rfl rfl rfl dX6_findError_2 ?_
  refine K_st (wI_upd rfl) ?_
  have loop : ∀ (f p : Nat) (G : Nat → Int32), p ≤ n → n < p + f → (∀ k, k < 6 → G k = F k) → G 6 = nI p → xErr T n f p = xErr T n 81 0 → K pg l e (rM 4 90) s m args below meth c Q D b 1 0 0 shF (wI σ 190 G) 5 [(0, rf b 190)] [] := by
    intro f
    induction f with
    | zero => intro p G hp hf; omega
    | succ f ih =>
      intro p G hp hf g1 g6 hg
      have hb := xItem_b (T := T) hp
      refine K_aload_n X 0 dX6_findError_5 rfl rfl ?_
      refine K_callVP X (c_X6_readsItem l D b _ G T n p hP hn ((g1 5 (by omega)).trans h5) hT hR g6 hp) my_X6_readsItem mv_X6_readsItem wm_X6_209 sf_m rfl ⟨rfl, rfl, Nat.le_of_ble_eq_true rfl, Nat.le_of_ble_eq_true rfl, Nat.le_of_ble_eq_true rfl, Nat.le_of_ble_eq_true rfl⟩ rfl rfl (Nat.le_of_ble_eq_true rfl) dX6_findError_6 (fun σ6 h6 => ?_)
      obtain ⟨G1, rfl, a1, a6, a8⟩ := h6
      have a1 : ∀ k, k < 6 → G1 k = F k := fun k hk => (a1 k hk).trans (g1 k hk)
      refine K_ifB_ne (tgt := 17) X dX6_findError_9 (by decide) (fun c9 => ?_) (fun c9 => ?_)
      · obtain ⟨q, hq⟩ := isS_t c9
        have hq2 := (hb.2 q hq).1
        have hs := xErr_s (f := f) hq
        refine K_aload_n X 0 dX6_findError_17 rfl rfl ?_
        refine K_get X 6 kFd6 rfl (by decide) sf_m wf_X6_178 rfl (v := .int (nI (xItem T n p).2)) (congrArg Value.int ((congrFun wI_self 6).trans a6)) dX6_findError_18 ?_
        refine K_aload_n X 0 dX6_findError_21 rfl rfl ?_
        refine K_get X 5 kFd6 rfl (by decide) sf_m wf_X6_175 rfl (v := .int (nI n)) (congrArg Value.int ((congrFun wI_self 5).trans ((a1 5 (by omega)).trans h5))) dX6_findError_22 ?_
        refine K_icmpN_ne (tgt := 31) X dX6_findError_25 (by decide) (by omega) (by omega) (fun c25 => ?_) (fun c25 => ?_)
        · refine K_aload_n X 0 dX6_findError_31 rfl rfl ?_
          refine K_bipush X dX6_findError_32 cib_59 ?_
          refine K_callVE X (c_X6_isNext l D b _ G1 T n (xItem T n p).2 59 hP hn ((a1 5 (by omega)).trans h5) hT hR a6 hb.1 (by decide)) my_X6_isNext mv_X6_isNext wm_X6_194 sf_m rfl ⟨rfl, rfl, Nat.le_of_ble_eq_true rfl, Nat.le_of_ble_eq_true rfl, Nat.le_of_ble_eq_true rfl, Nat.le_of_ble_eq_true rfl⟩ rfl rfl (Nat.le_of_ble_eq_true rfl) dX6_findError_34 ?_
          refine K_ifB_ne (tgt := 5) X dX6_findError_37 (by decide) (fun c37 => ?_) (fun c37 => ?_)
          · refine ih ((xItem T n p).2 + 1) _ (xIs_lt c37) (by omega) (upd6 (by omega) a1) (by rw [c37]; rfl) ?_
            rw [← hg, hs, if_neg c25, if_pos c37]
          · refine K_aload_n X 0 dX6_findError_40 rfl rfl ?_
            refine K_get X 6 kFd6 rfl (by decide) sf_m wf_X6_178 rfl (v := .int (nI (xItem T n p).2)) (congrArg Value.int ((congrFun wI_self 6).trans (by rw [c37]; rfl))) dX6_findError_41 ?_
            exact K_iret X hQ dX6_findError_44 (⟨by rw [← hg, hs, if_neg c25, if_neg (by rw [c37]; decide)], _, rfl, upd6 (by omega) a1⟩)
        · refine K_bipush X dX6_findError_28 cib_m6 ?_
          exact K_iret X hQ dX6_findError_30 (⟨by rw [← hg, hs, if_pos c25], G1, rfl, a1⟩)
      · refine K_aload_n X 0 dX6_findError_12 rfl rfl ?_
        refine K_get X 6 kFd6 rfl (by decide) sf_m wf_X6_178 rfl (v := .int (nI (xItem T n p).2)) (congrArg Value.int ((congrFun wI_self 6).trans a6)) dX6_findError_13 ?_
        exact K_iret X hQ dX6_findError_16 (⟨by rw [← hg, xErr_n (isS_f c9)], G1, rfl, a1⟩)
  exact loop 81 0 _ (Nat.zero_le _) (by omega) (upd6 (by omega) (fun _ _ => rfl)) rfl rfl

set_option maxHeartbeats 4000000 in
set_option maxRecDepth 100000 in
theorem c_X6_syntaxError (l : Launch) (D : KD) (b : Nat) (σ : KS) (F : Nat → Int32) (T : Nat → Nat) (n : Nat) (hP : PF σ.2.2) (hn : n ≤ 80) (h5 : F 5 = nI n) (hT : ∀ j, j < n → T j < 128) (hR : ∀ j, j < n → σ.1 194 j = nI (T j)) : Ct l D b yX6_syntaxError cX6_syntaxError 1 (some .int) (rM 5 110) 0 0 [rf b 190] shF (wI σ 190 F) shF (pS (some (.int (xErr T n 81 0))) (fun σ' => ∃ G, σ' = wI σ 190 G ∧ ∀ k, k < 6 → G k = F k)) := by
  refine Ct.of (ls := [(0, rf b 190)]) (by decide) (Nat.le_of_ble_eq_true rfl) rfl ?_
  intro pg e s m args below meth c Q hQ X hnm
  refine K_aload_n X 0 dX6_syntaxError_0 rfl rfl ?_
  refine K_callVP X (c_X6_findError l D b _ F T n hP hn h5 hT hR) my_X6_findError mv_X6_findError wm_X6_213 sf_m rfl ⟨rfl, rfl, Nat.le_of_ble_eq_true rfl, Nat.le_of_ble_eq_true rfl, Nat.le_of_ble_eq_true rfl, Nat.le_of_ble_eq_true rfl⟩ rfl rfl (Nat.le_of_ble_eq_true rfl) dX6_syntaxError_1 (fun σ1 h1 => ?_)
  obtain ⟨G1, rfl, a1⟩ := h1
  exact K_iret X hQ dX6_syntaxError_4 (⟨rfl, G1, rfl, a1⟩)

set_option maxHeartbeats 4000000 in
set_option maxRecDepth 100000 in
theorem c_X6_clearText (l : Launch) (D : KD) (b : Nat) (σ : KS) (F : Nat → Int32) (n : Nat) (h5 : F 5 = nI n) : Ct l D b yX6_clearText cX6_clearText 2 (some .int) (rM 0 0) 0 0 [rf b 190] shF (wI σ 190 F) shF (pE (some (.int (nI n))) (wI σ 190 (upd F 5 (nI 0)))) := by
  refine Ct.of (ls := [(0, rf b 190)]) (by decide) (Nat.le_of_ble_eq_true rfl) rfl ?_
  intro pg e s m args below meth c Q hQ X hnm
  refine K_aload_n X 0 dX6_clearText_0 rfl rfl ?_
  refine K_get X 5 kFd6 rfl (by decide) sf_m wf_X6_175 rfl (v := .int (nI n)) (congrArg Value.int ((congrFun wI_self 5).trans h5)) dX6_clearText_1 ?_
  refine K_istore_n X (ls' := [(1, _), (0, _)]) dX6_clearText_4 rfl (by decide) rfl ?_
  refine K_aload_n X 1 dX6_clearText_5 rfl rfl ?_
  refine K_iconst X dX6_clearText_6 cii_0 ?_
  refine K_putI X 5 kFd6 rfl (by decide) sf_m wf_X6_175 rfl rfl rfl dX6_clearText_7 ?_
  refine K_st (wI_upd rfl) ?_
  refine K_iload_n X 0 dX6_clearText_10 rfl rfl ?_
  exact K_iret X hQ dX6_clearText_11 (⟨rfl, rfl⟩)

set_option maxHeartbeats 4000000 in
set_option maxRecDepth 100000 in
theorem c_X6_type (l : Launch) (D : KD) (b : Nat) (σ : KS) (F : Nat → Int32) (n : Nat) (x : Int32) (hP : PF σ.2.2) (hn : n ≤ 80) (h5 : F 5 = nI n) : Ct l D b yX6_type cX6_type 2 (some .int) (rM 1 22) 0 0 [rf b 190, .int x] shF (wI σ 190 F) shF (pE (some (.int (if qIn 33 126 x = true then (if n = 80 then -4 else nI (n + 1)) else -2))) (if qIn 33 126 x = true then (if n = 80 then wI σ 190 F else wI (wI σ 194 (upd (σ.1 194) n x)) 190 (upd F 5 (nI (n + 1)))) else wI σ 190 F)) := by
  refine Ct.of (ls := [(0, rf b 190), (1, .int x)]) (by decide) (Nat.le_of_ble_eq_true rfl) rfl ?_
  intro pg e s m args below meth c Q hQ X hnm
  refine K_iload_n X 1 dX6_type_0 rfl rfl ?_
  refine K_bipush X dX6_type_1 cib_33 ?_
  refine K_bipush X dX6_type_3 cib_126 ?_
  refine K_callSE X (c_X6_withinQ l D b _ _ _ _) my_X6_within wt_X6_within wm_X6_38 ⟨rfl, rfl, Nat.le_of_ble_eq_true rfl, Nat.le_of_ble_eq_true rfl, Nat.le_of_ble_eq_true rfl, Nat.le_of_ble_eq_true rfl⟩ rfl rfl (Nat.le_of_ble_eq_true rfl) dX6_type_5 ?_
  refine K_ifB_ne (tgt := 14) X dX6_type_8 (by decide) (fun c8 => ?_) (fun c8 => ?_)
  · obtain ⟨v, hlv, hhv, rfl⟩ := qIn_ex (lo := 33) (hi := 126) (by decide) (by decide) c8
    refine K_aload_n X 0 dX6_type_14 rfl rfl ?_
    refine K_get X 5 kFd6 rfl (by decide) sf_m wf_X6_175 rfl (v := .int (nI n)) (congrArg Value.int ((congrFun wI_self 5).trans h5)) dX6_type_15 ?_
    refine K_bipush X dX6_type_18 cib_80 ?_
    refine K_icmpN_ne (tgt := 26) X dX6_type_20 (by decide) (by omega) (by omega) (fun c20 => ?_) (fun c20 => ?_)
    · refine K_aload_n X 0 dX6_type_26 rfl rfl ?_
      refine K_get X 4 kFd6 rfl (by decide) sf_m wf_X6_19 rfl (v := rf b (194)) (kv_a (pf_m4 hP)) dX6_type_27 ?_
      refine K_aload_n X 0 dX6_type_30 rfl rfl ?_
      refine K_get X 5 kFd6 rfl (by decide) sf_m wf_X6_175 rfl (v := .int (nI n)) (congrArg Value.int ((congrFun wI_self 5).trans h5)) dX6_type_31 ?_
      refine K_iload_n X 1 dX6_type_34 rfl rfl ?_
      refine K_iast X _ sf_mt rfl (by omega) (by decide) dX6_type_35 ?_
      refine K_st (σ' := wI (wI σ 194 (upd (σ.1 194) n (nI v))) 190 F) (by rw [wI_ne (by decide), wI_comm (by decide)]) ?_
      refine K_aload_n X 0 dX6_type_36 rfl rfl ?_
      refine K_dup X dX6_type_37 rfl ?_
      refine K_get X 5 kFd6 rfl (by decide) sf_m wf_X6_175 rfl (v := .int (nI n)) (congrArg Value.int ((congrFun wI_self 5).trans h5)) dX6_type_38 ?_
      refine K_iconst X dX6_type_41 cii_1 ?_
      refine K_iaddN X dX6_type_42 ?_
      refine K_putI X 5 kFd6 rfl (by decide) sf_m wf_X6_175 rfl rfl rfl dX6_type_43 ?_
      refine K_st (wI_upd rfl) ?_
      refine K_aload_n X 0 dX6_type_46 rfl rfl ?_
      refine K_get X 5 kFd6 rfl (by decide) sf_m wf_X6_175 rfl (v := .int (nI (n + 1))) (congrArg Value.int ((congrFun wI_self 5).trans rfl)) dX6_type_47 ?_
      exact K_iret X hQ dX6_type_50 (⟨by rw [if_pos c8, if_neg c20], by rw [if_pos c8, if_neg c20]⟩)
    · refine K_bipush X dX6_type_23 cib_m4 ?_
      exact K_iret X hQ dX6_type_25 (⟨by rw [if_pos c8, if_pos c20], by rw [if_pos c8, if_pos c20]⟩)
  · refine K_bipush X dX6_type_11 cib_m2 ?_
    exact K_iret X hQ dX6_type_13 (⟨by rw [if_neg (by rw [c8]; decide)], by rw [if_neg (by rw [c8]; decide)]⟩)

set_option maxHeartbeats 4000000 in
set_option maxRecDepth 100000 in
theorem c_X6_undo (l : Launch) (D : KD) (b : Nat) (σ : KS) (N : Nat → Nat) (r : Nat) (M : Nat → Nat) (hP : PF σ.2.2) (hr : σ.1 190 3 = nI r) (hr6 : r ≤ 6) (hH : r ≠ 0 → ∀ k, k < 125 → σ.1 193 ((r - 1) * 125 + k) = nI (M k)) : Ct l D b yX6_undo cX6_undo 1 (some .int) (rM 1 24) 0 0 [rf b 190] shF (wN σ N) shF (pE (some (.int (if r = 0 then -3 else nI (r - 1)))) (if r = 0 then wN σ N else wN (wH σ (r - 1) (σ.1 193)) (qUn N M))) := by
  refine Ct.of (ls := [(0, rf b 190)]) (by decide) (Nat.le_of_ble_eq_true rfl) rfl ?_
  intro pg e s m args below meth c Q hQ X hnm
  refine K_aload_n X 0 dX6_undo_0 rfl rfl ?_
  refine K_get X 3 kFd6 rfl (by decide) sf_m wf_X6_22 rfl (v := .int (nI r)) (congrArg Value.int ((congrFun (wN_ne (by decide)) 3).trans hr)) dX6_undo_1 ?_
  refine K_ifN_ne (tgt := 10) X dX6_undo_4 (by decide) (by omega) (fun c4 => ?_) (fun c4 => ?_)
  · refine K_st (σ' := wN (wH σ r (σ.1 193)) N) (by rw [wH_id hr]) ?_
    refine K_aload_n X 0 dX6_undo_10 rfl rfl ?_
    refine K_dup X dX6_undo_11 rfl ?_
    refine K_get X 3 kFd6 rfl (by decide) sf_m wf_X6_22 rfl (v := .int (nI r)) (congrArg Value.int (wH_r)) dX6_undo_12 ?_
    refine K_iconst X dX6_undo_15 cii_1 ?_
    refine K_isubN X dX6_undo_16 (by omega) ?_
    refine K_putI X 3 kFd6 rfl (by decide) sf_m wf_X6_22 rfl rfl rfl dX6_undo_17 ?_
    refine K_st wH_r2 ?_
    refine K_aload_n X 0 dX6_undo_20 rfl rfl ?_
    refine K_get X 2 kFd6 rfl (by decide) sf_m wf_X6_16 rfl (v := rf b (193)) (kv_a (pf_m2 hP)) dX6_undo_21 ?_
    refine K_aload_n X 0 dX6_undo_24 rfl rfl ?_
    refine K_get X 3 kFd6 rfl (by decide) sf_m wf_X6_22 rfl (v := .int (nI (r - 1))) (congrArg Value.int (wH_r)) dX6_undo_25 ?_
    refine K_bipush X dX6_undo_28 cib_125 ?_
    refine K_imulN X dX6_undo_30 ?_
    refine K_aload_n X 0 dX6_undo_31 rfl rfl ?_
    refine K_get X 0 kFd6 rfl (by decide) sf_m wf_X6_7 rfl (v := rf b (191)) (kv_a (pf_m0 hP)) dX6_undo_32 ?_
    refine K_iconst X dX6_undo_35 cii_0 ?_
    refine K_callSE0 X (c_X6_copies l D b _ 193 191 750 125 ((r - 1) * 125) 0 sf_mh sf_ms (by decide) (by omega) (by omega) (by decide) (by decide)) my_X6_copies wt_X6_copies wm_X6_26 ⟨rfl, rfl, Nat.le_of_ble_eq_true rfl, Nat.le_of_ble_eq_true rfl, Nat.le_of_ble_eq_true rfl, Nat.le_of_ble_eq_true rfl⟩ rfl rfl (Nat.le_of_ble_eq_true rfl) dX6_undo_36 ?_
    refine K_st (σ' := wN (wH σ (r - 1) (σ.1 193)) (qUn N M)) (by rw [wN_row, wH_H]; exact wN_cpy (hH (by omega))) ?_
    refine K_aload_n X 0 dX6_undo_39 rfl rfl ?_
    refine K_get X 3 kFd6 rfl (by decide) sf_m wf_X6_22 rfl (v := .int (nI (r - 1))) (congrArg Value.int (wH_r)) dX6_undo_40 ?_
    exact K_iret X hQ dX6_undo_43 (⟨by rw [if_neg c4], by rw [if_neg c4]⟩)
  · refine K_bipush X dX6_undo_7 cib_m3 ?_
    exact K_iret X hQ dX6_undo_9 (⟨by rw [if_pos c4], by rw [if_pos c4]⟩)

set_option maxHeartbeats 4000000 in
set_option maxRecDepth 100000 in
theorem c_X6_ifClosed (l : Launch) (D : KD) (b : Nat) (σ : KS) (N : Nat → Nat) (x : Int32) (hP : PF σ.2.2) (hI : qIr N) : Ct l D b yX6_ifClosed cX6_ifClosed 3 (some .int) (rM 4 92) 0 0 [rf b 190, .int x] shF (wN σ N) shF (pS (some (.int (aIfC N x))) (fun σ' => ∃ M : Nat → Nat, (∀ k, k < 125 → M k = N k) ∧ ∃ τ : KS, (∃ H, τ = wI σ 192 H) ∧ σ' = wN τ M)) := by
  have h1 := qi_1 hI
  refine Ct.of (ls := [(0, rf b 190), (1, .int x)]) (by decide) (Nat.le_of_ble_eq_true rfl) rfl ?_
  intro pg e s m args below meth c Q hQ X hnm
  refine K_iload_n X 1 dX6_ifClosed_0 rfl rfl ?_
  refine K_iconst X dX6_ifClosed_1 cii_0 ?_
  refine K_bipush X dX6_ifClosed_2 cib_10 ?_
  refine K_callSE X (c_X6_withinQ l D b _ _ _ _) my_X6_within wt_X6_within wm_X6_38 ⟨rfl, rfl, Nat.le_of_ble_eq_true rfl, Nat.le_of_ble_eq_true rfl, Nat.le_of_ble_eq_true rfl, Nat.le_of_ble_eq_true rfl⟩ rfl rfl (Nat.le_of_ble_eq_true rfl) dX6_ifClosed_4 ?_
  refine K_ifB_ne (tgt := 13) X dX6_ifClosed_7 (by decide) (fun c7 => ?_) (fun c7 => ?_)
  · obtain ⟨v, hlv, hhv, rfl⟩ := qIn_ex (lo := 0) (hi := 10) (by decide) (by decide) c7
    refine K_aload_n X 0 dX6_ifClosed_13 rfl rfl ?_
    refine K_get X 0 kFd6 rfl (by decide) sf_m wf_X6_7 rfl (v := rf b (191)) (kv_a (pf_m0 hP)) dX6_ifClosed_14 ?_
    refine K_iconst X dX6_ifClosed_17 cii_0 ?_
    refine K_aload_n X 0 dX6_ifClosed_18 rfl rfl ?_
    refine K_get X 1 kFd6 rfl (by decide) sf_m wf_X6_13 rfl (v := rf b (192)) (kv_a (pf_m1 hP)) dX6_ifClosed_19 ?_
    refine K_iconst X dX6_ifClosed_22 cii_0 ?_
    refine K_callSE0 X (c_X6_copies l D b _ 191 192 125 125 0 0 sf_ms sf_mk (by decide) (by omega) (by omega) (by decide) (by decide)) my_X6_copies wt_X6_copies wm_X6_26 ⟨rfl, rfl, Nat.le_of_ble_eq_true rfl, Nat.le_of_ble_eq_true rfl, Nat.le_of_ble_eq_true rfl, Nat.le_of_ble_eq_true rfl⟩ rfl rfl (Nat.le_of_ble_eq_true rfl) dX6_ifClosed_23 ?_
    refine K_st (σ' := wN (wI σ 192 (qCpy (fun k => nI (N k)) (σ.1 192) 0 0 125)) N) (by rw [wN_row, wN_ne (by decide)]; unfold wN; rw [wI_comm (by decide)]) ?_
    refine K_iconst X dX6_ifClosed_26 cii_0 ?_
    refine K_istore_n X (ls' := [(2, _), (0, _), (1, _)]) dX6_ifClosed_27 rfl (by decide) rfl ?_
    have loop : ∀ i : Nat, i ≤ min v (10 - N 1) → K pg l e (rM 4 92) s m args below meth c Q D b 3 0 0 shF (wN (wI σ 192 (qCpy (fun k => nI (N k)) (σ.1 192) 0 0 125)) (qPs N i)) 28 [(0, rf b 190), (1, .int (nI v)), (2, .int (nI i))] [] := by
      refine kup (fun i hi ih => ?_)
      refine K_iload_n X 2 dX6_ifClosed_28 rfl rfl ?_
      refine K_iload_n X 1 dX6_ifClosed_29 rfl rfl ?_
      refine K_icmpN_ge (tgt := 54) X dX6_ifClosed_30 (by decide) (by omega) (by omega) (fun c30 => ?_) (fun c30 => ?_)
      · have hi2 : i = min v (10 - N 1) := by omega
        rw [hi2]
        refine K_aload_n X 0 dX6_ifClosed_54 rfl rfl ?_
        refine K_callVE X (c_X6_closes l D b _ _ hP (qPs_k hI (by omega)).1) my_X6_closes mv_X6_closes wm_X6_126 sf_m rfl ⟨rfl, rfl, Nat.le_of_ble_eq_true rfl, Nat.le_of_ble_eq_true rfl, Nat.le_of_ble_eq_true rfl, Nat.le_of_ble_eq_true rfl⟩ rfl rfl (Nat.le_of_ble_eq_true rfl) dX6_ifClosed_55 ?_
        refine K_istore_n X (ls' := [(2, _), (0, _), (1, _)]) dX6_ifClosed_58 rfl (by decide) rfl ?_
        refine K_aload_n X 1 dX6_ifClosed_59 rfl rfl ?_
        refine K_get X 1 kFd6 rfl (by decide) sf_m wf_X6_13 rfl (v := rf b (192)) (kv_a (pf_m1 hP)) dX6_ifClosed_60 ?_
        refine K_iconst X dX6_ifClosed_63 cii_0 ?_
        refine K_aload_n X 1 dX6_ifClosed_64 rfl rfl ?_
        refine K_get X 0 kFd6 rfl (by decide) sf_m wf_X6_7 rfl (v := rf b (191)) (kv_a (pf_m0 hP)) dX6_ifClosed_65 ?_
        refine K_iconst X dX6_ifClosed_68 cii_0 ?_
        refine K_callSE0 X (c_X6_copies l D b _ 192 191 125 125 0 0 sf_mk sf_ms (by decide) (by omega) (by omega) (by decide) (by decide)) my_X6_copies wt_X6_copies wm_X6_26 ⟨rfl, rfl, Nat.le_of_ble_eq_true rfl, Nat.le_of_ble_eq_true rfl, Nat.le_of_ble_eq_true rfl, Nat.le_of_ble_eq_true rfl⟩ rfl rfl (Nat.le_of_ble_eq_true rfl) dX6_ifClosed_69 ?_
        refine K_st (σ' := wN (wI σ 192 (qCpy (fun k => nI (N k)) (σ.1 192) 0 0 125)) (qUn (qClose (qPs N (min v (10 - N 1)))) N)) (by rw [wN_row, wN_ne (by decide)]; exact wN_cpy (fun k hk => by rw [wI_self]; unfold qCpy; rw [if_pos (by omega), show 0 + (0 + k - 0) = k from by omega])) ?_
        refine K_iload_n X 0 dX6_ifClosed_72 rfl rfl ?_
        exact K_iret X hQ dX6_ifClosed_73 (⟨by unfold aIfC qIfC; rw [if_pos c7, tN_nI (by omega), (qPs_k hI (show min v (10 - N 1) ≤ 10 - N 1 from by omega)).2.2], qUn (qClose (qPs N (min v (10 - N 1)))) N, fun k hk => if_pos hk, _, ⟨_, rfl⟩, rfl⟩)
      · refine K_aload_n X 0 dX6_ifClosed_33 rfl rfl ?_
        refine K_get X 0 kFd6 rfl (by decide) sf_m wf_X6_7 rfl (v := rf b (191)) (kv_a (pf_m0 hP)) dX6_ifClosed_34 ?_
        refine K_iconst X dX6_ifClosed_37 cii_1 ?_
        refine K_iald X _ sf_ms rfl (by omega) (by decide) (wN_at _) dX6_ifClosed_38 ?_
        rw [(qPs_k hI (show i ≤ 10 - N 1 from by omega)).2.1]
        refine K_bipush X dX6_ifClosed_39 cib_10 ?_
        refine K_icmpN_ge (tgt := 54) X dX6_ifClosed_41 (by decide) (by omega) (by omega) (fun c41 => ?_) (fun c41 => ?_)
        · have hi2 : i = min v (10 - N 1) := by omega
          rw [hi2]
          refine K_aload_n X 0 dX6_ifClosed_54 rfl rfl ?_
          refine K_callVE X (c_X6_closes l D b _ _ hP (qPs_k hI (by omega)).1) my_X6_closes mv_X6_closes wm_X6_126 sf_m rfl ⟨rfl, rfl, Nat.le_of_ble_eq_true rfl, Nat.le_of_ble_eq_true rfl, Nat.le_of_ble_eq_true rfl, Nat.le_of_ble_eq_true rfl⟩ rfl rfl (Nat.le_of_ble_eq_true rfl) dX6_ifClosed_55 ?_
          refine K_istore_n X (ls' := [(2, _), (0, _), (1, _)]) dX6_ifClosed_58 rfl (by decide) rfl ?_
          refine K_aload_n X 1 dX6_ifClosed_59 rfl rfl ?_
          refine K_get X 1 kFd6 rfl (by decide) sf_m wf_X6_13 rfl (v := rf b (192)) (kv_a (pf_m1 hP)) dX6_ifClosed_60 ?_
          refine K_iconst X dX6_ifClosed_63 cii_0 ?_
          refine K_aload_n X 1 dX6_ifClosed_64 rfl rfl ?_
          refine K_get X 0 kFd6 rfl (by decide) sf_m wf_X6_7 rfl (v := rf b (191)) (kv_a (pf_m0 hP)) dX6_ifClosed_65 ?_
          refine K_iconst X dX6_ifClosed_68 cii_0 ?_
          refine K_callSE0 X (c_X6_copies l D b _ 192 191 125 125 0 0 sf_mk sf_ms (by decide) (by omega) (by omega) (by decide) (by decide)) my_X6_copies wt_X6_copies wm_X6_26 ⟨rfl, rfl, Nat.le_of_ble_eq_true rfl, Nat.le_of_ble_eq_true rfl, Nat.le_of_ble_eq_true rfl, Nat.le_of_ble_eq_true rfl⟩ rfl rfl (Nat.le_of_ble_eq_true rfl) dX6_ifClosed_69 ?_
          refine K_st (σ' := wN (wI σ 192 (qCpy (fun k => nI (N k)) (σ.1 192) 0 0 125)) (qUn (qClose (qPs N (min v (10 - N 1)))) N)) (by rw [wN_row, wN_ne (by decide)]; exact wN_cpy (fun k hk => by rw [wI_self]; unfold qCpy; rw [if_pos (by omega), show 0 + (0 + k - 0) = k from by omega])) ?_
          refine K_iload_n X 0 dX6_ifClosed_72 rfl rfl ?_
          exact K_iret X hQ dX6_ifClosed_73 (⟨by unfold aIfC qIfC; rw [if_pos c7, tN_nI (by omega), (qPs_k hI (show min v (10 - N 1) ≤ 10 - N 1 from by omega)).2.2], qUn (qClose (qPs N (min v (10 - N 1)))) N, fun k hk => if_pos hk, _, ⟨_, rfl⟩, rfl⟩)
        · refine K_aload_n X 0 dX6_ifClosed_44 rfl rfl ?_
          refine K_callVE0 X (c_X6_passesHour l D b _ _ hP (qPs_k hI (by omega)).1) my_X6_passesHour mv_X6_passesHour wm_X6_116 sf_m rfl ⟨rfl, rfl, Nat.le_of_ble_eq_true rfl, Nat.le_of_ble_eq_true rfl, Nat.le_of_ble_eq_true rfl, Nat.le_of_ble_eq_true rfl⟩ rfl rfl (Nat.le_of_ble_eq_true rfl) dX6_ifClosed_45 ?_
          refine K_iinc X 2 (ls' := [(2, _), (0, _), (1, _)]) dX6_ifClosed_48 rfl (inc_1 _) (by decide) rfl ?_
          refine K_goto (tgt := 28) X dX6_ifClosed_51 (by decide) ?_
          exact K_sub [1, 2, 0] rfl (ih (by omega))
    exact K_sub [1, 2, 0] rfl (loop 0 (Nat.zero_le _))
  · refine K_bipush X dX6_ifClosed_10 cib_m2 ?_
    exact K_iret X hQ dX6_ifClosed_12 (⟨by unfold aIfC; rw [qI_f c7], N, fun _ _ => rfl, wI σ 192 (σ.1 192), ⟨_, rfl⟩, by rw [wI_id rfl]⟩)

set_option maxHeartbeats 4000000 in
set_option maxRecDepth 100000 in
theorem c_X6_order (l : Launch) (D : KD) (b : Nat) (σ : KS) (N : Nat → Nat) (r : Nat) (kd g fr pr : Int32) (hP : PF σ.2.2) (hr : σ.1 190 3 = nI r) (hr6 : r ≤ 6) (hI : qIr N) : Ct l D b yX6_order cX6_order 8 (some .int) (rM 3 71) 0 0 [rf b 190, .int kd, .int g, .int fr, .int pr] shF (wN σ N) shF (pE (some (.int (oOrder N kd g fr pr).1)) (wA σ N r (oOrder N kd g fr pr).2)) := by
  have h2 := qi_2 hI
  refine Ct.of (ls := [(0, rf b 190), (1, .int kd), (2, .int g), (3, .int fr), (4, .int pr)]) (by decide) (Nat.le_of_ble_eq_true rfl) rfl ?_
  intro pg e s m args below meth c Q hQ X hnm
  refine K_iload_n X 1 dX6_order_0 rfl rfl ?_
  refine K_callSE X (c_X6_isKind l D b _ _) my_X6_isKind wt_X6_isKind wm_X6_46 ⟨rfl, rfl, Nat.le_of_ble_eq_true rfl, Nat.le_of_ble_eq_true rfl, Nat.le_of_ble_eq_true rfl, Nat.le_of_ble_eq_true rfl⟩ rfl rfl (Nat.le_of_ble_eq_true rfl) dX6_order_1 ?_
  refine K_ifB_ne (tgt := 9) X dX6_order_4 (by decide) (fun c4 => ?_) (fun c4 => ?_)
  · obtain ⟨u, hlu, hhu, rfl⟩ := qIn_ex (lo := 0) (hi := 5) (by decide) (by decide) c4
    refine K_iload_n X 2 dX6_order_9 rfl rfl ?_
    refine K_iconst X dX6_order_10 cii_1 ?_
    refine K_sipush X dX6_order_11 cis_20000 ?_
    refine K_callSE X (c_X6_withinQ l D b _ _ _ _) my_X6_within wt_X6_within wm_X6_38 ⟨rfl, rfl, Nat.le_of_ble_eq_true rfl, Nat.le_of_ble_eq_true rfl, Nat.le_of_ble_eq_true rfl, Nat.le_of_ble_eq_true rfl⟩ rfl rfl (Nat.le_of_ble_eq_true rfl) dX6_order_14 ?_
    refine K_ifB_eq (tgt := 42) X dX6_order_17 (by decide) (fun c17 => ?_) (fun c17 => ?_)
    · refine K_bipush X dX6_order_42 cib_m2 ?_
      exact K_iret X hQ dX6_order_44 (by rw [show oOrder N (nI u) g fr pr = (-2, none) from by unfold oOrder; rw [if_pos c4, if_neg (by rw [c17]; simp)]]; exact ⟨rfl, rfl⟩)
    · obtain ⟨g0, hlg0, hhg0, rfl⟩ := qIn_ex (lo := 1) (hi := 20000) (by decide) (by decide) c17
      refine K_iload_n X 3 dX6_order_20 rfl rfl ?_
      refine K_iconst X dX6_order_21 cii_0 ?_
      refine K_bipush X dX6_order_22 cib_100 ?_
      refine K_callSE X (c_X6_withinQ l D b _ _ _ _) my_X6_within wt_X6_within wm_X6_38 ⟨rfl, rfl, Nat.le_of_ble_eq_true rfl, Nat.le_of_ble_eq_true rfl, Nat.le_of_ble_eq_true rfl, Nat.le_of_ble_eq_true rfl⟩ rfl rfl (Nat.le_of_ble_eq_true rfl) dX6_order_24 ?_
      refine K_ifB_eq (tgt := 42) X dX6_order_27 (by decide) (fun c27 => ?_) (fun c27 => ?_)
      · refine K_bipush X dX6_order_42 cib_m2 ?_
        exact K_iret X hQ dX6_order_44 (by rw [show oOrder N (nI u) (nI g0) fr pr = (-2, none) from by unfold oOrder; rw [if_pos c4, if_neg (by rw [c27]; simp)]]; exact ⟨rfl, rfl⟩)
      · obtain ⟨f0, hlf0, hhf0, rfl⟩ := qIn_ex (lo := 0) (hi := 100) (by decide) (by decide) c27
        refine K_iload X 4 dX6_order_30 rfl ?_
        refine K_iconst X dX6_order_32 cii_1 ?_
        refine K_sipush X dX6_order_33 cis_9999 ?_
        refine K_callSE X (c_X6_withinQ l D b _ _ _ _) my_X6_within wt_X6_within wm_X6_38 ⟨rfl, rfl, Nat.le_of_ble_eq_true rfl, Nat.le_of_ble_eq_true rfl, Nat.le_of_ble_eq_true rfl, Nat.le_of_ble_eq_true rfl⟩ rfl rfl (Nat.le_of_ble_eq_true rfl) dX6_order_36 ?_
        refine K_ifB_ne (tgt := 45) X dX6_order_39 (by decide) (fun c39 => ?_) (fun c39 => ?_)
        · obtain ⟨p0, hlp0, hhp0, rfl⟩ := qIn_ex (lo := 1) (hi := 9999) (by decide) (by decide) c39
          refine K_aload_n X 0 dX6_order_45 rfl rfl ?_
          refine K_callVE0 X (c_X6_record l D b _ _ _ hP hr hr6) my_X6_record mv_X6_record wm_X6_50 sf_m rfl ⟨rfl, rfl, Nat.le_of_ble_eq_true rfl, Nat.le_of_ble_eq_true rfl, Nat.le_of_ble_eq_true rfl, Nat.le_of_ble_eq_true rfl⟩ rfl rfl (Nat.le_of_ble_eq_true rfl) dX6_order_46 ?_
          refine K_iconst X dX6_order_49 cii_0 ?_
          refine K_istore X (ls' := [(5, _), (0, _), (1, _), (2, _), (3, _), (4, _)]) dX6_order_50 (by decide) rfl ?_
          refine K_aload_n X 1 dX6_order_52 rfl rfl ?_
          refine K_iload_n X 2 dX6_order_53 rfl rfl ?_
          refine K_iload_n X 4 dX6_order_54 rfl rfl ?_
          refine K_iload X 5 dX6_order_55 rfl ?_
          refine K_callVE X (c_X6_nextFor l D b _ _ _ _ _ hP hI (by omega) (by omega) (by omega)) my_X6_nextFor mv_X6_nextFor wm_X6_104 sf_m rfl ⟨rfl, rfl, Nat.le_of_ble_eq_true rfl, Nat.le_of_ble_eq_true rfl, Nat.le_of_ble_eq_true rfl, Nat.le_of_ble_eq_true rfl⟩ rfl rfl (Nat.le_of_ble_eq_true rfl) dX6_order_57 ?_
          refine K_istore X (ls' := [(6, _), (5, _), (0, _), (1, _), (2, _), (3, _), (4, _)]) dX6_order_60 (by decide) rfl ?_
          have loop : ∀ (f z : Nat) (M : Nat → Nat), qIr M → z ≤ g0 → (M 2 < f ∨ z = g0) → qOr u f0 p0 g0 f z M = qOr u f0 p0 g0 17 0 N → K pg l e (rM 3 71) s m args below meth c Q D b 8 0 0 shF (wN (wRec σ N r) M) 62 [(0, rf b 190), (1, .int (nI u)), (2, .int (nI g0)), (3, .int (nI f0)), (4, .int (nI p0)), (5, .int (nI z)), (6, .int (qO (qNx M u f0 p0 (M 2))))] [] := by
            intro f
            induction f with
            | zero =>
              intro z M hM hz hf hg
              refine K_iload X 6 dX6_order_62 rfl ?_
              refine K_bipush X dX6_order_64 cib_m6 ?_
              refine K_icmp_eq (tgt := 190) X dX6_order_66 (by decide) (fun c66 => ?_) (fun c66 => ?_)
              · refine K_iload X 5 dX6_order_190 rfl ?_
                exact K_iret X hQ dX6_order_192 (by rw [show oOrder N (nI u) (nI g0) (nI f0) (nI p0) = (nI (qOr u f0 p0 g0 17 0 N).1, some (qOr u f0 p0 g0 17 0 N).2) from by unfold oOrder; rw [if_pos c4, if_pos (by rw [c17, c27, c39]; rfl), tN_nI (by omega), tN_nI (by omega), tN_nI (by omega), tN_nI (by omega)], ← hg]; exact ⟨rfl, rfl⟩)
              · refine K_iload X 5 dX6_order_69 rfl ?_
                refine K_iload_n X 2 dX6_order_71 rfl rfl ?_
                refine K_icmpN_ge (tgt := 190) X dX6_order_72 (by decide) (by omega) (by omega) (fun c72 => ?_) (fun c72 => ?_)
                · refine K_iload X 5 dX6_order_190 rfl ?_
                  exact K_iret X hQ dX6_order_192 (by rw [show oOrder N (nI u) (nI g0) (nI f0) (nI p0) = (nI (qOr u f0 p0 g0 17 0 N).1, some (qOr u f0 p0 g0 17 0 N).2) from by unfold oOrder; rw [if_pos c4, if_pos (by rw [c17, c27, c39]; rfl), tN_nI (by omega), tN_nI (by omega), tN_nI (by omega), tN_nI (by omega)], ← hg]; exact ⟨rfl, rfl⟩)
                · exact absurd (show z = g0 from by omega) (by omega)
            | succ f ih =>
              intro z M hM hz hf hg
              have hM2 := qi_2 hM
              refine K_iload X 6 dX6_order_62 rfl ?_
              refine K_bipush X dX6_order_64 cib_m6 ?_
              refine K_icmp_eq (tgt := 190) X dX6_order_66 (by decide) (fun c66 => ?_) (fun c66 => ?_)
              · refine K_iload X 5 dX6_order_190 rfl ?_
                exact K_iret X hQ dX6_order_192 (by rw [show oOrder N (nI u) (nI g0) (nI f0) (nI p0) = (nI (qOr u f0 p0 g0 17 0 N).1, some (qOr u f0 p0 g0 17 0 N).2) from by unfold oOrder; rw [if_pos c4, if_pos (by rw [c17, c27, c39]; rfl), tN_nI (by omega), tN_nI (by omega), tN_nI (by omega), tN_nI (by omega)], ← hg, show qOr u f0 p0 g0 (f + 1) z M = (z, M) from by unfold qOr; rw [(qO_n (fun j hj => by have := qNx_lt hj; omega)).mp c66]]; exact ⟨rfl, rfl⟩)
              · refine K_iload X 5 dX6_order_69 rfl ?_
                refine K_iload_n X 2 dX6_order_71 rfl rfl ?_
                refine K_icmpN_ge (tgt := 190) X dX6_order_72 (by decide) (by omega) (by omega) (fun c72 => ?_) (fun c72 => ?_)
                · refine K_iload X 5 dX6_order_190 rfl ?_
                  exact K_iret X hQ dX6_order_192 (by rw [show oOrder N (nI u) (nI g0) (nI f0) (nI p0) = (nI (qOr u f0 p0 g0 17 0 N).1, some (qOr u f0 p0 g0 17 0 N).2) from by unfold oOrder; rw [if_pos c4, if_pos (by rw [c17, c27, c39]; rfl), tN_nI (by omega), tN_nI (by omega), tN_nI (by omega), tN_nI (by omega)], ← hg, show qOr u f0 p0 g0 (f + 1) z M = (z, M) from by unfold qOr; rw [(qO_ex c66).choose_spec]; exact if_neg (by omega)]; exact ⟨rfl, rfl⟩)
                · obtain ⟨k, hk⟩ := qO_ex c66
                  have hkl := qNx_lt hk
                  have hl2 := qi_l2 hM hkl
                  have hl1 := qi_l2p hM hkl
                  rw [hk]
                  refine K_aload_n X 0 dX6_order_75 rfl rfl ?_
                  refine K_iload X 6 dX6_order_76 rfl ?_
                  refine K_iconst X dX6_order_78 cii_2 ?_
                  refine K_callVE X (c_X6_part l D b _ _ _ _ hP (by omega)) my_X6_part mv_X6_part wm_X6_30 sf_m rfl ⟨rfl, rfl, Nat.le_of_ble_eq_true rfl, Nat.le_of_ble_eq_true rfl, Nat.le_of_ble_eq_true rfl, Nat.le_of_ble_eq_true rfl⟩ rfl rfl (Nat.le_of_ble_eq_true rfl) dX6_order_79 ?_
                  refine K_iload_n X 2 dX6_order_82 rfl rfl ?_
                  refine K_iload X 5 dX6_order_83 rfl ?_
                  refine K_isubN X dX6_order_85 (by omega) ?_
                  refine K_icmpN_ge (tgt := 99) X dX6_order_86 (by decide) (by omega) (by omega) (fun c86 => ?_) (fun c86 => ?_)
                  · have hmu : qMuch M k (g0 - z) = g0 - z := if_neg (by omega)
                    refine K_iload_n X 2 dX6_order_99 rfl rfl ?_
                    refine K_iload X 5 dX6_order_100 rfl ?_
                    refine K_isubN X dX6_order_102 (by omega) ?_
                    rw [← hmu]
                    have hml : qMuch M k (g0 - z) ≤ qL M k 2 := by rw [hmu]; omega
                    have hmz : qMuch M k (g0 - z) ≤ g0 - z := by rw [hmu]; omega
                    refine K_istore X (ls' := [(7, _), (0, _), (1, _), (2, _), (3, _), (4, _), (5, _), (6, _)]) dX6_order_103 (by decide) rfl ?_
                    refine K_iload X 6 dX6_order_105 rfl ?_
                    refine K_iload X 0 dX6_order_107 rfl ?_
                    refine K_iaddN X dX6_order_109 ?_
                    refine K_istore X (ls' := [(5, _), (7, _), (0, _), (1, _), (2, _), (3, _), (4, _), (6, _)]) dX6_order_110 (by decide) rfl ?_
                    refine K_aload_n X 2 dX6_order_112 rfl rfl ?_
                    refine K_get X 0 kFd6 rfl (by decide) sf_m wf_X6_7 rfl (v := rf b (191)) (kv_a (pf_m0 hP)) dX6_order_113 ?_
                    refine K_iconst X dX6_order_116 cii_4 ?_
                    refine K_dup2 X dX6_order_117 rfl rfl ?_
                    refine K_iald X _ sf_ms rfl (by omega) (by decide) (wN_at _) dX6_order_118 ?_
                    refine K_iload X 1 dX6_order_119 rfl ?_
                    refine K_iaddN X dX6_order_121 ?_
                    refine K_iast X _ sf_ms rfl (by omega) (by decide) dX6_order_122 ?_
                    refine K_st wN_u ?_
                    refine K_aload_n X 2 dX6_order_123 rfl rfl ?_
                    refine K_get X 0 kFd6 rfl (by decide) sf_m wf_X6_7 rfl (v := rf b (191)) (kv_a (pf_m0 hP)) dX6_order_124 ?_
                    refine K_bipush X dX6_order_127 cib_7 ?_
                    refine K_dup2 X dX6_order_129 rfl rfl ?_
                    refine K_iald X _ sf_ms rfl (by omega) (by decide) (wN_at _) dX6_order_130 ?_
                    rw [uN_n (show 7 ≠ 4 from by omega)]
                    refine K_iload X 1 dX6_order_131 rfl ?_
                    refine K_aload_n X 2 dX6_order_133 rfl rfl ?_
                    refine K_iload X 7 dX6_order_134 rfl ?_
                    refine K_callVE X (c_X6_priceOf l D b _ _ _ hP (qIr_a hM (by omega)) (by rw [uN_n (by omega)]; exact hkl)) my_X6_priceOf mv_X6_priceOf wm_X6_92 sf_m rfl ⟨rfl, rfl, Nat.le_of_ble_eq_true rfl, Nat.le_of_ble_eq_true rfl, Nat.le_of_ble_eq_true rfl, Nat.le_of_ble_eq_true rfl⟩ rfl rfl (Nat.le_of_ble_eq_true rfl) dX6_order_136 ?_
                    rw [show qPrice (uN M 4 (M 4 + qMuch M k (g0 - z))) k = qPrice M k from qPrice_a]
                    refine K_callSE X (c_X6_worthOf l D b _ _ _ (qW_b (by omega) (qPrice_le hM hkl))) my_X6_worthOf wt_X6_worthOf wm_X6_70 ⟨rfl, rfl, Nat.le_of_ble_eq_true rfl, Nat.le_of_ble_eq_true rfl, Nat.le_of_ble_eq_true rfl, Nat.le_of_ble_eq_true rfl⟩ rfl rfl (Nat.le_of_ble_eq_true rfl) dX6_order_139 ?_
                    refine K_iaddN X dX6_order_142 ?_
                    refine K_iast X _ sf_ms rfl (by omega) (by decide) dX6_order_143 ?_
                    refine K_st wN_u ?_
                    refine K_aload_n X 2 dX6_order_144 rfl rfl ?_
                    refine K_iload X 7 dX6_order_145 rfl ?_
                    refine K_iconst X dX6_order_147 cii_2 ?_
                    refine K_aload_n X 2 dX6_order_148 rfl rfl ?_
                    refine K_iload X 7 dX6_order_149 rfl ?_
                    refine K_iconst X dX6_order_151 cii_2 ?_
                    refine K_callVE X (c_X6_part l D b _ _ _ _ hP (by omega)) my_X6_part mv_X6_part wm_X6_30 sf_m rfl ⟨rfl, rfl, Nat.le_of_ble_eq_true rfl, Nat.le_of_ble_eq_true rfl, Nat.le_of_ble_eq_true rfl, Nat.le_of_ble_eq_true rfl⟩ rfl rfl (Nat.le_of_ble_eq_true rfl) dX6_order_152 ?_
                    rw [show qL (uN (uN M 4 (M 4 + qMuch M k (g0 - z))) 7 (M 7 + qW (qMuch M k (g0 - z)) (qPrice M k))) k 2 = qL M k 2 from (uN_n (by omega)).trans (uN_n (by omega))]
                    refine K_iload X 1 dX6_order_155 rfl ?_
                    refine K_isubN X dX6_order_157 (by exact hml) ?_
                    refine K_callVE0 X (c_X6_setPart l D b _ _ _ _ _ hP (by omega)) my_X6_setPart mv_X6_setPart wm_X6_56 sf_m rfl ⟨rfl, rfl, Nat.le_of_ble_eq_true rfl, Nat.le_of_ble_eq_true rfl, Nat.le_of_ble_eq_true rfl, Nat.le_of_ble_eq_true rfl⟩ rfl rfl (Nat.le_of_ble_eq_true rfl) dX6_order_158 ?_
                    refine K_aload_n X 2 dX6_order_161 rfl rfl ?_
                    refine K_iload X 7 dX6_order_162 rfl ?_
                    refine K_iconst X dX6_order_164 cii_2 ?_
                    refine K_callVE X (c_X6_part l D b _ _ _ _ hP (by omega)) my_X6_part mv_X6_part wm_X6_30 sf_m rfl ⟨rfl, rfl, Nat.le_of_ble_eq_true rfl, Nat.le_of_ble_eq_true rfl, Nat.le_of_ble_eq_true rfl, Nat.le_of_ble_eq_true rfl⟩ rfl rfl (Nat.le_of_ble_eq_true rfl) dX6_order_165 ?_
                    rw [show qL (uN (uN (uN M 4 (M 4 + qMuch M k (g0 - z))) 7 (M 7 + qW (qMuch M k (g0 - z)) (qPrice M k))) (45 + 5 * k + 2) (qL M k 2 - qMuch M k (g0 - z))) k 2 = qL M k 2 - qMuch M k (g0 - z) from uN_s]
                    refine K_ifN_ne (tgt := 177) X dX6_order_168 (by decide) (by omega) (fun c168 => ?_) (fun c168 => ?_)
                    · have hsell := qSell_k hM hkl hml
                      refine K_st (σ' := wN (wRec σ N r) (qSell M k (qMuch M k (g0 - z)))) (by unfold qSell; rw [if_neg c168]; rfl) ?_
                      refine K_aload_n X 2 dX6_order_177 rfl rfl ?_
                      refine K_iload_n X 3 dX6_order_178 rfl rfl ?_
                      refine K_iload_n X 5 dX6_order_179 rfl rfl ?_
                      refine K_iload X 6 dX6_order_180 rfl ?_
                      refine K_callVE X (c_X6_nextFor l D b _ _ _ _ _ hP hsell.1 (by omega) (by omega) (by omega)) my_X6_nextFor mv_X6_nextFor wm_X6_104 sf_m rfl ⟨rfl, rfl, Nat.le_of_ble_eq_true rfl, Nat.le_of_ble_eq_true rfl, Nat.le_of_ble_eq_true rfl, Nat.le_of_ble_eq_true rfl⟩ rfl rfl (Nat.le_of_ble_eq_true rfl) dX6_order_182 ?_
                      refine K_istore X (ls' := [(6, _), (5, _), (7, _), (0, _), (1, _), (2, _), (3, _), (4, _)]) dX6_order_185 (by decide) rfl ?_
                      refine K_goto (tgt := 62) X dX6_order_187 (by decide) ?_
                      refine K_sub [3, 4, 5, 6, 7, 1, 0] rfl (ih (z + qMuch M k (g0 - z)) (qSell M k (qMuch M k (g0 - z))) hsell.1 (by omega) ?_ ?_)
                      · exact Or.inr (by omega)
                      · rw [← hg]; show _ = (match qNx M u f0 p0 (M 2) with | none => (z, M) | some k => if z < g0 then qOr u f0 p0 g0 f (z + qMuch M k (g0 - z)) (qSell M k (qMuch M k (g0 - z))) else (z, M)); rw [hk]; exact (if_pos (by omega)).symm
                    · refine K_aload_n X 2 dX6_order_171 rfl rfl ?_
                      refine K_iload X 7 dX6_order_172 rfl ?_
                      refine K_callVE0 X (c_X6_drops l D b _ _ _ hP (by rw [uN_n (by omega), uN_n (by omega), uN_n (by omega)]; exact hM2) (by rw [uN_n (by omega), uN_n (by omega), uN_n (by omega)]; exact hkl)) my_X6_drops mv_X6_drops wm_X6_34 sf_m rfl ⟨rfl, rfl, Nat.le_of_ble_eq_true rfl, Nat.le_of_ble_eq_true rfl, Nat.le_of_ble_eq_true rfl, Nat.le_of_ble_eq_true rfl⟩ rfl rfl (Nat.le_of_ble_eq_true rfl) dX6_order_174 ?_
                      have hsell := qSell_k hM hkl hml
                      refine K_st (σ' := wN (wRec σ N r) (qSell M k (qMuch M k (g0 - z)))) (by unfold qSell; rw [if_pos c168]; rfl) ?_
                      refine K_aload_n X 2 dX6_order_177 rfl rfl ?_
                      refine K_iload_n X 3 dX6_order_178 rfl rfl ?_
                      refine K_iload_n X 5 dX6_order_179 rfl rfl ?_
                      refine K_iload X 6 dX6_order_180 rfl ?_
                      refine K_callVE X (c_X6_nextFor l D b _ _ _ _ _ hP hsell.1 (by omega) (by omega) (by omega)) my_X6_nextFor mv_X6_nextFor wm_X6_104 sf_m rfl ⟨rfl, rfl, Nat.le_of_ble_eq_true rfl, Nat.le_of_ble_eq_true rfl, Nat.le_of_ble_eq_true rfl, Nat.le_of_ble_eq_true rfl⟩ rfl rfl (Nat.le_of_ble_eq_true rfl) dX6_order_182 ?_
                      refine K_istore X (ls' := [(6, _), (5, _), (7, _), (0, _), (1, _), (2, _), (3, _), (4, _)]) dX6_order_185 (by decide) rfl ?_
                      refine K_goto (tgt := 62) X dX6_order_187 (by decide) ?_
                      refine K_sub [3, 4, 5, 6, 7, 1, 0] rfl (ih (z + qMuch M k (g0 - z)) (qSell M k (qMuch M k (g0 - z))) hsell.1 (by omega) ?_ ?_)
                      · exact Or.inr (by omega)
                      · rw [← hg]; show _ = (match qNx M u f0 p0 (M 2) with | none => (z, M) | some k => if z < g0 then qOr u f0 p0 g0 f (z + qMuch M k (g0 - z)) (qSell M k (qMuch M k (g0 - z))) else (z, M)); rw [hk]; exact (if_pos (by omega)).symm
                  · have hmu : qMuch M k (g0 - z) = qL M k 2 := if_pos (by omega)
                    refine K_aload_n X 0 dX6_order_89 rfl rfl ?_
                    refine K_iload X 6 dX6_order_90 rfl ?_
                    refine K_iconst X dX6_order_92 cii_2 ?_
                    refine K_callVE X (c_X6_part l D b _ _ _ _ hP (by omega)) my_X6_part mv_X6_part wm_X6_30 sf_m rfl ⟨rfl, rfl, Nat.le_of_ble_eq_true rfl, Nat.le_of_ble_eq_true rfl, Nat.le_of_ble_eq_true rfl, Nat.le_of_ble_eq_true rfl⟩ rfl rfl (Nat.le_of_ble_eq_true rfl) dX6_order_93 ?_
                    refine K_goto (tgt := 103) X dX6_order_96 (by decide) ?_
                    rw [← hmu]
                    have hml : qMuch M k (g0 - z) ≤ qL M k 2 := by rw [hmu]; omega
                    have hmz : qMuch M k (g0 - z) ≤ g0 - z := by rw [hmu]; omega
                    refine K_istore X (ls' := [(7, _), (0, _), (1, _), (2, _), (3, _), (4, _), (5, _), (6, _)]) dX6_order_103 (by decide) rfl ?_
                    refine K_iload X 6 dX6_order_105 rfl ?_
                    refine K_iload X 0 dX6_order_107 rfl ?_
                    refine K_iaddN X dX6_order_109 ?_
                    refine K_istore X (ls' := [(5, _), (7, _), (0, _), (1, _), (2, _), (3, _), (4, _), (6, _)]) dX6_order_110 (by decide) rfl ?_
                    refine K_aload_n X 2 dX6_order_112 rfl rfl ?_
                    refine K_get X 0 kFd6 rfl (by decide) sf_m wf_X6_7 rfl (v := rf b (191)) (kv_a (pf_m0 hP)) dX6_order_113 ?_
                    refine K_iconst X dX6_order_116 cii_4 ?_
                    refine K_dup2 X dX6_order_117 rfl rfl ?_
                    refine K_iald X _ sf_ms rfl (by omega) (by decide) (wN_at _) dX6_order_118 ?_
                    refine K_iload X 1 dX6_order_119 rfl ?_
                    refine K_iaddN X dX6_order_121 ?_
                    refine K_iast X _ sf_ms rfl (by omega) (by decide) dX6_order_122 ?_
                    refine K_st wN_u ?_
                    refine K_aload_n X 2 dX6_order_123 rfl rfl ?_
                    refine K_get X 0 kFd6 rfl (by decide) sf_m wf_X6_7 rfl (v := rf b (191)) (kv_a (pf_m0 hP)) dX6_order_124 ?_
                    refine K_bipush X dX6_order_127 cib_7 ?_
                    refine K_dup2 X dX6_order_129 rfl rfl ?_
                    refine K_iald X _ sf_ms rfl (by omega) (by decide) (wN_at _) dX6_order_130 ?_
                    rw [uN_n (show 7 ≠ 4 from by omega)]
                    refine K_iload X 1 dX6_order_131 rfl ?_
                    refine K_aload_n X 2 dX6_order_133 rfl rfl ?_
                    refine K_iload X 7 dX6_order_134 rfl ?_
                    refine K_callVE X (c_X6_priceOf l D b _ _ _ hP (qIr_a hM (by omega)) (by rw [uN_n (by omega)]; exact hkl)) my_X6_priceOf mv_X6_priceOf wm_X6_92 sf_m rfl ⟨rfl, rfl, Nat.le_of_ble_eq_true rfl, Nat.le_of_ble_eq_true rfl, Nat.le_of_ble_eq_true rfl, Nat.le_of_ble_eq_true rfl⟩ rfl rfl (Nat.le_of_ble_eq_true rfl) dX6_order_136 ?_
                    rw [show qPrice (uN M 4 (M 4 + qMuch M k (g0 - z))) k = qPrice M k from qPrice_a]
                    refine K_callSE X (c_X6_worthOf l D b _ _ _ (qW_b (by omega) (qPrice_le hM hkl))) my_X6_worthOf wt_X6_worthOf wm_X6_70 ⟨rfl, rfl, Nat.le_of_ble_eq_true rfl, Nat.le_of_ble_eq_true rfl, Nat.le_of_ble_eq_true rfl, Nat.le_of_ble_eq_true rfl⟩ rfl rfl (Nat.le_of_ble_eq_true rfl) dX6_order_139 ?_
                    refine K_iaddN X dX6_order_142 ?_
                    refine K_iast X _ sf_ms rfl (by omega) (by decide) dX6_order_143 ?_
                    refine K_st wN_u ?_
                    refine K_aload_n X 2 dX6_order_144 rfl rfl ?_
                    refine K_iload X 7 dX6_order_145 rfl ?_
                    refine K_iconst X dX6_order_147 cii_2 ?_
                    refine K_aload_n X 2 dX6_order_148 rfl rfl ?_
                    refine K_iload X 7 dX6_order_149 rfl ?_
                    refine K_iconst X dX6_order_151 cii_2 ?_
                    refine K_callVE X (c_X6_part l D b _ _ _ _ hP (by omega)) my_X6_part mv_X6_part wm_X6_30 sf_m rfl ⟨rfl, rfl, Nat.le_of_ble_eq_true rfl, Nat.le_of_ble_eq_true rfl, Nat.le_of_ble_eq_true rfl, Nat.le_of_ble_eq_true rfl⟩ rfl rfl (Nat.le_of_ble_eq_true rfl) dX6_order_152 ?_
                    rw [show qL (uN (uN M 4 (M 4 + qMuch M k (g0 - z))) 7 (M 7 + qW (qMuch M k (g0 - z)) (qPrice M k))) k 2 = qL M k 2 from (uN_n (by omega)).trans (uN_n (by omega))]
                    refine K_iload X 1 dX6_order_155 rfl ?_
                    refine K_isubN X dX6_order_157 (by exact hml) ?_
                    refine K_callVE0 X (c_X6_setPart l D b _ _ _ _ _ hP (by omega)) my_X6_setPart mv_X6_setPart wm_X6_56 sf_m rfl ⟨rfl, rfl, Nat.le_of_ble_eq_true rfl, Nat.le_of_ble_eq_true rfl, Nat.le_of_ble_eq_true rfl, Nat.le_of_ble_eq_true rfl⟩ rfl rfl (Nat.le_of_ble_eq_true rfl) dX6_order_158 ?_
                    refine K_aload_n X 2 dX6_order_161 rfl rfl ?_
                    refine K_iload X 7 dX6_order_162 rfl ?_
                    refine K_iconst X dX6_order_164 cii_2 ?_
                    refine K_callVE X (c_X6_part l D b _ _ _ _ hP (by omega)) my_X6_part mv_X6_part wm_X6_30 sf_m rfl ⟨rfl, rfl, Nat.le_of_ble_eq_true rfl, Nat.le_of_ble_eq_true rfl, Nat.le_of_ble_eq_true rfl, Nat.le_of_ble_eq_true rfl⟩ rfl rfl (Nat.le_of_ble_eq_true rfl) dX6_order_165 ?_
                    rw [show qL (uN (uN (uN M 4 (M 4 + qMuch M k (g0 - z))) 7 (M 7 + qW (qMuch M k (g0 - z)) (qPrice M k))) (45 + 5 * k + 2) (qL M k 2 - qMuch M k (g0 - z))) k 2 = qL M k 2 - qMuch M k (g0 - z) from uN_s]
                    refine K_ifN_ne (tgt := 177) X dX6_order_168 (by decide) (by omega) (fun c168 => ?_) (fun c168 => ?_)
                    · have hsell := qSell_k hM hkl hml
                      refine K_st (σ' := wN (wRec σ N r) (qSell M k (qMuch M k (g0 - z)))) (by unfold qSell; rw [if_neg c168]; rfl) ?_
                      refine K_aload_n X 2 dX6_order_177 rfl rfl ?_
                      refine K_iload_n X 3 dX6_order_178 rfl rfl ?_
                      refine K_iload_n X 5 dX6_order_179 rfl rfl ?_
                      refine K_iload X 6 dX6_order_180 rfl ?_
                      refine K_callVE X (c_X6_nextFor l D b _ _ _ _ _ hP hsell.1 (by omega) (by omega) (by omega)) my_X6_nextFor mv_X6_nextFor wm_X6_104 sf_m rfl ⟨rfl, rfl, Nat.le_of_ble_eq_true rfl, Nat.le_of_ble_eq_true rfl, Nat.le_of_ble_eq_true rfl, Nat.le_of_ble_eq_true rfl⟩ rfl rfl (Nat.le_of_ble_eq_true rfl) dX6_order_182 ?_
                      refine K_istore X (ls' := [(6, _), (5, _), (7, _), (0, _), (1, _), (2, _), (3, _), (4, _)]) dX6_order_185 (by decide) rfl ?_
                      refine K_goto (tgt := 62) X dX6_order_187 (by decide) ?_
                      refine K_sub [3, 4, 5, 6, 7, 1, 0] rfl (ih (z + qMuch M k (g0 - z)) (qSell M k (qMuch M k (g0 - z))) hsell.1 (by omega) ?_ ?_)
                      · exact Or.inl (by have := hsell.2.1 hmu; omega)
                      · rw [← hg]; show _ = (match qNx M u f0 p0 (M 2) with | none => (z, M) | some k => if z < g0 then qOr u f0 p0 g0 f (z + qMuch M k (g0 - z)) (qSell M k (qMuch M k (g0 - z))) else (z, M)); rw [hk]; exact (if_pos (by omega)).symm
                    · refine K_aload_n X 2 dX6_order_171 rfl rfl ?_
                      refine K_iload X 7 dX6_order_172 rfl ?_
                      refine K_callVE0 X (c_X6_drops l D b _ _ _ hP (by rw [uN_n (by omega), uN_n (by omega), uN_n (by omega)]; exact hM2) (by rw [uN_n (by omega), uN_n (by omega), uN_n (by omega)]; exact hkl)) my_X6_drops mv_X6_drops wm_X6_34 sf_m rfl ⟨rfl, rfl, Nat.le_of_ble_eq_true rfl, Nat.le_of_ble_eq_true rfl, Nat.le_of_ble_eq_true rfl, Nat.le_of_ble_eq_true rfl⟩ rfl rfl (Nat.le_of_ble_eq_true rfl) dX6_order_174 ?_
                      have hsell := qSell_k hM hkl hml
                      refine K_st (σ' := wN (wRec σ N r) (qSell M k (qMuch M k (g0 - z)))) (by unfold qSell; rw [if_pos c168]; rfl) ?_
                      refine K_aload_n X 2 dX6_order_177 rfl rfl ?_
                      refine K_iload_n X 3 dX6_order_178 rfl rfl ?_
                      refine K_iload_n X 5 dX6_order_179 rfl rfl ?_
                      refine K_iload X 6 dX6_order_180 rfl ?_
                      refine K_callVE X (c_X6_nextFor l D b _ _ _ _ _ hP hsell.1 (by omega) (by omega) (by omega)) my_X6_nextFor mv_X6_nextFor wm_X6_104 sf_m rfl ⟨rfl, rfl, Nat.le_of_ble_eq_true rfl, Nat.le_of_ble_eq_true rfl, Nat.le_of_ble_eq_true rfl, Nat.le_of_ble_eq_true rfl⟩ rfl rfl (Nat.le_of_ble_eq_true rfl) dX6_order_182 ?_
                      refine K_istore X (ls' := [(6, _), (5, _), (7, _), (0, _), (1, _), (2, _), (3, _), (4, _)]) dX6_order_185 (by decide) rfl ?_
                      refine K_goto (tgt := 62) X dX6_order_187 (by decide) ?_
                      refine K_sub [3, 4, 5, 6, 7, 1, 0] rfl (ih (z + qMuch M k (g0 - z)) (qSell M k (qMuch M k (g0 - z))) hsell.1 (by omega) ?_ ?_)
                      · exact Or.inl (by have := hsell.2.1 hmu; omega)
                      · rw [← hg]; show _ = (match qNx M u f0 p0 (M 2) with | none => (z, M) | some k => if z < g0 then qOr u f0 p0 g0 f (z + qMuch M k (g0 - z)) (qSell M k (qMuch M k (g0 - z))) else (z, M)); rw [hk]; exact (if_pos (by omega)).symm
          exact K_sub [2, 3, 4, 5, 6, 1, 0] rfl (loop 17 0 N hI (Nat.zero_le _) (Or.inl (by omega)) rfl)
        · refine K_bipush X dX6_order_42 cib_m2 ?_
          exact K_iret X hQ dX6_order_44 (by rw [show oOrder N (nI u) (nI g0) (nI f0) pr = (-2, none) from by unfold oOrder; rw [if_pos c4, if_neg (by rw [c39]; simp)]]; exact ⟨rfl, rfl⟩)
  · refine K_iconst X dX6_order_7 cii_m1 ?_
    exact K_iret X hQ dX6_order_8 (by rw [show oOrder N kd g fr pr = (-1, none) from by unfold oOrder; rw [qI_f c4]]; exact ⟨rfl, rfl⟩)
