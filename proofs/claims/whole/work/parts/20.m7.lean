/-! THE REFERENCE: its text -/
set_option maxHeartbeats 4000000 in
set_option maxRecDepth 100000 in
theorem c_X6_character (l : Launch) (D : KD) (b : Nat) (σ : KS) (F : Nat → Int32) (T : Nat → Nat) (n p : Nat) (hP : PF σ.2.2) (hn : n ≤ 80) (h5 : F 5 = nI n) (hT : ∀ j, j < n → T j < 128) (hR : ∀ j, j < n → σ.1 194 j = nI (T j)) (hp : p < 2 ^ 31) : Ct l D b yX6_character cX6_character 2 (some .int) (rM 0 0) 0 0 [rf b 190, .int (nI p)] shF (wI σ 190 F) shF (pE (some (.int (xCh T n p))) (wI σ 190 F)) := by
  refine Ct.of (ls := [(0, rf b 190), (1, .int (nI p))]) (by decide) (Nat.le_of_ble_eq_true rfl) rfl ?_
  intro pg e s m args below meth c Q hQ X hnm
  refine K_iload_n X 1 dX6_character_0 rfl rfl ?_
  refine K_aload_n X 0 dX6_character_1 rfl rfl ?_
  refine K_get X 5 kFd6 rfl (by decide) sf_m wf_X6_175 rfl (v := .int (nI n)) (congrArg Value.int ((congrFun wI_self 5).trans h5)) dX6_character_2 ?_
  refine K_icmpN_ge (tgt := 17) X dX6_character_5 (by decide) (by omega) (by omega) (fun c5 => ?_) (fun c5 => ?_)
  · refine K_iconst X dX6_character_17 cii_m1 ?_
    exact K_iret X hQ dX6_character_18 (⟨by unfold xCh; rw [if_neg (by omega)], rfl⟩)
  · refine K_aload_n X 0 dX6_character_8 rfl rfl ?_
    refine K_get X 4 kFd6 rfl (by decide) sf_m wf_X6_19 rfl (v := rf b (194)) (kv_a (pf_m4 hP)) dX6_character_9 ?_
    refine K_iload_n X 1 dX6_character_12 rfl rfl ?_
    refine K_iald X _ sf_mt rfl (by omega) (by decide) ((congrFun (wI_ne (by decide)) _).trans (hR _ (by omega))) dX6_character_13 ?_
    refine K_goto (tgt := 18) X dX6_character_14 (by decide) ?_
    exact K_iret X hQ dX6_character_18 (⟨by unfold xCh; rw [if_pos (by omega)], rfl⟩)

set_option maxHeartbeats 4000000 in
set_option maxRecDepth 100000 in
theorem c_X6_isNext (l : Launch) (D : KD) (b : Nat) (σ : KS) (F : Nat → Int32) (T : Nat → Nat) (n p : Nat) (q : Nat) (hP : PF σ.2.2) (hn : n ≤ 80) (h5 : F 5 = nI n) (hT : ∀ j, j < n → T j < 128) (hR : ∀ j, j < n → σ.1 194 j = nI (T j)) (h6 : F 6 = nI p) (hp : p ≤ n) (hq : q < 128) : Ct l D b yX6_isNext cX6_isNext 3 (some .boolean) (rM 1 21) 0 0 [rf b 190, .int (nI q)] shF (wI σ 190 F) shF (pE (some (.int (kB (xIs T n q p)))) (wI σ 190 (upd F 6 (nI (p + (if xIs T n q p = true then 1 else 0)))))) := by
  refine Ct.of (ls := [(0, rf b 190), (1, .int (nI q))]) (by decide) (Nat.le_of_ble_eq_true rfl) rfl ?_
  intro pg e s m args below meth c Q hQ X hnm
  refine K_aload_n X 0 dX6_isNext_0 rfl rfl ?_
  refine K_aload_n X 0 dX6_isNext_1 rfl rfl ?_
  refine K_get X 6 kFd6 rfl (by decide) sf_m wf_X6_178 rfl (v := .int (nI p)) (congrArg Value.int ((congrFun wI_self 6).trans h6)) dX6_isNext_2 ?_
  refine K_callVE X (c_X6_character l D b _ _ T n _ hP hn h5 hT hR (by omega)) my_X6_character mv_X6_character wm_X6_181 sf_m rfl ⟨rfl, rfl, Nat.le_of_ble_eq_true rfl, Nat.le_of_ble_eq_true rfl, Nat.le_of_ble_eq_true rfl, Nat.le_of_ble_eq_true rfl⟩ rfl rfl (Nat.le_of_ble_eq_true rfl) dX6_isNext_5 ?_
  refine K_iload_n X 1 dX6_isNext_8 rfl rfl ?_
  refine K_icmp_ne (tgt := 16) X dX6_isNext_9 (by decide) (fun c9 => ?_) (fun c9 => ?_)
  · have hx : xIs T n q p = false := Bool.eq_false_iff.mpr (fun z => c9 ((xCh_is hT hq).mpr z))
    refine K_iconst X dX6_isNext_16 cii_0 ?_
    refine K_istore_n X (ls' := [(2, _), (0, _), (1, _)]) dX6_isNext_17 rfl (by decide) rfl ?_
    refine K_aload_n X 1 dX6_isNext_18 rfl rfl ?_
    refine K_dup X dX6_isNext_19 rfl ?_
    refine K_get X 6 kFd6 rfl (by decide) sf_m wf_X6_178 rfl (v := .int (nI p)) (congrArg Value.int ((congrFun wI_self 6).trans h6)) dX6_isNext_20 ?_
    refine K_iload_n X 0 dX6_isNext_23 rfl rfl ?_
    refine K_ifN_eq (tgt := 31) X dX6_isNext_24 (by decide) (by omega) (fun c24 => ?_) (fun c24 => ?_)
    · refine K_iconst X dX6_isNext_31 cii_0 ?_
      refine K_iaddN X dX6_isNext_32 ?_
      refine K_putI X 6 kFd6 rfl (by decide) sf_m wf_X6_178 rfl rfl rfl dX6_isNext_33 ?_
      refine K_st (wI_upd rfl) ?_
      refine K_iload_n X 0 dX6_isNext_36 rfl rfl ?_
      exact K_zret X false rfl hQ dX6_isNext_37 (⟨by rw [hx], by rw [hx]; rfl⟩)
    · exact absurd rfl c24
  · have hx : xIs T n q p = true := (xCh_is hT hq).mp c9
    refine K_iconst X dX6_isNext_12 cii_1 ?_
    refine K_goto (tgt := 17) X dX6_isNext_13 (by decide) ?_
    refine K_istore_n X (ls' := [(2, _), (0, _), (1, _)]) dX6_isNext_17 rfl (by decide) rfl ?_
    refine K_aload_n X 1 dX6_isNext_18 rfl rfl ?_
    refine K_dup X dX6_isNext_19 rfl ?_
    refine K_get X 6 kFd6 rfl (by decide) sf_m wf_X6_178 rfl (v := .int (nI p)) (congrArg Value.int ((congrFun wI_self 6).trans h6)) dX6_isNext_20 ?_
    refine K_iload_n X 0 dX6_isNext_23 rfl rfl ?_
    refine K_ifN_eq (tgt := 31) X dX6_isNext_24 (by decide) (by omega) (fun c24 => ?_) (fun c24 => ?_)
    · exact absurd c24 (by decide)
    · refine K_iconst X dX6_isNext_27 cii_1 ?_
      refine K_goto (tgt := 32) X dX6_isNext_28 (by decide) ?_
      refine K_iaddN X dX6_isNext_32 ?_
      refine K_putI X 6 kFd6 rfl (by decide) sf_m wf_X6_178 rfl rfl rfl dX6_isNext_33 ?_
      refine K_st (wI_upd rfl) ?_
      refine K_iload_n X 0 dX6_isNext_36 rfl rfl ?_
      exact K_zret X true rfl hQ dX6_isNext_37 (⟨by rw [hx], by rw [hx]; rfl⟩)

set_option maxHeartbeats 4000000 in
set_option maxRecDepth 100000 in
theorem c_X6_readsDigit (l : Launch) (D : KD) (b : Nat) (σ : KS) (F : Nat → Int32) (T : Nat → Nat) (n p : Nat) (lo hi : Nat) (hP : PF σ.2.2) (hn : n ≤ 80) (h5 : F 5 = nI n) (hT : ∀ j, j < n → T j < 128) (hR : ∀ j, j < n → σ.1 194 j = nI (T j)) (h6 : F 6 = nI p) (hp : p ≤ n) (hh : lo ≤ 9 ∧ hi ≤ 9) : Ct l D b yX6_readsDigit cX6_readsDigit 4 (some .boolean) (rM 1 22) 0 0 [rf b 190, .int (nI lo), .int (nI hi)] shF (wI σ 190 F) shF (pE (some (.int (kB (xOk T n lo hi p)))) (wI σ 190 (upd (upd F 7 (xCh T n p - nI 48)) 6 (nI (p + (if xOk T n lo hi p = true then 1 else 0)))))) := by
  refine Ct.of (ls := [(0, rf b 190), (1, .int (nI lo)), (2, .int (nI hi))]) (by decide) (Nat.le_of_ble_eq_true rfl) rfl ?_
  intro pg e s m args below meth c Q hQ X hnm
  refine K_aload_n X 0 dX6_readsDigit_0 rfl rfl ?_
  refine K_aload_n X 0 dX6_readsDigit_1 rfl rfl ?_
  refine K_get X 6 kFd6 rfl (by decide) sf_m wf_X6_178 rfl (v := .int (nI p)) (congrArg Value.int ((congrFun wI_self 6).trans h6)) dX6_readsDigit_2 ?_
  refine K_callVE X (c_X6_character l D b _ _ T n _ hP hn h5 hT hR (by omega)) my_X6_character mv_X6_character wm_X6_181 sf_m rfl ⟨rfl, rfl, Nat.le_of_ble_eq_true rfl, Nat.le_of_ble_eq_true rfl, Nat.le_of_ble_eq_true rfl, Nat.le_of_ble_eq_true rfl⟩ rfl rfl (Nat.le_of_ble_eq_true rfl) dX6_readsDigit_5 ?_
  refine K_bipush X dX6_readsDigit_8 cib_48 ?_
  refine K_iload_n X 1 dX6_readsDigit_10 rfl rfl ?_
  refine K_iaddN X dX6_readsDigit_11 ?_
  refine K_bipush X dX6_readsDigit_12 cib_48 ?_
  refine K_iload_n X 2 dX6_readsDigit_14 rfl rfl ?_
  refine K_iaddN X dX6_readsDigit_15 ?_
  refine K_callSE X (c_X6_withinQ l D b _ _ _ _) my_X6_within wt_X6_within wm_X6_38 ⟨rfl, rfl, Nat.le_of_ble_eq_true rfl, Nat.le_of_ble_eq_true rfl, Nat.le_of_ble_eq_true rfl, Nat.le_of_ble_eq_true rfl⟩ rfl rfl (Nat.le_of_ble_eq_true rfl) dX6_readsDigit_16 ?_
  rw [xOk_q hT hh]
  refine K_istore_n X (ls' := [(3, _), (0, _), (1, _), (2, _)]) dX6_readsDigit_19 rfl (by decide) rfl ?_
  refine K_aload_n X 1 dX6_readsDigit_20 rfl rfl ?_
  refine K_aload_n X 1 dX6_readsDigit_21 rfl rfl ?_
  refine K_aload_n X 1 dX6_readsDigit_22 rfl rfl ?_
  refine K_get X 6 kFd6 rfl (by decide) sf_m wf_X6_178 rfl (v := .int (nI p)) (congrArg Value.int ((congrFun wI_self 6).trans h6)) dX6_readsDigit_23 ?_
  refine K_callVE X (c_X6_character l D b _ _ T n _ hP hn h5 hT hR (by omega)) my_X6_character mv_X6_character wm_X6_181 sf_m rfl ⟨rfl, rfl, Nat.le_of_ble_eq_true rfl, Nat.le_of_ble_eq_true rfl, Nat.le_of_ble_eq_true rfl, Nat.le_of_ble_eq_true rfl⟩ rfl rfl (Nat.le_of_ble_eq_true rfl) dX6_readsDigit_26 ?_
  refine K_bipush X dX6_readsDigit_29 cib_48 ?_
  refine K_isub X dX6_readsDigit_31 ?_
  refine K_putI X 7 kFd6 rfl (by decide) sf_m wf_X6_184 rfl rfl rfl dX6_readsDigit_32 ?_
  refine K_st (wI_upd rfl) ?_
  refine K_aload_n X 1 dX6_readsDigit_35 rfl rfl ?_
  refine K_dup X dX6_readsDigit_36 rfl ?_
  refine K_get X 6 kFd6 rfl (by decide) sf_m wf_X6_178 rfl (v := .int (nI p)) (congrArg Value.int ((congrFun wI_self 6).trans h6)) dX6_readsDigit_37 ?_
  refine K_iload_n X 0 dX6_readsDigit_40 rfl rfl ?_
  refine K_ifB_eq (tgt := 48) X dX6_readsDigit_41 (by decide) (fun c41 => ?_) (fun c41 => ?_)
  · refine K_iconst X dX6_readsDigit_48 cii_0 ?_
    refine K_iaddN X dX6_readsDigit_49 ?_
    refine K_putI X 6 kFd6 rfl (by decide) sf_m wf_X6_178 rfl rfl rfl dX6_readsDigit_50 ?_
    refine K_st (wI_upd rfl) ?_
    refine K_iload_n X 0 dX6_readsDigit_53 rfl rfl ?_
    exact K_zret X _ rfl hQ dX6_readsDigit_54 (⟨rfl, by rw [c41]; rfl⟩)
  · refine K_iconst X dX6_readsDigit_44 cii_1 ?_
    refine K_goto (tgt := 49) X dX6_readsDigit_45 (by decide) ?_
    refine K_iaddN X dX6_readsDigit_49 ?_
    refine K_putI X 6 kFd6 rfl (by decide) sf_m wf_X6_178 rfl rfl rfl dX6_readsDigit_50 ?_
    refine K_st (wI_upd rfl) ?_
    refine K_iload_n X 0 dX6_readsDigit_53 rfl rfl ?_
    exact K_zret X _ rfl hQ dX6_readsDigit_54 (⟨rfl, by rw [c41]; rfl⟩)

set_option maxHeartbeats 4000000 in
set_option maxRecDepth 100000 in
theorem c_X6_readsNumber (l : Launch) (D : KD) (b : Nat) (σ : KS) (F : Nat → Int32) (T : Nat → Nat) (n p : Nat) (lo hi : Nat) (hP : PF σ.2.2) (hn : n ≤ 80) (h5 : F 5 = nI n) (hT : ∀ j, j < n → T j < 128) (hR : ∀ j, j < n → σ.1 194 j = nI (T j)) (h6 : F 6 = nI p) (hp : p ≤ n) (hl : lo ≤ 9) (hh : 9 ≤ hi ∧ hi ≤ 20000) : Ct l D b yX6_readsNumber cX6_readsNumber 5 (some .boolean) (rM 2 45) 0 0 [rf b 190, .int (nI lo), .int (nI hi)] shF (wI σ 190 F) shF (pS (some (.int (kB (xNum T n lo hi p).isSome))) (fun σ' => ∃ G, σ' = wI σ 190 G ∧ xPn F G p (xNum T n lo hi p))) := by
  refine Ct.of (ls := [(0, rf b 190), (1, .int (nI lo)), (2, .int (nI hi))]) (by decide) (Nat.le_of_ble_eq_true rfl) rfl ?_
  intro pg e s m args below meth c Q hQ X hnm
  refine K_aload_n X 0 dX6_readsNumber_0 rfl rfl ?_
  refine K_iload_n X 1 dX6_readsNumber_1 rfl rfl ?_
  refine K_bipush X dX6_readsNumber_2 cib_9 ?_
  refine K_callVE X (c_X6_readsDigit l D b _ F T n p _ _ hP hn h5 hT hR h6 hp (by omega)) my_X6_readsDigit mv_X6_readsDigit wm_X6_187 sf_m rfl ⟨rfl, rfl, Nat.le_of_ble_eq_true rfl, Nat.le_of_ble_eq_true rfl, Nat.le_of_ble_eq_true rfl, Nat.le_of_ble_eq_true rfl⟩ rfl rfl (Nat.le_of_ble_eq_true rfl) dX6_readsNumber_4 ?_
  refine K_ifB_ne (tgt := 12) X dX6_readsNumber_7 (by decide) (fun c7 => ?_) (fun c7 => ?_)
  · obtain ⟨d, hd, hd1, hd2⟩ := xOk_t c7
    rw [c7, xCh_48 hd]
    have hN := xNum_t (hi := hi) hd (show lo ≤ d ∧ d ≤ hi from by omega)
    refine K_aload_n X 0 dX6_readsNumber_12 rfl rfl ?_
    refine K_get X 7 kFd6 rfl (by decide) sf_m wf_X6_184 rfl (v := .int (nI d)) (congrArg Value.int (congrFun wI_self 7)) dX6_readsNumber_13 ?_
    refine K_ifN_le (tgt := 23) X dX6_readsNumber_16 (by decide) (by omega) (fun c16 => ?_) (fun c16 => ?_)
    · refine K_iconst X dX6_readsNumber_23 cii_0 ?_
      refine K_istore_n X (ls' := [(3, _), (0, _), (1, _), (2, _)]) dX6_readsNumber_24 rfl (by decide) rfl ?_
      refine K_iload_n X 0 dX6_readsNumber_25 rfl rfl ?_
      refine K_ifN_eq (tgt := 118) X dX6_readsNumber_26 (by decide) (by omega) (fun c26 => ?_) (fun c26 => ?_)
      · refine K_iconst X dX6_readsNumber_118 cii_1 ?_
        exact K_zret X true rfl hQ dX6_readsNumber_119 (⟨by rw [hN]; rfl, _, rfl, by rw [hN, if_pos c16]; exact ⟨fun k hk => by unfold upd; rw [if_neg (by omega), if_neg (by omega)], fun k hk => by unfold upd; rw [if_neg (by omega), if_neg (by omega)], by rw [c16]; rfl, rfl⟩⟩)
      · exact absurd rfl c26
    · have hN0 := hN
      rw [if_neg c16] at hN0
      refine K_iconst X dX6_readsNumber_19 cii_1 ?_
      refine K_goto (tgt := 24) X dX6_readsNumber_20 (by decide) ?_
      refine K_istore_n X (ls' := [(3, _), (0, _), (1, _), (2, _)]) dX6_readsNumber_24 rfl (by decide) rfl ?_
      have loop : ∀ (f v pp : Nat) (G : Nat → Int32), v ≤ hi → pp ≤ n → n < pp + f → (∀ k, k < 6 → G k = F k) → (∀ k, 8 ≤ k → G k = F k) → G 7 = nI v → G 6 = nI pp → xMore T n hi f v pp = xMore T n hi 81 d (p + 1) → K pg l e (rM 2 45) s m args below meth c Q D b 5 0 0 shF (wI σ 190 G) 25 [(0, rf b 190), (2, .int (nI hi)), (3, .int (nI 1))] [] := by
        intro f
        induction f with
        | zero => intro v pp G hv hpp hf; omega
        | succ f ih =>
          intro v pp G hv hpp hf g1 g2 g7 g6 hg
          have g5 : G 5 = nI n := (g1 5 (by omega)).trans h5
          refine K_iload_n X 2 dX6_readsNumber_25 rfl rfl ?_
          refine K_ifN_eq (tgt := 118) X dX6_readsNumber_26 (by decide) (by omega) (fun c26 => ?_) (fun c26 => ?_)
          · exact absurd c26 (by decide)
          · refine K_bipush X dX6_readsNumber_29 cib_10 ?_
            refine K_aload_n X 0 dX6_readsNumber_31 rfl rfl ?_
            refine K_get X 7 kFd6 rfl (by decide) sf_m wf_X6_184 rfl (v := .int (nI v)) (congrArg Value.int ((congrFun wI_self 7).trans g7)) dX6_readsNumber_32 ?_
            refine K_imulN X dX6_readsNumber_35 ?_
            refine K_aload_n X 0 dX6_readsNumber_36 rfl rfl ?_
            refine K_aload_n X 0 dX6_readsNumber_37 rfl rfl ?_
            refine K_get X 6 kFd6 rfl (by decide) sf_m wf_X6_178 rfl (v := .int (nI pp)) (congrArg Value.int ((congrFun wI_self 6).trans g6)) dX6_readsNumber_38 ?_
            refine K_callVE X (c_X6_character l D b _ _ T n _ hP hn g5 hT hR (by omega)) my_X6_character mv_X6_character wm_X6_181 sf_m rfl ⟨rfl, rfl, Nat.le_of_ble_eq_true rfl, Nat.le_of_ble_eq_true rfl, Nat.le_of_ble_eq_true rfl, Nat.le_of_ble_eq_true rfl⟩ rfl rfl (Nat.le_of_ble_eq_true rfl) dX6_readsNumber_41 ?_
            refine K_iadd X dX6_readsNumber_44 ?_
            refine K_bipush X dX6_readsNumber_45 cib_48 ?_
            refine K_isub X dX6_readsNumber_47 ?_
            refine K_istore X (ls' := [(4, _), (0, _), (2, _), (3, _)]) dX6_readsNumber_48 (by decide) rfl ?_
            refine K_aload_n X 1 dX6_readsNumber_50 rfl rfl ?_
            refine K_aload_n X 1 dX6_readsNumber_51 rfl rfl ?_
            refine K_get X 6 kFd6 rfl (by decide) sf_m wf_X6_178 rfl (v := .int (nI pp)) (congrArg Value.int ((congrFun wI_self 6).trans g6)) dX6_readsNumber_52 ?_
            refine K_callVE X (c_X6_character l D b _ _ T n _ hP hn g5 hT hR (by omega)) my_X6_character mv_X6_character wm_X6_181 sf_m rfl ⟨rfl, rfl, Nat.le_of_ble_eq_true rfl, Nat.le_of_ble_eq_true rfl, Nat.le_of_ble_eq_true rfl, Nat.le_of_ble_eq_true rfl⟩ rfl rfl (Nat.le_of_ble_eq_true rfl) dX6_readsNumber_55 ?_
            refine K_bipush X dX6_readsNumber_58 cib_48 ?_
            refine K_bipush X dX6_readsNumber_60 cib_57 ?_
            refine K_callSE X (c_X6_withinQ l D b _ _ 48 57) my_X6_within wt_X6_within wm_X6_38 ⟨rfl, rfl, Nat.le_of_ble_eq_true rfl, Nat.le_of_ble_eq_true rfl, Nat.le_of_ble_eq_true rfl, Nat.le_of_ble_eq_true rfl⟩ rfl rfl (Nat.le_of_ble_eq_true rfl) dX6_readsNumber_62 ?_
            rw [show qIn 48 57 (xCh T n pp) = xOk T n 0 9 pp from xOk_q (lo := 0) (hi := 9) hT (by omega)]
            refine K_ifB_eq (tgt := 78) X dX6_readsNumber_65 (by decide) (fun c65 => ?_) (fun c65 => ?_)
            · refine K_iconst X dX6_readsNumber_78 cii_0 ?_
              refine K_istore_n X (ls' := [(3, _), (4, _), (0, _), (2, _)]) dX6_readsNumber_79 rfl (by decide) rfl ?_
              refine K_aload_n X 2 dX6_readsNumber_80 rfl rfl ?_
              refine K_iload_n X 0 dX6_readsNumber_81 rfl rfl ?_
              refine K_ifN_eq (tgt := 90) X dX6_readsNumber_82 (by decide) (by omega) (fun c82 => ?_) (fun c82 => ?_)
              · refine K_aload_n X 2 dX6_readsNumber_90 rfl rfl ?_
                refine K_get X 7 kFd6 rfl (by decide) sf_m wf_X6_184 rfl (v := .int (nI v)) (congrArg Value.int ((congrFun wI_self 7).trans g7)) dX6_readsNumber_91 ?_
                refine K_putI X 7 kFd6 rfl (by decide) sf_m wf_X6_184 rfl rfl rfl dX6_readsNumber_94 ?_
                refine K_st (wI_upd rfl) ?_
                refine K_aload_n X 2 dX6_readsNumber_97 rfl rfl ?_
                refine K_dup X dX6_readsNumber_98 rfl ?_
                refine K_get X 6 kFd6 rfl (by decide) sf_m wf_X6_178 rfl (v := .int (nI pp)) (congrArg Value.int ((congrFun wI_self 6).trans g6)) dX6_readsNumber_99 ?_
                refine K_iload_n X 0 dX6_readsNumber_102 rfl rfl ?_
                refine K_ifN_eq (tgt := 110) X dX6_readsNumber_103 (by decide) (by omega) (fun c103 => ?_) (fun c103 => ?_)
                · refine K_iconst X dX6_readsNumber_110 cii_0 ?_
                  refine K_iaddN X dX6_readsNumber_111 ?_
                  refine K_putI X 6 kFd6 rfl (by decide) sf_m wf_X6_178 rfl rfl rfl dX6_readsNumber_112 ?_
                  refine K_st (wI_upd rfl) ?_
                  refine K_goto (tgt := 25) X dX6_readsNumber_115 (by decide) ?_
                  have hmore : xMore T n hi (f + 1) v pp = (v, pp) := by
                    show (match xDig T n pp with | none => (v, pp) | some d => if 10 * v + d ≤ hi then xMore T n hi f (10 * v + d) (pp + 1) else (v, pp)) = _
                    cases hd9 : xDig T n pp with
                    | none => rfl
                    | some e1 => exact absurd ⟨Nat.zero_le _, (xDig_lt hd9).2.1⟩ (xOk_f c65 hd9)
                  refine K_st (σ' := wI σ 190 G) (by rw [upd_id (f := G) g7, Nat.add_zero, upd_id (f := G) g6]) ?_
                  refine K_iload_n X 0 dX6_readsNumber_25 rfl rfl ?_
                  refine K_ifN_eq (tgt := 118) X dX6_readsNumber_26 (by decide) (by omega) (fun c26 => ?_) (fun c26 => ?_)
                  · refine K_iconst X dX6_readsNumber_118 cii_1 ?_
                    exact K_zret X true rfl hQ dX6_readsNumber_119 (⟨by rw [hN]; rfl, G, rfl, by rw [hN0, ← hg]; exact ⟨g1, g2, by rw [hmore]; exact ⟨g7, g6⟩⟩⟩)
                  · exact absurd rfl c26
                · exact absurd rfl c103
              · exact absurd rfl c82
            · obtain ⟨e1, he, -, -⟩ := xOk_t c65
              have he9 := xDig_lt he
              rw [xLong he]
              refine K_iload X 0 dX6_readsNumber_68 rfl ?_
              refine K_iload_n X 2 dX6_readsNumber_70 rfl rfl ?_
              refine K_icmpN_gt (tgt := 78) X dX6_readsNumber_71 (by decide) (by omega) (by omega) (fun c71 => ?_) (fun c71 => ?_)
              · refine K_iconst X dX6_readsNumber_78 cii_0 ?_
                refine K_istore_n X (ls' := [(3, _), (4, _), (0, _), (2, _)]) dX6_readsNumber_79 rfl (by decide) rfl ?_
                refine K_aload_n X 2 dX6_readsNumber_80 rfl rfl ?_
                refine K_iload_n X 0 dX6_readsNumber_81 rfl rfl ?_
                refine K_ifN_eq (tgt := 90) X dX6_readsNumber_82 (by decide) (by omega) (fun c82 => ?_) (fun c82 => ?_)
                · refine K_aload_n X 2 dX6_readsNumber_90 rfl rfl ?_
                  refine K_get X 7 kFd6 rfl (by decide) sf_m wf_X6_184 rfl (v := .int (nI v)) (congrArg Value.int ((congrFun wI_self 7).trans g7)) dX6_readsNumber_91 ?_
                  refine K_putI X 7 kFd6 rfl (by decide) sf_m wf_X6_184 rfl rfl rfl dX6_readsNumber_94 ?_
                  refine K_st (wI_upd rfl) ?_
                  refine K_aload_n X 2 dX6_readsNumber_97 rfl rfl ?_
                  refine K_dup X dX6_readsNumber_98 rfl ?_
                  refine K_get X 6 kFd6 rfl (by decide) sf_m wf_X6_178 rfl (v := .int (nI pp)) (congrArg Value.int ((congrFun wI_self 6).trans g6)) dX6_readsNumber_99 ?_
                  refine K_iload_n X 0 dX6_readsNumber_102 rfl rfl ?_
                  refine K_ifN_eq (tgt := 110) X dX6_readsNumber_103 (by decide) (by omega) (fun c103 => ?_) (fun c103 => ?_)
                  · refine K_iconst X dX6_readsNumber_110 cii_0 ?_
                    refine K_iaddN X dX6_readsNumber_111 ?_
                    refine K_putI X 6 kFd6 rfl (by decide) sf_m wf_X6_178 rfl rfl rfl dX6_readsNumber_112 ?_
                    refine K_st (wI_upd rfl) ?_
                    refine K_goto (tgt := 25) X dX6_readsNumber_115 (by decide) ?_
                    have hmore : xMore T n hi (f + 1) v pp = (v, pp) := by
                      show (match xDig T n pp with | none => (v, pp) | some d => if 10 * v + d ≤ hi then xMore T n hi f (10 * v + d) (pp + 1) else (v, pp)) = _
                      rw [he]; exact if_neg (by omega)
                    refine K_st (σ' := wI σ 190 G) (by rw [upd_id (f := G) g7, Nat.add_zero, upd_id (f := G) g6]) ?_
                    refine K_iload_n X 0 dX6_readsNumber_25 rfl rfl ?_
                    refine K_ifN_eq (tgt := 118) X dX6_readsNumber_26 (by decide) (by omega) (fun c26 => ?_) (fun c26 => ?_)
                    · refine K_iconst X dX6_readsNumber_118 cii_1 ?_
                      exact K_zret X true rfl hQ dX6_readsNumber_119 (⟨by rw [hN]; rfl, G, rfl, by rw [hN0, ← hg]; exact ⟨g1, g2, by rw [hmore]; exact ⟨g7, g6⟩⟩⟩)
                    · exact absurd rfl c26
                  · exact absurd rfl c103
                · exact absurd rfl c82
              · refine K_iconst X dX6_readsNumber_74 cii_1 ?_
                refine K_goto (tgt := 79) X dX6_readsNumber_75 (by decide) ?_
                refine K_istore_n X (ls' := [(3, _), (4, _), (0, _), (2, _)]) dX6_readsNumber_79 rfl (by decide) rfl ?_
                refine K_aload_n X 2 dX6_readsNumber_80 rfl rfl ?_
                refine K_iload_n X 0 dX6_readsNumber_81 rfl rfl ?_
                refine K_ifN_eq (tgt := 90) X dX6_readsNumber_82 (by decide) (by omega) (fun c82 => ?_) (fun c82 => ?_)
                · exact absurd c82 (by decide)
                · refine K_iload X 1 dX6_readsNumber_85 rfl ?_
                  refine K_goto (tgt := 94) X dX6_readsNumber_87 (by decide) ?_
                  refine K_putI X 7 kFd6 rfl (by decide) sf_m wf_X6_184 rfl rfl rfl dX6_readsNumber_94 ?_
                  refine K_st (wI_upd rfl) ?_
                  refine K_aload_n X 2 dX6_readsNumber_97 rfl rfl ?_
                  refine K_dup X dX6_readsNumber_98 rfl ?_
                  refine K_get X 6 kFd6 rfl (by decide) sf_m wf_X6_178 rfl (v := .int (nI pp)) (congrArg Value.int ((congrFun wI_self 6).trans g6)) dX6_readsNumber_99 ?_
                  refine K_iload_n X 0 dX6_readsNumber_102 rfl rfl ?_
                  refine K_ifN_eq (tgt := 110) X dX6_readsNumber_103 (by decide) (by omega) (fun c103 => ?_) (fun c103 => ?_)
                  · exact absurd c103 (by decide)
                  · refine K_iconst X dX6_readsNumber_106 cii_1 ?_
                    refine K_goto (tgt := 111) X dX6_readsNumber_107 (by decide) ?_
                    refine K_iaddN X dX6_readsNumber_111 ?_
                    refine K_putI X 6 kFd6 rfl (by decide) sf_m wf_X6_178 rfl rfl rfl dX6_readsNumber_112 ?_
                    refine K_st (wI_upd rfl) ?_
                    refine K_goto (tgt := 25) X dX6_readsNumber_115 (by decide) ?_
                    exact K_sub [2, 3, 0] rfl (ih (10 * v + e1) (pp + 1) _ (by omega) (by omega) (by omega) (fun k hk => by unfold upd; rw [if_neg (by omega), if_neg (by omega)]; exact g1 k hk) (fun k hk => by unfold upd; rw [if_neg (by omega), if_neg (by omega)]; exact g2 k hk) rfl rfl (by rw [← hg]; show _ = (match xDig T n pp with | none => (v, pp) | some d => if 10 * v + d ≤ hi then xMore T n hi f (10 * v + d) (pp + 1) else (v, pp)); rw [he]; exact (if_pos (by omega)).symm))
      exact K_sub [1, 3, 0] rfl (loop 81 d (p + 1) _ (by omega) (by have := xDig_lt hd; omega) (by omega) (fun k hk => by unfold upd; rw [if_neg (by omega), if_neg (by omega)]) (fun k hk => by unfold upd; rw [if_neg (by omega), if_neg (by omega)]) rfl rfl rfl)
  · have hN : xNum T n lo hi p = none := xNum_f (fun d hd => by have := xOk_f c7 hd; have := xDig_lt hd; omega)
    refine K_iconst X dX6_readsNumber_10 cii_0 ?_
    exact K_zret X false rfl hQ dX6_readsNumber_11 (⟨by rw [hN]; rfl, _, rfl, by rw [hN]; exact ⟨fun k hk => by unfold upd; rw [if_neg (by omega), if_neg (by omega)], fun k hk => by unfold upd; rw [if_neg (by omega), if_neg (by omega)], by rw [c7]; rfl⟩⟩)

set_option maxHeartbeats 4000000 in
set_option maxRecDepth 100000 in
theorem c_X6_readsItem (l : Launch) (D : KD) (b : Nat) (σ : KS) (F : Nat → Int32) (T : Nat → Nat) (n p : Nat) (hP : PF σ.2.2) (hn : n ≤ 80) (h5 : F 5 = nI n) (hT : ∀ j, j < n → T j < 128) (hR : ∀ j, j < n → σ.1 194 j = nI (T j)) (h6 : F 6 = nI p) (hp : p ≤ n) : Ct l D b yX6_readsItem cX6_readsItem 2 (some .boolean) (rM 3 69) 0 0 [rf b 190] shF (wI σ 190 F) shF (pS (some (.int (kB (xItem T n p).1.isSome))) (fun σ' => ∃ G, σ' = wI σ 190 G ∧ xPi F G (xItem T n p))) := by
  refine Ct.of (ls := [(0, rf b 190)]) (by decide) (Nat.le_of_ble_eq_true rfl) rfl ?_
  intro pg e s m args below meth c Q hQ X hnm
  refine K_aload_n X 0 dX6_readsItem_0 rfl rfl ?_
  refine K_iconst X dX6_readsItem_1 cii_0 ?_
  refine K_iconst X dX6_readsItem_2 cii_5 ?_
  refine K_callVE X (c_X6_readsDigit l D b _ F T n p _ _ hP hn h5 hT hR h6 hp (by omega)) my_X6_readsDigit mv_X6_readsDigit wm_X6_187 sf_m rfl ⟨rfl, rfl, Nat.le_of_ble_eq_true rfl, Nat.le_of_ble_eq_true rfl, Nat.le_of_ble_eq_true rfl, Nat.le_of_ble_eq_true rfl⟩ rfl rfl (Nat.le_of_ble_eq_true rfl) dX6_readsItem_3 ?_
  have hp1 := xPn_5 (F := F) (n := n) (p := p) (T := T)
  generalize upd (upd F 7 (xCh T n p - nI 48)) 6 (nI (p + (if xOk T n 0 5 p = true then 1 else 0))) = G1 at hp1 ⊢
  rw [xOk_5]
  have aG1 := hp1.1
  refine K_istore_n X (ls' := [(1, _), (0, _)]) dX6_readsItem_6 rfl (by decide) rfl ?_
  refine K_aload_n X 1 dX6_readsItem_7 rfl rfl ?_
  refine K_aload_n X 1 dX6_readsItem_8 rfl rfl ?_
  refine K_get X 7 kFd6 rfl (by decide) sf_m wf_X6_184 rfl (v := .int (G1 7)) (congrArg Value.int (congrFun wI_self 7)) dX6_readsItem_9 ?_
  refine K_putI X 8 kFd6 rfl (by decide) sf_m wf_X6_191 rfl rfl rfl dX6_readsItem_12 ?_
  refine K_st (wI_upd rfl) ?_
  obtain ⟨G2, hG2⟩ : ∃ z, z = upd G1 8 (G1 7) := ⟨_, rfl⟩
  rw [← hG2]
  have aG2 : ∀ k, k < 6 → G2 k = F k := by rw [hG2]; exact upd6 (by omega) aG1
  refine K_iload_n X 0 dX6_readsItem_15 rfl rfl ?_
  refine K_ifB_eq (tgt := 43) X dX6_readsItem_16 (by decide) (fun c16 => ?_) (fun c16 => ?_)
  · have hX : xItem T n p = (none, p) := by unfold xItem; rw [isS_f c16]
    have sG2 : G2 6 = nI p := by rw [hG2]; have := hp1.2.2; rw [isS_f c16] at this; exact this
    refine K_iconst X dX6_readsItem_43 cii_0 ?_
    refine K_istore_n X (ls' := [(1, _), (0, _)]) dX6_readsItem_44 rfl (by decide) rfl ?_
    refine K_aload_n X 1 dX6_readsItem_45 rfl rfl ?_
    refine K_aload_n X 1 dX6_readsItem_46 rfl rfl ?_
    refine K_get X 7 kFd6 rfl (by decide) sf_m wf_X6_184 rfl (v := .int (G2 7)) (congrArg Value.int (congrFun wI_self 7)) dX6_readsItem_47 ?_
    refine K_putI X 9 kFd6 rfl (by decide) sf_m wf_X6_200 rfl rfl rfl dX6_readsItem_50 ?_
    refine K_st (wI_upd rfl) ?_
    obtain ⟨G5, hG5⟩ : ∃ z, z = upd G2 9 (G2 7) := ⟨_, rfl⟩
    rw [← hG5]
    have aG5 : ∀ k, k < 6 → G5 k = F k := by rw [hG5]; exact upd6 (by omega) aG2
    have sG5 : G5 6 = nI (p) := by rw [hG5]; exact sG2
    refine K_iload_n X 0 dX6_readsItem_53 rfl rfl ?_
    refine K_ifN_eq (tgt := 80) X dX6_readsItem_54 (by decide) (by omega) (fun c54 => ?_) (fun c54 => ?_)
    · refine K_iconst X dX6_readsItem_80 cii_0 ?_
      refine K_istore_n X (ls' := [(1, _), (0, _)]) dX6_readsItem_81 rfl (by decide) rfl ?_
      refine K_aload_n X 1 dX6_readsItem_82 rfl rfl ?_
      refine K_aload_n X 1 dX6_readsItem_83 rfl rfl ?_
      refine K_get X 7 kFd6 rfl (by decide) sf_m wf_X6_184 rfl (v := .int (G5 7)) (congrArg Value.int (congrFun wI_self 7)) dX6_readsItem_84 ?_
      refine K_putI X 10 kFd6 rfl (by decide) sf_m wf_X6_203 rfl rfl rfl dX6_readsItem_87 ?_
      refine K_st (wI_upd rfl) ?_
      obtain ⟨G8, hG8⟩ : ∃ z, z = upd G5 10 (G5 7) := ⟨_, rfl⟩
      rw [← hG8]
      have aG8 : ∀ k, k < 6 → G8 k = F k := by rw [hG8]; exact upd6 (by omega) aG5
      have sG8 : G8 6 = nI (p) := by rw [hG8]; exact sG5
      refine K_iload_n X 0 dX6_readsItem_90 rfl rfl ?_
      refine K_ifN_eq (tgt := 116) X dX6_readsItem_91 (by decide) (by omega) (fun c91 => ?_) (fun c91 => ?_)
      · refine K_iconst X dX6_readsItem_116 cii_0 ?_
        refine K_istore_n X (ls' := [(1, _), (0, _)]) dX6_readsItem_117 rfl (by decide) rfl ?_
        refine K_aload_n X 1 dX6_readsItem_118 rfl rfl ?_
        refine K_aload_n X 1 dX6_readsItem_119 rfl rfl ?_
        refine K_get X 7 kFd6 rfl (by decide) sf_m wf_X6_184 rfl (v := .int (G8 7)) (congrArg Value.int (congrFun wI_self 7)) dX6_readsItem_120 ?_
        refine K_putI X 11 kFd6 rfl (by decide) sf_m wf_X6_206 rfl rfl rfl dX6_readsItem_123 ?_
        refine K_st (wI_upd rfl) ?_
        obtain ⟨G11, hG11⟩ : ∃ z, z = upd G8 11 (G8 7) := ⟨_, rfl⟩
        rw [← hG11]
        have aG11 : ∀ k, k < 6 → G11 k = F k := by rw [hG11]; exact upd6 (by omega) aG8
        have sG11 : G11 6 = nI (p) := by rw [hG11]; exact sG8
        refine K_iload_n X 0 dX6_readsItem_126 rfl rfl ?_
        exact K_zret X false rfl hQ dX6_readsItem_127 (⟨by rw [hX]; rfl, G11, rfl, by rw [hX]; exact ⟨aG11, sG11, fun q hq => by cases hq⟩⟩)
      · exact absurd rfl c91
    · exact absurd rfl c54
  · obtain ⟨q1, hq1⟩ := isS_t c16
    rw [hq1] at hp1
    obtain ⟨k7, k6⟩ := hp1.2.2
    have sG2 : G2 6 = nI q1.2 := by rw [hG2]; exact k6
    have r8G2 : G2 8 = nI q1.1 := by rw [hG2]; exact k7
    have b1 := xNum_b hq1
    refine K_aload_n X 1 dX6_readsItem_19 rfl rfl ?_
    refine K_bipush X dX6_readsItem_20 cib_58 ?_
    refine K_callVE X (c_X6_isNext l D b _ _ T n (q1.2) 58 hP hn ((aG2 5 (by omega)).trans h5) hT hR (sG2) (b1.2.1) (by decide)) my_X6_isNext mv_X6_isNext wm_X6_194 sf_m rfl ⟨rfl, rfl, Nat.le_of_ble_eq_true rfl, Nat.le_of_ble_eq_true rfl, Nat.le_of_ble_eq_true rfl, Nat.le_of_ble_eq_true rfl⟩ rfl rfl (Nat.le_of_ble_eq_true rfl) dX6_readsItem_22 ?_
    obtain ⟨G3, hG3⟩ : ∃ z, z = upd G2 6 (nI (q1.2 + (if xIs T n 58 (q1.2) = true then 1 else 0))) := ⟨_, rfl⟩
    rw [← hG3]
    have aG3 : ∀ k, k < 6 → G3 k = F k := by rw [hG3]; exact upd6 (by omega) aG2
    refine K_ifB_eq (tgt := 43) X dX6_readsItem_25 (by decide) (fun c25 => ?_) (fun c25 => ?_)
    · have hX : xItem T n p = (none, q1.2) := by unfold xItem; rw [hq1]; show xI2 T n q1.1 q1.2 = _; unfold xI2; rw [if_neg (by rw [c25]; decide)]
      have sG3 : G3 6 = nI q1.2 := by rw [hG3, c25]; rfl
      refine K_iconst X dX6_readsItem_43 cii_0 ?_
      refine K_istore_n X (ls' := [(1, _), (0, _)]) dX6_readsItem_44 rfl (by decide) rfl ?_
      refine K_aload_n X 1 dX6_readsItem_45 rfl rfl ?_
      refine K_aload_n X 1 dX6_readsItem_46 rfl rfl ?_
      refine K_get X 7 kFd6 rfl (by decide) sf_m wf_X6_184 rfl (v := .int (G3 7)) (congrArg Value.int (congrFun wI_self 7)) dX6_readsItem_47 ?_
      refine K_putI X 9 kFd6 rfl (by decide) sf_m wf_X6_200 rfl rfl rfl dX6_readsItem_50 ?_
      refine K_st (wI_upd rfl) ?_
      obtain ⟨G5, hG5⟩ : ∃ z, z = upd G3 9 (G3 7) := ⟨_, rfl⟩
      rw [← hG5]
      have aG5 : ∀ k, k < 6 → G5 k = F k := by rw [hG5]; exact upd6 (by omega) aG3
      have sG5 : G5 6 = nI (q1.2) := by rw [hG5]; exact sG3
      refine K_iload_n X 0 dX6_readsItem_53 rfl rfl ?_
      refine K_ifN_eq (tgt := 80) X dX6_readsItem_54 (by decide) (by omega) (fun c54 => ?_) (fun c54 => ?_)
      · refine K_iconst X dX6_readsItem_80 cii_0 ?_
        refine K_istore_n X (ls' := [(1, _), (0, _)]) dX6_readsItem_81 rfl (by decide) rfl ?_
        refine K_aload_n X 1 dX6_readsItem_82 rfl rfl ?_
        refine K_aload_n X 1 dX6_readsItem_83 rfl rfl ?_
        refine K_get X 7 kFd6 rfl (by decide) sf_m wf_X6_184 rfl (v := .int (G5 7)) (congrArg Value.int (congrFun wI_self 7)) dX6_readsItem_84 ?_
        refine K_putI X 10 kFd6 rfl (by decide) sf_m wf_X6_203 rfl rfl rfl dX6_readsItem_87 ?_
        refine K_st (wI_upd rfl) ?_
        obtain ⟨G8, hG8⟩ : ∃ z, z = upd G5 10 (G5 7) := ⟨_, rfl⟩
        rw [← hG8]
        have aG8 : ∀ k, k < 6 → G8 k = F k := by rw [hG8]; exact upd6 (by omega) aG5
        have sG8 : G8 6 = nI (q1.2) := by rw [hG8]; exact sG5
        refine K_iload_n X 0 dX6_readsItem_90 rfl rfl ?_
        refine K_ifN_eq (tgt := 116) X dX6_readsItem_91 (by decide) (by omega) (fun c91 => ?_) (fun c91 => ?_)
        · refine K_iconst X dX6_readsItem_116 cii_0 ?_
          refine K_istore_n X (ls' := [(1, _), (0, _)]) dX6_readsItem_117 rfl (by decide) rfl ?_
          refine K_aload_n X 1 dX6_readsItem_118 rfl rfl ?_
          refine K_aload_n X 1 dX6_readsItem_119 rfl rfl ?_
          refine K_get X 7 kFd6 rfl (by decide) sf_m wf_X6_184 rfl (v := .int (G8 7)) (congrArg Value.int (congrFun wI_self 7)) dX6_readsItem_120 ?_
          refine K_putI X 11 kFd6 rfl (by decide) sf_m wf_X6_206 rfl rfl rfl dX6_readsItem_123 ?_
          refine K_st (wI_upd rfl) ?_
          obtain ⟨G11, hG11⟩ : ∃ z, z = upd G8 11 (G8 7) := ⟨_, rfl⟩
          rw [← hG11]
          have aG11 : ∀ k, k < 6 → G11 k = F k := by rw [hG11]; exact upd6 (by omega) aG8
          have sG11 : G11 6 = nI (q1.2) := by rw [hG11]; exact sG8
          refine K_iload_n X 0 dX6_readsItem_126 rfl rfl ?_
          exact K_zret X false rfl hQ dX6_readsItem_127 (⟨by rw [hX]; rfl, G11, rfl, by rw [hX]; exact ⟨aG11, sG11, fun q hq => by cases hq⟩⟩)
        · exact absurd rfl c91
      · exact absurd rfl c54
    · have sG3 : G3 6 = nI (q1.2 + 1) := by rw [hG3, c25]; rfl
      have r8G3 : G3 8 = nI q1.1 := by rw [hG3]; exact r8G2
      have l1 := xIs_lt c25
      refine K_aload_n X 1 dX6_readsItem_28 rfl rfl ?_
      refine K_iconst X dX6_readsItem_29 cii_1 ?_
      refine K_sipush X dX6_readsItem_30 cis_20000 ?_
      refine K_callVP X (c_X6_readsNumber l D b _ _ T n (q1.2 + 1) 1 20000 hP hn ((aG3 5 (by omega)).trans h5) hT hR (sG3) (l1) (by omega) (by omega)) my_X6_readsNumber mv_X6_readsNumber wm_X6_197 sf_m rfl ⟨rfl, rfl, Nat.le_of_ble_eq_true rfl, Nat.le_of_ble_eq_true rfl, Nat.le_of_ble_eq_true rfl, Nat.le_of_ble_eq_true rfl⟩ rfl rfl (Nat.le_of_ble_eq_true rfl) dX6_readsItem_33 (fun σ33 h33 => ?_)
      obtain ⟨G4, rfl, bG4, kG4, oG4⟩ := h33
      have aG4 : ∀ k, k < 6 → G4 k = F k := fun k hk => (bG4 k hk).trans (aG3 k hk)
      refine K_ifB_eq (tgt := 43) X dX6_readsItem_36 (by decide) (fun c36 => ?_) (fun c36 => ?_)
      · have hX : xItem T n p = (none, q1.2 + 1) := by unfold xItem; rw [hq1]; show xI2 T n q1.1 q1.2 = _; unfold xI2; rw [if_pos c25, isS_f c36]
        have sG4 : G4 6 = nI (q1.2 + 1) := by rw [isS_f c36] at oG4; exact oG4
        refine K_iconst X dX6_readsItem_43 cii_0 ?_
        refine K_istore_n X (ls' := [(1, _), (0, _)]) dX6_readsItem_44 rfl (by decide) rfl ?_
        refine K_aload_n X 1 dX6_readsItem_45 rfl rfl ?_
        refine K_aload_n X 1 dX6_readsItem_46 rfl rfl ?_
        refine K_get X 7 kFd6 rfl (by decide) sf_m wf_X6_184 rfl (v := .int (G4 7)) (congrArg Value.int (congrFun wI_self 7)) dX6_readsItem_47 ?_
        refine K_putI X 9 kFd6 rfl (by decide) sf_m wf_X6_200 rfl rfl rfl dX6_readsItem_50 ?_
        refine K_st (wI_upd rfl) ?_
        obtain ⟨G5, hG5⟩ : ∃ z, z = upd G4 9 (G4 7) := ⟨_, rfl⟩
        rw [← hG5]
        have aG5 : ∀ k, k < 6 → G5 k = F k := by rw [hG5]; exact upd6 (by omega) aG4
        have sG5 : G5 6 = nI (q1.2 + 1) := by rw [hG5]; exact sG4
        refine K_iload_n X 0 dX6_readsItem_53 rfl rfl ?_
        refine K_ifN_eq (tgt := 80) X dX6_readsItem_54 (by decide) (by omega) (fun c54 => ?_) (fun c54 => ?_)
        · refine K_iconst X dX6_readsItem_80 cii_0 ?_
          refine K_istore_n X (ls' := [(1, _), (0, _)]) dX6_readsItem_81 rfl (by decide) rfl ?_
          refine K_aload_n X 1 dX6_readsItem_82 rfl rfl ?_
          refine K_aload_n X 1 dX6_readsItem_83 rfl rfl ?_
          refine K_get X 7 kFd6 rfl (by decide) sf_m wf_X6_184 rfl (v := .int (G5 7)) (congrArg Value.int (congrFun wI_self 7)) dX6_readsItem_84 ?_
          refine K_putI X 10 kFd6 rfl (by decide) sf_m wf_X6_203 rfl rfl rfl dX6_readsItem_87 ?_
          refine K_st (wI_upd rfl) ?_
          obtain ⟨G8, hG8⟩ : ∃ z, z = upd G5 10 (G5 7) := ⟨_, rfl⟩
          rw [← hG8]
          have aG8 : ∀ k, k < 6 → G8 k = F k := by rw [hG8]; exact upd6 (by omega) aG5
          have sG8 : G8 6 = nI (q1.2 + 1) := by rw [hG8]; exact sG5
          refine K_iload_n X 0 dX6_readsItem_90 rfl rfl ?_
          refine K_ifN_eq (tgt := 116) X dX6_readsItem_91 (by decide) (by omega) (fun c91 => ?_) (fun c91 => ?_)
          · refine K_iconst X dX6_readsItem_116 cii_0 ?_
            refine K_istore_n X (ls' := [(1, _), (0, _)]) dX6_readsItem_117 rfl (by decide) rfl ?_
            refine K_aload_n X 1 dX6_readsItem_118 rfl rfl ?_
            refine K_aload_n X 1 dX6_readsItem_119 rfl rfl ?_
            refine K_get X 7 kFd6 rfl (by decide) sf_m wf_X6_184 rfl (v := .int (G8 7)) (congrArg Value.int (congrFun wI_self 7)) dX6_readsItem_120 ?_
            refine K_putI X 11 kFd6 rfl (by decide) sf_m wf_X6_206 rfl rfl rfl dX6_readsItem_123 ?_
            refine K_st (wI_upd rfl) ?_
            obtain ⟨G11, hG11⟩ : ∃ z, z = upd G8 11 (G8 7) := ⟨_, rfl⟩
            rw [← hG11]
            have aG11 : ∀ k, k < 6 → G11 k = F k := by rw [hG11]; exact upd6 (by omega) aG8
            have sG11 : G11 6 = nI (q1.2 + 1) := by rw [hG11]; exact sG8
            refine K_iload_n X 0 dX6_readsItem_126 rfl rfl ?_
            exact K_zret X false rfl hQ dX6_readsItem_127 (⟨by rw [hX]; rfl, G11, rfl, by rw [hX]; exact ⟨aG11, sG11, fun q hq => by cases hq⟩⟩)
          · exact absurd rfl c91
        · exact absurd rfl c54
      · obtain ⟨q2, hq2⟩ := isS_t c36
        rw [hq2] at oG4
        obtain ⟨k7G4, sG4⟩ := oG4
        have r8G4 : G4 8 = nI q1.1 := (kG4 8 (by omega)).trans r8G3
        have b2 := xNum_b hq2
        refine K_iconst X dX6_readsItem_39 cii_1 ?_
        refine K_goto (tgt := 44) X dX6_readsItem_40 (by decide) ?_
        refine K_istore_n X (ls' := [(1, _), (0, _)]) dX6_readsItem_44 rfl (by decide) rfl ?_
        refine K_aload_n X 1 dX6_readsItem_45 rfl rfl ?_
        refine K_aload_n X 1 dX6_readsItem_46 rfl rfl ?_
        refine K_get X 7 kFd6 rfl (by decide) sf_m wf_X6_184 rfl (v := .int (G4 7)) (congrArg Value.int (congrFun wI_self 7)) dX6_readsItem_47 ?_
        refine K_putI X 9 kFd6 rfl (by decide) sf_m wf_X6_200 rfl rfl rfl dX6_readsItem_50 ?_
        refine K_st (wI_upd rfl) ?_
        obtain ⟨G5, hG5⟩ : ∃ z, z = upd G4 9 (G4 7) := ⟨_, rfl⟩
        rw [← hG5]
        have aG5 : ∀ k, k < 6 → G5 k = F k := by rw [hG5]; exact upd6 (by omega) aG4
        have sG5 : G5 6 = nI (q2.2) := by rw [hG5]; exact sG4
        have r8G5 : G5 8 = nI q1.1 := by rw [hG5]; exact r8G4
        have r9G5 : G5 9 = nI q2.1 := by rw [hG5]; exact k7G4
        refine K_iload_n X 0 dX6_readsItem_53 rfl rfl ?_
        refine K_ifN_eq (tgt := 80) X dX6_readsItem_54 (by decide) (by omega) (fun c54 => ?_) (fun c54 => ?_)
        · exact absurd c54 (by decide)
        · refine K_aload_n X 1 dX6_readsItem_57 rfl rfl ?_
          refine K_bipush X dX6_readsItem_58 cib_47 ?_
          refine K_callVE X (c_X6_isNext l D b _ _ T n (q2.2) 47 hP hn ((aG5 5 (by omega)).trans h5) hT hR (sG5) (b2.2.1) (by decide)) my_X6_isNext mv_X6_isNext wm_X6_194 sf_m rfl ⟨rfl, rfl, Nat.le_of_ble_eq_true rfl, Nat.le_of_ble_eq_true rfl, Nat.le_of_ble_eq_true rfl, Nat.le_of_ble_eq_true rfl⟩ rfl rfl (Nat.le_of_ble_eq_true rfl) dX6_readsItem_60 ?_
          obtain ⟨G6, hG6⟩ : ∃ z, z = upd G5 6 (nI (q2.2 + (if xIs T n 47 (q2.2) = true then 1 else 0))) := ⟨_, rfl⟩
          rw [← hG6]
          have aG6 : ∀ k, k < 6 → G6 k = F k := by rw [hG6]; exact upd6 (by omega) aG5
          refine K_ifB_eq (tgt := 80) X dX6_readsItem_63 (by decide) (fun c63 => ?_) (fun c63 => ?_)
          · have hX : xItem T n p = (none, q2.2) := by unfold xItem; rw [hq1]; show xI2 T n q1.1 q1.2 = _; unfold xI2; rw [if_pos c25, hq2]; show xI3 T n q1.1 q2.1 q2.2 = _; unfold xI3; rw [if_neg (by rw [c63]; decide)]
            have sG6 : G6 6 = nI q2.2 := by rw [hG6, c63]; rfl
            refine K_iconst X dX6_readsItem_80 cii_0 ?_
            refine K_istore_n X (ls' := [(1, _), (0, _)]) dX6_readsItem_81 rfl (by decide) rfl ?_
            refine K_aload_n X 1 dX6_readsItem_82 rfl rfl ?_
            refine K_aload_n X 1 dX6_readsItem_83 rfl rfl ?_
            refine K_get X 7 kFd6 rfl (by decide) sf_m wf_X6_184 rfl (v := .int (G6 7)) (congrArg Value.int (congrFun wI_self 7)) dX6_readsItem_84 ?_
            refine K_putI X 10 kFd6 rfl (by decide) sf_m wf_X6_203 rfl rfl rfl dX6_readsItem_87 ?_
            refine K_st (wI_upd rfl) ?_
            obtain ⟨G8, hG8⟩ : ∃ z, z = upd G6 10 (G6 7) := ⟨_, rfl⟩
            rw [← hG8]
            have aG8 : ∀ k, k < 6 → G8 k = F k := by rw [hG8]; exact upd6 (by omega) aG6
            have sG8 : G8 6 = nI (q2.2) := by rw [hG8]; exact sG6
            refine K_iload_n X 0 dX6_readsItem_90 rfl rfl ?_
            refine K_ifN_eq (tgt := 116) X dX6_readsItem_91 (by decide) (by omega) (fun c91 => ?_) (fun c91 => ?_)
            · refine K_iconst X dX6_readsItem_116 cii_0 ?_
              refine K_istore_n X (ls' := [(1, _), (0, _)]) dX6_readsItem_117 rfl (by decide) rfl ?_
              refine K_aload_n X 1 dX6_readsItem_118 rfl rfl ?_
              refine K_aload_n X 1 dX6_readsItem_119 rfl rfl ?_
              refine K_get X 7 kFd6 rfl (by decide) sf_m wf_X6_184 rfl (v := .int (G8 7)) (congrArg Value.int (congrFun wI_self 7)) dX6_readsItem_120 ?_
              refine K_putI X 11 kFd6 rfl (by decide) sf_m wf_X6_206 rfl rfl rfl dX6_readsItem_123 ?_
              refine K_st (wI_upd rfl) ?_
              obtain ⟨G11, hG11⟩ : ∃ z, z = upd G8 11 (G8 7) := ⟨_, rfl⟩
              rw [← hG11]
              have aG11 : ∀ k, k < 6 → G11 k = F k := by rw [hG11]; exact upd6 (by omega) aG8
              have sG11 : G11 6 = nI (q2.2) := by rw [hG11]; exact sG8
              refine K_iload_n X 0 dX6_readsItem_126 rfl rfl ?_
              exact K_zret X false rfl hQ dX6_readsItem_127 (⟨by rw [hX]; rfl, G11, rfl, by rw [hX]; exact ⟨aG11, sG11, fun q hq => by cases hq⟩⟩)
            · exact absurd rfl c91
          · have sG6 : G6 6 = nI (q2.2 + 1) := by rw [hG6, c63]; rfl
            have r8G6 : G6 8 = nI q1.1 := by rw [hG6]; exact r8G5
            have r9G6 : G6 9 = nI q2.1 := by rw [hG6]; exact r9G5
            have l2 := xIs_lt c63
            refine K_aload_n X 1 dX6_readsItem_66 rfl rfl ?_
            refine K_iconst X dX6_readsItem_67 cii_0 ?_
            refine K_bipush X dX6_readsItem_68 cib_100 ?_
            refine K_callVP X (c_X6_readsNumber l D b _ _ T n (q2.2 + 1) 0 100 hP hn ((aG6 5 (by omega)).trans h5) hT hR (sG6) (l2) (by omega) (by omega)) my_X6_readsNumber mv_X6_readsNumber wm_X6_197 sf_m rfl ⟨rfl, rfl, Nat.le_of_ble_eq_true rfl, Nat.le_of_ble_eq_true rfl, Nat.le_of_ble_eq_true rfl, Nat.le_of_ble_eq_true rfl⟩ rfl rfl (Nat.le_of_ble_eq_true rfl) dX6_readsItem_70 (fun σ70 h70 => ?_)
            obtain ⟨G7, rfl, bG7, kG7, oG7⟩ := h70
            have aG7 : ∀ k, k < 6 → G7 k = F k := fun k hk => (bG7 k hk).trans (aG6 k hk)
            refine K_ifB_eq (tgt := 80) X dX6_readsItem_73 (by decide) (fun c73 => ?_) (fun c73 => ?_)
            · have hX : xItem T n p = (none, q2.2 + 1) := by unfold xItem; rw [hq1]; show xI2 T n q1.1 q1.2 = _; unfold xI2; rw [if_pos c25, hq2]; show xI3 T n q1.1 q2.1 q2.2 = _; unfold xI3; rw [if_pos c63, isS_f c73]
              have sG7 : G7 6 = nI (q2.2 + 1) := by rw [isS_f c73] at oG7; exact oG7
              refine K_iconst X dX6_readsItem_80 cii_0 ?_
              refine K_istore_n X (ls' := [(1, _), (0, _)]) dX6_readsItem_81 rfl (by decide) rfl ?_
              refine K_aload_n X 1 dX6_readsItem_82 rfl rfl ?_
              refine K_aload_n X 1 dX6_readsItem_83 rfl rfl ?_
              refine K_get X 7 kFd6 rfl (by decide) sf_m wf_X6_184 rfl (v := .int (G7 7)) (congrArg Value.int (congrFun wI_self 7)) dX6_readsItem_84 ?_
              refine K_putI X 10 kFd6 rfl (by decide) sf_m wf_X6_203 rfl rfl rfl dX6_readsItem_87 ?_
              refine K_st (wI_upd rfl) ?_
              obtain ⟨G8, hG8⟩ : ∃ z, z = upd G7 10 (G7 7) := ⟨_, rfl⟩
              rw [← hG8]
              have aG8 : ∀ k, k < 6 → G8 k = F k := by rw [hG8]; exact upd6 (by omega) aG7
              have sG8 : G8 6 = nI (q2.2 + 1) := by rw [hG8]; exact sG7
              refine K_iload_n X 0 dX6_readsItem_90 rfl rfl ?_
              refine K_ifN_eq (tgt := 116) X dX6_readsItem_91 (by decide) (by omega) (fun c91 => ?_) (fun c91 => ?_)
              · refine K_iconst X dX6_readsItem_116 cii_0 ?_
                refine K_istore_n X (ls' := [(1, _), (0, _)]) dX6_readsItem_117 rfl (by decide) rfl ?_
                refine K_aload_n X 1 dX6_readsItem_118 rfl rfl ?_
                refine K_aload_n X 1 dX6_readsItem_119 rfl rfl ?_
                refine K_get X 7 kFd6 rfl (by decide) sf_m wf_X6_184 rfl (v := .int (G8 7)) (congrArg Value.int (congrFun wI_self 7)) dX6_readsItem_120 ?_
                refine K_putI X 11 kFd6 rfl (by decide) sf_m wf_X6_206 rfl rfl rfl dX6_readsItem_123 ?_
                refine K_st (wI_upd rfl) ?_
                obtain ⟨G11, hG11⟩ : ∃ z, z = upd G8 11 (G8 7) := ⟨_, rfl⟩
                rw [← hG11]
                have aG11 : ∀ k, k < 6 → G11 k = F k := by rw [hG11]; exact upd6 (by omega) aG8
                have sG11 : G11 6 = nI (q2.2 + 1) := by rw [hG11]; exact sG8
                refine K_iload_n X 0 dX6_readsItem_126 rfl rfl ?_
                exact K_zret X false rfl hQ dX6_readsItem_127 (⟨by rw [hX]; rfl, G11, rfl, by rw [hX]; exact ⟨aG11, sG11, fun q hq => by cases hq⟩⟩)
              · exact absurd rfl c91
            · obtain ⟨q3, hq3⟩ := isS_t c73
              rw [hq3] at oG7
              obtain ⟨k7G7, sG7⟩ := oG7
              have r8G7 : G7 8 = nI q1.1 := (kG7 8 (by omega)).trans r8G6
              have r9G7 : G7 9 = nI q2.1 := (kG7 9 (by omega)).trans r9G6
              have b3 := xNum_b hq3
              refine K_iconst X dX6_readsItem_76 cii_1 ?_
              refine K_goto (tgt := 81) X dX6_readsItem_77 (by decide) ?_
              refine K_istore_n X (ls' := [(1, _), (0, _)]) dX6_readsItem_81 rfl (by decide) rfl ?_
              refine K_aload_n X 1 dX6_readsItem_82 rfl rfl ?_
              refine K_aload_n X 1 dX6_readsItem_83 rfl rfl ?_
              refine K_get X 7 kFd6 rfl (by decide) sf_m wf_X6_184 rfl (v := .int (G7 7)) (congrArg Value.int (congrFun wI_self 7)) dX6_readsItem_84 ?_
              refine K_putI X 10 kFd6 rfl (by decide) sf_m wf_X6_203 rfl rfl rfl dX6_readsItem_87 ?_
              refine K_st (wI_upd rfl) ?_
              obtain ⟨G8, hG8⟩ : ∃ z, z = upd G7 10 (G7 7) := ⟨_, rfl⟩
              rw [← hG8]
              have aG8 : ∀ k, k < 6 → G8 k = F k := by rw [hG8]; exact upd6 (by omega) aG7
              have sG8 : G8 6 = nI (q3.2) := by rw [hG8]; exact sG7
              have r8G8 : G8 8 = nI q1.1 := by rw [hG8]; exact r8G7
              have r9G8 : G8 9 = nI q2.1 := by rw [hG8]; exact r9G7
              have r10G8 : G8 10 = nI q3.1 := by rw [hG8]; exact k7G7
              refine K_iload_n X 0 dX6_readsItem_90 rfl rfl ?_
              refine K_ifN_eq (tgt := 116) X dX6_readsItem_91 (by decide) (by omega) (fun c91 => ?_) (fun c91 => ?_)
              · exact absurd c91 (by decide)
              · refine K_aload_n X 1 dX6_readsItem_94 rfl rfl ?_
                refine K_bipush X dX6_readsItem_95 cib_64 ?_
                refine K_callVE X (c_X6_isNext l D b _ _ T n (q3.2) 64 hP hn ((aG8 5 (by omega)).trans h5) hT hR (sG8) (b3.2.1) (by decide)) my_X6_isNext mv_X6_isNext wm_X6_194 sf_m rfl ⟨rfl, rfl, Nat.le_of_ble_eq_true rfl, Nat.le_of_ble_eq_true rfl, Nat.le_of_ble_eq_true rfl, Nat.le_of_ble_eq_true rfl⟩ rfl rfl (Nat.le_of_ble_eq_true rfl) dX6_readsItem_97 ?_
                obtain ⟨G9, hG9⟩ : ∃ z, z = upd G8 6 (nI (q3.2 + (if xIs T n 64 (q3.2) = true then 1 else 0))) := ⟨_, rfl⟩
                rw [← hG9]
                have aG9 : ∀ k, k < 6 → G9 k = F k := by rw [hG9]; exact upd6 (by omega) aG8
                refine K_ifB_eq (tgt := 116) X dX6_readsItem_100 (by decide) (fun c100 => ?_) (fun c100 => ?_)
                · have hX : xItem T n p = (none, q3.2) := by unfold xItem; rw [hq1]; show xI2 T n q1.1 q1.2 = _; unfold xI2; rw [if_pos c25, hq2]; show xI3 T n q1.1 q2.1 q2.2 = _; unfold xI3; rw [if_pos c63, hq3]; show xI4 T n q1.1 q2.1 q3.1 q3.2 = _; unfold xI4; rw [if_neg (by rw [c100]; decide)]
                  have sG9 : G9 6 = nI q3.2 := by rw [hG9, c100]; rfl
                  refine K_iconst X dX6_readsItem_116 cii_0 ?_
                  refine K_istore_n X (ls' := [(1, _), (0, _)]) dX6_readsItem_117 rfl (by decide) rfl ?_
                  refine K_aload_n X 1 dX6_readsItem_118 rfl rfl ?_
                  refine K_aload_n X 1 dX6_readsItem_119 rfl rfl ?_
                  refine K_get X 7 kFd6 rfl (by decide) sf_m wf_X6_184 rfl (v := .int (G9 7)) (congrArg Value.int (congrFun wI_self 7)) dX6_readsItem_120 ?_
                  refine K_putI X 11 kFd6 rfl (by decide) sf_m wf_X6_206 rfl rfl rfl dX6_readsItem_123 ?_
                  refine K_st (wI_upd rfl) ?_
                  obtain ⟨G11, hG11⟩ : ∃ z, z = upd G9 11 (G9 7) := ⟨_, rfl⟩
                  rw [← hG11]
                  have aG11 : ∀ k, k < 6 → G11 k = F k := by rw [hG11]; exact upd6 (by omega) aG9
                  have sG11 : G11 6 = nI (q3.2) := by rw [hG11]; exact sG9
                  refine K_iload_n X 0 dX6_readsItem_126 rfl rfl ?_
                  exact K_zret X false rfl hQ dX6_readsItem_127 (⟨by rw [hX]; rfl, G11, rfl, by rw [hX]; exact ⟨aG11, sG11, fun q hq => by cases hq⟩⟩)
                · have sG9 : G9 6 = nI (q3.2 + 1) := by rw [hG9, c100]; rfl
                  have r8G9 : G9 8 = nI q1.1 := by rw [hG9]; exact r8G8
                  have r9G9 : G9 9 = nI q2.1 := by rw [hG9]; exact r9G8
                  have r10G9 : G9 10 = nI q3.1 := by rw [hG9]; exact r10G8
                  have l3 := xIs_lt c100
                  refine K_aload_n X 1 dX6_readsItem_103 rfl rfl ?_
                  refine K_iconst X dX6_readsItem_104 cii_0 ?_
                  refine K_iconst X dX6_readsItem_105 cii_5 ?_
                  refine K_callVE X (c_X6_readsDigit l D b _ G9 T n (q3.2 + 1) _ _ hP hn ((aG9 5 (by omega)).trans h5) hT hR sG9 l3 (by omega)) my_X6_readsDigit mv_X6_readsDigit wm_X6_187 sf_m rfl ⟨rfl, rfl, Nat.le_of_ble_eq_true rfl, Nat.le_of_ble_eq_true rfl, Nat.le_of_ble_eq_true rfl, Nat.le_of_ble_eq_true rfl⟩ rfl rfl (Nat.le_of_ble_eq_true rfl) dX6_readsItem_106 ?_
                  have hp10 := xPn_5 (F := G9) (n := n) (p := q3.2 + 1) (T := T)
                  generalize upd (upd G9 7 (xCh T n (q3.2 + 1) - nI 48)) 6 (nI (q3.2 + 1 + (if xOk T n 0 5 (q3.2 + 1) = true then 1 else 0))) = G10 at hp10 ⊢
                  rw [xOk_5]
                  have aG10 : ∀ k, k < 6 → G10 k = F k := fun k hk => (hp10.1 k hk).trans (aG9 k hk)
                  refine K_ifB_eq (tgt := 116) X dX6_readsItem_109 (by decide) (fun c109 => ?_) (fun c109 => ?_)
                  · have hX : xItem T n p = (none, q3.2 + 1) := by unfold xItem; rw [hq1]; show xI2 T n q1.1 q1.2 = _; unfold xI2; rw [if_pos c25, hq2]; show xI3 T n q1.1 q2.1 q2.2 = _; unfold xI3; rw [if_pos c63, hq3]; show xI4 T n q1.1 q2.1 q3.1 q3.2 = _; unfold xI4; rw [if_pos c100, isS_f c109]
                    have sG10 : G10 6 = nI (q3.2 + 1) := by have := hp10.2.2; rw [isS_f c109] at this; exact this
                    refine K_iconst X dX6_readsItem_116 cii_0 ?_
                    refine K_istore_n X (ls' := [(1, _), (0, _)]) dX6_readsItem_117 rfl (by decide) rfl ?_
                    refine K_aload_n X 1 dX6_readsItem_118 rfl rfl ?_
                    refine K_aload_n X 1 dX6_readsItem_119 rfl rfl ?_
                    refine K_get X 7 kFd6 rfl (by decide) sf_m wf_X6_184 rfl (v := .int (G10 7)) (congrArg Value.int (congrFun wI_self 7)) dX6_readsItem_120 ?_
                    refine K_putI X 11 kFd6 rfl (by decide) sf_m wf_X6_206 rfl rfl rfl dX6_readsItem_123 ?_
                    refine K_st (wI_upd rfl) ?_
                    obtain ⟨G11, hG11⟩ : ∃ z, z = upd G10 11 (G10 7) := ⟨_, rfl⟩
                    rw [← hG11]
                    have aG11 : ∀ k, k < 6 → G11 k = F k := by rw [hG11]; exact upd6 (by omega) aG10
                    have sG11 : G11 6 = nI (q3.2 + 1) := by rw [hG11]; exact sG10
                    refine K_iload_n X 0 dX6_readsItem_126 rfl rfl ?_
                    exact K_zret X false rfl hQ dX6_readsItem_127 (⟨by rw [hX]; rfl, G11, rfl, by rw [hX]; exact ⟨aG11, sG11, fun q hq => by cases hq⟩⟩)
                  · obtain ⟨q4, hq4⟩ := isS_t c109
                    rw [hq4] at hp10
                    obtain ⟨k7G10, sG10⟩ := hp10.2.2
                    have r8G10 : G10 8 = nI q1.1 := (hp10.2.1 8 (by omega)).trans r8G9
                    have r9G10 : G10 9 = nI q2.1 := (hp10.2.1 9 (by omega)).trans r9G9
                    have r10G10 : G10 10 = nI q3.1 := (hp10.2.1 10 (by omega)).trans r10G9
                    have hX : xItem T n p = (some (q1.1, q2.1, q3.1, q4.1), q4.2) := by unfold xItem; rw [hq1]; show xI2 T n q1.1 q1.2 = _; unfold xI2; rw [if_pos c25, hq2]; show xI3 T n q1.1 q2.1 q2.2 = _; unfold xI3; rw [if_pos c63, hq3]; show xI4 T n q1.1 q2.1 q3.1 q3.2 = _; unfold xI4; rw [if_pos c100, hq4]
                    refine K_iconst X dX6_readsItem_112 cii_1 ?_
                    refine K_goto (tgt := 117) X dX6_readsItem_113 (by decide) ?_
                    refine K_istore_n X (ls' := [(1, _), (0, _)]) dX6_readsItem_117 rfl (by decide) rfl ?_
                    refine K_aload_n X 1 dX6_readsItem_118 rfl rfl ?_
                    refine K_aload_n X 1 dX6_readsItem_119 rfl rfl ?_
                    refine K_get X 7 kFd6 rfl (by decide) sf_m wf_X6_184 rfl (v := .int (G10 7)) (congrArg Value.int (congrFun wI_self 7)) dX6_readsItem_120 ?_
                    refine K_putI X 11 kFd6 rfl (by decide) sf_m wf_X6_206 rfl rfl rfl dX6_readsItem_123 ?_
                    refine K_st (wI_upd rfl) ?_
                    obtain ⟨G11, hG11⟩ : ∃ z, z = upd G10 11 (G10 7) := ⟨_, rfl⟩
                    rw [← hG11]
                    have aG11 : ∀ k, k < 6 → G11 k = F k := by rw [hG11]; exact upd6 (by omega) aG10
                    have sG11 : G11 6 = nI (q4.2) := by rw [hG11]; exact sG10
                    have r8G11 : G11 8 = nI q1.1 := by rw [hG11]; exact r8G10
                    have r9G11 : G11 9 = nI q2.1 := by rw [hG11]; exact r9G10
                    have r10G11 : G11 10 = nI q3.1 := by rw [hG11]; exact r10G10
                    have r11G11 : G11 11 = nI q4.1 := by rw [hG11]; exact k7G10
                    refine K_iload_n X 0 dX6_readsItem_126 rfl rfl ?_
                    exact K_zret X true rfl hQ dX6_readsItem_127 (⟨by rw [hX]; rfl, G11, rfl, by rw [hX]; exact ⟨aG11, sG11, fun q hq => by cases hq; exact ⟨r8G11, r9G11, r10G11, r11G11⟩⟩⟩)
