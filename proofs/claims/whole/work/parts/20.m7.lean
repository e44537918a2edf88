/-! THE REFERENCE: its text -/
set_option maxHeartbeats 4000000 in
set_option maxRecDepth 100000 in
theorem c_X6_character (l : Launch) (D : KD) (b : Nat) (σ : KS) (F : Nat → Int32) (T : Nat → Nat) (n p : Nat) (hP : PF σ.2.2) (hn : n ≤ 80) (h5 : F 5 = nI n) (hT : ∀ j, j < n → T j < 128) (hR : ∀ j, j < n → σ.1 194 j = nI (T j)) (hp : p < 2 ^ 31) : Ct l D b yX6_character cX6_character 2 (some .int) (rM 0 0) 0 0 [rf b 190, .int (nI p)] shF (wI σ 190 F) shF (pE (some (.int (xCh T n p))) (wI σ 190 F)) := by
  refine Ct.of (ls := [(0, rf b 190), (1, .int (nI p))]) (by decide) (Nat.le_of_ble_eq_true rfl) rfl ?_
  intro pg e s m args below meth c Q hQ X hnm
  refine K_iload_n X 1 dX6_character_0 rfl rfl ?_
  refine K_aload_n X 0 dX6_character_1 rfl rfl ?_
  refine K_get X 5 kFd6 rfl (by decide) sf_m wf_X6_175 rfl (v := .int (nI n)) (congrArg Value.int ((congrFun wI_self 5).trans h5)) dX6_character_2 ?_
  refine K_icmpN_ge (tgt := 17) X dX6_character_5 (by decide) (by omega) (by omega) (fun c5 => ?_) (fun c5 => ?_)
  · refine K_iconst X dX6_character_17 cii_m1 ?_
    exact K_iret X hQ dX6_character_18 (⟨by unfold xCh; rw [if_neg (by omega)], rfl⟩)
  · refine K_aload_n X 0 dX6_character_8 rfl rfl ?_
    refine K_get X 4 kFd6 rfl (by decide) sf_m wf_X6_19 rfl (v := rf b (194)) (kv_a (pf_m4 hP)) dX6_character_9 ?_
    refine K_iload_n X 1 dX6_character_12 rfl rfl ?_
    refine K_iald X _ sf_mt rfl (by omega) (by decide) ((congrFun (wI_ne (by decide)) _).trans (hR _ (by omega))) dX6_character_13 ?_
    refine K_goto (tgt := 18) X dX6_character_14 (by decide) ?_
    exact K_iret X hQ dX6_character_18 (⟨by unfold xCh; rw [if_pos (by omega)], rfl⟩)

set_option maxHeartbeats 4000000 in
set_option maxRecDepth 100000 in
theorem c_X6_isNext (l : Launch) (D : KD) (b : Nat) (σ : KS) (F : Nat → Int32) (T : Nat → Nat) (n p : Nat) (q : Nat) (hP : PF σ.2.2) (hn : n ≤ 80) (h5 : F 5 = nI n) (hT : ∀ j, j < n → T j < 128) (hR : ∀ j, j < n → σ.1 194 j = nI (T j)) (h6 : F 6 = nI p) (hp : p ≤ n) (hq : q < 128) : Ct l D b yX6_isNext cX6_isNext 3 (some .boolean) (rM 1 21) 0 0 [rf b 190, .int (nI q)] shF (wI σ 190 F) shF (pE (some (.int (kB (xIs T n q p)))) (wI σ 190 (upd F 6 (nI (p + (if xIs T n q p = true then 1 else 0)))))) := by
  refine Ct.of (ls := [(0, rf b 190), (1, .int (nI q))]) (by decide) (Nat.le_of_ble_eq_true rfl) rfl ?_
  intro pg e s m args below meth c Q hQ X hnm
  refine K_aload_n X 0 dX6_isNext_0 rfl rfl ?_
  refine K_aload_n X 0 dX6_isNext_1 rfl rfl ?_
  refine K_get X 6 kFd6 rfl (by decide) sf_m wf_X6_178 rfl (v := .int (nI p)) (congrArg Value.int ((congrFun wI_self 6).trans h6)) dX6_isNext_2 ?_
  refine K_callVE X (c_X6_character l D b _ _ T n _ hP hn h5 hT hR (by omega)) my_X6_character mv_X6_character wm_X6_181 sf_m rfl ⟨rfl, rfl, Nat.le_of_ble_eq_true rfl, Nat.le_of_ble_eq_true rfl, Nat.le_of_ble_eq_true rfl, Nat.le_of_ble_eq_true rfl⟩ rfl rfl (Nat.le_of_ble_eq_true rfl) dX6_isNext_5 ?_
  refine K_iload_n X 1 dX6_isNext_8 rfl rfl ?_
  refine K_icmp_ne (tgt := 16) X dX6_isNext_9 (by decide) (fun c9 => ?_) (fun c9 => ?_)
  · have hx : xIs T n q p = false := Bool.eq_false_iff.mpr (fun z => c9 ((xCh_is hT hq).mpr z))
    refine K_iconst X dX6_isNext_16 cii_0 ?_
    refine K_istore_n X (ls' := [(2, _), (0, _), (1, _)]) dX6_isNext_17 rfl (by decide) rfl ?_
    refine K_aload_n X 1 dX6_isNext_18 rfl rfl ?_
    refine K_dup X dX6_isNext_19 rfl ?_
    refine K_get X 6 kFd6 rfl (by decide) sf_m wf_X6_178 rfl (v := .int (nI p)) (congrArg Value.int ((congrFun wI_self 6).trans h6)) dX6_isNext_20 ?_
    refine K_iload_n X 0 dX6_isNext_23 rfl rfl ?_
    refine K_ifN_eq (tgt := 31) X dX6_isNext_24 (by decide) (by omega) (fun c24 => ?_) (fun c24 => ?_)
    · refine K_iconst X dX6_isNext_31 cii_0 ?_
      refine K_iaddN X dX6_isNext_32 ?_
      refine K_putI X 6 kFd6 rfl (by decide) sf_m wf_X6_178 rfl rfl rfl dX6_isNext_33 ?_
      refine K_st (wI_upd rfl) ?_
      refine K_iload_n X 0 dX6_isNext_36 rfl rfl ?_
      exact K_zret X false rfl hQ dX6_isNext_37 (⟨by rw [hx], by rw [hx]; rfl⟩)
    · exact absurd rfl c24
  · have hx : xIs T n q p = true := (xCh_is hT hq).mp c9
    refine K_iconst X dX6_isNext_12 cii_1 ?_
    refine K_goto (tgt := 17) X dX6_isNext_13 (by decide) ?_
    refine K_istore_n X (ls' := [(2, _), (0, _), (1, _)]) dX6_isNext_17 rfl (by decide) rfl ?_
    refine K_aload_n X 1 dX6_isNext_18 rfl rfl ?_
    refine K_dup X dX6_isNext_19 rfl ?_
    refine K_get X 6 kFd6 rfl (by decide) sf_m wf_X6_178 rfl (v := .int (nI p)) (congrArg Value.int ((congrFun wI_self 6).trans h6)) dX6_isNext_20 ?_
    refine K_iload_n X 0 dX6_isNext_23 rfl rfl ?_
    refine K_ifN_eq (tgt := 31) X dX6_isNext_24 (by decide) (by omega) (fun c24 => ?_) (fun c24 => ?_)
    · exact absurd c24 (by decide)
    · refine K_iconst X dX6_isNext_27 cii_1 ?_
      refine K_goto (tgt := 32) X dX6_isNext_28 (by decide) ?_
      refine K_iaddN X dX6_isNext_32 ?_
      refine K_putI X 6 kFd6 rfl (by decide) sf_m wf_X6_178 rfl rfl rfl dX6_isNext_33 ?_
      refine K_st (wI_upd rfl) ?_
      refine K_iload_n X 0 dX6_isNext_36 rfl rfl ?_
      exact K_zret X true rfl hQ dX6_isNext_37 (⟨by rw [hx], by rw [hx]; rfl⟩)

set_option maxHeartbeats 4000000 in
set_option maxRecDepth 100000 in
theorem c_X6_readsDigit (l : Launch) (D : KD) (b : Nat) (σ : KS) (F : Nat → Int32) (T : Nat → Nat) (n p : Nat) (lo hi : Nat) (hP : PF σ.2.2) (hn : n ≤ 80) (h5 : F 5 = nI n) (hT : ∀ j, j < n → T j < 128) (hR : ∀ j, j < n → σ.1 194 j = nI (T j)) (h6 : F 6 = nI p) (hp : p ≤ n) (hh : lo ≤ 9 ∧ hi ≤ 9) : Ct l D b yX6_readsDigit cX6_readsDigit 4 (some .boolean) (rM 1 22) 0 0 [rf b 190, .int (nI lo), .int (nI hi)] shF (wI σ 190 F) shF (pE (some (.int (kB (xOk T n lo hi p)))) (wI σ 190 (upd (upd F 7 (xCh T n p - nI 48)) 6 (nI (p + (if xOk T n lo hi p = true then 1 else 0)))))) := by
  refine Ct.of (ls := [(0, rf b 190), (1, .int (nI lo)), (2, .int (nI hi))]) (by decide) (Nat.le_of_ble_eq_true rfl) rfl ?_
  intro pg e s m args below meth c Q hQ X hnm
  refine K_aload_n X 0 dX6_readsDigit_0 rfl rfl ?_
  refine K_aload_n X 0 dX6_readsDigit_1 rfl rfl ?_
  refine K_get X 6 kFd6 rfl (by decide) sf_m wf_X6_178 rfl (v := .int (nI p)) (congrArg Value.int ((congrFun wI_self 6).trans h6)) dX6_readsDigit_2 ?_
  refine K_callVE X (c_X6_character l D b _ _ T n _ hP hn h5 hT hR (by omega)) my_X6_character mv_X6_character wm_X6_181 sf_m rfl ⟨rfl, rfl, Nat.le_of_ble_eq_true rfl, Nat.le_of_ble_eq_true rfl, Nat.le_of_ble_eq_true rfl, Nat.le_of_ble_eq_true rfl⟩ rfl rfl (Nat.le_of_ble_eq_true rfl) dX6_readsDigit_5 ?_
  refine K_bipush X dX6_readsDigit_8 cib_48 ?_
  refine K_iload_n X 1 dX6_readsDigit_10 rfl rfl ?_
  refine K_iaddN X dX6_readsDigit_11 ?_
  refine K_bipush X dX6_readsDigit_12 cib_48 ?_
  refine K_iload_n X 2 dX6_readsDigit_14 rfl rfl ?_
  refine K_iaddN X dX6_readsDigit_15 ?_
  refine K_callSE X (c_X6_withinQ l D b _ _ _ _) my_X6_within wt_X6_within wm_X6_38 ⟨rfl, rfl, Nat.le_of_ble_eq_true rfl, Nat.le_of_ble_eq_true rfl, Nat.le_of_ble_eq_true rfl, Nat.le_of_ble_eq_true rfl⟩ rfl rfl (Nat.le_of_ble_eq_true rfl) dX6_readsDigit_16 ?_
  rw [xOk_q hT hh]
  refine K_istore_n X (ls' := [(3, _), (0, _), (1, _), (2, _)]) dX6_readsDigit_19 rfl (by decide) rfl ?_
  refine K_aload_n X 1 dX6_readsDigit_20 rfl rfl ?_
  refine K_aload_n X 1 dX6_readsDigit_21 rfl rfl ?_
  refine K_aload_n X 1 dX6_readsDigit_22 rfl rfl ?_
  refine K_get X 6 kFd6 rfl (by decide) sf_m wf_X6_178 rfl (v := .int (nI p)) (congrArg Value.int ((congrFun wI_self 6).trans h6)) dX6_readsDigit_23 ?_
  refine K_callVE X (c_X6_character l D b _ _ T n _ hP hn h5 hT hR (by omega)) my_X6_character mv_X6_character wm_X6_181 sf_m rfl ⟨rfl, rfl, Nat.le_of_ble_eq_true rfl, Nat.le_of_ble_eq_true rfl, Nat.le_of_ble_eq_true rfl, Nat.le_of_ble_eq_true rfl⟩ rfl rfl (Nat.le_of_ble_eq_true rfl) dX6_readsDigit_26 ?_
  refine K_bipush X dX6_readsDigit_29 cib_48 ?_
  refine K_isub X dX6_readsDigit_31 ?_
  refine K_putI X 7 kFd6 rfl (by decide) sf_m wf_X6_184 rfl rfl rfl dX6_readsDigit_32 ?_
  refine K_st (wI_upd rfl) ?_
  refine K_aload_n X 1 dX6_readsDigit_35 rfl rfl ?_
  refine K_dup X dX6_readsDigit_36 rfl ?_
  refine K_get X 6 kFd6 rfl (by decide) sf_m wf_X6_178 rfl (v := .int (nI p)) (congrArg Value.int ((congrFun wI_self 6).trans h6)) dX6_readsDigit_37 ?_
  refine K_iload_n X 0 dX6_readsDigit_40 rfl rfl ?_
  refine K_ifB_eq (tgt := 48) X dX6_readsDigit_41 (by decide) (fun c41 => ?_) (fun c41 => ?_)
  · refine K_iconst X dX6_readsDigit_48 cii_0 ?_
    refine K_iaddN X dX6_readsDigit_49 ?_
    refine K_putI X 6 kFd6 rfl (by decide) sf_m wf_X6_178 rfl rfl rfl dX6_readsDigit_50 ?_
    refine K_st (wI_upd rfl) ?_
    refine K_iload_n X 0 dX6_readsDigit_53 rfl rfl ?_
    exact K_zret X _ rfl hQ dX6_readsDigit_54 (⟨rfl, by rw [c41]; rfl⟩)
  · refine K_iconst X dX6_readsDigit_44 cii_1 ?_
    refine K_goto (tgt := 49) X dX6_readsDigit_45 (by decide) ?_
    refine K_iaddN X dX6_readsDigit_49 ?_
    refine K_putI X 6 kFd6 rfl (by decide) sf_m wf_X6_178 rfl rfl rfl dX6_readsDigit_50 ?_
    refine K_st (wI_upd rfl) ?_
    refine K_iload_n X 0 dX6_readsDigit_53 rfl rfl ?_
    exact K_zret X _ rfl hQ dX6_readsDigit_54 (⟨rfl, by rw [c41]; rfl⟩)

set_option maxHeartbeats 4000000 in
set_option maxRecDepth 100000 in
theorem c_X6_readsNumber (l : Launch) (D : KD) (b : Nat) (σ : KS) (F : Nat → Int32) (T : Nat → Nat) (n p : Nat) (lo hi : Nat) (hP : PF σ.2.2) (hn : n ≤ 80) (h5 : F 5 = nI n) (hT : ∀ j, j < n → T j < 128) (hR : ∀ j, j < n → σ.1 194 j = nI (T j)) (h6 : F 6 = nI p) (hp : p ≤ n) (hl : lo ≤ 9) (hh : 9 ≤ hi ∧ hi ≤ 20000) : Ct l D b yX6_readsNumber cX6_readsNumber 5 (some .boolean) (rM 2 45) 0 0 [rf b 190, .int (nI lo), .int (nI hi)] shF (wI σ 190 F) shF (pS (some (.int (kB (xNum T n lo hi p).isSome))) (fun σ' => ∃ G, σ' = wI σ 190 G ∧ xPn F G p (xNum T n lo hi p))) := by
  refine Ct.of (ls := [(0, rf b 190), (1, .int (nI lo)), (2, .int (nI hi))]) (by decide) (Nat.le_of_ble_eq_true rfl) rfl ?_
  intro pg e s m args below meth c Q hQ X hnm
  refine K_aload_n X 0 dX6_readsNumber_0 rfl rfl ?_
  refine K_iload_n X 1 dX6_readsNumber_1 rfl rfl ?_
  refine K_bipush X dX6_readsNumber_2 cib_9 ?_
  refine K_callVE X (c_X6_readsDigit l D b _ F T n p _ _ hP hn h5 hT hR h6 hp (by omega)) my_X6_readsDigit mv_X6_readsDigit wm_X6_187 sf_m rfl ⟨rfl, rfl, Nat.le_of_ble_eq_true rfl, Nat.le_of_ble_eq_true rfl, Nat.le_of_ble_eq_true rfl, Nat.le_of_ble_eq_true rfl⟩ rfl rfl (Nat.le_of_ble_eq_true rfl) dX6_readsNumber_4 ?_
  refine K_ifB_ne (tgt := 12) X dX6_readsNumber_7 (by decide) (fun c7 => ?_) (fun c7 => ?_)
  · obtain ⟨d, hd, hd1, hd2⟩ := xOk_t c7
    rw [c7, xCh_48 hd]
    have hN := xNum_t (hi := hi) hd (show lo ≤ d ∧ d ≤ hi from by omega)
    refine K_aload_n X 0 dX6_readsNumber_12 rfl rfl ?_
    refine K_get X 7 kFd6 rfl (by decide) sf_m wf_X6_184 rfl (v := .int (nI d)) (congrArg Value.int (congrFun wI_self 7)) dX6_readsNumber_13 ?_
    refine K_ifN_le (tgt := 23) X dX6_readsNumber_16 (by decide) (by omega) (fun c16 => ?_) (fun c16 => ?_)
    · refine K_iconst X dX6_readsNumber_23 cii_0 ?_
      refine K_istore_n X (ls' := [(3, _), (0, _), (1, _), (2, _)]) dX6_readsNumber_24 rfl (by decide) rfl ?_
      refine K_iload_n X 0 dX6_readsNumber_25 rfl rfl ?_
      refine K_ifN_eq (tgt := 118) X dX6_readsNumber_26 (by decide) (by omega) (fun c26 => ?_) (fun c26 => ?_)
      · refine K_iconst X dX6_readsNumber_118 cii_1 ?_
        exact K_zret X true rfl hQ dX6_readsNumber_119 (⟨by rw [hN]; rfl, _, rfl, by rw [hN, if_pos c16]; exact ⟨fun k hk => by unfold upd; rw [if_neg (by omega), if_neg (by omega)], fun k hk => by unfold upd; rw [if_neg (by omega), if_neg (by omega)], by rw [c16]; rfl, rfl⟩⟩)
      · exact absurd rfl c26
    · have hN0 := hN
      rw [if_neg c16] at hN0
      refine K_iconst X dX6_readsNumber_19 cii_1 ?_
      refine K_goto (tgt := 24) X dX6_readsNumber_20 (by decide) ?_
      refine K_istore_n X (ls' := [(3, _), (0, _), (1, _), (2, _)]) dX6_readsNumber_24 rfl (by decide) rfl ?_
      have loop : ∀ (f v pp : Nat) (G : Nat → Int32), v ≤ hi → pp ≤ n → n < pp + f → (∀ k, k < 6 → G k = F k) → (∀ k, 8 ≤ k → G k = F k) → G 7 = nI v → G 6 = nI pp → xMore T n hi f v pp = xMore T n hi 81 d (p + 1) → K pg l e (rM 2 45) s m args below meth c Q D b 5 0 0 shF (wI σ 190 G) 25 [(0, rf b 190), (2, .int (nI hi)), (3, .int (nI 1))] [] := by
        intro f
        induction f with
        | zero => intro v pp G hv hpp hf; omega
        | succ f ih =>
          intro v pp G hv hpp hf g1 g2 g7 g6 hg
          have g5 : G 5 = nI n := (g1 5 (by omega)).trans h5
          refine K_iload_n X 2 dX6_readsNumber_25 rfl rfl ?_
          refine K_ifN_eq (tgt := 118) X dX6_readsNumber_26 (by decide) (by omega) (fun c26 => ?_) (fun c26 => ?_)
          · exact absurd c26 (by decide)
          · refine K_bipush X dX6_readsNumber_29 cib_10 ?_
            refine K_aload_n X 0 dX6_readsNumber_31 rfl rfl ?_
            refine K_get X 7 kFd6 rfl (by decide) sf_m wf_X6_184 rfl (v := .int (nI v)) (congrArg Value.int ((congrFun wI_self 7).trans g7)) dX6_readsNumber_32 ?_
            refine K_imulN X dX6_readsNumber_35 ?_
            refine K_aload_n X 0 dX6_readsNumber_36 rfl rfl ?_
            refine K_aload_n X 0 dX6_readsNumber_37 rfl rfl ?_
            refine K_get X 6 kFd6 rfl (by decide) sf_m wf_X6_178 rfl (v := .int (nI pp)) (congrArg Value.int ((congrFun wI_self 6).trans g6)) dX6_readsNumber_38 ?_
            refine K_callVE X (c_X6_character l D b _ _ T n _ hP hn g5 hT hR (by omega)) my_X6_character mv_X6_character wm_X6_181 sf_m rfl ⟨rfl, rfl, Nat.le_of_ble_eq_true rfl, Nat.le_of_ble_eq_true rfl, Nat.le_of_ble_eq_true rfl, Nat.le_of_ble_eq_true rfl⟩ rfl rfl (Nat.le_of_ble_eq_true rfl) dX6_readsNumber_41 ?_
            refine K_iadd X dX6_readsNumber_44 ?_
            refine K_bipush X dX6_readsNumber_45 cib_48 ?_
            refine K_isub X dX6_readsNumber_47 ?_
            refine K_istore X (ls' := [(4, _), (0, _), (2, _), (3, _)]) dX6_readsNumber_48 (by decide) rfl ?_
            refine K_aload_n X 1 dX6_readsNumber_50 rfl rfl ?_
            refine K_aload_n X 1 dX6_readsNumber_51 rfl rfl ?_
            refine K_get X 6 kFd6 rfl (by decide) sf_m wf_X6_178 rfl (v := .int (nI pp)) (congrArg Value.int ((congrFun wI_self 6).trans g6)) dX6_readsNumber_52 ?_
            refine K_callVE X (c_X6_character l D b _ _ T n _ hP hn g5 hT hR (by omega)) my_X6_character mv_X6_character wm_X6_181 sf_m rfl ⟨rfl, rfl, Nat.le_of_ble_eq_true rfl, Nat.le_of_ble_eq_true rfl, Nat.le_of_ble_eq_true rfl, Nat.le_of_ble_eq_true rfl⟩ rfl rfl (Nat.le_of_ble_eq_true rfl) dX6_readsNumber_55 ?_
            refine K_bipush X dX6_readsNumber_58 cib_48 ?_
            refine K_bipush X dX6_readsNumber_60 cib_57 ?_
            refine K_callSE X (c_X6_withinQ l D b _ _ 48 57) my_X6_within wt_X6_within wm_X6_38 ⟨rfl, rfl, Nat.le_of_ble_eq_true rfl, Nat.le_of_ble_eq_true rfl, Nat.le_of_ble_eq_true rfl, Nat.le_of_ble_eq_true rfl⟩ rfl rfl (Nat.le_of_ble_eq_true rfl) dX6_readsNumber_62 ?_
            rw [show qIn 48 57 (xCh T n pp) = xOk T n 0 9 pp from xOk_q (lo := 0) (hi := 9) hT (by omega)]
            refine K_ifB_eq (tgt := 78) X dX6_readsNumber_65 (by decide) (fun c65 => ?_) (fun c65 => ?_)
            · refine K_iconst X dX6_readsNumber_78 cii_0 ?_
              refine K_istore_n X (ls' := [(3, _), (4, _), (0, _), (2, _)]) dX6_readsNumber_79 rfl (by decide) rfl ?_
              refine K_aload_n X 2 dX6_readsNumber_80 rfl rfl ?_
              refine K_iload_n X 0 dX6_readsNumber_81 rfl rfl ?_
              refine K_ifN_eq (tgt := 90) X dX6_readsNumber_82 (by decide) (by omega) (fun c82 => ?_) (fun c82 => ?_)
              · refine K_aload_n X 2 dX6_readsNumber_90 rfl rfl ?_
                refine K_get X 7 kFd6 rfl (by decide) sf_m wf_X6_184 rfl (v := .int (nI v)) (congrArg Value.int ((congrFun wI_self 7).trans g7)) dX6_readsNumber_91 ?_
                refine K_putI X 7 kFd6 rfl (by decide) sf_m wf_X6_184 rfl rfl rfl dX6_readsNumber_94 ?_
                refine K_st (wI_upd rfl) ?_
                refine K_aload_n X 2 dX6_readsNumber_97 rfl rfl ?_
                refine K_dup X dX6_readsNumber_98 rfl ?_
                refine K_get X 6 kFd6 rfl (by decide) sf_m wf_X6_178 rfl (v := .int (nI pp)) (congrArg Value.int ((congrFun wI_self 6).trans g6)) dX6_readsNumber_99 ?_
                refine K_iload_n X 0 dX6_readsNumber_102 rfl rfl ?_
                refine K_ifN_eq (tgt := 110) X dX6_readsNumber_103 (by decide) (by omega) (fun c103 => ?_) (fun c103 => ?_)
                · refine K_iconst X dX6_readsNumber_110 cii_0 ?_
                  refine K_iaddN X dX6_readsNumber_111 ?_
                  refine K_putI X 6 kFd6 rfl (by decide) sf_m wf_X6_178 rfl rfl rfl dX6_readsNumber_112 ?_
                  refine K_st (wI_upd rfl) ?_
                  refine K_goto (tgt := 25) X dX6_readsNumber_115 (by decide) ?_
                  have hmore : xMore T n hi (f + 1) v pp = (v, pp) := by
                    show (match xDig T n pp with | none => (v, pp) | some d => if 10 * v + d ≤ hi then xMore T n hi f (10 * v + d) (pp + 1) else (v, pp)) = _
                    cases hd9 : xDig T n pp with
                    | none => rfl
                    | some e1 => exact absurd ⟨Nat.zero_le _, (xDig_lt hd9).2.1⟩ (xOk_f c65 hd9)
                  refine K_st (σ' := wI σ 190 G) (by rw [upd_id (f := G) g7, Nat.add_zero, upd_id (f := G) g6]) ?_
                  refine K_iload_n X 0 dX6_readsNumber_25 rfl rfl ?_
                  refine K_ifN_eq (tgt := 118) X dX6_readsNumber_26 (by decide) (by omega) (fun c26 => ?_) (fun c26 => ?_)
                  · refine K_iconst X dX6_readsNumber_118 cii_1 ?_
                    exact K_zret X true rfl hQ dX6_readsNumber_119 (⟨by rw [hN]; rfl, G, rfl, by rw [hN0, ← hg]; exact ⟨g1, g2, by rw [hmore]; exact ⟨g7, g6⟩⟩⟩)
                  · exact absurd rfl c26
                · exact absurd rfl c103
              · exact absurd rfl c82
            · obtain ⟨e1, he, -, -⟩ := xOk_t c65
              have he9 := xDig_lt he
              rw [xLong he]
              refine K_iload X 0 dX6_readsNumber_68 rfl ?_
              refine K_iload_n X 2 dX6_readsNumber_70 rfl rfl ?_
              refine K_icmpN_gt (tgt := 78) X dX6_readsNumber_71 (by decide) (by omega) (by omega) (fun c71 => ?_) (fun c71 => ?_)
              · refine K_iconst X dX6_readsNumber_78 cii_0 ?_
                refine K_istore_n X (ls' := [(3, _), (4, _), (0, _), (2, _)]) dX6_readsNumber_79 rfl (by decide) rfl ?_
                refine K_aload_n X 2 dX6_readsNumber_80 rfl rfl ?_
                refine K_iload_n X 0 dX6_readsNumber_81 rfl rfl ?_
                refine K_ifN_eq (tgt := 90) X dX6_readsNumber_82 (by decide) (by omega) (fun c82 => ?_) (fun c82 => ?_)
                · refine K_aload_n X 2 dX6_readsNumber_90 rfl rfl ?_
                  refine K_get X 7 kFd6 rfl (by decide) sf_m wf_X6_184 rfl (v := .int (nI v)) (congrArg Value.int ((congrFun wI_self 7).trans g7)) dX6_readsNumber_91 ?_
                  refine K_putI X 7 kFd6 rfl (by decide) sf_m wf_X6_184 rfl rfl rfl dX6_readsNumber_94 ?_
                  refine K_st (wI_upd rfl) ?_
                  refine K_aload_n X 2 dX6_readsNumber_97 rfl rfl ?_
                  refine K_dup X dX6_readsNumber_98 rfl ?_
                  refine K_get X 6 kFd6 rfl (by decide) sf_m wf_X6_178 rfl (v := .int (nI pp)) (congrArg Value.int ((congrFun wI_self 6).trans g6)) dX6_readsNumber_99 ?_
                  refine K_iload_n X 0 dX6_readsNumber_102 rfl rfl ?_
                  refine K_ifN_eq (tgt := 110) X dX6_readsNumber_103 (by decide) (by omega) (fun c103 => ?_) (fun c103 => ?_)
                  · refine K_iconst X dX6_readsNumber_110 cii_0 ?_
                    refine K_iaddN X dX6_readsNumber_111 ?_
                    refine K_putI X 6 kFd6 rfl (by decide) sf_m wf_X6_178 rfl rfl rfl dX6_readsNumber_112 ?_
                    refine K_st (wI_upd rfl) ?_
                    refine K_goto (tgt := 25) X dX6_readsNumber_115 (by decide) ?_
                    have hmore : xMore T n hi (f + 1) v pp = (v, pp) := by
                      show (match xDig T n pp with | none => (v, pp) | some d => if 10 * v + d ≤ hi then xMore T n hi f (10 * v + d) (pp + 1) else (v, pp)) = _
                      rw [he]; exact if_neg (by omega)
                    refine K_st (σ' := wI σ 190 G) (by rw [upd_id (f := G) g7, Nat.add_zero, upd_id (f := G) g6]) ?_
                    refine K_iload_n X 0 dX6_readsNumber_25 rfl rfl ?_
                    refine K_ifN_eq (tgt := 118) X dX6_readsNumber_26 (by decide) (by omega) (fun c26 => ?_) (fun c26 => ?_)
                    · refine K_iconst X dX6_readsNumber_118 cii_1 ?_
                      exact K_zret X true rfl hQ dX6_readsNumber_119 (⟨by rw [hN]; rfl, G, rfl, by rw [hN0, ← hg]; exact ⟨g1, g2, by rw [hmore]; exact ⟨g7, g6⟩⟩⟩)
                    · exact absurd rfl c26
                  · exact absurd rfl c103
                · exact absurd rfl c82
              · refine K_iconst X dX6_readsNumber_74 cii_1 ?_
                refine K_goto (tgt := 79) X dX6_readsNumber_75 (by decide) ?_
                refine K_istore_n X (ls' := [(3, _), (4, _), (0, _), (2, _)]) dX6_readsNumber_79 rfl (by decide) rfl ?_
                refine K_aload_n X 2 dX6_readsNumber_80 rfl rfl ?_
                refine K_iload_n X 0 dX6_readsNumber_81 rfl rfl ?_
                refine K_ifN_eq (tgt := 90) X dX6_readsNumber_82 (by decide) (by omega) (fun c82 => ?_) (fun c82 => ?_)
                · exact absurd c82 (by decide)
                · refine K_iload X 1 dX6_readsNumber_85 rfl ?_
                  refine K_goto (tgt := 94) X dX6_readsNumber_87 (by decide) ?_
                  refine K_putI X 7 kFd6 rfl (by decide) sf_m wf_X6_184 rfl rfl rfl dX6_readsNumber_94 ?_
                  refine K_st (wI_upd rfl) ?_
                  refine K_aload_n X 2 dX6_readsNumber_97 rfl rfl ?_
                  refine K_dup X dX6_readsNumber_98 rfl ?_
                  refine K_get X 6 kFd6 rfl (by decide) sf_m wf_X6_178 rfl (v := .int (nI pp)) (congrArg Value.int ((congrFun wI_self 6).trans g6)) dX6_readsNumber_99 ?_
                  refine K_iload_n X 0 dX6_readsNumber_102 rfl rfl ?_
                  refine K_ifN_eq (tgt := 110) X dX6_readsNumber_103 (by decide) (by omega) (fun c103 => ?_) (fun c103 => ?_)
                  · exact absurd c103 (by decide)
                  · refine K_iconst X dX6_readsNumber_106 cii_1 ?_
                    refine K_goto (tgt := 111) X dX6_readsNumber_107 (by decide) ?_
                    refine K_iaddN X dX6_readsNumber_111 ?_
                    refine K_putI X 6 kFd6 rfl (by decide) sf_m wf_X6_178 rfl rfl rfl dX6_readsNumber_112 ?_
                    refine K_st (wI_upd rfl) ?_
                    refine K_goto (tgt := 25) X dX6_readsNumber_115 (by decide) ?_
                    exact K_sub [2, 3, 0] rfl (ih (10 * v + e1) (pp + 1) _ (by omega) (by omega) (by omega) (fun k hk => by unfold upd; rw [if_neg (by omega), if_neg (by omega)]; exact g1 k hk) (fun k hk => by unfold upd; rw [if_neg (by omega), if_neg (by omega)]; exact g2 k hk) rfl rfl (by rw [← hg]; show _ = (match xDig T n pp with | none => (v, pp) | some d => if 10 * v + d ≤ hi then xMore T n hi f (10 * v + d) (pp + 1) else (v, pp)); rw [he]; exact (if_pos (by omega)).symm))
      exact K_sub [1, 3, 0] rfl (loop 81 d (p + 1) _ (by omega) (by have := xDig_lt hd; omega) (by omega) (fun k hk => by unfold upd; rw [if_neg (by omega), if_neg (by omega)]) (fun k hk => by unfold upd; rw [if_neg (by omega), if_neg (by omega)]) rfl rfl rfl)
  · have hN : xNum T n lo hi p = none := xNum_f (fun d hd => by have := xOk_f c7 hd; have := xDig_lt hd; omega)
    refine K_iconst X dX6_readsNumber_10 cii_0 ?_
    exact K_zret X false rfl hQ dX6_readsNumber_11 (⟨by rw [hN]; rfl, _, rfl, by rw [hN]; exact ⟨fun k hk => by unfold upd; rw [if_neg (by omega), if_neg (by omega)], fun k hk => by unfold upd; rw [if_neg (by omega), if_neg (by omega)], by rw [c7]; rfl⟩⟩)
