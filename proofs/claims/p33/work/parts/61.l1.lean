/-! THE LAW: its readers -/
set_option maxHeartbeats 4000000 in
set_option maxRecDepth 100000 in
theorem c_L_low (l : Launch) (D : KD) (b : Nat) (σ : KS) {sh : List KSh} (x : Int32) (n : Nat) (h0 : 0 < n) (hn : n < 2 ^ 31) : Ct l D b yL_low cL_low 2 (some .int) (rM 0 0) 0 0 [.int x, .int (nI n)] sh σ sh (pE (some (.int (nI (lz x % n)))) σ) := by
  refine Ct.of (ls := [(0, .int x), (1, .int (nI n))]) (by decide) (Nat.le_of_ble_eq_true rfl) rfl ?_
  intro pg e s m args below meth c Q hQ X hnm
  refine K_iload_n X 0 dL_low_0 rfl rfl ?_
  refine K_ldc X wl_L_9 dL_low_1 ?_
  refine K_iand X dL_low_3 ?_
  rw [lz_and]
  refine K_iload_n X 1 dL_low_4 rfl rfl ?_
  refine K_iremN X dL_low_5 (lz_lt _) h0 hn ?_
  exact K_iret X hQ dL_low_6 (⟨rfl, rfl⟩)

set_option maxHeartbeats 4000000 in
set_option maxRecDepth 100000 in
theorem c_L_at (l : Launch) (D : KD) (b : Nat) (σ : KS) {sh : List KSh} (O : Nat) (q i f : Nat → Nat) (pl : Nat) (hG : GS sh O) (hF : FI q i f) (hpl : pl < 2 ^ 31) : Ct l D b yL_at cL_at 5 (some .int) (rM 0 0) 0 0 [.int (nI pl), rf b O, rf b (O + 2)] sh (wG σ O q i f) sh (pE (some (.int (nI (fAt f pl (q 2))))) (wG σ O q i f)) := by
  refine Ct.of (ls := [(0, .int (nI pl)), (1, rf b O), (2, rf b (O + 2))]) (by decide) (Nat.le_of_ble_eq_true rfl) rfl ?_
  intro pg e s m args below meth c Q hQ X hnm
  refine K_iconst X dL_at_0 cii_0 ?_
  refine K_istore_n X (ls' := [(3, _), (0, _), (1, _), (2, _)]) dL_at_1 rfl (by decide) rfl ?_
  refine K_iconst X dL_at_2 cii_0 ?_
  refine K_istore X (ls' := [(4, _), (3, _), (0, _), (1, _), (2, _)]) dL_at_3 (by decide) rfl ?_
  have loop : ∀ t : Nat, t ≤ q 2 → K pg l e (rM 0 0) s m args below meth c Q D b 5 0 0 sh (wG σ O q i f) 5 [(3, .int (nI (fAt f pl t))), (4, .int (nI t)), (0, .int (nI pl)), (1, rf b O), (2, rf b (O + 2))] [] := by
    refine kup (fun t ht ih => ?_)
    have h2 := fi_2 hF
    refine K_iload X 1 dL_at_5 rfl ?_
    refine K_aload_n X 3 dL_at_7 rfl rfl ?_
    refine K_iconst X dL_at_8 cii_2 ?_
    refine K_iald X _ hG.1 rfl (by omega) (by decide) (wG_q _) dL_at_9 ?_
    refine K_icmpN_ge (tgt := 50) X dL_at_10 (by decide) (by omega) (by omega) (fun c10 => ?_) (fun c10 => ?_)
    · refine K_iload_n X 0 dL_at_50 rfl rfl ?_
      exact K_iret X hQ dL_at_51 (⟨by rw [show t = q 2 from by omega], rfl⟩)
    · have hk : t < q 2 := by omega
      have h16 := fi_2 hF
      have b1 := fi_l1 hF hk
      have b3 := fi_l3 hF hk
      refine K_iload_n X 0 dL_at_13 rfl rfl ?_
      refine K_aload_n X 4 dL_at_14 rfl rfl ?_
      refine K_iconst X dL_at_15 cii_4 ?_
      refine K_iload X 1 dL_at_16 rfl ?_
      refine K_imulN X dL_at_18 ?_
      refine K_iconst X dL_at_19 cii_1 ?_
      refine K_iaddN X dL_at_20 ?_
      refine K_iald X _ hG.2.2 rfl (by omega) (by decide) (wG_f _) dL_at_21 ?_
      refine K_ifN_le (tgt := 41) X dL_at_22 (by decide) (by omega) (fun c22 => ?_) (fun c22 => ?_)
      · refine K_iconst X dL_at_41 cii_0 ?_
        refine K_iaddN X dL_at_42 ?_
        refine K_istore_n X (ls' := [(3, _), (4, _), (0, _), (1, _), (2, _)]) dL_at_43 rfl (by decide) rfl ?_
        refine K_iinc X 1 (ls' := [(4, _), (3, _), (0, _), (1, _), (2, _)]) dL_at_44 rfl (inc_1 _) (by decide) rfl ?_
        refine K_goto (tgt := 5) X dL_at_47 (by decide) ?_
        rw [show fAt f pl t + 0 = fAt f pl (t + 1) from (congrArg (fAt f pl t + ·) (if_neg (fun z => by omega))).symm]
        exact K_sub [1, 0, 2, 3, 4] rfl (ih (by omega))
      · refine K_aload_n X 4 dL_at_25 rfl rfl ?_
        refine K_iconst X dL_at_26 cii_4 ?_
        refine K_iload X 1 dL_at_27 rfl ?_
        refine K_imulN X dL_at_29 ?_
        refine K_iconst X dL_at_30 cii_3 ?_
        refine K_iaddN X dL_at_31 ?_
        refine K_iald X _ hG.2.2 rfl (by omega) (by decide) (wG_f _) dL_at_32 ?_
        refine K_iload_n X 2 dL_at_33 rfl rfl ?_
        refine K_icmpN_ne (tgt := 41) X dL_at_34 (by decide) (by omega) (by omega) (fun c34 => ?_) (fun c34 => ?_)
        · refine K_iconst X dL_at_41 cii_0 ?_
          refine K_iaddN X dL_at_42 ?_
          refine K_istore_n X (ls' := [(3, _), (4, _), (0, _), (1, _), (2, _)]) dL_at_43 rfl (by decide) rfl ?_
          refine K_iinc X 1 (ls' := [(4, _), (3, _), (0, _), (1, _), (2, _)]) dL_at_44 rfl (inc_1 _) (by decide) rfl ?_
          refine K_goto (tgt := 5) X dL_at_47 (by decide) ?_
          rw [show fAt f pl t + 0 = fAt f pl (t + 1) from (congrArg (fAt f pl t + ·) (if_neg (fun z => c34 z.2))).symm]
          exact K_sub [1, 0, 2, 3, 4] rfl (ih (by omega))
        · refine K_iconst X dL_at_37 cii_1 ?_
          refine K_goto (tgt := 42) X dL_at_38 (by decide) ?_
          refine K_iaddN X dL_at_42 ?_
          refine K_istore_n X (ls' := [(3, _), (4, _), (0, _), (1, _), (2, _)]) dL_at_43 rfl (by decide) rfl ?_
          refine K_iinc X 1 (ls' := [(4, _), (3, _), (0, _), (1, _), (2, _)]) dL_at_44 rfl (inc_1 _) (by decide) rfl ?_
          refine K_goto (tgt := 5) X dL_at_47 (by decide) ?_
          rw [show fAt f pl t + 1 = fAt f pl (t + 1) from (congrArg (fAt f pl t + ·) (if_pos ⟨by omega, c34⟩)).symm]
          exact K_sub [1, 0, 2, 3, 4] rfl (ih (by omega))
  exact K_sub [1, 0, 2, 3, 4] rfl (loop 0 (Nat.zero_le _))

set_option maxHeartbeats 4000000 in
set_option maxRecDepth 100000 in
theorem c_L_lots (l : Launch) (D : KD) (b : Nat) (σ : KS) {sh : List KSh} (O : Nat) (q i f : Nat → Nat) (hG : GS sh O) (hF : FI q i f) : Ct l D b yL_lots cL_lots 4 (some .int) (rM 0 0) 0 0 [rf b O, rf b (O + 2)] sh (wG σ O q i f) sh (pE (some (.int (nI (al f (q 2))))) (wG σ O q i f)) := by
  refine Ct.of (ls := [(0, rf b O), (1, rf b (O + 2))]) (by decide) (Nat.le_of_ble_eq_true rfl) rfl ?_
  intro pg e s m args below meth c Q hQ X hnm
  refine K_iconst X dL_lots_0 cii_0 ?_
  refine K_istore_n X (ls' := [(2, _), (0, _), (1, _)]) dL_lots_1 rfl (by decide) rfl ?_
  refine K_iconst X dL_lots_2 cii_0 ?_
  refine K_istore_n X (ls' := [(3, _), (2, _), (0, _), (1, _)]) dL_lots_3 rfl (by decide) rfl ?_
  have loop : ∀ t : Nat, t ≤ q 2 → K pg l e (rM 0 0) s m args below meth c Q D b 4 0 0 sh (wG σ O q i f) 4 [(2, .int (nI (al f t))), (3, .int (nI t)), (0, rf b O), (1, rf b (O + 2))] [] := by
    refine kup (fun t ht ih => ?_)
    have h2 := fi_2 hF
    refine K_iload_n X 1 dL_lots_4 rfl rfl ?_
    refine K_aload_n X 2 dL_lots_5 rfl rfl ?_
    refine K_iconst X dL_lots_6 cii_2 ?_
    refine K_iald X _ hG.1 rfl (by omega) (by decide) (wG_q _) dL_lots_7 ?_
    refine K_icmpN_ge (tgt := 35) X dL_lots_8 (by decide) (by omega) (by omega) (fun c8 => ?_) (fun c8 => ?_)
    · refine K_iload_n X 0 dL_lots_35 rfl rfl ?_
      exact K_iret X hQ dL_lots_36 (⟨by rw [show t = q 2 from by omega], rfl⟩)
    · have hk : t < q 2 := by omega
      have h16 := fi_2 hF
      have b1 := fi_l1 hF hk
      have b3 := fi_l3 hF hk
      refine K_iload_n X 0 dL_lots_11 rfl rfl ?_
      refine K_aload_n X 3 dL_lots_12 rfl rfl ?_
      refine K_iconst X dL_lots_13 cii_4 ?_
      refine K_iload_n X 1 dL_lots_14 rfl rfl ?_
      refine K_imulN X dL_lots_15 ?_
      refine K_iconst X dL_lots_16 cii_1 ?_
      refine K_iaddN X dL_lots_17 ?_
      refine K_iald X _ hG.2.2 rfl (by omega) (by decide) (wG_f _) dL_lots_18 ?_
      refine K_ifN_le (tgt := 26) X dL_lots_19 (by decide) (by omega) (fun c19 => ?_) (fun c19 => ?_)
      · refine K_iconst X dL_lots_26 cii_0 ?_
        refine K_iaddN X dL_lots_27 ?_
        refine K_istore_n X (ls' := [(2, _), (3, _), (0, _), (1, _)]) dL_lots_28 rfl (by decide) rfl ?_
        refine K_iinc X 1 (ls' := [(3, _), (2, _), (0, _), (1, _)]) dL_lots_29 rfl (inc_1 _) (by decide) rfl ?_
        refine K_goto (tgt := 4) X dL_lots_32 (by decide) ?_
        rw [show al f t + 0 = al f (t + 1) from (congrArg (al f t + ·) (if_neg (by omega))).symm]
        exact K_sub [1, 0, 2, 3] rfl (ih (by omega))
      · refine K_iconst X dL_lots_22 cii_1 ?_
        refine K_goto (tgt := 27) X dL_lots_23 (by decide) ?_
        refine K_iaddN X dL_lots_27 ?_
        refine K_istore_n X (ls' := [(2, _), (3, _), (0, _), (1, _)]) dL_lots_28 rfl (by decide) rfl ?_
        refine K_iinc X 1 (ls' := [(3, _), (2, _), (0, _), (1, _)]) dL_lots_29 rfl (inc_1 _) (by decide) rfl ?_
        refine K_goto (tgt := 4) X dL_lots_32 (by decide) ?_
        rw [show al f t + 1 = al f (t + 1) from (congrArg (al f t + ·) (if_pos (by omega))).symm]
        exact K_sub [1, 0, 2, 3] rfl (ih (by omega))
  exact K_sub [1, 0, 2, 3] rfl (loop 0 (Nat.zero_le _))

set_option maxHeartbeats 4000000 in
set_option maxRecDepth 100000 in
theorem c_L_price (l : Launch) (D : KD) (b : Nat) (σ : KS) {sh : List KSh} (O : Nat) (q i f : Nat → Nat) (kd fr h : Nat) (hG : GS sh O) (hF : FI q i f) (hkd : kd < 6) (hfr : fr ≤ 100) (hh : h < 11) : Ct l D b yL_price cL_price 4 (some .int) (rM 0 0) 0 0 [.int (nI kd), .int (nI fr), .int (nI h), rf b O] sh (wG σ O q i f) sh (pE (some (.int (nI (fPr q kd fr h)))) (wG σ O q i f)) := by
  have bp := fi_p hF hkd
  have bt := fi_t hF hh
  have m1 : q (10 + kd) * (50 + fr / 2) ≤ 9999 * 100 := Nat.mul_le_mul bp (by omega)
  have m2 : q (10 + kd) * (50 + fr / 2) / 100 * (100 - q (22 + h)) ≤ 9999 * 100 := Nat.mul_le_mul (by omega) (by omega)
  refine Ct.of (ls := [(0, .int (nI kd)), (1, .int (nI fr)), (2, .int (nI h)), (3, rf b O)]) (by decide) (Nat.le_of_ble_eq_true rfl) rfl ?_
  intro pg e s m args below meth c Q hQ X hnm
  refine K_aload_n X 3 dL_price_0 rfl rfl ?_
  refine K_bipush X dL_price_1 cib_10 ?_
  refine K_iload_n X 0 dL_price_3 rfl rfl ?_
  refine K_iaddN X dL_price_4 ?_
  refine K_iald X _ hG.1 rfl (by omega) (by decide) (wG_q _) dL_price_5 ?_
  refine K_bipush X dL_price_6 cib_50 ?_
  refine K_iload_n X 1 dL_price_8 rfl rfl ?_
  refine K_iconst X dL_price_9 cii_2 ?_
  refine K_idivN X dL_price_10 (by omega) (by decide) (by decide) ?_
  refine K_iaddN X dL_price_11 ?_
  refine K_imulN X dL_price_12 ?_
  refine K_bipush X dL_price_13 cib_100 ?_
  refine K_idivN X dL_price_15 (by exact Nat.lt_of_le_of_lt m1 (by decide)) (by decide) (by decide) ?_
  refine K_bipush X dL_price_16 cib_100 ?_
  refine K_aload_n X 3 dL_price_18 rfl rfl ?_
  refine K_bipush X dL_price_19 cib_22 ?_
  refine K_iload_n X 2 dL_price_21 rfl rfl ?_
  refine K_iaddN X dL_price_22 ?_
  refine K_iald X _ hG.1 rfl (by omega) (by decide) (wG_q _) dL_price_23 ?_
  refine K_isubN X dL_price_24 (by omega) ?_
  refine K_imulN X dL_price_25 ?_
  refine K_bipush X dL_price_26 cib_100 ?_
  refine K_idivN X dL_price_28 (by exact Nat.lt_of_le_of_lt m2 (by decide)) (by decide) (by decide) ?_
  exact K_iret X hQ dL_price_29 (⟨rfl, rfl⟩)

set_option maxHeartbeats 4000000 in
set_option maxRecDepth 100000 in
theorem c_L_fresh (l : Launch) (D : KD) (b : Nat) (σ : KS) {sh : List KSh} (O : Nat) (q i f : Nat → Nat) (k h : Nat) (hG : GS sh O) (hF : FI q i f) (hk : k < q 2) (hh : h ≤ 100) : Ct l D b yL_fresh cL_fresh 10 (some .int) (rM 0 0) 0 0 [.int (nI k), .int (nI h), rf b O, rf b (O + 1), rf b (O + 2)] sh (wG σ O q i f) sh (pE (some (.int (nI (fFr q i f k h)))) (wG σ O q i f)) := by
  have h16 := fi_2 hF
  have b2 := fi_l2 hF hk
  have b3 := fi_l3 hF hk
  have bi := fi_i hF b3
  have b8 := fi_8 hF
  refine Ct.of (ls := [(0, .int (nI k)), (1, .int (nI h)), (2, rf b O), (3, rf b (O + 1)), (4, rf b (O + 2))]) (by decide) (Nat.le_of_ble_eq_true rfl) rfl ?_
  intro pg e s m args below meth c Q hQ X hnm
  refine K_aload X 4 dL_fresh_0 rfl ?_
  refine K_iconst X dL_fresh_2 cii_4 ?_
  refine K_iload_n X 0 dL_fresh_3 rfl rfl ?_
  refine K_imulN X dL_fresh_4 ?_
  refine K_iconst X dL_fresh_5 cii_3 ?_
  refine K_iaddN X dL_fresh_6 ?_
  refine K_iald X _ hG.2.2 rfl (by omega) (by decide) (wG_f _) dL_fresh_7 ?_
  refine K_iconst X dL_fresh_8 cii_5 ?_
  refine K_icmpN_le (tgt := 16) X dL_fresh_9 (by decide) (by omega) (by omega) (fun c9 => ?_) (fun c9 => ?_)
  · refine K_iconst X dL_fresh_16 cii_0 ?_
    refine K_istore X (ls' := [(5, _), (0, _), (1, _), (2, _), (3, _), (4, _)]) dL_fresh_17 (by decide) rfl ?_
    refine K_aload X 5 dL_fresh_19 rfl ?_
    refine K_iconst X dL_fresh_21 cii_4 ?_
    refine K_iload_n X 1 dL_fresh_22 rfl rfl ?_
    refine K_imulN X dL_fresh_23 ?_
    refine K_iconst X dL_fresh_24 cii_2 ?_
    refine K_iaddN X dL_fresh_25 ?_
    refine K_iald X _ hG.2.2 rfl (by omega) (by decide) (wG_f _) dL_fresh_26 ?_
    rw [kS0 (f (4 * k + 2))]
    refine K_istore X (ls' := [(6, _), (5, _), (0, _), (1, _), (2, _), (3, _), (4, _)]) dL_fresh_27 (by decide) rfl ?_
    refine K_iload X 1 dL_fresh_29 rfl ?_
    refine K_ifN_eq (tgt := 43) X dL_fresh_31 (by decide) (by omega) (fun c31 => ?_) (fun c31 => ?_)
    · refine K_aload_n X 4 dL_fresh_43 rfl rfl ?_
      refine K_bipush X dL_fresh_44 cib_8 ?_
      refine K_iald X _ hG.1 rfl (by omega) (by decide) (wG_q _) dL_fresh_46 ?_
      refine K_istore X (ls' := [(7, _), (6, _), (5, _), (0, _), (1, _), (2, _), (3, _), (4, _)]) dL_fresh_47 (by decide) rfl ?_
      refine K_iconst X dL_fresh_49 cii_0 ?_
      refine K_istore X (ls' := [(8, _), (7, _), (6, _), (5, _), (0, _), (1, _), (2, _), (3, _), (4, _)]) dL_fresh_50 (by decide) rfl ?_
      obtain ⟨M, hMe⟩ : ∃ M, M = q 8 := ⟨_, rfl⟩
      rw [← hMe]
      have hM : M ≤ 1000 := by omega
      have hMt : fMt q (f (4 * k + 3)) = M := by rw [hMe]; exact if_neg (by omega)
      have loop : ∀ t : Nat, t ≤ h → K pg l e (rM 0 0) s m args below meth c Q D b 10 0 0 sh (wG σ O q i f) 52 [(6, .int (nI (f (4 * k + 2)) - nI (fLs (f (4 * k + 3)) (i (f (4 * k + 3))) M t))), (8, .int (nI t)), (5, .int (nI 0)), (7, .int (nI M)), (0, .int (nI k)), (1, .int (nI h)), (2, rf b O), (3, rf b (O + 1)), (4, rf b (O + 2))] [] := by
        refine kup (fun t ht ih => ?_)
        refine K_iload X 1 dL_fresh_52 rfl ?_
        refine K_iload_n X 5 dL_fresh_54 rfl rfl ?_
        refine K_icmpN_ge (tgt := 125) X dL_fresh_55 (by decide) (by omega) (by omega) (fun c55 => ?_) (fun c55 => ?_)
        · have ht : t = h := by omega
          have hl := fLs_le (f (4 * k + 3)) (i (f (4 * k + 3))) M t
          refine K_iload X 0 dL_fresh_125 rfl ?_
          refine K_if_ge (tgt := 134) X dL_fresh_127 (by decide) (fun c127 => ?_) (fun c127 => ?_)
          · have hge := kDif_ge (by omega) (by omega) c127
            rw [pk_sub hge]
            refine K_iload X 0 dL_fresh_134 rfl ?_
            exact K_iret X hQ dL_fresh_136 (⟨by rw [ht]; unfold fFr; rw [hMt], rfl⟩)
          · have hge := kDif_lt (by omega) (by omega) c127
            refine K_iconst X dL_fresh_130 cii_0 ?_
            refine K_goto (tgt := 136) X dL_fresh_131 (by decide) ?_
            exact K_iret X hQ dL_fresh_136 (⟨by unfold fFr; rw [hMt, ← ht, show f (4 * k + 2) - fLs (f (4 * k + 3)) (i (f (4 * k + 3))) M t = 0 from by omega], rfl⟩)
        · refine K_aload_n X 7 dL_fresh_58 rfl rfl ?_
          refine K_aload X 8 dL_fresh_59 rfl ?_
          refine K_iconst X dL_fresh_61 cii_4 ?_
          refine K_iload_n X 4 dL_fresh_62 rfl rfl ?_
          refine K_imulN X dL_fresh_63 ?_
          refine K_iconst X dL_fresh_64 cii_3 ?_
          refine K_iaddN X dL_fresh_65 ?_
          refine K_iald X _ hG.2.2 rfl (by omega) (by decide) (wG_f _) dL_fresh_66 ?_
          refine K_iald X _ hG.2.1 rfl (by omega) (by decide) (wG_i _) dL_fresh_67 ?_
          refine K_iload X 1 dL_fresh_68 rfl ?_
          refine K_iload X 3 dL_fresh_70 rfl ?_
          refine K_imulN X dL_fresh_72 ?_
          have hm : t * M ≤ 100 * 1000 := Nat.mul_le_mul (by omega) hM
          refine K_isub X dL_fresh_73 ?_
          refine K_if_le (tgt := 81) X dL_fresh_74 (by decide) (fun c74 => ?_) (fun c74 => ?_)
          · refine K_iconst X dL_fresh_81 cii_0 ?_
            refine K_istore X (ls' := [(9, _), (6, _), (8, _), (5, _), (7, _), (0, _), (1, _), (2, _), (3, _), (4, _)]) dL_fresh_82 (by decide) rfl ?_
            refine K_iload X 1 dL_fresh_84 rfl ?_
            refine K_iload X 3 dL_fresh_86 rfl ?_
            refine K_ifN_eq (tgt := 105) X dL_fresh_88 (by decide) (by omega) (fun c88 => ?_) (fun c88 => ?_)
            · refine K_iload X 0 dL_fresh_105 rfl ?_
              refine K_ifN_eq (tgt := 114) X dL_fresh_107 (by decide) (by omega) (fun c107 => ?_) (fun c107 => ?_)
              · refine K_bipush X dL_fresh_114 cib_6 ?_
                refine K_isub X dL_fresh_116 ?_
                rw [kSS]
                refine K_istore X (ls' := [(6, _), (9, _), (8, _), (5, _), (7, _), (0, _), (1, _), (2, _), (3, _), (4, _)]) dL_fresh_117 (by decide) rfl ?_
                refine K_iinc X 2 (ls' := [(8, _), (6, _), (9, _), (5, _), (7, _), (0, _), (1, _), (2, _), (3, _), (4, _)]) dL_fresh_119 rfl (inc_1 _) (by decide) rfl ?_
                refine K_goto (tgt := 52) X dL_fresh_122 (by decide) ?_
                have hc := kDng (a := i (f (4 * k + 3))) (c := t * M) (by omega) (by omega) (Int32.not_lt.mpr c74)
                rw [show fLs (f (4 * k + 3)) (i (f (4 * k + 3))) M t + 6 = fLs (f (4 * k + 3)) (i (f (4 * k + 3))) M (t + 1) from (congrArg (fLs (f (4 * k + 3)) (i (f (4 * k + 3))) M t + ·) (show qLoss (f (4 * k + 3)) (i (f (4 * k + 3)) - t * M) = 6 from by unfold qLoss; rw [if_neg (show ¬ 6 ≤ f (4 * k + 3) from by omega)]; exact if_neg (by omega))).symm]
                exact K_sub [1, 0, 3, 4, 5, 6, 7, 8, 9] rfl (ih (by omega))
              · exact absurd rfl c107
            · exact absurd rfl c88
          · refine K_iconst X dL_fresh_77 cii_1 ?_
            refine K_goto (tgt := 82) X dL_fresh_78 (by decide) ?_
            refine K_istore X (ls' := [(9, _), (6, _), (8, _), (5, _), (7, _), (0, _), (1, _), (2, _), (3, _), (4, _)]) dL_fresh_82 (by decide) rfl ?_
            refine K_iload X 1 dL_fresh_84 rfl ?_
            refine K_iload X 3 dL_fresh_86 rfl ?_
            refine K_ifN_eq (tgt := 105) X dL_fresh_88 (by decide) (by omega) (fun c88 => ?_) (fun c88 => ?_)
            · refine K_iload X 0 dL_fresh_105 rfl ?_
              refine K_ifN_eq (tgt := 114) X dL_fresh_107 (by decide) (by omega) (fun c107 => ?_) (fun c107 => ?_)
              · exact absurd c107 (by decide)
              · refine K_iconst X dL_fresh_110 cii_1 ?_
                refine K_goto (tgt := 116) X dL_fresh_111 (by decide) ?_
                refine K_isub X dL_fresh_116 ?_
                rw [kSS]
                refine K_istore X (ls' := [(6, _), (9, _), (8, _), (5, _), (7, _), (0, _), (1, _), (2, _), (3, _), (4, _)]) dL_fresh_117 (by decide) rfl ?_
                refine K_iinc X 2 (ls' := [(8, _), (6, _), (9, _), (5, _), (7, _), (0, _), (1, _), (2, _), (3, _), (4, _)]) dL_fresh_119 rfl (inc_1 _) (by decide) rfl ?_
                refine K_goto (tgt := 52) X dL_fresh_122 (by decide) ?_
                have hc := kDgt (a := i (f (4 * k + 3))) (c := t * M) (by omega) (by omega) (Int32.not_le.mp c74)
                rw [show fLs (f (4 * k + 3)) (i (f (4 * k + 3))) M t + 1 = fLs (f (4 * k + 3)) (i (f (4 * k + 3))) M (t + 1) from (congrArg (fLs (f (4 * k + 3)) (i (f (4 * k + 3))) M t + ·) (show qLoss (f (4 * k + 3)) (i (f (4 * k + 3)) - t * M) = 1 from by unfold qLoss; rw [if_neg (show ¬ 6 ≤ f (4 * k + 3) from by omega)]; exact if_pos (by omega))).symm]
                exact K_sub [1, 0, 3, 4, 5, 6, 7, 8, 9] rfl (ih (by omega))
            · exact absurd rfl c88
      exact K_sub [2, 0, 3, 1, 4, 5, 6, 7, 8] rfl (loop 0 (Nat.zero_le _))
    · exact absurd rfl c31
  · refine K_iconst X dL_fresh_12 cii_1 ?_
    refine K_goto (tgt := 17) X dL_fresh_13 (by decide) ?_
    refine K_istore X (ls' := [(5, _), (0, _), (1, _), (2, _), (3, _), (4, _)]) dL_fresh_17 (by decide) rfl ?_
    refine K_aload X 5 dL_fresh_19 rfl ?_
    refine K_iconst X dL_fresh_21 cii_4 ?_
    refine K_iload_n X 1 dL_fresh_22 rfl rfl ?_
    refine K_imulN X dL_fresh_23 ?_
    refine K_iconst X dL_fresh_24 cii_2 ?_
    refine K_iaddN X dL_fresh_25 ?_
    refine K_iald X _ hG.2.2 rfl (by omega) (by decide) (wG_f _) dL_fresh_26 ?_
    rw [kS0 (f (4 * k + 2))]
    refine K_istore X (ls' := [(6, _), (5, _), (0, _), (1, _), (2, _), (3, _), (4, _)]) dL_fresh_27 (by decide) rfl ?_
    refine K_iload X 1 dL_fresh_29 rfl ?_
    refine K_ifN_eq (tgt := 43) X dL_fresh_31 (by decide) (by omega) (fun c31 => ?_) (fun c31 => ?_)
    · exact absurd c31 (by decide)
    · refine K_iconst X dL_fresh_34 cii_2 ?_
      refine K_aload_n X 4 dL_fresh_35 rfl rfl ?_
      refine K_bipush X dL_fresh_36 cib_8 ?_
      refine K_iald X _ hG.1 rfl (by omega) (by decide) (wG_q _) dL_fresh_38 ?_
      refine K_imulN X dL_fresh_39 ?_
      refine K_goto (tgt := 47) X dL_fresh_40 (by decide) ?_
      refine K_istore X (ls' := [(7, _), (6, _), (5, _), (0, _), (1, _), (2, _), (3, _), (4, _)]) dL_fresh_47 (by decide) rfl ?_
      refine K_iconst X dL_fresh_49 cii_0 ?_
      refine K_istore X (ls' := [(8, _), (7, _), (6, _), (5, _), (0, _), (1, _), (2, _), (3, _), (4, _)]) dL_fresh_50 (by decide) rfl ?_
      obtain ⟨M, hMe⟩ : ∃ M, M = 2 * q 8 := ⟨_, rfl⟩
      rw [← hMe]
      have hM : M ≤ 1000 := by omega
      have hMt : fMt q (f (4 * k + 3)) = M := by rw [hMe]; exact if_pos (by omega)
      have loop : ∀ t : Nat, t ≤ h → K pg l e (rM 0 0) s m args below meth c Q D b 10 0 0 sh (wG σ O q i f) 52 [(6, .int (nI (f (4 * k + 2)) - nI (fLs (f (4 * k + 3)) (i (f (4 * k + 3))) M t))), (8, .int (nI t)), (5, .int (nI 1)), (7, .int (nI M)), (0, .int (nI k)), (1, .int (nI h)), (2, rf b O), (3, rf b (O + 1)), (4, rf b (O + 2))] [] := by
        refine kup (fun t ht ih => ?_)
        refine K_iload X 1 dL_fresh_52 rfl ?_
        refine K_iload_n X 5 dL_fresh_54 rfl rfl ?_
        refine K_icmpN_ge (tgt := 125) X dL_fresh_55 (by decide) (by omega) (by omega) (fun c55 => ?_) (fun c55 => ?_)
        · have ht : t = h := by omega
          have hl := fLs_le (f (4 * k + 3)) (i (f (4 * k + 3))) M t
          refine K_iload X 0 dL_fresh_125 rfl ?_
          refine K_if_ge (tgt := 134) X dL_fresh_127 (by decide) (fun c127 => ?_) (fun c127 => ?_)
          · have hge := kDif_ge (by omega) (by omega) c127
            rw [pk_sub hge]
            refine K_iload X 0 dL_fresh_134 rfl ?_
            exact K_iret X hQ dL_fresh_136 (⟨by rw [ht]; unfold fFr; rw [hMt], rfl⟩)
          · have hge := kDif_lt (by omega) (by omega) c127
            refine K_iconst X dL_fresh_130 cii_0 ?_
            refine K_goto (tgt := 136) X dL_fresh_131 (by decide) ?_
            exact K_iret X hQ dL_fresh_136 (⟨by unfold fFr; rw [hMt, ← ht, show f (4 * k + 2) - fLs (f (4 * k + 3)) (i (f (4 * k + 3))) M t = 0 from by omega], rfl⟩)
        · refine K_aload_n X 7 dL_fresh_58 rfl rfl ?_
          refine K_aload X 8 dL_fresh_59 rfl ?_
          refine K_iconst X dL_fresh_61 cii_4 ?_
          refine K_iload_n X 4 dL_fresh_62 rfl rfl ?_
          refine K_imulN X dL_fresh_63 ?_
          refine K_iconst X dL_fresh_64 cii_3 ?_
          refine K_iaddN X dL_fresh_65 ?_
          refine K_iald X _ hG.2.2 rfl (by omega) (by decide) (wG_f _) dL_fresh_66 ?_
          refine K_iald X _ hG.2.1 rfl (by omega) (by decide) (wG_i _) dL_fresh_67 ?_
          refine K_iload X 1 dL_fresh_68 rfl ?_
          refine K_iload X 3 dL_fresh_70 rfl ?_
          refine K_imulN X dL_fresh_72 ?_
          have hm : t * M ≤ 100 * 1000 := Nat.mul_le_mul (by omega) hM
          refine K_isub X dL_fresh_73 ?_
          refine K_if_le (tgt := 81) X dL_fresh_74 (by decide) (fun c74 => ?_) (fun c74 => ?_)
          · refine K_iconst X dL_fresh_81 cii_0 ?_
            refine K_istore X (ls' := [(9, _), (6, _), (8, _), (5, _), (7, _), (0, _), (1, _), (2, _), (3, _), (4, _)]) dL_fresh_82 (by decide) rfl ?_
            refine K_iload X 1 dL_fresh_84 rfl ?_
            refine K_iload X 3 dL_fresh_86 rfl ?_
            refine K_ifN_eq (tgt := 105) X dL_fresh_88 (by decide) (by omega) (fun c88 => ?_) (fun c88 => ?_)
            · exact absurd c88 (by decide)
            · refine K_iload X 0 dL_fresh_91 rfl ?_
              refine K_ifN_eq (tgt := 100) X dL_fresh_93 (by decide) (by omega) (fun c93 => ?_) (fun c93 => ?_)
              · refine K_bipush X dL_fresh_100 cib_9 ?_
                refine K_goto (tgt := 116) X dL_fresh_102 (by decide) ?_
                refine K_isub X dL_fresh_116 ?_
                rw [kSS]
                refine K_istore X (ls' := [(6, _), (9, _), (8, _), (5, _), (7, _), (0, _), (1, _), (2, _), (3, _), (4, _)]) dL_fresh_117 (by decide) rfl ?_
                refine K_iinc X 2 (ls' := [(8, _), (6, _), (9, _), (5, _), (7, _), (0, _), (1, _), (2, _), (3, _), (4, _)]) dL_fresh_119 rfl (inc_1 _) (by decide) rfl ?_
                refine K_goto (tgt := 52) X dL_fresh_122 (by decide) ?_
                have hc := kDng (a := i (f (4 * k + 3))) (c := t * M) (by omega) (by omega) (Int32.not_lt.mpr c74)
                rw [show fLs (f (4 * k + 3)) (i (f (4 * k + 3))) M t + 9 = fLs (f (4 * k + 3)) (i (f (4 * k + 3))) M (t + 1) from (congrArg (fLs (f (4 * k + 3)) (i (f (4 * k + 3))) M t + ·) (show qLoss (f (4 * k + 3)) (i (f (4 * k + 3)) - t * M) = 9 from by unfold qLoss; rw [if_pos (show 6 ≤ f (4 * k + 3) from by omega)]; exact if_neg (by omega))).symm]
                exact K_sub [1, 0, 3, 4, 5, 6, 7, 8, 9] rfl (ih (by omega))
              · exact absurd rfl c93
          · refine K_iconst X dL_fresh_77 cii_1 ?_
            refine K_goto (tgt := 82) X dL_fresh_78 (by decide) ?_
            refine K_istore X (ls' := [(9, _), (6, _), (8, _), (5, _), (7, _), (0, _), (1, _), (2, _), (3, _), (4, _)]) dL_fresh_82 (by decide) rfl ?_
            refine K_iload X 1 dL_fresh_84 rfl ?_
            refine K_iload X 3 dL_fresh_86 rfl ?_
            refine K_ifN_eq (tgt := 105) X dL_fresh_88 (by decide) (by omega) (fun c88 => ?_) (fun c88 => ?_)
            · exact absurd c88 (by decide)
            · refine K_iload X 0 dL_fresh_91 rfl ?_
              refine K_ifN_eq (tgt := 100) X dL_fresh_93 (by decide) (by omega) (fun c93 => ?_) (fun c93 => ?_)
              · exact absurd c93 (by decide)
              · refine K_iconst X dL_fresh_96 cii_2 ?_
                refine K_goto (tgt := 116) X dL_fresh_97 (by decide) ?_
                refine K_isub X dL_fresh_116 ?_
                rw [kSS]
                refine K_istore X (ls' := [(6, _), (9, _), (8, _), (5, _), (7, _), (0, _), (1, _), (2, _), (3, _), (4, _)]) dL_fresh_117 (by decide) rfl ?_
                refine K_iinc X 2 (ls' := [(8, _), (6, _), (9, _), (5, _), (7, _), (0, _), (1, _), (2, _), (3, _), (4, _)]) dL_fresh_119 rfl (inc_1 _) (by decide) rfl ?_
                refine K_goto (tgt := 52) X dL_fresh_122 (by decide) ?_
                have hc := kDgt (a := i (f (4 * k + 3))) (c := t * M) (by omega) (by omega) (Int32.not_le.mp c74)
                rw [show fLs (f (4 * k + 3)) (i (f (4 * k + 3))) M t + 2 = fLs (f (4 * k + 3)) (i (f (4 * k + 3))) M (t + 1) from (congrArg (fLs (f (4 * k + 3)) (i (f (4 * k + 3))) M t + ·) (show qLoss (f (4 * k + 3)) (i (f (4 * k + 3)) - t * M) = 2 from by unfold qLoss; rw [if_pos (show 6 ≤ f (4 * k + 3) from by omega)]; exact if_pos (by omega))).symm]
                exact K_sub [1, 0, 3, 4, 5, 6, 7, 8, 9] rfl (ih (by omega))
      exact K_sub [2, 0, 3, 1, 4, 5, 6, 7, 8] rfl (loop 0 (Nat.zero_le _))
