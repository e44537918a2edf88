/-! THE LAW: the hour and the closing -/
set_option maxHeartbeats 4000000 in
set_option maxRecDepth 100000 in
theorem c_L_hour (l : Launch) (D : KD) (b : Nat) (σ : KS) {sh : List KSh} (O : Nat) (q i f : Nat → Nat) (hG : GS sh O) (hF : FI q i f) : Ct l D b yL_hour cL_hour 5 none (rM 1 29) 0 0 [rf b O, rf b (O + 1), rf b (O + 2)] sh (wG σ O q i f) sh (pE none (wG σ O (uN q 1 (q 1 + 1)) (fH2 q i 11) (fH1 q i f (q 2)))) := by
  rw [show wG σ O q i f = wG σ O q i (fH1 q i f 0) from rfl]
  refine Ct.of (ls := [(0, rf b O), (1, rf b (O + 1)), (2, rf b (O + 2))]) (by decide) (Nat.le_of_ble_eq_true rfl) rfl ?_
  intro pg e s m args below meth c Q hQ X hnm
  refine K_iconst X dL_hour_0 cii_0 ?_
  refine K_istore_n X (ls' := [(3, _), (0, _), (1, _), (2, _)]) dL_hour_1 rfl (by decide) rfl ?_
  have loop : ∀ t : Nat, t ≤ q 2 → K pg l e (rM 1 29) s m args below meth c Q D b 5 0 0 sh (wG σ O q i (fH1 q i f t)) 2 [(3, .int (nI t)), (0, rf b O), (1, rf b (O + 1)), (2, rf b (O + 2))] [] := by
    refine kup (fun t ht ih => ?_)
    have h16 := fi_2 hF
    have hFt := fH1_k hF t ht
    refine K_iload_n X 0 dL_hour_2 rfl rfl ?_
    refine K_aload_n X 1 dL_hour_3 rfl rfl ?_
    refine K_iconst X dL_hour_4 cii_2 ?_
    refine K_iald X _ hG.1 rfl (by omega) (by decide) (wG_q _) dL_hour_5 ?_
    refine K_icmpN_ge (tgt := 40) X dL_hour_6 (by decide) (by omega) (by omega) (fun c6 => ?_) (fun c6 => ?_)
    · have hFt2 := fH1_k hF (q 2) (Nat.le_refl _)
      refine K_iconst X dL_hour_40 cii_0 ?_
      refine K_istore_n X (ls' := [(3, _), (0, _), (1, _), (2, _)]) dL_hour_41 rfl (by decide) rfl ?_
      rw [show t = q 2 from by omega]
      rw [show wG σ O q i (fH1 q i f (q 2)) = wG σ O q (fH2 q i 0) (fH1 q i f (q 2)) from rfl]
      have loop2 : ∀ u : Nat, u ≤ 11 → K pg l e (rM 1 29) s m args below meth c Q D b 5 0 0 sh (wG σ O q (fH2 q i u) (fH1 q i f (q 2))) 42 [(3, .int (nI u)), (0, rf b O), (1, rf b (O + 1)), (2, rf b (O + 2))] [] := by
        refine kup (fun u hu ih => ?_)
        have hFu := fH2_k hFt2 u hu
        have h8 := fi_8 hF
        refine K_iload_n X 0 dL_hour_42 rfl rfl ?_
        refine K_bipush X dL_hour_43 cib_11 ?_
        refine K_icmpN_ge (tgt := 95) X dL_hour_45 (by decide) (by omega) (by omega) (fun c45 => ?_) (fun c45 => ?_)
        · have hu11 : u = 11 := by omega
          refine K_aload_n X 1 dL_hour_95 rfl rfl ?_
          refine K_iconst X dL_hour_96 cii_1 ?_
          refine K_dup2 X dL_hour_97 rfl rfl ?_
          refine K_iald X _ hG.1 rfl (by omega) (by decide) (wG_q _) dL_hour_98 ?_
          refine K_iconst X dL_hour_99 cii_1 ?_
          refine K_iaddN X dL_hour_100 ?_
          refine K_iast X _ hG.1 rfl (by omega) (by decide) dL_hour_101 ?_
          refine K_st wG_uq ?_
          exact K_vret X hQ dL_hour_102 (⟨rfl, by rw [hu11]⟩)
        · refine K_iload_n X 0 dL_hour_48 rfl rfl ?_
          refine K_iconst X dL_hour_49 cii_5 ?_
          refine K_icmpN_le (tgt := 62) X dL_hour_50 (by decide) (by omega) (by omega) (fun c50 => ?_) (fun c50 => ?_)
          · refine K_aload_n X 1 dL_hour_62 rfl rfl ?_
            refine K_bipush X dL_hour_63 cib_8 ?_
            refine K_iald X _ hG.1 rfl (by omega) (by decide) (wG_q _) dL_hour_65 ?_
            refine K_istore X (ls' := [(4, _), (3, _), (0, _), (1, _), (2, _)]) dL_hour_66 (by decide) rfl ?_
            have bi := fi_i hFu (show u < 11 from by omega)
            refine K_aload_n X 3 dL_hour_68 rfl rfl ?_
            refine K_iload_n X 1 dL_hour_69 rfl rfl ?_
            refine K_aload_n X 3 dL_hour_70 rfl rfl ?_
            refine K_iload_n X 1 dL_hour_71 rfl rfl ?_
            refine K_iald X _ hG.2.1 rfl (by omega) (by decide) (wG_i _) dL_hour_72 ?_
            refine K_iload X 0 dL_hour_73 rfl ?_
            refine K_icmpN_le (tgt := 87) X dL_hour_75 (by decide) (by omega) (by omega) (fun c75 => ?_) (fun c75 => ?_)
            · refine K_iconst X dL_hour_87 cii_0 ?_
              refine K_iast X _ hG.2.1 rfl (by omega) (by decide) dL_hour_88 ?_
              refine K_st wG_ui ?_
              refine K_iinc X 1 (ls' := [(3, _), (4, _), (0, _), (1, _), (2, _)]) dL_hour_89 rfl (inc_1 _) (by decide) rfl ?_
              refine K_goto (tgt := 42) X dL_hour_92 (by decide) ?_
              have hmt : fMt q u = q 8 := if_neg (by omega)
              rw [show uN (fH2 q i u) u (0) = fH2 q i (u + 1) from congrArg (uN (fH2 q i u) u) (by rw [hmt]; omega)]
              exact K_sub [0, 2, 3, 4] rfl (ih (by omega))
            · refine K_aload_n X 3 dL_hour_78 rfl rfl ?_
              refine K_iload_n X 1 dL_hour_79 rfl rfl ?_
              refine K_iald X _ hG.2.1 rfl (by omega) (by decide) (wG_i _) dL_hour_80 ?_
              refine K_iload X 0 dL_hour_81 rfl ?_
              refine K_isubN X dL_hour_83 (by omega) ?_
              refine K_goto (tgt := 88) X dL_hour_84 (by decide) ?_
              refine K_iast X _ hG.2.1 rfl (by omega) (by decide) dL_hour_88 ?_
              refine K_st wG_ui ?_
              refine K_iinc X 1 (ls' := [(3, _), (4, _), (0, _), (1, _), (2, _)]) dL_hour_89 rfl (inc_1 _) (by decide) rfl ?_
              refine K_goto (tgt := 42) X dL_hour_92 (by decide) ?_
              have hmt : fMt q u = q 8 := if_neg (by omega)
              rw [show uN (fH2 q i u) u (fH2 q i u u - q 8) = fH2 q i (u + 1) from congrArg (uN (fH2 q i u) u) (by rw [hmt])]
              exact K_sub [0, 2, 3, 4] rfl (ih (by omega))
          · refine K_iconst X dL_hour_53 cii_2 ?_
            refine K_aload_n X 1 dL_hour_54 rfl rfl ?_
            refine K_bipush X dL_hour_55 cib_8 ?_
            refine K_iald X _ hG.1 rfl (by omega) (by decide) (wG_q _) dL_hour_57 ?_
            refine K_imulN X dL_hour_58 ?_
            refine K_goto (tgt := 66) X dL_hour_59 (by decide) ?_
            refine K_istore X (ls' := [(4, _), (3, _), (0, _), (1, _), (2, _)]) dL_hour_66 (by decide) rfl ?_
            have bi := fi_i hFu (show u < 11 from by omega)
            refine K_aload_n X 3 dL_hour_68 rfl rfl ?_
            refine K_iload_n X 1 dL_hour_69 rfl rfl ?_
            refine K_aload_n X 3 dL_hour_70 rfl rfl ?_
            refine K_iload_n X 1 dL_hour_71 rfl rfl ?_
            refine K_iald X _ hG.2.1 rfl (by omega) (by decide) (wG_i _) dL_hour_72 ?_
            refine K_iload X 0 dL_hour_73 rfl ?_
            refine K_icmpN_le (tgt := 87) X dL_hour_75 (by decide) (by omega) (by omega) (fun c75 => ?_) (fun c75 => ?_)
            · refine K_iconst X dL_hour_87 cii_0 ?_
              refine K_iast X _ hG.2.1 rfl (by omega) (by decide) dL_hour_88 ?_
              refine K_st wG_ui ?_
              refine K_iinc X 1 (ls' := [(3, _), (4, _), (0, _), (1, _), (2, _)]) dL_hour_89 rfl (inc_1 _) (by decide) rfl ?_
              refine K_goto (tgt := 42) X dL_hour_92 (by decide) ?_
              have hmt : fMt q u = 2 * q 8 := if_pos (by omega)
              rw [show uN (fH2 q i u) u (0) = fH2 q i (u + 1) from congrArg (uN (fH2 q i u) u) (by rw [hmt]; omega)]
              exact K_sub [0, 2, 3, 4] rfl (ih (by omega))
            · refine K_aload_n X 3 dL_hour_78 rfl rfl ?_
              refine K_iload_n X 1 dL_hour_79 rfl rfl ?_
              refine K_iald X _ hG.2.1 rfl (by omega) (by decide) (wG_i _) dL_hour_80 ?_
              refine K_iload X 0 dL_hour_81 rfl ?_
              refine K_isubN X dL_hour_83 (by omega) ?_
              refine K_goto (tgt := 88) X dL_hour_84 (by decide) ?_
              refine K_iast X _ hG.2.1 rfl (by omega) (by decide) dL_hour_88 ?_
              refine K_st wG_ui ?_
              refine K_iinc X 1 (ls' := [(3, _), (4, _), (0, _), (1, _), (2, _)]) dL_hour_89 rfl (inc_1 _) (by decide) rfl ?_
              refine K_goto (tgt := 42) X dL_hour_92 (by decide) ?_
              have hmt : fMt q u = 2 * q 8 := if_pos (by omega)
              rw [show uN (fH2 q i u) u (fH2 q i u u - 2 * q 8) = fH2 q i (u + 1) from congrArg (uN (fH2 q i u) u) (by rw [hmt])]
              exact K_sub [0, 2, 3, 4] rfl (ih (by omega))
      exact K_sub [0, 1, 2, 3] rfl (loop2 0 (Nat.zero_le _))
    · have hk : t < q 2 := by omega
      have b1 := fi_l1 hFt hk
      refine K_aload_n X 3 dL_hour_9 rfl rfl ?_
      refine K_iconst X dL_hour_10 cii_4 ?_
      refine K_iload_n X 0 dL_hour_11 rfl rfl ?_
      refine K_imulN X dL_hour_12 ?_
      refine K_iconst X dL_hour_13 cii_1 ?_
      refine K_iaddN X dL_hour_14 ?_
      refine K_iald X _ hG.2.2 rfl (by omega) (by decide) (wG_f _) dL_hour_15 ?_
      refine K_ifN_le (tgt := 34) X dL_hour_16 (by decide) (by omega) (fun c16 => ?_) (fun c16 => ?_)
      · refine K_iinc X 0 (ls' := [(3, _), (0, _), (1, _), (2, _)]) dL_hour_34 rfl (inc_1 _) (by decide) rfl ?_
        refine K_goto (tgt := 2) X dL_hour_37 (by decide) ?_
        rw [show fH1 q i f t = fH1 q i f (t + 1) from (if_neg (show ¬ 0 < fH1 q i f t (4 * t + 1) from by omega)).symm]
        exact K_sub [0, 1, 2, 3] rfl (ih (by omega))
      · refine K_aload_n X 3 dL_hour_19 rfl rfl ?_
        refine K_iconst X dL_hour_20 cii_4 ?_
        refine K_iload_n X 0 dL_hour_21 rfl rfl ?_
        refine K_imulN X dL_hour_22 ?_
        refine K_iconst X dL_hour_23 cii_2 ?_
        refine K_iaddN X dL_hour_24 ?_
        refine K_iload_n X 0 dL_hour_25 rfl rfl ?_
        refine K_iconst X dL_hour_26 cii_1 ?_
        refine K_aload_n X 1 dL_hour_27 rfl rfl ?_
        refine K_aload_n X 2 dL_hour_28 rfl rfl ?_
        refine K_aload_n X 3 dL_hour_29 rfl rfl ?_
        refine K_callSE X (c_L_fresh l D b _ _ _ _ _ _ _ hG hFt hk (by omega)) my_L_fresh wt_L_fresh wm_L_10 ⟨rfl, rfl, Nat.le_of_ble_eq_true rfl, Nat.le_of_ble_eq_true rfl, Nat.le_of_ble_eq_true rfl, Nat.le_of_ble_eq_true rfl⟩ rfl rfl (Nat.le_of_ble_eq_true rfl) dL_hour_30 ?_
        refine K_iast X _ hG.2.2 rfl (by omega) (by decide) dL_hour_33 ?_
        refine K_st wG_uf ?_
        refine K_iinc X 0 (ls' := [(3, _), (0, _), (1, _), (2, _)]) dL_hour_34 rfl (inc_1 _) (by decide) rfl ?_
        refine K_goto (tgt := 2) X dL_hour_37 (by decide) ?_
        rw [show uN (fH1 q i f t) (4 * t + 2) (fFr q i (fH1 q i f t) t 1) = fH1 q i f (t + 1) from (if_pos (show 0 < fH1 q i f t (4 * t + 1) from by omega)).symm]
        exact K_sub [0, 1, 2, 3] rfl (ih (by omega))
  exact K_sub [0, 1, 2, 3] rfl (loop 0 (Nat.zero_le _))

set_option maxHeartbeats 4000000 in
set_option maxRecDepth 100000 in
theorem c_L_close (l : Launch) (D : KD) (b : Nat) (σ : KS) {sh : List KSh} (O : Nat) (q i f : Nat → Nat) (hG : GS sh O) (hF : FI q i f) : Ct l D b yL_close cL_close 8 (some .int) (rM 1 24) 0 0 [rf b O, rf b (O + 1), rf b (O + 2)] sh (wG σ O q i f) sh (pE (some (.int (nI (fC3 q i f 5).2.1))) (wG σ O (uN (uN (uN q 5 (q 5 + (fC3 q i f 5).2.1)) 0 (q 0 + 1)) 1 0) (fC3 q i f 5).1 (fC3 q i f 5).2.2)) := by
  rw [show wG σ O q i f = wG σ O q i (fC1 q f 0).2 from rfl]
  refine Ct.of (ls := [(0, rf b O), (1, rf b (O + 1)), (2, rf b (O + 2))]) (by decide) (Nat.le_of_ble_eq_true rfl) rfl ?_
  intro pg e s m args below meth c Q hQ X hnm
  refine K_iconst X dL_close_0 cii_0 ?_
  refine K_istore_n X (ls' := [(3, _), (0, _), (1, _), (2, _)]) dL_close_1 rfl (by decide) rfl ?_
  refine K_iconst X dL_close_2 cii_0 ?_
  refine K_istore X (ls' := [(4, _), (3, _), (0, _), (1, _), (2, _)]) dL_close_3 (by decide) rfl ?_
  have loop : ∀ t : Nat, t ≤ q 2 → K pg l e (rM 1 24) s m args below meth c Q D b 8 0 0 sh (wG σ O q i (fC1 q f t).2) 5 [(3, .int (nI (fC1 q f t).1)), (4, .int (nI t)), (0, rf b O), (1, rf b (O + 1)), (2, rf b (O + 2))] [] := by
    refine kup (fun t ht ih => ?_)
    have h16 := fi_2 hF
    have hFt := (fC1_k hF t ht).1
    refine K_iload X 1 dL_close_5 rfl ?_
    refine K_aload_n X 2 dL_close_7 rfl rfl ?_
    refine K_iconst X dL_close_8 cii_2 ?_
    refine K_iald X _ hG.1 rfl (by omega) (by decide) (wG_q _) dL_close_9 ?_
    refine K_icmpN_ge (tgt := 68) X dL_close_10 (by decide) (by omega) (by omega) (fun c10 => ?_) (fun c10 => ?_)
    · refine K_bipush X dL_close_68 cib_6 ?_
      refine K_istore X (ls' := [(4, _), (3, _), (0, _), (1, _), (2, _)]) dL_close_70 (by decide) rfl ?_
      rw [show t = q 2 from by omega]
      rw [show fC1 q f (q 2) = (fC3 q i f 0).2 from rfl, show wG σ O q i (fC3 q i f 0).2.2 = wG σ O q (fC3 q i f 0).1 (fC3 q i f 0).2.2 from rfl]
      rw [show nI 6 = nI (6 + 0) from rfl]
      have loop2 : ∀ u : Nat, u ≤ 5 → K pg l e (rM 1 24) s m args below meth c Q D b 8 0 0 sh (wG σ O q (fC3 q i f u).1 (fC3 q i f u).2.2) 72 [(3, .int (nI (fC3 q i f u).2.1)), (4, .int (nI (6 + u))), (0, rf b O), (1, rf b (O + 1)), (2, rf b (O + 2))] [] := by
        refine kup (fun u hu ihu => ?_)
        obtain ⟨hFu, hgu⟩ := fC3_k hF u hu
        refine K_iload X 1 dL_close_72 rfl ?_
        refine K_bipush X dL_close_74 cib_11 ?_
        refine K_icmpN_ge (tgt := 221) X dL_close_76 (by decide) (by omega) (by omega) (fun c76 => ?_) (fun c76 => ?_)
        · have hu5 : u = 5 := by omega
          refine K_aload_n X 2 dL_close_221 rfl rfl ?_
          refine K_iconst X dL_close_222 cii_5 ?_
          refine K_dup2 X dL_close_223 rfl rfl ?_
          refine K_iald X _ hG.1 rfl (by omega) (by decide) (wG_q _) dL_close_224 ?_
          refine K_iload_n X 0 dL_close_225 rfl rfl ?_
          refine K_iaddN X dL_close_226 ?_
          refine K_iast X _ hG.1 rfl (by omega) (by decide) dL_close_227 ?_
          refine K_st wG_uq ?_
          refine K_aload_n X 2 dL_close_228 rfl rfl ?_
          refine K_iconst X dL_close_229 cii_0 ?_
          refine K_dup2 X dL_close_230 rfl rfl ?_
          refine K_iald X _ hG.1 rfl (by omega) (by decide) (wG_q _) dL_close_231 ?_
          refine K_iconst X dL_close_232 cii_1 ?_
          refine K_iaddN X dL_close_233 ?_
          refine K_iast X _ hG.1 rfl (by omega) (by decide) dL_close_234 ?_
          refine K_st wG_uq ?_
          refine K_aload_n X 2 dL_close_235 rfl rfl ?_
          refine K_iconst X dL_close_236 cii_1 ?_
          refine K_iconst X dL_close_237 cii_0 ?_
          refine K_iast X _ hG.1 rfl (by omega) (by decide) dL_close_238 ?_
          refine K_st wG_uq ?_
          refine K_iload_n X 0 dL_close_239 rfl rfl ?_
          exact K_iret X hQ dL_close_240 (⟨by rw [hu5], by rw [hu5]; rfl⟩)
        · have hF0 : FI q (uN (fC3 q i f u).1 (6 + u) 0) (fC3 q i f u).2.2 := hFu.ui (by omega)
          refine K_aload_n X 3 dL_close_79 rfl rfl ?_
          refine K_iload X 1 dL_close_80 rfl ?_
          refine K_iconst X dL_close_82 cii_0 ?_
          refine K_iast X _ hG.2.1 rfl (by omega) (by decide) dL_close_83 ?_
          refine K_st wG_ui ?_
          refine K_iconst X dL_close_84 cii_0 ?_
          refine K_istore X (ls' := [(5, _), (3, _), (4, _), (0, _), (1, _), (2, _)]) dL_close_85 (by decide) rfl ?_
          refine K_st (show wG σ O q (uN (fC3 q i f u).1 (6 + u) 0) (fC3 q i f u).2.2 = wG σ O q (uN (fC3 q i f u).1 (6 + u) 0) (fC2 q (uN (fC3 q i f u).1 (6 + u) 0) (6 + u) (fC3 q i f u).2.1 (fC3 q i f u).2.2 0).2 from rfl) ?_
          have loop3 : ∀ k : Nat, k ≤ q 2 → K pg l e (rM 1 24) s m args below meth c Q D b 8 0 0 sh (wG σ O q (uN (fC3 q i f u).1 (6 + u) 0) (fC2 q (uN (fC3 q i f u).1 (6 + u) 0) (6 + u) (fC3 q i f u).2.1 (fC3 q i f u).2.2 k).2) 87 [(3, .int (nI (fC2 q (uN (fC3 q i f u).1 (6 + u) 0) (6 + u) (fC3 q i f u).2.1 (fC3 q i f u).2.2 k).1)), (5, .int (nI k)), (4, .int (nI (6 + u))), (0, rf b O), (1, rf b (O + 1)), (2, rf b (O + 2))] [] := by
            refine kup (fun k hk ihk => ?_)
            have h16 := fi_2 hF
            obtain ⟨hFk, hgk⟩ := fC2_k (tr := 6 + u) (g := (fC3 q i f u).2.1) hF0 k hk
            refine K_iload X 1 dL_close_87 rfl ?_
            refine K_aload_n X 3 dL_close_89 rfl rfl ?_
            refine K_iconst X dL_close_90 cii_2 ?_
            refine K_iald X _ hG.1 rfl (by omega) (by decide) (wG_q _) dL_close_91 ?_
            refine K_icmpN_ge (tgt := 215) X dL_close_92 (by decide) (by omega) (by omega) (fun c92 => ?_) (fun c92 => ?_)
            · refine K_iinc X 2 (ls' := [(4, _), (3, _), (5, _), (0, _), (1, _), (2, _)]) dL_close_215 rfl (inc_1 _) (by decide) rfl ?_
              refine K_goto (tgt := 72) X dL_close_218 (by decide) ?_
              rw [show k = q 2 from by omega, show (fC2 q (uN (fC3 q i f u).1 (6 + u) 0) (6 + u) (fC3 q i f u).2.1 (fC3 q i f u).2.2 (q 2)) = (fC3 q i f (u + 1)).2 from rfl, show uN (fC3 q i f u).1 (6 + u) 0 = (fC3 q i f (u + 1)).1 from rfl, show 6 + u + 1 = 6 + (u + 1) from rfl]
              exact K_sub [1, 0, 3, 4, 5] rfl (ihu (by omega))
            · have hkq : k < q 2 := by omega
              have b1 := fi_l1 hFk hkq
              have b3 := fi_l3 hFk hkq
              refine K_aload_n X 5 dL_close_95 rfl rfl ?_
              refine K_iconst X dL_close_96 cii_4 ?_
              refine K_iload X 1 dL_close_97 rfl ?_
              refine K_imulN X dL_close_99 ?_
              refine K_iconst X dL_close_100 cii_1 ?_
              refine K_iaddN X dL_close_101 ?_
              refine K_iald X _ hG.2.2 rfl (by omega) (by decide) (wG_f _) dL_close_102 ?_
              refine K_ifN_eq (tgt := 209) X dL_close_103 (by decide) (by omega) (fun c103 => ?_) (fun c103 => ?_)
              · refine K_iinc X 1 (ls' := [(5, _), (3, _), (4, _), (0, _), (1, _), (2, _)]) dL_close_209 rfl (inc_1 _) (by decide) rfl ?_
                refine K_goto (tgt := 87) X dL_close_212 (by decide) ?_
                rw [show (fC2 q (uN (fC3 q i f u).1 (6 + u) 0) (6 + u) (fC3 q i f u).2.1 (fC3 q i f u).2.2 k) = (fC2 q (uN (fC3 q i f u).1 (6 + u) 0) (6 + u) (fC3 q i f u).2.1 (fC3 q i f u).2.2 (k + 1)) from (if_pos (Or.inl (by omega))).symm]
                exact K_sub [1, 0, 2, 3, 4, 5] rfl (ihk (by omega))
              · refine K_aload_n X 5 dL_close_106 rfl rfl ?_
                refine K_iconst X dL_close_107 cii_4 ?_
                refine K_iload X 1 dL_close_108 rfl ?_
                refine K_imulN X dL_close_110 ?_
                refine K_iconst X dL_close_111 cii_3 ?_
                refine K_iaddN X dL_close_112 ?_
                refine K_iald X _ hG.2.2 rfl (by omega) (by decide) (wG_f _) dL_close_113 ?_
                refine K_iload X 2 dL_close_114 rfl ?_
                refine K_icmpN_eq (tgt := 122) X dL_close_116 (by decide) (by omega) (by omega) (fun c116 => ?_) (fun c116 => ?_)
                · refine K_bipush X dL_close_122 cib_m6 ?_
                  refine K_istore X (ls' := [(6, _), (3, _), (5, _), (4, _), (0, _), (1, _), (2, _)]) dL_close_124 (by decide) rfl ?_
                  refine K_iconst X dL_close_126 cii_5 ?_
                  refine K_istore X (ls' := [(7, _), (6, _), (3, _), (5, _), (4, _), (0, _), (1, _), (2, _)]) dL_close_127 (by decide) rfl ?_
                  have hnn : ¬ ((fC2 q (uN (fC3 q i f u).1 (6 + u) 0) (6 + u) (fC3 q i f u).2.1 (fC3 q i f u).2.2 k).2 (4 * k + 1) = 0 ∨ (fC2 q (uN (fC3 q i f u).1 (6 + u) 0) (6 + u) (fC3 q i f u).2.1 (fC3 q i f u).2.2 k).2 (4 * k + 3) ≠ 6 + u) := by omega
                  have night : ∀ x : Nat, x ≤ 6 → ∀ o : Option Nat, (∀ z, o = some z → z < 6) → (fNt q (uN (fC3 q i f u).1 (6 + u) 0) (fC2 q (uN (fC3 q i f u).1 (6 + u) 0) (6 + u) (fC3 q i f u).2.1 (fC3 q i f u).2.2 k).2 x o) = (fNt q (uN (fC3 q i f u).1 (6 + u) 0) (fC2 q (uN (fC3 q i f u).1 (6 + u) 0) (6 + u) (fC3 q i f u).2.1 (fC3 q i f u).2.2 k).2 6 none) → K pg l e (rM 1 24) s m args below meth c Q D b 8 0 0 sh (wG σ O q (uN (fC3 q i f u).1 (6 + u) 0) (fC2 q (uN (fC3 q i f u).1 (6 + u) 0) (6 + u) (fC3 q i f u).2.1 (fC3 q i f u).2.2 k).2) 129 [(6, .int (qO o)), (7, .int (qM x)), (3, .int (nI (fC2 q (uN (fC3 q i f u).1 (6 + u) 0) (6 + u) (fC3 q i f u).2.1 (fC3 q i f u).2.2 k).1)), (5, .int (nI k)), (4, .int (nI (6 + u))), (0, rf b O), (1, rf b (O + 1)), (2, rf b (O + 2))] [] := by
                    intro x
                    induction x with
                    | zero =>
                      intro hx o ho hnt
                      refine K_iload X 1 dL_close_129 rfl ?_
                      refine K_if_lt (tgt := 171) X dL_close_131 (by decide) (fun c131 => ?_) (fun c131 => ?_)
                      · have hnt : o = (fNt q (uN (fC3 q i f u).1 (6 + u) 0) (fC2 q (uN (fC3 q i f u).1 (6 + u) 0) (6 + u) (fC3 q i f u).2.1 (fC3 q i f u).2.2 k).2 6 none) := hnt
                        cases ho2 : o with
                        | none =>
                          have hto : (fNt q (uN (fC3 q i f u).1 (6 + u) 0) (fC2 q (uN (fC3 q i f u).1 (6 + u) 0) (6 + u) (fC3 q i f u).2.1 (fC3 q i f u).2.2 k).2 6 none) = none := hnt.symm.trans ho2
                          refine K_iload X 0 dL_close_171 rfl ?_
                          refine K_if_ge (tgt := 199) X dL_close_173 (by decide) (fun c173 => ?_) (fun c173 => ?_)
                          · exact absurd c173 (by decide)
                          · refine K_iload_n X 2 dL_close_176 rfl rfl ?_
                            refine K_aload_n X 7 dL_close_177 rfl rfl ?_
                            refine K_iconst X dL_close_178 cii_4 ?_
                            refine K_iload X 3 dL_close_179 rfl ?_
                            refine K_imulN X dL_close_181 ?_
                            refine K_iconst X dL_close_182 cii_1 ?_
                            refine K_iaddN X dL_close_183 ?_
                            refine K_iald X _ hG.2.2 rfl (by omega) (by decide) (wG_f _) dL_close_184 ?_
                            refine K_iaddN X dL_close_185 ?_
                            refine K_istore_n X (ls' := [(3, _), (6, _), (7, _), (5, _), (4, _), (0, _), (1, _), (2, _)]) dL_close_186 rfl (by decide) rfl ?_
                            refine K_aload_n X 7 dL_close_187 rfl rfl ?_
                            refine K_iconst X dL_close_188 cii_4 ?_
                            refine K_iload X 3 dL_close_189 rfl ?_
                            refine K_imulN X dL_close_191 ?_
                            refine K_iconst X dL_close_192 cii_1 ?_
                            refine K_iaddN X dL_close_193 ?_
                            refine K_iconst X dL_close_194 cii_0 ?_
                            refine K_iast X _ hG.2.2 rfl (by omega) (by decide) dL_close_195 ?_
                            refine K_st wG_uf ?_
                            refine K_goto (tgt := 209) X dL_close_196 (by decide) ?_
                            refine K_iinc X 3 (ls' := [(5, _), (3, _), (6, _), (7, _), (4, _), (0, _), (1, _), (2, _)]) dL_close_209 rfl (inc_1 _) (by decide) rfl ?_
                            refine K_goto (tgt := 87) X dL_close_212 (by decide) ?_
                            have hz : (fC2 q (uN (fC3 q i f u).1 (6 + u) 0) (6 + u) (fC3 q i f u).2.1 (fC3 q i f u).2.2 (k + 1)) = ((fC2 q (uN (fC3 q i f u).1 (6 + u) 0) (6 + u) (fC3 q i f u).2.1 (fC3 q i f u).2.2 k).1 + (fC2 q (uN (fC3 q i f u).1 (6 + u) 0) (6 + u) (fC3 q i f u).2.1 (fC3 q i f u).2.2 k).2 (4 * k + 1), uN (fC2 q (uN (fC3 q i f u).1 (6 + u) 0) (6 + u) (fC3 q i f u).2.1 (fC3 q i f u).2.2 k).2 (4 * k + 1) 0) := by
                              show (if _ then _ else _) = _
                              rw [if_neg hnn, hto]
                            rw [show uN (fC2 q (uN (fC3 q i f u).1 (6 + u) 0) (6 + u) (fC3 q i f u).2.1 (fC3 q i f u).2.2 k).2 (4 * k + 1) 0 = (fC2 q (uN (fC3 q i f u).1 (6 + u) 0) (6 + u) (fC3 q i f u).2.1 (fC3 q i f u).2.2 (k + 1)).2 from (congrArg Prod.snd hz).symm, show (fC2 q (uN (fC3 q i f u).1 (6 + u) 0) (6 + u) (fC3 q i f u).2.1 (fC3 q i f u).2.2 k).1 + (fC2 q (uN (fC3 q i f u).1 (6 + u) 0) (6 + u) (fC3 q i f u).2.1 (fC3 q i f u).2.2 k).2 (4 * k + 1) = (fC2 q (uN (fC3 q i f u).1 (6 + u) 0) (6 + u) (fC3 q i f u).2.1 (fC3 q i f u).2.2 (k + 1)).1 from (congrArg Prod.fst hz).symm]
                            exact K_sub [1, 0, 4, 5, 6, 7] rfl (ihk (by omega))
                        | some x =>
                          have hto : (fNt q (uN (fC3 q i f u).1 (6 + u) 0) (fC2 q (uN (fC3 q i f u).1 (6 + u) 0) (6 + u) (fC3 q i f u).2.1 (fC3 q i f u).2.2 k).2 6 none) = some x := hnt.symm.trans ho2
                          have hx6 := ho x ho2
                          refine K_iload X 0 dL_close_171 rfl ?_
                          refine K_if_ge (tgt := 199) X dL_close_173 (by decide) (fun c173 => ?_) (fun c173 => ?_)
                          · refine K_aload_n X 7 dL_close_199 rfl rfl ?_
                            refine K_iconst X dL_close_200 cii_4 ?_
                            refine K_iload X 3 dL_close_201 rfl ?_
                            refine K_imulN X dL_close_203 ?_
                            refine K_iconst X dL_close_204 cii_3 ?_
                            refine K_iaddN X dL_close_205 ?_
                            refine K_iload X 0 dL_close_206 rfl ?_
                            refine K_iast X _ hG.2.2 rfl (by omega) (by decide) dL_close_208 ?_
                            refine K_st wG_uf ?_
                            refine K_iinc X 3 (ls' := [(5, _), (6, _), (7, _), (3, _), (4, _), (0, _), (1, _), (2, _)]) dL_close_209 rfl (inc_1 _) (by decide) rfl ?_
                            refine K_goto (tgt := 87) X dL_close_212 (by decide) ?_
                            have hz : (fC2 q (uN (fC3 q i f u).1 (6 + u) 0) (6 + u) (fC3 q i f u).2.1 (fC3 q i f u).2.2 (k + 1)) = ((fC2 q (uN (fC3 q i f u).1 (6 + u) 0) (6 + u) (fC3 q i f u).2.1 (fC3 q i f u).2.2 k).1, uN (fC2 q (uN (fC3 q i f u).1 (6 + u) 0) (6 + u) (fC3 q i f u).2.1 (fC3 q i f u).2.2 k).2 (4 * k + 3) x) := by
                              show (if _ then _ else _) = _
                              rw [if_neg hnn, hto]
                            rw [show uN (fC2 q (uN (fC3 q i f u).1 (6 + u) 0) (6 + u) (fC3 q i f u).2.1 (fC3 q i f u).2.2 k).2 (4 * k + 3) x = (fC2 q (uN (fC3 q i f u).1 (6 + u) 0) (6 + u) (fC3 q i f u).2.1 (fC3 q i f u).2.2 (k + 1)).2 from (congrArg Prod.snd hz).symm, show (fC2 q (uN (fC3 q i f u).1 (6 + u) 0) (6 + u) (fC3 q i f u).2.1 (fC3 q i f u).2.2 k).1 = (fC2 q (uN (fC3 q i f u).1 (6 + u) 0) (6 + u) (fC3 q i f u).2.1 (fC3 q i f u).2.2 (k + 1)).1 from (congrArg Prod.fst hz).symm]
                            exact K_sub [3, 0, 4, 5, 6, 7] rfl (ihk (by omega))
                          · exact absurd (nI_pos' (by omega)) c173
                      · exact absurd (show (-1 : Int32) < 0 from by decide) c131
                    | succ x ih =>
                      intro hx o ho hnt
                      have hstep : (fNt q (uN (fC3 q i f u).1 (6 + u) 0) (fC2 q (uN (fC3 q i f u).1 (6 + u) 0) (6 + u) (fC3 q i f u).2.1 (fC3 q i f u).2.2 k).2 x (if fAt (fC2 q (uN (fC3 q i f u).1 (6 + u) 0) (6 + u) (fC3 q i f u).2.1 (fC3 q i f u).2.2 k).2 x (q 2) < 3 ∧ (∀ z, o = some z → (uN (fC3 q i f u).1 (6 + u) 0) z ≤ (uN (fC3 q i f u).1 (6 + u) 0) x) then some x else o)) = (fNt q (uN (fC3 q i f u).1 (6 + u) 0) (fC2 q (uN (fC3 q i f u).1 (6 + u) 0) (6 + u) (fC3 q i f u).2.1 (fC3 q i f u).2.2 k).2 6 none) := hnt
                      refine K_iload X 1 dL_close_129 rfl ?_
                      refine K_ifN_lt (tgt := 171) X dL_close_131 (by decide) (by omega) ?_
                      have hfa := fAt_le (fC2 q (uN (fC3 q i f u).1 (6 + u) 0) (6 + u) (fC3 q i f u).2.1 (fC3 q i f u).2.2 k).2 x (q 2)
                      refine K_iload X 1 dL_close_134 rfl ?_
                      refine K_aload_n X 5 dL_close_136 rfl rfl ?_
                      refine K_aload_n X 7 dL_close_137 rfl rfl ?_
                      refine K_callSE X (c_L_at l D b _ _ _ _ _ _ hG hFk (by omega)) my_L_at wt_L_at wm_L_16 ⟨rfl, rfl, Nat.le_of_ble_eq_true rfl, Nat.le_of_ble_eq_true rfl, Nat.le_of_ble_eq_true rfl, Nat.le_of_ble_eq_true rfl⟩ rfl rfl (Nat.le_of_ble_eq_true rfl) dL_close_138 ?_
                      refine K_iconst X dL_close_141 cii_3 ?_
                      refine K_icmpN_ge (tgt := 165) X dL_close_142 (by decide) (by omega) (by omega) (fun c142 => ?_) (fun c142 => ?_)
                      · refine K_iinc X 1 (ls' := [(7, _), (6, _), (3, _), (5, _), (4, _), (0, _), (1, _), (2, _)]) dL_close_165 rfl (inc_mq _) (by decide) rfl ?_
                        refine K_goto (tgt := 129) X dL_close_168 (by decide) ?_
                        have hst2 : (fNt q (uN (fC3 q i f u).1 (6 + u) 0) (fC2 q (uN (fC3 q i f u).1 (6 + u) 0) (6 + u) (fC3 q i f u).2.1 (fC3 q i f u).2.2 k).2 x o) = (fNt q (uN (fC3 q i f u).1 (6 + u) 0) (fC2 q (uN (fC3 q i f u).1 (6 + u) 0) (6 + u) (fC3 q i f u).2.1 (fC3 q i f u).2.2 k).2 6 none) := by rw [← hstep, if_neg (fun z => by have := z.1; omega)]
                        exact K_sub [1, 0, 2, 3, 4, 5, 6, 7] rfl (ih (by omega) o ho hst2)
                      · refine K_iload X 0 dL_close_145 rfl ?_
                        refine K_if_lt (tgt := 161) X dL_close_147 (by decide) (fun c147 => ?_) (fun c147 => ?_)
                        · refine K_iload X 1 dL_close_161 rfl ?_
                          refine K_istore X (ls' := [(6, _), (7, _), (3, _), (5, _), (4, _), (0, _), (1, _), (2, _)]) dL_close_163 (by decide) rfl ?_
                          refine K_iinc X 1 (ls' := [(7, _), (6, _), (3, _), (5, _), (4, _), (0, _), (1, _), (2, _)]) dL_close_165 rfl (inc_mq _) (by decide) rfl ?_
                          refine K_goto (tgt := 129) X dL_close_168 (by decide) ?_
                          have hst2 : (fNt q (uN (fC3 q i f u).1 (6 + u) 0) (fC2 q (uN (fC3 q i f u).1 (6 + u) 0) (6 + u) (fC3 q i f u).2.1 (fC3 q i f u).2.2 k).2 x (some x)) = (fNt q (uN (fC3 q i f u).1 (6 + u) 0) (fC2 q (uN (fC3 q i f u).1 (6 + u) 0) (6 + u) (fC3 q i f u).2.1 (fC3 q i f u).2.2 k).2 6 none) := by rw [← hstep, if_pos ⟨by omega, fun z hz => by rw [hz] at c147; exact absurd c147 (nI_pos (by have := ho z hz; omega))⟩]
                          exact K_sub [1, 0, 2, 3, 4, 5, 6, 7] rfl (ih (by omega) (some x) (fun z hz => by cases hz; omega) hst2)
                        · obtain ⟨y, hy⟩ : ∃ y, o = some y := by
                            cases o with
                            | none => exact absurd (show (-6 : Int32) < 0 from by decide) c147
                            | some y => exact ⟨y, rfl⟩
                          have hy6 := ho y hy
                          have by1 := fi_i hFk (show x < 11 from by omega)
                          have by2 := fi_i hFk (show y < 11 from by omega)
                          have hqo : qO o = nI y := by rw [hy]; rfl
                          refine K_aload_n X 6 dL_close_150 rfl rfl ?_
                          refine K_iload X 1 dL_close_151 rfl ?_
                          refine K_iald X _ hG.2.1 rfl (by omega) (by decide) (wG_i _) dL_close_153 ?_
                          refine K_aload_n X 6 dL_close_154 rfl rfl ?_
                          refine K_iload X 0 dL_close_155 rfl ?_
                          refine K_iald X _ hG.2.1 hqo (by omega) (by decide) (wG_i _) dL_close_157 ?_
                          refine K_icmpN_lt (tgt := 165) X dL_close_158 (by decide) (by omega) (by omega) (fun c158 => ?_) (fun c158 => ?_)
                          · refine K_iinc X 1 (ls' := [(7, _), (6, _), (3, _), (5, _), (4, _), (0, _), (1, _), (2, _)]) dL_close_165 rfl (inc_mq _) (by decide) rfl ?_
                            refine K_goto (tgt := 129) X dL_close_168 (by decide) ?_
                            have hst2 : (fNt q (uN (fC3 q i f u).1 (6 + u) 0) (fC2 q (uN (fC3 q i f u).1 (6 + u) 0) (6 + u) (fC3 q i f u).2.1 (fC3 q i f u).2.2 k).2 x o) = (fNt q (uN (fC3 q i f u).1 (6 + u) 0) (fC2 q (uN (fC3 q i f u).1 (6 + u) 0) (6 + u) (fC3 q i f u).2.1 (fC3 q i f u).2.2 k).2 6 none) := by rw [← hstep, if_neg (fun z => by have := z.2 y hy; omega)]
                            exact K_sub [1, 0, 2, 3, 4, 5, 6, 7] rfl (ih (by omega) o ho hst2)
                          · refine K_iload X 1 dL_close_161 rfl ?_
                            refine K_istore X (ls' := [(6, _), (7, _), (3, _), (5, _), (4, _), (0, _), (1, _), (2, _)]) dL_close_163 (by decide) rfl ?_
                            refine K_iinc X 1 (ls' := [(7, _), (6, _), (3, _), (5, _), (4, _), (0, _), (1, _), (2, _)]) dL_close_165 rfl (inc_mq _) (by decide) rfl ?_
                            refine K_goto (tgt := 129) X dL_close_168 (by decide) ?_
                            have hst2 : (fNt q (uN (fC3 q i f u).1 (6 + u) 0) (fC2 q (uN (fC3 q i f u).1 (6 + u) 0) (6 + u) (fC3 q i f u).2.1 (fC3 q i f u).2.2 k).2 x (some x)) = (fNt q (uN (fC3 q i f u).1 (6 + u) 0) (fC2 q (uN (fC3 q i f u).1 (6 + u) 0) (6 + u) (fC3 q i f u).2.1 (fC3 q i f u).2.2 k).2 6 none) := by rw [← hstep, if_pos ⟨by omega, fun z hz => by rw [hy] at hz; cases hz; omega⟩]
                            exact K_sub [1, 0, 2, 3, 4, 5, 6, 7] rfl (ih (by omega) (some x) (fun z hz => by cases hz; omega) hst2)
                  exact K_sub [1, 0, 2, 3, 4, 5, 6, 7] rfl (night 6 (Nat.le_refl _) none (fun z hz => by cases hz) rfl)
                · refine K_goto (tgt := 209) X dL_close_119 (by decide) ?_
                  refine K_iinc X 1 (ls' := [(5, _), (3, _), (4, _), (0, _), (1, _), (2, _)]) dL_close_209 rfl (inc_1 _) (by decide) rfl ?_
                  refine K_goto (tgt := 87) X dL_close_212 (by decide) ?_
                  rw [show (fC2 q (uN (fC3 q i f u).1 (6 + u) 0) (6 + u) (fC3 q i f u).2.1 (fC3 q i f u).2.2 k) = (fC2 q (uN (fC3 q i f u).1 (6 + u) 0) (6 + u) (fC3 q i f u).2.1 (fC3 q i f u).2.2 (k + 1)) from (if_pos (Or.inr c116)).symm]
                  exact K_sub [1, 0, 2, 3, 4, 5] rfl (ihk (by omega))
          exact K_sub [1, 0, 2, 3, 4, 5] rfl (loop3 0 (Nat.zero_le _))
      exact K_sub [1, 0, 2, 3, 4] rfl (loop2 0 (Nat.zero_le _))
    · have hk : t < q 2 := by omega
      have b1 := fi_l1 hFt hk
      have b2 := fi_l2 hFt hk
      have b9 := fi_9 hFt
      refine K_aload_n X 4 dL_close_13 rfl rfl ?_
      refine K_iconst X dL_close_14 cii_4 ?_
      refine K_iload X 1 dL_close_15 rfl ?_
      refine K_imulN X dL_close_17 ?_
      refine K_iconst X dL_close_18 cii_1 ?_
      refine K_iaddN X dL_close_19 ?_
      refine K_iald X _ hG.2.2 rfl (by omega) (by decide) (wG_f _) dL_close_20 ?_
      refine K_ifN_eq (tgt := 62) X dL_close_21 (by decide) (by omega) (fun c21 => ?_) (fun c21 => ?_)
      · refine K_iinc X 1 (ls' := [(4, _), (3, _), (0, _), (1, _), (2, _)]) dL_close_62 rfl (inc_1 _) (by decide) rfl ?_
        refine K_goto (tgt := 5) X dL_close_65 (by decide) ?_
        rw [show fC1 q f t = fC1 q f (t + 1) from (if_pos (Or.inl (by omega))).symm]
        exact K_sub [1, 0, 2, 3, 4] rfl (ih (by omega))
      · refine K_aload_n X 4 dL_close_24 rfl rfl ?_
        refine K_iconst X dL_close_25 cii_4 ?_
        refine K_iload X 1 dL_close_26 rfl ?_
        refine K_imulN X dL_close_28 ?_
        refine K_iconst X dL_close_29 cii_2 ?_
        refine K_iaddN X dL_close_30 ?_
        refine K_iald X _ hG.2.2 rfl (by omega) (by decide) (wG_f _) dL_close_31 ?_
        refine K_aload_n X 2 dL_close_32 rfl rfl ?_
        refine K_bipush X dL_close_33 cib_9 ?_
        refine K_iald X _ hG.1 rfl (by omega) (by decide) (wG_q _) dL_close_35 ?_
        refine K_icmpN_lt (tgt := 42) X dL_close_36 (by decide) (by omega) (by omega) (fun c36 => ?_) (fun c36 => ?_)
        · refine K_iload_n X 0 dL_close_42 rfl rfl ?_
          refine K_aload_n X 4 dL_close_43 rfl rfl ?_
          refine K_iconst X dL_close_44 cii_4 ?_
          refine K_iload X 1 dL_close_45 rfl ?_
          refine K_imulN X dL_close_47 ?_
          refine K_iconst X dL_close_48 cii_1 ?_
          refine K_iaddN X dL_close_49 ?_
          refine K_iald X _ hG.2.2 rfl (by omega) (by decide) (wG_f _) dL_close_50 ?_
          refine K_iaddN X dL_close_51 ?_
          refine K_istore_n X (ls' := [(3, _), (4, _), (0, _), (1, _), (2, _)]) dL_close_52 rfl (by decide) rfl ?_
          refine K_aload_n X 4 dL_close_53 rfl rfl ?_
          refine K_iconst X dL_close_54 cii_4 ?_
          refine K_iload X 1 dL_close_55 rfl ?_
          refine K_imulN X dL_close_57 ?_
          refine K_iconst X dL_close_58 cii_1 ?_
          refine K_iaddN X dL_close_59 ?_
          refine K_iconst X dL_close_60 cii_0 ?_
          refine K_iast X _ hG.2.2 rfl (by omega) (by decide) dL_close_61 ?_
          refine K_st wG_uf ?_
          refine K_iinc X 1 (ls' := [(4, _), (3, _), (0, _), (1, _), (2, _)]) dL_close_62 rfl (inc_1 _) (by decide) rfl ?_
          refine K_goto (tgt := 5) X dL_close_65 (by decide) ?_
          have hz : fC1 q f (t + 1) = ((fC1 q f t).1 + (fC1 q f t).2 (4 * t + 1), uN (fC1 q f t).2 (4 * t + 1) 0) := if_neg (by omega)
          rw [show (fC1 q f t).1 + (fC1 q f t).2 (4 * t + 1) = (fC1 q f (t + 1)).1 from (congrArg Prod.fst hz).symm, show uN (fC1 q f t).2 (4 * t + 1) 0 = (fC1 q f (t + 1)).2 from (congrArg Prod.snd hz).symm]
          exact K_sub [1, 0, 2, 3, 4] rfl (ih (by omega))
        · refine K_goto (tgt := 62) X dL_close_39 (by decide) ?_
          refine K_iinc X 1 (ls' := [(4, _), (3, _), (0, _), (1, _), (2, _)]) dL_close_62 rfl (inc_1 _) (by decide) rfl ?_
          refine K_goto (tgt := 5) X dL_close_65 (by decide) ?_
          rw [show fC1 q f t = fC1 q f (t + 1) from (if_pos (Or.inr (by omega))).symm]
          exact K_sub [1, 0, 2, 3, 4] rfl (ih (by omega))
  exact K_sub [1, 0, 2, 3, 4] rfl (loop 0 (Nat.zero_le _))
