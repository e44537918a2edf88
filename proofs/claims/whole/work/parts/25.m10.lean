/-! THE REFERENCE: the lots of a text -/
set_option maxHeartbeats 4000000 in
set_option maxRecDepth 100000 in
theorem c_X6_deliverAll (l : Launch) (D : KD) (b : Nat) (σ : KS) (N : Nat → Nat) (r : Nat) (T : Nat → Nat) (n : Nat) (hP : PF σ.2.2) (hr : σ.1 190 3 = nI r) (hr6 : r ≤ 6) (hI : qIr N) (hn : n ≤ 80) (h5 : σ.1 190 5 = nI n) (hT : ∀ j, j < n → T j < 128) (hR : ∀ j, j < n → σ.1 194 j = nI (T j)) : Ct l D b yX6_deliverAll cX6_deliverAll 3 (some .int) (rM 5 110) 0 0 [rf b 190] shF (wN σ N) shF (pS (some (.int (oDelAll T n N).1)) (fun σ' => match (oDelAll T n N).2 with | none => ∃ G, (∀ k, k < 6 → G k = σ.1 190 k) ∧ σ' = wN (wI σ 190 G) N | some M => ∃ G, (∀ k, k < 5 → k ≠ 3 → G k = σ.1 190 k) ∧ G 3 = nI (qRr r + 1) ∧ G 5 = nI 0 ∧ σ' = wN (wI (wRec σ N r) 190 G) M)) := by
  refine Ct.of (ls := [(0, rf b 190)]) (by decide) (Nat.le_of_ble_eq_true rfl) rfl ?_
  intro pg e s m args below meth c Q hQ X hnm
  refine K_st (σ' := wI (wN σ N) 190 (σ.1 190)) (by rw [← wN_I, wI_id rfl]) ?_
  refine K_aload_n X 0 dX6_deliverAll_0 rfl rfl ?_
  refine K_callVP X (c_X6_findError l D b (wN σ N) (σ.1 190) T n hP hn h5 hT (fun j hj => (congrFun (wN_ne (by decide)) j).trans (hR j hj))) my_X6_findError mv_X6_findError wm_X6_213 sf_m rfl ⟨rfl, rfl, Nat.le_of_ble_eq_true rfl, Nat.le_of_ble_eq_true rfl, Nat.le_of_ble_eq_true rfl, Nat.le_of_ble_eq_true rfl⟩ rfl rfl (Nat.le_of_ble_eq_true rfl) dX6_deliverAll_1 (fun σ1 h1 => ?_)
  obtain ⟨G, rfl, a0⟩ := h1
  rw [← wN_I]
  refine K_bipush X dX6_deliverAll_4 cib_m6 ?_
  refine K_icmp_eq (tgt := 12) X dX6_deliverAll_6 (by decide) (fun c6 => ?_) (fun c6 => ?_)
  · have hok : xErr T n 81 0 = -6 := c6
    refine K_aload_n X 0 dX6_deliverAll_12 rfl rfl ?_
    refine K_callVE0 X (c_X6_record l D b _ _ _ hP ((congrFun wI_self 3).trans ((a0 3 (by omega)).trans hr)) hr6) my_X6_record mv_X6_record wm_X6_50 sf_m rfl ⟨rfl, rfl, Nat.le_of_ble_eq_true rfl, Nat.le_of_ble_eq_true rfl, Nat.le_of_ble_eq_true rfl, Nat.le_of_ble_eq_true rfl⟩ rfl rfl (Nat.le_of_ble_eq_true rfl) dX6_deliverAll_13 ?_
    obtain ⟨F1, hF1⟩ : ∃ z, z = (wRec (wI σ 190 G) N r).1 190 := ⟨_, rfl⟩
    have b0 : ∀ k, k < 6 → k ≠ 3 → F1 k = σ.1 190 k := fun k hk h3 => by rw [hF1]; unfold wRec wH; rw [wI_self]; unfold upd; rw [if_neg h3, wI_self]; exact a0 k hk
    refine K_st (σ' := wI (wN (wRec (wI σ 190 G) N r) N) 190 F1) (by rw [← wN_I, hF1, wI_id rfl]) ?_
    refine K_iconst X dX6_deliverAll_16 cii_0 ?_
    refine K_istore_n X (ls' := [(1, _), (0, _)]) dX6_deliverAll_17 rfl (by decide) rfl ?_
    refine K_aload_n X 1 dX6_deliverAll_18 rfl rfl ?_
    refine K_iconst X dX6_deliverAll_19 cii_0 ?_
    refine K_putI X 6 kFd6 rfl (by decide) sf_m wf_X6_178 rfl rfl rfl dX6_deliverAll_20 ?_
    refine K_st (wI_upd rfl) ?_
    refine K_iconst X dX6_deliverAll_23 cii_1 ?_
    refine K_istore_n X (ls' := [(2, _), (1, _), (0, _)]) dX6_deliverAll_24 rfl (by decide) rfl ?_
    have hR2 : ∀ (M : Nat → Nat) (j : Nat), j < n → (wN (wRec (wI σ 190 G) N r) M).1 194 j = nI (T j) := fun M j hj => by rw [wN_ne (by decide)]; unfold wRec wH; rw [wI_ne (by decide), wI_ne (by decide), wI_ne (by decide)]; exact hR j hj
    have loop : ∀ (f p cnt : Nat) (M : Nat → Nat) (F : Nat → Int32), qIr M → p ≤ n → n < p + f → (p = n ∨ xErr T n f p = -6) → cnt + f ≤ 81 → (∀ k, k < 6 → k ≠ 3 → F k = σ.1 190 k) → (F 3 = nI (qRr r + 1)) → F 6 = nI p → xDA T n f p M cnt = xDA T n 81 0 N 0 → K pg l e (rM 5 110) s m args below meth c Q D b 3 0 0 shF (wI (wN (wRec (wI σ 190 G) N r) M) 190 F) 25 [(0, rf b 190), (1, .int (nI cnt)), (2, .int (nI 1))] [] := by
      intro f
      induction f with
      | zero => intro p cnt M F hM hp hf; omega
      | succ f ih =>
        intro p cnt M F hM hp hf hv hcf f0 f3 f6 hg
        have hb := xItem_b (T := T) hp
        refine K_iload_n X 2 dX6_deliverAll_25 rfl rfl ?_
        refine K_ifN_eq (tgt := 112) X dX6_deliverAll_26 (by decide) (by omega) (fun c26 => ?_) (fun c26 => ?_)
        · exact absurd c26 (by decide)
        · refine K_aload_n X 0 dX6_deliverAll_29 rfl rfl ?_
          refine K_get X 6 kFd6 rfl (by decide) sf_m wf_X6_178 rfl (v := .int (nI p)) (congrArg Value.int ((congrFun wI_self 6).trans f6)) dX6_deliverAll_30 ?_
          refine K_aload_n X 0 dX6_deliverAll_33 rfl rfl ?_
          refine K_get X 5 kFd6 rfl (by decide) sf_m wf_X6_175 rfl (v := .int (nI n)) (congrArg Value.int ((congrFun wI_self 5).trans ((f0 5 (by omega) (by omega)).trans h5))) dX6_deliverAll_34 ?_
          refine K_icmpN_ge (tgt := 112) X dX6_deliverAll_37 (by decide) (by omega) (by omega) (fun c37 => ?_) (fun c37 => ?_)
          · refine K_aload_n X 0 dX6_deliverAll_112 rfl rfl ?_
            refine K_iconst X dX6_deliverAll_113 cii_0 ?_
            refine K_putI X 5 kFd6 rfl (by decide) sf_m wf_X6_175 rfl rfl rfl dX6_deliverAll_114 ?_
            refine K_st (wI_upd rfl) ?_
            refine K_iload_n X 1 dX6_deliverAll_117 rfl rfl ?_
            exact K_iret X hQ dX6_deliverAll_118 (dA_end hok (show (cnt, M) = xDA T n 81 0 N 0 from by rw [← hg, xDA_e (by omega)]) f0 f3)
          · obtain ⟨q, hq⟩ : ∃ q, (xItem T n p).1 = some q := by
              rcases hv with hv | hv
              · omega
              · cases ho : (xItem T n p).1 with
                | some q => exact ⟨q, rfl⟩
                | none => rw [xErr_n ho] at hv; exact absurd hv (qO_ne (by have := hb.1; omega))
            obtain ⟨z1, z2, z3, z4, z5⟩ := hb.2 q hq
            have hv2 : (xItem T n p).2 = n ∨ (xIs T n 59 (xItem T n p).2 = true ∧ xErr T n f ((xItem T n p).2 + 1) = -6) := by
              rcases hv with hv | hv
              · omega
              · rw [xErr_s hq] at hv
                by_cases h1 : (xItem T n p).2 = n
                · exact Or.inl h1
                · rw [if_neg h1] at hv
                  by_cases h2 : xIs T n 59 (xItem T n p).2 = true
                  · rw [if_pos h2] at hv; exact Or.inr ⟨h2, hv⟩
                  · rw [if_neg h2] at hv; exact absurd hv (qO_ne (by have := hb.1; omega))
            refine K_aload_n X 0 dX6_deliverAll_40 rfl rfl ?_
            refine K_callVP X (c_X6_readsItem l D b _ F T n p hP hn ((f0 5 (by omega) (by omega)).trans h5) hT (hR2 M) f6 hp) my_X6_readsItem mv_X6_readsItem wm_X6_209 sf_m rfl ⟨rfl, rfl, Nat.le_of_ble_eq_true rfl, Nat.le_of_ble_eq_true rfl, Nat.le_of_ble_eq_true rfl, Nat.le_of_ble_eq_true rfl⟩ rfl rfl (Nat.le_of_ble_eq_true rfl) dX6_deliverAll_41 (fun σ41 h41 => ?_)
            obtain ⟨G1, rfl, a1, a6, a8⟩ := h41
            obtain ⟨e8, e9, e10, e11⟩ := a8 q hq
            refine K_pop X dX6_deliverAll_44 rfl ?_
            refine K_aload_n X 0 dX6_deliverAll_45 rfl rfl ?_
            refine K_bipush X dX6_deliverAll_46 cib_59 ?_
            refine K_callVE X (c_X6_isNext l D b _ G1 T n (xItem T n p).2 59 hP hn ((a1 5 (by omega)).trans ((f0 5 (by omega) (by omega)).trans h5)) hT (hR2 M) a6 hb.1 (by decide)) my_X6_isNext mv_X6_isNext wm_X6_194 sf_m rfl ⟨rfl, rfl, Nat.le_of_ble_eq_true rfl, Nat.le_of_ble_eq_true rfl, Nat.le_of_ble_eq_true rfl, Nat.le_of_ble_eq_true rfl⟩ rfl rfl (Nat.le_of_ble_eq_true rfl) dX6_deliverAll_48 ?_
            obtain ⟨z, hz⟩ : ∃ z, z = (xItem T n p).2 + (if xIs T n 59 (xItem T n p).2 = true then 1 else 0) := ⟨_, rfl⟩
            rw [← hz]
            refine K_pop X dX6_deliverAll_51 rfl ?_
            refine K_aload_n X 0 dX6_deliverAll_52 rfl rfl ?_
            refine K_aload_n X 0 dX6_deliverAll_53 rfl rfl ?_
            refine K_get X 8 kFd6 rfl (by decide) sf_m wf_X6_191 rfl (v := .int (nI q.1)) (congrArg Value.int ((congrFun wI_self 8).trans e8)) dX6_deliverAll_54 ?_
            refine K_aload_n X 0 dX6_deliverAll_57 rfl rfl ?_
            refine K_get X 9 kFd6 rfl (by decide) sf_m wf_X6_200 rfl (v := .int (nI q.2.1)) (congrArg Value.int ((congrFun wI_self 9).trans e9)) dX6_deliverAll_58 ?_
            refine K_aload_n X 0 dX6_deliverAll_61 rfl rfl ?_
            refine K_get X 10 kFd6 rfl (by decide) sf_m wf_X6_203 rfl (v := .int (nI q.2.2.1)) (congrArg Value.int ((congrFun wI_self 10).trans e10)) dX6_deliverAll_62 ?_
            refine K_aload_n X 0 dX6_deliverAll_65 rfl rfl ?_
            refine K_get X 11 kFd6 rfl (by decide) sf_m wf_X6_206 rfl (v := .int (nI q.2.2.2)) (congrArg Value.int ((congrFun wI_self 11).trans e11)) dX6_deliverAll_66 ?_
            rw [← wN_I]
            refine K_callVE X (c_X6_whyNotDelivered l D b _ _ _ _ _ _ hP hM) my_X6_whyNotDelivered mv_X6_whyNotDelivered wm_X6_77 sf_m rfl ⟨rfl, rfl, Nat.le_of_ble_eq_true rfl, Nat.le_of_ble_eq_true rfl, Nat.le_of_ble_eq_true rfl, Nat.le_of_ble_eq_true rfl⟩ rfl rfl (Nat.le_of_ble_eq_true rfl) dX6_deliverAll_69 ?_
            rw [aWhy_in z2 z3 z4 z5]
            refine K_if_ne (tgt := 79) X dX6_deliverAll_72 (by decide) (fun c72 => ?_) (fun c72 => ?_)
            · refine K_iconst X dX6_deliverAll_79 cii_0 ?_
              refine K_istore_n X (ls' := [(2, _), (0, _), (1, _)]) dX6_deliverAll_80 rfl (by decide) rfl ?_
              refine K_iload_n X 0 dX6_deliverAll_81 rfl rfl ?_
              refine K_ifN_eq (tgt := 25) X dX6_deliverAll_82 (by decide) (by omega) (fun c82 => ?_) (fun c82 => ?_)
              · have hg2 : (cnt, M) = xDA T n 81 0 N 0 := by rw [← hg, xDA_s (by omega) hq, if_neg c72]
                rw [wN_I]
                refine K_iload_n X 0 dX6_deliverAll_25 rfl rfl ?_
                refine K_ifN_eq (tgt := 112) X dX6_deliverAll_26 (by decide) (by omega) (fun c26 => ?_) (fun c26 => ?_)
                · refine K_aload_n X 1 dX6_deliverAll_112 rfl rfl ?_
                  refine K_iconst X dX6_deliverAll_113 cii_0 ?_
                  refine K_putI X 5 kFd6 rfl (by decide) sf_m wf_X6_175 rfl rfl rfl dX6_deliverAll_114 ?_
                  refine K_st (wI_upd rfl) ?_
                  refine K_iload_n X 2 dX6_deliverAll_117 rfl rfl ?_
                  exact K_iret X hQ dX6_deliverAll_118 (dA_end hok hg2 (fun k hk h3 => (upd6 (j := 6) (by omega) a1 k hk).trans (f0 k hk h3)) ((upd6 (j := 6) (by omega) a1 3 (by omega)).trans f3))
                · exact absurd rfl c26
              · exact absurd rfl c82
            · refine K_iconst X dX6_deliverAll_75 cii_1 ?_
              refine K_goto (tgt := 80) X dX6_deliverAll_76 (by decide) ?_
              refine K_istore_n X (ls' := [(2, _), (0, _), (1, _)]) dX6_deliverAll_80 rfl (by decide) rfl ?_
              refine K_iload_n X 0 dX6_deliverAll_81 rfl rfl ?_
              refine K_ifN_eq (tgt := 25) X dX6_deliverAll_82 (by decide) (by omega) (fun c82 => ?_) (fun c82 => ?_)
              · exact absurd c82 (by decide)
              · have q0 := qRoom_0 c72
                have hM2 := qi_2 hM
                refine K_aload_n X 1 dX6_deliverAll_85 rfl rfl ?_
                refine K_aload_n X 1 dX6_deliverAll_86 rfl rfl ?_
                refine K_get X 8 kFd6 rfl (by decide) sf_m wf_X6_191 rfl (v := .int (nI q.1)) (congrArg Value.int ((show _ from by rw [wN_I]; exact (congrFun wI_self 8).trans e8))) dX6_deliverAll_87 ?_
                refine K_aload_n X 1 dX6_deliverAll_90 rfl rfl ?_
                refine K_get X 9 kFd6 rfl (by decide) sf_m wf_X6_200 rfl (v := .int (nI q.2.1)) (congrArg Value.int ((show _ from by rw [wN_I]; exact (congrFun wI_self 9).trans e9))) dX6_deliverAll_91 ?_
                refine K_aload_n X 1 dX6_deliverAll_94 rfl rfl ?_
                refine K_get X 10 kFd6 rfl (by decide) sf_m wf_X6_203 rfl (v := .int (nI q.2.2.1)) (congrArg Value.int ((show _ from by rw [wN_I]; exact (congrFun wI_self 10).trans e10))) dX6_deliverAll_95 ?_
                refine K_aload_n X 1 dX6_deliverAll_98 rfl rfl ?_
                refine K_get X 11 kFd6 rfl (by decide) sf_m wf_X6_206 rfl (v := .int (nI q.2.2.2)) (congrArg Value.int ((show _ from by rw [wN_I]; exact (congrFun wI_self 11).trans e11))) dX6_deliverAll_99 ?_
                refine K_callVE X (c_X6_delivers l D b _ _ _ _ _ _ hP hM (by omega) (by omega) (by omega)) my_X6_delivers mv_X6_delivers wm_X6_80 sf_m rfl ⟨rfl, rfl, Nat.le_of_ble_eq_true rfl, Nat.le_of_ble_eq_true rfl, Nat.le_of_ble_eq_true rfl, Nat.le_of_ble_eq_true rfl⟩ rfl rfl (Nat.le_of_ble_eq_true rfl) dX6_deliverAll_102 ?_
                rw [wN_I]
                refine K_pop X dX6_deliverAll_105 rfl ?_
                refine K_iinc X 2 (ls' := [(1, _), (2, _), (0, _)]) dX6_deliverAll_106 rfl (inc_1 _) (by decide) rfl ?_
                refine K_goto (tgt := 25) X dX6_deliverAll_109 (by decide) ?_
                refine K_sub [2, 0, 1] rfl (ih z (cnt + 1) (qDel M q.1 q.2.1 q.2.2.1 q.2.2.2) _ (qIr_del hM (by omega) (by omega) z3 z4 (by omega)) ?_ ?_ ?_ (by omega) (fun k hk h3 => (upd6 (j := 6) (by omega) a1 k hk).trans (f0 k hk h3)) ((upd6 (j := 6) (by omega) a1 3 (by omega)).trans f3) rfl ?_)
                · rw [hz]; split; rename_i h1; exact xIs_lt h1; exact hb.1
                · rw [hz]; omega
                · rw [hz]; rcases hv2 with h1 | h1
                  · exact Or.inl (by rw [if_neg (by intro h2; have := xIs_lt h2; omega)]; omega)
                  · exact Or.inr (by rw [if_pos h1.1]; exact h1.2)
                · rw [← hg, xDA_s (by omega) hq, if_pos c72, hz]
    refine K_sub [2, 1, 0] rfl (loop 81 0 0 N _ hI (Nat.zero_le _) (by omega) (Or.inr hok) (by omega) (fun k hk h3 => (by unfold upd; rw [if_neg (by omega)]; exact b0 k hk h3)) ?_ rfl rfl)
    rw [hF1]; unfold wRec wH; rw [wI_self]; rfl
  · refine K_bipush X dX6_deliverAll_9 cib_m5 ?_
    exact K_iret X hQ dX6_deliverAll_11 (⟨by unfold oDelAll; rw [if_neg c6], by unfold oDelAll; rw [if_neg c6]; exact ⟨G, a0, rfl⟩⟩)
