/-! THE LAW'S COMPARISON: places and kinds -/
set_option maxHeartbeats 8000000 in
set_option maxRecDepth 100000 in
theorem sm_mid (l : Launch) (D : KD) (b : Nat) {sh4 : List KSh} (hsh4 : shP sh4) (hG4 : GS sh4 190) (n0 : Nat) (hn : 193 ≤ n0) (hOl : sh4.length = n0 + 4) (hk0 : sh4[n0]? = some (.inr (.int, 6))) (hk1 : sh4[n0 + 1]? = some (.inr (.int, 6))) (hk2 : sh4[n0 + 2]? = some (.inr (.int, 11))) (hk3 : sh4[n0 + 3]? = some (.inr (.int, 11))) (σ : KS) (q i f N : Nat → Nat) (r : Nat) (hs : Nat → Nat → Nat) (T : Nat → Nat) (n : Nat) (hS : S1 σ q i f N r hs T n n0 0 0 0 0) (hJJ : JJ q i f N) (hI : qIr N) (hU : qU N) (hBd : ∀ j, j < 11 → N j < 2 ^ 31) (x : Int32) {pg : Program} {e : Env} {s : State} {m : MethodId} {args : Array Value} {below : List Frame} {meth : Method} {c : Code} {Q : State → Prop} (hQ : Q = KQ below (pS (some (.int (kB true))) (fun τ => Lw1 τ q i f N r hs T n)) D b args s (sh4 ++ [.inr (.int, 33), .inr (.int, 11), .inr (.int, 64)]) 7 142) (X : KX pg s m meth c args D b cL_same 19 (some .boolean) yL_same.cls) : K pg l e ({ frames := 6, cells := 7, slots := 142, locals := 134 } : Room) s m args below meth c Q D b 19 4 34 sh4 σ 621 [(5, .int (nI (fS (gG f) (q 2)))), (6, .long (lN (fS (gW q f) (q 2)))), (8, rf b n0), (9, rf b (n0 + 1)), (10, rf b (n0 + 2)), (11, rf b (n0 + 3)), (0, rf b 0), (1, .int x), (2, rf b 190), (3, rf b (190 + 1)), (4, rf b (190 + 2))] [] := by
  obtain ⟨hJ, hF, hCn⟩ := hJJ
  have h2 := qi_2 hI
  have hB := hBd 10 (by omega)
  have h16 := fi_2 hF
  have hq1 := fi_1 hF
  have hP := hS.1.1.1
  obtain ⟨π, hR⟩ := hS.1.1.2.1
  refine K_iconst X dL_same_621 cii_0 ?_
  refine K_istore X (ls' := [(12, _), (5, _), (6, _), (8, _), (9, _), (10, _), (11, _), (0, _), (1, _), (2, _), (3, _), (4, _)]) dL_same_622 (by decide) rfl ?_
  have loop2 : ∀ v : Nat, v ≤ 11 → K pg l e ({ frames := 6, cells := 7, slots := 142, locals := 134 } : Room) s m args below meth c Q D b 19 4 34 sh4 σ 624 [(12, .int (nI v)), (5, .int (nI (fS (gG f) (q 2)))), (6, .long (lN (fS (gW q f) (q 2)))), (8, rf b n0), (9, rf b (n0 + 1)), (10, rf b (n0 + 2)), (11, rf b (n0 + 3)), (0, rf b 0), (1, .int x), (2, rf b 190), (3, rf b (190 + 1)), (4, rf b (190 + 2))] [] := by
    refine kup (fun v hv ihv => ?_)
    refine K_iload X 0 dL_same_624 rfl ?_
    refine K_bipush X dL_same_626 cib_11 ?_
    refine K_icmpN_ge (tgt := 783) X dL_same_628 (by decide) (by omega) (by omega) (fun c628 => ?_) (fun c628 => ?_)
    · refine K_iconst X dL_same_783 cii_0 ?_
      refine K_istore X (ls' := [(12, _), (5, _), (6, _), (8, _), (9, _), (10, _), (11, _), (0, _), (1, _), (2, _), (3, _), (4, _)]) dL_same_784 (by decide) rfl ?_
      have loop3 : ∀ v : Nat, v ≤ 6 → K pg l e ({ frames := 6, cells := 7, slots := 142, locals := 134 } : Room) s m args below meth c Q D b 19 4 34 sh4 σ 786 [(12, .int (nI v)), (5, .int (nI (fS (gG f) (q 2)))), (6, .long (lN (fS (gW q f) (q 2)))), (8, rf b n0), (9, rf b (n0 + 1)), (10, rf b (n0 + 2)), (11, rf b (n0 + 3)), (0, rf b 0), (1, .int x), (2, rf b 190), (3, rf b (190 + 1)), (4, rf b (190 + 2))] [] := by
        refine kup (fun v hv ihw => ?_)
        refine K_iload X 0 dL_same_786 rfl ?_
        refine K_bipush X dL_same_788 cib_6 ?_
        refine K_icmpN_ge (tgt := 878) X dL_same_790 (by decide) (by omega) (by omega) (fun c790 => ?_) (fun c790 => ?_)
        · exact K_sub [1, 2, 7, 8, 9, 10, 11] rfl (sm_tail l D b hsh4 hG4 (n0 + 4) hOl σ q i f N r hs T n hS.1 ⟨hJ, hF, hCn⟩ hI hU hBd x hQ X)
        · have hv6 : v < 6 := by omega
          obtain ⟨o, o1, o2⟩ := hS.2.2.1 v hv6
          have ho16 : qId o ≤ 16 := by cases o with | none => exact Nat.zero_le _ | some t => have := o1.1; show t + 1 ≤ 16; omega
          refine K_aload_n X 7 dL_same_793 rfl rfl ?_
          refine K_iload X 0 dL_same_794 rfl ?_
          refine K_iconst X dL_same_796 cii_0 ?_
          refine K_callVE X (c_X5_kind l D b hsh4 _ _ _ _ _ hP hR hI) my_X5_kind mv_X5_kind wm_L_52 (sf_c hsh4) rfl ⟨rfl, rfl, Nat.le_of_ble_eq_true rfl, Nat.le_of_ble_eq_true rfl, Nat.le_of_ble_eq_true rfl, Nat.le_of_ble_eq_true rfl⟩ rfl rfl (Nat.le_of_ble_eq_true rfl) dL_same_797 ?_
          refine K_aload_n X 9 dL_same_800 rfl rfl ?_
          refine K_bipush X dL_same_801 cib_10 ?_
          refine K_iload X 0 dL_same_803 rfl ?_
          refine K_iaddN X dL_same_805 ?_
          refine K_iald X _ hG4.1 rfl (by omega) (by decide) ((ar_q hS.1.2 _)) dL_same_806 ?_
          refine K_icmp_ne (tgt := 870) X dL_same_807 (by decide) (fun c807 => ?_) (fun c807 => ?_)
          · exact absurd (a_kind0 hJ hv6) c807
          · refine K_aload_n X 7 dL_same_810 rfl rfl ?_
            refine K_iload X 0 dL_same_811 rfl ?_
            refine K_iconst X dL_same_813 cii_1 ?_
            refine K_callVE X (c_X5_kind l D b hsh4 _ _ _ _ _ hP hR hI) my_X5_kind mv_X5_kind wm_L_52 (sf_c hsh4) rfl ⟨rfl, rfl, Nat.le_of_ble_eq_true rfl, Nat.le_of_ble_eq_true rfl, Nat.le_of_ble_eq_true rfl, Nat.le_of_ble_eq_true rfl⟩ rfl rfl (Nat.le_of_ble_eq_true rfl) dL_same_814 ?_
            refine K_aload_n X 9 dL_same_817 rfl rfl ?_
            refine K_bipush X dL_same_818 cib_16 ?_
            refine K_iload X 0 dL_same_820 rfl ?_
            refine K_iaddN X dL_same_822 ?_
            refine K_iald X _ hG4.1 rfl (by omega) (by decide) ((ar_q hS.1.2 _)) dL_same_823 ?_
            refine K_icmp_ne (tgt := 870) X dL_same_824 (by decide) (fun c824 => ?_) (fun c824 => ?_)
            · exact absurd (a_kind1 hJ hv6) c824
            · refine K_aload_n X 7 dL_same_827 rfl rfl ?_
              refine K_iload X 0 dL_same_828 rfl ?_
              refine K_iconst X dL_same_830 cii_2 ?_
              refine K_callVE X (c_X5_kind l D b hsh4 _ _ _ _ _ hP hR hI) my_X5_kind mv_X5_kind wm_L_52 (sf_c hsh4) rfl ⟨rfl, rfl, Nat.le_of_ble_eq_true rfl, Nat.le_of_ble_eq_true rfl, Nat.le_of_ble_eq_true rfl, Nat.le_of_ble_eq_true rfl⟩ rfl rfl (Nat.le_of_ble_eq_true rfl) dL_same_831 ?_
              refine K_aload X 3 dL_same_834 rfl ?_
              refine K_iload X 0 dL_same_836 rfl ?_
              refine K_iald X _ hk0 rfl (by omega) (by decide) (x := nI (fS (gK f v) (q 2))) ((hS.2.1 v hv6).trans (by rw [show fS (gK f v) 0 = 0 from rfl, Nat.sub_zero])) dL_same_838 ?_
              refine K_icmp_ne (tgt := 870) X dL_same_839 (by decide) (fun c839 => ?_) (fun c839 => ?_)
              · exact absurd (a_kind2 hJ hv6) c839
              · refine K_aload_n X 7 dL_same_842 rfl rfl ?_
                refine K_iload X 0 dL_same_843 rfl ?_
                refine K_iconst X dL_same_845 cii_3 ?_
                refine K_callVE X (c_X5_kind l D b hsh4 _ _ _ _ _ hP hR hI) my_X5_kind mv_X5_kind wm_L_52 (sf_c hsh4) rfl ⟨rfl, rfl, Nat.le_of_ble_eq_true rfl, Nat.le_of_ble_eq_true rfl, Nat.le_of_ble_eq_true rfl, Nat.le_of_ble_eq_true rfl⟩ rfl rfl (Nat.le_of_ble_eq_true rfl) dL_same_846 ?_
                refine K_via (Φ := fun σ' st' => σ = σ' ∧ [.int (qJd o), .int (aKind N (nI v) (nI 3))] = st') 867 (fun σ' st' hv => ?_) (fun hv867 => ?_)
                · obtain ⟨rfl, rfl⟩ := hv
                  refine K_icmp_eq (tgt := 872) X dL_same_867 (by decide) (fun c867 => ?_) (fun c867 => ?_)
                  · refine K_iinc X 0 (ls' := [(12, _), (5, _), (6, _), (8, _), (9, _), (10, _), (11, _), (0, _), (1, _), (2, _), (3, _), (4, _)]) dL_same_872 rfl (inc_1 _) (by decide) rfl ?_
                    refine K_goto (tgt := 786) X dL_same_875 (by decide) ?_
                    exact K_sub [0, 1, 2, 3, 4, 5, 6, 7, 8, 9, 10, 11] rfl (ihw (by omega))
                  · exact absurd (a_kind3 hJ hv6 o1) c867
                · refine K_aload X 4 dL_same_849 rfl ?_
                  refine K_iload X 0 dL_same_851 rfl ?_
                  refine K_iald X _ hk1 rfl (by omega) (by decide) (o2) dL_same_853 ?_
                  refine K_ifN_ne (tgt := 862) X dL_same_854 (by decide) (by omega) (fun c854 => ?_) (fun c854 => ?_)
                  · refine K_aload X 4 dL_same_862 rfl ?_
                    refine K_iload X 0 dL_same_864 rfl ?_
                    refine K_iald X _ hk1 rfl (by omega) (by decide) (o2) dL_same_866 ?_
                    exact hv867 _ _ (⟨rfl, by cases o with | none => exact absurd rfl c854 | some t => rfl⟩)
                  · refine K_bipush X dL_same_857 cib_m6 ?_
                    refine K_goto (tgt := 867) X dL_same_859 (by decide) ?_
                    exact hv867 _ _ (⟨rfl, by cases o with | none => rfl | some t => exact absurd c854 (Nat.succ_ne_zero t)⟩)
      exact K_sub [0, 1, 2, 3, 4, 5, 6, 7, 8, 9, 10, 11] rfl (loop3 0 (Nat.zero_le _))
    · have hv11 : v < 11 := by omega
      obtain ⟨o, o1, o2⟩ := hS.2.2.2.1 v hv11
      have ho16 : qId o ≤ 16 := by cases o with | none => exact Nat.zero_le _ | some t => have := o1.1; show t + 1 ≤ 16; omega
      refine K_via (Φ := fun σ' st' => σ = σ' ∧ [.int (qJd o)] = st') 649 (fun σ' st' hv => ?_) (fun hv649 => ?_)
      · obtain ⟨rfl, rfl⟩ := hv
        refine K_istore X (ls' := [(13, _), (12, _), (5, _), (6, _), (8, _), (9, _), (10, _), (11, _), (0, _), (1, _), (2, _), (3, _), (4, _)]) dL_same_649 (by decide) rfl ?_
        refine K_iload X 1 dL_same_651 rfl ?_
        refine K_bipush X dL_same_653 cib_6 ?_
        refine K_icmpN_ge (tgt := 719) X dL_same_655 (by decide) (by omega) (by omega) (fun c655 => ?_) (fun c655 => ?_)
        · refine K_iload X 1 dL_same_719 rfl ?_
          refine K_iconst X dL_same_721 cii_5 ?_
          refine K_icmpN_le (tgt := 759) X dL_same_722 (by decide) (by omega) (by omega) (fun c722 => ?_) (fun c722 => ?_)
          · exact absurd c722 (by omega)
          · refine K_aload_n X 8 dL_same_725 rfl rfl ?_
            refine K_iload X 1 dL_same_726 rfl ?_
            refine K_bipush X dL_same_728 cib_6 ?_
            refine K_isubN X dL_same_730 (by omega) ?_
            refine K_iconst X dL_same_731 cii_0 ?_
            refine K_callVE X (c_X5_tray l D b hsh4 _ _ _ _ _ hP hR hI) my_X5_tray mv_X5_tray wm_L_46 (sf_c hsh4) rfl ⟨rfl, rfl, Nat.le_of_ble_eq_true rfl, Nat.le_of_ble_eq_true rfl, Nat.le_of_ble_eq_true rfl, Nat.le_of_ble_eq_true rfl⟩ rfl rfl (Nat.le_of_ble_eq_true rfl) dL_same_732 ?_
            refine K_aload_n X 11 dL_same_735 rfl rfl ?_
            refine K_iload X 1 dL_same_736 rfl ?_
            refine K_iald X _ hG4.2.1 rfl (by omega) (by decide) ((ar_i hS.1.2 _)) dL_same_738 ?_
            refine K_icmp_ne (tgt := 757) X dL_same_739 (by decide) (fun c739 => ?_) (fun c739 => ?_)
            · exact absurd (a_tray0 hJ (by omega) (by omega)) c739
            · refine K_aload_n X 8 dL_same_742 rfl rfl ?_
              refine K_iload X 1 dL_same_743 rfl ?_
              refine K_bipush X dL_same_745 cib_6 ?_
              refine K_isubN X dL_same_747 (by omega) ?_
              refine K_iconst X dL_same_748 cii_1 ?_
              refine K_callVE X (c_X5_tray l D b hsh4 _ _ _ _ _ hP hR hI) my_X5_tray mv_X5_tray wm_L_46 (sf_c hsh4) rfl ⟨rfl, rfl, Nat.le_of_ble_eq_true rfl, Nat.le_of_ble_eq_true rfl, Nat.le_of_ble_eq_true rfl, Nat.le_of_ble_eq_true rfl⟩ rfl rfl (Nat.le_of_ble_eq_true rfl) dL_same_749 ?_
              refine K_iload X 0 dL_same_752 rfl ?_
              refine K_icmp_eq (tgt := 759) X dL_same_754 (by decide) (fun c754 => ?_) (fun c754 => ?_)
              · refine K_aload_n X 8 dL_same_759 rfl rfl ?_
                refine K_iload X 1 dL_same_760 rfl ?_
                refine K_callVE X (c_X5_cut l D b hsh4 _ _ _ _ hP hR hI) my_X5_cut mv_X5_cut wm_L_49 (sf_c hsh4) rfl ⟨rfl, rfl, Nat.le_of_ble_eq_true rfl, Nat.le_of_ble_eq_true rfl, Nat.le_of_ble_eq_true rfl, Nat.le_of_ble_eq_true rfl⟩ rfl rfl (Nat.le_of_ble_eq_true rfl) dL_same_762 ?_
                refine K_aload_n X 10 dL_same_765 rfl rfl ?_
                refine K_bipush X dL_same_766 cib_22 ?_
                refine K_iload X 1 dL_same_768 rfl ?_
                refine K_iaddN X dL_same_770 ?_
                refine K_iald X _ hG4.1 rfl (by omega) (by decide) ((ar_q hS.1.2 _)) dL_same_771 ?_
                refine K_icmp_eq (tgt := 777) X dL_same_772 (by decide) (fun c772 => ?_) (fun c772 => ?_)
                · refine K_iinc X 1 (ls' := [(12, _), (13, _), (5, _), (6, _), (8, _), (9, _), (10, _), (11, _), (0, _), (1, _), (2, _), (3, _), (4, _)]) dL_same_777 rfl (inc_1 _) (by decide) rfl ?_
                  refine K_goto (tgt := 624) X dL_same_780 (by decide) ?_
                  exact K_sub [0, 2, 3, 4, 5, 6, 7, 8, 9, 10, 11, 12] rfl (ihv (by omega))
                · exact absurd (a_cut hJ (by omega)) c772
              · exact absurd (a_tray1 hJ (by omega) (by omega) o1) c754
        · refine K_aload_n X 8 dL_same_658 rfl rfl ?_
          refine K_iload X 1 dL_same_659 rfl ?_
          refine K_iconst X dL_same_661 cii_0 ?_
          refine K_callVE X (c_X5_box l D b hsh4 _ _ _ _ _ hP hR hI) my_X5_box mv_X5_box wm_L_43 (sf_c hsh4) rfl ⟨rfl, rfl, Nat.le_of_ble_eq_true rfl, Nat.le_of_ble_eq_true rfl, Nat.le_of_ble_eq_true rfl, Nat.le_of_ble_eq_true rfl⟩ rfl rfl (Nat.le_of_ble_eq_true rfl) dL_same_662 ?_
          refine K_aload_n X 11 dL_same_665 rfl rfl ?_
          refine K_iload X 1 dL_same_666 rfl ?_
          refine K_iald X _ hG4.2.1 rfl (by omega) (by decide) ((ar_i hS.1.2 _)) dL_same_668 ?_
          refine K_icmp_ne (tgt := 717) X dL_same_669 (by decide) (fun c669 => ?_) (fun c669 => ?_)
          · exact absurd (a_box0 hJ (by omega)) c669
          · refine K_aload_n X 8 dL_same_672 rfl rfl ?_
            refine K_iload X 1 dL_same_673 rfl ?_
            refine K_iconst X dL_same_675 cii_1 ?_
            refine K_callVE X (c_X5_box l D b hsh4 _ _ _ _ _ hP hR hI) my_X5_box mv_X5_box wm_L_43 (sf_c hsh4) rfl ⟨rfl, rfl, Nat.le_of_ble_eq_true rfl, Nat.le_of_ble_eq_true rfl, Nat.le_of_ble_eq_true rfl, Nat.le_of_ble_eq_true rfl⟩ rfl rfl (Nat.le_of_ble_eq_true rfl) dL_same_676 ?_
            refine K_iload X 1 dL_same_679 rfl ?_
            refine K_aload_n X 10 dL_same_681 rfl rfl ?_
            refine K_aload X 12 dL_same_682 rfl ?_
            refine K_callSE X (d_L_at l D b hS.1.2 _ hG4 hF (by omega)) my_L_at wt_L_at wm_L_16 ⟨rfl, rfl, Nat.le_of_ble_eq_true rfl, Nat.le_of_ble_eq_true rfl, Nat.le_of_ble_eq_true rfl, Nat.le_of_ble_eq_true rfl⟩ rfl rfl (Nat.le_of_ble_eq_true rfl) dL_same_684 ?_
            refine K_icmp_ne (tgt := 717) X dL_same_687 (by decide) (fun c687 => ?_) (fun c687 => ?_)
            · exact absurd (a_box1 hJ (by omega)) c687
            · refine K_aload_n X 8 dL_same_690 rfl rfl ?_
              refine K_iload X 1 dL_same_691 rfl ?_
              refine K_iconst X dL_same_693 cii_2 ?_
              refine K_callVE X (c_X5_box l D b hsh4 _ _ _ _ _ hP hR hI) my_X5_box mv_X5_box wm_L_43 (sf_c hsh4) rfl ⟨rfl, rfl, Nat.le_of_ble_eq_true rfl, Nat.le_of_ble_eq_true rfl, Nat.le_of_ble_eq_true rfl, Nat.le_of_ble_eq_true rfl⟩ rfl rfl (Nat.le_of_ble_eq_true rfl) dL_same_694 ?_
              refine K_aload X 7 dL_same_697 rfl ?_
              refine K_iload X 1 dL_same_699 rfl ?_
              refine K_iald X _ hk3 rfl (by omega) (by decide) (x := nI (fS (gP f v) (q 2))) ((hS.2.2.2.2 v hv11).trans (by rw [show fS (gP f v) 0 = 0 from rfl, Nat.sub_zero])) dL_same_701 ?_
              refine K_icmp_ne (tgt := 717) X dL_same_702 (by decide) (fun c702 => ?_) (fun c702 => ?_)
              · exact absurd (a_box2 hJ (by omega)) c702
              · refine K_aload_n X 8 dL_same_705 rfl rfl ?_
                refine K_iload X 1 dL_same_706 rfl ?_
                refine K_iconst X dL_same_708 cii_3 ?_
                refine K_callVE X (c_X5_box l D b hsh4 _ _ _ _ _ hP hR hI) my_X5_box mv_X5_box wm_L_43 (sf_c hsh4) rfl ⟨rfl, rfl, Nat.le_of_ble_eq_true rfl, Nat.le_of_ble_eq_true rfl, Nat.le_of_ble_eq_true rfl, Nat.le_of_ble_eq_true rfl⟩ rfl rfl (Nat.le_of_ble_eq_true rfl) dL_same_709 ?_
                refine K_iload X 0 dL_same_712 rfl ?_
                refine K_icmp_eq (tgt := 719) X dL_same_714 (by decide) (fun c714 => ?_) (fun c714 => ?_)
                · refine K_iload X 1 dL_same_719 rfl ?_
                  refine K_iconst X dL_same_721 cii_5 ?_
                  refine K_icmpN_le (tgt := 759) X dL_same_722 (by decide) (by omega) (by omega) (fun c722 => ?_) (fun c722 => ?_)
                  · refine K_aload_n X 8 dL_same_759 rfl rfl ?_
                    refine K_iload X 1 dL_same_760 rfl ?_
                    refine K_callVE X (c_X5_cut l D b hsh4 _ _ _ _ hP hR hI) my_X5_cut mv_X5_cut wm_L_49 (sf_c hsh4) rfl ⟨rfl, rfl, Nat.le_of_ble_eq_true rfl, Nat.le_of_ble_eq_true rfl, Nat.le_of_ble_eq_true rfl, Nat.le_of_ble_eq_true rfl⟩ rfl rfl (Nat.le_of_ble_eq_true rfl) dL_same_762 ?_
                    refine K_aload_n X 10 dL_same_765 rfl rfl ?_
                    refine K_bipush X dL_same_766 cib_22 ?_
                    refine K_iload X 1 dL_same_768 rfl ?_
                    refine K_iaddN X dL_same_770 ?_
                    refine K_iald X _ hG4.1 rfl (by omega) (by decide) ((ar_q hS.1.2 _)) dL_same_771 ?_
                    refine K_icmp_eq (tgt := 777) X dL_same_772 (by decide) (fun c772 => ?_) (fun c772 => ?_)
                    · refine K_iinc X 1 (ls' := [(12, _), (13, _), (5, _), (6, _), (8, _), (9, _), (10, _), (11, _), (0, _), (1, _), (2, _), (3, _), (4, _)]) dL_same_777 rfl (inc_1 _) (by decide) rfl ?_
                      refine K_goto (tgt := 624) X dL_same_780 (by decide) ?_
                      exact K_sub [0, 2, 3, 4, 5, 6, 7, 8, 9, 10, 11, 12] rfl (ihv (by omega))
                    · exact absurd (a_cut hJ (by omega)) c772
                  · exact absurd (show v ≤ 5 from by omega) c722
                · exact absurd (a_box3 hJ (by omega) o1) c714
      · refine K_aload X 5 dL_same_631 rfl ?_
        refine K_iload X 0 dL_same_633 rfl ?_
        refine K_iald X _ hk2 rfl (by omega) (by decide) (o2) dL_same_635 ?_
        refine K_ifN_ne (tgt := 644) X dL_same_636 (by decide) (by omega) (fun c636 => ?_) (fun c636 => ?_)
        · refine K_aload X 5 dL_same_644 rfl ?_
          refine K_iload X 0 dL_same_646 rfl ?_
          refine K_iald X _ hk2 rfl (by omega) (by decide) (o2) dL_same_648 ?_
          exact hv649 _ _ (⟨rfl, by cases o with | none => exact absurd rfl c636 | some t => rfl⟩)
        · refine K_bipush X dL_same_639 cib_m6 ?_
          refine K_goto (tgt := 649) X dL_same_641 (by decide) ?_
          exact hv649 _ _ (⟨rfl, by cases o with | none => rfl | some t => exact absurd c636 (Nat.succ_ne_zero t)⟩)
  exact K_sub [0, 1, 2, 3, 4, 5, 6, 7, 8, 9, 10, 11] rfl (loop2 0 (Nat.zero_le _))
