/-! THE LAW'S ACTS: lots that move or go, hours, the closing -/
theorem jj_no {q i f N : Nat → Nat} {k : Nat} (h : JJ q i f N) (hk : q 2 = 0 ∧ k = 0 ∨ k < q 2) (hn : ¬ (k < q 2 ∧ 0 < f (4 * k + 1))) : JJ q i (uN f (4 * k + 1) 0) N := by
  by_cases z : k < q 2
  · rw [uN_id (by omega)]
    exact h
  · have h0 : q 2 = 0 := by omega
    obtain ⟨⟨a, c, d, e, g, o⟩, ⟨f1, f2, f3, f4, f5, f6⟩, hC⟩ := h
    refine ⟨⟨a, c, d, e, ?_, fun t ht => by omega⟩, ⟨f1, f2, f3, f4, f5, fun t ht => by omega⟩, ?_⟩
    · rw [h0] at g ⊢
      exact g
    · unfold Cn at hC ⊢
      rw [h0] at hC ⊢
      exact hC
set_option maxHeartbeats 8000000 in
set_option maxRecDepth 100000 in
theorem br_toTray (l : Launch) (D : KD) (b : Nat) {sh : List KSh} (hsh : shP sh) (hG : GS sh 190) (σ : KS) (q i f N : Nat → Nat) (r : Nat) (hs : Nat → Nat → Nat) (T : Nat → Nat) (n t : Nat) (hL : CI σ N r hs T n) (hJJ : JJ q i f N) (hGd : Gd (1000 + 4000000 * t) N) (h0 : q 0 ≤ t) (ht : t < 44) (x y : Int32) (kd k iv bx tr g : Nat) (hk : q 2 = 0 ∧ k = 0 ∨ k < q 2) (hiv : iv = 1 ∧ (k < q 2 ∧ 0 < f (4 * k + 1)) ∨ iv = 0 ∧ ¬ (k < q 2 ∧ 0 < f (4 * k + 1))) (hbx : bx < 6) (htr : tr < 5) (hg1 : 1 ≤ g) (hg2 : g ≤ 20000)  {pg : Program} {e : Env} {s : State} {m : MethodId} {below : List Frame} {meth : Method} {c : Code} {ca sl z : Nat} (hca : ca ≤ room_1.cells) (hsl : sl ≤ room_1.slots) (X : KX pg s m meth c #[Value.ref z] D b cL_law 22 ret RL) (kS : ∀ σ' : KS, LX (t + 1) σ' → K pg l e room_1 s m #[Value.ref z] below meth c (lw_Z below #[Value.ref z] s) D b 22 ca sl sh σ' 1680 [(7, .int y), (0, .ref z), (1, rf b 0), (2, rf b 190), (3, rf b (190 + 1)), (4, rf b (190 + 2)), (5, .int (nI t))] []) (kC : ∀ σ' : KS, LX (t + 1) σ' → K pg l e room_1 s m #[Value.ref z] below meth c (lw_Z below #[Value.ref z] s) D b 22 ca sl sh σ' 1697 [(0, .ref z), (1, rf b 0), (2, rf b 190), (3, rf b (190 + 1)), (4, rf b (190 + 2)), (5, .int (nI t))] []) : K pg l e room_1 s m #[Value.ref z] below meth c (lw_Z below #[Value.ref z] s) D b 22 ca sl sh (wG σ 190 q i f) 734 [(0, .ref z), (1, rf b 0), (2, rf b 190), (3, rf b (190 + 1)), (4, rf b (190 + 2)), (5, .int (nI t)), (6, .int x), (7, .int y), (8, .int (nI kd)), (9, .int (nI k)), (10, .int (nI iv)), (11, .int (nI bx)), (12, .int (nI tr)), (13, .int (nI g))] [] := by
  obtain ⟨hJ, hF, hCn⟩ := id hJJ
  obtain ⟨hI, hU, hBb⟩ := id hGd
  have h2 := qi_2 hI
  have h16 := fi_2 hF
  have hB : N 10 < 2 ^ 31 := by have := hBb 10 (by omega); omega
  have hk16 : k < 16 := by omega
  have hiv1 : iv ≤ 1 := by rcases hiv with w | w <;> omega
  have hBq : 1000 ≤ 1000 + 4000000 * t := by omega
  have hfat := fAt_le f (6 + tr) (q 2)
  have hq1 := fi_1 hF
  refine K_bipush X dL_law_734 cib_6 ?_
  refine K_iload X 12 dL_law_736 rfl ?_
  refine K_iaddN X dL_law_738 ?_
  refine K_aload_n X 2 dL_law_739 rfl rfl ?_
  refine K_aload X 4 dL_law_740 rfl ?_
  refine K_callSE X (c_L_at l D b _ 190 _ _ _ _ hG hF (by omega)) my_L_at wt_L_at wm_L_16 ⟨rfl, rfl, Nat.le_of_ble_eq_true rfl, Nat.le_of_ble_eq_true rfl, hca, hsl⟩ rfl rfl (Nat.le_of_ble_eq_true rfl) dL_law_742 ?_
  refine K_ifN_ne (tgt := 752) X dL_law_745 (by decide) (by omega) (fun c745 => ?_) (fun c745 => ?_)
  · refine K_iconst X dL_law_752 cii_0 ?_
    refine K_istore X (ls' := [(14, _), (0, _), (1, _), (2, _), (3, _), (4, _), (5, _), (6, _), (7, _), (8, _), (9, _), (10, _), (11, _), (12, _), (13, _)]) dL_law_753 (by decide) rfl ?_
    refine K_aload_n X 2 dL_law_755 rfl rfl ?_
    refine K_iload X 10 dL_law_756 rfl ?_
    refine K_iconst X dL_law_758 cii_1 ?_
    refine K_iaddN X dL_law_759 ?_
    refine K_iload X 13 dL_law_760 rfl ?_
    refine K_callVP X (c_X5_toTray l D b hsh _ _ _ _ _ _ _ _ (hL.wg h2) hI hU hB) my_X5_toTray mv_X5_toTray wm_L_97 (sf_c hsh) rfl ⟨rfl, rfl, Nat.le_of_ble_eq_true rfl, Nat.le_of_ble_eq_true rfl, hca, hsl⟩ rfl rfl (Nat.le_of_ble_eq_true rfl) dL_law_762 (fun σ762 h762 => ?_)
    refine K_st (AR.id (AR.cf AR.wG h762.1)).symm ?_
    refine K_iload X 11 dL_law_765 rfl ?_
    refine K_ifN_ne (tgt := 774) X dL_law_767 (by decide) (by omega) (fun c767 => ?_) (fun c767 => ?_)
    · have his : k < q 2 ∧ 0 < f (4 * k + 1) := by rcases hiv with w | w; exact w.2; exact absurd w.1 c767
      have hod := od_tray_f (N := N) hJ hU hF his.1 his.2 htr c745
      refine K_iload X 0 dL_law_774 rfl ?_
      refine K_ifN_eq (tgt := 805) X dL_law_776 (by decide) (by omega) (fun c776 => ?_) (fun c776 => ?_)
      · refine K_bipush X dL_law_805 cib_m3 ?_
        refine K_icmp_eq (tgt := 812) X dL_law_807 (by decide) (fun c807 => ?_) (fun c807 => ?_)
        · refine K_aload X 5 dL_law_812 rfl ?_
          refine K_iconst X dL_law_814 cii_4 ?_
          refine K_iload X 10 dL_law_815 rfl ?_
          refine K_imulN X dL_law_817 ?_
          refine K_iconst X dL_law_818 cii_3 ?_
          refine K_iaddN X dL_law_819 ?_
          refine K_iload X 11 dL_law_820 rfl ?_
          refine K_ifN_eq (tgt := 838) X dL_law_822 (by decide) (by omega) (fun c822 => ?_) (fun c822 => ?_)
          · exact absurd c822 c767
          · refine K_iload X 0 dL_law_825 rfl ?_
            refine K_ifN_eq (tgt := 838) X dL_law_827 (by decide) (by omega) (fun c827 => ?_) (fun c827 => ?_)
            · refine K_aload X 5 dL_law_838 rfl ?_
              refine K_iconst X dL_law_840 cii_4 ?_
              refine K_iload X 10 dL_law_841 rfl ?_
              refine K_imulN X dL_law_843 ?_
              refine K_iconst X dL_law_844 cii_3 ?_
              refine K_iaddN X dL_law_845 ?_
              refine K_iald X _ hG.2.2 rfl (by omega) (by decide) ((wG_f _)) dL_law_846 ?_
              refine K_iast X _ hG.2.2 rfl (by omega) (by decide) dL_law_847 ?_
              refine K_st wG_uf ?_
              refine K_goto (tgt := 1680) X dL_law_848 (by decide) ?_
              rw [uN_id (N := f) (j := 4 * k + 3) rfl]
              exact K_sub [8, 1, 2, 3, 4, 5, 6] rfl (kS _ (LX.mk ((h762.n hod).wg h2) AR.wG hJJ (hGd.up (by omega)) (Nat.le_succ_of_le h0)))
            · exact absurd rfl c827
        · exact absurd (congrArg Prod.fst hod) c807
      · exact absurd rfl c776
    · have hno : ¬ (k < q 2 ∧ 0 < f (4 * k + 1)) := by rcases hiv with w | w; exact absurd (w.1.symm.trans c767) (by decide); exact w.2
      have hod : oToTray N (nI (k + 1)) (nI tr) = (-1, none) := od_no hJ hF (by omega) hno _
      refine K_iconst X dL_law_770 cii_m1 ?_
      refine K_goto (tgt := 807) X dL_law_771 (by decide) ?_
      refine K_icmp_eq (tgt := 812) X dL_law_807 (by decide) (fun c807 => ?_) (fun c807 => ?_)
      · refine K_aload X 5 dL_law_812 rfl ?_
        refine K_iconst X dL_law_814 cii_4 ?_
        refine K_iload X 10 dL_law_815 rfl ?_
        refine K_imulN X dL_law_817 ?_
        refine K_iconst X dL_law_818 cii_3 ?_
        refine K_iaddN X dL_law_819 ?_
        refine K_iload X 11 dL_law_820 rfl ?_
        refine K_ifN_eq (tgt := 838) X dL_law_822 (by decide) (by omega) (fun c822 => ?_) (fun c822 => ?_)
        · refine K_aload X 5 dL_law_838 rfl ?_
          refine K_iconst X dL_law_840 cii_4 ?_
          refine K_iload X 10 dL_law_841 rfl ?_
          refine K_imulN X dL_law_843 ?_
          refine K_iconst X dL_law_844 cii_3 ?_
          refine K_iaddN X dL_law_845 ?_
          refine K_iald X _ hG.2.2 rfl (by omega) (by decide) ((wG_f _)) dL_law_846 ?_
          refine K_iast X _ hG.2.2 rfl (by omega) (by decide) dL_law_847 ?_
          refine K_st wG_uf ?_
          refine K_goto (tgt := 1680) X dL_law_848 (by decide) ?_
          rw [uN_id (N := f) (j := 4 * k + 3) rfl]
          exact K_sub [8, 1, 2, 3, 4, 5, 6] rfl (kS _ (LX.mk ((h762.n hod).wg h2) AR.wG hJJ (hGd.up (by omega)) (Nat.le_succ_of_le h0)))
        · exact absurd c767 c822
      · exact absurd (congrArg Prod.fst hod) c807
  · refine K_iconst X dL_law_748 cii_1 ?_
    refine K_goto (tgt := 753) X dL_law_749 (by decide) ?_
    refine K_istore X (ls' := [(14, _), (0, _), (1, _), (2, _), (3, _), (4, _), (5, _), (6, _), (7, _), (8, _), (9, _), (10, _), (11, _), (12, _), (13, _)]) dL_law_753 (by decide) rfl ?_
    refine K_aload_n X 2 dL_law_755 rfl rfl ?_
    refine K_iload X 10 dL_law_756 rfl ?_
    refine K_iconst X dL_law_758 cii_1 ?_
    refine K_iaddN X dL_law_759 ?_
    refine K_iload X 13 dL_law_760 rfl ?_
    refine K_callVP X (c_X5_toTray l D b hsh _ _ _ _ _ _ _ _ (hL.wg h2) hI hU hB) my_X5_toTray mv_X5_toTray wm_L_97 (sf_c hsh) rfl ⟨rfl, rfl, Nat.le_of_ble_eq_true rfl, Nat.le_of_ble_eq_true rfl, hca, hsl⟩ rfl rfl (Nat.le_of_ble_eq_true rfl) dL_law_762 (fun σ762 h762 => ?_)
    refine K_st (AR.id (AR.cf AR.wG h762.1)).symm ?_
    refine K_iload X 11 dL_law_765 rfl ?_
    refine K_ifN_ne (tgt := 774) X dL_law_767 (by decide) (by omega) (fun c767 => ?_) (fun c767 => ?_)
    · have his : k < q 2 ∧ 0 < f (4 * k + 1) := by rcases hiv with w | w; exact w.2; exact absurd w.1 c767
      have hod := od_tray_t (N := N) hJ hU hF his.1 his.2 htr c745
      refine K_iload X 0 dL_law_774 rfl ?_
      refine K_ifN_eq (tgt := 805) X dL_law_776 (by decide) (by omega) (fun c776 => ?_) (fun c776 => ?_)
      · exact absurd c776 (by decide)
      · refine K_aload X 5 dL_law_779 rfl ?_
        refine K_iconst X dL_law_781 cii_4 ?_
        refine K_iload X 10 dL_law_782 rfl ?_
        refine K_imulN X dL_law_784 ?_
        refine K_iald X _ hG.2.2 rfl (by omega) (by decide) ((wG_f _)) dL_law_785 ?_
        refine K_aload X 5 dL_law_786 rfl ?_
        refine K_iconst X dL_law_788 cii_4 ?_
        refine K_iload X 10 dL_law_789 rfl ?_
        refine K_imulN X dL_law_791 ?_
        refine K_iconst X dL_law_792 cii_2 ?_
        refine K_iaddN X dL_law_793 ?_
        refine K_iald X _ hG.2.2 rfl (by omega) (by decide) ((wG_f _)) dL_law_794 ?_
        refine K_aload_n X 3 dL_law_795 rfl rfl ?_
        refine K_iconst X dL_law_796 cii_1 ?_
        refine K_iald X _ hG.1 rfl (by omega) (by decide) ((wG_q _)) dL_law_797 ?_
        refine K_aload_n X 3 dL_law_798 rfl rfl ?_
        refine K_callSE X (c_L_price l D b _ 190 _ _ _ _ _ _ hG hF (fi_l0 hF his.1) (fi_l2 hF his.1) (by omega)) my_L_price wt_L_price wm_L_26 ⟨rfl, rfl, Nat.le_of_ble_eq_true rfl, Nat.le_of_ble_eq_true rfl, hca, hsl⟩ rfl rfl (Nat.le_of_ble_eq_true rfl) dL_law_799 ?_
        refine K_goto (tgt := 807) X dL_law_802 (by decide) ?_
        refine K_icmp_eq (tgt := 812) X dL_law_807 (by decide) (fun c807 => ?_) (fun c807 => ?_)
        · refine K_aload X 5 dL_law_812 rfl ?_
          refine K_iconst X dL_law_814 cii_4 ?_
          refine K_iload X 10 dL_law_815 rfl ?_
          refine K_imulN X dL_law_817 ?_
          refine K_iconst X dL_law_818 cii_3 ?_
          refine K_iaddN X dL_law_819 ?_
          refine K_iload X 11 dL_law_820 rfl ?_
          refine K_ifN_eq (tgt := 838) X dL_law_822 (by decide) (by omega) (fun c822 => ?_) (fun c822 => ?_)
          · exact absurd c822 c767
          · refine K_iload X 0 dL_law_825 rfl ?_
            refine K_ifN_eq (tgt := 838) X dL_law_827 (by decide) (by omega) (fun c827 => ?_) (fun c827 => ?_)
            · exact absurd c827 (by decide)
            · refine K_bipush X dL_law_830 cib_6 ?_
              refine K_iload X 13 dL_law_832 rfl ?_
              refine K_iaddN X dL_law_834 ?_
              refine K_goto (tgt := 847) X dL_law_835 (by decide) ?_
              refine K_iast X _ hG.2.2 rfl (by omega) (by decide) dL_law_847 ?_
              refine K_st wG_uf ?_
              refine K_goto (tgt := 1680) X dL_law_848 (by decide) ?_
              have hgd := g_toTray hGd (congrArg Prod.snd hod)
              exact K_sub [8, 1, 2, 3, 4, 5, 6] rfl (kS _ (LX.mk ((h762.s hod).wg (qi_2 hgd.1)) AR.wG (jj_place hJJ his.1 his.2 (by omega)) hgd (Nat.le_succ_of_le h0)))
        · exact absurd (congrArg Prod.fst hod) c807
    · have hno : ¬ (k < q 2 ∧ 0 < f (4 * k + 1)) := by rcases hiv with w | w; exact absurd (w.1.symm.trans c767) (by decide); exact w.2
      have hod : oToTray N (nI (k + 1)) (nI tr) = (-1, none) := od_no hJ hF (by omega) hno _
      refine K_iconst X dL_law_770 cii_m1 ?_
      refine K_goto (tgt := 807) X dL_law_771 (by decide) ?_
      refine K_icmp_eq (tgt := 812) X dL_law_807 (by decide) (fun c807 => ?_) (fun c807 => ?_)
      · refine K_aload X 5 dL_law_812 rfl ?_
        refine K_iconst X dL_law_814 cii_4 ?_
        refine K_iload X 10 dL_law_815 rfl ?_
        refine K_imulN X dL_law_817 ?_
        refine K_iconst X dL_law_818 cii_3 ?_
        refine K_iaddN X dL_law_819 ?_
        refine K_iload X 11 dL_law_820 rfl ?_
        refine K_ifN_eq (tgt := 838) X dL_law_822 (by decide) (by omega) (fun c822 => ?_) (fun c822 => ?_)
        · refine K_aload X 5 dL_law_838 rfl ?_
          refine K_iconst X dL_law_840 cii_4 ?_
          refine K_iload X 10 dL_law_841 rfl ?_
          refine K_imulN X dL_law_843 ?_
          refine K_iconst X dL_law_844 cii_3 ?_
          refine K_iaddN X dL_law_845 ?_
          refine K_iald X _ hG.2.2 rfl (by omega) (by decide) ((wG_f _)) dL_law_846 ?_
          refine K_iast X _ hG.2.2 rfl (by omega) (by decide) dL_law_847 ?_
          refine K_st wG_uf ?_
          refine K_goto (tgt := 1680) X dL_law_848 (by decide) ?_
          rw [uN_id (N := f) (j := 4 * k + 3) rfl]
          exact K_sub [8, 1, 2, 3, 4, 5, 6] rfl (kS _ (LX.mk ((h762.n hod).wg h2) AR.wG hJJ (hGd.up (by omega)) (Nat.le_succ_of_le h0)))
        · exact absurd c767 c822
      · exact absurd (congrArg Prod.fst hod) c807

set_option maxHeartbeats 8000000 in
set_option maxRecDepth 100000 in
theorem br_toBox (l : Launch) (D : KD) (b : Nat) {sh : List KSh} (hsh : shP sh) (hG : GS sh 190) (σ : KS) (q i f N : Nat → Nat) (r : Nat) (hs : Nat → Nat → Nat) (T : Nat → Nat) (n t : Nat) (hL : CI σ N r hs T n) (hJJ : JJ q i f N) (hGd : Gd (1000 + 4000000 * t) N) (h0 : q 0 ≤ t) (ht : t < 44) (x y : Int32) (kd k iv bx tr g : Nat) (hk : q 2 = 0 ∧ k = 0 ∨ k < q 2) (hiv : iv = 1 ∧ (k < q 2 ∧ 0 < f (4 * k + 1)) ∨ iv = 0 ∧ ¬ (k < q 2 ∧ 0 < f (4 * k + 1))) (hbx : bx < 6) (htr : tr < 5) (hg1 : 1 ≤ g) (hg2 : g ≤ 20000)  {pg : Program} {e : Env} {s : State} {m : MethodId} {below : List Frame} {meth : Method} {c : Code} {ca sl z : Nat} (hca : ca ≤ room_1.cells) (hsl : sl ≤ room_1.slots) (X : KX pg s m meth c #[Value.ref z] D b cL_law 22 ret RL) (kS : ∀ σ' : KS, LX (t + 1) σ' → K pg l e room_1 s m #[Value.ref z] below meth c (lw_Z below #[Value.ref z] s) D b 22 ca sl sh σ' 1680 [(7, .int y), (0, .ref z), (1, rf b 0), (2, rf b 190), (3, rf b (190 + 1)), (4, rf b (190 + 2)), (5, .int (nI t))] []) (kC : ∀ σ' : KS, LX (t + 1) σ' → K pg l e room_1 s m #[Value.ref z] below meth c (lw_Z below #[Value.ref z] s) D b 22 ca sl sh σ' 1697 [(0, .ref z), (1, rf b 0), (2, rf b 190), (3, rf b (190 + 1)), (4, rf b (190 + 2)), (5, .int (nI t))] []) : K pg l e room_1 s m #[Value.ref z] below meth c (lw_Z below #[Value.ref z] s) D b 22 ca sl sh (wG σ 190 q i f) 858 [(0, .ref z), (1, rf b 0), (2, rf b 190), (3, rf b (190 + 1)), (4, rf b (190 + 2)), (5, .int (nI t)), (6, .int x), (7, .int y), (8, .int (nI kd)), (9, .int (nI k)), (10, .int (nI iv)), (11, .int (nI bx)), (12, .int (nI tr)), (13, .int (nI g))] [] := by
  obtain ⟨hJ, hF, hCn⟩ := id hJJ
  obtain ⟨hI, hU, hBb⟩ := id hGd
  have h2 := qi_2 hI
  have h16 := fi_2 hF
  have hB : N 10 < 2 ^ 31 := by have := hBb 10 (by omega); omega
  have hk16 : k < 16 := by omega
  have hiv1 : iv ≤ 1 := by rcases hiv with w | w <;> omega
  have hBq : 1000 ≤ 1000 + 4000000 * t := by omega
  have hfat := fAt_le f bx (q 2)
  refine K_iload X 10 dL_law_858 rfl ?_
  refine K_ifN_eq (tgt := 893) X dL_law_860 (by decide) (by omega) (fun c860 => ?_) (fun c860 => ?_)
  · refine K_iconst X dL_law_893 cii_0 ?_
    refine K_istore X (ls' := [(14, _), (0, _), (1, _), (2, _), (3, _), (4, _), (5, _), (6, _), (7, _), (8, _), (9, _), (10, _), (11, _), (12, _), (13, _)]) dL_law_894 (by decide) rfl ?_
    have hno : ¬ (k < q 2 ∧ 0 < f (4 * k + 1)) := by rcases hiv with w | w; exact absurd (w.1.symm.trans c860) (by decide); exact w.2
    have hod : oToBox N (nI (k + 1)) (nI bx) = (-1, none) := od_no hJ hF (by omega) hno _
    refine K_aload X 5 dL_law_896 rfl ?_
    refine K_iconst X dL_law_898 cii_4 ?_
    refine K_iload X 10 dL_law_899 rfl ?_
    refine K_imulN X dL_law_901 ?_
    refine K_iconst X dL_law_902 cii_3 ?_
    refine K_iaddN X dL_law_903 ?_
    refine K_iload X 0 dL_law_904 rfl ?_
    refine K_ifN_eq (tgt := 914) X dL_law_906 (by decide) (by omega) (fun c906 => ?_) (fun c906 => ?_)
    · refine K_aload X 5 dL_law_914 rfl ?_
      refine K_iconst X dL_law_916 cii_4 ?_
      refine K_iload X 10 dL_law_917 rfl ?_
      refine K_imulN X dL_law_919 ?_
      refine K_iconst X dL_law_920 cii_3 ?_
      refine K_iaddN X dL_law_921 ?_
      refine K_iald X _ hG.2.2 rfl (by omega) (by decide) ((wG_f _)) dL_law_922 ?_
      refine K_iast X _ hG.2.2 rfl (by omega) (by decide) dL_law_923 ?_
      refine K_st wG_uf ?_
      rw [uN_id (N := f) (j := 4 * k + 3) rfl]
      refine K_aload_n X 2 dL_law_924 rfl rfl ?_
      refine K_iload X 10 dL_law_925 rfl ?_
      refine K_iconst X dL_law_927 cii_1 ?_
      refine K_iaddN X dL_law_928 ?_
      refine K_iload X 12 dL_law_929 rfl ?_
      refine K_callVP X (c_X5_toBox l D b hsh _ _ _ _ _ _ _ _ (hL.wg h2) hI hU hB) my_X5_toBox mv_X5_toBox wm_L_100 (sf_c hsh) rfl ⟨rfl, rfl, Nat.le_of_ble_eq_true rfl, Nat.le_of_ble_eq_true rfl, hca, hsl⟩ rfl rfl (Nat.le_of_ble_eq_true rfl) dL_law_931 (fun σ931 h931 => ?_)
      refine K_st (AR.id (AR.cf AR.wG h931.1)).symm ?_
      refine K_iload X 11 dL_law_934 rfl ?_
      refine K_ifN_ne (tgt := 943) X dL_law_936 (by decide) (by omega) (fun c936 => ?_) (fun c936 => ?_)
      · exact absurd c860 c936
      · refine K_iconst X dL_law_939 cii_m1 ?_
        refine K_goto (tgt := 961) X dL_law_940 (by decide) ?_
        refine K_icmp_eq (tgt := 966) X dL_law_961 (by decide) (fun c961 => ?_) (fun c961 => ?_)
        · refine K_goto (tgt := 1680) X dL_law_966 (by decide) ?_
          exact K_sub [8, 1, 2, 3, 4, 5, 6] rfl (kS _ (LX.mk ((h931.n hod).wg h2) AR.wG hJJ (hGd.up (by omega)) (Nat.le_succ_of_le h0)))
        · exact absurd (congrArg Prod.fst hod) c961
    · exact absurd rfl c906
  · have his : k < q 2 ∧ 0 < f (4 * k + 1) := by rcases hiv with w | w; exact w.2; exact absurd w.1 c860
    have bb3 := fi_l3 hF his.1
    refine K_aload X 4 dL_law_863 rfl ?_
    refine K_iconst X dL_law_865 cii_4 ?_
    refine K_iload X 9 dL_law_866 rfl ?_
    refine K_imulN X dL_law_868 ?_
    refine K_iconst X dL_law_869 cii_3 ?_
    refine K_iaddN X dL_law_870 ?_
    refine K_iald X _ hG.2.2 rfl (by omega) (by decide) ((wG_f _)) dL_law_871 ?_
    refine K_iload X 11 dL_law_872 rfl ?_
    refine K_icmpN_eq (tgt := 893) X dL_law_874 (by decide) (by omega) (by omega) (fun c874 => ?_) (fun c874 => ?_)
    · refine K_iconst X dL_law_893 cii_0 ?_
      refine K_istore X (ls' := [(14, _), (0, _), (1, _), (2, _), (3, _), (4, _), (5, _), (6, _), (7, _), (8, _), (9, _), (10, _), (11, _), (12, _), (13, _)]) dL_law_894 (by decide) rfl ?_
      have hod := od_box_f (N := N) hJ hU hF his.1 his.2 hbx (by omega)
      refine K_aload X 5 dL_law_896 rfl ?_
      refine K_iconst X dL_law_898 cii_4 ?_
      refine K_iload X 10 dL_law_899 rfl ?_
      refine K_imulN X dL_law_901 ?_
      refine K_iconst X dL_law_902 cii_3 ?_
      refine K_iaddN X dL_law_903 ?_
      refine K_iload X 0 dL_law_904 rfl ?_
      refine K_ifN_eq (tgt := 914) X dL_law_906 (by decide) (by omega) (fun c906 => ?_) (fun c906 => ?_)
      · refine K_aload X 5 dL_law_914 rfl ?_
        refine K_iconst X dL_law_916 cii_4 ?_
        refine K_iload X 10 dL_law_917 rfl ?_
        refine K_imulN X dL_law_919 ?_
        refine K_iconst X dL_law_920 cii_3 ?_
        refine K_iaddN X dL_law_921 ?_
        refine K_iald X _ hG.2.2 rfl (by omega) (by decide) ((wG_f _)) dL_law_922 ?_
        refine K_iast X _ hG.2.2 rfl (by omega) (by decide) dL_law_923 ?_
        refine K_st wG_uf ?_
        rw [uN_id (N := f) (j := 4 * k + 3) rfl]
        refine K_aload_n X 2 dL_law_924 rfl rfl ?_
        refine K_iload X 10 dL_law_925 rfl ?_
        refine K_iconst X dL_law_927 cii_1 ?_
        refine K_iaddN X dL_law_928 ?_
        refine K_iload X 12 dL_law_929 rfl ?_
        refine K_callVP X (c_X5_toBox l D b hsh _ _ _ _ _ _ _ _ (hL.wg h2) hI hU hB) my_X5_toBox mv_X5_toBox wm_L_100 (sf_c hsh) rfl ⟨rfl, rfl, Nat.le_of_ble_eq_true rfl, Nat.le_of_ble_eq_true rfl, hca, hsl⟩ rfl rfl (Nat.le_of_ble_eq_true rfl) dL_law_931 (fun σ931 h931 => ?_)
        refine K_st (AR.id (AR.cf AR.wG h931.1)).symm ?_
        refine K_iload X 11 dL_law_934 rfl ?_
        refine K_ifN_ne (tgt := 943) X dL_law_936 (by decide) (by omega) (fun c936 => ?_) (fun c936 => ?_)
        · refine K_iload X 0 dL_law_943 rfl ?_
          refine K_ifN_eq (tgt := 959) X dL_law_945 (by decide) (by omega) (fun c945 => ?_) (fun c945 => ?_)
          · refine K_bipush X dL_law_959 cib_m3 ?_
            refine K_icmp_eq (tgt := 966) X dL_law_961 (by decide) (fun c961 => ?_) (fun c961 => ?_)
            · refine K_goto (tgt := 1680) X dL_law_966 (by decide) ?_
              exact K_sub [8, 1, 2, 3, 4, 5, 6] rfl (kS _ (LX.mk ((h931.n hod).wg h2) AR.wG hJJ (hGd.up (by omega)) (Nat.le_succ_of_le h0)))
            · exact absurd (congrArg Prod.fst hod) c961
          · exact absurd rfl c945
        · exact absurd c936 c860
      · exact absurd rfl c906
    · refine K_iload X 11 dL_law_877 rfl ?_
      refine K_aload_n X 2 dL_law_879 rfl rfl ?_
      refine K_aload X 4 dL_law_880 rfl ?_
      refine K_callSE X (c_L_at l D b _ 190 _ _ _ _ hG hF (by omega)) my_L_at wt_L_at wm_L_16 ⟨rfl, rfl, Nat.le_of_ble_eq_true rfl, Nat.le_of_ble_eq_true rfl, hca, hsl⟩ rfl rfl (Nat.le_of_ble_eq_true rfl) dL_law_882 ?_
      refine K_iconst X dL_law_885 cii_3 ?_
      refine K_icmpN_ge (tgt := 893) X dL_law_886 (by decide) (by omega) (by omega) (fun c886 => ?_) (fun c886 => ?_)
      · refine K_iconst X dL_law_893 cii_0 ?_
        refine K_istore X (ls' := [(14, _), (0, _), (1, _), (2, _), (3, _), (4, _), (5, _), (6, _), (7, _), (8, _), (9, _), (10, _), (11, _), (12, _), (13, _)]) dL_law_894 (by decide) rfl ?_
        have hod := od_box_f (N := N) hJ hU hF his.1 his.2 hbx (by omega)
        refine K_aload X 5 dL_law_896 rfl ?_
        refine K_iconst X dL_law_898 cii_4 ?_
        refine K_iload X 10 dL_law_899 rfl ?_
        refine K_imulN X dL_law_901 ?_
        refine K_iconst X dL_law_902 cii_3 ?_
        refine K_iaddN X dL_law_903 ?_
        refine K_iload X 0 dL_law_904 rfl ?_
        refine K_ifN_eq (tgt := 914) X dL_law_906 (by decide) (by omega) (fun c906 => ?_) (fun c906 => ?_)
        · refine K_aload X 5 dL_law_914 rfl ?_
          refine K_iconst X dL_law_916 cii_4 ?_
          refine K_iload X 10 dL_law_917 rfl ?_
          refine K_imulN X dL_law_919 ?_
          refine K_iconst X dL_law_920 cii_3 ?_
          refine K_iaddN X dL_law_921 ?_
          refine K_iald X _ hG.2.2 rfl (by omega) (by decide) ((wG_f _)) dL_law_922 ?_
          refine K_iast X _ hG.2.2 rfl (by omega) (by decide) dL_law_923 ?_
          refine K_st wG_uf ?_
          rw [uN_id (N := f) (j := 4 * k + 3) rfl]
          refine K_aload_n X 2 dL_law_924 rfl rfl ?_
          refine K_iload X 10 dL_law_925 rfl ?_
          refine K_iconst X dL_law_927 cii_1 ?_
          refine K_iaddN X dL_law_928 ?_
          refine K_iload X 12 dL_law_929 rfl ?_
          refine K_callVP X (c_X5_toBox l D b hsh _ _ _ _ _ _ _ _ (hL.wg h2) hI hU hB) my_X5_toBox mv_X5_toBox wm_L_100 (sf_c hsh) rfl ⟨rfl, rfl, Nat.le_of_ble_eq_true rfl, Nat.le_of_ble_eq_true rfl, hca, hsl⟩ rfl rfl (Nat.le_of_ble_eq_true rfl) dL_law_931 (fun σ931 h931 => ?_)
          refine K_st (AR.id (AR.cf AR.wG h931.1)).symm ?_
          refine K_iload X 11 dL_law_934 rfl ?_
          refine K_ifN_ne (tgt := 943) X dL_law_936 (by decide) (by omega) (fun c936 => ?_) (fun c936 => ?_)
          · refine K_iload X 0 dL_law_943 rfl ?_
            refine K_ifN_eq (tgt := 959) X dL_law_945 (by decide) (by omega) (fun c945 => ?_) (fun c945 => ?_)
            · refine K_bipush X dL_law_959 cib_m3 ?_
              refine K_icmp_eq (tgt := 966) X dL_law_961 (by decide) (fun c961 => ?_) (fun c961 => ?_)
              · refine K_goto (tgt := 1680) X dL_law_966 (by decide) ?_
                exact K_sub [8, 1, 2, 3, 4, 5, 6] rfl (kS _ (LX.mk ((h931.n hod).wg h2) AR.wG hJJ (hGd.up (by omega)) (Nat.le_succ_of_le h0)))
              · exact absurd (congrArg Prod.fst hod) c961
            · exact absurd rfl c945
          · exact absurd c936 c860
        · exact absurd rfl c906
      · refine K_iconst X dL_law_889 cii_1 ?_
        refine K_goto (tgt := 894) X dL_law_890 (by decide) ?_
        refine K_istore X (ls' := [(14, _), (0, _), (1, _), (2, _), (3, _), (4, _), (5, _), (6, _), (7, _), (8, _), (9, _), (10, _), (11, _), (12, _), (13, _)]) dL_law_894 (by decide) rfl ?_
        have hod := od_box_t (N := N) hJJ hU his.1 his.2 hbx (by omega) (by omega)
        refine K_aload X 5 dL_law_896 rfl ?_
        refine K_iconst X dL_law_898 cii_4 ?_
        refine K_iload X 10 dL_law_899 rfl ?_
        refine K_imulN X dL_law_901 ?_
        refine K_iconst X dL_law_902 cii_3 ?_
        refine K_iaddN X dL_law_903 ?_
        refine K_iload X 0 dL_law_904 rfl ?_
        refine K_ifN_eq (tgt := 914) X dL_law_906 (by decide) (by omega) (fun c906 => ?_) (fun c906 => ?_)
        · exact absurd c906 (by decide)
        · refine K_iload X 12 dL_law_909 rfl ?_
          refine K_goto (tgt := 923) X dL_law_911 (by decide) ?_
          refine K_iast X _ hG.2.2 rfl (by omega) (by decide) dL_law_923 ?_
          refine K_st wG_uf ?_
          have hF2 := hF.uf (k := k) (j := 3) (v := bx) (by omega) (by omega) (by omega) (by omega) (by omega)
          refine K_aload_n X 2 dL_law_924 rfl rfl ?_
          refine K_iload X 10 dL_law_925 rfl ?_
          refine K_iconst X dL_law_927 cii_1 ?_
          refine K_iaddN X dL_law_928 ?_
          refine K_iload X 12 dL_law_929 rfl ?_
          refine K_callVP X (c_X5_toBox l D b hsh _ _ _ _ _ _ _ _ (hL.wg h2) hI hU hB) my_X5_toBox mv_X5_toBox wm_L_100 (sf_c hsh) rfl ⟨rfl, rfl, Nat.le_of_ble_eq_true rfl, Nat.le_of_ble_eq_true rfl, hca, hsl⟩ rfl rfl (Nat.le_of_ble_eq_true rfl) dL_law_931 (fun σ931 h931 => ?_)
          refine K_st (AR.id (AR.cf AR.wG h931.1)).symm ?_
          refine K_iload X 11 dL_law_934 rfl ?_
          refine K_ifN_ne (tgt := 943) X dL_law_936 (by decide) (by omega) (fun c936 => ?_) (fun c936 => ?_)
          · refine K_iload X 0 dL_law_943 rfl ?_
            refine K_ifN_eq (tgt := 959) X dL_law_945 (by decide) (by omega) (fun c945 => ?_) (fun c945 => ?_)
            · exact absurd c945 (by decide)
            · refine K_iload X 12 dL_law_948 rfl ?_
              refine K_aload_n X 3 dL_law_950 rfl rfl ?_
              refine K_aload X 5 dL_law_951 rfl ?_
              refine K_callSE X (c_L_at l D b _ 190 _ _ _ _ hG hF2 (by omega)) my_L_at wt_L_at wm_L_16 ⟨rfl, rfl, Nat.le_of_ble_eq_true rfl, Nat.le_of_ble_eq_true rfl, hca, hsl⟩ rfl rfl (Nat.le_of_ble_eq_true rfl) dL_law_953 ?_
              refine K_goto (tgt := 961) X dL_law_956 (by decide) ?_
              refine K_icmp_eq (tgt := 966) X dL_law_961 (by decide) (fun c961 => ?_) (fun c961 => ?_)
              · refine K_goto (tgt := 1680) X dL_law_966 (by decide) ?_
                have hgd := g_toBox hGd (congrArg Prod.snd hod)
                exact K_sub [8, 1, 2, 3, 4, 5, 6] rfl (kS _ (LX.mk ((h931.s hod).wg (qi_2 hgd.1)) AR.wG (jj_place hJJ his.1 his.2 (by omega)) hgd (Nat.le_succ_of_le h0)))
              · exact absurd (congrArg Prod.fst hod) c961
          · exact absurd c936 c860

set_option maxHeartbeats 8000000 in
set_option maxRecDepth 100000 in
theorem br_throw (l : Launch) (D : KD) (b : Nat) {sh : List KSh} (hsh : shP sh) (hG : GS sh 190) (σ : KS) (q i f N : Nat → Nat) (r : Nat) (hs : Nat → Nat → Nat) (T : Nat → Nat) (n t : Nat) (hL : CI σ N r hs T n) (hJJ : JJ q i f N) (hGd : Gd (1000 + 4000000 * t) N) (h0 : q 0 ≤ t) (ht : t < 44) (x y : Int32) (kd k iv bx tr g : Nat) (hk : q 2 = 0 ∧ k = 0 ∨ k < q 2) (hiv : iv = 1 ∧ (k < q 2 ∧ 0 < f (4 * k + 1)) ∨ iv = 0 ∧ ¬ (k < q 2 ∧ 0 < f (4 * k + 1))) (hbx : bx < 6) (htr : tr < 5) (hg1 : 1 ≤ g) (hg2 : g ≤ 20000)  {pg : Program} {e : Env} {s : State} {m : MethodId} {below : List Frame} {meth : Method} {c : Code} {ca sl z : Nat} (hca : ca ≤ room_1.cells) (hsl : sl ≤ room_1.slots) (X : KX pg s m meth c #[Value.ref z] D b cL_law 22 ret RL) (kS : ∀ σ' : KS, LX (t + 1) σ' → K pg l e room_1 s m #[Value.ref z] below meth c (lw_Z below #[Value.ref z] s) D b 22 ca sl sh σ' 1680 [(7, .int y), (0, .ref z), (1, rf b 0), (2, rf b 190), (3, rf b (190 + 1)), (4, rf b (190 + 2)), (5, .int (nI t))] []) (kC : ∀ σ' : KS, LX (t + 1) σ' → K pg l e room_1 s m #[Value.ref z] below meth c (lw_Z below #[Value.ref z] s) D b 22 ca sl sh σ' 1697 [(0, .ref z), (1, rf b 0), (2, rf b 190), (3, rf b (190 + 1)), (4, rf b (190 + 2)), (5, .int (nI t))] []) : K pg l e room_1 s m #[Value.ref z] below meth c (lw_Z below #[Value.ref z] s) D b 22 ca sl sh (wG σ 190 q i f) 976 [(0, .ref z), (1, rf b 0), (2, rf b 190), (3, rf b (190 + 1)), (4, rf b (190 + 2)), (5, .int (nI t)), (6, .int x), (7, .int y), (8, .int (nI kd)), (9, .int (nI k)), (10, .int (nI iv)), (11, .int (nI bx)), (12, .int (nI tr)), (13, .int (nI g))] [] := by
  obtain ⟨hJ, hF, hCn⟩ := id hJJ
  obtain ⟨hI, hU, hBb⟩ := id hGd
  have h2 := qi_2 hI
  have h16 := fi_2 hF
  have hB : N 10 < 2 ^ 31 := by have := hBb 10 (by omega); omega
  have hk16 : k < 16 := by omega
  have hiv1 : iv ≤ 1 := by rcases hiv with w | w <;> omega
  have hBq : 1000 ≤ 1000 + 4000000 * t := by omega
  refine K_iload X 6 dL_law_976 rfl ?_
  refine K_bipush X dL_law_978 cib_6 ?_
  refine K_ishr X dL_law_980 (fun z980 => ?_)
  refine K_iconst X dL_law_981 cii_3 ?_
  refine K_callSE X (c_L_low l D b _ _ _ (by omega) (by omega)) my_L_low wt_L_low wm_L_30 ⟨rfl, rfl, Nat.le_of_ble_eq_true rfl, Nat.le_of_ble_eq_true rfl, hca, hsl⟩ rfl rfl (Nat.le_of_ble_eq_true rfl) dL_law_982 ?_
  refine K_ifN_le (tgt := 991) X dL_law_985 (by decide) (by have : lz z980 % 3 < 3 := Nat.mod_lt _ (by decide); omega) (fun c985 => ?_) (fun c985 => ?_)
  · refine K_aload_n X 1 dL_law_991 rfl rfl ?_
    refine K_iload X 9 dL_law_992 rfl ?_
    refine K_iconst X dL_law_994 cii_1 ?_
    refine K_iaddN X dL_law_995 ?_
    refine K_callVP X (c_X5_throwAway l D b hsh _ _ _ _ _ _ _ (hL.wg h2) hI hU hB) my_X5_throwAway mv_X5_throwAway wm_L_103 (sf_c hsh) rfl ⟨rfl, rfl, Nat.le_of_ble_eq_true rfl, Nat.le_of_ble_eq_true rfl, hca, hsl⟩ rfl rfl (Nat.le_of_ble_eq_true rfl) dL_law_996 (fun σ996 h996 => ?_)
    refine K_st (AR.id (AR.cf AR.wG h996.1)).symm ?_
    refine K_iload X 10 dL_law_999 rfl ?_
    refine K_ifN_eq (tgt := 1016) X dL_law_1001 (by decide) (by omega) (fun c1001 => ?_) (fun c1001 => ?_)
    · have hno : ¬ (k < q 2 ∧ 0 < f (4 * k + 1)) := by rcases hiv with w | w; exact absurd (w.1.symm.trans c1001) (by decide); exact w.2
      have hod : oThrow N (nI (k + 1)) = (-1, none) := od_no hJ hF (by omega) hno _
      refine K_iconst X dL_law_1016 cii_m1 ?_
      refine K_icmp_eq (tgt := 1022) X dL_law_1017 (by decide) (fun c1017 => ?_) (fun c1017 => ?_)
      · refine K_aload_n X 2 dL_law_1022 rfl rfl ?_
        refine K_iconst X dL_law_1023 cii_5 ?_
        refine K_dup2 X dL_law_1024 rfl rfl ?_
        refine K_iald X _ hG.1 rfl (by omega) (by decide) ((wG_q _)) dL_law_1025 ?_
        refine K_iload X 10 dL_law_1026 rfl ?_
        refine K_ifN_eq (tgt := 1043) X dL_law_1028 (by decide) (by omega) (fun c1028 => ?_) (fun c1028 => ?_)
        · refine K_iconst X dL_law_1043 cii_0 ?_
          refine K_iaddN X dL_law_1044 ?_
          refine K_iast X _ hG.1 rfl (by omega) (by decide) dL_law_1045 ?_
          refine K_st wG_uq ?_
          refine K_st (show _ = wG σ996 190 q i f from congrArg (fun z => wG σ996 190 z i f) (uN_id rfl)) ?_
          refine K_aload X 4 dL_law_1046 rfl ?_
          refine K_iconst X dL_law_1048 cii_4 ?_
          refine K_iload X 9 dL_law_1049 rfl ?_
          refine K_imulN X dL_law_1051 ?_
          refine K_iconst X dL_law_1052 cii_1 ?_
          refine K_iaddN X dL_law_1053 ?_
          refine K_iconst X dL_law_1054 cii_0 ?_
          refine K_iast X _ hG.2.2 rfl (by omega) (by decide) dL_law_1055 ?_
          refine K_st wG_uf ?_
          refine K_goto (tgt := 1680) X dL_law_1056 (by decide) ?_
          exact K_sub [7, 0, 1, 2, 3, 4, 5] rfl (kS _ (LX.mk ((h996.n hod).wg h2) AR.wG (jj_no hJJ hk hno) (hGd.up (by omega)) (Nat.le_succ_of_le h0)))
        · exact absurd c1001 c1028
      · exact absurd (congrArg Prod.fst hod) c1017
    · have his : k < q 2 ∧ 0 < f (4 * k + 1) := by rcases hiv with w | w; exact w.2; exact absurd w.1 c1001
      have hod := od_throw (N := N) hJ hU hF his.1 his.2
      refine K_aload X 4 dL_law_1004 rfl ?_
      refine K_iconst X dL_law_1006 cii_4 ?_
      refine K_iload X 9 dL_law_1007 rfl ?_
      refine K_imulN X dL_law_1009 ?_
      refine K_iconst X dL_law_1010 cii_1 ?_
      refine K_iaddN X dL_law_1011 ?_
      refine K_iald X _ hG.2.2 rfl (by omega) (by decide) ((wG_f _)) dL_law_1012 ?_
      refine K_goto (tgt := 1017) X dL_law_1013 (by decide) ?_
      refine K_icmp_eq (tgt := 1022) X dL_law_1017 (by decide) (fun c1017 => ?_) (fun c1017 => ?_)
      · refine K_aload_n X 2 dL_law_1022 rfl rfl ?_
        refine K_iconst X dL_law_1023 cii_5 ?_
        refine K_dup2 X dL_law_1024 rfl rfl ?_
        refine K_iald X _ hG.1 rfl (by omega) (by decide) ((wG_q _)) dL_law_1025 ?_
        refine K_iload X 10 dL_law_1026 rfl ?_
        refine K_ifN_eq (tgt := 1043) X dL_law_1028 (by decide) (by omega) (fun c1028 => ?_) (fun c1028 => ?_)
        · exact absurd c1028 c1001
        · refine K_aload X 4 dL_law_1031 rfl ?_
          refine K_iconst X dL_law_1033 cii_4 ?_
          refine K_iload X 9 dL_law_1034 rfl ?_
          refine K_imulN X dL_law_1036 ?_
          refine K_iconst X dL_law_1037 cii_1 ?_
          refine K_iaddN X dL_law_1038 ?_
          refine K_iald X _ hG.2.2 rfl (by omega) (by decide) ((wG_f _)) dL_law_1039 ?_
          refine K_goto (tgt := 1044) X dL_law_1040 (by decide) ?_
          refine K_iaddN X dL_law_1044 ?_
          refine K_iast X _ hG.1 rfl (by omega) (by decide) dL_law_1045 ?_
          refine K_st wG_uq ?_
          refine K_aload X 4 dL_law_1046 rfl ?_
          refine K_iconst X dL_law_1048 cii_4 ?_
          refine K_iload X 9 dL_law_1049 rfl ?_
          refine K_imulN X dL_law_1051 ?_
          refine K_iconst X dL_law_1052 cii_1 ?_
          refine K_iaddN X dL_law_1053 ?_
          refine K_iconst X dL_law_1054 cii_0 ?_
          refine K_iast X _ hG.2.2 rfl (by omega) (by decide) dL_law_1055 ?_
          refine K_st wG_uf ?_
          refine K_goto (tgt := 1680) X dL_law_1056 (by decide) ?_
          have hgd := g_throw hGd (congrArg Prod.snd hod)
          exact K_sub [7, 0, 1, 2, 3, 4, 5] rfl (kS _ (LX.mk ((h996.s hod).wg (qi_2 hgd.1)) AR.wG (jj_throw hJJ his.1 his.2) hgd (Nat.le_succ_of_le h0)))
      · exact absurd (congrArg Prod.fst hod) c1017
  · refine K_goto (tgt := 1697) X dL_law_988 (by decide) ?_
    exact K_sub [0, 1, 2, 3, 4, 5] rfl (kC _ (LX.mk (hL.wg h2) AR.wG hJJ (hGd.up (by omega)) (Nat.le_succ_of_le h0)))

set_option maxHeartbeats 8000000 in
set_option maxRecDepth 100000 in
theorem br_pass (l : Launch) (D : KD) (b : Nat) {sh : List KSh} (hsh : shP sh) (hG : GS sh 190) (σ : KS) (q i f N : Nat → Nat) (r : Nat) (hs : Nat → Nat → Nat) (T : Nat → Nat) (n t : Nat) (hL : CI σ N r hs T n) (hJJ : JJ q i f N) (hGd : Gd (1000 + 4000000 * t) N) (h0 : q 0 ≤ t) (ht : t < 44) (x y : Int32) (kd k iv bx tr g : Nat) (hk : q 2 = 0 ∧ k = 0 ∨ k < q 2) (hiv : iv = 1 ∧ (k < q 2 ∧ 0 < f (4 * k + 1)) ∨ iv = 0 ∧ ¬ (k < q 2 ∧ 0 < f (4 * k + 1))) (hbx : bx < 6) (htr : tr < 5) (hg1 : 1 ≤ g) (hg2 : g ≤ 20000)  {pg : Program} {e : Env} {s : State} {m : MethodId} {below : List Frame} {meth : Method} {c : Code} {ca sl z : Nat} (hca : ca ≤ room_1.cells) (hsl : sl ≤ room_1.slots) (X : KX pg s m meth c #[Value.ref z] D b cL_law 22 ret RL) (kS : ∀ σ' : KS, LX (t + 1) σ' → K pg l e room_1 s m #[Value.ref z] below meth c (lw_Z below #[Value.ref z] s) D b 22 ca sl sh σ' 1680 [(7, .int y), (0, .ref z), (1, rf b 0), (2, rf b 190), (3, rf b (190 + 1)), (4, rf b (190 + 2)), (5, .int (nI t))] []) (kC : ∀ σ' : KS, LX (t + 1) σ' → K pg l e room_1 s m #[Value.ref z] below meth c (lw_Z below #[Value.ref z] s) D b 22 ca sl sh σ' 1697 [(0, .ref z), (1, rf b 0), (2, rf b 190), (3, rf b (190 + 1)), (4, rf b (190 + 2)), (5, .int (nI t))] []) : K pg l e room_1 s m #[Value.ref z] below meth c (lw_Z below #[Value.ref z] s) D b 22 ca sl sh (wG σ 190 q i f) 1387 [(0, .ref z), (1, rf b 0), (2, rf b 190), (3, rf b (190 + 1)), (4, rf b (190 + 2)), (5, .int (nI t)), (6, .int x), (7, .int y), (8, .int (nI kd)), (9, .int (nI k)), (10, .int (nI iv)), (11, .int (nI bx)), (12, .int (nI tr)), (13, .int (nI g))] [] := by
  obtain ⟨hJ, hF, hCn⟩ := id hJJ
  obtain ⟨hI, hU, hBb⟩ := id hGd
  have h2 := qi_2 hI
  have h16 := fi_2 hF
  have hB : N 10 < 2 ^ 31 := by have := hBb 10 (by omega); omega
  have hk16 : k < 16 := by omega
  have hiv1 : iv ≤ 1 := by rcases hiv with w | w <;> omega
  have hBq : 1000 ≤ 1000 + 4000000 * t := by omega
  have hq1 := fi_1 hF
  refine K_aload_n X 2 dL_law_1387 rfl rfl ?_
  refine K_iconst X dL_law_1388 cii_1 ?_
  refine K_iald X _ hG.1 rfl (by omega) (by decide) ((wG_q _)) dL_law_1389 ?_
  refine K_bipush X dL_law_1390 cib_10 ?_
  refine K_icmpN_ge (tgt := 1399) X dL_law_1392 (by decide) (by omega) (by omega) (fun c1392 => ?_) (fun c1392 => ?_)
  · refine K_iconst X dL_law_1399 cii_0 ?_
    refine K_istore X (ls' := [(14, _), (0, _), (1, _), (2, _), (3, _), (4, _), (5, _), (6, _), (7, _), (8, _), (9, _), (10, _), (11, _), (12, _), (13, _)]) dL_law_1400 (by decide) rfl ?_
    refine K_iload X 0 dL_law_1402 rfl ?_
    refine K_ifN_eq (tgt := 1414) X dL_law_1404 (by decide) (by omega) (fun c1404 => ?_) (fun c1404 => ?_)
    · have hod := od_pass_f (N := N) hJ hF (by omega)
      refine K_aload_n X 2 dL_law_1414 rfl rfl ?_
      refine K_callVP X (c_X5_pass l D b hsh _ _ _ _ _ _ (hL.wg h2) hI hU hB) my_X5_pass mv_X5_pass wm_L_109 (sf_c hsh) rfl ⟨rfl, rfl, Nat.le_of_ble_eq_true rfl, Nat.le_of_ble_eq_true rfl, hca, hsl⟩ rfl rfl (Nat.le_of_ble_eq_true rfl) dL_law_1415 (fun σ1415 h1415 => ?_)
      refine K_st (AR.id (AR.cf AR.wG h1415.1)).symm ?_
      refine K_iload X 0 dL_law_1418 rfl ?_
      refine K_ifN_eq (tgt := 1429) X dL_law_1420 (by decide) (by omega) (fun c1420 => ?_) (fun c1420 => ?_)
      · refine K_bipush X dL_law_1429 cib_m3 ?_
        refine K_icmp_eq (tgt := 1436) X dL_law_1431 (by decide) (fun c1431 => ?_) (fun c1431 => ?_)
        · refine K_goto (tgt := 1680) X dL_law_1436 (by decide) ?_
          exact K_sub [8, 1, 2, 3, 4, 5, 6] rfl (kS _ (LX.mk ((h1415.n hod).wg h2) AR.wG hJJ (hGd.up (by omega)) (Nat.le_succ_of_le h0)))
        · exact absurd (congrArg Prod.fst hod) c1431
      · exact absurd rfl c1420
    · exact absurd rfl c1404
  · refine K_iconst X dL_law_1395 cii_1 ?_
    refine K_goto (tgt := 1400) X dL_law_1396 (by decide) ?_
    refine K_istore X (ls' := [(14, _), (0, _), (1, _), (2, _), (3, _), (4, _), (5, _), (6, _), (7, _), (8, _), (9, _), (10, _), (11, _), (12, _), (13, _)]) dL_law_1400 (by decide) rfl ?_
    refine K_iload X 0 dL_law_1402 rfl ?_
    refine K_ifN_eq (tgt := 1414) X dL_law_1404 (by decide) (by omega) (fun c1404 => ?_) (fun c1404 => ?_)
    · exact absurd c1404 (by decide)
    · refine K_aload_n X 3 dL_law_1407 rfl rfl ?_
      refine K_aload_n X 4 dL_law_1408 rfl rfl ?_
      refine K_aload X 5 dL_law_1409 rfl ?_
      refine K_callSE0 X (c_L_hour l D b _ 190 _ _ _ hG hF) my_L_hour wt_L_hour wm_L_55 ⟨rfl, rfl, Nat.le_of_ble_eq_true rfl, Nat.le_of_ble_eq_true rfl, hca, hsl⟩ rfl rfl (Nat.le_of_ble_eq_true rfl) dL_law_1411 ?_
      have hod := od_pass_t (N := N) hJ (by omega)
      refine K_aload_n X 2 dL_law_1414 rfl rfl ?_
      refine K_callVP X (c_X5_pass l D b hsh _ _ _ _ _ _ (hL.wg h2) hI hU hB) my_X5_pass mv_X5_pass wm_L_109 (sf_c hsh) rfl ⟨rfl, rfl, Nat.le_of_ble_eq_true rfl, Nat.le_of_ble_eq_true rfl, hca, hsl⟩ rfl rfl (Nat.le_of_ble_eq_true rfl) dL_law_1415 (fun σ1415 h1415 => ?_)
      refine K_st (AR.id (AR.cf AR.wG h1415.1)).symm ?_
      refine K_iload X 0 dL_law_1418 rfl ?_
      refine K_ifN_eq (tgt := 1429) X dL_law_1420 (by decide) (by omega) (fun c1420 => ?_) (fun c1420 => ?_)
      · exact absurd c1420 (by decide)
      · refine K_aload_n X 3 dL_law_1423 rfl rfl ?_
        refine K_iconst X dL_law_1424 cii_1 ?_
        refine K_iald X _ hG.1 rfl (by omega) (by decide) (x := nI (q 1 + 1)) ((wG_q 1).trans (congrArg nI uN_s)) dL_law_1425 ?_
        refine K_goto (tgt := 1431) X dL_law_1426 (by decide) ?_
        refine K_icmp_eq (tgt := 1436) X dL_law_1431 (by decide) (fun c1431 => ?_) (fun c1431 => ?_)
        · refine K_goto (tgt := 1680) X dL_law_1436 (by decide) ?_
          have hgd := g_pass hGd hBq (congrArg Prod.snd hod)
          exact K_sub [8, 1, 2, 3, 4, 5, 6] rfl (kS _ (LX.mk ((h1415.s hod).wg (qi_2 hgd.1)) AR.wG (jj_hour hJJ hI (by omega)) hgd (Nat.le_succ_of_le h0)))
        · exact absurd (congrArg Prod.fst hod) c1431

set_option maxHeartbeats 8000000 in
set_option maxRecDepth 100000 in
theorem br_close (l : Launch) (D : KD) (b : Nat) {sh : List KSh} (hsh : shP sh) (hG : GS sh 190) (σ : KS) (q i f N : Nat → Nat) (r : Nat) (hs : Nat → Nat → Nat) (T : Nat → Nat) (n t : Nat) (hL : CI σ N r hs T n) (hJJ : JJ q i f N) (hGd : Gd (1000 + 4000000 * t) N) (h0 : q 0 ≤ t) (ht : t < 44) (x y : Int32) (kd k iv bx tr g : Nat) (hk : q 2 = 0 ∧ k = 0 ∨ k < q 2) (hiv : iv = 1 ∧ (k < q 2 ∧ 0 < f (4 * k + 1)) ∨ iv = 0 ∧ ¬ (k < q 2 ∧ 0 < f (4 * k + 1))) (hbx : bx < 6) (htr : tr < 5) (hg1 : 1 ≤ g) (hg2 : g ≤ 20000)  {pg : Program} {e : Env} {s : State} {m : MethodId} {below : List Frame} {meth : Method} {c : Code} {ca sl z : Nat} (hca : ca ≤ room_1.cells) (hsl : sl ≤ room_1.slots) (X : KX pg s m meth c #[Value.ref z] D b cL_law 22 ret RL) (kS : ∀ σ' : KS, LX (t + 1) σ' → K pg l e room_1 s m #[Value.ref z] below meth c (lw_Z below #[Value.ref z] s) D b 22 ca sl sh σ' 1680 [(7, .int y), (0, .ref z), (1, rf b 0), (2, rf b 190), (3, rf b (190 + 1)), (4, rf b (190 + 2)), (5, .int (nI t))] []) (kC : ∀ σ' : KS, LX (t + 1) σ' → K pg l e room_1 s m #[Value.ref z] below meth c (lw_Z below #[Value.ref z] s) D b 22 ca sl sh σ' 1697 [(0, .ref z), (1, rf b 0), (2, rf b 190), (3, rf b (190 + 1)), (4, rf b (190 + 2)), (5, .int (nI t))] []) : K pg l e room_1 s m #[Value.ref z] below meth c (lw_Z below #[Value.ref z] s) D b 22 ca sl sh (wG σ 190 q i f) 1446 [(0, .ref z), (1, rf b 0), (2, rf b 190), (3, rf b (190 + 1)), (4, rf b (190 + 2)), (5, .int (nI t)), (6, .int x), (7, .int y), (8, .int (nI kd)), (9, .int (nI k)), (10, .int (nI iv)), (11, .int (nI bx)), (12, .int (nI tr)), (13, .int (nI g))] [] := by
  obtain ⟨hJ, hF, hCn⟩ := id hJJ
  obtain ⟨hI, hU, hBb⟩ := id hGd
  have h2 := qi_2 hI
  have h16 := fi_2 hF
  have hB : N 10 < 2 ^ 31 := by have := hBb 10 (by omega); omega
  have hk16 : k < 16 := by omega
  have hiv1 : iv ≤ 1 := by rcases hiv with w | w <;> omega
  have hBq : 1000 ≤ 1000 + 4000000 * t := by omega
  refine K_iload X 6 dL_law_1446 rfl ?_
  refine K_bipush X dL_law_1448 cib_6 ?_
  refine K_ishr X dL_law_1450 (fun z1450 => ?_)
  refine K_iconst X dL_law_1451 cii_2 ?_
  refine K_callSE X (c_L_low l D b _ _ _ (by omega) (by omega)) my_L_low wt_L_low wm_L_30 ⟨rfl, rfl, Nat.le_of_ble_eq_true rfl, Nat.le_of_ble_eq_true rfl, hca, hsl⟩ rfl rfl (Nat.le_of_ble_eq_true rfl) dL_law_1452 ?_
  refine K_ifN_le (tgt := 1461) X dL_law_1455 (by decide) (by have : lz z1450 % 2 < 2 := Nat.mod_lt _ (by decide); omega) (fun c1455 => ?_) (fun c1455 => ?_)
  · refine K_aload_n X 2 dL_law_1461 rfl rfl ?_
    refine K_aload_n X 3 dL_law_1462 rfl rfl ?_
    refine K_aload X 4 dL_law_1463 rfl ?_
    refine K_callSE X (c_L_close l D b _ 190 _ _ _ hG hF) my_L_close wt_L_close wm_L_62 ⟨rfl, rfl, Nat.le_of_ble_eq_true rfl, Nat.le_of_ble_eq_true rfl, hca, hsl⟩ rfl rfl (Nat.le_of_ble_eq_true rfl) dL_law_1465 ?_
    refine K_istore X (ls' := [(14, _), (0, _), (1, _), (2, _), (3, _), (4, _), (5, _), (6, _), (7, _), (8, _), (9, _), (10, _), (11, _), (12, _), (13, _)]) dL_law_1468 (by decide) rfl ?_
    have hod := od_close (N := N) hJJ hU (by rw [← j_a hJ (show 0 < 10 from by omega) (by omega)]; omega)
    refine K_aload_n X 2 dL_law_1470 rfl rfl ?_
    refine K_callVP X (c_X5_close l D b hsh _ _ _ _ _ _ (hL.wg h2) hI hU hB) my_X5_close mv_X5_close wm_L_113 (sf_c hsh) rfl ⟨rfl, rfl, Nat.le_of_ble_eq_true rfl, Nat.le_of_ble_eq_true rfl, hca, hsl⟩ rfl rfl (Nat.le_of_ble_eq_true rfl) dL_law_1471 (fun σ1471 h1471 => ?_)
    refine K_st (AR.id (AR.cf AR.wG h1471.1)).symm ?_
    refine K_iload X 0 dL_law_1474 rfl ?_
    refine K_icmp_eq (tgt := 1481) X dL_law_1476 (by decide) (fun c1476 => ?_) (fun c1476 => ?_)
    · refine K_goto (tgt := 1680) X dL_law_1481 (by decide) ?_
      have hgd := g_close hGd hBq (congrArg Prod.snd hod)
      exact K_sub [8, 1, 2, 3, 4, 5, 6] rfl (kS _ (LX.mk ((h1471.s hod).wg (qi_2 hgd.1)) AR.wG (jj_close hJJ hU).1 hgd (show q 0 + 1 ≤ t + 1 from Nat.succ_le_succ h0)))
    · exact absurd (congrArg Prod.fst hod) c1476
  · refine K_goto (tgt := 1697) X dL_law_1458 (by decide) ?_
    exact K_sub [0, 1, 2, 3, 4, 5] rfl (kC _ (LX.mk (hL.wg h2) AR.wG hJJ (hGd.up (by omega)) (Nat.le_succ_of_le h0)))
