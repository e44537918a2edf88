/-! THE LAW'S LOOP -/
set_option maxHeartbeats 8000000 in
set_option maxRecDepth 100000 in
theorem br_all (l : Launch) (D : KD) (b : Nat) {sh : List KSh} (hsh : shP sh) (hG : GS sh 190) (σ : KS) (q i f N : Nat → Nat) (r : Nat) (hs : Nat → Nat → Nat) (T : Nat → Nat) (n t : Nat) (hL : CI σ N r hs T n) (hJJ : JJ q i f N) (hGd : Gd (1000 + 4000000 * t) N) (h0 : q 0 ≤ t) (ht : t < 44) (x y : Int32) (kd k iv bx tr g : Nat) (hk : q 2 = 0 ∧ k = 0 ∨ k < q 2) (hiv : iv = 1 ∧ (k < q 2 ∧ 0 < f (4 * k + 1)) ∨ iv = 0 ∧ ¬ (k < q 2 ∧ 0 < f (4 * k + 1))) (hbx : bx < 6) (htr : tr < 5) (hg1 : 1 ≤ g) (hg2 : g ≤ 20000) (hkd : kd < 22) {pg : Program} {e : Env} {s : State} {m : MethodId} {below : List Frame} {meth : Method} {c : Code} {ca sl z : Nat} (hca : ca ≤ room_1.cells) (hsl : sl ≤ room_1.slots) (X : KX pg s m meth c #[Value.ref z] D b cL_law 22 ret RL) (kS : ∀ σ' : KS, LX (t + 1) σ' → K pg l e room_1 s m #[Value.ref z] below meth c (lw_Z below #[Value.ref z] s) D b 22 ca sl sh σ' 1680 [(7, .int y), (0, .ref z), (1, rf b 0), (2, rf b 190), (3, rf b (190 + 1)), (4, rf b (190 + 2)), (5, .int (nI t))] []) (kC : ∀ σ' : KS, LX (t + 1) σ' → K pg l e room_1 s m #[Value.ref z] below meth c (lw_Z below #[Value.ref z] s) D b 22 ca sl sh σ' 1697 [(0, .ref z), (1, rf b 0), (2, rf b 190), (3, rf b (190 + 1)), (4, rf b (190 + 2)), (5, .int (nI t))] []) : K pg l e room_1 s m #[Value.ref z] below meth c (lw_Z below #[Value.ref z] s) D b 22 ca sl sh (wG σ 190 q i f) 252 [(0, .ref z), (1, rf b 0), (2, rf b 190), (3, rf b (190 + 1)), (4, rf b (190 + 2)), (5, .int (nI t)), (6, .int x), (7, .int y), (8, .int (nI kd)), (9, .int (nI k)), (10, .int (nI iv)), (11, .int (nI bx)), (12, .int (nI tr)), (13, .int (nI g))] [] := by
  obtain ⟨hJ, hF, hCn⟩ := id hJJ
  obtain ⟨hI, hU, hBb⟩ := id hGd
  have h2 := qi_2 hI
  have h16 := fi_2 hF
  have hB : N 10 < 2 ^ 31 := by have := hBb 10 (by omega); omega
  have hk16 : k < 16 := by omega
  have hiv1 : iv ≤ 1 := by rcases hiv with w | w <;> omega
  have hBq : 1000 ≤ 1000 + 4000000 * t := by omega
  refine K_iload X 8 dL_law_252 rfl ?_
  refine K_iconst X dL_law_254 cii_4 ?_
  refine K_icmpN_lt (tgt := 264) X dL_law_255 (by decide) (by omega) (by omega) (fun c255 => ?_) (fun c255 => ?_)
  · exact K_sub [0, 1, 2, 3, 4, 5, 6, 7, 8, 9, 10, 11, 12, 13] rfl (br_del l D b hsh hG σ q i f N r hs T n t hL hJJ hGd h0 ht x y kd k iv bx tr g hk hiv hbx htr hg1 hg2 c255 hca hsl X kS kC)
  · refine K_iload X 8 dL_law_258 rfl ?_
    refine K_iconst X dL_law_260 cii_4 ?_
    refine K_icmpN_ne (tgt := 603) X dL_law_261 (by decide) (by omega) (by omega) (fun c261 => ?_) (fun c261 => ?_)
    · refine K_iload X 8 dL_law_603 rfl ?_
      refine K_bipush X dL_law_605 cib_7 ?_
      refine K_icmpN_ge (tgt := 727) X dL_law_607 (by decide) (by omega) (by omega) (fun c607 => ?_) (fun c607 => ?_)
      · refine K_iload X 8 dL_law_727 rfl ?_
        refine K_bipush X dL_law_729 cib_11 ?_
        refine K_icmpN_ge (tgt := 851) X dL_law_731 (by decide) (by omega) (by omega) (fun c731 => ?_) (fun c731 => ?_)
        · refine K_iload X 8 dL_law_851 rfl ?_
          refine K_bipush X dL_law_853 cib_11 ?_
          refine K_icmpN_ne (tgt := 969) X dL_law_855 (by decide) (by omega) (by omega) (fun c855 => ?_) (fun c855 => ?_)
          · refine K_iload X 8 dL_law_969 rfl ?_
            refine K_bipush X dL_law_971 cib_12 ?_
            refine K_icmpN_ne (tgt := 1059) X dL_law_973 (by decide) (by omega) (by omega) (fun c973 => ?_) (fun c973 => ?_)
            · refine K_iload X 8 dL_law_1059 rfl ?_
              refine K_bipush X dL_law_1061 cib_16 ?_
              refine K_icmpN_ge (tgt := 1380) X dL_law_1063 (by decide) (by omega) (by omega) (fun c1063 => ?_) (fun c1063 => ?_)
              · refine K_iload X 8 dL_law_1380 rfl ?_
                refine K_bipush X dL_law_1382 cib_18 ?_
                refine K_icmpN_ge (tgt := 1439) X dL_law_1384 (by decide) (by omega) (by omega) (fun c1384 => ?_) (fun c1384 => ?_)
                · refine K_iload X 8 dL_law_1439 rfl ?_
                  refine K_bipush X dL_law_1441 cib_18 ?_
                  refine K_icmpN_ne (tgt := 1484) X dL_law_1443 (by decide) (by omega) (by omega) (fun c1443 => ?_) (fun c1443 => ?_)
                  · refine K_iload X 8 dL_law_1484 rfl ?_
                    refine K_bipush X dL_law_1486 cib_19 ?_
                    refine K_icmpN_ne (tgt := 1544) X dL_law_1488 (by decide) (by omega) (by omega) (fun c1488 => ?_) (fun c1488 => ?_)
                    · refine K_iload X 8 dL_law_1544 rfl ?_
                      refine K_bipush X dL_law_1546 cib_20 ?_
                      refine K_icmpN_ne (tgt := 1603) X dL_law_1548 (by decide) (by omega) (by omega) (fun c1548 => ?_) (fun c1548 => ?_)
                      · exact K_sub [0, 1, 2, 3, 4, 5, 6, 7, 8, 9, 10, 11, 12, 13] rfl (br_price l D b hsh hG σ q i f N r hs T n t hL hJJ hGd h0 ht x y kd k iv bx tr g hk hiv hbx htr hg1 hg2  hca hsl X kS kC)
                      · exact K_sub [0, 1, 2, 3, 4, 5, 6, 7, 8, 9, 10, 11, 12, 13] rfl (br_cut l D b hsh hG σ q i f N r hs T n t hL hJJ hGd h0 ht x y kd k iv bx tr g hk hiv hbx htr hg1 hg2  hca hsl X kS kC)
                    · exact K_sub [0, 1, 2, 3, 4, 5, 6, 7, 8, 9, 10, 11, 12, 13] rfl (br_melt l D b hsh hG σ q i f N r hs T n t hL hJJ hGd h0 ht x y kd k iv bx tr g hk hiv hbx htr hg1 hg2  hca hsl X kS kC)
                  · exact K_sub [0, 1, 2, 3, 4, 5, 6, 7, 8, 9, 10, 11, 12, 13] rfl (br_close l D b hsh hG σ q i f N r hs T n t hL hJJ hGd h0 ht x y kd k iv bx tr g hk hiv hbx htr hg1 hg2  hca hsl X kS kC)
                · exact K_sub [0, 1, 2, 3, 4, 5, 6, 7, 8, 9, 10, 11, 12, 13] rfl (br_pass l D b hsh hG σ q i f N r hs T n t hL hJJ hGd h0 ht x y kd k iv bx tr g hk hiv hbx htr hg1 hg2  hca hsl X kS kC)
              · exact K_sub [0, 1, 2, 3, 4, 5, 6, 7, 8, 9, 10, 11, 12, 13] rfl (br_order l D b hsh hG σ q i f N r hs T n t hL hJJ hGd h0 ht x y kd k iv bx tr g hk hiv hbx htr hg1 hg2  hca hsl X kS kC)
            · exact K_sub [0, 1, 2, 3, 4, 5, 6, 7, 8, 9, 10, 11, 12, 13] rfl (br_throw l D b hsh hG σ q i f N r hs T n t hL hJJ hGd h0 ht x y kd k iv bx tr g hk hiv hbx htr hg1 hg2  hca hsl X kS kC)
          · exact K_sub [0, 1, 2, 3, 4, 5, 6, 7, 8, 9, 10, 11, 12, 13] rfl (br_toBox l D b hsh hG σ q i f N r hs T n t hL hJJ hGd h0 ht x y kd k iv bx tr g hk hiv hbx htr hg1 hg2  hca hsl X kS kC)
        · exact K_sub [0, 1, 2, 3, 4, 5, 6, 7, 8, 9, 10, 11, 12, 13] rfl (br_toTray l D b hsh hG σ q i f N r hs T n t hL hJJ hGd h0 ht x y kd k iv bx tr g hk hiv hbx htr hg1 hg2  hca hsl X kS kC)
      · exact K_sub [0, 1, 2, 3, 4, 5, 6, 7, 8, 9, 10, 11, 12, 13] rfl (br_ice l D b hsh hG σ q i f N r hs T n t hL hJJ hGd h0 ht x y kd k iv bx tr g hk hiv hbx htr hg1 hg2 ⟨by omega, by omega⟩ hca hsl X kS kC)
    · exact K_sub [0, 1, 2, 3, 4, 5, 6, 7, 8, 9, 10, 11, 12, 13] rfl (br_div l D b hsh hG σ q i f N r hs T n t hL hJJ hGd h0 ht x y kd k iv bx tr g hk hiv hbx htr hg1 hg2 c261 hca hsl X kS kC)

set_option maxHeartbeats 8000000 in
set_option maxRecDepth 100000 in
theorem law_loop {l : Launch} {D : KD} {b L : Nat} {xs : Nat → Int32} {pg : Program} {e : Env} {s : State} {m : MethodId} {below : List Frame} {meth : Method} {c : Code} {z : Nat} (hL260 : L ≤ 260) (hb : b = s.heap.size) (hX : va_X z L xs s s.heap) (hzs : z < s.heap.size) (X : KX pg s m meth c #[Value.ref z] D b cL_law 22 ret RL) : ∀ t : Nat, t ≤ 44 → ∀ (sh : List KSh) (τ : KS), shP sh → GS sh 190 → LX t τ → K pg l e room_1 s m #[Value.ref z] below meth c (lw_Z below #[Value.ref z] s) D b 22 (193 + 7 * t) (1517 + 142 * t) sh τ 88 [(5, .int (nI t)), (0, .ref z), (1, rf b 0), (2, rf b 190), (3, rf b (190 + 1)), (4, rf b (190 + 2))] [] := by
  have hzb : z < b := by rw [hb]; exact hzs
  refine kup (fun t ht ih => ?_)
  intro sh σ hsh hG hLX
  obtain ⟨q, i, f, N, r, hs, T, n, hL, hA, hJJ, hGd, h0⟩ := hLX
  refine K_st hA.id.symm ?_
  refine K_iload X 0 dL_law_88 rfl ?_
  refine K_bipush X dL_law_90 cib_44 ?_
  refine K_icmpN_ge (tgt := 1703) X dL_law_92 (by decide) (by omega) (by omega) (fun c92 => ?_) (fun c92 => ?_)
  · refine K_iconst X dL_law_1703 cii_1 ?_
    exact fun H locs lsA hR hS hl => va_forget (fun q hq => by have := hS.2.2 q hq; omega) (W.widen (k := 600000) (n := 7302250) (show _ ≤ 600000 from by omega) (show _ ≤ 7302250 from by omega) (lw_ret X.1 X.2.1 X.2.2.2.2.2.2.1 X.2.2.2.2.2.2.2.1 dL_law_1704))
  · have ht44 : t < 44 := by omega
    have hca : 193 + 7 * t ≤ room_1.cells := by show _ ≤ 600000; omega
    have hsl : 1517 + 142 * t ≤ room_1.slots := by show _ ≤ 7302250; omega
    have kN : ∀ (sh' : List KSh) (σ' : KS), shP sh' → GS sh' 190 → LX (t + 1) σ' → K pg l e room_1 s m #[Value.ref z] below meth c (lw_Z below #[Value.ref z] s) D b 22 (193 + 7 * (t + 1)) (1517 + 142 * (t + 1)) sh' σ' 1697 [(0, .ref z), (1, rf b 0), (2, rf b 190), (3, rf b (190 + 1)), (4, rf b (190 + 2)), (5, .int (nI t))] [] := by
      intro sh' σ' hsh' hG' hX'
      refine K_iinc X 5 (ls' := [(5, _), (0, _), (1, _), (2, _), (3, _), (4, _)]) dL_law_1697 rfl (inc_1 _) (by decide) rfl ?_
      refine K_goto (tgt := 88) X dL_law_1700 (by decide) ?_
      exact K_sub [0, 1, 2, 3, 4, 5] rfl (ih (by omega) sh' σ' hsh' hG' hX')
    have kC : ∀ σ' : KS, LX (t + 1) σ' → K pg l e room_1 s m #[Value.ref z] below meth c (lw_Z below #[Value.ref z] s) D b 22 (193 + 7 * t) (1517 + 142 * t) sh σ' 1697 [(0, .ref z), (1, rf b 0), (2, rf b 190), (3, rf b (190 + 1)), (4, rf b (190 + 2)), (5, .int (nI t))] [] := fun σ' h => K_widen (by omega) (by omega) (kN sh σ' hsh hG h)
    have kS : ∀ (y : Int32) (σ' : KS), LX (t + 1) σ' → K pg l e room_1 s m #[Value.ref z] below meth c (lw_Z below #[Value.ref z] s) D b 22 (193 + 7 * t) (1517 + 142 * t) sh σ' 1680 [(7, .int y), (0, .ref z), (1, rf b 0), (2, rf b 190), (3, rf b (190 + 1)), (4, rf b (190 + 2)), (5, .int (nI t))] [] := by
      intro y σ ⟨q, i, f, N, r, hs, T, n, hC, hA, hJJ, hGd, h0⟩
      have hBd : ∀ j, j < 11 → N j < 2 ^ 31 := fun j hj => by have := hGd.2.2 j hj; omega
      refine K_aload_n X 2 dL_law_1680 rfl rfl ?_
      refine K_iload X 0 dL_law_1681 rfl ?_
      refine K_iconst X dL_law_1683 cii_3 ?_
      refine K_ishr X dL_law_1684 (fun z1684 => ?_)
      refine K_aload_n X 3 dL_law_1685 rfl rfl ?_
      refine K_aload_n X 4 dL_law_1686 rfl rfl ?_
      refine K_aload X 5 dL_law_1687 rfl ?_
      refine K_callSP X (c_L_same l D b hsh hG σ q i f N r hs T n ⟨hC, hA⟩ hJJ hGd.1 hGd.2.1 hBd _) my_L_same wt_L_same wm_L_124 ⟨rfl, rfl, Nat.le_of_ble_eq_true rfl, Nat.le_of_ble_eq_true rfl, (show _ ≤ 600000 from by omega), (show _ ≤ 7302250 from by omega)⟩ rfl rfl (Nat.le_of_ble_eq_true rfl) dL_law_1689 (fun σ1689 h1689 => ?_)
      refine K_ifB_ne (tgt := 1697) X dL_law_1692 (by decide) (fun c1692 => ?_) (fun c1692 => ?_)
      · refine K_cs (ca' := 193 + 7 * (t + 1)) (sl' := 1517 + 142 * (t + 1)) (by omega) (by omega) ?_
        exact K_sub [1, 2, 3, 4, 5, 6] rfl (kN _ _ hsh.app hG.app ⟨q, i, f, N, r, hs, T, n, h1689.1, h1689.2, hJJ, hGd, h0⟩)
      · exact absurd c1692 (by decide)
    refine K_aload_s X 1 dL_law_95 rfl rfl ?_
    refine K_iconst X dL_law_96 cii_2 ?_
    refine K_iload X 0 dL_law_97 rfl ?_
    refine K_imulN X dL_law_99 ?_
    refine K_callSX X hX hzs hzb (c_L_cell l D b _ hL260 hzb _ (by omega)) my_L_cell wt_L_cell wm_L_79 ⟨rfl, rfl, Nat.le_of_ble_eq_true rfl, Nat.le_of_ble_eq_true rfl, hca, hsl⟩ rfl rfl (Nat.le_of_ble_eq_true rfl) dL_law_100 (fun r1 σ1 hr => ?_)
    obtain ⟨x, rfl, rfl⟩ := hr
    refine K_eq (st' := [.int x]) rfl ?_
    refine K_istore X (ls' := [(6, _), (5, _), (0, _), (1, _), (2, _), (3, _), (4, _)]) dL_law_103 (by decide) rfl ?_
    refine K_aload_s X 2 dL_law_105 rfl rfl ?_
    refine K_iconst X dL_law_106 cii_2 ?_
    refine K_iload X 1 dL_law_107 rfl ?_
    refine K_imulN X dL_law_109 ?_
    refine K_iconst X dL_law_110 cii_1 ?_
    refine K_iaddN X dL_law_111 ?_
    refine K_callSX X hX hzs hzb (c_L_cell l D b _ hL260 hzb _ (by omega)) my_L_cell wt_L_cell wm_L_79 ⟨rfl, rfl, Nat.le_of_ble_eq_true rfl, Nat.le_of_ble_eq_true rfl, hca, hsl⟩ rfl rfl (Nat.le_of_ble_eq_true rfl) dL_law_112 (fun r1 σ1 hr => ?_)
    obtain ⟨y, rfl, rfl⟩ := hr
    refine K_eq (st' := [.int y]) rfl ?_
    refine K_istore X (ls' := [(7, _), (6, _), (5, _), (0, _), (1, _), (2, _), (3, _), (4, _)]) dL_law_115 (by decide) rfl ?_
    refine K_via (Φ := fun σ' st' => ∃ u, u < 22 ∧ (wG σ 190 q i f) = σ' ∧ [.int (nI u)] = st') 134 (fun σ' st' hv => ?_) (fun hv134 => ?_)
    · obtain ⟨kd, hkd, rfl, rfl⟩ := hv
      refine K_istore X (ls' := [(8, _), (7, _), (6, _), (5, _), (0, _), (1, _), (2, _), (3, _), (4, _)]) dL_law_134 (by decide) rfl ?_
      obtain ⟨hJ, hF, hCn⟩ := id hJJ
      have h16 := fi_2 hF
      refine K_via (Φ := fun σ' st' => ∃ u, (q 2 = 0 ∧ u = 0 ∨ u < q 2) ∧ (wG σ 190 q i f) = σ' ∧ [.int (nI u)] = st') 156 (fun σ' st' hv => ?_) (fun hv156 => ?_)
      · obtain ⟨k, hk, rfl, rfl⟩ := hv
        have hk16 : k < 16 := by omega
        refine K_istore X (ls' := [(9, _), (8, _), (7, _), (6, _), (5, _), (0, _), (1, _), (2, _), (3, _), (4, _)]) dL_law_156 (by decide) rfl ?_
        refine K_via (Φ := fun σ' st' => ∃ u, (u = 1 ∧ (k < q 2 ∧ 0 < f (4 * k + 1)) ∨ u = 0 ∧ ¬ (k < q 2 ∧ 0 < f (4 * k + 1))) ∧ (wG σ 190 q i f) = σ' ∧ [.int (nI u)] = st') 181 (fun σ' st' hv => ?_) (fun hv181 => ?_)
        · obtain ⟨iv, hiv, rfl, rfl⟩ := hv
          refine K_istore X (ls' := [(10, _), (9, _), (8, _), (7, _), (6, _), (5, _), (0, _), (1, _), (2, _), (3, _), (4, _)]) dL_law_181 (by decide) rfl ?_
          refine K_iload X 3 dL_law_183 rfl ?_
          refine K_iconst X dL_law_185 cii_4 ?_
          refine K_ishr X dL_law_186 (fun z186 => ?_)
          refine K_via (Φ := fun σ' st' => ∃ u, (0 < u ∧ u ≤ 6) ∧ (wG σ 190 q i f) = σ' ∧ [.int (nI u), .int z186] = st') 204 (fun σ' st' hv => ?_) (fun hv204 => ?_)
          · obtain ⟨ub, hub, rfl, rfl⟩ := hv
            have hub0 : 0 < ub := hub.1
            refine K_callSE X (c_L_low l D b _ _ _ (by omega) (by omega)) my_L_low wt_L_low wm_L_30 ⟨rfl, rfl, Nat.le_of_ble_eq_true rfl, Nat.le_of_ble_eq_true rfl, hca, hsl⟩ rfl rfl (Nat.le_of_ble_eq_true rfl) dL_law_204 ?_
            obtain ⟨bx, hbxe⟩ : ∃ bx, bx = lz z186 % ub := ⟨_, rfl⟩
            rw [← hbxe]
            have hbxu : bx < ub := by rw [hbxe]; exact Nat.mod_lt _ hub0
            refine K_istore X (ls' := [(11, _), (10, _), (9, _), (8, _), (7, _), (6, _), (5, _), (0, _), (1, _), (2, _), (3, _), (4, _)]) dL_law_207 (by decide) rfl ?_
            refine K_iload X 4 dL_law_209 rfl ?_
            refine K_bipush X dL_law_211 cib_6 ?_
            refine K_ishr X dL_law_213 (fun z213 => ?_)
            refine K_iconst X dL_law_214 cii_5 ?_
            refine K_callSE X (c_L_low l D b _ _ _ (by omega) (by omega)) my_L_low wt_L_low wm_L_30 ⟨rfl, rfl, Nat.le_of_ble_eq_true rfl, Nat.le_of_ble_eq_true rfl, hca, hsl⟩ rfl rfl (Nat.le_of_ble_eq_true rfl) dL_law_215 ?_
            obtain ⟨tr, htre⟩ : ∃ tr, tr = lz z213 % 5 := ⟨_, rfl⟩
            rw [← htre]
            have htr : tr < 5 := by rw [htre]; exact Nat.mod_lt _ (by decide)
            refine K_istore X (ls' := [(12, _), (11, _), (10, _), (9, _), (8, _), (7, _), (6, _), (5, _), (0, _), (1, _), (2, _), (3, _), (4, _)]) dL_law_218 (by decide) rfl ?_
            refine K_iconst X dL_law_220 cii_1 ?_
            refine K_iload X 5 dL_law_221 rfl ?_
            refine K_iconst X dL_law_223 cii_3 ?_
            refine K_ishr X dL_law_224 (fun z224 => ?_)
            refine K_via (Φ := fun σ' st' => ∃ u, (0 < u ∧ u ≤ 20000) ∧ (wG σ 190 q i f) = σ' ∧ [.int (nI u), .int z224, .int (nI 1)] = st') 246 (fun σ' st' hv => ?_) (fun hv246 => ?_)
            · obtain ⟨ug, hug, rfl, rfl⟩ := hv
              have hug0 : 0 < ug := hug.1
              refine K_callSE X (c_L_low l D b _ _ _ (by omega) (by omega)) my_L_low wt_L_low wm_L_30 ⟨rfl, rfl, Nat.le_of_ble_eq_true rfl, Nat.le_of_ble_eq_true rfl, hca, hsl⟩ rfl rfl (Nat.le_of_ble_eq_true rfl) dL_law_246 ?_
              obtain ⟨gg, hgge⟩ : ∃ gg, gg = lz z224 % ug := ⟨_, rfl⟩
              rw [← hgge]
              have hggu : gg < ug := by rw [hgge]; exact Nat.mod_lt _ hug0
              refine K_iaddN X dL_law_249 ?_
              refine K_istore X (ls' := [(13, _), (12, _), (11, _), (10, _), (9, _), (8, _), (7, _), (6, _), (5, _), (0, _), (1, _), (2, _), (3, _), (4, _)]) dL_law_250 (by decide) rfl ?_
              exact K_sub [9, 10, 11, 12, 13, 8, 7, 6, 5, 4, 3, 2, 1, 0] rfl (br_all l D b hsh hG σ q i f N r hs T n t hL hJJ hGd h0 ht44 x y kd k iv bx tr (1 + gg) hk hiv (by omega) htr (by omega) (by omega) hkd hca hsl X (kS y) kC)
            · refine K_iload X 6 dL_law_225 rfl ?_
              refine K_bipush X dL_law_227 cib_7 ?_
              refine K_ishr X dL_law_229 (fun z229 => ?_)
              refine K_iconst X dL_law_230 cii_3 ?_
              refine K_callSE X (c_L_low l D b _ _ _ (by omega) (by omega)) my_L_low wt_L_low wm_L_30 ⟨rfl, rfl, Nat.le_of_ble_eq_true rfl, Nat.le_of_ble_eq_true rfl, hca, hsl⟩ rfl rfl (Nat.le_of_ble_eq_true rfl) dL_law_231 ?_
              refine K_ifN_ne (tgt := 243) X dL_law_234 (by decide) (by have : lz z229 % 3 < 3 := Nat.mod_lt _ (by decide); omega) (fun c234 => ?_) (fun c234 => ?_)
              · refine K_sipush X dL_law_243 cis_900 ?_
                exact hv246 _ _ (⟨_, ⟨by decide, by decide⟩, rfl, rfl⟩)
              · refine K_sipush X dL_law_237 cis_20000 ?_
                refine K_goto (tgt := 246) X dL_law_240 (by decide) ?_
                exact hv246 _ _ (⟨_, ⟨by decide, by decide⟩, rfl, rfl⟩)
          · refine K_iload X 4 dL_law_187 rfl ?_
            refine K_iconst X dL_law_189 cii_5 ?_
            refine K_ishr X dL_law_190 (fun z190 => ?_)
            refine K_iconst X dL_law_191 cii_3 ?_
            refine K_callSE X (c_L_low l D b _ _ _ (by omega) (by omega)) my_L_low wt_L_low wm_L_30 ⟨rfl, rfl, Nat.le_of_ble_eq_true rfl, Nat.le_of_ble_eq_true rfl, hca, hsl⟩ rfl rfl (Nat.le_of_ble_eq_true rfl) dL_law_192 ?_
            refine K_ifN_ne (tgt := 203) X dL_law_195 (by decide) (by have : lz z190 % 3 < 3 := Nat.mod_lt _ (by decide); omega) (fun c195 => ?_) (fun c195 => ?_)
            · refine K_iconst X dL_law_203 cii_3 ?_
              exact hv204 _ _ (⟨_, ⟨by decide, by decide⟩, rfl, rfl⟩)
            · refine K_bipush X dL_law_198 cib_6 ?_
              refine K_goto (tgt := 204) X dL_law_200 (by decide) ?_
              exact hv204 _ _ (⟨_, ⟨by decide, by decide⟩, rfl, rfl⟩)
        · refine K_aload_n X 7 dL_law_158 rfl rfl ?_
          refine K_iconst X dL_law_159 cii_2 ?_
          refine K_iald X _ hG.1 rfl (by omega) (by decide) ((wG_q _)) dL_law_160 ?_
          refine K_ifN_le (tgt := 180) X dL_law_161 (by decide) (by omega) (fun c161 => ?_) (fun c161 => ?_)
          · refine K_iconst X dL_law_180 cii_0 ?_
            exact hv181 _ _ (⟨0, Or.inr ⟨rfl, fun w => by omega⟩, rfl, rfl⟩)
          · have hkq : k < q 2 := by omega
            have b1 := fi_l1 hF hkq
            refine K_aload X 9 dL_law_164 rfl ?_
            refine K_iconst X dL_law_166 cii_4 ?_
            refine K_iload X 0 dL_law_167 rfl ?_
            refine K_imulN X dL_law_169 ?_
            refine K_iconst X dL_law_170 cii_1 ?_
            refine K_iaddN X dL_law_171 ?_
            refine K_iald X _ hG.2.2 rfl (by omega) (by decide) ((wG_f _)) dL_law_172 ?_
            refine K_ifN_le (tgt := 180) X dL_law_173 (by decide) (by omega) (fun c173 => ?_) (fun c173 => ?_)
            · refine K_iconst X dL_law_180 cii_0 ?_
              exact hv181 _ _ (⟨0, Or.inr ⟨rfl, fun w => by omega⟩, rfl, rfl⟩)
            · refine K_iconst X dL_law_176 cii_1 ?_
              refine K_goto (tgt := 181) X dL_law_177 (by decide) ?_
              exact hv181 _ _ (⟨1, Or.inl ⟨rfl, by omega, by omega⟩, rfl, rfl⟩)
      · refine K_aload_n X 6 dL_law_136 rfl rfl ?_
        refine K_iconst X dL_law_137 cii_2 ?_
        refine K_iald X _ hG.1 rfl (by omega) (by decide) ((wG_q _)) dL_law_138 ?_
        refine K_ifN_ne (tgt := 146) X dL_law_139 (by decide) (by omega) (fun c139 => ?_) (fun c139 => ?_)
        · refine K_iload X 1 dL_law_146 rfl ?_
          refine K_iconst X dL_law_148 cii_2 ?_
          refine K_ishr X dL_law_149 (fun z149 => ?_)
          refine K_aload_n X 6 dL_law_150 rfl rfl ?_
          refine K_iconst X dL_law_151 cii_2 ?_
          refine K_iald X _ hG.1 rfl (by omega) (by decide) ((wG_q _)) dL_law_152 ?_
          refine K_callSE X (c_L_low l D b _ _ _ (by omega) (by omega)) my_L_low wt_L_low wm_L_30 ⟨rfl, rfl, Nat.le_of_ble_eq_true rfl, Nat.le_of_ble_eq_true rfl, hca, hsl⟩ rfl rfl (Nat.le_of_ble_eq_true rfl) dL_law_153 ?_
          exact hv156 _ _ (⟨_, Or.inr (Nat.mod_lt _ (by omega)), rfl, rfl⟩)
        · refine K_iconst X dL_law_142 cii_0 ?_
          refine K_goto (tgt := 156) X dL_law_143 (by decide) ?_
          exact hv156 _ _ (⟨0, Or.inl ⟨c139, rfl⟩, rfl, rfl⟩)
    · refine K_iload X 2 dL_law_117 rfl ?_
      refine K_iconst X dL_law_119 cii_4 ?_
      refine K_icmpN_ge (tgt := 127) X dL_law_120 (by decide) (by omega) (by omega) (fun c120 => ?_) (fun c120 => ?_)
      · refine K_iload X 1 dL_law_127 rfl ?_
        refine K_bipush X dL_law_129 cib_22 ?_
        refine K_callSE X (c_L_low l D b _ _ _ (by omega) (by omega)) my_L_low wt_L_low wm_L_30 ⟨rfl, rfl, Nat.le_of_ble_eq_true rfl, Nat.le_of_ble_eq_true rfl, hca, hsl⟩ rfl rfl (Nat.le_of_ble_eq_true rfl) dL_law_131 ?_
        exact hv134 _ _ (⟨_, Nat.mod_lt _ (by decide), rfl, rfl⟩)
      · refine K_iconst X dL_law_123 cii_0 ?_
        refine K_goto (tgt := 134) X dL_law_124 (by decide) ?_
        exact hv134 _ _ (⟨0, by decide, rfl, rfl⟩)
