/-! THE LAW'S ACTS: settings, ice -/
theorem JJ.set8 {q i f N : Nat → Nat} (h : JJ q i f N) {v : Nat} (hv : v ≤ 500) : JJ (uN q 8 v) i f (uN N 8 v) := jj_set h (Or.inl rfl) (fun _ => hv) (fun w => by omega)
theorem JJ.set9 {q i f N : Nat → Nat} (h : JJ q i f N) {v : Nat} (hv : v ≤ 100) : JJ (uN q 9 v) i f (uN N 9 v) := jj_set h (Or.inr rfl) (fun w => by omega) (fun _ => hv)
set_option maxHeartbeats 8000000 in
set_option maxRecDepth 100000 in
theorem br_melt (l : Launch) (D : KD) (b : Nat) {sh : List KSh} (hsh : shP sh) (hG : GS sh 190) (σ : KS) (q i f N : Nat → Nat) (r : Nat) (hs : Nat → Nat → Nat) (T : Nat → Nat) (n t : Nat) (hL : CI σ N r hs T n) (hJJ : JJ q i f N) (hGd : Gd (1000 + 4000000 * t) N) (h0 : q 0 ≤ t) (ht : t < 44) (x y : Int32) (kd k iv bx tr g : Nat) (hk : q 2 = 0 ∧ k = 0 ∨ k < q 2) (hiv : iv = 1 ∧ (k < q 2 ∧ 0 < f (4 * k + 1)) ∨ iv = 0 ∧ ¬ (k < q 2 ∧ 0 < f (4 * k + 1))) (hbx : bx < 6) (htr : tr < 5) (hg1 : 1 ≤ g) (hg2 : g ≤ 20000)  {pg : Program} {e : Env} {s : State} {m : MethodId} {below : List Frame} {meth : Method} {c : Code} {ca sl z : Nat} (hca : ca ≤ room_1.cells) (hsl : sl ≤ room_1.slots) (X : KX pg s m meth c #[Value.ref z] D b cL_law 22 ret RL) (kS : ∀ σ' : KS, LX (t + 1) σ' → K pg l e room_1 s m #[Value.ref z] below meth c (lw_Z below #[Value.ref z] s) D b 22 ca sl sh σ' 1680 [(7, .int y), (0, .ref z), (1, rf b 0), (2, rf b 190), (3, rf b (190 + 1)), (4, rf b (190 + 2)), (5, .int (nI t))] []) (kC : ∀ σ' : KS, LX (t + 1) σ' → K pg l e room_1 s m #[Value.ref z] below meth c (lw_Z below #[Value.ref z] s) D b 22 ca sl sh σ' 1697 [(0, .ref z), (1, rf b 0), (2, rf b 190), (3, rf b (190 + 1)), (4, rf b (190 + 2)), (5, .int (nI t))] []) : K pg l e room_1 s m #[Value.ref z] below meth c (lw_Z below #[Value.ref z] s) D b 22 ca sl sh (wG σ 190 q i f) 1491 [(0, .ref z), (1, rf b 0), (2, rf b 190), (3, rf b (190 + 1)), (4, rf b (190 + 2)), (5, .int (nI t)), (6, .int x), (7, .int y), (8, .int (nI kd)), (9, .int (nI k)), (10, .int (nI iv)), (11, .int (nI bx)), (12, .int (nI tr)), (13, .int (nI g))] [] := by
  obtain ⟨hJ, hF, hCn⟩ := id hJJ
  obtain ⟨hI, hU, hBb⟩ := id hGd
  have h2 := qi_2 hI
  have h16 := fi_2 hF
  have hB : N 10 < 2 ^ 31 := by have := hBb 10 (by omega); omega
  have hk16 : k < 16 := by omega
  have hiv1 : iv ≤ 1 := by rcases hiv with w | w <;> omega
  have hBq : 1000 ≤ 1000 + 4000000 * t := by omega
  refine K_iload X 7 dL_law_1491 rfl ?_
  refine K_sipush X dL_law_1493 cis_501 ?_
  refine K_callSE X (c_L_low l D b _ _ _ (by omega) (by omega)) my_L_low wt_L_low wm_L_30 ⟨rfl, rfl, Nat.le_of_ble_eq_true rfl, Nat.le_of_ble_eq_true rfl, hca, hsl⟩ rfl rfl (Nat.le_of_ble_eq_true rfl) dL_law_1496 ?_
  obtain ⟨ml, hmle⟩ : ∃ ml, ml = lz y % 501 := ⟨_, rfl⟩
  rw [← hmle]
  have hml : ml < 501 := by rw [hmle]; exact Nat.mod_lt _ (by decide)
  refine K_istore X (ls' := [(14, _), (0, _), (1, _), (2, _), (3, _), (4, _), (5, _), (6, _), (7, _), (8, _), (9, _), (10, _), (11, _), (12, _), (13, _)]) dL_law_1499 (by decide) rfl ?_
  refine K_iload X 8 dL_law_1501 rfl ?_
  refine K_iconst X dL_law_1503 cii_5 ?_
  refine K_ishr X dL_law_1504 (fun z1504 => ?_)
  refine K_bipush X dL_law_1505 cib_101 ?_
  refine K_callSE X (c_L_low l D b _ _ _ (by omega) (by omega)) my_L_low wt_L_low wm_L_30 ⟨rfl, rfl, Nat.le_of_ble_eq_true rfl, Nat.le_of_ble_eq_true rfl, hca, hsl⟩ rfl rfl (Nat.le_of_ble_eq_true rfl) dL_law_1507 ?_
  obtain ⟨li, hlie⟩ : ∃ li, li = lz z1504 % 101 := ⟨_, rfl⟩
  rw [← hlie]
  have hli : li < 101 := by rw [hlie]; exact Nat.mod_lt _ (by decide)
  refine K_istore X (ls' := [(15, _), (14, _), (0, _), (1, _), (2, _), (3, _), (4, _), (5, _), (6, _), (7, _), (8, _), (9, _), (10, _), (11, _), (12, _), (13, _)]) dL_law_1510 (by decide) rfl ?_
  refine K_aload_n X 3 dL_law_1512 rfl rfl ?_
  refine K_iload X 1 dL_law_1513 rfl ?_
  refine K_iload X 0 dL_law_1515 rfl ?_
  have hod := od_melt (N := N) (q := q) hJ hml hli
  refine K_callVP X (c_X5_setMelting l D b hsh _ _ _ _ _ _ _ _ (hL.wg h2) hI hU hB) my_X5_setMelting mv_X5_setMelting wm_L_115 (sf_c hsh) rfl ⟨rfl, rfl, Nat.le_of_ble_eq_true rfl, Nat.le_of_ble_eq_true rfl, hca, hsl⟩ rfl rfl (Nat.le_of_ble_eq_true rfl) dL_law_1517 (fun σ1517 h1517 => ?_)
  refine K_st (AR.id (AR.cf AR.wG h1517.1)).symm ?_
  refine K_aload_n X 4 dL_law_1520 rfl rfl ?_
  refine K_bipush X dL_law_1521 cib_9 ?_
  refine K_iald X _ hG.1 rfl (by omega) (by decide) ((wG_q _)) dL_law_1523 ?_
  refine K_icmp_eq (tgt := 1529) X dL_law_1524 (by decide) (fun c1524 => ?_) (fun c1524 => ?_)
  · refine K_aload_n X 4 dL_law_1529 rfl rfl ?_
    refine K_bipush X dL_law_1530 cib_8 ?_
    refine K_iload X 1 dL_law_1532 rfl ?_
    refine K_iast X _ hG.1 rfl (by omega) (by decide) dL_law_1534 ?_
    refine K_st wG_uq ?_
    refine K_aload_n X 4 dL_law_1535 rfl rfl ?_
    refine K_bipush X dL_law_1536 cib_9 ?_
    refine K_iload X 0 dL_law_1538 rfl ?_
    refine K_iast X _ hG.1 rfl (by omega) (by decide) dL_law_1540 ?_
    refine K_st wG_uq ?_
    refine K_goto (tgt := 1680) X dL_law_1541 (by decide) ?_
    have hgd := g_setMelt hGd hBq (congrArg Prod.snd hod)
    exact K_sub [9, 2, 3, 4, 5, 6, 7] rfl (kS _ (LX.mk ((h1517.s hod).wg (qi_2 hgd.1)) AR.wG ((hJJ.set8 (by omega)).set9 (by omega)) hgd (Nat.le_succ_of_le h0)))
  · exact absurd (congrArg Prod.fst hod) c1524

set_option maxHeartbeats 8000000 in
set_option maxRecDepth 100000 in
theorem br_cut (l : Launch) (D : KD) (b : Nat) {sh : List KSh} (hsh : shP sh) (hG : GS sh 190) (σ : KS) (q i f N : Nat → Nat) (r : Nat) (hs : Nat → Nat → Nat) (T : Nat → Nat) (n t : Nat) (hL : CI σ N r hs T n) (hJJ : JJ q i f N) (hGd : Gd (1000 + 4000000 * t) N) (h0 : q 0 ≤ t) (ht : t < 44) (x y : Int32) (kd k iv bx tr g : Nat) (hk : q 2 = 0 ∧ k = 0 ∨ k < q 2) (hiv : iv = 1 ∧ (k < q 2 ∧ 0 < f (4 * k + 1)) ∨ iv = 0 ∧ ¬ (k < q 2 ∧ 0 < f (4 * k + 1))) (hbx : bx < 6) (htr : tr < 5) (hg1 : 1 ≤ g) (hg2 : g ≤ 20000)  {pg : Program} {e : Env} {s : State} {m : MethodId} {below : List Frame} {meth : Method} {c : Code} {ca sl z : Nat} (hca : ca ≤ room_1.cells) (hsl : sl ≤ room_1.slots) (X : KX pg s m meth c #[Value.ref z] D b cL_law 22 ret RL) (kS : ∀ σ' : KS, LX (t + 1) σ' → K pg l e room_1 s m #[Value.ref z] below meth c (lw_Z below #[Value.ref z] s) D b 22 ca sl sh σ' 1680 [(7, .int y), (0, .ref z), (1, rf b 0), (2, rf b 190), (3, rf b (190 + 1)), (4, rf b (190 + 2)), (5, .int (nI t))] []) (kC : ∀ σ' : KS, LX (t + 1) σ' → K pg l e room_1 s m #[Value.ref z] below meth c (lw_Z below #[Value.ref z] s) D b 22 ca sl sh σ' 1697 [(0, .ref z), (1, rf b 0), (2, rf b 190), (3, rf b (190 + 1)), (4, rf b (190 + 2)), (5, .int (nI t))] []) : K pg l e room_1 s m #[Value.ref z] below meth c (lw_Z below #[Value.ref z] s) D b 22 ca sl sh (wG σ 190 q i f) 1551 [(0, .ref z), (1, rf b 0), (2, rf b 190), (3, rf b (190 + 1)), (4, rf b (190 + 2)), (5, .int (nI t)), (6, .int x), (7, .int y), (8, .int (nI kd)), (9, .int (nI k)), (10, .int (nI iv)), (11, .int (nI bx)), (12, .int (nI tr)), (13, .int (nI g))] [] := by
  obtain ⟨hJ, hF, hCn⟩ := id hJJ
  obtain ⟨hI, hU, hBb⟩ := id hGd
  have h2 := qi_2 hI
  have h16 := fi_2 hF
  have hB : N 10 < 2 ^ 31 := by have := hBb 10 (by omega); omega
  have hk16 : k < 16 := by omega
  have hiv1 : iv ≤ 1 := by rcases hiv with w | w <;> omega
  have hBq : 1000 ≤ 1000 + 4000000 * t := by omega
  refine K_iload X 7 dL_law_1551 rfl ?_
  refine K_bipush X dL_law_1553 cib_11 ?_
  refine K_callSE X (c_L_low l D b _ _ _ (by omega) (by omega)) my_L_low wt_L_low wm_L_30 ⟨rfl, rfl, Nat.le_of_ble_eq_true rfl, Nat.le_of_ble_eq_true rfl, hca, hsl⟩ rfl rfl (Nat.le_of_ble_eq_true rfl) dL_law_1555 ?_
  obtain ⟨hh, hhhe⟩ : ∃ hh, hh = lz y % 11 := ⟨_, rfl⟩
  rw [← hhhe]
  have hhh : hh < 11 := by rw [hhhe]; exact Nat.mod_lt _ (by decide)
  refine K_istore X (ls' := [(14, _), (0, _), (1, _), (2, _), (3, _), (4, _), (5, _), (6, _), (7, _), (8, _), (9, _), (10, _), (11, _), (12, _), (13, _)]) dL_law_1558 (by decide) rfl ?_
  refine K_iload X 8 dL_law_1560 rfl ?_
  refine K_iconst X dL_law_1562 cii_4 ?_
  refine K_ishr X dL_law_1563 (fun z1563 => ?_)
  refine K_bipush X dL_law_1564 cib_91 ?_
  refine K_callSE X (c_L_low l D b _ _ _ (by omega) (by omega)) my_L_low wt_L_low wm_L_30 ⟨rfl, rfl, Nat.le_of_ble_eq_true rfl, Nat.le_of_ble_eq_true rfl, hca, hsl⟩ rfl rfl (Nat.le_of_ble_eq_true rfl) dL_law_1566 ?_
  obtain ⟨cu1, hcu1e⟩ : ∃ cu1, cu1 = lz z1563 % 91 := ⟨_, rfl⟩
  rw [← hcu1e]
  have hcu1 : cu1 < 91 := by rw [hcu1e]; exact Nat.mod_lt _ (by decide)
  refine K_istore X (ls' := [(15, _), (14, _), (0, _), (1, _), (2, _), (3, _), (4, _), (5, _), (6, _), (7, _), (8, _), (9, _), (10, _), (11, _), (12, _), (13, _)]) dL_law_1569 (by decide) rfl ?_
  refine K_aload_n X 3 dL_law_1571 rfl rfl ?_
  refine K_iload X 1 dL_law_1572 rfl ?_
  refine K_iload X 0 dL_law_1574 rfl ?_
  have hod := od_cut (N := N) (q := q) hJ hhh hcu1
  refine K_callVP X (c_X5_setCut l D b hsh _ _ _ _ _ _ _ _ (hL.wg h2) hI hU hB) my_X5_setCut mv_X5_setCut wm_L_118 (sf_c hsh) rfl ⟨rfl, rfl, Nat.le_of_ble_eq_true rfl, Nat.le_of_ble_eq_true rfl, hca, hsl⟩ rfl rfl (Nat.le_of_ble_eq_true rfl) dL_law_1576 (fun σ1576 h1576 => ?_)
  refine K_st (AR.id (AR.cf AR.wG h1576.1)).symm ?_
  refine K_aload_n X 4 dL_law_1579 rfl rfl ?_
  refine K_bipush X dL_law_1580 cib_22 ?_
  refine K_iload X 1 dL_law_1582 rfl ?_
  refine K_iaddN X dL_law_1584 ?_
  refine K_iald X _ hG.1 rfl (by omega) (by decide) ((wG_q _)) dL_law_1585 ?_
  refine K_icmp_eq (tgt := 1591) X dL_law_1586 (by decide) (fun c1586 => ?_) (fun c1586 => ?_)
  · refine K_aload_n X 4 dL_law_1591 rfl rfl ?_
    refine K_bipush X dL_law_1592 cib_22 ?_
    refine K_iload X 1 dL_law_1594 rfl ?_
    refine K_iaddN X dL_law_1596 ?_
    refine K_iload X 0 dL_law_1597 rfl ?_
    refine K_iast X _ hG.1 rfl (by omega) (by decide) dL_law_1599 ?_
    refine K_st wG_uq ?_
    refine K_goto (tgt := 1680) X dL_law_1600 (by decide) ?_
    have hgd := g_setCut hGd hBq (congrArg Prod.snd hod)
    exact K_sub [9, 2, 3, 4, 5, 6, 7] rfl (kS _ (LX.mk ((h1576.s hod).wg (qi_2 hgd.1)) AR.wG (jj_set2 hJJ (by omega) (by omega) (by omega) (by omega)) hgd (by rw [uN_n (by omega)]; omega)))
  · exact absurd (congrArg Prod.fst hod) c1586

set_option maxHeartbeats 8000000 in
set_option maxRecDepth 100000 in
theorem br_price (l : Launch) (D : KD) (b : Nat) {sh : List KSh} (hsh : shP sh) (hG : GS sh 190) (σ : KS) (q i f N : Nat → Nat) (r : Nat) (hs : Nat → Nat → Nat) (T : Nat → Nat) (n t : Nat) (hL : CI σ N r hs T n) (hJJ : JJ q i f N) (hGd : Gd (1000 + 4000000 * t) N) (h0 : q 0 ≤ t) (ht : t < 44) (x y : Int32) (kd k iv bx tr g : Nat) (hk : q 2 = 0 ∧ k = 0 ∨ k < q 2) (hiv : iv = 1 ∧ (k < q 2 ∧ 0 < f (4 * k + 1)) ∨ iv = 0 ∧ ¬ (k < q 2 ∧ 0 < f (4 * k + 1))) (hbx : bx < 6) (htr : tr < 5) (hg1 : 1 ≤ g) (hg2 : g ≤ 20000)  {pg : Program} {e : Env} {s : State} {m : MethodId} {below : List Frame} {meth : Method} {c : Code} {ca sl z : Nat} (hca : ca ≤ room_1.cells) (hsl : sl ≤ room_1.slots) (X : KX pg s m meth c #[Value.ref z] D b cL_law 22 ret RL) (kS : ∀ σ' : KS, LX (t + 1) σ' → K pg l e room_1 s m #[Value.ref z] below meth c (lw_Z below #[Value.ref z] s) D b 22 ca sl sh σ' 1680 [(7, .int y), (0, .ref z), (1, rf b 0), (2, rf b 190), (3, rf b (190 + 1)), (4, rf b (190 + 2)), (5, .int (nI t))] []) (kC : ∀ σ' : KS, LX (t + 1) σ' → K pg l e room_1 s m #[Value.ref z] below meth c (lw_Z below #[Value.ref z] s) D b 22 ca sl sh σ' 1697 [(0, .ref z), (1, rf b 0), (2, rf b 190), (3, rf b (190 + 1)), (4, rf b (190 + 2)), (5, .int (nI t))] []) : K pg l e room_1 s m #[Value.ref z] below meth c (lw_Z below #[Value.ref z] s) D b 22 ca sl sh (wG σ 190 q i f) 1603 [(0, .ref z), (1, rf b 0), (2, rf b 190), (3, rf b (190 + 1)), (4, rf b (190 + 2)), (5, .int (nI t)), (6, .int x), (7, .int y), (8, .int (nI kd)), (9, .int (nI k)), (10, .int (nI iv)), (11, .int (nI bx)), (12, .int (nI tr)), (13, .int (nI g))] [] := by
  obtain ⟨hJ, hF, hCn⟩ := id hJJ
  obtain ⟨hI, hU, hBb⟩ := id hGd
  have h2 := qi_2 hI
  have h16 := fi_2 hF
  have hB : N 10 < 2 ^ 31 := by have := hBb 10 (by omega); omega
  have hk16 : k < 16 := by omega
  have hiv1 : iv ≤ 1 := by rcases hiv with w | w <;> omega
  have hBq : 1000 ≤ 1000 + 4000000 * t := by omega
  refine K_iload X 7 dL_law_1603 rfl ?_
  refine K_bipush X dL_law_1605 cib_6 ?_
  refine K_callSE X (c_L_low l D b _ _ _ (by omega) (by omega)) my_L_low wt_L_low wm_L_30 ⟨rfl, rfl, Nat.le_of_ble_eq_true rfl, Nat.le_of_ble_eq_true rfl, hca, hsl⟩ rfl rfl (Nat.le_of_ble_eq_true rfl) dL_law_1607 ?_
  obtain ⟨fi, hfie⟩ : ∃ fi, fi = lz y % 6 := ⟨_, rfl⟩
  rw [← hfie]
  have hfi : fi < 6 := by rw [hfie]; exact Nat.mod_lt _ (by decide)
  refine K_istore X (ls' := [(14, _), (0, _), (1, _), (2, _), (3, _), (4, _), (5, _), (6, _), (7, _), (8, _), (9, _), (10, _), (11, _), (12, _), (13, _)]) dL_law_1610 (by decide) rfl ?_
  refine K_iconst X dL_law_1612 cii_1 ?_
  refine K_iload X 8 dL_law_1613 rfl ?_
  refine K_iconst X dL_law_1615 cii_3 ?_
  refine K_ishr X dL_law_1616 (fun z1616 => ?_)
  refine K_sipush X dL_law_1617 cis_9999 ?_
  refine K_callSE X (c_L_low l D b _ _ _ (by omega) (by omega)) my_L_low wt_L_low wm_L_30 ⟨rfl, rfl, Nat.le_of_ble_eq_true rfl, Nat.le_of_ble_eq_true rfl, hca, hsl⟩ rfl rfl (Nat.le_of_ble_eq_true rfl) dL_law_1620 ?_
  obtain ⟨p1, hp1e⟩ : ∃ p1, p1 = lz z1616 % 9999 := ⟨_, rfl⟩
  rw [← hp1e]
  have hp1 : p1 < 9999 := by rw [hp1e]; exact Nat.mod_lt _ (by decide)
  refine K_iaddN X dL_law_1623 ?_
  refine K_istore X (ls' := [(15, _), (14, _), (0, _), (1, _), (2, _), (3, _), (4, _), (5, _), (6, _), (7, _), (8, _), (9, _), (10, _), (11, _), (12, _), (13, _)]) dL_law_1624 (by decide) rfl ?_
  refine K_iconst X dL_law_1626 cii_1 ?_
  refine K_iload X 8 dL_law_1627 rfl ?_
  refine K_iconst X dL_law_1629 cii_5 ?_
  refine K_ishr X dL_law_1630 (fun z1630 => ?_)
  refine K_sipush X dL_law_1631 cis_9999 ?_
  refine K_callSE X (c_L_low l D b _ _ _ (by omega) (by omega)) my_L_low wt_L_low wm_L_30 ⟨rfl, rfl, Nat.le_of_ble_eq_true rfl, Nat.le_of_ble_eq_true rfl, hca, hsl⟩ rfl rfl (Nat.le_of_ble_eq_true rfl) dL_law_1634 ?_
  obtain ⟨p2, hp2e⟩ : ∃ p2, p2 = lz z1630 % 9999 := ⟨_, rfl⟩
  rw [← hp2e]
  have hp2 : p2 < 9999 := by rw [hp2e]; exact Nat.mod_lt _ (by decide)
  refine K_iaddN X dL_law_1637 ?_
  refine K_istore X (ls' := [(16, _), (15, _), (14, _), (0, _), (1, _), (2, _), (3, _), (4, _), (5, _), (6, _), (7, _), (8, _), (9, _), (10, _), (11, _), (12, _), (13, _)]) dL_law_1638 (by decide) rfl ?_
  refine K_aload_n X 4 dL_law_1640 rfl rfl ?_
  refine K_iload X 2 dL_law_1641 rfl ?_
  refine K_iload X 1 dL_law_1643 rfl ?_
  refine K_iload X 0 dL_law_1645 rfl ?_
  have hod := od_price (N := N) (q := q) hJ hfi (p := 1 + p1) (co := 1 + p2) (by omega) (by omega)
  refine K_callVP X (c_X5_setPrice l D b hsh _ _ _ _ _ _ _ _ _ (hL.wg h2) hI hU hB) my_X5_setPrice mv_X5_setPrice wm_L_121 (sf_c hsh) rfl ⟨rfl, rfl, Nat.le_of_ble_eq_true rfl, Nat.le_of_ble_eq_true rfl, hca, hsl⟩ rfl rfl (Nat.le_of_ble_eq_true rfl) dL_law_1647 (fun σ1647 h1647 => ?_)
  refine K_st (AR.id (AR.cf AR.wG h1647.1)).symm ?_
  refine K_aload_n X 5 dL_law_1650 rfl rfl ?_
  refine K_bipush X dL_law_1651 cib_10 ?_
  refine K_iload X 2 dL_law_1653 rfl ?_
  refine K_iaddN X dL_law_1655 ?_
  refine K_iald X _ hG.1 rfl (by omega) (by decide) ((wG_q _)) dL_law_1656 ?_
  refine K_icmp_eq (tgt := 1662) X dL_law_1657 (by decide) (fun c1657 => ?_) (fun c1657 => ?_)
  · refine K_aload_n X 5 dL_law_1662 rfl rfl ?_
    refine K_bipush X dL_law_1663 cib_10 ?_
    refine K_iload X 2 dL_law_1665 rfl ?_
    refine K_iaddN X dL_law_1667 ?_
    refine K_iload X 1 dL_law_1668 rfl ?_
    refine K_iast X _ hG.1 rfl (by omega) (by decide) dL_law_1670 ?_
    refine K_st wG_uq ?_
    refine K_aload_n X 5 dL_law_1671 rfl rfl ?_
    refine K_bipush X dL_law_1672 cib_16 ?_
    refine K_iload X 2 dL_law_1674 rfl ?_
    refine K_iaddN X dL_law_1676 ?_
    refine K_iload X 0 dL_law_1677 rfl ?_
    refine K_iast X _ hG.1 rfl (by omega) (by decide) dL_law_1679 ?_
    refine K_st wG_uq ?_
    have hgd := g_setPrice hGd hBq (congrArg Prod.snd hod)
    exact K_sub [10, 3, 4, 5, 6, 7, 8] rfl (kS _ (LX.mk ((h1647.s hod).wg (qi_2 hgd.1)) AR.wG (jj_set2 (jj_set2 hJJ (by omega) (by omega) (by omega) (by omega)) (by omega) (by omega) (by omega) (by omega)) hgd (by rw [uN_n (by omega), uN_n (by omega)]; omega)))
  · exact absurd (congrArg Prod.fst hod) c1657

set_option maxHeartbeats 8000000 in
set_option maxRecDepth 100000 in
theorem br_ice (l : Launch) (D : KD) (b : Nat) {sh : List KSh} (hsh : shP sh) (hG : GS sh 190) (σ : KS) (q i f N : Nat → Nat) (r : Nat) (hs : Nat → Nat → Nat) (T : Nat → Nat) (n t : Nat) (hL : CI σ N r hs T n) (hJJ : JJ q i f N) (hGd : Gd (1000 + 4000000 * t) N) (h0 : q 0 ≤ t) (ht : t < 44) (x y : Int32) (kd k iv bx tr g : Nat) (hk : q 2 = 0 ∧ k = 0 ∨ k < q 2) (hiv : iv = 1 ∧ (k < q 2 ∧ 0 < f (4 * k + 1)) ∨ iv = 0 ∧ ¬ (k < q 2 ∧ 0 < f (4 * k + 1))) (hbx : bx < 6) (htr : tr < 5) (hg1 : 1 ≤ g) (hg2 : g ≤ 20000) (hkd : 4 < kd ∧ kd < 7) {pg : Program} {e : Env} {s : State} {m : MethodId} {below : List Frame} {meth : Method} {c : Code} {ca sl z : Nat} (hca : ca ≤ room_1.cells) (hsl : sl ≤ room_1.slots) (X : KX pg s m meth c #[Value.ref z] D b cL_law 22 ret RL) (kS : ∀ σ' : KS, LX (t + 1) σ' → K pg l e room_1 s m #[Value.ref z] below meth c (lw_Z below #[Value.ref z] s) D b 22 ca sl sh σ' 1680 [(7, .int y), (0, .ref z), (1, rf b 0), (2, rf b 190), (3, rf b (190 + 1)), (4, rf b (190 + 2)), (5, .int (nI t))] []) (kC : ∀ σ' : KS, LX (t + 1) σ' → K pg l e room_1 s m #[Value.ref z] below meth c (lw_Z below #[Value.ref z] s) D b 22 ca sl sh σ' 1697 [(0, .ref z), (1, rf b 0), (2, rf b 190), (3, rf b (190 + 1)), (4, rf b (190 + 2)), (5, .int (nI t))] []) : K pg l e room_1 s m #[Value.ref z] below meth c (lw_Z below #[Value.ref z] s) D b 22 ca sl sh (wG σ 190 q i f) 610 [(0, .ref z), (1, rf b 0), (2, rf b 190), (3, rf b (190 + 1)), (4, rf b (190 + 2)), (5, .int (nI t)), (6, .int x), (7, .int y), (8, .int (nI kd)), (9, .int (nI k)), (10, .int (nI iv)), (11, .int (nI bx)), (12, .int (nI tr)), (13, .int (nI g))] [] := by
  obtain ⟨hJ, hF, hCn⟩ := id hJJ
  obtain ⟨hI, hU, hBb⟩ := id hGd
  have h2 := qi_2 hI
  have h16 := fi_2 hF
  have hB : N 10 < 2 ^ 31 := by have := hBb 10 (by omega); omega
  have hk16 : k < 16 := by omega
  have hiv1 : iv ≤ 1 := by rcases hiv with w | w <;> omega
  have hBq : 1000 ≤ 1000 + 4000000 * t := by omega
  refine K_via (Φ := fun σ' st' => ∃ u, (kd = 5 ∧ u = bx ∨ kd ≠ 5 ∧ u = 6 + tr) ∧ (wG σ 190 q i f) = σ' ∧ [.int (nI u)] = st') 626 (fun σ' st' hv => ?_) (fun hv626 => ?_)
  · obtain ⟨pl, hpl, rfl, rfl⟩ := hv
    have hpl11 : pl < 11 := by omega
    have bip := fi_i hF hpl11
    refine K_istore X (ls' := [(14, _), (0, _), (1, _), (2, _), (3, _), (4, _), (5, _), (6, _), (7, _), (8, _), (9, _), (10, _), (11, _), (12, _), (13, _)]) dL_law_626 (by decide) rfl ?_
    refine K_iconst X dL_law_628 cii_1 ?_
    refine K_iload X 8 dL_law_629 rfl ?_
    refine K_iconst X dL_law_631 cii_3 ?_
    refine K_ishr X dL_law_632 (fun z632 => ?_)
    refine K_via (Φ := fun σ' st' => ∃ u, 0 < u ∧ u ≤ 5000 ∧ (wG σ 190 q i f) = σ' ∧ [.int (nI u), .int z632, .int (nI 1)] = st') 654 (fun σ' st' hv => ?_) (fun hv654 => ?_)
    · obtain ⟨um, hum0, hum, rfl, rfl⟩ := hv
      refine K_callSE X (c_L_low l D b _ _ _ (by omega) (by omega)) my_L_low wt_L_low wm_L_30 ⟨rfl, rfl, Nat.le_of_ble_eq_true rfl, Nat.le_of_ble_eq_true rfl, hca, hsl⟩ rfl rfl (Nat.le_of_ble_eq_true rfl) dL_law_654 ?_
      obtain ⟨am, hame⟩ : ∃ am, am = lz z632 % um := ⟨_, rfl⟩
      rw [← hame]
      have ham : am < um := by rw [hame]; exact Nat.mod_lt _ hum0
      refine K_iaddN X dL_law_657 ?_
      refine K_istore X (ls' := [(15, _), (14, _), (0, _), (1, _), (2, _), (3, _), (4, _), (5, _), (6, _), (7, _), (8, _), (9, _), (10, _), (11, _), (12, _), (13, _)]) dL_law_658 (by decide) rfl ?_
      refine K_via (Φ := fun σ' st' => wG σ 190 q (uN i pl (if 5000 < i pl + (1 + am) then 5000 else i pl + (1 + am))) f = σ' ∧ [] = st') 690 (fun σ' st' hv => ?_) (fun hv690 => ?_)
      · obtain ⟨rfl, rfl⟩ := hv
        refine K_iload X 10 dL_law_690 rfl ?_
        refine K_iconst X dL_law_692 cii_5 ?_
        refine K_icmpN_ne (tgt := 707) X dL_law_693 (by decide) (by omega) (by omega) (fun c693 => ?_) (fun c693 => ?_)
        · refine K_aload_n X 3 dL_law_707 rfl rfl ?_
          refine K_iload X 14 dL_law_708 rfl ?_
          refine K_iload X 0 dL_law_710 rfl ?_
          refine K_callVP X (c_X5_iceTray l D b hsh _ _ _ _ _ _ _ _ (hL.wg h2) hI hU hB) my_X5_iceTray mv_X5_iceTray wm_L_94 (sf_c hsh) rfl ⟨rfl, rfl, Nat.le_of_ble_eq_true rfl, Nat.le_of_ble_eq_true rfl, hca, hsl⟩ rfl rfl (Nat.le_of_ble_eq_true rfl) dL_law_712 (fun σ712 h712 => ?_)
          refine K_st (AR.id (AR.cf AR.wG h712.1)).symm ?_
          have hp6 : pl = 6 + tr := by omega
          have hod := od_iceT (N := N) (i := i) hJ htr (g := 1 + am) (by omega) (by omega)
          have hodg : oIceTray N (nI tr) (nI (1 + am)) = (nI (if 5000 < i pl + (1 + am) then 5000 else i pl + (1 + am)), some (uN N (34 + pl) (qIce N pl (1 + am)))) := by rw [hp6]; exact hod
          have hans : (oIceTray N (nI tr) (nI (1 + am))).1 = nI (uN i pl (if 5000 < i pl + (1 + am) then 5000 else i pl + (1 + am)) pl) := by rw [hodg, uN_s]
          refine K_aload_n X 5 dL_law_715 rfl rfl ?_
          refine K_iload X 1 dL_law_716 rfl ?_
          refine K_iald X _ hG.2.1 rfl (by omega) (by decide) ((wG_i _)) dL_law_718 ?_
          refine K_icmp_eq (tgt := 724) X dL_law_719 (by decide) (fun c719 => ?_) (fun c719 => ?_)
          · refine K_goto (tgt := 1680) X dL_law_724 (by decide) ?_
            have hgd := g_iceTray hGd hBq (congrArg Prod.snd hodg)
            exact K_sub [9, 2, 3, 4, 5, 6, 7] rfl (kS _ (LX.mk ((h712.s hodg).wg (qi_2 hgd.1)) AR.wG (jj_ice hJJ hpl11) hgd (Nat.le_succ_of_le h0)))
          · exact absurd hans c719
        · refine K_aload_n X 3 dL_law_696 rfl rfl ?_
          refine K_iload X 13 dL_law_697 rfl ?_
          refine K_iload X 0 dL_law_699 rfl ?_
          refine K_callVP X (c_X5_iceBox l D b hsh _ _ _ _ _ _ _ _ (hL.wg h2) hI hU hB) my_X5_iceBox mv_X5_iceBox wm_L_91 (sf_c hsh) rfl ⟨rfl, rfl, Nat.le_of_ble_eq_true rfl, Nat.le_of_ble_eq_true rfl, hca, hsl⟩ rfl rfl (Nat.le_of_ble_eq_true rfl) dL_law_701 (fun σ701 h701 => ?_)
          refine K_st (AR.id (AR.cf AR.wG h701.1)).symm ?_
          refine K_goto (tgt := 715) X dL_law_704 (by decide) ?_
          have hp6 : pl = bx := by omega
          have hod := od_iceB (N := N) (i := i) hJ hbx (g := 1 + am) (by omega) (by omega)
          have hodg : oIceBox N (nI bx) (nI (1 + am)) = (nI (if 5000 < i pl + (1 + am) then 5000 else i pl + (1 + am)), some (uN N (34 + pl) (qIce N pl (1 + am)))) := by rw [hp6]; exact hod
          have hans : (oIceBox N (nI bx) (nI (1 + am))).1 = nI (uN i pl (if 5000 < i pl + (1 + am) then 5000 else i pl + (1 + am)) pl) := by rw [hodg, uN_s]
          refine K_aload_n X 5 dL_law_715 rfl rfl ?_
          refine K_iload X 1 dL_law_716 rfl ?_
          refine K_iald X _ hG.2.1 rfl (by omega) (by decide) ((wG_i _)) dL_law_718 ?_
          refine K_icmp_eq (tgt := 724) X dL_law_719 (by decide) (fun c719 => ?_) (fun c719 => ?_)
          · refine K_goto (tgt := 1680) X dL_law_724 (by decide) ?_
            have hgd := g_iceBox hGd hBq (congrArg Prod.snd hodg)
            exact K_sub [9, 2, 3, 4, 5, 6, 7] rfl (kS _ (LX.mk ((h701.s hodg).wg (qi_2 hgd.1)) AR.wG (jj_ice hJJ hpl11) hgd (Nat.le_succ_of_le h0)))
          · exact absurd hans c719
      · refine K_aload_n X 5 dL_law_660 rfl rfl ?_
        refine K_iload X 1 dL_law_661 rfl ?_
        refine K_aload_n X 5 dL_law_663 rfl rfl ?_
        refine K_iload X 1 dL_law_664 rfl ?_
        refine K_iald X _ hG.2.1 rfl (by omega) (by decide) ((wG_i _)) dL_law_666 ?_
        refine K_iload X 0 dL_law_667 rfl ?_
        refine K_iaddN X dL_law_669 ?_
        refine K_sipush X dL_law_670 cis_5000 ?_
        refine K_icmpN_le (tgt := 682) X dL_law_673 (by decide) (by omega) (by omega) (fun c673 => ?_) (fun c673 => ?_)
        · refine K_aload_n X 5 dL_law_682 rfl rfl ?_
          refine K_iload X 1 dL_law_683 rfl ?_
          refine K_iald X _ hG.2.1 rfl (by omega) (by decide) ((wG_i _)) dL_law_685 ?_
          refine K_iload X 0 dL_law_686 rfl ?_
          refine K_iaddN X dL_law_688 ?_
          refine K_iast X _ hG.2.1 rfl (by omega) (by decide) dL_law_689 ?_
          refine K_st wG_ui ?_
          exact hv690 _ _ (⟨by rw [if_neg (show ¬ 5000 < i pl + (1 + am) from by omega)], rfl⟩)
        · refine K_sipush X dL_law_676 cis_5000 ?_
          refine K_goto (tgt := 689) X dL_law_679 (by decide) ?_
          refine K_iast X _ hG.2.1 rfl (by omega) (by decide) dL_law_689 ?_
          refine K_st wG_ui ?_
          exact hv690 _ _ (⟨by rw [if_pos (show 5000 < i pl + (1 + am) from by omega)], rfl⟩)
    · refine K_iload X 7 dL_law_633 rfl ?_
      refine K_bipush X dL_law_635 cib_7 ?_
      refine K_ishr X dL_law_637 (fun z637 => ?_)
      refine K_iconst X dL_law_638 cii_4 ?_
      refine K_callSE X (c_L_low l D b _ _ _ (by omega) (by omega)) my_L_low wt_L_low wm_L_30 ⟨rfl, rfl, Nat.le_of_ble_eq_true rfl, Nat.le_of_ble_eq_true rfl, hca, hsl⟩ rfl rfl (Nat.le_of_ble_eq_true rfl) dL_law_639 ?_
      refine K_ifN_ne (tgt := 651) X dL_law_642 (by decide) (by have : lz z637 % 4 < 4 := Nat.mod_lt _ (by decide); omega) (fun c642 => ?_) (fun c642 => ?_)
      · refine K_sipush X dL_law_651 cis_400 ?_
        exact hv654 _ _ (⟨_, by decide, by decide, rfl, rfl⟩)
      · refine K_sipush X dL_law_645 cis_5000 ?_
        refine K_goto (tgt := 654) X dL_law_648 (by decide) ?_
        exact hv654 _ _ (⟨_, by decide, by decide, rfl, rfl⟩)
  · refine K_iload X 8 dL_law_610 rfl ?_
    refine K_iconst X dL_law_612 cii_5 ?_
    refine K_icmpN_ne (tgt := 621) X dL_law_613 (by decide) (by omega) (by omega) (fun c613 => ?_) (fun c613 => ?_)
    · refine K_bipush X dL_law_621 cib_6 ?_
      refine K_iload X 12 dL_law_623 rfl ?_
      refine K_iaddN X dL_law_625 ?_
      exact hv626 _ _ (⟨_, Or.inr ⟨c613, rfl⟩, rfl, rfl⟩)
    · refine K_iload X 11 dL_law_616 rfl ?_
      refine K_goto (tgt := 626) X dL_law_618 (by decide) ?_
      exact hv626 _ _ (⟨_, Or.inl ⟨c613, rfl⟩, rfl, rfl⟩)
