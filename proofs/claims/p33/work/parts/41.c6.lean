/-! THE CLASS: the counter's readers -/
set_option maxHeartbeats 4000000 in
set_option maxRecDepth 100000 in
theorem c_X5_count (l : Launch) (D : KD) (b : Nat) {sh : List KSh} (hsh : shP sh) (σ : KS) (π N : Nat → Nat) (x : Int32) (hP : PF σ.2.2) (hR : Rs σ 1 π N) (hI : qIr N) : Ct l D b yX5_count cX5_count 2 (some .long) (rM 1 22) 0 0 [rf b 0, .int x] sh σ sh (pE (some (.long (aCount N x))) σ) := by
  have h2 := qi_2 hI
  have ho := s1_in
  refine Ct.of (ls := [(0, rf b 0), (1, .int x)]) (by decide) (Nat.le_of_ble_eq_true rfl) rfl ?_
  intro pg e s m args below meth c Q hQ X hnm
  refine K_iload_n X 1 dX5_count_0 rfl rfl ?_
  cases hq : qIn 0 10 x
  · refine K_tabOut (tgt := 154) X dX5_count_1 (qIn_out (by decide) hq) (by decide) ?_
    refine K_ldc2 X wq_X5_183 dX5_count_154 ?_
    exact K_lret X hQ dX5_count_157 (⟨by rw [aCount_out hq] <;> rfl, rfl⟩)
  · obtain ⟨u, hlu, hhu, rfl⟩ := qIn_ex (lo := 0) (hi := 10) (by decide) (by decide) hq
    by_cases hw0 : u = 0
    · subst hw0
      refine K_tabIn (off := 59) (tgt := 60) X dX5_count_1 (by decide) (by decide) rfl (by decide) ?_
      refine K_aload_n X 0 dX5_count_60 rfl rfl ?_
      refine K_get X 0 kFd5 rfl (by decide) (sf_c hsh) wf_X5_10 rfl (v := rf b (1)) (kv_o (pf_00 hP)) dX5_count_61 ?_
      refine K_get X 0 kFd4 rfl (by decide) (so_0 hsh 1 ho) wf_X5_154 rfl (v := .int (nI (N 0))) (congrArg Value.int (rs_i hR 0 (by decide))) dX5_count_64 ?_
      refine K_i2lN X dX5_count_67 (by have := qi_0 hI; omega) ?_
      exact K_lret X hQ dX5_count_68 (⟨by rw [aCount_in hq (by decide)] <;> rfl, rfl⟩)
    by_cases hw1 : u = 1
    · subst hw1
      refine K_tabIn (off := 68) (tgt := 69) X dX5_count_1 (by decide) (by decide) rfl (by decide) ?_
      refine K_aload_n X 0 dX5_count_69 rfl rfl ?_
      refine K_get X 0 kFd5 rfl (by decide) (sf_c hsh) wf_X5_10 rfl (v := rf b (1)) (kv_o (pf_00 hP)) dX5_count_70 ?_
      refine K_get X 1 kFd4 rfl (by decide) (so_0 hsh 1 ho) wf_X5_148 rfl (v := .int (nI (N 1))) (congrArg Value.int (rs_i hR 1 (by decide))) dX5_count_73 ?_
      refine K_i2lN X dX5_count_76 (by have := qi_1 hI; omega) ?_
      exact K_lret X hQ dX5_count_77 (⟨by rw [aCount_in hq (by decide)] <;> rfl, rfl⟩)
    by_cases hw2 : u = 2
    · subst hw2
      refine K_tabIn (off := 77) (tgt := 78) X dX5_count_1 (by decide) (by decide) rfl (by decide) ?_
      refine K_aload_n X 0 dX5_count_78 rfl rfl ?_
      refine K_get X 0 kFd5 rfl (by decide) (sf_c hsh) wf_X5_10 rfl (v := rf b (1)) (kv_o (pf_00 hP)) dX5_count_79 ?_
      refine K_get X 5 kFd4 rfl (by decide) (so_0 hsh 1 ho) wf_X5_161 rfl (v := .int (nI (N 2))) (congrArg Value.int (rs_i hR 5 (by decide))) dX5_count_82 ?_
      refine K_i2lN X dX5_count_85 (by omega) ?_
      exact K_lret X hQ dX5_count_86 (⟨by rw [aCount_in hq (by decide)] <;> rfl, rfl⟩)
    by_cases hw3 : u = 3
    · subst hw3
      refine K_tabIn (off := 86) (tgt := 87) X dX5_count_1 (by decide) (by decide) rfl (by decide) ?_
      refine K_aload_n X 0 dX5_count_87 rfl rfl ?_
      refine K_get X 0 kFd5 rfl (by decide) (sf_c hsh) wf_X5_10 rfl (v := rf b (1)) (kv_o (pf_00 hP)) dX5_count_88 ?_
      refine K_callVE X (c_X4_gramsInShop l D b hsh _ _ _ _ hP ho hR hI) my_X4_gramsInShop mv_X4_gramsInShop wm_X5_164 (so_0 hsh 1 ho) rfl ⟨rfl, rfl, Nat.le_of_ble_eq_true rfl, Nat.le_of_ble_eq_true rfl, Nat.le_of_ble_eq_true rfl, Nat.le_of_ble_eq_true rfl⟩ rfl rfl (Nat.le_of_ble_eq_true rfl) dX5_count_91 ?_
      refine K_i2lN X dX5_count_94 (by have := qSum_le hI (Nat.le_refl _); omega) ?_
      exact K_lret X hQ dX5_count_95 (⟨by rw [aCount_in hq (by decide)] <;> rfl, rfl⟩)
    by_cases hw4 : u = 4
    · subst hw4
      refine K_tabIn (off := 95) (tgt := 96) X dX5_count_1 (by decide) (by decide) rfl (by decide) ?_
      refine K_aload_n X 0 dX5_count_96 rfl rfl ?_
      refine K_get X 0 kFd5 rfl (by decide) (sf_c hsh) wf_X5_10 rfl (v := rf b (1)) (kv_o (pf_00 hP)) dX5_count_97 ?_
      refine K_get X 6 kFd4 rfl (by decide) (so_0 hsh 1 ho) wf_X5_167 rfl (v := .long (lN (N 3))) (congrArg Value.long (rs_j hR 6 (by decide) (by decide))) dX5_count_100 ?_
      exact K_lret X hQ dX5_count_103 (⟨by rw [aCount_in hq (by decide)] <;> rfl, rfl⟩)
    by_cases hw5 : u = 5
    · subst hw5
      refine K_tabIn (off := 103) (tgt := 104) X dX5_count_1 (by decide) (by decide) rfl (by decide) ?_
      refine K_aload_n X 0 dX5_count_104 rfl rfl ?_
      refine K_get X 0 kFd5 rfl (by decide) (sf_c hsh) wf_X5_10 rfl (v := rf b (1)) (kv_o (pf_00 hP)) dX5_count_105 ?_
      refine K_get X 7 kFd4 rfl (by decide) (so_0 hsh 1 ho) wf_X5_171 rfl (v := .long (lN (N 4))) (congrArg Value.long (rs_j hR 7 (by decide) (by decide))) dX5_count_108 ?_
      exact K_lret X hQ dX5_count_111 (⟨by rw [aCount_in hq (by decide)] <;> rfl, rfl⟩)
    by_cases hw6 : u = 6
    · subst hw6
      refine K_tabIn (off := 111) (tgt := 112) X dX5_count_1 (by decide) (by decide) rfl (by decide) ?_
      refine K_aload_n X 0 dX5_count_112 rfl rfl ?_
      refine K_get X 0 kFd5 rfl (by decide) (sf_c hsh) wf_X5_10 rfl (v := rf b (1)) (kv_o (pf_00 hP)) dX5_count_113 ?_
      refine K_get X 8 kFd4 rfl (by decide) (so_0 hsh 1 ho) wf_X5_174 rfl (v := .long (lN (N 5))) (congrArg Value.long (rs_j hR 8 (by decide) (by decide))) dX5_count_116 ?_
      exact K_lret X hQ dX5_count_119 (⟨by rw [aCount_in hq (by decide)] <;> rfl, rfl⟩)
    by_cases hw7 : u = 7
    · subst hw7
      refine K_tabIn (off := 119) (tgt := 120) X dX5_count_1 (by decide) (by decide) rfl (by decide) ?_
      refine K_aload_n X 0 dX5_count_120 rfl rfl ?_
      refine K_get X 0 kFd5 rfl (by decide) (sf_c hsh) wf_X5_10 rfl (v := rf b (1)) (kv_o (pf_00 hP)) dX5_count_121 ?_
      refine K_get X 9 kFd4 rfl (by decide) (so_0 hsh 1 ho) wf_X5_177 rfl (v := .long (lN (N 6))) (congrArg Value.long (rs_j hR 9 (by decide) (by decide))) dX5_count_124 ?_
      exact K_lret X hQ dX5_count_127 (⟨by rw [aCount_in hq (by decide)] <;> rfl, rfl⟩)
    by_cases hw8 : u = 8
    · subst hw8
      refine K_tabIn (off := 127) (tgt := 128) X dX5_count_1 (by decide) (by decide) rfl (by decide) ?_
      refine K_aload_n X 0 dX5_count_128 rfl rfl ?_
      refine K_get X 0 kFd5 rfl (by decide) (sf_c hsh) wf_X5_10 rfl (v := rf b (1)) (kv_o (pf_00 hP)) dX5_count_129 ?_
      refine K_get X 10 kFd4 rfl (by decide) (so_0 hsh 1 ho) wf_X5_180 rfl (v := .long (lN (N 7))) (congrArg Value.long (rs_j hR 10 (by decide) (by decide))) dX5_count_132 ?_
      exact K_lret X hQ dX5_count_135 (⟨by rw [aCount_in hq (by decide)] <;> rfl, rfl⟩)
    by_cases hw9 : u = 9
    · subst hw9
      refine K_tabIn (off := 135) (tgt := 136) X dX5_count_1 (by decide) (by decide) rfl (by decide) ?_
      refine K_aload_n X 0 dX5_count_136 rfl rfl ?_
      refine K_get X 0 kFd5 rfl (by decide) (sf_c hsh) wf_X5_10 rfl (v := rf b (1)) (kv_o (pf_00 hP)) dX5_count_137 ?_
      refine K_get X 2 kFd4 rfl (by decide) (so_0 hsh 1 ho) wf_X5_69 rfl (v := .int (nI (N 8))) (congrArg Value.int (rs_i hR 2 (by decide))) dX5_count_140 ?_
      refine K_i2lN X dX5_count_143 (by have := qi_8 hI; omega) ?_
      exact K_lret X hQ dX5_count_144 (⟨by rw [aCount_in hq (by decide)] <;> rfl, rfl⟩)
    have hw10 : u = 10 := by omega
    subst hw10
    refine K_tabIn (off := 144) (tgt := 145) X dX5_count_1 (by decide) (by decide) rfl (by decide) ?_
    refine K_aload_n X 0 dX5_count_145 rfl rfl ?_
    refine K_get X 0 kFd5 rfl (by decide) (sf_c hsh) wf_X5_10 rfl (v := rf b (1)) (kv_o (pf_00 hP)) dX5_count_146 ?_
    refine K_get X 3 kFd4 rfl (by decide) (so_0 hsh 1 ho) wf_X5_65 rfl (v := .int (nI (N 9))) (congrArg Value.int (rs_i hR 3 (by decide))) dX5_count_149 ?_
    refine K_i2lN X dX5_count_152 (by have := qi_9 hI; omega) ?_
    exact K_lret X hQ dX5_count_153 (⟨by rw [aCount_in hq (by decide)] <;> rfl, rfl⟩)

set_option maxHeartbeats 4000000 in
set_option maxRecDepth 100000 in
theorem c_X5_lot (l : Launch) (D : KD) (b : Nat) {sh : List KSh} (hsh : shP sh) (σ : KS) (π N : Nat → Nat) (x y : Int32) (hP : PF σ.2.2) (hR : Rs σ 1 π N) (hI : qIr N) (hU : qU N) (hB : N 10 < 2 ^ 31) : Ct l D b yX5_lot cX5_lot 4 (some .int) (rM 2 45) 0 0 [rf b 0, .int x, .int y] sh σ sh (pE (some (.int (aLot N x y))) σ) := by
  have h2 := qi_2 hI
  have ho := s1_in
  refine Ct.of (ls := [(0, rf b 0), (1, .int x), (2, .int y)]) (by decide) (Nat.le_of_ble_eq_true rfl) rfl ?_
  intro pg e s m args below meth c Q hQ X hnm
  refine K_aload_n X 0 dX5_lot_0 rfl rfl ?_
  refine K_get X 0 kFd5 rfl (by decide) (sf_c hsh) wf_X5_10 rfl (v := rf b (1)) (kv_o (pf_00 hP)) dX5_lot_1 ?_
  refine K_iload_n X 1 dX5_lot_4 rfl rfl ?_
  refine K_callVE X (c_X4_findLot l D b hsh _ _ _ _ _ hP ho hR hI hU hB) my_X4_findLot mv_X4_findLot wm_X5_98 (so_0 hsh 1 ho) rfl ⟨rfl, rfl, Nat.le_of_ble_eq_true rfl, Nat.le_of_ble_eq_true rfl, Nat.le_of_ble_eq_true rfl, Nat.le_of_ble_eq_true rfl⟩ rfl rfl (Nat.le_of_ble_eq_true rfl) dX5_lot_5 ?_
  rcases hf : qF N x (N 2) with _ | j
  · refine K_astore_nN X (ls' := [(3, _), (0, _), (1, _), (2, _)]) dX5_lot_8 rfl (by decide) rfl ?_
    refine K_aload_nN X 0 dX5_lot_9 rfl rfl ?_
    refine K_ifnonnullN (tgt := 15) X dX5_lot_10 (by decide) ?_
    refine K_iconst X dX5_lot_13 cii_m1 ?_
    exact K_iret X hQ dX5_lot_14 (⟨by rw [show aLot N x y = -1 from aOf_n hf] <;> rfl, rfl⟩)
  · have hjl : j < N 2 := qF_lt hf
    refine K_astore_n X (ls' := [(3, _), (0, _), (1, _), (2, _)]) dX5_lot_8 rfl (by decide) rfl ?_
    refine K_aload_n X 0 dX5_lot_9 rfl rfl ?_
    refine K_ifnonnull (tgt := 15) X dX5_lot_10 (by decide) ?_
    refine K_iload_n X 3 dX5_lot_15 rfl rfl ?_
    cases hq : qIn 0 6 y
    · refine K_tabOut (tgt := 110) X dX5_lot_16 (qIn_out (by decide) hq) (by decide) ?_
      refine K_bipush X dX5_lot_110 cib_m2 ?_
      exact K_iret X hQ dX5_lot_112 (⟨by rw [aLot_out hf hq] <;> rfl, rfl⟩)
    · obtain ⟨u, hlu, hhu, rfl⟩ := qIn_ex (lo := 0) (hi := 6) (by decide) (by decide) hq
      by_cases hw0 : u = 0
      · subst hw0
        refine K_tabIn (off := 44) (tgt := 60) X dX5_lot_16 (by decide) (by decide) rfl (by decide) ?_
        refine K_aload_n X 0 dX5_lot_60 rfl rfl ?_
        refine K_get X 1 kFd3 rfl (by decide) (so_l hsh ho (rs_lt hR (by omega))) wf_X5_130 rfl (v := .int (nI (qL N j 1))) (congrArg Value.int (rs_l hR hjl 1 (by decide))) dX5_lot_61 ?_
        exact K_iret X hQ dX5_lot_64 (⟨by rw [aLot_in hf hq (by decide)] <;> rfl, rfl⟩)
      by_cases hw1 : u = 1
      · subst hw1
        refine K_tabIn (off := 49) (tgt := 65) X dX5_lot_16 (by decide) (by decide) rfl (by decide) ?_
        refine K_aload_n X 0 dX5_lot_65 rfl rfl ?_
        refine K_get X 2 kFd3 rfl (by decide) (so_l hsh ho (rs_lt hR (by omega))) wf_X5_127 rfl (v := .int (nI (qL N j 2))) (congrArg Value.int (rs_l hR hjl 2 (by decide))) dX5_lot_66 ?_
        exact K_iret X hQ dX5_lot_69 (⟨by rw [aLot_in hf hq (by decide)] <;> rfl, rfl⟩)
      by_cases hw2 : u = 2
      · subst hw2
        refine K_tabIn (off := 54) (tgt := 70) X dX5_lot_16 (by decide) (by decide) rfl (by decide) ?_
        refine K_aload_n X 0 dX5_lot_70 rfl rfl ?_
        refine K_get X 3 kFd3 rfl (by decide) (so_l hsh ho (rs_lt hR (by omega))) wf_X5_133 rfl (v := .int (nI (qL N j 3))) (congrArg Value.int (rs_l hR hjl 3 (by decide))) dX5_lot_71 ?_
        exact K_iret X hQ dX5_lot_74 (⟨by rw [aLot_in hf hq (by decide)] <;> rfl, rfl⟩)
      by_cases hw3 : u = 3
      · subst hw3
        refine K_tabIn (off := 59) (tgt := 75) X dX5_lot_16 (by decide) (by decide) rfl (by decide) ?_
        refine K_aload_n X 0 dX5_lot_75 rfl rfl ?_
        refine K_get X 4 kFd3 rfl (by decide) (so_l hsh ho (rs_lt hR (by omega))) wf_X5_115 rfl (v := .int (qBx (qL N j 4))) (congrArg Value.int (rs_l4 hR hjl)) dX5_lot_76 ?_
        exact K_iret X hQ dX5_lot_79 (⟨by rw [aLot_in hf hq (by decide), qOf_3], rfl⟩)
      by_cases hw4 : u = 4
      · subst hw4
        refine K_tabIn (off := 64) (tgt := 80) X dX5_lot_16 (by decide) (by decide) rfl (by decide) ?_
        refine K_aload_n X 0 dX5_lot_80 rfl rfl ?_
        refine K_get X 5 kFd3 rfl (by decide) (so_l hsh ho (rs_lt hR (by omega))) wf_X5_185 rfl (v := .int (qTy (qL N j 4))) (congrArg Value.int (rs_l5 hR hjl)) dX5_lot_81 ?_
        exact K_iret X hQ dX5_lot_84 (⟨by rw [aLot_in hf hq (by decide), qOf_4], rfl⟩)
      by_cases hw5 : u = 5
      · subst hw5
        refine K_tabIn (off := 69) (tgt := 85) X dX5_lot_16 (by decide) (by decide) rfl (by decide) ?_
        refine K_aload_n X 1 dX5_lot_85 rfl rfl ?_
        refine K_get X 0 kFd5 rfl (by decide) (sf_c hsh) wf_X5_10 rfl (v := rf b (1)) (kv_o (pf_00 hP)) dX5_lot_86 ?_
        refine K_aload_n X 0 dX5_lot_89 rfl rfl ?_
        refine K_callVE X (c_X4_priceOf l D b hsh _ _ _ _ _ hP ho hR hI hjl) my_X4_priceOf mv_X4_priceOf wm_X5_111 (so_0 hsh 1 ho) rfl ⟨rfl, rfl, Nat.le_of_ble_eq_true rfl, Nat.le_of_ble_eq_true rfl, Nat.le_of_ble_eq_true rfl, Nat.le_of_ble_eq_true rfl⟩ rfl rfl (Nat.le_of_ble_eq_true rfl) dX5_lot_90 ?_
        exact K_iret X hQ dX5_lot_93 (⟨by rw [aLot_in hf hq (by decide)] <;> rfl, rfl⟩)
      have hw6 : u = 6 := by omega
      subst hw6
      refine K_tabIn (off := 78) (tgt := 94) X dX5_lot_16 (by decide) (by decide) rfl (by decide) ?_
      refine K_aload_n X 0 dX5_lot_94 rfl rfl ?_
      refine K_get X 2 kFd3 rfl (by decide) (so_l hsh ho (rs_lt hR (by omega))) wf_X5_127 rfl (v := .int (nI (qL N j 2))) (congrArg Value.int (rs_l hR hjl 2 (by decide))) dX5_lot_95 ?_
      refine K_aload_n X 1 dX5_lot_98 rfl rfl ?_
      refine K_get X 0 kFd5 rfl (by decide) (sf_c hsh) wf_X5_10 rfl (v := rf b (1)) (kv_o (pf_00 hP)) dX5_lot_99 ?_
      refine K_aload_n X 0 dX5_lot_102 rfl rfl ?_
      refine K_callVE X (c_X4_priceOf l D b hsh _ _ _ _ _ hP ho hR hI hjl) my_X4_priceOf mv_X4_priceOf wm_X5_111 (so_0 hsh 1 ho) rfl ⟨rfl, rfl, Nat.le_of_ble_eq_true rfl, Nat.le_of_ble_eq_true rfl, Nat.le_of_ble_eq_true rfl, Nat.le_of_ble_eq_true rfl⟩ rfl rfl (Nat.le_of_ble_eq_true rfl) dX5_lot_103 ?_
      refine K_callSE X (c_X5_moneyFor l D b hsh _ _ _ (qW_b (qi_l2 hI hjl) (qPrice_le hI hjl))) my_X5_moneyFor wt_X5_moneyFor wm_X5_188 ⟨rfl, rfl, Nat.le_of_ble_eq_true rfl, Nat.le_of_ble_eq_true rfl, Nat.le_of_ble_eq_true rfl, Nat.le_of_ble_eq_true rfl⟩ rfl rfl (Nat.le_of_ble_eq_true rfl) dX5_lot_106 ?_
      exact K_iret X hQ dX5_lot_109 (⟨by rw [aLot_in hf hq (by decide)] <;> rfl, rfl⟩)

set_option maxHeartbeats 4000000 in
set_option maxRecDepth 100000 in
theorem c_X5_box (l : Launch) (D : KD) (b : Nat) {sh : List KSh} (hsh : shP sh) (σ : KS) (π N : Nat → Nat) (x y : Int32) (hP : PF σ.2.2) (hR : Rs σ 1 π N) (hI : qIr N) : Ct l D b yX5_box cX5_box 3 (some .int) (rM 2 42) 0 0 [rf b 0, .int x, .int y] sh σ sh (pE (some (.int (aBox N x y))) σ) := by
  have h2 := qi_2 hI
  have ho := s1_in
  refine Ct.of (ls := [(0, rf b 0), (1, .int x), (2, .int y)]) (by decide) (Nat.le_of_ble_eq_true rfl) rfl ?_
  intro pg e s m args below meth c Q hQ X hnm
  refine K_iload_n X 1 dX5_box_0 rfl rfl ?_
  refine K_callSE X (c_X5_isBox l D b hsh _ _) my_X5_isBox wt_X5_isBox wm_X5_72 ⟨rfl, rfl, Nat.le_of_ble_eq_true rfl, Nat.le_of_ble_eq_true rfl, Nat.le_of_ble_eq_true rfl, Nat.le_of_ble_eq_true rfl⟩ rfl rfl (Nat.le_of_ble_eq_true rfl) dX5_box_1 ?_
  refine K_ifB_ne (tgt := 9) X dX5_box_4 (by decide) (fun c4 => ?_) (fun c4 => ?_)
  · obtain ⟨v, hlv, hhv, rfl⟩ := qIn_ex (lo := 0) (hi := 5) (by decide) (by decide) c4
    refine K_iload_n X 2 dX5_box_9 rfl rfl ?_
    cases hq : qIn 0 3 y
    · refine K_tabOut (tgt := 77) X dX5_box_10 (qIn_out (by decide) hq) (by decide) ?_
      refine K_bipush X dX5_box_77 cib_m2 ?_
      exact K_iret X hQ dX5_box_79 (⟨by rw [aBox_o c4 hq] <;> rfl, rfl⟩)
    · obtain ⟨u, hlu, hhu, rfl⟩ := qIn_ex (lo := 0) (hi := 3) (by decide) (by decide) hq
      by_cases hw0 : u = 0
      · subst hw0
        refine K_tabIn (off := 30) (tgt := 40) X dX5_box_10 (by decide) (by decide) rfl (by decide) ?_
        refine K_aload_n X 0 dX5_box_40 rfl rfl ?_
        refine K_get X 0 kFd5 rfl (by decide) (sf_c hsh) wf_X5_10 rfl (v := rf b (1)) (kv_o (pf_00 hP)) dX5_box_41 ?_
        refine K_get X 14 kFd4 rfl (by decide) (so_0 hsh 1 ho) wf_X5_83 rfl (v := rf b (1 + 4)) (kv_a (ps_14 hP ho)) dX5_box_44 ?_
        refine K_iload_n X 1 dX5_box_47 rfl rfl ?_
        refine K_iald X _ (so_4 hsh 1 ho) rfl (by omega) (by decide) (x := nI (N (34 + v))) (rs_a hR 4 (by decide) (by decide) (show _ < 6 from by omega)) dX5_box_48 ?_
        exact K_iret X hQ dX5_box_49 (⟨by rw [aBox_in c4 hq (by omega) (by decide)] <;> rfl, rfl⟩)
      by_cases hw1 : u = 1
      · subst hw1
        refine K_tabIn (off := 40) (tgt := 50) X dX5_box_10 (by decide) (by decide) rfl (by decide) ?_
        refine K_aload_n X 0 dX5_box_50 rfl rfl ?_
        refine K_get X 0 kFd5 rfl (by decide) (sf_c hsh) wf_X5_10 rfl (v := rf b (1)) (kv_o (pf_00 hP)) dX5_box_51 ?_
        refine K_iload_n X 1 dX5_box_54 rfl rfl ?_
        refine K_callVE X (c_X4_lotsInBox l D b hsh _ _ _ _ _ hP ho hR hI (by omega)) my_X4_lotsInBox mv_X4_lotsInBox wm_X5_124 (so_0 hsh 1 ho) rfl ⟨rfl, rfl, Nat.le_of_ble_eq_true rfl, Nat.le_of_ble_eq_true rfl, Nat.le_of_ble_eq_true rfl, Nat.le_of_ble_eq_true rfl⟩ rfl rfl (Nat.le_of_ble_eq_true rfl) dX5_box_55 ?_
        exact K_iret X hQ dX5_box_58 (⟨by rw [aBox_in c4 hq (by omega) (by decide)] <;> rfl, rfl⟩)
      by_cases hw2 : u = 2
      · subst hw2
        refine K_tabIn (off := 49) (tgt := 59) X dX5_box_10 (by decide) (by decide) rfl (by decide) ?_
        refine K_aload_n X 0 dX5_box_59 rfl rfl ?_
        refine K_get X 0 kFd5 rfl (by decide) (sf_c hsh) wf_X5_10 rfl (v := rf b (1)) (kv_o (pf_00 hP)) dX5_box_60 ?_
        refine K_iload_n X 1 dX5_box_63 rfl rfl ?_
        refine K_callVE X (c_X4_gramsInBox l D b hsh _ _ _ _ _ hP ho hR hI (by omega)) my_X4_gramsInBox mv_X4_gramsInBox wm_X5_191 (so_0 hsh 1 ho) rfl ⟨rfl, rfl, Nat.le_of_ble_eq_true rfl, Nat.le_of_ble_eq_true rfl, Nat.le_of_ble_eq_true rfl, Nat.le_of_ble_eq_true rfl⟩ rfl rfl (Nat.le_of_ble_eq_true rfl) dX5_box_64 ?_
        exact K_iret X hQ dX5_box_67 (⟨by rw [aBox_in c4 hq (by omega) (by decide)] <;> rfl, rfl⟩)
      have hw3 : u = 3 := by omega
      subst hw3
      refine K_tabIn (off := 58) (tgt := 68) X dX5_box_10 (by decide) (by decide) rfl (by decide) ?_
      refine K_aload_n X 0 dX5_box_68 rfl rfl ?_
      refine K_get X 0 kFd5 rfl (by decide) (sf_c hsh) wf_X5_10 rfl (v := rf b (1)) (kv_o (pf_00 hP)) dX5_box_69 ?_
      refine K_iload_n X 1 dX5_box_72 rfl rfl ?_
      refine K_callVE X (c_X4_firstLotInBox l D b hsh _ _ _ _ _ hP ho hR hI (by omega)) my_X4_firstLotInBox mv_X4_firstLotInBox wm_X5_194 (so_0 hsh 1 ho) rfl ⟨rfl, rfl, Nat.le_of_ble_eq_true rfl, Nat.le_of_ble_eq_true rfl, Nat.le_of_ble_eq_true rfl, Nat.le_of_ble_eq_true rfl⟩ rfl rfl (Nat.le_of_ble_eq_true rfl) dX5_box_73 ?_
      exact K_iret X hQ dX5_box_76 (⟨by rw [aBox_in c4 hq (by omega) (by decide)] <;> rfl, rfl⟩)
  · refine K_iconst X dX5_box_7 cii_m1 ?_
    exact K_iret X hQ dX5_box_8 (⟨by rw [aBox_n c4] <;> rfl, rfl⟩)

set_option maxHeartbeats 4000000 in
set_option maxRecDepth 100000 in
theorem c_X5_kind (l : Launch) (D : KD) (b : Nat) {sh : List KSh} (hsh : shP sh) (σ : KS) (π N : Nat → Nat) (x y : Int32) (hP : PF σ.2.2) (hR : Rs σ 1 π N) (hI : qIr N) : Ct l D b yX5_kind cX5_kind 3 (some .int) (rM 2 42) 0 0 [rf b 0, .int x, .int y] sh σ sh (pE (some (.int (aKind N x y))) σ) := by
  have h2 := qi_2 hI
  have ho := s1_in
  refine Ct.of (ls := [(0, rf b 0), (1, .int x), (2, .int y)]) (by decide) (Nat.le_of_ble_eq_true rfl) rfl ?_
  intro pg e s m args below meth c Q hQ X hnm
  refine K_iload_n X 1 dX5_kind_0 rfl rfl ?_
  refine K_callSE X (c_X5_isKind l D b hsh _ _) my_X5_isKind wt_X5_isKind wm_X5_40 ⟨rfl, rfl, Nat.le_of_ble_eq_true rfl, Nat.le_of_ble_eq_true rfl, Nat.le_of_ble_eq_true rfl, Nat.le_of_ble_eq_true rfl⟩ rfl rfl (Nat.le_of_ble_eq_true rfl) dX5_kind_1 ?_
  refine K_ifB_ne (tgt := 9) X dX5_kind_4 (by decide) (fun c4 => ?_) (fun c4 => ?_)
  · obtain ⟨v, hlv, hhv, rfl⟩ := qIn_ex (lo := 0) (hi := 5) (by decide) (by decide) c4
    refine K_iload_n X 2 dX5_kind_9 rfl rfl ?_
    cases hq : qIn 0 3 y
    · refine K_tabOut (tgt := 78) X dX5_kind_10 (qIn_out (by decide) hq) (by decide) ?_
      refine K_bipush X dX5_kind_78 cib_m2 ?_
      exact K_iret X hQ dX5_kind_80 (⟨by rw [aKind_o c4 hq] <;> rfl, rfl⟩)
    · obtain ⟨u, hlu, hhu, rfl⟩ := qIn_ex (lo := 0) (hi := 3) (by decide) (by decide) hq
      by_cases hw0 : u = 0
      · subst hw0
        refine K_tabIn (off := 30) (tgt := 40) X dX5_kind_10 (by decide) (by decide) rfl (by decide) ?_
        refine K_aload_n X 0 dX5_kind_40 rfl rfl ?_
        refine K_get X 0 kFd5 rfl (by decide) (sf_c hsh) wf_X5_10 rfl (v := rf b (1)) (kv_o (pf_00 hP)) dX5_kind_41 ?_
        refine K_get X 11 kFd4 rfl (by decide) (so_0 hsh 1 ho) wf_X5_52 rfl (v := rf b (1 + 1)) (kv_a (ps_11 hP ho)) dX5_kind_44 ?_
        refine K_iload_n X 1 dX5_kind_47 rfl rfl ?_
        refine K_iald X _ (so_1 hsh 1 ho) rfl (by omega) (by decide) (x := nI (N (11 + v))) (rs_a hR 1 (by decide) (by decide) (show _ < 6 from by omega)) dX5_kind_48 ?_
        exact K_iret X hQ dX5_kind_49 (⟨by rw [aKind_in c4 hq (by omega) (by decide)] <;> rfl, rfl⟩)
      by_cases hw1 : u = 1
      · subst hw1
        refine K_tabIn (off := 40) (tgt := 50) X dX5_kind_10 (by decide) (by decide) rfl (by decide) ?_
        refine K_aload_n X 0 dX5_kind_50 rfl rfl ?_
        refine K_get X 0 kFd5 rfl (by decide) (sf_c hsh) wf_X5_10 rfl (v := rf b (1)) (kv_o (pf_00 hP)) dX5_kind_51 ?_
        refine K_get X 12 kFd4 rfl (by decide) (so_0 hsh 1 ho) wf_X5_56 rfl (v := rf b (1 + 2)) (kv_a (ps_12 hP ho)) dX5_kind_54 ?_
        refine K_iload_n X 1 dX5_kind_57 rfl rfl ?_
        refine K_iald X _ (so_2 hsh 1 ho) rfl (by omega) (by decide) (x := nI (N (17 + v))) (rs_a hR 2 (by decide) (by decide) (show _ < 6 from by omega)) dX5_kind_58 ?_
        exact K_iret X hQ dX5_kind_59 (⟨by rw [aKind_in c4 hq (by omega) (by decide)] <;> rfl, rfl⟩)
      by_cases hw2 : u = 2
      · subst hw2
        refine K_tabIn (off := 50) (tgt := 60) X dX5_kind_10 (by decide) (by decide) rfl (by decide) ?_
        refine K_aload_n X 0 dX5_kind_60 rfl rfl ?_
        refine K_get X 0 kFd5 rfl (by decide) (sf_c hsh) wf_X5_10 rfl (v := rf b (1)) (kv_o (pf_00 hP)) dX5_kind_61 ?_
        refine K_iload_n X 1 dX5_kind_64 rfl rfl ?_
        refine K_callVE X (c_X4_gramsOfKind l D b hsh _ _ _ _ _ hP ho hR hI (by omega)) my_X4_gramsOfKind mv_X4_gramsOfKind wm_X5_200 (so_0 hsh 1 ho) rfl ⟨rfl, rfl, Nat.le_of_ble_eq_true rfl, Nat.le_of_ble_eq_true rfl, Nat.le_of_ble_eq_true rfl, Nat.le_of_ble_eq_true rfl⟩ rfl rfl (Nat.le_of_ble_eq_true rfl) dX5_kind_65 ?_
        exact K_iret X hQ dX5_kind_68 (⟨by rw [aKind_in c4 hq (by omega) (by decide)] <;> rfl, rfl⟩)
      have hw3 : u = 3 := by omega
      subst hw3
      refine K_tabIn (off := 59) (tgt := 69) X dX5_kind_10 (by decide) (by decide) rfl (by decide) ?_
      refine K_aload_n X 0 dX5_kind_69 rfl rfl ?_
      refine K_get X 0 kFd5 rfl (by decide) (sf_c hsh) wf_X5_10 rfl (v := rf b (1)) (kv_o (pf_00 hP)) dX5_kind_70 ?_
      refine K_iload_n X 1 dX5_kind_73 rfl rfl ?_
      refine K_callVE X (c_X4_freshestLotOfKind l D b hsh _ _ _ _ _ hP ho hR hI (by omega)) my_X4_freshestLotOfKind mv_X4_freshestLotOfKind wm_X5_203 (so_0 hsh 1 ho) rfl ⟨rfl, rfl, Nat.le_of_ble_eq_true rfl, Nat.le_of_ble_eq_true rfl, Nat.le_of_ble_eq_true rfl, Nat.le_of_ble_eq_true rfl⟩ rfl rfl (Nat.le_of_ble_eq_true rfl) dX5_kind_74 ?_
      exact K_iret X hQ dX5_kind_77 (⟨by rw [aKind_in c4 hq (by omega) (by decide)] <;> rfl, rfl⟩)
  · refine K_iconst X dX5_kind_7 cii_m1 ?_
    exact K_iret X hQ dX5_kind_8 (⟨by rw [aKind_n c4] <;> rfl, rfl⟩)

set_option maxHeartbeats 4000000 in
set_option maxRecDepth 100000 in
theorem c_X5_tray (l : Launch) (D : KD) (b : Nat) {sh : List KSh} (hsh : shP sh) (σ : KS) (π N : Nat → Nat) (x y : Int32) (hP : PF σ.2.2) (hR : Rs σ 1 π N) (hI : qIr N) : Ct l D b yX5_tray cX5_tray 3 (some .int) (rM 2 44) 0 0 [rf b 0, .int x, .int y] sh σ sh (pE (some (.int (aTray N x y))) σ) := by
  have h2 := qi_2 hI
  have ho := s1_in
  refine Ct.of (ls := [(0, rf b 0), (1, .int x), (2, .int y)]) (by decide) (Nat.le_of_ble_eq_true rfl) rfl ?_
  intro pg e s m args below meth c Q hQ X hnm
  refine K_iload_n X 1 dX5_tray_0 rfl rfl ?_
  refine K_callSE X (c_X5_isTray l D b hsh _ _) my_X5_isTray wt_X5_isTray wm_X5_92 ⟨rfl, rfl, Nat.le_of_ble_eq_true rfl, Nat.le_of_ble_eq_true rfl, Nat.le_of_ble_eq_true rfl, Nat.le_of_ble_eq_true rfl⟩ rfl rfl (Nat.le_of_ble_eq_true rfl) dX5_tray_1 ?_
  refine K_ifB_ne (tgt := 9) X dX5_tray_4 (by decide) (fun c4 => ?_) (fun c4 => ?_)
  · obtain ⟨v, hlv, hhv, rfl⟩ := qIn_ex (lo := 0) (hi := 4) (by decide) (by decide) c4
    refine K_iload_n X 2 dX5_tray_9 rfl rfl ?_
    cases hq : qIn 0 1 y
    · refine K_lookup (off := 45) (tgt := 55) X dX5_tray_10 (by decide) ((lv_osw (k := 0) (fun z => by rw [z] at hq; revert hq; decide) (by decide)).trans ((lv_osw (k := 1) (fun z => by rw [z] at hq; revert hq; decide) (by decide)).trans rfl)) (by decide) ?_
      refine K_bipush X dX5_tray_55 cib_m2 ?_
      exact K_iret X hQ dX5_tray_57 (⟨by rw [aTray_o c4 hq] <;> rfl, rfl⟩)
    · obtain ⟨u, hlu, hhu, rfl⟩ := qIn_ex (lo := 0) (hi := 1) (by decide) (by decide) hq
      by_cases hw0 : u = 0
      · subst hw0
        refine K_lookup (off := 26) (tgt := 36) X dX5_tray_10 (by decide) (by decide) (by decide) ?_
        refine K_aload_n X 0 dX5_tray_36 rfl rfl ?_
        refine K_get X 0 kFd5 rfl (by decide) (sf_c hsh) wf_X5_10 rfl (v := rf b (1)) (kv_o (pf_00 hP)) dX5_tray_37 ?_
        refine K_get X 15 kFd4 rfl (by decide) (so_0 hsh 1 ho) wf_X5_95 rfl (v := rf b (1 + 5)) (kv_a (ps_15 hP ho)) dX5_tray_40 ?_
        refine K_iload_n X 1 dX5_tray_43 rfl rfl ?_
        refine K_iald X _ (so_5 hsh 1 ho) rfl (by omega) (by decide) (x := nI (N (40 + v))) (rs_a hR 5 (by decide) (by decide) (show _ < 5 from by omega)) dX5_tray_44 ?_
        exact K_iret X hQ dX5_tray_45 (⟨by rw [aTray_in c4 hq (by omega) (by decide)] <;> rfl, rfl⟩)
      have hw1 : u = 1 := by omega
      subst hw1
      refine K_lookup (off := 36) (tgt := 46) X dX5_tray_10 (by decide) (by decide) (by decide) ?_
      refine K_aload_n X 0 dX5_tray_46 rfl rfl ?_
      refine K_get X 0 kFd5 rfl (by decide) (sf_c hsh) wf_X5_10 rfl (v := rf b (1)) (kv_o (pf_00 hP)) dX5_tray_47 ?_
      refine K_iload_n X 1 dX5_tray_50 rfl rfl ?_
      refine K_callVE X (c_X4_numberOnTray l D b hsh _ _ _ _ _ hP ho hR hI (by omega)) my_X4_numberOnTray mv_X4_numberOnTray wm_X5_197 (so_0 hsh 1 ho) rfl ⟨rfl, rfl, Nat.le_of_ble_eq_true rfl, Nat.le_of_ble_eq_true rfl, Nat.le_of_ble_eq_true rfl, Nat.le_of_ble_eq_true rfl⟩ rfl rfl (Nat.le_of_ble_eq_true rfl) dX5_tray_51 ?_
      exact K_iret X hQ dX5_tray_54 (⟨by rw [aTray_in c4 hq (by omega) (by decide)] <;> rfl, rfl⟩)
  · refine K_iconst X dX5_tray_7 cii_m1 ?_
    exact K_iret X hQ dX5_tray_8 (⟨by rw [aTray_n c4] <;> rfl, rfl⟩)

set_option maxHeartbeats 4000000 in
set_option maxRecDepth 100000 in
theorem c_X5_cut (l : Launch) (D : KD) (b : Nat) {sh : List KSh} (hsh : shP sh) (σ : KS) (π N : Nat → Nat) (x : Int32) (hP : PF σ.2.2) (hR : Rs σ 1 π N) (hI : qIr N) : Ct l D b yX5_cut cX5_cut 2 (some .int) (rM 2 42) 0 0 [rf b 0, .int x] sh σ sh (pE (some (.int (aCut N x))) σ) := by
  have h2 := qi_2 hI
  have ho := s1_in
  refine Ct.of (ls := [(0, rf b 0), (1, .int x)]) (by decide) (Nat.le_of_ble_eq_true rfl) rfl ?_
  intro pg e s m args below meth c Q hQ X hnm
  refine K_iload_n X 1 dX5_cut_0 rfl rfl ?_
  refine K_callSE X (c_X5_isHour l D b hsh _ _) my_X5_isHour wt_X5_isHour wm_X5_59 ⟨rfl, rfl, Nat.le_of_ble_eq_true rfl, Nat.le_of_ble_eq_true rfl, Nat.le_of_ble_eq_true rfl, Nat.le_of_ble_eq_true rfl⟩ rfl rfl (Nat.le_of_ble_eq_true rfl) dX5_cut_1 ?_
  refine K_ifB_ne (tgt := 9) X dX5_cut_4 (by decide) (fun c4 => ?_) (fun c4 => ?_)
  · obtain ⟨v, hlv, hhv, rfl⟩ := qIn_ex (lo := 0) (hi := 10) (by decide) (by decide) c4
    refine K_aload_n X 0 dX5_cut_9 rfl rfl ?_
    refine K_get X 0 kFd5 rfl (by decide) (sf_c hsh) wf_X5_10 rfl (v := rf b (1)) (kv_o (pf_00 hP)) dX5_cut_10 ?_
    refine K_get X 13 kFd4 rfl (by decide) (so_0 hsh 1 ho) wf_X5_62 rfl (v := rf b (1 + 3)) (kv_a (ps_13 hP ho)) dX5_cut_13 ?_
    refine K_iload_n X 1 dX5_cut_16 rfl rfl ?_
    refine K_iald X _ (so_3 hsh 1 ho) rfl (by omega) (by decide) (x := nI (N (23 + v))) (rs_a hR 3 (by decide) (by decide) (show _ < 11 from by omega)) dX5_cut_17 ?_
    exact K_iret X hQ dX5_cut_18 (⟨by unfold aCut; rw [if_pos c4, nI_clamp (by omega)], rfl⟩)
  · refine K_iconst X dX5_cut_7 cii_m1 ?_
    exact K_iret X hQ dX5_cut_8 (⟨by unfold aCut; rw [qI_f c4] <;> rfl, rfl⟩)

set_option maxHeartbeats 4000000 in
set_option maxRecDepth 100000 in
theorem c_X5_worth (l : Launch) (D : KD) (b : Nat) {sh : List KSh} (hsh : shP sh) (σ : KS) (π N : Nat → Nat) (hP : PF σ.2.2) (hR : Rs σ 1 π N) (hI : qIr N) : Ct l D b yX5_worth cX5_worth 5 (some .long) (rM 2 45) 0 0 [rf b 0] sh σ sh (pE (some (.long (lN (qWorth N (N 2))))) σ) := by
  have h2 := qi_2 hI
  have ho := s1_in
  refine Ct.of (ls := [(0, rf b 0)]) (by decide) (Nat.le_of_ble_eq_true rfl) rfl ?_
  intro pg e s m args below meth c Q hQ X hnm
  refine K_lconst (v := lN 0) X dX5_worth_0 rfl ?_
  refine K_lstore_n X (ls' := [(1, _), (0, _)]) dX5_worth_1 rfl (by decide) rfl ?_
  refine K_iconst X dX5_worth_2 cii_0 ?_
  refine K_istore_n X (ls' := [(3, _), (1, _), (0, _)]) dX5_worth_3 rfl (by decide) rfl ?_
  have loop : ∀ i : Nat, i ≤ N 2 → K pg l e (rM 2 45) s m args below meth c Q D b 5 0 0 sh σ 4 [(0, rf b 0), (1, .long (lN (qWorth N i))), (3, .int (nI i))] [] := by
    refine kup (fun i hi ih => ?_)
    refine K_iload_n X 2 dX5_worth_4 rfl rfl ?_
    refine K_aload_n X 0 dX5_worth_5 rfl rfl ?_
    refine K_get X 0 kFd5 rfl (by decide) (sf_c hsh) wf_X5_10 rfl (v := rf b (1)) (kv_o (pf_00 hP)) dX5_worth_6 ?_
    refine K_get X 5 kFd4 rfl (by decide) (so_0 hsh 1 ho) wf_X5_161 rfl (v := .int (nI (N 2))) (congrArg Value.int (rs_i hR 5 (by decide))) dX5_worth_9 ?_
    refine K_icmpN_ge (tgt := 68) X dX5_worth_12 (by decide) (by omega) (by omega) (fun c12 => ?_) (fun c12 => ?_)
    · refine K_lload_n X 1 dX5_worth_68 rfl rfl ?_
      exact K_lret X hQ dX5_worth_69 (⟨by rw [show i = N 2 from by omega], rfl⟩)
    · refine K_aload_n X 0 dX5_worth_15 rfl rfl ?_
      refine K_get X 0 kFd5 rfl (by decide) (sf_c hsh) wf_X5_10 rfl (v := rf b (1)) (kv_o (pf_00 hP)) dX5_worth_16 ?_
      refine K_get X 16 kFd4 rfl (by decide) (so_0 hsh 1 ho) wf_X5_219 rfl (v := rf b (1 + 6)) (kv_a (ps_16 hP ho)) dX5_worth_19 ?_
      refine K_iload_n X 2 dX5_worth_22 rfl rfl ?_
      refine K_aald (z := 1 + 7 + π i) X _ (so_6 hsh 1 ho) (by decide) rfl (by omega) (by decide) (rs_r hR (by omega)) dX5_worth_23 ?_
      refine K_astore X (ls' := [(4, _), (0, _), (1, _), (3, _)]) dX5_worth_24 (by decide) rfl ?_
      refine K_aload X 0 dX5_worth_26 rfl ?_
      refine K_get X 3 kFd3 rfl (by decide) (so_l hsh ho (rs_lt hR (by omega))) wf_X5_133 rfl (v := .int (nI (qL N i 3))) (congrArg Value.int (rs_l hR (show i < N 2 from by omega) 3 (by decide))) dX5_worth_28 ?_
      refine K_aload_n X 1 dX5_worth_31 rfl rfl ?_
      refine K_get X 0 kFd5 rfl (by decide) (sf_c hsh) wf_X5_10 rfl (v := rf b (1)) (kv_o (pf_00 hP)) dX5_worth_32 ?_
      refine K_get X 3 kFd4 rfl (by decide) (so_0 hsh 1 ho) wf_X5_65 rfl (v := .int (nI (N 9))) (congrArg Value.int (rs_i hR 3 (by decide))) dX5_worth_35 ?_
      refine K_icmpN_lt (tgt := 62) X dX5_worth_38 (by decide) (by have := qi_l3 hI (show i < N 2 from by omega); omega) (by have := qi_9 hI; omega) (fun c38 => ?_) (fun c38 => ?_)
      · refine K_iinc X 3 (ls' := [(3, _), (4, _), (0, _), (1, _)]) dX5_worth_62 rfl (inc_1 _) (by decide) rfl ?_
        refine K_goto (tgt := 4) X dX5_worth_65 (by decide) ?_
        rw [show qWorth N (i + 1) = qWorth N i + 0 from congrArg (qWorth N i + ·) (if_neg (fun z => by have := of_decide_eq_true z; omega))] at ih
        exact K_sub [2, 3, 0] rfl (ih (by omega))
      · refine K_lload_n X 2 dX5_worth_41 rfl rfl ?_
        refine K_aload X 0 dX5_worth_42 rfl ?_
        refine K_get X 2 kFd3 rfl (by decide) (so_l hsh ho (rs_lt hR (by omega))) wf_X5_127 rfl (v := .int (nI (qL N i 2))) (congrArg Value.int (rs_l hR (show i < N 2 from by omega) 2 (by decide))) dX5_worth_44 ?_
        refine K_aload_n X 1 dX5_worth_47 rfl rfl ?_
        refine K_get X 0 kFd5 rfl (by decide) (sf_c hsh) wf_X5_10 rfl (v := rf b (1)) (kv_o (pf_00 hP)) dX5_worth_48 ?_
        refine K_aload X 0 dX5_worth_51 rfl ?_
        refine K_callVE X (c_X4_priceOf l D b hsh _ _ _ _ _ hP ho hR hI (by omega)) my_X4_priceOf mv_X4_priceOf wm_X5_111 (so_0 hsh 1 ho) rfl ⟨rfl, rfl, Nat.le_of_ble_eq_true rfl, Nat.le_of_ble_eq_true rfl, Nat.le_of_ble_eq_true rfl, Nat.le_of_ble_eq_true rfl⟩ rfl rfl (Nat.le_of_ble_eq_true rfl) dX5_worth_53 ?_
        refine K_callSE X (c_X5_moneyFor l D b hsh _ _ _ (qW_b (qi_l2 hI (by omega)) (qPrice_le hI (by omega)))) my_X5_moneyFor wt_X5_moneyFor wm_X5_188 ⟨rfl, rfl, Nat.le_of_ble_eq_true rfl, Nat.le_of_ble_eq_true rfl, Nat.le_of_ble_eq_true rfl, Nat.le_of_ble_eq_true rfl⟩ rfl rfl (Nat.le_of_ble_eq_true rfl) dX5_worth_56 ?_
        refine K_i2lN X dX5_worth_59 (by have := qW_le (qi_l2 hI (show i < N 2 from by omega)) (qPrice_le hI (show i < N 2 from by omega)); omega) ?_
        refine K_laddN X dX5_worth_60 ?_
        refine K_lstore_n X (ls' := [(1, _), (4, _), (0, _), (3, _)]) dX5_worth_61 rfl (by decide) rfl ?_
        refine K_iinc X 3 (ls' := [(3, _), (1, _), (4, _), (0, _)]) dX5_worth_62 rfl (inc_1 _) (by decide) rfl ?_
        refine K_goto (tgt := 4) X dX5_worth_65 (by decide) ?_
        rw [show qWorth N (i + 1) = qWorth N i + qW (qL N i 2) (qPrice N i) from congrArg (qWorth N i + ·) (if_pos (decide_eq_true (by omega)))] at ih
        exact K_sub [3, 1, 0] rfl (ih (by omega))
  exact K_sub [2, 1, 0] rfl (loop 0 (Nat.zero_le _))
