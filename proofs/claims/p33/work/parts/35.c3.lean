/-! THE CLASS: what changes its shop -/
theorem wI_upd2 {σ : KS} {a : Nat} {F G : Nat → Int32} {x y : Int32} (h : upd (upd F 4 x) 5 y = G) : wI (wI σ a F) a (upd (upd ((wI σ a F).1 a) 4 x) 5 y) = wI σ a G := by rw [wI_self, wI_wI, h]
theorem qAdd_F {g0 : Nat → Int32} (N : Nat → Nat) (kd g fr bx : Nat) {x y : Int32} : ∀ z, z < 4 → upd (upd (upd (upd (upd (upd g0 0 (nI (N 10 + 1))) 1 (nI kd)) 2 (nI g)) 3 (nI fr)) 4 x) 5 y z = nI (qL (qAdd N kd g fr bx) (N 2) z) := by
  intro z hz
  rcases (show z = 0 ∨ z = 1 ∨ z = 2 ∨ z = 3 from by omega) with rfl | rfl | rfl | rfl
  · rw [qAdd_l0]; simp [upd]
  · rw [qAdd_l1]; simp [upd]
  · rw [qAdd_l2]; simp [upd]
  · rw [qAdd_l3]; simp [upd]

set_option maxHeartbeats 4000000 in
set_option maxRecDepth 100000 in
theorem c_X4_addLot (l : Launch) (D : KD) (b : Nat) {sh : List KSh} (hsh : shP sh) (σ : KS) (o : Nat) (π N : Nat → Nat) (kd g fr bx : Nat) (hP : PF σ.2.2) (ho : o ∈ shL) (hR : Rs σ o π N) (h2 : N 2 < 16) (h1 : bx < 6) : Ct l D b yX4_addLot cX4_addLot 6 (some .int) (rM 1 21) 0 0 [rf b o, .int (nI kd), .int (nI g), .int (nI fr), .int (nI bx)] sh σ sh (pS (some (.int (nI (N 10 + 1)))) (fun τ => SP σ τ o (qAdd N kd g fr bx))) := by
  have hP0 := hP
  have hF : Fr σ σ o := Fr.rf
  refine Ct.of (ls := [(0, rf b o), (1, .int (nI kd)), (2, .int (nI g)), (3, .int (nI fr)), (4, .int (nI bx))]) (by decide) (Nat.le_of_ble_eq_true rfl) rfl ?_
  intro pg e s m args below meth c Q hQ X hnm
  refine K_aload_n X 0 dX4_addLot_0 rfl rfl ?_
  refine K_dup X dX4_addLot_1 rfl ?_
  refine K_get X 4 kFd4 rfl (by decide) (so_0 hsh o ho) wf_X4_47 rfl (v := .int (nI (N 10))) (congrArg Value.int (rs_i hR 4 (by decide))) dX4_addLot_2 ?_
  refine K_iconst X dX4_addLot_5 cii_1 ?_
  refine K_iaddN X dX4_addLot_6 ?_
  refine K_putI X 4 kFd4 rfl (by decide) (so_0 hsh o ho) wf_X4_47 rfl rfl rfl dX4_addLot_7 ?_
  refine K_gen (φ := fun τ => Rs τ o π ((uN N 10 (N 10 + 1))) ∧ Fr _ τ o) ⟨hR.int (by omega) (k := 4) (by decide), hF.tr (Fr.i (by omega) (by omega))⟩ (fun σ hs => ?_)
  obtain ⟨hR, hF⟩ := hs
  have hP := hF.PF ho hP0
  refine K_aload_n X 0 dX4_addLot_10 rfl rfl ?_
  refine K_get X 16 kFd4 rfl (by decide) (so_0 hsh o ho) wf_X4_36 rfl (v := rf b (o + 6)) (kv_a (ps_16 hP ho)) dX4_addLot_11 ?_
  refine K_aload_n X 0 dX4_addLot_14 rfl rfl ?_
  refine K_get X 5 kFd4 rfl (by decide) (so_0 hsh o ho) wf_X4_50 rfl (v := .int (nI ((uN N 10 (N 10 + 1)) 2))) (congrArg Value.int (rs_i hR 5 (by decide))) dX4_addLot_15 ?_
  rw [uN_n (show 2 ≠ 10 from by decide)]
  refine K_aald (z := o + 7 + π (N 2)) X _ (so_6 hsh o ho) (by decide) rfl (by omega) (by decide) (rs_r hR (by omega)) dX4_addLot_18 ?_
  refine K_astore X (ls' := [(5, _), (0, _), (1, _), (2, _), (3, _), (4, _)]) dX4_addLot_19 (by decide) rfl ?_
  refine K_aload X 0 dX4_addLot_21 rfl ?_
  refine K_aload_n X 1 dX4_addLot_23 rfl rfl ?_
  refine K_get X 4 kFd4 rfl (by decide) (so_0 hsh o ho) wf_X4_47 rfl (v := .int (nI ((uN N 10 (N 10 + 1)) 10))) (congrArg Value.int (rs_i hR 4 (by decide))) dX4_addLot_24 ?_
  rw [uN_s]
  refine K_putI X 0 kFd3 rfl (by decide) (so_l hsh ho (rs_lt hR (by omega))) wf_X4_79 rfl rfl rfl dX4_addLot_27 ?_
  refine K_aload X 0 dX4_addLot_30 rfl ?_
  refine K_iload_n X 2 dX4_addLot_32 rfl rfl ?_
  refine K_putI X 1 kFd3 rfl (by decide) (so_l hsh ho (rs_lt hR (by omega))) wf_X4_101 rfl rfl rfl dX4_addLot_33 ?_
  refine K_st (wI_upd rfl) ?_
  refine K_aload X 0 dX4_addLot_36 rfl ?_
  refine K_iload_n X 3 dX4_addLot_38 rfl rfl ?_
  refine K_putI X 2 kFd3 rfl (by decide) (so_l hsh ho (rs_lt hR (by omega))) wf_X4_98 rfl rfl rfl dX4_addLot_39 ?_
  refine K_st (wI_upd rfl) ?_
  refine K_aload X 0 dX4_addLot_42 rfl ?_
  refine K_iload_n X 4 dX4_addLot_44 rfl rfl ?_
  refine K_putI X 3 kFd3 rfl (by decide) (so_l hsh ho (rs_lt hR (by omega))) wf_X4_104 rfl rfl rfl dX4_addLot_45 ?_
  refine K_st (wI_upd rfl) ?_
  refine K_aload X 0 dX4_addLot_48 rfl ?_
  refine K_iload X 5 dX4_addLot_50 rfl ?_
  refine K_callVE0 X (c_X3_putInBox l D b hsh _ _ _ (so_l hsh ho (rs_lt hR (by omega)))) my_X3_putInBox mv_X3_putInBox wm_X4_121 (so_l hsh ho (rs_lt hR (by omega))) rfl ⟨rfl, rfl, Nat.le_of_ble_eq_true rfl, Nat.le_of_ble_eq_true rfl, Nat.le_of_ble_eq_true rfl, Nat.le_of_ble_eq_true rfl⟩ rfl rfl (Nat.le_of_ble_eq_true rfl) dX4_addLot_52 ?_
  refine K_st (wI_upd2 rfl) ?_
  refine K_aload_n X 1 dX4_addLot_55 rfl rfl ?_
  refine K_dup X dX4_addLot_56 rfl ?_
  refine K_get X 5 kFd4 rfl (by decide) (so_0 hsh o ho) wf_X4_50 rfl (v := .int (nI (N 2))) (congrArg Value.int ((congrFun (wI_ne (by omega)) 5).trans ((rs_i hR 5 (by decide)).trans (congrArg nI (uN_n (by decide)))))) dX4_addLot_57 ?_
  refine K_iconst X dX4_addLot_60 cii_1 ?_
  refine K_iaddN X dX4_addLot_61 ?_
  refine K_putI X 5 kFd4 rfl (by decide) (so_0 hsh o ho) wf_X4_50 rfl rfl rfl dX4_addLot_62 ?_
  have hB1 : uN N 10 (N 10 + 1) 2 = N 2 := uN_n (by decide)
  have hlt := rs_lt hR (show N 2 < 16 from by omega)
  have hA := Rs.add hR (by rw [hB1]; exact h2) (F := upd (upd (upd (upd (upd (upd (σ.1 (o + 7 + π (N 2))) 0 (nI (N 10 + 1))) 1 (nI kd)) 2 (nI g)) 3 (nI fr)) 4 (nI bx)) 5 (-6)) (N' := qAdd N kd g fr bx) (by rw [hB1]; exact qAdd_2 N kd g fr bx) (fun i a q => by rw [hB1] at q; by_cases e : i = 10; (rw [e, qAdd_10, uN_s]); (rw [qAdd_o a e q, uN_n e])) (by rw [hB1]; exact qAdd_F N kd g fr bx) (by rw [hB1, qAdd_l4]; exact (if_neg (by omega)).symm) (by rw [hB1, qAdd_l4]; exact (if_neg (by omega)).symm)
  rw [hB1] at hA
  refine K_gen (φ := fun τ => Rs τ o π (qAdd N kd g fr bx) ∧ Fr _ τ o) ⟨hA, hF.tr ((Fr.i (by omega) (by omega)).tr (Fr.i (by omega) (by omega)))⟩ (fun σ hs => ?_)
  obtain ⟨hR, hF⟩ := hs
  have hP := hF.PF ho hP0
  refine K_aload_n X 1 dX4_addLot_65 rfl rfl ?_
  refine K_get X 4 kFd4 rfl (by decide) (so_0 hsh o ho) wf_X4_47 rfl (v := .int (nI ((qAdd N kd g fr bx) 10))) (congrArg Value.int (rs_i hR 4 (by decide))) dX4_addLot_66 ?_
  rw [qAdd_10]
  exact K_iret X hQ dX4_addLot_69 (⟨rfl, ⟨_, hR⟩, hF⟩)

theorem qRot_e {σ : KS} {o : Nat} {f : Nat → Int32} {k n z : Nat} (hk : k ≤ n) {j : Nat} (h : σ.2.2 (o + 6) k = some z) : (wP (wI (wP σ (o + 6) (qRot (σ.2.2 (o + 6)) k n)) o f) (o + 6) (va_up ((wI (wP σ (o + 6) (qRot (σ.2.2 (o + 6)) k n)) o f).2.2 (o + 6)) n (some z))).2.2 (o + 6) j = if j = n then σ.2.2 (o + 6) k else if k ≤ j ∧ j < n then σ.2.2 (o + 6) (j + 1) else σ.2.2 (o + 6) j := by
  rw [wP_self]
  show va_up ((wP σ (o + 6) _).2.2 (o + 6)) n (some z) j = _
  rw [wP_self]
  unfold va_up qRot
  by_cases q : j = n
  · rw [if_pos q, if_pos q, h]
  · rw [if_neg q, if_neg q]

set_option maxHeartbeats 4000000 in
set_option maxRecDepth 100000 in
theorem c_X4_removeLotAt (l : Launch) (D : KD) (b : Nat) {sh : List KSh} (hsh : shP sh) (σ : KS) (o : Nat) (π N : Nat → Nat) (k : Nat) (hP : PF σ.2.2) (ho : o ∈ shL) (hR : Rs σ o π N) (h16 : N 2 ≤ 16) (hk : k < N 2) : Ct l D b yX4_removeLotAt cX4_removeLotAt 4 none (rM 0 0) 0 0 [rf b o, .int (nI k)] sh σ sh (pS none (fun τ => SP σ τ o (qDrop N k))) := by
  refine Ct.of (ls := [(0, rf b o), (1, .int (nI k))]) (by decide) (Nat.le_of_ble_eq_true rfl) rfl ?_
  intro pg e s m args below meth c Q hQ X hnm
  refine K_aload_n X 0 dX4_removeLotAt_0 rfl rfl ?_
  refine K_get X 16 kFd4 rfl (by decide) (so_0 hsh o ho) wf_X4_36 rfl (v := rf b (o + 6)) (kv_a (ps_16 hP ho)) dX4_removeLotAt_1 ?_
  refine K_iload_n X 1 dX4_removeLotAt_4 rfl rfl ?_
  refine K_aald (z := o + 7 + π k) X _ (so_6 hsh o ho) (by decide) rfl (by omega) (by decide) (rs_r hR (by omega)) dX4_removeLotAt_5 ?_
  refine K_astore_n X (ls' := [(2, _), (0, _), (1, _)]) dX4_removeLotAt_6 rfl (by decide) rfl ?_
  refine K_iload_n X 2 dX4_removeLotAt_7 rfl rfl ?_
  refine K_istore_n X (ls' := [(3, _), (2, _), (0, _), (1, _)]) dX4_removeLotAt_8 rfl (by decide) rfl ?_
  refine K_st (wP_id (a := o + 6) rfl).symm ?_
  have loop : ∀ i : Nat, i ≤ N 2 - 1 → k ≤ i → K pg l e (rM 0 0) s m args below meth c Q D b 4 0 0 sh (wP σ (o + 6) (qRot (σ.2.2 (o + 6)) k i)) 9 [(0, rf b o), (1, .int (nI k)), (2, rf b (o + 7 + π k)), (3, .int (nI i))] [] := by
    refine kup (fun i hi ih => ?_)
    intro hki
    refine K_iload_n X 3 dX4_removeLotAt_9 rfl rfl ?_
    refine K_aload_n X 0 dX4_removeLotAt_10 rfl rfl ?_
    refine K_get X 5 kFd4 rfl (by decide) (so_0 hsh o ho) wf_X4_50 rfl (v := .int (nI (N 2))) (congrArg Value.int (rs_i hR 5 (by decide))) dX4_removeLotAt_11 ?_
    refine K_iconst X dX4_removeLotAt_14 cii_1 ?_
    refine K_isubN X dX4_removeLotAt_15 (by omega) ?_
    refine K_icmpN_ge (tgt := 39) X dX4_removeLotAt_16 (by decide) (by omega) (by omega) (fun c16 => ?_) (fun c16 => ?_)
    · rw [show i = N 2 - 1 from by omega]
      refine K_aload_n X 0 dX4_removeLotAt_39 rfl rfl ?_
      refine K_dup X dX4_removeLotAt_40 rfl ?_
      refine K_get X 5 kFd4 rfl (by decide) (so_0 hsh o ho) wf_X4_50 rfl (v := .int (nI (N 2))) (congrArg Value.int (rs_i hR 5 (by decide))) dX4_removeLotAt_41 ?_
      refine K_iconst X dX4_removeLotAt_44 cii_1 ?_
      refine K_isubN X dX4_removeLotAt_45 (by omega) ?_
      refine K_putI X 5 kFd4 rfl (by decide) (so_0 hsh o ho) wf_X4_50 rfl rfl rfl dX4_removeLotAt_46 ?_
      refine K_aload_n X 0 dX4_removeLotAt_49 rfl rfl ?_
      refine K_get X 16 kFd4 rfl (by decide) (so_0 hsh o ho) wf_X4_36 rfl (v := rf b (o + 6)) (kv_a ((congrFun (wP_ne (σ := σ) (f := qRot (σ.2.2 (o + 6)) k (N 2 - 1)) (show o ≠ o + 6 from by omega)) 16).trans (ps_16 hP ho))) dX4_removeLotAt_50 ?_
      refine K_aload_n X 0 dX4_removeLotAt_53 rfl rfl ?_
      refine K_get X 5 kFd4 rfl (by decide) (so_0 hsh o ho) wf_X4_50 rfl (v := .int (nI (N 2 - 1))) (congrArg Value.int ((congrFun wI_self 5).trans (if_pos rfl))) dX4_removeLotAt_54 ?_
      refine K_aload_n X 2 dX4_removeLotAt_57 rfl rfl ?_
      refine K_aast X _ (so_6 hsh o ho) (by decide) (so_l hsh ho (rs_lt hR (show k < 16 from by omega))) rfl rfl (by omega) (by decide) dX4_removeLotAt_58 ?_
      exact K_vret X hQ dX4_removeLotAt_59 (⟨rfl, ⟨_, Rs.drop hR h16 hk (fun x => rfl) rfl (fun j => qRot_e (hk := by omega) (rs_r hR (by omega)))⟩, (Fr.p.tr (Fr.i (by omega) (by omega))).tr Fr.p⟩)
    · refine K_aload_n X 0 dX4_removeLotAt_19 rfl rfl ?_
      refine K_get X 16 kFd4 rfl (by decide) (so_0 hsh o ho) wf_X4_36 rfl (v := rf b (o + 6)) (kv_a ((congrFun (wP_ne (σ := σ) (f := qRot (σ.2.2 (o + 6)) k i) (show o ≠ o + 6 from by omega)) 16).trans (ps_16 hP ho))) dX4_removeLotAt_20 ?_
      refine K_iload_n X 3 dX4_removeLotAt_23 rfl rfl ?_
      refine K_aload_n X 0 dX4_removeLotAt_24 rfl rfl ?_
      refine K_get X 16 kFd4 rfl (by decide) (so_0 hsh o ho) wf_X4_36 rfl (v := rf b (o + 6)) (kv_a ((congrFun (wP_ne (σ := σ) (f := qRot (σ.2.2 (o + 6)) k i) (show o ≠ o + 6 from by omega)) 16).trans (ps_16 hP ho))) dX4_removeLotAt_25 ?_
      refine K_iload_n X 3 dX4_removeLotAt_28 rfl rfl ?_
      refine K_iconst X dX4_removeLotAt_29 cii_1 ?_
      refine K_iaddN X dX4_removeLotAt_30 ?_
      refine K_aald (z := o + 7 + π (i + 1)) X _ (so_6 hsh o ho) (by decide) rfl (by omega) (by decide) ((congrFun wP_self _).trans ((qRot_at (by omega)).trans (rs_r hR (by omega)))) dX4_removeLotAt_31 ?_
      refine K_aast X _ (so_6 hsh o ho) (by decide) (so_l hsh ho (rs_lt hR (show i + 1 < 16 from by omega))) rfl rfl (by omega) (by decide) dX4_removeLotAt_32 ?_
      refine K_st (by rw [wP_self, wP_wP, qRot_s (by omega) (rs_r hR (by omega))]) ?_
      refine K_iinc X 3 (ls' := [(3, _), (0, _), (1, _), (2, _)]) dX4_removeLotAt_33 rfl (inc_1 _) (by decide) rfl ?_
      refine K_goto (tgt := 9) X dX4_removeLotAt_36 (by decide) ?_
      exact K_sub [1, 2, 3, 0] rfl (ih (by omega) (by omega))
  have l0 := loop k (by omega) (Nat.le_refl _)
  rw [qRot_0] at l0
  exact K_sub [2, 3, 1, 0] rfl l0

set_option maxHeartbeats 4000000 in
set_option maxRecDepth 100000 in
theorem c_X4_discardLotAt (l : Launch) (D : KD) (b : Nat) {sh : List KSh} (hsh : shP sh) (σ : KS) (o : Nat) (π N : Nat → Nat) (k : Nat) (hP : PF σ.2.2) (ho : o ∈ shL) (hR : Rs σ o π N) (hI : qIr N) (hk : k < N 2) : Ct l D b yX4_discardLotAt cX4_discardLotAt 3 (some .int) (rM 1 23) 0 0 [rf b o, .int (nI k)] sh σ sh (pS (some (.int (nI (qL N k 2)))) (fun τ => SP σ τ o (qThrow N k))) := by
  have hP0 := hP
  have hF : Fr σ σ o := Fr.rf
  have h2 := qi_2 hI
  refine Ct.of (ls := [(0, rf b o), (1, .int (nI k))]) (by decide) (Nat.le_of_ble_eq_true rfl) rfl ?_
  intro pg e s m args below meth c Q hQ X hnm
  refine K_aload_n X 0 dX4_discardLotAt_0 rfl rfl ?_
  refine K_get X 16 kFd4 rfl (by decide) (so_0 hsh o ho) wf_X4_36 rfl (v := rf b (o + 6)) (kv_a (ps_16 hP ho)) dX4_discardLotAt_1 ?_
  refine K_iload_n X 1 dX4_discardLotAt_4 rfl rfl ?_
  refine K_aald (z := o + 7 + π k) X _ (so_6 hsh o ho) (by decide) rfl (by omega) (by decide) (rs_r hR (by omega)) dX4_discardLotAt_5 ?_
  refine K_get X 2 kFd3 rfl (by decide) (so_l hsh ho (rs_lt hR (by omega))) wf_X4_98 rfl (v := .int (nI (qL N k 2))) (congrArg Value.int (rs_l hR hk 2 (by decide))) dX4_discardLotAt_6 ?_
  refine K_istore_n X (ls' := [(2, _), (0, _), (1, _)]) dX4_discardLotAt_9 rfl (by decide) rfl ?_
  refine K_aload_n X 1 dX4_discardLotAt_10 rfl rfl ?_
  refine K_dup X dX4_discardLotAt_11 rfl ?_
  refine K_get X 8 kFd4 rfl (by decide) (so_0 hsh o ho) wf_X4_60 rfl (v := .long (lN (N 5))) (congrArg Value.long (rs_j hR 8 (by decide) (by decide))) dX4_discardLotAt_12 ?_
  refine K_iload_n X 0 dX4_discardLotAt_15 rfl rfl ?_
  refine K_i2lN X dX4_discardLotAt_16 (by have := qi_l2 hI hk; omega) ?_
  refine K_laddN X dX4_discardLotAt_17 ?_
  refine K_putL X 8 kFd4 rfl (by decide) (so_0 hsh o ho) wf_X4_60 rfl rfl rfl dX4_discardLotAt_18 ?_
  refine K_gen (φ := fun τ => Rs τ o π ((uN N 5 (N 5 + qL N k 2))) ∧ Fr _ τ o) ⟨hR.long (k := 8) (by decide) (by decide), hF.tr (Fr.l (by omega) (by omega))⟩ (fun σ hs => ?_)
  obtain ⟨hR, hF⟩ := hs
  have hP := hF.PF ho hP0
  refine K_aload_n X 1 dX4_discardLotAt_21 rfl rfl ?_
  refine K_iload_n X 2 dX4_discardLotAt_22 rfl rfl ?_
  refine K_callVP0 X (c_X4_removeLotAt l D b hsh _ _ _ _ _ hP ho hR (by rw [uN_n (by decide)]; omega) (by rw [uN_n (by decide)]; omega)) my_X4_removeLotAt mv_X4_removeLotAt wm_X4_133 (so_0 hsh o ho) rfl ⟨rfl, rfl, Nat.le_of_ble_eq_true rfl, Nat.le_of_ble_eq_true rfl, Nat.le_of_ble_eq_true rfl, Nat.le_of_ble_eq_true rfl⟩ rfl rfl (Nat.le_of_ble_eq_true rfl) dX4_discardLotAt_23 (fun σ23 h23 => ?_)
  refine K_gen (φ := fun τ => SP _ τ o _) h23 (fun σ h => ?_)
  obtain ⟨⟨π, hR⟩, hF1⟩ := h
  have hF := hF.tr hF1
  have hP := hF.PF ho hP0
  refine K_iload_n X 0 dX4_discardLotAt_26 rfl rfl ?_
  exact K_iret X hQ dX4_discardLotAt_27 (⟨rfl, ⟨_, hR⟩, hF⟩)

set_option maxHeartbeats 4000000 in
set_option maxRecDepth 100000 in
theorem c_X4_buyLot (l : Launch) (D : KD) (b : Nat) {sh : List KSh} (hsh : shP sh) (σ : KS) (o : Nat) (π N : Nat → Nat) (kd g fr bx : Nat) (hP : PF σ.2.2) (ho : o ∈ shL) (hR : Rs σ o π N) (hI : qIr N) (h2 : N 2 < 16) (h1k : kd < 6) (hg : g ≤ 20000) (h1 : bx < 6) : Ct l D b yX4_buyLot cX4_buyLot 5 (some .int) (rM 2 46) 0 0 [rf b o, .int (nI kd), .int (nI g), .int (nI fr), .int (nI bx)] sh σ sh (pS (some (.int (nI (N 10 + 1)))) (fun τ => SP σ τ o (qDel N kd g fr bx))) := by
  have hP0 := hP
  have hF : Fr σ σ o := Fr.rf
  refine Ct.of (ls := [(0, rf b o), (1, .int (nI kd)), (2, .int (nI g)), (3, .int (nI fr)), (4, .int (nI bx))]) (by decide) (Nat.le_of_ble_eq_true rfl) rfl ?_
  intro pg e s m args below meth c Q hQ X hnm
  refine K_aload_n X 0 dX4_buyLot_0 rfl rfl ?_
  refine K_dup X dX4_buyLot_1 rfl ?_
  refine K_get X 6 kFd4 rfl (by decide) (so_0 hsh o ho) wf_X4_53 rfl (v := .long (lN (N 3))) (congrArg Value.long (rs_j hR 6 (by decide) (by decide))) dX4_buyLot_2 ?_
  refine K_iload_n X 2 dX4_buyLot_5 rfl rfl ?_
  refine K_i2lN X dX4_buyLot_6 (by omega) ?_
  refine K_laddN X dX4_buyLot_7 ?_
  refine K_putL X 6 kFd4 rfl (by decide) (so_0 hsh o ho) wf_X4_53 rfl rfl rfl dX4_buyLot_8 ?_
  refine K_gen (φ := fun τ => Rs τ o π ((uN N 3 (N 3 + g))) ∧ Fr _ τ o) ⟨hR.long (k := 6) (by decide) (by decide), hF.tr (Fr.l (by omega) (by omega))⟩ (fun σ hs => ?_)
  obtain ⟨hR, hF⟩ := hs
  have hP := hF.PF ho hP0
  refine K_aload_n X 0 dX4_buyLot_11 rfl rfl ?_
  refine K_dup X dX4_buyLot_12 rfl ?_
  refine K_get X 9 kFd4 rfl (by decide) (so_0 hsh o ho) wf_X4_63 rfl (v := .long (lN ((uN N 3 (N 3 + g)) 6))) (congrArg Value.long (rs_j hR 9 (by decide) (by decide))) dX4_buyLot_13 ?_
  rw [uN_n (show 6 ≠ 3 from by decide)]
  refine K_iload_n X 2 dX4_buyLot_16 rfl rfl ?_
  refine K_aload_n X 0 dX4_buyLot_17 rfl rfl ?_
  refine K_get X 12 kFd4 rfl (by decide) (so_0 hsh o ho) wf_X4_22 rfl (v := rf b (o + 2)) (kv_a (ps_12 hP ho)) dX4_buyLot_18 ?_
  refine K_iload_n X 1 dX4_buyLot_21 rfl rfl ?_
  refine K_iald X _ (so_2 hsh o ho) rfl (by omega) (by decide) (x := nI ((uN N 3 (N 3 + g)) (17 + kd))) (rs_a hR 2 (by decide) (by decide) (show _ < 6 from by omega)) dX4_buyLot_22 ?_
  rw [uN_n (show 17 + kd ≠ 3 from by omega)]
  refine K_callSNE (host := RX5) X (c_X5_moneyFor l D b hsh _ _ _ (by have := Nat.mul_le_mul hg (qi_c hI h1k); omega)) my_X5_moneyFor wt_X5_moneyFor (by decide +kernel) ⟨rfl, rfl, Nat.le_of_ble_eq_true rfl, Nat.le_of_ble_eq_true rfl, Nat.le_of_ble_eq_true rfl, Nat.le_of_ble_eq_true rfl⟩ rfl rfl (Nat.le_of_ble_eq_true rfl) dX4_buyLot_23 ?_
  refine K_i2lN X dX4_buyLot_26 (by have := qW_le hg (qi_c hI h1k); omega) ?_
  refine K_laddN X dX4_buyLot_27 ?_
  refine K_putL X 9 kFd4 rfl (by decide) (so_0 hsh o ho) wf_X4_63 rfl rfl rfl dX4_buyLot_28 ?_
  refine K_gen (φ := fun τ => Rs τ o π ((uN (uN N 3 (N 3 + g)) 6 (N 6 + qW g (N (17 + kd))))) ∧ Fr _ τ o) ⟨hR.long (k := 9) (by decide) (by decide), hF.tr (Fr.l (by omega) (by omega))⟩ (fun σ hs => ?_)
  obtain ⟨hR, hF⟩ := hs
  have hP := hF.PF ho hP0
  refine K_aload_n X 0 dX4_buyLot_31 rfl rfl ?_
  refine K_iload_n X 1 dX4_buyLot_32 rfl rfl ?_
  refine K_iload_n X 2 dX4_buyLot_33 rfl rfl ?_
  refine K_iload_n X 3 dX4_buyLot_34 rfl rfl ?_
  refine K_iload X 4 dX4_buyLot_35 rfl ?_
  refine K_callVP X (c_X4_addLot l D b hsh _ _ _ _ _ _ _ _ hP ho hR (by rw [uN_n (by decide), uN_n (by decide)]; omega) (by omega)) my_X4_addLot mv_X4_addLot wm_X4_129 (so_0 hsh o ho) rfl ⟨rfl, rfl, Nat.le_of_ble_eq_true rfl, Nat.le_of_ble_eq_true rfl, Nat.le_of_ble_eq_true rfl, Nat.le_of_ble_eq_true rfl⟩ rfl rfl (Nat.le_of_ble_eq_true rfl) dX4_buyLot_37 (fun σ37 h37 => ?_)
  rw [show (uN (uN N 3 (N 3 + g)) 6 (N 6 + qW g (N (17 + kd)))) 10 = N 10 from by rw [uN_n (by decide), uN_n (by decide)]]
  refine K_gen (φ := fun τ => SP _ τ o _) h37 (fun σ h => ?_)
  obtain ⟨⟨π, hR⟩, hF1⟩ := h
  have hF := hF.tr hF1
  have hP := hF.PF ho hP0
  exact K_iret X hQ dX4_buyLot_40 (⟨rfl, ⟨_, hR⟩, hF⟩)

set_option maxHeartbeats 4000000 in
set_option maxRecDepth 100000 in
theorem c_X4_sellFromLotAt (l : Launch) (D : KD) (b : Nat) {sh : List KSh} (hsh : shP sh) (σ : KS) (o : Nat) (π N : Nat → Nat) (k w : Nat) (hP : PF σ.2.2) (ho : o ∈ shL) (hR : Rs σ o π N) (hI : qIr N) (hk : k < N 2) (hw : w < 2 ^ 31) : Ct l D b yX4_sellFromLotAt cX4_sellFromLotAt 5 (some .int) (rM 2 45) 0 0 [rf b o, .int (nI k), .int (nI w)] sh σ sh (pS (some (.int (nI (qMuch N k w)))) (fun τ => SP σ τ o (qSell N k (qMuch N k w)))) := by
  have hP0 := hP
  have hF : Fr σ σ o := Fr.rf
  have h2 := qi_2 hI
  have hml : qMuch N k w ≤ qL N k 2 := by unfold qMuch; split <;> omega
  have hmu : qMuch N k w ≤ 20000 := by have := qi_l2 hI hk; omega
  have e42 : (uN (uN N 4 (N 4 + (qMuch N k w))) 7 (N 7 + qW (qMuch N k w) (qPrice N k))) 2 = N 2 := by rw [uN_n (by decide), uN_n (by decide)]
  have hk4 : k < (uN (uN N 4 (N 4 + (qMuch N k w))) 7 (N 7 + qW (qMuch N k w) (qPrice N k))) 2 := by rw [e42]; exact hk
  have e52 : (qSell1 N k (qMuch N k w)) 2 = N 2 := (uN_n (by omega)).trans e42
  have hk5 : k < (qSell1 N k (qMuch N k w)) 2 := by rw [e52]; exact hk
  refine Ct.of (ls := [(0, rf b o), (1, .int (nI k)), (2, .int (nI w))]) (by decide) (Nat.le_of_ble_eq_true rfl) rfl ?_
  intro pg e s m args below meth c Q hQ X hnm
  refine K_aload_n X 0 dX4_sellFromLotAt_0 rfl rfl ?_
  refine K_get X 16 kFd4 rfl (by decide) (so_0 hsh o ho) wf_X4_36 rfl (v := rf b (o + 6)) (kv_a (ps_16 hP ho)) dX4_sellFromLotAt_1 ?_
  refine K_iload_n X 1 dX4_sellFromLotAt_4 rfl rfl ?_
  refine K_aald (z := o + 7 + π k) X _ (so_6 hsh o ho) (by decide) rfl (by omega) (by decide) (rs_r hR (by omega)) dX4_sellFromLotAt_5 ?_
  refine K_astore_n X (ls' := [(3, _), (0, _), (1, _), (2, _)]) dX4_sellFromLotAt_6 rfl (by decide) rfl ?_
  refine K_iload_n X 3 dX4_sellFromLotAt_7 rfl rfl ?_
  refine K_aload_n X 0 dX4_sellFromLotAt_8 rfl rfl ?_
  refine K_get X 2 kFd3 rfl (by decide) (so_l hsh ho (rs_lt hR (by omega))) wf_X4_98 rfl (v := .int (nI (qL N k 2))) (congrArg Value.int (rs_l hR hk 2 (by decide))) dX4_sellFromLotAt_9 ?_
  refine K_min X wm_X4_155 wt_min wn_Math wc_min ⟨Nat.le_of_ble_eq_true rfl, Nat.le_of_ble_eq_true rfl, Nat.le_of_ble_eq_true rfl, Nat.le_of_ble_eq_true rfl⟩ dX4_sellFromLotAt_12 ?_
  rw [kMin (by have := qi_l2 hI hk; omega) hw]
  rw [show (if qL N k 2 < w then qL N k 2 else w) = qMuch N k w from rfl]
  refine K_istore X (ls' := [(4, _), (3, _), (0, _), (1, _), (2, _)]) dX4_sellFromLotAt_15 (by decide) rfl ?_
  refine K_aload_n X 2 dX4_sellFromLotAt_17 rfl rfl ?_
  refine K_dup X dX4_sellFromLotAt_18 rfl ?_
  refine K_get X 10 kFd4 rfl (by decide) (so_0 hsh o ho) wf_X4_66 rfl (v := .long (lN (N 7))) (congrArg Value.long (rs_j hR 10 (by decide) (by decide))) dX4_sellFromLotAt_19 ?_
  refine K_iload X 0 dX4_sellFromLotAt_22 rfl ?_
  refine K_aload_n X 2 dX4_sellFromLotAt_24 rfl rfl ?_
  refine K_aload_n X 1 dX4_sellFromLotAt_25 rfl rfl ?_
  refine K_callVE X (c_X4_priceOf l D b hsh _ _ _ _ _ hP ho hR hI (by omega)) my_X4_priceOf mv_X4_priceOf wm_X4_151 (so_0 hsh o ho) rfl ⟨rfl, rfl, Nat.le_of_ble_eq_true rfl, Nat.le_of_ble_eq_true rfl, Nat.le_of_ble_eq_true rfl, Nat.le_of_ble_eq_true rfl⟩ rfl rfl (Nat.le_of_ble_eq_true rfl) dX4_sellFromLotAt_26 ?_
  refine K_callSNE (host := RX5) X (c_X5_moneyFor l D b hsh _ _ _ (by have := Nat.mul_le_mul hmu (qPrice_le hI hk); omega)) my_X5_moneyFor wt_X5_moneyFor (by decide +kernel) ⟨rfl, rfl, Nat.le_of_ble_eq_true rfl, Nat.le_of_ble_eq_true rfl, Nat.le_of_ble_eq_true rfl, Nat.le_of_ble_eq_true rfl⟩ rfl rfl (Nat.le_of_ble_eq_true rfl) dX4_sellFromLotAt_29 ?_
  refine K_i2lN X dX4_sellFromLotAt_32 (by have := qW_le hmu (qPrice_le hI hk); omega) ?_
  refine K_laddN X dX4_sellFromLotAt_33 ?_
  refine K_putL X 10 kFd4 rfl (by decide) (so_0 hsh o ho) wf_X4_66 rfl rfl rfl dX4_sellFromLotAt_34 ?_
  refine K_gen (φ := fun τ => Rs τ o π ((uN N 7 (N 7 + qW (qMuch N k w) (qPrice N k)))) ∧ Fr _ τ o) ⟨hR.long (k := 10) (by decide) (by decide), hF.tr (Fr.l (by omega) (by omega))⟩ (fun σ hs => ?_)
  obtain ⟨hR, hF⟩ := hs
  have hP := hF.PF ho hP0
  refine K_aload_n X 2 dX4_sellFromLotAt_37 rfl rfl ?_
  refine K_dup X dX4_sellFromLotAt_38 rfl ?_
  refine K_get X 7 kFd4 rfl (by decide) (so_0 hsh o ho) wf_X4_57 rfl (v := .long (lN ((uN N 7 (N 7 + qW (qMuch N k w) (qPrice N k))) 4))) (congrArg Value.long (rs_j hR 7 (by decide) (by decide))) dX4_sellFromLotAt_39 ?_
  rw [uN_n (show 4 ≠ 7 from by decide)]
  refine K_iload X 0 dX4_sellFromLotAt_42 rfl ?_
  refine K_i2lN X dX4_sellFromLotAt_44 (by omega) ?_
  refine K_laddN X dX4_sellFromLotAt_45 ?_
  refine K_putL X 7 kFd4 rfl (by decide) (so_0 hsh o ho) wf_X4_57 rfl rfl rfl dX4_sellFromLotAt_46 ?_
  refine K_gen (φ := fun τ => Rs τ o π ((uN (uN N 4 (N 4 + (qMuch N k w))) 7 (N 7 + qW (qMuch N k w) (qPrice N k)))) ∧ Fr _ τ o) ⟨(by have := hR.long (k := 7) (v := N 4 + qMuch N k w) (by decide) (by decide); rw [uN_comm (by decide)] at this; exact this), hF.tr (Fr.l (by omega) (by omega))⟩ (fun σ hs => ?_)
  obtain ⟨hR, hF⟩ := hs
  have hP := hF.PF ho hP0
  refine K_aload_n X 1 dX4_sellFromLotAt_49 rfl rfl ?_
  refine K_dup X dX4_sellFromLotAt_50 rfl ?_
  refine K_get X 2 kFd3 rfl (by decide) (so_l hsh ho (rs_lt hR (by omega))) wf_X4_98 rfl (v := .int (nI (qL (uN (uN N 4 (N 4 + (qMuch N k w))) 7 (N 7 + qW (qMuch N k w) (qPrice N k))) k 2))) (congrArg Value.int (rs_l hR hk4 2 (by decide))) dX4_sellFromLotAt_51 ?_
  rw [show qL (uN (uN N 4 (N 4 + (qMuch N k w))) 7 (N 7 + qW (qMuch N k w) (qPrice N k))) k 2 = qL N k 2 from by show uN _ _ _ _ = _; rw [uN_n (by omega), uN_n (by omega)]]
  refine K_iload X 0 dX4_sellFromLotAt_54 rfl ?_
  refine K_isubN X dX4_sellFromLotAt_56 (by exact hml) ?_
  refine K_putI X 2 kFd3 rfl (by decide) (so_l hsh ho (rs_lt hR (by omega))) wf_X4_98 rfl rfl rfl dX4_sellFromLotAt_57 ?_
  refine K_gen (φ := fun τ => Rs τ o π ((qSell1 N k (qMuch N k w))) ∧ Fr _ τ o) ⟨hR.lotf (by rw [e42]; exact h2) hk4 (show 2 < 4 from by decide), hF.tr (Fr.i (by omega) (by have := rs_lt hR (show k < 16 from by omega); omega))⟩ (fun σ hs => ?_)
  obtain ⟨hR, hF⟩ := hs
  have hP := hF.PF ho hP0
  refine K_aload_n X 1 dX4_sellFromLotAt_60 rfl rfl ?_
  refine K_get X 2 kFd3 rfl (by decide) (so_l hsh ho (rs_lt hR (by omega))) wf_X4_98 rfl (v := .int (nI (qL (qSell1 N k (qMuch N k w)) k 2))) (congrArg Value.int (rs_l hR hk5 2 (by decide))) dX4_sellFromLotAt_61 ?_
  rw [show qL (qSell1 N k (qMuch N k w)) k 2 = qL N k 2 - (qMuch N k w) from uN_s]
  refine K_ifN_ne (tgt := 72) X dX4_sellFromLotAt_64 (by decide) (by have := qi_l2 hI hk; omega) (fun c64 => ?_) (fun c64 => ?_)
  · refine K_iload X 0 dX4_sellFromLotAt_72 rfl ?_
    exact K_iret X hQ dX4_sellFromLotAt_74 (⟨rfl, ⟨_, by rw [show qSell N k (qMuch N k w) = _ from if_neg c64]; exact hR⟩, hF⟩)
  · refine K_aload_n X 2 dX4_sellFromLotAt_67 rfl rfl ?_
    refine K_iload_n X 3 dX4_sellFromLotAt_68 rfl rfl ?_
    refine K_callVP0 X (c_X4_removeLotAt l D b hsh _ _ _ _ _ hP ho hR (by rw [e52]; omega) (by rw [e52]; omega)) my_X4_removeLotAt mv_X4_removeLotAt wm_X4_133 (so_0 hsh o ho) rfl ⟨rfl, rfl, Nat.le_of_ble_eq_true rfl, Nat.le_of_ble_eq_true rfl, Nat.le_of_ble_eq_true rfl, Nat.le_of_ble_eq_true rfl⟩ rfl rfl (Nat.le_of_ble_eq_true rfl) dX4_sellFromLotAt_69 (fun σ69 h69 => ?_)
    refine K_gen (φ := fun τ => SP _ τ o _) h69 (fun σ h => ?_)
    obtain ⟨⟨π, hR⟩, hF1⟩ := h
    have hF := hF.tr hF1
    have hP := hF.PF ho hP0
    refine K_iload X 0 dX4_sellFromLotAt_72 rfl ?_
    exact K_iret X hQ dX4_sellFromLotAt_74 (⟨rfl, ⟨_, by rw [show qSell N k (qMuch N k w) = _ from if_pos c64]; exact hR⟩, hF⟩)
