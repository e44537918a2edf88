/-! THE CONSTRUCTORS: reference, counter -/
set_option maxHeartbeats 4000000 in
set_option maxRecDepth 100000 in
theorem c_X6_init (l : Launch) (D : KD) (b : Nat) (σ : KS) (pre : List KSh) (p : Nat) (hp : pre.length = p) (hz : Zr σ p) : Ct l D b yX6_init cX6_init 2 none ({ frames := 1, cells := 4, slots := 1080, locals := 20 } : Room) 4 1080 [rf b p] (pre ++ [.inl 6]) σ (pre ++ [.inl 6, .inr (.int, 125), .inr (.int, 125), .inr (.int, 750), .inr (.int, 80)]) (pS none (fun τ => JD σ τ p)) := by
  obtain ⟨σ0, e0⟩ : ∃ z, z = σ := ⟨σ, rfl⟩
  refine Ct.of (ls := [(0, rf b p)]) (by decide) (Nat.le_of_ble_eq_true rfl) rfl ?_
  intro pg e s m args below meth c Q hQ X hnm
  refine K_aload_n X 0 dX6_init_0 rfl rfl ?_
  refine K_objInit X wm_X6_1 wi_objInit wc_objInit ⟨Nat.le_of_ble_eq_true rfl, Nat.le_of_ble_eq_true rfl⟩ dX6_init_1 ?_
  refine K_gen (φ := fun τ => JM σ0 τ p 0) (show JM σ0 _ p 0 from by subst e0; exact JM.init hz) (fun σ hS => ?_)
  refine K_aload_n X 0 dX6_init_4 rfl rfl ?_
  refine K_bipush X dX6_init_5 cib_125 ?_
  refine K_nwa X (atype := .int) (ty := .int) (a := p + 1) rfl (Or.inl rfl) wa_int 125 rfl (by decide) (by rw [List.length_append, hp]; rfl) (fun j => hS.2.1 (p + 1) (by omega) j) ⟨by show _ ≤ 4; omega, by show _ ≤ 1080; omega⟩ dX6_init_7 ?_
  refine K_sh (List.append_assoc _ _ _) ?_
  refine K_putP X 0 kFd6 rfl (by decide) (gA (k := 0) hp rfl) wf_X6_7 rfl (Or.inr ⟨rfl, hnm, rfl⟩) (Or.inr ⟨_, rfl⟩) dX6_init_9 ?_
  refine K_gen (φ := fun τ => JM σ0 τ p 1) (hS.ref (m := 0) (by decide)) (fun σ hS => ?_)
  refine K_aload_n X 0 dX6_init_12 rfl rfl ?_
  refine K_bipush X dX6_init_13 cib_125 ?_
  refine K_nwa X (atype := .int) (ty := .int) (a := p + 2) rfl (Or.inl rfl) wa_int 125 rfl (by decide) (by rw [List.length_append, hp]; rfl) (fun j => hS.2.1 (p + 2) (by omega) j) ⟨by show _ ≤ 4; omega, by show _ ≤ 1080; omega⟩ dX6_init_15 ?_
  refine K_sh (List.append_assoc _ _ _) ?_
  refine K_putP X 1 kFd6 rfl (by decide) (gA (k := 0) hp rfl) wf_X6_13 rfl (Or.inr ⟨rfl, hnm, rfl⟩) (Or.inr ⟨_, rfl⟩) dX6_init_17 ?_
  refine K_gen (φ := fun τ => JM σ0 τ p 2) (hS.ref (m := 1) (by decide)) (fun σ hS => ?_)
  refine K_aload_n X 0 dX6_init_20 rfl rfl ?_
  refine K_sipush X dX6_init_21 cis_750 ?_
  refine K_nwa X (atype := .int) (ty := .int) (a := p + 3) rfl (Or.inl rfl) wa_int 750 rfl (by decide) (by rw [List.length_append, hp]; rfl) (fun j => hS.2.1 (p + 3) (by omega) j) ⟨by show _ ≤ 4; omega, by show _ ≤ 1080; omega⟩ dX6_init_24 ?_
  refine K_sh (List.append_assoc _ _ _) ?_
  refine K_putP X 2 kFd6 rfl (by decide) (gA (k := 0) hp rfl) wf_X6_16 rfl (Or.inr ⟨rfl, hnm, rfl⟩) (Or.inr ⟨_, rfl⟩) dX6_init_26 ?_
  refine K_gen (φ := fun τ => JM σ0 τ p 3) (hS.ref (m := 2) (by decide)) (fun σ hS => ?_)
  refine K_aload_n X 0 dX6_init_29 rfl rfl ?_
  refine K_bipush X dX6_init_30 cib_80 ?_
  refine K_nwa X (atype := .int) (ty := .int) (a := p + 4) rfl (Or.inl rfl) wa_int 80 rfl (by decide) (by rw [List.length_append, hp]; rfl) (fun j => hS.2.1 (p + 4) (by omega) j) ⟨by show _ ≤ 4; omega, by show _ ≤ 1080; omega⟩ dX6_init_32 ?_
  refine K_sh (List.append_assoc _ _ _) ?_
  refine K_putP X 4 kFd6 rfl (by decide) (gA (k := 0) hp rfl) wf_X6_19 rfl (Or.inr ⟨rfl, hnm, rfl⟩) (Or.inr ⟨_, rfl⟩) dX6_init_34 ?_
  refine K_gen (φ := fun τ => JM σ0 τ p 4) (hS.ref (m := 3) (by decide)) (fun σ hS => ?_)
  refine K_iconst X dX6_init_37 cii_0 ?_
  refine K_istore_n X (ls' := [(1, _), (0, _)]) dX6_init_38 rfl (by decide) rfl ?_
  refine K_st (wI_id (Ni_0 (hS.2.1 (p + 1) (by omega)))).symm ?_
  have loop2 : ∀ i : Nat, i ≤ 6 → K pg l e ({ frames := 1, cells := 4, slots := 1080, locals := 20 } : Room) s m args below meth c Q D b 2 4 1080 (pre ++ [.inl 6, .inr (.int, 125), .inr (.int, 125), .inr (.int, 750), .inr (.int, 80)]) (wI σ (p + 1) (fun k => nI (Ni i k))) 39 [(0, rf b p), (1, .int (nI i))] [] := by
    refine kup (fun i hi jh => ?_)
    refine K_iload_n X 1 dX6_init_39 rfl rfl ?_
    refine K_bipush X dX6_init_40 cib_6 ?_
    refine K_icmpN_ge (tgt := 86) X dX6_init_42 (by decide) (by omega) (by omega) (fun c42 => ?_) (fun c42 => ?_)
    · have hi16 : i = 6 := by omega
      subst hi16
      refine K_aload_n X 0 dX6_init_86 rfl rfl ?_
      refine K_get X 0 kFd6 rfl (by decide) (gA (k := 0) hp rfl) wf_X6_7 rfl (v := rf b (p + 1)) (kv_a (hS.2.2 0 (by omega))) dX6_init_87 ?_
      refine K_bipush X dX6_init_90 cib_8 ?_
      refine K_bipush X dX6_init_92 cib_100 ?_
      refine K_iast X _ (gA (k := 1) hp rfl) rfl (by omega) (by decide) dX6_init_94 ?_
      refine K_st (wI_upd rfl) ?_
      refine K_aload_n X 0 dX6_init_95 rfl rfl ?_
      refine K_get X 0 kFd6 rfl (by decide) (gA (k := 0) hp rfl) wf_X6_7 rfl (v := rf b (p + 1)) (kv_a (hS.2.2 0 (by omega))) dX6_init_96 ?_
      refine K_bipush X dX6_init_99 cib_9 ?_
      refine K_bipush X dX6_init_101 cib_30 ?_
      refine K_iast X _ (gA (k := 1) hp rfl) rfl (by omega) (by decide) dX6_init_103 ?_
      refine K_st (wI_upd Ni_6) ?_
      exact K_vret X hQ dX6_init_104 (⟨rfl, by rw [← e0]; exact hS.done rfl⟩)
    · refine K_aload_n X 0 dX6_init_45 rfl rfl ?_
      refine K_get X 0 kFd6 rfl (by decide) (gA (k := 0) hp rfl) wf_X6_7 rfl (v := rf b (p + 1)) (kv_a (hS.2.2 0 (by omega))) dX6_init_46 ?_
      refine K_bipush X dX6_init_49 cib_11 ?_
      refine K_iload_n X 1 dX6_init_51 rfl rfl ?_
      refine K_iaddN X dX6_init_52 ?_
      refine K_sipush X dX6_init_53 cis_1000 ?_
      refine K_sipush X dX6_init_56 cis_200 ?_
      refine K_iload_n X 1 dX6_init_59 rfl rfl ?_
      refine K_imulN X dX6_init_60 ?_
      refine K_iaddN X dX6_init_61 ?_
      refine K_iast X _ (gA (k := 1) hp rfl) rfl (by omega) (by decide) dX6_init_62 ?_
      refine K_st (wI_upd rfl) ?_
      refine K_aload_n X 0 dX6_init_63 rfl rfl ?_
      refine K_get X 0 kFd6 rfl (by decide) (gA (k := 0) hp rfl) wf_X6_7 rfl (v := rf b (p + 1)) (kv_a (hS.2.2 0 (by omega))) dX6_init_64 ?_
      refine K_bipush X dX6_init_67 cib_17 ?_
      refine K_iload_n X 1 dX6_init_69 rfl rfl ?_
      refine K_iaddN X dX6_init_70 ?_
      refine K_sipush X dX6_init_71 cis_400 ?_
      refine K_bipush X dX6_init_74 cib_100 ?_
      refine K_iload_n X 1 dX6_init_76 rfl rfl ?_
      refine K_imulN X dX6_init_77 ?_
      refine K_iaddN X dX6_init_78 ?_
      refine K_iast X _ (gA (k := 1) hp rfl) rfl (by omega) (by decide) dX6_init_79 ?_
      refine K_st (wI_upd (Ni_s1 (by omega))) ?_
      refine K_iinc X 1 (ls' := [(1, _), (0, _)]) dX6_init_80 rfl (inc_1 _) (by decide) rfl ?_
      refine K_goto (tgt := 39) X dX6_init_83 (by decide) ?_
      exact K_sub [1, 0] rfl (jh (by omega))
  exact K_sub [1, 0] rfl (loop2 0 (Nat.zero_le _))

theorem shC_e : (((([.inl 5] ++ shShop) ++ shShop) ++ [.inl 1]) ++ shH 6) ++ [.inl 0, .inr (.char, 80)] = shC := by decide +kernel

set_option maxHeartbeats 4000000 in
set_option maxRecDepth 100000 in
theorem c_X5_init (l : Launch) (D : KD) (b : Nat) (σ : KS) (hz : Zr σ 0) : Ct l D b yX5_init cX5_init 1 none ({ frames := 4, cells := 189, slots := 1404, locals := 82 } : Room) 189 1404 [rf b 0] [.inl 5] σ shC (pS none (fun τ => C5 τ)) := by
  refine Ct.of (ls := [(0, rf b 0)]) (by decide) (Nat.le_of_ble_eq_true rfl) rfl ?_
  intro pg e s m args below meth c Q hQ X hnm
  refine K_aload_n X 0 dX5_init_0 rfl rfl ?_
  refine K_objInit X wm_X5_1 wi_objInit wc_objInit ⟨Nat.le_of_ble_eq_true rfl, Nat.le_of_ble_eq_true rfl⟩ dX5_init_1 ?_
  refine K_aload_n X 0 dX5_init_4 rfl rfl ?_
  have hzN := (hz.of (q := 1) (by omega) (fun x _ => ⟨rfl, rfl, rfl⟩))
  refine K_nw X kFd4 (a := 1) rfl wk_X5_7 wy_X4 wn_X4 (by decide +kernel) (by decide) (fun j => ⟨(hzN _ (Nat.le_refl _)).1 j, (hzN _ (Nat.le_refl _)).2.1 j, (hzN _ (Nat.le_refl _)).2.2 j⟩) ⟨Nat.le_of_ble_eq_true rfl, Nat.le_of_ble_eq_true rfl⟩ dX5_init_5 ?_
  refine K_dup X dX5_init_8 rfl ?_
  refine K_callIP0 X (c_X4_init l D b σ [.inl 5] 1 rfl hzN) my_X4_init wi_X4_init rfl wm_X5_9 ⟨rfl, rfl, Nat.le_of_ble_eq_true rfl, Nat.le_of_ble_eq_true rfl, Nat.le_of_ble_eq_true rfl, Nat.le_of_ble_eq_true rfl⟩ rfl rfl (Nat.le_of_ble_eq_true rfl) dX5_init_9 (fun υ hk => ?_)
  refine K_putP X 0 kFd5 rfl (by decide) rfl wf_X5_10 rfl (Or.inr ⟨rfl, hnm, rfl⟩) (Or.inl ⟨_, rfl⟩) dX5_init_12 ?_
  refine K_gen (φ := fun τ => C1 τ) (c1_of hz hk) (fun σ hS => ?_)
  refine K_aload_n X 0 dX5_init_15 rfl rfl ?_
  have hzN := hS.2.2
  refine K_nw X kFd4 (a := 24) rfl wk_X5_7 wy_X4 wn_X4 (by decide +kernel) (by decide) (fun j => ⟨(hzN _ (Nat.le_refl _)).1 j, (hzN _ (Nat.le_refl _)).2.1 j, (hzN _ (Nat.le_refl _)).2.2 j⟩) ⟨Nat.le_of_ble_eq_true rfl, Nat.le_of_ble_eq_true rfl⟩ dX5_init_16 ?_
  refine K_dup X dX5_init_19 rfl ?_
  refine K_callIP0 X (c_X4_init l D b σ ([.inl 5] ++ shShop) 24 (by decide +kernel) hzN) my_X4_init wi_X4_init rfl wm_X5_9 ⟨rfl, rfl, Nat.le_of_ble_eq_true rfl, Nat.le_of_ble_eq_true rfl, Nat.le_of_ble_eq_true rfl, Nat.le_of_ble_eq_true rfl⟩ rfl rfl (Nat.le_of_ble_eq_true rfl) dX5_init_20 (fun υ hk => ?_)
  refine K_putP X 1 kFd5 rfl (by decide) rfl wf_X5_16 rfl (Or.inr ⟨rfl, hnm, rfl⟩) (Or.inl ⟨_, rfl⟩) dX5_init_23 ?_
  refine K_gen (φ := fun τ => C2 τ) (c2_of hS hk) (fun σ hS => ?_)
  refine K_aload_n X 0 dX5_init_26 rfl rfl ?_
  have hzN := hS.2.2
  refine K_nw X kFd1 (a := 47) rfl wk_X5_19 wy_X1 wn_X1 (by decide +kernel) (by decide) (fun j => ⟨(hzN _ (Nat.le_refl _)).1 j, (hzN _ (Nat.le_refl _)).2.1 j, (hzN _ (Nat.le_refl _)).2.2 j⟩) ⟨Nat.le_of_ble_eq_true rfl, Nat.le_of_ble_eq_true rfl⟩ dX5_init_27 ?_
  refine K_dup X dX5_init_30 rfl ?_
  refine K_callINE0 (host := RX5) X (c_X1_init l D b σ _ 47) my_X1_init wi_X1_init rfl (by decide +kernel) ⟨rfl, rfl, Nat.le_of_ble_eq_true rfl, Nat.le_of_ble_eq_true rfl, Nat.le_of_ble_eq_true rfl, Nat.le_of_ble_eq_true rfl⟩ rfl rfl (Nat.le_of_ble_eq_true rfl) dX5_init_31 ?_
  refine K_putP X 2 kFd5 rfl (by decide) rfl wf_X5_22 rfl (Or.inr ⟨rfl, hnm, rfl⟩) (Or.inl ⟨_, rfl⟩) dX5_init_34 ?_
  refine K_gen (φ := fun τ => C3 τ) (c3_of hS) (fun σ hS => ?_)
  refine K_aload_n X 0 dX5_init_37 rfl rfl ?_
  have hzN := hS.2.2
  refine K_nw X kFd2 (a := 48) rfl wk_X5_26 wy_X2 wn_X2 (by decide +kernel) (by decide) (fun j => ⟨(hzN _ (Nat.le_refl _)).1 j, (hzN _ (Nat.le_refl _)).2.1 j, (hzN _ (Nat.le_refl _)).2.2 j⟩) ⟨Nat.le_of_ble_eq_true rfl, Nat.le_of_ble_eq_true rfl⟩ dX5_init_38 ?_
  refine K_dup X dX5_init_41 rfl ?_
  refine K_callIP0 X (c_X2_init l D b σ ((([.inl 5] ++ shShop) ++ shShop) ++ [.inl 1]) 48 (by decide +kernel) hzN) my_X2_init wi_X2_init rfl wm_X5_28 ⟨rfl, rfl, Nat.le_of_ble_eq_true rfl, Nat.le_of_ble_eq_true rfl, Nat.le_of_ble_eq_true rfl, Nat.le_of_ble_eq_true rfl⟩ rfl rfl (Nat.le_of_ble_eq_true rfl) dX5_init_42 (fun υ hk => ?_)
  refine K_putP X 3 kFd5 rfl (by decide) rfl wf_X5_29 rfl (Or.inr ⟨rfl, hnm, rfl⟩) (Or.inl ⟨_, rfl⟩) dX5_init_45 ?_
  refine K_gen (φ := fun τ => C4 τ) (c4_of hS hk) (fun σ hS => ?_)
  refine K_aload_n X 0 dX5_init_48 rfl rfl ?_
  have hzN := hS.2.2.2
  refine K_nw X kFd0 (a := 188) rfl wk_X5_33 wy_X0 wn_X0 (by decide +kernel) (by decide) (fun j => ⟨(hzN _ (Nat.le_refl _)).1 j, (hzN _ (Nat.le_refl _)).2.1 j, (hzN _ (Nat.le_refl _)).2.2 j⟩) ⟨Nat.le_of_ble_eq_true rfl, Nat.le_of_ble_eq_true rfl⟩ dX5_init_49 ?_
  refine K_dup X dX5_init_52 rfl ?_
  refine K_callINE0 (host := RX5) X (c_X0_init l D b σ (((([.inl 5] ++ shShop) ++ shShop) ++ [.inl 1]) ++ shH 6) 188 (by decide +kernel) hzN) my_X0_init wi_X0_init rfl (by decide +kernel) ⟨rfl, rfl, Nat.le_of_ble_eq_true rfl, Nat.le_of_ble_eq_true rfl, Nat.le_of_ble_eq_true rfl, Nat.le_of_ble_eq_true rfl⟩ rfl rfl (Nat.le_of_ble_eq_true rfl) dX5_init_53 ?_
  refine K_putP X 4 kFd5 rfl (by decide) rfl wf_X5_36 rfl (Or.inr ⟨rfl, hnm, rfl⟩) (Or.inl ⟨_, rfl⟩) dX5_init_56 ?_
  refine K_gen (φ := fun τ => C5 τ) (c5_of hS) (fun σ hS => ?_)
  refine K_sh (sh' := shC) shC_e ?_
  exact K_vret X hQ dX5_init_59 (⟨rfl, hS⟩)
