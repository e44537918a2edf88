theorem shC_e : (((([.inl 5] ++ shShop) ++ shShop) ++ [.inl 1]) ++ shH 6) ++ [.inl 0, .inr (.char, 80)] = shC := by decide +kernel

set_option maxHeartbeats 4000000 in
set_option maxRecDepth 100000 in
theorem c_X5_init (l : Launch) (D : KD) (b : Nat) (σ : KS) (hz : Zr σ 0) : Ct l D b yX5_init cX5_init 1 none ({ frames := 4, cells := 189, slots := 1404, locals := 82 } : Room) 189 1404 [rf b 0] [.inl 5] σ shC (pS none (fun τ => C5 τ)) := by
  refine Ct.of (ls := [(0, rf b 0)]) (by decide) (Nat.le_of_ble_eq_true rfl) rfl ?_
  intro pg e s m args below meth c Q hQ X hnm
  refine K_aload_n X 0 dX5_init_0 rfl rfl ?_
  refine K_objInit X wm_X5_1 wi_objInit wc_objInit ⟨Nat.le_of_ble_eq_true rfl, Nat.le_of_ble_eq_true rfl⟩ dX5_init_1 ?_
  refine K_aload_n X 0 dX5_init_4 rfl rfl ?_
  have hzN := (hz.of (q := 1) (by omega) (fun x _ => ⟨rfl, rfl, rfl⟩))
  refine K_nw X kFd4 (a := 1) rfl wk_X5_7 wy_X4 wn_X4 (by decide +kernel) (by decide) (fun j => ⟨(hzN _ (Nat.le_refl _)).1 j, (hzN _ (Nat.le_refl _)).2.1 j, (hzN _ (Nat.le_refl _)).2.2 j⟩) ⟨Nat.le_of_ble_eq_true rfl, Nat.le_of_ble_eq_true rfl⟩ dX5_init_5 ?_
  refine K_dup X dX5_init_8 rfl ?_
  refine K_callIP0 X (c_X4_init l D b σ [.inl 5] 1 rfl hzN) my_X4_init wi_X4_init rfl wm_X5_9 ⟨rfl, rfl, Nat.le_of_ble_eq_true rfl, Nat.le_of_ble_eq_true rfl, Nat.le_of_ble_eq_true rfl, Nat.le_of_ble_eq_true rfl⟩ rfl rfl (Nat.le_of_ble_eq_true rfl) dX5_init_9 (fun υ hk => ?_)
  refine K_putP X 0 kFd5 rfl (by decide) rfl wf_X5_10 rfl (Or.inr ⟨rfl, hnm, rfl⟩) (Or.inl ⟨_, rfl⟩) dX5_init_12 ?_
  refine K_gen (φ := fun τ => C1 τ) (c1_of hz hk) (fun σ hS => ?_)
  refine K_aload_n X 0 dX5_init_15 rfl rfl ?_
  have hzN := hS.2.2
  refine K_nw X kFd4 (a := 24) rfl wk_X5_7 wy_X4 wn_X4 (by decide +kernel) (by decide) (fun j => ⟨(hzN _ (Nat.le_refl _)).1 j, (hzN _ (Nat.le_refl _)).2.1 j, (hzN _ (Nat.le_refl _)).2.2 j⟩) ⟨Nat.le_of_ble_eq_true rfl, Nat.le_of_ble_eq_true rfl⟩ dX5_init_16 ?_
  refine K_dup X dX5_init_19 rfl ?_
  refine K_callIP0 X (c_X4_init l D b σ ([.inl 5] ++ shShop) 24 (by decide +kernel) hzN) my_X4_init wi_X4_init rfl wm_X5_9 ⟨rfl, rfl, Nat.le_of_ble_eq_true rfl, Nat.le_of_ble_eq_true rfl, Nat.le_of_ble_eq_true rfl, Nat.le_of_ble_eq_true rfl⟩ rfl rfl (Nat.le_of_ble_eq_true rfl) dX5_init_20 (fun υ hk => ?_)
  refine K_putP X 1 kFd5 rfl (by decide) rfl wf_X5_16 rfl (Or.inr ⟨rfl, hnm, rfl⟩) (Or.inl ⟨_, rfl⟩) dX5_init_23 ?_
  refine K_gen (φ := fun τ => C2 τ) (c2_of hS hk) (fun σ hS => ?_)
  refine K_aload_n X 0 dX5_init_26 rfl rfl ?_
  have hzN := hS.2.2
  refine K_nw X kFd1 (a := 47) rfl wk_X5_19 wy_X1 wn_X1 (by decide +kernel) (by decide) (fun j => ⟨(hzN _ (Nat.le_refl _)).1 j, (hzN _ (Nat.le_refl _)).2.1 j, (hzN _ (Nat.le_refl _)).2.2 j⟩) ⟨Nat.le_of_ble_eq_true rfl, Nat.le_of_ble_eq_true rfl⟩ dX5_init_27 ?_
  refine K_dup X dX5_init_30 rfl ?_
  refine K_callINE0 (host := RX5) X (c_X1_init l D b σ _ 47) my_X1_init wi_X1_init rfl (by decide +kernel) ⟨rfl, rfl, Nat.le_of_ble_eq_true rfl, Nat.le_of_ble_eq_true rfl, Nat.le_of_ble_eq_true rfl, Nat.le_of_ble_eq_true rfl⟩ rfl rfl (Nat.le_of_ble_eq_true rfl) dX5_init_31 ?_
  refine K_putP X 2 kFd5 rfl (by decide) rfl wf_X5_22 rfl (Or.inr ⟨rfl, hnm, rfl⟩) (Or.inl ⟨_, rfl⟩) dX5_init_34 ?_
  refine K_gen (φ := fun τ => C3 τ) (c3_of hS) (fun σ hS => ?_)
  refine K_aload_n X 0 dX5_init_37 rfl rfl ?_
  have hzN := hS.2.2
  refine K_nw X kFd2 (a := 48) rfl wk_X5_26 wy_X2 wn_X2 (by decide +kernel) (by decide) (fun j => ⟨(hzN _ (Nat.le_refl _)).1 j, (hzN _ (Nat.le_refl _)).2.1 j, (hzN _ (Nat.le_refl _)).2.2 j⟩) ⟨Nat.le_of_ble_eq_true rfl, Nat.le_of_ble_eq_true rfl⟩ dX5_init_38 ?_
  refine K_dup X dX5_init_41 rfl ?_
  refine K_callIP0 X (c_X2_init l D b σ ((([.inl 5] ++ shShop) ++ shShop) ++ [.inl 1]) 48 (by decide +kernel) hzN) my_X2_init wi_X2_init rfl wm_X5_28 ⟨rfl, rfl, Nat.le_of_ble_eq_true rfl, Nat.le_of_ble_eq_true rfl, Nat.le_of_ble_eq_true rfl, Nat.le_of_ble_eq_true rfl⟩ rfl rfl (Nat.le_of_ble_eq_true rfl) dX5_init_42 (fun υ hk => ?_)
  refine K_putP X 3 kFd5 rfl (by decide) rfl wf_X5_29 rfl (Or.inr ⟨rfl, hnm, rfl⟩) (Or.inl ⟨_, rfl⟩) dX5_init_45 ?_
  refine K_gen (φ := fun τ => C4 τ) (c4_of hS hk) (fun σ hS => ?_)
  refine K_aload_n X 0 dX5_init_48 rfl rfl ?_
  have hzN := hS.2.2.2
  refine K_nw X kFd0 (a := 188) rfl wk_X5_33 wy_X0 wn_X0 (by decide +kernel) (by decide) (fun j => ⟨(hzN _ (Nat.le_refl _)).1 j, (hzN _ (Nat.le_refl _)).2.1 j, (hzN _ (Nat.le_refl _)).2.2 j⟩) ⟨Nat.le_of_ble_eq_true rfl, Nat.le_of_ble_eq_true rfl⟩ dX5_init_49 ?_
  refine K_dup X dX5_init_52 rfl ?_
  refine K_callINE0 (host := RX5) X (c_X0_init l D b σ (((([.inl 5] ++ shShop) ++ shShop) ++ [.inl 1]) ++ shH 6) 188 (by decide +kernel) hzN) my_X0_init wi_X0_init rfl (by decide +kernel) ⟨rfl, rfl, Nat.le_of_ble_eq_true rfl, Nat.le_of_ble_eq_true rfl, Nat.le_of_ble_eq_true rfl, Nat.le_of_ble_eq_true rfl⟩ rfl rfl (Nat.le_of_ble_eq_true rfl) dX5_init_53 ?_
  refine K_putP X 4 kFd5 rfl (by decide) rfl wf_X5_36 rfl (Or.inr ⟨rfl, hnm, rfl⟩) (Or.inl ⟨_, rfl⟩) dX5_init_56 ?_
  refine K_gen (φ := fun τ => C5 τ) (c5_of hS) (fun σ hS => ?_)
  refine K_sh (sh' := shC) shC_e ?_
  exact K_vret X hQ dX5_init_59 (⟨rfl, hS⟩)
