/-! THE CONSTRUCTORS: text, history -/
set_option maxHeartbeats 4000000 in
set_option maxRecDepth 100000 in
theorem c_X0_init (l : Launch) (D : KD) (b : Nat) (σ : KS) (pre : List KSh) (p : Nat) (hp : pre.length = p) (hz : Zr σ p) : Ct l D b yX0_init cX0_init 1 none ({ frames := 1, cells := 1, slots := 80, locals := 20 } : Room) 1 80 [rf b p] (pre ++ [.inl 0]) σ (pre ++ [.inl 0, .inr (.char, 80)]) (pE none (wP σ p (va_up (σ.2.2 p) 6 (some (p + 1))))) := by
  refine Ct.of (ls := [(0, rf b p)]) (by decide) (Nat.le_of_ble_eq_true rfl) rfl ?_
  intro pg e s m args below meth c Q hQ X hnm
  refine K_aload_n X 0 dX0_init_0 rfl rfl ?_
  refine K_objInit X wm_X0_3 wi_objInit wc_objInit ⟨Nat.le_of_ble_eq_true rfl, Nat.le_of_ble_eq_true rfl⟩ dX0_init_1 ?_
  refine K_aload_n X 0 dX0_init_4 rfl rfl ?_
  refine K_bipush X dX0_init_5 cib_80 ?_
  refine K_nwa X (atype := .char) (ty := .char) (a := p + 1) rfl (Or.inr rfl) wa_char 80 rfl (by decide) (by rw [List.length_append, hp]; rfl) (fun j => (hz (p + 1) (by omega)).1 j) ⟨by show _ ≤ 1; omega, by show _ ≤ 80; omega⟩ dX0_init_7 ?_
  refine K_sh (List.append_assoc _ _ _) ?_
  refine K_putP X 6 kFd0 rfl (by decide) (gA (k := 0) hp rfl) wf_X0_9 rfl (Or.inr ⟨rfl, hnm, rfl⟩) (Or.inr ⟨_, rfl⟩) dX0_init_9 ?_
  exact K_vret X hQ dX0_init_12 (⟨rfl, rfl⟩)

theorem shop_at {pre : List KSh} {p n i : Nat} (hp : pre.length = p) (hi : i < n) : (pre ++ shH n)[p + 2 + 23 * i]? = some (.inl 4) := by
  subst hp
  rw [List.getElem?_append_right (by omega)]
  unfold shH
  rw [List.getElem?_append_right (by show 2 ≤ _; omega), show pre.length + 2 + 23 * i - pre.length - ([.inl 2, .inr (.object "FishCounter$Shop", 6)] : List KSh).length = 23 * i from by show _ - 2 = _; omega]
  induction n with
  | zero => omega
  | succ n ih =>
    show (shs n ++ shShop)[23 * i]? = _
    by_cases q : i = n
    · subst q
      rw [List.getElem?_append_right (by rw [shs_l]; omega), shs_l, Nat.sub_self]
      rfl
    · rw [List.getElem?_append_left (by rw [shs_l]; omega)]
      exact ih (by omega)

set_option maxHeartbeats 4000000 in
set_option maxRecDepth 100000 in
theorem c_X2_init (l : Launch) (D : KD) (b : Nat) (σ : KS) (pre : List KSh) (p : Nat) (hp : pre.length = p) (hz : Zr σ p) : Ct l D b yX2_init cX2_init 2 none ({ frames := 3, cells := 139, slots := 984, locals := 61 } : Room) 139 984 [rf b p] (pre ++ [.inl 2]) σ (pre ++ shH 6) (pS none (fun τ => IH σ τ p 6)) := by
  obtain ⟨σ0, e0⟩ : ∃ z, z = σ := ⟨σ, rfl⟩
  have hz0 : Zr σ0 p := by rw [e0]; exact hz
  refine Ct.of (ls := [(0, rf b p)]) (by decide) (Nat.le_of_ble_eq_true rfl) rfl ?_
  intro pg e s m args below meth c Q hQ X hnm
  refine K_aload_n X 0 dX2_init_0 rfl rfl ?_
  refine K_objInit X wm_X2_3 wi_objInit wc_objInit ⟨Nat.le_of_ble_eq_true rfl, Nat.le_of_ble_eq_true rfl⟩ dX2_init_1 ?_
  refine K_aload_n X 0 dX2_init_4 rfl rfl ?_
  refine K_bipush X dX2_init_5 cib_6 ?_
  refine K_nwq X (a := p + 1) (Or.inr rfl) wk_X2_9 6 rfl (by decide) (by rw [List.length_append, hp]; rfl) (fun j => (hz (p + 1) (by omega)).2.2 j) ⟨by show _ ≤ 139; omega, by show _ ≤ 984; omega⟩ dX2_init_7 ?_
  refine K_sh (sh' := pre ++ shH 0) (by rw [List.append_assoc]; rfl) ?_
  refine K_putP X 2 kFd2 rfl (by decide) (gA (k := 0) hp rfl) wf_X2_11 rfl (Or.inr ⟨rfl, hnm, rfl⟩) (Or.inr ⟨_, rfl⟩) dX2_init_10 ?_
  refine K_gen (φ := fun τ => IH σ0 τ p 0) (show IH σ0 _ p 0 from by subst e0; exact IH.init hz) (fun σ hS => ?_)
  refine K_iconst X dX2_init_13 cii_0 ?_
  refine K_istore_n X (ls' := [(1, _), (0, _)]) dX2_init_14 rfl (by decide) rfl ?_
  have loop2 : ∀ i : Nat, i ≤ 6 → ∀ τ : KS, IH σ0 τ p i → K pg l e ({ frames := 3, cells := 139, slots := 984, locals := 61 } : Room) s m args below meth c Q D b 2 (1 + 23 * i) (6 + 163 * i) (pre ++ shH i) τ 15 [(0, rf b p), (1, .int (nI i))] [] := by
    refine kup (fun i hi jh => ?_)
    intro σ hS
    have hlen : (pre ++ shH i).length = p + 2 + 23 * i := by rw [List.length_append, shH_l, hp]; omega
    have hz1 : Zr σ (p + 2 + 23 * i) := hz0.of (by omega) (fun x hx => hS.1 x (by omega))
    refine K_iload_n X 1 dX2_init_15 rfl rfl ?_
    refine K_bipush X dX2_init_16 cib_6 ?_
    refine K_icmpN_ge (tgt := 40) X dX2_init_18 (by decide) (by omega) (by omega) (fun c18 => ?_) (fun c18 => ?_)
    · have hi16 : i = 6 := by omega
      subst hi16
      exact K_vret X hQ dX2_init_40 (⟨rfl, by rw [← e0]; exact hS⟩)
    · refine K_aload_n X 0 dX2_init_21 rfl rfl ?_
      refine K_get X 2 kFd2 rfl (by decide) (gA (k := 0) hp rfl) wf_X2_11 rfl (v := rf b (p + 1)) (kv_a hS.2.2.1) dX2_init_22 ?_
      refine K_iload_n X 1 dX2_init_25 rfl rfl ?_
      refine K_nw X kFd4 (a := p + 2 + 23 * i) rfl wk_X2_9 wy_X4 wn_X4 hlen (by decide) (fun j => ⟨(hz1 _ (Nat.le_refl _)).1 j, (hz1 _ (Nat.le_refl _)).2.1 j, (hz1 _ (Nat.le_refl _)).2.2 j⟩) ⟨by show _ ≤ 139; omega, by show _ ≤ 984; omega⟩ dX2_init_26 ?_
      refine K_dup X dX2_init_29 rfl ?_
      refine K_callIP0 X (c_X4_init l D b σ (pre ++ shH i) (p + 2 + 23 * i) hlen hz1) my_X4_init wi_X4_init rfl wm_X2_17 ⟨rfl, rfl, Nat.le_of_ble_eq_true rfl, Nat.le_of_ble_eq_true rfl, by show _ ≤ 139; omega, by show _ ≤ 984; omega⟩ rfl rfl (Nat.le_of_ble_eq_true rfl) dX2_init_30 (fun υ hk => ?_)
      refine K_sh (shH_s pre i) ?_
      refine K_aast X _ (gA (k := 1) hp rfl) (by decide) (shop_at hp (Nat.lt_succ_self i)) rfl rfl (by omega) (by decide) dX2_init_33 ?_
      refine K_gen (φ := fun τ => IH σ0 τ p (i + 1)) (hS.shop hk) (fun σ hS => ?_)
      refine K_iinc X 1 (ls' := [(1, _), (0, _)]) dX2_init_34 rfl (inc_1 _) (by decide) rfl ?_
      refine K_goto (tgt := 15) X dX2_init_37 (by decide) ?_
      exact K_cs (by omega) (by omega) (K_sub [1, 0] rfl (jh (by omega) σ hS))
  exact K_sub [1, 0] rfl (loop2 0 (Nat.zero_le _) σ hS)
