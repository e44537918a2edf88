/-! THE CONSTRUCTORS -/
set_option maxHeartbeats 4000000 in
set_option maxRecDepth 100000 in
theorem c_X3_init (l : Launch) (D : KD) (b : Nat) (σ : KS) (sh : List KSh) (a : Nat) (hs : sh[a]? = some (.inl 3)) : Ct l D b yX3_init cX3_init 1 none (rM 1 20) 0 0 [rf b a] sh σ sh (pE none (wI σ a (upd (upd (σ.1 a) 4 (-6)) 5 (-6)))) := by
  refine Ct.of (ls := [(0, rf b a)]) (by decide) (Nat.le_of_ble_eq_true rfl) rfl ?_
  intro pg e s m args below meth c Q hQ X hnm
  refine K_aload_n X 0 dX3_init_0 rfl rfl ?_
  refine K_objInit X wm_X3_3 wi_objInit wc_objInit ⟨Nat.le_of_ble_eq_true rfl, Nat.le_of_ble_eq_true rfl⟩ dX3_init_1 ?_
  refine K_aload_n X 0 dX3_init_4 rfl rfl ?_
  refine K_bipush X dX3_init_5 cib_m6 ?_
  refine K_putI X 4 kFd3 rfl (by decide) hs wf_X3_9 rfl rfl rfl dX3_init_7 ?_
  refine K_aload_n X 0 dX3_init_10 rfl rfl ?_
  refine K_bipush X dX3_init_11 cib_m6 ?_
  refine K_putI X 5 kFd3 rfl (by decide) hs wf_X3_15 rfl rfl rfl dX3_init_13 ?_
  refine K_st (wI_upd rfl) ?_
  exact K_vret X hQ dX3_init_16 (⟨rfl, rfl⟩)

set_option maxHeartbeats 4000000 in
set_option maxRecDepth 100000 in
theorem c_X1_init (l : Launch) (D : KD) (b : Nat) (σ : KS) (sh : List KSh) (a : Nat) : Ct l D b yX1_init cX1_init 1 none (rM 1 20) 0 0 [rf b a] sh σ sh (pE none σ) := by
  refine Ct.of (ls := [(0, rf b a)]) (by decide) (Nat.le_of_ble_eq_true rfl) rfl ?_
  intro pg e s m args below meth c Q hQ X hnm
  refine K_aload_n X 0 dX1_init_0 rfl rfl ?_
  refine K_objInit X wm_X1_1 wi_objInit wc_objInit ⟨Nat.le_of_ble_eq_true rfl, Nat.le_of_ble_eq_true rfl⟩ dX1_init_1 ?_
  exact K_vret X hQ dX1_init_4 (⟨rfl, rfl⟩)

theorem rep_s (pre L : List KSh) (i : Nat) {q : KSh} : (pre ++ (L ++ List.replicate i q)) ++ [q] = pre ++ (L ++ List.replicate (i + 1) q) := by
  rw [List.append_assoc, List.append_assoc, List.replicate_succ']
theorem lot_at {pre L : List KSh} {p n i : Nat} {q : KSh} (hp : pre.length = p) (hL : L.length = 7) (hi : i < n) : (pre ++ (L ++ List.replicate n q))[p + 7 + i]? = some q := by
  subst hp
  rw [List.getElem?_append_right (by omega), List.getElem?_append_right (by omega), hL, show pre.length + 7 + i - pre.length - 7 = i from by omega, List.getElem?_replicate, if_pos hi]

set_option maxHeartbeats 4000000 in
set_option maxRecDepth 100000 in
theorem c_X4_init (l : Launch) (D : KD) (b : Nat) (σ : KS) (pre : List KSh) (p : Nat) (hp : pre.length = p) (hz : Zr σ p) : Ct l D b yX4_init cX4_init 2 none ({ frames := 2, cells := 22, slots := 146, locals := 40 } : Room) 22 146 [rf b p] (pre ++ [.inl 4]) σ (pre ++ shShop) (pS none (fun τ => Sh0 σ τ p)) := by
  obtain ⟨σ0, e0⟩ : ∃ z, z = σ := ⟨σ, rfl⟩
  have hz0 : Zr σ0 p := by rw [e0]; exact hz
  refine Ct.of (ls := [(0, rf b p)]) (by decide) (Nat.le_of_ble_eq_true rfl) rfl ?_
  intro pg e s m args below meth c Q hQ X hnm
  refine K_aload_n X 0 dX4_init_0 rfl rfl ?_
  refine K_objInit X wm_X4_3 wi_objInit wc_objInit ⟨Nat.le_of_ble_eq_true rfl, Nat.le_of_ble_eq_true rfl⟩ dX4_init_1 ?_
  refine K_aload_n X 0 dX4_init_4 rfl rfl ?_
  refine K_bipush X dX4_init_5 cib_100 ?_
  refine K_putI X 2 kFd4 rfl (by decide) (gA (k := 0) hp rfl) wf_X4_9 rfl rfl rfl dX4_init_7 ?_
  refine K_aload_n X 0 dX4_init_10 rfl rfl ?_
  refine K_bipush X dX4_init_11 cib_30 ?_
  refine K_putI X 3 kFd4 rfl (by decide) (gA (k := 0) hp rfl) wf_X4_15 rfl rfl rfl dX4_init_13 ?_
  refine K_st (wI_upd rfl) ?_
  refine K_gen (φ := fun τ => IS σ0 τ p 0 0 0) (show IS σ0 _ p 0 0 0 from by subst e0; exact IS.init hz) (fun σ hS => ?_)
  refine K_aload_n X 0 dX4_init_16 rfl rfl ?_
  refine K_bipush X dX4_init_17 cib_6 ?_
  refine K_nwa X (atype := .int) (ty := .int) (a := p + 1) rfl (Or.inl rfl) wa_int 6 rfl (by decide) (by rw [List.length_append, hp]; rfl) (fun j => hS.2.2.2.2.2.2.2.1 rfl 1 (by omega) (by omega) j) ⟨by show _ ≤ 22; omega, by show _ ≤ 146; omega⟩ dX4_init_19 ?_
  refine K_sh (List.append_assoc _ _ _) ?_
  refine K_putP X 11 kFd4 rfl (by decide) (gA (k := 0) hp rfl) wf_X4_18 rfl (Or.inr ⟨rfl, hnm, rfl⟩) (Or.inr ⟨_, rfl⟩) dX4_init_21 ?_
  refine K_gen (φ := fun τ => IS σ0 τ p 1 0 0) (hS.ref) (fun σ hS => ?_)
  refine K_aload_n X 0 dX4_init_24 rfl rfl ?_
  refine K_bipush X dX4_init_25 cib_6 ?_
  refine K_nwa X (atype := .int) (ty := .int) (a := p + 2) rfl (Or.inl rfl) wa_int 6 rfl (by decide) (by rw [List.length_append, hp]; rfl) (fun j => hS.2.2.2.2.2.2.2.1 rfl 2 (by omega) (by omega) j) ⟨by show _ ≤ 22; omega, by show _ ≤ 146; omega⟩ dX4_init_27 ?_
  refine K_sh (List.append_assoc _ _ _) ?_
  refine K_putP X 12 kFd4 rfl (by decide) (gA (k := 0) hp rfl) wf_X4_22 rfl (Or.inr ⟨rfl, hnm, rfl⟩) (Or.inr ⟨_, rfl⟩) dX4_init_29 ?_
  refine K_gen (φ := fun τ => IS σ0 τ p 2 0 0) (hS.ref) (fun σ hS => ?_)
  refine K_aload_n X 0 dX4_init_32 rfl rfl ?_
  refine K_bipush X dX4_init_33 cib_11 ?_
  refine K_nwa X (atype := .int) (ty := .int) (a := p + 3) rfl (Or.inl rfl) wa_int 11 rfl (by decide) (by rw [List.length_append, hp]; rfl) (fun j => hS.2.2.2.2.2.2.2.1 rfl 3 (by omega) (by omega) j) ⟨by show _ ≤ 22; omega, by show _ ≤ 146; omega⟩ dX4_init_35 ?_
  refine K_sh (List.append_assoc _ _ _) ?_
  refine K_putP X 13 kFd4 rfl (by decide) (gA (k := 0) hp rfl) wf_X4_25 rfl (Or.inr ⟨rfl, hnm, rfl⟩) (Or.inr ⟨_, rfl⟩) dX4_init_37 ?_
  refine K_gen (φ := fun τ => IS σ0 τ p 3 0 0) (hS.ref) (fun σ hS => ?_)
  refine K_aload_n X 0 dX4_init_40 rfl rfl ?_
  refine K_bipush X dX4_init_41 cib_6 ?_
  refine K_nwa X (atype := .int) (ty := .int) (a := p + 4) rfl (Or.inl rfl) wa_int 6 rfl (by decide) (by rw [List.length_append, hp]; rfl) (fun j => hS.2.2.2.2.2.2.2.1 rfl 4 (by omega) (by omega) j) ⟨by show _ ≤ 22; omega, by show _ ≤ 146; omega⟩ dX4_init_43 ?_
  refine K_sh (List.append_assoc _ _ _) ?_
  refine K_putP X 14 kFd4 rfl (by decide) (gA (k := 0) hp rfl) wf_X4_28 rfl (Or.inr ⟨rfl, hnm, rfl⟩) (Or.inr ⟨_, rfl⟩) dX4_init_45 ?_
  refine K_gen (φ := fun τ => IS σ0 τ p 4 0 0) (hS.ref) (fun σ hS => ?_)
  refine K_aload_n X 0 dX4_init_48 rfl rfl ?_
  refine K_iconst X dX4_init_49 cii_5 ?_
  refine K_nwa X (atype := .int) (ty := .int) (a := p + 5) rfl (Or.inl rfl) wa_int 5 rfl (by decide) (by rw [List.length_append, hp]; rfl) (fun j => hS.2.2.2.2.2.2.2.1 rfl 5 (by omega) (by omega) j) ⟨by show _ ≤ 22; omega, by show _ ≤ 146; omega⟩ dX4_init_50 ?_
  refine K_sh (List.append_assoc _ _ _) ?_
  refine K_putP X 15 kFd4 rfl (by decide) (gA (k := 0) hp rfl) wf_X4_31 rfl (Or.inr ⟨rfl, hnm, rfl⟩) (Or.inr ⟨_, rfl⟩) dX4_init_52 ?_
  refine K_gen (φ := fun τ => IS σ0 τ p 5 0 0) (hS.ref) (fun σ hS => ?_)
  refine K_aload_n X 0 dX4_init_55 rfl rfl ?_
  refine K_bipush X dX4_init_56 cib_16 ?_
  refine K_nwq X (a := p + 6) (Or.inl rfl) wk_X4_34 16 rfl (by decide) (by rw [List.length_append, hp]; rfl) (fun j => hS.2.2.2.2.2.2.2.2 rfl j) ⟨by show _ ≤ 22; omega, by show _ ≤ 146; omega⟩ dX4_init_58 ?_
  refine K_sh (List.append_assoc _ _ _) ?_
  refine K_putP X 16 kFd4 rfl (by decide) (gA (k := 0) hp rfl) wf_X4_36 rfl (Or.inr ⟨rfl, hnm, rfl⟩) (Or.inr ⟨_, rfl⟩) dX4_init_61 ?_
  refine K_gen (φ := fun τ => IS σ0 τ p 6 0 0) (hS.ref) (fun σ hS => ?_)
  refine K_iconst X dX4_init_64 cii_0 ?_
  refine K_istore_n X (ls' := [(1, _), (0, _)]) dX4_init_65 rfl (by decide) rfl ?_
  have loop : ∀ i : Nat, i ≤ 6 → ∀ τ : KS, IS σ0 τ p 6 i 0 → K pg l e ({ frames := 2, cells := 22, slots := 146, locals := 40 } : Room) s m args below meth c Q D b 2 6 50 (pre ++ [.inl 4, .inr (.int, 6), .inr (.int, 6), .inr (.int, 11), .inr (.int, 6), .inr (.int, 5), .inr (.object "FishCounter$Lot", 16)]) τ 66 [(0, rf b p), (1, .int (nI i))] [] := by
    refine kup (fun i hi ih => ?_)
    intro σ hS
    refine K_iload_n X 1 dX4_init_66 rfl rfl ?_
    refine K_bipush X dX4_init_67 cib_6 ?_
    refine K_icmpN_ge (tgt := 107) X dX4_init_69 (by decide) (by omega) (by omega) (fun c69 => ?_) (fun c69 => ?_)
    · refine K_iconst X dX4_init_107 cii_0 ?_
      refine K_istore_n X (ls' := [(1, _), (0, _)]) dX4_init_108 rfl (by decide) rfl ?_
      have loop2 : ∀ i : Nat, i ≤ 16 → ∀ τ : KS, IS σ0 τ p 6 6 i → K pg l e ({ frames := 2, cells := 22, slots := 146, locals := 40 } : Room) s m args below meth c Q D b 2 (6 + i) (50 + 6 * i) (pre ++ ([.inl 4, .inr (.int, 6), .inr (.int, 6), .inr (.int, 11), .inr (.int, 6), .inr (.int, 5), .inr (.object "FishCounter$Lot", 16)] ++ List.replicate i (.inl 3))) τ 109 [(0, rf b p), (1, .int (nI i))] [] := by
        refine kup (fun i hi jh => ?_)
        intro σ hS
        refine K_iload_n X 1 dX4_init_109 rfl rfl ?_
        refine K_bipush X dX4_init_110 cib_16 ?_
        refine K_icmpN_ge (tgt := 134) X dX4_init_112 (by decide) (by omega) (by omega) (fun c112 => ?_) (fun c112 => ?_)
        · have hi16 : i = 16 := by omega
          subst hi16
          exact K_vret X hQ dX4_init_134 (⟨rfl, by rw [← e0]; exact hS.done⟩)
        · refine K_aload_n X 0 dX4_init_115 rfl rfl ?_
          refine K_get X 16 kFd4 rfl (by decide) (gA (k := 0) hp rfl) wf_X4_36 rfl (v := rf b (p + 6)) (kv_a (hS.2.2.2.1 5 (by omega))) dX4_init_116 ?_
          refine K_iload_n X 1 dX4_init_119 rfl rfl ?_
          refine K_nw X kFd3 (a := p + 7 + i) rfl wk_X4_34 wy_X3 wn_X3 (by rw [List.length_append, List.length_append, List.length_replicate, hp]; show p + (7 + i) = _; omega) (by decide) (fun j => ⟨by rw [(hS.1 _ (by omega)).1]; exact (hz0 _ (by omega)).1 j, by rw [(hS.1 _ (by omega)).2.1]; exact (hz0 _ (by omega)).2.1 j, by rw [(hS.1 _ (by omega)).2.2]; exact (hz0 _ (by omega)).2.2 j⟩) ⟨by show _ ≤ 22; omega, by show _ ≤ 146; omega⟩ dX4_init_120 ?_
          refine K_sh (sh' := pre ++ ([.inl 4, .inr (.int, 6), .inr (.int, 6), .inr (.int, 11), .inr (.int, 6), .inr (.int, 5), .inr (.object "FishCounter$Lot", 16)] ++ List.replicate (i + 1) (.inl 3))) (rep_s _ _ _) ?_
          refine K_dup X dX4_init_123 rfl ?_
          refine K_callINE0 (host := RX5) X (c_X3_init l D b σ _ (p + 7 + i) (lot_at hp rfl (Nat.lt_succ_self i))) my_X3_init wi_X3_init rfl (by decide +kernel) ⟨rfl, rfl, Nat.le_of_ble_eq_true rfl, Nat.le_of_ble_eq_true rfl, by show _ ≤ 22; omega, by show _ ≤ 146; omega⟩ rfl rfl (Nat.le_of_ble_eq_true rfl) dX4_init_124 ?_
          refine K_aast X _ (gA (k := 6) hp rfl) (by decide) (lot_at hp rfl (Nat.lt_succ_self i)) rfl rfl (by omega) (by decide) dX4_init_127 ?_
          refine K_gen (φ := fun τ => IS σ0 τ p 6 6 (i + 1)) (hS.lot) (fun σ hS => ?_)
          refine K_iinc X 1 (ls' := [(1, _), (0, _)]) dX4_init_128 rfl (inc_1 _) (by decide) rfl ?_
          refine K_goto (tgt := 109) X dX4_init_131 (by decide) ?_
          exact K_cs (by omega) (by omega) (K_sub [1, 0] rfl (jh (by omega) σ hS))
      refine K_sh (sh' := pre ++ ([.inl 4, .inr (.int, 6), .inr (.int, 6), .inr (.int, 11), .inr (.int, 6), .inr (.int, 5), .inr (.object "FishCounter$Lot", 16)] ++ List.replicate 0 (.inl 3))) (by rw [List.replicate_zero, List.append_nil]) ?_
      exact K_sub [1, 0] rfl (loop2 0 (Nat.zero_le _) σ (by rw [show i = 6 from by omega] at hS; exact hS))
    · refine K_aload_n X 0 dX4_init_72 rfl rfl ?_
      refine K_get X 11 kFd4 rfl (by decide) (gA (k := 0) hp rfl) wf_X4_18 rfl (v := rf b (p + 1)) (kv_a (hS.2.2.2.1 0 (by omega))) dX4_init_73 ?_
      refine K_iload_n X 1 dX4_init_76 rfl rfl ?_
      refine K_sipush X dX4_init_77 cis_1000 ?_
      refine K_sipush X dX4_init_80 cis_200 ?_
      refine K_iload_n X 1 dX4_init_83 rfl rfl ?_
      refine K_imulN X dX4_init_84 ?_
      refine K_iaddN X dX4_init_85 ?_
      refine K_iast X _ (gA (k := 1) hp rfl) rfl (by omega) (by decide) dX4_init_86 ?_
      refine K_aload_n X 0 dX4_init_87 rfl rfl ?_
      refine K_get X 12 kFd4 rfl (by decide) (gA (k := 0) hp rfl) wf_X4_22 rfl (v := rf b (p + 2)) (kv_a (hS.2.2.2.1 1 (by omega))) dX4_init_88 ?_
      refine K_iload_n X 1 dX4_init_91 rfl rfl ?_
      refine K_sipush X dX4_init_92 cis_400 ?_
      refine K_bipush X dX4_init_95 cib_100 ?_
      refine K_iload_n X 1 dX4_init_97 rfl rfl ?_
      refine K_imulN X dX4_init_98 ?_
      refine K_iaddN X dX4_init_99 ?_
      refine K_iast X _ (gA (k := 2) hp rfl) rfl (by omega) (by decide) dX4_init_100 ?_
      refine K_gen (φ := fun τ => IS σ0 τ p 6 (i + 1) 0) (hS.num) (fun σ hS => ?_)
      refine K_iinc X 1 (ls' := [(1, _), (0, _)]) dX4_init_101 rfl (inc_1 _) (by decide) rfl ?_
      refine K_goto (tgt := 66) X dX4_init_104 (by decide) ?_
      exact K_sub [1, 0] rfl (ih (by omega) σ hS)
  exact K_sub [1, 0] rfl (loop 0 (Nat.zero_le _) σ hS)
