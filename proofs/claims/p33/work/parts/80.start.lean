/-! THE ENTRY -/
theorem KK_of {s : State} {A : Array Value} (hts : ∀ w ∈ lw_tbl, w.before A s = true) : ∃ D, KK D s := by
  have h2 : ∀ w ∈ wsL_law, w.before A s = true := fun w hw => hts w (wsL_law_in w hw)
  obtain ⟨c0, i0, k0⟩ := u_known (n := 7) h2 ilX0 (h2 _ wy_X0)
  obtain ⟨c1, i1, k1⟩ := u_known (n := 4) h2 ilX1 (h2 _ wy_X1)
  obtain ⟨c2, i2, k2⟩ := u_known (n := 3) h2 ilX2 (h2 _ wy_X2)
  obtain ⟨c3, i3, k3⟩ := u_known (n := 6) h2 ilX3 (h2 _ wy_X3)
  obtain ⟨c4, i4, k4⟩ := u_known (n := 17) h2 ilX4 (h2 _ wy_X4)
  obtain ⟨c5, i5, k5⟩ := u_known (n := 5) h2 ilX5 (h2 _ wy_X5)
  obtain ⟨aI, kI, mI, a1, a2, a3⟩ := Cond.arrayClass_spec (h2 _ wa_int)
  obtain ⟨aC, kC, mC, b1, b2, b3⟩ := Cond.arrayClass_spec (h2 _ wa_char)
  have hL : (Cond.arrayOver (.object "FishCounter$Lot")).before A s = true := hts _ (by decide +kernel)
  have hS : (Cond.arrayOver (.object "FishCounter$Shop")).before A s = true := hts _ (by decide +kernel)
  obtain ⟨mL, aL, kL, l1, l2, l3, l4, l5⟩ := Cond.arrayOver_spec hL
  obtain ⟨mS, aS, kS, s1, s2, s3, s4, s5⟩ := Cond.arrayOver_spec hS
  refine ⟨(fun k => if k = 0 then c0 else if k = 1 then c1 else if k = 2 then c2 else if k = 3 then c3 else if k = 4 then c4 else c5, fun k => if k = 0 then i0 else if k = 1 then i1 else if k = 2 then i2 else if k = 3 then i3 else if k = 4 then i4 else i5, fun ty => if ty = .int then aI else if ty = .char then aC else if ty = .object "FishCounter$Lot" then aL else aS), ?_, ?_, ?_, va_AO.of hL, va_AO.of hS⟩
  · intro k r hr
    match k, hr with
    | 0, hr => cases hr; exact k0
    | 1, hr => cases hr; exact k1
    | 2, hr => cases hr; exact k2
    | 3, hr => cases hr; exact k3
    | 4, hr => cases hr; exact k4
    | 5, hr => cases hr; exact k5
    | k + 6, hr => simp at hr
  · intro ty hty
    unfold kTys at hty
    simp only [List.mem_cons, List.not_mem_nil, or_false] at hty
    rcases hty with rfl | rfl | rfl | rfl
    · exact ⟨fun n z => ⟨fun k h => (by cases h), kI, a2, mI, a3⟩, a1⟩
    · exact ⟨fun n z => ⟨fun k h => (by cases h), kC, b2, mC, b3⟩, b1⟩
    · exact ⟨fun n z => ⟨fun k h => (by cases h), kL, l3, mL, l4⟩, kL, mL, l3, l4, l1, l5⟩
    · exact ⟨fun n z => ⟨fun k h => (by cases h), kS, s3, mS, s4⟩, kS, mS, s3, s4, s1, s5⟩
  · intro q hq
    refine va_Nw.of rfl (A := A) (hts _ ?_)
    revert q
    decide +kernel
theorem shC_l : shC.length = 190 := by decide +kernel
theorem Zr_0 : Zr ((fun _ _ => 0, fun _ _ => 0, fun _ _ => none) : KS) 0 := fun _ _ => ⟨fun _ => rfl, fun _ => rfl, fun _ => rfl⟩
theorem CI_0 {τ : KS} (h : C5 τ) : CI τ N0 0 (fun _ => N0) (fun _ => 0) 0 := by
  obtain ⟨⟨a0, a1, a2, a3, a4⟩, ⟨c', d'⟩, ⟨g1, g2, g3, g4⟩, ⟨t1, t2⟩, z⟩ := h
  have hP : PF τ.2.2 := by
    refine ⟨⟨a0, a1, a2, a3, a4⟩, g2, fun i hi => g3 i hi, t2, fun o ho => ?_⟩
    have key : ∀ p, (∀ k, k < 6 → τ.2.2 p (11 + k) = some (p + 1 + k)) → τ.2.2 p 11 = some (p + 1) ∧ τ.2.2 p 12 = some (p + 2) ∧ τ.2.2 p 13 = some (p + 3) ∧ τ.2.2 p 14 = some (p + 4) ∧ τ.2.2 p 15 = some (p + 5) ∧ τ.2.2 p 16 = some (p + 6) := fun p h => ⟨h 0 (by omega), h 1 (by omega), h 2 (by omega), h 3 (by omega), h 4 (by omega), h 5 (by omega)⟩
    have hc : ∀ o, o ∈ shL → o = 1 ∨ o = 24 ∨ ∃ j, j < 6 ∧ o = 48 + 2 + 23 * j := by
      intro o ho
      unfold shL at ho
      simp only [List.mem_cons, List.not_mem_nil, or_false] at ho
      rcases ho with rfl | rfl | rfl | rfl | rfl | rfl | rfl | rfl
      · exact Or.inl rfl
      · exact Or.inr (Or.inl rfl)
      · exact Or.inr (Or.inr ⟨0, by omega, rfl⟩)
      · exact Or.inr (Or.inr ⟨1, by omega, rfl⟩)
      · exact Or.inr (Or.inr ⟨2, by omega, rfl⟩)
      · exact Or.inr (Or.inr ⟨3, by omega, rfl⟩)
      · exact Or.inr (Or.inr ⟨4, by omega, rfl⟩)
      · exact Or.inr (Or.inr ⟨5, by omega, rfl⟩)
    rcases hc o ho with rfl | rfl | ⟨j, hj, rfl⟩
    · exact key 1 c'.2
    · exact key 24 d'.2
    · exact key _ (g4 j hj).2
  refine ⟨hP, ⟨_, c'.1⟩, ⟨_, rs_p d'.1⟩, ⟨0, by omega, by omega, g1 0, g1 1, fun i hi => ?_, fun j hj => by omega⟩, t1, fun k hk => by omega⟩
  have := rs_p (g4 i hi).1
  exact ⟨_, by rw [show 50 + 23 * i = 48 + 2 + 23 * i from by omega]; exact this⟩
theorem Gd_0 : Gd (1000 + 4000000 * 0) N0 := by
  have hI : qIr N0 := by
    refine ⟨by decide, by decide, by decide, by decide, by decide, fun k hk => ?_, fun k hk => ?_, fun k hk => ?_, fun k hk => ?_, fun m hm => absurd hm (Nat.not_lt_zero _)⟩
    · unfold N0; rw [if_pos (by omega)]; omega
    · unfold N0; rw [if_neg (by omega), if_pos (by omega)]; omega
    · unfold N0; rw [if_neg (by omega), if_neg (by omega), if_neg (by omega), if_neg (by omega)]; omega
    · unfold N0; rw [if_neg (by omega), if_neg (by omega), if_neg (by omega), if_neg (by omega)]; omega
  have hU : qU N0 := ⟨fun i j _ hj => absurd hj (Nat.not_lt_zero _), fun k hk => absurd hk (Nat.not_lt_zero _), fun pl _ => Nat.zero_le _, fun i j _ hj => absurd hj (Nat.not_lt_zero _)⟩
  refine ⟨hI, hU, fun i hi => ?_⟩
  have key : ∀ i, i < 11 → N0 i ≤ 1000 := by decide
  have := key i hi
  omega
def qN (u : Nat) : Nat → Nat := fun j => if 10 ≤ j ∧ j < 10 + u then 1000 + 200 * (j - 10) else if 16 ≤ j ∧ j < 16 + u then 400 + 100 * (j - 16) else 0
theorem qN_0 : qN 0 = fun _ => 0 := by
  funext j
  unfold qN
  rw [if_neg (by omega), if_neg (by omega)]
theorem qN_s {u : Nat} (h : u < 6) : uN (uN (qN u) (10 + u) (1000 + 200 * u)) (16 + u) (400 + 100 * u) = qN (u + 1) := by
  funext j
  unfold uN qN
  by_cases h1 : j = 16 + u
  · rw [if_pos h1, if_neg (by omega), if_pos (by omega)]
    omega
  · rw [if_neg h1]
    by_cases h2 : j = 10 + u
    · rw [if_pos h2, if_pos (by omega)]
      omega
    · rw [if_neg h2]
      by_cases h3 : 10 ≤ j ∧ j < 10 + u
      · rw [if_pos h3, if_pos (by omega)]
      · rw [if_neg h3, if_neg (show ¬ (10 ≤ j ∧ j < 10 + (u + 1)) from by omega)]
        by_cases h4 : 16 ≤ j ∧ j < 16 + u
        · rw [if_pos h4, if_pos (by omega)]
        · rw [if_neg h4, if_neg (by omega)]
theorem JJ_0 : JJ (uN (uN (qN 6) 8 100) 9 30) (fun _ => 0) (fun _ => 0) N0 := by
  have a1 : ∀ j, j < 10 → j ≠ 2 → uN (uN (qN 6) 8 100) 9 30 j = N0 j := by decide
  have a2 : ∀ j, j < 33 → 10 ≤ j → uN (uN (qN 6) 8 100) 9 30 j = N0 (j + 1) := by decide
  have a3 : ∀ j, j < 11 → 0 = N0 (34 + j) := by decide
  have b1 : ∀ k, k < 6 → uN (uN (qN 6) 8 100) 9 30 (10 + k) ≤ 9999 := by decide
  have b2 : ∀ k, k < 6 → uN (uN (qN 6) 8 100) 9 30 (16 + k) ≤ 9999 := by decide
  have b3 : ∀ k, k < 11 → uN (uN (qN 6) 8 100) 9 30 (22 + k) ≤ 90 := by decide
  exact ⟨⟨a1, by decide, fun j h0 hj => a2 j hj h0, a3, by decide, fun k hk => absurd hk (Nat.not_lt_zero _)⟩, ⟨⟨by decide, by decide, by decide, by decide⟩, b1, b2, b3, fun k _ => Nat.zero_le _, fun k hk => absurd hk (Nat.not_lt_zero _)⟩, by unfold Cn; decide⟩
set_option maxHeartbeats 4000000 in
set_option maxRecDepth 100000 in
theorem whole_start {p : Program} {e : Env} {s : State} {m : MethodId} {below : List Frame} {meth : Method} {c : Code} (l : Launch) (hflags : l.flags = flags0) {b L : Nat} {xs : Nat → Int32} (hL : L ≤ 260) (C0 : lw_At p s m meth c b L xs) : W p l e room_1 s m #[Value.ref b] below meth c s.heap [] 0 0 (lw_Z below #[Value.ref b] s) (entryFrame m ([Value.ref b] : List Value).toArray 22) := by
  have hL260 := hL
  obtain ⟨hx, hbc, hr, hml, hown, hts, hX, hbl, hlocks, hgv⟩ := C0
  obtain ⟨D, hK⟩ := KK_of hts
  have X : KX p s m meth c #[Value.ref b] D s.heap.size cL_law 22 ret RL := ⟨hx, hbc, hml, hown, fun w hw => hts w (wsL_law_in w hw), hK, hr, hlocks, Nat.le_refl _⟩
  have hl := lv_entry ([.ref b]) (n := 22) (Nat.le_of_ble_eq_true rfl)
  rw [lg_entry_eq]
  generalize (lg_sl ([.ref b]) ++ List.replicate (22 - (lg_sl ([.ref b])).length) Slot.unset).toArray = lsA at hl ⊢
  have hl : lv_has lsA 22 [(0, .ref b)] := hl
  suffices hS : K p l e room_1 s m #[Value.ref b] below meth c (lw_Z below #[Value.ref b] s) D s.heap.size 22 0 0 [] (fun _ _ => 0, fun _ _ => 0, fun _ _ => none) 0 [(0, .ref b)] [] from hS s.heap [] lsA ⟨rfl, fun a q h => by cases h⟩ va_S.rf hl
  refine K_nw X kFd5 (a := 0) rfl wk_L_21 wy_X5 wn_X5 rfl (by decide) (fun j => ⟨rfl, rfl, rfl⟩) ⟨Nat.le_of_ble_eq_true rfl, Nat.le_of_ble_eq_true rfl⟩ dL_law_0 ?_
  refine K_dup X dL_law_3 rfl ?_
  refine K_callIP0 X (c_X5_init l D s.heap.size _ Zr_0) my_X5_init wi_X5_init rfl wm_L_78 ⟨rfl, rfl, Nat.le_of_ble_eq_true rfl, Nat.le_of_ble_eq_true rfl, Nat.le_of_ble_eq_true rfl, Nat.le_of_ble_eq_true rfl⟩ rfl rfl (Nat.le_of_ble_eq_true rfl) dL_law_4 (fun υ hC => ?_)
  refine K_astore_n X (ls' := [(1, _), (0, _)]) dL_law_7 rfl (by decide) rfl ?_
  refine K_bipush X dL_law_8 cib_33 ?_
  refine K_nwz X (atype := .int) (ty := .int) (a := 190) rfl (Or.inl rfl) wa_int 33 rfl (by decide) shC_l ⟨Nat.le_of_ble_eq_true rfl, Nat.le_of_ble_eq_true rfl⟩ dL_law_10 ?_
  refine K_astore_n X (ls' := [(2, _), (1, _), (0, _)]) dL_law_12 rfl (by decide) rfl ?_
  refine K_bipush X dL_law_13 cib_11 ?_
  refine K_nwz X (atype := .int) (ty := .int) (a := 190 + 1) rfl (Or.inl rfl) wa_int 11 rfl (by decide) (by rw [List.length_append, shC_l]; rfl) ⟨Nat.le_of_ble_eq_true rfl, Nat.le_of_ble_eq_true rfl⟩ dL_law_15 ?_
  refine K_sh (List.append_assoc _ _ _) ?_
  refine K_astore_n X (ls' := [(3, _), (2, _), (1, _), (0, _)]) dL_law_17 rfl (by decide) rfl ?_
  refine K_bipush X dL_law_18 cib_64 ?_
  refine K_nwz X (atype := .int) (ty := .int) (a := 190 + 2) rfl (Or.inl rfl) wa_int 64 rfl (by decide) (by rw [List.length_append, shC_l]; rfl) ⟨Nat.le_of_ble_eq_true rfl, Nat.le_of_ble_eq_true rfl⟩ dL_law_20 ?_
  refine K_sh (List.append_assoc _ _ _) ?_
  refine K_astore X (ls' := [(4, _), (3, _), (2, _), (1, _), (0, _)]) dL_law_22 (by decide) rfl ?_
  obtain ⟨shS, hsS⟩ : ∃ z, z = shC ++ [.inr (.int, 33), .inr (.int, 11), .inr (.int, 64)] := ⟨_, rfl⟩
  refine K_sh hsS.symm ?_
  refine K_cs (ca' := 193) (sl' := 1517) rfl rfl ?_
  have hshS : shP shS := by rw [hsS]; exact fun a q hq => ap_l hq
  have hGS : GS shS 190 := by rw [hsS]; exact ⟨gA (k := 0) shC_l rfl, gA (k := 1) shC_l rfl, gA (k := 2) shC_l rfl⟩
  refine K_st (show _ = wG υ 190 (qN 0) (fun _ => 0) (fun _ => 0) from by rw [qN_0]; rfl) ?_
  refine K_iconst X dL_law_24 cii_0 ?_
  refine K_istore X (ls' := [(5, _), (4, _), (3, _), (2, _), (1, _), (0, _)]) dL_law_25 (by decide) rfl ?_
  have loop : ∀ u : Nat, u ≤ 6 → K p l e room_1 s m #[Value.ref b] below meth c (lw_Z below #[Value.ref b] s) D s.heap.size 22 193 1517 shS (wG υ 190 (qN u) (fun _ => 0) (fun _ => 0)) 27 [(5, .int (nI u)), (0, .ref b), (1, rf s.heap.size 0), (2, rf s.heap.size 190), (3, rf s.heap.size (190 + 1)), (4, rf s.heap.size (190 + 2))] [] := by
    refine kup (fun u hu ih => ?_)
    refine K_iload X 0 dL_law_27 rfl ?_
    refine K_bipush X dL_law_29 cib_6 ?_
    refine K_icmpN_ge (tgt := 73) X dL_law_31 (by decide) (by omega) (by omega) (fun c31 => ?_) (fun c31 => ?_)
    · have hu6 : u = 6 := by omega
      rw [hu6]
      refine K_aload_n X 3 dL_law_73 rfl rfl ?_
      refine K_bipush X dL_law_74 cib_8 ?_
      refine K_bipush X dL_law_76 cib_100 ?_
      refine K_iast X _ hGS.1 rfl (by omega) (by decide) dL_law_78 ?_
      refine K_st wG_uq ?_
      refine K_aload_n X 3 dL_law_79 rfl rfl ?_
      refine K_bipush X dL_law_80 cib_9 ?_
      refine K_bipush X dL_law_82 cib_30 ?_
      refine K_iast X _ hGS.1 rfl (by omega) (by decide) dL_law_84 ?_
      refine K_st wG_uq ?_
      refine K_iconst X dL_law_85 cii_0 ?_
      refine K_istore X (ls' := [(5, _), (0, _), (1, _), (2, _), (3, _), (4, _)]) dL_law_86 (by decide) rfl ?_
      exact K_sub [0, 1, 2, 3, 4, 5] rfl (law_loop hL260 rfl hX hbl X 0 (Nat.zero_le _) shS _ hshS hGS ⟨_, _, _, N0, 0, _, _, 0, (CI_0 hC).wg (by decide), AR.wG, JJ_0, Gd_0, Nat.le_refl 0⟩)
    · refine K_aload_n X 3 dL_law_34 rfl rfl ?_
      refine K_bipush X dL_law_35 cib_10 ?_
      refine K_iload X 0 dL_law_37 rfl ?_
      refine K_iaddN X dL_law_39 ?_
      refine K_sipush X dL_law_40 cis_1000 ?_
      refine K_sipush X dL_law_43 cis_200 ?_
      refine K_iload X 0 dL_law_46 rfl ?_
      refine K_imulN X dL_law_48 ?_
      refine K_iaddN X dL_law_49 ?_
      refine K_iast X _ hGS.1 rfl (by omega) (by decide) dL_law_50 ?_
      refine K_st wG_uq ?_
      refine K_aload_n X 3 dL_law_51 rfl rfl ?_
      refine K_bipush X dL_law_52 cib_16 ?_
      refine K_iload X 0 dL_law_54 rfl ?_
      refine K_iaddN X dL_law_56 ?_
      refine K_sipush X dL_law_57 cis_400 ?_
      refine K_bipush X dL_law_60 cib_100 ?_
      refine K_iload X 0 dL_law_62 rfl ?_
      refine K_imulN X dL_law_64 ?_
      refine K_iaddN X dL_law_65 ?_
      refine K_iast X _ hGS.1 rfl (by omega) (by decide) dL_law_66 ?_
      refine K_st wG_uq ?_
      rw [qN_s (show u < 6 from by omega)]
      refine K_iinc X 0 (ls' := [(5, _), (0, _), (1, _), (2, _), (3, _), (4, _)]) dL_law_67 rfl (inc_1 _) (by decide) rfl ?_
      refine K_goto (tgt := 27) X dL_law_70 (by decide) ?_
      exact K_sub [0, 1, 2, 3, 4, 5] rfl (ih (by omega))
  exact K_sub [0, 5, 4, 3, 2, 1] rfl (loop 0 (Nat.zero_le _))
