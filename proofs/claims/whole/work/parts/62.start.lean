/-- from the entry -/
theorem Zr_0 : Zr ((fun _ _ => 0, fun _ _ => 0, fun _ _ => none) : KS) 0 := fun _ _ => ⟨fun _ => rfl, fun _ => rfl, fun _ => rfl⟩
theorem shF_e : shC ++ [.inl 6, .inr (.int, 125), .inr (.int, 125), .inr (.int, 750), .inr (.int, 80)] = shF := rfl
theorem shC_l : shC.length = 190 := by decide +kernel
theorem SI_0 {υ τ : KS} (h : C5 υ) (k : JD υ τ 190) : SX (1000 + 4000000 * 0) τ := by
  obtain ⟨⟨a0, a1, a2, a3, a4⟩, ⟨c, d⟩, ⟨g1, g2, g3, g4⟩, ⟨t1, t2⟩, z⟩ := h
  obtain ⟨k1, k2, k3, k4⟩ := k
  have c' := c.keep (υ := τ) (fun x h1 h2 => k1 x (by omega))
  have d' := d.keep (υ := τ) (fun x h1 h2 => k1 x (by omega))
  have g' := fun j (hj : j < 6) => (g4 j hj).keep (υ := τ) (fun x h1 h2 => k1 x (by omega))
  have hP : PF τ.2.2 := by
    refine ⟨?_, ?_, fun i hi => ?_, ?_, ⟨k4 0 (by omega), k4 1 (by omega), k4 2 (by omega), k4 3 (by omega)⟩, fun o ho => ?_⟩
    · rw [(k1 0 (by omega)).2.2]; exact ⟨a0, a1, a2, a3, a4⟩
    · rw [(k1 48 (by omega)).2.2]; exact g2
    · rw [(k1 49 (by omega)).2.2]; exact g3 i hi
    · rw [(k1 188 (by omega)).2.2]; exact t2
    · have key : ∀ p, (∀ k, k < 6 → τ.2.2 p (11 + k) = some (p + 1 + k)) → τ.2.2 p 11 = some (p + 1) ∧ τ.2.2 p 12 = some (p + 2) ∧ τ.2.2 p 13 = some (p + 3) ∧ τ.2.2 p 14 = some (p + 4) ∧ τ.2.2 p 15 = some (p + 5) ∧ τ.2.2 p 16 = some (p + 6) := fun p h => ⟨h 0 (by omega), h 1 (by omega), h 2 (by omega), h 3 (by omega), h 4 (by omega), h 5 (by omega)⟩
      have hc : ∀ o, o ∈ shL → o = 1 ∨ o = 24 ∨ ∃ j, j < 6 ∧ o = 48 + 2 + 23 * j := by
        intro o ho
        unfold shL at ho
        simp only [List.mem_cons, List.not_mem_nil, or_false] at ho
        rcases ho with rfl | rfl | rfl | rfl | rfl | rfl | rfl | rfl
        · exact Or.inl rfl
        · exact Or.inr (Or.inl rfl)
        · exact Or.inr (Or.inr ⟨0, by omega, rfl⟩)
        · exact Or.inr (Or.inr ⟨1, by omega, rfl⟩)
        · exact Or.inr (Or.inr ⟨2, by omega, rfl⟩)
        · exact Or.inr (Or.inr ⟨3, by omega, rfl⟩)
        · exact Or.inr (Or.inr ⟨4, by omega, rfl⟩)
        · exact Or.inr (Or.inr ⟨5, by omega, rfl⟩)
      rcases hc o ho with rfl | rfl | ⟨j, hj, rfl⟩
      · exact key 1 c'.2
      · exact key 24 d'.2
      · exact key _ (g' j hj).2
  have hI : qIr N0 := by
    refine ⟨by decide, by decide, by decide, by decide, by decide, fun k hk => ?_, fun k hk => ?_, fun k hk => ?_, fun k hk => ?_, fun m hm => absurd hm (Nat.not_lt_zero _)⟩
    · unfold N0; rw [if_pos (by omega)]; omega
    · unfold N0; rw [if_neg (by omega), if_pos (by omega)]; omega
    · unfold N0; rw [if_neg (by omega), if_neg (by omega), if_neg (by omega), if_neg (by omega)]; omega
    · unfold N0; rw [if_neg (by omega), if_neg (by omega), if_neg (by omega), if_neg (by omega)]; omega
  have hU : qU N0 := ⟨fun i j _ hj => absurd hj (Nat.not_lt_zero _), fun k hk => absurd hk (Nat.not_lt_zero _), fun pl _ => Nat.zero_le _, fun i j _ hj => absurd hj (Nat.not_lt_zero _)⟩
  have hb : Bd (1000 + 4000000 * 0) N0 := by
    intro i hi
    have key : ∀ i, i < 11 → N0 i ≤ 1000 := by decide
    have := key i hi
    omega
  refine ⟨N0, 0, fun _ => N0, fun _ => 0, 0, ⟨hP, ⟨_, c'.1⟩, ⟨_, rs_p d'.1⟩, ⟨0, by omega, by omega, ?_, ?_, fun i hi => ?_, fun j hj => by omega⟩, ?_, fun k hk => by omega⟩, ⟨k3, ⟨k2 3, by omega⟩, fun j hj => by omega, k2 5, fun k hk => by omega, by omega, fun k hk => by omega⟩, ⟨hI, hU, hb⟩, fun j hj => by omega⟩
  · rw [(k1 48 (by omega)).1]; exact g1 0
  · rw [(k1 48 (by omega)).1]; exact g1 1
  · have := rs_p (g' i hi).1
    exact ⟨_, by rw [show 50 + 23 * i = 48 + 2 + 23 * i from by omega]; exact this⟩
  · rw [(k1 188 (by omega)).1]; exact t1
set_option maxHeartbeats 4000000 in
set_option maxRecDepth 100000 in
theorem whole_start {p : Program} {e : Env} {s : State} {m : MethodId} {below : List Frame} {meth : Method} {c : Code} (l : Launch) (hflags : l.flags = flags0) {b L : Nat} {xs : Nat → Int32} (hL : L ≤ 2560) (C0 : lw_At p s m meth c b L xs) : W p l e room_1 s m #[Value.ref b] below meth c s.heap [] 0 0 (lw_Z below #[Value.ref b] s) (entryFrame m ([Value.ref b] : List Value).toArray 4) := by
  obtain ⟨hx, hbc, hr, hml, hown, hts, hX, hbl, hlocks, hgv⟩ := C0
  obtain ⟨D, hK⟩ := KK_of hts
  have X : KX p s m meth c #[Value.ref b] D s.heap.size cL_law 4 ret RL := ⟨hx, hbc, hml, hown, fun w hw => hts w (wsL_law_in w hw), hK, hr, hlocks, Nat.le_refl _⟩
  have hl := lv_entry ([.ref b]) (n := 4) (Nat.le_of_ble_eq_true rfl)
  rw [lg_entry_eq]
  generalize (lg_sl ([.ref b]) ++ List.replicate (4 - (lg_sl ([.ref b])).length) Slot.unset).toArray = lsA at hl ⊢
  have hl : lv_has lsA 4 [(0, .ref b)] := hl
  suffices hS : K p l e room_1 s m #[Value.ref b] below meth c (lw_Z below #[Value.ref b] s) D s.heap.size 4 0 0 [] (fun _ _ => 0, fun _ _ => 0, fun _ _ => none) 0 [(0, .ref b)] [] from hS s.heap [] lsA ⟨rfl, fun a q h => by cases h⟩ va_S.rf hl
  refine K_nw X kFd5 (a := 0) rfl wk_L_7 wy_X5 wn_X5 rfl (by decide) (fun j => ⟨rfl, rfl, rfl⟩) ⟨Nat.le_of_ble_eq_true rfl, Nat.le_of_ble_eq_true rfl⟩ dL_law_0 ?_
  refine K_dup X dL_law_3 rfl ?_
  refine K_callIP0 X (c_X5_init l D s.heap.size _ Zr_0) my_X5_init wi_X5_init rfl wm_L_9 ⟨rfl, rfl, Nat.le_of_ble_eq_true rfl, Nat.le_of_ble_eq_true rfl, Nat.le_of_ble_eq_true rfl, Nat.le_of_ble_eq_true rfl⟩ rfl rfl (Nat.le_of_ble_eq_true rfl) dL_law_4 (fun υ hC => ?_)
  refine K_astore_n X (ls' := [(1, _), (0, _)]) dL_law_7 rfl (by decide) rfl ?_
  refine K_nw X kFd6 (a := 190) rfl wk_L_10 wy_X6 wn_X6 shC_l (by decide) (fun j => ⟨(hC.2.2.2.2 190 (Nat.le_refl _)).1 j, (hC.2.2.2.2 190 (Nat.le_refl _)).2.1 j, (hC.2.2.2.2 190 (Nat.le_refl _)).2.2 j⟩) ⟨Nat.le_of_ble_eq_true rfl, Nat.le_of_ble_eq_true rfl⟩ dL_law_8 ?_
  refine K_dup X dL_law_11 rfl ?_
  refine K_callIP0 X (c_X6_init l D s.heap.size υ shC 190 shC_l hC.2.2.2.2) my_X6_init wi_X6_init rfl wm_L_12 ⟨rfl, rfl, Nat.le_of_ble_eq_true rfl, Nat.le_of_ble_eq_true rfl, Nat.le_of_ble_eq_true rfl, Nat.le_of_ble_eq_true rfl⟩ rfl rfl (Nat.le_of_ble_eq_true rfl) dL_law_12 (fun τ hJ => ?_)
  refine K_astore_n X (ls' := [(2, _), (1, _), (0, _)]) dL_law_15 rfl (by decide) rfl ?_
  refine K_iconst X dL_law_16 cii_0 ?_
  refine K_istore_n X (ls' := [(3, _), (2, _), (1, _), (0, _)]) dL_law_17 rfl (by decide) rfl ?_
  refine K_sh shF_e ?_
  exact K_sub [3, 2, 1, 0] rfl (law_loop hL rfl hX hbl X 0 (Nat.zero_le _) τ (SI_0 hC hJ))
