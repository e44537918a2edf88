/-! every call keeps it -/
theorem qIn_tN {lo hi : Nat} {v : Int32} (h : qIn lo hi v = true) (hl : lo < 2 ^ 31) (hh : hi < 2 ^ 31) : lo ≤ tN v ∧ tN v ≤ hi := by
  obtain ⟨j, h1, h2, rfl⟩ := qIn_ex hl hh h
  rw [tN_nI (by omega)]
  exact ⟨h1, h2⟩
section GOP
variable {B : Nat} {N M : Nat → Nat}
theorem g_setPrice {x y z : Int32} (h : Gd B N) (hB : 1000 ≤ B) (e : (oSetPrice N x y z).2 = some M) : Gd (B + 4000000) M := by
  unfold oSetPrice at e
  split at e
  · rename_i h1
    split at e
    · rename_i h2
      rw [Bool.and_eq_true] at h2
      cases e
      have a := qIn_tN h1 (by decide) (by decide)
      have b := qIn_tN h2.1 (by decide) (by decide)
      have c := qIn_tN h2.2 (by decide) (by decide)
      exact ((h.lo (by omega) (by omega) (by omega) hB (by omega) (by omega) (by omega) (by omega) (by omega)).lo (by omega) (by omega) (by omega) hB (by omega) (by omega) (by omega) (by omega) (by omega)).up (by omega)
    · cases e
  · cases e
theorem g_setCut {x y : Int32} (h : Gd B N) (hB : 1000 ≤ B) (e : (oSetCut N x y).2 = some M) : Gd (B + 4000000) M := by
  unfold oSetCut at e
  split at e
  · rename_i h1
    split at e
    · rename_i h2
      cases e
      have a := qIn_tN h1 (by decide) (by decide)
      have b := qIn_tN h2 (by decide) (by decide)
      exact (h.lo (by omega) (by omega) (by omega) hB (by omega) (by omega) (by omega) (by omega) (by omega)).up (by omega)
    · cases e
  · cases e
theorem g_setMelt {x y : Int32} (h : Gd B N) (hB : 1000 ≤ B) (e : (oSetMelt N x y).2 = some M) : Gd (B + 4000000) M := by
  unfold oSetMelt at e
  split at e
  · rename_i h1
    rw [Bool.and_eq_true] at h1
    cases e
    have a := qIn_tN h1.1 (by decide) (by decide)
    have b := qIn_tN h1.2 (by decide) (by decide)
    exact ((h.lo (by omega) (by omega) (by omega) hB (by omega) (by omega) (by omega) (by omega) (by omega)).lo (by omega) (by omega) (by omega) hB (by omega) (by omega) (by omega) (by omega) (by omega)).up (by omega)
  · cases e
theorem g_deliver {x y z w : Int32} (h : Gd B N) (hB : 1000 ≤ B) (e : (oDeliver N x y z w).2 = some M) : Gd (B + 4000000) M := by
  unfold oDeliver at e
  split at e
  · rename_i h1
    obtain ⟨⟨a1, a2⟩, ⟨a3, a4⟩, a5, a6⟩ := aWhy_ge h1
    cases e
    have a := qIn_tN a1 (by decide) (by decide)
    have b := qIn_tN a2 (by decide) (by decide)
    have c := qIn_tN a3 (by decide) (by decide)
    have d := qIn_tN a4 (by decide) (by decide)
    have := qi_2 h.1
    exact (h.del (by omega) (by omega) c (by omega) (by omega) a5).up (by omega)
  · cases e
theorem g_ice {pl : Nat} {g : Int32} (hp : pl < 11) (h : Gd B N) (hB : 1000 ≤ B) (e : (oIce N pl g).2 = some M) : Gd (B + 4000000) M := by
  unfold oIce at e
  split at e
  · cases e
    have : qIce N pl (tN g) ≤ 5000 := by unfold qIce; split <;> omega
    exact (h.lo (by omega) (by omega) (by omega) hB (by omega) (by omega) (by omega) (by omega) (fun _ => this)).up (by omega)
  · cases e
theorem g_iceBox {x y : Int32} (h : Gd B N) (hB : 1000 ≤ B) (e : (oIceBox N x y).2 = some M) : Gd (B + 4000000) M := by
  unfold oIceBox at e
  split at e
  · rename_i h1
    have a := qIn_tN h1 (by decide) (by decide)
    exact g_ice (by omega) h hB e
  · cases e
theorem g_iceTray {x y : Int32} (h : Gd B N) (hB : 1000 ≤ B) (e : (oIceTray N x y).2 = some M) : Gd (B + 4000000) M := by
  unfold oIceTray at e
  split at e
  · rename_i h1
    have a := qIn_tN h1 (by decide) (by decide)
    exact g_ice (by omega) h hB e
  · cases e
theorem oOf_some {x : Int32} {f : Nat → qOp} (e : (oOf N x f).2 = some M) : ∃ k, k < N 2 ∧ (f k).2 = some M := by
  unfold oOf at e
  split at e
  · cases e
  · rename_i k hk
    exact ⟨k, qF_lt hk, e⟩
theorem g_toTray {x y : Int32} (h : Gd B N) (e : (oToTray N x y).2 = some M) : Gd (B + 4000000) M := by
  unfold oToTray at e
  obtain ⟨k, hk, e⟩ := oOf_some e
  split at e
  · rename_i h1
    split at e
    · rename_i h2
      cases e
      have a := qIn_tN h1 (by decide) (by decide)
      exact (h.place hk (by omega) (fun z => by omega) (fun _ j hj hz => qCnt_p hj hz h2)).up (by omega)
    · cases e
  · cases e
theorem g_toBox {x y : Int32} (h : Gd B N) (e : (oToBox N x y).2 = some M) : Gd (B + 4000000) M := by
  unfold oToBox at e
  obtain ⟨k, hk, e⟩ := oOf_some e
  split at e
  · rename_i h1
    split at e
    · cases e
    · rename_i h2
      cases e
      have a := qIn_tN h1 (by decide) (by decide)
      exact (h.place hk (by omega) (fun _ => by have := h.2.1.2.2.1 (tN y) (by omega); have := fun q => h2 (Or.inr q); omega) (fun z => by omega)).up (by omega)
  · cases e
theorem g_divide {x y z : Int32} (h : Gd B N) (e : (oDivide N x y z).2 = some M) : Gd (B + 4000000) M := by
  unfold oDivide at e
  obtain ⟨k, hk, e⟩ := oOf_some e
  split at e
  · rename_i h1
    split at e
    · rename_i h2
      split at e
      · rename_i h3
        cases e
        have a := qIn_tN h1 (by decide) (by decide)
        have b := qIn_tN h2 (by decide) (by decide)
        have hl := qi_l2 h.1 hk
        have hlt : tN y < qL N k 2 := by
          unfold qWhyD at h3
          split at h3
          · assumption
          · exact absurd h3 (by decide)
        obtain ⟨r1, r2⟩ := qRoom_ge (show 0 ≤ qRoom N (tN z) from by unfold qWhyD at h3; rw [if_pos hlt] at h3; exact h3)
        have h2' := qi_2 h.1
        have e2 : uN N (45 + 5 * k + 2) (qL N k 2 - tN y) 2 = N 2 := uN_n (by omega)
        have i1 : qIr (uN N (45 + 5 * k + 2) (qL N k 2 - tN y)) := qIr_l h.1 (by omega) ⟨by omega, fun _ => by omega, by omega, by omega⟩
        refine ⟨qIr_add i1 (by rw [e2]; omega) (qi_l1 h.1 hk) (by omega) (qi_l3 h.1 hk) (by omega), qU_add (qU_f h.2.1 (by omega)) (by omega) ?_, (Bd.add (h.2.2.u (fun h => by omega))).up (by omega)⟩
        rw [e2, qCnt_congr (N := N) (fun m _ => uN_n (by omega))]
        have := h.2.1.2.2.1 (tN z) (by omega)
        omega
      · cases e
    · cases e
  · cases e
theorem g_throw {x : Int32} (h : Gd B N) (e : (oThrow N x).2 = some M) : Gd (B + 4000000) M := by
  unfold oThrow at e
  obtain ⟨k, hk, e⟩ := oOf_some e
  cases e
  exact ⟨qIr_throw h.1 hk, qU_throw h.2.1 hk, (h.2.2.throw h.1 hk).up (by omega)⟩
theorem g_order {x y z w : Int32} (h : Gd B N) (e : (oOrder N x y z w).2 = some M) : Gd (B + 4000000) M := by
  unfold oOrder at e
  split at e
  · split at e
    · cases e
      exact (Gd.or h).up (by omega)
    · cases e
  · cases e
theorem g_pass (h : Gd B N) (hB : 1000 ≤ B) (e : (oPass N).2 = some M) : Gd (B + 4000000) M := by
  unfold oPass at e
  split at e
  · cases e
  · rename_i h1; cases e; exact h.pass hB h1
theorem g_close (h : Gd B N) (hB : 1000 ≤ B) (e : (oClose N).2 = some M) : Gd (B + 4000000) M := by
  unfold oClose at e
  split at e
  · cases e
  · rename_i h1; cases e; exact h.close hB h1
end GOP
/-! BOTH SYSTEMS: the reference's cells for the same numbers -/
