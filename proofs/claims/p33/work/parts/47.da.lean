theorem qRoom_16 {M : Nat → Nat} {bx : Nat} (h : M 2 = 16) : qRoom M bx ≠ 0 := by
  unfold qRoom
  split
  · decide
  · decide
theorem qDel_2 (N : Nat → Nat) (kd g fr bx : Nat) : qDel N kd g fr bx 2 = N 2 + 1 := by
  unfold qDel
  rw [qAdd_2, uN_n (by omega), uN_n (by omega)]
theorem qDel_10 (N : Nat → Nat) (kd g fr bx : Nat) : qDel N kd g fr bx 10 = N 10 + 1 := by
  unfold qDel
  rw [qAdd_10, uN_n (by omega), uN_n (by omega)]
theorem qU_del {N : Nat → Nat} (h : qU N) {kd g fr bx : Nat} (hb : bx < 6) (hc : qCnt N bx (N 2) ≠ 3) : qU (qDel N kd g fr bx) := by
  unfold qDel
  refine qU_add (qU_lo (qU_lo h (by omega) (by omega) (by omega)) (by omega) (by omega) (by omega)) hb ?_
  rw [uN_n (by omega), uN_n (by omega), qCnt_congr (N := N) (fun k _ => by show uN _ _ _ _ = _; rw [uN_n (by omega), uN_n (by omega)])]
  have := h.2.2.1 bx hb
  omega
theorem qPs_U {N : Nat → Nat} (h : qU N) (j : Nat) : qU (qPs N j) ∧ qPs N j 10 = N 10 := by
  induction j with
  | zero => exact ⟨h, rfl⟩
  | succ j ih =>
    obtain ⟨a, c⟩ := qU_pass ih.1
    exact ⟨a, c.trans ih.2⟩
