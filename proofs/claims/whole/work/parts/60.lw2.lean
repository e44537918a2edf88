theorem cmp_self (x : Int64) : lg_cmp x x = 0 := by
  unfold lg_cmp
  simp
theorem oType_1 {T : Nat → Nat} {n : Nat} {x : Int32} : (oType T n x).1 = if qIn 33 126 x = true then (if n = 80 then -4 else nI (n + 1)) else -2 := by
  unfold oType
  split
  · split <;> rfl
  · rfl
theorem CD.pf {σ τ : KS} {N : Nat → Nat} {r n : Nat} {hs : Nat → Nat → Nat} {T : Nat → Nat} {o : Option (Nat → Nat)} (h : CD σ N r hs T n o τ) : PF τ.2.2 := by
  obtain ⟨-, h⟩ := h
  cases o with
  | none => exact h.1
  | some M => exact h.1
theorem UN.pf {τ : KS} {N : Nat → Nat} {r n : Nat} {hs : Nat → Nat → Nat} {T : Nat → Nat} (h : if r = 0 then CI τ N r hs T n else CI τ (hs (r - 1)) (r - 1) hs T n) : PF τ.2.2 := by
  split at h
  · exact h.1
  · exact h.1
