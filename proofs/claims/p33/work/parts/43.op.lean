/-! THE CLASS: its calls that change the shop: small facts -/
theorem qRoom_no {N : Nat → Nat} {bx : Nat} (h : ¬ qRoom N bx = 0) : ¬ 0 ≤ qRoom N bx := by
  unfold qRoom at h ⊢
  split
  · decide
  · split
    · decide
    · rename_i h1 h2
      rw [if_neg h1, if_neg h2] at h
      exact absurd rfl h
theorem qFst_f {N : Nat → Nat} {pl n k : Nat} {f : Option Nat} (h : qFst N pl n f = some k) (hf : ∀ z, f = some z → qL N z 4 = pl) : qL N k 4 = pl := by
  induction n generalizing f with
  | zero => exact hf k h
  | succ n ih =>
    refine ih h (fun z hz => ?_)
    split at hz
    · cases hz; assumption
    · exact hf z hz
theorem qFst_nn {N : Nat → Nat} {pl n : Nat} {f : Option Nat} (h : qFst N pl n f = none) : f = none ∧ ∀ k, k < n → qL N k 4 ≠ pl := by
  induction n generalizing f with
  | zero => exact ⟨h, fun k hk => by omega⟩
  | succ n ih =>
    obtain ⟨a, c⟩ := ih h
    split at a
    · cases a
    · refine ⟨a, fun k hk => ?_⟩
      by_cases q : k = n
      · rw [q]; assumption
      · exact c k (by omega)
theorem qCnt_0 {N : Nat → Nat} {pl n : Nat} (h : ∀ k, k < n → qL N k 4 ≠ pl) : qCnt N pl n = 0 := by
  induction n with
  | zero => rfl
  | succ n ih =>
    show qCnt N pl n + (if qL N n 4 = pl then 1 else 0) = 0
    rw [ih (fun k hk => h k (by omega)), if_neg (h n (by omega))]
theorem qCnt_p {N : Nat → Nat} {pl n k : Nat} (hk : k < n) (h : qL N k 4 = pl) : qCnt N pl n ≠ 0 := by
  induction n with
  | zero => omega
  | succ n ih =>
    show qCnt N pl n + (if qL N n 4 = pl then 1 else 0) ≠ 0
    by_cases q : k = n
    · rw [← q, if_pos h]; omega
    · have := ih (by omega); omega
theorem qIce_min (N : Nat → Nat) (pl g : Nat) : (if N (34 + pl) + g < 5000 then N (34 + pl) + g else 5000) = qIce N pl g := by
  unfold qIce
  split <;> split <;> omega
