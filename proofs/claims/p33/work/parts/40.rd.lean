/-! THE CLASS: its readers' answers -/
theorem qIn_out {hi : Nat} (hh : hi < 2 ^ 31) {x : Int32} (h : qIn 0 hi x = false) : x.toInt < 0 ∨ (hi : Int) < x.toInt := by
  unfold qIn at h
  rw [Bool.and_eq_false_iff] at h
  rcases h with h | h
  · have q := of_decide_eq_false h
    rw [Int32.le_iff_toInt_le, nI_toInt (by omega)] at q
    omega
  · have q := of_decide_eq_false h
    rw [Int32.le_iff_toInt_le, nI_toInt hh] at q
    omega
theorem aCount_in {N : Nat → Nat} {u : Nat} (h : qIn 0 10 (nI u) = true) (hu : u < 2 ^ 31) : aCount N (nI u) = lN (qCount N u) := by
  unfold aCount
  rw [if_pos h, nI_clamp hu]
theorem aCount_out {N : Nat → Nat} {x : Int32} (h : qIn 0 10 x = false) : aCount N x = -2 := by
  unfold aCount
  rw [qI_f h]
theorem aLot_in {N : Nat → Nat} {x : Int32} {j u : Nat} (hf : qF N x (N 2) = some j) (h : qIn 0 6 (nI u) = true) (hu : u < 2 ^ 31) : aLot N x (nI u) = qOfLot N j u := by
  unfold aLot
  rw [aOf_s hf, if_pos h, nI_clamp hu]
theorem aLot_out {N : Nat → Nat} {x y : Int32} {j : Nat} (hf : qF N x (N 2) = some j) (h : qIn 0 6 y = false) : aLot N x y = -2 := by
  unfold aLot
  rw [aOf_s hf, qI_f h]
theorem qOf_3 (N : Nat → Nat) (k : Nat) : qOfLot N k 3 = qBx (qL N k 4) := by
  rw [qOfLot_3]
  unfold qBx
  by_cases h : 6 ≤ qL N k 4
  · rw [if_pos (show qTray (qL N k 4) = true from decide_eq_true h), if_pos h]
  · rw [if_neg (fun z : qTray (qL N k 4) = true => h (of_decide_eq_true z)), if_neg h]
theorem qOf_4 (N : Nat → Nat) (k : Nat) : qOfLot N k 4 = qTy (qL N k 4) := by
  rw [qOfLot_4]
  unfold qTy
  by_cases h : 6 ≤ qL N k 4
  · rw [if_pos (show qTray (qL N k 4) = true from decide_eq_true h), if_pos h]
  · rw [if_neg (fun z : qTray (qL N k 4) = true => h (of_decide_eq_true z)), if_neg h]
theorem aBox_in {N : Nat → Nat} {v u : Nat} (h1 : qIn 0 5 (nI v) = true) (h : qIn 0 3 (nI u) = true) (hv : v < 2 ^ 31) (hu : u < 2 ^ 31) : aBox N (nI v) (nI u) = qOfBox N v u := by
  unfold aBox
  rw [if_pos h1, if_pos h, nI_clamp hv, nI_clamp hu]
theorem aTray_in {N : Nat → Nat} {v u : Nat} (h1 : qIn 0 4 (nI v) = true) (h : qIn 0 1 (nI u) = true) (hv : v < 2 ^ 31) (hu : u < 2 ^ 31) : aTray N (nI v) (nI u) = qOfTray N v u := by
  unfold aTray
  rw [if_pos h1, if_pos h, nI_clamp hv, nI_clamp hu]
theorem aKind_in {N : Nat → Nat} {v u : Nat} (h1 : qIn 0 5 (nI v) = true) (h : qIn 0 3 (nI u) = true) (hv : v < 2 ^ 31) (hu : u < 2 ^ 31) : aKind N (nI v) (nI u) = qOfKind N v u := by
  unfold aKind
  rw [if_pos h1, if_pos h, nI_clamp hv, nI_clamp hu]
theorem aBox_o {N : Nat → Nat} {x y : Int32} (h1 : qIn 0 5 x = true) (h : qIn 0 3 y = false) : aBox N x y = -2 := by
  unfold aBox
  rw [if_pos h1, qI_f h]
theorem aTray_o {N : Nat → Nat} {x y : Int32} (h1 : qIn 0 4 x = true) (h : qIn 0 1 y = false) : aTray N x y = -2 := by
  unfold aTray
  rw [if_pos h1, qI_f h]
theorem aKind_o {N : Nat → Nat} {x y : Int32} (h1 : qIn 0 5 x = true) (h : qIn 0 3 y = false) : aKind N x y = -2 := by
  unfold aKind
  rw [if_pos h1, qI_f h]
theorem aBox_n {N : Nat → Nat} {x y : Int32} (h1 : qIn 0 5 x = false) : aBox N x y = -1 := by unfold aBox; rw [qI_f h1]
theorem aTray_n {N : Nat → Nat} {x y : Int32} (h1 : qIn 0 4 x = false) : aTray N x y = -1 := by unfold aTray; rw [qI_f h1]
theorem aKind_n {N : Nat → Nat} {x y : Int32} (h1 : qIn 0 5 x = false) : aKind N x y = -1 := by unfold aKind; rw [qI_f h1]
theorem qFI_mono {N : Nat → Nat} {k a c : Nat} (h : a ≤ c) : (qFI N k c).1 ≤ (qFI N k a).1 := by
  induction c with
  | zero => rw [show a = 0 from by omega]; exact Nat.le_refl _
  | succ c ih =>
    by_cases q : a = c + 1
    · rw [q]; exact Nat.le_refl _
    · have := ih (by omega)
      show (qFI N k c).1 - _ ≤ _
      omega
theorem qLf_none {N : Nat → Nat} {k m : Nat} (h : ∀ z, z < m → ¬ N 9 ≤ (qFI N k z).1) : qLf N k m = none := by
  induction m with
  | zero => rfl
  | succ m ih => exact (if_neg (h m (by omega))).trans (ih (fun z hz => h z (by omega)))
theorem qLf_hit {N : Nat → Nat} {k m i : Nat} (hi : i < m) (h0 : N 9 ≤ (qFI N k i).1) (h : ∀ z, i < z → z < m → ¬ N 9 ≤ (qFI N k z).1) : qLf N k m = some i := by
  induction m with
  | zero => omega
  | succ m ih =>
    by_cases q : i = m
    · subst q; exact if_pos h0
    · exact (if_neg (h m (by omega) (by omega))).trans (ih (by omega) (fun z z1 z2 => h z z1 (by omega)))
def qBh (N : Nat → Nat) : Option (Nat × Nat) → Int32
  | none => nI (N 1)
  | some q => nI q.1
def qBm : Option (Nat × Nat) → Int32
  | none => -1
  | some q => nI q.2
theorem qBn_le {w h : Nat} {o : Option (Nat × Nat)} (hw : w < 2 ^ 31) (hq : ∀ q, o = some q → q.2 < 2 ^ 31) (c : nI w ≤ qBm o) : qBt w h o = o := by
  cases o with
  | none => exact absurd (Int32.lt_of_le_of_lt c (show (-1 : Int32) < 0 from by decide)) (nI_pos hw)
  | some q => exact if_neg (by have := (nI_leI hw (hq q rfl)).mp c; omega)
theorem qBn_gt {w h : Nat} {o : Option (Nat × Nat)} (hw : w < 2 ^ 31) (hq : ∀ q, o = some q → q.2 < 2 ^ 31) (c : ¬ nI w ≤ qBm o) : qBt w h o = some (h, w) := by
  cases o with
  | none => rfl
  | some q => exact if_pos (by rcases Nat.lt_or_ge q.2 w with z | z; exact z; exact absurd ((nI_leI hw (hq q rfl)).mpr z) c)
theorem qBs_some {N : Nat → Nat} {k j : Nat} : ∃ q, qBs N k (j + 1) = some q := by
  show ∃ q, qBt _ _ (qBs N k j) = some q
  cases qBs N k j with
  | none => exact ⟨_, rfl⟩
  | some q => unfold qBt; dsimp only; split <;> exact ⟨_, rfl⟩
