theorem aWhy_in {N : Nat → Nat} {kd g fr bx : Nat} (h1 : kd ≤ 5) (h2 : 1 ≤ g ∧ g ≤ 20000) (h3 : fr ≤ 100) (h4 : bx ≤ 5) : aWhy N (nI kd) (nI g) (nI fr) (nI bx) = qRoom N bx := by
  unfold aWhy
  rw [qIn_nI (by omega) (by omega) (by omega), qIn_nI (by omega) (by omega) (by omega), qIn_nI (by omega) (by omega) (by omega), qIn_nI (by omega) (by omega) (by omega), nI_clamp (by omega)]
  rw [decide_eq_true (show 0 ≤ kd from by omega), decide_eq_true h1, decide_eq_true (show 0 ≤ bx from by omega), decide_eq_true h4, decide_eq_true h2.1, decide_eq_true h2.2, decide_eq_true (show 0 ≤ fr from by omega), decide_eq_true h3]
  rfl
theorem qRoom_0 {N : Nat → Nat} {bx : Nat} (h : qRoom N bx = 0) : qCnt N bx (N 2) ≠ 3 ∧ N 2 ≠ 16 := qRoom_ge (by rw [h]; decide)
theorem qIr_add {N : Nat → Nat} (h : qIr N) {kd g fr bx : Nat} (h2 : N 2 < 16) (h1 : kd < 6) (hg : 1 ≤ g ∧ g ≤ 20000) (hf : fr ≤ 100) (hb : bx < 6) : qIr (qAdd N kd g fr bx) := by
  obtain ⟨i0, i1, i2, i8, i9, ip, ic, it, ii, il⟩ := h
  have at_ : ∀ i, qAdd N kd g fr bx i = if i = 45 + 5 * N 2 + 4 then bx else if i = 45 + 5 * N 2 + 3 then fr else if i = 45 + 5 * N 2 + 2 then g else if i = 45 + 5 * N 2 + 1 then kd else if i = 45 + 5 * N 2 + 0 then N 10 + 1 else if i = 10 then N 10 + 1 else if i = 2 then N 2 + 1 else N i := fun i => rfl
  have e2 : qAdd N kd g fr bx 2 = N 2 + 1 := by rw [at_, if_neg (by omega), if_neg (by omega), if_neg (by omega), if_neg (by omega), if_neg (by omega), if_neg (by omega), if_pos rfl]
  have lo : ∀ i, i < 45 → i ≠ 2 → i ≠ 10 → qAdd N kd g fr bx i = N i := fun i q1 q2 q3 => by rw [at_, if_neg (by omega), if_neg (by omega), if_neg (by omega), if_neg (by omega), if_neg (by omega), if_neg (by omega), if_neg (by omega)]
  unfold qIr
  rw [e2, lo 0 (by omega) (by omega) (by omega), lo 1 (by omega) (by omega) (by omega), lo 8 (by omega) (by omega) (by omega), lo 9 (by omega) (by omega) (by omega)]
  refine ⟨i0, i1, by omega, i8, i9, fun k hk => ?_, fun k hk => ?_, fun k hk => ?_, fun k hk => ?_, fun m hm => ?_⟩
  · rw [lo _ (by omega) (by omega) (by omega)]; exact ip k hk
  · rw [lo _ (by omega) (by omega) (by omega)]; exact ic k hk
  · rw [lo _ (by omega) (by omega) (by omega)]; exact it k hk
  · rw [lo _ (by omega) (by omega) (by omega)]; exact ii k hk
  · by_cases q : m = N 2
    · subst q
      show qAdd N kd g fr bx (45 + 5 * N 2 + 1) < 6 ∧ (1 ≤ qAdd N kd g fr bx (45 + 5 * N 2 + 2) ∧ qAdd N kd g fr bx (45 + 5 * N 2 + 2) ≤ 20000) ∧ qAdd N kd g fr bx (45 + 5 * N 2 + 3) ≤ 100 ∧ qAdd N kd g fr bx (45 + 5 * N 2 + 4) < 11
      rw [show qAdd N kd g fr bx (45 + 5 * N 2 + 1) = kd from by rw [at_, if_neg (by omega), if_neg (by omega), if_neg (by omega), if_pos rfl], show qAdd N kd g fr bx (45 + 5 * N 2 + 2) = g from by rw [at_, if_neg (by omega), if_neg (by omega), if_pos rfl], show qAdd N kd g fr bx (45 + 5 * N 2 + 3) = fr from by rw [at_, if_neg (by omega), if_pos rfl], show qAdd N kd g fr bx (45 + 5 * N 2 + 4) = bx from by rw [at_, if_pos rfl]]
      exact ⟨h1, hg, hf, by omega⟩
    · have old : ∀ j, j < 5 → qL (qAdd N kd g fr bx) m j = qL N m j := fun j hj => by
        show qAdd N kd g fr bx (45 + 5 * m + j) = _
        rw [at_, if_neg (by omega), if_neg (by omega), if_neg (by omega), if_neg (by omega), if_neg (by omega), if_neg (by omega), if_neg (by omega)]
      rw [old 1 (by omega), old 2 (by omega), old 3 (by omega), old 4 (by omega)]
      exact il m (by omega)
theorem qIr_del {N : Nat → Nat} (h : qIr N) {kd g fr bx : Nat} (h2 : N 2 < 16) (h1 : kd < 6) (hg : 1 ≤ g ∧ g ≤ 20000) (hf : fr ≤ 100) (hb : bx < 6) : qIr (qDel N kd g fr bx) := by
  unfold qDel
  refine qIr_add (qIr_a (qIr_a h (by omega)) (by omega)) ?_ h1 hg hf hb
  rw [uN_n (by omega), uN_n (by omega)]
  exact h2
theorem qPs_k {N : Nat → Nat} (hI : qIr N) {j : Nat} (hj : j ≤ 10 - N 1) : qIr (qPs N j) ∧ qPs N j 1 = N 1 + j ∧ qPs N j 5 = N 5 := by
  induction j with
  | zero => exact ⟨hI, rfl, rfl⟩
  | succ j ih =>
    obtain ⟨a, c, d⟩ := ih (by omega)
    exact ⟨qIr_pass a (by omega), by show qPass _ 1 = _; rw [qPass_1, c]; omega, by show qPass _ 5 = _; rw [qPass_lo (by omega) (by omega), d]⟩
def aIfC (N : Nat → Nat) (v : Int32) : Int32 := if qIn 0 10 v = true then nI (qIfC N (tN v)) else -2
theorem qPrice_a {M : Nat → Nat} {v k : Nat} : qPrice (uN M 4 v) k = qPrice M k := by
  unfold qPrice
  rw [show qL (uN M 4 v) k 1 = qL M k 1 from uN_n (by omega), show qL (uN M 4 v) k 3 = qL M k 3 from uN_n (by omega), show uN M 4 v 1 = M 1 from uN_n (by omega)]
  unfold qPr
  rw [uN_n (by omega), uN_n (by omega)]
