/-! what the changes of a shop do to its numbers -/
theorem qD1_at (N : Nat → Nat) (k j i : Nat) : qD1 N k j i = if i = 2 then N 2 - 1 else if 45 + 5 * k ≤ i ∧ i < 45 + 5 * k + j then N (i + 5) else N i := by
  induction j generalizing i with
  | zero =>
    show uN N 2 (N 2 - 1) i = _
    unfold uN
    split
    · rfl
    · rw [if_neg (by omega)]
  | succ j ih =>
    show uN (qD1 N k j) (45 + 5 * k + j) (qD1 N k j (45 + 5 * k + j + 5)) i = _
    unfold uN
    by_cases h : i = 45 + 5 * k + j
    · rw [if_pos h, ih, if_neg (by omega), if_neg (by omega), if_neg (by omega), if_pos (by omega), h]
    · rw [if_neg h, ih]
      by_cases h2 : i = 2
      · rw [if_pos h2, if_pos h2]
      · rw [if_neg h2, if_neg h2]
        by_cases h3 : 45 + 5 * k ≤ i ∧ i < 45 + 5 * k + j
        · rw [if_pos h3, if_pos (by omega)]
        · rw [if_neg h3, if_neg (by omega)]
theorem qD2_at (N : Nat → Nat) (n j i : Nat) : qD2 N n j i = if 45 + 5 * n ≤ i ∧ i < 45 + 5 * n + j then 0 else N i := by
  induction j with
  | zero => rw [if_neg (by omega)]; rfl
  | succ j ih =>
    show uN (qD2 N n j) (45 + 5 * n + j) 0 i = _
    unfold uN
    by_cases h : i = 45 + 5 * n + j
    · rw [if_pos h, if_pos (by omega)]
    · rw [if_neg h, ih]
      by_cases h3 : 45 + 5 * n ≤ i ∧ i < 45 + 5 * n + j
      · rw [if_pos h3, if_pos (by omega)]
      · rw [if_neg h3, if_neg (by omega)]
theorem qDrop_at (N : Nat → Nat) {k : Nat} (hk : k < N 2) (i : Nat) : qDrop N k i = if i = 2 then N 2 - 1 else if i < 45 + 5 * k then N i else if i < 45 + 5 * (N 2 - 1) then N (i + 5) else if i < 45 + 5 * N 2 then 0 else N i := by
  unfold qDrop
  rw [qD2_at, qD1_at]
  by_cases h2 : i = 2
  · rw [if_pos h2, if_neg (by omega), if_pos h2]
  · rw [if_neg h2, if_neg h2]
    by_cases h3 : i < 45 + 5 * k
    · rw [if_pos h3, if_neg (by omega), if_neg (by omega)]
    · rw [if_neg h3]
      by_cases h4 : i < 45 + 5 * (N 2 - 1)
      · rw [if_pos h4, if_neg (by omega), if_pos (by omega)]
      · rw [if_neg h4]
        by_cases h5 : i < 45 + 5 * N 2
        · rw [if_pos h5, if_pos (by omega)]
        · rw [if_neg h5, if_neg (by omega), if_neg (by omega)]
theorem qDrop_2 {N : Nat → Nat} {k : Nat} (hk : k < N 2) : qDrop N k 2 = N 2 - 1 := by rw [qDrop_at N hk, if_pos rfl]
theorem qDrop_lo {N : Nat → Nat} {k i : Nat} (hk : k < N 2) (hi : i < 45) (h2 : i ≠ 2) : qDrop N k i = N i := by rw [qDrop_at N hk, if_neg h2, if_pos (by omega)]
theorem qDrop_l {N : Nat → Nat} {k m j : Nat} (hk : k < N 2) (hm : m < N 2 - 1) (hj : j < 5) : qL (qDrop N k) m j = qL N (if m < k then m else m + 1) j := by
  show qDrop N k (45 + 5 * m + j) = _
  rw [qDrop_at N hk, if_neg (by omega)]
  by_cases h : m < k
  · rw [if_pos (by omega), if_pos h]
  · rw [if_neg (by omega), if_pos (by omega), if_neg h]
    show N _ = N _
    congr 1
    omega
theorem qDrop_u {N : Nat → Nat} {k j v : Nat} (hk : k < N 2) (hj : j < 5) : qDrop (uN N (45 + 5 * k + j) v) k = qDrop N k := by
  funext i
  have e2 : uN N (45 + 5 * k + j) v 2 = N 2 := uN_n (by omega)
  rw [qDrop_at _ (by rw [e2]; exact hk), qDrop_at N hk, e2]
  by_cases h2 : i = 2
  · rw [if_pos h2, if_pos h2]
  · rw [if_neg h2, if_neg h2]
    by_cases h3 : i < 45 + 5 * k
    · rw [if_pos h3, if_pos h3, uN_n (by omega)]
    · rw [if_neg h3, if_neg h3]
      by_cases h4 : i < 45 + 5 * (N 2 - 1)
      · rw [if_pos h4, if_pos h4, uN_n (by omega)]
      · rw [if_neg h4, if_neg h4]
        by_cases h5 : i < 45 + 5 * N 2
        · rw [if_pos h5, if_pos h5]
        · rw [if_neg h5, if_neg h5, uN_n (by omega)]
theorem qIr_congr {N N' : Nat → Nat} (h : qIr N) (e : ∀ i, (i < 3 ∨ i = 8 ∨ i = 9 ∨ 11 ≤ i) → N' i = N i) : qIr N' := by
  unfold qIr at h ⊢
  rw [e 0 (by omega), e 1 (by omega), e 2 (by omega), e 8 (by omega), e 9 (by omega)]
  obtain ⟨h0, h1, h2, h8, h9, hp, hc, ht, hi, hl⟩ := h
  refine ⟨h0, h1, h2, h8, h9, fun k hk => ?_, fun k hk => ?_, fun k hk => ?_, fun k hk => ?_, fun k hk => ?_⟩
  · rw [e (11 + k) (by omega)]; exact hp k hk
  · rw [e (17 + k) (by omega)]; exact hc k hk
  · rw [e (23 + k) (by omega)]; exact ht k hk
  · rw [e (34 + k) (by omega)]; exact hi k hk
  · show N' _ < 6 ∧ (1 ≤ N' _ ∧ N' _ ≤ 20000) ∧ N' _ ≤ 100 ∧ N' _ < 11
    rw [e (45 + 5 * k + 1) (by omega), e (45 + 5 * k + 2) (by omega), e (45 + 5 * k + 3) (by omega), e (45 + 5 * k + 4) (by omega)]
    exact hl k hk
/-- a change of the account j -/
theorem qIr_a {N : Nat → Nat} (h : qIr N) {j v : Nat} (hj : (3 ≤ j ∧ j ≤ 7) ∨ j = 10) : qIr (uN N j v) := qIr_congr h (fun i hi => uN_n (by omega))
/-- a change of the number j of lot k -/
theorem qIr_l {N : Nat → Nat} (h : qIr N) {k j v : Nat} (hj : j < 5) (hv : (j = 1 → v < 6) ∧ (j = 2 → 1 ≤ v ∧ v ≤ 20000) ∧ (j = 3 → v ≤ 100) ∧ (j = 4 → v < 11)) : qIr (uN N (45 + 5 * k + j) v) := by
  obtain ⟨h0, h1, h2, h8, h9, hp, hc, ht, hi, hl⟩ := h
  obtain ⟨v1, v2, v3, v4⟩ := hv
  unfold qIr
  rw [uN_n (k := 0) (by omega), uN_n (k := 1) (by omega), uN_n (k := 2) (by omega), uN_n (k := 8) (by omega), uN_n (k := 9) (by omega)]
  refine ⟨h0, h1, h2, h8, h9, fun k hk => ?_, fun k hk => ?_, fun k hk => ?_, fun k hk => ?_, fun m hm => ?_⟩
  · rw [uN_n (by omega)]; exact hp k hk
  · rw [uN_n (by omega)]; exact hc k hk
  · rw [uN_n (by omega)]; exact ht k hk
  · rw [uN_n (by omega)]; exact hi k hk
  · obtain ⟨l1, l2, l3, l4⟩ := hl m hm
    have key : ∀ z, z < 5 → qL (uN N (45 + 5 * k + j) v) m z = if m = k ∧ z = j then v else qL N m z := by
      intro z hz
      show uN N (45 + 5 * k + j) v (45 + 5 * m + z) = _
      unfold uN
      by_cases q : m = k ∧ z = j
      · rw [if_pos q, if_pos (by omega)]
      · rw [if_neg q, if_neg (by omega)]
    rw [key 1 (by omega), key 2 (by omega), key 3 (by omega), key 4 (by omega)]
    refine ⟨?_, ?_, ?_, ?_⟩
    · split
      · exact v1 (by omega)
      · exact l1
    · split
      · exact v2 (by omega)
      · exact l2
    · split
      · exact v3 (by omega)
      · exact l3
    · split
      · exact v4 (by omega)
      · exact l4
theorem qIr_drop {N : Nat → Nat} (h : qIr N) {k : Nat} (hk : k < N 2) : qIr (qDrop N k) := by
  obtain ⟨h0, h1, h2, h8, h9, hp, hc, ht, hi, hl⟩ := h
  unfold qIr
  rw [qDrop_2 hk, qDrop_lo (i := 0) hk (by omega) (by omega), qDrop_lo (i := 1) hk (by omega) (by omega), qDrop_lo (i := 8) hk (by omega) (by omega), qDrop_lo (i := 9) hk (by omega) (by omega)]
  refine ⟨h0, h1, by omega, h8, h9, fun k hk => ?_, fun k hk => ?_, fun k hk => ?_, fun k hk => ?_, fun m hm => ?_⟩
  · rw [qDrop_lo (by assumption) (by omega) (by omega)]; exact hp k (by assumption)
  · rw [qDrop_lo (by assumption) (by omega) (by omega)]; exact hc k (by assumption)
  · rw [qDrop_lo (by assumption) (by omega) (by omega)]; exact ht k (by assumption)
  · rw [qDrop_lo (by assumption) (by omega) (by omega)]; exact hi k (by assumption)
  · rw [qDrop_l hk hm (by omega), qDrop_l hk hm (by omega), qDrop_l hk hm (by omega), qDrop_l hk hm (by omega)]
    exact hl _ (by split <;> omega)
theorem qThrow_2 {N : Nat → Nat} {k : Nat} (hk : k < N 2) : qThrow N k 2 = N 2 - 1 := by
  unfold qThrow
  rw [qDrop_2 (by rw [uN_n (by omega)]; exact hk), uN_n (by omega)]
theorem qThrow_lo {N : Nat → Nat} {k i : Nat} (hk : k < N 2) (hi : i < 45) (h2 : i ≠ 2) (h5 : i ≠ 5) : qThrow N k i = N i := by
  unfold qThrow
  rw [qDrop_lo (by rw [uN_n (by omega)]; exact hk) hi h2, uN_n h5]
theorem qThrow_5 {N : Nat → Nat} {k : Nat} (hk : k < N 2) : qThrow N k 5 = N 5 + qL N k 2 := by
  unfold qThrow
  rw [qDrop_lo (by rw [uN_n (by omega)]; exact hk) (by omega) (by omega), uN_s]
theorem qThrow_l {N : Nat → Nat} {k m j : Nat} (hk : k < N 2) (hm : m < N 2 - 1) (hj : j < 5) : qL (qThrow N k) m j = qL N (if m < k then m else m + 1) j := by
  unfold qThrow
  rw [qDrop_l (by rw [uN_n (by omega)]; exact hk) (by rw [uN_n (by omega)]; exact hm) hj]
  exact uN_n (by omega)
theorem qIr_throw {N : Nat → Nat} (h : qIr N) {k : Nat} (hk : k < N 2) : qIr (qThrow N k) := qIr_drop (qIr_a h (by omega)) (by rw [uN_n (by omega)]; exact hk)
/-! the hour -/
theorem qP1_n {N : Nat → Nat} {j i : Nat} (h : ∀ m, m < j → i ≠ 45 + 5 * m + 3) : qP1 N j i = N i := by
  induction j with
  | zero => rfl
  | succ j ih => exact (uN_n (h j (by omega))).trans (ih (fun m hm => h m (by omega)))
theorem qP1_s {N : Nat → Nat} (hI : qIr N) {j k : Nat} (hk : k < j) (hj : j ≤ N 2) : qP1 N j (45 + 5 * k + 3) = qL N k 3 - qLoss (qL N k 4) (N (34 + qL N k 4)) := by
  induction j with
  | zero => omega
  | succ j ih =>
    show uN _ _ _ _ = _
    by_cases h : k = j
    · subst h
      rw [uN_s]
      have h4 := qi_l4 hI (show k < N 2 from by omega)
      rw [show qL (qP1 N k) k 3 = qL N k 3 from qP1_n (by omega), show qL (qP1 N k) k 4 = qL N k 4 from qP1_n (by omega), qP1_n (i := 34 + qL N k 4) (by omega)]
    · rw [uN_n (by omega)]
      exact ih (by omega) (by omega)
theorem qP2_n {N : Nat → Nat} {j i : Nat} (h : i < 34 ∨ 34 + j ≤ i) : qP2 N j i = N i := by
  induction j with
  | zero => rfl
  | succ j ih => exact (uN_n (by omega)).trans (ih (by omega))
theorem qMelt_e {N M : Nat → Nat} (h : M 8 = N 8) (pl : Nat) : qMelt M pl = qMelt N pl := by unfold qMelt; rw [h]
theorem qP2_s {N : Nat → Nat} {j k : Nat} (hk : k < j) : qP2 N j (34 + k) = N (34 + k) - qMelt N k := by
  induction j with
  | zero => omega
  | succ j ih =>
    show uN _ _ _ _ = _
    by_cases h : k = j
    · subst h
      rw [uN_s, qP2_n (by omega), qMelt_e (qP2_n (by omega))]
    · rw [uN_n (by omega)]
      exact ih (by omega)
theorem qPass_1 (N : Nat → Nat) : qPass N 1 = N 1 + 1 := uN_s
theorem qPass_lo {N : Nat → Nat} {i : Nat} (hi : i < 34) (h1 : i ≠ 1) : qPass N i = N i := by
  unfold qPass
  rw [uN_n h1, qP2_n (by omega), qP1_n (by omega)]
theorem qPass_i {N : Nat → Nat} {j : Nat} (hj : j < 11) : qPass N (34 + j) = N (34 + j) - qMelt N j := by
  unfold qPass
  rw [uN_n (by omega), qP2_s hj, qP1_n (by omega), qMelt_e (qP1_n (by omega))]
theorem qPass_f {N : Nat → Nat} (hI : qIr N) {k : Nat} (hk : k < N 2) : qL (qPass N) k 3 = qL N k 3 - qLoss (qL N k 4) (N (34 + qL N k 4)) := by
  show qPass N (45 + 5 * k + 3) = _
  unfold qPass
  rw [uN_n (by omega), qP2_n (by omega), qP1_s hI hk (Nat.le_refl _)]
theorem qPass_l {N : Nat → Nat} {k j : Nat} (hj : j < 5) (h3 : j ≠ 3) : qL (qPass N) k j = qL N k j := by
  show qPass N (45 + 5 * k + j) = N (45 + 5 * k + j)
  unfold qPass
  rw [uN_n (by omega), qP2_n (by omega), qP1_n (by omega)]
theorem qIr_pass {N : Nat → Nat} (h : qIr N) (h1 : N 1 < 10) : qIr (qPass N) := by
  have hI := h
  obtain ⟨h0, -, h2, h8, h9, hp, hc, ht, hi, hl⟩ := h
  unfold qIr
  rw [qPass_1, qPass_lo (i := 0) (by omega) (by omega), qPass_lo (i := 2) (by omega) (by omega), qPass_lo (i := 8) (by omega) (by omega), qPass_lo (i := 9) (by omega) (by omega)]
  refine ⟨h0, by omega, h2, h8, h9, fun k hk => ?_, fun k hk => ?_, fun k hk => ?_, fun k hk => ?_, fun m hm => ?_⟩
  · rw [qPass_lo (by omega) (by omega)]; exact hp k hk
  · rw [qPass_lo (by omega) (by omega)]; exact hc k hk
  · rw [qPass_lo (by omega) (by omega)]; exact ht k hk
  · rw [qPass_i hk]; have := hi k hk; omega
  · rw [qPass_l (by omega) (by omega), qPass_l (by omega) (by omega), qPass_f hI hm, qPass_l (by omega) (by omega)]
    obtain ⟨l1, l2, l3, l4⟩ := hl m hm
    exact ⟨l1, l2, by omega, l4⟩
/-! the closing -/
theorem qC1_k {N : Nat → Nat} {i : Nat} (hI : qIr N) (hi : i ≤ N 2) : qIr (qC1 i N) ∧ N 5 ≤ qC1 i N 5 ∧ qC1 i N 0 = N 0 := by
  induction i generalizing N with
  | zero => exact ⟨hI, Nat.le_refl _, rfl⟩
  | succ i ih =>
    unfold qC1
    split
    · exact ih hI (by omega)
    · obtain ⟨a, c, d⟩ := ih (qIr_throw hI hi) (by rw [qThrow_2 hi]; omega)
      exact ⟨a, by have := qThrow_5 hi; omega, d.trans (qThrow_lo hi (by omega) (by omega) (by omega))⟩
theorem qC2s_k {M : Nat → Nat} (hI : qIr M) (pl : Nat) : qIr (qC2s M pl) ∧ M 5 ≤ qC2s M pl 5 ∧ qC2s M pl 0 = M 0 := by
  unfold qC2s
  cases hf : qFst M pl (M 2) none with
  | none => exact ⟨hI, Nat.le_refl _, rfl⟩
  | some k =>
    have hk : k < M 2 := qFst_lt hf (Nat.le_refl _) (fun q hq => by cases hq)
    cases hc : qCold M 6 with
    | none => exact ⟨qIr_throw hI hk, by have := qThrow_5 hk; dsimp only; omega, qThrow_lo hk (by omega) (by omega) (by omega)⟩
    | some bx => exact ⟨qIr_l hI (by omega) ⟨by omega, by omega, by omega, fun _ => by have := qCold_lt hc; omega⟩, by dsimp only; rw [uN_n (by omega)]; exact Nat.le_refl _, uN_n (by omega)⟩
theorem qIr_ice {N : Nat → Nat} (h : qIr N) {j v : Nat} (hj : j < 11) (hv : v ≤ 5000) : qIr (uN N (34 + j) v) := by
  obtain ⟨h0, h1, h2, h8, h9, hp, hc, ht, hi, hl⟩ := h
  unfold qIr
  rw [uN_n (k := 0) (by omega), uN_n (k := 1) (by omega), uN_n (k := 2) (by omega), uN_n (k := 8) (by omega), uN_n (k := 9) (by omega)]
  refine ⟨h0, h1, h2, h8, h9, fun k hk => ?_, fun k hk => ?_, fun k hk => ?_, fun k hk => ?_, fun m hm => ?_⟩
  · rw [uN_n (by omega)]; exact hp k hk
  · rw [uN_n (by omega)]; exact hc k hk
  · rw [uN_n (by omega)]; exact ht k hk
  · unfold uN; split; exact hv; exact hi k hk
  · show uN _ _ _ _ < 6 ∧ (1 ≤ uN _ _ _ _ ∧ uN _ _ _ _ ≤ 20000) ∧ uN _ _ _ _ ≤ 100 ∧ uN _ _ _ _ < 11
    rw [uN_n (by omega), uN_n (by omega), uN_n (by omega), uN_n (by omega)]
    exact hl m hm
theorem qC2_k {N : Nat → Nat} (hI : qIr N) {j : Nat} (hj : j ≤ 5) : qIr (qC2 N j) ∧ N 5 ≤ qC2 N j 5 ∧ qC2 N j 0 = N 0 := by
  induction j with
  | zero => exact ⟨hI, Nat.le_refl _, rfl⟩
  | succ j ih =>
    obtain ⟨a, c, d⟩ := ih (by omega)
    obtain ⟨a2, c2, d2⟩ := qC2s_k a (6 + j)
    refine ⟨qIr_ice a2 (by omega) (by omega), ?_, ?_⟩
    · show _ ≤ uN _ _ _ 5
      rw [uN_n (by omega)]
      omega
    · show uN _ _ _ 0 = _
      rw [uN_n (by omega), d2, d]
theorem qC3_k {N : Nat → Nat} (hI : qIr N) : qIr (qC3 N) ∧ N 5 ≤ qC3 N 5 ∧ qC3 N 0 = N 0 := by
  obtain ⟨a, c, d⟩ := qC1_k hI (Nat.le_refl _)
  obtain ⟨a2, c2, d2⟩ := qC2_k a (Nat.le_refl 5)
  exact ⟨a2, Nat.le_trans c c2, d2.trans d⟩
theorem qClose_5 {N : Nat → Nat} (hI : qIr N) : N 5 ≤ qClose N 5 := by
  unfold qClose
  rw [uN_n (by omega), uN_n (by omega)]
  exact (qC3_k hI).2.1
