/-! WHAT IS TRUE OF EVERY STATE THAT A CALL LEAVES -/
def Bd (B : Nat) (N : Nat → Nat) : Prop := ∀ i, i < 11 → N i ≤ B
def Gd (B : Nat) (N : Nat → Nat) : Prop := qIr N ∧ qU N ∧ Bd B N
theorem Bd.up {A B : Nat} {N : Nat → Nat} (h : Bd A N) (hB : A ≤ B) : Bd B N := fun i hi => Nat.le_trans (h i hi) hB
theorem Gd.up {A B : Nat} {N : Nat → Nat} (h : Gd A N) (hB : A ≤ B) : Gd B N := ⟨h.1, h.2.1, h.2.2.up hB⟩
theorem Bd.u {B : Nat} {N : Nat → Nat} (h : Bd B N) {j v : Nat} (hv : j < 11 → v ≤ B) : Bd B (uN N j v) := by
  intro i hi
  unfold uN
  split
  · exact hv (by omega)
  · exact h i hi
theorem qIr_any {N : Nat → Nat} (h : qIr N) {j v : Nat} (hj : j < 45) (h0 : j = 0 → v ≤ 999) (h1 : j = 1 → v ≤ 10) (h2 : j ≠ 2) (h8 : j = 8 → v ≤ 500) (h9 : j = 9 → v ≤ 100) (hp : 11 ≤ j → j < 23 → 1 ≤ v ∧ v ≤ 9999) (hc : 23 ≤ j → j < 34 → v ≤ 90) (hi : 34 ≤ j → v ≤ 5000) : qIr (uN N j v) := by
  obtain ⟨i0, i1, i2, i8, i9, ip, ic, it, ii, il⟩ := h
  have key : ∀ i, uN N j v i = if i = j then v else N i := fun i => rfl
  refine ⟨?_, ?_, ?_, ?_, ?_, fun k hk => ?_, fun k hk => ?_, fun k hk => ?_, fun k hk => ?_, fun m hm => ?_⟩
  · rw [key]; split; exact h0 (by omega); exact i0
  · rw [key]; split; exact h1 (by omega); exact i1
  · rw [key, if_neg (by omega)]; exact i2
  · rw [key]; split; exact h8 (by omega); exact i8
  · rw [key]; split; exact h9 (by omega); exact i9
  · rw [key]; split; exact hp (by omega) (by omega); exact ip k hk
  · rw [key]; split; exact hp (by omega) (by omega); exact ic k hk
  · rw [key]; split; exact hc (by omega) (by omega); exact it k hk
  · rw [key]; split; exact hi (by omega); exact ii k hk
  · rw [key, if_neg (by omega)] at hm
    show uN N j v _ < 6 ∧ (1 ≤ uN N j v _ ∧ uN N j v _ ≤ 20000) ∧ uN N j v _ ≤ 100 ∧ uN N j v _ < 11
    rw [uN_n (by omega), uN_n (by omega), uN_n (by omega), uN_n (by omega)]
    exact il m hm
theorem Bd.drop {B : Nat} {N : Nat → Nat} (h : Bd B N) {k : Nat} (hk : k < N 2) : Bd B (qDrop N k) := by
  intro i hi
  by_cases q : i = 2
  · rw [q, qDrop_2 hk]; have := h 2 (by omega); omega
  · rw [qDrop_lo hk (by omega) q]; exact h i hi
theorem Bd.throw {B : Nat} {N : Nat → Nat} (h : Bd B N) (hI : qIr N) {k : Nat} (hk : k < N 2) : Bd (B + 20000) (qThrow N k) := by
  refine Bd.drop (Bd.u (h.up (by omega)) (fun _ => ?_)) (by rw [uN_n (by omega)]; exact hk)
  have := h 5 (by omega)
  have := qi_l2 hI hk
  omega
theorem Bd.C1 {B i : Nat} {N : Nat → Nat} (h : Bd B N) (hI : qIr N) (hi : i ≤ N 2) : Bd (B + 20000 * i) (qC1 i N) := by
  induction i generalizing N B with
  | zero => exact h
  | succ i ih =>
    unfold qC1
    split
    · exact (ih h hI (by omega)).up (by omega)
    · exact (ih (h.throw hI hi) (qIr_throw hI hi) (by rw [qThrow_2 hi]; omega)).up (by omega)
theorem Bd.C2s {B : Nat} {M : Nat → Nat} (h : Bd B M) (hI : qIr M) (pl : Nat) : Bd (B + 20000) (qC2s M pl) := by
  unfold qC2s
  cases hf : qFst M pl (M 2) none with
  | none => exact h.up (by omega)
  | some k =>
    have hk : k < M 2 := qFst_lt hf (Nat.le_refl _) (fun q hq => by cases hq)
    cases hc : qCold M 6 with
    | none => exact h.throw hI hk
    | some bx => exact (h.u (fun hj => by omega)).up (by omega)
theorem Bd.C2 {B : Nat} {N : Nat → Nat} (h : Bd B N) (hI : qIr N) {j : Nat} (hj : j ≤ 5) : Bd (B + 20000 * j) (qC2 N j) := by
  induction j with
  | zero => exact h
  | succ j ih => exact ((ih (by omega)).C2s (qC2_k hI (by omega)).1 (6 + j)).u (fun h => by omega) |>.up (by omega)
theorem Gd.close {B : Nat} {N : Nat → Nat} (h : Gd B N) (hB : 1000 ≤ B) (h0 : N 0 ≠ 999) : Gd (B + 4000000) (qClose N) := by
  obtain ⟨hI, hU, hb⟩ := h
  obtain ⟨c1, -, -⟩ := qC1_k hI (Nat.le_refl _)
  obtain ⟨c3, -, c30⟩ := qC3_k hI
  have h00 := qi_0 hI
  have b1 := hb.C1 hI (Nat.le_refl _)
  have b2 := b1.C2 c1 (Nat.le_refl 5)
  have h2 := qi_2 hI
  refine ⟨qIr_any (qIr_any c3 (by omega) (fun _ => by rw [c30]; omega) (by omega) (by omega) (by omega) (by omega) (by omega) (by omega) (by omega)) (by omega) (by omega) (by omega) (by omega) (by omega) (by omega) (by omega) (by omega) (by omega), (qU_close hU).1, ?_⟩
  have b3 : Bd (B + 4000000) (qC3 N) := Bd.up b2 (by omega)
  refine (b3.u (fun _ => ?_)).u (fun _ => by omega)
  rw [c30]; omega
theorem qPass_at {N : Nat → Nat} {i : Nat} (hi : i < 11) : qPass N i = if i = 1 then N 1 + 1 else N i := by
  split
  · rename_i q; rw [q, qPass_1]
  · rw [qPass_lo (by omega) (by assumption)]
theorem Gd.pass {B : Nat} {N : Nat → Nat} (h : Gd B N) (hB : 1000 ≤ B) (h1 : N 1 ≠ 10) : Gd (B + 4000000) (qPass N) := by
  obtain ⟨hI, hU, hb⟩ := h
  have := qi_1 hI
  refine ⟨qIr_pass hI (by omega), (qU_pass hU).1, fun i hi => ?_⟩
  rw [qPass_at hi]
  have := hb i hi
  split <;> omega
theorem Bd.add {B : Nat} {N : Nat → Nat} (h : Bd B N) {kd g fr bx : Nat} : Bd (B + 1) (qAdd N kd g fr bx) := by
  intro i hi
  have := h i hi
  by_cases q : i = 2
  · rw [q, qAdd_2]; have := h 2 (by omega); omega
  · by_cases q1 : i = 10
    · rw [q1, qAdd_10]; have := h 10 (by omega); omega
    · rw [qAdd_o q q1 (by omega)]; omega
theorem Gd.del {B : Nat} {N : Nat → Nat} (h : Gd B N) {kd g fr bx : Nat} (h2 : N 2 < 16) (h1 : kd < 6) (hg : 1 ≤ g ∧ g ≤ 20000) (hf : fr ≤ 100) (hb : bx < 6) (hc : qCnt N bx (N 2) ≠ 3) : Gd (B + 200000) (qDel N kd g fr bx) := by
  obtain ⟨hI, hU, hb0⟩ := h
  refine ⟨qIr_del hI h2 h1 hg hf hb, qU_del hU hb hc, ?_⟩
  have b3 := hb0 3 (by omega)
  have b6 := hb0 6 (by omega)
  have hw := qW_le hg.2 (qi_c hI h1)
  have : Bd (B + 199999) (uN (uN N 3 (N 3 + g)) 6 (N 6 + qW g (N (17 + kd)))) := ((hb0.up (by omega)).u (fun _ => by omega)).u (fun _ => by omega)
  exact this.add
theorem Gd.sell {B : Nat} {N : Nat → Nat} (h : Gd B N) {k m : Nat} (hk : k < N 2) (hm : m ≤ qL N k 2) : Gd (B + 200000) (qSell N k m) := by
  obtain ⟨hI, hU, hb⟩ := h
  refine ⟨(qSell_k hI hk hm).1, (qSell_U hU hk).1, ?_⟩
  have b4 := hb 4 (by omega)
  have b7 := hb 7 (by omega)
  have hl := qi_l2 hI hk
  have hw := qW_le (show m ≤ 20000 from by omega) (qPrice_le hI hk)
  have e2 : qSell1 N k m 2 = N 2 := by unfold qSell1; rw [uN_n (by omega), uN_n (by omega), uN_n (by omega)]
  have b1 : Bd (B + 200000) (qSell1 N k m) := (((hb.up (by omega)).u (fun _ => by omega)).u (fun _ => by omega)).u (fun h => by omega)
  unfold qSell
  split
  · exact b1.drop (by rw [e2]; exact hk)
  · exact b1
theorem Gd.or {B kd fr pr g f s : Nat} {N : Nat → Nat} (h : Gd B N) : Gd (B + 200000 * f) (qOr kd fr pr g f s N).2 := by
  induction f generalizing B s N with
  | zero => exact h
  | succ f ih =>
    cases hq : qNx N kd fr pr (N 2) with
    | none => rw [qOr_end (fun _ => hq)]; exact h.up (by omega)
    | some k =>
      by_cases hs : s < g
      · rw [qOr_go hq hs]
        exact (ih (h.sell (qNx_lt hq) (by unfold qMuch; split <;> omega))).up (by omega)
      · rw [qOr_end (fun z => absurd z hs)]; exact h.up (by omega)
theorem Gd.place {B : Nat} {N : Nat → Nat} (h : Gd B N) {k v : Nat} (hk : k < N 2) (hv : v < 11) (hb : v < 6 → qCnt N v (N 2) < 3) (ht : 6 ≤ v → ∀ j, j < N 2 → qL N j 4 ≠ v) : Gd B (uN N (45 + 5 * k + 4) v) :=
  ⟨qIr_l h.1 (by omega) ⟨by omega, by omega, by omega, fun _ => hv⟩, qU_place h.2.1 hk hb ht, h.2.2.u (fun hj => by omega)⟩
theorem Gd.lo {B : Nat} {N : Nat → Nat} (h : Gd B N) {j v : Nat} (hj : j < 45) (hj8 : 8 ≤ j) (h10 : j ≠ 10) (hB : 1000 ≤ B) (h8 : j = 8 → v ≤ 500) (h9 : j = 9 → v ≤ 100) (hp : 11 ≤ j → j < 23 → 1 ≤ v ∧ v ≤ 9999) (hc : 23 ≤ j → j < 34 → v ≤ 90) (hi : 34 ≤ j → v ≤ 5000) : Gd B (uN N j v) :=
  ⟨qIr_any h.1 hj (by omega) (by omega) (by omega) h8 h9 hp hc hi, qU_lo h.2.1 hj (by omega) h10, h.2.2.u (fun hj => by rcases (show j = 8 ∨ j = 9 from by omega) with q | q; have := h8 q; omega; have := h9 q; omega)⟩
