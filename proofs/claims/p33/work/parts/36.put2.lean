/-! sales, the hour, the night: what is left of the numbers -/
theorem qTn_sell {N : Nat → Nat} {k m : Nat} (hk : k < N 2) (h6 : 6 ≤ qL N k 4) (hm : qL N k 2 - m = 0) : qTn (qSell N k m) (qSell N k m 2) + 1 = qTn N (N 2) := by
  have e2 : qSell1 N k m 2 = N 2 := by unfold qSell1; rw [uN_n (by omega), uN_n (by omega), uN_n (by omega)]
  have el : ∀ z, qL (qSell1 N k m) z 4 = qL N z 4 := fun z => by show qSell1 N k m _ = _; unfold qSell1; rw [uN_n (by omega), uN_n (by omega), uN_n (by omega)]
  have h := qTn_drop (N := qSell1 N k m) (k := k) (by rw [e2]; exact hk)
  rw [el k, if_pos h6, e2] at h
  rw [show qSell N k m = qDrop (qSell1 N k m) k from if_pos hm, qDrop_2 (by rw [e2]; exact hk), e2, h]
  exact qSm_congr (fun z _ => by rw [el z])
theorem qNx_fits {N : Nat → Nat} {kd fr pr n k : Nat} (h : qNx N kd fr pr n = some k) : qFits N kd fr pr k = true := by
  induction n with
  | zero => cases h
  | succ n ih =>
    unfold qNx at h
    split at h
    · cases h; rename_i q; exact q.1
    · exact ih h
theorem qFits_t {N : Nat → Nat} {kd fr pr k : Nat} (h : qFits N kd fr pr k = true) : 6 ≤ qL N k 4 := by
  unfold qFits at h
  rw [Bool.and_eq_true, Bool.and_eq_true] at h
  exact qTray_t h.2.1
theorem qTn_pos {N : Nat → Nat} {n k : Nat} (hk : k < n) (h6 : 6 ≤ qL N k 4) : 1 ≤ qTn N n := by
  induction n with
  | zero => omega
  | succ n ih =>
    show 1 ≤ qTn N n + (if 6 ≤ qL N n 4 then 1 else 0)
    by_cases q : k = n
    · rw [← q, if_pos h6]; omega
    · have := ih (by omega); omega
theorem qOr_end {kd fr pr g f s : Nat} {N : Nat → Nat} (h : s < g → qNx N kd fr pr (N 2) = none) : qOr kd fr pr g (f + 1) s N = (s, N) := by
  show (match qNx N kd fr pr (N 2) with | none => (s, N) | some k => if s < g then qOr kd fr pr g f (s + qMuch N k (g - s)) (qSell N k (qMuch N k (g - s))) else (s, N)) = _
  cases hq : qNx N kd fr pr (N 2) with
  | none => rfl
  | some k => exact if_neg (fun z => by rw [h z] at hq; cases hq)
theorem qOr_go {kd fr pr g f s k : Nat} {N : Nat → Nat} (hq : qNx N kd fr pr (N 2) = some k) (h : s < g) : qOr kd fr pr g (f + 1) s N = qOr kd fr pr g f (s + qMuch N k (g - s)) (qSell N k (qMuch N k (g - s))) := by
  show (match qNx N kd fr pr (N 2) with | none => (s, N) | some k => if s < g then qOr kd fr pr g f (s + qMuch N k (g - s)) (qSell N k (qMuch N k (g - s))) else (s, N)) = _
  rw [hq]
  exact if_pos h
theorem qSell_U {N : Nat → Nat} (h : qU N) {k m : Nat} (hk : k < N 2) : qU (qSell N k m) ∧ qSell N k m 10 = N 10 := by
  have a : qU (qSell1 N k m) := qU_f (qU_lo (qU_lo h (by omega) (by omega) (by omega)) (by omega) (by omega) (by omega)) (by omega)
  have e2 : qSell1 N k m 2 = N 2 := by unfold qSell1; rw [uN_n (by omega), uN_n (by omega), uN_n (by omega)]
  have e10 : qSell1 N k m 10 = N 10 := by unfold qSell1; rw [uN_n (by omega), uN_n (by omega), uN_n (by omega)]
  unfold qSell
  split
  · exact ⟨qU_drop a (by rw [e2]; exact hk), by rw [qDrop_lo (by rw [e2]; exact hk) (by omega) (by omega), e10]⟩
  · exact ⟨a, e10⟩
theorem qIr_P1 {N : Nat → Nat} (h : qIr N) {j : Nat} (hj : j ≤ N 2) : qIr (qP1 N j) ∧ qP1 N j 2 = N 2 := by
  induction j with
  | zero => exact ⟨h, rfl⟩
  | succ j ih =>
    obtain ⟨a, c⟩ := ih (by omega)
    refine ⟨qIr_l a (by omega) ⟨by omega, by omega, fun _ => ?_, by omega⟩, (uN_n (by omega)).trans c⟩
    have := qi_l3 a (show j < qP1 N j 2 from by omega)
    omega
theorem qIr_P2 {N : Nat → Nat} (h : qIr N) {j : Nat} (hj : j ≤ 11) : qIr (qP2 N j) ∧ qP2 N j 2 = N 2 := by
  induction j with
  | zero => exact ⟨h, rfl⟩
  | succ j ih =>
    obtain ⟨a, c⟩ := ih (by omega)
    refine ⟨qIr_ice a (by omega) ?_, (uN_n (by omega)).trans c⟩
    have := qi_i a (show j < 11 from by omega)
    omega
theorem qC1_U {N : Nat → Nat} {i : Nat} (h : qU N) (hi : i ≤ N 2) : qU (qC1 i N) ∧ qC1 i N 10 = N 10 := by
  induction i generalizing N with
  | zero => exact ⟨h, rfl⟩
  | succ i ih =>
    unfold qC1
    split
    · exact ih h (by omega)
    · obtain ⟨a, c⟩ := ih (qU_throw h hi) (by rw [qThrow_2 hi]; omega)
      exact ⟨a, c.trans (qThrow_lo hi (by omega) (by omega) (by omega))⟩
theorem qCold_c {N : Nat → Nat} {n j : Nat} (h : qCold N n = some j) : qCnt N j (N 2) < 3 := by
  induction n with
  | zero => cases h
  | succ n ih =>
    unfold qCold at h
    split at h
    · cases h; rename_i q; exact q.1
    · exact ih h
theorem qC2s_U {M : Nat → Nat} (h : qU M) (pl : Nat) : qU (qC2s M pl) ∧ qC2s M pl 10 = M 10 := by
  unfold qC2s
  cases hf : qFst M pl (M 2) none with
  | none => exact ⟨h, rfl⟩
  | some k =>
    have hk : k < M 2 := qFst_lt hf (Nat.le_refl _) (fun q hq => by cases hq)
    cases hc : qCold M 6 with
    | none => exact ⟨qU_throw h hk, qThrow_lo hk (by omega) (by omega) (by omega)⟩
    | some bx => exact ⟨qU_place h hk (fun _ => qCold_c hc) (fun z => by have := qCold_lt hc; omega), uN_n (by omega)⟩
theorem qC2_U {N : Nat → Nat} (h : qU N) (j : Nat) (hj : j ≤ 5) : qU (qC2 N j) ∧ qC2 N j 10 = N 10 := by
  induction j with
  | zero => exact ⟨h, rfl⟩
  | succ j ih =>
    obtain ⟨a, c⟩ := ih (by omega)
    obtain ⟨a2, c2⟩ := qC2s_U a (6 + j)
    exact ⟨qU_lo a2 (by omega) (by omega) (by omega), ((uN_n (by omega)).trans c2).trans c⟩
theorem qU_pass {N : Nat → Nat} (h : qU N) : qU (qPass N) ∧ qPass N 10 = N 10 :=
  ⟨qU_congr h (qPass_lo (by omega) (by omega)) (Nat.le_of_eq (qPass_lo (by omega) (by omega)).symm) (fun k _ => qPass_l (by omega) (by omega)) (fun k _ => qPass_l (by omega) (by omega)), qPass_lo (by omega) (by omega)⟩
theorem qU_close {N : Nat → Nat} (h : qU N) : qU (qClose N) ∧ qClose N 10 = N 10 := by
  obtain ⟨a, c⟩ := qC1_U h (Nat.le_refl _)
  obtain ⟨a2, c2⟩ := qC2_U a 5 (Nat.le_refl _)
  refine ⟨qU_lo (qU_lo a2 (by omega) (by omega) (by omega)) (by omega) (by omega) (by omega), ?_⟩
  unfold qClose
  rw [uN_n (by omega), uN_n (by omega)]
  exact c2.trans c
/-! the tray's ice melted first -/
theorem qFst_congr {N M : Nat → Nat} {pl n : Nat} {f : Option Nat} (h : ∀ k, k < n → qL M k 4 = qL N k 4) : qFst M pl n f = qFst N pl n f := by
  induction n generalizing f with
  | zero => rfl
  | succ n ih =>
    show qFst M pl n (if qL M n 4 = pl then some n else f) = qFst N pl n (if qL N n 4 = pl then some n else f)
    rw [h n (by omega)]
    exact ih (fun k hk => h k (by omega))
theorem qCold_congr {N M : Nat → Nat} {n : Nat} (h2 : M 2 = N 2) (h4 : ∀ k, k < N 2 → qL M k 4 = qL N k 4) (hi : ∀ j, j < n → M (34 + j) = N (34 + j)) : qCold M n = qCold N n := by
  induction n with
  | zero => rfl
  | succ n ih =>
    have e := ih (fun j hj => hi j (by omega))
    have hm : ∀ f, (∀ j, f = some j → j < n) → qMore M n f = qMore N n f := by
      intro f hf
      cases f with
      | none => rfl
      | some j => show decide _ = decide _; rw [hi n (by omega), hi j (by have := hf j rfl; omega)]
    show (if qCnt M n (M 2) < 3 ∧ qMore M n (qCold M n) = true then some n else qCold M n) = (if qCnt N n (N 2) < 3 ∧ qMore N n (qCold N n) = true then some n else qCold N n)
    rw [e, h2, qCnt_congr h4, hm _ (fun j hj => qCold_lt hj)]
theorem qThrow_u {N : Nat → Nat} {k j v : Nat} (hk : k < N 2) (h1 : 34 ≤ j) (h2 : j < 45) : qThrow (uN N j v) k = uN (qThrow N k) j v := by
  have a : (uN (uN N j v) 5 (uN N j v 5 + qL (uN N j v) k 2)) = uN (uN N 5 (N 5 + qL N k 2)) j v := by
    rw [uN_comm (i := j) (by omega), show uN N j v 5 = N 5 from uN_n (by omega), show qL (uN N j v) k 2 = qL N k 2 from uN_n (by omega)]
  unfold qThrow
  rw [a]
  have hM : k < (uN N 5 (N 5 + qL N k 2)) 2 := by rw [uN_n (by omega)]; exact hk
  generalize uN N 5 (N 5 + qL N k 2) = M at hM
  · funext i
    rw [qDrop_at (uN M j v) (by rw [uN_n (by omega)]; exact hM), uN_n (show 2 ≠ j from by omega)]
    unfold uN
    by_cases q : i = j
    · rw [if_neg (by omega), if_pos (by omega), if_pos q, if_pos q]
    · rw [if_neg q, qDrop_at M hM]
      by_cases q1 : i = 2
      · rw [if_pos q1, if_pos q1, if_neg q]
      · rw [if_neg q1, if_neg q1]
        by_cases q2 : i < 45 + 5 * k
        · rw [if_pos q2, if_pos q2, if_neg q]
        · rw [if_neg q2, if_neg q2, if_neg (show ¬ i + 5 = j from by omega), if_neg q]
theorem qC2s_u {N : Nat → Nat} {t : Nat} (ht : t < 5) : qC2s (uN N (34 + (6 + t)) 0) (6 + t) = uN (qC2s N (6 + t)) (34 + (6 + t)) 0 := by
  have e2 : uN N (34 + (6 + t)) 0 2 = N 2 := uN_n (by omega)
  have e4 : ∀ k, k < N 2 → qL (uN N (34 + (6 + t)) 0) k 4 = qL N k 4 := fun k _ => uN_n (by omega)
  unfold qC2s
  rw [e2, qFst_congr e4, qCold_congr (n := 6) e2 e4 (fun j hj => uN_n (by omega))]
  cases hf : qFst N (6 + t) (N 2) none with
  | none => rfl
  | some k =>
    have hk : k < N 2 := qFst_lt hf (Nat.le_refl _) (fun q hq => by cases hq)
    cases hc : qCold N 6 with
    | none => exact qThrow_u hk (by omega) (by omega)
    | some bx => exact uN_comm (by omega)
/-! copying a shop -/
theorem shL_d : ∀ o, o ∈ shL → ∀ q, q ∈ shL → o ≠ q → o + 23 ≤ q ∨ q + 23 ≤ o := by decide +kernel
theorem Fr.keep {σ σ' : KS} {o q : Nat} {π N : Nat → Nat} (h : Fr σ σ' o) (ho : o ∈ shL) (hq : q ∈ shL) (hne : o ≠ q) (hR : Rs σ q π N) (h16 : N 2 ≤ 16) : Rs σ' q π N := by
  have hd := shL_d o ho q hq hne
  exact hR.of h16 (fun x a c => (h.1 x (by omega)).1) ((h.1 q (by omega)).2) (h.2 _ (by omega))
/-- behind k steps of the copying -/
def Cp (σ τ : KS) (o : Nat) (ρ N : Nat → Nat) (k : Nat) : Prop := Fr σ τ o ∧ Rp τ o ρ ∧ (∀ j, j < k → j < 6 → τ.1 o j = nI (N (qi j))) ∧ (∀ j, j < k → 6 ≤ j → j < 11 → τ.2.1 o j = lN (N (j - 3))) ∧ (∀ a, 10 + a < k → 1 ≤ a → a ≤ 5 → ∀ j, j < qAl a → τ.1 (o + a) j = nI (N (qAb a + j))) ∧ ∀ m, 16 + m < k → m < 16 → Rl τ o ρ N m
section CPS
variable {σ τ : KS} {o : Nat} {ρ N : Nat → Nat} {k : Nat}
theorem Cp.init (h : Rp σ o ρ) : Cp σ σ o ρ N 0 := ⟨Fr.rf, h, fun j hj => by omega, fun j hj => by omega, fun a ha => by omega, fun m hm => by omega⟩
theorem Cp.int (h : Cp σ τ o ρ N k) (hk : k < 6) : Cp σ (wI τ o (upd (τ.1 o) k (nI (N (qi k))))) o ρ N (k + 1) := by
  obtain ⟨a, b, c, d, f, g⟩ := h
  refine ⟨a.tr (Fr.i (by omega) (by omega)), b, fun j hj h6 => ?_, fun j hj h6 h11 => by omega, fun a ha => by omega, fun m hm => by omega⟩
  rw [wI_self]
  unfold upd
  by_cases q : j = k
  · rw [if_pos q, q]
  · rw [if_neg q]; exact c j (by omega) h6
theorem Cp.long (h : Cp σ τ o ρ N k) (h6 : 6 ≤ k) (hk : k < 11) : Cp σ (wL τ o (vp_updL (τ.2.1 o) k (lN (N (k - 3))))) o ρ N (k + 1) := by
  obtain ⟨a, b, c, d, f, g⟩ := h
  refine ⟨a.tr (Fr.l (by omega) (by omega)), b, fun j hj h6 => c j (by omega) h6, fun j hj h6 h11 => ?_, fun a ha => by omega, fun m hm => by omega⟩
  rw [wL_self]
  unfold vp_updL
  by_cases q : j = k
  · rw [if_pos q, q]
  · rw [if_neg q]; exact d j (by omega) h6 h11
theorem Cp.arr (h : Cp σ τ o ρ N (10 + k)) (h1 : 1 ≤ k) (hk : k ≤ 5) {F : Nat → Int32} (e : ∀ j, j < qAl k → F j = nI (N (qAb k + j))) : Cp σ (wI τ (o + k) F) o ρ N (10 + k + 1) := by
  obtain ⟨a, b, c, d, f, g⟩ := h
  refine ⟨a.tr (Fr.i (by omega) (by omega)), b, fun j hj h6 => ?_, fun j hj h6 h11 => d j (by omega) h6 h11, fun x hx x1 x5 j hj => ?_, fun m hm => by omega⟩
  · rw [wI_ne (by omega)]; exact c j (by omega) h6
  · by_cases q : x = k
    · subst q
      rw [wI_self]; exact e j hj
    · rw [wI_ne (by omega)]; exact f x (by omega) x1 x5 j hj
theorem Cp.lot (h : Cp σ τ o ρ N (16 + k)) (hk : k < 16) {F : Nat → Int32} (e : ∀ j, j < 4 → F j = nI (qL N k j)) (e4 : F 4 = qBx (qL N k 4)) (e5 : F 5 = qTy (qL N k 4)) : Cp σ (wI τ (o + 7 + ρ k) F) o ρ N (16 + k + 1) := by
  obtain ⟨a, b, c, d, f, g⟩ := h
  have hl := (b.1 k hk).2
  refine ⟨a.tr (Fr.i (by omega) (by omega)), b, fun j hj h6 => ?_, fun j hj h6 h11 => d j (by omega) h6 h11, fun x hx x1 x5 j hj => ?_, fun m hm h16 => ?_⟩
  · rw [wI_ne (by omega)]; exact c j (by omega) h6
  · rw [wI_ne (by omega)]; exact f x (by omega) x1 x5 j hj
  · unfold Rl
    by_cases q : m = k
    · subst q
      rw [wI_self]; exact ⟨e, e4, e5⟩
    · rw [wI_ne (fun z => q (b.2 m k h16 hk (by omega)))]; exact g m (by omega) h16
theorem Cp.done (h : Cp σ τ o ρ N k) (h16 : N 2 ≤ 16) (hk : 16 + N 2 ≤ k) : Rs τ o ρ N := by
  obtain ⟨a, b, c, d, f, g⟩ := h
  exact ⟨fun j hj => c j (by omega) hj, fun j h6 hj => d j (by omega) h6 hj, fun x x1 x5 j hj => f x (by omega) x1 x5 j hj, b, fun m hm => g m (by omega) (by omega)⟩
end CPS
