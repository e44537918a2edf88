/-! THE HISTORY, THE COUNTER, THE REFERENCE: how they are made -/
def shs : Nat → List KSh
  | 0 => []
  | i + 1 => shs i ++ shShop
theorem shShop_l : shShop.length = 23 := by decide +kernel
theorem shs_l (i : Nat) : (shs i).length = 23 * i := by
  induction i with
  | zero => rfl
  | succ i ih => show (shs i ++ shShop).length = _; rw [List.length_append, ih, shShop_l]; omega
def shH (i : Nat) : List KSh := [.inl 2, .inr (.object "FishCounter$Shop", 6)] ++ shs i
theorem shH_l (i : Nat) : (shH i).length = 2 + 23 * i := by
  unfold shH
  rw [List.length_append, shs_l]
  rfl
theorem shH_s (pre : List KSh) (i : Nat) : (pre ++ shH i) ++ shShop = pre ++ shH (i + 1) := by
  unfold shH
  rw [show shs (i + 1) = shs i ++ shShop from rfl, List.append_assoc, List.append_assoc]
/-- behind i shops of the history at p -/
def IH (σ τ : KS) (p i : Nat) : Prop := (∀ x, (x < p ∨ p + 2 + 23 * i ≤ x) → τ.1 x = σ.1 x ∧ τ.2.1 x = σ.2.1 x ∧ τ.2.2 x = σ.2.2 x) ∧ (∀ k, τ.1 p k = 0) ∧ τ.2.2 p 2 = some (p + 1) ∧ (∀ j, j < i → τ.2.2 (p + 1) j = some (p + 2 + 23 * j)) ∧ ∀ j, j < i → Rs τ (p + 2 + 23 * j) (fun k => k) N0 ∧ ∀ k, k < 6 → τ.2.2 (p + 2 + 23 * j) (11 + k) = some (p + 2 + 23 * j + 1 + k)
theorem N0_2 : N0 2 = 0 := by decide
theorem IH.init {σ : KS} {p : Nat} (hz : Zr σ p) : IH σ (wP σ p (va_up (σ.2.2 p) 2 (some (p + 1)))) p 0 := by
  refine ⟨fun x hx => ⟨rfl, rfl, wP_ne (by omega)⟩, fun k => (hz p (Nat.le_refl _)).1 k, ?_, fun j hj => by omega, fun j hj => by omega⟩
  rw [wP_self]
  exact if_pos rfl
theorem IH.shop {σ τ υ : KS} {p i : Nat} (h : IH σ τ p i) (k : Sh0 τ υ (p + 2 + 23 * i)) : IH σ (wP υ (p + 1) (va_up (υ.2.2 (p + 1)) i (some (p + 2 + 23 * i)))) p (i + 1) := by
  obtain ⟨a1, a2, a3, a4, a5⟩ := h
  obtain ⟨k1, k2, k3⟩ := k
  refine ⟨fun x hx => ⟨(k3 x (by omega)).1.trans (a1 x (by omega)).1, (k3 x (by omega)).2.1.trans (a1 x (by omega)).2.1, (wP_ne (by omega)).trans ((k3 x (by omega)).2.2.trans (a1 x (by omega)).2.2)⟩, fun k => (congrFun (k3 p (by omega)).1 k).trans (a2 k), ?_, fun j hj => ?_, fun j hj => ?_⟩
  · rw [wP_ne (by omega), (k3 p (by omega)).2.2]; exact a3
  · rw [wP_self]
    unfold va_up
    by_cases q : j = i
    · rw [if_pos q, q]
    · rw [if_neg q, (k3 (p + 1) (by omega)).2.2]; exact a4 j (by omega)
  · have h16 : N0 2 ≤ 16 := by rw [N0_2]; omega
    by_cases q : j = i
    · subst q
      exact ⟨k1.of h16 (fun x hx hy => rfl) rfl (wP_ne (by omega)), fun k hk => by rw [wP_ne (by omega)]; exact k2 k hk⟩
    · obtain ⟨c, d⟩ := a5 j (by omega)
      refine ⟨c.of h16 (fun x hx hy => (k3 x (by omega)).1) (k3 _ (by omega)).2.1 ?_, fun k hk => ?_⟩
      · rw [wP_ne (by omega)]; exact (k3 _ (by omega)).2.2
      · rw [wP_ne (by omega), (k3 _ (by omega)).2.2]; exact d k hk
theorem Zr.of {σ τ : KS} {p q : Nat} (h : Zr σ p) (hpq : p ≤ q) (e : ∀ x, q ≤ x → τ.1 x = σ.1 x ∧ τ.2.1 x = σ.2.1 x ∧ τ.2.2 x = σ.2.2 x) : Zr τ q := by
  intro x hx
  obtain ⟨a, c, d⟩ := e x hx
  rw [a, c, d]
  exact h x (by omega)
/-- the counter that is made -/
def CM (τ : KS) : Prop := (τ.2.2 0 0 = some 1 ∧ τ.2.2 0 1 = some 24 ∧ τ.2.2 0 2 = some 47 ∧ τ.2.2 0 3 = some 48 ∧ τ.2.2 0 4 = some 188) ∧ Rs τ 1 (fun k => k) N0 ∧ (∀ k, k < 6 → τ.2.2 1 (11 + k) = some (1 + 1 + k)) ∧ Rs τ 24 (fun k => k) N0 ∧ (∀ k, k < 6 → τ.2.2 24 (11 + k) = some (24 + 1 + k)) ∧ ((∀ k, τ.1 48 k = 0) ∧ τ.2.2 48 2 = some 49 ∧ (∀ j, j < 6 → τ.2.2 49 j = some (48 + 2 + 23 * j)) ∧ ∀ j, j < 6 → Rs τ (48 + 2 + 23 * j) (fun k => k) N0 ∧ ∀ k, k < 6 → τ.2.2 (48 + 2 + 23 * j) (11 + k) = some (48 + 2 + 23 * j + 1 + k)) ∧ (τ.1 188 0 = 0 ∧ τ.2.2 188 6 = some 189) ∧ Zr τ 190
