/-! THE COUNTER AND THE REFERENCE: how they are made -/
def ShM (τ : KS) (p : Nat) : Prop := Rs τ p (fun k => k) N0 ∧ ∀ k, k < 6 → τ.2.2 p (11 + k) = some (p + 1 + k)
theorem ShM.keep {τ υ : KS} {p : Nat} (h : ShM τ p) (e : ∀ x, p ≤ x → x < p + 23 → υ.1 x = τ.1 x ∧ υ.2.1 x = τ.2.1 x ∧ υ.2.2 x = τ.2.2 x) : ShM υ p := by
  have h16 : N0 2 ≤ 16 := by rw [N0_2]; omega
  exact ⟨h.1.of h16 (fun x a c => (e x a c).1) (e p (by omega) (by omega)).2.1 (e (p + 6) (by omega) (by omega)).2.2, fun k hk => by rw [(e p (by omega) (by omega)).2.2]; exact h.2 k hk⟩
def HM (τ : KS) : Prop := (∀ k, τ.1 48 k = 0) ∧ τ.2.2 48 2 = some (48 + 1) ∧ (∀ j, j < 6 → τ.2.2 (48 + 1) j = some (48 + 2 + 23 * j)) ∧ ∀ j, j < 6 → ShM τ (48 + 2 + 23 * j)
def cW (τ : KS) (k z : Nat) : KS := wP τ 0 (va_up (τ.2.2 0) k (some z))
theorem cW_e {τ : KS} {k z x : Nat} (h : 1 ≤ x) : (cW τ k z).1 x = τ.1 x ∧ (cW τ k z).2.1 x = τ.2.1 x ∧ (cW τ k z).2.2 x = τ.2.2 x := ⟨rfl, rfl, wP_ne (by omega)⟩
theorem cW_s {τ : KS} {k z : Nat} : (cW τ k z).2.2 0 k = some z := by unfold cW; rw [wP_self]; exact if_pos rfl
theorem cW_n {τ : KS} {k z j : Nat} (h : j ≠ k) : (cW τ k z).2.2 0 j = τ.2.2 0 j := by unfold cW; rw [wP_self]; exact if_neg h
theorem HM.keep {τ υ : KS} (h : HM τ) (e : ∀ x, 48 ≤ x → x < 188 → υ.1 x = τ.1 x ∧ υ.2.1 x = τ.2.1 x ∧ υ.2.2 x = τ.2.2 x) : HM υ := by
  obtain ⟨a, c, d, f⟩ := h
  exact ⟨fun k => by rw [(e 48 (by omega) (by omega)).1]; exact a k, by rw [(e 48 (by omega) (by omega)).2.2]; exact c, fun j hj => by rw [(e (48 + 1) (by omega) (by omega)).2.2]; exact d j hj, fun j hj => (f j hj).keep (fun x h1 h2 => e x (by omega) (by omega))⟩
def C1 (τ : KS) : Prop := τ.2.2 0 0 = some 1 ∧ ShM τ 1 ∧ Zr τ 24
def C2 (τ : KS) : Prop := (τ.2.2 0 0 = some 1 ∧ τ.2.2 0 1 = some 24) ∧ (ShM τ 1 ∧ ShM τ 24) ∧ Zr τ 47
def C3 (τ : KS) : Prop := (τ.2.2 0 0 = some 1 ∧ τ.2.2 0 1 = some 24 ∧ τ.2.2 0 2 = some 47) ∧ (ShM τ 1 ∧ ShM τ 24) ∧ Zr τ 48
def C4 (τ : KS) : Prop := (τ.2.2 0 0 = some 1 ∧ τ.2.2 0 1 = some 24 ∧ τ.2.2 0 2 = some 47 ∧ τ.2.2 0 3 = some 48) ∧ (ShM τ 1 ∧ ShM τ 24) ∧ HM τ ∧ Zr τ 188
def C5 (τ : KS) : Prop := (τ.2.2 0 0 = some 1 ∧ τ.2.2 0 1 = some 24 ∧ τ.2.2 0 2 = some 47 ∧ τ.2.2 0 3 = some 48 ∧ τ.2.2 0 4 = some 188) ∧ (ShM τ 1 ∧ ShM τ 24) ∧ HM τ ∧ (τ.1 188 0 = 0 ∧ τ.2.2 188 6 = some 189) ∧ Zr τ 190
theorem c1_of {σ υ : KS} (hz : Zr σ 0) (k : Sh0 σ υ 1) : C1 (cW υ 0 1) :=
  ⟨cW_s, ShM.keep (τ := υ) ⟨k.1, k.2.1⟩ (fun x h1 _ => cW_e h1), Zr.of hz (Nat.zero_le _) (fun x hx => by
    obtain ⟨a, c, d⟩ := cW_e (τ := υ) (k := 0) (z := 1) (show 1 ≤ x by omega)
    obtain ⟨a2, c2, d2⟩ := k.2.2 x (by omega)
    exact ⟨a.trans a2, c.trans c2, d.trans d2⟩)⟩
theorem c2_of {τ υ : KS} (h : C1 τ) (k : Sh0 τ υ 24) : C2 (cW υ 1 24) := by
  obtain ⟨h1, h2, h3⟩ := h
  have e : ∀ x, 1 ≤ x → (x < 24 ∨ 47 ≤ x) → (cW υ 1 24).1 x = τ.1 x ∧ (cW υ 1 24).2.1 x = τ.2.1 x ∧ (cW υ 1 24).2.2 x = τ.2.2 x := fun x hx hx2 => by
    obtain ⟨a, c, d⟩ := cW_e (τ := υ) (k := 1) (z := 24) hx
    obtain ⟨a2, c2, d2⟩ := k.2.2 x (by omega)
    exact ⟨a.trans a2, c.trans c2, d.trans d2⟩
  exact ⟨⟨by rw [cW_n (by decide), (k.2.2 0 (by omega)).2.2]; exact h1, cW_s⟩, ⟨h2.keep (fun x a c => e x (by omega) (by omega)), ShM.keep (τ := υ) ⟨k.1, k.2.1⟩ (fun x h1 _ => cW_e (by omega))⟩, h3.of (by omega) (fun x hx => e x (by omega) (by omega))⟩
theorem c3_of {τ : KS} (h : C2 τ) : C3 (cW τ 2 47) := by
  obtain ⟨⟨a, b⟩, ⟨c, d⟩, f⟩ := h
  exact ⟨⟨(cW_n (by decide)).trans a, (cW_n (by decide)).trans b, cW_s⟩, ⟨c.keep (fun x h1 _ => cW_e (by omega)), d.keep (fun x h1 _ => cW_e (by omega))⟩, f.of (by omega) (fun x hx => cW_e (by omega))⟩
theorem c4_of {τ υ : KS} (h : C3 τ) (k : IH τ υ 48 6) : C4 (cW υ 3 48) := by
  obtain ⟨⟨a, b, b2⟩, ⟨c, d⟩, f⟩ := h
  obtain ⟨k1, k2, k3, k4, k5⟩ := k
  have e : ∀ x, 1 ≤ x → (x < 48 ∨ 188 ≤ x) → (cW υ 3 48).1 x = τ.1 x ∧ (cW υ 3 48).2.1 x = τ.2.1 x ∧ (cW υ 3 48).2.2 x = τ.2.2 x := fun x hx hx2 => by
    obtain ⟨a, c, d⟩ := cW_e (τ := υ) (k := 3) (z := 48) hx
    obtain ⟨a2, c2, d2⟩ := k1 x (by omega)
    exact ⟨a.trans a2, c.trans c2, d.trans d2⟩
  have e0 := (k1 0 (by omega)).2.2
  exact ⟨⟨by rw [cW_n (by decide), e0]; exact a, by rw [cW_n (by decide), e0]; exact b, by rw [cW_n (by decide), e0]; exact b2, cW_s⟩, ⟨c.keep (fun x a c => e x (by omega) (by omega)), d.keep (fun x a c => e x (by omega) (by omega))⟩, HM.keep (τ := υ) ⟨k2, k3, k4, k5⟩ (fun x hx _ => cW_e (by omega)), f.of (by omega) (fun x hx => e x (by omega) (by omega))⟩
theorem c5_of {τ : KS} (h : C4 τ) : C5 (cW (wP τ 188 (va_up (τ.2.2 188) 6 (some (188 + 1)))) 4 188) := by
  obtain ⟨⟨a, b, b2, b3⟩, ⟨c, d⟩, g, f⟩ := h
  have e : ∀ x, 1 ≤ x → x ≠ 188 → (cW (wP τ 188 (va_up (τ.2.2 188) 6 (some (188 + 1)))) 4 188).1 x = τ.1 x ∧ (cW (wP τ 188 (va_up (τ.2.2 188) 6 (some (188 + 1)))) 4 188).2.1 x = τ.2.1 x ∧ (cW (wP τ 188 (va_up (τ.2.2 188) 6 (some (188 + 1)))) 4 188).2.2 x = τ.2.2 x := fun x hx hx2 => by
    obtain ⟨a, c, d⟩ := cW_e (τ := wP τ 188 (va_up (τ.2.2 188) 6 (some (188 + 1)))) (k := 4) (z := 188) hx
    exact ⟨a, c, d.trans (wP_ne hx2)⟩
  have e0 : (wP τ 188 (va_up (τ.2.2 188) 6 (some (188 + 1)))).2.2 0 = τ.2.2 0 := wP_ne (by decide)
  refine ⟨⟨by rw [cW_n (by decide), e0]; exact a, by rw [cW_n (by decide), e0]; exact b, by rw [cW_n (by decide), e0]; exact b2, by rw [cW_n (by decide), e0]; exact b3, cW_s⟩, ⟨c.keep (fun x a c => e x (by omega) (by omega)), d.keep (fun x a c => e x (by omega) (by omega))⟩, g.keep (fun x h1 h2 => e x (by omega) (by omega)), ⟨?_, ?_⟩, f.of (by omega) (fun x hx => e x (by omega) (by omega))⟩
  · exact (f 188 (Nat.le_refl _)).1 0
  · rw [(cW_e (show 1 ≤ 188 by omega)).2.2, wP_self]; exact if_pos rfl
