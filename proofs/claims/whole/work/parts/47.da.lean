/-! THE CLASS: all deliveries of the text, undo, the forecast of closing: facts -/
theorem xDA_stop {T : Nat → Nat} {n f p c : Nat} {M : Nat → Nat} (h : ∀ q, (xItem T n p).1 = some q → qRoom M q.2.2.2 ≠ 0) : xDA T n f p M c = (c, M) := by
  cases f with
  | zero => rfl
  | succ f =>
    by_cases hp : p < n
    · cases hq : (xItem T n p).1 with
      | none =>
        refine (if_pos hp).trans ?_
        rw [hq]
      | some q => rw [xDA_s hp hq, if_neg (h q hq)]
    · exact if_neg hp
theorem qRoom_16 {M : Nat → Nat} {bx : Nat} (h : M 2 = 16) : qRoom M bx ≠ 0 := by
  unfold qRoom
  split
  · decide
  · decide
theorem qDel_2 (N : Nat → Nat) (kd g fr bx : Nat) : qDel N kd g fr bx 2 = N 2 + 1 := by
  unfold qDel
  rw [qAdd_2, uN_n (by omega), uN_n (by omega)]
theorem qDel_10 (N : Nat → Nat) (kd g fr bx : Nat) : qDel N kd g fr bx 10 = N 10 + 1 := by
  unfold qDel
  rw [qAdd_10, uN_n (by omega), uN_n (by omega)]
theorem qU_del {N : Nat → Nat} (h : qU N) {kd g fr bx : Nat} (hb : bx < 6) (hc : qCnt N bx (N 2) ≠ 3) : qU (qDel N kd g fr bx) := by
  unfold qDel
  refine qU_add (qU_lo (qU_lo h (by omega) (by omega) (by omega)) (by omega) (by omega) (by omega)) hb ?_
  rw [uN_n (by omega), uN_n (by omega), qCnt_congr (N := N) (fun k _ => by show uN _ _ _ _ = _; rw [uN_n (by omega), uN_n (by omega)])]
  have := h.2.2.1 bx hb
  omega
/-- all deliveries' end -/
def CD (σ : KS) (N : Nat → Nat) (r : Nat) (hs : Nat → Nat → Nat) (T : Nat → Nat) (n : Nat) (o : Option (Nat → Nat)) (τ : KS) : Prop := Cf σ τ ∧ match o with
  | none => CI τ N r hs T n
  | some M => CI τ M (qRr r + 1) (hsN hs r N) T 0
theorem CI.undo {σ τ : KS} {N : Nat → Nat} {r n : Nat} {hs : Nat → Nat → Nat} {T : Nat → Nat} (h : CI σ N r hs T n) (k : Hs τ (r - 1) hs ∧ ∃ υ : KS, SP υ τ 1 (hs (r - 1)) ∧ υ.2.2 = σ.2.2 ∧ ∀ y, y ≠ 48 → υ.1 y = σ.1 y) : Cf σ τ ∧ CI τ (hs (r - 1)) (r - 1) hs T n := by
  obtain ⟨p, -, ⟨ρ, d⟩, -, g⟩ := h
  obtain ⟨k1, υ, k2, k3, k4⟩ := k
  refine ⟨fun x hx => (k2.2.1 x (by omega)).1.trans (k4 x (by omega)), k2.2.PF s1_in (by rw [k3]; exact p), k2.1, ⟨ρ, d.of ((k2.2.2 _ (by omega)).trans (by rw [k3]))⟩, k1, g.of ?_ ?_⟩
  · rw [(k2.2.1 188 (by omega)).1, k4 188 (by omega)]
  · rw [(k2.2.1 189 (by omega)).1, k4 189 (by omega)]
theorem qPs_U {N : Nat → Nat} (h : qU N) (j : Nat) : qU (qPs N j) ∧ qPs N j 10 = N 10 := by
  induction j with
  | zero => exact ⟨h, rfl⟩
  | succ j ih =>
    obtain ⟨a, c⟩ := qU_pass ih.1
    exact ⟨a, c.trans ih.2⟩
