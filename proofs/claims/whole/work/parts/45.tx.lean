/-! THE CLASS: its text -/
def xNr : Option (Nat × Nat) → Int32
  | none => -6
  | some q => nI q.1
def xNp (p : Nat) : Option (Nat × Nat) → Nat
  | none => p
  | some q => q.2
/-- what an item's reading leaves in the text's own fields -/
def xPj (F G : Nat → Int32) (it : xIt) : Prop := G 0 = F 0 ∧ G 5 = nI it.2 ∧ ∀ q, it.1 = some q → G 1 = nI q.1 ∧ G 2 = nI q.2.1 ∧ G 3 = nI q.2.2.1 ∧ G 4 = nI q.2.2.2
def oType (T : Nat → Nat) (n : Nat) (x : Int32) : Int32 × (Nat → Nat) × Nat := if qIn 33 126 x = true then (if n = 80 then (-4, T, n) else (nI (n + 1), uN T n (tN x), n + 1)) else (-2, T, n)
theorem CI.tx {σ τ : KS} {N : Nat → Nat} {r n m : Nat} {hs : Nat → Nat → Nat} {T U : Nat → Nat} (h : CI σ N r hs T n) (h16 : N 2 ≤ 16) (e1 : ∀ x, x < 188 → τ.1 x = σ.1 x) (e2 : τ.2 = σ.2) (e3 : Tx τ U m) : CI τ N r hs U m := by
  obtain ⟨p, ⟨π, c⟩, ⟨ρ, d⟩, ⟨nx, h1, h2, h3, h4, h5, h6⟩, g⟩ := h
  have e21 : τ.2.1 = σ.2.1 := by rw [e2]
  have e22 : τ.2.2 = σ.2.2 := by rw [e2]
  refine ⟨by rw [e22]; exact p, ⟨π, c.of h16 (fun x hx hy => e1 x (by omega)) (by rw [e21]) (by rw [e22])⟩, ⟨ρ, d.of (by rw [e22])⟩, ⟨nx, h1, h2, (by rw [e1 48 (by omega)]; exact h3), (by rw [e1 48 (by omega)]; exact h4), fun i hi => ?_, fun j hj => ?_⟩, e3⟩
  · obtain ⟨ρ, q⟩ := h5 i hi
    exact ⟨ρ, q.of (by rw [e22])⟩
  · obtain ⟨a1, ρ, a2⟩ := h6 j hj
    have hm : (nx + 6 - r + j) % 6 < 6 := Nat.mod_lt _ (by decide)
    exact ⟨a1, ρ, a2.of a1 (fun x hx hy => e1 x (by omega)) (by rw [e21]) (by rw [e22])⟩
theorem xMore_e {T : Nat → Nat} {n hi f v p : Nat} (h : xDig T n p = none) : xMore T n hi (f + 1) v p = (v, p) := by
  show (match xDig T n p with | none => (v, p) | some d => if 10 * v + d ≤ hi then xMore T n hi f (10 * v + d) (p + 1) else (v, p)) = _
  rw [h]
theorem xMore_d {T : Nat → Nat} {n hi f v p d : Nat} (h : xDig T n p = some d) : xMore T n hi (f + 1) v p = if 10 * v + d ≤ hi then xMore T n hi f (10 * v + d) (p + 1) else (v, p) := by
  show (match xDig T n p with | none => (v, p) | some d => if 10 * v + d ≤ hi then xMore T n hi f (10 * v + d) (p + 1) else (v, p)) = _
  rw [h]
theorem xDig_ge {T : Nat → Nat} {n p : Nat} (h : ¬ p < n) : xDig T n p = none := if_neg (fun q => h q.1)
theorem qO_dn {o : Option Nat} (h : ∀ k, o = some k → k < 2 ^ 31) (c : qO o = -6) : o = none := (qO_n h).mp c
theorem xItem_n {T : Nat → Nat} {n p : Nat} (h : ¬ p < n) : xItem T n p = (none, p) := by
  unfold xItem xNum
  rw [xDig_ge h]
theorem xIs_t {T : Nat → Nat} {n q p : Nat} (h : p < n) (h2 : T p = q) : xIs T n q p = true := by
  unfold xIs
  rw [decide_eq_true h, decide_eq_true h2]
  rfl
theorem xIs_f1 {T : Nat → Nat} {n q p : Nat} (h : ¬ p < n) : xIs T n q p = false := by
  unfold xIs
  rw [decide_eq_false h, Bool.false_and]
theorem xIs_f2 {T : Nat → Nat} {n q p : Nat} (h : ¬ T p = q) : xIs T n q p = false := by
  unfold xIs
  rw [decide_eq_false h, Bool.and_false]
theorem i2c_k : ∀ u, u < 127 → ((nI u).toUInt32 % 65536).toInt32 = nI u := by decide +kernel
theorem i2c_nI {u : Nat} (h : u < 127) : ((nI u).toUInt32 % 65536).toInt32 = nI u := i2c_k u h
theorem nar_nI {u : Nat} (h : u < 127) : narrow .char (.int (nI u)) = .int (nI u) := by
  show Value.int _ = _
  exact congrArg Value.int (i2c_nI h)
