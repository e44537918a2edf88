def qCpy (A B : Nat → Int32) (f t i : Nat) : Nat → Int32 := fun k => if t ≤ k ∧ k < t + i then A (f + (k - t)) else B k
theorem qCpy_0 {A B : Nat → Int32} {f t : Nat} : qCpy A B f t 0 = B := by
  funext k
  exact if_neg (by omega)
theorem qCpy_s {A B : Nat → Int32} {f t i : Nat} : upd (qCpy A B f t i) (t + i) (A (f + i)) = qCpy A B f t (i + 1) := by
  funext k
  unfold upd qCpy
  by_cases h : k = t + i
  · rw [if_pos h, if_pos (by omega), h]
    congr 2
    omega
  · rw [if_neg h]
    by_cases h2 : t ≤ k ∧ k < t + i
    · rw [if_pos h2, if_pos (by omega)]
    · rw [if_neg h2, if_neg (by omega)]
theorem wI_upd {σ : KS} {a j : Nat} {F G : Nat → Int32} {x : Int32} (h : upd F j x = G) : wI (wI σ a F) a (upd ((wI σ a F).1 a) j x) = wI σ a G := by rw [wI_self, wI_wI, h]
theorem upd_upd {f : Nat → Int32} {k : Nat} {x y : Int32} : upd (upd f k x) k y = upd f k y := by
  funext j
  unfold upd
  by_cases h : j = k
  · rw [if_pos h, if_pos h]
  · rw [if_neg h, if_neg h, if_neg h]
theorem upd_id {f : Nat → Int32} {k : Nat} {x : Int32} (h : f k = x) : upd f k x = f := by
  funext j
  unfold upd
  by_cases q : j = k
  · rw [if_pos q, q, h]
  · rw [if_neg q]
/-- how many are saved behind a call, the last of them N -/
def qRr (r : Nat) : Nat := if r = 6 then 5 else r
def aWhy (N : Nat → Nat) (kd g fr bx : Int32) : Int32 := if (qIn 0 5 kd && qIn 0 5 bx) = true then (if (qIn 1 20000 g && qIn 0 100 fr) = true then qRoom N bx.toNatClampNeg else -2) else -1
