/-! the reference's history and text, as states -/
def qCpy (A B : Nat → Int32) (f t i : Nat) : Nat → Int32 := fun k => if t ≤ k ∧ k < t + i then A (f + (k - t)) else B k
theorem qCpy_0 {A B : Nat → Int32} {f t : Nat} : qCpy A B f t 0 = B := by
  funext k
  exact if_neg (by omega)
theorem qCpy_s {A B : Nat → Int32} {f t i : Nat} : upd (qCpy A B f t i) (t + i) (A (f + i)) = qCpy A B f t (i + 1) := by
  funext k
  unfold upd qCpy
  by_cases h : k = t + i
  · rw [if_pos h, if_pos (by omega), h]
    congr 2
    omega
  · rw [if_neg h]
    by_cases h2 : t ≤ k ∧ k < t + i
    · rw [if_pos h2, if_pos (by omega)]
    · rw [if_neg h2, if_neg (by omega)]
theorem wI_upd {σ : KS} {a j : Nat} {F G : Nat → Int32} {x : Int32} (h : upd F j x = G) : wI (wI σ a F) a (upd ((wI σ a F).1 a) j x) = wI σ a G := by rw [wI_self, wI_wI, h]
def qSh (H : Nat → Int32) (i : Nat) : Nat → Int32 := fun k => if k < i then H (k + 125) else H k
theorem qSh_s {H : Nat → Int32} {i : Nat} : upd (qSh H i) i (H (i + 125)) = qSh H (i + 1) := by
  funext k
  unfold upd qSh
  by_cases h : k = i
  · rw [if_pos h, if_pos (by omega), h]
  · rw [if_neg h]
    by_cases h2 : k < i
    · rw [if_pos h2, if_pos (by omega)]
    · rw [if_neg h2, if_neg (by omega)]
theorem qSh_0 {H : Nat → Int32} : qSh H 0 = H := by
  funext k
  exact if_neg (by omega)
theorem qSh_at {H : Nat → Int32} {i : Nat} : qSh H i (i + 125) = H (i + 125) := if_neg (by omega)
theorem upd_upd {f : Nat → Int32} {k : Nat} {x y : Int32} : upd (upd f k x) k y = upd f k y := by
  funext j
  unfold upd
  by_cases h : j = k
  · rw [if_pos h, if_pos h]
  · rw [if_neg h, if_neg h, if_neg h]
theorem upd_id {f : Nat → Int32} {k : Nat} {x : Int32} (h : f k = x) : upd f k x = f := by
  funext j
  unfold upd
  by_cases q : j = k
  · rw [if_pos q, q, h]
  · rw [if_neg q]
/-- the state with r saved states, which lie in the row H -/
def wH (σ : KS) (r : Nat) (H : Nat → Int32) : KS := wI (wI σ 193 H) 190 (upd (σ.1 190) 3 (nI r))
theorem wH_id {σ : KS} {r : Nat} (hr : σ.1 190 3 = nI r) : wH σ r (σ.1 193) = σ := by
  unfold wH
  rw [wI_id (show σ.1 193 = σ.1 193 from rfl), upd_id hr, wI_id rfl]
theorem wH_r {σ : KS} {r : Nat} {H N : _} : (wN (wH σ r H) N).1 190 3 = nI r := by
  rw [wN_ne (by decide)]
  unfold wH
  rw [wI_self]
  exact if_pos rfl
theorem wH_H {σ : KS} {r : Nat} {H N : _} : (wN (wH σ r H) N).1 193 = H := by
  rw [wN_ne (by decide)]
  unfold wH
  rw [wI_ne (by decide), wI_self]
theorem wH_H2 {σ : KS} {r : Nat} {H N G : _} : wI (wN (wH σ r H) N) 193 G = wN (wH σ r G) N := by
  unfold wN wH
  rw [wI_comm (by decide), wI_comm (a := 190) (by decide), wI_wI]
theorem wH_r2 {σ : KS} {r x : Nat} {H N : _} : wI (wN (wH σ r H) N) 190 (upd ((wN (wH σ r H) N).1 190) 3 (nI x)) = wN (wH σ x H) N := by
  rw [wN_ne (by decide)]
  unfold wN wH
  rw [wI_comm (by decide), wI_self, wI_wI, upd_upd]
/-- how many are saved behind a call, the last of them N -/
def qRr (r : Nat) : Nat := if r = 6 then 5 else r
def qRH (r : Nat) (H : Nat → Int32) : Nat → Int32 := if r = 6 then qSh H 625 else H
def wRec (σ : KS) (N : Nat → Nat) (r : Nat) : KS := wH σ (qRr r + 1) (qCpy (fun k => nI (N k)) (qRH r (σ.1 193)) 0 (qRr r * 125) 125)
/-- a call's end: nothing changed, or the old state saved and the numbers N' -/
def wA (σ : KS) (N : Nat → Nat) (r : Nat) (o : Option (Nat → Nat)) : KS := match o with
  | none => wN σ N
  | some N' => wN (wRec σ N r) N'
def aWhy (N : Nat → Nat) (kd g fr bx : Int32) : Int32 := if (qIn 0 5 kd && qIn 0 5 bx) = true then (if (qIn 1 20000 g && qIn 0 100 fr) = true then qRoom N bx.toNatClampNeg else -2) else -1
