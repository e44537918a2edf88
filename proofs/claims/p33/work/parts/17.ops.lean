/-! the calls that change a shop: what they answer, and its numbers behind them (none: they stay, and nothing is saved) -/
abbrev qOp : Type := Int32 × Option (Nat → Nat)
abbrev tN (v : Int32) : Nat := v.toNatClampNeg
theorem tN_nI {j : Nat} (h : j < 2 ^ 31) : tN (nI j) = j := nI_clamp h
def oSetPrice (N : Nat → Nat) (kd p c : Int32) : qOp := if qIn 0 5 kd = true then (if (qIn 1 9999 p && qIn 1 9999 c) = true then (nI (N (11 + tN kd)), some (uN (uN N (11 + tN kd) (tN p)) (17 + tN kd) (tN c))) else (-2, none)) else (-1, none)
def oSetCut (N : Nat → Nat) (h p : Int32) : qOp := if qIn 0 10 h = true then (if qIn 0 90 p = true then (nI (N (23 + tN h)), some (uN N (23 + tN h) (tN p))) else (-2, none)) else (-1, none)
def oSetMelt (N : Nat → Nat) (m t : Int32) : qOp := if (qIn 0 500 m && qIn 0 100 t) = true then (nI (N 9), some (uN (uN N 8 (tN m)) 9 (tN t))) else (-2, none)
def oDeliver (N : Nat → Nat) (kd g fr bx : Int32) : qOp := if 0 ≤ aWhy N kd g fr bx then (nI (N 10 + 1), some (qDel N (tN kd) (tN g) (tN fr) (tN bx))) else (aWhy N kd g fr bx, none)
def qIce (N : Nat → Nat) (pl g : Nat) : Nat := if 5000 < N (34 + pl) + g then 5000 else N (34 + pl) + g
def oIce (N : Nat → Nat) (pl : Nat) (g : Int32) : qOp := if qIn 1 5000 g = true then (nI (qIce N pl (tN g)), some (uN N (34 + pl) (qIce N pl (tN g)))) else (-2, none)
def oIceBox (N : Nat → Nat) (bx g : Int32) : qOp := if qIn 0 5 bx = true then oIce N (tN bx) g else (-1, none)
def oIceTray (N : Nat → Nat) (t g : Int32) : qOp := if qIn 0 4 t = true then oIce N (6 + tN t) g else (-1, none)
def oOf (N : Nat → Nat) (x : Int32) (f : Nat → qOp) : qOp := match qF N x (N 2) with
  | none => (-1, none)
  | some k => f k
theorem oOf_n {N : Nat → Nat} {x : Int32} {f : Nat → qOp} (h : qF N x (N 2) = none) : oOf N x f = (-1, none) := by unfold oOf; rw [h]
theorem oOf_s {N : Nat → Nat} {x : Int32} {f : Nat → qOp} {k : Nat} (h : qF N x (N 2) = some k) : oOf N x f = f k := by unfold oOf; rw [h]
def oToTray (N : Nat → Nat) (x t : Int32) : qOp := oOf N x (fun k => if qIn 0 4 t = true then (if qCnt N (6 + tN t) (N 2) = 0 then (nI (qPrice (uN N (45 + 5 * k + 4) (6 + tN t)) k), some (uN N (45 + 5 * k + 4) (6 + tN t))) else (-3, none)) else (-1, none))
def oToBox (N : Nat → Nat) (x bx : Int32) : qOp := oOf N x (fun k => if qIn 0 5 bx = true then (if qL N k 4 = tN bx ∨ qCnt N (tN bx) (N 2) = 3 then (-3, none) else (nI (qCnt (uN N (45 + 5 * k + 4) (tN bx)) (tN bx) (N 2)), some (uN N (45 + 5 * k + 4) (tN bx)))) else (-1, none))
def qWhyD (N : Nat → Nat) (k g bx : Nat) : Int32 := if g < qL N k 2 then qRoom N bx else -3
def oDivide (N : Nat → Nat) (x g bx : Int32) : qOp := oOf N x (fun k => if qIn 0 5 bx = true then (if qIn 1 19999 g = true then (if 0 ≤ qWhyD N k (tN g) (tN bx) then (nI (N 10 + 1), some (qAdd (uN N (45 + 5 * k + 2) (qL N k 2 - tN g)) (qL N k 1) (tN g) (qL N k 3) (tN bx))) else (qWhyD N k (tN g) (tN bx), none)) else (-2, none)) else (-1, none))
def oThrow (N : Nat → Nat) (x : Int32) : qOp := oOf N x (fun k => (nI (qL N k 2), some (qThrow N k)))
def oPass (N : Nat → Nat) : qOp := if N 1 = 10 then (-3, none) else (nI (N 1 + 1), some (qPass N))
def oClose (N : Nat → Nat) : qOp := if N 0 = 999 then (-4, none) else (nI (qClose N 5 - N 5), some (qClose N))
/-- what is sold of lot k when w is still wanted, and the numbers behind it -/
def qMuch (N : Nat → Nat) (k w : Nat) : Nat := if qL N k 2 < w then qL N k 2 else w
def qSell1 (N : Nat → Nat) (k m : Nat) : Nat → Nat := uN (uN (uN N 4 (N 4 + m)) 7 (N 7 + qW m (qPrice N k))) (45 + 5 * k + 2) (qL N k 2 - m)
def qSell (N : Nat → Nat) (k m : Nat) : Nat → Nat := if qL N k 2 - m = 0 then qDrop (qSell1 N k m) k else qSell1 N k m
def qOr (kd fr pr g : Nat) : Nat → Nat → (Nat → Nat) → Nat × (Nat → Nat)
  | 0, s, N => (s, N)
  | f + 1, s, N => match qNx N kd fr pr (N 2) with
    | none => (s, N)
    | some k => if s < g then qOr kd fr pr g f (s + qMuch N k (g - s)) (qSell N k (qMuch N k (g - s))) else (s, N)
def oOrder (N : Nat → Nat) (kd g fr pr : Int32) : qOp := if qIn 0 5 kd = true then (if (qIn 1 20000 g && (qIn 0 100 fr && qIn 1 9999 pr)) = true then (nI (qOr (tN kd) (tN fr) (tN pr) (tN g) 17 0 N).1, some (qOr (tN kd) (tN fr) (tN pr) (tN g) 17 0 N).2) else (-2, none)) else (-1, none)
theorem qRoom_ge {N : Nat → Nat} {bx : Nat} (h : 0 ≤ qRoom N bx) : qCnt N bx (N 2) ≠ 3 ∧ N 2 ≠ 16 := by
  unfold qRoom at h
  split at h
  · exact absurd h (by decide)
  · split at h
    · exact absurd h (by decide)
    · constructor <;> assumption
theorem aWhy_ge {N : Nat → Nat} {kd g fr bx : Int32} (h : 0 ≤ aWhy N kd g fr bx) : (qIn 0 5 kd = true ∧ qIn 0 5 bx = true) ∧ (qIn 1 20000 g = true ∧ qIn 0 100 fr = true) ∧ qCnt N (tN bx) (N 2) ≠ 3 ∧ N 2 ≠ 16 := by
  unfold aWhy at h
  split at h
  · rename_i h1
    split at h
    · rename_i h2
      rw [Bool.and_eq_true] at h1 h2
      exact ⟨h1, h2, qRoom_ge h⟩
    · exact absurd h (by decide)
  · exact absurd h (by decide)
theorem qSell_k {N : Nat → Nat} (hI : qIr N) {k m : Nat} (hk : k < N 2) (hm : m ≤ qL N k 2) : qIr (qSell N k m) ∧ (m = qL N k 2 → qSell N k m 2 = N 2 - 1) ∧ qSell N k m 2 ≤ N 2 := by
  have a1 : qIr (uN (uN N 4 (N 4 + m)) 7 (N 7 + qW m (qPrice N k))) := qIr_a (qIr_a hI (by omega)) (by omega)
  have e2 : uN (uN N 4 (N 4 + m)) 7 (N 7 + qW m (qPrice N k)) 2 = N 2 := by rw [uN_n (by omega), uN_n (by omega)]
  unfold qSell
  split
  · unfold qSell1
    rw [qDrop_u (by rw [e2]; exact hk) (by omega), qDrop_2 (by rw [e2]; exact hk), e2]
    exact ⟨qIr_drop a1 (by rw [e2]; exact hk), fun _ => rfl, by omega⟩
  · have hl := qi_l2 hI hk
    refine ⟨qIr_l a1 (by omega) ⟨by omega, fun _ => by omega, by omega, by omega⟩, by omega, ?_⟩
    show uN _ _ _ 2 ≤ _
    rw [uN_n (by omega), e2]
    exact Nat.le_refl _
