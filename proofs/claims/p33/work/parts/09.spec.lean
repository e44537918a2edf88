/-! the sums, the forecasts, the answers -/
theorem qO_ex {o : Option Nat} (h : ¬ qO o = -6) : ∃ j, o = some j := by
  cases o with
  | none => exact absurd rfl h
  | some j => exact ⟨j, rfl⟩
def qM : Nat → Int32
  | 0 => -1
  | i + 1 => nI i
theorem qM_sub (n : Nat) : nI n - nI 1 = qM n := by
  cases n with
  | zero => decide
  | succ n => rw [pk_sub (by omega)]; rfl
theorem inc_mq (i : Nat) : nI i + Int32.ofInt (-1) = qM i := by
  rw [← qM_sub, show Int32.ofInt (-1) = -nI 1 from by decide +kernel, ← Int32.sub_eq_add_neg]
def qSum (N : Nat → Nat) : Nat → Nat
  | 0 => 0
  | k + 1 => qSum N k + qL N k 2
def qGAt (N : Nat → Nat) (pl : Nat) : Nat → Nat
  | 0 => 0
  | k + 1 => qGAt N pl k + (if qL N k 4 = pl then qL N k 2 else 0)
def qGKd (N : Nat → Nat) (kd : Nat) : Nat → Nat
  | 0 => 0
  | k + 1 => qGKd N kd k + (if qL N k 1 = kd then qL N k 2 else 0)
def qGr (N : Nat → Nat) (k : Nat) : Option Nat → Bool
  | none => true
  | some f => decide (qL N f 3 < qL N k 3)
def qFr (N : Nat → Nat) (kd : Nat) : Nat → Option Nat
  | 0 => none
  | k + 1 => if qL N k 1 = kd ∧ qGr N k (qFr N kd k) = true then some k else qFr N kd k
def qNum (N : Nat → Nat) : Option Nat → Int32
  | none => -6
  | some k => nI (qL N k 0)
def qCount (N : Nat → Nat) (w : Nat) : Nat := if w < 3 then N w else if w = 3 then qSum N (N 2) else N (w - 1)
def qOfLot (N : Nat → Nat) (k w : Nat) : Int32 := if w = 0 then nI (qL N k 1) else if w = 1 then nI (qL N k 2) else if w = 2 then nI (qL N k 3) else if w = 3 then (if qTray (qL N k 4) = true then -6 else nI (qL N k 4)) else if w = 4 then (if qTray (qL N k 4) = true then nI (qL N k 4 - 6) else -6) else if w = 5 then nI (qPrice N k) else nI (qW (qL N k 2) (qPrice N k))
def qOfBox (N : Nat → Nat) (bx w : Nat) : Int32 := if w = 0 then nI (N (34 + bx)) else if w = 1 then nI (qCnt N bx (N 2)) else if w = 2 then nI (qGAt N bx (N 2)) else qNum N (qFst N bx (N 2) none)
def qOfTray (N : Nat → Nat) (t w : Nat) : Int32 := if w = 0 then nI (N (34 + 6 + t)) else qNum N (qFst N (6 + t) (N 2) none)
def qOfKind (N : Nat → Nat) (kd w : Nat) : Int32 := if w = 0 then nI (N (11 + kd)) else if w = 1 then nI (N (17 + kd)) else if w = 2 then nI (qGKd N kd (N 2)) else qNum N (qFr N kd (N 2))
/-- freshness and ice of lot k after some hours -/
def qFI (N : Nat → Nat) (k : Nat) : Nat → Nat × Nat
  | 0 => (qL N k 3, N (34 + qL N k 4))
  | h + 1 => ((qFI N k h).1 - qLoss (qL N k 4) (qFI N k h).2, (qFI N k h).2 - qMelt N (qL N k 4))
def qLf (N : Nat → Nat) (k : Nat) : Nat → Option Nat
  | 0 => none
  | h + 1 => if N 9 ≤ (qFI N k h).1 then some h else qLf N k h
def qWat (N : Nat → Nat) (k j : Nat) : Nat := qW (qL N k 2) (qPr N (qL N k 1) (qFI N k j).1 (N 1 + j))
/-- the best hour among the first j from the current one, and what all costs then -/
def qBt (w h : Nat) : Option (Nat × Nat) → Option (Nat × Nat)
  | none => some (h, w)
  | some q => if q.2 < w then some (h, w) else some q
def qBs (N : Nat → Nat) (k : Nat) : Nat → Option (Nat × Nat)
  | 0 => none
  | j + 1 => qBt (qWat N k j) (N 1 + j) (qBs N k j)
def qPs (N : Nat → Nat) : Nat → Nat → Nat
  | 0 => N
  | j + 1 => qPass (qPs N j)
def qIfC (N : Nat → Nat) (hs : Nat) : Nat := qClose (qPs N (min hs (10 - N 1))) 5 - N 5
def qWorth (N : Nat → Nat) : Nat → Nat
  | 0 => 0
  | k + 1 => qWorth N k + (if qSold N k = true then qW (qL N k 2) (qPrice N k) else 0)
/-! what is in range -/
def qIr (N : Nat → Nat) : Prop :=
  N 0 ≤ 999 ∧ N 1 ≤ 10 ∧ N 2 ≤ 16 ∧ N 8 ≤ 500 ∧ N 9 ≤ 100 ∧ (∀ k, k < 6 → 1 ≤ N (11 + k) ∧ N (11 + k) ≤ 9999) ∧ (∀ k, k < 6 → 1 ≤ N (17 + k) ∧ N (17 + k) ≤ 9999) ∧ (∀ k, k < 11 → N (23 + k) ≤ 90) ∧ (∀ k, k < 11 → N (34 + k) ≤ 5000) ∧
  ∀ k, k < N 2 → qL N k 1 < 6 ∧ (1 ≤ qL N k 2 ∧ qL N k 2 ≤ 20000) ∧ qL N k 3 ≤ 100 ∧ qL N k 4 < 11
section QIR
variable {N : Nat → Nat}
theorem qi_0 (h : qIr N) : N 0 ≤ 999 := h.1
theorem qi_1 (h : qIr N) : N 1 ≤ 10 := h.2.1
theorem qi_2 (h : qIr N) : N 2 ≤ 16 := h.2.2.1
theorem qi_8 (h : qIr N) : N 8 ≤ 500 := h.2.2.2.1
theorem qi_9 (h : qIr N) : N 9 ≤ 100 := h.2.2.2.2.1
theorem qi_p (h : qIr N) {k : Nat} (hk : k < 6) : N (11 + k) ≤ 9999 := (h.2.2.2.2.2.1 k hk).2
theorem qi_c (h : qIr N) {k : Nat} (hk : k < 6) : N (17 + k) ≤ 9999 := (h.2.2.2.2.2.2.1 k hk).2
theorem qi_t (h : qIr N) {k : Nat} (hk : k < 11) : N (23 + k) ≤ 90 := h.2.2.2.2.2.2.2.1 k hk
theorem qi_i (h : qIr N) {k : Nat} (hk : k < 11) : N (34 + k) ≤ 5000 := h.2.2.2.2.2.2.2.2.1 k hk
theorem qi_l1 (h : qIr N) {k : Nat} (hk : k < N 2) : qL N k 1 < 6 := (h.2.2.2.2.2.2.2.2.2 k hk).1
theorem qi_l2 (h : qIr N) {k : Nat} (hk : k < N 2) : qL N k 2 ≤ 20000 := (h.2.2.2.2.2.2.2.2.2 k hk).2.1.2
theorem qi_l2p (h : qIr N) {k : Nat} (hk : k < N 2) : 1 ≤ qL N k 2 := (h.2.2.2.2.2.2.2.2.2 k hk).2.1.1
theorem qi_l3 (h : qIr N) {k : Nat} (hk : k < N 2) : qL N k 3 ≤ 100 := (h.2.2.2.2.2.2.2.2.2 k hk).2.2.1
theorem qi_l4 (h : qIr N) {k : Nat} (hk : k < N 2) : qL N k 4 < 11 := (h.2.2.2.2.2.2.2.2.2 k hk).2.2.2
end QIR
theorem qPr_le {N : Nat → Nat} {kd fr h : Nat} (hp : N (11 + kd) ≤ 9999) (hf : fr ≤ 100) : qPr N kd fr h ≤ 9999 := by
  have h0 := Nat.mul_le_mul hp (show 50 + fr / 2 ≤ 100 from by omega)
  have h1 := Nat.mul_le_mul (show N (11 + kd) * (50 + fr / 2) / 100 ≤ 9999 from by omega) (show 100 - N (23 + h) ≤ 100 from by omega)
  unfold qPr
  omega
theorem qPrice_le {N : Nat → Nat} (h : qIr N) {k : Nat} (hk : k < N 2) : qPrice N k ≤ 9999 := qPr_le (qi_p h (qi_l1 h hk)) (qi_l3 h hk)
theorem qW_b {g q : Nat} (hg : g ≤ 20000) (hq : q ≤ 9999) : g * q < 2 ^ 31 := by
  have := Nat.mul_le_mul hg hq
  omega
theorem qW_le {g q : Nat} (hg : g ≤ 20000) (hq : q ≤ 9999) : qW g q ≤ 199980 := by
  have := Nat.mul_le_mul hg hq
  unfold qW
  omega
theorem qF_lt {N : Nat → Nat} {x : Int32} {n j : Nat} (h : qF N x n = some j) : j < n := by
  induction n with
  | zero => cases h
  | succ n ih =>
    unfold qF at h
    split at h
    · cases h; omega
    · have := ih h; omega
theorem qFst_lt {N : Nat → Nat} {pl n j : Nat} {f : Option Nat} {B : Nat} (h : qFst N pl n f = some j) (hn : n ≤ B) (hf : ∀ q, f = some q → q < B) : j < B := by
  induction n generalizing f with
  | zero => exact hf j h
  | succ n ih =>
    refine ih h (by omega) (fun q hq => ?_)
    split at hq
    · cases hq; omega
    · exact hf q hq
theorem qNx_lt {N : Nat → Nat} {kd fr pr n j : Nat} (h : qNx N kd fr pr n = some j) : j < n := by
  induction n with
  | zero => cases h
  | succ n ih =>
    unfold qNx at h
    split at h
    · cases h; omega
    · have := ih h; omega
theorem qFr_lt {N : Nat → Nat} {kd n j : Nat} (h : qFr N kd n = some j) : j < n := by
  induction n with
  | zero => cases h
  | succ n ih =>
    unfold qFr at h
    split at h
    · cases h; omega
    · have := ih h; omega
theorem qCold_lt {N : Nat → Nat} {n j : Nat} (h : qCold N n = some j) : j < n := by
  induction n with
  | zero => cases h
  | succ n ih =>
    unfold qCold at h
    split at h
    · cases h; omega
    · have := ih h; omega
theorem qCnt_le (N : Nat → Nat) (pl n : Nat) : qCnt N pl n ≤ n := by
  induction n with
  | zero => exact Nat.le_refl 0
  | succ n ih => unfold qCnt; split <;> omega
theorem qFI_le (N : Nat → Nat) (k h : Nat) : (qFI N k h).1 ≤ qL N k 3 ∧ (qFI N k h).2 ≤ N (34 + qL N k 4) := by
  induction h with
  | zero => exact ⟨Nat.le_refl _, Nat.le_refl _⟩
  | succ h ih => exact ⟨by unfold qFI; show _ - _ ≤ _; omega, by unfold qFI; show _ - _ ≤ _; omega⟩
theorem qSum_le {N : Nat → Nat} (h : qIr N) {n : Nat} (hn : n ≤ N 2) : qSum N n ≤ 20000 * n := by
  induction n with
  | zero => exact Nat.le_refl 0
  | succ n ih => have := ih (by omega); have := qi_l2 h (show n < N 2 from hn); unfold qSum; omega
theorem qGAt_le {N : Nat → Nat} (h : qIr N) {pl n : Nat} (hn : n ≤ N 2) : qGAt N pl n ≤ 20000 * n := by
  induction n with
  | zero => exact Nat.le_refl 0
  | succ n ih => have := ih (by omega); have := qi_l2 h (show n < N 2 from hn); unfold qGAt; split <;> omega
theorem qGKd_le {N : Nat → Nat} (h : qIr N) {kd n : Nat} (hn : n ≤ N 2) : qGKd N kd n ≤ 20000 * n := by
  induction n with
  | zero => exact Nat.le_refl 0
  | succ n ih => have := ih (by omega); have := qi_l2 h (show n < N 2 from hn); unfold qGKd; split <;> omega
theorem qTray_t {pl : Nat} (h : qTray pl = true) : 6 ≤ pl := of_decide_eq_true h
theorem qTray_f {pl : Nat} (h : qTray pl = false) : ¬ 6 ≤ pl := of_decide_eq_false h
theorem qMelt_t {N : Nat → Nat} {pl : Nat} (h : qTray pl = true) : qMelt N pl = 2 * N 8 := if_pos (qTray_t h)
theorem qMelt_f {N : Nat → Nat} {pl : Nat} (h : qTray pl = false) : qMelt N pl = N 8 := if_neg (qTray_f h)
theorem qLoss_le (pl ice : Nat) : qLoss pl ice ≤ 9 := by unfold qLoss; split <;> split <;> omega
theorem kDif_ge {a c : Nat} (ha : a < 2 ^ 30) (hc : c < 2 ^ 30) (h : 0 ≤ nI a - nI c) : c ≤ a := by
  rcases Nat.lt_or_ge a c with q | q
  · exact absurd (pk_sneg hc q) (Int32.not_lt.mpr h)
  · exact q
theorem kDif_lt {a c : Nat} (ha : a < 2 ^ 30) (hc : c < 2 ^ 30) (h : ¬ 0 ≤ nI a - nI c) : a < c := by
  rcases Nat.lt_or_ge a c with q | q
  · exact q
  · exact absurd (by rw [pk_sub q]; exact nI_pos' (by omega)) h
def qHf : Option (Nat × Nat) → Int32
  | none => -6
  | some q => nI q.1
def qHm : Option (Nat × Nat) → Int32
  | none => -6
  | some q => nI q.2
theorem qB_le {w h : Nat} {o : Option (Nat × Nat)} (hw : w < 2 ^ 31) (hq : ∀ q, o = some q → q.2 < 2 ^ 31) (c : nI w ≤ qHm o) : qBt w h o = o := by
  cases o with
  | none => exact absurd (Int32.lt_of_le_of_lt c (show (-6 : Int32) < 0 from by decide)) (nI_pos hw)
  | some q => exact if_neg (by have := (nI_leI hw (hq q rfl)).mp c; omega)
theorem qB_gt {w h : Nat} {o : Option (Nat × Nat)} (hw : w < 2 ^ 31) (hq : ∀ q, o = some q → q.2 < 2 ^ 31) (c : ¬ nI w ≤ qHm o) : qBt w h o = some (h, w) := by
  cases o with
  | none => rfl
  | some q => exact if_pos (by rcases Nat.lt_or_ge q.2 w with z | z; exact z; exact absurd ((nI_leI hw (hq q rfl)).mpr z) c)
theorem qBs_b {N : Nat → Nat} (hI : qIr N) {k : Nat} (hk : k < N 2) {j : Nat} {q : Nat × Nat} (h : qBs N k j = some q) : q.2 ≤ 199980 ∧ q.1 < N 1 + j := by
  induction j generalizing q with
  | zero => cases h
  | succ j ih =>
    have hw : qWat N k j ≤ 199980 := qW_le (qi_l2 hI hk) (qPr_le (qi_p hI (qi_l1 hI hk)) (Nat.le_trans (qFI_le N k j).1 (qi_l3 hI hk)))
    unfold qBs at h
    cases ho : qBs N k j with
    | none => rw [ho] at h; cases h; exact ⟨hw, by show N 1 + j < _; omega⟩
    | some r =>
      rw [ho] at h
      have := ih ho
      unfold qBt at h
      dsimp only at h
      split at h
      · cases h; exact ⟨hw, by show N 1 + j < _; omega⟩
      · cases h; exact ⟨this.1, by omega⟩
/-! the answers of the public methods, for any arguments -/
def aCount (N : Nat → Nat) (v : Int32) : Int64 := if qIn 0 10 v = true then lN (qCount N v.toNatClampNeg) else -2
def aOf (N : Nat → Nat) (x : Int32) (f : Nat → Int32) : Int32 := match qF N x (N 2) with
  | none => -1
  | some k => f k
def aLot (N : Nat → Nat) (x w : Int32) : Int32 := aOf N x (fun k => if qIn 0 6 w = true then qOfLot N k w.toNatClampNeg else -2)
def aBox (N : Nat → Nat) (x w : Int32) : Int32 := if qIn 0 5 x = true then (if qIn 0 3 w = true then qOfBox N x.toNatClampNeg w.toNatClampNeg else -2) else -1
def aTray (N : Nat → Nat) (x w : Int32) : Int32 := if qIn 0 4 x = true then (if qIn 0 1 w = true then qOfTray N x.toNatClampNeg w.toNatClampNeg else -2) else -1
def aKind (N : Nat → Nat) (x w : Int32) : Int32 := if qIn 0 5 x = true then (if qIn 0 3 w = true then qOfKind N x.toNatClampNeg w.toNatClampNeg else -2) else -1
def aCut (N : Nat → Nat) (x : Int32) : Int32 := if qIn 0 10 x = true then nI (N (23 + x.toNatClampNeg)) else -1
def aFresh (N : Nat → Nat) (x w : Int32) : Int32 := aOf N x (fun k => if qIn 0 100 w = true then nI (qFI N k w.toNatClampNeg).1 else -2)
def aLeft (N : Nat → Nat) (x : Int32) : Int32 := aOf N x (fun k => qO (qLf N k 101))
def aBest (N : Nat → Nat) (x : Int32) : Int32 := aOf N x (fun k => qHf (qBs N k (11 - N 1)))
theorem aOf_n {N : Nat → Nat} {x : Int32} {f : Nat → Int32} (h : qF N x (N 2) = none) : aOf N x f = -1 := by unfold aOf; rw [h]
theorem aOf_s {N : Nat → Nat} {x : Int32} {f : Nat → Int32} {k : Nat} (h : qF N x (N 2) = some k) : aOf N x f = f k := by unfold aOf; rw [h]
theorem qI_t {lo hi j : Nat} {α : Type} {f : Nat → α} {y : α} (h : qIn lo hi (nI j) = true) (hj : j < 2 ^ 31) : (if qIn lo hi (nI j) = true then f (nI j).toNatClampNeg else y) = f j := by rw [if_pos h, nI_clamp hj]
theorem qI_f {lo hi : Nat} {v : Int32} {α : Type} {x y : α} (h : qIn lo hi v = false) : (if qIn lo hi v = true then x else y) = y := by rw [if_neg (by rw [h]; decide)]
theorem qF_no {N : Nat → Nat} {x : Int32} (h2 : N 2 ≤ 16) (h : qO (qF N x (N 2)) = -6) : qF N x (N 2) = none := (qO_n (fun j hj => by have := qF_lt hj; omega)).mp h
theorem qOfLot_3 (N : Nat → Nat) (k : Nat) : qOfLot N k 3 = if qTray (qL N k 4) = true then -6 else nI (qL N k 4) := rfl
theorem qOfLot_4 (N : Nat → Nat) (k : Nat) : qOfLot N k 4 = if qTray (qL N k 4) = true then nI (qL N k 4 - 6) else -6 := rfl
