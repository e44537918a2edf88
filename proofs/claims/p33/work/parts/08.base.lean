/-! THE SYSTEM'S CELLS, by their offsets: 0 the counter; 1 to 23 its shop (the shop, its five rows of ints, its row of lots, sixteen lots); 24 to 46 the trial; 47 the forecast; 48, 49 the history and its row; 50 + 23 i the saved shops; 188, 189 the text and its signs; 190 the reference, 191 to 194 its rows -/
def shShop : List KSh := [.inl 4, .inr (.int, 6), .inr (.int, 6), .inr (.int, 11), .inr (.int, 6), .inr (.int, 5), .inr (.object "FishCounter$Lot", 16)] ++ List.replicate 16 (.inl 3)
def shC : List KSh := [.inl 5] ++ (shShop ++ (shShop ++ ([.inl 1, .inl 2, .inr (.object "FishCounter$Shop", 6)] ++ (shShop ++ (shShop ++ (shShop ++ (shShop ++ (shShop ++ (shShop ++ [.inl 0, .inr (.char, 80)])))))))))
/-- the cells from b on begin with those of the class -/
def shP (sh : List KSh) : Prop := ∀ (a : Nat) (q : KSh), shC[a]? = some q → sh[a]? = some q
def shL : List Nat := [1, 24, 50, 73, 96, 119, 142, 165]
theorem sf_c {sh : List KSh} (h : shP sh) : sh[0]? = some (.inl 5) := h _ _ (by decide +kernel)
theorem sf_fc {sh : List KSh} (h : shP sh) : sh[47]? = some (.inl 1) := h _ _ (by decide +kernel)
theorem sf_h {sh : List KSh} (h : shP sh) : sh[48]? = some (.inl 2) := h _ _ (by decide +kernel)
theorem sf_hs {sh : List KSh} (h : shP sh) : sh[49]? = some (.inr (.object "FishCounter$Shop", 6)) := h _ _ (by decide +kernel)
theorem sf_t {sh : List KSh} (h : shP sh) : sh[188]? = some (.inl 0) := h _ _ (by decide +kernel)
theorem sf_ts {sh : List KSh} (h : shP sh) : sh[189]? = some (.inr (.char, 80)) := h _ _ (by decide +kernel)
theorem so_0 {sh : List KSh} (h : shP sh) : ∀ o, o ∈ shL → sh[o]? = some (.inl 4) := fun o ho => h _ _ ((show ∀ o, o ∈ shL → shC[o]? = some (.inl 4) from by decide +kernel) o ho)
theorem so_1 {sh : List KSh} (h : shP sh) : ∀ o, o ∈ shL → sh[o + 1]? = some (.inr (.int, 6)) := fun o ho => h _ _ ((show ∀ o, o ∈ shL → shC[o + 1]? = some (.inr (.int, 6)) from by decide +kernel) o ho)
theorem so_2 {sh : List KSh} (h : shP sh) : ∀ o, o ∈ shL → sh[o + 2]? = some (.inr (.int, 6)) := fun o ho => h _ _ ((show ∀ o, o ∈ shL → shC[o + 2]? = some (.inr (.int, 6)) from by decide +kernel) o ho)
theorem so_3 {sh : List KSh} (h : shP sh) : ∀ o, o ∈ shL → sh[o + 3]? = some (.inr (.int, 11)) := fun o ho => h _ _ ((show ∀ o, o ∈ shL → shC[o + 3]? = some (.inr (.int, 11)) from by decide +kernel) o ho)
theorem so_4 {sh : List KSh} (h : shP sh) : ∀ o, o ∈ shL → sh[o + 4]? = some (.inr (.int, 6)) := fun o ho => h _ _ ((show ∀ o, o ∈ shL → shC[o + 4]? = some (.inr (.int, 6)) from by decide +kernel) o ho)
theorem so_5 {sh : List KSh} (h : shP sh) : ∀ o, o ∈ shL → sh[o + 5]? = some (.inr (.int, 5)) := fun o ho => h _ _ ((show ∀ o, o ∈ shL → shC[o + 5]? = some (.inr (.int, 5)) from by decide +kernel) o ho)
theorem so_6 {sh : List KSh} (h : shP sh) : ∀ o, o ∈ shL → sh[o + 6]? = some (.inr (.object "FishCounter$Lot", 16)) := fun o ho => h _ _ ((show ∀ o, o ∈ shL → shC[o + 6]? = some (.inr (.object "FishCounter$Lot", 16)) from by decide +kernel) o ho)
theorem so_l0 {sh : List KSh} (h : shP sh) : ∀ o, o ∈ shL → ∀ k, k < 16 → sh[o + 7 + k]? = some (.inl 3) := fun o ho k hk => h _ _ ((show ∀ o, o ∈ shL → ∀ k, k < 16 → shC[o + 7 + k]? = some (.inl 3) from by decide +kernel) o ho k hk)
theorem so_l {sh : List KSh} (h : shP sh) {o k : Nat} (ho : o ∈ shL) (hk : k < 16) : sh[o + 7 + k]? = some (.inl 3) := so_l0 h o ho k hk
theorem so_le : ∀ o, o ∈ shL → o ≤ 165 := by decide +kernel
/-- the references that never change -/
def PF (P : Nat → Nat → Option Nat) : Prop :=
  (P 0 0 = some 1 ∧ P 0 1 = some 24 ∧ P 0 2 = some 47 ∧ P 0 3 = some 48 ∧ P 0 4 = some 188) ∧ P 48 2 = some 49 ∧ (∀ i, i < 6 → P 49 i = some (50 + 23 * i)) ∧ P 188 6 = some 189 ∧
  ∀ o, o ∈ shL → P o 11 = some (o + 1) ∧ P o 12 = some (o + 2) ∧ P o 13 = some (o + 3) ∧ P o 14 = some (o + 4) ∧ P o 15 = some (o + 5) ∧ P o 16 = some (o + 6)
section PFS
variable {P : Nat → Nat → Option Nat}
theorem pf_00 (h : PF P) : P 0 0 = some 1 := h.1.1
theorem pf_01 (h : PF P) : P 0 1 = some 24 := h.1.2.1
theorem pf_02 (h : PF P) : P 0 2 = some 47 := h.1.2.2.1
theorem pf_03 (h : PF P) : P 0 3 = some 48 := h.1.2.2.2.1
theorem pf_04 (h : PF P) : P 0 4 = some 188 := h.1.2.2.2.2
theorem pf_h (h : PF P) : P 48 2 = some 49 := h.2.1
theorem pf_hs (h : PF P) {i : Nat} (hi : i < 6) : P 49 i = some (50 + 23 * i) := h.2.2.1 i hi
theorem pf_t (h : PF P) : P 188 6 = some 189 := h.2.2.2.1
theorem ps_11 (h : PF P) {o : Nat} (ho : o ∈ shL) : P o 11 = some (o + 1) := (h.2.2.2.2 o ho).1
theorem ps_12 (h : PF P) {o : Nat} (ho : o ∈ shL) : P o 12 = some (o + 2) := (h.2.2.2.2 o ho).2.1
theorem ps_13 (h : PF P) {o : Nat} (ho : o ∈ shL) : P o 13 = some (o + 3) := (h.2.2.2.2 o ho).2.2.1
theorem ps_14 (h : PF P) {o : Nat} (ho : o ∈ shL) : P o 14 = some (o + 4) := (h.2.2.2.2 o ho).2.2.2.1
theorem ps_15 (h : PF P) {o : Nat} (ho : o ∈ shL) : P o 15 = some (o + 5) := (h.2.2.2.2 o ho).2.2.2.2.1
theorem ps_16 (h : PF P) {o : Nat} (ho : o ∈ shL) : P o 16 = some (o + 6) := (h.2.2.2.2 o ho).2.2.2.2.2
end PFS
/-! THE NUMBERS OF A SHOP, as the reference has them in its row: N i is the i-th; lot k has its five from 45 + 5 k on: number, kind, grams, freshness, place (boxes 0 to 5, trays 6 to 10) -/
def uN (N : Nat → Nat) (j v : Nat) : Nat → Nat := fun k => if k = j then v else N k
theorem uN_s {N : Nat → Nat} {j v : Nat} : uN N j v j = v := if_pos rfl
theorem uN_n {N : Nat → Nat} {j v k : Nat} (h : k ≠ j) : uN N j v k = N k := if_neg h
abbrev qL (N : Nat → Nat) (k j : Nat) : Nat := N (45 + 5 * k + j)
/-- no lot, or lot k -/
def qO : Option Nat → Int32
  | none => -6
  | some k => nI k
theorem qO_ne {k : Nat} (h : k < 2 ^ 31) : ¬ nI k = (-6 : Int32) := fun q => nI_pos h (by rw [q]; decide)
theorem qO_n {o : Option Nat} (h : ∀ k, o = some k → k < 2 ^ 31) : qO o = (-6) ↔ o = none := by
  cases o with
  | none => exact ⟨fun _ => rfl, fun _ => rfl⟩
  | some k => exact ⟨fun q => absurd q (qO_ne (h k rfl)), fun q => by cases q⟩
def qIn (lo hi : Nat) (v : Int32) : Bool := decide (nI lo ≤ v) && decide (v ≤ nI hi)
theorem qIn_ex {lo hi : Nat} {v : Int32} (hl : lo < 2 ^ 31) (hh : hi < 2 ^ 31) (h : qIn lo hi v = true) : ∃ j, lo ≤ j ∧ j ≤ hi ∧ v = nI j := by
  unfold qIn at h
  rw [Bool.and_eq_true, decide_eq_true_eq, decide_eq_true_eq] at h
  have hv : ¬ v < 0 := Int32.not_lt.mpr (Int32.le_trans (nI_pos' hl) h.1)
  obtain ⟨j, hj, rfl⟩ := nI_of2 (nI_toInt hh) hv h.2
  exact ⟨j, (nI_leI hl (by omega)).mp h.1, hj, rfl⟩
theorem qIn_nI {lo hi j : Nat} (hl : lo < 2 ^ 31) (hh : hi < 2 ^ 31) (hj : j < 2 ^ 31) : qIn lo hi (nI j) = (decide (lo ≤ j) && decide (j ≤ hi)) := by
  unfold qIn
  congr 1
  · exact decide_eq_decide.mpr (nI_leI hl hj)
  · exact decide_eq_decide.mpr (nI_leI hj hh)
def qTray (pl : Nat) : Bool := decide (6 ≤ pl)
/-- where a lot lies, by its number -/
def qF (N : Nat → Nat) (x : Int32) : Nat → Option Nat
  | 0 => none
  | k + 1 => if nI (qL N k 0) = x then some k else qF N x k
/-- lot k goes: the count falls, the lots behind it move down, the last five places become 0 -/
def qD1 (N : Nat → Nat) (k : Nat) : Nat → Nat → Nat
  | 0 => uN N 2 (N 2 - 1)
  | j + 1 => uN (qD1 N k j) (45 + 5 * k + j) (qD1 N k j (45 + 5 * k + j + 5))
def qD2 (N : Nat → Nat) (n : Nat) : Nat → Nat → Nat
  | 0 => N
  | j + 1 => uN (qD2 N n j) (45 + 5 * n + j) 0
def qDrop (N : Nat → Nat) (k : Nat) : Nat → Nat := qD2 (qD1 N k (5 * (N 2 - 1 - k))) (N 2 - 1) 5
theorem qD1_2 (N : Nat → Nat) (k j : Nat) : qD1 N k j 2 = N 2 - 1 := by
  induction j with
  | zero => exact uN_s
  | succ j ih => exact (uN_n (by omega)).trans ih
theorem qD2_2 (N : Nat → Nat) (n j : Nat) : qD2 N n j 2 = N 2 := by
  induction j with
  | zero => rfl
  | succ j ih => exact (uN_n (by omega)).trans ih
def qThrow (N : Nat → Nat) (k : Nat) : Nat → Nat := qDrop (uN N 5 (N 5 + qL N k 2)) k
def qCnt (N : Nat → Nat) (pl : Nat) : Nat → Nat
  | 0 => 0
  | k + 1 => qCnt N pl k + (if qL N k 4 = pl then 1 else 0)
def qFst (N : Nat → Nat) (pl : Nat) : Nat → Option Nat → Option Nat
  | 0, f => f
  | k + 1, f => qFst N pl k (if qL N k 4 = pl then some k else f)
def qPr (N : Nat → Nat) (kd fr h : Nat) : Nat := N (11 + kd) * (50 + fr / 2) / 100 * (100 - N (23 + h)) / 100
def qPrice (N : Nat → Nat) (k : Nat) : Nat := qPr N (qL N k 1) (qL N k 3) (N 1)
def qW (g p : Nat) : Nat := g * p / 1000
def qSold (N : Nat → Nat) (k : Nat) : Bool := decide (N 9 ≤ qL N k 3)
def qAdd (N : Nat → Nat) (kd g fr bx : Nat) : Nat → Nat := uN (uN (uN (uN (uN (uN (uN N 2 (N 2 + 1)) 10 (N 10 + 1)) (45 + 5 * N 2 + 0) (N 10 + 1)) (45 + 5 * N 2 + 1) kd) (45 + 5 * N 2 + 2) g) (45 + 5 * N 2 + 3) fr) (45 + 5 * N 2 + 4) bx
def qRoom (N : Nat → Nat) (bx : Nat) : Int32 := if qCnt N bx (N 2) = 3 then -3 else if N 2 = 16 then -4 else 0
def qDel (N : Nat → Nat) (kd g fr bx : Nat) : Nat → Nat := qAdd (uN (uN N 3 (N 3 + g)) 6 (N 6 + qW g (N (17 + kd)))) kd g fr bx
/-- the lot that is sold next, among the first k -/
def qFits (N : Nat → Nat) (kd fr pr k : Nat) : Bool := decide (qL N k 1 = kd) && (qTray (qL N k 4) && (qSold N k && (decide (fr ≤ qL N k 3) && decide (qPrice N k ≤ pr))))
def qLess (N : Nat → Nat) (k : Nat) : Option Nat → Bool
  | none => true
  | some j => decide (qL N k 3 < qL N j 3)
def qNx (N : Nat → Nat) (kd fr pr : Nat) : Nat → Option Nat
  | 0 => none
  | k + 1 => if qFits N kd fr pr k = true ∧ qLess N k (qNx N kd fr pr k) = true then some k else qNx N kd fr pr k
def qLoss (pl ice : Nat) : Nat := if 6 ≤ pl then (if 0 < ice then 2 else 9) else (if 0 < ice then 1 else 6)
def qMelt (N : Nat → Nat) (pl : Nat) : Nat := if 6 ≤ pl then 2 * N 8 else N 8
def qP1 (N : Nat → Nat) : Nat → Nat → Nat
  | 0 => N
  | k + 1 => uN (qP1 N k) (45 + 5 * k + 3) (qL (qP1 N k) k 3 - qLoss (qL (qP1 N k) k 4) (qP1 N k (34 + qL (qP1 N k) k 4)))
def qP2 (N : Nat → Nat) : Nat → Nat → Nat
  | 0 => N
  | j + 1 => uN (qP2 N j) (34 + j) (qP2 N j (34 + j) - qMelt (qP2 N j) j)
def qPass (N : Nat → Nat) : Nat → Nat := uN (qP2 (qP1 N (N 2)) 11) 1 (N 1 + 1)
def qMore (N : Nat → Nat) (j : Nat) : Option Nat → Bool
  | none => true
  | some f => decide (N (34 + f) < N (34 + j))
/-- the box for the night, among the first j -/
def qCold (N : Nat → Nat) : Nat → Option Nat
  | 0 => none
  | j + 1 => if qCnt N j (N 2) < 3 ∧ qMore N j (qCold N j) = true then some j else qCold N j
def qC1 : Nat → (Nat → Nat) → Nat → Nat
  | 0, N => N
  | k + 1, N => qC1 k (if qSold N k = true then N else qThrow N k)
def qC2s (M : Nat → Nat) (pl : Nat) : Nat → Nat := match qFst M pl (M 2) none with
  | none => M
  | some k => match qCold M 6 with
    | none => qThrow M k
    | some bx => uN M (45 + 5 * k + 4) bx
def qC2 (N : Nat → Nat) : Nat → Nat → Nat
  | 0 => N
  | j + 1 => uN (qC2s (qC2 N j) (6 + j)) (34 + (6 + j)) 0
def qC3 (N : Nat → Nat) : Nat → Nat := qC2 (qC1 (N 2) N) 5
def qClose (N : Nat → Nat) : Nat → Nat := uN (uN (qC3 N) 0 (qC3 N 0 + 1)) 1 0
