/-! the digest -/
def dF (f : Nat → Int64) (h : Int64) : Nat → Int64
  | 0 => h
  | i + 1 => 31 * dF f h i + f i
def dLot (N : Nat → Nat) (k : Nat) (h : Int64) : Int64 := 31 * (31 * dF (fun w => (qOfLot N k w).toInt64) (31 * h + (nI (qL N k 0)).toInt64) 7 + (qO (qLf N k 101)).toInt64) + (qHf (qBs N k (11 - N 1))).toInt64
def dLots (N : Nat → Nat) (h : Int64) : Nat → Int64
  | 0 => h
  | k + 1 => dLot N k (dLots N h k)
def dBoxes (N : Nat → Nat) (h : Int64) : Nat → Int64
  | 0 => h
  | k + 1 => dF (fun w => (qOfBox N k w).toInt64) (dBoxes N h k) 4
def dTrays (N : Nat → Nat) (h : Int64) : Nat → Int64
  | 0 => h
  | k + 1 => dF (fun w => (qOfTray N k w).toInt64) (dTrays N h k) 2
def dKinds (N : Nat → Nat) (h : Int64) : Nat → Int64
  | 0 => h
  | k + 1 => dF (fun w => (qOfKind N k w).toInt64) (dKinds N h k) 4
def dH1 (N : Nat → Nat) : Int64 := dF (fun w => lN (qCount N w)) 186 11
def dH2 (N : Nat → Nat) : Int64 := dLots N (dH1 N) (N 2)
def dH3 (N : Nat → Nat) : Int64 := dBoxes N (dH2 N) 6
def dH4 (N : Nat → Nat) : Int64 := dTrays N (dH3 N) 5
def dH5 (N : Nat → Nat) : Int64 := dKinds N (dH4 N) 6
def dH6 (N : Nat → Nat) : Int64 := dF (fun h => (nI (N (23 + h))).toInt64) (dH5 N) 11
def aDigest (N : Nat → Nat) : Int64 := 31 * dH6 N + lN (qWorth N (N 2))
theorem dF_s (f : Nat → Int64) (h : Int64) (i : Nat) : dF f h (i + 1) = 31 * dF f h i + f i := rfl
theorem dLots_s (N : Nat → Nat) (h : Int64) (k : Nat) : dLots N h (k + 1) = dLot N k (dLots N h k) := rfl
theorem dBoxes_s (N : Nat → Nat) (h : Int64) (k : Nat) : dBoxes N h (k + 1) = dF (fun w => (qOfBox N k w).toInt64) (dBoxes N h k) 4 := rfl
theorem dTrays_s (N : Nat → Nat) (h : Int64) (k : Nat) : dTrays N h (k + 1) = 31 * (31 * dTrays N h k + (qOfTray N k 0).toInt64) + (qOfTray N k 1).toInt64 := rfl
theorem dKinds_s (N : Nat → Nat) (h : Int64) (k : Nat) : dKinds N h (k + 1) = dF (fun w => (qOfKind N k w).toInt64) (dKinds N h k) 4 := rfl
