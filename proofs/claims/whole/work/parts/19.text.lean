/-! the text: n signs, T j is the code of the j-th; what is read from place p on -/
def xCh (T : Nat → Nat) (n p : Nat) : Int32 := if p < n then nI (T p) else -1
def xDig (T : Nat → Nat) (n p : Nat) : Option Nat := if p < n ∧ 48 ≤ T p ∧ T p ≤ 57 then some (T p - 48) else none
def xMore (T : Nat → Nat) (n hi : Nat) : Nat → Nat → Nat → Nat × Nat
  | 0, v, p => (v, p)
  | f + 1, v, p => match xDig T n p with
    | none => (v, p)
    | some d => if 10 * v + d ≤ hi then xMore T n hi f (10 * v + d) (p + 1) else (v, p)
/-- a number from lo to hi, and the place behind it -/
def xNum (T : Nat → Nat) (n lo hi p : Nat) : Option (Nat × Nat) := match xDig T n p with
  | none => none
  | some d => if lo ≤ d ∧ d ≤ hi then some (if d = 0 then (0, p + 1) else xMore T n hi 81 d (p + 1)) else none
def xIs (T : Nat → Nat) (n c p : Nat) : Bool := decide (p < n) && decide (T p = c)
/-- an item: kind, grams, freshness, box, the place behind it; or the place where it ends to be one -/
abbrev xIt : Type := Option (Nat × Nat × Nat × Nat) × Nat
def xI4 (T : Nat → Nat) (n kd g fr p : Nat) : xIt := if xIs T n 64 p = true then (match xNum T n 0 5 (p + 1) with | none => (none, p + 1) | some q => (some (kd, g, fr, q.1), q.2)) else (none, p)
def xI3 (T : Nat → Nat) (n kd g p : Nat) : xIt := if xIs T n 47 p = true then (match xNum T n 0 100 (p + 1) with | none => (none, p + 1) | some q => xI4 T n kd g q.1 q.2) else (none, p)
def xI2 (T : Nat → Nat) (n kd p : Nat) : xIt := if xIs T n 58 p = true then (match xNum T n 1 20000 (p + 1) with | none => (none, p + 1) | some q => xI3 T n kd q.1 q.2) else (none, p)
def xItem (T : Nat → Nat) (n p : Nat) : xIt := match xNum T n 0 5 p with
  | none => (none, p)
  | some q => xI2 T n q.1 q.2
/-- the first error from the item at p on; -6 where there is none -/
def xErr (T : Nat → Nat) (n : Nat) : Nat → Nat → Int32
  | 0, p => nI p
  | f + 1, p => match xItem T n p with
    | (none, z) => nI z
    | (some _, z) => if z = n then -6 else if xIs T n 59 z = true then xErr T n f (z + 1) else nI z
theorem xDig_lt {T : Nat → Nat} {n p d : Nat} (h : xDig T n p = some d) : p < n ∧ d ≤ 9 ∧ T p = 48 + d := by
  unfold xDig at h
  split at h
  · cases h; omega
  · cases h
theorem xMore_p {T : Nat → Nat} {n hi f v p : Nat} (hp : p ≤ n) : p ≤ (xMore T n hi f v p).2 ∧ (xMore T n hi f v p).2 ≤ n := by
  induction f generalizing v p with
  | zero => exact ⟨Nat.le_refl _, hp⟩
  | succ f ih =>
    unfold xMore
    cases hd : xDig T n p with
    | none => exact ⟨Nat.le_refl _, hp⟩
    | some d =>
      have := xDig_lt hd
      dsimp only
      split
      · have := ih (v := 10 * v + d) (p := p + 1) (by omega)
        omega
      · exact ⟨Nat.le_refl _, hp⟩
theorem xMore_v {T : Nat → Nat} {n hi f v p : Nat} (hv : v ≤ hi) : (xMore T n hi f v p).1 ≤ hi ∧ v ≤ (xMore T n hi f v p).1 := by
  induction f generalizing v p with
  | zero => exact ⟨hv, Nat.le_refl _⟩
  | succ f ih =>
    unfold xMore
    cases hd : xDig T n p with
    | none => exact ⟨hv, Nat.le_refl _⟩
    | some d =>
      dsimp only
      split
      · have := ih (v := 10 * v + d) (p := p + 1) (by assumption)
        omega
      · exact ⟨hv, Nat.le_refl _⟩
theorem xNum_b {T : Nat → Nat} {n lo hi p : Nat} {q : Nat × Nat} (h : xNum T n lo hi p = some q) : p < q.2 ∧ q.2 ≤ n ∧ lo ≤ q.1 ∧ q.1 ≤ hi := by
  unfold xNum at h
  cases hd : xDig T n p with
  | none => rw [hd] at h; cases h
  | some d =>
    rw [hd] at h
    have := xDig_lt hd
    dsimp only at h
    split at h
    · cases h
      split
      · dsimp only; omega
      · have a := xMore_p (T := T) (n := n) (hi := hi) (f := 81) (v := d) (p := p + 1) (by omega)
        have c := xMore_v (T := T) (n := n) (hi := hi) (f := 81) (v := d) (p := p + 1) (by omega)
        omega
    · cases h
theorem xIs_lt {T : Nat → Nat} {n c p : Nat} (h : xIs T n c p = true) : p < n := by
  unfold xIs at h
  rw [Bool.and_eq_true] at h
  exact of_decide_eq_true h.1
theorem xItem_b {T : Nat → Nat} {n p : Nat} (hp : p ≤ n) : (xItem T n p).2 ≤ n ∧ ∀ q, (xItem T n p).1 = some q → p < (xItem T n p).2 ∧ q.1 ≤ 5 ∧ (1 ≤ q.2.1 ∧ q.2.1 ≤ 20000) ∧ q.2.2.1 ≤ 100 ∧ q.2.2.2 ≤ 5 := by
  unfold xItem
  cases h1 : xNum T n 0 5 p with
  | none => exact ⟨hp, fun q hq => by cases hq⟩
  | some q1 =>
    have b1 := xNum_b h1
    dsimp only
    unfold xI2
    split
    · rename_i s1
      have := xIs_lt s1
      cases h2 : xNum T n 1 20000 (q1.2 + 1) with
      | none => exact ⟨by dsimp only; omega, fun q hq => by cases hq⟩
      | some q2 =>
        have b2 := xNum_b h2
        dsimp only
        unfold xI3
        split
        · rename_i s2
          have := xIs_lt s2
          cases h3 : xNum T n 0 100 (q2.2 + 1) with
          | none => exact ⟨by dsimp only; omega, fun q hq => by cases hq⟩
          | some q3 =>
            have b3 := xNum_b h3
            dsimp only
            unfold xI4
            split
            · rename_i s3
              have := xIs_lt s3
              cases h4 : xNum T n 0 5 (q3.2 + 1) with
              | none => exact ⟨by dsimp only; omega, fun q hq => by cases hq⟩
              | some q4 =>
                have b4 := xNum_b h4
                refine ⟨by dsimp only; omega, fun q hq => ?_⟩
                cases hq
                dsimp only
                omega
            · exact ⟨by dsimp only; omega, fun q hq => by cases hq⟩
        · exact ⟨by dsimp only; omega, fun q hq => by cases hq⟩
    · exact ⟨by dsimp only; omega, fun q hq => by cases hq⟩
theorem xCh_dig {T : Nat → Nat} {n p : Nat} (hT : ∀ j, j < n → T j < 128) {lo hi : Nat} (hh : lo ≤ 9 ∧ hi ≤ 9) : (decide (nI (48 + lo) ≤ xCh T n p) && decide (xCh T n p ≤ nI (48 + hi))) = (match xDig T n p with | none => false | some d => decide (lo ≤ d) && decide (d ≤ hi)) := by
  unfold xCh xDig
  by_cases hp : p < n
  · have := hT p hp
    rw [if_pos hp]
    rw [show decide (nI (48 + lo) ≤ nI (T p)) = decide (48 + lo ≤ T p) from decide_eq_decide.mpr (nI_leI (by omega) (by omega)), show decide (nI (T p) ≤ nI (48 + hi)) = decide (T p ≤ 48 + hi) from decide_eq_decide.mpr (nI_leI (by omega) (by omega))]
    by_cases h2 : 48 ≤ T p ∧ T p ≤ 57
    · rw [if_pos ⟨hp, h2⟩]
      dsimp only
      congr 1
      · exact decide_eq_decide.mpr (by omega)
      · exact decide_eq_decide.mpr (by omega)
    · rw [if_neg (fun q => h2 q.2)]
      dsimp only
      rw [Bool.and_eq_false_iff]
      rcases Nat.lt_or_ge (T p) 48 with q | q
      · exact Or.inl (decide_eq_false (by omega))
      · exact Or.inr (decide_eq_false (by omega))
  · rw [if_neg hp, if_neg (fun q => hp q.1)]
    dsimp only
    rw [decide_eq_false (show ¬ nI (48 + lo) ≤ (-1 : Int32) from fun q => absurd (Int32.lt_of_le_of_lt q (show (-1 : Int32) < 0 from by decide)) (nI_pos (by omega))), Bool.false_and]
theorem xCh_is {T : Nat → Nat} {n p c : Nat} (hT : ∀ j, j < n → T j < 128) (hc : c < 128) : xCh T n p = nI c ↔ xIs T n c p = true := by
  unfold xCh xIs
  by_cases hp : p < n
  · have := hT p hp
    rw [if_pos hp, decide_eq_true hp, Bool.true_and, decide_eq_true_eq]
    exact nI_eq (by omega) (by omega)
  · rw [if_neg hp, decide_eq_false hp, Bool.false_and]
    constructor
    · intro q
      exact absurd (show nI c < 0 from by rw [← q]; decide) (nI_pos (by omega))
    · intro q; cases q
def xOk (T : Nat → Nat) (n lo hi p : Nat) : Bool := match xDig T n p with
  | none => false
  | some d => decide (lo ≤ d) && decide (d ≤ hi)
theorem xOk_q {T : Nat → Nat} {n p : Nat} (hT : ∀ j, j < n → T j < 128) {lo hi : Nat} (hh : lo ≤ 9 ∧ hi ≤ 9) : qIn (48 + lo) (48 + hi) (xCh T n p) = xOk T n lo hi p := xCh_dig hT hh
theorem xCh_d {T : Nat → Nat} {n p d : Nat} (h : xDig T n p = some d) : xCh T n p = nI (48 + d) := by
  have := xDig_lt h
  unfold xCh
  rw [if_pos this.1, this.2.2]
theorem xCh_48 {T : Nat → Nat} {n p d : Nat} (h : xDig T n p = some d) : xCh T n p - nI 48 = nI d := by
  rw [xCh_d h, pk_sub (by omega)]
  congr 1
  omega
theorem xLong {T : Nat → Nat} {n p d a : Nat} (h : xDig T n p = some d) : nI a + xCh T n p - nI 48 = nI (a + d) := by
  rw [xCh_d h, nI_add, pk_sub (by omega)]
  congr 1
  omega
theorem xOk_t {T : Nat → Nat} {n lo hi p : Nat} (h : xOk T n lo hi p = true) : ∃ d, xDig T n p = some d ∧ lo ≤ d ∧ d ≤ hi := by
  unfold xOk at h
  cases hd : xDig T n p with
  | none => rw [hd] at h; cases h
  | some d =>
    rw [hd, Bool.and_eq_true] at h
    exact ⟨d, rfl, of_decide_eq_true h.1, of_decide_eq_true h.2⟩
theorem xOk_f {T : Nat → Nat} {n lo hi p d : Nat} (h : xOk T n lo hi p = false) (hd : xDig T n p = some d) : ¬ (lo ≤ d ∧ d ≤ hi) := by
  intro q
  unfold xOk at h
  rw [hd] at h
  dsimp only at h
  rw [decide_eq_true q.1, decide_eq_true q.2] at h
  cases h
theorem xNum_t {T : Nat → Nat} {n lo hi p d : Nat} (hd : xDig T n p = some d) (h : lo ≤ d ∧ d ≤ hi) : xNum T n lo hi p = some (if d = 0 then (0, p + 1) else xMore T n hi 81 d (p + 1)) := by
  unfold xNum
  rw [hd]
  exact if_pos h
theorem xNum_f {T : Nat → Nat} {n lo hi p : Nat} (h : ∀ d, xDig T n p = some d → ¬ (lo ≤ d ∧ d ≤ hi)) : xNum T n lo hi p = none := by
  unfold xNum
  cases hd : xDig T n p with
  | none => rfl
  | some d => exact if_neg (h d hd)
theorem xNum_5 {T : Nat → Nat} {n p d : Nat} (hd : xDig T n p = some d) (h : 0 ≤ d ∧ d ≤ 5) : xNum T n 0 5 p = some (d, p + 1) := by
  rw [xNum_t hd h]
  by_cases h0 : d = 0
  · rw [if_pos h0, h0]
  · rw [if_neg h0]
    show some (match xDig T n (p + 1) with | none => (d, p + 1) | some e => if 10 * d + e ≤ 5 then xMore T n 5 80 (10 * d + e) (p + 1 + 1) else (d, p + 1)) = _
    cases xDig T n (p + 1) with
    | none => rfl
    | some e => exact congrArg some (if_neg (by omega))
/-- what a number's reading leaves in the reference's own fields: F before, G behind -/
def xPn (F G : Nat → Int32) (p : Nat) (o : Option (Nat × Nat)) : Prop := (∀ k, k < 6 → G k = F k) ∧ (∀ k, 8 ≤ k → G k = F k) ∧ match o with
  | none => G 6 = nI p
  | some q => G 7 = nI q.1 ∧ G 6 = nI q.2
def xPi (F G : Nat → Int32) (it : xIt) : Prop := (∀ k, k < 6 → G k = F k) ∧ G 6 = nI it.2 ∧ ∀ q, it.1 = some q → G 8 = nI q.1 ∧ G 9 = nI q.2.1 ∧ G 10 = nI q.2.2.1 ∧ G 11 = nI q.2.2.2
theorem xOk_5 {T : Nat → Nat} {n p : Nat} : xOk T n 0 5 p = (xNum T n 0 5 p).isSome := by
  cases h : xOk T n 0 5 p with
  | false => rw [xNum_f (fun d hd => xOk_f h hd)]; rfl
  | true =>
    obtain ⟨d, hd, h1, h2⟩ := xOk_t h
    rw [xNum_5 hd ⟨h1, h2⟩]
    rfl
theorem xPn_5 {F : Nat → Int32} {T : Nat → Nat} {n p : Nat} : xPn F (upd (upd F 7 (xCh T n p - nI 48)) 6 (nI (p + (if xOk T n 0 5 p = true then 1 else 0)))) p (xNum T n 0 5 p) := by
  refine ⟨fun k hk => ?_, fun k hk => ?_, ?_⟩
  · unfold upd; rw [if_neg (by omega), if_neg (by omega)]
  · unfold upd; rw [if_neg (by omega), if_neg (by omega)]
  · cases h : xOk T n 0 5 p with
    | false =>
      rw [xNum_f (fun d hd => xOk_f h hd)]
      rfl
    | true =>
      obtain ⟨d, hd, h1, h2⟩ := xOk_t h
      rw [xNum_5 hd ⟨h1, h2⟩]
      exact ⟨xCh_48 hd, rfl⟩
theorem isS_t {α : Type} {o : Option α} (h : o.isSome = true) : ∃ q, o = some q := by
  cases o with
  | none => cases h
  | some q => exact ⟨q, rfl⟩
theorem isS_f {α : Type} {o : Option α} (h : o.isSome = false) : o = none := by
  cases o with
  | none => rfl
  | some q => cases h
theorem upd6 {G F : Nat → Int32} {j : Nat} {x : Int32} (hj : 6 ≤ j) (h : ∀ k, k < 6 → G k = F k) : ∀ k, k < 6 → upd G j x k = F k := fun k hk => by unfold upd; rw [if_neg (by omega)]; exact h k hk
