/-! THE CLASS: how its shop at the offset o holds the numbers N; lot k lies at o + 7 + π k -/
def qi (k : Nat) : Nat := if k = 0 then 0 else if k = 1 then 1 else if k = 2 then 8 else if k = 3 then 9 else if k = 4 then 10 else 2
theorem qi_inj {i j : Nat} (hi : i < 6) (hj : j < 6) (h : qi i = qi j) : i = j := by
  have key : ∀ i, i < 6 → ∀ j, j < 6 → qi i = qi j → i = j := by decide
  exact key i hi j hj h
theorem qi_le (k : Nat) : qi k ≤ 10 := by
  unfold qi
  (repeat' split) <;> omega
def qAb (a : Nat) : Nat := if a = 1 then 11 else if a = 2 then 17 else if a = 3 then 23 else if a = 4 then 34 else 40
def qAl (a : Nat) : Nat := if a = 3 then 11 else if a = 5 then 5 else 6
theorem qAb_lt {a k : Nat} (h1 : 1 ≤ a) (h5 : a ≤ 5) (hk : k < qAl a) : qAb a + k < 45 := by
  have key : ∀ a, a ≤ 5 → 1 ≤ a → qAb a + qAl a ≤ 45 := by decide
  have := key a h5 h1
  omega
def qBx (pl : Nat) : Int32 := if 6 ≤ pl then -6 else nI pl
def qTy (pl : Nat) : Int32 := if 6 ≤ pl then nI (pl - 6) else -6
/-- where the lots lie -/
def Rp (σ : KS) (o : Nat) (π : Nat → Nat) : Prop := (∀ k, k < 16 → σ.2.2 (o + 6) k = some (o + 7 + π k) ∧ π k < 16) ∧ ∀ i j, i < 16 → j < 16 → π i = π j → i = j
def Rl (σ : KS) (o : Nat) (π : Nat → Nat) (N : Nat → Nat) (k : Nat) : Prop := (∀ j, j < 4 → σ.1 (o + 7 + π k) j = nI (qL N k j)) ∧ σ.1 (o + 7 + π k) 4 = qBx (qL N k 4) ∧ σ.1 (o + 7 + π k) 5 = qTy (qL N k 4)
def Rs (σ : KS) (o : Nat) (π : Nat → Nat) (N : Nat → Nat) : Prop := (∀ k, k < 6 → σ.1 o k = nI (N (qi k))) ∧ (∀ k, 6 ≤ k → k < 11 → σ.2.1 o k = lN (N (k - 3))) ∧ (∀ a, 1 ≤ a → a ≤ 5 → ∀ k, k < qAl a → σ.1 (o + a) k = nI (N (qAb a + k))) ∧ Rp σ o π ∧ ∀ k, k < N 2 → Rl σ o π N k
section RSS
variable {σ : KS} {o : Nat} {π N : Nat → Nat}
theorem rs_i (h : Rs σ o π N) (k : Nat) (hk : k < 6) : σ.1 o k = nI (N (qi k)) := h.1 k hk
theorem rs_j (h : Rs σ o π N) (k : Nat) (h6 : 6 ≤ k) (hk : k < 11) : σ.2.1 o k = lN (N (k - 3)) := h.2.1 k h6 hk
theorem rs_a (h : Rs σ o π N) (a : Nat) (h1 : 1 ≤ a) (h5 : a ≤ 5) {k : Nat} (hk : k < qAl a) : σ.1 (o + a) k = nI (N (qAb a + k)) := h.2.2.1 a h1 h5 k hk
theorem rs_p (h : Rs σ o π N) : Rp σ o π := h.2.2.2.1
theorem rs_r (h : Rs σ o π N) {k : Nat} (hk : k < 16) : σ.2.2 (o + 6) k = some (o + 7 + π k) := (h.2.2.2.1.1 k hk).1
theorem rs_lt (h : Rs σ o π N) {k : Nat} (hk : k < 16) : π k < 16 := (h.2.2.2.1.1 k hk).2
theorem rs_l (h : Rs σ o π N) {k : Nat} (hk : k < N 2) (j : Nat) (hj : j < 4) : σ.1 (o + 7 + π k) j = nI (qL N k j) := (h.2.2.2.2 k hk).1 j hj
theorem rs_l4 (h : Rs σ o π N) {k : Nat} (hk : k < N 2) : σ.1 (o + 7 + π k) 4 = qBx (qL N k 4) := (h.2.2.2.2 k hk).2.1
theorem rs_l5 (h : Rs σ o π N) {k : Nat} (hk : k < N 2) : σ.1 (o + 7 + π k) 5 = qTy (qL N k 4) := (h.2.2.2.2 k hk).2.2
/-- only what is asked of the cells matters -/
theorem Rs.of {σ' : KS} (h : Rs σ o π N) (h16 : N 2 ≤ 16) (e1 : ∀ x, o ≤ x → x < o + 23 → σ'.1 x = σ.1 x) (e2 : σ'.2.1 o = σ.2.1 o) (e3 : σ'.2.2 (o + 6) = σ.2.2 (o + 6)) : Rs σ' o π N := by
  obtain ⟨h1, h2, h3, h4, h5⟩ := h
  have h4' := h4
  refine ⟨fun k hk => ?_, fun k h6 hk => ?_, fun a h1' h5' k hk => ?_, ⟨fun k hk => ?_, h4.2⟩, fun k hk => ?_⟩
  · rw [e1 o (by omega) (by omega)]; exact h1 k hk
  · rw [e2]; exact h2 k h6 hk
  · rw [e1 (o + a) (by omega) (by omega)]; exact h3 a h1' h5' k hk
  · rw [e3]; exact h4.1 k hk
  · by_cases q : k < 16
    · have hp := (h4.1 k q).2
      unfold Rl
      rw [e1 (o + 7 + π k) (by omega) (by omega)]
      exact h5 k hk
    · omega
theorem Rs.congr {N' : Nat → Nat} (h : Rs σ o π N) (h2 : N 2 ≤ 16) (e : ∀ i, i < 125 → N' i = N i) : Rs σ o π N' := by
  obtain ⟨h1, h2', h3, h4, h5⟩ := h
  refine ⟨fun k hk => ?_, fun k h6 hk => ?_, fun a h1' h5' k hk => ?_, h4, fun k hk => ?_⟩
  · rw [e _ (by have := qi_le k; omega)]; exact h1 k hk
  · rw [e _ (by omega)]; exact h2' k h6 hk
  · rw [e _ (by have := qAb_lt h1' h5' hk; omega)]; exact h3 a h1' h5' k hk
  · rw [e 2 (by omega)] at hk
    obtain ⟨a, c, d⟩ := h5 k hk
    refine ⟨fun j hj => ?_, ?_, ?_⟩
    · show _ = nI (N' _)
      rw [e _ (by omega)]; exact a j hj
    · show _ = qBx (N' _)
      rw [e _ (by omega)]; exact c
    · show _ = qTy (N' _)
      rw [e _ (by omega)]; exact d
end RSS
/-- numbers that are apart, and in their order; how many lie where -/
def qU (N : Nat → Nat) : Prop := (∀ i j, i < j → j < N 2 → qL N i 0 < qL N j 0) ∧ (∀ k, k < N 2 → 1 ≤ qL N k 0 ∧ qL N k 0 ≤ N 10) ∧ (∀ pl, pl < 6 → qCnt N pl (N 2) ≤ 3) ∧ ∀ i j, i < j → j < N 2 → 6 ≤ qL N i 4 → qL N i 4 ≠ qL N j 4
theorem qF_hit {N : Nat → Nat} {x : Int32} (hU : ∀ i j, i < j → j < N 2 → qL N i 0 < qL N j 0) (hb : ∀ k, k < N 2 → qL N k 0 < 2 ^ 31) {i : Nat} (h : nI (qL N i 0) = x) {n : Nat} (hi : i < n) (hn : n ≤ N 2) : qF N x n = some i := by
  induction n with
  | zero => omega
  | succ n ih =>
    show (if nI (qL N n 0) = x then some n else qF N x n) = _
    by_cases q : i = n
    · rw [if_pos (by rw [← q]; exact h), q]
    · rw [if_neg (fun z => by
        rw [← h] at z
        have := (nI_eq (hb n hn) (hb i (by omega))).mp z
        have := hU i n (by omega) hn
        omega)]
      exact ih (by omega) (by omega)
theorem qF_none {N : Nat → Nat} {x : Int32} {n : Nat} (h : ∀ k, k < n → ¬ nI (qL N k 0) = x) : qF N x n = none := by
  induction n with
  | zero => rfl
  | succ n ih => exact (if_neg (h n (by omega))).trans (ih (fun k hk => h k (by omega)))
theorem qFst_no {N : Nat → Nat} {pl n : Nat} {f : Option Nat} (h : ∀ k, k < n → qL N k 4 ≠ pl) : qFst N pl n f = f := by
  induction n generalizing f with
  | zero => rfl
  | succ n ih =>
    show qFst N pl n (if qL N n 4 = pl then some n else f) = f
    rw [if_neg (h n (by omega))]
    exact ih (fun k hk => h k (by omega))
theorem qFst_hit {N : Nat → Nat} {pl n i : Nat} {f : Option Nat} (h0 : ∀ k, k < i → qL N k 4 ≠ pl) (h : qL N i 4 = pl) (hi : i < n) : qFst N pl n f = some i := by
  induction n generalizing f with
  | zero => omega
  | succ n ih =>
    show qFst N pl n (if qL N n 4 = pl then some n else f) = some i
    by_cases q : i = n
    · subst q
      rw [if_pos h]
      exact qFst_no h0
    · exact ih (by omega)
theorem qBx_eq {pl bx : Nat} (hp : pl < 2 ^ 31) (hb : bx < 6) : qBx pl = nI bx ↔ pl = bx := by
  unfold qBx
  split
  · constructor
    · intro q; exact absurd q.symm (qO_ne (by omega))
    · intro q; omega
  · exact nI_eq hp (by omega)
theorem qTy_eq {pl t : Nat} (hp : pl < 2 ^ 31) (ht : t < 5) : qTy pl = nI t ↔ pl = 6 + t := by
  unfold qTy
  split
  · constructor
    · intro q
      have := (nI_eq (by omega) (by omega)).mp q
      omega
    · intro q
      congr 1
      omega
  · constructor
    · intro q; exact absurd q.symm (qO_ne (by omega))
    · intro q; omega
theorem qTy_n {pl : Nat} (hp : pl < 2 ^ 31) : qTy pl = -6 ↔ ¬ 6 ≤ pl := by
  unfold qTy
  split
  · constructor
    · intro q; exact absurd q (qO_ne (by omega))
    · intro q; exact absurd (by assumption) q
  · constructor
    · intro _; assumption
    · intro _; rfl
def rL (b o : Nat) (π : Nat → Nat) : Option Nat → Value
  | none => .null
  | some k => rf b (o + 7 + π k)
def qFm (N : Nat → Nat) : Option Nat → Int32
  | none => -1
  | some f => nI (qL N f 3)
theorem qGr_le {N : Nat → Nat} {i : Nat} {f : Option Nat} (hi : qL N i 3 < 2 ^ 31) (hf : ∀ j, f = some j → qL N j 3 < 2 ^ 31) (h : nI (qL N i 3) ≤ qFm N f) : ¬ qGr N i f = true := by
  cases f with
  | none => exact absurd (Int32.lt_of_le_of_lt h (show (-1 : Int32) < 0 from by decide)) (nI_pos hi)
  | some j =>
    intro q
    have := (nI_leI hi (hf j rfl)).mp h
    have := of_decide_eq_true q
    omega
theorem qGr_gt {N : Nat → Nat} {i : Nat} {f : Option Nat} (hi : qL N i 3 < 2 ^ 31) (hf : ∀ j, f = some j → qL N j 3 < 2 ^ 31) (h : ¬ nI (qL N i 3) ≤ qFm N f) : qGr N i f = true := by
  cases f with
  | none => rfl
  | some j =>
    refine decide_eq_true ?_
    rcases Nat.lt_or_ge (qL N j 3) (qL N i 3) with q | q
    · exact q
    · exact absurd ((nI_leI hi (hf j rfl)).mpr q) h
theorem qIn_yes {lo hi j : Nat} (hh : hi < 2 ^ 31) (h1 : lo ≤ j) (h2 : j ≤ hi) : qIn lo hi (nI j) = true := by
  rw [qIn_nI (by omega) hh (by omega), decide_eq_true h1, decide_eq_true h2]
  rfl
theorem qIn_m6 {hi : Nat} : qIn 0 hi (-6) = false := by
  unfold qIn
  rw [show decide (nI 0 ≤ (-6 : Int32)) = false from by decide, Bool.false_and]
theorem kMax0 {a c : Nat} (ha : a < 2 ^ 30) (hc : c < 2 ^ 30) : (if nI 0 < nI a - nI c then nI a - nI c else nI 0) = nI (a - c) := by
  rcases Nat.lt_or_ge c a with q | q
  · rw [pk_sub (by omega), if_pos (nI_lt (by omega) (by omega))]
  · rw [if_neg, show a - c = 0 from by omega]
    intro z
    by_cases e : a = c
    · rw [e, pk_sub (Nat.le_refl _), Nat.sub_self] at z
      exact absurd z (by decide)
    · exact absurd (Int32.lt_trans z (pk_sneg hc (by omega))) (by decide)
def qMm (N : Nat → Nat) : Option Nat → Int32
  | none => -1
  | some f => nI (N (34 + f))
theorem qMo_le {N : Nat → Nat} {i : Nat} {f : Option Nat} (hi : N (34 + i) < 2 ^ 31) (hf : ∀ j, f = some j → N (34 + j) < 2 ^ 31) (h : nI (N (34 + i)) ≤ qMm N f) : ¬ qMore N i f = true := by
  cases f with
  | none => exact absurd (Int32.lt_of_le_of_lt h (show (-1 : Int32) < 0 from by decide)) (nI_pos hi)
  | some j =>
    intro q
    have := (nI_leI hi (hf j rfl)).mp h
    have := of_decide_eq_true q
    omega
theorem qMo_gt {N : Nat → Nat} {i : Nat} {f : Option Nat} (hi : N (34 + i) < 2 ^ 31) (hf : ∀ j, f = some j → N (34 + j) < 2 ^ 31) (h : ¬ nI (N (34 + i)) ≤ qMm N f) : qMore N i f = true := by
  cases f with
  | none => rfl
  | some j =>
    refine decide_eq_true ?_
    rcases Nat.lt_or_ge (N (34 + j)) (N (34 + i)) with q | q
    · exact q
    · exact absurd ((nI_leI hi (hf j rfl)).mpr q) h
