/-! THE LAW'S ROWS AND THE CLASS'S NUMBERS: an order -/
abbrev OS : Type := Nat × ((Nat → Nat) × (Nat → Nat))
/-- what is sold of lot k, when it is as fresh as v: sold, accounts, lots -/
def fOf (kd v most : Nat) (q f : Nat → Nat) (k : Nat) : Prop := 0 < f (4 * k + 1) ∧ f (4 * k) = kd ∧ f (4 * k + 2) = v ∧ 6 ≤ f (4 * k + 3) ∧ fPr q kd v (q 1) ≤ most
def fMu (g sd x : Nat) : Nat := if g - sd < x then g - sd else x
def fO1 (kd v most g : Nat) (st : OS) (k : Nat) : OS := (st.1 + fMu g st.1 (st.2.2 (4 * k + 1)), uN st.2.1 7 (st.2.1 7 + fMu g st.1 (st.2.2 (4 * k + 1)) * fPr st.2.1 kd v (st.2.1 1) / 1000), uN st.2.2 (4 * k + 1) (st.2.2 (4 * k + 1) - fMu g st.1 (st.2.2 (4 * k + 1))))
/-- what holds while the law sells: M: the class's numbers so far, n: its rounds left -/
def OI (kd fr most g : Nat) (q0 i N : Nat → Nat) (st : OS) (v k : Nat) : Prop := ∃ (M : Nat → Nat) (n : Nat), J (uN st.2.1 4 (st.2.1 4 + st.1)) i st.2.2 M ∧ FI st.2.1 i st.2.2 ∧ qIr M ∧ (st.1 ≤ g ∧ M 2 ≤ n + (if st.1 = g then 17 else 0)) ∧ (st.2.1 1 = q0 1 ∧ st.2.1 2 = q0 2 ∧ st.2.1 9 = q0 9 ∧ st.2.1 0 = q0 0) ∧ qOr kd fr most g (n + 1) st.1 M = qOr kd fr most g 17 0 N ∧ (st.2.1 3 = st.2.1 4 + st.1 + st.2.1 5 + fS (gG st.2.2) (st.2.1 2)) ∧ (st.1 = g ∨ ∀ t w, t < st.2.1 2 → fr ≤ w → q0 9 ≤ w → fOf kd w most st.2.1 st.2.2 t → v < w ∨ (v = w ∧ k ≤ t))
theorem qFits_iff {q i f M : Nat → Nat} (h : J q i f M) (hF : FI q i f) {kd fr most k : Nat} (hk : k < q 2) (ha : 0 < f (4 * k + 1)) : qFits M kd fr most (al f k) = true ↔ (f (4 * k) = kd ∧ 6 ≤ f (4 * k + 3) ∧ q 9 ≤ f (4 * k + 2) ∧ fr ≤ f (4 * k + 2) ∧ fPr q kd (f (4 * k + 2)) (q 1) ≤ most) := by
  have hl := j_l h hk ha
  unfold qFits qTray qSold
  rw [j_price h hF hk ha, hl.2.1, hl.2.2.2.1, hl.2.2.2.2, ← j_a h (show 9 < 10 from by omega) (by omega)]
  simp only [Bool.and_eq_true, decide_eq_true_eq]
  constructor
  · rintro ⟨a, b, c, d, e⟩
    exact ⟨a, b, c, d, by rw [← a]; exact e⟩
  · rintro ⟨a, b, c, d, e⟩
    exact ⟨a, b, c, d, by rw [a]; exact e⟩
theorem qNx_bst {N : Nat → Nat} {kd fr pr : Nat} {k : Nat} (hk : qFits N kd fr pr k = true) : ∀ n, k < n → (∀ m, m < n → qFits N kd fr pr m = true → qL N k 3 < qL N m 3 ∨ (qL N k 3 = qL N m 3 ∧ k ≤ m)) → qNx N kd fr pr n = some k := by
  intro n
  induction n with
  | zero => intro h; omega
  | succ n ih =>
    intro hkn hm
    show (if qFits N kd fr pr n = true ∧ qLess N n (qNx N kd fr pr n) = true then some n else qNx N kd fr pr n) = _
    by_cases e : k = n
    · subst e
      have hq : qLess N k (qNx N kd fr pr k) = true := by
        cases ho : qNx N kd fr pr k with
        | none => rfl
        | some j =>
          have hj := qNx_lt ho
          have := hm j (by omega) (qNx_fits ho)
          exact decide_eq_true (by omega)
      exact if_pos ⟨hk, hq⟩
    · have e2 := ih (by omega) (fun m h1 h2 => hm m (by omega) h2)
      rw [e2, if_neg (fun z => by
        have h1 : qL N n 3 < qL N k 3 := of_decide_eq_true z.2
        have := hm n (by omega) z.1
        omega)]
theorem qNx_no {N : Nat → Nat} {kd fr pr : Nat} : ∀ n, (∀ m, m < n → ¬ qFits N kd fr pr m = true) → qNx N kd fr pr n = none := by
  intro n
  induction n with
  | zero => intro _; rfl
  | succ n ih => intro h; exact (if_neg (fun z => h n (by omega) z.1)).trans (ih (fun m hm => h m (by omega)))
section JOR
variable {q i f N : Nat → Nat}
theorem oi_start (h : JJ q i f N) (hI : qIr N) {kd fr most g v : Nat} (hv : v ≤ fr ∨ v ≤ q 9) (hg : 1 ≤ g) : OI kd fr most g q i N (0, q, f) v 0 := by
  obtain ⟨hJ, hF, hC⟩ := h
  have h2 := qi_2 hI
  refine ⟨N, 16, ?_, hF, hI, ⟨Nat.zero_le _, Nat.le_trans h2 (Nat.le_add_right _ _)⟩, ⟨rfl, rfl, rfl, rfl⟩, rfl, ?_, Or.inr (fun t w _ h1 h2 h3 => ?_)⟩
  · show J (uN q 4 (q 4 + 0)) i f N
    rw [uN_id (show q 4 = q 4 + 0 from rfl)]
    exact hJ
  · unfold Cn at hC
    show q 3 = q 4 + 0 + q 5 + fS (gG f) (q 2)
    omega
  · omega
theorem oi_skip {kd fr most g v k : Nat} {st : OS} (h : OI kd fr most g q i N st v k) (hn : fr ≤ v → q 9 ≤ v → ¬ fOf kd v most st.2.1 st.2.2 k) : OI kd fr most g q i N st v (k + 1) := by
  obtain ⟨M, n, a, b, c, d, e, x, y, z⟩ := h
  refine ⟨M, n, a, b, c, d, e, x, y, ?_⟩
  rcases z with z | z
  · exact Or.inl z
  · refine Or.inr (fun t w h1 h2 h3 h4 => ?_)
    have := z t w h1 h2 h3 h4
    by_cases w1 : v = w
    · subst w1
      by_cases w2 : t = k
      · subst w2
        exact absurd h4 (hn h2 h3)
      · omega
    · omega
theorem oi_next {kd fr most g v : Nat} {st : OS} (h : OI kd fr most g q i N st v (q 2)) : OI kd fr most g q i N st (v + 1) 0 := by
  obtain ⟨M, n, a, b, c, d, e, x, y, z⟩ := h
  refine ⟨M, n, a, b, c, d, e, x, y, ?_⟩
  rcases z with z | z
  · exact Or.inl z
  · refine Or.inr (fun t w h1 h2 h3 h4 => ?_)
    have := z t w h1 h2 h3 h4
    rw [e.2.1] at h1
    omega
theorem oi_end {kd fr most g : Nat} {st : OS} (h : OI kd fr most g q i N st 101 0) : JJ (uN st.2.1 4 (st.2.1 4 + st.1)) i st.2.2 (qOr kd fr most g 17 0 N).2 ∧ (qOr kd fr most g 17 0 N).1 = st.1 ∧ st.2.1 2 = q 2 ∧ st.2.1 0 = q 0 := by
  obtain ⟨M, n, a, b, c, d, e, x, y, z⟩ := h
  have e2 : uN st.2.1 4 (st.2.1 4 + st.1) 2 = st.2.1 2 := uN_n (by omega)
  have hF : FI (uN st.2.1 4 (st.2.1 4 + st.1)) i st.2.2 := b.uq (by omega) (by omega) (by omega) (by omega) (by omega) (by omega)
  have hend : qOr kd fr most g (n + 1) st.1 M = (st.1, M) := by
    refine qOr_end (fun hs => qNx_no _ (fun m hm hfit => ?_))
    rcases z with z | z
    · omega
    · obtain ⟨k, k1, k2, k3⟩ := j_on a hm
      rw [← k3] at hfit
      obtain ⟨f1, f2, f3, f4, f5⟩ := (qFits_iff a hF k1 k2).mp hfit
      rw [e2] at k1
      rw [uN_n (by omega)] at f3 f5
      have h100 := fi_l2 b k1
      have hp : fPr (uN st.2.1 4 (st.2.1 4 + st.1)) kd (st.2.2 (4 * k + 2)) (st.2.1 1) = fPr st.2.1 kd (st.2.2 (4 * k + 2)) (st.2.1 1) := by
        unfold fPr
        rw [uN_n (by omega), uN_n (by omega)]
      rw [hp] at f5
      have := z k (st.2.2 (4 * k + 2)) k1 f4 (by rw [← e.2.2.1]; exact f3) ⟨k2, f1, rfl, f2, f5⟩
      omega
  rw [x] at hend
  rw [hend]
  refine ⟨⟨a, hF, ?_⟩, rfl, e.2.1, e.2.2.2⟩
  unfold Cn
  rw [uN_n (by omega), uN_s, uN_n (by omega), uN_n (by omega)]
  omega
theorem oi_sell {kd fr most g v k : Nat} {st : OS} (h : OI kd fr most g q i N st v k) (hk : k < q 2) (h1 : fr ≤ v) (h9 : q 9 ≤ v) (hf : fOf kd v most st.2.1 st.2.2 k) (hkd : kd < 6) : OI kd fr most g q i N (fO1 kd v most g st k) v (k + 1) := by
  obtain ⟨M, n, a, b, c, d, e, x, y, z⟩ := h
  obtain ⟨sd, q1, f1⟩ := st
  dsimp only at a b c d e x y z hf ⊢
  obtain ⟨e1, e2, e9, e00⟩ := e
  obtain ⟨ha, hf0, hf2, hf3, hfp⟩ := hf
  have hk1 : k < q1 2 := by rw [e2]; exact hk
  have eq2 : uN q1 4 (q1 4 + sd) 2 = q1 2 := uN_n (by omega)
  by_cases hs : sd = g
  · -- all is sold: nothing changes
    have hm : fMu g sd (f1 (4 * k + 1)) = 0 := by
      unfold fMu
      rw [hs, Nat.sub_self, if_pos ha]
    have hst : fO1 kd v most g (sd, q1, f1) k = (sd, q1, f1) := by
      unfold fO1
      dsimp only
      rw [hm, Nat.zero_mul, Nat.zero_div, Nat.sub_zero, Nat.add_zero, Nat.add_zero, uN_id (show q1 7 = q1 7 from rfl), uN_id (show f1 (4 * k + 1) = f1 (4 * k + 1) from rfl)]
    rw [hst]
    exact ⟨M, n, a, b, c, d, ⟨e1, e2, e9, e00⟩, x, y, Or.inl hs⟩
  · have hz : ∀ t w, t < q1 2 → fr ≤ w → q 9 ≤ w → fOf kd w most q1 f1 t → v < w ∨ (v = w ∧ k ≤ t) := by
      rcases z with z | z
      · exact absurd z hs
      · exact z
    have hF : FI (uN q1 4 (q1 4 + sd)) i f1 := b.uq (by omega) (by omega) (by omega) (by omega) (by omega) (by omega)
    have hpr : ∀ w, fPr (uN q1 4 (q1 4 + sd)) kd w (uN q1 4 (q1 4 + sd) 1) = fPr q1 kd w (q1 1) := by
      intro w
      unfold fPr
      rw [uN_n (by omega), uN_n (by omega), uN_n (by omega)]
    have hkM := j_lt a (by rw [eq2]; exact hk1) ha
    have hl := j_l a (by rw [eq2]; exact hk1) ha
    have hfit : qFits M kd fr most (al f1 k) = true := (qFits_iff a hF (by rw [eq2]; exact hk1) ha).mpr ⟨hf0, hf3, by rw [uN_n (by omega), hf2, e9]; exact h9, by rw [hf2]; exact h1, by rw [hpr, hf2]; exact hfp⟩
    have hnx : qNx M kd fr most (M 2) = some (al f1 k) := by
      refine qNx_bst hfit (M 2) hkM (fun m hm hfm => ?_)
      obtain ⟨t, t1, t2, t3⟩ := j_on a hm
      have ht := j_l a t1 t2
      rw [t3] at ht
      rw [← t3] at hfm
      obtain ⟨g1, g2, g3, g4, g5⟩ := (qFits_iff a hF t1 t2).mp hfm
      rw [eq2] at t1
      rw [uN_n (by omega)] at g3
      rw [hpr] at g5
      rw [hl.2.2.2.1, ht.2.2.2.1, hf2]
      rcases hz t (f1 (4 * t + 2)) t1 g4 (by rw [← e9]; exact g3) ⟨t2, g1, rfl, g2, g5⟩ with w | ⟨w1, w2⟩
      · exact Or.inl w
      · exact Or.inr ⟨w1, by rw [← t3]; exact al_mono f1 w2⟩
    have hn : 1 ≤ n := by
      have := d.2
      rw [if_neg hs] at this
      omega
    have hsg : sd < g := by omega
    have hgo := qOr_go (f := n) hnx hsg
    have hmu : qMuch M (al f1 k) (g - sd) = fMu g sd (f1 (4 * k + 1)) := by
      unfold qMuch fMu
      rw [hl.2.2.1]
      split <;> split <;> omega
    obtain ⟨m, hme⟩ : ∃ m, m = fMu g sd (f1 (4 * k + 1)) := ⟨_, rfl⟩
    have hm1 : m ≤ f1 (4 * k + 1) ∧ m ≤ g - sd ∧ (m = g - sd ∨ m = f1 (4 * k + 1)) := by
      rw [hme]
      unfold fMu
      split <;> omega
    rw [hmu, ← hme] at hgo
    have hmM : m ≤ qL M (al f1 k) 2 := by rw [hl.2.2.1]; exact hm1.1
    obtain ⟨c1, c2, c3⟩ := qSell_k c hkM hmM
    have hJ1 : J (uN (uN q1 7 (q1 7 + m * fPr q1 kd v (q1 1) / 1000)) 4 (q1 4 + (sd + m))) i (uN f1 (4 * k + 1) (f1 (4 * k + 1) - m)) (qSell M (al f1 k) m) := by
      have p1 : qPrice M (al f1 k) = fPr q1 kd v (q1 1) := by
        rw [j_price a hF (by rw [eq2]; exact hk1) ha, hf0, hf2, hpr]
      have A := (a.uq (j := 4) (v := q1 4 + (sd + m)) (by omega) (by omega)).uq (j := 7) (v := q1 7 + m * fPr q1 kd v (q1 1) / 1000) (by omega) (by omega)
      rw [uN_same, uN_comm (show (4 : Nat) ≠ 7 from by omega)] at A
      have M4 : M 4 + m = q1 4 + (sd + m) := by
        have := j_a a (show 4 < 10 from by omega) (by omega)
        rw [uN_s] at this
        omega
      have M7 : M 7 = q1 7 := by
        have := j_a a (show 7 < 10 from by omega) (by omega)
        rw [uN_n (by omega)] at this
        exact this.symm
      have e2' : uN (uN q1 7 (q1 7 + m * fPr q1 kd v (q1 1) / 1000)) 4 (q1 4 + (sd + m)) 2 = q1 2 := by rw [uN_n (by omega), uN_n (by omega)]
      have hS1 : qSell1 M (al f1 k) m = uN (uN (uN M 4 (q1 4 + (sd + m))) 7 (q1 7 + m * fPr q1 kd v (q1 1) / 1000)) (45 + 5 * al f1 k + 2) (f1 (4 * k + 1) - m) := by
        unfold qSell1 qW
        rw [p1, M4, M7, hl.2.2.1]
      unfold qSell
      rw [hl.2.2.1]
      by_cases w : f1 (4 * k + 1) - m = 0
      · rw [if_pos w, hS1, qDrop_u (by rw [uN_n (by omega), uN_n (by omega)]; exact hkM) (by omega), w]
        exact A.drop (by rw [e2']; exact hk1) ha
      · rw [if_neg w, hS1]
        exact A.uf (j := 1) (by rw [e2']; exact hk1) ha (by omega) (fun _ => by omega)
    have hst : fO1 kd v most g (sd, q1, f1) k = (sd + m, uN q1 7 (q1 7 + m * fPr q1 kd v (q1 1) / 1000), uN f1 (4 * k + 1) (f1 (4 * k + 1) - m)) := by
      unfold fO1
      dsimp only
      rw [← hme]
    rw [hst]
    refine ⟨qSell M (al f1 k) m, n - 1, ?_, ?_, c1, ⟨by omega, ?_⟩, ⟨(uN_n (N := q1) (j := 7) (v := q1 7 + m * fPr q1 kd v (q1 1) / 1000) (k := 1) (by omega)).trans e1, (uN_n (N := q1) (j := 7) (v := q1 7 + m * fPr q1 kd v (q1 1) / 1000) (k := 2) (by omega)).trans e2, (uN_n (N := q1) (j := 7) (v := q1 7 + m * fPr q1 kd v (q1 1) / 1000) (k := 9) (by omega)).trans e9, (uN_n (N := q1) (j := 7) (v := q1 7 + m * fPr q1 kd v (q1 1) / 1000) (k := 0) (by omega)).trans e00⟩, ?_, ?_, ?_⟩
    · show J (uN (uN q1 7 (q1 7 + m * fPr q1 kd v (q1 1) / 1000)) 4 (uN q1 7 (q1 7 + m * fPr q1 kd v (q1 1) / 1000) 4 + (sd + m))) i (uN f1 (4 * k + 1) (f1 (4 * k + 1) - m)) (qSell M (al f1 k) m)
      rw [uN_n (show (4 : Nat) ≠ 7 from by omega)]
      exact hJ1
    · exact (b.uq (by omega) (by omega) (by omega) (by omega) (by omega) (by omega)).uf (by omega) (by omega) (fun _ => by have := fi_l1 b hk1; omega) (by omega) (by omega)
    · have hd := d.2
      rw [if_neg hs] at hd
      show qSell M (al f1 k) m 2 ≤ n - 1 + (if sd + m = g then 17 else 0)
      by_cases w : sd + m = g
      · rw [if_pos w]
        have := qi_2 c1
        omega
      · rw [if_neg w]
        have := c2 (by rw [hl.2.2.1]; omega)
        omega
    · show qOr kd fr most g (n - 1 + 1) (sd + m) (qSell M (al f1 k) m) = _
      rw [show n - 1 + 1 = n from by omega, ← hgo]
      exact x
    · show uN q1 7 (q1 7 + m * fPr q1 kd v (q1 1) / 1000) 3 = uN q1 7 (q1 7 + m * fPr q1 kd v (q1 1) / 1000) 4 + (sd + m) + uN q1 7 (q1 7 + m * fPr q1 kd v (q1 1) / 1000) 5 + fS (gG (uN f1 (4 * k + 1) (f1 (4 * k + 1) - m))) (uN q1 7 (q1 7 + m * fPr q1 kd v (q1 1) / 1000) 2)
      rw [uN_n (by omega), uN_n (by omega), uN_n (by omega), uN_n (by omega)]
      have := gG_u (f := f1) (k := k) (v := f1 (4 * k + 1) - m) (n := q1 2) hk1
      omega
    · show sd + m = g ∨ _
      by_cases w : sd + m = g
      · exact Or.inl w
      · refine Or.inr (fun t w' ht hw1 hw2 hw3 => ?_)
        have ht' : t < q1 2 := by rw [← show uN q1 7 (q1 7 + m * fPr q1 kd v (q1 1) / 1000) 2 = q1 2 from uN_n (by omega)]; exact ht
        obtain ⟨o1, o2, o3, o4, o5⟩ := hw3
        have o1 : 0 < uN f1 (4 * k + 1) (f1 (4 * k + 1) - m) (4 * t + 1) := o1
        have o2 : uN f1 (4 * k + 1) (f1 (4 * k + 1) - m) (4 * t) = kd := o2
        have o3 : uN f1 (4 * k + 1) (f1 (4 * k + 1) - m) (4 * t + 2) = w' := o3
        have o4 : 6 ≤ uN f1 (4 * k + 1) (f1 (4 * k + 1) - m) (4 * t + 3) := o4
        have hm2 : m = f1 (4 * k + 1) := by omega
        by_cases tk : t = k
        · subst tk
          rw [show uN f1 (4 * t + 1) (f1 (4 * t + 1) - m) (4 * t + 1) = f1 (4 * t + 1) - m from uN_s] at o1
          omega
        · have r1 : uN f1 (4 * k + 1) (f1 (4 * k + 1) - m) (4 * t + 1) = f1 (4 * t + 1) := uN_n (by omega)
          have r0 : uN f1 (4 * k + 1) (f1 (4 * k + 1) - m) (4 * t) = f1 (4 * t) := uN_n (by omega)
          have r2 : uN f1 (4 * k + 1) (f1 (4 * k + 1) - m) (4 * t + 2) = f1 (4 * t + 2) := uN_n (by omega)
          have r3 : uN f1 (4 * k + 1) (f1 (4 * k + 1) - m) (4 * t + 3) = f1 (4 * t + 3) := uN_n (by omega)
          have r5 : fPr (uN q1 7 (q1 7 + m * fPr q1 kd v (q1 1) / 1000)) kd w' (uN q1 7 (q1 7 + m * fPr q1 kd v (q1 1) / 1000) 1) = fPr q1 kd w' (q1 1) := by
            unfold fPr
            rw [uN_n (by omega), uN_n (by omega), uN_n (by omega)]
          rw [r1] at o1
          rw [r0] at o2
          rw [r2] at o3
          rw [r3] at o4
          have o5' : fPr q1 kd w' (q1 1) ≤ most := by rw [← r5]; exact o5
          have := hz t w' ht' hw1 hw2 ⟨o1, o2, o3, o4, o5'⟩
          omega
end JOR
