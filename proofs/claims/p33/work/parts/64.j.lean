/-! THE LAW'S ROWS AND THE CLASS'S NUMBERS: lot k of the law, if it is there, is the class's lot al f k -/
theorem al_1 {f : Nat → Nat} {k : Nat} (h : 0 < f (4 * k + 1)) : al f (k + 1) = al f k + 1 := congrArg (al f k + ·) (if_pos h)
theorem al_0 {f : Nat → Nat} {k : Nat} (h : ¬ 0 < f (4 * k + 1)) : al f (k + 1) = al f k := congrArg (al f k + ·) (if_neg h)
theorem al_mono (f : Nat → Nat) {a c : Nat} (h : a ≤ c) : al f a ≤ al f c := by
  induction c with
  | zero => rw [show a = 0 from by omega]; exact Nat.le_refl _
  | succ c ih =>
    by_cases e : a = c + 1
    · rw [e]; exact Nat.le_refl _
    · have := ih (by omega)
      have e2 : al f (c + 1) = al f c + (if 0 < f (4 * c + 1) then 1 else 0) := rfl
      omega
theorem al_lt {f : Nat → Nat} {k n : Nat} (hk : k < n) (h : 0 < f (4 * k + 1)) : al f k < al f n := by
  have := al_mono f (show k + 1 ≤ n from hk)
  rw [al_1 h] at this
  omega
theorem al_inj {f : Nat → Nat} {a c : Nat} (ha : 0 < f (4 * a + 1)) (hc : 0 < f (4 * c + 1)) (h : al f a = al f c) : a = c := by
  rcases Nat.lt_trichotomy a c with z | z | z
  · have := al_lt z ha; omega
  · exact z
  · have := al_lt z hc; omega
theorem al_onto {f : Nat → Nat} {n m : Nat} (h : m < al f n) : ∃ k, k < n ∧ 0 < f (4 * k + 1) ∧ al f k = m := by
  induction n with
  | zero => exact absurd h (Nat.not_lt_zero _)
  | succ n ih =>
    by_cases q : m < al f n
    · obtain ⟨k, a, c⟩ := ih q
      exact ⟨k, by omega, c⟩
    · by_cases z : 0 < f (4 * n + 1)
      · rw [al_1 z] at h
        exact ⟨n, by omega, z, by omega⟩
      · rw [al_0 z] at h
        exact absurd h q
theorem al_congr {f g : Nat → Nat} {n : Nat} (h : ∀ k, k < n → (0 < f (4 * k + 1) ↔ 0 < g (4 * k + 1))) : al f n = al g n := by
  induction n with
  | zero => rfl
  | succ n ih =>
    have e := ih (fun k hk => h k (by omega))
    by_cases z : 0 < f (4 * n + 1)
    · rw [al_1 z, al_1 ((h n (by omega)).mp z), e]
    · rw [al_0 z, al_0 (fun y => z ((h n (by omega)).mpr y)), e]
def JL (N : Nat → Nat) (m k : Nat) (f : Nat → Nat) : Prop := qL N m 0 = k + 1 ∧ qL N m 1 = f (4 * k) ∧ qL N m 2 = f (4 * k + 1) ∧ qL N m 3 = f (4 * k + 2) ∧ qL N m 4 = f (4 * k + 3)
def J (q i f N : Nat → Nat) : Prop := (∀ j, j < 10 → j ≠ 2 → q j = N j) ∧ q 2 = N 10 ∧ (∀ j, 10 ≤ j → j < 33 → q j = N (j + 1)) ∧ (∀ j, j < 11 → i j = N (34 + j)) ∧ N 2 = al f (q 2) ∧ ∀ k, k < q 2 → 0 < f (4 * k + 1) → JL N (al f k) k f
section JS
variable {q i f N : Nat → Nat}
theorem j_a (h : J q i f N) {j : Nat} (hj : j < 10) (h2 : j ≠ 2) : q j = N j := h.1 j hj h2
theorem j_2 (h : J q i f N) : q 2 = N 10 := h.2.1
theorem j_b (h : J q i f N) {j : Nat} (h0 : 10 ≤ j) (hj : j < 33) : q j = N (j + 1) := h.2.2.1 j h0 hj
theorem j_i (h : J q i f N) {j : Nat} (hj : j < 11) : i j = N (34 + j) := h.2.2.2.1 j hj
theorem j_n (h : J q i f N) : N 2 = al f (q 2) := h.2.2.2.2.1
theorem j_l (h : J q i f N) {k : Nat} (hk : k < q 2) (ha : 0 < f (4 * k + 1)) : JL N (al f k) k f := h.2.2.2.2.2 k hk ha
theorem j_lt (h : J q i f N) {k : Nat} (hk : k < q 2) (ha : 0 < f (4 * k + 1)) : al f k < N 2 := by rw [j_n h]; exact al_lt hk ha
theorem j_on (h : J q i f N) {m : Nat} (hm : m < N 2) : ∃ k, k < q 2 ∧ 0 < f (4 * k + 1) ∧ al f k = m := al_onto (by rw [← j_n h]; exact hm)
theorem j_find (h : J q i f N) (hU : qU N) (hF : FI q i f) {k : Nat} (hk : k < q 2) (ha : 0 < f (4 * k + 1)) : qF N (nI (k + 1)) (N 2) = some (al f k) := by
  have h16 := fi_2 hF
  refine qF_hit hU.1 (fun m hm => ?_) (by rw [(j_l h hk ha).1]) (j_lt h hk ha) (Nat.le_refl _)
  obtain ⟨t, t1, t2, t3⟩ := j_on h hm
  rw [← t3, (j_l h t1 t2).1]
  omega
theorem j_gone (h : J q i f N) (hF : FI q i f) {k : Nat} (hk : k < 2 ^ 30) (hn : ¬ (k < q 2 ∧ 0 < f (4 * k + 1))) : qF N (nI (k + 1)) (N 2) = none := by
  have h16 := fi_2 hF
  refine qF_none (fun m hm z => ?_)
  obtain ⟨t, t1, t2, t3⟩ := j_on h hm
  rw [← t3, (j_l h t1 t2).1] at z
  have := (nI_eq (by omega) (by omega)).mp z
  exact hn ⟨by omega, by rw [show k = t from by omega]; exact t2⟩
theorem j_cnt (h : J q i f N) (pl : Nat) {n : Nat} (hn : n ≤ q 2) : fAt f pl n = qCnt N pl (al f n) := by
  induction n with
  | zero => rfl
  | succ n ih =>
    have e := ih (by omega)
    by_cases z : 0 < f (4 * n + 1)
    · rw [al_1 z]
      show fAt f pl n + _ = qCnt N pl (al f n) + _
      rw [e, (j_l h hn z).2.2.2.2]
      by_cases y : f (4 * n + 3) = pl
      · rw [if_pos ⟨z, y⟩, if_pos y]
      · rw [if_neg (fun w => y w.2), if_neg y]
    · rw [al_0 z]
      show fAt f pl n + _ = _
      rw [e, if_neg (fun w => z w.1)]
      rfl
theorem j_at (h : J q i f N) (pl : Nat) : fAt f pl (q 2) = qCnt N pl (N 2) := by rw [j_n h]; exact j_cnt h pl (Nat.le_refl _)
theorem j_pr (h : J q i f N) {kd fr hh : Nat} (hk : kd < 6) (hh2 : hh < 11) : fPr q kd fr hh = qPr N kd fr hh := by
  unfold fPr qPr
  rw [j_b h (show 10 ≤ 10 + kd from by omega) (by omega), j_b h (show 10 ≤ 22 + hh from by omega) (by omega), show 10 + kd + 1 = 11 + kd from by omega, show 22 + hh + 1 = 23 + hh from by omega]
theorem j_price (h : J q i f N) (hF : FI q i f) {k : Nat} (hk : k < q 2) (ha : 0 < f (4 * k + 1)) : qPrice N (al f k) = fPr q (f (4 * k)) (f (4 * k + 2)) (q 1) := by
  have hl := j_l h hk ha
  unfold qPrice
  rw [hl.2.1, hl.2.2.2.1, ← j_a h (show 1 < 10 from by omega) (by omega), j_pr h (fi_l0 hF hk) (by have := fi_1 hF; omega)]
theorem j_mt (h : J q i f N) (pl : Nat) : fMt q pl = qMelt N pl := by
  unfold fMt qMelt
  rw [j_a h (show 8 < 10 from by omega) (by omega)]
theorem fFr_s (k t : Nat) : fFr q i f k (t + 1) = fFr q i f k t - qLoss (f (4 * k + 3)) (i (f (4 * k + 3)) - t * fMt q (f (4 * k + 3))) := by
  show f (4 * k + 2) - (fLs _ _ _ t + qLoss _ _) = f (4 * k + 2) - fLs _ _ _ t - qLoss _ _
  omega
theorem j_FI (h : J q i f N) (hF : FI q i f) {k : Nat} (hk : k < q 2) (ha : 0 < f (4 * k + 1)) (t : Nat) : qFI N (al f k) t = (fFr q i f k t, i (f (4 * k + 3)) - t * fMt q (f (4 * k + 3))) := by
  have hl := j_l h hk ha
  have h3 := fi_l3 hF hk
  induction t with
  | zero =>
    show (qL N (al f k) 3, N (34 + qL N (al f k) 4)) = _
    rw [hl.2.2.2.1, hl.2.2.2.2, j_i h h3, Nat.zero_mul]
    rfl
  | succ t ih =>
    show ((qFI N (al f k) t).1 - qLoss (qL N (al f k) 4) (qFI N (al f k) t).2, (qFI N (al f k) t).2 - qMelt N (qL N (al f k) 4)) = _
    rw [ih, hl.2.2.2.2, ← j_mt h, fFr_s, Nat.succ_mul t (fMt q (f (4 * k + 3))), Nat.sub_sub]
theorem j_fr (h : J q i f N) (hF : FI q i f) {k : Nat} (hk : k < q 2) (ha : 0 < f (4 * k + 1)) (t : Nat) : (qFI N (al f k) t).1 = fFr q i f k t := by rw [j_FI h hF hk ha]
end JS
/-! sums -/
def fS (g : Nat → Nat) : Nat → Nat
  | 0 => 0
  | k + 1 => fS g k + g k
def gG (f : Nat → Nat) (k : Nat) : Nat := f (4 * k + 1)
def gK (f : Nat → Nat) (c k : Nat) : Nat := if f (4 * k) = c then f (4 * k + 1) else 0
def gP (f : Nat → Nat) (c k : Nat) : Nat := if f (4 * k + 3) = c then f (4 * k + 1) else 0
def gW (q f : Nat → Nat) (k : Nat) : Nat := if q 9 ≤ f (4 * k + 2) then qW (f (4 * k + 1)) (fPr q (f (4 * k)) (f (4 * k + 2)) (q 1)) else 0
theorem fS_congr {g g' : Nat → Nat} {n : Nat} (h : ∀ k, k < n → g k = g' k) : fS g n = fS g' n := by
  induction n with
  | zero => rfl
  | succ n ih => unfold fS; rw [ih (fun k hk => h k (by omega)), h n (by omega)]
theorem fS_le {g : Nat → Nat} {B n : Nat} (h : ∀ k, k < n → g k ≤ B) : fS g n ≤ B * n := by
  induction n with
  | zero => exact Nat.le_refl 0
  | succ n ih =>
    have := ih (fun k hk => h k (by omega))
    have := h n (by omega)
    unfold fS
    rw [Nat.mul_succ]
    omega
theorem fS_u {g g' : Nat → Nat} {n k : Nat} (hk : k < n) (h : ∀ t, t < n → t ≠ k → g' t = g t) : fS g' n + g k = fS g n + g' k := by
  induction n with
  | zero => omega
  | succ n ih =>
    unfold fS
    by_cases e : k = n
    · subst e
      rw [fS_congr (g := g') (g' := g) (fun t ht => h t (by omega) (by omega))]
      omega
    · have := ih (by omega) (fun t ht => h t (by omega))
      rw [h n (by omega) (by omega)]
      omega
section JSUM
variable {q i f N : Nat → Nat}
theorem j_sum (h : J q i f N) {n : Nat} (hn : n ≤ q 2) : fS (gG f) n = qSum N (al f n) := by
  induction n with
  | zero => rfl
  | succ n ih =>
    have e := ih (by omega)
    by_cases z : 0 < f (4 * n + 1)
    · rw [al_1 z]
      show fS (gG f) n + f (4 * n + 1) = qSum N (al f n) + qL N (al f n) 2
      rw [e, (j_l h hn z).2.2.1]
    · rw [al_0 z]
      show fS (gG f) n + f (4 * n + 1) = _
      omega
theorem j_kd (h : J q i f N) (c : Nat) {n : Nat} (hn : n ≤ q 2) : fS (gK f c) n = qGKd N c (al f n) := by
  induction n with
  | zero => rfl
  | succ n ih =>
    have e := ih (by omega)
    by_cases z : 0 < f (4 * n + 1)
    · rw [al_1 z]
      show fS (gK f c) n + (if f (4 * n) = c then f (4 * n + 1) else 0) = qGKd N c (al f n) + (if qL N (al f n) 1 = c then qL N (al f n) 2 else 0)
      rw [e, (j_l h hn z).2.1, (j_l h hn z).2.2.1]
    · rw [al_0 z]
      show fS (gK f c) n + (if f (4 * n) = c then f (4 * n + 1) else 0) = _
      split <;> omega
theorem j_pl (h : J q i f N) (c : Nat) {n : Nat} (hn : n ≤ q 2) : fS (gP f c) n = qGAt N c (al f n) := by
  induction n with
  | zero => rfl
  | succ n ih =>
    have e := ih (by omega)
    by_cases z : 0 < f (4 * n + 1)
    · rw [al_1 z]
      show fS (gP f c) n + (if f (4 * n + 3) = c then f (4 * n + 1) else 0) = qGAt N c (al f n) + (if qL N (al f n) 4 = c then qL N (al f n) 2 else 0)
      rw [e, (j_l h hn z).2.2.2.2, (j_l h hn z).2.2.1]
    · rw [al_0 z]
      show fS (gP f c) n + (if f (4 * n + 3) = c then f (4 * n + 1) else 0) = _
      split <;> omega
theorem j_worth (h : J q i f N) (hF : FI q i f) {n : Nat} (hn : n ≤ q 2) : fS (gW q f) n = qWorth N (al f n) := by
  induction n with
  | zero => rfl
  | succ n ih =>
    have e := ih (by omega)
    by_cases z : 0 < f (4 * n + 1)
    · rw [al_1 z]
      show fS (gW q f) n + (if q 9 ≤ f (4 * n + 2) then qW (f (4 * n + 1)) (fPr q (f (4 * n)) (f (4 * n + 2)) (q 1)) else 0) = qWorth N (al f n) + (if qSold N (al f n) = true then qW (qL N (al f n) 2) (qPrice N (al f n)) else 0)
      rw [e, (j_l h hn z).2.2.1, j_price h hF hn z]
      unfold qSold
      rw [(j_l h hn z).2.2.2.1, ← j_a h (show 9 < 10 from by omega) (by omega)]
      simp only [decide_eq_true_eq]
    · rw [al_0 z]
      show fS (gW q f) n + (if q 9 ≤ f (4 * n + 2) then qW (f (4 * n + 1)) (fPr q (f (4 * n)) (f (4 * n + 2)) (q 1)) else 0) = _
      have z0 : f (4 * n + 1) = 0 := by omega
      unfold qW
      rw [z0, Nat.zero_mul, Nat.zero_div, e]
      split <;> rfl
end JSUM
/-! the best of some: from below (a greater one wins) and from above (one as great wins): the same -/
def Bst (P : Nat → Prop) (key : Nat → Nat) (lo hi : Nat) : Option Nat → Prop
  | none => ∀ t, lo ≤ t → t < hi → ¬ P t
  | some m => (lo ≤ m ∧ m < hi ∧ P m) ∧ ∀ t, lo ≤ t → t < hi → P t → key t < key m ∨ (key t = key m ∧ m ≤ t)
section BST
variable {P : Nat → Prop} {key : Nat → Nat} {lo hi : Nat} {o o' : Option Nat}
theorem Bst.uniq (h : Bst P key lo hi o) (h' : Bst P key lo hi o') : o = o' := by
  cases o with
  | none =>
    cases o' with
    | none => rfl
    | some m => exact absurd h'.1.2.2 (h m h'.1.1 h'.1.2.1)
  | some m =>
    cases o' with
    | none => exact absurd h.1.2.2 (h' m h.1.1 h.1.2.1)
    | some n =>
      have a := h.2 n h'.1.1 h'.1.2.1 h'.1.2.2
      have c := h'.2 m h.1.1 h.1.2.1 h.1.2.2
      congr 1
      omega
theorem Bst.nil : Bst P key lo lo none := fun t h1 h2 => by omega
theorem Bst.up_t (h : Bst P key lo hi o) (hl : lo ≤ hi) (hp : P hi) (hk : ∀ t, o = some t → key t < key hi) : Bst P key lo (hi + 1) (some hi) := by
  refine ⟨⟨hl, Nat.lt_succ_self _, hp⟩, fun t h1 h2 h3 => ?_⟩
  by_cases e : t = hi
  · exact Or.inr ⟨by rw [e], by omega⟩
  · cases o with
    | none => exact absurd h3 (h t h1 (by omega))
    | some m =>
      have a := h.2 t h1 (by omega) h3
      have b := hk m rfl
      omega
theorem Bst.up_f (h : Bst P key lo hi o) (hn : ¬ (P hi ∧ ∀ t, o = some t → key t < key hi)) : Bst P key lo (hi + 1) o := by
  cases o with
  | none =>
    intro t h1 h2 h3
    by_cases e : t = hi
    · exact hn ⟨by rw [← e]; exact h3, fun t ht => by cases ht⟩
    · exact h t h1 (by omega) h3
  | some m =>
    refine ⟨⟨h.1.1, by have := h.1.2.1; omega, h.1.2.2⟩, fun t h1 h2 h3 => ?_⟩
    by_cases e : t = hi
    · subst e
      have : ¬ key m < key t := fun z => hn ⟨h3, fun y hy => by cases hy; exact z⟩
      have := h.1.2.1
      omega
    · exact h.2 t h1 (by omega) h3
theorem Bst.dn_t (h : Bst P key (lo + 1) hi o) (hl : lo < hi) (hp : P lo) (hk : ∀ t, o = some t → key t ≤ key lo) : Bst P key lo hi (some lo) := by
  refine ⟨⟨Nat.le_refl _, hl, hp⟩, fun t h1 h2 h3 => ?_⟩
  by_cases e : t = lo
  · exact Or.inr ⟨by rw [e], by omega⟩
  · cases o with
    | none => exact absurd h3 (h t (by omega) h2)
    | some m =>
      have a := h.2 t (by omega) h2 h3
      have b := hk m rfl
      omega
theorem Bst.dn_f (h : Bst P key (lo + 1) hi o) (hn : ¬ (P lo ∧ ∀ t, o = some t → key t ≤ key lo)) : Bst P key lo hi o := by
  cases o with
  | none =>
    intro t h1 h2 h3
    by_cases e : t = lo
    · exact hn ⟨by rw [← e]; exact h3, fun t ht => by cases ht⟩
    · exact h t (by omega) h2 h3
  | some m =>
    refine ⟨⟨by have := h.1.1; omega, h.1.2.1, h.1.2.2⟩, fun t h1 h2 h3 => ?_⟩
    by_cases e : t = lo
    · subst e
      have : ¬ key m ≤ key t := fun z => hn ⟨h3, fun y hy => by cases hy; exact z⟩
      omega
    · exact h.2 t (by omega) h2 h3
theorem Bst.congr {P' : Nat → Prop} {key' : Nat → Nat} (h : Bst P key lo hi o) (hp : ∀ t, lo ≤ t → t < hi → (P t ↔ P' t)) (hk : ∀ t, lo ≤ t → t < hi → key t = key' t) : Bst P' key' lo hi o := by
  cases o with
  | none => exact fun t h1 h2 h3 => h t h1 h2 ((hp t h1 h2).mpr h3)
  | some m =>
    refine ⟨⟨h.1.1, h.1.2.1, (hp m h.1.1 h.1.2.1).mp h.1.2.2⟩, fun t h1 h2 h3 => ?_⟩
    have := h.2 t h1 h2 ((hp t h1 h2).mpr h3)
    rw [hk t h1 h2, hk m h.1.1 h.1.2.1] at this
    exact this
end BST
theorem qFr_bst {N : Nat → Nat} {kd : Nat} (n : Nat) : Bst (fun m => qL N m 1 = kd) (fun m => qL N m 3) 0 n (qFr N kd n) := by
  induction n with
  | zero => exact Bst.nil
  | succ n ih =>
    unfold qFr
    split
    · rename_i h
      refine ih.up_t (Nat.zero_le _) h.1 (fun t ht => ?_)
      have h2 := h.2
      rw [ht] at h2
      exact of_decide_eq_true h2
    · rename_i h
      refine ih.up_f (fun z => h ⟨z.1, ?_⟩)
      cases ho : qFr N kd n with
      | none => rfl
      | some t => exact decide_eq_true (z.2 t ho)
theorem qCold_bst {N : Nat → Nat} (n : Nat) : Bst (fun j => qCnt N j (N 2) < 3) (fun j => N (34 + j)) 0 n (qCold N n) := by
  induction n with
  | zero => exact Bst.nil
  | succ n ih =>
    unfold qCold
    split
    · rename_i h
      refine ih.up_t (Nat.zero_le _) h.1 (fun t ht => ?_)
      have h2 := h.2
      rw [ht] at h2
      exact of_decide_eq_true h2
    · rename_i h
      refine ih.up_f (fun z => h ⟨z.1, ?_⟩)
      cases ho : qCold N n with
      | none => rfl
      | some t => exact decide_eq_true (z.2 t ho)
theorem fNt_bst {q i f : Nat → Nat} {hi : Nat} : ∀ (n : Nat) (o : Option Nat), n ≤ hi → Bst (fun x => fAt f x (q 2) < 3) i n hi o → Bst (fun x => fAt f x (q 2) < 3) i 0 hi (fNt q i f n o) := by
  intro n
  induction n with
  | zero => intro o _ h; exact h
  | succ n ih =>
    intro o hn h
    unfold fNt
    refine ih _ (by omega) ?_
    split
    · rename_i z
      exact h.dn_t (by omega) z.1 z.2
    · rename_i z
      exact h.dn_f z
theorem j_night {q i f N : Nat → Nat} (h : J q i f N) : fNt q i f 6 none = qCold N 6 := by
  refine Bst.uniq (fNt_bst 6 none (Nat.le_refl _) Bst.nil) ((qCold_bst 6).congr (fun t h1 h2 => ?_) (fun t h1 h2 => ?_))
  · show qCnt N t (N 2) < 3 ↔ fAt f t (q 2) < 3
    rw [j_at h]
  · exact (j_i h (by omega)).symm
theorem qBs_bst {N : Nat → Nat} {k : Nat} (n : Nat) : ∃ o : Option Nat, Bst (fun _ => True) (fun j => qWat N k j) 0 n o ∧ qBs N k n = o.map (fun j => (N 1 + j, qWat N k j)) := by
  induction n with
  | zero => exact ⟨none, Bst.nil, rfl⟩
  | succ n ih =>
    obtain ⟨o, h1, h2⟩ := ih
    show ∃ o, _ ∧ qBt (qWat N k n) (N 1 + n) (qBs N k n) = _
    rw [h2]
    cases o with
    | none => exact ⟨some n, h1.up_t (Nat.zero_le _) trivial (fun t ht => by cases ht), rfl⟩
    | some m =>
      by_cases z : qWat N k m < qWat N k n
      · exact ⟨some n, h1.up_t (Nat.zero_le _) trivial (fun t ht => by cases ht; exact z), if_pos z⟩
      · exact ⟨some m, h1.up_f (fun y => z (y.2 m rfl)), if_neg z⟩
/-- by lots' own numbers: what the law's row holds of it -/
def qId : Option Nat → Nat
  | none => 0
  | some k => k + 1
def qJd : Option Nat → Int32
  | none => -6
  | some k => nI (k + 1)
section JB
variable {q i f N : Nat → Nat}
theorem j_best (h : J q i f N) {kd : Nat} {o : Option Nat} (ho : Bst (fun k => 0 < f (4 * k + 1) ∧ f (4 * k) = kd) (fun k => f (4 * k + 2)) 0 (q 2) o) : qNum N (qFr N kd (N 2)) = qJd o := by
  have key : qFr N kd (N 2) = o.map (al f) := by
    refine Bst.uniq (qFr_bst (N 2)) ?_
    cases o with
    | none =>
      intro m _ hm hk
      obtain ⟨k, k1, k2, k3⟩ := j_on h hm
      have hl := j_l h k1 k2
      rw [k3] at hl
      exact ho k (Nat.zero_le _) k1 ⟨k2, by rw [← hl.2.1]; exact hk⟩
    | some k =>
      obtain ⟨⟨-, c1, c2, c3⟩, c4⟩ := ho
      have hl := j_l h c1 c2
      refine ⟨⟨Nat.zero_le _, j_lt h c1 c2, by rw [← c3]; exact hl.2.1⟩, fun m _ hm hk => ?_⟩
      obtain ⟨t, t1, t2, t3⟩ := j_on h hm
      have ht := j_l h t1 t2
      rw [t3] at ht
      have hc := c4 t (Nat.zero_le _) t1 ⟨t2, by rw [← ht.2.1]; exact hk⟩
      dsimp only
      rw [ht.2.2.2.1, hl.2.2.2.1]
      rcases hc with z | ⟨z1, z2⟩
      · exact Or.inl z
      · exact Or.inr ⟨z1, by rw [← t3]; exact al_mono f z2⟩
  rw [key]
  cases o with
  | none => rfl
  | some k =>
    show nI (qL N (al f k) 0) = nI (k + 1)
    rw [(j_l h ho.1.2.1 ho.1.2.2.1).1]
theorem qFst_bst {pl : Nat} {hi : Nat} : ∀ (n : Nat) (o : Option Nat), n ≤ hi → Bst (fun m => qL N m 4 = pl) (fun _ => 0) n hi o → Bst (fun m => qL N m 4 = pl) (fun _ => 0) 0 hi (qFst N pl n o) := by
  intro n
  induction n with
  | zero => intro o _ h; exact h
  | succ n ih =>
    intro o hn h
    unfold qFst
    refine ih _ (by omega) ?_
    split
    · rename_i z
      exact h.dn_t (by omega) z (fun _ _ => Nat.le_refl _)
    · rename_i z
      exact h.dn_f (fun y => z y.1)
theorem j_first (h : J q i f N) {pl : Nat} {o : Option Nat} (ho : Bst (fun k => 0 < f (4 * k + 1) ∧ f (4 * k + 3) = pl) (fun _ => 0) 0 (q 2) o) : qNum N (qFst N pl (N 2) none) = qJd o := by
  have key : qFst N pl (N 2) none = o.map (al f) := by
    refine Bst.uniq (qFst_bst (hi := N 2) (N 2) none (Nat.le_refl _) Bst.nil) ?_
    cases o with
    | none =>
      intro m _ hm hk
      obtain ⟨k, k1, k2, k3⟩ := j_on h hm
      have hl := j_l h k1 k2
      rw [k3] at hl
      exact ho k (Nat.zero_le _) k1 ⟨k2, by rw [← hl.2.2.2.2]; exact hk⟩
    | some k =>
      obtain ⟨⟨-, c1, c2, c3⟩, c4⟩ := ho
      have hl := j_l h c1 c2
      refine ⟨⟨Nat.zero_le _, j_lt h c1 c2, by rw [← c3]; exact hl.2.2.2.2⟩, fun m _ hm hk => ?_⟩
      obtain ⟨t, t1, t2, t3⟩ := j_on h hm
      have ht := j_l h t1 t2
      rw [t3] at ht
      have hc := c4 t (Nat.zero_le _) t1 ⟨t2, by rw [← ht.2.2.2.2]; exact hk⟩
      rcases hc with z | ⟨z1, z2⟩
      · exact Or.inl z
      · exact Or.inr ⟨rfl, by rw [← t3]; exact al_mono f z2⟩
  rw [key]
  cases o with
  | none => rfl
  | some k =>
    show nI (qL N (al f k) 0) = nI (k + 1)
    rw [(j_l h ho.1.2.1 ho.1.2.2.1).1]
end JB
