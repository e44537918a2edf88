/-! THE LAW'S ROWS AND THE CLASS'S NUMBERS: the hour, the closing -/
theorem uN_same {N : Nat → Nat} {j v w : Nat} : uN (uN N j v) j w = uN N j w := by
  funext k
  unfold uN
  by_cases h : k = j
  · rw [if_pos h, if_pos h]
  · rw [if_neg h, if_neg h, if_neg h]
theorem uN_id {N : Nat → Nat} {j v : Nat} (h : N j = v) : uN N j v = N := by
  funext k
  unfold uN
  by_cases z : k = j
  · rw [if_pos z, z, h]
  · rw [if_neg z]
theorem fFr_congr {q i f f' : Nat → Nat} {k h : Nat} (h2 : f' (4 * k + 2) = f (4 * k + 2)) (h3 : f' (4 * k + 3) = f (4 * k + 3)) : fFr q i f' k h = fFr q i f k h := by
  unfold fFr
  rw [h2, h3]
section JHR
variable {q i f N : Nat → Nat}
theorem fH1_n {n j : Nat} (h : ∀ t, t < n → j ≠ 4 * t + 2) : fH1 q i f n j = f j := by
  induction n with
  | zero => rfl
  | succ n ih =>
    have e := ih (fun t ht => h t (by omega))
    unfold fH1
    split
    · rw [uN_n (h n (by omega))]; exact e
    · exact e
theorem fH1_s {n k : Nat} (hk : k < n) : fH1 q i f n (4 * k + 2) = if 0 < f (4 * k + 1) then fFr q i f k 1 else f (4 * k + 2) := by
  induction n with
  | zero => omega
  | succ n ih =>
    have e1 : fH1 q i f n (4 * n + 1) = f (4 * n + 1) := fH1_n (by omega)
    have es : fH1 q i f (n + 1) = if 0 < f (4 * n + 1) then uN (fH1 q i f n) (4 * n + 2) (fFr q i (fH1 q i f n) n 1) else fH1 q i f n := by
      show (if 0 < fH1 q i f n (4 * n + 1) then _ else _) = _
      rw [e1]
    rw [es]
    by_cases z : k = n
    · subst z
      by_cases y : 0 < f (4 * k + 1)
      · rw [if_pos y, if_pos y, uN_s]
        exact fFr_congr (fH1_n (by omega)) (fH1_n (by omega))
      · rw [if_neg y, if_neg y]
        exact fH1_n (by omega)
    · by_cases y : 0 < f (4 * n + 1)
      · rw [if_pos y, uN_n (by omega)]
        exact ih (by omega)
      · rw [if_neg y]
        exact ih (by omega)
theorem fH2_n {n p : Nat} (h : n ≤ p) : fH2 q i n p = i p := by
  induction n with
  | zero => rfl
  | succ n ih => exact (uN_n (by omega)).trans (ih (by omega))
theorem fH2_s {n p : Nat} (h : p < n) : fH2 q i n p = i p - fMt q p := by
  induction n with
  | zero => omega
  | succ n ih =>
    show uN (fH2 q i n) n _ p = _
    by_cases z : p = n
    · subst z
      rw [uN_s, fH2_n (Nat.le_refl _)]
    · rw [uN_n z]
      exact ih (by omega)
theorem jj_hour (h : JJ q i f N) (hI : qIr N) (h1 : q 1 < 10) : JJ (uN q 1 (q 1 + 1)) (fH2 q i 11) (fH1 q i f (q 2)) (qPass N) := by
  obtain ⟨hJ, hF, hC⟩ := h
  have hn := j_n hJ
  have hlt := fun k hk ha => j_lt hJ (k := k) hk ha
  have eal : ∀ n, al (fH1 q i f (q 2)) n = al f n := fun n => al_congr (fun t _ => by rw [fH1_n (by omega)])
  refine ⟨?_, (fH2_k (fH1_k hF (q 2) (Nat.le_refl _)) 11 (Nat.le_refl _)).uq (by omega) (by omega) (by omega) (by omega) (by omega) (by omega), ?_⟩
  · obtain ⟨a, c, d, e, g, o⟩ := id hJ
    have e2 : uN q 1 (q 1 + 1) 2 = q 2 := uN_n (by omega)
    refine ⟨fun t ht ht2 => ?_, by rw [e2, qPass_lo (by omega) (by omega)]; exact c, fun t t0 ht => by rw [uN_n (by omega), qPass_lo (by omega) (by omega)]; exact d t t0 ht, fun t ht => ?_, by rw [e2, qPass_lo (by omega) (by omega), eal]; exact g, fun k hk ha => ?_⟩
    · by_cases z : t = 1
      · rw [z, uN_s, qPass_1, a 1 (by omega) (by omega)]
      · rw [uN_n z, qPass_lo (by omega) z]
        exact a t ht ht2
    · rw [fH2_s ht, qPass_i ht, e t ht, j_mt hJ]
    · rw [e2] at hk
      rw [fH1_n (by omega)] at ha
      obtain ⟨l0, l1, l2, l3, l4⟩ := o k hk ha
      rw [eal]
      have h3 := fi_l3 hF hk
      refine ⟨(qPass_l (by omega) (by omega)).trans l0, (qPass_l (by omega) (by omega)).trans (l1.trans (fH1_n (by omega)).symm), (qPass_l (by omega) (by omega)).trans (l2.trans (fH1_n (by omega)).symm), ?_, (qPass_l (by omega) (by omega)).trans (l4.trans (fH1_n (by omega)).symm)⟩
      rw [qPass_f hI (hlt k hk ha), fH1_s hk, if_pos ha, l3, l4, ← e _ h3]
      show _ = f (4 * k + 2) - (0 + qLoss (f (4 * k + 3)) (i (f (4 * k + 3)) - 0 * fMt q (f (4 * k + 3))))
      rw [Nat.zero_mul, Nat.sub_zero, Nat.zero_add]
  · unfold Cn at hC ⊢
    rw [uN_n (by omega), uN_n (by omega), uN_n (by omega), uN_n (by omega), fS_congr (g := gG (fH1 q i f (q 2))) (g' := gG f) (fun t _ => fH1_n (by omega))]
    exact hC
/-! the closing -/
def fZ (q f : Nat → Nat) (n : Nat) : Nat → Nat := fun j => if j % 4 = 1 ∧ j / 4 < n ∧ f (j + 1) < q 9 then 0 else f j
def gZ (q f : Nat → Nat) (t : Nat) : Nat := if f (4 * t + 2) < q 9 then f (4 * t + 1) else 0
theorem fZ_n {n j : Nat} (h : j % 4 ≠ 1 ∨ n ≤ j / 4) : fZ q f n j = f j := if_neg (by omega)
theorem fZ_0 : fZ q f 0 = f := funext (fun j => if_neg (by omega))
theorem fC1_s (n : Nat) : (fC1 q f n).2 = fZ q f n ∧ (fC1 q f n).1 = fS (gZ q f) n := by
  induction n with
  | zero => exact ⟨fZ_0.symm, rfl⟩
  | succ n ih =>
    obtain ⟨a, c⟩ := ih
    have e1 : (fC1 q f n).2 (4 * n + 1) = f (4 * n + 1) := by rw [a]; exact fZ_n (by omega)
    have e2 : (fC1 q f n).2 (4 * n + 2) = f (4 * n + 2) := by rw [a]; exact fZ_n (by omega)
    have es : fC1 q f (n + 1) = if f (4 * n + 1) = 0 ∨ q 9 ≤ f (4 * n + 2) then fC1 q f n else ((fC1 q f n).1 + f (4 * n + 1), uN (fC1 q f n).2 (4 * n + 1) 0) := by
      show (if (fC1 q f n).2 (4 * n + 1) = 0 ∨ q 9 ≤ (fC1 q f n).2 (4 * n + 2) then _ else _) = _
      rw [e1, e2]
    rw [es]
    have esum : fS (gZ q f) (n + 1) = fS (gZ q f) n + gZ q f n := rfl
    by_cases z : f (4 * n + 1) = 0 ∨ q 9 ≤ f (4 * n + 2)
    · rw [if_pos z, a, c]
      refine ⟨?_, ?_⟩
      · funext j
        unfold fZ
        by_cases y : j = 4 * n + 1
        · rw [if_neg (by omega)]
          split
          · rename_i w
            rw [y] at w ⊢
            have : f (4 * n + 2) < q 9 := w.2.2
            omega
          · rfl
        · by_cases w : j % 4 = 1 ∧ j / 4 < n ∧ f (j + 1) < q 9
          · rw [if_pos w, if_pos (by omega)]
          · rw [if_neg w, if_neg (by omega)]
      · have : gZ q f n = 0 := by unfold gZ; split <;> omega
        omega
    · rw [if_neg z]
      refine ⟨?_, ?_⟩
      · show uN (fC1 q f n).2 (4 * n + 1) 0 = _
        rw [a]
        funext j
        unfold uN fZ
        by_cases y : j = 4 * n + 1
        · rw [if_pos y, if_pos ⟨by omega, by omega, by rw [y]; show f (4 * n + 2) < q 9; omega⟩]
        · rw [if_neg y]
          by_cases w : j % 4 = 1 ∧ j / 4 < n ∧ f (j + 1) < q 9
          · rw [if_pos w, if_pos (by omega)]
          · rw [if_neg w, if_neg (by omega)]
      · show (fC1 q f n).1 + f (4 * n + 1) = _
        have : gZ q f n = f (4 * n + 1) := if_pos (by omega)
        omega
end JHR
theorem j_C1 {i : Nat → Nat} : ∀ (n : Nat) (q f N : Nat → Nat), J q i f N → n ≤ q 2 → J (uN q 5 (q 5 + fS (gZ q f) n)) i (fZ q f n) (qC1 (al f n) N) := by
  intro n
  induction n with
  | zero =>
    intro q f N h _
    rw [fZ_0, uN_id (show q 5 = q 5 + fS (gZ q f) 0 from rfl)]
    exact h
  | succ n ih =>
    intro q f N h hn
    have esum : fS (gZ q f) (n + 1) = fS (gZ q f) n + gZ q f n := rfl
    have keep : (f (4 * n + 1) = 0 ∨ q 9 ≤ f (4 * n + 2)) → fZ q f (n + 1) = fZ q f n ∧ gZ q f n = 0 := by
      intro z
      refine ⟨?_, by unfold gZ; split <;> omega⟩
      funext j
      unfold fZ
      by_cases y : j = 4 * n + 1
      · rw [if_neg (show ¬ (j % 4 = 1 ∧ j / 4 < n ∧ f (j + 1) < q 9) from by omega)]
        split
        · rename_i w
          rw [y] at w ⊢
          have : f (4 * n + 2) < q 9 := w.2.2
          omega
        · rfl
      · by_cases w : j % 4 = 1 ∧ j / 4 < n ∧ f (j + 1) < q 9
        · rw [if_pos w, if_pos (by omega)]
        · rw [if_neg w, if_neg (by omega)]
    by_cases ha : 0 < f (4 * n + 1)
    · have hl := j_l h hn ha
      rw [al_1 ha]
      by_cases z : q 9 ≤ f (4 * n + 2)
      · obtain ⟨k1, k2⟩ := keep (Or.inr z)
        rw [k1, esum, k2]
        show J _ i _ (qC1 (al f n) (if qSold N (al f n) = true then N else qThrow N (al f n)))
        rw [if_pos (show qSold N (al f n) = true from decide_eq_true (by rw [hl.2.2.2.1, ← j_a h (show 9 < 10 from by omega) (by omega)]; exact z))]
        exact ih q f N h (by omega)
      · show J _ i _ (qC1 (al f n) (if qSold N (al f n) = true then N else qThrow N (al f n)))
        rw [if_neg (fun w => by
          have w2 : N 9 ≤ qL N (al f n) 3 := of_decide_eq_true w
          rw [hl.2.2.2.1, ← j_a h (show 9 < 10 from by omega) (by omega)] at w2
          omega)]
        have h2 := ih _ _ _ (h.throw hn ha) (by rw [uN_n (by omega)]; omega)
        rw [al_z ha, if_neg (Nat.lt_irrefl _), Nat.sub_zero, uN_same, uN_s] at h2
        have e1 : fS (gZ (uN q 5 (q 5 + f (4 * n + 1))) (uN f (4 * n + 1) 0)) n = fS (gZ q f) n := fS_congr (fun t ht => by
          unfold gZ
          rw [uN_n (by omega), uN_n (by omega), uN_n (by omega)])
        have e2 : fZ (uN q 5 (q 5 + f (4 * n + 1))) (uN f (4 * n + 1) 0) n = fZ q f (n + 1) := by
          funext j
          unfold fZ
          rw [uN_n (show (9 : Nat) ≠ 5 from by omega)]
          by_cases y : j = 4 * n + 1
          · rw [if_neg (by omega), y, uN_s, if_pos ⟨by omega, by omega, by show f (4 * n + 2) < q 9; omega⟩]
          · by_cases w : j % 4 = 1
            · rw [uN_n y, uN_n (by omega)]
              by_cases w2 : j / 4 < n ∧ f (j + 1) < q 9
              · rw [if_pos ⟨w, w2⟩, if_pos (by omega)]
              · rw [if_neg (by omega), if_neg (by omega)]
            · rw [if_neg (by omega), if_neg (by omega), uN_n y]
        rw [e1, e2] at h2
        have e3 : gZ q f n = f (4 * n + 1) := if_pos (by omega)
        rw [esum, e3, show q 5 + (fS (gZ q f) n + f (4 * n + 1)) = q 5 + f (4 * n + 1) + fS (gZ q f) n from by omega]
        exact h2
    · obtain ⟨k1, k2⟩ := keep (Or.inl (by omega))
      rw [al_0 ha, k1, esum, k2]
      exact ih q f N h (by omega)
section JCL
variable {q i f N : Nat → Nat}
theorem fC2_no {tr g n : Nat} (h : ∀ t, t < n → ¬ (0 < f (4 * t + 1) ∧ f (4 * t + 3) = tr)) : fC2 q i tr g f n = (g, f) := by
  induction n with
  | zero => rfl
  | succ n ih =>
    have e := ih (fun t ht => h t (by omega))
    have := h n (by omega)
    show (if (fC2 q i tr g f n).2 (4 * n + 1) = 0 ∨ (fC2 q i tr g f n).2 (4 * n + 3) ≠ tr then fC2 q i tr g f n else _) = _
    rw [e, if_pos (by
      show f (4 * n + 1) = 0 ∨ f (4 * n + 3) ≠ tr
      omega)]
def fCR (q i : Nat → Nat) (g k : Nat) (f : Nat → Nat) : Nat × (Nat → Nat) := match fNt q i f 6 none with
  | none => (g + f (4 * k + 1), uN f (4 * k + 1) 0)
  | some x => (g, uN f (4 * k + 3) x)
theorem fC2_at {tr g n k : Nat} (hk : k < n) (ha : 0 < f (4 * k + 1)) (h3 : f (4 * k + 3) = tr) (h6 : 6 ≤ tr) (hu : ∀ t, t < n → t ≠ k → ¬ (0 < f (4 * t + 1) ∧ f (4 * t + 3) = tr)) : fC2 q i tr g f n = fCR q i g k f := by
  induction n with
  | zero => omega
  | succ n ih =>
    by_cases z : k = n
    · subst z
      have e := fC2_no (q := q) (i := i) (g := g) (n := k) (fun t ht => hu t (by omega) (by omega))
      show (if (fC2 q i tr g f k).2 (4 * k + 1) = 0 ∨ (fC2 q i tr g f k).2 (4 * k + 3) ≠ tr then fC2 q i tr g f k else match fNt q i (fC2 q i tr g f k).2 6 none with
        | none => ((fC2 q i tr g f k).1 + (fC2 q i tr g f k).2 (4 * k + 1), uN (fC2 q i tr g f k).2 (4 * k + 1) 0)
        | some x => ((fC2 q i tr g f k).1, uN (fC2 q i tr g f k).2 (4 * k + 3) x)) = _
      rw [e, if_neg (by
        show ¬ (f (4 * k + 1) = 0 ∨ f (4 * k + 3) ≠ tr)
        omega)]
      rfl
    · have e := ih (by omega) (fun t ht => hu t (by omega))
      have hn := hu n (by omega) (by omega)
      show (if (fC2 q i tr g f n).2 (4 * n + 1) = 0 ∨ (fC2 q i tr g f n).2 (4 * n + 3) ≠ tr then fC2 q i tr g f n else _) = _
      rw [e, if_pos ?_]
      unfold fCR
      split
      · show uN f (4 * k + 1) 0 (4 * n + 1) = 0 ∨ uN f (4 * k + 1) 0 (4 * n + 3) ≠ tr
        rw [uN_n (by omega), uN_n (by omega)]
        omega
      · show uN f (4 * k + 3) _ (4 * n + 1) = 0 ∨ uN f (4 * k + 3) _ (4 * n + 3) ≠ tr
        rw [uN_n (by omega), uN_n (by omega)]
        omega
theorem j_night2 {q0 i0 : Nat → Nat} (h : J q0 i0 f N) (h2 : q 2 = q0 2) (hi : ∀ t, t < 6 → i t = i0 t) : fNt q i f 6 none = qCold N 6 := by
  refine Bst.uniq (fNt_bst 6 none (Nat.le_refl _) Bst.nil) ((qCold_bst 6).congr (fun t h1 h3 => ?_) (fun t h1 h3 => ?_))
  · show qCnt N t (N 2) < 3 ↔ fAt f t (q 2) < 3
    rw [h2, j_at h]
  · show N (34 + t) = i t
    rw [hi t h3]
    exact (j_i h (by omega)).symm
theorem j_C2 {g t : Nat} {M : Nat → Nat} (h : J (uN q 5 (q 5 + g)) i f M) (hU : qU M) (ht : t < 5) : J (uN q 5 (q 5 + (fC2 q (uN i (6 + t) 0) (6 + t) g f (q 2)).1)) (uN i (6 + t) 0) (fC2 q (uN i (6 + t) 0) (6 + t) g f (q 2)).2 (uN (qC2s M (6 + t)) (34 + (6 + t)) 0) := by
  refine J.ui ?_ (by omega)
  have e2 : uN q 5 (q 5 + g) 2 = q 2 := uN_n (by omega)
  have hnt : fNt q (uN i (6 + t) 0) f 6 none = qCold M 6 := j_night2 h e2.symm (fun t' ht' => uN_n (by omega))
  unfold qC2s
  cases hf : qFst M (6 + t) (M 2) none with
  | none =>
    have hno := (qFst_nn hf).2
    rw [fC2_no (fun t' ht' z => by
      have hl := j_l h (by rw [e2]; exact ht') z.1
      exact hno _ (j_lt h (by rw [e2]; exact ht') z.1) (by rw [hl.2.2.2.2]; exact z.2))]
    exact h
  | some m =>
    have hm : m < M 2 := qFst_lt hf (Nat.le_refl _) (fun z hz => by cases hz)
    have h4 : qL M m 4 = 6 + t := qFst_f hf (fun z hz => by cases hz)
    obtain ⟨k, k1, k2, k3⟩ := j_on h hm
    have hl := j_l h k1 k2
    rw [k3] at hl
    have hk : k < q 2 := by rw [← e2]; exact k1
    rw [fC2_at (q := q) (i := uN i (6 + t) 0) (g := g) hk k2 (by rw [← hl.2.2.2.2]; exact h4) (by omega) (fun t' ht' hne z => by
      have hl' := j_l h (by rw [e2]; exact ht') z.1
      have hm' := j_lt h (by rw [e2]; exact ht') z.1
      have hd : al f t' ≠ m := fun w => hne (al_inj z.1 k2 (w.trans k3.symm))
      rcases Nat.lt_or_gt_of_ne hd with w | w
      · exact hU.2.2.2 _ _ w hm (by rw [hl'.2.2.2.2, z.2]; omega) (by rw [hl'.2.2.2.2, z.2, h4])
      · exact hU.2.2.2 _ _ w hm' (by rw [h4]; omega) (by rw [hl'.2.2.2.2, z.2, h4]))]
    unfold fCR
    rw [hnt]
    cases hc : qCold M 6 with
    | none =>
      have a := h.throw k1 k2
      rw [uN_same, uN_s, k3, Nat.add_assoc] at a
      exact a
    | some bx =>
      have a := h.uf (j := 3) (v := bx) k1 k2 (by omega) (by omega)
      rw [k3] at a
      exact a
theorem j_C3 (h : J q i f N) (hU : qU N) : ∀ t, t ≤ 5 → J (uN q 5 (q 5 + (fC3 q i f t).2.1)) (fC3 q i f t).1 (fC3 q i f t).2.2 (qC2 (qC1 (N 2) N) t) := by
  intro t
  induction t with
  | zero =>
    intro _
    have a := j_C1 (q 2) q f N h (Nat.le_refl _)
    obtain ⟨c1, c2⟩ := fC1_s (q := q) (f := f) (q 2)
    show J (uN q 5 (q 5 + (fC1 q f (q 2)).1)) i (fC1 q f (q 2)).2 (qC1 (N 2) N)
    rw [c1, c2, j_n h]
    exact a
  | succ t ih =>
    intro ht
    exact j_C2 (ih (by omega)) (qC2_U (qC1_U hU (Nat.le_refl _)).1 t (by omega)).1 (by omega)
theorem fC1_c (n : Nat) (hn : n ≤ q 2) : (fC1 q f n).1 + fS (gG (fC1 q f n).2) (q 2) = fS (gG f) (q 2) := by
  induction n with
  | zero => exact Nat.zero_add _
  | succ n ih =>
    have e := ih (by omega)
    show (if (fC1 q f n).2 (4 * n + 1) = 0 ∨ q 9 ≤ (fC1 q f n).2 (4 * n + 2) then fC1 q f n else ((fC1 q f n).1 + (fC1 q f n).2 (4 * n + 1), uN (fC1 q f n).2 (4 * n + 1) 0)).1 + fS (gG (if (fC1 q f n).2 (4 * n + 1) = 0 ∨ q 9 ≤ (fC1 q f n).2 (4 * n + 2) then fC1 q f n else ((fC1 q f n).1 + (fC1 q f n).2 (4 * n + 1), uN (fC1 q f n).2 (4 * n + 1) 0)).2) (q 2) = _
    split
    · exact e
    · have := gG_u (f := (fC1 q f n).2) (k := n) (v := 0) (n := q 2) (by omega)
      show (fC1 q f n).1 + (fC1 q f n).2 (4 * n + 1) + fS (gG (uN (fC1 q f n).2 (4 * n + 1) 0)) (q 2) = _
      omega
theorem fC2_c {tr g : Nat} (n : Nat) (hn : n ≤ q 2) : (fC2 q i tr g f n).1 + fS (gG (fC2 q i tr g f n).2) (q 2) = g + fS (gG f) (q 2) := by
  induction n with
  | zero => rfl
  | succ n ih =>
    have e := ih (by omega)
    unfold fC2
    split
    · exact e
    · split
      · have := gG_u (f := (fC2 q i tr g f n).2) (k := n) (v := 0) (n := q 2) (by omega)
        show (fC2 q i tr g f n).1 + (fC2 q i tr g f n).2 (4 * n + 1) + fS (gG (uN (fC2 q i tr g f n).2 (4 * n + 1) 0)) (q 2) = _
        omega
      · show (fC2 q i tr g f n).1 + fS (gG (uN (fC2 q i tr g f n).2 (4 * n + 3) _)) (q 2) = _
        rw [gG_n (by omega) (by omega)]
        exact e
theorem fC3_c (t : Nat) : (fC3 q i f t).2.1 + fS (gG (fC3 q i f t).2.2) (q 2) = fS (gG f) (q 2) := by
  induction t with
  | zero => exact fC1_c (q 2) (Nat.le_refl _)
  | succ t ih => exact (fC2_c (q 2) (Nat.le_refl _)).trans ih
theorem jj_close (h : JJ q i f N) (hU : qU N) : JJ (uN (uN (uN q 5 (q 5 + (fC3 q i f 5).2.1)) 0 (q 0 + 1)) 1 0) (fC3 q i f 5).1 (fC3 q i f 5).2.2 (qClose N) ∧ qClose N 5 - N 5 = (fC3 q i f 5).2.1 := by
  obtain ⟨hJ, hF, hC⟩ := h
  have a := j_C3 hJ hU 5 (Nat.le_refl _)
  have e0 : qC3 N 0 = q 0 := by
    have := j_a a (show 0 < 10 from by omega) (by omega)
    rw [uN_n (by omega)] at this
    exact this.symm
  have e5 : qC3 N 5 = q 5 + (fC3 q i f 5).2.1 := by
    have := j_a a (show 5 < 10 from by omega) (by omega)
    rw [uN_s] at this
    exact this.symm
  refine ⟨⟨?_, ((((fC3_k hF 5 (Nat.le_refl _)).1.uq (by omega) (by omega) (by omega) (by omega) (by omega) (by omega)).uq (by omega) (by omega) (by omega) (by omega) (by omega) (by omega)).uq (by omega) (by omega) (by omega) (by omega) (by omega) (by omega)), ?_⟩, ?_⟩
  · unfold qClose
    rw [e0]
    exact (a.uq (j := 0) (v := q 0 + 1) (by omega) (by omega)).uq (by omega) (by omega)
  · have := fC3_c (q := q) (i := i) (f := f) 5
    unfold Cn at hC ⊢
    rw [uN_n (by omega), uN_n (by omega), uN_n (by omega), uN_n (by omega), uN_n (by omega), uN_n (by omega), uN_n (by omega), uN_n (by omega), uN_s, uN_n (by omega), uN_n (by omega), uN_n (by omega)]
    omega
  · unfold qClose
    rw [uN_n (by omega), uN_n (by omega), e5, ← j_a hJ (show 5 < 10 from by omega) (by omega)]
    omega
end JCL
