/-! THE LAW'S ROWS AND THE CLASS'S NUMBERS: what a change does to both -/
theorem JL.lo {N f : Nat → Nat} {m k j v : Nat} (h : JL N m k f) (hj : j < 45) : JL (uN N j v) m k f := by
  have e : ∀ z, qL (uN N j v) m z = qL N m z := fun z => uN_n (by omega)
  unfold JL
  rw [e, e, e, e, e]
  exact h
section JOPS
variable {q i f N : Nat → Nat}
theorem J.uq (h : J q i f N) {j v : Nat} (hj : j < 10) (h2 : j ≠ 2) : J (uN q j v) i f (uN N j v) := by
  obtain ⟨a, c, d, e, g, o⟩ := h
  have e2 : uN q j v 2 = q 2 := uN_n (by omega)
  refine ⟨fun t ht ht2 => ?_, by rw [e2, uN_n (by omega)]; exact c, fun t h0 ht => by rw [uN_n (by omega), uN_n (by omega)]; exact d t h0 ht, fun t ht => by rw [uN_n (by omega)]; exact e t ht, by rw [e2, uN_n (by omega)]; exact g, fun k hk ha => ?_⟩
  · unfold uN
    split
    · rfl
    · exact a t ht ht2
  · rw [e2] at hk
    exact (o k hk ha).lo (by omega)
theorem J.ub (h : J q i f N) {j v : Nat} (h0 : 10 ≤ j) (hj : j < 33) : J (uN q j v) i f (uN N (j + 1) v) := by
  obtain ⟨a, c, d, e, g, o⟩ := h
  have e2 : uN q j v 2 = q 2 := uN_n (by omega)
  refine ⟨fun t ht ht2 => by rw [uN_n (by omega), uN_n (by omega)]; exact a t ht ht2, by rw [e2, uN_n (by omega)]; exact c, fun t t0 ht => ?_, fun t ht => by rw [uN_n (by omega)]; exact e t ht, by rw [e2, uN_n (by omega)]; exact g, fun k hk ha => ?_⟩
  · unfold uN
    by_cases z : t = j
    · rw [if_pos z, if_pos (by omega)]
    · rw [if_neg z, if_neg (by omega)]; exact d t t0 ht
  · rw [e2] at hk
    exact (o k hk ha).lo (by omega)
theorem J.ui (h : J q i f N) {j v : Nat} (hj : j < 11) : J q (uN i j v) f (uN N (34 + j) v) := by
  obtain ⟨a, c, d, e, g, o⟩ := h
  refine ⟨fun t ht ht2 => by rw [uN_n (by omega)]; exact a t ht ht2, by rw [uN_n (by omega)]; exact c, fun t t0 ht => by rw [uN_n (by omega)]; exact d t t0 ht, fun t ht => ?_, by rw [uN_n (by omega)]; exact g, fun k hk ha => (o k hk ha).lo (by omega)⟩
  unfold uN
  by_cases z : t = j
  · rw [if_pos z, if_pos (by omega)]
  · rw [if_neg z, if_neg (by omega)]; exact e t ht
theorem al_uf {f : Nat → Nat} {k j v : Nat} (ha : 0 < f (4 * k + 1)) (hj : j < 4) (h1 : j = 1 → 0 < v) (n : Nat) : al (uN f (4 * k + j) v) n = al f n := by
  refine al_congr (fun t _ => ?_)
  unfold uN
  by_cases z : 4 * t + 1 = 4 * k + j
  · rw [if_pos z, show t = k from by omega]
    exact ⟨fun _ => ha, fun _ => h1 (by omega)⟩
  · rw [if_neg z]
theorem J.uf (h : J q i f N) {k j v : Nat} (hk : k < q 2) (ha : 0 < f (4 * k + 1)) (hj : j < 4) (h1 : j = 1 → 0 < v) : J q i (uN f (4 * k + j) v) (uN N (45 + 5 * al f k + (j + 1)) v) := by
  obtain ⟨a, c, d, e, g, o⟩ := h
  refine ⟨fun t ht ht2 => by rw [uN_n (by omega)]; exact a t ht ht2, by rw [uN_n (by omega)]; exact c, fun t t0 ht => by rw [uN_n (by omega)]; exact d t t0 ht, fun t ht => by rw [uN_n (by omega)]; exact e t ht, by rw [uN_n (by omega), al_uf ha hj h1]; exact g, fun t ht hta => ?_⟩
  rw [al_uf ha hj h1]
  have hta' : 0 < f (4 * t + 1) := by
    unfold uN at hta
    by_cases z : 4 * t + 1 = 4 * k + j
    · rw [show t = k from by omega]; exact ha
    · rw [if_neg z] at hta; exact hta
  obtain ⟨l0, l1, l2, l3, l4⟩ := o t ht hta'
  have key : ∀ z, z < 4 → (qL N (al f t) (z + 1) = f (4 * t + z)) → qL (uN N (45 + 5 * al f k + (j + 1)) v) (al f t) (z + 1) = uN f (4 * k + j) v (4 * t + z) := by
    intro z hz hq
    show uN N (45 + 5 * al f k + (j + 1)) v (45 + 5 * al f t + (z + 1)) = _
    unfold uN
    by_cases y : t = k ∧ z = j
    · rw [if_pos (by rw [y.1, y.2]), if_pos (by omega)]
    · have hne : ¬ (45 + 5 * al f t + (z + 1) = 45 + 5 * al f k + (j + 1)) := by
        intro w
        have e1 : al f t = al f k := by omega
        exact y ⟨al_inj hta' ha e1, by omega⟩
      rw [if_neg hne, if_neg (by omega)]
      exact hq
  refine ⟨?_, key 0 (by omega) l1, key 1 (by omega) l2, key 2 (by omega) l3, key 3 (by omega) l4⟩
  show uN N (45 + 5 * al f k + (j + 1)) v (45 + 5 * al f t + 0) = _
  rw [uN_n (by omega)]
  exact l0
theorem al_z {f : Nat → Nat} {k : Nat} (ha : 0 < f (4 * k + 1)) (n : Nat) : al (uN f (4 * k + 1) 0) n = al f n - (if k < n then 1 else 0) := by
  induction n with
  | zero => rfl
  | succ n ih =>
    by_cases z : n = k
    · subst z
      rw [al_0 (by rw [uN_s]; omega), al_1 ha, ih, if_neg (by omega), if_pos (by omega)]
      omega
    · have e : uN f (4 * k + 1) 0 (4 * n + 1) = f (4 * n + 1) := uN_n (by omega)
      have hge : k < n → 1 ≤ al f n := fun y => by have := al_lt y ha; omega
      by_cases y : 0 < f (4 * n + 1)
      · rw [al_1 (by rw [e]; exact y), al_1 y, ih]
        split
        · rename_i w
          have := hge w
          rw [if_pos (by omega)]
          omega
        · rw [if_neg (by omega)]
          rfl
      · rw [al_0 (by rw [e]; exact y), al_0 y, ih]
        split
        · rw [if_pos (by omega)]
        · rw [if_neg (by omega)]
theorem J.drop (h : J q i f N) {k : Nat} (hk : k < q 2) (ha : 0 < f (4 * k + 1)) : J q i (uN f (4 * k + 1) 0) (qDrop N (al f k)) := by
  have hm := j_lt h hk ha
  obtain ⟨a, c, d, e, g, o⟩ := h
  refine ⟨fun t ht ht2 => by rw [qDrop_lo hm (by omega) ht2]; exact a t ht ht2, by rw [qDrop_lo hm (by omega) (by omega)]; exact c, fun t t0 ht => by rw [qDrop_lo hm (by omega) (by omega)]; exact d t t0 ht, fun t ht => by rw [qDrop_lo hm (by omega) (by omega)]; exact e t ht, by rw [qDrop_2 hm, al_z ha, if_pos hk, g], fun t ht hta => ?_⟩
  have htk : t ≠ k := by
    intro z
    rw [z, uN_s] at hta
    omega
  have ef : ∀ z, z < 4 → uN f (4 * k + 1) 0 (4 * t + z) = f (4 * t + z) := fun z hz => uN_n (by omega)
  rw [ef 1 (by omega)] at hta
  have ht2 : al f t < N 2 := by rw [g]; exact al_lt ht hta
  have key : ∀ z, z < 5 → qL (qDrop N (al f k)) (al (uN f (4 * k + 1) 0) t) z = qL N (al f t) z := by
    intro z hz
    rw [al_z ha]
    by_cases w : k < t
    · have := al_lt w ha
      rw [if_pos w, qDrop_l hm (by omega) hz, if_neg (by omega), show al f t - 1 + 1 = al f t from by omega]
    · have := al_lt (show t < k from by omega) hta
      rw [if_neg w, Nat.sub_zero, qDrop_l hm (by omega) hz, if_pos this]
  obtain ⟨l0, l1, l2, l3, l4⟩ := o t ht hta
  exact ⟨(key 0 (by omega)).trans l0, (key 1 (by omega)).trans (l1.trans (ef 0 (by omega)).symm), (key 2 (by omega)).trans (l2.trans (ef 1 (by omega)).symm), (key 3 (by omega)).trans (l3.trans (ef 2 (by omega)).symm), (key 4 (by omega)).trans (l4.trans (ef 3 (by omega)).symm)⟩
theorem J.throw (h : J q i f N) {k : Nat} (hk : k < q 2) (ha : 0 < f (4 * k + 1)) : J (uN q 5 (q 5 + f (4 * k + 1))) i (uN f (4 * k + 1) 0) (qThrow N (al f k)) := by
  unfold qThrow
  rw [(j_l h hk ha).2.2.1, ← j_a h (show 5 < 10 from by omega) (by omega)]
  exact J.drop (h.uq (by omega) (by omega)) (by rw [uN_n (by omega)]; exact hk) ha
/-- the lot that comes -/
def fAd (f : Nat → Nat) (n kd g fr bx : Nat) : Nat → Nat := uN (uN (uN (uN f (4 * n) kd) (4 * n + 1) g) (4 * n + 2) fr) (4 * n + 3) bx
theorem fAd_o {n kd g fr bx j : Nat} (h : j < 4 * n ∨ 4 * n + 4 ≤ j) : fAd f n kd g fr bx j = f j := by
  unfold fAd
  rw [uN_n (by omega), uN_n (by omega), uN_n (by omega), uN_n (by omega)]
theorem fAd_0 {n kd g fr bx : Nat} : fAd f n kd g fr bx (4 * n) = kd := by
  unfold fAd
  rw [uN_n (by omega), uN_n (by omega), uN_n (by omega), uN_s]
theorem fAd_1 {n kd g fr bx : Nat} : fAd f n kd g fr bx (4 * n + 1) = g := by
  unfold fAd
  rw [uN_n (by omega), uN_n (by omega), uN_s]
theorem fAd_2 {n kd g fr bx : Nat} : fAd f n kd g fr bx (4 * n + 2) = fr := by
  unfold fAd
  rw [uN_n (by omega), uN_s]
theorem fAd_3 {n kd g fr bx : Nat} : fAd f n kd g fr bx (4 * n + 3) = bx := by
  unfold fAd
  rw [uN_s]
theorem al_ad {n kd g fr bx m : Nat} (hm : m ≤ n) : al (fAd f n kd g fr bx) m = al f m := al_congr (fun t ht => by rw [fAd_o (by omega)])
theorem J.add (h : J q i f N) {kd g fr bx : Nat} (hg : 0 < g) : J (uN q 2 (q 2 + 1)) i (fAd f (q 2) kd g fr bx) (qAdd N kd g fr bx) := by
  have hn := j_n h
  have hl := fun k hk ha => j_lt h (k := k) hk ha
  obtain ⟨a, c, d, e, g2, o⟩ := h
  have hq2 : uN q 2 (q 2 + 1) 2 = q 2 + 1 := uN_s
  refine ⟨fun t ht ht2 => by rw [uN_n ht2, qAdd_o ht2 (by omega) (by omega)]; exact a t ht ht2, by rw [hq2, qAdd_10, c], fun t t0 ht => by rw [uN_n (by omega), qAdd_o (by omega) (by omega) (by omega)]; exact d t t0 ht, fun t ht => by rw [qAdd_o (by omega) (by omega) (by omega)]; exact e t ht, ?_, fun t ht hta => ?_⟩
  · rw [hq2, qAdd_2, al_1 (by rw [fAd_1]; exact hg), al_ad (Nat.le_refl _), hn]
  · rw [hq2] at ht
    by_cases z : t = q 2
    · subst z
      rw [al_ad (Nat.le_refl _), ← hn]
      exact ⟨(qAdd_l0 _ _ _ _ _).trans (by rw [c]), (qAdd_l1 _ _ _ _ _).trans fAd_0.symm, (qAdd_l2 _ _ _ _ _).trans fAd_1.symm, (qAdd_l3 _ _ _ _ _).trans fAd_2.symm, (qAdd_l4 _ _ _ _ _).trans fAd_3.symm⟩
    · rw [fAd_o (by omega)] at hta
      have hlt := hl t (by omega) hta
      rw [al_ad (show t ≤ q 2 from by omega)]
      obtain ⟨l0, l1, l2, l3, l4⟩ := o t (by omega) hta
      have key : ∀ y, y < 5 → qL (qAdd N kd g fr bx) (al f t) y = qL N (al f t) y := fun y hy => qAdd_o (by omega) (by omega) (by omega)
      exact ⟨(key 0 (by omega)).trans l0, (key 1 (by omega)).trans (l1.trans (fAd_o (by omega)).symm), (key 2 (by omega)).trans (l2.trans (fAd_o (by omega)).symm), (key 3 (by omega)).trans (l3.trans (fAd_o (by omega)).symm), (key 4 (by omega)).trans (l4.trans (fAd_o (by omega)).symm)⟩
theorem FI.add (h : FI q i f) {kd g fr bx : Nat} (h2 : q 2 < 16) (h0 : kd < 6) (h1 : g ≤ 20000) (hf : fr ≤ 100) (hb : bx < 6) : FI (uN q 2 (q 2 + 1)) i (fAd f (q 2) kd g fr bx) := by
  obtain ⟨⟨a1, a2, a8, a9⟩, b, c, d, e, o⟩ := h
  have hq2 : uN q 2 (q 2 + 1) 2 = q 2 + 1 := uN_s
  refine ⟨⟨by rw [uN_n (by omega)]; exact a1, by rw [hq2]; omega, by rw [uN_n (by omega)]; exact a8, by rw [uN_n (by omega)]; exact a9⟩, fun k hk => by rw [uN_n (by omega)]; exact b k hk, fun k hk => by rw [uN_n (by omega)]; exact c k hk, fun k hk => by rw [uN_n (by omega)]; exact d k hk, e, fun k hk => ?_⟩
  rw [hq2] at hk
  by_cases z : k = q 2
  · subst z
    rw [fAd_0, fAd_1, fAd_2, fAd_3]
    exact ⟨h0, h1, hf, by omega⟩
  · rw [fAd_o (by omega), fAd_o (by omega), fAd_o (by omega), fAd_o (by omega)]
    exact o k (by omega)
/-- what came is what was sold, thrown away, or is there -/
def Cn (q f : Nat → Nat) : Prop := q 3 = q 4 + q 5 + fS (gG f) (q 2)
theorem gG_u {k v : Nat} {n : Nat} (hk : k < n) : fS (gG (uN f (4 * k + 1) v)) n + f (4 * k + 1) = fS (gG f) n + v := by
  have h := fS_u (g := gG f) (g' := gG (uN f (4 * k + 1) v)) hk (fun t _ htk => uN_n (by omega))
  have e1 : gG (uN f (4 * k + 1) v) k = v := uN_s
  have e2 : gG f k = f (4 * k + 1) := rfl
  rw [e1, e2] at h
  exact h
theorem gG_n {k j v n : Nat} (hj : j ≠ 1) (hj4 : j < 4) : fS (gG (uN f (4 * k + j) v)) n = fS (gG f) n := fS_congr (fun t _ => uN_n (by omega))
theorem gG_ad {n kd g fr bx : Nat} : fS (gG (fAd f n kd g fr bx)) (n + 1) = fS (gG f) n + g := by
  show fS _ n + gG _ n = _
  rw [fS_congr (g := gG (fAd f n kd g fr bx)) (g' := gG f) (fun t ht => show fAd f n kd g fr bx (4 * t + 1) = f (4 * t + 1) from fAd_o (by omega)), show gG (fAd f n kd g fr bx) n = g from fAd_1]
end JOPS
/-- all that holds between two acts: the law's rows and the class's numbers -/
def JJ (q i f N : Nat → Nat) : Prop := J q i f N ∧ FI q i f ∧ Cn q f
section JJS
variable {q i f N : Nat → Nat}
theorem jj_deliver (h : JJ q i f N) (h16 : q 2 < 16) {kd g fr bx : Nat} (h0 : kd < 6) (h1 : 1 ≤ g) (h2 : g ≤ 20000) (h3 : fr ≤ 100) (h4 : bx < 6) : JJ (uN (uN (uN q 2 (q 2 + 1)) 3 (q 3 + g)) 6 (q 6 + g * q (16 + kd) / 1000)) i (fAd f (q 2) kd g fr bx) (qDel N kd g fr bx) := by
  obtain ⟨hJ, hF, hC⟩ := h
  have hF2 := hF.add (g := g) h16 h0 h2 h3 h4
  refine ⟨?_, (hF2.uq (by omega) (by omega) (by omega) (by omega) (by omega) (by omega)).uq (by omega) (by omega) (by omega) (by omega) (by omega) (by omega), ?_⟩
  · have a := J.add (kd := kd) (fr := fr) (bx := bx) ((hJ.uq (j := 3) (v := q 3 + g) (by omega) (by omega)).uq (j := 6) (v := q 6 + g * q (16 + kd) / 1000) (by omega) (by omega)) (show 0 < g from h1)
    have e2 : uN (uN q 3 (q 3 + g)) 6 (q 6 + g * q (16 + kd) / 1000) 2 = q 2 := by rw [uN_n (by omega), uN_n (by omega)]
    rw [e2, uN_comm (N := uN q 3 (q 3 + g)) (show (6 : Nat) ≠ 2 from by omega), uN_comm (N := q) (show (3 : Nat) ≠ 2 from by omega)] at a
    unfold qDel qW
    rw [← j_a hJ (show 3 < 10 from by omega) (by omega), ← j_a hJ (show 6 < 10 from by omega) (by omega), show N (17 + kd) = q (16 + kd) from by rw [j_b hJ (show 10 ≤ 16 + kd from by omega) (by omega)]; congr 1; omega]
    exact a
  · unfold Cn at hC ⊢
    have e2 : uN (uN (uN q 2 (q 2 + 1)) 3 (q 3 + g)) 6 (q 6 + g * q (16 + kd) / 1000) 2 = q 2 + 1 := by rw [uN_n (by omega), uN_n (by omega), uN_s]
    rw [e2, gG_ad, uN_n (by omega), uN_s, uN_n (by omega), uN_n (by omega), uN_n (by omega), uN_n (by omega), uN_n (by omega), uN_n (by omega)]
    omega
theorem jj_divide (h : JJ q i f N) (h16 : q 2 < 16) {k g bx : Nat} (hk : k < q 2) (h1 : 1 ≤ g) (h2 : g < f (4 * k + 1)) (h4 : bx < 6) : JJ (uN q 2 (q 2 + 1)) i (uN (fAd f (q 2) (f (4 * k)) g (f (4 * k + 2)) bx) (4 * k + 1) (f (4 * k + 1) - g)) (qAdd (uN N (45 + 5 * al f k + 2) (qL N (al f k) 2 - g)) (qL N (al f k) 1) g (qL N (al f k) 3) bx) := by
  obtain ⟨hJ, hF, hC⟩ := h
  have ha : 0 < f (4 * k + 1) := by omega
  have hl := j_l hJ hk ha
  have hF2 := hF.add (g := g) h16 (fi_l0 hF hk) (by have := fi_l1 hF hk; omega) (fi_l2 hF hk) h4
  refine ⟨?_, hF2.uf (by omega) (by omega) (fun _ => by have := fi_l1 hF hk; omega) (by omega) (by omega), ?_⟩
  · have a := J.add (kd := f (4 * k)) (g := g) (fr := f (4 * k + 2)) (bx := bx) (hJ.uf (j := 1) (v := f (4 * k + 1) - g) hk ha (by omega) (fun _ => by omega)) h1
    rw [hl.2.1, hl.2.2.1, hl.2.2.2.1]
    have e : fAd (uN f (4 * k + 1) (f (4 * k + 1) - g)) (q 2) (f (4 * k)) g (f (4 * k + 2)) bx = uN (fAd f (q 2) (f (4 * k)) g (f (4 * k + 2)) bx) (4 * k + 1) (f (4 * k + 1) - g) := by
      unfold fAd
      rw [uN_comm (show 4 * k + 1 ≠ 4 * q 2 from by omega), uN_comm (show 4 * k + 1 ≠ 4 * q 2 + 1 from by omega), uN_comm (show 4 * k + 1 ≠ 4 * q 2 + 2 from by omega), uN_comm (show 4 * k + 1 ≠ 4 * q 2 + 3 from by omega)]
    rw [e] at a
    exact a
  · unfold Cn at hC ⊢
    have hs := gG_u (f := fAd f (q 2) (f (4 * k)) g (f (4 * k + 2)) bx) (k := k) (v := f (4 * k + 1) - g) (n := q 2 + 1) (by omega)
    rw [gG_ad, fAd_o (by omega)] at hs
    rw [uN_s, uN_n (by omega), uN_n (by omega), uN_n (by omega)]
    omega
theorem jj_ice (h : JJ q i f N) {pl g : Nat} (hp : pl < 11) : JJ q (uN i pl (if 5000 < i pl + g then 5000 else i pl + g)) f (uN N (34 + pl) (qIce N pl g)) := by
  obtain ⟨hJ, hF, hC⟩ := h
  unfold qIce
  rw [← j_i hJ hp]
  exact ⟨hJ.ui hp, hF.ui (by split <;> omega), hC⟩
theorem jj_place (h : JJ q i f N) {k v : Nat} (hk : k < q 2) (ha : 0 < f (4 * k + 1)) (hv : v < 11) : JJ q i (uN f (4 * k + 3) v) (uN N (45 + 5 * al f k + 4) v) := by
  obtain ⟨hJ, hF, hC⟩ := h
  refine ⟨hJ.uf (j := 3) hk ha (by omega) (by omega), hF.uf (by omega) (by omega) (by omega) (by omega) (fun _ => hv), ?_⟩
  unfold Cn at hC ⊢
  rw [gG_n (by omega) (by omega)]
  exact hC
theorem jj_throw (h : JJ q i f N) {k : Nat} (hk : k < q 2) (ha : 0 < f (4 * k + 1)) : JJ (uN q 5 (q 5 + f (4 * k + 1))) i (uN f (4 * k + 1) 0) (qThrow N (al f k)) := by
  obtain ⟨hJ, hF, hC⟩ := h
  refine ⟨hJ.throw hk ha, (hF.uf (by omega) (by omega) (by omega) (by omega) (by omega)).uq (by omega) (by omega) (by omega) (by omega) (by omega) (by omega), ?_⟩
  unfold Cn at hC ⊢
  have hs := gG_u (f := f) (k := k) (v := 0) (n := q 2) hk
  rw [uN_s, uN_n (by omega), uN_n (by omega), uN_n (by omega)]
  omega
theorem jj_set (h : JJ q i f N) {j v : Nat} (hj : j = 8 ∨ j = 9) (h8 : j = 8 → v ≤ 500) (h9 : j = 9 → v ≤ 100) : JJ (uN q j v) i f (uN N j v) := by
  obtain ⟨hJ, hF, hC⟩ := h
  refine ⟨hJ.uq (by omega) (by omega), hF.uq (by omega) (by omega) h8 h9 (by omega) (by omega), ?_⟩
  unfold Cn at hC ⊢
  rw [uN_n (by omega), uN_n (by omega), uN_n (by omega), uN_n (by omega)]
  exact hC
theorem jj_set2 (h : JJ q i f N) {j v : Nat} (h0 : 10 ≤ j) (hj : j < 33) (hp : j < 22 → v ≤ 9999) (hc : 22 ≤ j → v ≤ 90) : JJ (uN q j v) i f (uN N (j + 1) v) := by
  obtain ⟨hJ, hF, hC⟩ := h
  refine ⟨hJ.ub h0 hj, hF.uq (by omega) (by omega) (by omega) (by omega) (fun _ => hp) hc, ?_⟩
  unfold Cn at hC ⊢
  rw [uN_n (by omega), uN_n (by omega), uN_n (by omega), uN_n (by omega)]
  exact hC
end JJS
