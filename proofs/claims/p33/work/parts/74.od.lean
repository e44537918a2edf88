/-! THE LAW'S ACTS: what the class answers, by the law's rows -/
def LX (t : Nat) (σ : KS) : Prop := ∃ (q i f N : Nat → Nat) (r : Nat) (hs : Nat → Nat → Nat) (T : Nat → Nat) (n : Nat), CI σ N r hs T n ∧ AR σ 190 q i f ∧ JJ q i f N ∧ Gd (1000 + 4000000 * t) N ∧ q 0 ≤ t
theorem LX.mk {t : Nat} {σ : KS} {q i f N : Nat → Nat} {r n : Nat} {hs : Nat → Nat → Nat} {T : Nat → Nat} (h1 : CI σ N r hs T n) (h2 : AR σ 190 q i f) (h3 : JJ q i f N) (h4 : Gd (1000 + 4000000 * t + 4000000) N) (h5 : q 0 ≤ t + 1) : LX (t + 1) σ := ⟨q, i, f, N, r, hs, T, n, h1, h2, h3, by rw [show 1000 + 4000000 * (t + 1) = 1000 + 4000000 * t + 4000000 from by omega]; exact h4, h5⟩
theorem CI.wg {σ : KS} {N : Nat → Nat} {r n : Nat} {hs : Nat → Nat → Nat} {T a c d : Nat → Nat} (h : CI σ N r hs T n) (h16 : N 2 ≤ 16) : CI (wG σ 190 a c d) N r hs T n := h.hi h16 (fun x hx => wG_ne (by omega) (by omega) (by omega)) rfl
/-- behind a call that changed something; that changed nothing -/
theorem CO.s {σ τ : KS} {N M : Nat → Nat} {r n : Nat} {hs : Nat → Nat → Nat} {T : Nat → Nat} {o : Int32 × Option (Nat → Nat)} {v : Int32} (h : CO σ N r hs T n o.2 τ) (e : o = (v, some M)) : CI τ M (qRr r + 1) (hsN hs r N) T n := by
  rw [e] at h
  exact h.2
theorem CO.n {σ τ : KS} {N : Nat → Nat} {r n : Nat} {hs : Nat → Nat → Nat} {T : Nat → Nat} {o : Int32 × Option (Nat → Nat)} {v : Int32} (h : CO σ N r hs T n o.2 τ) (e : o = (v, none)) : CI τ N r hs T n := by
  rw [e] at h
  exact h.2
section ODS
variable {q i f N : Nat → Nat} {k : Nat}
theorem od_room (h : J q i f N) (hU : qU N) (h16 : q 2 < 16) {bx : Nat} (hb : bx < 6) : (fAt f bx (q 2) < 3 → qRoom N bx = 0) ∧ (¬ fAt f bx (q 2) < 3 → qRoom N bx = -3) := by
  have hn := j_n h
  have hl := al_le f (q 2)
  have hc := hU.2.2.1 bx hb
  rw [j_at h]
  unfold qRoom
  refine ⟨fun z => by rw [if_neg (by omega), if_neg (by omega)], fun z => by rw [if_pos (by omega)]⟩
theorem od_del_t (h : J q i f N) (hU : qU N) (h16 : q 2 < 16) {kd g fr bx : Nat} (h0 : kd < 6) (h1 : 1 ≤ g) (h2 : g ≤ 20000) (h3 : fr ≤ 100) (hb : bx < 6) (hr : fAt f bx (q 2) < 3) : oDeliver N (nI kd) (nI g) (nI fr) (nI bx) = (nI (q 2 + 1), some (qDel N kd g fr bx)) := by
  unfold oDeliver
  rw [aWhy_in (by omega) ⟨h1, h2⟩ h3 (by omega), (od_room h hU h16 hb).1 hr, if_pos (by decide), tN_nI (by omega), tN_nI (by omega), tN_nI (by omega), tN_nI (by omega), ← j_2 h]
theorem od_del_f (h : J q i f N) (hU : qU N) (h16 : q 2 < 16) {kd g fr bx : Nat} (h0 : kd < 6) (h1 : 1 ≤ g) (h2 : g ≤ 20000) (h3 : fr ≤ 100) (hb : bx < 6) (hr : ¬ fAt f bx (q 2) < 3) : oDeliver N (nI kd) (nI g) (nI fr) (nI bx) = (-3, none) := by
  unfold oDeliver
  rw [aWhy_in (by omega) ⟨h1, h2⟩ h3 (by omega), (od_room h hU h16 hb).2 hr, if_neg (by decide)]
theorem od_no (h : J q i f N) (hF : FI q i f) (hk : k < 2 ^ 30) (hn : ¬ (k < q 2 ∧ 0 < f (4 * k + 1))) (F : Nat → qOp) : oOf N (nI (k + 1)) F = (-1, none) := oOf_n (j_gone h hF hk hn)
theorem od_is (h : J q i f N) (hU : qU N) (hF : FI q i f) (hk : k < q 2) (ha : 0 < f (4 * k + 1)) (F : Nat → qOp) : oOf N (nI (k + 1)) F = F (al f k) := oOf_s (j_find h hU hF hk ha)
theorem od_div_1 (h : J q i f N) (hU : qU N) (hF : FI q i f) (hk : k < q 2) (ha : 0 < f (4 * k + 1)) {g bx : Nat} (hb : bx < 6) (hg : g ≤ 20000) (h1 : 19999 < g) : oDivide N (nI (k + 1)) (nI g) (nI bx) = (-2, none) := by
  unfold oDivide
  rw [od_is h hU hF hk ha, if_pos (qIn_yes (by decide) (Nat.zero_le _) (by omega)), if_neg (fun z => by have := qIn_tN z (by decide) (by decide); rw [tN_nI (by omega)] at this; omega)]
theorem od_div_2 (h : J q i f N) (hU : qU N) (hF : FI q i f) (hk : k < q 2) (ha : 0 < f (4 * k + 1)) {g bx : Nat} (hb : bx < 6) (h0 : 1 ≤ g) (h1 : ¬ 19999 < g) (h2 : f (4 * k + 1) ≤ g) : oDivide N (nI (k + 1)) (nI g) (nI bx) = (-3, none) := by
  unfold oDivide
  rw [od_is h hU hF hk ha, if_pos (qIn_yes (by decide) (Nat.zero_le _) (by omega)), if_pos (qIn_yes (by decide) h0 (by omega)), tN_nI (by omega), tN_nI (by omega)]
  have e : qWhyD N (al f k) g bx = -3 := if_neg (by rw [(j_l h hk ha).2.2.1]; omega)
  rw [e, if_neg (by decide)]
theorem od_div_3 (h : J q i f N) (hU : qU N) (hF : FI q i f) (h16 : q 2 < 16) (hk : k < q 2) (ha : 0 < f (4 * k + 1)) {g bx : Nat} (hb : bx < 6) (h0 : 1 ≤ g) (h1 : ¬ 19999 < g) (h2 : ¬ f (4 * k + 1) ≤ g) (hr : ¬ fAt f bx (q 2) < 3) : oDivide N (nI (k + 1)) (nI g) (nI bx) = (-3, none) := by
  unfold oDivide
  rw [od_is h hU hF hk ha, if_pos (qIn_yes (by decide) (Nat.zero_le _) (by omega)), if_pos (qIn_yes (by decide) h0 (by omega)), tN_nI (by omega), tN_nI (by omega)]
  have e : qWhyD N (al f k) g bx = -3 := (if_pos (by rw [(j_l h hk ha).2.2.1]; omega)).trans ((od_room h hU h16 hb).2 hr)
  rw [e, if_neg (by decide)]
theorem od_div_4 (h : J q i f N) (hU : qU N) (hF : FI q i f) (h16 : q 2 < 16) (hk : k < q 2) (ha : 0 < f (4 * k + 1)) {g bx : Nat} (hb : bx < 6) (h0 : 1 ≤ g) (h1 : ¬ 19999 < g) (h2 : ¬ f (4 * k + 1) ≤ g) (hr : fAt f bx (q 2) < 3) : oDivide N (nI (k + 1)) (nI g) (nI bx) = (nI (q 2 + 1), some (qAdd (uN N (45 + 5 * al f k + 2) (qL N (al f k) 2 - g)) (qL N (al f k) 1) g (qL N (al f k) 3) bx)) := by
  unfold oDivide
  rw [od_is h hU hF hk ha, if_pos (qIn_yes (by decide) (Nat.zero_le _) (by omega)), if_pos (qIn_yes (by decide) h0 (by omega)), tN_nI (by omega), tN_nI (by omega)]
  have e : qWhyD N (al f k) g bx = 0 := (if_pos (by rw [(j_l h hk ha).2.2.1]; omega)).trans ((od_room h hU h16 hb).1 hr)
  rw [e, if_pos (by decide), ← j_2 h]
theorem od_iceB (h : J q i f N) {bx g : Nat} (hb : bx < 6) (h0 : 1 ≤ g) (h1 : g ≤ 5000) : oIceBox N (nI bx) (nI g) = (nI (if 5000 < i bx + g then 5000 else i bx + g), some (uN N (34 + bx) (qIce N bx g))) := by
  unfold oIceBox oIce
  rw [if_pos (qIn_yes (by decide) (Nat.zero_le _) (by omega)), if_pos (qIn_yes (by decide) h0 h1), tN_nI (by omega), tN_nI (by omega)]
  unfold qIce
  rw [← j_i h (by omega)]
theorem od_iceT (h : J q i f N) {tr g : Nat} (hb : tr < 5) (h0 : 1 ≤ g) (h1 : g ≤ 5000) : oIceTray N (nI tr) (nI g) = (nI (if 5000 < i (6 + tr) + g then 5000 else i (6 + tr) + g), some (uN N (34 + (6 + tr)) (qIce N (6 + tr) g))) := by
  unfold oIceTray oIce
  rw [if_pos (qIn_yes (by decide) (Nat.zero_le _) (by omega)), if_pos (qIn_yes (by decide) h0 h1), tN_nI (by omega), tN_nI (by omega)]
  unfold qIce
  rw [← j_i h (by omega)]
theorem od_tray_t (h : J q i f N) (hU : qU N) (hF : FI q i f) (hk : k < q 2) (ha : 0 < f (4 * k + 1)) {tr : Nat} (ht : tr < 5) (hr : fAt f (6 + tr) (q 2) = 0) : oToTray N (nI (k + 1)) (nI tr) = (nI (fPr q (f (4 * k)) (f (4 * k + 2)) (q 1)), some (uN N (45 + 5 * al f k + 4) (6 + tr))) := by
  unfold oToTray
  rw [od_is h hU hF hk ha, if_pos (qIn_yes (by decide) (Nat.zero_le _) (by omega)), tN_nI (by omega), if_pos (by rw [← j_at h]; exact hr), ← j_price h hF hk ha]
  unfold qPrice
  rw [show qL (uN N (45 + 5 * al f k + 4) (6 + tr)) (al f k) 1 = qL N (al f k) 1 from uN_n (by omega), show qL (uN N (45 + 5 * al f k + 4) (6 + tr)) (al f k) 3 = qL N (al f k) 3 from uN_n (by omega), uN_n (show (1 : Nat) ≠ 45 + 5 * al f k + 4 from by omega)]
  have h1 := fi_1 hF
  have e1 := j_a h (show 1 < 10 from by omega) (by omega)
  unfold qPr
  rw [uN_n (by have := fi_l0 hF hk; rw [(j_l h hk ha).2.1]; omega), uN_n (by omega)]
theorem od_tray_f (h : J q i f N) (hU : qU N) (hF : FI q i f) (hk : k < q 2) (ha : 0 < f (4 * k + 1)) {tr : Nat} (ht : tr < 5) (hr : ¬ fAt f (6 + tr) (q 2) = 0) : oToTray N (nI (k + 1)) (nI tr) = (-3, none) := by
  unfold oToTray
  rw [od_is h hU hF hk ha, if_pos (qIn_yes (by decide) (Nat.zero_le _) (by omega)), tN_nI (by omega), if_neg (by rw [← j_at h]; exact hr)]
theorem fAt_place {f : Nat → Nat} {k v n : Nat} (hk : k < n) (ha : 0 < f (4 * k + 1)) (hv : f (4 * k + 3) ≠ v) : fAt (uN f (4 * k + 3) v) v n = fAt f v n + 1 := by
  induction n with
  | zero => omega
  | succ n ih =>
    by_cases e : n = k
    · subst e
      have e0 : ∀ j, j ≤ n → fAt (uN f (4 * n + 3) v) v j = fAt f v j := by
        intro j
        induction j with
        | zero => intro _; rfl
        | succ j ihj =>
          intro hj
          show fAt _ v j + _ = fAt f v j + _
          rw [ihj (by omega), uN_n (by omega), uN_n (by omega)]
      show fAt (uN f (4 * n + 3) v) v n + _ = fAt f v n + _ + 1
      rw [e0 n (Nat.le_refl _), uN_n (by omega), uN_s, if_pos ⟨ha, rfl⟩, if_neg (fun w => hv w.2)]
    · show fAt (uN f (4 * k + 3) v) v n + _ = fAt f v n + _ + 1
      rw [ih (by omega), uN_n (by omega), uN_n (by omega)]
      omega
theorem od_box_t (h : JJ q i f N) (hU : qU N) (hk : k < q 2) (ha : 0 < f (4 * k + 1)) {bx : Nat} (hb : bx < 6) (hp : f (4 * k + 3) ≠ bx) (hr : fAt f bx (q 2) < 3) : oToBox N (nI (k + 1)) (nI bx) = (nI (fAt (uN f (4 * k + 3) bx) bx (q 2)), some (uN N (45 + 5 * al f k + 4) bx)) := by
  have hc := jj_place h hk ha (show bx < 11 from by omega)
  obtain ⟨hJ, hF, -⟩ := h
  unfold oToBox
  rw [od_is hJ hU hF hk ha, if_pos (qIn_yes (by decide) (Nat.zero_le _) (by omega)), tN_nI (by omega), if_neg (by rw [(j_l hJ hk ha).2.2.2.2, ← j_at hJ]; omega), j_at hc.1, uN_n (show (2 : Nat) ≠ 45 + 5 * al f k + 4 from by omega)]
theorem od_box_f (h : J q i f N) (hU : qU N) (hF : FI q i f) (hk : k < q 2) (ha : 0 < f (4 * k + 1)) {bx : Nat} (hb : bx < 6) (hr : f (4 * k + 3) = bx ∨ ¬ fAt f bx (q 2) < 3) : oToBox N (nI (k + 1)) (nI bx) = (-3, none) := by
  unfold oToBox
  have hc := hU.2.2.1 bx hb
  rw [od_is h hU hF hk ha, if_pos (qIn_yes (by decide) (Nat.zero_le _) (by omega)), tN_nI (by omega), if_pos (by
    rw [(j_l h hk ha).2.2.2.2]
    rw [← j_at h] at hc ⊢
    omega)]
theorem od_throw (h : J q i f N) (hU : qU N) (hF : FI q i f) (hk : k < q 2) (ha : 0 < f (4 * k + 1)) : oThrow N (nI (k + 1)) = (nI (f (4 * k + 1)), some (qThrow N (al f k))) := by
  unfold oThrow
  rw [od_is h hU hF hk ha, (j_l h hk ha).2.2.1]
theorem od_pass_t (h : J q i f N) (h1 : q 1 < 10) : oPass N = (nI (q 1 + 1), some (qPass N)) := by
  have e1 := j_a h (show 1 < 10 from by omega) (by omega)
  unfold oPass
  rw [← e1, if_neg (by omega)]
theorem od_pass_f (h : J q i f N) (hF : FI q i f) (h1 : ¬ q 1 < 10) : oPass N = (-3, none) := by
  have e1 := j_a h (show 1 < 10 from by omega) (by omega)
  have := fi_1 hF
  unfold oPass
  rw [← e1, if_pos (by omega)]
theorem od_close (h : JJ q i f N) (hU : qU N) (h0 : N 0 ≠ 999) : oClose N = (nI (fC3 q i f 5).2.1, some (qClose N)) := by
  unfold oClose
  rw [if_neg h0, (jj_close h hU).2]
theorem od_melt (h : J q i f N) {m li : Nat} (hm : m < 501) (hl : li < 101) : oSetMelt N (nI m) (nI li) = (nI (q 9), some (uN (uN N 8 m) 9 li)) := by
  unfold oSetMelt
  rw [qIn_yes (by decide) (Nat.zero_le _) (by omega), qIn_yes (by decide) (Nat.zero_le _) (by omega), if_pos (show (true && true) = true from rfl), tN_nI (by omega), tN_nI (by omega), ← j_a h (show 9 < 10 from by omega) (by omega)]
theorem od_cut (h : J q i f N) {hh p : Nat} (hh2 : hh < 11) (hp : p < 91) : oSetCut N (nI hh) (nI p) = (nI (q (22 + hh)), some (uN N (22 + hh + 1) p)) := by
  unfold oSetCut
  rw [if_pos (qIn_yes (by decide) (Nat.zero_le _) (by omega)), if_pos (qIn_yes (by decide) (Nat.zero_le _) (by omega)), tN_nI (by omega), tN_nI (by omega), j_b h (show 10 ≤ 22 + hh from by omega) (by omega), show 22 + hh + 1 = 23 + hh from by omega]
theorem od_price (h : J q i f N) {kd p co : Nat} (hk : kd < 6) (hp : 1 ≤ p ∧ p ≤ 9999) (hc : 1 ≤ co ∧ co ≤ 9999) : oSetPrice N (nI kd) (nI p) (nI co) = (nI (q (10 + kd)), some (uN (uN N (10 + kd + 1) p) (16 + kd + 1) co)) := by
  unfold oSetPrice
  rw [if_pos (qIn_yes (by decide) (Nat.zero_le _) (by omega)), qIn_yes (by decide) hp.1 hp.2, qIn_yes (by decide) hc.1 hc.2, if_pos (show (true && true) = true from rfl), tN_nI (by omega), tN_nI (by omega), tN_nI (by omega), j_b h (show 10 ≤ 10 + kd from by omega) (by omega), show 10 + kd + 1 = 11 + kd from by omega, show 16 + kd + 1 = 17 + kd from by omega]
theorem od_order {kd g fr most : Nat} (hk : kd < 6) (hg : 1 ≤ g ∧ g ≤ 20000) (hf : fr ≤ 100) (hp : 1 ≤ most ∧ most ≤ 9999) : oOrder N (nI kd) (nI g) (nI fr) (nI most) = (nI (qOr kd fr most g 17 0 N).1, some (qOr kd fr most g 17 0 N).2) := by
  unfold oOrder
  rw [if_pos (qIn_yes (by decide) (Nat.zero_le _) (by omega)), qIn_yes (by decide) hg.1 hg.2, qIn_yes (by decide) (Nat.zero_le _) hf, qIn_yes (by decide) hp.1 hp.2, if_pos (show (true && (true && true)) = true from rfl), tN_nI (by omega), tN_nI (by omega), tN_nI (by omega), tN_nI (by omega)]
end ODS
