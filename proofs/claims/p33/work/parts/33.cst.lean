/-! THE CLASS: what a change of a cell is for the numbers -/
def Fr (σ σ' : KS) (o : Nat) : Prop := (∀ x, x < o ∨ o + 23 ≤ x → σ'.1 x = σ.1 x ∧ σ'.2.1 x = σ.2.1 x) ∧ ∀ x, x ≠ o + 6 → σ'.2.2 x = σ.2.2 x
theorem Fr.rf {σ : KS} {o : Nat} : Fr σ σ o := ⟨fun _ _ => ⟨rfl, rfl⟩, fun _ _ => rfl⟩
theorem Fr.tr {σ τ υ : KS} {o : Nat} (h1 : Fr σ τ o) (h2 : Fr τ υ o) : Fr σ υ o := ⟨fun x hx => ⟨(h2.1 x hx).1.trans (h1.1 x hx).1, (h2.1 x hx).2.trans (h1.1 x hx).2⟩, fun x hx => (h2.2 x hx).trans (h1.2 x hx)⟩
theorem Fr.i {σ : KS} {o a : Nat} {f : Nat → Int32} (h : o ≤ a) (h2 : a < o + 23) : Fr σ (wI σ a f) o := ⟨fun x hx => ⟨wI_ne (by omega), rfl⟩, fun _ _ => rfl⟩
theorem Fr.l {σ : KS} {o a : Nat} {f : Nat → Int64} (h : o ≤ a) (h2 : a < o + 23) : Fr σ (wL σ a f) o := ⟨fun x hx => ⟨rfl, wL_ne (by omega)⟩, fun _ _ => rfl⟩
theorem Fr.p {σ : KS} {o : Nat} {f : Nat → Option Nat} : Fr σ (wP σ (o + 6) f) o := ⟨fun _ _ => ⟨rfl, rfl⟩, fun x hx => wP_ne hx⟩
theorem PF.congr {P P' : Nat → Nat → Option Nat} {o : Nat} (ho : o ∈ shL) (h : PF P) (e : ∀ x, x ≠ o + 6 → P' x = P x) : PF P' := by
  have k1 : ∀ o, o ∈ shL → 0 ≠ o + 6 ∧ 48 ≠ o + 6 ∧ 49 ≠ o + 6 ∧ 188 ≠ o + 6 := by decide +kernel
  have k2 : ∀ o, o ∈ shL → ∀ q, q ∈ shL → q ≠ o + 6 := by decide +kernel
  obtain ⟨a0, a48, a49, a188⟩ := k1 o ho
  unfold PF at h ⊢
  rw [e 0 a0, e 48 a48, e 49 a49, e 188 a188]
  exact ⟨h.1, h.2.1, h.2.2.1, h.2.2.2.1, fun q hq => by rw [e q (k2 o ho q hq)]; exact h.2.2.2.2 q hq⟩
theorem Fr.PF {σ σ' : KS} {o : Nat} (h : Fr σ σ' o) (ho : o ∈ shL) (hP : PF σ.2.2) : PF σ'.2.2 := PF.congr ho hP h.2
/-- behind a change of the shop: its numbers N', the rest as it was -/
def SP (σ σ' : KS) (o : Nat) (N' : Nat → Nat) : Prop := (∃ π', Rs σ' o π' N') ∧ Fr σ σ' o
section RSP
variable {σ : KS} {o : Nat} {π N : Nat → Nat}
theorem Rs.int (h : Rs σ o π N) (h16 : N 2 ≤ 16) {k v : Nat} (hk : k < 5) : Rs (wI σ o (upd (σ.1 o) k (nI v))) o π (uN N (qi k) v) := by
  obtain ⟨h1, h2, h3, h4, h5⟩ := h
  have hq2 : ∀ k, k < 5 → qi k ≠ 2 ∧ (qi k < 3 ∨ 8 ≤ qi k) := by decide
  have hql := qi_le k
  obtain ⟨q2, q3⟩ := hq2 k hk
  refine ⟨fun j hj => ?_, fun j h6 hj => ?_, fun a h1' h5' j hj => ?_, h4, fun j hj => ?_⟩
  · rw [wI_self]
    unfold upd uN
    by_cases e : j = k
    · rw [if_pos e, if_pos (by rw [e])]
    · rw [if_neg e, if_neg (fun z => e (qi_inj hj (by omega) z))]
      exact h1 j hj
  · rw [uN_n (by omega)]; exact h2 j h6 hj
  · rw [wI_ne (by omega), uN_n (by have : 11 ≤ qAb a := by { unfold qAb; (repeat' split) <;> omega }; omega)]
    exact h3 a h1' h5' j hj
  · rw [uN_n (by omega)] at hj
    obtain ⟨a, c, d⟩ := h5 j hj
    unfold Rl
    rw [wI_ne (by omega)]
    refine ⟨fun z hz => ?_, ?_, ?_⟩
    · show _ = nI (uN N _ _ _)
      rw [uN_n (by omega)]; exact a z hz
    · show _ = qBx (uN N _ _ _)
      rw [uN_n (by omega)]; exact c
    · show _ = qTy (uN N _ _ _)
      rw [uN_n (by omega)]; exact d
theorem Rs.long (h : Rs σ o π N) {k v : Nat} (h6 : 6 ≤ k) (hk : k < 11) : Rs (wL σ o (vp_updL (σ.2.1 o) k (lN v))) o π (uN N (k - 3) v) := by
  obtain ⟨h1, h2, h3, h4, h5⟩ := h
  refine ⟨fun j hj => ?_, fun j j6 hj => ?_, fun a h1' h5' j hj => ?_, h4, fun j hj => ?_⟩
  · have hq3 : ∀ k, k < 6 → qi k < 3 ∨ 8 ≤ qi k := by decide
    have := hq3 j hj
    rw [uN_n (by omega)]; exact h1 j hj
  · rw [wL_self]
    unfold vp_updL uN
    by_cases e : j = k
    · rw [if_pos e, if_pos (by rw [e])]
    · rw [if_neg e, if_neg (by omega)]; exact h2 j j6 hj
  · rw [uN_n (by have : 11 ≤ qAb a := by { unfold qAb; (repeat' split) <;> omega }; omega)]
    exact h3 a h1' h5' j hj
  · rw [uN_n (by omega)] at hj
    obtain ⟨a, c, d⟩ := h5 j hj
    refine ⟨fun z hz => ?_, ?_, ?_⟩
    · show _ = nI (uN N _ _ _)
      rw [uN_n (by omega)]; exact a z hz
    · show _ = qBx (uN N _ _ _)
      rw [uN_n (by omega)]; exact c
    · show _ = qTy (uN N _ _ _)
      rw [uN_n (by omega)]; exact d
theorem Rs.arr (h : Rs σ o π N) {a k v : Nat} (h1a : 1 ≤ a) (h5a : a ≤ 5) (hk : k < qAl a) : Rs (wI σ (o + a) (upd (σ.1 (o + a)) k (nI v))) o π (uN N (qAb a + k) v) := by
  obtain ⟨h1, h2, h3, h4, h5⟩ := h
  have hb := qAb_lt h1a h5a hk
  have hb11 : 11 ≤ qAb a := by { unfold qAb; (repeat' split) <;> omega }
  have key : ∀ a, a ≤ 5 → ∀ c, c ≤ 5 → 1 ≤ a → 1 ≤ c → a < c → qAb a + qAl a ≤ qAb c := by decide
  refine ⟨fun j hj => ?_, fun j j6 hj => ?_, fun c h1' h5' j hj => ?_, h4, fun j hj => ?_⟩
  · have := qi_le j
    rw [wI_ne (by omega), uN_n (by omega)]; exact h1 j hj
  · rw [uN_n (by omega)]; exact h2 j j6 hj
  · by_cases e : c = a
    · subst e
      rw [wI_self]
      unfold upd uN
      by_cases e2 : j = k
      · rw [if_pos e2, if_pos (by omega)]
      · rw [if_neg e2, if_neg (by omega)]; exact h3 c h1' h5' j hj
    · rw [wI_ne (by omega), uN_n (by
        rcases Nat.lt_or_ge c a with q | q
        · have := key c h5' a h5a h1' h1a q; omega
        · have := key a h5a c h5' h1a h1' (by omega); omega)]
      exact h3 c h1' h5' j hj
  · rw [uN_n (by omega)] at hj
    obtain ⟨c, d, f⟩ := h5 j hj
    unfold Rl
    rw [wI_ne (by omega)]
    refine ⟨fun z hz => ?_, ?_, ?_⟩
    · show _ = nI (uN N _ _ _)
      rw [uN_n (by omega)]; exact c z hz
    · show _ = qBx (uN N _ _ _)
      rw [uN_n (by omega)]; exact d
    · show _ = qTy (uN N _ _ _)
      rw [uN_n (by omega)]; exact f
/-- the numbers of lot k put anew, all its cells -/
theorem Rs.lot (h : Rs σ o π N) (h16 : N 2 ≤ 16) {k j v : Nat} (hk : k < N 2) (hj : j < 5) {f : Nat → Int32} (e : ∀ z, z < 4 → f z = nI (if z = j then v else qL N k z)) (e4 : f 4 = qBx (if 4 = j then v else qL N k 4)) (e5 : f 5 = qTy (if 4 = j then v else qL N k 4)) : Rs (wI σ (o + 7 + π k) f) o π (uN N (45 + 5 * k + j) v) := by
  obtain ⟨h1, h2, h3, h4, h5⟩ := h
  refine ⟨fun i hi => ?_, fun i i6 hi => ?_, fun a h1' h5' i hi => ?_, h4, fun m hm => ?_⟩
  · have := qi_le i
    rw [wI_ne (by omega), uN_n (by omega)]; exact h1 i hi
  · rw [uN_n (by omega)]; exact h2 i i6 hi
  · have := qAb_lt h1' h5' hi
    rw [wI_ne (by omega), uN_n (by omega)]; exact h3 a h1' h5' i hi
  · rw [uN_n (by omega)] at hm
    have key : ∀ z, z < 5 → qL (uN N (45 + 5 * k + j) v) m z = if m = k ∧ z = j then v else qL N m z := by
      intro z hz
      show uN N (45 + 5 * k + j) v (45 + 5 * m + z) = _
      unfold uN
      by_cases q : m = k ∧ z = j
      · rw [if_pos q, if_pos (by omega)]
      · rw [if_neg q, if_neg (by omega)]
    unfold Rl
    by_cases e0 : m = k
    · subst e0
      rw [wI_self, key 4 (by omega)]
      refine ⟨fun z hz => ?_, ?_, ?_⟩
      · rw [key z (by omega), e z hz]
        by_cases q : z = j
        · rw [if_pos q, if_pos ⟨rfl, q⟩]
        · rw [if_neg q, if_neg (fun w => q w.2)]
      · rw [e4]
        by_cases q : 4 = j
        · rw [if_pos q, if_pos ⟨rfl, q⟩]
        · rw [if_neg q, if_neg (fun w => q w.2)]
      · rw [e5]
        by_cases q : 4 = j
        · rw [if_pos q, if_pos ⟨rfl, q⟩]
        · rw [if_neg q, if_neg (fun w => q w.2)]
    · have hne : o + 7 + π m ≠ o + 7 + π k := fun z => e0 (h4.2 m k (by omega) (by omega) (by omega))
      rw [wI_ne hne, key 4 (by omega), if_neg (fun w => e0 w.1)]
      obtain ⟨c, d, g⟩ := h5 m hm
      exact ⟨fun z hz => by rw [key z (by omega), if_neg (fun w => e0 w.1)]; exact c z hz, d, g⟩
theorem Rs.lotf (h : Rs σ o π N) (h16 : N 2 ≤ 16) {k j v : Nat} (hk : k < N 2) (hj : j < 4) : Rs (wI σ (o + 7 + π k) (upd (σ.1 (o + 7 + π k)) j (nI v))) o π (uN N (45 + 5 * k + j) v) := by
  refine Rs.lot h h16 hk (by omega) (fun z hz => ?_) ?_ ?_
  · unfold upd
    by_cases q : z = j
    · rw [if_pos q, if_pos q]
    · rw [if_neg q, if_neg q]; exact rs_l h hk z hz
  · unfold upd
    rw [if_neg (by omega), if_neg (by omega)]; exact rs_l4 h hk
  · unfold upd
    rw [if_neg (by omega), if_neg (by omega)]; exact rs_l5 h hk
theorem Rs.box (h : Rs σ o π N) (h16 : N 2 ≤ 16) {k v : Nat} (hk : k < N 2) (hv : v < 6) : Rs (wI σ (o + 7 + π k) (upd (upd (σ.1 (o + 7 + π k)) 4 (nI v)) 5 (-6))) o π (uN N (45 + 5 * k + 4) v) := by
  refine Rs.lot h h16 hk (by omega) (fun z hz => ?_) ?_ ?_
  · unfold upd
    rw [if_neg (by omega), if_neg (by omega), if_neg (by omega)]; exact rs_l h hk z hz
  · show upd (upd _ 4 _) 5 _ 4 = qBx v
    unfold upd qBx
    rw [if_neg (by omega), if_pos rfl, if_neg (by omega)]
  · show upd (upd _ 4 _) 5 _ 5 = qTy v
    unfold upd qTy
    rw [if_pos rfl, if_neg (by omega)]
theorem Rs.tray (h : Rs σ o π N) (h16 : N 2 ≤ 16) {k t : Nat} (hk : k < N 2) : Rs (wI σ (o + 7 + π k) (upd (upd (σ.1 (o + 7 + π k)) 5 (nI t)) 4 (-6))) o π (uN N (45 + 5 * k + 4) (6 + t)) := by
  refine Rs.lot h h16 hk (by omega) (fun z hz => ?_) ?_ ?_
  · unfold upd
    rw [if_neg (by omega), if_neg (by omega), if_neg (by omega)]; exact rs_l h hk z hz
  · show upd (upd _ 5 _) 4 _ 4 = qBx (6 + t)
    unfold upd qBx
    rw [if_pos rfl, if_pos (by omega)]
  · show upd (upd _ 5 _) 4 _ 5 = qTy (6 + t)
    unfold upd qTy
    rw [if_neg (by omega), if_pos rfl, if_pos (by omega), show 6 + t - 6 = t from by omega]
end RSP
theorem uN_comm {N : Nat → Nat} {i j v w : Nat} (h : i ≠ j) : uN (uN N i v) j w = uN (uN N j w) i v := by
  funext k
  unfold uN
  by_cases h1 : k = i
  · rw [if_neg (by omega), if_pos h1, if_pos h1]
  · by_cases h2 : k = j
    · rw [if_pos h2, if_neg h1, if_pos h2]
    · rw [if_neg h2, if_neg h1, if_neg h1, if_neg h2]
