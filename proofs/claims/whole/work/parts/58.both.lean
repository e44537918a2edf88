/-! BOTH SYSTEMS, at the law's loop -/
def SI (B : Nat) (σ : KS) (N : Nat → Nat) (r : Nat) (hs : Nat → Nat → Nat) (T : Nat → Nat) (n : Nat) : Prop := CI σ N r hs T n ∧ RI σ N r hs T n ∧ Gd B N ∧ ∀ j, j < r → Gd B (hs j)
def SX (B : Nat) (σ : KS) : Prop := ∃ N r hs T n, SI B σ N r hs T n
theorem CO.pf {σ τ : KS} {N : Nat → Nat} {r n : Nat} {hs : Nat → Nat → Nat} {T : Nat → Nat} {o : Option (Nat → Nat)} (h : CO σ N r hs T n o τ) : PF τ.2.2 := by
  obtain ⟨-, h⟩ := h
  cases o with
  | none => exact h.1
  | some M => exact h.1
theorem RI.id {σ : KS} {N : Nat → Nat} {r n : Nat} {hs : Nat → Nat → Nat} {T : Nat → Nat} (h : RI σ N r hs T n) : σ = wN σ N := (wN_id h.1).symm
section SIS
variable {B : Nat} {σ τ : KS} {N : Nat → Nat} {r n : Nat} {hs : Nat → Nat → Nat} {T : Nat → Nat}
theorem SI.up (h : SI B σ N r hs T n) {C : Nat} (hC : B ≤ C) : SI C σ N r hs T n := ⟨h.1, h.2.1, h.2.2.1.up hC, fun j hj => (h.2.2.2 j hj).up hC⟩
theorem cg_wN {σ : KS} {N : Nat → Nat} : Cg σ (wN σ N) := Cg.i (by decide)
theorem cg_rec {σ : KS} {N M : Nat → Nat} {r : Nat} : Cg σ (wN (wRec σ N r) M) := by
  unfold wRec wH
  exact ((Cg.i (by decide)).tr (Cg.i (by decide))).tr cg_wN
theorem RI.rec (h : RI σ N r hs T n) (M : Nat → Nat) : RI (wN (wRec σ N r) M) M (qRr r + 1) (hsN hs r N) T n := by
  obtain ⟨h1, ⟨h2, h6⟩, h3, h4, h5, h7, h8⟩ := h
  have hr : qRr r + 1 = if r = 6 then 6 else r + 1 := by unfold qRr; split <;> rfl
  have e190 : (wN (wRec σ N r) M).1 190 = upd (σ.1 190) 3 (nI (qRr r + 1)) := by
    rw [wN_ne (by decide)]; unfold wRec wH; rw [wI_self]
  have e193 : (wN (wRec σ N r) M).1 193 = qCpy (fun k => nI (N k)) (qRH r (σ.1 193)) 0 (qRr r * 125) 125 := by
    rw [wN_ne (by decide)]; unfold wRec wH; rw [wI_ne (by decide), wI_self]
  have e194 : (wN (wRec σ N r) M).1 194 = σ.1 194 := by
    rw [wN_ne (by decide)]; unfold wRec wH; rw [wI_ne (by decide), wI_ne (by decide)]
  refine ⟨wN_row, ⟨by rw [e190]; exact if_pos rfl, by rw [hr]; split <;> omega⟩, fun j hj k hk => ?_, by rw [e190]; exact (if_neg (by decide)).trans h4, by rw [e194]; exact h5, h7, h8⟩
  rw [e193]
  unfold qCpy hsN qRH
  rw [hr] at hj
  by_cases q : r = 6
  · rw [if_pos q] at hj
    rw [if_pos q, if_pos q, show qRr r = 5 from if_pos q]
    by_cases q5 : j = 5
    · rw [if_pos (by omega), if_pos q5]; exact congrArg (fun z => nI (N z)) (by omega)
    · rw [if_neg (by omega), if_neg q5]
      unfold qSh
      rw [if_pos (by omega), ← h3 (j + 1) (by omega) k hk]
      exact congrArg (σ.1 193) (by omega)
  · rw [if_neg q] at hj
    rw [if_neg q, if_neg q, show qRr r = r from if_neg q]
    by_cases q5 : j = r
    · rw [if_pos (by omega), if_pos q5]; exact congrArg (fun z => nI (N z)) (by omega)
    · rw [if_neg (by omega), if_neg q5]
      exact h3 j (by omega) k hk
theorem SI.rec (h : SI B σ N r hs T n) (hc : Cf σ τ) {M : Nat → Nat} {m : Nat} (hg : Gd (B + 4000000) M) (hC : CI τ M (qRr r + 1) (hsN hs r N) T n) : SI (B + 4000000) (wN (wRec τ N r) M) M (qRr r + 1) (hsN hs r N) T n := by
  refine ⟨hC.cg (qi_2 hg.1) cg_rec, RI.rec (h.2.1.cf hc) M, hg, fun j hj => ?_⟩
  unfold hsN
  have hr : qRr r + 1 = if r = 6 then 6 else r + 1 := by unfold qRr; split <;> rfl
  rw [hr] at hj
  by_cases q : r = 6
  · rw [if_pos q] at hj
    rw [if_pos q]
    split
    · exact h.2.2.1.up (by omega)
    · exact (h.2.2.2 (j + 1) (by omega)).up (by omega)
  · rw [if_neg q] at hj
    rw [if_neg q]
    split
    · exact h.2.2.1.up (by omega)
    · exact (h.2.2.2 j (by omega)).up (by omega)
theorem SI.op {o : Option (Nat → Nat)} (h : SI B σ N r hs T n) (hg : ∀ M, o = some M → Gd (B + 4000000) M) (k : CO σ N r hs T n o τ) : SX (B + 4000000) (wA τ N r o) := by
  obtain ⟨kf, k⟩ := k
  cases o with
  | none =>
    have e : wA τ N r none = τ := (h.2.1.cf kf).id.symm
    rw [e]
    exact ⟨N, r, hs, T, n, SI.up ⟨k, h.2.1.cf kf, h.2.2.1, h.2.2.2⟩ (by omega)⟩
  | some M => exact ⟨M, _, _, T, n, h.rec (m := 0) kf (hg M rfl) k⟩
theorem SI.same (h : SI B σ N r hs T n) (hc : Cf σ τ) (hC : CI τ N r hs T n) : SX (B + 4000000) τ := ⟨N, r, hs, T, n, SI.up ⟨hC, h.2.1.cf hc, h.2.2.1, h.2.2.2⟩ (by omega)⟩
theorem SI.fc (h : SI B σ N r hs T n) (k : Fc σ τ) : SI B τ N r hs T n := by
  obtain ⟨F, rfl⟩ := k
  exact ⟨h.1.ro (qi_2 h.2.2.1.1) (Or.inl rfl), h.2.1.cf (Cf.i (by decide)), h.2.2.1, h.2.2.2⟩
theorem SI.cls (h : SI B σ N r hs T n) (hc : Cf σ τ) (hC : CI τ N r hs T n) : SI B τ N r hs T n := ⟨hC, h.2.1.cf hc, h.2.2.1, h.2.2.2⟩
theorem SI.x (h : SI B σ N r hs T n) : SX (B + 4000000) σ := ⟨N, r, hs, T, n, h.up (by omega)⟩
theorem SI.b (h : SI B σ N r hs T n) (hB : B < 2 ^ 31) : N 10 < 2 ^ 31 ∧ ∀ i, i < 11 → N i < 2 ^ 31 := ⟨by have := h.2.2.1.2.2 10 (by omega); omega, fun i hi => by have := h.2.2.1.2.2 i hi; omega⟩
/-- other fields of the reference's own row -/
theorem SI.own (h : SI B σ N r hs T n) {G : Nat → Int32} (hG : ∀ k, k < 6 → G k = σ.1 190 k) : SX (B + 4000000) (wI σ 190 G) := by
  obtain ⟨hC, ⟨h1, ⟨h2, h6⟩, h3, h4, h5, h7, h8⟩, hg, hh⟩ := h
  refine ⟨N, r, hs, T, n, SI.up (B := B) ⟨hC.cg (qi_2 hg.1) (Cg.i (by decide)), ⟨by rw [wI_ne (by decide)]; exact h1, ⟨by rw [wI_self, hG 3 (by omega)]; exact h2, h6⟩, by rw [wI_ne (by decide)]; exact h3, by rw [wI_self, hG 5 (by omega)]; exact h4, by rw [wI_ne (by decide)]; exact h5, h7, h8⟩, hg, hh⟩ (by omega)⟩
theorem SI.clear (h : SI B σ N r hs T n) (hc : Cf σ τ) (hC : CI τ N r hs T 0) : SX (B + 4000000) (wI τ 190 (upd (τ.1 190) 5 (nI 0))) := by
  obtain ⟨h1, ⟨h2, h6⟩, h3, h4, h5, h7, h8⟩ := h.2.1.cf hc
  refine ⟨N, r, hs, T, 0, SI.up (B := B) ⟨hC.cg (qi_2 h.2.2.1.1) (Cg.i (by decide)), ⟨by rw [wI_ne (by decide)]; exact h1, ⟨by rw [wI_self]; exact (if_neg (by decide)).trans h2, h6⟩, by rw [wI_ne (by decide)]; exact h3, by rw [wI_self]; exact if_pos rfl, fun k hk => by omega, by omega, fun k hk => by omega⟩, h.2.2.1, h.2.2.2⟩ (by omega)⟩
theorem SI.type (h : SI B σ N r hs T n) (hc : Cf σ τ) {x : Int32} (hC : CI τ N r hs (oType T n x).2.1 (oType T n x).2.2) : SX (B + 4000000) (if qIn 33 126 x = true then (if n = 80 then wI τ 190 (τ.1 190) else wI (wI τ 194 (upd (τ.1 194) n x)) 190 (upd (τ.1 190) 5 (nI (n + 1)))) else wI τ 190 (τ.1 190)) := by
  have hR := h.2.1.cf hc
  unfold oType at hC
  by_cases q : qIn 33 126 x = true
  · rw [if_pos q] at hC ⊢
    by_cases q2 : n = 80
    · rw [if_pos q2] at hC ⊢
      rw [wI_id rfl]
      exact SI.same h hc hC
    · rw [if_neg q2] at hC ⊢
      obtain ⟨u, hu1, hu2, rfl⟩ := qIn_ex (by decide) (by decide) q
      rw [tN_nI (by omega)] at hC
      dsimp only at hC
      obtain ⟨h1, ⟨h2, h6⟩, h3, h4, h5, h7, h8⟩ := hR
      refine ⟨N, r, hs, uN T n u, n + 1, SI.up (B := B) ⟨hC.cg (qi_2 h.2.2.1.1) ((Cg.i (by decide)).tr (Cg.i (by decide))), ⟨by rw [wI_ne (by decide), wI_ne (by decide)]; exact h1, ⟨by rw [wI_self]; exact (if_neg (by decide)).trans h2, h6⟩, by rw [wI_ne (by decide), wI_ne (by decide)]; exact h3, by rw [wI_self]; exact if_pos rfl, fun k hk => ?_, by omega, fun k hk => ?_⟩, h.2.2.1, h.2.2.2⟩ (by omega)⟩
      · rw [wI_ne (by decide), wI_self]
        unfold upd uN
        by_cases q3 : k = n
        · rw [if_pos q3, if_pos q3]
        · rw [if_neg q3, if_neg q3]; exact h5 k (by omega)
      · unfold uN
        split
        · omega
        · exact h8 k (by omega)
  · rw [if_neg q] at hC ⊢
    rw [wI_id rfl]
    exact SI.same h hc hC
theorem Gd.c125 {M : Nat → Nat} (h : Gd B N) (e : ∀ k, k < 125 → M k = N k) : Gd B M := by
  obtain ⟨⟨i0, i1, i2, i8, i9, ip, ic, it, ii, il⟩, hU, hb⟩ := h
  have e2 := e 2 (by omega)
  refine ⟨⟨by rw [e _ (by omega)]; exact i0, by rw [e _ (by omega)]; exact i1, by rw [e2]; exact i2, by rw [e _ (by omega)]; exact i8, by rw [e _ (by omega)]; exact i9, fun k hk => by rw [e _ (by omega)]; exact ip k hk, fun k hk => by rw [e _ (by omega)]; exact ic k hk, fun k hk => by rw [e _ (by omega)]; exact it k hk, fun k hk => by rw [e _ (by omega)]; exact ii k hk, fun m hm => ?_⟩, qU_congr hU e2 (Nat.le_of_eq (e 10 (by omega)).symm) (fun k hk => e _ (by omega)) (fun k hk => e _ (by omega)), fun i hi => by rw [e i (by omega)]; exact hb i hi⟩
  rw [e2] at hm
  rw [show qL M m 1 = qL N m 1 from e _ (by omega), show qL M m 2 = qL N m 2 from e _ (by omega), show qL M m 3 = qL N m 3 from e _ (by omega), show qL M m 4 = qL N m 4 from e _ (by omega)]
  exact il m hm
theorem CI.c125 {M : Nat → Nat} (h : CI σ N r hs T n) (h16 : N 2 ≤ 16) (e : ∀ k, k < 125 → M k = N k) : CI σ M r hs T n := by
  obtain ⟨a, ⟨π, c⟩, d⟩ := h
  exact ⟨a, ⟨π, c.congr h16 e⟩, d⟩
theorem SI.ifc (h : SI B σ N r hs T n) (hc : Cf σ τ) (hC : CI τ N r hs T n) {υ : KS} (k : ∃ M : Nat → Nat, (∀ k, k < 125 → M k = N k) ∧ ∃ τ' : KS, (∃ H, τ' = wI τ 192 H) ∧ υ = wN τ' M) : SX (B + 4000000) υ := by
  obtain ⟨M, e, τ', ⟨H, rfl⟩, rfl⟩ := k
  obtain ⟨h1, h2, h3, h4, h5, h7⟩ := h.2.1.cf hc
  refine ⟨M, r, hs, T, n, SI.up (B := B) ⟨(hC.c125 (qi_2 h.2.2.1.1) e).cg (by rw [e 2 (by omega)]; exact qi_2 h.2.2.1.1) ((Cg.i (by decide)).tr cg_wN), ⟨wN_row, by rw [wN_ne (by decide), wI_ne (by decide)]; exact h2, by rw [wN_ne (by decide), wI_ne (by decide)]; exact h3, by rw [wN_ne (by decide), wI_ne (by decide)]; exact h4, by rw [wN_ne (by decide), wI_ne (by decide)]; exact h5, h7⟩, h.2.2.1.c125 e, h.2.2.2⟩ (by omega)⟩
theorem SI.undo (h : SI B σ N r hs T n) (k : Cf σ τ ∧ if r = 0 then CI τ N r hs T n else CI τ (hs (r - 1)) (r - 1) hs T n) : SX (B + 4000000) (if r = 0 then wN τ N else wN (wH τ (r - 1) (τ.1 193)) (qUn N (hs (r - 1)))) := by
  obtain ⟨kf, k⟩ := k
  have hR := h.2.1.cf kf
  by_cases q : r = 0
  · rw [if_pos q] at k ⊢
    rw [← hR.id]
    exact h.same kf k
  · rw [if_neg q] at k ⊢
    have g := h.2.2.2 (r - 1) (by omega)
    have e : ∀ k, k < 125 → qUn N (hs (r - 1)) k = hs (r - 1) k := fun k hk => if_pos hk
    obtain ⟨h1, ⟨h2, h6⟩, h3, h4, h5, h7⟩ := hR
    refine ⟨_, r - 1, hs, T, n, SI.up (B := B) ⟨(k.c125 (qi_2 g.1) e).cg (by rw [e 2 (by omega)]; exact qi_2 g.1) ?_, ⟨wN_row, ⟨wH_r, by omega⟩, fun j hj k hk => by rw [wH_H]; exact h3 j (by omega) k hk, ?_, ?_, h7⟩, g.c125 e, fun j hj => h.2.2.2 j (by omega)⟩ (by omega)⟩
    · unfold wH
      exact ((Cg.i (by decide)).tr (Cg.i (by decide))).tr cg_wN
    · rw [wN_ne (by decide)]; unfold wH; rw [wI_self]; exact (if_neg (by decide)).trans h4
    · rw [wN_ne (by decide)]; unfold wH; rw [wI_ne (by decide), wI_ne (by decide)]; exact h5
theorem SI.da (h : SI B σ N r hs T n) {o : Option (Nat → Nat)} {υ : KS} (z : match o with | none => ∃ G, (∀ k, k < 6 → G k = τ.1 190 k) ∧ υ = wN (wI τ 190 G) N | some M => ∃ G, (∀ k, k < 5 → k ≠ 3 → G k = τ.1 190 k) ∧ G 3 = nI (qRr r + 1) ∧ G 5 = nI 0 ∧ υ = wN (wI (wRec τ N r) 190 G) M) (hg : ∀ M, o = some M → Gd (B + 4000000) M) (k : CD σ N r hs T n o τ) : SX (B + 4000000) υ := by
  obtain ⟨kf, k⟩ := k
  have hR := h.2.1.cf kf
  cases o with
  | none =>
    obtain ⟨G, g, rfl⟩ := z
    have e : wN (wI τ 190 G) N = wI τ 190 G := wN_id (by rw [wI_ne (by decide)]; exact hR.1)
    rw [e]
    exact (h.cls kf k).own g
  | some M =>
    obtain ⟨G, g, g3, g5, rfl⟩ := z
    have hq := h.rec (m := 0) kf (hg M rfl) (T := T) (n := n) (τ := τ)
    have hg' := hg M rfl
    obtain ⟨r1, ⟨r2, r6⟩, r3, r4, r5, r7, r8⟩ := RI.rec hR M
    have hN : ∀ x, x ≠ 190 → (wN (wI (wRec τ N r) 190 G) M).1 x = (wN (wRec τ N r) M).1 x := fun x hx => by
      by_cases q : x = 191
      · rw [q, wN_row, wN_row]
      · rw [wN_ne q, wN_ne q, wI_ne hx]
    have h190 : (wN (wI (wRec τ N r) 190 G) M).1 190 = G := by rw [wN_ne (by decide), wI_self]
    refine ⟨M, _, _, T, 0, k.cg (qi_2 hg'.1) ?_, ⟨by rw [hN 191 (by decide)]; exact r1, ⟨by rw [h190]; exact g3, r6⟩, by rw [hN 193 (by decide)]; exact r3, by rw [h190]; exact g5, fun k hk => by omega, by omega, fun k hk => by omega⟩, hg', fun j hj => ?_⟩
    · unfold wRec wH
      exact (((Cg.i (by decide)).tr (Cg.i (by decide))).tr (Cg.i (by decide))).tr cg_wN
    · unfold hsN
      have hr : qRr r + 1 = if r = 6 then 6 else r + 1 := by unfold qRr; split <;> rfl
      rw [hr] at hj
      by_cases q : r = 6
      · rw [if_pos q] at hj
        rw [if_pos q]
        split
        · exact h.2.2.1.up (by omega)
        · exact (h.2.2.2 (j + 1) (by omega)).up (by omega)
      · rw [if_neg q] at hj
        rw [if_neg q]
        split
        · exact h.2.2.1.up (by omega)
        · exact (h.2.2.2 j (by omega)).up (by omega)
end SIS
