/-! THE LAW: its three rows at O, O + 1, O + 2 (q: the accounts, i: the ice, f: four numbers a lot), as functions; rows of the machine that the class doesn't use -/
def wG (σ : KS) (O : Nat) (q i f : Nat → Nat) : KS := wI (wI (wI σ O (fun k => nI (q k))) (O + 1) (fun k => nI (i k))) (O + 2) (fun k => nI (f k))
section WGS
variable {σ : KS} {O : Nat} {q i f : Nat → Nat}
theorem wG_Q : (wG σ O q i f).1 O = fun k => nI (q k) := by
  unfold wG
  rw [wI_ne (by omega), wI_ne (by omega), wI_self]
theorem wG_I : (wG σ O q i f).1 (O + 1) = fun k => nI (i k) := by
  unfold wG
  rw [wI_ne (by omega), wI_self]
theorem wG_F : (wG σ O q i f).1 (O + 2) = fun k => nI (f k) := by
  unfold wG
  rw [wI_self]
theorem wG_q (j : Nat) : (wG σ O q i f).1 O j = nI (q j) := by rw [wG_Q]
theorem wG_i (j : Nat) : (wG σ O q i f).1 (O + 1) j = nI (i j) := by rw [wG_I]
theorem wG_f (j : Nat) : (wG σ O q i f).1 (O + 2) j = nI (f j) := by rw [wG_F]
theorem wG_ne {a : Nat} (h0 : a ≠ O) (h1 : a ≠ O + 1) (h2 : a ≠ O + 2) : (wG σ O q i f).1 a = σ.1 a := by
  unfold wG
  rw [wI_ne h2, wI_ne h1, wI_ne h0]
theorem upd_nI {g : Nat → Nat} {j v : Nat} : upd (fun k => nI (g k)) j (nI v) = fun k => nI (uN g j v k) := by
  funext k
  unfold upd uN
  by_cases h : k = j
  · rw [if_pos h, if_pos h]
  · rw [if_neg h, if_neg h]
theorem wG_uq {j v : Nat} : wI (wG σ O q i f) O (upd ((wG σ O q i f).1 O) j (nI v)) = wG σ O (uN q j v) i f := by
  rw [wG_Q, upd_nI]
  unfold wG
  rw [wI_comm (show O + 2 ≠ O from by omega), wI_comm (show O + 1 ≠ O from by omega), wI_wI]
theorem wG_ui {j v : Nat} : wI (wG σ O q i f) (O + 1) (upd ((wG σ O q i f).1 (O + 1)) j (nI v)) = wG σ O q (uN i j v) f := by
  rw [wG_I, upd_nI]
  unfold wG
  rw [wI_comm (show O + 2 ≠ O + 1 from by omega), wI_wI]
theorem wG_uf {j v : Nat} : wI (wG σ O q i f) (O + 2) (upd ((wG σ O q i f).1 (O + 2)) j (nI v)) = wG σ O q i (uN f j v) := by
  rw [wG_F, upd_nI]
  unfold wG
  rw [wI_wI]
theorem wG_id (h0 : σ.1 O = fun k => nI (q k)) (h1 : σ.1 (O + 1) = fun k => nI (i k)) (h2 : σ.1 (O + 2) = fun k => nI (f k)) : wG σ O q i f = σ := by
  unfold wG
  rw [wI_id h0, wI_id h1, wI_id h2]
theorem wG_wG {q' i' f' : Nat → Nat} : wG (wG σ O q i f) O q' i' f' = wG σ O q' i' f' := by
  unfold wG
  rw [wI_comm (show O + 2 ≠ O from by omega), wI_comm (show O + 1 ≠ O from by omega), wI_wI, wI_comm (show O + 2 ≠ O + 1 from by omega), wI_wI, wI_wI]
end WGS
def GS (sh : List KSh) (O : Nat) : Prop := sh[O]? = some (.inr (.int, 33)) ∧ sh[O + 1]? = some (.inr (.int, 11)) ∧ sh[O + 2]? = some (.inr (.int, 64))
/-- what is in range -/
def FI (q i f : Nat → Nat) : Prop := (q 1 ≤ 10 ∧ q 2 ≤ 16 ∧ q 8 ≤ 500 ∧ q 9 ≤ 100) ∧ (∀ k, k < 6 → q (10 + k) ≤ 9999) ∧ (∀ k, k < 6 → q (16 + k) ≤ 9999) ∧ (∀ k, k < 11 → q (22 + k) ≤ 90) ∧ (∀ k, k < 11 → i k ≤ 5000) ∧ ∀ k, k < q 2 → f (4 * k) < 6 ∧ f (4 * k + 1) ≤ 20000 ∧ f (4 * k + 2) ≤ 100 ∧ f (4 * k + 3) < 11
section FIS
variable {q i f : Nat → Nat}
theorem fi_1 (h : FI q i f) : q 1 ≤ 10 := h.1.1
theorem fi_2 (h : FI q i f) : q 2 ≤ 16 := h.1.2.1
theorem fi_8 (h : FI q i f) : q 8 ≤ 500 := h.1.2.2.1
theorem fi_9 (h : FI q i f) : q 9 ≤ 100 := h.1.2.2.2
theorem fi_p (h : FI q i f) {k : Nat} (hk : k < 6) : q (10 + k) ≤ 9999 := h.2.1 k hk
theorem fi_c (h : FI q i f) {k : Nat} (hk : k < 6) : q (16 + k) ≤ 9999 := h.2.2.1 k hk
theorem fi_t (h : FI q i f) {k : Nat} (hk : k < 11) : q (22 + k) ≤ 90 := h.2.2.2.1 k hk
theorem fi_i (h : FI q i f) {k : Nat} (hk : k < 11) : i k ≤ 5000 := h.2.2.2.2.1 k hk
theorem fi_l0 (h : FI q i f) {k : Nat} (hk : k < q 2) : f (4 * k) < 6 := (h.2.2.2.2.2 k hk).1
theorem fi_l1 (h : FI q i f) {k : Nat} (hk : k < q 2) : f (4 * k + 1) ≤ 20000 := (h.2.2.2.2.2 k hk).2.1
theorem fi_l2 (h : FI q i f) {k : Nat} (hk : k < q 2) : f (4 * k + 2) ≤ 100 := (h.2.2.2.2.2 k hk).2.2.1
theorem fi_l3 (h : FI q i f) {k : Nat} (hk : k < q 2) : f (4 * k + 3) < 11 := (h.2.2.2.2.2 k hk).2.2.2
/-- one number of a lot put anew -/
theorem FI.uf (h : FI q i f) {k j v : Nat} (hj : j < 4) (h0 : j = 0 → v < 6) (h1 : j = 1 → v ≤ 20000) (h2 : j = 2 → v ≤ 100) (h3 : j = 3 → v < 11) : FI q i (uN f (4 * k + j) v) := by
  obtain ⟨a, b, c, d, e, g⟩ := h
  refine ⟨a, b, c, d, e, fun m hm => ?_⟩
  obtain ⟨g0, g1, g2, g3⟩ := g m hm
  unfold uN
  refine ⟨?_, ?_, ?_, ?_⟩
  · split
    · exact h0 (by omega)
    · exact g0
  · split
    · exact h1 (by omega)
    · exact g1
  · split
    · exact h2 (by omega)
    · exact g2
  · split
    · exact h3 (by omega)
    · exact g3
theorem FI.ui (h : FI q i f) {j v : Nat} (hv : v ≤ 5000) : FI q (uN i j v) f := by
  obtain ⟨a, b, c, d, e, g⟩ := h
  refine ⟨a, b, c, d, fun k hk => ?_, g⟩
  unfold uN
  split
  · exact hv
  · exact e k hk
theorem FI.uq (h : FI q i f) {j v : Nat} (h2 : j ≠ 2) (h1 : j = 1 → v ≤ 10) (h8 : j = 8 → v ≤ 500) (h9 : j = 9 → v ≤ 100) (hp : 10 ≤ j → j < 22 → v ≤ 9999) (hc : 22 ≤ j → v ≤ 90) : FI (uN q j v) i f := by
  obtain ⟨⟨a1, a2, a8, a9⟩, b, c, d, e, g⟩ := h
  have key : ∀ k, uN q j v k = if k = j then v else q k := fun k => rfl
  refine ⟨⟨?_, ?_, ?_, ?_⟩, fun k hk => ?_, fun k hk => ?_, fun k hk => ?_, e, fun k hk => ?_⟩
  · rw [key]; split; exact h1 (by omega); exact a1
  · rw [key, if_neg (by omega)]; exact a2
  · rw [key]; split; exact h8 (by omega); exact a8
  · rw [key]; split; exact h9 (by omega); exact a9
  · rw [key]; split; exact hp (by omega) (by omega); exact b k hk
  · rw [key]; split; exact hp (by omega) (by omega); exact c k hk
  · rw [key]; split; exact hc (by omega); exact d k hk
  · rw [key, if_neg (by omega)] at hk; exact g k hk
end FIS
/-- how many of the first n lots are there; at a place; what a price, a freshness, the hour, the closing is -/
def al (f : Nat → Nat) : Nat → Nat
  | 0 => 0
  | k + 1 => al f k + (if 0 < f (4 * k + 1) then 1 else 0)
def fAt (f : Nat → Nat) (pl : Nat) : Nat → Nat
  | 0 => 0
  | k + 1 => fAt f pl k + (if 0 < f (4 * k + 1) ∧ f (4 * k + 3) = pl then 1 else 0)
def fPr (q : Nat → Nat) (kd fr h : Nat) : Nat := q (10 + kd) * (50 + fr / 2) / 100 * (100 - q (22 + h)) / 100
def fMt (q : Nat → Nat) (pl : Nat) : Nat := if 6 ≤ pl then 2 * q 8 else q 8
def fLs (pl ic m : Nat) : Nat → Nat
  | 0 => 0
  | t + 1 => fLs pl ic m t + qLoss pl (ic - t * m)
def fFr (q i f : Nat → Nat) (k h : Nat) : Nat := f (4 * k + 2) - fLs (f (4 * k + 3)) (i (f (4 * k + 3))) (fMt q (f (4 * k + 3))) h
def fH1 (q i f : Nat → Nat) : Nat → Nat → Nat
  | 0 => f
  | k + 1 => if 0 < fH1 q i f k (4 * k + 1) then uN (fH1 q i f k) (4 * k + 2) (fFr q i (fH1 q i f k) k 1) else fH1 q i f k
def fH2 (q i : Nat → Nat) : Nat → Nat → Nat
  | 0 => i
  | p + 1 => uN (fH2 q i p) p (fH2 q i p p - fMt q p)
/-- the closing: what is too old goes -/
def fC1 (q f : Nat → Nat) : Nat → Nat × (Nat → Nat)
  | 0 => (0, f)
  | k + 1 => if (fC1 q f k).2 (4 * k + 1) = 0 ∨ q 9 ≤ (fC1 q f k).2 (4 * k + 2) then fC1 q f k else ((fC1 q f k).1 + (fC1 q f k).2 (4 * k + 1), uN (fC1 q f k).2 (4 * k + 1) 0)
/-- the box for the night: from above, the last one wins -/
def fNt (q i f : Nat → Nat) : Nat → Option Nat → Option Nat
  | 0, o => o
  | x + 1, o => fNt q i f x (if fAt f x (q 2) < 3 ∧ (∀ t, o = some t → i t ≤ i x) then some x else o)
/-- one lot on a tray at the closing -/
def fC2 (q i : Nat → Nat) (tr : Nat) (g : Nat) (f : Nat → Nat) : Nat → Nat × (Nat → Nat)
  | 0 => (g, f)
  | k + 1 => if (fC2 q i tr g f k).2 (4 * k + 1) = 0 ∨ (fC2 q i tr g f k).2 (4 * k + 3) ≠ tr then fC2 q i tr g f k else match fNt q i (fC2 q i tr g f k).2 6 none with
    | none => ((fC2 q i tr g f k).1 + (fC2 q i tr g f k).2 (4 * k + 1), uN (fC2 q i tr g f k).2 (4 * k + 1) 0)
    | some x => ((fC2 q i tr g f k).1, uN (fC2 q i tr g f k).2 (4 * k + 3) x)
def fC3 (q i f : Nat → Nat) : Nat → (Nat → Nat) × (Nat × (Nat → Nat))
  | 0 => (i, fC1 q f (q 2))
  | t + 1 => (uN (fC3 q i f t).1 (6 + t) 0, fC2 q (uN (fC3 q i f t).1 (6 + t) 0) (6 + t) (fC3 q i f t).2.1 (fC3 q i f t).2.2 (q 2))
theorem fLs_le (pl ic m t : Nat) : fLs pl ic m t ≤ 9 * t := by
  induction t with
  | zero => exact Nat.le_refl 0
  | succ t ih => have := qLoss_le pl (ic - t * m); unfold fLs; omega
theorem fAt_le (f : Nat → Nat) (pl n : Nat) : fAt f pl n ≤ n := by
  induction n with
  | zero => exact Nat.le_refl 0
  | succ n ih => unfold fAt; split <;> omega
theorem al_le (f : Nat → Nat) (n : Nat) : al f n ≤ n := by
  induction n with
  | zero => exact Nat.le_refl 0
  | succ n ih => unfold al; split <;> omega
theorem fFr_le (q i f : Nat → Nat) (k h : Nat) : fFr q i f k h ≤ f (4 * k + 2) := Nat.sub_le _ _
theorem fPr_le {q : Nat → Nat} {kd fr h : Nat} (hp : q (10 + kd) ≤ 9999) (hf : fr ≤ 100) : fPr q kd fr h ≤ 9999 := by
  have h0 := Nat.mul_le_mul hp (show 50 + fr / 2 ≤ 100 from by omega)
  have h1 := Nat.mul_le_mul (show q (10 + kd) * (50 + fr / 2) / 100 ≤ 9999 from by omega) (show 100 - q (22 + h) ≤ 100 from by omega)
  unfold fPr
  omega
theorem fH1_k {q i f : Nat → Nat} (h : FI q i f) : ∀ n, n ≤ q 2 → FI q i (fH1 q i f n) := by
  intro n
  induction n with
  | zero => intro _; exact h
  | succ n ih =>
    intro hn
    have g := ih (by omega)
    unfold fH1
    split
    · exact g.uf (by omega) (by omega) (by omega) (fun _ => Nat.le_trans (fFr_le _ _ _ _ _) (fi_l2 g hn)) (by omega)
    · exact g
theorem fH2_k {q i f : Nat → Nat} (h : FI q i f) : ∀ p, p ≤ 11 → FI q (fH2 q i p) f := by
  intro p
  induction p with
  | zero => intro _; exact h
  | succ p ih =>
    intro hp
    have g := ih (by omega)
    exact g.ui (by have := fi_i g (show p < 11 from hp); omega)
theorem fC1_k {q i f : Nat → Nat} (h : FI q i f) : ∀ n, n ≤ q 2 → FI q i (fC1 q f n).2 ∧ (fC1 q f n).1 ≤ 20000 * n := by
  intro n
  induction n with
  | zero => intro _; exact ⟨h, Nat.le_refl 0⟩
  | succ n ih =>
    intro hn
    obtain ⟨g, g2⟩ := ih (by omega)
    unfold fC1
    split
    · exact ⟨g, by omega⟩
    · refine ⟨g.uf (by omega) (by omega) (by omega) (by omega) (by omega), ?_⟩
      have := fi_l1 g hn
      show _ + _ ≤ _
      omega
theorem fNt_lt {q i f : Nat → Nat} : ∀ (n : Nat) (o : Option Nat), n ≤ 6 → (∀ t, o = some t → t < 6) → ∀ t, fNt q i f n o = some t → t < 6 := by
  intro n
  induction n with
  | zero => intro o _ ho; exact ho
  | succ n ih =>
    intro o hn ho
    refine ih _ (by omega) (fun t ht => ?_)
    split at ht
    · cases ht; omega
    · exact ho t ht
theorem fC2_k {q i f : Nat → Nat} {tr g : Nat} (h : FI q i f) : ∀ n, n ≤ q 2 → FI q i (fC2 q i tr g f n).2 ∧ (fC2 q i tr g f n).1 ≤ g + 20000 * n := by
  intro n
  induction n with
  | zero => intro _; exact ⟨h, Nat.le_refl _⟩
  | succ n ih =>
    intro hn
    obtain ⟨g, g2⟩ := ih (by omega)
    have g3 := fi_l1 g hn
    unfold fC2
    split
    · exact ⟨g, by omega⟩
    · split
      · exact ⟨g.uf (by omega) (by omega) (by omega) (by omega) (by omega), by show _ + _ ≤ _; omega⟩
      · rename_i x hx
        have := fNt_lt 6 none (by omega) (fun t ht => by cases ht) x hx
        exact ⟨g.uf (by omega) (by omega) (by omega) (by omega) (by omega), by show (fC2 _ _ _ _ _ n).1 ≤ _; omega⟩
theorem fC3_k {q i f : Nat → Nat} (h : FI q i f) : ∀ t, t ≤ 5 → FI q (fC3 q i f t).1 (fC3 q i f t).2.2 ∧ (fC3 q i f t).2.1 ≤ 320000 * (t + 1) := by
  intro t
  induction t with
  | zero =>
    intro _
    obtain ⟨a, b⟩ := fC1_k h (q 2) (Nat.le_refl _)
    have := fi_2 h
    exact ⟨a, by show (fC1 q f (q 2)).1 ≤ _; omega⟩
  | succ t ih =>
    intro ht
    obtain ⟨a, b⟩ := ih (by omega)
    obtain ⟨c, d⟩ := fC2_k (tr := 6 + t) (g := (fC3 q i f t).2.1) (a.ui (j := 6 + t) (show 0 ≤ 5000 from by omega)) (q 2) (Nat.le_refl _)
    have := fi_2 h
    exact ⟨c, by show (fC2 _ _ _ _ _ _).1 ≤ _; omega⟩
theorem kDgt {a c : Nat} (ha : a < 2 ^ 30) (hc : c < 2 ^ 30) (h : 0 < nI a - nI c) : c < a := by
  rcases Nat.lt_or_ge c a with q | q
  · exact q
  · by_cases e : a = c
    · rw [e, pk_sub (Nat.le_refl _), Nat.sub_self] at h
      exact absurd h (by decide)
    · exact absurd (Int32.lt_trans h (pk_sneg hc (by omega))) (by decide)
theorem kDng {a c : Nat} (ha : a < 2 ^ 30) (hc : c < 2 ^ 30) (h : ¬ 0 < nI a - nI c) : a ≤ c := by
  rcases Nat.lt_or_ge c a with q | q
  · exact absurd (by rw [pk_sub (by omega)]; exact nI_lt (show 0 < a - c from by omega) (by omega)) h
  · exact q
theorem kSS (a c d : Nat) : nI a - nI c - nI d = nI a - nI (c + d) := by
  rw [← nI_add]
  simp only [Int32.sub_eq_add_neg, Int32.neg_add, Int32.add_assoc]
theorem kS0 (a : Nat) : nI a = nI a - nI 0 := by rw [pk_sub (Nat.zero_le _), Nat.sub_zero]
/-- the low bits of an int, by their number -/
def lz (x : Int32) : Nat := x.toBitVec.toNat % 2 ^ 31
theorem lz_lt (x : Int32) : lz x < 2 ^ 31 := Nat.mod_lt _ (by decide)
theorem lz_and (x : Int32) : x &&& 2147483647 = nI (lz x) := pk_and x 31 (by decide)
section KMORE
variable {p : Program} {l : Launch} {e : Env} {R : Room} {s : State} {m : MethodId} {args : Array Value} {below : List Frame} {meth : Method} {c : Code} {Q : State → Prop} {D : KD} {b nL ca sl : Nat} {sh : List KSh} {σ : KS} {pc : Nat} {ls : List (Nat × Value)} {st : List Value} {cc : ByteArray} {ret : Option FieldType} {own : String}
theorem K_ldc (X : KX p s m meth c args D b cc nL ret own) {index : Nat} {v : Int32} (hw : Cond.constant own index v ∈ wsL_law) (d : decode cc pc = .ok (.ldc index, 2)) (k : K p l e R s m args below meth c Q D b nL ca sl sh σ (pc + 2) ls (.int v :: st)) : K p l e R s m args below meth c Q D b nL ca sl sh σ pc ls st := fun H locs lsA hR hS hl => lv_ldc X.1 X.2.1 X.2.2.2.1 (X.2.2.2.2.1 _ hw) d (k H locs lsA hR hS hl)
theorem K_ishr (X : KX p s m meth c args D b cc nL ret own) {x y : Int32} (d : decode cc pc = .ok (.ishr, 1)) (k : ∀ z : Int32, K p l e R s m args below meth c Q D b nL ca sl sh σ (pc + 1) ls (.int z :: st)) : K p l e R s m args below meth c Q D b nL ca sl sh σ pc ls (.int y :: .int x :: st) := fun H locs lsA hR hS hl => lv_ishr X.1 X.2.1 d (k _ H locs lsA hR hS hl)
theorem K_ifN_ge (X : KX p s m meth c args D b cc nL ret own) {x : Nat} {off : Int} {tgt : Nat} (d : decode cc pc = .ok (.ifCond .ge off, 3)) (ht : (pc : Int) + off = (tgt : Int)) (hx : x < 2 ^ 31) (kt : K p l e R s m args below meth c Q D b nL ca sl sh σ tgt ls st) : K p l e R s m args below meth c Q D b nL ca sl sh σ pc ls (.int (nI x) :: st) := K_if_ge X d ht (fun _ => kt) (fun q => absurd (nI_pos' hx) q)
theorem K_ifN_lt (X : KX p s m meth c args D b cc nL ret own) {x : Nat} {off : Int} {tgt : Nat} (d : decode cc pc = .ok (.ifCond .lt off, 3)) (ht : (pc : Int) + off = (tgt : Int)) (hx : x < 2 ^ 31) (kt : K p l e R s m args below meth c Q D b nL ca sl sh σ (pc + 3) ls st) : K p l e R s m args below meth c Q D b nL ca sl sh σ pc ls (.int (nI x) :: st) := K_if_lt X d ht (fun q => absurd q (nI_pos hx)) (fun _ => kt)
end KMORE
