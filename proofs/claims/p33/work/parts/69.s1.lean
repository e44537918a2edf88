/-! THE LAW'S COMPARISON: the rows that it makes -/
theorem CI.hi {σ : KS} {N : Nat → Nat} {r n : Nat} {hs : Nat → Nat → Nat} {T : Nat → Nat} (h : CI σ N r hs T n) (h16 : N 2 ≤ 16) {τ : KS} (e1 : ∀ x, x < 190 → τ.1 x = σ.1 x) (e2 : τ.2 = σ.2) : CI τ N r hs T n := by
  obtain ⟨p, ⟨π, c⟩, ⟨ρ, d⟩, ⟨nx, h1, h2, h3, h4, h5, h6⟩, g⟩ := h
  have eP : τ.2.2 = σ.2.2 := by rw [e2]
  have eL : τ.2.1 = σ.2.1 := by rw [e2]
  refine ⟨by rw [eP]; exact p, ⟨π, c.of h16 (fun x hx hy => e1 x (by omega)) (by rw [eL]) (by rw [eP])⟩, ⟨ρ, d.of (by rw [eP])⟩, ⟨nx, h1, h2, (by rw [e1 48 (by omega)]; exact h3), (by rw [e1 48 (by omega)]; exact h4), fun i hi => ?_, fun j hj => ?_⟩, g.of (e1 188 (by omega)) (e1 189 (by omega))⟩
  · obtain ⟨ρ', d'⟩ := h5 i hi
    exact ⟨ρ', d'.of (by rw [eP])⟩
  · obtain ⟨a1, ρ', a2⟩ := h6 j hj
    have hm : (nx + 6 - r + j) % 6 < 6 := Nat.mod_lt _ (by decide)
    exact ⟨a1, ρ', a2.of a1 (fun x hx hy => e1 x (by omega)) (by rw [eL]) (by rw [eP])⟩
theorem fS_mono {g : Nat → Nat} {a c : Nat} (h : a ≤ c) : fS g a ≤ fS g c := by
  induction c with
  | zero => rw [show a = 0 from by omega]; exact Nat.le_refl _
  | succ c ih =>
    by_cases e : a = c + 1
    · rw [e]; exact Nat.le_refl _
    · have := ih (by omega)
      have e2 : fS g (c + 1) = fS g c + g c := rfl
      omega
def Lw1 (σ : KS) (q i f N : Nat → Nat) (r : Nat) (hs : Nat → Nat → Nat) (T : Nat → Nat) (n : Nat) : Prop := CI σ N r hs T n ∧ AR σ 190 q i f
def bK (f : Nat → Nat) (c : Nat) : Nat → Prop := fun k => 0 < f (4 * k + 1) ∧ f (4 * k) = c
def bP (f : Nat → Nat) (c : Nat) : Nat → Prop := fun k => 0 < f (4 * k + 1) ∧ f (4 * k + 3) = c
def S1 (σ : KS) (q i f N : Nat → Nat) (r : Nat) (hs : Nat → Nat → Nat) (T : Nat → Nat) (n n0 uk ub uf ul : Nat) : Prop :=
  Lw1 σ q i f N r hs T n ∧ (∀ c, c < 6 → σ.1 n0 c = nI (fS (gK f c) (q 2) - fS (gK f c) uk)) ∧ (∀ c, c < 6 → ∃ o, Bst (bK f c) (fun k => f (4 * k + 2)) ub (q 2) o ∧ σ.1 (n0 + 1) c = nI (qId o)) ∧ (∀ c, c < 11 → ∃ o, Bst (bP f c) (fun _ => 0) uf (q 2) o ∧ σ.1 (n0 + 2) c = nI (qId o)) ∧ ∀ c, c < 11 → σ.1 (n0 + 3) c = nI (fS (gP f c) (q 2) - fS (gP f c) ul)
section S1S
variable {σ τ : KS} {q i f N : Nat → Nat} {r n n0 uk ub uf ul : Nat} {hs : Nat → Nat → Nat} {T : Nat → Nat}
theorem Lw1.hi (h : Lw1 σ q i f N r hs T n) (h16 : N 2 ≤ 16) {a : Nat} {F : Nat → Int32} (ha : 193 ≤ a) : Lw1 (wI σ a F) q i f N r hs T n := ⟨h.1.hi h16 (fun x hx => wI_ne (by omega)) rfl, h.2.of (fun x h1 h2 => wI_ne (by omega))⟩
theorem Lw1.cf (h : Lw1 σ q i f N r hs T n) (k : Cf σ τ) (hC : CI τ N r hs T n) : Lw1 τ q i f N r hs T n := ⟨hC, h.2.cf k⟩
theorem S1.init (h : Lw1 σ q i f N r hs T n) (z0 : σ.1 n0 = fun _ => 0) (z1 : σ.1 (n0 + 1) = fun _ => 0) (z2 : σ.1 (n0 + 2) = fun _ => 0) (z3 : σ.1 (n0 + 3) = fun _ => 0) : S1 σ q i f N r hs T n n0 (q 2) (q 2) (q 2) (q 2) :=
  ⟨h, fun c _ => by rw [z0, Nat.sub_self]; rfl, fun c _ => ⟨none, Bst.nil, by rw [z1]; rfl⟩, fun c _ => ⟨none, Bst.nil, by rw [z2]; rfl⟩, fun c _ => by rw [z3, Nat.sub_self]; rfl⟩
theorem S1.cf (h : S1 σ q i f N r hs T n n0 uk ub uf ul) (h0 : 193 ≤ n0) (k : Cf σ τ) (hC : CI τ N r hs T n) : S1 τ q i f N r hs T n n0 uk ub uf ul := by
  obtain ⟨a, c, d, e, g⟩ := h
  refine ⟨a.cf k hC, ?_⟩
  rw [k n0 (by omega), k (n0 + 1) (by omega), k (n0 + 2) (by omega), k (n0 + 3) (by omega)]
  exact ⟨c, d, e, g⟩
theorem S1.fc (h : S1 σ q i f N r hs T n n0 uk ub uf ul) (h16 : N 2 ≤ 16) (h0 : 193 ≤ n0) (k : Fc σ τ) : S1 τ q i f N r hs T n n0 uk ub uf ul := by
  refine h.cf h0 k.cf ?_
  obtain ⟨F, rfl⟩ := k
  exact h.1.1.ro h16 (Or.inl rfl)
theorem S1.dead {j : Nat} (h : S1 σ q i f N r hs T n n0 (j + 1) (j + 1) (j + 1) (j + 1)) (hj : j < q 2) (h0 : f (4 * j + 1) = 0) : S1 σ q i f N r hs T n n0 j j j j := by
  obtain ⟨a, c, d, e, g⟩ := h
  refine ⟨a, fun k hk => ?_, fun k hk => ?_, fun k hk => ?_, fun k hk => ?_⟩
  · rw [c k hk, show fS (gK f k) (j + 1) = fS (gK f k) j from by show fS (gK f k) j + (if f (4 * j) = k then f (4 * j + 1) else 0) = _; rw [h0]; split <;> rfl]
  · obtain ⟨o, o1, o2⟩ := d k hk
    exact ⟨o, o1.dn_f (fun z => by have := z.1.1; omega), o2⟩
  · obtain ⟨o, o1, o2⟩ := e k hk
    exact ⟨o, o1.dn_f (fun z => by have := z.1.1; omega), o2⟩
  · rw [g k hk, show fS (gP f k) (j + 1) = fS (gP f k) j from by show fS (gP f k) j + (if f (4 * j + 3) = k then f (4 * j + 1) else 0) = _; rw [h0]; split <;> rfl]
theorem S1.wk {j : Nat} (h : S1 σ q i f N r hs T n n0 (j + 1) ub uf ul) (h16 : N 2 ≤ 16) (hn : 193 ≤ n0) (hj : j < q 2) : S1 (wI σ n0 (upd (σ.1 n0) (f (4 * j)) (nI (fS (gK f (f (4 * j))) (q 2) - fS (gK f (f (4 * j))) (j + 1) + f (4 * j + 1))))) q i f N r hs T n n0 j ub uf ul := by
  obtain ⟨a, c, d, e, g⟩ := h
  refine ⟨a.hi h16 (by omega), fun k hk => ?_, by rw [wI_ne (by omega)]; exact d, by rw [wI_ne (by omega)]; exact e, by rw [wI_ne (by omega)]; exact g⟩
  rw [wI_self]
  have hs : fS (gK f k) (j + 1) = fS (gK f k) j + (if f (4 * j) = k then f (4 * j + 1) else 0) := rfl
  have hm := fS_mono (g := gK f k) (show j + 1 ≤ q 2 from hj)
  unfold upd
  by_cases z : k = f (4 * j)
  · rw [if_pos z, ← z]
    rw [if_pos z.symm] at hs
    congr 1
    omega
  · rw [if_neg z, c k hk]
    rw [if_neg (fun w => z w.symm)] at hs
    rw [hs]
    rfl
theorem S1.wl {j : Nat} (h : S1 σ q i f N r hs T n n0 uk ub uf (j + 1)) (h16 : N 2 ≤ 16) (hn : 193 ≤ n0) (hj : j < q 2) : S1 (wI σ (n0 + 3) (upd (σ.1 (n0 + 3)) (f (4 * j + 3)) (nI (fS (gP f (f (4 * j + 3))) (q 2) - fS (gP f (f (4 * j + 3))) (j + 1) + f (4 * j + 1))))) q i f N r hs T n n0 uk ub uf j := by
  obtain ⟨a, c, d, e, g⟩ := h
  refine ⟨a.hi h16 (by omega), by rw [wI_ne (by omega)]; exact c, by rw [wI_ne (by omega)]; exact d, by rw [wI_ne (by omega)]; exact e, fun k hk => ?_⟩
  rw [wI_self]
  have hs : fS (gP f k) (j + 1) = fS (gP f k) j + (if f (4 * j + 3) = k then f (4 * j + 1) else 0) := rfl
  have hm := fS_mono (g := gP f k) (show j + 1 ≤ q 2 from hj)
  unfold upd
  by_cases z : k = f (4 * j + 3)
  · rw [if_pos z, ← z]
    rw [if_pos z.symm] at hs
    congr 1
    omega
  · rw [if_neg z, g k hk]
    rw [if_neg (fun w => z w.symm)] at hs
    rw [hs]
    rfl
theorem S1.wf {j : Nat} (h : S1 σ q i f N r hs T n n0 uk ub (j + 1) ul) (h16 : N 2 ≤ 16) (hn : 193 ≤ n0) (hj : j < q 2) (ha : 0 < f (4 * j + 1)) : S1 (wI σ (n0 + 2) (upd (σ.1 (n0 + 2)) (f (4 * j + 3)) (nI (j + 1)))) q i f N r hs T n n0 uk ub j ul := by
  obtain ⟨a, c, d, e, g⟩ := h
  refine ⟨a.hi h16 (by omega), by rw [wI_ne (by omega)]; exact c, by rw [wI_ne (by omega)]; exact d, fun k hk => ?_, by rw [wI_ne (by omega)]; exact g⟩
  rw [wI_self]
  obtain ⟨o, o1, o2⟩ := e k hk
  unfold upd
  by_cases z : k = f (4 * j + 3)
  · rw [if_pos z]
    exact ⟨some j, o1.dn_t hj ⟨ha, z.symm⟩ (fun _ _ => Nat.le_refl _), rfl⟩
  · rw [if_neg z]
    exact ⟨o, o1.dn_f (fun w => z w.1.2.symm), o2⟩
theorem S1.wb {j : Nat} (h : S1 σ q i f N r hs T n n0 uk (j + 1) uf ul) (h16 : N 2 ≤ 16) (hn : 193 ≤ n0) (hj : j < q 2) (ha : 0 < f (4 * j + 1)) {o : Option Nat} (o1 : Bst (bK f (f (4 * j))) (fun k => f (4 * k + 2)) (j + 1) (q 2) o) (ho : ∀ t, o = some t → f (4 * t + 2) ≤ f (4 * j + 2)) : S1 (wI σ (n0 + 1) (upd (σ.1 (n0 + 1)) (f (4 * j)) (nI (j + 1)))) q i f N r hs T n n0 uk j uf ul := by
  obtain ⟨a, c, d, e, g⟩ := h
  refine ⟨a.hi h16 (by omega), by rw [wI_ne (by omega)]; exact c, fun k hk => ?_, by rw [wI_ne (by omega)]; exact e, by rw [wI_ne (by omega)]; exact g⟩
  rw [wI_self]
  obtain ⟨o', o1', o2⟩ := d k hk
  unfold upd
  by_cases z : k = f (4 * j)
  · rw [if_pos z]
    rw [← z] at o1
    exact ⟨some j, o1.dn_t hj ⟨ha, z.symm⟩ ho, rfl⟩
  · rw [if_neg z]
    exact ⟨o', o1'.dn_f (fun w => z w.1.2.symm), o2⟩
theorem S1.nb {j : Nat} (h : S1 σ q i f N r hs T n n0 uk (j + 1) uf ul) (hj : j < q 2) {o : Option Nat} (o1 : Bst (bK f (f (4 * j))) (fun k => f (4 * k + 2)) (j + 1) (q 2) o) (ho : ¬ ∀ t, o = some t → f (4 * t + 2) ≤ f (4 * j + 2)) : S1 σ q i f N r hs T n n0 uk j uf ul := by
  obtain ⟨a, c, d, e, g⟩ := h
  refine ⟨a, c, fun k hk => ?_, e, g⟩
  obtain ⟨o', o1', o2⟩ := d k hk
  by_cases z : k = f (4 * j)
  · subst z
    rw [o1'.uniq o1] at o2
    exact ⟨o, o1.dn_f (fun w => ho w.2), o2⟩
  · exact ⟨o', o1'.dn_f (fun w => z w.1.2.symm), o2⟩
end S1S
/-! the copies -/
def cu (g : Nat → Nat) (m u : Nat) : Nat → Nat := fun t => if t < m ∧ t < u then g t else 0
theorem cu_0 {g : Nat → Nat} {m : Nat} : cu g m 0 = fun _ => 0 := funext (fun t => if_neg (by omega))
theorem cu_s {g : Nat → Nat} {m u : Nat} (h : u < m) : uN (cu g m u) u (g u) = cu g m (u + 1) := by
  funext t
  unfold uN cu
  by_cases z : t = u
  · rw [if_pos z, if_pos (by omega), z]
  · rw [if_neg z]
    by_cases w : t < m ∧ t < u
    · rw [if_pos w, if_pos (by omega)]
    · rw [if_neg w, if_neg (by omega)]
theorem cu_e {g : Nat → Nat} {m u : Nat} (h : m ≤ u) : cu g m u = cu g m (u + 1) := by
  funext t
  unfold cu
  by_cases w : t < m
  · rw [if_pos (by omega), if_pos (by omega)]
  · rw [if_neg (by omega), if_neg (by omega)]
theorem cu_in {g : Nat → Nat} {m u t : Nat} (h : t < m) (h2 : t < u) : cu g m u t = g t := if_pos ⟨h, h2⟩
theorem JJ.copy {q i f N q' i' f' : Nat → Nat} (h : JJ q i f N) (eq : ∀ t, t < 33 → q' t = q t) (ei : ∀ t, t < 11 → i' t = i t) (ef : ∀ t, t < 64 → f' t = f t) : JJ q' i' f' N := by
  obtain ⟨⟨a, c, d, e, g, o⟩, hF, hC⟩ := h
  have h16 := fi_2 hF
  have e2 := eq 2 (by omega)
  have eal : ∀ k, k ≤ q 2 → al f' k = al f k := fun k hk => al_congr (fun t ht => by rw [ef (4 * t + 1) (by omega)])
  obtain ⟨⟨b1, b2, b8, b9⟩, bp, bc, bt, bi, bl⟩ := hF
  refine ⟨⟨fun j hj h2 => by rw [eq j (by omega)]; exact a j hj h2, by rw [e2]; exact c, fun j h0 hj => by rw [eq j hj]; exact d j h0 hj, fun j hj => by rw [ei j hj]; exact e j hj, by rw [e2, eal _ (Nat.le_refl _)]; exact g, fun k hk ha => ?_⟩, ⟨⟨by rw [eq 1 (by omega)]; exact b1, by rw [e2]; exact b2, by rw [eq 8 (by omega)]; exact b8, by rw [eq 9 (by omega)]; exact b9⟩, fun k hk => by rw [eq _ (by omega)]; exact bp k hk, fun k hk => by rw [eq _ (by omega)]; exact bc k hk, fun k hk => by rw [eq _ (by omega)]; exact bt k hk, fun k hk => by rw [ei _ hk]; exact bi k hk, fun k hk => ?_⟩, ?_⟩
  · rw [e2] at hk
    rw [ef _ (by omega)] at ha
    rw [eal k (by omega)]
    unfold JL
    rw [ef (4 * k) (by omega), ef (4 * k + 1) (by omega), ef (4 * k + 2) (by omega), ef (4 * k + 3) (by omega)]
    exact o k hk ha
  · rw [e2] at hk
    rw [ef (4 * k) (by omega), ef (4 * k + 1) (by omega), ef (4 * k + 2) (by omega), ef (4 * k + 3) (by omega)]
    exact bl k hk
  · unfold Cn at hC ⊢
    rw [eq 3 (by omega), eq 4 (by omega), eq 5 (by omega), e2, fS_congr (g := gG f') (g' := gG f) (fun t ht => ef _ (by omega))]
    exact hC
