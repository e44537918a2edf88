/-! THE CLASS'S SYSTEM: N its numbers, r saved states hs, the text's n signs T -/
theorem sv_in : ∀ i, i < 6 → 50 + 23 * i ∈ shL := by decide
theorem s1_in : 1 ∈ shL := by decide
theorem s24_in : 24 ∈ shL := by decide
def Hs (σ : KS) (r : Nat) (hs : Nat → Nat → Nat) : Prop := ∃ nx, nx < 6 ∧ r ≤ 6 ∧ σ.1 48 0 = nI r ∧ σ.1 48 1 = nI nx ∧ (∀ i, i < 6 → ∃ ρ, Rp σ (50 + 23 * i) ρ) ∧ ∀ j, j < r → hs j 2 ≤ 16 ∧ ∃ ρ, Rs σ (50 + 23 * ((nx + 6 - r + j) % 6)) ρ (hs j)
def Tx (σ : KS) (T : Nat → Nat) (n : Nat) : Prop := σ.1 188 0 = nI n ∧ ∀ k, k < n → σ.1 189 k = nI (T k)
def CI (σ : KS) (N : Nat → Nat) (r : Nat) (hs : Nat → Nat → Nat) (T : Nat → Nat) (n : Nat) : Prop := PF σ.2.2 ∧ (∃ π, Rs σ 1 π N) ∧ (∃ ρ, Rp σ 24 ρ) ∧ Hs σ r hs ∧ Tx σ T n
/-- the reference's cells stay -/
def Cf (σ τ : KS) : Prop := ∀ x, 190 ≤ x → τ.1 x = σ.1 x
theorem Cf.rf {σ : KS} : Cf σ σ := fun _ _ => rfl
theorem Cf.tr {σ τ υ : KS} (a : Cf σ τ) (c : Cf τ υ) : Cf σ υ := fun x hx => (c x hx).trans (a x hx)
theorem Cf.fr {σ τ : KS} {o : Nat} (ho : o ∈ shL) (h : Fr σ τ o) : Cf σ τ := fun x hx => (h.1 x (by have := so_le o ho; omega)).1
theorem Cf.i {σ : KS} {a : Nat} {f : Nat → Int32} (h : a < 190) : Cf σ (wI σ a f) := fun x hx => wI_ne (by omega)
/-- the cells outside the history stay -/
def Fh (σ τ : KS) : Prop := PF τ.2.2 ∧ ∀ x, (x < 48 ∨ 188 ≤ x) → τ.1 x = σ.1 x ∧ τ.2.1 x = σ.2.1 x ∧ τ.2.2 x = σ.2.2 x
theorem Rp.of {σ τ : KS} {o : Nat} {ρ : Nat → Nat} (h : Rp σ o ρ) (e : τ.2.2 (o + 6) = σ.2.2 (o + 6)) : Rp τ o ρ := ⟨fun k hk => by rw [e]; exact h.1 k hk, h.2⟩
theorem Fh.rs {σ τ : KS} {π N : Nat → Nat} (h : Fh σ τ) (hR : Rs σ 1 π N) (h16 : N 2 ≤ 16) : Rs τ 1 π N := hR.of h16 (fun x a c => (h.2 x (by omega)).1) (h.2 1 (by omega)).2.1 (h.2 _ (by omega)).2.2
theorem Fh.cf {σ τ : KS} (h : Fh σ τ) : Cf σ τ := fun x hx => (h.2 x (by omega)).1
theorem Hs.fr {σ τ : KS} {o r : Nat} {hs : Nat → Nat → Nat} (h : Hs σ r hs) (ho : o ∈ shL) (ho2 : o < 48) (hF : Fr σ τ o) : Hs τ r hs := by
  obtain ⟨nx, h1, h2, h3, h4, h5, h6⟩ := h
  have key : ∀ o, o ∈ shL → o < 48 → o + 23 ≤ 48 := by decide
  have hk := key o ho ho2
  refine ⟨nx, h1, h2, by rw [(hF.1 48 (by omega)).1]; exact h3, by rw [(hF.1 48 (by omega)).1]; exact h4, fun i hi => ?_, fun j hj => ?_⟩
  · obtain ⟨ρ, hp⟩ := h5 i hi
    exact ⟨ρ, hp.of (hF.2 _ (by omega))⟩
  · obtain ⟨a, ρ, hp⟩ := h6 j hj
    exact ⟨a, ρ, hF.keep ho (sv_in _ (Nat.mod_lt _ (by decide))) (by omega) hp a⟩
theorem Tx.of {σ τ : KS} {T : Nat → Nat} {n : Nat} (h : Tx σ T n) (e1 : τ.1 188 = σ.1 188) (e2 : τ.1 189 = σ.1 189) : Tx τ T n := ⟨by rw [e1]; exact h.1, by rw [e2]; exact h.2⟩
section CIS
variable {σ τ : KS} {N M : Nat → Nat} {r n : Nat} {hs : Nat → Nat → Nat} {T : Nat → Nat}
theorem CI.sh (h : CI σ N r hs T n) (k : SP σ τ 1 M) : CI τ M r hs T n := by
  obtain ⟨a, c, ⟨ρ, d⟩, f, g⟩ := h
  obtain ⟨k1, k2⟩ := k
  exact ⟨k2.PF s1_in a, k1, ⟨ρ, d.of (k2.2 _ (by omega))⟩, f.fr s1_in (by omega) k2, g.of (k2.1 188 (by omega)).1 (k2.1 189 (by omega)).1⟩
theorem CI.tr (h : CI σ N r hs T n) (h16 : N 2 ≤ 16) (k : Fr σ τ 24) (hp : ∃ ρ, Rp τ 24 ρ) : CI τ N r hs T n := by
  obtain ⟨a, ⟨π, c⟩, ⟨ρ, d⟩, f, g⟩ := h
  exact ⟨k.PF s24_in a, ⟨π, k.keep s24_in s1_in (by decide) c h16⟩, hp, f.fr s24_in (by omega) k, g.of (k.1 188 (by omega)).1 (k.1 189 (by omega)).1⟩
theorem CI.fh (h : CI σ N r hs T n) (h16 : N 2 ≤ 16) {r' : Nat} {hs' : Nat → Nat → Nat} (k : Hs τ r' hs' ∧ Fh σ τ) : CI τ N r' hs' T n := by
  obtain ⟨a, ⟨π, c⟩, ⟨ρ, d⟩, f, g⟩ := h
  exact ⟨k.2.1, ⟨π, k.2.rs c h16⟩, ⟨ρ, d.of (k.2.2 _ (by omega)).2.2⟩, k.1, g.of (k.2.2 188 (by omega)).1 (k.2.2 189 (by omega)).1⟩
/-- ints of the forecast's, the text's own row -/
theorem CI.ro (h : CI σ N r hs T n) (h16 : N 2 ≤ 16) {a : Nat} {F : Nat → Int32} (ha : a = 47 ∨ (a = 188 ∧ F 0 = σ.1 188 0)) : CI (wI σ a F) N r hs T n := by
  obtain ⟨p, ⟨π, c⟩, ⟨ρ, d⟩, ⟨nx, h1, h2, h3, h4, h5, h6⟩, g⟩ := h
  have hne : ∀ x, x ≠ 47 → x ≠ 188 → (wI σ a F).1 x = σ.1 x := fun x hx hy => wI_ne (by omega)
  refine ⟨p, ⟨π, c.of h16 (fun x hx hy => hne x (by omega) (by omega)) rfl rfl⟩, ⟨ρ, d⟩, ⟨nx, h1, h2, (by rw [hne 48 (by omega) (by omega)]; exact h3), (by rw [hne 48 (by omega) (by omega)]; exact h4), h5, fun j hj => ?_⟩, ?_⟩
  · obtain ⟨a1, ρ, a2⟩ := h6 j hj
    have hm : (nx + 6 - r + j) % 6 < 6 := Nat.mod_lt _ (by decide)
    exact ⟨a1, ρ, a2.of a1 (fun x hx hy => hne x (by omega) (by omega)) rfl rfl⟩
  · refine ⟨?_, by rw [hne 189 (by omega) (by omega)]; exact g.2⟩
    rcases ha with q | ⟨q, q2⟩
    · rw [q, wI_ne (by omega)]; exact g.1
    · rw [q, wI_self, q2]; exact g.1
end CIS
/-- the saved states behind a save -/
def hsN (hs : Nat → Nat → Nat) (r : Nat) (N : Nat → Nat) : Nat → Nat → Nat := fun j => if r = 6 then (if j = 5 then N else hs (j + 1)) else (if j = r then N else hs j)
theorem Hs.save {σ τ : KS} {r nx : Nat} {hs : Nat → Nat → Nat} {N : Nat → Nat} (h1 : nx < 6) (h2 : r ≤ 6) (h5 : ∀ i, i < 6 → ∃ ρ, Rp σ (50 + 23 * i) ρ) (h6 : ∀ j, j < r → hs j 2 ≤ 16 ∧ ∃ ρ, Rs σ (50 + 23 * ((nx + 6 - r + j) % 6)) ρ (hs j)) (h16 : N 2 ≤ 16) (k : SP σ τ (50 + 23 * nx) N) {F : Nat → Int32} (f0 : F 0 = nI (qRr r + 1)) (f1 : F 1 = nI ((nx + 1) % 6)) : Hs (wI τ 48 F) (qRr r + 1) (hsN hs r N) := by
  obtain ⟨⟨π, kR⟩, kF⟩ := k
  have hr : qRr r + 1 = if r = 6 then 6 else r + 1 := by unfold qRr; split <;> rfl
  refine ⟨(nx + 1) % 6, Nat.mod_lt _ (by decide), by rw [hr]; split <;> omega, by rw [wI_self]; exact f0, by rw [wI_self]; exact f1, fun i hi => ?_, fun j hj => ?_⟩
  · by_cases q : i = nx
    · rw [q]; exact ⟨π, (rs_p kR).of rfl⟩
    · obtain ⟨ρ, hp⟩ := h5 i hi
      exact ⟨ρ, hp.of (kF.2 _ (by omega))⟩
  · rw [hr] at hj ⊢
    have keep : ∀ {i : Nat} {ρ M : Nat → Nat}, i < 6 → M 2 ≤ 16 → Rs τ (50 + 23 * i) ρ M → Rs (wI τ 48 F) (50 + 23 * i) ρ M := fun hi hM hR => hR.of hM (fun x hx hy => wI_ne (by omega)) rfl rfl
    unfold hsN
    by_cases q : r = 6
    · rw [if_pos q] at hj ⊢
      rw [if_pos q]
      by_cases q5 : j = 5
      · rw [if_pos q5, show ((nx + 1) % 6 + 6 - 6 + j) % 6 = nx from by omega]
        exact ⟨h16, π, keep h1 h16 kR⟩
      · rw [if_neg q5, show ((nx + 1) % 6 + 6 - 6 + j) % 6 = (nx + 6 - r + (j + 1)) % 6 from by omega]
        obtain ⟨a, ρ, c⟩ := h6 (j + 1) (by omega)
        exact ⟨a, ρ, keep (Nat.mod_lt _ (by decide)) a (kF.keep (sv_in _ h1) (sv_in _ (Nat.mod_lt _ (by decide))) (by omega) c a)⟩
    · rw [if_neg q] at hj ⊢
      rw [if_neg q]
      by_cases q5 : j = r
      · rw [if_pos q5, show ((nx + 1) % 6 + 6 - (r + 1) + j) % 6 = nx from by omega]
        exact ⟨h16, π, keep h1 h16 kR⟩
      · rw [if_neg q5, show ((nx + 1) % 6 + 6 - (r + 1) + j) % 6 = (nx + 6 - r + j) % 6 from by omega]
        obtain ⟨a, ρ, c⟩ := h6 j (by omega)
        exact ⟨a, ρ, keep (Nat.mod_lt _ (by decide)) a (kF.keep (sv_in _ h1) (sv_in _ (Nat.mod_lt _ (by decide))) (by omega) c a)⟩
/-- behind a call: nothing saved, or the old state saved and the numbers M -/
def CO (σ : KS) (N : Nat → Nat) (r : Nat) (hs : Nat → Nat → Nat) (T : Nat → Nat) (n : Nat) (o : Option (Nat → Nat)) (τ : KS) : Prop := Cf σ τ ∧ match o with
  | none => CI τ N r hs T n
  | some M => CI τ M (qRr r + 1) (hsN hs r N) T n
theorem K_putB {p : Program} {l : Launch} {e : Env} {R : Room} {s : State} {m : MethodId} {args : Array Value} {below : List Frame} {meth : Method} {c : Code} {Q : State → Prop} {D : KD} {b nL ca sl : Nat} {sh : List KSh} {σ : KS} {pc : Nat} {ls : List (Nat × Value)} {st : List Value} {cc : ByteArray} {ret : Option FieldType} {own : String} (X : KX p s m meth c args D b cc nL ret own) {ci a index : Nat} {C ref : String} {T : u_T} {N : Nat} (k : Nat) (F : kFd ci) (hc : vwCl[ci]? = some (C, T, N)) (hk : k < N) (hs : sh[a]? = some (.inl ci)) (hw : Cond.fieldLink own index ref (T k).2.1 (T k).2.2.1 ∈ wsL_law) (hr : (T k).1 = ref) (hfin : (T k).2.2.2 = false) (hty : kTy ci k = .boolean) {t : Bool} (d : decode cc pc = .ok (.putfield index, 3))
    (kk : K p l e R s m args below meth c Q D b nL ca sl sh (wI σ a (upd (σ.1 a) k (kB t))) (pc + 3) ls st) : K p l e R s m args below meth c Q D b nL ca sl sh σ pc ls (.int (kB t) :: rf b a :: st) := by
  refine K_put X k F hc hk hs hw hr (Or.inl hfin) (by rw [hty]; exact kB_nar t) (by rw [hty]; cases t <;> rfl) ?_ ?_ ?_ d kk
  · rw [hty]
    show Value.int ((wI σ a (upd (σ.1 a) k (kB t))).1 a k) = _
    rw [wI_self]
    simp [upd]
  · intro j hj hjk
    unfold kv
    rw [wI_self, wI_L, wI_P]
    simp only [upd, if_neg hjk]
  · intro y hy
    exact ⟨wI_ne hy, rfl, rfl⟩
/-- the forecast's row for lot k, h hours on -/
def Fo (G : Nat → Int32) (N : Nat → Nat) (k h : Nat) : Prop := G 0 = nI (qFI N k h).1 ∧ G 1 = nI (qFI N k h).2 ∧ G 2 = nI (N 8) ∧ G 3 = kB (qTray (qL N k 4))
def Fc (σ τ : KS) : Prop := ∃ F, τ = wI σ 47 F
theorem Fc.rf {σ : KS} : Fc σ σ := ⟨σ.1 47, (wI_id rfl).symm⟩
theorem Fc.mk {σ : KS} {F : Nat → Int32} : Fc σ (wI σ 47 F) := ⟨F, rfl⟩
theorem Rs.fc {σ τ : KS} {π N : Nat → Nat} (hR : Rs σ 1 π N) (h16 : N 2 ≤ 16) (h : Fc σ τ) : Rs τ 1 π N := by
  obtain ⟨F, rfl⟩ := h
  exact hR.of h16 (fun x hx hy => wI_ne (by omega)) rfl rfl
theorem Fc.cf {σ τ : KS} (h : Fc σ τ) : Cf σ τ := by
  obtain ⟨F, rfl⟩ := h
  exact Cf.i (by decide)
theorem Fc.tr {σ τ υ : KS} (h : Fc σ τ) (k : Fc τ υ) : Fc σ υ := by
  obtain ⟨F, rfl⟩ := h
  obtain ⟨G, rfl⟩ := k
  exact ⟨G, wI_wI⟩
theorem Fc.pf {σ τ : KS} (h : Fc σ τ) (hP : PF σ.2.2) : PF τ.2.2 := by
  obtain ⟨F, rfl⟩ := h
  exact hP
theorem kTr {pl : Nat} (h : pl < 2 ^ 31) : kB (decide (qTy pl ≠ -6)) = kB (qTray pl) := by
  congr 1
  exact decide_eq_decide.mpr ⟨fun z => Decidable.byContradiction (fun y => z ((qTy_n h).mpr y)), fun z y => (qTy_n h).mp y z⟩
