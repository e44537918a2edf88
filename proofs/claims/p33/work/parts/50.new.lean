/-! HOW BOTH ARE MADE -/
def okT : FieldType → Bool
  | .float => false
  | .double => false
  | _ => true
theorem kv_z {b : Nat} {ty : FieldType} {σ : KS} {a j : Nat} (h : okT ty = true) (h1 : σ.1 a j = 0) (h2 : σ.2.1 a j = 0) (h3 : σ.2.2 a j = none) : kv b ty σ a j = defaultValue ty := by
  unfold kv
  cases ty <;> simp only [h1, h2, h3, Option.map] <;> first
    | rfl
    | cases h
section KNEW
variable {p : Program} {l : Launch} {e : Env} {R : Room} {s : State} {m : MethodId} {args : Array Value} {below : List Frame} {meth : Method} {c : Code} {Q : State → Prop} {D : KD} {b nL ca sl : Nat} {sh : List KSh} {σ : KS} {pc : Nat} {ls : List (Nat × Value)} {st : List Value} {cc : ByteArray} {ret : Option FieldType} {own : String}
theorem K_sh {sh' : List KSh} (h : sh = sh') (k : K p l e R s m args below meth c Q D b nL ca sl sh' σ pc ls st) : K p l e R s m args below meth c Q D b nL ca sl sh σ pc ls st := h ▸ k
theorem K_cs {ca' sl' : Nat} (h1 : ca = ca') (h2 : sl = sl') (k : K p l e R s m args below meth c Q D b nL ca' sl' sh σ pc ls st) : K p l e R s m args below meth c Q D b nL ca sl sh σ pc ls st := h1 ▸ h2 ▸ k
theorem K_nw (X : KX p s m meth c args D b cc nL ret own) {ci index N a : Nat} {C : String} {T : u_T} (F : kFd ci) (hc : vwCl[ci]? = some (C, T, N)) (h1 : Cond.classLink own index C ∈ wsL_law) (h2 : Cond.instantiable C N ∈ wsL_law) (h3 : Cond.initialized C ∈ wsL_law) (ha : sh.length = a) (hok : ∀ j, j < N → okT (kTy ci j) = true) (hz : ∀ j, σ.1 a j = 0 ∧ σ.2.1 a j = 0 ∧ σ.2.2 a j = none) (hroom : ca + 1 ≤ R.cells ∧ sl + N ≤ R.slots) (d : decode cc pc = .ok (.new index, 3))
    (kk : K p l e R s m args below meth c Q D b nL (ca + 1) (sl + N) (sh ++ [.inl ci]) σ (pc + 3) ls (rf b a :: st)) : K p l e R s m args below meth c Q D b nL ca sl sh σ pc ls st := by
  subst ha
  exact K_new X F hc h1 h2 h3 (fun j hj => kv_z (hok j hj) (hz j).1 (hz j).2.1 (hz j).2.2) (fun x _ => ⟨rfl, rfl, rfl⟩) hroom d kk
theorem K_nwa (X : KX p s m meth c args D b cc nL ret own) {atype : ArrayType} {ty : FieldType} {a : Nat} (hat : newarray.typeOf atype = ty) (hty : ty = .int ∨ ty = .char) (h1 : Cond.arrayClass ty ∈ wsL_law) {n : Int32} (jn : Nat) (hn : n = nI jn) (hj : jn < 65536) (ha : sh.length = a) (hz : ∀ j, σ.1 a j = 0) (hroom : ca + 1 ≤ R.cells ∧ sl + jn ≤ R.slots) (d : decode cc pc = .ok (.newarray atype, 2))
    (kk : K p l e R s m args below meth c Q D b nL (ca + 1) (sl + jn) (sh ++ [.inr (ty, jn)]) σ (pc + 2) ls (rf b a :: st)) : K p l e R s m args below meth c Q D b nL ca sl sh σ pc ls (.int n :: st) := by
  subst ha
  exact K_newa X hat hty h1 jn hn hj (fun j _ => hz j) (fun x _ => ⟨rfl, rfl, rfl⟩) hroom d kk
theorem K_nwq (X : KX p s m meth c args D b cc nL ret own) {index a : Nat} {C : String} (hC : C = "FishCounter$Lot" ∨ C = "FishCounter$Shop") (h1 : Cond.classLink own index C ∈ wsL_law) {n : Int32} (jn : Nat) (hn : n = nI jn) (hj : jn < 65536) (ha : sh.length = a) (hz : ∀ j, σ.2.2 a j = none) (hroom : ca + 1 ≤ R.cells ∧ sl + jn ≤ R.slots) (d : decode cc pc = .ok (.anewarray index, 3))
    (kk : K p l e R s m args below meth c Q D b nL (ca + 1) (sl + jn) (sh ++ [.inr (.object C, jn)]) σ (pc + 3) ls (rf b a :: st)) : K p l e R s m args below meth c Q D b nL ca sl sh σ pc ls (.int n :: st) := by
  subst ha
  exact K_newq X hC h1 jn hn hj (fun j _ => hz j) (fun x _ => ⟨rfl, rfl, rfl⟩) hroom d kk
theorem K_putP (X : KX p s m meth c args D b cc nL ret own) {ci a z index : Nat} {C ref : String} {T : u_T} {N : Nat} (k : Nat) (F : kFd ci) (hc : vwCl[ci]? = some (C, T, N)) (hk : k < N) (hs : sh[a]? = some (.inl ci)) (hw : Cond.fieldLink own index ref (T k).2.1 (T k).2.2.1 ∈ wsL_law) (hr : (T k).1 = ref)
    (hfin : (T k).2.2.2 = false ∨ ((T k).2.2.2 = true ∧ meth.name = "<init>" ∧ (T k).1 = own)) (hty : (∃ C, kTy ci k = .object C) ∨ ∃ t, kTy ci k = .array t) (d : decode cc pc = .ok (.putfield index, 3))
    (kk : K p l e R s m args below meth c Q D b nL ca sl sh (wP σ a (va_up (σ.2.2 a) k (some z))) (pc + 3) ls st) : K p l e R s m args below meth c Q D b nL ca sl sh σ pc ls (rf b z :: rf b a :: st) := by
  refine K_put X k F hc hk hs hw hr hfin ?_ ?_ ?_ ?_ ?_ d kk
  · rcases hty with ⟨C, h⟩ | ⟨t, h⟩ <;> rw [h] <;> rfl
  · rcases hty with ⟨C, h⟩ | ⟨t, h⟩ <;> rw [h] <;> rfl
  · have e : (wP σ a (va_up (σ.2.2 a) k (some z))).2.2 a k = some z := by rw [wP_self]; simp [va_up]
    rcases hty with ⟨C, h⟩ | ⟨t, h⟩ <;> rw [h] <;> show va_rf (((wP σ a (va_up (σ.2.2 a) k (some z))).2.2 a k).map (fun z => b + z)) = _ <;> rw [e] <;> rfl
  · intro j hj hjk
    unfold kv
    rw [wP_self, wP_I, wP_L]
    simp only [va_up, if_neg hjk]
  · intro y hy
    exact ⟨rfl, rfl, wP_ne hy⟩
end KNEW
theorem gA {pre L : List KSh} {p k : Nat} {q : KSh} (hp : pre.length = p) (h : L[k]? = some q) : (pre ++ L)[p + k]? = some q := by
  subst hp
  rw [List.getElem?_append_right (Nat.le_add_right _ _), Nat.add_sub_cancel_left]
  exact h
def N0 : Nat → Nat := fun k => if 11 ≤ k ∧ k < 17 then 1000 + 200 * (k - 11) else if 17 ≤ k ∧ k < 23 then 400 + 100 * (k - 17) else if k = 8 then 100 else if k = 9 then 30 else 0
def IS (σ τ : KS) (p m i j : Nat) : Prop :=
  (∀ x, (x < p ∨ p + 7 + j ≤ x) → τ.1 x = σ.1 x ∧ τ.2.1 x = σ.2.1 x ∧ τ.2.2 x = σ.2.2 x) ∧ (τ.1 p 2 = nI 100 ∧ τ.1 p 3 = nI 30 ∧ ∀ k, k ≠ 2 → k ≠ 3 → τ.1 p k = 0) ∧ (∀ k, τ.2.1 p k = 0) ∧ (∀ k, k < m → τ.2.2 p (11 + k) = some (p + 1 + k)) ∧ (∀ k, k < i → τ.1 (p + 1) k = nI (1000 + 200 * k) ∧ τ.1 (p + 2) k = nI (400 + 100 * k)) ∧ (∀ a, 3 ≤ a → a ≤ 5 → ∀ k, τ.1 (p + a) k = 0) ∧ (∀ k, k < j → τ.2.2 (p + 6) k = some (p + 7 + k)) ∧ (i = 0 → ∀ a, 1 ≤ a → a ≤ 5 → ∀ k, τ.1 (p + a) k = 0) ∧ (j = 0 → ∀ k, τ.2.2 (p + 6) k = none)
def Zr (σ : KS) (p : Nat) : Prop := ∀ x, p ≤ x → (∀ k, σ.1 x k = 0) ∧ (∀ k, σ.2.1 x k = 0) ∧ ∀ k, σ.2.2 x k = none
theorem IS.init {σ : KS} {p : Nat} (hz : Zr σ p) : IS σ (wI σ p (upd (upd (σ.1 p) 2 (nI 100)) 3 (nI 30))) p 0 0 0 := by
  have hz' := fun x (h : p ≤ x) => hz x h
  refine ⟨fun x hx => ⟨wI_ne (by omega), rfl, rfl⟩, ⟨by rw [wI_self]; rfl, by rw [wI_self]; rfl, fun k h2 h3 => ?_⟩, fun k => (hz p (Nat.le_refl _)).2.1 k, fun k hk => by omega, fun k hk => by omega, fun a h3 h5 k => ?_, fun k hk => by omega, fun _ a h1 h5 k => ?_, fun _ k => (hz (p + 6) (by omega)).2.2 k⟩
  · rw [wI_self]
    unfold upd
    rw [if_neg h3, if_neg h2]
    exact (hz p (Nat.le_refl _)).1 k
  · rw [wI_ne (by omega)]; exact (hz (p + a) (by omega)).1 k
  · rw [wI_ne (by omega)]; exact (hz (p + a) (by omega)).1 k
section ISS
variable {σ τ : KS} {p m i j : Nat}
theorem IS.ref (h : IS σ τ p m i j) : IS σ (wP τ p (va_up (τ.2.2 p) (11 + m) (some (p + 1 + m)))) p (m + 1) i j := by
  obtain ⟨a1, a2, a3, a4, a5, a6, a7, a8, a9⟩ := h
  refine ⟨fun x hx => ⟨(a1 x hx).1, (a1 x hx).2.1, (wP_ne (by omega)).trans (a1 x hx).2.2⟩, a2, a3, fun k hk => ?_, a5, a6, fun k hk => by rw [wP_ne (by omega)]; exact a7 k hk, a8, fun hj k => by rw [wP_ne (by omega)]; exact a9 hj k⟩
  rw [wP_self]
  unfold va_up
  by_cases q : k = m
  · rw [if_pos (by omega), q]
  · rw [if_neg (by omega)]; exact a4 k (by omega)
theorem IS.num (h : IS σ τ p m i j) : IS σ (wI (wI τ (p + 1) (upd (τ.1 (p + 1)) i (nI (1000 + 200 * i)))) (p + 2) (upd ((wI τ (p + 1) (upd (τ.1 (p + 1)) i (nI (1000 + 200 * i)))).1 (p + 2)) i (nI (400 + 100 * i)))) p m (i + 1) j := by
  obtain ⟨a1, a2, a3, a4, a5, a6, a7, a8, a9⟩ := h
  refine ⟨fun x hx => ⟨by rw [wI_ne (by omega), wI_ne (by omega)]; exact (a1 x hx).1, (a1 x hx).2.1, (a1 x hx).2.2⟩, by rw [wI_ne (by omega), wI_ne (by omega)]; exact a2, a3, a4, fun k hk => ?_, fun a h3 h5 k => by rw [wI_ne (by omega), wI_ne (by omega)]; exact a6 a h3 h5 k, a7, fun h0 => by omega, a9⟩
  have e1 : p + 2 ≠ p + 1 := by omega
  constructor
  · rw [wI_ne (by omega), wI_self]
    unfold upd
    by_cases q : k = i
    · rw [if_pos q, q]
    · rw [if_neg q]; exact (a5 k (by omega)).1
  · rw [wI_self, wI_ne (by omega)]
    unfold upd
    by_cases q : k = i
    · rw [if_pos q, q]
    · rw [if_neg q]; exact (a5 k (by omega)).2
theorem IS.lot (h : IS σ τ p m i j) {F : Nat → Int32} : IS σ (wP (wI τ (p + 7 + j) F) (p + 6) (va_up ((wI τ (p + 7 + j) F).2.2 (p + 6)) j (some (p + 7 + j)))) p m i (j + 1) := by
  obtain ⟨a1, a2, a3, a4, a5, a6, a7, a8, a9⟩ := h
  refine ⟨fun x hx => ⟨(wI_ne (by omega)).trans (a1 x (by omega)).1, (a1 x (by omega)).2.1, (wP_ne (by omega)).trans (a1 x (by omega)).2.2⟩, ?_, a3, fun k hk => by rw [wP_ne (by omega)]; exact a4 k hk, fun k hk => ?_, fun a h3 h5 k => ?_, fun k hk => ?_, fun h0 a h1 h5 k => ?_, fun h0 => by omega⟩
  · show (wI τ (p + 7 + j) F).1 p 2 = _ ∧ (wI τ (p + 7 + j) F).1 p 3 = _ ∧ ∀ k, k ≠ 2 → k ≠ 3 → (wI τ (p + 7 + j) F).1 p k = 0
    rw [wI_ne (by omega)]; exact a2
  · show (wI τ (p + 7 + j) F).1 (p + 1) k = _ ∧ (wI τ (p + 7 + j) F).1 (p + 2) k = _
    rw [wI_ne (by omega), wI_ne (by omega)]; exact a5 k hk
  · show (wI τ (p + 7 + j) F).1 (p + a) k = _
    rw [wI_ne (by omega)]; exact a6 a h3 h5 k
  · rw [wP_self]
    unfold va_up
    by_cases q : k = j
    · rw [if_pos q, q]
    · rw [if_neg q]; exact a7 k (by omega)
  · show (wI τ (p + 7 + j) F).1 (p + a) k = _
    rw [wI_ne (by omega)]; exact a8 h0 a h1 h5 k
/-- a shop that is made -/
def Sh0 (σ τ : KS) (p : Nat) : Prop := Rs τ p (fun k => k) N0 ∧ (∀ k, k < 6 → τ.2.2 p (11 + k) = some (p + 1 + k)) ∧ ∀ x, (x < p ∨ p + 23 ≤ x) → τ.1 x = σ.1 x ∧ τ.2.1 x = σ.2.1 x ∧ τ.2.2 x = σ.2.2 x
theorem IS.done (h : IS σ τ p 6 6 16) : Sh0 σ τ p := by
  obtain ⟨a1, a2, a3, a4, a5, a6, a7, a8, a9⟩ := h
  refine ⟨⟨fun k hk => ?_, fun k h6 hk => ?_, fun a h1 h5 k hk => ?_, ⟨fun k hk => ⟨a7 k hk, hk⟩, fun i j _ _ e => e⟩, fun k hk => absurd hk (Nat.not_lt_zero _)⟩, a4, fun x hx => a1 x (by omega)⟩
  · rcases (show k = 0 ∨ k = 1 ∨ k = 2 ∨ k = 3 ∨ k = 4 ∨ k = 5 from by omega) with rfl | rfl | rfl | rfl | rfl | rfl
    · exact a2.2.2 0 (by decide) (by decide)
    · exact a2.2.2 1 (by decide) (by decide)
    · exact a2.1
    · exact a2.2.1
    · exact a2.2.2 4 (by decide) (by decide)
    · exact a2.2.2 5 (by decide) (by decide)
  · rw [a3 k, show N0 (k - 3) = 0 from by unfold N0; rw [if_neg (by omega), if_neg (by omega), if_neg (by omega), if_neg (by omega)]]
    rfl
  · rcases (show a = 1 ∨ a = 2 ∨ a = 3 ∨ a = 4 ∨ a = 5 from by omega) with rfl | rfl | rfl | rfl | rfl
    · have hk6 : k < 6 := hk
      rw [(a5 k hk6).1, show N0 (qAb 1 + k) = 1000 + 200 * k from by show N0 (11 + k) = _; unfold N0; rw [if_pos (by omega)]; omega]
    · have hk6 : k < 6 := hk
      rw [(a5 k hk6).2, show N0 (qAb 2 + k) = 400 + 100 * k from by show N0 (17 + k) = _; unfold N0; rw [if_neg (by omega), if_pos (by omega)]; omega]
    · rw [a6 3 (by omega) (by omega), show N0 (qAb 3 + k) = 0 from by show N0 (23 + k) = _; unfold N0; rw [if_neg (by omega), if_neg (by omega), if_neg (by omega), if_neg (by omega)]]; rfl
    · rw [a6 4 (by omega) (by omega), show N0 (qAb 4 + k) = 0 from by show N0 (34 + k) = _; unfold N0; rw [if_neg (by omega), if_neg (by omega), if_neg (by omega), if_neg (by omega)]]; rfl
    · rw [a6 5 (by omega) (by omega), show N0 (qAb 5 + k) = 0 from by show N0 (40 + k) = _; unfold N0; rw [if_neg (by omega), if_neg (by omega), if_neg (by omega), if_neg (by omega)]]; rfl
end ISS
