/-! THE LAYER: a system's cells lie at b, b+1, ..; a state is three tables of values (ints, longs, references as offsets from b), the cells' kinds are a list sh. K: the machine at a row of code, with the state, the locals, the stack. Ct: a method's contract. -/
abbrev KS : Type := (Nat → Nat → Int32) × (Nat → Nat → Int64) × (Nat → Nat → Option Nat)
abbrev KSh : Type := Nat ⊕ (FieldType × Nat)
abbrev KD : Type := (Nat → ClassId) × (Nat → Nat → Nat) × (FieldType → ClassId)
def rf (b a : Nat) : Value := .ref (b + a)
def kv (b : Nat) (ty : FieldType) (σ : KS) (a k : Nat) : Value := match ty with
  | .long => .long (σ.2.1 a k)
  | .object _ => va_rf ((σ.2.2 a k).map (fun z => b + z))
  | .array _ => va_rf ((σ.2.2 a k).map (fun z => b + z))
  | _ => .int (σ.1 a k)
def kTy (ci : Nat) : Nat → FieldType := match ci with
  | 0 => tyX0
  | 1 => tyX1
  | 2 => tyX2
  | 3 => tyX3
  | 4 => tyX4
  | _ => tyX5
def kat (D : KD) (b : Nat) (σ : KS) (a : Nat) (q : KSh) (H : Heap) : Prop := match q with
  | .inl ci => ∃ r : vw_C, vwCl[ci]? = some r ∧ t_OB (b + a) (D.1 ci) r.2.2 (D.2.1 ci) H (fun k => kv b (kTy ci k) σ a k)
  | .inr x => H[b + a]? = some (arrV (D.2.2 x.1) x.2 (fun k => kv b x.1 σ a k))
def KRep (D : KD) (b : Nat) (sh : List KSh) (σ : KS) (H : Heap) : Prop := H.size = b + sh.length ∧ ∀ (a : Nat) (q : KSh), sh[a]? = some q → kat D b σ a q H
def kTys : List FieldType := [.int, .char, .object "FishCounter$Lot", .object "FishCounter$Shop"]
/-- the private members of nest mates that are called: class, entry, method, host -/
def kNest : List (String × Nat × MethodName × String) := [(RX4, 40, yX3_init, RX5), (RX5, 21, yX1_init, RX5), (RX5, 35, yX0_init, RX5), (RX4, 125, yX5_moneyFor, RX5), (RX4, 111, yX5_isTray, RX5), (RX4, 115, yX5_isBox, RX5), (RX4, 161, yX5_freshAnHourLater, RX5), (RX4, 165, yX5_iceAnHourLater, RX5), (RX1, 37, yX5_freshAnHourLater, RX5), (RX1, 43, yX5_iceAnHourLater, RX5)]
def KK (D : KD) (U : State) : Prop := (∀ (ci : Nat) (r : vw_C), vwCl[ci]? = some r → u_Kn U r.1 r.2.1 r.2.2 (D.1 ci) (D.2.1 ci)) ∧ (∀ ty, ty ∈ kTys → ArrOfT U (D.2.2 ty) ty ∧ va_RA U (D.2.2 ty) ty) ∧ (∀ q, q ∈ kNest → va_Nw (.methodLinkNest q.1 q.2.1 q.2.2.1 q.2.2.2) U) ∧ va_AO "FishCounter$Lot" U ∧ va_AO "FishCounter$Shop" U
theorem KK.warm {D : KD} {u U : State} (hW : u.WarmedH U.vm) (h : KK D u) : KK D U := ⟨fun c q hq => u_Kn_moved hW.alike (h.1 c q hq), fun ty hk => ⟨arrOfT_moved hW.alike (h.2.1 ty hk).1, (h.2.1 ty hk).2.moved hW.alike⟩, fun q hq => va_Nw.warmM hW (h.2.2.1 q hq), va_AO.moved hW.alike h.2.2.2.1, va_AO.moved hW.alike h.2.2.2.2⟩
theorem KK.same {D : KD} {u U : State} (hvm : u.vm = U.vm) (h : KK D u) : KK D U := by
  have hA : u.vm.Alike U.vm := by rw [hvm]; exact Vm.Alike.refl _
  exact ⟨fun c q hq => u_Kn_moved hA (h.1 c q hq), fun ty hk => ⟨arrOfT_moved hA (h.2.1 ty hk).1, (h.2.1 ty hk).2.moved hA⟩, fun q hq => va_Nw.same rfl hvm (h.2.2.1 q hq), va_AO.moved hA h.2.2.2.1, va_AO.moved hA h.2.2.2.2⟩
/-- the class table's facts that putfield wants -/
def kFd (ci : Nat) : Prop := ∀ r : vw_C, vwCl[ci]? = some r → (∀ w ∈ u_ws r.1 r.2.1 r.2.2, w ∈ wsL_law) ∧ (∀ k, k < r.2.2 → parseFieldDescriptor (r.2.1 k).2.2.1 = some (kTy ci k)) ∧ (∀ a, a < r.2.2 → ∀ b, b < r.2.2 → a ≠ b → (r.2.1 a).2.1 ≠ (r.2.1 b).2.1)
theorem kFd0 : kFd 0 := by intro r hr; cases hr; exact ⟨ilX0, tyX0_ok, nmX0⟩
theorem kFd1 : kFd 1 := by intro r hr; cases hr; exact ⟨ilX1, tyX1_ok, nmX1⟩
theorem kFd2 : kFd 2 := by intro r hr; cases hr; exact ⟨ilX2, tyX2_ok, nmX2⟩
theorem kFd3 : kFd 3 := by intro r hr; cases hr; exact ⟨ilX3, tyX3_ok, nmX3⟩
theorem kFd4 : kFd 4 := by intro r hr; cases hr; exact ⟨ilX4, tyX4_ok, nmX4⟩
theorem kFd5 : kFd 5 := by intro r hr; cases hr; exact ⟨ilX5, tyX5_ok, nmX5⟩
/-- a row of the state put anew -/
def wI (σ : KS) (a : Nat) (f : Nat → Int32) : KS := (fun x => if x = a then f else σ.1 x, σ.2.1, σ.2.2)
def wL (σ : KS) (a : Nat) (f : Nat → Int64) : KS := (σ.1, fun x => if x = a then f else σ.2.1 x, σ.2.2)
def wP (σ : KS) (a : Nat) (f : Nat → Option Nat) : KS := (σ.1, σ.2.1, fun x => if x = a then f else σ.2.2 x)
theorem wI_self {σ : KS} {a : Nat} {f : Nat → Int32} : (wI σ a f).1 a = f := if_pos rfl
theorem wI_ne {σ : KS} {a x : Nat} {f : Nat → Int32} (h : x ≠ a) : (wI σ a f).1 x = σ.1 x := if_neg h
theorem wI_L {σ : KS} {a : Nat} {f : Nat → Int32} : (wI σ a f).2.1 = σ.2.1 := rfl
theorem wI_P {σ : KS} {a : Nat} {f : Nat → Int32} : (wI σ a f).2.2 = σ.2.2 := rfl
theorem wL_self {σ : KS} {a : Nat} {f : Nat → Int64} : (wL σ a f).2.1 a = f := if_pos rfl
theorem wL_ne {σ : KS} {a x : Nat} {f : Nat → Int64} (h : x ≠ a) : (wL σ a f).2.1 x = σ.2.1 x := if_neg h
theorem wL_I {σ : KS} {a : Nat} {f : Nat → Int64} : (wL σ a f).1 = σ.1 := rfl
theorem wL_P {σ : KS} {a : Nat} {f : Nat → Int64} : (wL σ a f).2.2 = σ.2.2 := rfl
theorem wP_self {σ : KS} {a : Nat} {f : Nat → Option Nat} : (wP σ a f).2.2 a = f := if_pos rfl
theorem wP_ne {σ : KS} {a x : Nat} {f : Nat → Option Nat} (h : x ≠ a) : (wP σ a f).2.2 x = σ.2.2 x := if_neg h
theorem wP_I {σ : KS} {a : Nat} {f : Nat → Option Nat} : (wP σ a f).1 = σ.1 := rfl
theorem wP_L {σ : KS} {a : Nat} {f : Nat → Option Nat} : (wP σ a f).2.1 = σ.2.1 := rfl
theorem wI_wI {σ : KS} {a : Nat} {f g : Nat → Int32} : wI (wI σ a f) a g = wI σ a g := by
  unfold wI
  simp only [Prod.mk.injEq, and_true]
  funext x
  by_cases h : x = a
  · rw [if_pos h, if_pos h]
  · rw [if_neg h, if_neg h, if_neg h]
theorem wI_id {σ : KS} {a : Nat} {f : Nat → Int32} (h : σ.1 a = f) : wI σ a f = σ := by
  unfold wI
  obtain ⟨i, l, q⟩ := σ
  simp only [Prod.mk.injEq, and_true]
  funext x
  by_cases hx : x = a
  · rw [if_pos hx, hx]; exact h.symm
  · rw [if_neg hx]
theorem wI_comm {σ : KS} {a c : Nat} {f g : Nat → Int32} (h : a ≠ c) : wI (wI σ a f) c g = wI (wI σ c g) a f := by
  unfold wI
  simp only [Prod.mk.injEq, and_true]
  funext x
  by_cases h1 : x = a
  · by_cases h2 : x = c
    · exact absurd (h1.symm.trans h2) h
    · rw [if_neg h2, if_pos h1, if_pos h1]
  · by_cases h2 : x = c
    · rw [if_pos h2, if_neg h1, if_pos h2]
    · rw [if_neg h2, if_neg h1, if_neg h1, if_neg h2]
/-- a state whose other cells are the old ones -/
theorem KRep.put {D : KD} {b : Nat} {sh : List KSh} {σ σ' : KS} {H H' : Heap} {a : Nat} {q : KSh} (h : KRep D b sh σ H) (hq : sh[a]? = some q) (hz : H'.size = H.size) (ho : ∀ x, x ≠ b + a → H'[x]? = H[x]?) (hn : kat D b σ' a q H') (hs : ∀ x, x ≠ a → σ'.1 x = σ.1 x ∧ σ'.2.1 x = σ.2.1 x ∧ σ'.2.2 x = σ.2.2 x) : KRep D b sh σ' H' := by
  refine ⟨hz.trans h.1, fun x qx hx => ?_⟩
  by_cases hxa : x = a
  · subst hxa
    rw [hq] at hx
    cases hx
    exact hn
  · have h1 := h.2 x qx hx
    have hh : H'[b + x]? = H[b + x]? := ho _ (fun z => hxa (by omega))
    obtain ⟨e1, e2, e3⟩ := hs x hxa
    have ev : ∀ ty k, kv b ty σ' x k = kv b ty σ x k := by
      intro ty k
      unfold kv
      rw [e1, e2, e3]
    cases qx with
    | inl ci =>
      obtain ⟨r, h2, h3⟩ := h1
      exact ⟨r, h2, (h3.kept hh).to (fun k _ => (ev _ k).symm)⟩
    | inr z =>
      show H'[b + x]? = _
      rw [hh]
      refine Eq.trans (show H[b + x]? = _ from h1) ?_
      congr 2
      funext k
      exact (ev _ k).symm
/-- a state with one cell more -/
theorem KRep.push {D : KD} {b : Nat} {sh : List KSh} {σ σ' : KS} {H H' : Heap} {q : KSh} (h : KRep D b sh σ H) (hz : H'.size = b + sh.length + 1) (ho : ∀ x, x < b + sh.length → H'[x]? = H[x]?) (hn : kat D b σ' sh.length q H') (hs : ∀ x, x < sh.length → σ'.1 x = σ.1 x ∧ σ'.2.1 x = σ.2.1 x ∧ σ'.2.2 x = σ.2.2 x) : KRep D b (sh ++ [q]) σ' H' := by
  refine ⟨by rw [hz, List.length_append]; rfl, fun x qx hx => ?_⟩
  by_cases hl : x < sh.length
  · rw [List.getElem?_append_left hl] at hx
    have h1 := h.2 x qx hx
    have hh : H'[b + x]? = H[b + x]? := ho _ (by omega)
    obtain ⟨e1, e2, e3⟩ := hs x hl
    have ev : ∀ ty k, kv b ty σ' x k = kv b ty σ x k := by
      intro ty k
      unfold kv
      rw [e1, e2, e3]
    cases qx with
    | inl ci =>
      obtain ⟨r, h2, h3⟩ := h1
      exact ⟨r, h2, (h3.kept hh).to (fun k _ => (ev _ k).symm)⟩
    | inr z =>
      show H'[b + x]? = _
      rw [hh]
      refine Eq.trans (show H[b + x]? = _ from h1) ?_
      congr 2
      funext k
      exact (ev _ k).symm
  · rw [List.getElem?_append_right (by omega)] at hx
    have hz2 : x - sh.length < 1 := (List.getElem?_eq_some_iff.mp hx).1
    have hx0 : x = sh.length := by omega
    subst hx0
    rw [Nat.sub_self] at hx
    cases hx
    exact hn
