/-! THE CLASS: whole changes of its shop -/
theorem K_gen {p : Program} {l : Launch} {e : Env} {R : Room} {s : State} {m : MethodId} {args : Array Value} {below : List Frame} {meth : Method} {c : Code} {Q : State → Prop} {D : KD} {b nL ca sl : Nat} {sh : List KSh} {σ : KS} {pc : Nat} {ls : List (Nat × Value)} {st : List Value} {φ : KS → Prop} (h : φ σ) (k : ∀ τ, φ τ → K p l e R s m args below meth c Q D b nL ca sl sh τ pc ls st) : K p l e R s m args below meth c Q D b nL ca sl sh σ pc ls st := k σ h
theorem kMin {a c : Nat} (ha : a < 2 ^ 31) (hc : c < 2 ^ 31) : (if nI a < nI c then nI a else nI c) = nI (if a < c then a else c) := by
  by_cases h : a < c
  · rw [if_pos h, if_pos ((Int32.not_le.mp (fun z => by have := (nI_leI hc ha).mp z; omega)))]
  · rw [if_neg h, if_neg (Int32.not_lt.mpr ((nI_leI hc ha).mpr (by omega)))]
theorem kMax {a c : Nat} (ha : a < 2 ^ 31) (hc : c < 2 ^ 31) : (if nI a < nI c then nI c else nI a) = nI (max a c) := by
  by_cases h : a < c
  · rw [if_pos ((Int32.not_le.mp (fun z => by have := (nI_leI hc ha).mp z; omega)))]; congr 1; omega
  · rw [if_neg (Int32.not_lt.mpr ((nI_leI hc ha).mpr (by omega)))]; congr 1; omega
section RSQ
variable {σ : KS} {o : Nat} {π N : Nat → Nat}
/-- a lot more -/
theorem Rs.add (h : Rs σ o π N) (h16 : N 2 < 16) {F : Nat → Int32} {N' : Nat → Nat} (e0 : N' 2 = N 2 + 1) (eo : ∀ i, i ≠ 2 → (i < 45 + 5 * N 2 ∨ 45 + 5 * N 2 + 5 ≤ i) → N' i = N i) (e : ∀ z, z < 4 → F z = nI (qL N' (N 2) z)) (e4 : F 4 = qBx (qL N' (N 2) 4)) (e5 : F 5 = qTy (qL N' (N 2) 4)) : Rs (wI (wI σ (o + 7 + π (N 2)) F) o (upd ((wI σ (o + 7 + π (N 2)) F).1 o) 5 (nI (N 2 + 1)))) o π N' := by
  obtain ⟨h1, h2, h3, h4, h5⟩ := h
  refine ⟨fun j hj => ?_, fun j j6 hj => ?_, fun a h1' h5' j hj => ?_, h4, fun m hm => ?_⟩
  · rw [wI_self]
    unfold upd
    by_cases q : j = 5
    · rw [if_pos q, q]; show _ = nI (N' 2); rw [e0]
    · rw [if_neg q, wI_ne (by omega)]
      have hq : qi j ≠ 2 := fun z => q (qi_inj hj (show 5 < 6 from by decide) z)
      have := qi_le j
      rw [eo _ hq (by omega)]; exact h1 j hj
  · rw [eo _ (by omega) (by omega)]; exact h2 j j6 hj
  · have := qAb_lt h1' h5' hj
    rw [wI_ne (by omega), wI_ne (by omega), eo _ (by unfold qAb; (repeat' split) <;> omega) (by omega)]
    exact h3 a h1' h5' j hj
  · rw [e0] at hm
    unfold Rl
    rw [wI_ne (by omega)]
    by_cases q : m = N 2
    · rw [q, wI_self]
      exact ⟨e, e4, e5⟩
    · have hne : o + 7 + π m ≠ o + 7 + π (N 2) := fun z => q (h4.2 m (N 2) (by omega) (by omega) (by omega))
      obtain ⟨c, d, f⟩ := h5 m (by omega)
      rw [wI_ne hne]
      refine ⟨fun z hz => ?_, ?_, ?_⟩
      · show _ = nI (N' _)
        rw [eo _ (by omega) (by omega)]; exact c z hz
      · show _ = qBx (N' _)
        rw [eo _ (by omega) (by omega)]; exact d
      · show _ = qTy (N' _)
        rw [eo _ (by omega) (by omega)]; exact f
/-- the lots behind k one down, k last -/
def qRp (π : Nat → Nat) (k n : Nat) : Nat → Nat := fun j => if j = n then π k else if k ≤ j ∧ j < n then π (j + 1) else π j
theorem Rs.drop (h : Rs σ o π N) (h16 : N 2 ≤ 16) {k : Nat} (hk : k < N 2) {τ : KS} (e1 : ∀ x, τ.1 x = if x = o then upd (σ.1 o) 5 (nI (N 2 - 1)) else σ.1 x) (e2 : τ.2.1 = σ.2.1) (e3 : ∀ j, τ.2.2 (o + 6) j = if j = N 2 - 1 then σ.2.2 (o + 6) k else if k ≤ j ∧ j < N 2 - 1 then σ.2.2 (o + 6) (j + 1) else σ.2.2 (o + 6) j) : Rs τ o (qRp π k (N 2 - 1)) (qDrop N k) := by
  obtain ⟨h1, h2, h3, h4, h5⟩ := h
  refine ⟨fun j hj => ?_, fun j j6 hj => ?_, fun a h1' h5' j hj => ?_, ⟨fun j hj => ?_, fun i j hi hj e => ?_⟩, fun m hm => ?_⟩
  · rw [e1, if_pos rfl]
    unfold upd
    by_cases q : j = 5
    · rw [if_pos q, q]; show _ = nI (qDrop N k 2); rw [qDrop_2 hk]
    · rw [if_neg q]
      have hq : qi j ≠ 2 := fun z => q (qi_inj hj (show 5 < 6 from by decide) z)
      have := qi_le j
      rw [qDrop_lo hk (by omega) hq]; exact h1 j hj
  · rw [e2, qDrop_lo hk (by omega) (by omega)]; exact h2 j j6 hj
  · have := qAb_lt h1' h5' hj
    rw [e1, if_neg (by omega), qDrop_lo hk (by omega) (by unfold qAb; (repeat' split) <;> omega)]
    exact h3 a h1' h5' j hj
  · rw [e3]
    unfold qRp
    split
    · exact h4.1 k (by omega)
    · split
      · exact h4.1 (j + 1) (by omega)
      · exact h4.1 j hj
  · have inj : ∀ i j, i < 16 → j < 16 → π i = π j → i = j := h4.2
    unfold qRp at e
    split at e <;> split at e <;> (try split at e) <;> (try split at e) <;> first
      | omega
      | (have := inj _ _ (by omega) (by omega) e; omega)
  · rw [qDrop_2 hk] at hm
    unfold Rl
    have hp : qRp π k (N 2 - 1) m = π (if m < k then m else m + 1) := by
      unfold qRp
      rw [if_neg (by omega)]
      by_cases q : m < k
      · rw [if_neg (by omega), if_pos q]
      · rw [if_pos (by omega), if_neg q]
    have hl : (if m < k then m else m + 1) < N 2 := by split <;> omega
    rw [hp, e1, if_neg (by omega)]
    obtain ⟨c, d, f⟩ := h5 _ hl
    refine ⟨fun z hz => ?_, ?_, ?_⟩
    · rw [qDrop_l hk hm (by omega)]; exact c z hz
    · rw [qDrop_l hk hm (by omega)]; exact d
    · rw [qDrop_l hk hm (by omega)]; exact f
end RSQ
/-- the row of lots while those behind k move -/
def qRot (P : Nat → Option Nat) (k i : Nat) : Nat → Option Nat := fun j => if k ≤ j ∧ j < i then P (j + 1) else P j
theorem qRot_0 {P : Nat → Option Nat} {k : Nat} : qRot P k k = P := by
  funext j
  exact if_neg (by omega)
theorem qRot_at {P : Nat → Option Nat} {k i j : Nat} (h : i ≤ j) : qRot P k i j = P j := if_neg (by omega)
theorem qRot_s {P : Nat → Option Nat} {k i : Nat} (hk : k ≤ i) {z : Nat} (h : P (i + 1) = some z) : va_up (qRot P k i) i (some z) = qRot P k (i + 1) := by
  funext j
  unfold qRot va_up
  by_cases q : j = i
  · rw [if_pos q, if_pos (by omega), q, h]
  · rw [if_neg q]
    dsimp only
    by_cases q2 : k ≤ j ∧ j < i
    · rw [if_pos q2, if_pos (by omega)]
    · rw [if_neg q2, if_neg (by omega)]
theorem wP_wP {σ : KS} {a : Nat} {f g : Nat → Option Nat} : wP (wP σ a f) a g = wP σ a g := by
  unfold wP
  simp only [Prod.mk.injEq, true_and]
  funext x
  by_cases h : x = a
  · rw [if_pos h, if_pos h]
  · rw [if_neg h, if_neg h, if_neg h]
theorem wP_id {σ : KS} {a : Nat} {f : Nat → Option Nat} (h : σ.2.2 a = f) : wP σ a f = σ := by
  unfold wP
  obtain ⟨i, l, q⟩ := σ
  simp only [Prod.mk.injEq, true_and]
  funext x
  by_cases hx : x = a
  · rw [if_pos hx, hx]; exact h.symm
  · rw [if_neg hx]
/-! sums over the lots -/
def qSm (f : Nat → Nat) : Nat → Nat
  | 0 => 0
  | n + 1 => qSm f n + f n
theorem qSm_congr {f g : Nat → Nat} {n : Nat} (h : ∀ k, k < n → g k = f k) : qSm g n = qSm f n := by
  induction n with
  | zero => rfl
  | succ n ih => show qSm g n + g n = qSm f n + f n; rw [ih (fun k hk => h k (by omega)), h n (by omega)]
theorem qSm_drop {f g : Nat → Nat} {k n : Nat} (hk : k ≤ n) (h : ∀ m, m < n → g m = f (if m < k then m else m + 1)) : qSm g n + f k = qSm f (n + 1) := by
  have lo : qSm g k = qSm f k := qSm_congr (fun m hm => by rw [h m (by omega), if_pos hm])
  have hi : ∀ d, k + d ≤ n → qSm g (k + d) + f k = qSm f (k + d + 1) := by
    intro d
    induction d with
    | zero => intro _; show qSm g k + f k = qSm f k + f k; rw [lo]
    | succ d ih =>
      intro hd
      have := ih (by omega)
      show qSm g (k + d) + g (k + d) + f k = qSm f (k + d + 1) + f (k + d + 1)
      rw [h (k + d) (by omega), if_neg (by omega)]
      omega
  have := hi (n - k) (by omega)
  rw [show k + (n - k) = n from by omega] at this
  exact this
theorem qCnt_m (N : Nat → Nat) (pl n : Nat) : qCnt N pl n = qSm (fun k => if qL N k 4 = pl then 1 else 0) n := by
  induction n with
  | zero => rfl
  | succ n ih => show qCnt N pl n + _ = qSm _ n + _; rw [ih]
def qTn (N : Nat → Nat) : Nat → Nat := qSm (fun k => if 6 ≤ qL N k 4 then 1 else 0)
theorem qCnt_drop {N : Nat → Nat} {k : Nat} (hk : k < N 2) (pl : Nat) : qCnt (qDrop N k) pl (N 2 - 1) + (if qL N k 4 = pl then 1 else 0) = qCnt N pl (N 2) := by
  rw [qCnt_m, qCnt_m]
  have := qSm_drop (f := fun k => if qL N k 4 = pl then 1 else 0) (g := fun m => if qL (qDrop N k) m 4 = pl then 1 else 0) (k := k) (n := N 2 - 1) (by omega) (fun m hm => by rw [qDrop_l hk hm (by omega)])
  rw [show N 2 - 1 + 1 = N 2 from by omega] at this
  exact this
theorem qTn_drop {N : Nat → Nat} {k : Nat} (hk : k < N 2) : qTn (qDrop N k) (N 2 - 1) + (if 6 ≤ qL N k 4 then 1 else 0) = qTn N (N 2) := by
  have := qSm_drop (f := fun k => if 6 ≤ qL N k 4 then 1 else 0) (g := fun m => if 6 ≤ qL (qDrop N k) m 4 then 1 else 0) (k := k) (n := N 2 - 1) (by omega) (fun m hm => by rw [qDrop_l hk hm (by omega)])
  rw [show N 2 - 1 + 1 = N 2 from by omega] at this
  exact this
theorem qCnt_congr {N M : Nat → Nat} {pl n : Nat} (h : ∀ k, k < n → qL M k 4 = qL N k 4) : qCnt M pl n = qCnt N pl n := by
  rw [qCnt_m, qCnt_m]
  exact qSm_congr (fun k hk => by rw [h k hk])
theorem qCnt_one {N : Nat → Nat} {pl n : Nat} (h : ∀ i j, i < j → j < n → qL N i 4 = pl → qL N i 4 ≠ qL N j 4) : qCnt N pl n ≤ 1 := by
  induction n with
  | zero => exact Nat.zero_le _
  | succ n ih =>
    show qCnt N pl n + (if qL N n 4 = pl then 1 else 0) ≤ 1
    by_cases q : qL N n 4 = pl
    · have h0 : ∀ m, m ≤ n → qCnt N pl m = 0 := by
        intro m
        induction m with
        | zero => intro _; rfl
        | succ m im =>
          intro hm
          show qCnt N pl m + (if qL N m 4 = pl then 1 else 0) = 0
          rw [im (by omega), if_neg (fun z => h m n (by omega) (by omega) z (z.trans q.symm))]
      rw [h0 n (Nat.le_refl _), if_pos q]
      exact Nat.le_refl _
    · rw [if_neg q]
      exact ih (fun i j h1 h2 => h i j h1 (by omega))
theorem qTn_sum {N : Nat → Nat} {n : Nat} (h : ∀ k, k < n → qL N k 4 < 11) : qTn N n = qCnt N 6 n + qCnt N 7 n + qCnt N 8 n + qCnt N 9 n + qCnt N 10 n := by
  induction n with
  | zero => rfl
  | succ n ih =>
    have h1 := ih (fun k hk => h k (by omega))
    have hn := h n (by omega)
    show qTn N n + (if 6 ≤ qL N n 4 then 1 else 0) = (qCnt N 6 n + (if qL N n 4 = 6 then 1 else 0)) + (qCnt N 7 n + (if qL N n 4 = 7 then 1 else 0)) + (qCnt N 8 n + (if qL N n 4 = 8 then 1 else 0)) + (qCnt N 9 n + (if qL N n 4 = 9 then 1 else 0)) + (qCnt N 10 n + (if qL N n 4 = 10 then 1 else 0))
    rw [h1]
    have key : ∀ x, x < 11 → (if 6 ≤ x then 1 else 0) = (if x = 6 then 1 else 0) + (if x = 7 then 1 else 0) + (if x = 8 then 1 else 0) + (if x = 9 then 1 else 0) + (if x = 10 then 1 else 0) := by decide
    have := key _ hn
    omega
theorem qTn_5 {N : Nat → Nat} (hI : qIr N) (hU : qU N) : qTn N (N 2) ≤ 5 := by
  rw [qTn_sum (fun k hk => qi_l4 hI hk)]
  have key : ∀ pl, 6 ≤ pl → qCnt N pl (N 2) ≤ 1 := fun pl hp => qCnt_one (fun i j h1 h2 h3 => hU.2.2.2 i j h1 h2 (by omega))
  have a := key 6 (by omega)
  have b := key 7 (by omega)
  have c := key 8 (by omega)
  have d := key 9 (by omega)
  have e := key 10 (by omega)
  omega
/-! that numbers are apart: what keeps it -/
theorem qU_congr {N M : Nat → Nat} (h : qU N) (h2 : M 2 = N 2) (h10 : N 10 ≤ M 10) (e0 : ∀ k, k < N 2 → qL M k 0 = qL N k 0) (e4 : ∀ k, k < N 2 → qL M k 4 = qL N k 4) : qU M := by
  obtain ⟨a, b, c, d⟩ := h
  refine ⟨fun i j hij hj => ?_, fun k hk => ?_, fun pl hp => ?_, fun i j hij hj => ?_⟩
  · rw [h2] at hj
    rw [e0 i (by omega), e0 j hj]; exact a i j hij hj
  · rw [h2] at hk
    have := b k hk
    rw [e0 k hk]
    omega
  · rw [h2, qCnt_congr e4]; exact c pl hp
  · rw [h2] at hj
    rw [e4 i (by omega), e4 j hj]; exact d i j hij hj
theorem qU_lo {N : Nat → Nat} (h : qU N) {j v : Nat} (hj : j < 45) (h2 : j ≠ 2) (h10 : j ≠ 10) : qU (uN N j v) := qU_congr h (uN_n (by omega)) (Nat.le_of_eq (uN_n (by omega)).symm) (fun k _ => uN_n (by omega)) (fun k _ => uN_n (by omega))
theorem qU_f {N : Nat → Nat} (h : qU N) {k j v : Nat} (hj : 1 ≤ j ∧ j < 4) : qU (uN N (45 + 5 * k + j) v) := qU_congr h (uN_n (by omega)) (Nat.le_of_eq (uN_n (by omega)).symm) (fun k _ => uN_n (by omega)) (fun k _ => uN_n (by omega))
theorem qU_drop {N : Nat → Nat} (h : qU N) {k : Nat} (hk : k < N 2) : qU (qDrop N k) := by
  obtain ⟨a, b, c, d⟩ := h
  refine ⟨fun i j hij hj => ?_, fun m hm => ?_, fun pl hp => ?_, fun i j hij hj => ?_⟩
  · rw [qDrop_2 hk] at hj
    rw [qDrop_l hk (by omega) (by omega), qDrop_l hk hj (by omega)]
    exact a _ _ (by split <;> split <;> omega) (by split <;> omega)
  · rw [qDrop_2 hk] at hm
    rw [qDrop_l hk hm (by omega), qDrop_lo hk (by omega) (by omega)]
    exact b _ (by split <;> omega)
  · rw [qDrop_2 hk]
    have := qCnt_drop hk pl
    have := c pl hp
    omega
  · rw [qDrop_2 hk] at hj
    rw [qDrop_l hk (by omega) (by omega), qDrop_l hk hj (by omega)]
    exact d _ _ (by split <;> split <;> omega) (by split <;> omega)
theorem qU_throw {N : Nat → Nat} (h : qU N) {k : Nat} (hk : k < N 2) : qU (qThrow N k) := qU_drop (qU_lo h (by omega) (by omega) (by omega)) (by rw [uN_n (by omega)]; exact hk)
theorem qCnt_u {N : Nat → Nat} {k pl v n : Nat} (hk : k < n) : qCnt (uN N (45 + 5 * k + 4) v) pl n + (if qL N k 4 = pl then 1 else 0) = qCnt N pl n + (if v = pl then 1 else 0) := by
  induction n with
  | zero => omega
  | succ n ih =>
    show qCnt (uN N (45 + 5 * k + 4) v) pl n + (if uN N (45 + 5 * k + 4) v (45 + 5 * n + 4) = pl then 1 else 0) + _ = qCnt N pl n + (if qL N n 4 = pl then 1 else 0) + _
    by_cases q : k = n
    · subst q
      rw [uN_s, qCnt_congr (N := N) (fun m hm => uN_n (by omega))]
      omega
    · have := ih (by omega)
      rw [uN_n (by omega)]
      show qCnt (uN N (45 + 5 * k + 4) v) pl n + (if qL N n 4 = pl then 1 else 0) + _ = _
      omega
/-- a lot put elsewhere: a box with room, or a tray that is empty -/
theorem qU_place {N : Nat → Nat} (h : qU N) {k v : Nat} (hk : k < N 2) (hb : v < 6 → qCnt N v (N 2) < 3) (ht : 6 ≤ v → ∀ j, j < N 2 → qL N j 4 ≠ v) : qU (uN N (45 + 5 * k + 4) v) := by
  obtain ⟨a, b, c, d⟩ := h
  have e2 : uN N (45 + 5 * k + 4) v 2 = N 2 := uN_n (by omega)
  have e4 : ∀ m, qL (uN N (45 + 5 * k + 4) v) m 4 = if m = k then v else qL N m 4 := by
    intro m
    show uN _ _ _ _ = _
    unfold uN
    by_cases q : m = k
    · rw [if_pos q, if_pos (by omega)]
    · rw [if_neg q, if_neg (by omega)]
  refine ⟨fun i j hij hj => ?_, fun m hm => ?_, fun pl hp => ?_, fun i j hij hj h6 => ?_⟩
  · rw [e2] at hj
    show uN _ _ _ _ < uN _ _ _ _
    rw [uN_n (by omega), uN_n (by omega)]; exact a i j hij hj
  · rw [e2] at hm
    show 1 ≤ uN _ _ _ _ ∧ uN _ _ _ _ ≤ uN _ _ _ _
    rw [uN_n (by omega), uN_n (by omega)]; exact b m hm
  · rw [e2]
    have h1 := qCnt_u (N := N) (pl := pl) (v := v) hk
    have h2 := c pl hp
    by_cases q : v = pl
    · have := hb (by omega)
      rw [q] at this
      rw [if_pos q] at h1
      omega
    · rw [if_neg q] at h1
      omega
  · rw [e2] at hj
    rw [e4 i] at h6 ⊢
    rw [e4 j]
    by_cases q : i = k
    · rw [if_pos q] at h6 ⊢
      rw [if_neg (by omega)]
      exact (ht h6 j hj).symm
    · rw [if_neg q] at h6 ⊢
      by_cases q2 : j = k
      · rw [if_pos q2]
        intro z
        exact ht (by omega) i (by omega) z
      · rw [if_neg q2]
        exact d i j hij hj h6
theorem qAdd_2 (N : Nat → Nat) (kd g fr bx : Nat) : qAdd N kd g fr bx 2 = N 2 + 1 := by
  unfold qAdd
  rw [uN_n (by omega), uN_n (by omega), uN_n (by omega), uN_n (by omega), uN_n (by omega), uN_n (by omega), uN_s]
theorem qAdd_10 (N : Nat → Nat) (kd g fr bx : Nat) : qAdd N kd g fr bx 10 = N 10 + 1 := by
  unfold qAdd
  rw [uN_n (by omega), uN_n (by omega), uN_n (by omega), uN_n (by omega), uN_n (by omega), uN_s]
theorem qAdd_o {N : Nat → Nat} {kd g fr bx i : Nat} (h2 : i ≠ 2) (h10 : i ≠ 10) (h : i < 45 + 5 * N 2 ∨ 45 + 5 * N 2 + 5 ≤ i) : qAdd N kd g fr bx i = N i := by
  unfold qAdd
  rw [uN_n (by omega), uN_n (by omega), uN_n (by omega), uN_n (by omega), uN_n (by omega), uN_n (by omega), uN_n (by omega)]
theorem qAdd_l0 (N : Nat → Nat) (kd g fr bx : Nat) : qL (qAdd N kd g fr bx) (N 2) 0 = N 10 + 1 := by
  show qAdd N kd g fr bx (45 + 5 * N 2 + 0) = _
  unfold qAdd
  rw [uN_n (by omega), uN_n (by omega), uN_n (by omega), uN_n (by omega), uN_s]
theorem qAdd_l1 (N : Nat → Nat) (kd g fr bx : Nat) : qL (qAdd N kd g fr bx) (N 2) 1 = kd := by
  show qAdd N kd g fr bx (45 + 5 * N 2 + 1) = _
  unfold qAdd
  rw [uN_n (by omega), uN_n (by omega), uN_n (by omega), uN_s]
theorem qAdd_l2 (N : Nat → Nat) (kd g fr bx : Nat) : qL (qAdd N kd g fr bx) (N 2) 2 = g := by
  show qAdd N kd g fr bx (45 + 5 * N 2 + 2) = _
  unfold qAdd
  rw [uN_n (by omega), uN_n (by omega), uN_s]
theorem qAdd_l3 (N : Nat → Nat) (kd g fr bx : Nat) : qL (qAdd N kd g fr bx) (N 2) 3 = fr := by
  show qAdd N kd g fr bx (45 + 5 * N 2 + 3) = _
  unfold qAdd
  rw [uN_n (by omega), uN_s]
theorem qAdd_l4 (N : Nat → Nat) (kd g fr bx : Nat) : qL (qAdd N kd g fr bx) (N 2) 4 = bx := uN_s
theorem qU_add {N : Nat → Nat} (h : qU N) {kd g fr bx : Nat} (hb : bx < 6) (hc : qCnt N bx (N 2) < 3) : qU (qAdd N kd g fr bx) := by
  obtain ⟨a, b, c, d⟩ := h
  have el : ∀ m j, m < N 2 → j < 5 → qL (qAdd N kd g fr bx) m j = qL N m j := fun m j hm hj => qAdd_o (by omega) (by omega) (by omega)
  refine ⟨fun i j hij hj => ?_, fun m hm => ?_, fun pl hp => ?_, fun i j hij hj h6 => ?_⟩
  · rw [qAdd_2] at hj
    rw [el i 0 (by omega) (by omega)]
    by_cases q : j = N 2
    · rw [q, qAdd_l0]
      have := b i (by omega)
      omega
    · rw [el j 0 (by omega) (by omega)]; exact a i j hij (by omega)
  · rw [qAdd_2] at hm
    rw [qAdd_10]
    by_cases q : m = N 2
    · rw [q, qAdd_l0]; omega
    · rw [el m 0 (by omega) (by omega)]
      have := b m (by omega)
      omega
  · rw [qAdd_2]
    show qCnt _ pl (N 2) + (if qL _ (N 2) 4 = pl then 1 else 0) ≤ 3
    rw [qAdd_l4, qCnt_congr (fun k hk => el k 4 hk (by omega))]
    have := c pl hp
    by_cases q : bx = pl
    · rw [← q, if_pos rfl]; omega
    · rw [if_neg q]; omega
  · rw [qAdd_2] at hj
    rw [el i 4 (by omega) (by omega)] at h6 ⊢
    by_cases q : j = N 2
    · rw [q, qAdd_l4]; omega
    · rw [el j 4 (by omega) (by omega)]; exact d i j hij (by omega) h6
