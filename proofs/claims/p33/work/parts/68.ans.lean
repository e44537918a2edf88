/-! THE LAW: what its comparisons compare -/
def AR (σ : KS) (O : Nat) (q i f : Nat → Nat) : Prop := (σ.1 O = fun k => nI (q k)) ∧ (σ.1 (O + 1) = fun k => nI (i k)) ∧ (σ.1 (O + 2) = fun k => nI (f k))
section ARS
variable {σ τ : KS} {O : Nat} {q i f : Nat → Nat}
theorem ar_q (h : AR σ O q i f) (j : Nat) : σ.1 O j = nI (q j) := by rw [h.1]
theorem ar_i (h : AR σ O q i f) (j : Nat) : σ.1 (O + 1) j = nI (i j) := by rw [h.2.1]
theorem ar_f (h : AR σ O q i f) (j : Nat) : σ.1 (O + 2) j = nI (f j) := by rw [h.2.2]
theorem AR.id (h : AR σ O q i f) : wG σ O q i f = σ := wG_id h.1 h.2.1 h.2.2
theorem AR.wG : AR (wG σ O q i f) O q i f := ⟨wG_Q, wG_I, wG_F⟩
theorem AR.of (h : AR σ O q i f) (e : ∀ a, O ≤ a → a ≤ O + 2 → τ.1 a = σ.1 a) : AR τ O q i f := by
  unfold AR
  rw [e O (by omega) (by omega), e (O + 1) (by omega) (by omega), e (O + 2) (by omega) (by omega)]
  exact h
theorem AR.cf (h : AR σ 190 q i f) (k : Cf σ τ) : AR τ 190 q i f := h.of (fun a h1 _ => k a h1)
theorem AR.cf2 (h : AR σ O q i f) (hO : 190 ≤ O) (k : Cf σ τ) : AR τ O q i f := h.of (fun a h1 _ => k a (by omega))
end ARS
section DLS
variable {sh : List KSh} {O : Nat} {q i f : Nat → Nat} {σ : KS}
theorem d_L_at (l : Launch) (D : KD) (b : Nat) (hA : AR σ O q i f) (pl : Nat) (hG : GS sh O) (hF : FI q i f) (hpl : pl < 2 ^ 31) : Ct l D b yL_at cL_at 5 (some .int) (rM 0 0) 0 0 [.int (nI pl), rf b O, rf b (O + 2)] sh σ sh (pE (some (.int (nI (fAt f pl (q 2))))) σ) := by
  have h := c_L_at l D b σ O q i f pl hG hF hpl
  rw [hA.id] at h
  exact h
theorem d_L_lots (l : Launch) (D : KD) (b : Nat) (hA : AR σ O q i f) (hG : GS sh O) (hF : FI q i f) : Ct l D b yL_lots cL_lots 4 (some .int) (rM 0 0) 0 0 [rf b O, rf b (O + 2)] sh σ sh (pE (some (.int (nI (al f (q 2))))) σ) := by
  have h := c_L_lots l D b σ O q i f hG hF
  rw [hA.id] at h
  exact h
theorem d_L_price (l : Launch) (D : KD) (b : Nat) (hA : AR σ O q i f) (kd fr hh : Nat) (hG : GS sh O) (hF : FI q i f) (hkd : kd < 6) (hfr : fr ≤ 100) (hh2 : hh < 11) : Ct l D b yL_price cL_price 4 (some .int) (rM 0 0) 0 0 [.int (nI kd), .int (nI fr), .int (nI hh), rf b O] sh σ sh (pE (some (.int (nI (fPr q kd fr hh)))) σ) := by
  have h := c_L_price l D b σ O q i f kd fr hh hG hF hkd hfr hh2
  rw [hA.id] at h
  exact h
theorem d_L_fresh (l : Launch) (D : KD) (b : Nat) (hA : AR σ O q i f) (k hh : Nat) (hG : GS sh O) (hF : FI q i f) (hk : k < q 2) (hh2 : hh ≤ 100) : Ct l D b yL_fresh cL_fresh 10 (some .int) (rM 0 0) 0 0 [.int (nI k), .int (nI hh), rf b O, rf b (O + 1), rf b (O + 2)] sh σ sh (pE (some (.int (nI (fFr q i f k hh)))) σ) := by
  have h := c_L_fresh l D b σ O q i f k hh hG hF hk hh2
  rw [hA.id] at h
  exact h
/-- only the three rows at O change -/
def Fo3 (σ τ : KS) (O : Nat) : Prop := (∀ a, a < O ∨ O + 3 ≤ a → τ.1 a = σ.1 a) ∧ τ.2 = σ.2
theorem Fo3.wG {q i f : Nat → Nat} : Fo3 σ (wG σ O q i f) O := ⟨fun a ha => wG_ne (by omega) (by omega) (by omega), rfl⟩
theorem d_L_hour (l : Launch) (D : KD) (b : Nat) (hA : AR σ O q i f) (hG : GS sh O) (hF : FI q i f) : Ct l D b yL_hour cL_hour 5 none (rM 1 29) 0 0 [rf b O, rf b (O + 1), rf b (O + 2)] sh σ sh (pE none (wG σ O (uN q 1 (q 1 + 1)) (fH2 q i 11) (fH1 q i f (q 2)))) := by
  have h := c_L_hour l D b σ O q i f hG hF
  rw [hA.id] at h
  exact h
theorem d_L_close (l : Launch) (D : KD) (b : Nat) (hA : AR σ O q i f) (hG : GS sh O) (hF : FI q i f) : Ct l D b yL_close cL_close 8 (some .int) (rM 1 24) 0 0 [rf b O, rf b (O + 1), rf b (O + 2)] sh σ sh (pE (some (.int (nI (fC3 q i f 5).2.1))) (wG σ O (uN (uN (uN q 5 (q 5 + (fC3 q i f 5).2.1)) 0 (q 0 + 1)) 1 0) (fC3 q i f 5).1 (fC3 q i f 5).2.2)) := by
  have h := c_L_close l D b σ O q i f hG hF
  rw [hA.id] at h
  exact h
end DLS
/-! the class's answers by the law's rows -/
def fLf (q i f : Nat → Nat) (k : Nat) : Nat → Option Nat
  | 0 => none
  | y + 1 => if q 9 ≤ fFr q i f k y then some y else fLf q i f k y
def fWv (q i f : Nat → Nat) (k t : Nat) : Nat := f (4 * k + 1) * fPr q (f (4 * k)) (fFr q i f k t) (q 1 + t) / 1000
def qHv (h : Nat) : Option Nat → Nat
  | none => 10
  | some t => h + t
section ANS
variable {q i f N : Nat → Nat} {k : Nat}
theorem a_gone (h : J q i f N) (hF : FI q i f) (hk : k < 2 ^ 30) (hn : ¬ (k < q 2 ∧ 0 < f (4 * k + 1))) (w : Int32) : aLot N (nI (k + 1)) w = -1 := aOf_n (j_gone h hF hk hn)
theorem a_lot (h : J q i f N) (hU : qU N) (hF : FI q i f) (hk : k < q 2) (ha : 0 < f (4 * k + 1)) {w : Nat} (hw : w ≤ 6) : aLot N (nI (k + 1)) (nI w) = qOfLot N (al f k) w := aLot_in (j_find h hU hF hk ha) (qIn_yes (by decide) (Nat.zero_le _) hw) (by omega)
theorem a_lot0 (h : J q i f N) (hU : qU N) (hF : FI q i f) (hk : k < q 2) (ha : 0 < f (4 * k + 1)) : aLot N (nI (k + 1)) (nI 0) = nI (f (4 * k)) := (a_lot h hU hF hk ha (by omega)).trans (congrArg nI (j_l h hk ha).2.1)
theorem a_lot1 (h : J q i f N) (hU : qU N) (hF : FI q i f) (hk : k < q 2) (ha : 0 < f (4 * k + 1)) : aLot N (nI (k + 1)) (nI 1) = nI (f (4 * k + 1)) := (a_lot h hU hF hk ha (by omega)).trans (congrArg nI (j_l h hk ha).2.2.1)
theorem a_lot2 (h : J q i f N) (hU : qU N) (hF : FI q i f) (hk : k < q 2) (ha : 0 < f (4 * k + 1)) : aLot N (nI (k + 1)) (nI 2) = nI (f (4 * k + 2)) := (a_lot h hU hF hk ha (by omega)).trans (congrArg nI (j_l h hk ha).2.2.2.1)
theorem a_lot3 (h : J q i f N) (hU : qU N) (hF : FI q i f) (hk : k < q 2) (ha : 0 < f (4 * k + 1)) : aLot N (nI (k + 1)) (nI 3) = qBx (f (4 * k + 3)) := (a_lot h hU hF hk ha (by omega)).trans ((qOf_3 N _).trans (congrArg qBx (j_l h hk ha).2.2.2.2))
theorem a_lot4 (h : J q i f N) (hU : qU N) (hF : FI q i f) (hk : k < q 2) (ha : 0 < f (4 * k + 1)) : aLot N (nI (k + 1)) (nI 4) = qTy (f (4 * k + 3)) := (a_lot h hU hF hk ha (by omega)).trans ((qOf_4 N _).trans (congrArg qTy (j_l h hk ha).2.2.2.2))
theorem a_lot5 (h : J q i f N) (hU : qU N) (hF : FI q i f) (hk : k < q 2) (ha : 0 < f (4 * k + 1)) : aLot N (nI (k + 1)) (nI 5) = nI (fPr q (f (4 * k)) (f (4 * k + 2)) (q 1)) := (a_lot h hU hF hk ha (by omega)).trans (congrArg nI (j_price h hF hk ha))
theorem a_lot6 (h : J q i f N) (hU : qU N) (hF : FI q i f) (hk : k < q 2) (ha : 0 < f (4 * k + 1)) : aLot N (nI (k + 1)) (nI 6) = nI (f (4 * k + 1) * fPr q (f (4 * k)) (f (4 * k + 2)) (q 1) / 1000) := (a_lot h hU hF hk ha (by omega)).trans (congrArg nI (show qW (qL N (al f k) 2) (qPrice N (al f k)) = _ from by rw [j_price h hF hk ha, (j_l h hk ha).2.2.1]; rfl))
theorem a_fresh (h : J q i f N) (hU : qU N) (hF : FI q i f) (hk : k < q 2) (ha : 0 < f (4 * k + 1)) {w : Nat} (hw : w ≤ 100) : aFresh N (nI (k + 1)) (nI w) = nI (fFr q i f k w) := by
  unfold aFresh
  rw [aOf_s (j_find h hU hF hk ha), if_pos (qIn_yes (by decide) (Nat.zero_le _) hw), nI_clamp (by omega), j_fr h hF hk ha]
theorem fLf_q (h : J q i f N) (hF : FI q i f) (hk : k < q 2) (ha : 0 < f (4 * k + 1)) (y : Nat) : qLf N (al f k) y = fLf q i f k y := by
  induction y with
  | zero => rfl
  | succ y ih =>
    show (if N 9 ≤ (qFI N (al f k) y).1 then some y else qLf N (al f k) y) = (if q 9 ≤ fFr q i f k y then some y else fLf q i f k y)
    rw [ih, j_fr h hF hk ha, ← j_a h (show 9 < 10 from by omega) (by omega)]
theorem a_left (h : J q i f N) (hU : qU N) (hF : FI q i f) (hk : k < q 2) (ha : 0 < f (4 * k + 1)) : aLeft N (nI (k + 1)) = qO (fLf q i f k 101) := by
  unfold aLeft
  rw [aOf_s (j_find h hU hF hk ha), fLf_q h hF hk ha]
theorem a_best (h : J q i f N) (hU : qU N) (hF : FI q i f) (hk : k < q 2) (ha : 0 < f (4 * k + 1)) {o : Option Nat} (ho : Bst (fun _ => True) (fWv q i f k) 0 (11 - q 1) o) : aBest N (nI (k + 1)) = nI (qHv (q 1) o) := by
  unfold aBest
  rw [aOf_s (j_find h hU hF hk ha)]
  have h1 := fi_1 hF
  have e1 := j_a h (show 1 < 10 from by omega) (by omega)
  obtain ⟨o', b1, b2⟩ := qBs_bst (N := N) (k := al f k) (11 - N 1)
  rw [← e1] at b1 b2 ⊢
  have hl := j_l h hk ha
  have key : o' = o := by
    refine Bst.uniq (b1.congr (fun _ _ _ => Iff.rfl) (fun t _ ht => ?_)) ho
    unfold qWat fWv qW
    rw [hl.2.2.1, hl.2.1, j_fr h hF hk ha, ← e1, ← j_pr h (fi_l0 hF hk) (by omega)]
  rw [b2, key]
  cases o with
  | none => exact absurd trivial (ho 0 (Nat.le_refl _) (by omega))
  | some t => rfl
theorem a_box0 (h : J q i f N) {p : Nat} (hp : p < 6) : aBox N (nI p) (nI 0) = nI (i p) := by
  rw [aBox_in (qIn_yes (by decide) (Nat.zero_le _) (by omega)) (qIn_yes (by decide) (Nat.zero_le _) (by omega)) (by omega) (by omega), j_i h (by omega)]
  rfl
theorem a_box1 (h : J q i f N) {p : Nat} (hp : p < 6) : aBox N (nI p) (nI 1) = nI (fAt f p (q 2)) := by
  rw [aBox_in (qIn_yes (by decide) (Nat.zero_le _) (by omega)) (qIn_yes (by decide) (Nat.zero_le _) (by omega)) (by omega) (by omega), j_at h]
  rfl
theorem a_box2 (h : J q i f N) {p : Nat} (hp : p < 6) : aBox N (nI p) (nI 2) = nI (fS (gP f p) (q 2)) := by
  rw [aBox_in (qIn_yes (by decide) (Nat.zero_le _) (by omega)) (qIn_yes (by decide) (Nat.zero_le _) (by omega)) (by omega) (by omega), j_pl h p (Nat.le_refl _), ← j_n h]
  rfl
theorem a_box3 (h : J q i f N) {p : Nat} (hp : p < 6) {o : Option Nat} (ho : Bst (fun k => 0 < f (4 * k + 1) ∧ f (4 * k + 3) = p) (fun _ => 0) 0 (q 2) o) : aBox N (nI p) (nI 3) = qJd o := by
  rw [aBox_in (qIn_yes (by decide) (Nat.zero_le _) (by omega)) (qIn_yes (by decide) (Nat.zero_le _) (by omega)) (by omega) (by omega)]
  exact j_first h ho
theorem a_tray0 (h : J q i f N) {p : Nat} (h6 : 6 ≤ p) (hp : p < 11) : aTray N (nI (p - 6)) (nI 0) = nI (i p) := by
  rw [aTray_in (qIn_yes (by decide) (Nat.zero_le _) (by omega)) (qIn_yes (by decide) (Nat.zero_le _) (by omega)) (by omega) (by omega), j_i h (by omega)]
  show nI (N (34 + 6 + (p - 6))) = _
  rw [show 34 + 6 + (p - 6) = 34 + p from by omega]
theorem a_tray1 (h : J q i f N) {p : Nat} (h6 : 6 ≤ p) (hp : p < 11) {o : Option Nat} (ho : Bst (fun k => 0 < f (4 * k + 1) ∧ f (4 * k + 3) = p) (fun _ => 0) 0 (q 2) o) : aTray N (nI (p - 6)) (nI 1) = qJd o := by
  rw [aTray_in (qIn_yes (by decide) (Nat.zero_le _) (by omega)) (qIn_yes (by decide) (Nat.zero_le _) (by omega)) (by omega) (by omega)]
  show qNum N (qFst N (6 + (p - 6)) (N 2) none) = _
  rw [show 6 + (p - 6) = p from by omega]
  exact j_first h ho
theorem a_cut (h : J q i f N) {p : Nat} (hp : p < 11) : aCut N (nI p) = nI (q (22 + p)) := by
  unfold aCut
  rw [if_pos (qIn_yes (by decide) (Nat.zero_le _) (by omega)), nI_clamp (by omega), j_b h (show 10 ≤ 22 + p from by omega) (by omega), show 22 + p + 1 = 23 + p from by omega]
theorem a_kind0 (h : J q i f N) {p : Nat} (hp : p < 6) : aKind N (nI p) (nI 0) = nI (q (10 + p)) := by
  rw [aKind_in (qIn_yes (by decide) (Nat.zero_le _) (by omega)) (qIn_yes (by decide) (Nat.zero_le _) (by omega)) (by omega) (by omega), j_b h (show 10 ≤ 10 + p from by omega) (by omega), show 10 + p + 1 = 11 + p from by omega]
  rfl
theorem a_kind1 (h : J q i f N) {p : Nat} (hp : p < 6) : aKind N (nI p) (nI 1) = nI (q (16 + p)) := by
  rw [aKind_in (qIn_yes (by decide) (Nat.zero_le _) (by omega)) (qIn_yes (by decide) (Nat.zero_le _) (by omega)) (by omega) (by omega), j_b h (show 10 ≤ 16 + p from by omega) (by omega), show 16 + p + 1 = 17 + p from by omega]
  rfl
theorem a_kind2 (h : J q i f N) {p : Nat} (hp : p < 6) : aKind N (nI p) (nI 2) = nI (fS (gK f p) (q 2)) := by
  rw [aKind_in (qIn_yes (by decide) (Nat.zero_le _) (by omega)) (qIn_yes (by decide) (Nat.zero_le _) (by omega)) (by omega) (by omega), j_kd h p (Nat.le_refl _), ← j_n h]
  rfl
theorem a_kind3 (h : J q i f N) {p : Nat} (hp : p < 6) {o : Option Nat} (ho : Bst (fun k => 0 < f (4 * k + 1) ∧ f (4 * k) = p) (fun k => f (4 * k + 2)) 0 (q 2) o) : aKind N (nI p) (nI 3) = qJd o := by
  rw [aKind_in (qIn_yes (by decide) (Nat.zero_le _) (by omega)) (qIn_yes (by decide) (Nat.zero_le _) (by omega)) (by omega) (by omega)]
  exact j_best h ho
theorem cmp_self (x : Int64) : lg_cmp x x = 0 := by
  unfold lg_cmp
  simp
theorem a_cnt {w : Nat} (hw : w ≤ 10) {v : Nat} (hv : qCount N w = v) : lg_cmp (aCount N (nI w)) (lN v) = 0 := by
  rw [aCount_in (qIn_yes (by decide) (Nat.zero_le _) hw) (by omega), hv]
  exact cmp_self _
theorem a_worth (h : J q i f N) (hF : FI q i f) : lg_cmp (lN (qWorth N (N 2))) (lN (fS (gW q f) (q 2))) = 0 := by
  rw [j_worth h hF (Nat.le_refl _), ← j_n h]
  exact cmp_self _
end ANS
section KVIA
variable {p : Program} {l : Launch} {e : Env} {R : Room} {s : State} {m : MethodId} {args : Array Value} {below : List Frame} {meth : Method} {c : Code} {Q : State → Prop} {D : KD} {b nL ca sl : Nat} {sh : List KSh} {σ : KS} {pc : Nat} {ls : List (Nat × Value)} {st : List Value} {cc : ByteArray} {ret : Option FieldType} {own : String}
/-- where ways meet again -/
theorem K_via {Φ : KS → List Value → Prop} (pcJ : Nat) (hj : ∀ σ' st', Φ σ' st' → K p l e R s m args below meth c Q D b nL ca sl sh σ' pcJ ls st') (hb : (∀ σ' st', Φ σ' st' → K p l e R s m args below meth c Q D b nL ca sl sh σ' pcJ ls st') → K p l e R s m args below meth c Q D b nL ca sl sh σ pc ls st) : K p l e R s m args below meth c Q D b nL ca sl sh σ pc ls st := hb hj
theorem K_nwz (X : KX p s m meth c args D b cc nL ret own) {atype : ArrayType} {ty : FieldType} {a : Nat} (hat : newarray.typeOf atype = ty) (hty : ty = .int ∨ ty = .char) (h1 : Cond.arrayClass ty ∈ wsL_law) {n : Int32} (jn : Nat) (hn : n = nI jn) (hj : jn < 65536) (ha : sh.length = a) (hroom : ca + 1 ≤ R.cells ∧ sl + jn ≤ R.slots) (d : decode cc pc = .ok (.newarray atype, 2))
    (kk : K p l e R s m args below meth c Q D b nL (ca + 1) (sl + jn) (sh ++ [.inr (ty, jn)]) (wI σ a (fun _ => 0)) (pc + 2) ls (rf b a :: st)) : K p l e R s m args below meth c Q D b nL ca sl sh σ pc ls (.int n :: st) := by
  subst ha
  exact K_newa X hat hty h1 jn hn hj (fun j _ => by rw [wI_self]) (fun x hx => ⟨wI_ne (by omega), rfl, rfl⟩) hroom d kk
end KVIA
theorem ap_l {sh l : List KSh} {a : Nat} {q : KSh} (h : sh[a]? = some q) : (sh ++ l)[a]? = some q := by
  rw [List.getElem?_append_left (List.getElem?_eq_some_iff.mp h).1]
  exact h
theorem shP.app {sh l : List KSh} (h : shP sh) : shP (sh ++ l) := fun a q hq => ap_l (h a q hq)
theorem GS.app {sh l : List KSh} {O : Nat} (h : GS sh O) : GS (sh ++ l) O := ⟨ap_l h.1, ap_l h.2.1, ap_l h.2.2⟩
theorem GS.len {sh : List KSh} (h : GS sh 190) : 193 ≤ sh.length := (List.getElem?_eq_some_iff.mp h.2.2).1
theorem qM_lt {a : Nat} (h : a < 2 ^ 31) : qM a < nI a := by
  cases a with
  | zero => decide
  | succ a => exact nI_lt (by omega) (by omega)
